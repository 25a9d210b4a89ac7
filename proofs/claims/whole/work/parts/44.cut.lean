/-! the overload check and the cooldown -/
theorem off0 {f : Nat → Int32} (h : pIv f) (hp : ¬ 0 < f 7) : f 7 = 0 ∧ f 8 = 0 := by
  obtain ⟨v, hv, e⟩ := h.2.2.1
  have h7 : f 7 = 0 := by
    rw [e] at hp ⊢
    cases v with
    | zero => rfl
    | succ v => exact absurd (nI_lt (a := 0) (b := v + 1) (by omega) (by omega)) hp
  exact ⟨h7, h.2.2.2.2.1 h7⟩
theorem nChk_p {M : Nat → Int32} {j k : Nat} : nChk M j (mi j k) = upd (fun k => M (mi j k)) 9 (if gM M j 6 ≤ gM M j 8 then 0 else gM M j 9 + 1) k := by
  unfold nChk
  by_cases h : gM M j 6 ≤ gM M j 8
  · rw [if_pos h, if_pos h]
    by_cases h9 : k = 9
    · subst h9; rw [upd_s, upd_s]
    · rw [upd_o (by unfold mi; omega), upd_o h9]
  · rw [if_neg h, if_neg h]
    by_cases h9 : k = 9
    · subst h9; rw [upd_s, upd_s]
    · rw [upd_o (by unfold mi; omega), upd_o h9]
theorem nCu_p {M : Nat → Int32} {j k : Nat} : nCu M j (mi j k) = upd (upd (upd (upd (fun k => M (mi j k)) 9 (if gM M j 6 ≤ gM M j 8 then 0 else gM M j 9 + 1)) 8 0) 9 0) 10 (M 9) k := by
  unfold nCu
  have e9 : nLose (nChk M j) j 9 = M 9 := by rw [nLose_o (by unfold mi; omega) (by unfold mi; omega), nChk_o (by unfold mi; omega)]
  by_cases h : k = 10
  · subst h; rw [upd_s, upd_s, e9]
  · rw [upd_o (by unfold mi; omega), upd_o h, nLose_p, show (fun k => nChk M j (mi j k)) = _ from funext fun k => nChk_p]
theorem nCu_o {M : Nat → Int32} {j i : Nat} (h8 : i ≠ mi j 8) (h9 : i ≠ mi j 9) (h10 : i ≠ mi j 10) : nCu M j i = M i := by
  unfold nCu
  rw [upd_o h10, nLose_o h8 h9, nChk_o h9]
/-- the model's overload checks where nobody is cut -/
def chkN (M : Nat → Int32) : Nat → Nat → Int32
  | 0 => M
  | k + 1 => if 0 < gM (chkN M k) k 8 then nChk (chkN M k) k else chkN M k
theorem cut1 {σ μ : zS} {t u k : Nat} {x : Int32} (hR : RI σ (μ 0) t u) (hk : k < 8) (hu : u ≤ t + 1) :
    ∃ u', u' ≤ t + 1 ∧ RI (sC1 (σ, x) k).1 ((nIc μ k).1 0) t u' ∧ nKeep μ (nIc μ k).1 ∧ (sC1 (σ, x) k).2 = x ||| (if (nIc μ k).2 = 0 then 0 else bit (nI k)) ∧ (nIc μ k).1 5 0 = μ 5 0 + (if (nIc μ k).2 = 0 then 0 else 1) ∧ (Lst (μ 0) t → Lst ((nIc μ k).1 0) t) ∧
      (Lst ((nIc μ k).1 0) t ∨ ((nIc μ k).2 = 0 ∧ (nIc μ k).1 = upR μ 0 (if 0 < gM (μ 0) k 8 then nChk (μ 0) k else μ 0))) := by
  obtain ⟨hp, hi⟩ := hR.2.2 k hk
  have e5 := hp.2.2.2.2.2.2
  have e7 : σ (7 + k) 7 = gM (μ 0) k 8 := hp.2.2.2.1
  have e8 : σ (7 + k) 8 = gM (μ 0) k 9 := hp.2.2.2.2.1
  obtain ⟨eL, lim, hl1, hl2, elim⟩ := hR.1.2.2.2.1
  have eC := hR.1.2.2.2.2.1
  by_cases hpow : 0 < gM (μ 0) k 8
  · have hpf : 0 < σ (7 + k) 7 := by rw [e7]; exact hpow
    have h2 := hi.2.2.2.1 hpf
    have e6 : σ (7 + k) 5 = gM (μ 0) k 6 := (e5 h2).1
    have eov : sOv (σ (7 + k)) = if gM (μ 0) k 6 ≤ gM (μ 0) k 8 then 0 else gM (μ 0) k 9 + 1 := by
      unfold sOv
      by_cases hle : gM (μ 0) k 6 ≤ gM (μ 0) k 8
      · rw [if_pos hle, if_neg (by rw [e6, e7]; exact fun z => zle.mp hle z.2)]
      · rw [if_neg hle, if_pos ⟨hpf, by rw [e6, e7]; exact Int32.not_le.mp hle⟩, e8]
    have e8' : nChk (μ 0) k 8 = σ 2 2 := (nChk_o (by unfold mi; omega)).trans eL
    have e9' : gM (nChk (μ 0) k) k 9 = sOv (σ (7 + k)) := by
      show nChk (μ 0) k (mi k 9) = _
      rw [nChk_p, upd_s, eov]
    by_cases hlt : sOv (σ (7 + k)) < σ 2 2
    · -- not cut
      have eA : sC1 (σ, x) k = (upR σ (7 + k) (upd (σ (7 + k)) 8 (sOv (σ (7 + k)))), x) := if_pos hlt
      have eB : nIc μ k = (upR μ 0 (nChk (μ 0) k), 0) := by
        unfold nIc
        rw [if_pos hpow, if_neg (by rw [e8', e9']; exact Int32.not_le.mpr hlt)]
      rw [eA, eB, if_pos rfl, if_pos rfl, or_z, Int32.add_zero, if_pos hpow]
      refine ⟨u, hu, ?_, nKeep.up, rfl, rfl, fun h => h.same (fun i h1 h2 => nChk_o (by unfold mi; omega)), Or.inr ⟨rfl, rfl⟩⟩
      refine hR.port hk ?_ ?_ (fun i hh => nChk_o (hh 9 (by omega)))
      · rw [show (fun k' => upR μ 0 (nChk (μ 0) k) 0 (mi k k')) = _ from funext fun k' => nChk_p, ← eov]
        obtain ⟨a, b, c, d, e, f1, g⟩ := hp
        exact ⟨a, b, c, d, rfl, f1, g⟩
      · obtain ⟨a, b, c, d, e, ⟨v, hv, ev⟩, g, kk⟩ := hi
        refine ⟨a, b, c, d, fun z => absurd hpf (by rw [show σ (7 + k) 7 = 0 from z]; decide), ?_, g, kk⟩
        show ∃ v, v ≤ 30 ∧ sOv (σ (7 + k)) = nI v
        by_cases hle : gM (μ 0) k 6 ≤ gM (μ 0) k 8
        · rw [eov, if_pos hle]
          exact ⟨0, by omega, rfl⟩
        · have e1 : sOv (σ (7 + k)) = nI (v + 1) := by rw [eov, if_neg hle, ← e8, ev, nI_1]
          rw [e1, elim] at hlt
          have := (nI_ltI (by omega) (by omega)).mp hlt
          exact ⟨v + 1, by omega, e1⟩
    · -- cut
      have eA : sC1 (σ, x) k = (sLog (upR σ (7 + k) (upd (upd (upd (upd (σ (7 + k)) 8 (sOv (σ (7 + k)))) 7 0) 8 0) 9 (σ 2 3))) (nI k) 2, x ||| bit (nI k)) := if_neg hlt
      have eB : nIc μ k = (nEv (upR μ 0 (nCu (μ 0) k)) (nCt (μ 0)) (nI k) 2, 1) := by
        unfold nIc
        rw [if_pos hpow, if_pos (by rw [e8', e9']; exact zle.mpr hlt)]
      have h10 : ¬ (1 : Int32) = 0 := by decide
      have hct : nCt (nCu (μ 0) k) = nCt (μ 0) := by unfold nCt; rw [nCu_12]
      have hR1 : RI (upR σ (7 + k) (upd (upd (upd (upd (σ (7 + k)) 8 (sOv (σ (7 + k)))) 7 0) 8 0) 9 (σ 2 3))) (nCu (μ 0) k) t u := by
        refine hR.port hk ?_ ?_ (fun i hh => nCu_o (hh 8 (by omega)) (hh 9 (by omega)) (hh 10 (by omega)))
        · rw [show (fun k' => nCu (μ 0) k (mi k k')) = _ from funext fun k' => nCu_p, eC.1]
          obtain ⟨a, b, c, d, e, f1, g⟩ := hp
          exact ⟨a, b, c, rfl, rfl, rfl, g⟩
        · obtain ⟨a, b, c, d, e, f1, g, kk⟩ := hi
          obtain ⟨-, cv, hc1, hc2, ecv⟩ := eC
          exact ⟨a, b, ⟨0, by omega, rfl⟩, fun z => absurd (show (0 : Int32) < 0 from z) (by decide), fun _ => rfl, ⟨0, by omega, rfl⟩, ⟨cv, hc2, ecv⟩, kk⟩
      have hR2 := hR1.log (nI k) 2 (w := t + 1) hu (Nat.lt_succ_self t)
      have hL := Lst.add (p := nI k) (kd := 2) hR1.ok.1 (t := t) (hR1.1.2.2.2.2.2.2.1.trans hR1.1.2.2.2.2.2.2.2)
      rw [hct] at hR2 hL
      rw [eA, eB, if_neg h10, if_neg h10]
      exact ⟨t + 1, Nat.le_refl _, hR2, nKeep.ev, rfl, rfl, fun _ => hL, Or.inl hL⟩
  · -- not powered
    have hpf : ¬ 0 < σ (7 + k) 7 := by rw [e7]; exact hpow
    obtain ⟨h7, h8⟩ := off0 hi hpf
    have eov : sOv (σ (7 + k)) = 0 := if_neg (fun z => hpf z.1)
    have hlt : sOv (σ (7 + k)) < σ 2 2 := by rw [eov, elim]; exact nI_lt (a := 0) (by omega) (by omega)
    have eA : sC1 (σ, x) k = (σ, x) := by
      rw [show sC1 (σ, x) k = (upR σ (7 + k) (upd (σ (7 + k)) 8 (sOv (σ (7 + k)))), x) from if_pos hlt, eov]
      have : upd (σ (7 + k)) 8 0 = σ (7 + k) := by
        funext i
        by_cases h : i = 8
        · subst h; rw [upd_s, h8]
        · rw [upd_o h]
      rw [this, upR_id]
    have eB : nIc μ k = (μ, 0) := by
      unfold nIc
      rw [if_neg hpow]
    rw [eA, eB, if_pos rfl, if_pos rfl, or_z, Int32.add_zero, if_neg hpow]
    exact ⟨u, hu, hR, nKeep.rf, rfl, rfl, id, Or.inr ⟨rfl, upR_id.symm⟩⟩
theorem cut_eq {σ μ : zS} {t u : Nat} (hR : RI σ (μ 0) t u) (hu : u ≤ t + 1) : ∀ k, k ≤ 8 →
    ∃ X u', u' ≤ t + 1 ∧ RI (sCt σ k).1 ((nC μ k).1 0) t u' ∧ nKeep μ (nC μ k).1 ∧ (sCt σ k).2 = (nC μ k).2 ∧ isSet (nC μ k).2 X ∧ (∀ i, k ≤ i → X.testBit i = false) ∧ (nC μ k).1 5 0 = μ 5 0 + zbc (nC μ k).2 ∧ (Lst (μ 0) t → Lst ((nC μ k).1 0) t) ∧ (Lst ((nC μ k).1 0) t ∨ ((nC μ k).2 = 0 ∧ (nC μ k).1 = upR μ 0 (chkN (μ 0) k)))
  | 0, _ => ⟨0, u, hu, hR, nKeep.rf, rfl, ⟨by omega, rfl⟩, fun i _ => Nat.zero_testBit i, by show μ 5 0 = μ 5 0 + zbc 0; rw [zbc0, Int32.add_zero], id, Or.inr ⟨rfl, upR_id.symm⟩⟩
  | k + 1, hk => by
    obtain ⟨X, u1, a1, a2, a3, a4, a5, a6, a7, a8, a9⟩ := cut_eq hR hu k (by omega)
    obtain ⟨u2, b1, b2, b3, b4, b5, b6, b7⟩ := cut1 (x := (sCt σ k).2) a2 (k := k) (by omega) a1
    have eS : sCt σ (k + 1) = sC1 ((sCt σ k).1, (sCt σ k).2) k := rfl
    have eN1 : (nC μ (k + 1)).1 = (nIc (nC μ k).1 k).1 := rfl
    have eN2 : (nC μ (k + 1)).2 = (nC μ k).2 ||| (if (nIc (nC μ k).1 k).2 = 0 then 0 else bit (nI k)) := rfl
    by_cases hz : (nIc (nC μ k).1 k).2 = 0
    · rw [if_pos hz] at b4 b5
      have eN2' : (nC μ (k + 1)).2 = (nC μ k).2 := by rw [eN2, if_pos hz, or_z]
      refine ⟨X, u2, b1, by rw [eS, eN1]; exact b2, by rw [eN1]; exact a3.tr b3, by rw [eS, b4, eN2', or_z]; exact a4, by rw [eN2']; exact a5, fun i hi => a6 i (by omega), by rw [eN1, eN2', b5, Int32.add_zero]; exact a7, fun h => by rw [eN1]; exact b6 (a8 h), ?_⟩
      rcases b7 with h | ⟨h1, h2⟩
      · exact Or.inl (by rw [eN1]; exact h)
      · rcases a9 with h | ⟨h3, h4⟩
        · exact Or.inl (by rw [eN1]; exact b6 h)
        · refine Or.inr ⟨by rw [eN2']; exact h3, ?_⟩
          rw [eN1, h2, h4, upR_upR]
          rfl
    · rw [if_neg hz] at b4 b5
      obtain ⟨c1, c2, c3⟩ := a5.add (j := k) (by omega) (a6 k (Nat.le_refl k))
      have eN2' : (nC μ (k + 1)).2 = (nC μ k).2 ||| bit (nI k) := by rw [eN2, if_neg hz]
      refine ⟨X ||| 2 ^ k, u2, b1, by rw [eS, eN1]; exact b2, by rw [eN1]; exact a3.tr b3, by rw [eS, b4, eN2', a4], by rw [eN2']; exact c1, fun i hi => ?_, by rw [eN1, eN2', b5, c2, a7, Int32.add_assoc], fun h => by rw [eN1]; exact b6 (a8 h), ?_⟩
      · rw [Nat.testBit_or, a6 i (by omega), Nat.testBit_two_pow_of_ne (by omega)]
        rfl
      · rcases b7 with h | ⟨h1, h2⟩
        · exact Or.inl (by rw [eN1]; exact h)
        · exact absurd h1 hz
/-! cooldown -/
theorem nD_o {cut : Int32} {M : Nat → Int32} {i : Nat} : ∀ k, (∀ j, j < k → i ≠ mi j 10) → nD cut M k i = M i
  | 0, _ => rfl
  | k + 1, h => by
    show nD1 cut (nD cut M k) k i = M i
    unfold nD1
    rw [upd_o (h k (by omega))]
    exact nD_o k (fun j hj => h j (by omega))
theorem nD_at {cut : Int32} {M : Nat → Int32} {j : Nat} : ∀ k, j < k → nD cut M k (mi j 10) = M (mi j 10) - (if nDc cut M j then 1 else 0)
  | 0, h => absurd h (Nat.not_lt_zero j)
  | k + 1, h => by
    show nD1 cut (nD cut M k) k (mi j 10) = _
    unfold nD1
    by_cases hjk : j = k
    · subst hjk
      rw [upd_s]
      have e : nD cut M j (mi j 10) = M (mi j 10) := nD_o j (fun i hi => by unfold mi; omega)
      unfold nDc gM
      rw [e]
    · rw [upd_o (by unfold mi; omega)]
      exact nD_at k (by omega)
theorem cool_eq {M : Nat → Int32} {t u X : Nat} {cut : Int32} (hX : isSet cut X) {σ : zS} (hR : RI σ M t u) : ∀ k, k ≤ 8 → RI (sCd cut σ k) (nD cut M k) t u
  | 0, _ => hR
  | k + 1, hk => by
    have ih := cool_eq hX hR k (by omega)
    show RI (sD1 cut (sCd cut σ k) k) (nD1 cut (nD cut M k) k) t u
    generalize sCd cut σ k = ρ at ih ⊢
    generalize nD cut M k = N at ih ⊢
    obtain ⟨hp, hi⟩ := ih.2.2 k (by omega)
    have e9 : ρ (7 + k) 9 = gM N k 10 := hp.2.2.2.2.2.1
    have hb := bitsC ⟨X, hX.1⟩ ⟨k, by omega⟩
    simp only at hb
    have hcond : (cut &&& bit (nI k) = 0 ∧ 0 < ρ (7 + k) 9) ↔ nDc cut N k := by
      rw [hX.2, e9]
      exact ⟨fun z => ⟨hb.2.mpr (hb.1.mp z.1), z.2⟩, fun z => ⟨hb.1.mpr (hb.2.mp z.1), z.2⟩⟩
    unfold nD1
    by_cases hc : cut &&& bit (nI k) = 0 ∧ 0 < ρ (7 + k) 9
    · rw [show sD1 cut ρ k = upR ρ (7 + k) (upd (ρ (7 + k)) 9 (ρ (7 + k) 9 - 1)) from if_pos hc, if_pos (hcond.mp hc)]
      refine ih.port (by omega) ?_ ?_ (fun i hh => upd_o (hh 10 (by omega)))
      · have hfun : (fun k' => upd N (mi k 10) (N (mi k 10) - 1) (mi k k')) = upd (fun k' => N (mi k k')) 10 (gM N k 10 - 1) := by
          funext k'
          by_cases h : k' = 10
          · subst h; rw [upd_s, upd_s]
          · rw [upd_o (by unfold mi; omega), upd_o h]
        rw [hfun, e9]
        obtain ⟨a, b, c, d, e, f1, g⟩ := hp
        exact ⟨a, b, c, d, e, rfl, g⟩
      · obtain ⟨a, b, c, d, e, f1, ⟨cv, hcv, ecv⟩, kk⟩ := hi
        refine ⟨a, b, c, d, e, f1, ?_, kk⟩
        show ∃ c, c ≤ 60 ∧ ρ (7 + k) 9 - 1 = nI c
        have h0 := hc.2
        rw [ecv] at h0 ⊢
        cases cv with
        | zero => exact absurd h0 (by decide)
        | succ cv => exact ⟨cv, by omega, nI_pred cv⟩
    · rw [show sD1 cut ρ k = ρ from if_neg hc, if_neg (fun z => hc (hcond.mpr z)), Int32.sub_zero]
      have : upd N (mi k 10) (N (mi k 10)) = N := by
        funext i
        by_cases h : i = mi k 10
        · subst h; rw [upd_s]
        · rw [upd_o h]
      rw [this]
      exact ih
