/-! a second; stability -/
theorem RI.cong {σ : zS} {M N : Nat → Int32} {t u : Nat} (h : RI σ M t u) (hM : ∀ i, i < 149 → N i = M i) : RI σ N t u :=
  ⟨h.1.same rfl rfl rfl (fun i hi => hM i (by omega)), h.2.1.same (Nat.le_refl u) rfl rfl rfl rfl (fun i _ hi => hM i (by omega)), fun j hj => ⟨(h.2.2 j hj).1.same (fun k hk => hM _ (by unfold mi; omega)), (h.2.2 j hj).2⟩⟩
theorem RI.mono {σ : zS} {M : Nat → Int32} {t u w : Nat} (h : RI σ M t u) (hu : u ≤ w) : RI σ M t w :=
  ⟨h.1, h.2.1.same hu rfl rfl rfl rfl (fun _ _ _ => rfl), h.2.2⟩
theorem RI.tick {σ : zS} {M : Nat → Int32} {t u : Nat} (h : RI σ M t u) : RI (up2 σ 2 5 (σ 2 5 + 1)) (upd M 11 (M 11 + 1)) (t + 1) u := by
  obtain ⟨e11, e5⟩ := h.1.2.2.2.2.2.2
  rw [e11]
  exact h.row2 (h.1.s5 (by rw [e5, nI_1])) (fun i hi => upd_o (by omega))
theorem chkN_o {M : Nat → Int32} {i : Nat} : ∀ k, (∀ j, j < k → i ≠ mi j 9) → chkN M k i = M i
  | 0, _ => rfl
  | k + 1, h => by
    have ih := chkN_o (M := M) k (fun j hj => h j (by omega))
    show (if 0 < gM (chkN M k) k 8 then nChk (chkN M k) k else chkN M k) i = M i
    split
    · rw [nChk_o (h k (by omega))]; exact ih
    · exact ih
theorem chkN_at {M : Nat → Int32} {j : Nat} : ∀ k, j < k → chkN M k (mi j 9) = if 0 < gM M j 8 then (if gM M j 6 ≤ gM M j 8 then 0 else gM M j 9 + 1) else gM M j 9
  | 0, h => absurd h (Nat.not_lt_zero j)
  | k + 1, h => by
    show (if 0 < gM (chkN M k) k 8 then nChk (chkN M k) k else chkN M k) (mi j 9) = _
    by_cases hjk : j = k
    · subst hjk
      have e6 : gM (chkN M j) j 6 = gM M j 6 := chkN_o j (fun i hi => by unfold mi; omega)
      have e8 : gM (chkN M j) j 8 = gM M j 8 := chkN_o j (fun i hi => by unfold mi; omega)
      have e9 : gM (chkN M j) j 9 = gM M j 9 := chkN_o j (fun i hi => by unfold mi; omega)
      rw [e8]
      by_cases hp : 0 < gM M j 8
      · rw [if_pos hp, if_pos hp, nChk_p, upd_s, e6, e8, e9]
      · rw [if_neg hp, if_neg hp]; exact e9
    · have e : ∀ c : Prop, ∀ _ : Decidable c, (if c then nChk (chkN M k) k else chkN M k) (mi j 9) = chkN M k (mi j 9) := by
        intro c _
        split
        · exact nChk_o (by unfold mi; omega)
        · rfl
      rw [e]
      exact chkN_at k (by omega)
/-- the model's second where no event comes -/
def nQ (M : Nat → Int32) : Nat → Int32 := nTm (nD 0 (chkN M 8) 8)
theorem nSec_of {μ P : zS} {A B : zS × Int32} (hA : nSh 8 (μ, 0) = A) (hB : nC A.1 8 = B) (hP : nPu (upR B.1 0 (nD B.2 (B.1 0) 8)) = P) : nSec μ = upR P 0 (upd (P 0) 11 (P 0 11 + 1)) := by
  subst hA
  subst hB
  subst hP
  rfl
theorem sSec_of {σ : zS} {S1 S2 S4 : zS × Int32} (h1 : sSh 8 (σ, 0) = S1) (h2 : sCt S1.1 8 = S2) (h4 : sPu (sCd S2.2 S2.1 8) = S4) : sSec σ = (up2 S4.1 2 5 (S4.1 2 5 + 1), zbc S1.2 + zbc S2.2 + S4.2) := by
  subst h1
  subst h2
  subst h4
  rfl
theorem sec_all {σ μ : zS} {t : Nat} (hR : RI σ (μ 0) t t) :
    RI (sSec σ).1 (nSec μ 0) (t + 1) (t + 1) ∧ nKeep μ (nSec μ) ∧ nSec μ 5 0 = μ 5 0 + (sSec σ).2 ∧
    (Lst (nSec μ 0) t ∨ (nSec μ = upR μ 0 (upd (nQ (μ 0)) 11 (nQ (μ 0) 11 + 1)) ∧ (sSp σ 8 < 0 → ∀ i, i < 8 → ¬ 0 < gM (μ 0) i 8) ∧ (¬ 0 < nQ (μ 0) 10 → ∀ i, i < 8 → ¬ nCan (nQ (μ 0)) i))) := by
  obtain ⟨A, hA⟩ : ∃ A, nSh 8 (μ, 0) = A := ⟨_, rfl⟩
  obtain ⟨B, hB⟩ : ∃ B, nC A.1 8 = B := ⟨_, rfl⟩
  obtain ⟨P, hP⟩ : ∃ P, nPu (upR B.1 0 (nD B.2 (B.1 0) 8)) = P := ⟨_, rfl⟩
  obtain ⟨S1, hS1⟩ : ∃ A, sSh 8 (σ, 0) = A := ⟨_, rfl⟩
  obtain ⟨S2, hS2⟩ : ∃ A, sCt S1.1 8 = A := ⟨_, rfl⟩
  obtain ⟨S4, hS4⟩ : ∃ A, sPu (sCd S2.2 S2.1 8) = A := ⟨_, rfl⟩
  have hN := nSec_of hA hB hP
  have hS := sSec_of hS1 hS2 hS4
  have sh := shed_eq 8 8 t σ μ 0 0 (Nat.le_succ t) (Nat.le_refl 8) (Nat.le_refl 8) hR ⟨by omega, rfl⟩ (fun i _ hb => by rw [Nat.zero_testBit] at hb; exact absurd hb (by decide)) (fun _ q i hq hqi => by
    have := (List.getElem?_eq_some_iff.mp hqi).1
    rw [ordL_len hR.ok.1.1] at this
    omega)
  rw [hA, hS1] at sh
  obtain ⟨X1, u1, a1, a2, a3, a4, a5, a6, a7, a8⟩ := sh
  have ct := cut_eq a4 a3 8 (Nat.le_refl 8)
  rw [hB, hS2] at ct
  obtain ⟨X2, u2, b1, b2, b3, b4, b5, -, b7, b8, b9⟩ := ct
  have c1 := cool_eq b5 b2 8 (Nat.le_refl 8)
  rw [← b4] at c1
  have pu := pu_eq (σ := sCd S2.2 S2.1 8) (μ := upR B.1 0 (nD B.2 (B.1 0) 8)) (by rw [← b4]; exact c1) b1
  rw [hP, hS4] at pu
  obtain ⟨u4, d1, d2, d3, d4, d5, d6⟩ := pu
  have kD : nKeep B.1 (upR B.1 0 (nD B.2 (B.1 0) 8)) := nKeep.up
  have hLD : Lst (B.1 0) t → Lst (nD B.2 (B.1 0) 8) t := fun h => h.same (fun i h1 h2 => nD_o 8 (fun j hj => by unfold mi; omega))
  have hLP : Lst (P 0) t → Lst (nSec μ 0) t := fun h => by rw [hN]; exact h.same (fun i h1 h2 => upd_o (by omega))
  refine ⟨?_, ?_, ?_, ?_⟩
  · rw [hS, hN]
    exact (d2.mono d1).tick
  · rw [hN]
    exact (((a5.tr b3).tr kD).tr d3).tr nKeep.up
  · rw [hS, hN]
    have e5 : upR P 0 (upd (P 0) 11 (P 0 11 + 1)) 5 0 = P 5 0 := rfl
    have d4 : P 5 0 = B.1 5 0 + S4.2 := d4
    have e6 : A.1 5 0 = μ 5 0 + zbc A.2 := by
      rw [← a6, zbc0, Int32.add_zero]
    rw [e5, d4, b7, e6]
    show _ = μ 5 0 + (zbc S1.2 + zbc S2.2 + S4.2)
    rw [a1, b4, Int32.add_assoc, Int32.add_assoc, Int32.add_assoc]
  · rcases a8 with h | ⟨h1, h2⟩
    · exact Or.inl (hLP (d5 (hLD (b8 h))))
    · rcases b9 with h | ⟨h3, h4⟩
      · exact Or.inl (hLP (d5 (hLD h)))
      · rcases d6 with h | ⟨h5, h6⟩
        · exact Or.inl (hLP h)
        · have h1a : A.1 = μ := by rw [h1]
          rw [h1a] at h4
          have hB0 : B.1 0 = chkN (μ 0) 8 := by rw [h4, upR_s]
          have e0 : nD B.2 (B.1 0) 8 = nD 0 (chkN (μ 0) 8) 8 := by rw [h3, hB0]
          have e1 : nTm (upR B.1 0 (nD B.2 (B.1 0) 8) 0) = nQ (μ 0) := by rw [upR_s, e0, nQ]
          rw [e1] at h5 h6
          have e2 : P = upR μ 0 (nQ (μ 0)) := by rw [h5, upR_upR, h4, upR_upR]
          refine Or.inr ⟨?_, h2, h6⟩
          rw [hN, e2, upR_upR, upR_s]
theorem nQ_11 {M : Nat → Int32} : nQ M 11 = M 11 := by
  unfold nQ nTm
  rw [upd_o (by omega), nD_o 8 (fun j hj => by unfold mi; omega), chkN_o 8 (fun j hj => by unfold mi; omega)]
theorem i32_ns (x : Int32) : ¬ x + 1 = x := fun h => by
  have h1 : x + 1 = x + 0 := by rw [h, Int32.add_zero]
  have h2 := (Int32.add_right_inj x).mp h1
  exact absurd h2 (by decide)
theorem i32_np (x : Int32) : ¬ x - 1 = x := fun h => by
  have h1 : x - 1 + 1 = x + 1 := congrArg (· + 1) h
  rw [Int32.sub_add_cancel] at h1
  exact i32_ns x h1.symm
theorem nSh_idle {μ : zS} {x : Int32} (h : ¬ nAv (μ 0) 8 < 0) : ∀ k, nSh k (μ, x) = (μ, x)
  | 0 => rfl
  | k + 1 => (congrArg (nSh k) (nS1_no (fun z => h z.1))).trans (nSh_idle h k)
theorem nsp_un {σ : zS} {M : Nat → Int32} {t : Nat} (hg : gRl σ M t) (hq : qRl σ M) (h : ∀ i, i < 8 → ¬ 0 < gM M i 8) : ∀ k, k ≤ 8 → sSp σ k = sBud σ
  | 0, _ => rfl
  | k + 1, hk => by
    show sSp σ k - σ (7 + k) 7 = _
    have hp : ¬ 0 < σ (7 + k) 7 := by rw [show σ (7 + k) 7 = gM M k 8 from (hq k (by omega)).1.2.2.2.1]; exact h k (by omega)
    rw [(off0 (hq k (by omega)).2 hp).1, Int32.sub_zero]
    exact nsp_un hg hq h k (by omega)
theorem stab_eq {σ μ : zS} {t : Nat} (hR : RI σ (μ 0) t t) (ht : t < 2147483648) : sStab σ ↔ ∀ i, i < 149 → i = 11 ∨ μ 0 i = nSec μ 0 i := by
  constructor
  · intro ⟨s1, s2, s3, s4⟩
    have e1 : nSh 8 (μ, 0) = (μ, 0) := nSh_idle (by rw [sp_eq hR.1 hR.2.2 8 (Nat.le_refl 8)]; exact s2) 8
    have e2 : ∀ k, k ≤ 8 → nC μ k = (μ, 0) := by
      intro k
      induction k with
      | zero => intro _; rfl
      | succ k ih =>
        intro hk
        obtain ⟨hp, hi⟩ := hR.2.2 k (by omega)
        obtain ⟨c1, c2, c3⟩ := s3 k (by omega)
        have e7 : σ (7 + k) 7 = gM (μ 0) k 8 := hp.2.2.2.1
        have e8 : σ (7 + k) 8 = gM (μ 0) k 9 := hp.2.2.2.2.1
        have hI : nIc μ k = (μ, 0) := by
          unfold nIc
          by_cases hpow : 0 < gM (μ 0) k 8
          · have hpf : 0 < σ (7 + k) 7 := by rw [e7]; exact hpow
            have h2 := hi.2.2.2.1 hpf
            have e6 : σ (7 + k) 5 = gM (μ 0) k 6 := (hp.2.2.2.2.2.2 h2).1
            have hle : gM (μ 0) k 6 ≤ gM (μ 0) k 8 := by rw [← e6, ← e7]; exact zle.mpr (fun z => c3 ⟨hpf, z⟩)
            have h9 : gM (μ 0) k 9 = 0 := by
              rw [← e8]
              obtain ⟨v, hv, ev⟩ := hi.2.2.2.2.2.1
              rw [ev] at c2 ⊢
              cases v with
              | zero => rfl
              | succ v => exact absurd (nI_lt (a := 0) (b := v + 1) (by omega) (by omega)) c2
            have hC : nChk (μ 0) k = μ 0 := by
              unfold nChk
              rw [if_pos hle]
              exact upd_id h9
            obtain ⟨eL, lim, hl1, hl2, elim⟩ := hR.1.2.2.2.1
            have hn : ¬ μ 0 8 ≤ gM (μ 0) k 9 := by
              rw [eL, elim, h9]
              exact nI_ge (a := 0) (b := lim) (by omega) (by omega)
            rw [hC, if_pos hpow, if_neg hn, upR_id]
          · rw [if_neg hpow]
        show ((nIc (nC μ k).1 k).1, (nC μ k).2 ||| (if (nIc (nC μ k).1 k).2 = 0 then 0 else bit (nI k))) = (μ, 0)
        rw [ih (by omega)]
        show ((nIc μ k).1, (0 : Int32) ||| (if (nIc μ k).2 = 0 then 0 else bit (nI k))) = (μ, 0)
        rw [hI]
        show (μ, (0 : Int32) ||| (if (0 : Int32) = 0 then 0 else bit (nI k))) = (μ, 0)
        rw [if_pos rfl, or_z]
    have e3 : ∀ k, k ≤ 8 → nD 0 (μ 0) k = μ 0 := by
      intro k
      induction k with
      | zero => intro _; rfl
      | succ k ih =>
        intro hk
        show nD1 0 (nD 0 (μ 0) k) k = μ 0
        rw [ih (by omega)]
        unfold nD1
        obtain ⟨c1, c2, c3⟩ := s3 k (by omega)
        rw [if_neg (fun z => c1 (by rw [show σ (7 + k) 9 = gM (μ 0) k 10 from (hR.2.2 k (by omega)).1.2.2.2.2.2.1]; exact z.2)), Int32.sub_zero, upd_id rfl]
    have e10 : μ 0 10 = 0 := hR.1.2.2.2.2.2.1.1.trans s1
    have e4 : nTm (μ 0) = μ 0 := by
      unfold nTm
      rw [if_neg (by rw [e10]; decide), Int32.sub_zero, upd_id rfl]
    have e5 : nPu μ = μ := by
      unfold nPu
      rw [e4, upR_id, if_neg (by rw [e10]; decide)]
      exact nP2_none hR.ok.1.1 ((sFp_none hR.1 hR.2.2).mp s4) 8 0 rfl
    have e6 : nSec μ = upR μ 0 (upd (μ 0) 11 (μ 0 11 + 1)) := by
      exact nSec_of e1 (e2 8 (Nat.le_refl 8)) (show nPu (upR μ 0 (nD 0 (μ 0) 8)) = μ by rw [e3 8 (Nat.le_refl 8), upR_id, e5])
    intro i hi
    by_cases h : i = 11
    · exact Or.inl h
    · refine Or.inr ?_
      rw [e6]
      exact (upd_o h).symm
  · intro heq
    have heq : ∀ i, i < 149 → i ≠ 11 → nSec μ 0 i = μ 0 i := fun i hi h => ((heq i hi).resolve_left h).symm
    obtain ⟨-, -, -, hL | ⟨hN, hun, hcn⟩⟩ := sec_all hR
    · exfalso
      obtain ⟨c, hc, h12, h13⟩ := hL
      rw [heq 12 (by omega) (by omega)] at h12
      rw [heq (13 + 3 * c) (by omega) (by omega)] at h13
      obtain ⟨o, c', ho, hc', -, -, m12, hall⟩ := hR.2.1
      have hcc : c' = c + 1 := by
        have e := m12.symm.trans h12
        have k1 := nI_clamp (n := c') (by omega)
        have k2 := nI_clamp (n := c + 1) (by omega)
        rw [e, k2] at k1
        exact k1.symm
      obtain ⟨-, -, -, s, hs, es⟩ := hall c (by omega)
      have e := es.symm.trans h13
      have k1 := nI_clamp (n := s) (by omega)
      have k2 := nI_clamp (n := t) (by omega)
      rw [e, k2] at k1
      omega
    · have hq : ∀ i, i < 149 → nQ (μ 0) i = μ 0 i := by
        intro i hi
        by_cases h : i = 11
        · subst h; exact nQ_11
        · have := heq i hi h
          rw [hN] at this
          exact (upd_o h).symm.trans this
      have hRq := hR.cong hq
      have h10 : ¬ 0 < μ 0 10 := by
        intro h
        have := hq 10 (by omega)
        unfold nQ nTm at this
        rw [upd_s, nD_o 8 (fun j hj => by unfold mi; omega), chkN_o 8 (fun j hj => by unfold mi; omega), if_pos h] at this
        exact i32_np _ this
      have e10 := hR.1.2.2.2.2.2.1
      have hcalm : sCalm σ := by
        intro k hk
        obtain ⟨hp, hi⟩ := hR.2.2 k hk
        have e7 : σ (7 + k) 7 = gM (μ 0) k 8 := hp.2.2.2.1
        have e8 : σ (7 + k) 8 = gM (μ 0) k 9 := hp.2.2.2.2.1
        have e9 : σ (7 + k) 9 = gM (μ 0) k 10 := hp.2.2.2.2.2.1
        have q9 : chkN (μ 0) 8 (mi k 9) = gM (μ 0) k 9 := by
          have := hq (mi k 9) (by unfold mi; omega)
          unfold nQ nTm at this
          rw [upd_o (by unfold mi; omega), nD_o 8 (fun j hj => by unfold mi; omega)] at this
          exact this
        rw [chkN_at 8 hk] at q9
        refine ⟨?_, ?_⟩
        · rw [e9]
          intro h
          have := hq (mi k 10) (by unfold mi; omega)
          unfold nQ nTm at this
          rw [upd_o (by unfold mi; omega), nD_at 8 hk, chkN_o 8 (fun j hj => by unfold mi; omega)] at this
          have ek : gM (chkN (μ 0) 8) k 10 = gM (μ 0) k 10 := chkN_o 8 (fun j hj => by unfold mi; omega)
          rw [if_pos (show nDc 0 (chkN (μ 0) 8) k from ⟨by
            have := (bitsC ⟨0, by omega⟩ ⟨k, hk⟩).2
            exact this.mpr (Nat.zero_testBit k), by rw [ek]; exact h⟩)] at this
          exact i32_np _ this
        · by_cases hpow : 0 < gM (μ 0) k 8
          · rw [if_pos hpow] at q9
            have hpf : 0 < σ (7 + k) 7 := by rw [e7]; exact hpow
            have e6 : σ (7 + k) 5 = gM (μ 0) k 6 := (hp.2.2.2.2.2.2 (hi.2.2.2.1 hpf)).1
            by_cases hle : gM (μ 0) k 6 ≤ gM (μ 0) k 8
            · rw [if_pos hle] at q9
              exact ⟨by rw [e8, ← q9]; decide, by rw [e6, e7]; exact fun z => zle.mp hle z.2⟩
            · rw [if_neg hle] at q9
              exact absurd q9 (i32_ns _)
          · have hpf : ¬ 0 < σ (7 + k) 7 := by rw [e7]; exact hpow
            exact ⟨by rw [(off0 hi hpf).2]; decide, fun z => hpf z.1⟩
      refine ⟨?_, ?_, hcalm, ?_⟩
      · obtain ⟨e, v, hv0, hv, ev⟩ := e10
        rw [e] at h10
        rw [ev] at h10 ⊢
        cases v with
        | zero => rfl
        | succ v => exact absurd (nI_lt (a := 0) (b := v + 1) (by omega) (by omega)) h10
      · intro hneg
        have := hun hneg
        rw [nsp_un hR.1 hR.2.2 this 8 (Nat.le_refl 8)] at hneg
        obtain ⟨-, B, hB, eB⟩ := bud_eq hR.1
        rw [eB] at hneg
        exact nI_pos (by omega) hneg
      · exact (sFp_none hRq.1 hRq.2.2).mpr (hcn (by rw [hq 10 (by omega)]; exact h10))
