/-! time, plans, snapshots, fitting: both agree -/
theorem RI.copy {σ ρ : zS} {M : Nat → Int32} {t u : Nat} (h : RI σ M t u) (h0 : ∀ k, k < 3 → ρ 0 k = σ 0 k ∧ ρ 1 k = σ 1 k) (h2 : ∀ k, k < 6 → ρ 2 k = σ 2 k) (hL : ∀ i, i < 16 → ρ 3 i = σ 3 i ∧ ρ 4 i = σ 4 i ∧ ρ 5 i = σ 5 i) (h6 : ρ 6 0 = σ 6 0 ∧ ρ 6 1 = σ 6 1) (hp : ∀ j, j < 8 → ρ (7 + j) = σ (7 + j)) : RI ρ M t u := by
  obtain ⟨⟨a, b, c, d, e, f, g⟩, ⟨o, n, ho, hn, l0, l1, l12, hall⟩, hq⟩ := h
  refine ⟨⟨fun k hk => ?_, ?_, ?_, ?_, ?_, ?_, ?_⟩, ⟨o, n, ho, hn, h6.1.trans l0, h6.2.trans l1, l12, fun i hi => ?_⟩, fun j hj => ?_⟩
  · rw [(h0 k hk).1, (h0 k hk).2]; exact a k hk
  · rw [h2 0 (by omega)]; exact b
  · rw [h2 1 (by omega)]; exact c
  · rw [h2 2 (by omega)]; exact d
  · rw [h2 3 (by omega)]; exact e
  · rw [h2 4 (by omega)]; exact f
  · rw [h2 5 (by omega)]; exact g
  · obtain ⟨x, y, z⟩ := hL ((o + i) % 16) (Nat.mod_lt _ (by decide))
    rw [x, y, z]
    exact hall i hi
  · rw [hp j hj]; exact hq j hj
theorem RI.cp {σ : zS} {M : Nat → Int32} {t u : Nat} (h : RI σ M t u) (τ : zS) : RI (sCp τ σ) M t u := by
  refine h.copy (fun k hk => ?_) (fun k hk => ?_) (fun i hi => ?_) ⟨rfl, rfl⟩ (fun j hj => ?_)
  · match k, hk with
    | 0, _ => exact ⟨rfl, rfl⟩
    | 1, _ => exact ⟨rfl, rfl⟩
    | 2, _ => exact ⟨rfl, rfl⟩
  · match k, hk with
    | 0, _ => rfl
    | 1, _ => rfl
    | 2, _ => rfl
    | 3, _ => rfl
    | 4, _ => rfl
    | 5, _ => rfl
  · have key : ∀ f g : Nat → Int32, va_cpy f g 0 0 16 i = f i := fun f g => by
      unfold va_cpy
      rw [if_pos ⟨Nat.zero_le _, by omega⟩]
      show f (0 + (i - 0)) = f i
      rw [Nat.zero_add, Nat.sub_zero]
    exact ⟨key _ _, key _ _, key _ _⟩
  · match j, hj with
    | 0, _ => rfl
    | 1, _ => rfl
    | 2, _ => rfl
    | 3, _ => rfl
    | 4, _ => rfl
    | 5, _ => rfl
    | 6, _ => rfl
    | 7, _ => rfl
theorem ad_eq {σ μ : zS} {t : Nat} (hR : RI σ (μ 0) t t) : ∀ k, RI (sAd σ k).1 (nAs μ k 0) (t + k) (t + k) ∧ nKeep μ (nAs μ k) ∧ nAs μ k 5 0 = (sAd σ k).2
  | 0 => ⟨hR, ⟨rfl, rfl, rfl, rfl, rfl⟩, rfl⟩
  | k + 1 => by
    obtain ⟨a, b, c⟩ := ad_eq hR k
    obtain ⟨d, e, f, -⟩ := sec_all a
    exact ⟨d, b.tr e, by show nSec (nAs μ k) 5 0 = _; rw [f, c]; rfl⟩
/-- the slots and their marks stay -/
def nSl (μ ν : zS) : Prop := ν 2 = μ 2 ∧ ν 3 = μ 3
theorem adv_ag {σ μ : zS} {t : Nat} (hR : RI σ (μ 0) t t) (v : Int32) : (mAdv σ v).1 = (nAdv μ v).1 ∧ nSl μ (nAdv μ v).2 ∧ ∃ t', t' ≤ t + 60 ∧ RI (mAdv σ v).2 ((nAdv μ v).2 0) t' t' := by
  unfold mAdv nAdv
  by_cases h : 1 ≤ v ∧ v ≤ 60
  · rw [if_pos h, if_pos h]
    obtain ⟨a, b, c⟩ := ad_eq hR (ix v)
    have := (zn60 h).2
    exact ⟨c.symm, ⟨b.2.1, b.2.2.1⟩, t + ix v, by omega, a⟩
  · rw [if_neg h, if_neg h]
    exact ⟨rfl, ⟨rfl, rfl⟩, t, by omega, hR⟩
theorem cpk_lt {f g : Nat → Int32} {k i : Nat} (h : i < k) : cpk f g k i = g i := if_pos h
theorem pb_of {μ ν : zS} {σ : zS} {t u : Nat} (hR : RI σ (μ 0) t u) (h1 : ν 1 = cpk (μ 1) (μ 0) 149) : RI σ (nPb ν 0) t u := by
  refine hR.cong (fun i hi => ?_)
  show cpk (ν 0) (ν 1) 149 i = μ 0 i
  rw [cpk_lt hi, h1, cpk_lt hi]
theorem shf_ag {σ τ μ : zS} {t : Nat} (hR : RI σ (μ 0) t t) (s : Int32) : (if aS s then (sSh 8 (up2 (sCp τ σ) 1 (ix s) 0, 0)).2 else -1) = (if aS s then (nSh 8 ((upR (nKp μ) 0 (upd (μ 0) (3 + ix s) 0)), 0)).2 else -1) ∧ nSl μ (if aS s then nPb (nSh 8 ((upR (nKp μ) 0 (upd (μ 0) (3 + ix s) 0)), 0)).1 else μ) ∧ RI σ ((if aS s then nPb (nSh 8 ((upR (nKp μ) 0 (upd (μ 0) (3 + ix s) 0)), 0)).1 else μ) 0) t t := by
  by_cases h : aS s
  · rw [if_pos h, if_pos h, if_pos h]
    have hk := (zn3 h).2
    have h0 : RI (up2 (sCp τ σ) 1 (ix s) 0) ((upR (nKp μ) 0 (upd (μ 0) (3 + ix s) 0)) 0) t t := (hR.cp τ).wrk hk (Or.inl rfl)
    obtain ⟨X, u', a1, -, -, -, a5, -⟩ := shed_eq 8 8 t _ _ 0 0 (Nat.le_succ t) (Nat.le_refl 8) (Nat.le_refl 8) h0 ⟨by omega, rfl⟩ (fun i _ hb => by rw [Nat.zero_testBit] at hb; exact absurd hb (by decide)) (fun _ q i hq hqi => by
      have := (List.getElem?_eq_some_iff.mp hqi).1
      rw [ordL_len h0.ok.1.1] at this
      omega)
    exact ⟨a1, ⟨a5.2.1, a5.2.2.1⟩, pb_of hR a5.1⟩
  · rw [if_neg h, if_neg h, if_neg h]
    exact ⟨rfl, ⟨rfl, rfl⟩, hR⟩
theorem set_eq : ∀ (m k t : Nat) (ρ ν : zS), RI ρ (ν 0) t t → t + m < 1000000 → k + m < 1000 → nSl ν (nFs m k ν).2 ∧ (nFs m k ν).2 1 = ν 1 ∧ (((sSet m ρ k).1 = -6 ∧ (nFs m k ν).1 = -6) ∨ ∃ j, j < 1000 ∧ (sSet m ρ k).1 = nI j ∧ (nFs m k ν).1 = nI j ∧ sPw (sSet m ρ k).2 8 = (nFs m k ν).2 5 1)
  | 0, k, t, ρ, ν, hR, ht, hk => ⟨⟨rfl, rfl⟩, rfl, Or.inl ⟨rfl, rfl⟩⟩
  | m + 1, k, t, ρ, ν, hR, ht, hk => by
    have hX : RI ρ (nAh (nPp ν) 0) t t := hR
    obtain ⟨a, b, -, -⟩ := sec_all hX
    have hst := stab_eq hX (by omega)
    have hsm : nSm (nSs (nPp ν)) 149 ↔ sStab ρ := by
      rw [hst]
      have e4 : ∀ i, i < 149 → nSs (nPp ν) 4 i = nAh (nPp ν) 0 i := fun i hi => by
        have : nSs (nPp ν) 4 = nAh (nPp ν) 4 := b.2.2.2.1
        rw [this]
        exact cpk_lt hi
      constructor
      · intro h i hi
        rw [← e4 i hi]
        exact h i hi
      · intro h i hi
        rw [e4 i hi]
        exact h i hi
    have e51 : nSs (nPp ν) 5 1 = nPs (ν 0) 8 := b.2.2.2.2
    have f1 : nSs (nPp ν) 1 = ν 1 := b.1
    have f2 : nSs (nPp ν) 2 = ν 2 := b.2.1
    have f3 : nSs (nPp ν) 3 = ν 3 := b.2.2.1
    by_cases hs : sStab ρ
    · rw [sSet_t hs, nFs_t (hsm.mpr hs)]
      generalize nSs (nPp ν) = R at *
      exact ⟨⟨f2, f3⟩, f1, Or.inr ⟨k, by omega, rfl, rfl, (pwS_eq hR.2.2 8 (Nat.le_refl 8)).trans e51.symm⟩⟩
    · rw [sSet_f hs, nFs_f (fun z => hs (hsm.mp z))]
      obtain ⟨c, d, e⟩ := set_eq m (k + 1) (t + 1) (sSec ρ).1 (nSs (nPp ν)) a (by omega) (by omega)
      exact ⟨⟨c.1.trans f2, c.2.trans f3⟩, d.trans f1, e⟩
theorem stl_ag {σ τ μ : zS} {t : Nat} (hR : RI σ (μ 0) t t) (ht : t < 900000) : (mStl σ τ).1 = (nFs 301 0 (nKp μ)).1 ∧ (if (mStl σ τ).1 = -6 then -6 else sPw (mStl σ τ).2 8) = (if 0 ≤ (nFs 301 0 (nKp μ)).1 then (nFs 301 0 (nKp μ)).2 5 1 else -6) ∧ nSl μ (nPb (nFs 301 0 (nKp μ)).2) ∧ RI σ (nPb (nFs 301 0 (nKp μ)).2 0) t t := by
  obtain ⟨a, b, c⟩ := set_eq 301 0 t (sCp τ σ) (nKp μ) (hR.cp τ) (by omega) (by omega)
  have hm : mStl σ τ = sSet 301 (sCp τ σ) 0 := rfl
  rw [hm]
  generalize sSet 301 (sCp τ σ) 0 = A at *
  generalize nFs 301 0 (nKp μ) = F at *
  have hpb := pb_of (ν := F.2) hR b
  refine ⟨?_, ?_, ⟨a.1, a.2⟩, hpb⟩
  · rcases c with ⟨h1, h2⟩ | ⟨j, -, h1, h2, -⟩
    · rw [h1, h2]
    · rw [h1, h2]
  · rcases c with ⟨h1, h2⟩ | ⟨j, hj, h1, h2, h3⟩
    · rw [h1, h2, if_pos rfl, if_neg (by decide)]
    · have e := nI_toInt (n := j) (by omega)
      have hn : ¬ A.1 = -6 := by
        intro q
        rw [h1] at q
        rw [q] at e
        have e6 : (-6 : Int32).toInt = -6 := by decide
        omega
      have hp : 0 ≤ F.1 := by
        rw [h2]
        exact Int32.le_iff_toInt_le.mpr (by rw [e, Int32.toInt_zero]; omega)
      rw [if_neg hn, if_pos hp, h3]
/-! fitting -/
def stp (M : Nat → Int32) (a : Int32 × Int32) (j : Nat) : Int32 × Int32 := if nEl M j ∧ ¬ a.1 < gM M j 7 then (a.1 - gM M j 7, a.2 ||| bit (nI j)) else a
theorem nFt_fold {M : Nat → Int32} (h : nPv M) : ∀ q, q ≤ 8 → nFt M q = ((ordL M).take q).foldl (stp M) (nBud M, 0)
  | 0, _ => rfl
  | q + 1, hq => by
    obtain ⟨j, hj, hoj, hO⟩ := nOrd_ok h (q := q) (by omega)
    have ih := nFt_fold h q (by omega)
    rw [List.take_succ, hoj, List.foldl_append, ← ih]
    show nFt M (q + 1) = stp M (nFt M q) j
    unfold stp
    by_cases hc : nEl M j ∧ ¬ (nFt M q).1 < gM M j 7
    · rw [if_pos hc, nFt_yes hO hj hc.1 hc.2]
    · rw [if_neg hc, nFt_no hO hj hc]
theorem sFi_fold {σ : zS} {M : Nat → Int32} (hq : qRl σ M) (q : Nat) (s : Int32 × Int32) : ∀ k, k ≤ 8 → ((sFi σ q s k).2, (sFi σ q s k).1) = (oL M q k 0).foldl (stp M) (s.2, s.1)
  | 0, _ => rfl
  | k + 1, hk => by
    have ih := sFi_fold hq q s k (by omega)
    have hkk := hq k (by omega)
    have he := el_eq hkk
    have e1 : σ (7 + k) 1 = gM M k 1 := hkk.1.2.1
    unfold oL at ih ⊢
    rw [show List.range' 0 (k + 1) = List.range' 0 k ++ [k] by rw [List.range'_concat]; simp, List.filter_append, List.foldl_append, ← ih]
    by_cases hp : gM M k 1 = nI q
    · rw [show List.filter (fun j => decide (gM M j 1 = nI q)) [k] = [k] by simp [hp]]
      show _ = stp M ((sFi σ q s k).2, (sFi σ q s k).1) k
      unfold stp
      by_cases hc : pEli (σ (7 + k)) ∧ σ (7 + k) 6 ≤ (sFi σ q s k).2
      · have e6 : σ (7 + k) 6 = gM M k 7 := (hkk.1.2.2.2.2.2.2 (el_on hkk.2 hc.1)).2.1
        rw [show sFi σ q s (k + 1) = ((sFi σ q s k).1 ||| bit (nI k), (sFi σ q s k).2 - σ (7 + k) 6) from if_pos ⟨e1.trans hp, hc⟩, if_pos ⟨he.mp hc.1, zle.mp (by rw [← e6]; exact hc.2)⟩, e6]
      · rw [show sFi σ q s (k + 1) = sFi σ q s k from if_neg (fun z => hc z.2), if_neg (fun z => hc ⟨he.mpr z.1, by rw [show σ (7 + k) 6 = gM M k 7 from (hkk.1.2.2.2.2.2.2 (el_on hkk.2 (he.mpr z.1))).2.1]; exact zle.mpr z.2⟩)]
    · rw [show List.filter (fun j => decide (gM M j 1 = nI q)) [k] = [] by simp [hp], show sFi σ q s (k + 1) = sFi σ q s k from if_neg (fun z => hp (e1.symm.trans z.1))]
      rfl
theorem fit_eq {σ : zS} {M : Nat → Int32} {t u : Nat} (h : RI σ M t u) : (sFo σ 3).1 = (nFt M 8).2 := by
  have h8 := nFt_fold h.ok.1.1 8 (Nat.le_refl 8)
  rw [List.take_of_length_le (by rw [ordL_len h.ok.1.1]; exact Nat.le_refl 8)] at h8
  have k0 := sFi_fold h.2.2 0 (sFo σ 0) 8 (Nat.le_refl 8)
  have k1 := sFi_fold h.2.2 1 (sFo σ 1) 8 (Nat.le_refl 8)
  have k2 := sFi_fold h.2.2 2 (sFo σ 2) 8 (Nat.le_refl 8)
  have e0 : ((sFo σ 0).2, (sFo σ 0).1) = (nBud M, 0) := by
    show (sBud σ, (0 : Int32)) = _
    rw [(bud_eq h.1).1]
  have e1 : ((sFo σ 1).2, (sFo σ 1).1) = (oL M 0 8 0).foldl (stp M) (nBud M, 0) := by rw [← e0]; exact k0
  have e2 : ((sFo σ 2).2, (sFo σ 2).1) = (oL M 1 8 0).foldl (stp M) ((oL M 0 8 0).foldl (stp M) (nBud M, 0)) := by rw [← e1]; exact k1
  have e3 : ((sFo σ 3).2, (sFo σ 3).1) = (oL M 2 8 0).foldl (stp M) ((oL M 1 8 0).foldl (stp M) ((oL M 0 8 0).foldl (stp M) (nBud M, 0))) := by rw [← e2]; exact k2
  rw [h8]
  unfold ordL
  rw [List.foldl_append, List.foldl_append, ← e3]
/-! snapshots -/
abbrev slM (μ : zS) (k : Nat) : Nat → Int32 := fun i => μ 2 (149 * k + i)
theorem sv_same {σ τ μ : zS} {t u : Nat} {v : Int32} (hR : RI σ (μ 0) t u) : RI (sCp τ σ) (slM (nSv μ v) (ix v)) t u := by
  refine (hR.cp τ).cong (fun i hi => ?_)
  show cpo (μ 2) (μ 0) (149 * ix v) 149 (149 * ix v + i) = μ 0 i
  unfold cpo
  rw [if_pos ⟨by omega, by omega⟩, show 149 * ix v + i - 149 * ix v = i by omega]
theorem sv_other {ρ μ : zS} {t u k : Nat} {v : Int32} (hk : k ≠ ix v) (hR : RI ρ (slM μ k) t u) : RI ρ (slM (nSv μ v) k) t u := by
  refine hR.cong (fun i hi => ?_)
  show cpo (μ 2) (μ 0) (149 * ix v) 149 (149 * k + i) = μ 2 (149 * k + i)
  unfold cpo
  rw [if_neg]
  intro z
  rcases Nat.lt_or_gt_of_ne hk with h | h
  · have : 149 * k + 149 ≤ 149 * ix v := by omega
    omega
  · have : 149 * ix v + 149 ≤ 149 * k := by omega
    omega
theorem rs_same {σ ρ μ : zS} {t u : Nat} {v : Int32} (hR : RI ρ (slM μ (ix v)) t u) : RI (sCp σ ρ) (nRs μ v 0) t u :=
  (hR.cp σ).cong (fun i hi => by
    show cpk (μ 0) (fun i => μ 2 (149 * ix v + i)) 149 i = μ 2 (149 * ix v + i)
    rw [cpk_lt hi])
/-! the start -/
theorem RI_start : RI sI (muI 0) 0 0 := by
  refine ⟨⟨fun k hk => ?_, ?_, ?_, ?_, ?_, ?_, ?_⟩, ⟨0, 0, by omega, by omega, rfl, rfl, by decide, fun i hi => absurd hi (Nat.not_lt_zero i)⟩, fun j hj => ?_⟩
  · match k, hk with
    | 0, _ => exact ⟨by decide, by decide, ⟨1500, by omega, by omega, by decide⟩, Or.inr (by decide)⟩
    | 1, _ => exact ⟨by decide, by decide, ⟨0, by omega, by omega, by decide⟩, Or.inr (by decide)⟩
    | 2, _ => exact ⟨by decide, by decide, ⟨0, by omega, by omega, by decide⟩, Or.inr (by decide)⟩
  · exact ⟨by decide, 0, by omega, by omega, by decide⟩
  · exact ⟨by decide, 2, by omega, by omega, by decide⟩
  · exact ⟨by decide, 3, by omega, by omega, by decide⟩
  · exact ⟨by decide, 5, by omega, by omega, by decide⟩
  · exact ⟨by decide, 0, by omega, by omega, by decide⟩
  · exact ⟨by decide, by decide⟩
  · have hI : pIv pI := ⟨⟨Or.inr (by decide), Or.inl (by decide), Or.inl (by decide)⟩, ⟨2, by omega, by decide⟩, ⟨0, by omega, by decide⟩, fun q => absurd q (by decide), fun _ => by decide, ⟨0, by omega, by decide⟩, ⟨0, by omega, by decide⟩, fun q => absurd q (by decide)⟩
    have hn : ¬ pI 2 = 1 := by decide
    match j, hj with
    | 0, _ => exact ⟨⟨by decide, by decide, by decide, by decide, by decide, by decide, fun q => absurd q hn⟩, hI⟩
    | 1, _ => exact ⟨⟨by decide, by decide, by decide, by decide, by decide, by decide, fun q => absurd q hn⟩, hI⟩
    | 2, _ => exact ⟨⟨by decide, by decide, by decide, by decide, by decide, by decide, fun q => absurd q hn⟩, hI⟩
    | 3, _ => exact ⟨⟨by decide, by decide, by decide, by decide, by decide, by decide, fun q => absurd q hn⟩, hI⟩
    | 4, _ => exact ⟨⟨by decide, by decide, by decide, by decide, by decide, by decide, fun q => absurd q hn⟩, hI⟩
    | 5, _ => exact ⟨⟨by decide, by decide, by decide, by decide, by decide, by decide, fun q => absurd q hn⟩, hI⟩
    | 6, _ => exact ⟨⟨by decide, by decide, by decide, by decide, by decide, by decide, fun q => absurd q hn⟩, hI⟩
    | 7, _ => exact ⟨⟨by decide, by decide, by decide, by decide, by decide, by decide, fun q => absurd q hn⟩, hI⟩
