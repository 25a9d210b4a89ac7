/-! the order of the ports; shedding -/
/-- port i's priority as a number -/
def prN (M : Nat → Int32) (i : Nat) : Nat := (gM M i 1).toNatClampNeg
def lexN (M : Nat → Int32) (i j : Nat) : Prop := prN M i < prN M j ∨ (prN M i = prN M j ∧ i < j)
theorem prN_of {M : Nat → Int32} {i q : Nat} (h : gM M i 1 = nI q) (hq : q < 3) : prN M i = q := by unfold prN; rw [h]; exact nI_clamp (by omega)
theorem oL_mem {M : Nat → Int32} {pr i : Nat} (hp : pr < 3) (h : i ∈ oL M pr 8 0) : i < 8 ∧ prN M i = pr := by
  unfold oL at h
  obtain ⟨h1, h2⟩ := List.mem_filter.mp h
  have h3 := List.mem_range'_1.mp h1
  exact ⟨by omega, prN_of (by simpa using h2) hp⟩
theorem oL_pw (M : Nat → Int32) (pr : Nat) (hp : pr < 3) : (oL M pr 8 0).Pairwise (lexN M) := by
  have h1 : (oL M pr 8 0).Pairwise (fun i j => i < j) := by
    unfold oL
    exact List.Pairwise.filter _ (by decide)
  refine List.Pairwise.imp_of_mem (fun {a b} ha hb hab => ?_) h1
  exact Or.inr ⟨(oL_mem hp ha).2.trans (oL_mem hp hb).2.symm, hab⟩
theorem ordL_pw (M : Nat → Int32) : (ordL M).Pairwise (lexN M) := by
  unfold ordL
  refine List.pairwise_append.mpr ⟨oL_pw M 0 (by omega), List.pairwise_append.mpr ⟨oL_pw M 1 (by omega), oL_pw M 2 (by omega), fun a ha b hb => ?_⟩, fun a ha b hb => ?_⟩
  · have h1 := (oL_mem (by omega) ha).2
    have h2 := (oL_mem (by omega) hb).2
    exact Or.inl (by omega)
  · have h1 := (oL_mem (by omega) ha).2
    rcases List.mem_append.mp hb with hb | hb
    · have h2 := (oL_mem (by omega) hb).2
      exact Or.inl (by omega)
    · have h2 := (oL_mem (by omega) hb).2
      exact Or.inl (by omega)
theorem ordL_all {M : Nat → Int32} (h : nPv M) {i : Nat} (hi : i < 8) : ∃ q, q < 8 ∧ (ordL M)[q]? = some i := by
  have hm : i ∈ ordL M := by
    have hr : i ∈ List.range' 0 8 := List.mem_range'_1.mpr ⟨Nat.zero_le _, by omega⟩
    unfold ordL oL
    rcases h i hi with e | e | e
    · exact List.mem_append_left _ (List.mem_filter.mpr ⟨hr, by simpa using e⟩)
    · exact List.mem_append_right _ (List.mem_append_left _ (List.mem_filter.mpr ⟨hr, by simpa using e⟩))
    · exact List.mem_append_right _ (List.mem_append_right _ (List.mem_filter.mpr ⟨hr, by simpa using e⟩))
  obtain ⟨q, hq⟩ := List.getElem?_of_mem hm
  refine ⟨q, ?_, hq⟩
  have := (List.getElem?_eq_some_iff.mp hq).1
  rw [ordL_len h] at this
  exact this
theorem ordL_lt {M : Nat → Int32} {q r i j : Nat} (hq : (ordL M)[q]? = some i) (hr : (ordL M)[r]? = some j) (h : q < r) : lexN M i j := by
  obtain ⟨h1, e1⟩ := List.getElem?_eq_some_iff.mp hq
  obtain ⟨h2, e2⟩ := List.getElem?_eq_some_iff.mp hr
  have := List.pairwise_iff_getElem.mp (ordL_pw M) q r h1 h2 h
  rw [e1, e2] at this
  exact this
theorem ordL_same {M N : Nat → Int32} (h : ∀ j, j < 8 → gM N j 1 = gM M j 1) : ordL N = ordL M := by
  have key : ∀ pr, oL N pr 8 0 = oL M pr 8 0 := by
    intro pr
    unfold oL
    refine List.filter_congr (fun j hj => ?_)
    have := List.mem_range'_1.mp hj
    rw [h j (by omega)]
  unfold ordL
  rw [key, key, key]
theorem nOrd_same {M N : Nat → Int32} (h : ∀ j, j < 8 → gM N j 1 = gM M j 1) (q : Nat) : nOrd N q = nOrd M q := by rw [nOrd_list, nOrd_list, ordL_same h]
/-! the class's last powered port -/
theorem sLp_spec {σ : zS} {M : Nat → Int32} (hq : qRl σ M) : ∀ k, k ≤ 8 → ((∀ i, i < k → ¬ 0 < gM M i 8) ∧ sLp σ k = (-6, 0)) ∨ ∃ a, a < k ∧ 0 < gM M a 8 ∧ sLp σ k = (nI a, nI (prN M a)) ∧ prN M a < 3 ∧ ∀ i, i < k → 0 < gM M i 8 → i = a ∨ lexN M i a
  | 0, _ => Or.inl ⟨fun i hi => absurd hi (Nat.not_lt_zero i), rfl⟩
  | k + 1, hk => by
    obtain ⟨⟨-, e1, -, e7, -⟩, -, ⟨q, hq3, eq⟩, -⟩ := hq k (by omega)
    have e1 : σ (7 + k) 1 = gM M k 1 := e1
    have e7 : σ (7 + k) 7 = gM M k 8 := e7
    have hpk : prN M k = q := prN_of (e1.symm.trans eq) hq3
    rcases sLp_spec hq k (by omega) with ⟨hn, he⟩ | ⟨a, ha, hpw, he, ha3, hmax⟩
    · by_cases hp : 0 < gM M k 8
      · refine Or.inr ⟨k, Nat.lt_succ_self k, hp, ?_, by omega, fun i hi hpi => ?_⟩
        · have hc : pPow (σ (7 + k)) ∧ ¬ σ (7 + k) 1 < (sLp σ k).2 := ⟨by show 0 < σ (7 + k) 7; rw [e7]; exact hp, by rw [he, eq]; exact nI_pos (by omega)⟩
          rw [show sLp σ (k + 1) = (nI k, σ (7 + k) 1) from if_pos hc, hpk, eq]
        · by_cases hik : i = k
          · exact Or.inl hik
          · exact absurd hpi (hn i (by omega))
      · refine Or.inl ⟨fun i hi => ?_, ?_⟩
        · by_cases hik : i = k
          · subst hik; exact hp
          · exact hn i (by omega)
        · rw [show sLp σ (k + 1) = sLp σ k from if_neg (fun z => hp (by rw [← e7]; exact z.1))]; exact he
    · by_cases hc : pPow (σ (7 + k)) ∧ ¬ σ (7 + k) 1 < (sLp σ k).2
      · have hp : 0 < gM M k 8 := by rw [← e7]; exact hc.1
        have hge : prN M a ≤ q := by
          have := hc.2
          rw [he, eq] at this
          have h2 : ¬ q < prN M a := fun z => this ((nI_ltI (by omega) (by omega)).mpr z)
          omega
        refine Or.inr ⟨k, Nat.lt_succ_self k, hp, by rw [show sLp σ (k + 1) = (nI k, σ (7 + k) 1) from if_pos hc, hpk, eq], by omega, fun i hi hpi => ?_⟩
        by_cases hik : i = k
        · exact Or.inl hik
        · refine Or.inr ?_
          rcases hmax i (by omega) hpi with h | h
          · subst h
            unfold lexN
            omega
          · unfold lexN at h ⊢
            omega
      · refine Or.inr ⟨a, by omega, hpw, by rw [show sLp σ (k + 1) = sLp σ k from if_neg hc]; exact he, ha3, fun i hi hpi => ?_⟩
        by_cases hik : i = k
        · subst hik
          have hlt : σ (7 + i) 1 < (sLp σ i).2 := by
            by_cases z : σ (7 + i) 1 < (sLp σ i).2
            · exact z
            · exact absurd ⟨show 0 < σ (7 + i) 7 by rw [e7]; exact hpi, z⟩ hc
          rw [he, eq] at hlt
          have := (nI_ltI (by omega) (by omega)).mp hlt
          exact Or.inr (Or.inl (by omega))
        · exact hmax i (by omega) hpi
theorem sLp_none {σ : zS} {M : Nat → Int32} (hq : qRl σ M) (h : ∀ i, i < 8 → ¬ 0 < gM M i 8) : (sLp σ 8).1 = -6 := by
  rcases sLp_spec hq 8 (Nat.le_refl 8) with ⟨-, he⟩ | ⟨a, ha, hp, -⟩
  · rw [he]
  · exact absurd hp (h a ha)
theorem sLp_last {σ : zS} {M : Nat → Int32} (hq : qRl σ M) {j : Nat} (hj : j < 8) (hp : 0 < gM M j 8) (h : ∀ i, i < 8 → 0 < gM M i 8 → i = j ∨ lexN M i j) : (sLp σ 8).1 = nI j := by
  rcases sLp_spec hq 8 (Nat.le_refl 8) with ⟨hn, -⟩ | ⟨a, ha, hpa, he, -, hmax⟩
  · exact absurd hp (hn j hj)
  · have haj : a = j := by
      rcases hmax j hj hp with h1 | h1
      · exact h1.symm
      · rcases h a ha hpa with h2 | h2
        · exact h2
        · unfold lexN at h1 h2
          omega
    rw [he, haj]
/-! sets of bits -/
theorem bits8 : ∀ X : Fin 256, ∀ j : Fin 8, X.val.testBit j.val = false → (nI X.val ||| bit (nI j.val) = nI (X.val ||| 2 ^ j.val) ∧ zbc (nI (X.val ||| 2 ^ j.val)) = zbc (nI X.val) + 1 ∧ (X.val ||| 2 ^ j.val) < 256) := by decide +kernel
theorem bitsT : ∀ X : Fin 256, ∀ j : Fin 8, ∀ i : Fin 8, (X.val ||| 2 ^ j.val).testBit i.val = (X.val.testBit i.val || decide (i = j)) := by decide +kernel
theorem bitsC : ∀ X : Fin 256, ∀ j : Fin 8, (nI X.val &&& bit (nI j.val) = 0 ↔ X.val.testBit j.val = false) ∧ ((nI X.val >>> (nI j.val &&& 31)) &&& 1 = 0 ↔ X.val.testBit j.val = false) := by decide +kernel
/-- a set of ports, as an int and as a number -/
def isSet (x : Int32) (X : Nat) : Prop := X < 256 ∧ x = nI X
theorem isSet.add {x : Int32} {X j : Nat} (h : isSet x X) (hj : j < 8) (hn : X.testBit j = false) : isSet (x ||| bit (nI j)) (X ||| 2 ^ j) ∧ zbc (x ||| bit (nI j)) = zbc x + 1 ∧ ∀ i, i < 8 → (X ||| 2 ^ j).testBit i = (X.testBit i || decide (i = j)) := by
  obtain ⟨h1, h2⟩ := h
  obtain ⟨a, b, c⟩ := bits8 ⟨X, h1⟩ ⟨j, hj⟩ hn
  simp only at a b c
  rw [h2, a]
  refine ⟨⟨c, rfl⟩, b, fun i hi => ?_⟩
  have := bitsT ⟨X, h1⟩ ⟨j, hj⟩ ⟨i, hi⟩
  simpa using this
theorem zbc0 : zbc 0 = 0 := by decide
