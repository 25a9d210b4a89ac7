/-! the class's state and the model's, side by side -/
def pRl (f g : Nat → Int32) : Prop := f 0 = g 0 ∧ f 1 = g 1 ∧ f 2 = g 2 ∧ f 7 = g 8 ∧ f 8 = g 9 ∧ f 9 = g 10 ∧ (f 2 = 1 → f 5 = g 6 ∧ f 6 = g 7 ∧ f 3 = zi ((190 ≤ g 3 ∧ g 3 ≤ 265) ∧ g 4 ≤ 15) ∧ f 4 = clM (g 5))
def pIv (f : Nat → Int32) : Prop := zbo f ∧ (∃ q, q < 3 ∧ f 1 = nI q) ∧ (∃ v, v ≤ 300 ∧ f 7 = nI v) ∧ (0 < f 7 → f 2 = 1) ∧ (f 7 = 0 → f 8 = 0) ∧ (∃ v, v ≤ 30 ∧ f 8 = nI v) ∧ (∃ c, c ≤ 60 ∧ f 9 = nI c) ∧ (f 2 = 1 → ¬ f 4 = -6 → ∃ r, 1 ≤ r ∧ r ≤ 300 ∧ f 6 = nI r)
def lRl (σ : zS) (M : Nat → Int32) (u : Nat) : Prop := ∃ o c : Nat, o < 16 ∧ c ≤ 16 ∧ σ 6 0 = nI o ∧ σ 6 1 = nI c ∧ M 12 = nI c ∧ ∀ i, i < c → M (13 + 3 * i) = σ 3 ((o + i) % 16) ∧ M (13 + 3 * i + 1) = σ 4 ((o + i) % 16) ∧ M (13 + 3 * i + 2) = σ 5 ((o + i) % 16) ∧ ∃ s, s < u ∧ M (13 + 3 * i) = nI s
def inR (x : Int32) (lo hi : Nat) : Prop := ∃ v, lo ≤ v ∧ v ≤ hi ∧ x = nI v
def gRl (σ : zS) (M : Nat → Int32) (t : Nat) : Prop := (∀ k, k < 3 → M k = σ 0 k ∧ M (3 + k) = σ 1 k ∧ inR (σ 0 k) 0 3000 ∧ zB (σ 1 k)) ∧ (M 6 = σ 2 0 ∧ inR (σ 2 0) 0 3000) ∧ (M 7 = σ 2 1 ∧ inR (σ 2 1) 1 30) ∧ (M 8 = σ 2 2 ∧ inR (σ 2 2) 1 30) ∧ (M 9 = σ 2 3 ∧ inR (σ 2 3) 1 60) ∧ (M 10 = σ 2 4 ∧ inR (σ 2 4) 0 30) ∧ (M 11 = σ 2 5 ∧ σ 2 5 = nI t)
def qRl (σ : zS) (M : Nat → Int32) : Prop := ∀ j, j < 8 → pRl (σ (7 + j)) (fun k => M (mi j k)) ∧ pIv (σ (7 + j))
def RI (σ : zS) (M : Nat → Int32) (t u : Nat) : Prop := gRl σ M t ∧ lRl σ M u ∧ qRl σ M
/-! budget -/
theorem sum_eq {σ : zS} {M : Nat → Int32} {t : Nat} (h : gRl σ M t) : ∀ k, k ≤ 3 → ∃ S, S ≤ 3000 * k ∧ sSum σ k = nI S ∧ nSum M k = nI S
  | 0, _ => ⟨0, by omega, rfl, rfl⟩
  | k + 1, hk => by
    obtain ⟨S, h1, h2, h3⟩ := sum_eq h k (by omega)
    obtain ⟨e0, e1, ⟨c, -, hc, ec⟩, hz⟩ := h.1 k (by omega)
    have e0' : M (0 + k) = nI c := by rw [Nat.zero_add, e0, ec]
    rcases hz with hz | hz
    · refine ⟨S, by omega, ?_, ?_⟩
      · rw [show sSum σ (k + 1) = sSum σ k from if_pos hz]; exact h2
      · show nSum M k + M (3 + k) * M (0 + k) = nI S
        rw [e1, hz, Int32.zero_mul, Int32.add_zero]; exact h3
    · refine ⟨S + c, by omega, ?_, ?_⟩
      · rw [show sSum σ (k + 1) = sSum σ k + σ 0 k from if_neg (by rw [hz]; decide), h2, ec, nI_add]
      · show nSum M k + M (3 + k) * M (0 + k) = nI (S + c)
        rw [e1, hz, Int32.one_mul, e0', h3, nI_add]
theorem bud_eq {σ : zS} {M : Nat → Int32} {t : Nat} (h : gRl σ M t) : nBud M = sBud σ ∧ ∃ B, B ≤ 9000 ∧ sBud σ = nI B := by
  obtain ⟨S, h1, h2, h3⟩ := sum_eq h 3 (Nat.le_refl 3)
  obtain ⟨e6, r, -, hr, er⟩ := h.2.1
  unfold nBud sBud
  rw [h2, h3, e6, er]
  by_cases hle : S ≤ r
  · have h4 : nI S ≤ nI r := nI_le hle (by omega)
    have h5 : ¬ 0 < nI S - nI r := by
      rw [Int32.lt_iff_toInt_lt, pk_sub_toInt (by omega) (by omega), Int32.toInt_zero]
      omega
    rw [if_pos h4, if_neg h5]
    exact ⟨rfl, 0, by omega, rfl⟩
  · have h4 : ¬ nI S ≤ nI r := nI_ge (by omega) (by omega)
    have h5 : 0 < nI S - nI r := by
      rw [Int32.lt_iff_toInt_lt, pk_sub_toInt (by omega) (by omega), Int32.toInt_zero]
      omega
    rw [if_neg h4, if_pos h5]
    exact ⟨rfl, S - r, by omega, pk_sub (by omega)⟩
theorem sp_eq {σ : zS} {M : Nat → Int32} {t : Nat} (h : gRl σ M t) (hq : qRl σ M) : ∀ k, k ≤ 8 → nAv M k = sSp σ k
  | 0, _ => (bud_eq h).1
  | k + 1, hk => by
    show nAv M k - gM M k 8 = sSp σ k - σ (7 + k) 7
    rw [sp_eq h hq k (by omega)]
    exact congrArg (fun v => sSp σ k - v) (hq k (by omega)).1.2.2.2.1.symm
/-! classes -/
theorem clM_v (x : Int32) : clM x = 0 ∨ clM x = 1 ∨ clM x = 2 ∨ clM x = 3 ∨ clM x = 4 ∨ clM x = -6 := by
  unfold clM
  by_cases h1 : 0 ≤ x ∧ x ≤ 4
  · rw [if_pos h1]; exact Or.inl rfl
  · rw [if_neg h1]
    by_cases h2 : 9 ≤ x ∧ x ≤ 12
    · rw [if_pos h2]; exact Or.inr (Or.inl rfl)
    · rw [if_neg h2]
      by_cases h3 : 17 ≤ x ∧ x ≤ 20
      · rw [if_pos h3]; exact Or.inr (Or.inr (Or.inl rfl))
      · rw [if_neg h3]
        by_cases h4 : 26 ≤ x ∧ x ≤ 30
        · rw [if_pos h4]; exact Or.inr (Or.inr (Or.inr (Or.inl rfl)))
        · rw [if_neg h4]
          by_cases h5 : 36 ≤ x ∧ x ≤ 44
          · rw [if_pos h5]; exact Or.inr (Or.inr (Or.inr (Or.inr (Or.inl rfl))))
          · rw [if_neg h5]; exact Or.inr (Or.inr (Or.inr (Or.inr (Or.inr rfl))))
theorem clF_eq (x : Int32) : clF x 5 0 = clM x := rfl
theorem cl_neg {c : Int32} (h : c = 0 ∨ c = 1 ∨ c = 2 ∨ c = 3 ∨ c = 4 ∨ c = -6) : c < 0 ↔ c = -6 := by
  rcases h with h | h | h | h | h | h <;> subst h <;> decide
theorem mx_eq {c : Int32} (h : c = 0 ∨ c = 1 ∨ c = 2 ∨ c = 3 ∨ c = 4 ∨ c = -6) (hn : ¬ c = -6) : mxF c = nMx c ∧ inR (mxF c) 1 300 := by
  rcases h with h | h | h | h | h | h
  · subst h; exact ⟨by decide, 154, by decide, by decide, by decide⟩
  · subst h; exact ⟨by decide, 40, by decide, by decide, by decide⟩
  · subst h; exact ⟨by decide, 70, by decide, by decide, by decide⟩
  · subst h; exact ⟨by decide, 154, by decide, by decide, by decide⟩
  · subst h; exact ⟨by decide, 300, by decide, by decide, by decide⟩
  · exact absurd h hn
theorem zB_1 {x : Int32} (h : zB x) : (¬ x = 0) ↔ x = 1 := by
  rcases h with h | h <;> subst h <;> decide
theorem el_eq {σ : zS} {M : Nat → Int32} {j : Nat} (h : pRl (σ (7 + j)) (fun k => M (mi j k)) ∧ pIv (σ (7 + j))) : pEli (σ (7 + j)) ↔ nEl M j := by
  obtain ⟨⟨e0, e1, e2, e7, e8, e9, hc⟩, hiv⟩ := h
  have z0 := zB_1 hiv.1.1
  have z2 := zB_1 hiv.1.2.1
  have z3 := zB_1 hiv.1.2.2
  have e0 : σ (7 + j) 0 = gM M j 0 := e0
  have e2 : σ (7 + j) 2 = gM M j 2 := e2
  constructor
  · intro ⟨a0, a3, a2, a4⟩
    have h2 := z2.mp a2
    obtain ⟨-, -, e3, e4⟩ := hc h2
    have hco : nCo M j := e2.symm.trans h2
    have hd : (190 ≤ gM M j 3 ∧ gM M j 3 ≤ 265) ∧ gM M j 4 ≤ 15 := by
      by_cases q : (190 ≤ gM M j 3 ∧ gM M j 3 ≤ 265) ∧ gM M j 4 ≤ 15
      · exact q
      · exact absurd (e3.trans (zi_f q)) a3
    refine ⟨e0.symm.trans (z0.mp a0), ⟨hco, hd.1, hd.2⟩, ?_⟩
    rw [show nCl M j = clM (gM M j 5) from if_pos hco, cl_neg (clM_v _)]
    exact fun q => a4 (e4.trans q)
  · intro ⟨b0, ⟨hco, b3, b4⟩, b5⟩
    have h2 : σ (7 + j) 2 = 1 := e2.trans hco
    obtain ⟨-, -, e3, e4⟩ := hc h2
    rw [show nCl M j = clM (gM M j 5) from if_pos hco, cl_neg (clM_v _)] at b5
    exact ⟨z0.mpr (e0.trans b0), fun q => absurd (q.symm.trans e3) (by rw [zi_t ⟨b3, b4⟩]; decide), z2.mpr h2, fun q => b5 (e4.symm.trans q)⟩
theorem el_on {f : Nat → Int32} (h : pIv f) (he : pEli f) : f 2 = 1 := (zB_1 h.1.2.1).mp he.2.2.1
theorem can_eq {σ : zS} {M : Nat → Int32} {t j : Nat} (hg : gRl σ M t) (hq : qRl σ M) (hj : j < 8) : pCan (σ (7 + j)) (sSp σ 8) ↔ nCan M j := by
  have h := hq j hj
  have he := el_eq h
  have e7 : σ (7 + j) 7 = gM M j 8 := h.1.2.2.2.1
  have e9 : σ (7 + j) 9 = gM M j 10 := h.1.2.2.2.2.2.1
  have es := sp_eq hg hq 8 (Nat.le_refl 8)
  constructor
  · intro ⟨a, b, c, d⟩
    have e6 : σ (7 + j) 6 = gM M j 7 := (h.1.2.2.2.2.2.2 (el_on h.2 a)).2.1
    exact ⟨he.mp a, by rw [← e7]; exact b, by rw [← e9]; exact c, by rw [es, ← e6]; exact zle.mp d⟩
  · intro ⟨a, b, c, d⟩
    have a' := he.mpr a
    have e6 : σ (7 + j) 6 = gM M j 7 := (h.1.2.2.2.2.2.2 (el_on h.2 a')).2.1
    exact ⟨a', by rw [e7]; exact b, by rw [e9]; exact c, by rw [e6, ← es]; exact zle.mpr d⟩
/-! sets of ports -/
theorem or_z (x : Int32) : x ||| 0 = x := Int32.or_zero
theorem elS_eq {σ : zS} {M : Nat → Int32} (hq : qRl σ M) : ∀ k, k ≤ 8 → sEl σ k = nEs M k
  | 0, _ => rfl
  | k + 1, hk => by
    have ih := elS_eq hq k (by omega)
    have he := el_eq (hq k (by omega))
    by_cases h : pEli (σ (7 + k))
    · rw [show sEl σ (k + 1) = sEl σ k ||| bit (nI k) from if_pos h, show nEs M (k + 1) = nEs M k ||| bit (nI k) from congrArg (fun v => nEs M k ||| v) (if_pos (he.mp h)), ih]
    · rw [show sEl σ (k + 1) = sEl σ k from if_neg h, show nEs M (k + 1) = nEs M k ||| 0 from congrArg (fun v => nEs M k ||| v) (if_neg (fun q => h (he.mpr q))), ih, or_z]
theorem pwS_eq {σ : zS} {M : Nat → Int32} (hq : qRl σ M) : ∀ k, k ≤ 8 → sPw σ k = nPs M k
  | 0, _ => rfl
  | k + 1, hk => by
    have ih := pwS_eq hq k (by omega)
    have e7 : σ (7 + k) 7 = gM M k 8 := (hq k (by omega)).1.2.2.2.1
    by_cases h : 0 < σ (7 + k) 7
    · rw [show sPw σ (k + 1) = sPw σ k ||| bit (nI k) from if_pos h, show nPs M (k + 1) = nPs M k ||| bit (nI k) from congrArg (fun v => nPs M k ||| v) (if_pos (by rw [← e7]; exact h)), ih]
    · rw [show sPw σ (k + 1) = sPw σ k from if_neg h, show nPs M (k + 1) = nPs M k ||| 0 from congrArg (fun v => nPs M k ||| v) (if_neg (by rw [← e7]; exact h)), ih, or_z]
/-! what the model's walks need -/
theorem RI.ok {σ : zS} {M : Nat → Int32} {t u : Nat} (h : RI σ M t u) : nOk M ∧ sOk σ ∧ sBo σ := by
  obtain ⟨hg, ⟨o, c, ho, hc, h0, h1, h12, -⟩, hq⟩ := h
  refine ⟨nOk.of (fun j hj => ?_) h12 hc, sOk.of ho hc h0 h1, fun k hk => (hg.1 k hk).2.2.2, fun k hk => (hq k hk).2.1⟩
  obtain ⟨⟨-, e1, -⟩, -, ⟨q, hq3, eq⟩, -⟩ := hq j hj
  have e : gM M j 1 = nI q := e1.symm.trans eq
  rcases (show q = 0 ∨ q = 1 ∨ q = 2 by omega) with z | z | z
  · exact Or.inl (by rw [e, z])
  · exact Or.inr (Or.inl (by rw [e, z]))
  · exact Or.inr (Or.inr (by rw [e, z]))
