/-! the settings agree -/
/-- both answer the same and stay related -/
def Ag (r : Int32 × zS) (q : Int32 × (Nat → Int32)) (t u : Nat) : Prop := r.1 = q.1 ∧ RI r.2 q.2 t u
theorem inR_of {v lo hi : Int32} {a b : Nat} (hlo : lo.toInt = (a : Int)) (hhi : hi.toInt = (b : Int)) (hb : b + 1 < 2 ^ 31) (h : lo ≤ v ∧ v ≤ hi) : inR v a b := by
  have h1 := Int32.le_iff_toInt_le.mp h.1
  have h2 := Int32.le_iff_toInt_le.mp h.2
  have h3 : (0 : Int32) ≤ v := Int32.le_iff_toInt_le.mpr (by rw [Int32.toInt_zero]; omega)
  obtain ⟨e, he⟩ := znat (n := b + 1) (m := hi) (by omega) ⟨h3, h.2⟩ (by omega)
  refine ⟨v.toNatClampNeg, ?_, by omega, e⟩
  have e2 := nI_toInt (n := v.toNatClampNeg) (by omega)
  rw [← e] at e2
  omega
theorem RI.g01 {σ ρ : zS} {M N : Nat → Int32} {t u : Nat} (h : RI σ M t u) (hg : gRl ρ N t) (hρ : ∀ c, 2 ≤ c → ρ c = σ c) (hM : ∀ i, 12 ≤ i → N i = M i) : RI ρ N t u :=
  ⟨hg, h.2.1.same (Nat.le_refl u) (hρ 3 (by omega)) (hρ 4 (by omega)) (hρ 5 (by omega)) (hρ 6 (by omega)) (fun i hi _ => hM i hi), h.2.2.same (fun j hj => hρ (7 + j) (by omega)) (fun i hi => hM i (by omega))⟩
theorem RI.cap {σ : zS} {M : Nat → Int32} {t u k : Nat} {v : Int32} (h : RI σ M t u) (hk : k < 3) (hv : inR v 0 3000) : RI (up2 σ 0 k v) (upd M k v) t u := by
  refine h.g01 ?_ (fun c hc => upR_n (by omega)) (fun i hi => upd_o (by omega))
  obtain ⟨a, b, c, d, e, f, g⟩ := h.1
  refine ⟨fun j hj => ?_, by rw [upd_o (by omega)]; exact b, by rw [upd_o (by omega)]; exact c, by rw [upd_o (by omega)]; exact d, by rw [upd_o (by omega)]; exact e, by rw [upd_o (by omega)]; exact f, by rw [upd_o (by omega)]; exact g⟩
  obtain ⟨a1, a2, a3, a4⟩ := a j hj
  have e0 : up2 σ 0 k v 0 j = upd (σ 0) k v j := rfl
  have e1 : up2 σ 0 k v 1 j = σ 1 j := rfl
  rw [e0, e1, upd_o (by omega : 3 + j ≠ k)]
  by_cases hjk : j = k
  · subst hjk
    rw [upd_s, upd_s]
    exact ⟨rfl, a2, hv, a4⟩
  · rw [upd_o hjk, upd_o hjk]
    exact ⟨a1, a2, a3, a4⟩
theorem RI.wrk {σ : zS} {M : Nat → Int32} {t u k : Nat} {v : Int32} (h : RI σ M t u) (hk : k < 3) (hv : zB v) : RI (up2 σ 1 k v) (upd M (3 + k) v) t u := by
  refine h.g01 ?_ (fun c hc => upR_n (by omega)) (fun i hi => upd_o (by omega))
  obtain ⟨a, b, c, d, e, f, g⟩ := h.1
  refine ⟨fun j hj => ?_, by rw [upd_o (by omega)]; exact b, by rw [upd_o (by omega)]; exact c, by rw [upd_o (by omega)]; exact d, by rw [upd_o (by omega)]; exact e, by rw [upd_o (by omega)]; exact f, by rw [upd_o (by omega)]; exact g⟩
  obtain ⟨a1, a2, a3, a4⟩ := a j hj
  have e0 : up2 σ 1 k v 0 j = σ 0 j := rfl
  have e1 : up2 σ 1 k v 1 j = upd (σ 1) k v j := rfl
  rw [e0, e1, upd_o (by omega : j ≠ 3 + k)]
  by_cases hjk : j = k
  · subst hjk
    rw [upd_s, upd_s]
    exact ⟨a1, rfl, a3, hv⟩
  · rw [upd_o hjk, upd_o (by omega)]
    exact ⟨a1, a2, a3, a4⟩
theorem cap_ag {σ : zS} {M : Nat → Int32} {t u : Nat} (h : RI σ M t u) (s c : Int32) : Ag (mCap σ s c) (nCap M s c) t u := by
  unfold mCap nCap
  by_cases h1 : aS s
  · rw [if_pos h1, if_pos h1]
    have hk := (zn3 h1).2
    by_cases h2 : 0 ≤ c ∧ c ≤ 3000
    · rw [if_pos h2, if_pos h2]
      exact ⟨(h.1.1 _ hk).1.symm, h.cap hk (inR_of (by decide) (by decide) (by decide) h2)⟩
    · rw [if_neg h2, if_neg h2]; exact ⟨rfl, h⟩
  · rw [if_neg h1, if_neg h1]; exact ⟨rfl, h⟩
theorem zB_i {x : Int32} (h : zB x) : zi (¬ x = 0) = x := by rcases h with h | h <;> subst h <;> decide
theorem zB_if {x : Int32} (h : zB x) : (if x = 0 then (0 : Int32) else 1) = x := by rcases h with h | h <;> subst h <;> decide
theorem wrk_ag {σ : zS} {M : Nat → Int32} {t u : Nat} (h : RI σ M t u) (s w : Int32) (hw : zB w) : Ag (mWrk σ s w) (nWrk M s w) t u := by
  unfold mWrk nWrk
  by_cases h1 : aS s
  · rw [if_pos h1, if_pos h1, zB_if hw]
    have hk := (zn3 h1).2
    obtain ⟨-, a2, -, a4⟩ := h.1.1 _ hk
    exact ⟨(zB_i a4).trans a2.symm, h.wrk hk hw⟩
  · rw [if_neg h1, if_neg h1]; exact ⟨rfl, h⟩
theorem row0_ag {σ : zS} {M : Nat → Int32} {t u : Nat} (h : RI σ M t u) (v : Int32) : Ag (mRow σ 0 0 3000 v) (nRow M 6 0 3000 v) t u := by
  unfold mRow nRow
  by_cases h1 : 0 ≤ v ∧ v ≤ 3000
  · rw [if_pos h1, if_pos h1]; exact ⟨h.1.2.1.1.symm, h.s0 (inR_of (by decide) (by decide) (by decide) h1)⟩
  · rw [if_neg h1, if_neg h1]; exact ⟨rfl, h⟩
theorem row1_ag {σ : zS} {M : Nat → Int32} {t u : Nat} (h : RI σ M t u) (v : Int32) : Ag (mRow σ 1 1 30 v) (nRow M 7 1 30 v) t u := by
  unfold mRow nRow
  by_cases h1 : 1 ≤ v ∧ v ≤ 30
  · rw [if_pos h1, if_pos h1]; exact ⟨h.1.2.2.1.1.symm, h.s1 (inR_of (by decide) (by decide) (by decide) h1)⟩
  · rw [if_neg h1, if_neg h1]; exact ⟨rfl, h⟩
theorem row2_ag {σ : zS} {M : Nat → Int32} {t u : Nat} (h : RI σ M t u) (v : Int32) : Ag (mRow σ 2 1 30 v) (nRow M 8 1 30 v) t u := by
  unfold mRow nRow
  by_cases h1 : 1 ≤ v ∧ v ≤ 30
  · rw [if_pos h1, if_pos h1]; exact ⟨h.1.2.2.2.1.1.symm, h.s2 (inR_of (by decide) (by decide) (by decide) h1)⟩
  · rw [if_neg h1, if_neg h1]; exact ⟨rfl, h⟩
theorem row3_ag {σ : zS} {M : Nat → Int32} {t u : Nat} (h : RI σ M t u) (v : Int32) : Ag (mRow σ 3 1 60 v) (nRow M 9 1 60 v) t u := by
  unfold mRow nRow
  by_cases h1 : 1 ≤ v ∧ v ≤ 60
  · rw [if_pos h1, if_pos h1]; exact ⟨h.1.2.2.2.2.1.1.symm, h.s3 (inR_of (by decide) (by decide) (by decide) h1)⟩
  · rw [if_neg h1, if_neg h1]; exact ⟨rfl, h⟩
/-! ports -/
theorem pf_upd {M : Nat → Int32} {j a : Nat} {v : Int32} : (fun k => upd M (mi j a) v (mi j k)) = upd (fun k => M (mi j k)) a v := by
  funext k
  by_cases h : k = a
  · subst h; rw [upd_s, upd_s]
  · rw [upd_o (by unfold mi; omega), upd_o h]
theorem pf_lose {M : Nat → Int32} {j : Nat} : (fun k => nLose M j (mi j k)) = upd (upd (fun k => M (mi j k)) 8 0) 9 0 := by
  unfold nLose
  rw [pf_upd, pf_upd]
theorem ena_ag {σ : zS} {M : Nat → Int32} {t u : Nat} (h : RI σ M t u) (p b : Int32) (hb : zB b) : Ag (mEna σ p b) (nEna M p b) t u := by
  unfold mEna nEna
  by_cases h1 : aP p
  · rw [if_pos h1, if_pos h1]
    have hj := (zn8 h1).2
    generalize hjx : ix p = j at *
    obtain ⟨hp, hi⟩ := h.2.2 j (by rw [← hjx]; exact hj)
    have hj8 : j < 8 := by rw [← hjx]; exact hj
    have e0 : zi (¬ σ (7 + j) 0 = 0) = gM M j 0 := (zB_i hi.1.1).trans hp.1
    by_cases hz : b = 0
    · subst hz
      rw [if_pos rfl, if_pos rfl]
      refine ⟨?_, ?_⟩
      · show zi (¬ po σ p 0 = 0) = upd (nLose M j) (mi j 10) 0 (mi j 0)
        rw [upd_o (by unfold mi; omega), nLose_o (by unfold mi; omega) (by unfold mi; omega)]
        unfold po
        rw [hjx]
        exact e0
      · show RI (upP σ p _) _ t u
        unfold upP po
        rw [hjx]
        refine h.port hj8 ?_ ?_ (fun i hh => ?_)
        · rw [pf_upd, pf_upd, pf_lose]
          obtain ⟨a, b, c, d, e, f1, g⟩ := hp
          exact ⟨rfl, b, c, rfl, rfl, rfl, g⟩
        · obtain ⟨⟨z1, z2, z3⟩, b, c, d, e, f1, g, kk⟩ := hi
          exact ⟨⟨Or.inl rfl, z2, z3⟩, b, ⟨0, by omega, rfl⟩, fun q => absurd (show (0 : Int32) < 0 from q) (by decide), fun _ => rfl, ⟨0, by omega, rfl⟩, ⟨0, by omega, rfl⟩, kk⟩
        · refine (upd_o (hh 0 (by omega))).trans ?_
          rw [upd_o (hh 10 (by omega)), nLose_o (hh 8 (by omega)) (hh 9 (by omega))]
    · have hb1 : b = 1 := hb.resolve_left hz
      subst hb1
      rw [if_neg hz, if_neg hz]
      refine ⟨?_, ?_⟩
      · show zi (¬ po σ p 0 = 0) = M (mi j 0)
        unfold po
        rw [hjx]
        exact e0
      · show RI (upP σ p _) _ t u
        unfold upP po
        rw [hjx]
        refine h.port hj8 ?_ ?_ (fun i hh => upd_o (hh 0 (by omega)))
        · rw [pf_upd]
          obtain ⟨a, b, c, d, e, f1, g⟩ := hp
          exact ⟨rfl, b, c, d, e, f1, g⟩
        · obtain ⟨⟨z1, z2, z3⟩, b, c, d, e, f1, g, kk⟩ := hi
          exact ⟨⟨Or.inr rfl, z2, z3⟩, b, c, d, e, f1, g, kk⟩
  · rw [if_neg h1, if_neg h1]; exact ⟨rfl, h⟩
theorem pri_ag {σ : zS} {M : Nat → Int32} {t u : Nat} (h : RI σ M t u) (p q : Int32) : Ag (mPri σ p q) (nPri M p q) t u := by
  unfold mPri nPri upP po
  by_cases h1 : aP p
  · have hj8 := (zn8 h1).2
    rw [if_pos h1, if_pos h1]
    change ix p < 8 at hj8
    generalize ix p = j at *
    obtain ⟨hp, hi⟩ := h.2.2 j hj8
    by_cases h2 : 0 ≤ q ∧ q ≤ 2
    · rw [if_pos h2, if_pos h2]
      refine ⟨hp.2.1, h.port hj8 ?_ ?_ (fun i hh => upd_o (hh 1 (by omega)))⟩
      · rw [pf_upd]
        obtain ⟨a, b, c, d, e, f1, g⟩ := hp
        exact ⟨a, rfl, c, d, e, f1, g⟩
      · obtain ⟨a, b, c, d, e, f1, g, kk⟩ := hi
        obtain ⟨v, -, hv, ev⟩ := inR_of (lo := 0) (hi := 2) (a := 0) (b := 2) (by decide) (by decide) (by decide) h2
        exact ⟨a, ⟨v, by omega, ev⟩, c, d, e, f1, g, kk⟩
    · rw [if_neg h2, if_neg h2]; exact ⟨rfl, h⟩
  · rw [if_neg h1, if_neg h1]; exact ⟨rfl, h⟩
theorem co_eq {σ : zS} {M : Nat → Int32} {j : Nat} (hp : pRl (σ (7 + j)) (fun k => M (mi j k))) (hi : pIv (σ (7 + j))) : (¬ σ (7 + j) 2 = 0) ↔ nCo M j := by
  have e2 : σ (7 + j) 2 = gM M j 2 := hp.2.2.1
  rw [zB_1 hi.1.2.1, e2]
theorem loa_ag {σ : zS} {M : Nat → Int32} {t u : Nat} (h : RI σ M t u) (p w : Int32) : Ag (mLoa σ p w) (nLoa M p w) t u := by
  unfold mLoa nLoa upP po
  by_cases h1 : aP p
  · have hj8 := (zn8 h1).2
    rw [if_pos h1, if_pos h1]
    change ix p < 8 at hj8
    generalize ix p = j at *
    obtain ⟨hp, hi⟩ := h.2.2 j hj8
    have hco := co_eq hp hi
    by_cases h2 : 0 ≤ w ∧ w ≤ 999
    · rw [if_pos h2, if_pos h2]
      by_cases h3 : σ (7 + j) 2 = 0
      · rw [if_pos h3, if_neg (fun z => hco.mpr z h3)]; exact ⟨rfl, h⟩
      · rw [if_neg h3, if_pos (hco.mp h3)]
        have h21 := (zB_1 hi.1.2.1).mp h3
        refine ⟨(hp.2.2.2.2.2.2 h21).1, h.port hj8 ?_ ?_ (fun i hh => upd_o (hh 6 (by omega)))⟩
        · rw [pf_upd]
          obtain ⟨a, b, c, d, e, f1, g⟩ := hp
          exact ⟨a, b, c, d, e, f1, fun q => ⟨rfl, (g q).2⟩⟩
        · exact hi
    · rw [if_neg h2, if_neg h2]; exact ⟨rfl, h⟩
  · rw [if_neg h1, if_neg h1]; exact ⟨rfl, h⟩
theorem mx0 : mxF (-6) = 0 := by decide
theorem con_ag {σ : zS} {M : Nat → Int32} {t u : Nat} (h : RI σ M t u) (p r c i w : Int32) : Ag (mCon σ p r c i w) (nCon M p r c i w) t u := by
  unfold mCon nCon upP po
  by_cases h1 : aP p
  · have hj8 := (zn8 h1).2
    rw [if_pos h1, if_pos h1]
    change ix p < 8 at hj8
    generalize ix p = j at *
    obtain ⟨hp, hi⟩ := h.2.2 j hj8
    have hco := co_eq hp hi
    by_cases h2 : (1 ≤ r ∧ r ≤ 999) ∧ (0 ≤ c ∧ c ≤ 99) ∧ (0 ≤ i ∧ i ≤ 60) ∧ (0 ≤ w ∧ w ≤ 999)
    · rw [if_pos h2, if_pos h2]
      by_cases h3 : σ (7 + j) 2 = 0
      · rw [if_pos h3, if_neg (fun z => hco.mpr z h3), clF_eq]
        have hcl := clM_v i
        generalize hke : clM i = k at *
        have hmx : mxF k = if 0 ≤ k then nMx k else 0 := by
          by_cases hk : k = -6
          · subst hk; decide
          · rw [(mx_eq hcl hk).1, if_pos]
            rcases hcl with h | h | h | h | h | h <;> first | exact absurd h hk | (subst h; decide)
        refine ⟨rfl, h.port hj8 ?_ ?_ (fun i hh => ?_)⟩
        · simp only [pf_upd]
          obtain ⟨a, b, c, d, e, f1, g⟩ := hp
          exact ⟨a, b, rfl, d, e, f1, fun _ => ⟨rfl, hmx, rfl, hke.symm⟩⟩
        · obtain ⟨⟨z1, z2, z3⟩, b, c, d, e, f1, g, kk⟩ := hi
          exact ⟨⟨z1, Or.inr rfl, zi_B⟩, b, c, fun _ => rfl, e, f1, g, fun _ hk => (mx_eq hcl hk).2⟩
        · refine (upd_o (hh 7 (by omega))).trans ?_
          rw [upd_o (hh 6 (by omega)), upd_o (hh 5 (by omega)), upd_o (hh 4 (by omega)), upd_o (hh 3 (by omega)), upd_o (hh 2 (by omega))]
      · rw [if_neg h3, if_pos (hco.mp h3)]; exact ⟨rfl, h⟩
    · rw [if_neg h2, if_neg h2]; exact ⟨rfl, h⟩
  · rw [if_neg h1, if_neg h1]; exact ⟨rfl, h⟩
theorem dis_ag {σ : zS} {M : Nat → Int32} {t u : Nat} (h : RI σ M t u) (p : Int32) : Ag (mDis σ p) (nDis M p) t u := by
  unfold mDis nDis upP po
  by_cases h1 : aP p
  · have hj8 := (zn8 h1).2
    rw [if_pos h1, if_pos h1]
    change ix p < 8 at hj8
    generalize ix p = j at *
    obtain ⟨hp, hi⟩ := h.2.2 j hj8
    have hco := co_eq hp hi
    by_cases h3 : σ (7 + j) 2 = 0
    · rw [if_pos h3, if_neg (fun z => hco.mpr z h3)]; exact ⟨rfl, h⟩
    · rw [if_neg h3, if_pos (hco.mp h3)]
      refine ⟨?_, h.port hj8 ?_ ?_ (fun i hh => ?_)⟩
      · exact zi_iff (by rw [show σ (7 + j) 7 = gM M j 8 from hp.2.2.2.1])
      · simp only [nDz, pf_upd, pf_lose]
        obtain ⟨a, b, c, d, e, f1, g⟩ := hp
        exact ⟨a, b, rfl, rfl, rfl, rfl, fun q => absurd (show (0 : Int32) = 1 from q) (by decide)⟩
      · obtain ⟨⟨z1, z2, z3⟩, b, c, d, e, f1, g, kk⟩ := hi
        exact ⟨⟨z1, Or.inl rfl, z3⟩, b, ⟨0, by omega, rfl⟩, fun q => absurd (show (0 : Int32) < 0 from q) (by decide), fun _ => rfl, ⟨0, by omega, rfl⟩, ⟨0, by omega, rfl⟩, fun q => absurd (show (0 : Int32) = 1 from q) (by decide)⟩
      · simp only [nDz]
        rw [upd_o (hh 10 (by omega)), upd_o (hh 7 (by omega)), upd_o (hh 6 (by omega)), upd_o (hh 5 (by omega)), upd_o (hh 4 (by omega)), upd_o (hh 3 (by omega)), upd_o (hh 2 (by omega)), nLose_o (hh 8 (by omega)) (hh 9 (by omega))]
  · rw [if_neg h1, if_neg h1]; exact ⟨rfl, h⟩
theorem req_c {σ : zS} {M : Nat → Int32} {j : Nat} (hp : pRl (σ (7 + j)) (fun k => M (mi j k))) (hi : pIv (σ (7 + j))) : ((¬ σ (7 + j) 2 = 0 ∧ ¬ σ (7 + j) 4 = -6) ↔ 0 ≤ nCl M j) ∧ (¬ σ (7 + j) 2 = 0 ∧ ¬ σ (7 + j) 4 = -6 → σ (7 + j) 2 = 1 ∧ σ (7 + j) 4 = nCl M j ∧ σ (7 + j) 6 = gM M j 7 ∧ mxF (σ (7 + j) 4) = nMx (nCl M j) ∧ inR (mxF (σ (7 + j) 4)) 1 300) := by
  have hco := co_eq hp hi
  have h4 : ¬ σ (7 + j) 2 = 0 → σ (7 + j) 4 = nCl M j := fun z => by
    rw [show nCl M j = clM (gM M j 5) from if_pos (hco.mp z)]
    exact (hp.2.2.2.2.2.2 ((zB_1 hi.1.2.1).mp z)).2.2.2
  have hv : ¬ σ (7 + j) 2 = 0 → (nCl M j = 0 ∨ nCl M j = 1 ∨ nCl M j = 2 ∨ nCl M j = 3 ∨ nCl M j = 4 ∨ nCl M j = -6) := fun z => by
    rw [show nCl M j = clM (gM M j 5) from if_pos (hco.mp z)]
    exact clM_v _
  refine ⟨⟨fun z => ?_, fun z => ?_⟩, fun z => ?_⟩
  · rw [zle, cl_neg (hv z.1), ← h4 z.1]; exact z.2
  · have hc : nCo M j := by
      by_cases hc : nCo M j
      · exact hc
      · rw [show nCl M j = -6 from if_neg hc] at z
        exact absurd z (by decide)
    have h2 := hco.mpr hc
    refine ⟨h2, ?_⟩
    rw [h4 h2, ← cl_neg (hv h2)]
    exact zle.mp z
  · have h2 := (zB_1 hi.1.2.1).mp z.1
    have hm := mx_eq (hv z.1) (by rw [← h4 z.1]; exact z.2)
    exact ⟨h2, h4 z.1, (hp.2.2.2.2.2.2 h2).2.1, by rw [h4 z.1]; exact hm.1, by rw [h4 z.1]; exact hm.2⟩
theorem req_ag {σ : zS} {M : Nat → Int32} {t u : Nat} (h : RI σ M t u) (p w : Int32) : Ag (mReq σ p w) (nReq M p w) t u := by
  unfold mReq nReq upP po
  by_cases h1 : aP p
  · have hj8 := (zn8 h1).2
    rw [if_pos h1, if_pos h1]
    change ix p < 8 at hj8
    generalize ix p = j at *
    obtain ⟨hp, hi⟩ := h.2.2 j hj8
    obtain ⟨hc1, hc2⟩ := req_c hp hi
    have e7 : σ (7 + j) 7 = gM M j 8 := hp.2.2.2.1
    by_cases h2 : ¬ σ (7 + j) 2 = 0 ∧ ¬ σ (7 + j) 4 = -6
    · obtain ⟨k1, k2, k3, k4, k5⟩ := hc2 h2
      rw [if_pos h2, if_pos (hc1.mp h2), ← k4]
      by_cases h3 : 1 ≤ w ∧ w ≤ mxF (σ (7 + j) 4)
      · rw [if_pos h3, if_pos h3]
        have hw : inR w 1 300 := by
          obtain ⟨x, hx1, hx2, ex⟩ := k5
          rw [ex] at h3
          obtain ⟨v, a, b, c⟩ := inR_of (a := 1) (b := x) (by decide) (nI_toInt (by omega)) (by omega) h3
          exact ⟨v, a, by omega, c⟩
        by_cases h4 : 0 < σ (7 + j) 7
        · have hsp := sp_eq h.1 h.2.2 8 (Nat.le_refl 8)
          rw [← e7, hsp, if_pos h4, if_pos h4]
          by_cases h5 : 0 < w - σ (7 + j) 7 ∧ sSp σ 8 < w - σ (7 + j) 7
          · rw [if_pos h5, if_pos h5]; exact ⟨rfl, h⟩
          · rw [if_neg h5, if_neg h5]
            refine ⟨?_, h.port hj8 ?_ ?_ (fun i hh => ?_)⟩
            · show σ (7 + j) 6 = upd M (mi j 8) w (mi j 7)
              rw [upd_o (by unfold mi; omega)]
              exact k3
            · simp only [pf_upd]
              obtain ⟨a, b, c, d, e, f1, g⟩ := hp
              exact ⟨a, b, c, rfl, e, f1, fun q => ⟨(g q).1, rfl, (g q).2.2⟩⟩
            · obtain ⟨a, b, c, d, e, f1, g, kk⟩ := hi
              obtain ⟨v, hv1, hv2, ev⟩ := hw
              refine ⟨a, b, ⟨v, hv2, ev⟩, fun _ => k1, fun q => ?_, f1, g, fun _ _ => ⟨v, hv1, hv2, ev⟩⟩
              have q : w = 0 := q
              rw [ev] at q
              exact absurd q (nI_ne0 (by omega) (by omega))
            · refine (upd_o (hh 7 (by omega))).trans ?_
              rw [upd_o (hh 8 (by omega))]
        · rw [if_neg h4, if_neg (by rw [← e7]; exact h4)]
          refine ⟨k3, h.port hj8 ?_ ?_ (fun i hh => upd_o (hh 7 (by omega)))⟩
          · simp only [pf_upd]
            obtain ⟨a, b, c, d, e, f1, g⟩ := hp
            exact ⟨a, b, c, d, e, f1, fun q => ⟨(g q).1, rfl, (g q).2.2⟩⟩
          · obtain ⟨a, b, c, d, e, f1, g, kk⟩ := hi
            exact ⟨a, b, c, d, e, f1, g, fun _ _ => hw⟩
      · rw [if_neg h3, if_neg h3]; exact ⟨rfl, h⟩
    · rw [if_neg h2, if_neg (fun z => h2 (hc1.mpr z))]; exact ⟨rfl, h⟩
  · rw [if_neg h1, if_neg h1]; exact ⟨rfl, h⟩
/-! reads -/
theorem rqt_eq {σ : zS} {M : Nat → Int32} {t u : Nat} (h : RI σ M t u) (p : Int32) : mRqt σ p = nRqt M p := by
  unfold mRqt nRqt po
  by_cases h1 : aP p
  · have hj8 := (zn8 h1).2
    rw [if_pos h1, if_pos h1]
    change ix p < 8 at hj8
    generalize ix p = j at *
    obtain ⟨hp, hi⟩ := h.2.2 j hj8
    obtain ⟨hc1, hc2⟩ := req_c hp hi
    by_cases h2 : ¬ σ (7 + j) 2 = 0 ∧ ¬ σ (7 + j) 4 = -6
    · rw [if_pos h2, if_pos (hc1.mp h2)]; exact (hc2 h2).2.2.1
    · rw [if_neg h2, if_neg (fun z => h2 (hc1.mpr z))]
  · rw [if_neg h1, if_neg h1]
theorem fld_eq {σ : zS} {M : Nat → Int32} {t u : Nat} (h : RI σ M t u) (p : Int32) : mFld σ 7 p = nFld M 8 p ∧ mFld σ 8 p = nFld M 9 p ∧ mFld σ 9 p = nFld M 10 p := by
  unfold mFld nFld po
  by_cases h1 : aP p
  · have hj8 := (zn8 h1).2
    rw [if_pos h1, if_pos h1, if_pos h1, if_pos h1, if_pos h1, if_pos h1]
    obtain ⟨hp, hi⟩ := h.2.2 _ hj8
    exact ⟨hp.2.2.2.1, hp.2.2.2.2.1, hp.2.2.2.2.2.1⟩
  · rw [if_neg h1, if_neg h1, if_neg h1, if_neg h1, if_neg h1, if_neg h1]
    exact ⟨rfl, rfl, rfl⟩
theorem evt_eq {σ : zS} {M : Nat → Int32} {t u : Nat} (h : RI σ M t u) (i : Int32) : mEvt σ 0 i = nOf M 0 i ∧ mEvt σ 1 i = nOf M 1 i ∧ mEvt σ 2 i = nOf M 2 i := by
  obtain ⟨o, c, ho, hc, h0, h1, h12, hall⟩ := h.2.1
  have hiff : (0 ≤ i ∧ i < σ 6 1) ↔ (0 ≤ i ∧ i ≤ M 12 - 1) := by
    have e1 : (nI c - 1).toInt = (c : Int) - 1 := by
      have := pk_sub_toInt (a := c) (b := 1) (by omega) (by omega)
      exact this
    rw [h1, h12]
    have e2 := nI_toInt (n := c) (by omega)
    constructor
    · intro z
      refine ⟨z.1, Int32.le_iff_toInt_le.mpr ?_⟩
      have := Int32.lt_iff_toInt_lt.mp z.2
      omega
    · intro z
      refine ⟨z.1, Int32.lt_iff_toInt_lt.mpr ?_⟩
      have := Int32.le_iff_toInt_le.mp z.2
      omega
  unfold mEvt nOf
  by_cases hz : 0 ≤ i ∧ i < σ 6 1
  · have hz' := hiff.mp hz
    rw [if_pos hz, if_pos hz, if_pos hz, if_pos hz', if_pos hz', if_pos hz']
    have hi : ix i < c := by
      obtain ⟨e, hlt⟩ := znat (n := c + 1) (m := nI c) (by rw [nI_toInt (by omega)]; omega) ⟨hz.1, by
        have := hz.2
        rw [h1] at this
        exact Int32.le_of_lt this⟩ (by omega)
      have := hz.2
      rw [h1, e] at this
      show i.toNatClampNeg < c
      exact (nI_ltI (by omega) (by omega)).mp this
    obtain ⟨a, b, d, -⟩ := hall (ix i) hi
    have eo : (σ 6 0).toNatClampNeg = o := by rw [h0]; exact nI_clamp (by omega)
    rw [eo]
    exact ⟨a.symm, b.symm, d.symm⟩
  · rw [if_neg hz, if_neg hz, if_neg hz, if_neg (fun z => hz (hiff.mpr z)), if_neg (fun z => hz (hiff.mpr z)), if_neg (fun z => hz (hiff.mpr z))]
    exact ⟨rfl, rfl, rfl⟩
