/-! scalars under the relation -/
theorem gRl.s0 {σ : zS} {M : Nat → Int32} {t : Nat} {v : Int32} (h : gRl σ M t) (hv : inR v 0 3000) : gRl (upR σ 2 (upd (σ 2) 0 v)) (upd M 6 v) t := by
  obtain ⟨a, b, c, d, e, f, g⟩ := h
  exact ⟨fun k hk => by rw [upd_o (by omega), upd_o (by omega)]; exact a k hk, ⟨upd_s.trans (show v = upR σ 2 (upd (σ 2) 0 v) 2 0 from rfl), hv⟩, by rw [upd_o (by omega)]; exact c, by rw [upd_o (by omega)]; exact d, by rw [upd_o (by omega)]; exact e, by rw [upd_o (by omega)]; exact f, by rw [upd_o (by omega)]; exact g⟩
theorem RI.s0 {σ : zS} {M : Nat → Int32} {t u : Nat} {v : Int32} (h : RI σ M t u) (hv : inR v 0 3000) : RI (upR σ 2 (upd (σ 2) 0 v)) (upd M 6 v) t u := h.row2 (h.1.s0 hv) (fun i hi => upd_o (by omega))
theorem gRl.s1 {σ : zS} {M : Nat → Int32} {t : Nat} {v : Int32} (h : gRl σ M t) (hv : inR v 1 30) : gRl (upR σ 2 (upd (σ 2) 1 v)) (upd M 7 v) t := by
  obtain ⟨a, b, c, d, e, f, g⟩ := h
  exact ⟨fun k hk => by rw [upd_o (by omega), upd_o (by omega)]; exact a k hk, by rw [upd_o (by omega)]; exact b, ⟨upd_s.trans (show v = upR σ 2 (upd (σ 2) 1 v) 2 1 from rfl), hv⟩, by rw [upd_o (by omega)]; exact d, by rw [upd_o (by omega)]; exact e, by rw [upd_o (by omega)]; exact f, by rw [upd_o (by omega)]; exact g⟩
theorem RI.s1 {σ : zS} {M : Nat → Int32} {t u : Nat} {v : Int32} (h : RI σ M t u) (hv : inR v 1 30) : RI (upR σ 2 (upd (σ 2) 1 v)) (upd M 7 v) t u := h.row2 (h.1.s1 hv) (fun i hi => upd_o (by omega))
theorem gRl.s2 {σ : zS} {M : Nat → Int32} {t : Nat} {v : Int32} (h : gRl σ M t) (hv : inR v 1 30) : gRl (upR σ 2 (upd (σ 2) 2 v)) (upd M 8 v) t := by
  obtain ⟨a, b, c, d, e, f, g⟩ := h
  exact ⟨fun k hk => by rw [upd_o (by omega), upd_o (by omega)]; exact a k hk, by rw [upd_o (by omega)]; exact b, by rw [upd_o (by omega)]; exact c, ⟨upd_s.trans (show v = upR σ 2 (upd (σ 2) 2 v) 2 2 from rfl), hv⟩, by rw [upd_o (by omega)]; exact e, by rw [upd_o (by omega)]; exact f, by rw [upd_o (by omega)]; exact g⟩
theorem RI.s2 {σ : zS} {M : Nat → Int32} {t u : Nat} {v : Int32} (h : RI σ M t u) (hv : inR v 1 30) : RI (upR σ 2 (upd (σ 2) 2 v)) (upd M 8 v) t u := h.row2 (h.1.s2 hv) (fun i hi => upd_o (by omega))
theorem gRl.s3 {σ : zS} {M : Nat → Int32} {t : Nat} {v : Int32} (h : gRl σ M t) (hv : inR v 1 60) : gRl (upR σ 2 (upd (σ 2) 3 v)) (upd M 9 v) t := by
  obtain ⟨a, b, c, d, e, f, g⟩ := h
  exact ⟨fun k hk => by rw [upd_o (by omega), upd_o (by omega)]; exact a k hk, by rw [upd_o (by omega)]; exact b, by rw [upd_o (by omega)]; exact c, by rw [upd_o (by omega)]; exact d, ⟨upd_s.trans (show v = upR σ 2 (upd (σ 2) 3 v) 2 3 from rfl), hv⟩, by rw [upd_o (by omega)]; exact f, by rw [upd_o (by omega)]; exact g⟩
theorem RI.s3 {σ : zS} {M : Nat → Int32} {t u : Nat} {v : Int32} (h : RI σ M t u) (hv : inR v 1 60) : RI (upR σ 2 (upd (σ 2) 3 v)) (upd M 9 v) t u := h.row2 (h.1.s3 hv) (fun i hi => upd_o (by omega))
theorem gRl.s4 {σ : zS} {M : Nat → Int32} {t : Nat} {v : Int32} (h : gRl σ M t) (hv : inR v 0 30) : gRl (upR σ 2 (upd (σ 2) 4 v)) (upd M 10 v) t := by
  obtain ⟨a, b, c, d, e, f, g⟩ := h
  exact ⟨fun k hk => by rw [upd_o (by omega), upd_o (by omega)]; exact a k hk, by rw [upd_o (by omega)]; exact b, by rw [upd_o (by omega)]; exact c, by rw [upd_o (by omega)]; exact d, by rw [upd_o (by omega)]; exact e, ⟨upd_s.trans (show v = upR σ 2 (upd (σ 2) 4 v) 2 4 from rfl), hv⟩, by rw [upd_o (by omega)]; exact g⟩
theorem RI.s4 {σ : zS} {M : Nat → Int32} {t u : Nat} {v : Int32} (h : RI σ M t u) (hv : inR v 0 30) : RI (upR σ 2 (upd (σ 2) 4 v)) (upd M 10 v) t u := h.row2 (h.1.s4 hv) (fun i hi => upd_o (by omega))
theorem gRl.s5 {σ : zS} {M : Nat → Int32} {t t' : Nat} {v : Int32} (h : gRl σ M t) (hv : v = nI t') : gRl (upR σ 2 (upd (σ 2) 5 v)) (upd M 11 v) t' := by
  obtain ⟨a, b, c, d, e, f, g⟩ := h
  exact ⟨fun k hk => by rw [upd_o (by omega), upd_o (by omega)]; exact a k hk, by rw [upd_o (by omega)]; exact b, by rw [upd_o (by omega)]; exact c, by rw [upd_o (by omega)]; exact d, by rw [upd_o (by omega)]; exact e, by rw [upd_o (by omega)]; exact f, upd_s.trans (show v = upR σ 2 (upd (σ 2) 5 v) 2 5 from rfl), hv⟩
theorem upd_id {f : Nat → Int32} {k : Nat} {x : Int32} (h : f k = x) : upd f k x = f := by
  funext i
  by_cases hi : i = k
  · subst hi; rw [upd_s, h]
  · rw [upd_o hi]
theorem tm_eq {σ : zS} {M : Nat → Int32} {t u : Nat} (h : RI σ M t u) : RI (sTm σ) (nTm M) t u := by
  obtain ⟨e10, v, hv0, hv, ev⟩ := h.1.2.2.2.2.2.1
  unfold sTm nTm
  by_cases hp : 0 < σ 2 4
  · rw [if_pos hp, if_pos (show 0 < M 10 by rw [e10]; exact hp), e10]
    refine h.s4 ?_
    rw [ev] at hp ⊢
    cases v with
    | zero => exact absurd hp (by decide)
    | succ v => exact ⟨v, by omega, by omega, nI_pred v⟩
  · rw [if_neg hp, if_neg (show ¬ 0 < M 10 by rw [e10]; exact hp), Int32.sub_zero, upd_id rfl]
    exact h
/-! the first port to power up -/
theorem sFp_spec {σ : zS} {M : Nat → Int32} {t : Nat} (hg : gRl σ M t) (hq : qRl σ M) : ∀ k, k ≤ 8 → ((∀ i, i < k → ¬ nCan M i) ∧ sFp σ k = (-6, 3)) ∨ ∃ a, a < k ∧ nCan M a ∧ sFp σ k = (nI a, nI (prN M a)) ∧ prN M a < 3 ∧ ∀ i, i < k → nCan M i → i = a ∨ lexN M a i
  | 0, _ => Or.inl ⟨fun i hi => absurd hi (Nat.not_lt_zero i), rfl⟩
  | k + 1, hk => by
    obtain ⟨⟨-, e1, -⟩, -, ⟨q, hq3, eq⟩, -⟩ := hq k (by omega)
    have e1 : σ (7 + k) 1 = gM M k 1 := e1
    have hpk : prN M k = q := prN_of (e1.symm.trans eq) hq3
    have hcan := can_eq hg hq (j := k) (by omega)
    rcases sFp_spec hg hq k (by omega) with ⟨hn, he⟩ | ⟨a, ha, hca, he, ha3, hmin⟩
    · by_cases hp : nCan M k
      · refine Or.inr ⟨k, Nat.lt_succ_self k, hp, ?_, by omega, fun i hi hpi => ?_⟩
        · have hc : σ (7 + k) 1 < (sFp σ k).2 ∧ pCan (σ (7 + k)) (sSp σ 8) := ⟨by rw [he, eq]; exact nI_lt (b := 3) hq3 (by decide), hcan.mpr hp⟩
          rw [show sFp σ (k + 1) = (nI k, σ (7 + k) 1) from if_pos hc, hpk, eq]
        · by_cases hik : i = k
          · exact Or.inl hik
          · exact absurd hpi (hn i (by omega))
      · refine Or.inl ⟨fun i hi => ?_, ?_⟩
        · by_cases hik : i = k
          · subst hik; exact hp
          · exact hn i (by omega)
        · rw [show sFp σ (k + 1) = sFp σ k from if_neg (fun z => hp (hcan.mp z.2))]; exact he
    · by_cases hc : σ (7 + k) 1 < (sFp σ k).2 ∧ pCan (σ (7 + k)) (sSp σ 8)
      · have hlt : q < prN M a := by
          have := hc.1
          rw [he, eq] at this
          exact (nI_ltI (by omega) (by omega)).mp this
        refine Or.inr ⟨k, Nat.lt_succ_self k, hcan.mp hc.2, by rw [show sFp σ (k + 1) = (nI k, σ (7 + k) 1) from if_pos hc, hpk, eq], by omega, fun i hi hpi => ?_⟩
        by_cases hik : i = k
        · exact Or.inl hik
        · refine Or.inr ?_
          rcases hmin i (by omega) hpi with h | h
          · subst h
            exact Or.inl (by omega)
          · unfold lexN at h ⊢
            omega
      · refine Or.inr ⟨a, by omega, hca, by rw [show sFp σ (k + 1) = sFp σ k from if_neg hc]; exact he, ha3, fun i hi hpi => ?_⟩
        by_cases hik : i = k
        · subst hik
          have hnl : ¬ σ (7 + i) 1 < (sFp σ i).2 := fun z => hc ⟨z, hcan.mpr hpi⟩
          rw [he, eq] at hnl
          have h2 : ¬ q < prN M a := fun z => hnl ((nI_ltI (by omega) (by omega)).mpr z)
          refine Or.inr ?_
          unfold lexN
          omega
        · exact hmin i (by omega) hpi
theorem sFp_none {σ : zS} {M : Nat → Int32} {t : Nat} (hg : gRl σ M t) (hq : qRl σ M) : (sFp σ 8).1 = -6 ↔ ∀ i, i < 8 → ¬ nCan M i := by
  rcases sFp_spec hg hq 8 (Nat.le_refl 8) with ⟨hn, he⟩ | ⟨a, ha, hca, he, -⟩
  · exact ⟨fun _ => hn, fun _ => by rw [he]⟩
  · refine ⟨fun q => ?_, fun q => absurd hca (q a ha)⟩
    rw [he] at q
    have := nI_toInt (n := a) (by omega)
    rw [show nI a = -6 from q] at this
    have e6 : (-6 : Int32).toInt = -6 := by decide
    omega
theorem nP2_none {ν : zS} (h : nPv (ν 0)) (hn : ∀ i, i < 8 → ¬ nCan (ν 0) i) : ∀ m q, q + m = 8 → nP2 ν m q = ν
  | 0, q, _ => rfl
  | m + 1, q, hk => by
    obtain ⟨j, hj, -, hO⟩ := nOrd_ok h (q := q) (by omega)
    rw [nP2_no hO hj (hn j hj)]
    exact nP2_none h hn m (q + 1) (by omega)
theorem nP2_first {ν : zS} (h : nPv (ν 0)) {j q0 : Nat} (hj : j < 8) (hq0 : (ordL (ν 0))[q0]? = some j) (hc : nCan (ν 0) j) (hn : ∀ q i, q < q0 → (ordL (ν 0))[q]? = some i → ¬ nCan (ν 0) i) : ∀ m q, q + m = 8 → q ≤ q0 → nP2 ν m q = nEv (upR ν 0 (nGr (ν 0) j)) (nCt (ν 0)) (nI j) 0
  | 0, q, hk, hq => by
    have := (List.getElem?_eq_some_iff.mp hq0).1
    rw [ordL_len h] at this
    omega
  | m + 1, q, hk, hq => by
    obtain ⟨i, hi, hoi, hO⟩ := nOrd_ok h (q := q) (by omega)
    by_cases hqq : q = q0
    · subst hqq
      have hij : i = j := Option.some.inj (hoi.symm.trans hq0)
      subst hij
      exact nP2_yes hO hi hc
    · rw [nP2_no hO hi (hn q i (by omega) hoi)]
      exact nP2_first h hj hq0 hc hn m (q + 1) (by omega) (by omega)
theorem gr_eq {σ : zS} {M : Nat → Int32} {t u j : Nat} (h : RI σ M t u) (hj : j < 8) (hc : nCan M j) : RI (up2 (upR σ (7 + j) (upd (σ (7 + j)) 7 (σ (7 + j) 6))) 2 4 (σ 2 1)) (nGr M j) t u := by
  obtain ⟨hp, hi⟩ := h.2.2 j hj
  have hel : pEli (σ (7 + j)) := (el_eq ⟨hp, hi⟩).mpr hc.1
  have h2 := el_on hi hel
  have e6 : σ (7 + j) 6 = gM M j 7 := (hp.2.2.2.2.2.2 h2).2.1
  obtain ⟨r, hr1, hr2, er⟩ := hi.2.2.2.2.2.2.2 h2 hel.2.2.2
  have h1 : RI (upR σ (7 + j) (upd (σ (7 + j)) 7 (σ (7 + j) 6))) (upd M (mi j 8) (gM M j 7)) t u := by
    refine h.port hj ?_ ?_ (fun i hh => upd_o (hh 8 (by omega)))
    · have hfun : (fun k => upd M (mi j 8) (gM M j 7) (mi j k)) = upd (fun k => M (mi j k)) 8 (gM M j 7) := by
        funext k
        by_cases hk : k = 8
        · subst hk; rw [upd_s, upd_s]
        · rw [upd_o (by unfold mi; omega), upd_o hk]
      rw [hfun, e6]
      obtain ⟨a, b, c, d, e, f1, g⟩ := hp
      exact ⟨a, b, c, rfl, e, f1, g⟩
    · obtain ⟨a, b, c, d, e, f1, g, kk⟩ := hi
      refine ⟨a, b, ⟨r, hr2, er⟩, fun _ => h2, fun z => ?_, f1, g, kk⟩
      have z : σ (7 + j) 6 = 0 := z
      rw [er] at z
      exact absurd z (nI_ne0 (by omega) (by omega))
  have e7 : upd M (mi j 8) (gM M j 7) 7 = σ 2 1 := (upd_o (by unfold mi; omega)).trans h.1.2.2.1.1
  obtain ⟨g, hg1, hg2, eg⟩ := h.1.2.2.1.2
  have h3 := h1.s4 (v := σ 2 1) ⟨g, by omega, hg2, eg⟩
  have hN : nGr M j = upd (upd M (mi j 8) (gM M j 7)) 10 (σ 2 1) := congrArg (fun v => upd (upd M (mi j 8) (gM M j 7)) 10 v) e7
  rw [hN]
  exact h3
theorem pu_eq {σ μ : zS} {t u : Nat} (hR : RI σ (μ 0) t u) (hu : u ≤ t + 1) :
    ∃ u', u' ≤ t + 1 ∧ RI (sPu σ).1 (nPu μ 0) t u' ∧ nKeep μ (nPu μ) ∧ nPu μ 5 0 = μ 5 0 + (sPu σ).2 ∧ (Lst (μ 0) t → Lst (nPu μ 0) t) ∧ (Lst (nPu μ 0) t ∨ (nPu μ = upR μ 0 (nTm (μ 0)) ∧ (¬ 0 < nTm (μ 0) 10 → ∀ i, i < 8 → ¬ nCan (nTm (μ 0)) i))) := by
  have h1 := tm_eq hR
  have e10 : nTm (μ 0) 10 = sTm σ 2 4 := h1.1.2.2.2.2.2.1.1
  have hLt : Lst (μ 0) t → Lst (nTm (μ 0)) t := fun h => h.same (fun i h1 h2 => upd_o (by omega))
  unfold nPu sPu
  by_cases hp : 0 < nTm (μ 0) 10
  · rw [if_pos hp, show sP1 (sTm σ) = (sTm σ, 0) from if_pos (by rw [← e10]; exact hp)]
    exact ⟨u, hu, h1, nKeep.up, (Int32.add_zero _).symm, hLt, Or.inr ⟨rfl, fun q => absurd hp q⟩⟩
  · have hp' : ¬ 0 < sTm σ 2 4 := by rw [← e10]; exact hp
    rw [if_neg hp]
    rcases sFp_spec h1.1 h1.2.2 8 (Nat.le_refl 8) with ⟨hn, he⟩ | ⟨a, ha, hca, he, -, hmin⟩
    · rw [show sP1 (sTm σ) = (sTm σ, 0) from (if_neg hp').trans (if_pos (by rw [he])), nP2_none (ν := upR μ 0 (nTm (μ 0))) h1.ok.1.1 hn 8 0 rfl]
      exact ⟨u, hu, h1, nKeep.up, (Int32.add_zero _).symm, hLt, Or.inr ⟨rfl, fun _ => hn⟩⟩
    · have hne : ¬ (sFp (sTm σ) 8).1 = -6 := by
        intro q
        have := nI_toInt (n := a) (by omega)
        rw [he] at q
        rw [show nI a = -6 from q] at this
        have e6 : (-6 : Int32).toInt = -6 := by decide
        omega
      have eix : (sFp (sTm σ) 8).1.toNatClampNeg = a := by rw [he]; exact nI_clamp (by omega)
      have eA : sP1 (sTm σ) = (sLog (up2 (upR (sTm σ) (7 + a) (upd (sTm σ (7 + a)) 7 (sTm σ (7 + a) 6))) 2 4 (sTm σ 2 1)) (nI a) 0, 1) := by
        rw [show sP1 (sTm σ) = _ from (if_neg hp').trans (if_neg hne), eix, he]
      obtain ⟨q0, hq0, ho⟩ := ordL_all (M := nTm (μ 0)) h1.ok.1.1 ha
      have hB := nP2_first (ν := upR μ 0 (nTm (μ 0))) h1.ok.1.1 ha ho hca (fun q i hq hqi hci => by
        have hi8 : i < 8 := ordL_mem (List.mem_of_getElem? hqi)
        have hl : lexN (nTm (μ 0)) i a := ordL_lt hqi ho hq
        rcases hmin i hi8 hci with h | h
        · subst h
          unfold lexN at hl
          omega
        · unfold lexN at hl h
          omega) 8 0 rfl (Nat.zero_le _)
      have hG := gr_eq h1 ha hca
      have hct : nCt (nGr (nTm (μ 0)) a) = nCt (nTm (μ 0)) := by unfold nCt; rw [nGr_12]
      have hR2 := hG.log (nI a) 0 (w := t + 1) hu (Nat.lt_succ_self t)
      have hL := Lst.add (p := nI a) (kd := 0) hG.ok.1 (t := t) (hG.1.2.2.2.2.2.2.1.trans hG.1.2.2.2.2.2.2.2)
      rw [hct] at hR2 hL
      rw [eA, hB]
      exact ⟨t + 1, Nat.le_refl _, hR2, ⟨rfl, rfl, rfl, rfl, rfl⟩, rfl, fun _ => hL, Or.inl hL⟩
