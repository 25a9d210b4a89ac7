/-! shedding: the class's rounds and the model's places -/
theorem sSh_idle {σ : zS} {x : Int32} (h : (sLp σ 8).1 = -6) : ∀ n, sSh n (σ, x) = (σ, x)
  | 0 => rfl
  | n + 1 => by
    by_cases hs : sSp σ 8 < 0
    · rw [sSh_none hs h]; exact sSh_idle h n
    · exact sSh_stop hs
theorem nLose_pr {M : Nat → Int32} {j i : Nat} : gM (nLose M j) i 1 = gM M i 1 := nLose_o (by unfold mi; omega) (by unfold mi; omega)
theorem nLose_ct {M : Nat → Int32} {j : Nat} : nCt (nLose M j) = nCt M := by unfold nCt; rw [nLose_o (by unfold mi; omega) (by unfold mi; omega)]
theorem nAdd_g {M : Nat → Int32} {c i k : Nat} {p kd : Int32} (hc : c ≤ 16) : gM (nAdd M c p kd) i k = gM M i k := nAdd_o hc (by unfold mi; omega)
/-- what a step of the model leaves alone: before, slots, isSaved, ahead, stableSet -/
def nKeep (μ ν : zS) : Prop := ν 1 = μ 1 ∧ ν 2 = μ 2 ∧ ν 3 = μ 3 ∧ ν 4 = μ 4 ∧ ν 5 1 = μ 5 1
theorem nKeep.rf {μ : zS} : nKeep μ μ := ⟨rfl, rfl, rfl, rfl, rfl⟩
theorem nKeep.tr {μ ν ρ : zS} (h : nKeep μ ν) (k : nKeep ν ρ) : nKeep μ ρ := ⟨k.1.trans h.1, k.2.1.trans h.2.1, k.2.2.1.trans h.2.2.1, k.2.2.2.1.trans h.2.2.2.1, k.2.2.2.2.trans h.2.2.2.2⟩
theorem nKeep.up {μ : zS} {f : Nat → Int32} : nKeep μ (upR μ 0 f) := ⟨rfl, rfl, rfl, rfl, rfl⟩
theorem nKeep.ev {μ : zS} {f : Nat → Int32} {c : Nat} {p kd : Int32} : nKeep μ (nEv (upR μ 0 f) c p kd) := ⟨rfl, rfl, rfl, rfl, rfl⟩
theorem nEv_5 {μ : zS} {f : Nat → Int32} {c : Nat} {p kd : Int32} : nEv (upR μ 0 f) c p kd 5 0 = μ 5 0 + 1 := rfl
/-- the last event in the log is of the second t -/
def Lst (M : Nat → Int32) (t : Nat) : Prop := ∃ c, c < 16 ∧ M 12 = nI (c + 1) ∧ M (13 + 3 * c) = nI t
theorem Lst.same {M N : Nat → Int32} {t : Nat} (h : Lst M t) (hM : ∀ i, 12 ≤ i → i < 61 → N i = M i) : Lst N t := by
  obtain ⟨c, h1, h2, h3⟩ := h
  exact ⟨c, h1, by rw [hM 12 (by omega) (by omega)]; exact h2, by rw [hM _ (by omega) (by omega)]; exact h3⟩
theorem Lst.add {M : Nat → Int32} {t : Nat} {p kd : Int32} (hok : nOk M) (ht : M 11 = nI t) : Lst (nAdd M (nCt M) p kd) t := by
  have h12 := nAdd_12 (p := p) (kd := kd) hok.2.1
  have hc := hok.2.2
  generalize nCt M = c at h12 hc ⊢
  by_cases h16 : c = 16
  · subst h16
    rw [if_pos rfl] at h12
    refine ⟨15, by omega, h12, ?_⟩
    unfold nAdd
    rw [if_pos rfl]
    refine (nTl_a (c := 15)).1.trans ?_
    rw [upd_o (by omega)]
    unfold nSf
    rw [if_neg (by omega), ht]
  · rw [if_neg h16] at h12
    refine ⟨c, by omega, h12, ?_⟩
    unfold nAdd
    rw [if_neg h16]
    exact nTl_a.1.trans ht
theorem shed_eq {t : Nat} : ∀ (k n u : Nat) (σ μ : zS) (x : Int32) (X : Nat), u ≤ t + 1 → k ≤ 8 → k ≤ n → RI σ (μ 0) t u → isSet x X → (∀ i, i < 8 → X.testBit i = true → ¬ 0 < gM (μ 0) i 8) →
    (sSp σ 8 < 0 → ∀ q i, k ≤ q → (ordL (μ 0))[q]? = some i → ¬ 0 < gM (μ 0) i 8) →
    ∃ X' u', (sSh n (σ, x)).2 = (nSh k (μ, x)).2 ∧ isSet (nSh k (μ, x)).2 X' ∧ u' ≤ t + 1 ∧ RI (sSh n (σ, x)).1 ((nSh k (μ, x)).1 0) t u' ∧ nKeep μ (nSh k (μ, x)).1 ∧ (nSh k (μ, x)).1 5 0 + zbc x = μ 5 0 + zbc (nSh k (μ, x)).2 ∧ (Lst (μ 0) t → Lst ((nSh k (μ, x)).1 0) t) ∧ (Lst ((nSh k (μ, x)).1 0) t ∨ (nSh k (μ, x) = (μ, x) ∧ (sSp σ 8 < 0 → ∀ i, i < 8 → ¬ 0 < gM (μ 0) i 8))) := by
  intro k
  induction k with
  | zero =>
    intro n u σ μ x X hu hk hn hR hX hXp hpre
    have hid : sSh n (σ, x) = (σ, x) := by
      by_cases hs : sSp σ 8 < 0
      · refine sSh_idle (sLp_none hR.2.2 (fun i hi => ?_)) n
        obtain ⟨q, -, hq⟩ := ordL_all hR.ok.1.1 hi
        exact hpre hs q i (Nat.zero_le q) hq
      · cases n with
        | zero => rfl
        | succ n => exact sSh_stop hs
    refine ⟨X, u, by rw [hid]; rfl, hX, hu, by rw [hid]; exact hR, nKeep.rf, rfl, id, Or.inr ⟨rfl, fun hs i hi => ?_⟩⟩
    obtain ⟨q, -, hq⟩ := ordL_all hR.ok.1.1 hi
    exact hpre hs q i (Nat.zero_le q) hq
  | succ k ih =>
    intro n u σ μ x X hu hk hn hR hX hXp hpre
    obtain ⟨j, hj, hoj, hOj⟩ := nOrd_ok hR.ok.1.1 (q := k) (by omega)
    have hsp := sp_eq hR.1 hR.2.2 8 (Nat.le_refl 8)
    have ejx : ix (nOrd (μ 0) k) = j := nSt_ix (ν := μ) hOj hj
    by_cases hs : sSp σ 8 < 0
    · by_cases hp : 0 < gM (μ 0) j 8
      · -- shed
        obtain ⟨n', rfl⟩ : ∃ n', n = n' + 1 := ⟨n - 1, by omega⟩
        have hlast : (sLp σ 8).1 = nI j := by
          refine sLp_last hR.2.2 hj hp (fun i hi hpi => ?_)
          obtain ⟨q, hq8, hq⟩ := ordL_all hR.ok.1.1 hi
          rcases Nat.lt_trichotomy q k with h | h | h
          · exact Or.inr (ordL_lt hq hoj h)
          · subst h
            rw [hoj] at hq
            exact Or.inl (Option.some.inj hq).symm
          · exact absurd hpi (hpre hs q i (by omega) hq)
        have hne : ¬ (sLp σ 8).1 = -6 := by
          rw [hlast]
          intro q
          have := nI_toInt (n := j) (by omega)
          rw [q] at this
          have e6 : (-6 : Int32).toInt = -6 := by decide
          omega
        have eA : sSh (n' + 1) (σ, x) = sSh n' (sLog (sLose σ j) (nI j) 1, x ||| bit (nI j)) := by
          rw [sSh_some hs hne (j := j) (by rw [hlast]; exact nI_clamp (by omega)), hlast]
        have eB : nSh (k + 1) (μ, x) = nSh k (nEv (upR μ 0 (nLose (μ 0) j)) (nCt (μ 0)) (nI j) 1, x ||| bit (nI j)) := congrArg (nSh k) (nS1_yes hOj hj (by rw [hsp]; exact hs) hp)
        have hXj : X.testBit j = false := by
          cases hb : X.testBit j with
          | false => rfl
          | true => exact absurd hp (hXp j hj hb)
        obtain ⟨hX', hz, hXt⟩ := hX.add hj hXj
        have hR1 := hR.lose (j := j) hj
        have hR2 := hR1.log (nI j) 1 (w := t + 1) hu (Nat.lt_succ_self t)
        rw [nLose_ct] at hR2
        have hgr : ∀ i, gM (nAdd (nLose (μ 0) j) (nCt (μ 0)) (nI j) 1) i 8 = gM (nLose (μ 0) j) i 8 := fun i => nAdd_g hR.ok.1.2.2
        have hlo : ∀ i, i < 8 → i ≠ j → gM (nLose (μ 0) j) i 8 = gM (μ 0) i 8 := fun i hi hij => nLose_o (by unfold mi; omega) (by unfold mi; omega)
        have hz0 : gM (nLose (μ 0) j) j 8 = 0 := by
          show nLose (μ 0) j (mi j 8) = 0
          rw [nLose_p]
          rfl
        have hoff : ∀ i, i < 8 → ¬ 0 < gM (μ 0) i 8 ∨ i = j → ¬ 0 < gM (nAdd (nLose (μ 0) j) (nCt (μ 0)) (nI j) 1) i 8 := by
          intro i hi hh
          rw [hgr]
          by_cases hij : i = j
          · subst hij
            rw [hz0]
            decide
          · rw [hlo i hi hij]
            exact hh.resolve_right hij
        have hord : ordL (nAdd (nLose (μ 0) j) (nCt (μ 0)) (nI j) 1) = ordL (μ 0) := ordL_same (fun i hi => (nAdd_g hR.ok.1.2.2).trans nLose_pr)
        have hL1 : Lst (nAdd (nLose (μ 0) j) (nCt (μ 0)) (nI j) 1) t := by
          have := Lst.add (p := nI j) (kd := 1) hR1.ok.1 (t := t) (hR1.1.2.2.2.2.2.2.1.trans hR1.1.2.2.2.2.2.2.2)
          rwa [nLose_ct] at this
        obtain ⟨X2, u2, a1, a2, a3, a4, a5, a6, a7, a8⟩ := ih n' (t + 1) (sLog (sLose σ j) (nI j) 1) (nEv (upR μ 0 (nLose (μ 0) j)) (nCt (μ 0)) (nI j) 1) (x ||| bit (nI j)) (X ||| 2 ^ j) (Nat.le_refl _) (by omega) (by omega) hR2 hX'
          (fun i hi hb => hoff i hi (by
            rw [hXt i hi] at hb
            simp only [Bool.or_eq_true, decide_eq_true_eq] at hb
            rcases hb with hb | hb
            · exact Or.inl (hXp i hi hb)
            · exact Or.inr hb))
          (fun _ q i hkq hqi => by
            have hqi : (ordL (nAdd (nLose (μ 0) j) (nCt (μ 0)) (nI j) 1))[q]? = some i := hqi
            rw [hord] at hqi
            have hi8 : i < 8 := ordL_mem (List.mem_of_getElem? hqi)
            refine hoff i hi8 ?_
            by_cases hqk : q = k
            · subst hqk
              rw [hoj] at hqi
              exact Or.inr (Option.some.inj hqi).symm
            · exact Or.inl (hpre hs q i (by omega) hqi))
        have hLf := a7 hL1
        refine ⟨X2, u2, ?_, ?_, a3, ?_, ?_, ?_, ?_, ?_⟩
        · rw [eA, eB]; exact a1
        · rw [eB]; exact a2
        · rw [eA, eB]; exact a4
        · rw [eB]; exact nKeep.ev.tr a5
        · rw [eB]
          have h5 : (nEv (upR μ 0 (nLose (μ 0) j)) (nCt (μ 0)) (nI j) 1) 5 0 = μ 5 0 + 1 := rfl
          rw [h5, hz] at a6
          generalize (nSh k (nEv (upR μ 0 (nLose (μ 0) j)) (nCt (μ 0)) (nI j) 1, x ||| bit (nI j))).1 5 0 = A at a6 ⊢
          generalize zbc (nSh k (nEv (upR μ 0 (nLose (μ 0) j)) (nCt (μ 0)) (nI j) 1, x ||| bit (nI j))).2 = B at a6 ⊢
          have e1 : A + (zbc x + 1) = (A + zbc x) + 1 := (Int32.add_assoc _ _ _).symm
          have e2 : μ 5 0 + 1 + B = (μ 5 0 + B) + 1 := by rw [Int32.add_assoc, Int32.add_comm 1 B, Int32.add_assoc]
          rw [e1, e2] at a6
          first | exact (Int32.add_left_inj 1).mp a6 | exact (Int32.add_right_inj 1).mp a6
        · rw [eB]; exact fun _ => hLf
        · rw [eB]; exact Or.inl hLf
      · have eB : nSh (k + 1) (μ, x) = nSh k (μ, x) := congrArg (nSh k) (nS1_no (fun z => hp (by rw [← ejx]; exact z.2)))
        rw [eB]
        exact ih n u σ μ x X hu (by omega) (by omega) hR hX hXp (fun _ q i hkq hqi => by
          by_cases hqk : q = k
          · subst hqk
            rw [hoj] at hqi
            cases hqi
            exact hp
          · exact hpre hs q i (by omega) hqi)
    · have eB : nSh (k + 1) (μ, x) = nSh k (μ, x) := congrArg (nSh k) (nS1_no (fun z => hs (by rw [← hsp]; exact z.1)))
      rw [eB]
      exact ih n u σ μ x X hu (by omega) (by omega) hR hX hXp (fun z => absurd z hs)
