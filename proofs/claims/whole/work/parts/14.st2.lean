/-! State: fittingSet, portsAreCalm, isStable; bitCount -/
theorem zgt2 {q m : Nat} (hk : q + (m + 1) = 3) : ¬ (2 : Int32) < nI q := by
  have h1 : (2 : Int32) = nI 2 := rfl
  rw [h1]
  exact nI_nlt (by omega) (by omega)
set_option maxRecDepth 4000 in
theorem kX2_fittingSet (γ : zG) (l : Launch) (n : Nat) (h : zH) (a : Nat) (σ : zS) (hs : zSt16 γ h a σ) : Con γ l (n + 2) 0 0 MX2_fittingSet [.ref a] h (some (.int (sFo σ 3).1)) h := by
  refine Con.go (by decide +kernel) (Nat.le_of_ble_eq_true rfl) ⟨rfl, trivial⟩ ?_
  show Go _ 0 0 0 [some (.ref a), none, none, none, none, none] [] _
  have outer : ∀ (m q : Nat), q + m = 3 → Go (γ, l, n + 2, (0, 0), MX2_fittingSet, zF γ 0 0 (some (.int (sFo σ 3).1)) h) 0 0 9 [some (.ref a), some (.int (sFo σ q).1), some (.int (sFo σ q).2), some (.int (nI q)), none, none] [] h := by
    intro m
    induction m with
    | zero =>
      intro q hkq
      have hqN : q = 3 := by omega
      subst hqN
      refine go_iload_n dX2_fittingSet_9 rfl ?_
      refine go_iconst (v := 2) dX2_fittingSet_10 (by decide) ?_
      refine go_icmp_gt (tgt := 86) dX2_fittingSet_11 (by decide) (fun c11 => ?_) (fun c11 => absurd (by decide) c11)
      refine go_iload_n dX2_fittingSet_86 rfl ?_
      refine go_iret dX2_fittingSet_87 rfl ?_ ?_ (Nat.zero_le _) (Nat.zero_le _)
      · rfl
      · rfl
    | succ m ihq =>
      intro q hkq
      have hq3 : q < 3 := by omega
      have inner : ∀ (m k : Nat), k + m = 8 → Go (γ, l, n + 2, (0, 0), MX2_fittingSet, zF γ 0 0 (some (.int (sFo σ 3).1)) h) 0 0 17 [some (.ref a), some (.int (sFi σ q (sFo σ q) k).1), some (.int (sFi σ q (sFo σ q) k).2), some (.int (nI q)), some (.int (nI k)), none] [] h := by
        intro m
        induction m with
        | zero =>
          intro k hk
          have hkN : k = 8 := by omega
          subst hkN
          refine go_iload dX2_fittingSet_17 rfl ?_
          refine go_bipush (v := 8) dX2_fittingSet_19 (by decide) ?_
          refine go_icmp_ge (tgt := 80) dX2_fittingSet_21 (by decide) (fun c21 => ?_) (fun c21 => absurd (by decide) c21)
          refine go_iinc dX2_fittingSet_80 rfl (nI_1 q) (Nat.le_of_ble_eq_true rfl) ?_
          refine go_goto (tgt := 9) dX2_fittingSet_83 (by decide) ?_
          exact go_vl (ihq (q + 1) (by omega)) ⟨rfl, rfl, rfl, rfl, trivial⟩
        | succ m ih =>
          intro k hk
          have hlt : k < 8 := by omega
          refine go_iload dX2_fittingSet_17 rfl ?_
          refine go_bipush (v := 8) dX2_fittingSet_19 (by decide) ?_
          refine go_icmp_ge (tgt := 80) dX2_fittingSet_21 (by decide) (fun c21 => absurd c21 (zge hk)) (fun c21 => ?_)
          refine go_aload_n dX2_fittingSet_24 rfl ?_
          refine go_getf dX2_fittingSet_25 flX2_21 (by first | exact hs 0 (by decide) | exact hs 3 (by decide) | exact hs 1 (by decide) | exact hs 2 (by decide) | exact zst_port hs hlt | exact hs 4 (by decide)) rfl ?_
          refine go_iload dX2_fittingSet_28 rfl ?_
          refine go_ald (t0 := 2) (C := RX1) dX2_fittingSet_30 (by first | exact hs 0 (by decide) | exact hs 3 (by decide) | exact hs 1 (by decide) | exact hs 2 (by decide) | exact zst_port hs hlt | exact hs 4 (by decide)) rfl (zix rfl hlt (by decide)).1 (zix rfl hlt (by decide)).2 (zrf8 hlt) ?_
          refine go_astore dX2_fittingSet_31 (Nat.le_of_ble_eq_true rfl) ?_
          refine go_aload dX2_fittingSet_33 rfl ?_
          refine go_getf dX2_fittingSet_35 flX2_79 (by first | exact hs 0 (by decide) | exact hs 3 (by decide) | exact hs 1 (by decide) | exact hs 2 (by decide) | exact zst_port hs hlt | exact hs 4 (by decide)) rfl ?_
          refine go_iload_n dX2_fittingSet_38 rfl ?_
          refine go_icmp_ne (tgt := 74) dX2_fittingSet_39 (by decide) (fun c39 => ?_) (fun c39 => ?_)
          · refine go_iinc dX2_fittingSet_74 rfl (nI_1 k) (Nat.le_of_ble_eq_true rfl) ?_
            refine go_goto (tgt := 17) dX2_fittingSet_77 (by decide) ?_
            refine go_lv (lv' := [some (.ref a), some (.int (sFi σ q (sFo σ q) (k + 1)).1), some (.int (sFi σ q (sFo σ q) (k + 1)).2), some (.int (nI q)), some (.int (nI (k + 1))), none]) ?_ (ih (k + 1) (by omega))
            rw [show sFi σ q (sFo σ q) (k + 1) = sFi σ q (sFo σ q) k from if_neg (fun q => c39 q.1)]
            exact ⟨rfl, rfl, rfl, rfl, rfl, trivial⟩
          · refine go_aload dX2_fittingSet_42 rfl ?_
            refine go_callVi (ci := 1) dX2_fittingSet_44 moX1_isEligible cvX2_72 ⟨rfl, rfl⟩ (kX1_isEligible γ l _ h _ _ (zst_port hs hlt)) (by first | exact hs 0 (by decide) | exact hs 3 (by decide) | exact hs 1 (by decide) | exact hs 2 (by decide) | exact zst_port hs hlt | exact hs 4 (by decide)) rfl rfl (Nat.le_refl _) (Nat.zero_le _) (Nat.zero_le _) (Nat.le_of_ble_eq_true rfl) ?_
            refine go_if_eq (tgt := 74) dX2_fittingSet_47 (by decide) (fun c47 => ?_) (fun c47 => ?_)
            · refine go_iinc dX2_fittingSet_74 rfl (nI_1 k) (Nat.le_of_ble_eq_true rfl) ?_
              refine go_goto (tgt := 17) dX2_fittingSet_77 (by decide) ?_
              refine go_lv (lv' := [some (.ref a), some (.int (sFi σ q (sFo σ q) (k + 1)).1), some (.int (sFi σ q (sFo σ q) (k + 1)).2), some (.int (nI q)), some (.int (nI (k + 1))), none]) ?_ (ih (k + 1) (by omega))
              rw [show sFi σ q (sFo σ q) (k + 1) = sFi σ q (sFo σ q) k from if_neg (fun q => zi_0.mp c47 q.2.1)]
              exact ⟨rfl, rfl, rfl, rfl, rfl, trivial⟩
            · refine go_aload dX2_fittingSet_50 rfl ?_
              refine go_getf dX2_fittingSet_52 flX2_82 (by first | exact hs 0 (by decide) | exact hs 3 (by decide) | exact hs 1 (by decide) | exact hs 2 (by decide) | exact zst_port hs hlt | exact hs 4 (by decide)) rfl ?_
              refine go_iload_n dX2_fittingSet_55 rfl ?_
              refine go_icmp_gt (tgt := 74) dX2_fittingSet_56 (by decide) (fun c56 => ?_) (fun c56 => ?_)
              · refine go_iinc dX2_fittingSet_74 rfl (nI_1 k) (Nat.le_of_ble_eq_true rfl) ?_
                refine go_goto (tgt := 17) dX2_fittingSet_77 (by decide) ?_
                refine go_lv (lv' := [some (.ref a), some (.int (sFi σ q (sFo σ q) (k + 1)).1), some (.int (sFi σ q (sFo σ q) (k + 1)).2), some (.int (nI q)), some (.int (nI (k + 1))), none]) ?_ (ih (k + 1) (by omega))
                rw [show sFi σ q (sFo σ q) (k + 1) = sFi σ q (sFo σ q) k from if_neg (fun q => zle.mp q.2.2 c56)]
                exact ⟨rfl, rfl, rfl, rfl, rfl, trivial⟩
              · refine go_iload_n dX2_fittingSet_59 rfl ?_
                refine go_iconst (v := 1) dX2_fittingSet_60 (by decide) ?_
                refine go_iload dX2_fittingSet_61 rfl ?_
                refine go_ishl dX2_fittingSet_63 ?_
                refine go_ior dX2_fittingSet_64 ?_
                refine go_istore_n dX2_fittingSet_65 (Nat.le_of_ble_eq_true rfl) ?_
                refine go_iload_n dX2_fittingSet_66 rfl ?_
                refine go_aload dX2_fittingSet_67 rfl ?_
                refine go_getf dX2_fittingSet_69 flX2_82 (by first | exact hs 0 (by decide) | exact hs 3 (by decide) | exact hs 1 (by decide) | exact hs 2 (by decide) | exact zst_port hs hlt | exact hs 4 (by decide)) rfl ?_
                refine go_isub dX2_fittingSet_72 ?_
                refine go_istore_n dX2_fittingSet_73 (Nat.le_of_ble_eq_true rfl) ?_
                refine go_iinc dX2_fittingSet_74 rfl (nI_1 k) (Nat.le_of_ble_eq_true rfl) ?_
                refine go_goto (tgt := 17) dX2_fittingSet_77 (by decide) ?_
                refine go_lv (lv' := [some (.ref a), some (.int (sFi σ q (sFo σ q) (k + 1)).1), some (.int (sFi σ q (sFo σ q) (k + 1)).2), some (.int (nI q)), some (.int (nI (k + 1))), none]) ?_ (ih (k + 1) (by omega))
                rw [show sFi σ q (sFo σ q) (k + 1) = ((sFi σ q (sFo σ q) k).1 ||| bit (nI k), (sFi σ q (sFo σ q) k).2 - σ (7 + k) 6) from if_pos ⟨c39, Classical.byContradiction fun q => c47 (zi_0.mpr q), zle.mpr c56⟩]
                exact ⟨rfl, rfl, rfl, rfl, rfl, trivial⟩
      refine go_iload_n dX2_fittingSet_9 rfl ?_
      refine go_iconst (v := 2) dX2_fittingSet_10 (by decide) ?_
      refine go_icmp_gt (tgt := 86) dX2_fittingSet_11 (by decide) (fun c11 => absurd c11 (zgt2 hkq)) (fun c11 => ?_)
      refine go_iconst (v := 0) dX2_fittingSet_14 (by decide) ?_
      refine go_istore dX2_fittingSet_15 (Nat.le_of_ble_eq_true rfl) ?_
      exact inner 8 0 rfl
  refine go_iconst (v := 0) dX2_fittingSet_0 (by decide) ?_
  refine go_istore_n dX2_fittingSet_1 (Nat.le_of_ble_eq_true rfl) ?_
  refine go_aload_n dX2_fittingSet_2 rfl ?_
  refine go_callVi (ci := 2) dX2_fittingSet_3 moX2_wholeBudget cvX2_65 ⟨rfl, rfl⟩ (kX2_wholeBudget γ l _ h a σ hs) (by first | exact hs 0 (by decide) | exact hs 3 (by decide) | exact hs 1 (by decide) | exact hs 2 (by decide) | exact zst_port hs hlt | exact hs 4 (by decide)) rfl rfl (Nat.le_refl _) (Nat.zero_le _) (Nat.zero_le _) (Nat.le_of_ble_eq_true rfl) ?_
  refine go_istore_n dX2_fittingSet_6 (Nat.le_of_ble_eq_true rfl) ?_
  refine go_iconst (v := 0) dX2_fittingSet_7 (by decide) ?_
  refine go_istore_n dX2_fittingSet_8 (Nat.le_of_ble_eq_true rfl) ?_
  exact outer 3 0 rfl
abbrev pCalm (f : Nat → Int32) : Prop := ¬ 0 < f 9 ∧ ¬ 0 < f 8 ∧ ¬ (0 < f 7 ∧ f 7 < f 5)
abbrev sCalm (σ : zS) : Prop := ∀ k, k < 8 → pCalm (σ (7 + k))
set_option maxRecDepth 4000 in
theorem kX2_portsAreCalm (γ : zG) (l : Launch) (n : Nat) (h : zH) (a : Nat) (σ : zS) (hs : zSt16 γ h a σ) : Con γ l (n + 2) 0 0 MX2_portsAreCalm [.ref a] h (some (.int (zi (sCalm σ)))) h := by
  refine Con.go (by decide +kernel) (Nat.le_of_ble_eq_true rfl) ⟨rfl, trivial⟩ ?_
  show Go _ 0 0 0 [some (.ref a), none, none] [] _
  have loop : ∀ (m k : Nat), (∀ j, j < k → pCalm (σ (7 + j))) → k + m = 8 → Go (γ, l, n + 2, (0, 0), MX2_portsAreCalm, zF γ 0 0 (some (.int (zi (sCalm σ)))) h) 0 0 2 [some (.ref a), some (.int (nI k)), none] [] h := by
    intro m
    induction m with
    | zero =>
      intro k hc hk
      have hkN : k = 8 := by omega
      subst hkN
      refine go_iload_n dX2_portsAreCalm_2 rfl ?_
      refine go_bipush (v := 8) dX2_portsAreCalm_3 (by decide) ?_
      refine go_icmp_ge (tgt := 44) dX2_portsAreCalm_5 (by decide) (fun c5 => ?_) (fun c5 => absurd (by decide) c5)
      refine go_iconst (v := 1) dX2_portsAreCalm_44 (by decide) ?_
      refine go_zret dX2_portsAreCalm_45 rfl (by first | rfl | exact zi_n) ?_ ?_ (Nat.zero_le _) (Nat.zero_le _)
      · exact zrt hc
      · rfl
    | succ m ih =>
      intro k hc hk
      have hlt : k < 8 := by omega
      refine go_iload_n dX2_portsAreCalm_2 rfl ?_
      refine go_bipush (v := 8) dX2_portsAreCalm_3 (by decide) ?_
      refine go_icmp_ge (tgt := 44) dX2_portsAreCalm_5 (by decide) (fun c5 => absurd c5 (zge hk)) (fun c5 => ?_)
      refine go_aload_n dX2_portsAreCalm_8 rfl ?_
      refine go_getf dX2_portsAreCalm_9 flX2_21 (by first | exact hs 0 (by decide) | exact hs 3 (by decide) | exact hs 1 (by decide) | exact hs 2 (by decide) | exact zst_port hs hlt | exact hs 4 (by decide)) rfl ?_
      refine go_iload_n dX2_portsAreCalm_12 rfl ?_
      refine go_ald (t0 := 2) (C := RX1) dX2_portsAreCalm_13 (by first | exact hs 0 (by decide) | exact hs 3 (by decide) | exact hs 1 (by decide) | exact hs 2 (by decide) | exact zst_port hs hlt | exact hs 4 (by decide)) rfl (zix rfl hlt (by decide)).1 (zix rfl hlt (by decide)).2 (zrf8 hlt) ?_
      refine go_astore_n dX2_portsAreCalm_14 (Nat.le_of_ble_eq_true rfl) ?_
      refine go_aload_n dX2_portsAreCalm_15 rfl ?_
      refine go_getf dX2_portsAreCalm_16 flX2_123 (by first | exact hs 0 (by decide) | exact hs 3 (by decide) | exact hs 1 (by decide) | exact hs 2 (by decide) | exact zst_port hs hlt | exact hs 4 (by decide)) rfl ?_
      refine go_if_gt (tgt := 36) dX2_portsAreCalm_19 (by decide) (fun c19 => ?_) (fun c19 => ?_)
      · refine go_iconst (v := 0) dX2_portsAreCalm_36 (by decide) ?_
        refine go_zret dX2_portsAreCalm_37 rfl (by first | rfl | exact zi_n) ?_ ?_ (Nat.zero_le _) (Nat.zero_le _)
        · exact zrf (fun q => (q k hlt).1 c19)
        · rfl
      · refine go_aload_n dX2_portsAreCalm_22 rfl ?_
        refine go_getf dX2_portsAreCalm_23 flX2_120 (by first | exact hs 0 (by decide) | exact hs 3 (by decide) | exact hs 1 (by decide) | exact hs 2 (by decide) | exact zst_port hs hlt | exact hs 4 (by decide)) rfl ?_
        refine go_if_gt (tgt := 36) dX2_portsAreCalm_26 (by decide) (fun c26 => ?_) (fun c26 => ?_)
        · refine go_iconst (v := 0) dX2_portsAreCalm_36 (by decide) ?_
          refine go_zret dX2_portsAreCalm_37 rfl (by first | rfl | exact zi_n) ?_ ?_ (Nat.zero_le _) (Nat.zero_le _)
          · exact zrf (fun q => (q k hlt).2.1 c26)
          · rfl
        · refine go_aload_n dX2_portsAreCalm_29 rfl ?_
          refine go_callVi (ci := 1) dX2_portsAreCalm_30 moX1_isOverloaded cvX2_117 ⟨rfl, rfl⟩ (kX1_isOverloaded γ l _ h _ _ (zst_port hs hlt)) (by first | exact hs 0 (by decide) | exact hs 3 (by decide) | exact hs 1 (by decide) | exact hs 2 (by decide) | exact zst_port hs hlt | exact hs 4 (by decide)) rfl rfl (Nat.le_refl _) (Nat.zero_le _) (Nat.zero_le _) (Nat.le_of_ble_eq_true rfl) ?_
          refine go_if_eq (tgt := 38) dX2_portsAreCalm_33 (by decide) (fun c33 => ?_) (fun c33 => ?_)
          · refine go_iinc dX2_portsAreCalm_38 rfl (nI_1 k) (Nat.le_of_ble_eq_true rfl) ?_
            refine go_goto (tgt := 2) dX2_portsAreCalm_41 (by decide) ?_
            exact go_vl (ih (k + 1) (fun j hj => by
              rcases Nat.lt_or_eq_of_le (Nat.le_of_lt_succ hj) with h1 | h1
              · exact hc j h1
              · subst h1; exact ⟨c19, c26, zi_0.mp c33⟩) (by omega)) ⟨rfl, rfl, trivial⟩
          · refine go_iconst (v := 0) dX2_portsAreCalm_36 (by decide) ?_
            refine go_zret dX2_portsAreCalm_37 rfl (by first | rfl | exact zi_n) ?_ ?_ (Nat.zero_le _) (Nat.zero_le _)
            · exact zrf (fun q => c33 (zi_0.mpr (q k hlt).2.2))
            · rfl
  refine go_iconst (v := 0) dX2_portsAreCalm_0 (by decide) ?_
  refine go_istore_n dX2_portsAreCalm_1 (Nat.le_of_ble_eq_true rfl) ?_
  exact loop 8 0 (fun j hj => absurd hj (Nat.not_lt_zero j)) rfl
abbrev sStab (σ : zS) : Prop := σ 2 4 = 0 ∧ ¬ sSp σ 8 < 0 ∧ sCalm σ ∧ (sFp σ 8).1 = -6
set_option maxRecDepth 4000 in
theorem kX2_isStable (γ : zG) (l : Launch) (n : Nat) (h : zH) (a : Nat) (σ : zS) (hs : zSt16 γ h a σ) : Con γ l (n + 4) 0 0 MX2_isStable [.ref a] h (some (.int (zi (sStab σ)))) h := by
  refine Con.go (by decide +kernel) (Nat.le_of_ble_eq_true rfl) ⟨rfl, trivial⟩ ?_
  show Go _ 0 0 0 [some (.ref a)] [] _
  refine go_aload_n dX2_isStable_0 rfl ?_
  refine go_getf dX2_isStable_1 flX2_53 (by first | exact hs 0 (by decide) | exact hs 3 (by decide) | exact hs 1 (by decide) | exact hs 2 (by decide) | exact zst_port hs hlt | exact hs 4 (by decide)) rfl ?_
  refine go_if_ne (tgt := 34) dX2_isStable_4 (by decide) (fun c4 => ?_) (fun c4 => ?_)
  · refine go_iconst (v := 0) dX2_isStable_34 (by decide) ?_
    refine go_zret dX2_isStable_35 rfl (by first | rfl | exact zi_n) ?_ ?_ (Nat.zero_le _) (Nat.zero_le _)
    · exact zrf (fun q => c4 q.1)
    · rfl
  · refine go_aload_n dX2_isStable_7 rfl ?_
    refine go_callVi (ci := 2) dX2_isStable_8 moX2_sparePower cvX2_104 ⟨rfl, rfl⟩ (kX2_sparePower γ l _ h a σ hs) (by first | exact hs 0 (by decide) | exact hs 3 (by decide) | exact hs 1 (by decide) | exact hs 2 (by decide) | exact zst_port hs hlt | exact hs 4 (by decide)) rfl rfl (Nat.le_refl _) (Nat.zero_le _) (Nat.zero_le _) (Nat.le_of_ble_eq_true rfl) ?_
    refine go_if_lt (tgt := 34) dX2_isStable_11 (by decide) (fun c11 => ?_) (fun c11 => ?_)
    · refine go_iconst (v := 0) dX2_isStable_34 (by decide) ?_
      refine go_zret dX2_isStable_35 rfl (by first | rfl | exact zi_n) ?_ ?_ (Nat.zero_le _) (Nat.zero_le _)
      · exact zrf (fun q => q.2.1 c11)
      · rfl
    · refine go_aload_n dX2_isStable_14 rfl ?_
      refine go_callVi (ci := 2) dX2_isStable_15 moX2_portsAreCalm cvX2_133 ⟨rfl, rfl⟩ (kX2_portsAreCalm γ l _ h a σ hs) (by first | exact hs 0 (by decide) | exact hs 3 (by decide) | exact hs 1 (by decide) | exact hs 2 (by decide) | exact zst_port hs hlt | exact hs 4 (by decide)) rfl rfl (Nat.le_refl _) (Nat.zero_le _) (Nat.zero_le _) (Nat.le_of_ble_eq_true rfl) ?_
      refine go_if_eq (tgt := 34) dX2_isStable_18 (by decide) (fun c18 => ?_) (fun c18 => ?_)
      · refine go_iconst (v := 0) dX2_isStable_34 (by decide) ?_
        refine go_zret dX2_isStable_35 rfl (by first | rfl | exact zi_n) ?_ ?_ (Nat.zero_le _) (Nat.zero_le _)
        · exact zrf (fun q => zi_0.mp c18 q.2.2.1)
        · rfl
      · refine go_aload_n dX2_isStable_21 rfl ?_
        refine go_callVi (ci := 2) dX2_isStable_22 moX2_firstPortToPowerUp cvX2_126 ⟨rfl, rfl⟩ (kX2_firstPortToPowerUp γ l _ h a σ hs) (by first | exact hs 0 (by decide) | exact hs 3 (by decide) | exact hs 1 (by decide) | exact hs 2 (by decide) | exact zst_port hs hlt | exact hs 4 (by decide)) rfl rfl (Nat.le_refl _) (Nat.zero_le _) (Nat.zero_le _) (Nat.le_of_ble_eq_true rfl) ?_
        refine go_bipush (v := (-6)) dX2_isStable_25 (by decide) ?_
        refine go_icmp_ne (tgt := 34) dX2_isStable_27 (by decide) (fun c27 => ?_) (fun c27 => ?_)
        · refine go_iconst (v := 0) dX2_isStable_34 (by decide) ?_
          refine go_zret dX2_isStable_35 rfl (by first | rfl | exact zi_n) ?_ ?_ (Nat.zero_le _) (Nat.zero_le _)
          · exact zrf (fun q => c27 q.2.2.2)
          · rfl
        · refine go_iconst (v := 1) dX2_isStable_30 (by decide) ?_
          refine go_goto (tgt := 35) dX2_isStable_31 (by decide) ?_
          refine go_zret dX2_isStable_35 rfl (by first | rfl | exact zi_n) ?_ ?_ (Nat.zero_le _) (Nat.zero_le _)
          · exact zrt ⟨c4, c11, Classical.byContradiction fun q => c18 (zi_0.mpr q), c27⟩
          · rfl
def ush (x y : Int32) : Int32 := (x.toUInt32 >>> (y.toUInt32 &&& Int32.toUInt32 31)).toInt32
def zb1 (x : Int32) : Int32 := x - (ush x 1 &&& 1431655765)
def zb2 (x : Int32) : Int32 := (x &&& 858993459) + (ush x 2 &&& 858993459)
def zb3 (x : Int32) : Int32 := (x + ush x 4) &&& 252645135
def zb4 (x : Int32) : Int32 := x + ush x 8
def zb5 (x : Int32) : Int32 := x + ush x 16
def zbc (x : Int32) : Int32 := zb5 (zb4 (zb3 (zb2 (zb1 x)))) &&& 63
set_option maxRecDepth 4000 in
theorem kJ6_bitCount_0f7a4 (γ : zG) (l : Launch) (n : Nat) (h : zH) (x : Int32) : Con γ l (n) 0 0 MJ6_bitCount_0f7a4 [.int x] h (some (.int (zbc x))) h := by
  refine Con.go (by decide +kernel) (Nat.le_of_ble_eq_true rfl) ⟨rfl, trivial⟩ ?_
  show Go _ 0 0 0 [some (.int x)] [] _
  refine go_iload_n dJ6_bitCount_0f7a4_0 rfl ?_
  refine go_iload_n dJ6_bitCount_0f7a4_1 rfl ?_
  refine go_iconst (v := 1) dJ6_bitCount_0f7a4_2 (by decide) ?_
  refine go_iushr dJ6_bitCount_0f7a4_3 ?_
  refine go_ldcw dJ6_bitCount_0f7a4_4 kcJ6_265 ?_
  refine go_iand dJ6_bitCount_0f7a4_7 ?_
  refine go_isub dJ6_bitCount_0f7a4_8 ?_
  refine go_istore_n dJ6_bitCount_0f7a4_9 (Nat.le_of_ble_eq_true rfl) ?_
  refine go_iload_n dJ6_bitCount_0f7a4_10 rfl ?_
  refine go_ldcw dJ6_bitCount_0f7a4_11 kcJ6_266 ?_
  refine go_iand dJ6_bitCount_0f7a4_14 ?_
  refine go_iload_n dJ6_bitCount_0f7a4_15 rfl ?_
  refine go_iconst (v := 2) dJ6_bitCount_0f7a4_16 (by decide) ?_
  refine go_iushr dJ6_bitCount_0f7a4_17 ?_
  refine go_ldcw dJ6_bitCount_0f7a4_18 kcJ6_266 ?_
  refine go_iand dJ6_bitCount_0f7a4_21 ?_
  refine go_iadd dJ6_bitCount_0f7a4_22 ?_
  refine go_istore_n dJ6_bitCount_0f7a4_23 (Nat.le_of_ble_eq_true rfl) ?_
  refine go_iload_n dJ6_bitCount_0f7a4_24 rfl ?_
  refine go_iload_n dJ6_bitCount_0f7a4_25 rfl ?_
  refine go_iconst (v := 4) dJ6_bitCount_0f7a4_26 (by decide) ?_
  refine go_iushr dJ6_bitCount_0f7a4_27 ?_
  refine go_iadd dJ6_bitCount_0f7a4_28 ?_
  refine go_ldcw dJ6_bitCount_0f7a4_29 kcJ6_267 ?_
  refine go_iand dJ6_bitCount_0f7a4_32 ?_
  refine go_istore_n dJ6_bitCount_0f7a4_33 (Nat.le_of_ble_eq_true rfl) ?_
  refine go_iload_n dJ6_bitCount_0f7a4_34 rfl ?_
  refine go_iload_n dJ6_bitCount_0f7a4_35 rfl ?_
  refine go_bipush (v := 8) dJ6_bitCount_0f7a4_36 (by decide) ?_
  refine go_iushr dJ6_bitCount_0f7a4_38 ?_
  refine go_iadd dJ6_bitCount_0f7a4_39 ?_
  refine go_istore_n dJ6_bitCount_0f7a4_40 (Nat.le_of_ble_eq_true rfl) ?_
  refine go_iload_n dJ6_bitCount_0f7a4_41 rfl ?_
  refine go_iload_n dJ6_bitCount_0f7a4_42 rfl ?_
  refine go_bipush (v := 16) dJ6_bitCount_0f7a4_43 (by decide) ?_
  refine go_iushr dJ6_bitCount_0f7a4_45 ?_
  refine go_iadd dJ6_bitCount_0f7a4_46 ?_
  refine go_istore_n dJ6_bitCount_0f7a4_47 (Nat.le_of_ble_eq_true rfl) ?_
  refine go_iload_n dJ6_bitCount_0f7a4_48 rfl ?_
  refine go_bipush (v := 63) dJ6_bitCount_0f7a4_49 (by decide) ?_
  refine go_iand dJ6_bitCount_0f7a4_51 ?_
  refine go_iret dJ6_bitCount_0f7a4_52 rfl ?_ ?_ (Nat.zero_le _) (Nat.zero_le _)
  · rfl
  · rfl
