/-! State: methods that only read -/
set_option maxRecDepth 4000 in
theorem kX2_wholeBudget (γ : zG) (l : Launch) (n : Nat) (h : zH) (a : Nat) (σ : zS) (hs : zSt16 γ h a σ) : Con γ l (n + 1) 0 0 MX2_wholeBudget [.ref a] h (some (.int (sBud σ))) h := by
  refine Con.go (by decide +kernel) (Nat.le_of_ble_eq_true rfl) ⟨rfl, trivial⟩ ?_
  show Go _ 0 0 0 [some (.ref a), none, none] [] _
  have loop : ∀ (m k : Nat), k + m = 3 → Go (γ, l, n + 1, (0, 0), MX2_wholeBudget, zF γ 0 0 (some (.int (sBud σ))) h) 0 0 4 [some (.ref a), some (.int (sSum σ k)), some (.int (nI k))] [] h := by
    intro m
    induction m with
    | zero =>
      intro k hk
      have hkN : k = 3 := by omega
      subst hkN
      refine go_iload_n dX2_wholeBudget_4 rfl ?_
      refine go_iconst (v := 3) dX2_wholeBudget_5 (by decide) ?_
      refine go_icmp_ge (tgt := 33) dX2_wholeBudget_6 (by decide) (fun c6 => ?_) (fun c6 => absurd (by decide) c6)
      refine go_iconst (v := 0) dX2_wholeBudget_33 (by decide) ?_
      refine go_iload_n dX2_wholeBudget_34 rfl ?_
      refine go_aload_n dX2_wholeBudget_35 rfl ?_
      refine go_getf dX2_wholeBudget_36 flX2_50 (by first | exact hs 0 (by decide) | exact hs 3 (by decide) | exact hs 1 (by decide) | exact hs 2 (by decide) | exact zst_port hs hlt | exact hs 4 (by decide)) rfl ?_
      refine go_isub dX2_wholeBudget_39 ?_
      refine go_mmax dX2_wholeBudget_40 mxX2_59 (by show 1 ≤ _ + 1; omega) (Nat.zero_le _) (Nat.zero_le _) ?_
      refine go_iret dX2_wholeBudget_43 rfl ?_ ?_ (Nat.zero_le _) (Nat.zero_le _)
      · rfl
      · rfl
    | succ m ih =>
      intro k hk
      have hlt : k < 3 := by omega
      refine go_iload_n dX2_wholeBudget_4 rfl ?_
      refine go_iconst (v := 3) dX2_wholeBudget_5 (by decide) ?_
      refine go_icmp_ge (tgt := 33) dX2_wholeBudget_6 (by decide) (fun c6 => absurd c6 (zge3 hk)) (fun c6 => ?_)
      refine go_aload_n dX2_wholeBudget_9 rfl ?_
      refine go_getf dX2_wholeBudget_10 flX2_15 (by first | exact hs 0 (by decide) | exact hs 3 (by decide) | exact hs 1 (by decide) | exact hs 2 (by decide) | exact zst_port hs hlt | exact hs 4 (by decide)) rfl ?_
      refine go_iload_n dX2_wholeBudget_13 rfl ?_
      refine go_zald dX2_wholeBudget_14 (by first | exact hs 0 (by decide) | exact hs 3 (by decide) | exact hs 1 (by decide) | exact hs 2 (by decide) | exact zst_port hs hlt | exact hs 4 (by decide)) (zix rfl hlt (by decide)).1 (zix rfl hlt (by decide)).2 ?_
      refine go_if_eq (tgt := 27) dX2_wholeBudget_15 (by decide) (fun c15 => ?_) (fun c15 => ?_)
      · refine go_iinc dX2_wholeBudget_27 rfl (nI_1 k) (Nat.le_of_ble_eq_true rfl) ?_
        refine go_goto (tgt := 4) dX2_wholeBudget_30 (by decide) ?_
        exact (show sSum σ (k + 1) = sSum σ k from if_pos c15) ▸ ih (k + 1) (by omega)
      · refine go_iload_n dX2_wholeBudget_18 rfl ?_
        refine go_aload_n dX2_wholeBudget_19 rfl ?_
        refine go_getf dX2_wholeBudget_20 flX2_9 (by first | exact hs 0 (by decide) | exact hs 3 (by decide) | exact hs 1 (by decide) | exact hs 2 (by decide) | exact zst_port hs hlt | exact hs 4 (by decide)) rfl ?_
        refine go_iload_n dX2_wholeBudget_23 rfl ?_
        refine go_iald dX2_wholeBudget_24 (by first | exact hs 0 (by decide) | exact hs 3 (by decide) | exact hs 1 (by decide) | exact hs 2 (by decide) | exact zst_port hs hlt | exact hs 4 (by decide)) (zix rfl hlt (by decide)).1 (zix rfl hlt (by decide)).2 ?_
        refine go_iadd dX2_wholeBudget_25 ?_
        refine go_istore_n dX2_wholeBudget_26 (Nat.le_of_ble_eq_true rfl) ?_
        refine go_iinc dX2_wholeBudget_27 rfl (nI_1 k) (Nat.le_of_ble_eq_true rfl) ?_
        refine go_goto (tgt := 4) dX2_wholeBudget_30 (by decide) ?_
        exact (show sSum σ (k + 1) = sSum σ k + σ 0 k from if_neg c15) ▸ ih (k + 1) (by omega)
  refine go_iconst (v := 0) dX2_wholeBudget_0 (by decide) ?_
  refine go_istore_n dX2_wholeBudget_1 (Nat.le_of_ble_eq_true rfl) ?_
  refine go_iconst (v := 0) dX2_wholeBudget_2 (by decide) ?_
  refine go_istore_n dX2_wholeBudget_3 (Nat.le_of_ble_eq_true rfl) ?_
  exact loop 3 0 rfl
set_option maxRecDepth 4000 in
theorem kX2_sparePower (γ : zG) (l : Launch) (n : Nat) (h : zH) (a : Nat) (σ : zS) (hs : zSt16 γ h a σ) : Con γ l (n + 2) 0 0 MX2_sparePower [.ref a] h (some (.int (sSp σ 8))) h := by
  refine Con.go (by decide +kernel) (Nat.le_of_ble_eq_true rfl) ⟨rfl, trivial⟩ ?_
  show Go _ 0 0 0 [some (.ref a), none, none] [] _
  have loop : ∀ (m k : Nat), k + m = 8 → Go (γ, l, n + 2, (0, 0), MX2_sparePower, zF γ 0 0 (some (.int (sSp σ 8))) h) 0 0 7 [some (.ref a), some (.int (sSp σ k)), some (.int (nI k))] [] h := by
    intro m
    induction m with
    | zero =>
      intro k hk
      have hkN : k = 8 := by omega
      subst hkN
      refine go_iload_n dX2_sparePower_7 rfl ?_
      refine go_bipush (v := 8) dX2_sparePower_8 (by decide) ?_
      refine go_icmp_ge (tgt := 31) dX2_sparePower_10 (by decide) (fun c10 => ?_) (fun c10 => absurd (by decide) c10)
      refine go_iload_n dX2_sparePower_31 rfl ?_
      refine go_iret dX2_sparePower_32 rfl ?_ ?_ (Nat.zero_le _) (Nat.zero_le _)
      · rfl
      · rfl
    | succ m ih =>
      intro k hk
      have hlt : k < 8 := by omega
      refine go_iload_n dX2_sparePower_7 rfl ?_
      refine go_bipush (v := 8) dX2_sparePower_8 (by decide) ?_
      refine go_icmp_ge (tgt := 31) dX2_sparePower_10 (by decide) (fun c10 => absurd c10 (zge hk)) (fun c10 => ?_)
      refine go_iload_n dX2_sparePower_13 rfl ?_
      refine go_aload_n dX2_sparePower_14 rfl ?_
      refine go_getf dX2_sparePower_15 flX2_21 (by first | exact hs 0 (by decide) | exact hs 3 (by decide) | exact hs 1 (by decide) | exact hs 2 (by decide) | exact zst_port hs hlt | exact hs 4 (by decide)) rfl ?_
      refine go_iload_n dX2_sparePower_18 rfl ?_
      refine go_ald (t0 := 2) (C := RX1) dX2_sparePower_19 (by first | exact hs 0 (by decide) | exact hs 3 (by decide) | exact hs 1 (by decide) | exact hs 2 (by decide) | exact zst_port hs hlt | exact hs 4 (by decide)) rfl (zix rfl hlt (by decide)).1 (zix rfl hlt (by decide)).2 (zrf8 hlt) ?_
      refine go_getf dX2_sparePower_20 flX2_69 (by first | exact hs 0 (by decide) | exact hs 3 (by decide) | exact hs 1 (by decide) | exact hs 2 (by decide) | exact zst_port hs hlt | exact hs 4 (by decide)) rfl ?_
      refine go_isub dX2_sparePower_23 ?_
      refine go_istore_n dX2_sparePower_24 (Nat.le_of_ble_eq_true rfl) ?_
      refine go_iinc dX2_sparePower_25 rfl (nI_1 k) (Nat.le_of_ble_eq_true rfl) ?_
      refine go_goto (tgt := 7) dX2_sparePower_28 (by decide) ?_
      exact ih (k + 1) (by omega)
  refine go_aload_n dX2_sparePower_0 rfl ?_
  refine go_callVi (ci := 2) dX2_sparePower_1 moX2_wholeBudget cvX2_65 ⟨rfl, rfl⟩ (kX2_wholeBudget γ l _ h a σ hs) (by first | exact hs 0 (by decide) | exact hs 3 (by decide) | exact hs 1 (by decide) | exact hs 2 (by decide) | exact zst_port hs hlt | exact hs 4 (by decide)) rfl rfl (Nat.le_refl _) (Nat.zero_le _) (Nat.zero_le _) (Nat.le_of_ble_eq_true rfl) ?_
  refine go_istore_n dX2_sparePower_4 (Nat.le_of_ble_eq_true rfl) ?_
  refine go_iconst (v := 0) dX2_sparePower_5 (by decide) ?_
  refine go_istore_n dX2_sparePower_6 (Nat.le_of_ble_eq_true rfl) ?_
  exact loop 8 0 rfl
set_option maxRecDepth 4000 in
theorem kX2_eligibleSet (γ : zG) (l : Launch) (n : Nat) (h : zH) (a : Nat) (σ : zS) (hs : zSt16 γ h a σ) : Con γ l (n + 2) 0 0 MX2_eligibleSet [.ref a] h (some (.int (sEl σ 8))) h := by
  refine Con.go (by decide +kernel) (Nat.le_of_ble_eq_true rfl) ⟨rfl, trivial⟩ ?_
  show Go _ 0 0 0 [some (.ref a), none, none] [] _
  have loop : ∀ (m k : Nat), k + m = 8 → Go (γ, l, n + 2, (0, 0), MX2_eligibleSet, zF γ 0 0 (some (.int (sEl σ 8))) h) 0 0 4 [some (.ref a), some (.int (sEl σ k)), some (.int (nI k))] [] h := by
    intro m
    induction m with
    | zero =>
      intro k hk
      have hkN : k = 8 := by omega
      subst hkN
      refine go_iload_n dX2_eligibleSet_4 rfl ?_
      refine go_bipush (v := 8) dX2_eligibleSet_5 (by decide) ?_
      refine go_icmp_ge (tgt := 34) dX2_eligibleSet_7 (by decide) (fun c7 => ?_) (fun c7 => absurd (by decide) c7)
      refine go_iload_n dX2_eligibleSet_34 rfl ?_
      refine go_iret dX2_eligibleSet_35 rfl ?_ ?_ (Nat.zero_le _) (Nat.zero_le _)
      · rfl
      · rfl
    | succ m ih =>
      intro k hk
      have hlt : k < 8 := by omega
      refine go_iload_n dX2_eligibleSet_4 rfl ?_
      refine go_bipush (v := 8) dX2_eligibleSet_5 (by decide) ?_
      refine go_icmp_ge (tgt := 34) dX2_eligibleSet_7 (by decide) (fun c7 => absurd c7 (zge hk)) (fun c7 => ?_)
      refine go_aload_n dX2_eligibleSet_10 rfl ?_
      refine go_getf dX2_eligibleSet_11 flX2_21 (by first | exact hs 0 (by decide) | exact hs 3 (by decide) | exact hs 1 (by decide) | exact hs 2 (by decide) | exact zst_port hs hlt | exact hs 4 (by decide)) rfl ?_
      refine go_iload_n dX2_eligibleSet_14 rfl ?_
      refine go_ald (t0 := 2) (C := RX1) dX2_eligibleSet_15 (by first | exact hs 0 (by decide) | exact hs 3 (by decide) | exact hs 1 (by decide) | exact hs 2 (by decide) | exact zst_port hs hlt | exact hs 4 (by decide)) rfl (zix rfl hlt (by decide)).1 (zix rfl hlt (by decide)).2 (zrf8 hlt) ?_
      refine go_callVi (ci := 1) dX2_eligibleSet_16 moX1_isEligible cvX2_72 ⟨rfl, rfl⟩ (kX1_isEligible γ l _ h _ _ (zst_port hs hlt)) (by first | exact hs 0 (by decide) | exact hs 3 (by decide) | exact hs 1 (by decide) | exact hs 2 (by decide) | exact zst_port hs hlt | exact hs 4 (by decide)) rfl rfl (Nat.le_refl _) (Nat.zero_le _) (Nat.zero_le _) (Nat.le_of_ble_eq_true rfl) ?_
      refine go_if_eq (tgt := 28) dX2_eligibleSet_19 (by decide) (fun c19 => ?_) (fun c19 => ?_)
      · refine go_iinc dX2_eligibleSet_28 rfl (nI_1 k) (Nat.le_of_ble_eq_true rfl) ?_
        refine go_goto (tgt := 4) dX2_eligibleSet_31 (by decide) ?_
        exact (show sEl σ (k + 1) = sEl σ k from if_neg (zi_0.mp c19)) ▸ ih (k + 1) (by omega)
      · refine go_iload_n dX2_eligibleSet_22 rfl ?_
        refine go_iconst (v := 1) dX2_eligibleSet_23 (by decide) ?_
        refine go_iload_n dX2_eligibleSet_24 rfl ?_
        refine go_ishl dX2_eligibleSet_25 ?_
        refine go_ior dX2_eligibleSet_26 ?_
        refine go_istore_n dX2_eligibleSet_27 (Nat.le_of_ble_eq_true rfl) ?_
        refine go_iinc dX2_eligibleSet_28 rfl (nI_1 k) (Nat.le_of_ble_eq_true rfl) ?_
        refine go_goto (tgt := 4) dX2_eligibleSet_31 (by decide) ?_
        exact (show sEl σ (k + 1) = sEl σ k ||| bit (nI k) from if_pos (Classical.byContradiction fun q => c19 (zi_0.mpr q))) ▸ ih (k + 1) (by omega)
  refine go_iconst (v := 0) dX2_eligibleSet_0 (by decide) ?_
  refine go_istore_n dX2_eligibleSet_1 (Nat.le_of_ble_eq_true rfl) ?_
  refine go_iconst (v := 0) dX2_eligibleSet_2 (by decide) ?_
  refine go_istore_n dX2_eligibleSet_3 (Nat.le_of_ble_eq_true rfl) ?_
  exact loop 8 0 rfl
set_option maxRecDepth 4000 in
theorem kX2_poweredSet (γ : zG) (l : Launch) (n : Nat) (h : zH) (a : Nat) (σ : zS) (hs : zSt16 γ h a σ) : Con γ l (n + 1) 0 0 MX2_poweredSet [.ref a] h (some (.int (sPw σ 8))) h := by
  refine Con.go (by decide +kernel) (Nat.le_of_ble_eq_true rfl) ⟨rfl, trivial⟩ ?_
  show Go _ 0 0 0 [some (.ref a), none, none] [] _
  have loop : ∀ (m k : Nat), k + m = 8 → Go (γ, l, n + 1, (0, 0), MX2_poweredSet, zF γ 0 0 (some (.int (sPw σ 8))) h) 0 0 4 [some (.ref a), some (.int (sPw σ k)), some (.int (nI k))] [] h := by
    intro m
    induction m with
    | zero =>
      intro k hk
      have hkN : k = 8 := by omega
      subst hkN
      refine go_iload_n dX2_poweredSet_4 rfl ?_
      refine go_bipush (v := 8) dX2_poweredSet_5 (by decide) ?_
      refine go_icmp_ge (tgt := 34) dX2_poweredSet_7 (by decide) (fun c7 => ?_) (fun c7 => absurd (by decide) c7)
      refine go_iload_n dX2_poweredSet_34 rfl ?_
      refine go_iret dX2_poweredSet_35 rfl ?_ ?_ (Nat.zero_le _) (Nat.zero_le _)
      · rfl
      · rfl
    | succ m ih =>
      intro k hk
      have hlt : k < 8 := by omega
      refine go_iload_n dX2_poweredSet_4 rfl ?_
      refine go_bipush (v := 8) dX2_poweredSet_5 (by decide) ?_
      refine go_icmp_ge (tgt := 34) dX2_poweredSet_7 (by decide) (fun c7 => absurd c7 (zge hk)) (fun c7 => ?_)
      refine go_aload_n dX2_poweredSet_10 rfl ?_
      refine go_getf dX2_poweredSet_11 flX2_21 (by first | exact hs 0 (by decide) | exact hs 3 (by decide) | exact hs 1 (by decide) | exact hs 2 (by decide) | exact zst_port hs hlt | exact hs 4 (by decide)) rfl ?_
      refine go_iload_n dX2_poweredSet_14 rfl ?_
      refine go_ald (t0 := 2) (C := RX1) dX2_poweredSet_15 (by first | exact hs 0 (by decide) | exact hs 3 (by decide) | exact hs 1 (by decide) | exact hs 2 (by decide) | exact zst_port hs hlt | exact hs 4 (by decide)) rfl (zix rfl hlt (by decide)).1 (zix rfl hlt (by decide)).2 (zrf8 hlt) ?_
      refine go_callVi (ci := 1) dX2_poweredSet_16 moX1_isPowered cvX2_76 ⟨rfl, rfl⟩ (kX1_isPowered γ l _ h _ _ (zst_port hs hlt)) (by first | exact hs 0 (by decide) | exact hs 3 (by decide) | exact hs 1 (by decide) | exact hs 2 (by decide) | exact zst_port hs hlt | exact hs 4 (by decide)) rfl rfl (Nat.le_refl _) (Nat.zero_le _) (Nat.zero_le _) (Nat.le_of_ble_eq_true rfl) ?_
      refine go_if_eq (tgt := 28) dX2_poweredSet_19 (by decide) (fun c19 => ?_) (fun c19 => ?_)
      · refine go_iinc dX2_poweredSet_28 rfl (nI_1 k) (Nat.le_of_ble_eq_true rfl) ?_
        refine go_goto (tgt := 4) dX2_poweredSet_31 (by decide) ?_
        exact (show sPw σ (k + 1) = sPw σ k from if_neg (zi_0.mp c19)) ▸ ih (k + 1) (by omega)
      · refine go_iload_n dX2_poweredSet_22 rfl ?_
        refine go_iconst (v := 1) dX2_poweredSet_23 (by decide) ?_
        refine go_iload_n dX2_poweredSet_24 rfl ?_
        refine go_ishl dX2_poweredSet_25 ?_
        refine go_ior dX2_poweredSet_26 ?_
        refine go_istore_n dX2_poweredSet_27 (Nat.le_of_ble_eq_true rfl) ?_
        refine go_iinc dX2_poweredSet_28 rfl (nI_1 k) (Nat.le_of_ble_eq_true rfl) ?_
        refine go_goto (tgt := 4) dX2_poweredSet_31 (by decide) ?_
        exact (show sPw σ (k + 1) = sPw σ k ||| bit (nI k) from if_pos (Classical.byContradiction fun q => c19 (zi_0.mpr q))) ▸ ih (k + 1) (by omega)
  refine go_iconst (v := 0) dX2_poweredSet_0 (by decide) ?_
  refine go_istore_n dX2_poweredSet_1 (Nat.le_of_ble_eq_true rfl) ?_
  refine go_iconst (v := 0) dX2_poweredSet_2 (by decide) ?_
  refine go_istore_n dX2_poweredSet_3 (Nat.le_of_ble_eq_true rfl) ?_
  exact loop 8 0 rfl
set_option maxRecDepth 4000 in
theorem kX2_lastPoweredPort (γ : zG) (l : Launch) (n : Nat) (h : zH) (a : Nat) (σ : zS) (hs : zSt16 γ h a σ) : Con γ l (n + 1) 0 0 MX2_lastPoweredPort [.ref a] h (some (.int (sLp σ 8).1)) h := by
  refine Con.go (by decide +kernel) (Nat.le_of_ble_eq_true rfl) ⟨rfl, trivial⟩ ?_
  show Go _ 0 0 0 [some (.ref a), none, none, none, none] [] _
  have loop : ∀ (m k : Nat), k + m = 8 → Go (γ, l, n + 1, (0, 0), MX2_lastPoweredPort, zF γ 0 0 (some (.int (sLp σ 8).1)) h) 0 0 7 [some (.ref a), some (.int (sLp σ k).1), some (.int (sLp σ k).2), some (.int (nI k)), none] [] h := by
    intro m
    induction m with
    | zero =>
      intro k hk
      have hkN : k = 8 := by omega
      subst hkN
      refine go_iload_n dX2_lastPoweredPort_7 rfl ?_
      refine go_bipush (v := 8) dX2_lastPoweredPort_8 (by decide) ?_
      refine go_icmp_ge (tgt := 52) dX2_lastPoweredPort_10 (by decide) (fun c10 => ?_) (fun c10 => absurd (by decide) c10)
      refine go_iload_n dX2_lastPoweredPort_52 rfl ?_
      refine go_iret dX2_lastPoweredPort_53 rfl ?_ ?_ (Nat.zero_le _) (Nat.zero_le _)
      · rfl
      · rfl
    | succ m ih =>
      intro k hk
      have hlt : k < 8 := by omega
      refine go_iload_n dX2_lastPoweredPort_7 rfl ?_
      refine go_bipush (v := 8) dX2_lastPoweredPort_8 (by decide) ?_
      refine go_icmp_ge (tgt := 52) dX2_lastPoweredPort_10 (by decide) (fun c10 => absurd c10 (zge hk)) (fun c10 => ?_)
      refine go_aload_n dX2_lastPoweredPort_13 rfl ?_
      refine go_getf dX2_lastPoweredPort_14 flX2_21 (by first | exact hs 0 (by decide) | exact hs 3 (by decide) | exact hs 1 (by decide) | exact hs 2 (by decide) | exact zst_port hs hlt | exact hs 4 (by decide)) rfl ?_
      refine go_iload_n dX2_lastPoweredPort_17 rfl ?_
      refine go_ald (t0 := 2) (C := RX1) dX2_lastPoweredPort_18 (by first | exact hs 0 (by decide) | exact hs 3 (by decide) | exact hs 1 (by decide) | exact hs 2 (by decide) | exact zst_port hs hlt | exact hs 4 (by decide)) rfl (zix rfl hlt (by decide)).1 (zix rfl hlt (by decide)).2 (zrf8 hlt) ?_
      refine go_astore dX2_lastPoweredPort_19 (Nat.le_of_ble_eq_true rfl) ?_
      refine go_aload dX2_lastPoweredPort_21 rfl ?_
      refine go_callVi (ci := 1) dX2_lastPoweredPort_23 moX1_isPowered cvX2_76 ⟨rfl, rfl⟩ (kX1_isPowered γ l _ h _ _ (zst_port hs hlt)) (by first | exact hs 0 (by decide) | exact hs 3 (by decide) | exact hs 1 (by decide) | exact hs 2 (by decide) | exact zst_port hs hlt | exact hs 4 (by decide)) rfl rfl (Nat.le_refl _) (Nat.zero_le _) (Nat.zero_le _) (Nat.le_of_ble_eq_true rfl) ?_
      refine go_if_eq (tgt := 46) dX2_lastPoweredPort_26 (by decide) (fun c26 => ?_) (fun c26 => ?_)
      · refine go_iinc dX2_lastPoweredPort_46 rfl (nI_1 k) (Nat.le_of_ble_eq_true rfl) ?_
        refine go_goto (tgt := 7) dX2_lastPoweredPort_49 (by decide) ?_
        refine go_lv (lv' := [some (.ref a), some (.int (sLp σ (k + 1)).1), some (.int (sLp σ (k + 1)).2), some (.int (nI (k + 1))), none]) ?_ (ih (k + 1) (by omega))
        rw [show sLp σ (k + 1) = sLp σ k from if_neg (fun q => zi_0.mp c26 q.1)]
        exact ⟨rfl, rfl, rfl, rfl, trivial⟩
      · refine go_aload dX2_lastPoweredPort_29 rfl ?_
        refine go_getf dX2_lastPoweredPort_31 flX2_79 (by first | exact hs 0 (by decide) | exact hs 3 (by decide) | exact hs 1 (by decide) | exact hs 2 (by decide) | exact zst_port hs hlt | exact hs 4 (by decide)) rfl ?_
        refine go_iload_n dX2_lastPoweredPort_34 rfl ?_
        refine go_icmp_lt (tgt := 46) dX2_lastPoweredPort_35 (by decide) (fun c35 => ?_) (fun c35 => ?_)
        · refine go_iinc dX2_lastPoweredPort_46 rfl (nI_1 k) (Nat.le_of_ble_eq_true rfl) ?_
          refine go_goto (tgt := 7) dX2_lastPoweredPort_49 (by decide) ?_
          refine go_lv (lv' := [some (.ref a), some (.int (sLp σ (k + 1)).1), some (.int (sLp σ (k + 1)).2), some (.int (nI (k + 1))), none]) ?_ (ih (k + 1) (by omega))
          rw [show sLp σ (k + 1) = sLp σ k from if_neg (fun q => q.2 c35)]
          exact ⟨rfl, rfl, rfl, rfl, trivial⟩
        · refine go_iload_n dX2_lastPoweredPort_38 rfl ?_
          refine go_istore_n dX2_lastPoweredPort_39 (Nat.le_of_ble_eq_true rfl) ?_
          refine go_aload dX2_lastPoweredPort_40 rfl ?_
          refine go_getf dX2_lastPoweredPort_42 flX2_79 (by first | exact hs 0 (by decide) | exact hs 3 (by decide) | exact hs 1 (by decide) | exact hs 2 (by decide) | exact zst_port hs hlt | exact hs 4 (by decide)) rfl ?_
          refine go_istore_n dX2_lastPoweredPort_45 (Nat.le_of_ble_eq_true rfl) ?_
          refine go_iinc dX2_lastPoweredPort_46 rfl (nI_1 k) (Nat.le_of_ble_eq_true rfl) ?_
          refine go_goto (tgt := 7) dX2_lastPoweredPort_49 (by decide) ?_
          refine go_lv (lv' := [some (.ref a), some (.int (sLp σ (k + 1)).1), some (.int (sLp σ (k + 1)).2), some (.int (nI (k + 1))), none]) ?_ (ih (k + 1) (by omega))
          rw [show sLp σ (k + 1) = (nI k, σ (7 + k) 1) from if_pos ⟨Classical.byContradiction fun q => c26 (zi_0.mpr q), c35⟩]
          exact ⟨rfl, rfl, rfl, rfl, trivial⟩
  refine go_bipush (v := (-6)) dX2_lastPoweredPort_0 (by decide) ?_
  refine go_istore_n dX2_lastPoweredPort_2 (Nat.le_of_ble_eq_true rfl) ?_
  refine go_iconst (v := 0) dX2_lastPoweredPort_3 (by decide) ?_
  refine go_istore_n dX2_lastPoweredPort_4 (Nat.le_of_ble_eq_true rfl) ?_
  refine go_iconst (v := 0) dX2_lastPoweredPort_5 (by decide) ?_
  refine go_istore_n dX2_lastPoweredPort_6 (Nat.le_of_ble_eq_true rfl) ?_
  exact loop 8 0 rfl
set_option maxRecDepth 4000 in
theorem kX2_firstPortToPowerUp (γ : zG) (l : Launch) (n : Nat) (h : zH) (a : Nat) (σ : zS) (hs : zSt16 γ h a σ) : Con γ l (n + 3) 0 0 MX2_firstPortToPowerUp [.ref a] h (some (.int (sFp σ 8).1)) h := by
  refine Con.go (by decide +kernel) (Nat.le_of_ble_eq_true rfl) ⟨rfl, trivial⟩ ?_
  show Go _ 0 0 0 [some (.ref a), none, none, none, none, none] [] _
  have loop : ∀ (m k : Nat), k + m = 8 → Go (γ, l, n + 3, (0, 0), MX2_firstPortToPowerUp, zF γ 0 0 (some (.int (sFp σ 8).1)) h) 0 0 13 [some (.ref a), some (.int (sFp σ k).1), some (.int (sFp σ k).2), some (.int (sSp σ 8)), some (.int (nI k)), none] [] h := by
    intro m
    induction m with
    | zero =>
      intro k hk
      have hkN : k = 8 := by omega
      subst hkN
      refine go_iload dX2_firstPortToPowerUp_13 rfl ?_
      refine go_bipush (v := 8) dX2_firstPortToPowerUp_15 (by decide) ?_
      refine go_icmp_ge (tgt := 62) dX2_firstPortToPowerUp_17 (by decide) (fun c17 => ?_) (fun c17 => absurd (by decide) c17)
      refine go_iload_n dX2_firstPortToPowerUp_62 rfl ?_
      refine go_iret dX2_firstPortToPowerUp_63 rfl ?_ ?_ (Nat.zero_le _) (Nat.zero_le _)
      · rfl
      · rfl
    | succ m ih =>
      intro k hk
      have hlt : k < 8 := by omega
      refine go_iload dX2_firstPortToPowerUp_13 rfl ?_
      refine go_bipush (v := 8) dX2_firstPortToPowerUp_15 (by decide) ?_
      refine go_icmp_ge (tgt := 62) dX2_firstPortToPowerUp_17 (by decide) (fun c17 => absurd c17 (zge hk)) (fun c17 => ?_)
      refine go_aload_n dX2_firstPortToPowerUp_20 rfl ?_
      refine go_getf dX2_firstPortToPowerUp_21 flX2_21 (by first | exact hs 0 (by decide) | exact hs 3 (by decide) | exact hs 1 (by decide) | exact hs 2 (by decide) | exact zst_port hs hlt | exact hs 4 (by decide)) rfl ?_
      refine go_iload dX2_firstPortToPowerUp_24 rfl ?_
      refine go_ald (t0 := 2) (C := RX1) dX2_firstPortToPowerUp_26 (by first | exact hs 0 (by decide) | exact hs 3 (by decide) | exact hs 1 (by decide) | exact hs 2 (by decide) | exact zst_port hs hlt | exact hs 4 (by decide)) rfl (zix rfl hlt (by decide)).1 (zix rfl hlt (by decide)).2 (zrf8 hlt) ?_
      refine go_astore dX2_firstPortToPowerUp_27 (Nat.le_of_ble_eq_true rfl) ?_
      refine go_aload dX2_firstPortToPowerUp_29 rfl ?_
      refine go_getf dX2_firstPortToPowerUp_31 flX2_79 (by first | exact hs 0 (by decide) | exact hs 3 (by decide) | exact hs 1 (by decide) | exact hs 2 (by decide) | exact zst_port hs hlt | exact hs 4 (by decide)) rfl ?_
      refine go_iload_n dX2_firstPortToPowerUp_34 rfl ?_
      refine go_icmp_ge (tgt := 56) dX2_firstPortToPowerUp_35 (by decide) (fun c35 => ?_) (fun c35 => ?_)
      · refine go_iinc dX2_firstPortToPowerUp_56 rfl (nI_1 k) (Nat.le_of_ble_eq_true rfl) ?_
        refine go_goto (tgt := 13) dX2_firstPortToPowerUp_59 (by decide) ?_
        refine go_lv (lv' := [some (.ref a), some (.int (sFp σ (k + 1)).1), some (.int (sFp σ (k + 1)).2), some (.int (sSp σ 8)), some (.int (nI (k + 1))), none]) ?_ (ih (k + 1) (by omega))
        rw [show sFp σ (k + 1) = sFp σ k from if_neg (fun q => zle.mp c35 q.1)]
        exact ⟨rfl, rfl, rfl, rfl, rfl, trivial⟩
      · refine go_aload dX2_firstPortToPowerUp_38 rfl ?_
        refine go_iload_n dX2_firstPortToPowerUp_40 rfl ?_
        refine go_callVi (ci := 1) dX2_firstPortToPowerUp_41 moX1_canPowerUp cvX2_129 ⟨rfl, rfl⟩ (kX1_canPowerUp γ l _ h _ _ (zst_port hs hlt) _) (by first | exact hs 0 (by decide) | exact hs 3 (by decide) | exact hs 1 (by decide) | exact hs 2 (by decide) | exact zst_port hs hlt | exact hs 4 (by decide)) rfl rfl (Nat.le_refl _) (Nat.zero_le _) (Nat.zero_le _) (Nat.le_of_ble_eq_true rfl) ?_
        refine go_if_eq (tgt := 56) dX2_firstPortToPowerUp_44 (by decide) (fun c44 => ?_) (fun c44 => ?_)
        · refine go_iinc dX2_firstPortToPowerUp_56 rfl (nI_1 k) (Nat.le_of_ble_eq_true rfl) ?_
          refine go_goto (tgt := 13) dX2_firstPortToPowerUp_59 (by decide) ?_
          refine go_lv (lv' := [some (.ref a), some (.int (sFp σ (k + 1)).1), some (.int (sFp σ (k + 1)).2), some (.int (sSp σ 8)), some (.int (nI (k + 1))), none]) ?_ (ih (k + 1) (by omega))
          rw [show sFp σ (k + 1) = sFp σ k from if_neg (fun q => zi_0.mp c44 q.2)]
          exact ⟨rfl, rfl, rfl, rfl, rfl, trivial⟩
        · refine go_iload dX2_firstPortToPowerUp_47 rfl ?_
          refine go_istore_n dX2_firstPortToPowerUp_49 (Nat.le_of_ble_eq_true rfl) ?_
          refine go_aload dX2_firstPortToPowerUp_50 rfl ?_
          refine go_getf dX2_firstPortToPowerUp_52 flX2_79 (by first | exact hs 0 (by decide) | exact hs 3 (by decide) | exact hs 1 (by decide) | exact hs 2 (by decide) | exact zst_port hs hlt | exact hs 4 (by decide)) rfl ?_
          refine go_istore_n dX2_firstPortToPowerUp_55 (Nat.le_of_ble_eq_true rfl) ?_
          refine go_iinc dX2_firstPortToPowerUp_56 rfl (nI_1 k) (Nat.le_of_ble_eq_true rfl) ?_
          refine go_goto (tgt := 13) dX2_firstPortToPowerUp_59 (by decide) ?_
          refine go_lv (lv' := [some (.ref a), some (.int (sFp σ (k + 1)).1), some (.int (sFp σ (k + 1)).2), some (.int (sSp σ 8)), some (.int (nI (k + 1))), none]) ?_ (ih (k + 1) (by omega))
          rw [show sFp σ (k + 1) = (nI k, σ (7 + k) 1) from if_pos ⟨Int32.not_le.mp c35, Classical.byContradiction fun q => c44 (zi_0.mpr q)⟩]
          exact ⟨rfl, rfl, rfl, rfl, rfl, trivial⟩
  refine go_bipush (v := (-6)) dX2_firstPortToPowerUp_0 (by decide) ?_
  refine go_istore_n dX2_firstPortToPowerUp_2 (Nat.le_of_ble_eq_true rfl) ?_
  refine go_iconst (v := 3) dX2_firstPortToPowerUp_3 (by decide) ?_
  refine go_istore_n dX2_firstPortToPowerUp_4 (Nat.le_of_ble_eq_true rfl) ?_
  refine go_aload_n dX2_firstPortToPowerUp_5 rfl ?_
  refine go_callVi (ci := 2) dX2_firstPortToPowerUp_6 moX2_sparePower cvX2_104 ⟨rfl, rfl⟩ (kX2_sparePower γ l _ h a σ hs) (by first | exact hs 0 (by decide) | exact hs 3 (by decide) | exact hs 1 (by decide) | exact hs 2 (by decide) | exact zst_port hs hlt | exact hs 4 (by decide)) rfl rfl (Nat.le_refl _) (Nat.zero_le _) (Nat.zero_le _) (Nat.le_of_ble_eq_true rfl) ?_
  refine go_istore_n dX2_firstPortToPowerUp_9 (Nat.le_of_ble_eq_true rfl) ?_
  refine go_iconst (v := 0) dX2_firstPortToPowerUp_10 (by decide) ?_
  refine go_istore dX2_firstPortToPowerUp_11 (Nat.le_of_ble_eq_true rfl) ?_
  exact loop 8 0 rfl
