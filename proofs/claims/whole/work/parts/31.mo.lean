/-! PoeSwitchModel: readers and setters -/
theorem upR_id {σ : zS} {c : Nat} : upR σ c (σ c) = σ := by
  funext x
  by_cases h : x = c <;> simp [upR, h]
theorem n3k (k : Nat) : (3 : Int32) + nI k = nI (3 + k) := nI_add 3 k
theorem n0k (k : Nat) : (0 : Int32) + nI k = nI (0 + k) := nI_add 0 k
theorem n0s {s : Int32} (h : aS s) : (0 : Int32) + s = nI (ix s) := by rw [Int32.zero_add]; exact (zn3 h).1
theorem n3s {s : Int32} (h : aS s) : (3 : Int32) + s = nI (3 + ix s) := by
  exact (congrArg (fun v => (3 : Int32) + v) (zn3 h).1).trans (n3k _)
def nCap (M : Nat → Int32) (s c : Int32) : Int32 × (Nat → Int32) := if aS s then (if 0 ≤ c ∧ c ≤ 3000 then (M (ix s), upd M (ix s) c) else (-2, M)) else (-1, M)
def nWrk (M : Nat → Int32) (s w : Int32) : Int32 × (Nat → Int32) := if aS s then (M (3 + ix s), upd M (3 + ix s) (if w = 0 then 0 else 1)) else (-1, M)
def nRow (M : Nat → Int32) (i : Nat) (lo hi v : Int32) : Int32 × (Nat → Int32) := if lo ≤ v ∧ v ≤ hi then (M i, upd M i v) else (-2, M)
abbrev nEn1 (M : Nat → Int32) (p w : Int32) : Nat → Int32 := if w = 0 then upd (nLose M (ix p)) (mi (ix p) 10) 0 else M
def nEna (M : Nat → Int32) (p w : Int32) : Int32 × (Nat → Int32) := if aP p then (if w = 0 then (upd (nLose M (ix p)) (mi (ix p) 10) 0 (mi (ix p) 0), upd (upd (nLose M (ix p)) (mi (ix p) 10) 0) (mi (ix p) 0) 0) else (M (mi (ix p) 0), upd M (mi (ix p) 0) 1)) else (-1, M)
def nPri (M : Nat → Int32) (p q : Int32) : Int32 × (Nat → Int32) := if aP p then (if 0 ≤ q ∧ q ≤ 2 then (M (mi (ix p) 1), upd M (mi (ix p) 1) q) else (-2, M)) else (-1, M)
def nCon (M : Nat → Int32) (p r c i w : Int32) : Int32 × (Nat → Int32) := if aP p then (if (1 ≤ r ∧ r ≤ 999) ∧ (0 ≤ c ∧ c ≤ 99) ∧ (0 ≤ i ∧ i ≤ 60) ∧ (0 ≤ w ∧ w ≤ 999) then (if nCo M (ix p) then (-3, M) else (clM i, upd (upd (upd (upd (upd (upd M (mi (ix p) 2) 1) (mi (ix p) 3) r) (mi (ix p) 4) c) (mi (ix p) 5) i) (mi (ix p) 6) w) (mi (ix p) 7) (if 0 ≤ clM i then nMx (clM i) else 0))) else (-2, M)) else (-1, M)
def nDz (M : Nat → Int32) (j : Nat) : Nat → Nat → Int32
  | 0 => M
  | t + 1 => upd (nDz M j t) (mi j (2 + t)) 0
def nDis (M : Nat → Int32) (p : Int32) : Int32 × (Nat → Int32) := if aP p then (if nCo M (ix p) then (zi (0 < gM M (ix p) 8), upd (nDz (nLose M (ix p)) (ix p) 6) (mi (ix p) 10) 0) else (-3, M)) else (-1, M)
def nLoa (M : Nat → Int32) (p w : Int32) : Int32 × (Nat → Int32) := if aP p then (if 0 ≤ w ∧ w ≤ 999 then (if nCo M (ix p) then (M (mi (ix p) 6), upd M (mi (ix p) 6) w) else (-3, M)) else (-2, M)) else (-1, M)
def nReq (M : Nat → Int32) (p w : Int32) : Int32 × (Nat → Int32) := if aP p then (if 0 ≤ nCl M (ix p) then (if 1 ≤ w ∧ w ≤ nMx (nCl M (ix p)) then (if 0 < gM M (ix p) 8 then (if 0 < w - gM M (ix p) 8 ∧ nAv M 8 < w - gM M (ix p) 8 then (-5, M) else (upd M (mi (ix p) 8) w (mi (ix p) 7), upd (upd M (mi (ix p) 8) w) (mi (ix p) 7) w)) else (M (mi (ix p) 7), upd M (mi (ix p) 7) w)) else (-2, M)) else (-3, M)) else (-1, M)
def nRqt (M : Nat → Int32) (p : Int32) : Int32 := if aP p then (if 0 ≤ nCl M (ix p) then M (mi (ix p) 7) else -6) else -1
def nFld (M : Nat → Int32) (k : Nat) (p : Int32) : Int32 := if aP p then M (mi (ix p) k) else -1
set_option maxRecDepth 4000 in
theorem kX4_budget (γ : zG) (l : Launch) (n : Nat) (h : zH) (b : Nat) (μ : zS) (hm : zMd γ h b μ) : Con γ l (n) 0 0 MX4_budget [.ref b] h (some (.int (nBud (μ 0)))) h := by
  refine Con.go (by decide +kernel) (Nat.le_of_ble_eq_true rfl) ⟨rfl, trivial⟩ ?_
  show Go _ 0 0 0 [some (.ref b), none, none] [] _
  have loop : ∀ (m k : Nat), k + m = 3 → Go (γ, l, n, (0, 0), MX4_budget, zF γ 0 0 (some (.int (nBud (μ 0)))) h) 0 0 4 [some (.ref b), some (.int (nSum (μ 0) k)), some (.int (nI k))] [] h := by
    intro m
    induction m with
    | zero =>
      intro k hk
      have hkN : k = 3 := by omega
      subst hkN
      refine go_iload_n dX4_budget_4 rfl ?_
      refine go_iconst (v := 3) dX4_budget_5 (by decide) ?_
      refine go_icmp_ge (tgt := 35) dX4_budget_6 (by decide) (fun c6 => ?_) (fun c6 => absurd (by decide) c6)
      refine go_iload_n dX4_budget_35 rfl ?_
      refine go_aload_n dX4_budget_36 rfl ?_
      refine go_getf dX4_budget_37 flX4_7 (by first | exact hm 0 (by decide) | exact hm 1 (by decide)) rfl ?_
      refine go_bipush (v := 6) dX4_budget_40 (by decide) ?_
      refine go_iald dX4_budget_42 (by first | exact hm 0 (by decide) | exact hm 1 (by decide)) (by unfold vp_in; decide) rfl ?_
      refine go_icmp_le (tgt := 58) dX4_budget_43 (by decide) (fun c43 => ?_) (fun c43 => ?_)
      · refine go_iconst (v := 0) dX4_budget_58 (by decide) ?_
        refine go_iret dX4_budget_59 rfl ?_ ?_ (Nat.zero_le _) (Nat.zero_le _)
        · first | exact congrArg (fun v => some (Value.int v)) (if_pos c43) | exact congrArg (fun v => some (Value.int v)) (if_neg c43)
        · rfl
      · refine go_iload_n dX4_budget_46 rfl ?_
        refine go_aload_n dX4_budget_47 rfl ?_
        refine go_getf dX4_budget_48 flX4_7 (by first | exact hm 0 (by decide) | exact hm 1 (by decide)) rfl ?_
        refine go_bipush (v := 6) dX4_budget_51 (by decide) ?_
        refine go_iald dX4_budget_53 (by first | exact hm 0 (by decide) | exact hm 1 (by decide)) (by unfold vp_in; decide) rfl ?_
        refine go_isub dX4_budget_54 ?_
        refine go_goto (tgt := 59) dX4_budget_55 (by decide) ?_
        refine go_iret dX4_budget_59 rfl ?_ ?_ (Nat.zero_le _) (Nat.zero_le _)
        · first | exact congrArg (fun v => some (Value.int v)) (if_pos c43) | exact congrArg (fun v => some (Value.int v)) (if_neg c43)
        · rfl
    | succ m ih =>
      intro k hk
      have hlt : k < 3 := by omega
      refine go_iload_n dX4_budget_4 rfl ?_
      refine go_iconst (v := 3) dX4_budget_5 (by decide) ?_
      refine go_icmp_ge (tgt := 35) dX4_budget_6 (by decide) (fun c6 => absurd c6 (zge3 hk)) (fun c6 => ?_)
      refine go_iload_n dX4_budget_9 rfl ?_
      refine go_aload_n dX4_budget_10 rfl ?_
      refine go_getf dX4_budget_11 flX4_7 (by first | exact hm 0 (by decide) | exact hm 1 (by decide)) rfl ?_
      refine go_iconst (v := 3) dX4_budget_14 (by decide) ?_
      refine go_iload_n dX4_budget_15 rfl ?_
      refine go_iadd dX4_budget_16 ?_
      refine go_iald dX4_budget_17 (by first | exact hm 0 (by decide) | exact hm 1 (by decide)) (zix (n3k k) (by omega) (by decide)).1 (zix (n3k k) (show 3 + k < 149 by omega) (by decide)).2 ?_
      refine go_aload_n dX4_budget_18 rfl ?_
      refine go_getf dX4_budget_19 flX4_7 (by first | exact hm 0 (by decide) | exact hm 1 (by decide)) rfl ?_
      refine go_iconst (v := 0) dX4_budget_22 (by decide) ?_
      refine go_iload_n dX4_budget_23 rfl ?_
      refine go_iadd dX4_budget_24 ?_
      refine go_iald dX4_budget_25 (by first | exact hm 0 (by decide) | exact hm 1 (by decide)) (zix (n0k k) (by omega) (by decide)).1 (zix (n0k k) (show 0 + k < 149 by omega) (by decide)).2 ?_
      refine go_imul dX4_budget_26 ?_
      refine go_iadd dX4_budget_27 ?_
      refine go_istore_n dX4_budget_28 (Nat.le_of_ble_eq_true rfl) ?_
      refine go_iinc dX4_budget_29 rfl (nI_1 k) (Nat.le_of_ble_eq_true rfl) ?_
      refine go_goto (tgt := 4) dX4_budget_32 (by decide) ?_
      exact ih (k + 1) (by omega)
  refine go_iconst (v := 0) dX4_budget_0 (by decide) ?_
  refine go_istore_n dX4_budget_1 (Nat.le_of_ble_eq_true rfl) ?_
  refine go_iconst (v := 0) dX4_budget_2 (by decide) ?_
  refine go_istore_n dX4_budget_3 (Nat.le_of_ble_eq_true rfl) ?_
  exact loop 3 0 rfl
set_option maxRecDepth 4000 in
theorem kX4_available (γ : zG) (l : Launch) (n : Nat) (h : zH) (b : Nat) (μ : zS) (hm : zMd γ h b μ) : Con γ l (n + 2) 0 0 MX4_available [.ref b] h (some (.int (nAv (μ 0) 8))) h := by
  refine Con.go (by decide +kernel) (Nat.le_of_ble_eq_true rfl) ⟨rfl, trivial⟩ ?_
  show Go _ 0 0 0 [some (.ref b), none, none] [] _
  have loop : ∀ (m k : Nat), k + m = 8 → Go (γ, l, n + 2, (0, 0), MX4_available, zF γ 0 0 (some (.int (nAv (μ 0) 8))) h) 0 0 7 [some (.ref b), some (.int (nAv (μ 0) k)), some (.int (nI k))] [] h := by
    intro m
    induction m with
    | zero =>
      intro k hk
      have hkN : k = 8 := by omega
      subst hkN
      refine go_iload_n dX4_available_7 rfl ?_
      refine go_bipush (v := 8) dX4_available_8 (by decide) ?_
      refine go_icmp_ge (tgt := 29) dX4_available_10 (by decide) (fun c10 => ?_) (fun c10 => absurd (by decide) c10)
      refine go_iload_n dX4_available_29 rfl ?_
      refine go_iret dX4_available_30 rfl ?_ ?_ (Nat.zero_le _) (Nat.zero_le _)
      · rfl
      · rfl
    | succ m ih =>
      intro k hk
      have hlt : k < 8 := by omega
      refine go_iload_n dX4_available_7 rfl ?_
      refine go_bipush (v := 8) dX4_available_8 (by decide) ?_
      refine go_icmp_ge (tgt := 29) dX4_available_10 (by decide) (fun c10 => absurd c10 (zge hk)) (fun c10 => ?_)
      refine go_iload_n dX4_available_13 rfl ?_
      refine go_aload_n dX4_available_14 rfl ?_
      refine go_iload_n dX4_available_15 rfl ?_
      refine go_bipush (v := 8) dX4_available_16 (by decide) ?_
      refine go_callVi (ci := 4) dX4_available_18 moX4_of cvX4_45 ⟨rfl, rfl⟩ (kX4_of γ l _ _ b μ hm _ _ k 8 rfl rfl (mi_lt hlt (by decide))) (by first | exact hm 0 (by decide) | exact hm 1 (by decide)) rfl rfl (Nat.le_refl _) (Nat.zero_le _) (Nat.zero_le _) (Nat.le_of_ble_eq_true rfl) ?_
      refine go_isub dX4_available_21 ?_
      refine go_istore_n dX4_available_22 (Nat.le_of_ble_eq_true rfl) ?_
      refine go_iinc dX4_available_23 rfl (nI_1 k) (Nat.le_of_ble_eq_true rfl) ?_
      refine go_goto (tgt := 7) dX4_available_26 (by decide) ?_
      exact ih (k + 1) (by omega)
  refine go_aload_n dX4_available_0 rfl ?_
  refine go_callVi (ci := 4) dX4_available_1 moX4_budget cvX4_41 ⟨rfl, rfl⟩ (kX4_budget γ l _ _ b μ hm) (by first | exact hm 0 (by decide) | exact hm 1 (by decide)) rfl rfl (Nat.le_refl _) (Nat.zero_le _) (Nat.zero_le _) (Nat.le_of_ble_eq_true rfl) ?_
  refine go_istore_n dX4_available_4 (Nat.le_of_ble_eq_true rfl) ?_
  refine go_iconst (v := 0) dX4_available_5 (by decide) ?_
  refine go_istore_n dX4_available_6 (Nat.le_of_ble_eq_true rfl) ?_
  exact loop 8 0 rfl
set_option maxRecDepth 4000 in
theorem kX4_eligiblePorts (γ : zG) (l : Launch) (n : Nat) (h : zH) (b : Nat) (μ : zS) (hm : zMd γ h b μ) : Con γ l (n + 5) 0 0 MX4_eligiblePorts [.ref b] h (some (.int (nEs (μ 0) 8))) h := by
  refine Con.go (by decide +kernel) (Nat.le_of_ble_eq_true rfl) ⟨rfl, trivial⟩ ?_
  show Go _ 0 0 0 [some (.ref b), none, none] [] _
  have loop : ∀ (m k : Nat), k + m = 8 → Go (γ, l, n + 5, (0, 0), MX4_eligiblePorts, zF γ 0 0 (some (.int (nEs (μ 0) 8))) h) 0 0 4 [some (.ref b), some (.int (nEs (μ 0) k)), some (.int (nI k))] [] h := by
    intro m
    induction m with
    | zero =>
      intro k hk
      have hkN : k = 8 := by omega
      subst hkN
      refine go_iload_n dX4_eligiblePorts_4 rfl ?_
      refine go_bipush (v := 8) dX4_eligiblePorts_5 (by decide) ?_
      refine go_icmp_ge (tgt := 34) dX4_eligiblePorts_7 (by decide) (fun c7 => ?_) (fun c7 => absurd (by decide) c7)
      refine go_iload_n dX4_eligiblePorts_34 rfl ?_
      refine go_iret dX4_eligiblePorts_35 rfl ?_ ?_ (Nat.zero_le _) (Nat.zero_le _)
      · rfl
      · rfl
    | succ m ih =>
      intro k hk
      have hlt : k < 8 := by omega
      refine go_iload_n dX4_eligiblePorts_4 rfl ?_
      refine go_bipush (v := 8) dX4_eligiblePorts_5 (by decide) ?_
      refine go_icmp_ge (tgt := 34) dX4_eligiblePorts_7 (by decide) (fun c7 => absurd c7 (zge hk)) (fun c7 => ?_)
      refine go_iload_n dX4_eligiblePorts_10 rfl ?_
      refine go_aload_n dX4_eligiblePorts_11 rfl ?_
      refine go_iload_n dX4_eligiblePorts_12 rfl ?_
      refine go_callVi (ci := 4) dX4_eligiblePorts_13 moX4_isEligible cvX4_77 ⟨rfl, rfl⟩ (kX4_isEligible γ l _ _ b μ hm _ k rfl hlt) (by first | exact hm 0 (by decide) | exact hm 1 (by decide)) rfl rfl (Nat.le_refl _) (Nat.zero_le _) (Nat.zero_le _) (Nat.le_of_ble_eq_true rfl) ?_
      refine go_if_eq (tgt := 25) dX4_eligiblePorts_16 (by decide) (fun c16 => ?_) (fun c16 => ?_)
      · replace c16 := zi_0.mp c16
        refine go_iconst (v := 0) dX4_eligiblePorts_25 (by decide) ?_
        refine go_ior dX4_eligiblePorts_26 ?_
        refine go_istore_n dX4_eligiblePorts_27 (Nat.le_of_ble_eq_true rfl) ?_
        refine go_iinc dX4_eligiblePorts_28 rfl (nI_1 k) (Nat.le_of_ble_eq_true rfl) ?_
        refine go_goto (tgt := 4) dX4_eligiblePorts_31 (by decide) ?_
        exact (show nEs (μ 0) (k + 1) = nEs (μ 0) k ||| 0 from congrArg (fun v => nEs (μ 0) k ||| v) (if_neg c16)) ▸ ih (k + 1) (by omega)
      · replace c16 := zi_nz.mp c16
        refine go_iconst (v := 1) dX4_eligiblePorts_19 (by decide) ?_
        refine go_iload_n dX4_eligiblePorts_20 rfl ?_
        refine go_ishl dX4_eligiblePorts_21 ?_
        refine go_goto (tgt := 26) dX4_eligiblePorts_22 (by decide) ?_
        refine go_ior dX4_eligiblePorts_26 ?_
        refine go_istore_n dX4_eligiblePorts_27 (Nat.le_of_ble_eq_true rfl) ?_
        refine go_iinc dX4_eligiblePorts_28 rfl (nI_1 k) (Nat.le_of_ble_eq_true rfl) ?_
        refine go_goto (tgt := 4) dX4_eligiblePorts_31 (by decide) ?_
        exact (show nEs (μ 0) (k + 1) = nEs (μ 0) k ||| bit (nI k) from congrArg (fun v => nEs (μ 0) k ||| v) (if_pos c16)) ▸ ih (k + 1) (by omega)
  refine go_iconst (v := 0) dX4_eligiblePorts_0 (by decide) ?_
  refine go_istore_n dX4_eligiblePorts_1 (Nat.le_of_ble_eq_true rfl) ?_
  refine go_iconst (v := 0) dX4_eligiblePorts_2 (by decide) ?_
  refine go_istore_n dX4_eligiblePorts_3 (Nat.le_of_ble_eq_true rfl) ?_
  exact loop 8 0 rfl
set_option maxRecDepth 4000 in
theorem kX4_poweredPorts (γ : zG) (l : Launch) (n : Nat) (h : zH) (b : Nat) (μ : zS) (hm : zMd γ h b μ) : Con γ l (n + 3) 0 0 MX4_poweredPorts [.ref b] h (some (.int (nPs (μ 0) 8))) h := by
  refine Con.go (by decide +kernel) (Nat.le_of_ble_eq_true rfl) ⟨rfl, trivial⟩ ?_
  show Go _ 0 0 0 [some (.ref b), none, none] [] _
  have loop : ∀ (m k : Nat), k + m = 8 → Go (γ, l, n + 3, (0, 0), MX4_poweredPorts, zF γ 0 0 (some (.int (nPs (μ 0) 8))) h) 0 0 4 [some (.ref b), some (.int (nPs (μ 0) k)), some (.int (nI k))] [] h := by
    intro m
    induction m with
    | zero =>
      intro k hk
      have hkN : k = 8 := by omega
      subst hkN
      refine go_iload_n dX4_poweredPorts_4 rfl ?_
      refine go_bipush (v := 8) dX4_poweredPorts_5 (by decide) ?_
      refine go_icmp_ge (tgt := 34) dX4_poweredPorts_7 (by decide) (fun c7 => ?_) (fun c7 => absurd (by decide) c7)
      refine go_iload_n dX4_poweredPorts_34 rfl ?_
      refine go_iret dX4_poweredPorts_35 rfl ?_ ?_ (Nat.zero_le _) (Nat.zero_le _)
      · rfl
      · rfl
    | succ m ih =>
      intro k hk
      have hlt : k < 8 := by omega
      refine go_iload_n dX4_poweredPorts_4 rfl ?_
      refine go_bipush (v := 8) dX4_poweredPorts_5 (by decide) ?_
      refine go_icmp_ge (tgt := 34) dX4_poweredPorts_7 (by decide) (fun c7 => absurd c7 (zge hk)) (fun c7 => ?_)
      refine go_iload_n dX4_poweredPorts_10 rfl ?_
      refine go_aload_n dX4_poweredPorts_11 rfl ?_
      refine go_iload_n dX4_poweredPorts_12 rfl ?_
      refine go_callVi (ci := 4) dX4_poweredPorts_13 moX4_isPowered cvX4_65 ⟨rfl, rfl⟩ (kX4_isPowered γ l _ _ b μ hm _ k rfl hlt) (by first | exact hm 0 (by decide) | exact hm 1 (by decide)) rfl rfl (Nat.le_refl _) (Nat.zero_le _) (Nat.zero_le _) (Nat.le_of_ble_eq_true rfl) ?_
      refine go_if_eq (tgt := 25) dX4_poweredPorts_16 (by decide) (fun c16 => ?_) (fun c16 => ?_)
      · replace c16 := zi_0.mp c16
        refine go_iconst (v := 0) dX4_poweredPorts_25 (by decide) ?_
        refine go_ior dX4_poweredPorts_26 ?_
        refine go_istore_n dX4_poweredPorts_27 (Nat.le_of_ble_eq_true rfl) ?_
        refine go_iinc dX4_poweredPorts_28 rfl (nI_1 k) (Nat.le_of_ble_eq_true rfl) ?_
        refine go_goto (tgt := 4) dX4_poweredPorts_31 (by decide) ?_
        exact (show nPs (μ 0) (k + 1) = nPs (μ 0) k ||| 0 from congrArg (fun v => nPs (μ 0) k ||| v) (if_neg c16)) ▸ ih (k + 1) (by omega)
      · replace c16 := zi_nz.mp c16
        refine go_iconst (v := 1) dX4_poweredPorts_19 (by decide) ?_
        refine go_iload_n dX4_poweredPorts_20 rfl ?_
        refine go_ishl dX4_poweredPorts_21 ?_
        refine go_goto (tgt := 26) dX4_poweredPorts_22 (by decide) ?_
        refine go_ior dX4_poweredPorts_26 ?_
        refine go_istore_n dX4_poweredPorts_27 (Nat.le_of_ble_eq_true rfl) ?_
        refine go_iinc dX4_poweredPorts_28 rfl (nI_1 k) (Nat.le_of_ble_eq_true rfl) ?_
        refine go_goto (tgt := 4) dX4_poweredPorts_31 (by decide) ?_
        exact (show nPs (μ 0) (k + 1) = nPs (μ 0) k ||| bit (nI k) from congrArg (fun v => nPs (μ 0) k ||| v) (if_pos c16)) ▸ ih (k + 1) (by omega)
  refine go_iconst (v := 0) dX4_poweredPorts_0 (by decide) ?_
  refine go_istore_n dX4_poweredPorts_1 (Nat.le_of_ble_eq_true rfl) ?_
  refine go_iconst (v := 0) dX4_poweredPorts_2 (by decide) ?_
  refine go_istore_n dX4_poweredPorts_3 (Nat.le_of_ble_eq_true rfl) ?_
  exact loop 8 0 rfl
set_option maxRecDepth 4000 in
theorem kX4_told (γ : zG) (l : Launch) (n : Nat) (h : zH) (b : Nat) (μ : zS) (hm : zMd γ h b μ) (p w : Int32) (k : Nat) (hw : w = nI k) (hk : k ≤ 10) : Con γ l (n + 2) 0 0 MX4_told [.ref b, .int p, .int w] h (some (.int (nFld (μ 0) k p))) h := by
  refine Con.go (by decide +kernel) (Nat.le_of_ble_eq_true rfl) ⟨rfl, rfl, rfl, trivial⟩ ?_
  show Go _ 0 0 0 [some (.ref b), some (.int p), some (.int w)] [] _
  refine go_iload_n dX4_told_0 rfl ?_
  refine go_callSi dX4_told_1 moX4_isPort csX4_48 (kX4_isPort γ l _ _ _) rfl rfl (Nat.le_refl _) (Nat.zero_le _) (Nat.zero_le _) (Nat.le_of_ble_eq_true rfl) ?_
  refine go_if_eq (tgt := 16) dX4_told_4 (by decide) (fun c4 => ?_) (fun c4 => ?_)
  · replace c4 := zi_0.mp c4
    refine go_iconst (v := (-1)) dX4_told_16 (by decide) ?_
    refine go_iret dX4_told_17 rfl ?_ ?_ (Nat.zero_le _) (Nat.zero_le _)
    · simp [nFld, aP, c4]
    · rfl
  · replace c4 := zi_nz.mp c4
    refine go_aload_n dX4_told_7 rfl ?_
    refine go_iload_n dX4_told_8 rfl ?_
    refine go_iload_n dX4_told_9 rfl ?_
    refine go_callVi (ci := 4) dX4_told_10 moX4_of cvX4_45 ⟨rfl, rfl⟩ (kX4_of γ l _ _ b μ hm _ _ (ix p) k (zn8 c4).1 hw (mi_lt (zn8 c4).2 hk)) (by first | exact hm 0 (by decide) | exact hm 1 (by decide)) rfl rfl (Nat.le_refl _) (Nat.zero_le _) (Nat.zero_le _) (Nat.le_of_ble_eq_true rfl) ?_
    refine go_goto (tgt := 17) dX4_told_13 (by decide) ?_
    refine go_iret dX4_told_17 rfl ?_ ?_ (Nat.zero_le _) (Nat.zero_le _)
    · simp [nFld, aP, c4]
    · rfl
set_option maxRecDepth 4000 in
theorem kX4_grant (γ : zG) (l : Launch) (n : Nat) (h : zH) (b : Nat) (μ : zS) (hm : zMd γ h b μ) (p : Int32) : Con γ l (n + 3) 0 0 MX4_grant [.ref b, .int p] h (some (.int (nFld (μ 0) 8 p))) h := by
  refine Con.go (by decide +kernel) (Nat.le_of_ble_eq_true rfl) ⟨rfl, rfl, trivial⟩ ?_
  show Go _ 0 0 0 [some (.ref b), some (.int p)] [] _
  refine go_aload_n dX4_grant_0 rfl ?_
  refine go_iload_n dX4_grant_1 rfl ?_
  refine go_bipush (v := 8) dX4_grant_2 (by decide) ?_
  refine go_callVi (ci := 4) dX4_grant_4 moX4_told cvX4_80 ⟨rfl, rfl⟩ (kX4_told γ l _ _ b μ hm _ _ 8 rfl (by decide)) (by first | exact hm 0 (by decide) | exact hm 1 (by decide)) rfl rfl (Nat.le_refl _) (Nat.zero_le _) (Nat.zero_le _) (Nat.le_of_ble_eq_true rfl) ?_
  refine go_iret dX4_grant_7 rfl ?_ ?_ (Nat.zero_le _) (Nat.zero_le _)
  · rfl
  · rfl
set_option maxRecDepth 4000 in
theorem kX4_overload (γ : zG) (l : Launch) (n : Nat) (h : zH) (b : Nat) (μ : zS) (hm : zMd γ h b μ) (p : Int32) : Con γ l (n + 3) 0 0 MX4_overload [.ref b, .int p] h (some (.int (nFld (μ 0) 9 p))) h := by
  refine Con.go (by decide +kernel) (Nat.le_of_ble_eq_true rfl) ⟨rfl, rfl, trivial⟩ ?_
  show Go _ 0 0 0 [some (.ref b), some (.int p)] [] _
  refine go_aload_n dX4_overload_0 rfl ?_
  refine go_iload_n dX4_overload_1 rfl ?_
  refine go_bipush (v := 9) dX4_overload_2 (by decide) ?_
  refine go_callVi (ci := 4) dX4_overload_4 moX4_told cvX4_80 ⟨rfl, rfl⟩ (kX4_told γ l _ _ b μ hm _ _ 9 rfl (by decide)) (by first | exact hm 0 (by decide) | exact hm 1 (by decide)) rfl rfl (Nat.le_refl _) (Nat.zero_le _) (Nat.zero_le _) (Nat.le_of_ble_eq_true rfl) ?_
  refine go_iret dX4_overload_7 rfl ?_ ?_ (Nat.zero_le _) (Nat.zero_le _)
  · rfl
  · rfl
set_option maxRecDepth 4000 in
theorem kX4_cooldown (γ : zG) (l : Launch) (n : Nat) (h : zH) (b : Nat) (μ : zS) (hm : zMd γ h b μ) (p : Int32) : Con γ l (n + 3) 0 0 MX4_cooldown [.ref b, .int p] h (some (.int (nFld (μ 0) 10 p))) h := by
  refine Con.go (by decide +kernel) (Nat.le_of_ble_eq_true rfl) ⟨rfl, rfl, trivial⟩ ?_
  show Go _ 0 0 0 [some (.ref b), some (.int p)] [] _
  refine go_aload_n dX4_cooldown_0 rfl ?_
  refine go_iload_n dX4_cooldown_1 rfl ?_
  refine go_bipush (v := 10) dX4_cooldown_2 (by decide) ?_
  refine go_callVi (ci := 4) dX4_cooldown_4 moX4_told cvX4_80 ⟨rfl, rfl⟩ (kX4_told γ l _ _ b μ hm _ _ 10 rfl (by decide)) (by first | exact hm 0 (by decide) | exact hm 1 (by decide)) rfl rfl (Nat.le_refl _) (Nat.zero_le _) (Nat.zero_le _) (Nat.le_of_ble_eq_true rfl) ?_
  refine go_iret dX4_cooldown_7 rfl ?_ ?_ (Nat.zero_le _) (Nat.zero_le _)
  · rfl
  · rfl
set_option maxRecDepth 4000 in
theorem kX4_clock (γ : zG) (l : Launch) (n : Nat) (h : zH) (b : Nat) (μ : zS) (hm : zMd γ h b μ) : Con γ l (n) 0 0 MX4_clock [.ref b] h (some (.int (μ 0 11))) h := by
  refine Con.go (by decide +kernel) (Nat.le_of_ble_eq_true rfl) ⟨rfl, trivial⟩ ?_
  show Go _ 0 0 0 [some (.ref b)] [] _
  refine go_aload_n dX4_clock_0 rfl ?_
  refine go_getf dX4_clock_1 flX4_7 (by first | exact hm 0 (by decide) | exact hm 1 (by decide)) rfl ?_
  refine go_bipush (v := 11) dX4_clock_4 (by decide) ?_
  refine go_iald dX4_clock_6 (by first | exact hm 0 (by decide) | exact hm 1 (by decide)) (by unfold vp_in; decide) rfl ?_
  refine go_iret dX4_clock_7 rfl ?_ ?_ (Nat.zero_le _) (Nat.zero_le _)
  · rfl
  · rfl
set_option maxRecDepth 4000 in
theorem kX4_eventCount (γ : zG) (l : Launch) (n : Nat) (h : zH) (b : Nat) (μ : zS) (hm : zMd γ h b μ) : Con γ l (n) 0 0 MX4_eventCount [.ref b] h (some (.int (μ 0 12))) h := by
  refine Con.go (by decide +kernel) (Nat.le_of_ble_eq_true rfl) ⟨rfl, trivial⟩ ?_
  show Go _ 0 0 0 [some (.ref b)] [] _
  refine go_aload_n dX4_eventCount_0 rfl ?_
  refine go_getf dX4_eventCount_1 flX4_7 (by first | exact hm 0 (by decide) | exact hm 1 (by decide)) rfl ?_
  refine go_bipush (v := 12) dX4_eventCount_4 (by decide) ?_
  refine go_iald dX4_eventCount_6 (by first | exact hm 0 (by decide) | exact hm 1 (by decide)) (by unfold vp_in; decide) rfl ?_
  refine go_iret dX4_eventCount_7 rfl ?_ ?_ (Nat.zero_le _) (Nat.zero_le _)
  · rfl
  · rfl
set_option maxRecDepth 4000 in
theorem kX4_setCapacity_ (γ : zG) (l : Launch) (n : Nat) (h : zH) (b : Nat) (μ : zS) (hm : zMd γ h b μ) (s : Int32) (c : Int32) (R : Int32 × (Nat → Int32)) (hR : nCap (μ 0) s c = R) : Con γ l (n + 2) 0 0 MX4_setCapacity [.ref b, .int s, .int c] h (some (.int R.1)) (zpm γ h b (upR μ 0 R.2)) := by
  refine Con.go (by decide +kernel) (Nat.le_of_ble_eq_true rfl) ⟨rfl, rfl, rfl, trivial⟩ ?_
  show Go _ 0 0 0 [some (.ref b), some (.int s), some (.int c)] [] _
  refine go_iload_n dX4_setCapacity_0 rfl ?_
  refine go_callSi dX4_setCapacity_1 moX4_isSupply csX4_34 (kX4_isSupply γ l _ _ _) rfl rfl (Nat.le_refl _) (Nat.zero_le _) (Nat.zero_le _) (Nat.le_of_ble_eq_true rfl) ?_
  refine go_if_ne (tgt := 9) dX4_setCapacity_4 (by decide) (fun c4 => ?_) (fun c4 => ?_)
  · replace c4 := zi_nz.mp c4
    refine go_iload_n dX4_setCapacity_9 rfl ?_
    refine go_iconst (v := 0) dX4_setCapacity_10 (by decide) ?_
    refine go_sipush (v := 3000) dX4_setCapacity_11 (by decide) ?_
    refine go_callSi dX4_setCapacity_14 moX4_in csX4_30 (kX4_in γ l _ _ _ _ _) rfl rfl (Nat.le_refl _) (Nat.zero_le _) (Nat.zero_le _) (Nat.le_of_ble_eq_true rfl) ?_
    refine go_if_eq (tgt := 31) dX4_setCapacity_17 (by decide) (fun c17 => ?_) (fun c17 => ?_)
    · replace c17 := zi_0.mp c17
      refine go_bipush (v := (-2)) dX4_setCapacity_31 (by decide) ?_
      refine go_iret dX4_setCapacity_33 rfl ?_ ?_ (Nat.zero_le _) (Nat.zero_le _)
      · rw [← hR]; simp [nCap, aS, aP, aT, nCo, gM, c4, c17]
      · first | (rw [← hR]; simp [nCap, aS, aP, aT, nCo, gM, c4, c17]; rw [upR_id]; exact zpm_id hm) | (rw [← hR]; simp [nCap, aS, aP, aT, nCo, gM, c4, c17]; rfl; done)
    · replace c17 := zi_nz.mp c17
      refine go_aload_n dX4_setCapacity_20 rfl ?_
      refine go_iconst (v := 0) dX4_setCapacity_21 (by decide) ?_
      refine go_iload_n dX4_setCapacity_22 rfl ?_
      refine go_iadd dX4_setCapacity_23 ?_
      refine go_iload_n dX4_setCapacity_24 rfl ?_
      refine go_callVi (ci := 4) dX4_setCapacity_25 moX4_set cvX4_38 ⟨rfl, rfl⟩ (kX4_set γ l _ _ b μ hm _ _ (ix s) (n0s c4) (Nat.lt_of_lt_of_le (zn3 c4).2 (by decide))) (by first | exact hm 0 (by decide) | exact hm 1 (by decide) | exact zpm_is γ h b _ 0 (by decide) | exact zpm_is γ h b _ 1 (by decide)) rfl rfl (Nat.le_refl _) (Nat.zero_le _) (Nat.zero_le _) (Nat.le_of_ble_eq_true rfl) ?_
      refine go_goto (tgt := 33) dX4_setCapacity_28 (by decide) ?_
      refine go_iret dX4_setCapacity_33 rfl ?_ ?_ (Nat.zero_le _) (Nat.zero_le _)
      · rw [← hR]; simp [nCap, aS, aP, aT, nCo, gM, c4, c17]
      · first | (rw [← hR]; simp [nCap, aS, aP, aT, nCo, gM, c4, c17]; rw [upR_id]; exact zpm_id hm) | (rw [← hR]; simp [nCap, aS, aP, aT, nCo, gM, c4, c17]; rfl; done)
  · replace c4 := zi_0.mp c4
    refine go_iconst (v := (-1)) dX4_setCapacity_7 (by decide) ?_
    refine go_iret dX4_setCapacity_8 rfl ?_ ?_ (Nat.zero_le _) (Nat.zero_le _)
    · rw [← hR]; simp [nCap, aS, aP, aT, nCo, gM, c4]
    · first | (rw [← hR]; simp [nCap, aS, aP, aT, nCo, gM, c4]; rw [upR_id]; exact zpm_id hm) | (rw [← hR]; simp [nCap, aS, aP, aT, nCo, gM, c4]; rfl; done)
set_option maxRecDepth 4000 in
theorem kX4_setWorking_ (γ : zG) (l : Launch) (n : Nat) (h : zH) (b : Nat) (μ : zS) (hm : zMd γ h b μ) (s : Int32) (w : Int32) (R : Int32 × (Nat → Int32)) (hR : nWrk (μ 0) s w = R) : Con γ l (n + 2) 0 0 MX4_setWorking [.ref b, .int s, .int w] h (some (.int R.1)) (zpm γ h b (upR μ 0 R.2)) := by
  refine Con.go (by decide +kernel) (Nat.le_of_ble_eq_true rfl) ⟨rfl, rfl, rfl, trivial⟩ ?_
  show Go _ 0 0 0 [some (.ref b), some (.int s), some (.int w)] [] _
  refine go_iload_n dX4_setWorking_0 rfl ?_
  refine go_callSi dX4_setWorking_1 moX4_isSupply csX4_34 (kX4_isSupply γ l _ _ _) rfl rfl (Nat.le_refl _) (Nat.zero_le _) (Nat.zero_le _) (Nat.le_of_ble_eq_true rfl) ?_
  refine go_if_eq (tgt := 26) dX4_setWorking_4 (by decide) (fun c4 => ?_) (fun c4 => ?_)
  · replace c4 := zi_0.mp c4
    refine go_iconst (v := (-1)) dX4_setWorking_26 (by decide) ?_
    refine go_iret dX4_setWorking_27 rfl ?_ ?_ (Nat.zero_le _) (Nat.zero_le _)
    · rw [← hR]; simp [nWrk, aS, aP, aT, nCo, gM, c4]
    · first | (rw [← hR]; simp [nWrk, aS, aP, aT, nCo, gM, c4]; rw [upR_id]; exact zpm_id hm) | (rw [← hR]; simp [nWrk, aS, aP, aT, nCo, gM, c4]; rfl; done)
  · replace c4 := zi_nz.mp c4
    refine go_aload_n dX4_setWorking_7 rfl ?_
    refine go_iconst (v := 3) dX4_setWorking_8 (by decide) ?_
    refine go_iload_n dX4_setWorking_9 rfl ?_
    refine go_iadd dX4_setWorking_10 ?_
    refine go_iload_n dX4_setWorking_11 rfl ?_
    refine go_if_eq (tgt := 19) dX4_setWorking_12 (by decide) (fun c12 => ?_) (fun c12 => ?_)
    · refine go_iconst (v := 0) dX4_setWorking_19 (by decide) ?_
      refine go_callVi (ci := 4) dX4_setWorking_20 moX4_set cvX4_38 ⟨rfl, rfl⟩ (kX4_set γ l _ _ b μ hm _ _ (3 + ix s) (n3s c4) (by have := (zn3 c4).2; show 3 + s.toNatClampNeg < 149; omega)) (by first | exact hm 0 (by decide) | exact hm 1 (by decide) | exact zpm_is γ h b _ 0 (by decide) | exact zpm_is γ h b _ 1 (by decide)) rfl rfl (Nat.le_refl _) (Nat.zero_le _) (Nat.zero_le _) (Nat.le_of_ble_eq_true rfl) ?_
      refine go_goto (tgt := 27) dX4_setWorking_23 (by decide) ?_
      refine go_iret dX4_setWorking_27 rfl ?_ ?_ (Nat.zero_le _) (Nat.zero_le _)
      · rw [← hR]; simp [nWrk, aS, aP, aT, nCo, gM, c4, c12]
      · first | (rw [← hR]; simp [nWrk, aS, aP, aT, nCo, gM, c4, c12]; rw [upR_id]; exact zpm_id hm) | (rw [← hR]; simp [nWrk, aS, aP, aT, nCo, gM, c4, c12]; rfl; done)
    · refine go_iconst (v := 1) dX4_setWorking_15 (by decide) ?_
      refine go_goto (tgt := 20) dX4_setWorking_16 (by decide) ?_
      refine go_callVi (ci := 4) dX4_setWorking_20 moX4_set cvX4_38 ⟨rfl, rfl⟩ (kX4_set γ l _ _ b μ hm _ _ (3 + ix s) (n3s c4) (by have := (zn3 c4).2; show 3 + s.toNatClampNeg < 149; omega)) (by first | exact hm 0 (by decide) | exact hm 1 (by decide) | exact zpm_is γ h b _ 0 (by decide) | exact zpm_is γ h b _ 1 (by decide)) rfl rfl (Nat.le_refl _) (Nat.zero_le _) (Nat.zero_le _) (Nat.le_of_ble_eq_true rfl) ?_
      refine go_goto (tgt := 27) dX4_setWorking_23 (by decide) ?_
      refine go_iret dX4_setWorking_27 rfl ?_ ?_ (Nat.zero_le _) (Nat.zero_le _)
      · rw [← hR]; simp [nWrk, aS, aP, aT, nCo, gM, c4, c12]
      · first | (rw [← hR]; simp [nWrk, aS, aP, aT, nCo, gM, c4, c12]; rw [upR_id]; exact zpm_id hm) | (rw [← hR]; simp [nWrk, aS, aP, aT, nCo, gM, c4, c12]; rfl; done)
set_option maxRecDepth 4000 in
theorem kX4_setReserve_ (γ : zG) (l : Launch) (n : Nat) (h : zH) (b : Nat) (μ : zS) (hm : zMd γ h b μ) (v : Int32) (R : Int32 × (Nat → Int32)) (hR : nRow (μ 0) 6 0 3000 v = R) : Con γ l (n + 1) 0 0 MX4_setReserve [.ref b, .int v] h (some (.int R.1)) (zpm γ h b (upR μ 0 R.2)) := by
  refine Con.go (by decide +kernel) (Nat.le_of_ble_eq_true rfl) ⟨rfl, rfl, trivial⟩ ?_
  show Go _ 0 0 0 [some (.ref b), some (.int v)] [] _
  refine go_iload_n dX4_setReserve_0 rfl ?_
  refine go_iconst (v := 0) dX4_setReserve_1 (by decide) ?_
  refine go_sipush (v := 3000) dX4_setReserve_2 (by decide) ?_
  refine go_callSi dX4_setReserve_5 moX4_in csX4_30 (kX4_in γ l _ _ _ _ _) rfl rfl (Nat.le_refl _) (Nat.zero_le _) (Nat.zero_le _) (Nat.le_of_ble_eq_true rfl) ?_
  refine go_if_eq (tgt := 21) dX4_setReserve_8 (by decide) (fun c8 => ?_) (fun c8 => ?_)
  · replace c8 := zi_0.mp c8
    refine go_bipush (v := (-2)) dX4_setReserve_21 (by decide) ?_
    refine go_iret dX4_setReserve_23 rfl ?_ ?_ (Nat.zero_le _) (Nat.zero_le _)
    · rw [← hR]; simp [nRow, c8]
    · first | (rw [← hR]; simp [nRow, c8]; rw [upR_id]; exact zpm_id hm) | (rw [← hR]; simp [nRow, c8]; rfl)
  · replace c8 := zi_nz.mp c8
    refine go_aload_n dX4_setReserve_11 rfl ?_
    refine go_bipush (v := 6) dX4_setReserve_12 (by decide) ?_
    refine go_iload_n dX4_setReserve_14 rfl ?_
    refine go_callVi (ci := 4) dX4_setReserve_15 moX4_set cvX4_38 ⟨rfl, rfl⟩ (kX4_set γ l _ _ b μ hm _ _ 6 rfl (by decide)) (by first | exact hm 0 (by decide) | exact hm 1 (by decide)) rfl rfl (Nat.le_refl _) (Nat.zero_le _) (Nat.zero_le _) (Nat.le_of_ble_eq_true rfl) ?_
    refine go_goto (tgt := 23) dX4_setReserve_18 (by decide) ?_
    refine go_iret dX4_setReserve_23 rfl ?_ ?_ (Nat.zero_le _) (Nat.zero_le _)
    · rw [← hR]; simp [nRow, c8]
    · first | (rw [← hR]; simp [nRow, c8]; rw [upR_id]; exact zpm_id hm) | (rw [← hR]; simp [nRow, c8]; rfl)
set_option maxRecDepth 4000 in
theorem kX4_setRestartGap_ (γ : zG) (l : Launch) (n : Nat) (h : zH) (b : Nat) (μ : zS) (hm : zMd γ h b μ) (v : Int32) (R : Int32 × (Nat → Int32)) (hR : nRow (μ 0) 7 1 30 v = R) : Con γ l (n + 1) 0 0 MX4_setRestartGap [.ref b, .int v] h (some (.int R.1)) (zpm γ h b (upR μ 0 R.2)) := by
  refine Con.go (by decide +kernel) (Nat.le_of_ble_eq_true rfl) ⟨rfl, rfl, trivial⟩ ?_
  show Go _ 0 0 0 [some (.ref b), some (.int v)] [] _
  refine go_iload_n dX4_setRestartGap_0 rfl ?_
  refine go_iconst (v := 1) dX4_setRestartGap_1 (by decide) ?_
  refine go_bipush (v := 30) dX4_setRestartGap_2 (by decide) ?_
  refine go_callSi dX4_setRestartGap_4 moX4_in csX4_30 (kX4_in γ l _ _ _ _ _) rfl rfl (Nat.le_refl _) (Nat.zero_le _) (Nat.zero_le _) (Nat.le_of_ble_eq_true rfl) ?_
  refine go_if_eq (tgt := 20) dX4_setRestartGap_7 (by decide) (fun c7 => ?_) (fun c7 => ?_)
  · replace c7 := zi_0.mp c7
    refine go_bipush (v := (-2)) dX4_setRestartGap_20 (by decide) ?_
    refine go_iret dX4_setRestartGap_22 rfl ?_ ?_ (Nat.zero_le _) (Nat.zero_le _)
    · rw [← hR]; simp [nRow, c7]
    · first | (rw [← hR]; simp [nRow, c7]; rw [upR_id]; exact zpm_id hm) | (rw [← hR]; simp [nRow, c7]; rfl)
  · replace c7 := zi_nz.mp c7
    refine go_aload_n dX4_setRestartGap_10 rfl ?_
    refine go_bipush (v := 7) dX4_setRestartGap_11 (by decide) ?_
    refine go_iload_n dX4_setRestartGap_13 rfl ?_
    refine go_callVi (ci := 4) dX4_setRestartGap_14 moX4_set cvX4_38 ⟨rfl, rfl⟩ (kX4_set γ l _ _ b μ hm _ _ 7 rfl (by decide)) (by first | exact hm 0 (by decide) | exact hm 1 (by decide)) rfl rfl (Nat.le_refl _) (Nat.zero_le _) (Nat.zero_le _) (Nat.le_of_ble_eq_true rfl) ?_
    refine go_goto (tgt := 22) dX4_setRestartGap_17 (by decide) ?_
    refine go_iret dX4_setRestartGap_22 rfl ?_ ?_ (Nat.zero_le _) (Nat.zero_le _)
    · rw [← hR]; simp [nRow, c7]
    · first | (rw [← hR]; simp [nRow, c7]; rw [upR_id]; exact zpm_id hm) | (rw [← hR]; simp [nRow, c7]; rfl)
set_option maxRecDepth 4000 in
theorem kX4_setOverloadLimit_ (γ : zG) (l : Launch) (n : Nat) (h : zH) (b : Nat) (μ : zS) (hm : zMd γ h b μ) (v : Int32) (R : Int32 × (Nat → Int32)) (hR : nRow (μ 0) 8 1 30 v = R) : Con γ l (n + 1) 0 0 MX4_setOverloadLimit [.ref b, .int v] h (some (.int R.1)) (zpm γ h b (upR μ 0 R.2)) := by
  refine Con.go (by decide +kernel) (Nat.le_of_ble_eq_true rfl) ⟨rfl, rfl, trivial⟩ ?_
  show Go _ 0 0 0 [some (.ref b), some (.int v)] [] _
  refine go_iload_n dX4_setOverloadLimit_0 rfl ?_
  refine go_iconst (v := 1) dX4_setOverloadLimit_1 (by decide) ?_
  refine go_bipush (v := 30) dX4_setOverloadLimit_2 (by decide) ?_
  refine go_callSi dX4_setOverloadLimit_4 moX4_in csX4_30 (kX4_in γ l _ _ _ _ _) rfl rfl (Nat.le_refl _) (Nat.zero_le _) (Nat.zero_le _) (Nat.le_of_ble_eq_true rfl) ?_
  refine go_if_eq (tgt := 20) dX4_setOverloadLimit_7 (by decide) (fun c7 => ?_) (fun c7 => ?_)
  · replace c7 := zi_0.mp c7
    refine go_bipush (v := (-2)) dX4_setOverloadLimit_20 (by decide) ?_
    refine go_iret dX4_setOverloadLimit_22 rfl ?_ ?_ (Nat.zero_le _) (Nat.zero_le _)
    · rw [← hR]; simp [nRow, c7]
    · first | (rw [← hR]; simp [nRow, c7]; rw [upR_id]; exact zpm_id hm) | (rw [← hR]; simp [nRow, c7]; rfl)
  · replace c7 := zi_nz.mp c7
    refine go_aload_n dX4_setOverloadLimit_10 rfl ?_
    refine go_bipush (v := 8) dX4_setOverloadLimit_11 (by decide) ?_
    refine go_iload_n dX4_setOverloadLimit_13 rfl ?_
    refine go_callVi (ci := 4) dX4_setOverloadLimit_14 moX4_set cvX4_38 ⟨rfl, rfl⟩ (kX4_set γ l _ _ b μ hm _ _ 8 rfl (by decide)) (by first | exact hm 0 (by decide) | exact hm 1 (by decide)) rfl rfl (Nat.le_refl _) (Nat.zero_le _) (Nat.zero_le _) (Nat.le_of_ble_eq_true rfl) ?_
    refine go_goto (tgt := 22) dX4_setOverloadLimit_17 (by decide) ?_
    refine go_iret dX4_setOverloadLimit_22 rfl ?_ ?_ (Nat.zero_le _) (Nat.zero_le _)
    · rw [← hR]; simp [nRow, c7]
    · first | (rw [← hR]; simp [nRow, c7]; rw [upR_id]; exact zpm_id hm) | (rw [← hR]; simp [nRow, c7]; rfl)
set_option maxRecDepth 4000 in
theorem kX4_setCooldownTime_ (γ : zG) (l : Launch) (n : Nat) (h : zH) (b : Nat) (μ : zS) (hm : zMd γ h b μ) (v : Int32) (R : Int32 × (Nat → Int32)) (hR : nRow (μ 0) 9 1 60 v = R) : Con γ l (n + 1) 0 0 MX4_setCooldownTime [.ref b, .int v] h (some (.int R.1)) (zpm γ h b (upR μ 0 R.2)) := by
  refine Con.go (by decide +kernel) (Nat.le_of_ble_eq_true rfl) ⟨rfl, rfl, trivial⟩ ?_
  show Go _ 0 0 0 [some (.ref b), some (.int v)] [] _
  refine go_iload_n dX4_setCooldownTime_0 rfl ?_
  refine go_iconst (v := 1) dX4_setCooldownTime_1 (by decide) ?_
  refine go_bipush (v := 60) dX4_setCooldownTime_2 (by decide) ?_
  refine go_callSi dX4_setCooldownTime_4 moX4_in csX4_30 (kX4_in γ l _ _ _ _ _) rfl rfl (Nat.le_refl _) (Nat.zero_le _) (Nat.zero_le _) (Nat.le_of_ble_eq_true rfl) ?_
  refine go_if_eq (tgt := 20) dX4_setCooldownTime_7 (by decide) (fun c7 => ?_) (fun c7 => ?_)
  · replace c7 := zi_0.mp c7
    refine go_bipush (v := (-2)) dX4_setCooldownTime_20 (by decide) ?_
    refine go_iret dX4_setCooldownTime_22 rfl ?_ ?_ (Nat.zero_le _) (Nat.zero_le _)
    · rw [← hR]; simp [nRow, c7]
    · first | (rw [← hR]; simp [nRow, c7]; rw [upR_id]; exact zpm_id hm) | (rw [← hR]; simp [nRow, c7]; rfl)
  · replace c7 := zi_nz.mp c7
    refine go_aload_n dX4_setCooldownTime_10 rfl ?_
    refine go_bipush (v := 9) dX4_setCooldownTime_11 (by decide) ?_
    refine go_iload_n dX4_setCooldownTime_13 rfl ?_
    refine go_callVi (ci := 4) dX4_setCooldownTime_14 moX4_set cvX4_38 ⟨rfl, rfl⟩ (kX4_set γ l _ _ b μ hm _ _ 9 rfl (by decide)) (by first | exact hm 0 (by decide) | exact hm 1 (by decide)) rfl rfl (Nat.le_refl _) (Nat.zero_le _) (Nat.zero_le _) (Nat.le_of_ble_eq_true rfl) ?_
    refine go_goto (tgt := 22) dX4_setCooldownTime_17 (by decide) ?_
    refine go_iret dX4_setCooldownTime_22 rfl ?_ ?_ (Nat.zero_le _) (Nat.zero_le _)
    · rw [← hR]; simp [nRow, c7]
    · first | (rw [← hR]; simp [nRow, c7]; rw [upR_id]; exact zpm_id hm) | (rw [← hR]; simp [nRow, c7]; rfl)
set_option maxRecDepth 4000 in
theorem kX4_setPriority_ (γ : zG) (l : Launch) (n : Nat) (h : zH) (b : Nat) (μ : zS) (hm : zMd γ h b μ) (p : Int32) (q : Int32) (R : Int32 × (Nat → Int32)) (hR : nPri (μ 0) p q = R) : Con γ l (n + 2) 0 0 MX4_setPriority [.ref b, .int p, .int q] h (some (.int R.1)) (zpm γ h b (upR μ 0 R.2)) := by
  refine Con.go (by decide +kernel) (Nat.le_of_ble_eq_true rfl) ⟨rfl, rfl, rfl, trivial⟩ ?_
  show Go _ 0 0 0 [some (.ref b), some (.int p), some (.int q)] [] _
  refine go_iload_n dX4_setPriority_0 rfl ?_
  refine go_callSi dX4_setPriority_1 moX4_isPort csX4_48 (kX4_isPort γ l _ _ _) rfl rfl (Nat.le_refl _) (Nat.zero_le _) (Nat.zero_le _) (Nat.le_of_ble_eq_true rfl) ?_
  refine go_if_ne (tgt := 9) dX4_setPriority_4 (by decide) (fun c4 => ?_) (fun c4 => ?_)
  · replace c4 := zi_nz.mp c4
    refine go_iload_n dX4_setPriority_9 rfl ?_
    refine go_iconst (v := 0) dX4_setPriority_10 (by decide) ?_
    refine go_iconst (v := 2) dX4_setPriority_11 (by decide) ?_
    refine go_callSi dX4_setPriority_12 moX4_in csX4_30 (kX4_in γ l _ _ _ _ _) rfl rfl (Nat.le_refl _) (Nat.zero_le _) (Nat.zero_le _) (Nat.le_of_ble_eq_true rfl) ?_
    refine go_if_eq (tgt := 31) dX4_setPriority_15 (by decide) (fun c15 => ?_) (fun c15 => ?_)
    · replace c15 := zi_0.mp c15
      refine go_bipush (v := (-2)) dX4_setPriority_31 (by decide) ?_
      refine go_iret dX4_setPriority_33 rfl ?_ ?_ (Nat.zero_le _) (Nat.zero_le _)
      · rw [← hR]; simp [nPri, aS, aP, aT, nCo, gM, c4, c15]
      · first | (rw [← hR]; simp [nPri, aS, aP, aT, nCo, gM, c4, c15]; rw [upR_id]; exact zpm_id hm) | (rw [← hR]; simp [nPri, aS, aP, aT, nCo, gM, c4, c15]; rfl; done)
    · replace c15 := zi_nz.mp c15
      refine go_aload_n dX4_setPriority_18 rfl ?_
      refine go_iload_n dX4_setPriority_19 rfl ?_
      refine go_iconst (v := 1) dX4_setPriority_20 (by decide) ?_
      refine go_callSi dX4_setPriority_21 moX4_at csX4_26 (kX4_at γ l _ _ _ _ (ix p) 1 (zn8 c4).1 rfl) rfl rfl (Nat.le_refl _) (Nat.zero_le _) (Nat.zero_le _) (Nat.le_of_ble_eq_true rfl) ?_
      refine go_iload_n dX4_setPriority_24 rfl ?_
      refine go_callVi (ci := 4) dX4_setPriority_25 moX4_set cvX4_38 ⟨rfl, rfl⟩ (kX4_set γ l _ _ b μ hm _ _ (mi (ix p) 1) rfl (mi_lt (zn8 c4).2 (by decide))) (by first | exact hm 0 (by decide) | exact hm 1 (by decide) | exact zpm_is γ h b _ 0 (by decide) | exact zpm_is γ h b _ 1 (by decide)) rfl rfl (Nat.le_refl _) (Nat.zero_le _) (Nat.zero_le _) (Nat.le_of_ble_eq_true rfl) ?_
      refine go_goto (tgt := 33) dX4_setPriority_28 (by decide) ?_
      refine go_iret dX4_setPriority_33 rfl ?_ ?_ (Nat.zero_le _) (Nat.zero_le _)
      · rw [← hR]; simp [nPri, aS, aP, aT, nCo, gM, c4, c15]
      · first | (rw [← hR]; simp [nPri, aS, aP, aT, nCo, gM, c4, c15]; rw [upR_id]; exact zpm_id hm) | (rw [← hR]; simp [nPri, aS, aP, aT, nCo, gM, c4, c15]; rfl; done)
  · replace c4 := zi_0.mp c4
    refine go_iconst (v := (-1)) dX4_setPriority_7 (by decide) ?_
    refine go_iret dX4_setPriority_8 rfl ?_ ?_ (Nat.zero_le _) (Nat.zero_le _)
    · rw [← hR]; simp [nPri, aS, aP, aT, nCo, gM, c4]
    · first | (rw [← hR]; simp [nPri, aS, aP, aT, nCo, gM, c4]; rw [upR_id]; exact zpm_id hm) | (rw [← hR]; simp [nPri, aS, aP, aT, nCo, gM, c4]; rfl; done)
set_option maxRecDepth 4000 in
theorem kX4_setLoad_ (γ : zG) (l : Launch) (n : Nat) (h : zH) (b : Nat) (μ : zS) (hm : zMd γ h b μ) (p : Int32) (w : Int32) (R : Int32 × (Nat → Int32)) (hR : nLoa (μ 0) p w = R) : Con γ l (n + 3) 0 0 MX4_setLoad [.ref b, .int p, .int w] h (some (.int R.1)) (zpm γ h b (upR μ 0 R.2)) := by
  refine Con.go (by decide +kernel) (Nat.le_of_ble_eq_true rfl) ⟨rfl, rfl, rfl, trivial⟩ ?_
  show Go _ 0 0 0 [some (.ref b), some (.int p), some (.int w)] [] _
  refine go_iload_n dX4_setLoad_0 rfl ?_
  refine go_callSi dX4_setLoad_1 moX4_isPort csX4_48 (kX4_isPort γ l _ _ _) rfl rfl (Nat.le_refl _) (Nat.zero_le _) (Nat.zero_le _) (Nat.le_of_ble_eq_true rfl) ?_
  refine go_if_ne (tgt := 9) dX4_setLoad_4 (by decide) (fun c4 => ?_) (fun c4 => ?_)
  · replace c4 := zi_nz.mp c4
    refine go_iload_n dX4_setLoad_9 rfl ?_
    refine go_iconst (v := 0) dX4_setLoad_10 (by decide) ?_
    refine go_sipush (v := 999) dX4_setLoad_11 (by decide) ?_
    refine go_callSi dX4_setLoad_14 moX4_in csX4_30 (kX4_in γ l _ _ _ _ _) rfl rfl (Nat.le_refl _) (Nat.zero_le _) (Nat.zero_le _) (Nat.le_of_ble_eq_true rfl) ?_
    refine go_if_ne (tgt := 23) dX4_setLoad_17 (by decide) (fun c17 => ?_) (fun c17 => ?_)
    · replace c17 := zi_nz.mp c17
      refine go_aload_n dX4_setLoad_23 rfl ?_
      refine go_iload_n dX4_setLoad_24 rfl ?_
      refine go_callVi (ci := 4) dX4_setLoad_25 moX4_isConnected cvX4_55 ⟨rfl, rfl⟩ (kX4_isConnected γ l _ _ b μ hm _ (ix p) (zn8 c4).1 (zn8 c4).2) (by first | exact hm 0 (by decide) | exact hm 1 (by decide) | exact zpm_is γ h b _ 0 (by decide) | exact zpm_is γ h b _ 1 (by decide)) rfl rfl (Nat.le_refl _) (Nat.zero_le _) (Nat.zero_le _) (Nat.le_of_ble_eq_true rfl) ?_
      refine go_if_eq (tgt := 45) dX4_setLoad_28 (by decide) (fun c28 => ?_) (fun c28 => ?_)
      · replace c28 := zi_0.mp c28
        refine go_bipush (v := (-3)) dX4_setLoad_45 (by decide) ?_
        refine go_iret dX4_setLoad_47 rfl ?_ ?_ (Nat.zero_le _) (Nat.zero_le _)
        · rw [← hR]; simp [nLoa, aS, aP, aT, nCo, gM, c4, c17, c28]
        · first | (rw [← hR]; simp [nLoa, aS, aP, aT, nCo, gM, c4, c17, c28]; rw [upR_id]; exact zpm_id hm) | (rw [← hR]; simp [nLoa, aS, aP, aT, nCo, gM, c4, c17, c28]; rfl; done)
      · replace c28 := zi_nz.mp c28
        refine go_aload_n dX4_setLoad_31 rfl ?_
        refine go_iload_n dX4_setLoad_32 rfl ?_
        refine go_bipush (v := 6) dX4_setLoad_33 (by decide) ?_
        refine go_callSi dX4_setLoad_35 moX4_at csX4_26 (kX4_at γ l _ _ _ _ (ix p) 6 (zn8 c4).1 rfl) rfl rfl (Nat.le_refl _) (Nat.zero_le _) (Nat.zero_le _) (Nat.le_of_ble_eq_true rfl) ?_
        refine go_iload_n dX4_setLoad_38 rfl ?_
        refine go_callVi (ci := 4) dX4_setLoad_39 moX4_set cvX4_38 ⟨rfl, rfl⟩ (kX4_set γ l _ _ b μ hm _ _ (mi (ix p) 6) rfl (mi_lt (zn8 c4).2 (by decide))) (by first | exact hm 0 (by decide) | exact hm 1 (by decide) | exact zpm_is γ h b _ 0 (by decide) | exact zpm_is γ h b _ 1 (by decide)) rfl rfl (Nat.le_refl _) (Nat.zero_le _) (Nat.zero_le _) (Nat.le_of_ble_eq_true rfl) ?_
        refine go_goto (tgt := 47) dX4_setLoad_42 (by decide) ?_
        refine go_iret dX4_setLoad_47 rfl ?_ ?_ (Nat.zero_le _) (Nat.zero_le _)
        · rw [← hR]; simp [nLoa, aS, aP, aT, nCo, gM, c4, c17, c28]
        · first | (rw [← hR]; simp [nLoa, aS, aP, aT, nCo, gM, c4, c17, c28]; rw [upR_id]; exact zpm_id hm) | (rw [← hR]; simp [nLoa, aS, aP, aT, nCo, gM, c4, c17, c28]; rfl; done)
    · replace c17 := zi_0.mp c17
      refine go_bipush (v := (-2)) dX4_setLoad_20 (by decide) ?_
      refine go_iret dX4_setLoad_22 rfl ?_ ?_ (Nat.zero_le _) (Nat.zero_le _)
      · rw [← hR]; simp [nLoa, aS, aP, aT, nCo, gM, c4, c17]
      · first | (rw [← hR]; simp [nLoa, aS, aP, aT, nCo, gM, c4, c17]; rw [upR_id]; exact zpm_id hm) | (rw [← hR]; simp [nLoa, aS, aP, aT, nCo, gM, c4, c17]; rfl; done)
  · replace c4 := zi_0.mp c4
    refine go_iconst (v := (-1)) dX4_setLoad_7 (by decide) ?_
    refine go_iret dX4_setLoad_8 rfl ?_ ?_ (Nat.zero_le _) (Nat.zero_le _)
    · rw [← hR]; simp [nLoa, aS, aP, aT, nCo, gM, c4]
    · first | (rw [← hR]; simp [nLoa, aS, aP, aT, nCo, gM, c4]; rw [upR_id]; exact zpm_id hm) | (rw [← hR]; simp [nLoa, aS, aP, aT, nCo, gM, c4]; rfl; done)
set_option maxRecDepth 4000 in
theorem kX4_setEnabled_ (γ : zG) (l : Launch) (n : Nat) (h : zH) (b : Nat) (μ : zS) (hm : zMd γ h b μ) (p w : Int32) (R : Int32 × (Nat → Int32)) (hR : nEna (μ 0) p w = R) : Con γ l (n + 2) 0 0 MX4_setEnabled [.ref b, .int p, .int w] h (some (.int R.1)) (zpm γ h b (upR μ 0 R.2)) := by
  refine Con.go (by decide +kernel) (Nat.le_of_ble_eq_true rfl) ⟨rfl, rfl, rfl, trivial⟩ ?_
  show Go _ 0 0 0 [some (.ref b), some (.int p), some (.int w)] [] _
  refine go_iload_n dX4_setEnabled_0 rfl ?_
  refine go_callSi dX4_setEnabled_1 moX4_isPort csX4_48 (kX4_isPort γ l _ _ _) rfl rfl (Nat.le_refl _) (Nat.zero_le _) (Nat.zero_le _) (Nat.le_of_ble_eq_true rfl) ?_
  refine go_if_ne (tgt := 9) dX4_setEnabled_4 (by decide) (fun c4 => ?_) (fun c4 => ?_)
  · replace c4 := zi_nz.mp c4
    refine go_iload_n dX4_setEnabled_9 rfl ?_
    refine go_if_ne (tgt := 30) dX4_setEnabled_10 (by decide) (fun c10 => ?_) (fun c10 => ?_)
    · refine go_aload_n dX4_setEnabled_30 rfl ?_
      refine go_iload_n dX4_setEnabled_31 rfl ?_
      refine go_iconst (v := 0) dX4_setEnabled_32 (by decide) ?_
      refine go_callSi dX4_setEnabled_33 moX4_at csX4_26 (kX4_at γ l _ _ _ _ (ix p) 0 (zn8 c4).1 rfl) rfl rfl (Nat.le_refl _) (Nat.zero_le _) (Nat.zero_le _) (Nat.le_of_ble_eq_true rfl) ?_
      refine go_iload_n dX4_setEnabled_36 rfl ?_
      refine go_if_eq (tgt := 44) dX4_setEnabled_37 (by decide) (fun c37 => absurd c37 (c10)) (fun c37 => ?_)
      refine go_iconst (v := 1) dX4_setEnabled_40 (by decide) ?_
      refine go_goto (tgt := 45) dX4_setEnabled_41 (by decide) ?_
      refine go_callVi (ci := 4) dX4_setEnabled_45 moX4_set cvX4_38 ⟨rfl, rfl⟩ (kX4_set γ l _ _ b μ hm _ _ (mi (ix p) 0) rfl (mi_lt (zn8 c4).2 (by decide))) (by first | exact hm 0 (by decide) | exact hm 1 (by decide) | exact zpm_is γ h b _ 0 (by decide) | exact zpm_is γ h b _ 1 (by decide)) rfl rfl (Nat.le_refl _) (Nat.zero_le _) (Nat.zero_le _) (Nat.le_of_ble_eq_true rfl) ?_
      refine go_iret dX4_setEnabled_48 rfl ?_ ?_ (Nat.zero_le _) (Nat.zero_le _)
      · rw [← hR]; simp [nEna, aP, c4, c10]; try rfl
      · (rw [← hR]; simp [nEna, aP, c4, c10]; rfl)
    · refine go_aload_n dX4_setEnabled_13 rfl ?_
      refine go_iload_n dX4_setEnabled_14 rfl ?_
      refine go_callVv (ci := 4) dX4_setEnabled_15 moX4_losePower cvX4_51 ⟨rfl, rfl⟩ (kX4_losePower γ l _ _ b μ hm _ (ix p) (zn8 c4).1 (zn8 c4).2) (by first | exact hm 0 (by decide) | exact hm 1 (by decide) | exact zpm_is γ h b _ 0 (by decide) | exact zpm_is γ h b _ 1 (by decide)) rfl rfl (Nat.le_refl _) (Nat.zero_le _) (Nat.zero_le _) (Nat.le_of_ble_eq_true rfl) ?_
      refine go_aload_n dX4_setEnabled_18 rfl ?_
      refine go_getf dX4_setEnabled_19 flX4_7 (by first | exact hm 0 (by decide) | exact hm 1 (by decide) | exact zpm_is γ h b _ 0 (by decide) | exact zpm_is γ h b _ 1 (by decide)) rfl ?_
      refine go_iload_n dX4_setEnabled_22 rfl ?_
      refine go_bipush (v := 10) dX4_setEnabled_23 (by decide) ?_
      refine go_callSi dX4_setEnabled_25 moX4_at csX4_26 (kX4_at γ l _ _ _ _ (ix p) 10 (zn8 c4).1 rfl) rfl rfl (Nat.le_refl _) (Nat.zero_le _) (Nat.zero_le _) (Nat.le_of_ble_eq_true rfl) ?_
      refine go_iconst (v := 0) dX4_setEnabled_28 (by decide) ?_
      refine go_iast dX4_setEnabled_29 (by first | exact hm 0 (by decide) | exact hm 1 (by decide) | exact zpm_is γ h b _ 0 (by decide) | exact zpm_is γ h b _ 1 (by decide)) (zix (n := 149) rfl (mi_lt (zn8 c4).2 (by decide)) (by decide)).1 (zix (n := 149) rfl (mi_lt (zn8 c4).2 (by decide)) (by decide)).2 ?_
      refine go_h zmo_0 ?_
      refine go_aload_n dX4_setEnabled_30 rfl ?_
      refine go_iload_n dX4_setEnabled_31 rfl ?_
      refine go_iconst (v := 0) dX4_setEnabled_32 (by decide) ?_
      refine go_callSi dX4_setEnabled_33 moX4_at csX4_26 (kX4_at γ l _ _ _ _ (ix p) 0 (zn8 c4).1 rfl) rfl rfl (Nat.le_refl _) (Nat.zero_le _) (Nat.zero_le _) (Nat.le_of_ble_eq_true rfl) ?_
      refine go_iload_n dX4_setEnabled_36 rfl ?_
      refine go_if_eq (tgt := 44) dX4_setEnabled_37 (by decide) (fun c37 => ?_) (fun c37 => absurd (c10) c37)
      refine go_iconst (v := 0) dX4_setEnabled_44 (by decide) ?_
      refine go_callVi (ci := 4) dX4_setEnabled_45 moX4_set cvX4_38 ⟨rfl, rfl⟩ (kX4_set γ l _ _ b (upR (upR μ 0 (nLose (μ 0) (ix p))) 0 (upd (nLose (μ 0) (ix p)) (mi (ix p) 10) 0)) (zpm_is γ h b _) _ _ (mi (ix p) 0) rfl (mi_lt (zn8 c4).2 (by decide))) (by first | exact hm 0 (by decide) | exact hm 1 (by decide) | exact zpm_is γ h b _ 0 (by decide) | exact zpm_is γ h b _ 1 (by decide)) rfl rfl (Nat.le_refl _) (Nat.zero_le _) (Nat.zero_le _) (Nat.le_of_ble_eq_true rfl) ?_
      refine go_iret dX4_setEnabled_48 rfl ?_ ?_ (Nat.zero_le _) (Nat.zero_le _)
      · rw [← hR]; simp [nEna, aP, c4, c10]; try rfl
      · (rw [← hR]; simp [nEna, aP, c4, c10]; rw [zpm_zpm, up2, upR_upR, upR_upR]; rfl)
  · replace c4 := zi_0.mp c4
    refine go_iconst (v := (-1)) dX4_setEnabled_7 (by decide) ?_
    refine go_iret dX4_setEnabled_8 rfl ?_ ?_ (Nat.zero_le _) (Nat.zero_le _)
    · rw [← hR]; simp [nEna, aP, c4]
    · (rw [← hR]; simp [nEna, aP, c4]; rw [upR_id]; exact zpm_id hm)
set_option maxRecDepth 4000 in
theorem kX4_request (γ : zG) (l : Launch) (n : Nat) (h : zH) (b : Nat) (μ : zS) (hm : zMd γ h b μ) (p : Int32) : Con γ l (n + 4) 0 0 MX4_request [.ref b, .int p] h (some (.int (nRqt (μ 0) p))) h := by
  refine Con.go (by decide +kernel) (Nat.le_of_ble_eq_true rfl) ⟨rfl, rfl, trivial⟩ ?_
  show Go _ 0 0 0 [some (.ref b), some (.int p)] [] _
  refine go_iload_n dX4_request_0 rfl ?_
  refine go_callSi dX4_request_1 moX4_isPort csX4_48 (kX4_isPort γ l _ _ _) rfl rfl (Nat.le_refl _) (Nat.zero_le _) (Nat.zero_le _) (Nat.le_of_ble_eq_true rfl) ?_
  refine go_if_ne (tgt := 11) dX4_request_4 (by decide) (fun c4 => ?_) (fun c4 => ?_)
  · replace c4 := zi_nz.mp c4
    refine go_aload_n dX4_request_11 rfl ?_
    refine go_iload_n dX4_request_12 rfl ?_
    refine go_callVi (ci := 4) dX4_request_13 moX4_classOf cvX4_68 ⟨rfl, rfl⟩ (kX4_classOf γ l _ _ b μ hm _ (ix p) (zn8 c4).1 (zn8 c4).2) (by first | exact hm 0 (by decide) | exact hm 1 (by decide)) rfl rfl (Nat.le_refl _) (Nat.zero_le _) (Nat.zero_le _) (Nat.le_of_ble_eq_true rfl) ?_
    refine go_if_ge (tgt := 24) dX4_request_16 (by decide) (fun c16 => ?_) (fun c16 => ?_)
    · refine go_aload_n dX4_request_24 rfl ?_
      refine go_iload_n dX4_request_25 rfl ?_
      refine go_bipush (v := 7) dX4_request_26 (by decide) ?_
      refine go_callVi (ci := 4) dX4_request_28 moX4_of cvX4_45 ⟨rfl, rfl⟩ (kX4_of γ l _ _ b μ hm _ _ (ix p) 7 (zn8 c4).1 rfl (mi_lt (zn8 c4).2 (by decide))) (by first | exact hm 0 (by decide) | exact hm 1 (by decide)) rfl rfl (Nat.le_refl _) (Nat.zero_le _) (Nat.zero_le _) (Nat.le_of_ble_eq_true rfl) ?_
      refine go_iret dX4_request_31 rfl ?_ ?_ (Nat.zero_le _) (Nat.zero_le _)
      · simp [nRqt, aP, -Int32.not_le, -Int32.not_lt, c4, c16]
      · rfl
    · refine go_bipush (v := (-6)) dX4_request_19 (by decide) ?_
      refine go_goto (tgt := 31) dX4_request_21 (by decide) ?_
      refine go_iret dX4_request_31 rfl ?_ ?_ (Nat.zero_le _) (Nat.zero_le _)
      · simp [nRqt, aP, -Int32.not_le, -Int32.not_lt, c4, c16]
      · rfl
  · replace c4 := zi_0.mp c4
    refine go_iconst (v := (-1)) dX4_request_7 (by decide) ?_
    refine go_goto (tgt := 31) dX4_request_8 (by decide) ?_
    refine go_iret dX4_request_31 rfl ?_ ?_ (Nat.zero_le _) (Nat.zero_le _)
    · simp [nRqt, aP, -Int32.not_le, -Int32.not_lt, c4]
    · rfl
