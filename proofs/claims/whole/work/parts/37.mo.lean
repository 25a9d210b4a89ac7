/-! PoeSwitchModel: planning and snapshots -/
def cpk (f g : Nat → Int32) (k : Nat) : Nat → Int32 := fun i => if i < k then g i else f i
theorem cpk_s (f g : Nat → Int32) (k : Nat) : upd (cpk f g k) k (g k) = cpk f g (k + 1) := by
  funext i
  unfold upd cpk
  by_cases h1 : i = k
  · subst h1
    rw [if_pos rfl, if_pos (by omega)]
  · rw [if_neg h1]
    by_cases h2 : i < k
    · rw [if_pos h2, if_pos (by omega)]
    · rw [if_neg h2, if_neg (by omega)]
theorem cpk_0 (f g : Nat → Int32) : cpk f g 0 = f := by
  funext i
  unfold cpk
  rw [if_neg (by omega)]
theorem zge149 {k m : Nat} (hk : k + (m + 1) = 149) : ¬ (149 : Int32) ≤ nI k := by
  have h1 : (149 : Int32) = nI 149 := rfl
  rw [h1]
  exact nI_ge (by omega) (by decide)
def nKp (μ : zS) : zS := upR μ 1 (cpk (μ 1) (μ 0) 149)
def nPb (μ : zS) : zS := upR μ 0 (cpk (μ 0) (μ 1) 149)
theorem zmo_11 {γ : zG} {h : zH} {b : Nat} {μ : zS} {f g : Nat → Int32} : zu (zpm γ h b (upR μ 1 f)) (b + 2) (zai γ 149 g) = zpm γ h b (upR μ 1 g) := by rw [zmo_1, upR_upR]
theorem zmo_22 {γ : zG} {h : zH} {b : Nat} {μ : zS} {f g : Nat → Int32} : zu (zpm γ h b (upR μ 2 f)) (b + 3) (zai γ 298 g) = zpm γ h b (upR μ 2 g) := by rw [zmo_2, upR_upR]
theorem zmo_33 {γ : zG} {h : zH} {b : Nat} {μ : zS} {f g : Nat → Int32} : zu (zpm γ h b (upR μ 3 f)) (b + 4) (zaz γ 2 g) = zpm γ h b (upR μ 3 g) := by rw [zmo_3, upR_upR]
theorem zmo_44 {γ : zG} {h : zH} {b : Nat} {μ : zS} {f g : Nat → Int32} : zu (zpm γ h b (upR μ 4 f)) (b + 5) (zai γ 149 g) = zpm γ h b (upR μ 4 g) := by rw [zmo_4, upR_upR]
set_option maxRecDepth 4000 in
theorem kX4_keep (γ : zG) (l : Launch) (n : Nat) (h : zH) (b : Nat) (μ : zS) (hm : zMd γ h b μ) : Con γ l (n) 0 0 MX4_keep [.ref b] h none (zpm γ h b (nKp μ)) := by
  refine Con.go (by decide +kernel) (Nat.le_of_ble_eq_true rfl) ⟨rfl, trivial⟩ ?_
  show Go _ 0 0 0 [some (.ref b), none] [] _
  have loop : ∀ (m k : Nat), k + m = 149 → Go (γ, l, n, (0, 0), MX4_keep, zF γ 0 0 none (zpm γ h b (nKp μ))) 0 0 2 [some (.ref b), some (.int (nI k))] [] (zpm γ h b (upR μ 1 (cpk (μ 1) (μ 0) k))) := by
    intro m
    induction m with
    | zero =>
      intro k hk
      have hkN : k = 149 := by omega
      subst hkN
      refine go_iload_n dX4_keep_2 rfl ?_
      refine go_sipush (v := 149) dX4_keep_3 (by decide) ?_
      refine go_icmp_ge (tgt := 27) dX4_keep_6 (by decide) (fun c6 => ?_) (fun c6 => absurd (by decide) c6)
      refine go_vret dX4_keep_27 rfl rfl ?_ (Nat.zero_le _) (Nat.zero_le _)
      · rfl
    | succ m ih =>
      intro k hk
      have hlt : k < 149 := by omega
      refine go_iload_n dX4_keep_2 rfl ?_
      refine go_sipush (v := 149) dX4_keep_3 (by decide) ?_
      refine go_icmp_ge (tgt := 27) dX4_keep_6 (by decide) (fun c6 => absurd c6 (zge149 hk)) (fun c6 => ?_)
      refine go_aload_n dX4_keep_9 rfl ?_
      refine go_getf dX4_keep_10 flX4_13 (by exact zpm_is γ h b _ 0 (by decide)) rfl ?_
      refine go_iload_n dX4_keep_13 rfl ?_
      refine go_aload_n dX4_keep_14 rfl ?_
      refine go_getf dX4_keep_15 flX4_7 (by exact zpm_is γ h b _ 0 (by decide)) rfl ?_
      refine go_iload_n dX4_keep_18 rfl ?_
      refine go_iald dX4_keep_19 (by exact zpm_is γ h b _ 1 (by decide)) (zix (n := 149) rfl hlt (by decide)).1 (zix (n := 149) rfl hlt (by decide)).2 ?_
      refine go_iast dX4_keep_20 (by exact zpm_is γ h b _ 2 (by decide)) (zix (n := 149) rfl hlt (by decide)).1 (zix (n := 149) rfl hlt (by decide)).2 ?_
      refine go_h zmo_11 ?_
      refine go_h (congrArg (fun M => zpm γ h b (upR μ 1 M)) (cpk_s (μ 1) (μ 0) k)) ?_
      refine go_iinc dX4_keep_21 rfl (nI_1 k) (Nat.le_of_ble_eq_true rfl) ?_
      refine go_goto (tgt := 2) dX4_keep_24 (by decide) ?_
      exact ih (k + 1) (by omega)
  refine go_h ((zpm_id hm).symm.trans (congrArg (zpm γ h b) (show μ = upR μ 1 (cpk (μ 1) (μ 0) 0) from by rw [cpk_0, upR_id]))) ?_
  refine go_iconst (v := 0) dX4_keep_0 (by decide) ?_
  refine go_istore_n dX4_keep_1 (Nat.le_of_ble_eq_true rfl) ?_
  exact loop 149 0 rfl
set_option maxRecDepth 4000 in
theorem kX4_putBack (γ : zG) (l : Launch) (n : Nat) (h : zH) (b : Nat) (μ : zS) (hm : zMd γ h b μ) : Con γ l (n) 0 0 MX4_putBack [.ref b] h none (zpm γ h b (nPb μ)) := by
  refine Con.go (by decide +kernel) (Nat.le_of_ble_eq_true rfl) ⟨rfl, trivial⟩ ?_
  show Go _ 0 0 0 [some (.ref b), none] [] _
  have loop : ∀ (m k : Nat), k + m = 149 → Go (γ, l, n, (0, 0), MX4_putBack, zF γ 0 0 none (zpm γ h b (nPb μ))) 0 0 2 [some (.ref b), some (.int (nI k))] [] (zpm γ h b (upR μ 0 (cpk (μ 0) (μ 1) k))) := by
    intro m
    induction m with
    | zero =>
      intro k hk
      have hkN : k = 149 := by omega
      subst hkN
      refine go_iload_n dX4_putBack_2 rfl ?_
      refine go_sipush (v := 149) dX4_putBack_3 (by decide) ?_
      refine go_icmp_ge (tgt := 27) dX4_putBack_6 (by decide) (fun c6 => ?_) (fun c6 => absurd (by decide) c6)
      refine go_vret dX4_putBack_27 rfl rfl ?_ (Nat.zero_le _) (Nat.zero_le _)
      · rfl
    | succ m ih =>
      intro k hk
      have hlt : k < 149 := by omega
      refine go_iload_n dX4_putBack_2 rfl ?_
      refine go_sipush (v := 149) dX4_putBack_3 (by decide) ?_
      refine go_icmp_ge (tgt := 27) dX4_putBack_6 (by decide) (fun c6 => absurd c6 (zge149 hk)) (fun c6 => ?_)
      refine go_aload_n dX4_putBack_9 rfl ?_
      refine go_getf dX4_putBack_10 flX4_7 (by exact zpm_is γ h b _ 0 (by decide)) rfl ?_
      refine go_iload_n dX4_putBack_13 rfl ?_
      refine go_aload_n dX4_putBack_14 rfl ?_
      refine go_getf dX4_putBack_15 flX4_13 (by exact zpm_is γ h b _ 0 (by decide)) rfl ?_
      refine go_iload_n dX4_putBack_18 rfl ?_
      refine go_iald dX4_putBack_19 (by exact zpm_is γ h b _ 2 (by decide)) (zix (n := 149) rfl hlt (by decide)).1 (zix (n := 149) rfl hlt (by decide)).2 ?_
      refine go_iast dX4_putBack_20 (by exact zpm_is γ h b _ 1 (by decide)) (zix (n := 149) rfl hlt (by decide)).1 (zix (n := 149) rfl hlt (by decide)).2 ?_
      refine go_h zmo_00 ?_
      refine go_h (congrArg (fun M => zpm γ h b (upR μ 0 M)) (cpk_s (μ 0) (μ 1) k)) ?_
      refine go_iinc dX4_putBack_21 rfl (nI_1 k) (Nat.le_of_ble_eq_true rfl) ?_
      refine go_goto (tgt := 2) dX4_putBack_24 (by decide) ?_
      exact ih (k + 1) (by omega)
  refine go_h ((zpm_id hm).symm.trans (congrArg (zpm γ h b) (show μ = upR μ 0 (cpk (μ 0) (μ 1) 0) from by rw [cpk_0, upR_id]))) ?_
  refine go_iconst (v := 0) dX4_putBack_0 (by decide) ?_
  refine go_istore_n dX4_putBack_1 (Nat.le_of_ble_eq_true rfl) ?_
  exact loop 149 0 rfl
def nFt (M : Nat → Int32) : Nat → Int32 × Int32
  | 0 => (nBud M, 0)
  | q + 1 => if nEl M (ix (nOrd M q)) ∧ ¬ (nFt M q).1 < gM M (ix (nOrd M q)) 7 then ((nFt M q).1 - gM M (ix (nOrd M q)) 7, (nFt M q).2 ||| bit (nOrd M q)) else nFt M q
theorem nFt_yes {M : Nat → Int32} {q j : Nat} (hj : nOrd M q = nI j) (hlt : j < 8) (h1 : nEl M j) (h2 : ¬ (nFt M q).1 < gM M j 7) : nFt M (q + 1) = ((nFt M q).1 - gM M j 7, (nFt M q).2 ||| bit (nI j)) := by
  have e : ix (nOrd M q) = j := by rw [hj]; exact nI_clamp (by omega)
  have k : nFt M (q + 1) = ((nFt M q).1 - gM M (ix (nOrd M q)) 7, (nFt M q).2 ||| bit (nOrd M q)) := if_pos (by rw [e]; exact ⟨h1, h2⟩)
  rw [k, e, hj]
theorem nFt_no {M : Nat → Int32} {q j : Nat} (hj : nOrd M q = nI j) (hlt : j < 8) (h : ¬ (nEl M j ∧ ¬ (nFt M q).1 < gM M j 7)) : nFt M (q + 1) = nFt M q := if_neg (by rw [show ix (nOrd M q) = j by rw [hj]; exact nI_clamp (by omega)]; exact h)
set_option maxRecDepth 4000 in
theorem kX4_fittingPorts (γ : zG) (l : Launch) (n : Nat) (h : zH) (b : Nat) (μ : zS) (hm : zMd γ h b μ) (hok : nOk (μ 0)) : Con γ l (n + 5) 0 0 MX4_fittingPorts [.ref b] h (some (.int (nFt (μ 0) 8).2)) h := by
  refine Con.go (by decide +kernel) (Nat.le_of_ble_eq_true rfl) ⟨rfl, trivial⟩ ?_
  show Go _ 0 0 0 [some (.ref b), none, none, none, none] [] _
  have loop : ∀ (m q : Nat), q + m = 8 → Go (γ, l, n + 5, (0, 0), MX4_fittingPorts, zF γ 0 0 (some (.int (nFt (μ 0) 8).2)) h) 0 0 9 [some (.ref b), some (.int (nFt (μ 0) q).1), some (.int (nFt (μ 0) q).2), some (.int (nI q)), none] [] h := by
    intro m
    induction m with
    | zero =>
      intro q hk
      have hkN : q = 8 := by omega
      subst hkN
      refine go_iload_n dX4_fittingPorts_9 rfl ?_
      refine go_bipush (v := 8) dX4_fittingPorts_10 (by decide) ?_
      refine go_icmp_ge (tgt := 67) dX4_fittingPorts_12 (by decide) (fun c12 => ?_) (fun c12 => absurd (by decide) c12)
      refine go_iload_n dX4_fittingPorts_67 rfl ?_
      refine go_iret dX4_fittingPorts_68 rfl ?_ ?_ (Nat.zero_le _) (Nat.zero_le _)
      · rfl
      · rfl
    | succ m ih =>
      intro q hk
      obtain ⟨j, hlt, -, hj⟩ := nOrd_ok hok.1 (q := q) (by omega)
      refine go_iload_n dX4_fittingPorts_9 rfl ?_
      refine go_bipush (v := 8) dX4_fittingPorts_10 (by decide) ?_
      refine go_icmp_ge (tgt := 67) dX4_fittingPorts_12 (by decide) (fun c12 => absurd c12 (zge hk)) (fun c12 => ?_)
      refine go_aload_n dX4_fittingPorts_15 rfl ?_
      refine go_iload_n dX4_fittingPorts_16 rfl ?_
      refine go_callVi (ci := 4) dX4_fittingPorts_17 moX4_inOrder cvX4_87 ⟨rfl, rfl⟩ (kX4_inOrder_ γ l _ _ b μ hm q (by omega) _ rfl (nI j) hj) (by first | exact hm 0 (by decide) | exact hm 1 (by decide)) rfl rfl (Nat.le_refl _) (Nat.zero_le _) (Nat.zero_le _) (Nat.le_of_ble_eq_true rfl) ?_
      refine go_istore dX4_fittingPorts_20 (Nat.le_of_ble_eq_true rfl) ?_
      refine go_aload_n dX4_fittingPorts_22 rfl ?_
      refine go_iload dX4_fittingPorts_23 rfl ?_
      refine go_callVi (ci := 4) dX4_fittingPorts_25 moX4_isEligible cvX4_77 ⟨rfl, rfl⟩ (kX4_isEligible γ l _ _ b μ hm _ j rfl hlt) (by first | exact hm 0 (by decide) | exact hm 1 (by decide)) rfl rfl (Nat.le_refl _) (Nat.zero_le _) (Nat.zero_le _) (Nat.le_of_ble_eq_true rfl) ?_
      refine go_if_eq (tgt := 61) dX4_fittingPorts_28 (by decide) (fun c28 => ?_) (fun c28 => ?_)
      · replace c28 := zi_0.mp c28
        refine go_iinc dX4_fittingPorts_61 rfl (nI_1 q) (Nat.le_of_ble_eq_true rfl) ?_
        refine go_goto (tgt := 9) dX4_fittingPorts_64 (by decide) ?_
        have g := ih (q + 1) (by omega)
        rw [nFt_no hj hlt (fun z => c28 z.1)] at g
        exact go_vl g ⟨rfl, rfl, rfl, rfl, trivial⟩
      · replace c28 := zi_nz.mp c28
        refine go_aload_n dX4_fittingPorts_31 rfl ?_
        refine go_iload dX4_fittingPorts_32 rfl ?_
        refine go_bipush (v := 7) dX4_fittingPorts_34 (by decide) ?_
        refine go_callVi (ci := 4) dX4_fittingPorts_36 moX4_of cvX4_45 ⟨rfl, rfl⟩ (kX4_of γ l _ _ b μ hm _ _ j 7 rfl rfl (mi_lt hlt (by decide))) (by first | exact hm 0 (by decide) | exact hm 1 (by decide)) rfl rfl (Nat.le_refl _) (Nat.zero_le _) (Nat.zero_le _) (Nat.le_of_ble_eq_true rfl) ?_
        refine go_iload_n dX4_fittingPorts_39 rfl ?_
        refine go_icmp_gt (tgt := 61) dX4_fittingPorts_40 (by decide) (fun c40 => ?_) (fun c40 => ?_)
        · refine go_iinc dX4_fittingPorts_61 rfl (nI_1 q) (Nat.le_of_ble_eq_true rfl) ?_
          refine go_goto (tgt := 9) dX4_fittingPorts_64 (by decide) ?_
          have g := ih (q + 1) (by omega)
          rw [nFt_no hj hlt (fun z => z.2 c40)] at g
          exact go_vl g ⟨rfl, rfl, rfl, rfl, trivial⟩
        · refine go_iload_n dX4_fittingPorts_43 rfl ?_
          refine go_aload_n dX4_fittingPorts_44 rfl ?_
          refine go_iload dX4_fittingPorts_45 rfl ?_
          refine go_bipush (v := 7) dX4_fittingPorts_47 (by decide) ?_
          refine go_callVi (ci := 4) dX4_fittingPorts_49 moX4_of cvX4_45 ⟨rfl, rfl⟩ (kX4_of γ l _ _ b μ hm _ _ j 7 rfl rfl (mi_lt hlt (by decide))) (by first | exact hm 0 (by decide) | exact hm 1 (by decide)) rfl rfl (Nat.le_refl _) (Nat.zero_le _) (Nat.zero_le _) (Nat.le_of_ble_eq_true rfl) ?_
          refine go_isub dX4_fittingPorts_52 ?_
          refine go_istore_n dX4_fittingPorts_53 (Nat.le_of_ble_eq_true rfl) ?_
          refine go_iload_n dX4_fittingPorts_54 rfl ?_
          refine go_iconst (v := 1) dX4_fittingPorts_55 (by decide) ?_
          refine go_iload dX4_fittingPorts_56 rfl ?_
          refine go_ishl dX4_fittingPorts_58 ?_
          refine go_ior dX4_fittingPorts_59 ?_
          refine go_istore_n dX4_fittingPorts_60 (Nat.le_of_ble_eq_true rfl) ?_
          refine go_iinc dX4_fittingPorts_61 rfl (nI_1 q) (Nat.le_of_ble_eq_true rfl) ?_
          refine go_goto (tgt := 9) dX4_fittingPorts_64 (by decide) ?_
          have g := ih (q + 1) (by omega)
          rw [nFt_yes hj hlt c28 c40] at g
          exact go_vl g ⟨rfl, rfl, rfl, rfl, trivial⟩
  refine go_aload_n dX4_fittingPorts_0 rfl ?_
  refine go_callVi (ci := 4) dX4_fittingPorts_1 moX4_budget cvX4_41 ⟨rfl, rfl⟩ (kX4_budget γ l _ _ b μ hm) (by first | exact hm 0 (by decide) | exact hm 1 (by decide)) rfl rfl (Nat.le_refl _) (Nat.zero_le _) (Nat.zero_le _) (Nat.le_of_ble_eq_true rfl) ?_
  refine go_istore_n dX4_fittingPorts_4 (Nat.le_of_ble_eq_true rfl) ?_
  refine go_iconst (v := 0) dX4_fittingPorts_5 (by decide) ?_
  refine go_istore_n dX4_fittingPorts_6 (Nat.le_of_ble_eq_true rfl) ?_
  refine go_iconst (v := 0) dX4_fittingPorts_7 (by decide) ?_
  refine go_istore_n dX4_fittingPorts_8 (Nat.le_of_ble_eq_true rfl) ?_
  exact loop 8 0 rfl
set_option maxRecDepth 4000 in
theorem kX4_shedIfFails_ (γ : zG) (l : Launch) (n : Nat) (h : zH) (b : Nat) (μ : zS) (hm : zMd γ h b μ) (hok : nOk (μ 0)) (s : Int32) (S : zS × Int32) (hS : nSh 8 ((upR (nKp μ) 0 (upd (μ 0) (3 + ix s) 0)), 0) = S) : Con γ l (n + 4) 0 0 MX4_shedIfFails [.ref b, .int s] h (some (.int (if aS s then S.2 else -1))) (zpm γ h b (if aS s then nPb S.1 else μ)) := by
  refine Con.go (by decide +kernel) (Nat.le_of_ble_eq_true rfl) ⟨rfl, rfl, trivial⟩ ?_
  show Go _ 0 0 0 [some (.ref b), some (.int s), none] [] _
  refine go_iload_n dX4_shedIfFails_0 rfl ?_
  refine go_callSi dX4_shedIfFails_1 moX4_isSupply csX4_34 (kX4_isSupply γ l _ _ _) rfl rfl (Nat.le_refl _) (Nat.zero_le _) (Nat.zero_le _) (Nat.le_of_ble_eq_true rfl) ?_
  refine go_if_ne (tgt := 9) dX4_shedIfFails_4 (by decide) (fun c4 => ?_) (fun c4 => ?_)
  · replace c4 := zi_nz.mp c4
    refine go_aload_n dX4_shedIfFails_9 rfl ?_
    refine go_callVv (ci := 4) dX4_shedIfFails_10 moX4_keep cvX4_112 ⟨rfl, rfl⟩ (kX4_keep γ l _ _ b μ hm) (by first | exact hm 0 (by decide) | exact hm 1 (by decide) | exact zpm_is γ h b _ 0 (by decide) | exact zpm_is γ h b _ 1 (by decide) | exact zpm_is γ h b _ 2 (by decide) | exact zpm_is γ h b _ 5 (by decide) | exact zpm_is γ h b _ 3 (by decide) | exact zpm_is γ h b _ 4 (by decide)) rfl rfl (Nat.le_refl _) (Nat.zero_le _) (Nat.zero_le _) (Nat.le_of_ble_eq_true rfl) ?_
    refine go_aload_n dX4_shedIfFails_13 rfl ?_
    refine go_getf dX4_shedIfFails_14 flX4_7 (by first | exact hm 0 (by decide) | exact hm 1 (by decide) | exact zpm_is γ h b _ 0 (by decide) | exact zpm_is γ h b _ 1 (by decide) | exact zpm_is γ h b _ 2 (by decide) | exact zpm_is γ h b _ 5 (by decide) | exact zpm_is γ h b _ 3 (by decide) | exact zpm_is γ h b _ 4 (by decide)) rfl ?_
    refine go_iconst (v := 3) dX4_shedIfFails_17 (by decide) ?_
    refine go_iload_n dX4_shedIfFails_18 rfl ?_
    refine go_iadd dX4_shedIfFails_19 ?_
    refine go_iconst (v := 0) dX4_shedIfFails_20 (by decide) ?_
    refine go_iast dX4_shedIfFails_21 (by first | exact hm 0 (by decide) | exact hm 1 (by decide) | exact zpm_is γ h b _ 0 (by decide) | exact zpm_is γ h b _ 1 (by decide) | exact zpm_is γ h b _ 2 (by decide) | exact zpm_is γ h b _ 5 (by decide) | exact zpm_is γ h b _ 3 (by decide) | exact zpm_is γ h b _ 4 (by decide)) (zix (n := 149) (n3s c4) (by have := (zn3 c4).2; show 3 + s.toNatClampNeg < 149; omega) (by decide)).1 (zix (n := 149) (n3s c4) (by have := (zn3 c4).2; show 3 + s.toNatClampNeg < 149; omega) (by decide)).2 ?_
    refine go_h zmo_0 ?_
    refine go_aload_n dX4_shedIfFails_22 rfl ?_
    refine go_callVi (ci := 4) dX4_shedIfFails_23 moX4_shedAll cvX4_97 ⟨rfl, rfl⟩ (kX4_shedAll_ γ l _ _ b (upR (nKp μ) 0 (upd (μ 0) (3 + ix s) 0)) (zpm_is γ h b _) (hok.upd (fun j hj => by unfold mi; have := (zn3 c4).2; show 61 + 11 * j + 1 ≠ 3 + s.toNatClampNeg; omega) (by have := (zn3 c4).2; show 12 ≠ 3 + s.toNatClampNeg; omega)) S hS) (by first | exact hm 0 (by decide) | exact hm 1 (by decide) | exact zpm_is γ h b _ 0 (by decide) | exact zpm_is γ h b _ 1 (by decide) | exact zpm_is γ h b _ 2 (by decide) | exact zpm_is γ h b _ 5 (by decide) | exact zpm_is γ h b _ 3 (by decide) | exact zpm_is γ h b _ 4 (by decide)) rfl rfl (Nat.le_refl _) (Nat.zero_le _) (Nat.zero_le _) (Nat.le_of_ble_eq_true rfl) ?_
    refine go_h (zpm_zpm _ _ _ _ _) ?_
    refine go_istore_n dX4_shedIfFails_26 (Nat.le_of_ble_eq_true rfl) ?_
    refine go_aload_n dX4_shedIfFails_27 rfl ?_
    refine go_callVv (ci := 4) dX4_shedIfFails_28 moX4_putBack cvX4_115 ⟨rfl, rfl⟩ (kX4_putBack γ l _ _ b S.1 (zpm_is γ h b _)) (by first | exact hm 0 (by decide) | exact hm 1 (by decide) | exact zpm_is γ h b _ 0 (by decide) | exact zpm_is γ h b _ 1 (by decide) | exact zpm_is γ h b _ 2 (by decide) | exact zpm_is γ h b _ 5 (by decide) | exact zpm_is γ h b _ 3 (by decide) | exact zpm_is γ h b _ 4 (by decide)) rfl rfl (Nat.le_refl _) (Nat.zero_le _) (Nat.zero_le _) (Nat.le_of_ble_eq_true rfl) ?_
    refine go_h (zpm_zpm _ _ _ _ _) ?_
    refine go_iload_n dX4_shedIfFails_31 rfl ?_
    refine go_iret dX4_shedIfFails_32 rfl ?_ ?_ (Nat.zero_le _) (Nat.zero_le _)
    · simp [aS, c4]
    · first | (rw [if_neg c4]; exact zpm_id hm) | rw [if_pos c4]
  · replace c4 := zi_0.mp c4
    refine go_iconst (v := (-1)) dX4_shedIfFails_7 (by decide) ?_
    refine go_iret dX4_shedIfFails_8 rfl ?_ ?_ (Nat.zero_le _) (Nat.zero_le _)
    · simp [aS, c4]
    · first | (rw [if_neg c4]; exact zpm_id hm) | rw [if_pos c4]
abbrev nSm (ν : zS) (k : Nat) : Prop := ∀ i, i < k → i = 11 ∨ ν 4 i = ν 0 i
def nAh (μ : zS) : zS := upR μ 4 (cpk (μ 4) (μ 0) 149)
def nSs (μ : zS) : zS := nSec (nAh μ)
theorem nSm_s {ν : zS} {k : Nat} : nSm ν (k + 1) ↔ nSm ν k ∧ (k = 11 ∨ ν 4 k = ν 0 k) := by
  constructor
  · intro h
    exact ⟨fun i hi => h i (by omega), h k (by omega)⟩
  · intro h i hi
    by_cases e : i = k
    · subst e; exact h.2
    · exact h.1 i (by omega)
set_option maxRecDepth 4000 in
theorem kX4_isStableSecond_ (γ : zG) (l : Launch) (n : Nat) (h : zH) (b : Nat) (μ : zS) (hm : zMd γ h b μ) (hok : nOk (μ 0)) (R : zS) (hR : nSs μ = R) : Con γ l (n + 7) 0 0 MX4_isStableSecond [.ref b] h (some (.int (zi (nSm R 149)))) (zpm γ h b R) := by
  refine Con.go (by decide +kernel) (Nat.le_of_ble_eq_true rfl) ⟨rfl, trivial⟩ ?_
  show Go _ 0 0 0 [some (.ref b), none, none] [] _
  have loop2 : ∀ (m k : Nat), k + m = 149 → Go (γ, l, n + 7, (0, 0), MX4_isStableSecond, zF γ 0 0 (some (.int (zi (nSm R 149)))) (zpm γ h b R)) 0 0 35 [some (.ref b), some (.int (zi (nSm R k))), some (.int (nI k))] [] (zpm γ h b R) := by
    intro m
    induction m with
    | zero =>
      intro k hk
      have hkN : k = 149 := by omega
      subst hkN
      refine go_iload_n dX4_isStableSecond_35 rfl ?_
      refine go_sipush (v := 149) dX4_isStableSecond_36 (by decide) ?_
      refine go_icmp_ge (tgt := 79) dX4_isStableSecond_39 (by decide) (fun c39 => ?_) (fun c39 => absurd (by decide) c39)
      refine go_iload_n dX4_isStableSecond_79 rfl ?_
      refine go_zret dX4_isStableSecond_80 rfl (by first | rfl | exact zi_n) ?_ ?_ (Nat.zero_le _) (Nat.zero_le _)
      · rfl
      · rfl
    | succ m ih =>
      intro k hk
      have hlt : k < 149 := by omega
      refine go_iload_n dX4_isStableSecond_35 rfl ?_
      refine go_sipush (v := 149) dX4_isStableSecond_36 (by decide) ?_
      refine go_icmp_ge (tgt := 79) dX4_isStableSecond_39 (by decide) (fun c39 => absurd c39 (zge149 hk)) (fun c39 => ?_)
      refine go_iload_n dX4_isStableSecond_42 rfl ?_
      refine go_if_eq (tgt := 71) dX4_isStableSecond_43 (by decide) (fun c43 => ?_) (fun c43 => ?_)
      · refine go_iconst (v := 0) dX4_isStableSecond_71 (by decide) ?_
        refine go_istore_n dX4_isStableSecond_72 (Nat.le_of_ble_eq_true rfl) ?_
        refine go_iinc dX4_isStableSecond_73 rfl (nI_1 k) (Nat.le_of_ble_eq_true rfl) ?_
        refine go_goto (tgt := 35) dX4_isStableSecond_76 (by decide) ?_
        have g := ih (k + 1) (by omega)
        rw [zi_f (fun q => zi_0.mp c43 (nSm_s.mp q).1)] at g
        exact go_vl g ⟨rfl, rfl, rfl, trivial⟩
      · refine go_iload_n dX4_isStableSecond_46 rfl ?_
        refine go_bipush (v := 11) dX4_isStableSecond_47 (by decide) ?_
        refine go_icmp_eq (tgt := 67) dX4_isStableSecond_49 (by decide) (fun c49 => ?_) (fun c49 => ?_)
        · refine go_iconst (v := 1) dX4_isStableSecond_67 (by decide) ?_
          refine go_goto (tgt := 72) dX4_isStableSecond_68 (by decide) ?_
          refine go_istore_n dX4_isStableSecond_72 (Nat.le_of_ble_eq_true rfl) ?_
          refine go_iinc dX4_isStableSecond_73 rfl (nI_1 k) (Nat.le_of_ble_eq_true rfl) ?_
          refine go_goto (tgt := 35) dX4_isStableSecond_76 (by decide) ?_
          have g := ih (k + 1) (by omega)
          rw [zi_t (nSm_s.mpr ⟨zi_nz.mp c43, Or.inl ((nI_eq (b := 11) (by omega) (by decide)).mp c49)⟩)] at g
          exact go_vl g ⟨rfl, rfl, rfl, trivial⟩
        · refine go_aload_n dX4_isStableSecond_52 rfl ?_
          refine go_getf dX4_isStableSecond_53 flX4_23 (by exact zpm_is γ h b _ 0 (by decide)) rfl ?_
          refine go_iload_n dX4_isStableSecond_56 rfl ?_
          refine go_iald dX4_isStableSecond_57 (by exact zpm_is γ h b _ 5 (by decide)) (zix (n := 149) rfl hlt (by decide)).1 (zix (n := 149) rfl hlt (by decide)).2 ?_
          refine go_aload_n dX4_isStableSecond_58 rfl ?_
          refine go_getf dX4_isStableSecond_59 flX4_7 (by exact zpm_is γ h b _ 0 (by decide)) rfl ?_
          refine go_iload_n dX4_isStableSecond_62 rfl ?_
          refine go_iald dX4_isStableSecond_63 (by exact zpm_is γ h b _ 1 (by decide)) (zix (n := 149) rfl hlt (by decide)).1 (zix (n := 149) rfl hlt (by decide)).2 ?_
          refine go_icmp_ne (tgt := 71) dX4_isStableSecond_64 (by decide) (fun c64 => ?_) (fun c64 => ?_)
          · refine go_iconst (v := 0) dX4_isStableSecond_71 (by decide) ?_
            refine go_istore_n dX4_isStableSecond_72 (Nat.le_of_ble_eq_true rfl) ?_
            refine go_iinc dX4_isStableSecond_73 rfl (nI_1 k) (Nat.le_of_ble_eq_true rfl) ?_
            refine go_goto (tgt := 35) dX4_isStableSecond_76 (by decide) ?_
            have g := ih (k + 1) (by omega)
            rw [zi_f (fun q => (nSm_s.mp q).2.elim (fun z => c49 (by rw [z]; rfl)) c64)] at g
            exact go_vl g ⟨rfl, rfl, rfl, trivial⟩
          · refine go_iconst (v := 1) dX4_isStableSecond_67 (by decide) ?_
            refine go_goto (tgt := 72) dX4_isStableSecond_68 (by decide) ?_
            refine go_istore_n dX4_isStableSecond_72 (Nat.le_of_ble_eq_true rfl) ?_
            refine go_iinc dX4_isStableSecond_73 rfl (nI_1 k) (Nat.le_of_ble_eq_true rfl) ?_
            refine go_goto (tgt := 35) dX4_isStableSecond_76 (by decide) ?_
            have g := ih (k + 1) (by omega)
            rw [zi_t (nSm_s.mpr ⟨zi_nz.mp c43, Or.inr c64⟩)] at g
            exact go_vl g ⟨rfl, rfl, rfl, trivial⟩
  have loop : ∀ (m k : Nat), k + m = 149 → Go (γ, l, n + 7, (0, 0), MX4_isStableSecond, zF γ 0 0 (some (.int (zi (nSm R 149)))) (zpm γ h b R)) 0 0 2 [some (.ref b), some (.int (nI k)), none] [] (zpm γ h b (upR μ 4 (cpk (μ 4) (μ 0) k))) := by
    intro m
    induction m with
    | zero =>
      intro k hk
      have hkN : k = 149 := by omega
      subst hkN
      refine go_iload_n dX4_isStableSecond_2 rfl ?_
      refine go_sipush (v := 149) dX4_isStableSecond_3 (by decide) ?_
      refine go_icmp_ge (tgt := 27) dX4_isStableSecond_6 (by decide) (fun c6 => ?_) (fun c6 => absurd (by decide) c6)
      refine go_aload_n dX4_isStableSecond_27 rfl ?_
      refine go_callVv (ci := 4) dX4_isStableSecond_28 moX4_second cvX4_106 ⟨rfl, rfl⟩ (kX4_second_ γ l _ _ b (nAh μ) (zpm_is γ h b _) hok R hR) (by first | exact zpm_is γ h b _ 0 (by decide) | exact zpm_is γ h b _ 1 (by decide) | exact zpm_is γ h b _ 2 (by decide) | exact zpm_is γ h b _ 5 (by decide) | exact zpm_is γ h b _ 3 (by decide) | exact zpm_is γ h b _ 4 (by decide)) rfl rfl (Nat.le_refl _) (Nat.zero_le _) (Nat.zero_le _) (Nat.le_of_ble_eq_true rfl) ?_
      refine go_h (zpm_zpm _ _ _ _ _) ?_
      refine go_iconst (v := 1) dX4_isStableSecond_31 (by decide) ?_
      refine go_istore_n dX4_isStableSecond_32 (Nat.le_of_ble_eq_true rfl) ?_
      refine go_iconst (v := 0) dX4_isStableSecond_33 (by decide) ?_
      refine go_istore_n dX4_isStableSecond_34 (Nat.le_of_ble_eq_true rfl) ?_
      have g := loop2 149 0 rfl
      rw [zi_t (p := nSm R 0) (fun i hi => absurd hi (Nat.not_lt_zero i))] at g
      exact go_vl g ⟨rfl, rfl, rfl, trivial⟩
    | succ m ih =>
      intro k hk
      have hlt : k < 149 := by omega
      refine go_iload_n dX4_isStableSecond_2 rfl ?_
      refine go_sipush (v := 149) dX4_isStableSecond_3 (by decide) ?_
      refine go_icmp_ge (tgt := 27) dX4_isStableSecond_6 (by decide) (fun c6 => absurd c6 (zge149 hk)) (fun c6 => ?_)
      refine go_aload_n dX4_isStableSecond_9 rfl ?_
      refine go_getf dX4_isStableSecond_10 flX4_23 (by exact zpm_is γ h b _ 0 (by decide)) rfl ?_
      refine go_iload_n dX4_isStableSecond_13 rfl ?_
      refine go_aload_n dX4_isStableSecond_14 rfl ?_
      refine go_getf dX4_isStableSecond_15 flX4_7 (by exact zpm_is γ h b _ 0 (by decide)) rfl ?_
      refine go_iload_n dX4_isStableSecond_18 rfl ?_
      refine go_iald dX4_isStableSecond_19 (by exact zpm_is γ h b _ 1 (by decide)) (zix (n := 149) rfl hlt (by decide)).1 (zix (n := 149) rfl hlt (by decide)).2 ?_
      refine go_iast dX4_isStableSecond_20 (by exact zpm_is γ h b _ 5 (by decide)) (zix (n := 149) rfl hlt (by decide)).1 (zix (n := 149) rfl hlt (by decide)).2 ?_
      refine go_h zmo_44 ?_
      refine go_h (congrArg (fun M => zpm γ h b (upR μ 4 M)) (cpk_s (μ 4) (μ 0) k)) ?_
      refine go_iinc dX4_isStableSecond_21 rfl (nI_1 k) (Nat.le_of_ble_eq_true rfl) ?_
      refine go_goto (tgt := 2) dX4_isStableSecond_24 (by decide) ?_
      exact ih (k + 1) (by omega)
  refine go_h ((zpm_id hm).symm.trans (congrArg (zpm γ h b) (show μ = upR μ 4 (cpk (μ 4) (μ 0) 0) from by rw [cpk_0, upR_id]))) ?_
  refine go_iconst (v := 0) dX4_isStableSecond_0 (by decide) ?_
  refine go_istore_n dX4_isStableSecond_1 (Nat.le_of_ble_eq_true rfl) ?_
  exact loop 149 0 rfl
