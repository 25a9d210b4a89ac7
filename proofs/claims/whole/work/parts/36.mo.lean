/-! PoeSwitchModel: powerUp, second, advance -/
theorem nP2_yes {ν : zS} {m q j : Nat} (hj : nOrd (ν 0) q = nI j) (hlt : j < 8) (h : nCan (ν 0) j) : nP2 ν (m + 1) q = nEv (upR ν 0 (nGr (ν 0) j)) (nCt (ν 0)) (nI j) 0 := by
  have e := nSt_ix hj hlt
  have k : nP2 ν (m + 1) q = nEv (upR ν 0 (nGr (ν 0) (ix (nOrd (ν 0) q)))) (nCt (ν 0)) (nOrd (ν 0) q) 0 := if_pos (by rw [e]; exact h)
  rw [k, e, hj]
theorem nP2_no {ν : zS} {m q j : Nat} (hj : nOrd (ν 0) q = nI j) (hlt : j < 8) (h : ¬ nCan (ν 0) j) : nP2 ν (m + 1) q = nP2 ν m (q + 1) := if_neg (by rw [nSt_ix hj hlt]; exact h)
theorem nGr_12 {M : Nat → Int32} {j : Nat} : nGr M j 12 = M 12 := by unfold nGr; rw [pk_un (by omega), pk_un (by unfold mi; omega)]
set_option maxRecDepth 4000 in
theorem kX4_powerUp_ (γ : zG) (l : Launch) (n : Nat) (h : zH) (b : Nat) (μ : zS) (hm : zMd γ h b μ) (hok : nOk (μ 0)) (R : zS) (hR : nPu μ = R) : Con γ l (n + 5) 0 0 MX4_powerUp [.ref b] h none (zpm γ h b R) := by
  refine Con.go (by decide +kernel) (Nat.le_of_ble_eq_true rfl) ⟨rfl, trivial⟩ ?_
  show Go _ 0 0 0 [some (.ref b), none, none] [] _
  have loop : ∀ ν : zS, nOk (ν 0) → ∀ (m q : Nat), q + m = 8 → nP2 ν m q = R → Go (γ, l, n + 5, (0, 0), MX4_powerUp, zF γ 0 0 none (zpm γ h b R)) 0 0 38 [some (.ref b), some (.int (nI q)), none] [] (zpm γ h b ν) := by
    intro ν hok m
    induction m with
    | zero =>
      intro q hk hf
      have hkN : q = 8 := by omega
      subst hkN
      refine go_iload_n dX4_powerUp_38 rfl ?_
      refine go_bipush (v := 8) dX4_powerUp_39 (by decide) ?_
      refine go_icmp_ge (tgt := 135) dX4_powerUp_41 (by decide) (fun c41 => ?_) (fun c41 => absurd (by decide) c41)
      refine go_vret dX4_powerUp_135 rfl rfl ?_ (Nat.zero_le _) (Nat.zero_le _)
      · rw [← hf]; rfl
    | succ m ih =>
      intro q hk hf
      obtain ⟨j, hlt, -, hj⟩ := nOrd_ok hok.1 (q := q) (by omega)
      refine go_iload_n dX4_powerUp_38 rfl ?_
      refine go_bipush (v := 8) dX4_powerUp_39 (by decide) ?_
      refine go_icmp_ge (tgt := 135) dX4_powerUp_41 (by decide) (fun c41 => absurd c41 (zge hk)) (fun c41 => ?_)
      refine go_aload_n dX4_powerUp_44 rfl ?_
      refine go_iload_n dX4_powerUp_45 rfl ?_
      refine go_callVi (ci := 4) dX4_powerUp_46 moX4_inOrder cvX4_87 ⟨rfl, rfl⟩ (kX4_inOrder_ γ l _ _ b ν (zpm_is γ h b _) q (by omega) _ rfl (nI j) hj) (by first | exact zpm_is γ h b _ 0 (by decide) | exact zpm_is γ h b _ 1 (by decide)) rfl rfl (Nat.le_refl _) (Nat.zero_le _) (Nat.zero_le _) (Nat.le_of_ble_eq_true rfl) ?_
      refine go_istore_n dX4_powerUp_49 (Nat.le_of_ble_eq_true rfl) ?_
      refine go_aload_n dX4_powerUp_50 rfl ?_
      refine go_iload_n dX4_powerUp_51 rfl ?_
      refine go_callVi (ci := 4) dX4_powerUp_52 moX4_isEligible cvX4_77 ⟨rfl, rfl⟩ (kX4_isEligible γ l _ _ b ν (zpm_is γ h b _) _ j rfl hlt) (by first | exact zpm_is γ h b _ 0 (by decide) | exact zpm_is γ h b _ 1 (by decide)) rfl rfl (Nat.le_refl _) (Nat.zero_le _) (Nat.zero_le _) (Nat.le_of_ble_eq_true rfl) ?_
      refine go_if_eq (tgt := 129) dX4_powerUp_55 (by decide) (fun c55 => ?_) (fun c55 => ?_)
      · replace c55 := zi_0.mp c55
        refine go_iinc dX4_powerUp_129 rfl (nI_1 q) (Nat.le_of_ble_eq_true rfl) ?_
        refine go_goto (tgt := 38) dX4_powerUp_132 (by decide) ?_
        exact go_vl (ih (q + 1) (by omega) ((nP2_no hj hlt (fun z => c55 z.1)).symm.trans hf)) ⟨rfl, rfl, trivial⟩
      · replace c55 := zi_nz.mp c55
        refine go_aload_n dX4_powerUp_58 rfl ?_
        refine go_iload_n dX4_powerUp_59 rfl ?_
        refine go_callVi (ci := 4) dX4_powerUp_60 moX4_isPowered cvX4_65 ⟨rfl, rfl⟩ (kX4_isPowered γ l _ _ b ν (zpm_is γ h b _) _ j rfl hlt) (by first | exact zpm_is γ h b _ 0 (by decide) | exact zpm_is γ h b _ 1 (by decide)) rfl rfl (Nat.le_refl _) (Nat.zero_le _) (Nat.zero_le _) (Nat.le_of_ble_eq_true rfl) ?_
        refine go_if_ne (tgt := 129) dX4_powerUp_63 (by decide) (fun c63 => ?_) (fun c63 => ?_)
        · replace c63 := zi_nz.mp c63
          refine go_iinc dX4_powerUp_129 rfl (nI_1 q) (Nat.le_of_ble_eq_true rfl) ?_
          refine go_goto (tgt := 38) dX4_powerUp_132 (by decide) ?_
          exact go_vl (ih (q + 1) (by omega) ((nP2_no hj hlt (fun z => z.2.1 c63)).symm.trans hf)) ⟨rfl, rfl, trivial⟩
        · replace c63 := zi_0.mp c63
          refine go_aload_n dX4_powerUp_66 rfl ?_
          refine go_iload_n dX4_powerUp_67 rfl ?_
          refine go_bipush (v := 10) dX4_powerUp_68 (by decide) ?_
          refine go_callVi (ci := 4) dX4_powerUp_70 moX4_of cvX4_45 ⟨rfl, rfl⟩ (kX4_of γ l _ _ b ν (zpm_is γ h b _) _ _ j 10 rfl rfl (mi_lt hlt (by decide))) (by first | exact zpm_is γ h b _ 0 (by decide) | exact zpm_is γ h b _ 1 (by decide)) rfl rfl (Nat.le_refl _) (Nat.zero_le _) (Nat.zero_le _) (Nat.le_of_ble_eq_true rfl) ?_
          refine go_if_ne (tgt := 129) dX4_powerUp_73 (by decide) (fun c73 => ?_) (fun c73 => ?_)
          · refine go_iinc dX4_powerUp_129 rfl (nI_1 q) (Nat.le_of_ble_eq_true rfl) ?_
            refine go_goto (tgt := 38) dX4_powerUp_132 (by decide) ?_
            exact go_vl (ih (q + 1) (by omega) ((nP2_no hj hlt (fun z => c73 z.2.2.1)).symm.trans hf)) ⟨rfl, rfl, trivial⟩
          · refine go_aload_n dX4_powerUp_76 rfl ?_
            refine go_iload_n dX4_powerUp_77 rfl ?_
            refine go_bipush (v := 7) dX4_powerUp_78 (by decide) ?_
            refine go_callVi (ci := 4) dX4_powerUp_80 moX4_of cvX4_45 ⟨rfl, rfl⟩ (kX4_of γ l _ _ b ν (zpm_is γ h b _) _ _ j 7 rfl rfl (mi_lt hlt (by decide))) (by first | exact zpm_is γ h b _ 0 (by decide) | exact zpm_is γ h b _ 1 (by decide)) rfl rfl (Nat.le_refl _) (Nat.zero_le _) (Nat.zero_le _) (Nat.le_of_ble_eq_true rfl) ?_
            refine go_aload_n dX4_powerUp_83 rfl ?_
            refine go_callVi (ci := 4) dX4_powerUp_84 moX4_available cvX4_71 ⟨rfl, rfl⟩ (kX4_available γ l _ _ b ν (zpm_is γ h b _)) (by first | exact zpm_is γ h b _ 0 (by decide) | exact zpm_is γ h b _ 1 (by decide)) rfl rfl (Nat.le_refl _) (Nat.zero_le _) (Nat.zero_le _) (Nat.le_of_ble_eq_true rfl) ?_
            refine go_icmp_gt (tgt := 129) dX4_powerUp_87 (by decide) (fun c87 => ?_) (fun c87 => ?_)
            · refine go_iinc dX4_powerUp_129 rfl (nI_1 q) (Nat.le_of_ble_eq_true rfl) ?_
              refine go_goto (tgt := 38) dX4_powerUp_132 (by decide) ?_
              exact go_vl (ih (q + 1) (by omega) ((nP2_no hj hlt (fun z => z.2.2.2 c87)).symm.trans hf)) ⟨rfl, rfl, trivial⟩
            · refine go_aload_n dX4_powerUp_90 rfl ?_
              refine go_getf dX4_powerUp_91 flX4_7 (by first | exact zpm_is γ h b _ 0 (by decide) | exact zpm_is γ h b _ 1 (by decide)) rfl ?_
              refine go_iload_n dX4_powerUp_94 rfl ?_
              refine go_bipush (v := 8) dX4_powerUp_95 (by decide) ?_
              refine go_callSi dX4_powerUp_97 moX4_at csX4_26 (kX4_at γ l _ _ _ _ j 8 rfl rfl) rfl rfl (Nat.le_refl _) (Nat.zero_le _) (Nat.zero_le _) (Nat.le_of_ble_eq_true rfl) ?_
              refine go_aload_n dX4_powerUp_100 rfl ?_
              refine go_iload_n dX4_powerUp_101 rfl ?_
              refine go_bipush (v := 7) dX4_powerUp_102 (by decide) ?_
              refine go_callVi (ci := 4) dX4_powerUp_104 moX4_of cvX4_45 ⟨rfl, rfl⟩ (kX4_of γ l _ _ b ν (zpm_is γ h b _) _ _ j 7 rfl rfl (mi_lt hlt (by decide))) (by first | exact zpm_is γ h b _ 0 (by decide) | exact zpm_is γ h b _ 1 (by decide)) rfl rfl (Nat.le_refl _) (Nat.zero_le _) (Nat.zero_le _) (Nat.le_of_ble_eq_true rfl) ?_
              refine go_iast dX4_powerUp_107 (by first | exact zpm_is γ h b _ 0 (by decide) | exact zpm_is γ h b _ 1 (by decide)) (zix (n := 149) rfl (mi_lt hlt (by decide)) (by decide)).1 (zix (n := 149) rfl (mi_lt hlt (by decide)) (by decide)).2 ?_
              refine go_h zmo_0 ?_
              refine go_aload_n dX4_powerUp_108 rfl ?_
              refine go_getf dX4_powerUp_109 flX4_7 (by first | exact zpm_is γ h b _ 0 (by decide) | exact zpm_is γ h b _ 1 (by decide)) rfl ?_
              refine go_bipush (v := 10) dX4_powerUp_112 (by decide) ?_
              refine go_aload_n dX4_powerUp_114 rfl ?_
              refine go_getf dX4_powerUp_115 flX4_7 (by first | exact zpm_is γ h b _ 0 (by decide) | exact zpm_is γ h b _ 1 (by decide)) rfl ?_
              refine go_bipush (v := 7) dX4_powerUp_118 (by decide) ?_
              refine go_iald dX4_powerUp_120 (by first | exact zpm_is γ h b _ 0 (by decide) | exact zpm_is γ h b _ 1 (by decide)) (by unfold vp_in; decide) rfl ?_
              refine go_iast dX4_powerUp_121 (by first | exact zpm_is γ h b _ 0 (by decide) | exact zpm_is γ h b _ 1 (by decide)) (by unfold vp_in; decide) rfl ?_
              refine go_h zmo_00 ?_
              refine go_aload_n dX4_powerUp_122 rfl ?_
              refine go_iload_n dX4_powerUp_123 rfl ?_
              refine go_iconst (v := 0) dX4_powerUp_124 (by decide) ?_
              refine go_callVv (ci := 4) dX4_powerUp_125 moX4_addEvent cvX4_90 ⟨rfl, rfl⟩ (kX4_addEvent γ l _ _ b (upR ν 0 (nGr (ν 0) j)) (zpm_is γ h b _) (nCt (ν 0)) (nGr_12.trans hok.2.1) hok.2.2 _ _) (by first | exact zpm_is γ h b _ 0 (by decide) | exact zpm_is γ h b _ 1 (by decide)) rfl rfl (Nat.le_refl _) (Nat.zero_le _) (Nat.zero_le _) (Nat.le_of_ble_eq_true rfl) ?_
              refine go_h (zpm_zpm _ _ _ _ _) ?_
              refine go_vret dX4_powerUp_128 rfl rfl ?_ (Nat.zero_le _) (Nat.zero_le _)
              · rw [← hf, nP2_yes hj hlt ⟨c55, c63, c73, c87⟩]
  have mid : ∀ v : Int32, v = (if 0 < μ 0 10 then 1 else 0) → Go (γ, l, n + 5, (0, 0), MX4_powerUp, zF γ 0 0 none (zpm γ h b R)) 0 0 23 [some (.ref b), none, none] [.int v, .int (μ 0 10), .int 10, .ref (b + 1)] h := by
    intro v hv
    refine go_isub dX4_powerUp_23 ?_
    refine go_iast dX4_powerUp_24 (by first | exact hm 0 (by decide) | exact hm 1 (by decide) | exact zpm_is γ h b _ 0 (by decide) | exact zpm_is γ h b _ 1 (by decide)) (by unfold vp_in; decide) rfl ?_
    rw [hv]
    refine go_h (zmo_r0 hm) ?_
    refine go_aload_n dX4_powerUp_25 rfl ?_
    refine go_getf dX4_powerUp_26 flX4_7 (by first | exact hm 0 (by decide) | exact hm 1 (by decide) | exact zpm_is γ h b _ 0 (by decide) | exact zpm_is γ h b _ 1 (by decide)) rfl ?_
    refine go_bipush (v := 10) dX4_powerUp_29 (by decide) ?_
    refine go_iald dX4_powerUp_31 (by first | exact hm 0 (by decide) | exact hm 1 (by decide) | exact zpm_is γ h b _ 0 (by decide) | exact zpm_is γ h b _ 1 (by decide)) (by unfold vp_in; decide) rfl ?_
    refine go_if_le (tgt := 36) dX4_powerUp_32 (by decide) (fun c32 => ?_) (fun c32 => ?_)
    · refine go_iconst (v := 0) dX4_powerUp_36 (by decide) ?_
      refine go_istore_n dX4_powerUp_37 (Nat.le_of_ble_eq_true rfl) ?_
      exact go_vl (loop _ hok.tm 8 0 rfl (by rw [← hR, nPu]; exact (if_neg (zle.mp c32)).symm)) ⟨rfl, rfl, trivial⟩
    · refine go_vret dX4_powerUp_35 rfl rfl ?_ (Nat.zero_le _) (Nat.zero_le _)
      · rw [← hR, nPu]
        exact congrArg (zpm γ h b) (if_pos (Int32.not_le.mp c32))
  refine go_aload_n dX4_powerUp_0 rfl ?_
  refine go_getf dX4_powerUp_1 flX4_7 (by first | exact hm 0 (by decide) | exact hm 1 (by decide) | exact zpm_is γ h b _ 0 (by decide) | exact zpm_is γ h b _ 1 (by decide)) rfl ?_
  refine go_bipush (v := 10) dX4_powerUp_4 (by decide) ?_
  refine go_dup2 dX4_powerUp_6 rfl rfl ?_
  refine go_iald dX4_powerUp_7 (by first | exact hm 0 (by decide) | exact hm 1 (by decide) | exact zpm_is γ h b _ 0 (by decide) | exact zpm_is γ h b _ 1 (by decide)) (by unfold vp_in; decide) rfl ?_
  refine go_aload_n dX4_powerUp_8 rfl ?_
  refine go_getf dX4_powerUp_9 flX4_7 (by first | exact hm 0 (by decide) | exact hm 1 (by decide) | exact zpm_is γ h b _ 0 (by decide) | exact zpm_is γ h b _ 1 (by decide)) rfl ?_
  refine go_bipush (v := 10) dX4_powerUp_12 (by decide) ?_
  refine go_iald dX4_powerUp_14 (by first | exact hm 0 (by decide) | exact hm 1 (by decide) | exact zpm_is γ h b _ 0 (by decide) | exact zpm_is γ h b _ 1 (by decide)) (by unfold vp_in; decide) rfl ?_
  refine go_if_le (tgt := 22) dX4_powerUp_15 (by decide) (fun c15 => ?_) (fun c15 => ?_)
  · refine go_iconst (v := 0) dX4_powerUp_22 (by decide) ?_
    exact mid 0 (if_neg (zle.mp c15)).symm
  · refine go_iconst (v := 1) dX4_powerUp_18 (by decide) ?_
    refine go_goto (tgt := 23) dX4_powerUp_19 (by decide) ?_
    exact mid 1 (if_pos (Int32.not_le.mp c15)).symm
set_option maxRecDepth 4000 in
theorem kX4_second_ (γ : zG) (l : Launch) (n : Nat) (h : zH) (b : Nat) (μ : zS) (hm : zMd γ h b μ) (hok : nOk (μ 0)) (R : zS) (hR : nSec μ = R) : Con γ l (n + 6) 0 0 MX4_second [.ref b] h none (zpm γ h b R) := by
  refine Con.go (by decide +kernel) (Nat.le_of_ble_eq_true rfl) ⟨rfl, trivial⟩ ?_
  show Go _ 0 0 0 [some (.ref b), none, none, none] [] _
  have last : ∀ (ν : zS) (x : Int32), nOk (ν 0) → upR (nPu ν) 0 (upd (nPu ν 0) 11 (nPu ν 0 11 + 1)) = R → Go (γ, l, n + 6, (0, 0), MX4_second, zF γ 0 0 none (zpm γ h b R)) 0 0 100 [some (.ref b), some (.int x), some (.int (nI 8)), none] [] (zpm γ h b ν) := by
    intro ν x hok hf
    refine go_aload_n dX4_second_100 rfl ?_
    refine go_callVv (ci := 4) dX4_second_101 moX4_powerUp cvX4_103 ⟨rfl, rfl⟩ (kX4_powerUp_ γ l _ _ b ν (zpm_is γ h b _) hok _ rfl) (by first | exact zpm_is γ h b _ 0 (by decide) | exact zpm_is γ h b _ 1 (by decide)) rfl rfl (Nat.le_refl _) (Nat.zero_le _) (Nat.zero_le _) (Nat.le_of_ble_eq_true rfl) ?_
    refine go_h (zpm_zpm _ _ _ _ _) ?_
    refine go_aload_n dX4_second_104 rfl ?_
    refine go_getf dX4_second_105 flX4_7 (by first | exact zpm_is γ h b _ 0 (by decide) | exact zpm_is γ h b _ 1 (by decide)) rfl ?_
    refine go_bipush (v := 11) dX4_second_108 (by decide) ?_
    refine go_dup2 dX4_second_110 rfl rfl ?_
    refine go_iald dX4_second_111 (by first | exact zpm_is γ h b _ 0 (by decide) | exact zpm_is γ h b _ 1 (by decide)) (by unfold vp_in; decide) rfl ?_
    refine go_iconst (v := 1) dX4_second_112 (by decide) ?_
    refine go_iadd dX4_second_113 ?_
    refine go_iast dX4_second_114 (by first | exact zpm_is γ h b _ 0 (by decide) | exact zpm_is γ h b _ 1 (by decide)) (by unfold vp_in; decide) rfl ?_
    refine go_h zmo_0 ?_
    refine go_vret dX4_second_115 rfl rfl ?_ (Nat.zero_le _) (Nat.zero_le _)
    · exact congrArg (zpm γ h b) hf.symm
  have cool : ∀ (ν : zS) (cut : Int32), upR (nPu (upR ν 0 (nD cut (ν 0) 8))) 0 (upd (nPu (upR ν 0 (nD cut (ν 0) 8)) 0) 11 (nPu (upR ν 0 (nD cut (ν 0) 8)) 0 11 + 1)) = R → ∀ (m k : Nat) (M : Nat → Int32), M = nD cut (ν 0) k → nOk M → k + m = 8 → Go (γ, l, n + 6, (0, 0), MX4_second, zF γ 0 0 none (zpm γ h b R)) 0 0 41 [some (.ref b), some (.int cut), some (.int (nI k)), none] [] (zpm γ h b (upR ν 0 M)) := by
    intro ν cut hf m
    induction m with
    | zero =>
      intro k M he hokM hk
      have hkN : k = 8 := by omega
      subst hkN
      refine go_iload_n dX4_second_41 rfl ?_
      refine go_bipush (v := 8) dX4_second_42 (by decide) ?_
      refine go_icmp_ge (tgt := 100) dX4_second_44 (by decide) (fun c44 => ?_) (fun c44 => absurd (by decide) c44)
      exact go_vl (last (upR ν 0 M) cut hokM (by rw [he]; exact hf)) ⟨rfl, rfl, rfl, trivial⟩
    | succ m ih =>
      intro k M he hokM hk
      have hlt : k < 8 := by omega
      have mid : ∀ v : Int32, (¬ v = 0 ↔ nDc cut M k) → Go (γ, l, n + 6, (0, 0), MX4_second, zF γ 0 0 none (zpm γ h b R)) 0 0 70 [some (.ref b), some (.int cut), some (.int (nI k)), none] [.int v] (zpm γ h b (upR ν 0 M)) := by
        intro v hv
        refine go_istore_n dX4_second_70 (Nat.le_of_ble_eq_true rfl) ?_
        refine go_aload_n dX4_second_71 rfl ?_
        refine go_getf dX4_second_72 flX4_7 (by first | exact zpm_is γ h b _ 0 (by decide) | exact zpm_is γ h b _ 1 (by decide)) rfl ?_
        refine go_iload_n dX4_second_75 rfl ?_
        refine go_bipush (v := 10) dX4_second_76 (by decide) ?_
        refine go_callSi dX4_second_78 moX4_at csX4_26 (kX4_at γ l _ _ _ _ k 10 rfl rfl) rfl rfl (Nat.le_refl _) (Nat.zero_le _) (Nat.zero_le _) (Nat.le_of_ble_eq_true rfl) ?_
        refine go_dup2 dX4_second_81 rfl rfl ?_
        refine go_iald dX4_second_82 (by first | exact zpm_is γ h b _ 0 (by decide) | exact zpm_is γ h b _ 1 (by decide)) (zix (n := 149) rfl (mi_lt hlt (by decide)) (by decide)).1 (zix (n := 149) rfl (mi_lt hlt (by decide)) (by decide)).2 ?_
        refine go_iload_n dX4_second_83 rfl ?_
        refine go_if_eq (tgt := 91) dX4_second_84 (by decide) (fun c84 => ?_) (fun c84 => ?_)
        · refine go_iconst (v := 0) dX4_second_91 (by decide) ?_
          refine go_isub dX4_second_92 ?_
          refine go_iast dX4_second_93 (by first | exact zpm_is γ h b _ 0 (by decide) | exact zpm_is γ h b _ 1 (by decide)) (zix (n := 149) rfl (mi_lt hlt (by decide)) (by decide)).1 (zix (n := 149) rfl (mi_lt hlt (by decide)) (by decide)).2 ?_
          refine go_h zmo_00 ?_
          refine go_iinc dX4_second_94 rfl (nI_1 k) (Nat.le_of_ble_eq_true rfl) ?_
          refine go_goto (tgt := 41) dX4_second_97 (by decide) ?_
          have e1 : nD1 cut M k = _ := congrArg (fun z => upd M (mi k 10) (M (mi k 10) - z)) (if_neg (fun q => (hv.mpr q) c84))
          have g := ih (k + 1) (nD1 cut M k) (by rw [he]; rfl) (hokM.upd (fun j hj => by unfold mi; omega) (by unfold mi; omega)) (by omega)
          rw [e1] at g
          exact go_vl g ⟨rfl, rfl, rfl, trivial⟩
        · refine go_iconst (v := 1) dX4_second_87 (by decide) ?_
          refine go_goto (tgt := 92) dX4_second_88 (by decide) ?_
          refine go_isub dX4_second_92 ?_
          refine go_iast dX4_second_93 (by first | exact zpm_is γ h b _ 0 (by decide) | exact zpm_is γ h b _ 1 (by decide)) (zix (n := 149) rfl (mi_lt hlt (by decide)) (by decide)).1 (zix (n := 149) rfl (mi_lt hlt (by decide)) (by decide)).2 ?_
          refine go_h zmo_00 ?_
          refine go_iinc dX4_second_94 rfl (nI_1 k) (Nat.le_of_ble_eq_true rfl) ?_
          refine go_goto (tgt := 41) dX4_second_97 (by decide) ?_
          have e1 : nD1 cut M k = _ := congrArg (fun z => upd M (mi k 10) (M (mi k 10) - z)) (if_pos (hv.mp c84))
          have g := ih (k + 1) (nD1 cut M k) (by rw [he]; rfl) (hokM.upd (fun j hj => by unfold mi; omega) (by unfold mi; omega)) (by omega)
          rw [e1] at g
          exact go_vl g ⟨rfl, rfl, rfl, trivial⟩
      refine go_iload_n dX4_second_41 rfl ?_
      refine go_bipush (v := 8) dX4_second_42 (by decide) ?_
      refine go_icmp_ge (tgt := 100) dX4_second_44 (by decide) (fun c44 => absurd c44 (zge hk)) (fun c44 => ?_)
      refine go_iload_n dX4_second_47 rfl ?_
      refine go_iload_n dX4_second_48 rfl ?_
      refine go_ishr dX4_second_49 ?_
      refine go_iconst (v := 1) dX4_second_50 (by decide) ?_
      refine go_iand dX4_second_51 ?_
      refine go_if_ne (tgt := 69) dX4_second_52 (by decide) (fun c52 => ?_) (fun c52 => ?_)
      · refine go_iconst (v := 0) dX4_second_69 (by decide) ?_
        exact mid 0 ⟨fun q => absurd rfl q, fun q => absurd q.1 c52⟩
      · refine go_aload_n dX4_second_55 rfl ?_
        refine go_iload_n dX4_second_56 rfl ?_
        refine go_bipush (v := 10) dX4_second_57 (by decide) ?_
        refine go_callVi (ci := 4) dX4_second_59 moX4_of cvX4_45 ⟨rfl, rfl⟩ (kX4_of γ l _ _ b (upR ν 0 M) (zpm_is γ h b _) _ _ k 10 rfl rfl (mi_lt hlt (by decide))) (by first | exact zpm_is γ h b _ 0 (by decide) | exact zpm_is γ h b _ 1 (by decide)) rfl rfl (Nat.le_refl _) (Nat.zero_le _) (Nat.zero_le _) (Nat.le_of_ble_eq_true rfl) ?_
        refine go_if_le (tgt := 69) dX4_second_62 (by decide) (fun c62 => ?_) (fun c62 => ?_)
        · refine go_iconst (v := 0) dX4_second_69 (by decide) ?_
          exact mid 0 ⟨fun q => absurd rfl q, fun q => absurd q.2 (zle.mp c62)⟩
        · refine go_iconst (v := 1) dX4_second_65 (by decide) ?_
          refine go_goto (tgt := 70) dX4_second_66 (by decide) ?_
          exact mid 1 ⟨fun _ => ⟨c52, Int32.not_le.mp c62⟩, fun _ => by decide⟩
  obtain ⟨s1, h1⟩ : ∃ s1, nSh 8 (μ, 0) = s1 := ⟨_, rfl⟩
  have k1 : nOk (s1.1 0) := by rw [← h1]; exact nSh_ok 8 (μ, 0) hok
  have hf : upR (nPu (upR (nC s1.1 8).1 0 (nD (nC s1.1 8).2 ((nC s1.1 8).1 0) 8))) 0 (upd (nPu (upR (nC s1.1 8).1 0 (nD (nC s1.1 8).2 ((nC s1.1 8).1 0) 8)) 0) 11 (nPu (upR (nC s1.1 8).1 0 (nD (nC s1.1 8).2 ((nC s1.1 8).1 0) 8)) 0 11 + 1)) = R := by rw [← hR, nSec, h1]
  have cutl : ∀ (m k : Nat) (s : zS × Int32), s = nC s1.1 k → nOk (s.1 0) → k + m = 8 → Go (γ, l, n + 6, (0, 0), MX4_second, zF γ 0 0 none (zpm γ h b R)) 0 0 9 [some (.ref b), some (.int s.2), some (.int (nI k)), none] [] (zpm γ h b s.1) := by
    intro m
    induction m with
    | zero =>
      intro k s he hokS hk
      have hkN : k = 8 := by omega
      subst hkN
      refine go_iload_n dX4_second_9 rfl ?_
      refine go_bipush (v := 8) dX4_second_10 (by decide) ?_
      refine go_icmp_ge (tgt := 39) dX4_second_12 (by decide) (fun c12 => ?_) (fun c12 => absurd (by decide) c12)
      refine go_iconst (v := 0) dX4_second_39 (by decide) ?_
      refine go_istore_n dX4_second_40 (Nat.le_of_ble_eq_true rfl) ?_
      refine go_h (congrArg (zpm γ h b) (upR_id (σ := s.1) (c := 0)).symm) ?_
      exact go_vl (cool s.1 s.2 (by rw [he]; exact hf) 8 0 (s.1 0) rfl hokS rfl) ⟨rfl, rfl, rfl, trivial⟩
    | succ m ih =>
      intro k s he hokS hk
      have hlt : k < 8 := by omega
      refine go_iload_n dX4_second_9 rfl ?_
      refine go_bipush (v := 8) dX4_second_10 (by decide) ?_
      refine go_icmp_ge (tgt := 39) dX4_second_12 (by decide) (fun c12 => absurd c12 (zge hk)) (fun c12 => ?_)
      refine go_iload_n dX4_second_15 rfl ?_
      refine go_aload_n dX4_second_16 rfl ?_
      refine go_iload_n dX4_second_17 rfl ?_
      refine go_callVi (ci := 4) dX4_second_18 moX4_isCut cvX4_100 ⟨rfl, rfl⟩ (kX4_isCut_ γ l _ _ b s.1 (zpm_is γ h b _) hokS _ k rfl hlt (nIc s.1 k) rfl) (by first | exact zpm_is γ h b _ 0 (by decide) | exact zpm_is γ h b _ 1 (by decide)) rfl rfl (Nat.le_refl _) (Nat.zero_le _) (Nat.zero_le _) (Nat.le_of_ble_eq_true rfl) ?_
      refine go_h (zpm_zpm _ _ _ _ _) ?_
      refine go_if_eq (tgt := 30) dX4_second_21 (by decide) (fun c21 => ?_) (fun c21 => ?_)
      · refine go_iconst (v := 0) dX4_second_30 (by decide) ?_
        refine go_ior dX4_second_31 ?_
        refine go_istore_n dX4_second_32 (Nat.le_of_ble_eq_true rfl) ?_
        refine go_iinc dX4_second_33 rfl (nI_1 k) (Nat.le_of_ble_eq_true rfl) ?_
        refine go_goto (tgt := 9) dX4_second_36 (by decide) ?_
        have g := ih (k + 1) ((nIc s.1 k).1, s.2 ||| (if (nIc s.1 k).2 = 0 then 0 else bit (nI k))) (by rw [he]; rfl) (nIc_ok hokS) (by omega)
        rw [if_pos c21] at g
        exact go_vl g ⟨rfl, rfl, rfl, trivial⟩
      · refine go_iconst (v := 1) dX4_second_24 (by decide) ?_
        refine go_iload_n dX4_second_25 rfl ?_
        refine go_ishl dX4_second_26 ?_
        refine go_goto (tgt := 31) dX4_second_27 (by decide) ?_
        refine go_ior dX4_second_31 ?_
        refine go_istore_n dX4_second_32 (Nat.le_of_ble_eq_true rfl) ?_
        refine go_iinc dX4_second_33 rfl (nI_1 k) (Nat.le_of_ble_eq_true rfl) ?_
        refine go_goto (tgt := 9) dX4_second_36 (by decide) ?_
        have g := ih (k + 1) ((nIc s.1 k).1, s.2 ||| (if (nIc s.1 k).2 = 0 then 0 else bit (nI k))) (by rw [he]; rfl) (nIc_ok hokS) (by omega)
        rw [if_neg c21] at g
        exact go_vl g ⟨rfl, rfl, rfl, trivial⟩
  refine go_aload_n dX4_second_0 rfl ?_
  refine go_callVi (ci := 4) dX4_second_1 moX4_shedAll cvX4_97 ⟨rfl, rfl⟩ (kX4_shedAll_ γ l _ _ b μ hm hok s1 h1) (by first | exact hm 0 (by decide) | exact hm 1 (by decide) | exact zpm_is γ h b _ 0 (by decide) | exact zpm_is γ h b _ 1 (by decide)) rfl rfl (Nat.le_refl _) (Nat.zero_le _) (Nat.zero_le _) (Nat.le_of_ble_eq_true rfl) ?_
  refine go_pop dX4_second_4 rfl ?_
  refine go_iconst (v := 0) dX4_second_5 (by decide) ?_
  refine go_istore_n dX4_second_6 (Nat.le_of_ble_eq_true rfl) ?_
  refine go_iconst (v := 0) dX4_second_7 (by decide) ?_
  refine go_istore_n dX4_second_8 (Nat.le_of_ble_eq_true rfl) ?_
  exact go_vl (cutl 8 0 (s1.1, 0) rfl k1 rfl) ⟨rfl, rfl, rfl, trivial⟩
def nZ (μ : zS) : zS := upR μ 5 (upd (μ 5) 0 0)
def nAs (μ : zS) : Nat → zS
  | 0 => nZ μ
  | k + 1 => nSec (nAs μ k)
theorem nAs_ok {μ : zS} (h : nOk (μ 0)) : ∀ k, nOk (nAs μ k 0)
  | 0 => h
  | k + 1 => nSec_ok (nAs_ok h k)
def nAdv (μ : zS) (v : Int32) : Int32 × zS := if 1 ≤ v ∧ v ≤ 60 then (nAs μ (ix v) 5 0, nAs μ (ix v)) else (-2, μ)
set_option maxRecDepth 4000 in
theorem kX4_advance_ (γ : zG) (l : Launch) (n : Nat) (h : zH) (b : Nat) (μ : zS) (hm : zMd γ h b μ) (hok : nOk (μ 0)) (v : Int32) (R : Int32 × zS) (hR : nAdv μ v = R) : Con γ l (n + 7) 0 0 MX4_advance [.ref b, .int v] h (some (.int R.1)) (zpm γ h b R.2) := by
  refine Con.go (by decide +kernel) (Nat.le_of_ble_eq_true rfl) ⟨rfl, rfl, trivial⟩ ?_
  show Go _ 0 0 0 [some (.ref b), some (.int v), none] [] _
  have loop : ∀ N : Nat, N < 61 → (nAs μ N 5 0, nAs μ N) = R → ∀ (m k : Nat), k + m = N → Go (γ, l, n + 7, (0, 0), MX4_advance, zF γ 0 0 (some (.int R.1)) (zpm γ h b R.2)) 0 0 20 [some (.ref b), some (.int (nI N)), some (.int (nI k))] [] (zpm γ h b (nAs μ k)) := by
    intro N hN hf m
    induction m with
    | zero =>
      intro k hk
      have hkN : k = N := by omega
      subst hkN
      refine go_iload_n dX4_advance_20 rfl ?_
      refine go_iload_n dX4_advance_21 rfl ?_
      refine go_icmp_ge (tgt := 35) dX4_advance_22 (by decide) (fun c22 => ?_) (fun c22 => absurd (Int32.le_refl _) c22)
      refine go_aload_n dX4_advance_35 rfl ?_
      refine go_getf dX4_advance_36 flX4_83 (by first | exact zpm_is γ h b _ 0 (by decide) | exact zpm_is γ h b _ 1 (by decide)) rfl ?_
      refine go_iret dX4_advance_39 rfl ?_ ?_ (Nat.zero_le _) (Nat.zero_le _)
      · rw [← hf]
      · rw [← hf]
    | succ m ih =>
      intro k hk
      refine go_iload_n dX4_advance_20 rfl ?_
      refine go_iload_n dX4_advance_21 rfl ?_
      refine go_icmp_ge (tgt := 35) dX4_advance_22 (by decide) (fun c22 => absurd c22 (nI_ge (by omega) (by omega))) (fun c22 => ?_)
      refine go_aload_n dX4_advance_25 rfl ?_
      refine go_callVv (ci := 4) dX4_advance_26 moX4_second cvX4_106 ⟨rfl, rfl⟩ (kX4_second_ γ l _ _ b (nAs μ k) (zpm_is γ h b _) (nAs_ok hok k) _ rfl) (by first | exact zpm_is γ h b _ 0 (by decide) | exact zpm_is γ h b _ 1 (by decide)) rfl rfl (Nat.le_refl _) (Nat.zero_le _) (Nat.zero_le _) (Nat.le_of_ble_eq_true rfl) ?_
      refine go_h (zpm_zpm _ _ _ _ _) ?_
      refine go_iinc dX4_advance_29 rfl (nI_1 k) (Nat.le_of_ble_eq_true rfl) ?_
      refine go_goto (tgt := 20) dX4_advance_32 (by decide) ?_
      exact ih (k + 1) (by omega)
  refine go_iload_n dX4_advance_0 rfl ?_
  refine go_iconst (v := 1) dX4_advance_1 (by decide) ?_
  refine go_bipush (v := 60) dX4_advance_2 (by decide) ?_
  refine go_callSi dX4_advance_4 moX4_in csX4_30 (kX4_in γ l _ _ _ _ _) rfl rfl (Nat.le_refl _) (Nat.zero_le _) (Nat.zero_le _) (Nat.le_of_ble_eq_true rfl) ?_
  refine go_if_ne (tgt := 13) dX4_advance_7 (by decide) (fun c7 => ?_) (fun c7 => ?_)
  · replace c7 := zi_nz.mp c7
    refine go_aload_n dX4_advance_13 rfl ?_
    refine go_iconst (v := 0) dX4_advance_14 (by decide) ?_
    refine go_putf dX4_advance_15 flX4_83 fnX4_4 (by first | exact hm 0 (by decide) | exact hm 1 (by decide) | exact zpm_is γ h b _ 0 (by decide) | exact zpm_is γ h b _ 1 (by decide)) rfl rfl (Nat.le_of_ble_eq_true rfl) ?_
    refine go_h (zmo_r5 (f := upd (μ 5) 0 0) hm rfl) ?_
    refine go_iconst (v := 0) dX4_advance_18 (by decide) ?_
    refine go_istore_n dX4_advance_19 (Nat.le_of_ble_eq_true rfl) ?_
    have h0 := loop (ix v) (zn60 c7).2 (by rw [← hR, nAdv, if_pos c7]) (ix v) 0 (Nat.zero_add _)
    rw [← (zn60 c7).1] at h0
    exact go_vl h0 ⟨rfl, rfl, rfl, trivial⟩
  · replace c7 := zi_0.mp c7
    refine go_bipush (v := (-2)) dX4_advance_10 (by decide) ?_
    refine go_iret dX4_advance_12 rfl ?_ ?_ (Nat.zero_le _) (Nat.zero_le _)
    · rw [← hR]; simp [nAdv, c7]
    · rw [← hR]; simp [nAdv, c7]; exact zpm_id hm
