/-! PoeSwitchModel: connect, disconnect, setRequest, events -/
theorem zmo_00 {γ : zG} {h : zH} {b : Nat} {μ : zS} {f g : Nat → Int32} : zu (zpm γ h b (upR μ 0 f)) (b + 1) (zai γ 149 g) = zpm γ h b (upR μ 0 g) := by rw [zmo_0, upR_upR]
set_option maxRecDepth 4000 in
theorem kX4_connect_ (γ : zG) (l : Launch) (n : Nat) (h : zH) (b : Nat) (μ : zS) (hm : zMd γ h b μ) (p r c i w : Int32) (R : Int32 × (Nat → Int32)) (hR : nCon (μ 0) p r c i w = R) : Con γ l (n + 3) 0 0 MX4_connect [.ref b, .int p, .int r, .int c, .int i, .int w] h (some (.int R.1)) (zpm γ h b (upR μ 0 R.2)) := by
  refine Con.go (by decide +kernel) (Nat.le_of_ble_eq_true rfl) ⟨rfl, rfl, rfl, rfl, rfl, rfl, trivial⟩ ?_
  show Go _ 0 0 0 [some (.ref b), some (.int p), some (.int r), some (.int c), some (.int i), some (.int w), none] [] _
  refine go_iload_n dX4_connect_0 rfl ?_
  refine go_callSi dX4_connect_1 moX4_isPort csX4_48 (kX4_isPort γ l _ _ _) rfl rfl (Nat.le_refl _) (Nat.zero_le _) (Nat.zero_le _) (Nat.le_of_ble_eq_true rfl) ?_
  refine go_if_ne (tgt := 9) dX4_connect_4 (by decide) (fun c4 => ?_) (fun c4 => ?_)
  · replace c4 := zi_nz.mp c4
    refine go_iload_n dX4_connect_9 rfl ?_
    refine go_iconst (v := 1) dX4_connect_10 (by decide) ?_
    refine go_sipush (v := 999) dX4_connect_11 (by decide) ?_
    refine go_callSi dX4_connect_14 moX4_in csX4_30 (kX4_in γ l _ _ _ _ _) rfl rfl (Nat.le_refl _) (Nat.zero_le _) (Nat.zero_le _) (Nat.le_of_ble_eq_true rfl) ?_
    refine go_if_eq (tgt := 53) dX4_connect_17 (by decide) (fun c17 => ?_) (fun c17 => ?_)
    · replace c17 := zi_0.mp c17
      refine go_bipush (v := (-2)) dX4_connect_53 (by decide) ?_
      refine go_iret dX4_connect_55 rfl ?_ ?_ (Nat.zero_le _) (Nat.zero_le _)
      · rw [← hR]; simp [nCon, aP, nCo, gM, c4, c17]
      · first | (rw [← hR]; simp [nCon, aP, nCo, gM, c4, c17]; rw [upR_id]; exact zpm_id hm) | (rw [← hR]; simp only [nCon, aP, c4, c17, if_true, if_false, and_self, not_false_eq_true, not_true_eq_false]; done) | (rw [← hR]; simp [nCon, aP, nCo, gM, c4, c17]; rfl)
    · replace c17 := zi_nz.mp c17
      refine go_iload_n dX4_connect_20 rfl ?_
      refine go_iconst (v := 0) dX4_connect_21 (by decide) ?_
      refine go_bipush (v := 99) dX4_connect_22 (by decide) ?_
      refine go_callSi dX4_connect_24 moX4_in csX4_30 (kX4_in γ l _ _ _ _ _) rfl rfl (Nat.le_refl _) (Nat.zero_le _) (Nat.zero_le _) (Nat.le_of_ble_eq_true rfl) ?_
      refine go_if_eq (tgt := 53) dX4_connect_27 (by decide) (fun c27 => ?_) (fun c27 => ?_)
      · replace c27 := zi_0.mp c27
        refine go_bipush (v := (-2)) dX4_connect_53 (by decide) ?_
        refine go_iret dX4_connect_55 rfl ?_ ?_ (Nat.zero_le _) (Nat.zero_le _)
        · rw [← hR]; simp [nCon, aP, nCo, gM, c4, c17, c27]
        · first | (rw [← hR]; simp [nCon, aP, nCo, gM, c4, c17, c27]; rw [upR_id]; exact zpm_id hm) | (rw [← hR]; simp only [nCon, aP, c4, c17, c27, if_true, if_false, and_self, not_false_eq_true, not_true_eq_false]; done) | (rw [← hR]; simp [nCon, aP, nCo, gM, c4, c17, c27]; rfl)
      · replace c27 := zi_nz.mp c27
        refine go_iload dX4_connect_30 rfl ?_
        refine go_iconst (v := 0) dX4_connect_32 (by decide) ?_
        refine go_bipush (v := 60) dX4_connect_33 (by decide) ?_
        refine go_callSi dX4_connect_35 moX4_in csX4_30 (kX4_in γ l _ _ _ _ _) rfl rfl (Nat.le_refl _) (Nat.zero_le _) (Nat.zero_le _) (Nat.le_of_ble_eq_true rfl) ?_
        refine go_if_eq (tgt := 53) dX4_connect_38 (by decide) (fun c38 => ?_) (fun c38 => ?_)
        · replace c38 := zi_0.mp c38
          refine go_bipush (v := (-2)) dX4_connect_53 (by decide) ?_
          refine go_iret dX4_connect_55 rfl ?_ ?_ (Nat.zero_le _) (Nat.zero_le _)
          · rw [← hR]; simp [nCon, aP, nCo, gM, c4, c17, c27, c38]
          · first | (rw [← hR]; simp [nCon, aP, nCo, gM, c4, c17, c27, c38]; rw [upR_id]; exact zpm_id hm) | (rw [← hR]; simp only [nCon, aP, c4, c17, c27, c38, if_true, if_false, and_self, not_false_eq_true, not_true_eq_false]; done) | (rw [← hR]; simp [nCon, aP, nCo, gM, c4, c17, c27, c38]; rfl)
        · replace c38 := zi_nz.mp c38
          refine go_iload dX4_connect_41 rfl ?_
          refine go_iconst (v := 0) dX4_connect_43 (by decide) ?_
          refine go_sipush (v := 999) dX4_connect_44 (by decide) ?_
          refine go_callSi dX4_connect_47 moX4_in csX4_30 (kX4_in γ l _ _ _ _ _) rfl rfl (Nat.le_refl _) (Nat.zero_le _) (Nat.zero_le _) (Nat.le_of_ble_eq_true rfl) ?_
          refine go_if_ne (tgt := 56) dX4_connect_50 (by decide) (fun c50 => ?_) (fun c50 => ?_)
          · replace c50 := zi_nz.mp c50
            refine go_aload_n dX4_connect_56 rfl ?_
            refine go_iload_n dX4_connect_57 rfl ?_
            refine go_callVi (ci := 4) dX4_connect_58 moX4_isConnected cvX4_55 ⟨rfl, rfl⟩ (kX4_isConnected γ l _ _ b μ hm _ (ix p) (zn8 c4).1 (zn8 c4).2) (by first | exact hm 0 (by decide) | exact hm 1 (by decide) | exact zpm_is γ h b _ 0 (by decide) | exact zpm_is γ h b _ 1 (by decide)) rfl rfl (Nat.le_refl _) (Nat.zero_le _) (Nat.zero_le _) (Nat.le_of_ble_eq_true rfl) ?_
            refine go_if_eq (tgt := 67) dX4_connect_61 (by decide) (fun c61 => ?_) (fun c61 => ?_)
            · replace c61 := zi_0.mp c61
              refine go_iload dX4_connect_67 rfl ?_
              refine go_callSi dX4_connect_69 moX4_classBy csX4_58 (kX4_classBy γ l _ _ _) rfl rfl (Nat.le_refl _) (Nat.zero_le _) (Nat.zero_le _) (Nat.le_of_ble_eq_true rfl) ?_
              refine go_istore dX4_connect_72 (Nat.le_of_ble_eq_true rfl) ?_
              refine go_aload_n dX4_connect_74 rfl ?_
              refine go_getf dX4_connect_75 flX4_7 (by first | exact hm 0 (by decide) | exact hm 1 (by decide) | exact zpm_is γ h b _ 0 (by decide) | exact zpm_is γ h b _ 1 (by decide)) rfl ?_
              refine go_iload_n dX4_connect_78 rfl ?_
              refine go_iconst (v := 2) dX4_connect_79 (by decide) ?_
              refine go_callSi dX4_connect_80 moX4_at csX4_26 (kX4_at γ l _ _ _ _ (ix p) 2 (zn8 c4).1 rfl) rfl rfl (Nat.le_refl _) (Nat.zero_le _) (Nat.zero_le _) (Nat.le_of_ble_eq_true rfl) ?_
              refine go_iconst (v := 1) dX4_connect_83 (by decide) ?_
              refine go_iast dX4_connect_84 (by first | exact hm 0 (by decide) | exact hm 1 (by decide) | exact zpm_is γ h b _ 0 (by decide) | exact zpm_is γ h b _ 1 (by decide)) (zix (n := 149) rfl (mi_lt (zn8 c4).2 (by decide)) (by decide)).1 (zix (n := 149) rfl (mi_lt (zn8 c4).2 (by decide)) (by decide)).2 ?_
              refine go_h (zmo_r0 hm) ?_
              refine go_aload_n dX4_connect_85 rfl ?_
              refine go_getf dX4_connect_86 flX4_7 (by first | exact hm 0 (by decide) | exact hm 1 (by decide) | exact zpm_is γ h b _ 0 (by decide) | exact zpm_is γ h b _ 1 (by decide)) rfl ?_
              refine go_iload_n dX4_connect_89 rfl ?_
              refine go_iconst (v := 3) dX4_connect_90 (by decide) ?_
              refine go_callSi dX4_connect_91 moX4_at csX4_26 (kX4_at γ l _ _ _ _ (ix p) 3 (zn8 c4).1 rfl) rfl rfl (Nat.le_refl _) (Nat.zero_le _) (Nat.zero_le _) (Nat.le_of_ble_eq_true rfl) ?_
              refine go_iload_n dX4_connect_94 rfl ?_
              refine go_iast dX4_connect_95 (by first | exact hm 0 (by decide) | exact hm 1 (by decide) | exact zpm_is γ h b _ 0 (by decide) | exact zpm_is γ h b _ 1 (by decide)) (zix (n := 149) rfl (mi_lt (zn8 c4).2 (by decide)) (by decide)).1 (zix (n := 149) rfl (mi_lt (zn8 c4).2 (by decide)) (by decide)).2 ?_
              refine go_h zmo_00 ?_
              refine go_aload_n dX4_connect_96 rfl ?_
              refine go_getf dX4_connect_97 flX4_7 (by first | exact hm 0 (by decide) | exact hm 1 (by decide) | exact zpm_is γ h b _ 0 (by decide) | exact zpm_is γ h b _ 1 (by decide)) rfl ?_
              refine go_iload_n dX4_connect_100 rfl ?_
              refine go_iconst (v := 4) dX4_connect_101 (by decide) ?_
              refine go_callSi dX4_connect_102 moX4_at csX4_26 (kX4_at γ l _ _ _ _ (ix p) 4 (zn8 c4).1 rfl) rfl rfl (Nat.le_refl _) (Nat.zero_le _) (Nat.zero_le _) (Nat.le_of_ble_eq_true rfl) ?_
              refine go_iload_n dX4_connect_105 rfl ?_
              refine go_iast dX4_connect_106 (by first | exact hm 0 (by decide) | exact hm 1 (by decide) | exact zpm_is γ h b _ 0 (by decide) | exact zpm_is γ h b _ 1 (by decide)) (zix (n := 149) rfl (mi_lt (zn8 c4).2 (by decide)) (by decide)).1 (zix (n := 149) rfl (mi_lt (zn8 c4).2 (by decide)) (by decide)).2 ?_
              refine go_h zmo_00 ?_
              refine go_aload_n dX4_connect_107 rfl ?_
              refine go_getf dX4_connect_108 flX4_7 (by first | exact hm 0 (by decide) | exact hm 1 (by decide) | exact zpm_is γ h b _ 0 (by decide) | exact zpm_is γ h b _ 1 (by decide)) rfl ?_
              refine go_iload_n dX4_connect_111 rfl ?_
              refine go_iconst (v := 5) dX4_connect_112 (by decide) ?_
              refine go_callSi dX4_connect_113 moX4_at csX4_26 (kX4_at γ l _ _ _ _ (ix p) 5 (zn8 c4).1 rfl) rfl rfl (Nat.le_refl _) (Nat.zero_le _) (Nat.zero_le _) (Nat.le_of_ble_eq_true rfl) ?_
              refine go_iload dX4_connect_116 rfl ?_
              refine go_iast dX4_connect_118 (by first | exact hm 0 (by decide) | exact hm 1 (by decide) | exact zpm_is γ h b _ 0 (by decide) | exact zpm_is γ h b _ 1 (by decide)) (zix (n := 149) rfl (mi_lt (zn8 c4).2 (by decide)) (by decide)).1 (zix (n := 149) rfl (mi_lt (zn8 c4).2 (by decide)) (by decide)).2 ?_
              refine go_h zmo_00 ?_
              refine go_aload_n dX4_connect_119 rfl ?_
              refine go_getf dX4_connect_120 flX4_7 (by first | exact hm 0 (by decide) | exact hm 1 (by decide) | exact zpm_is γ h b _ 0 (by decide) | exact zpm_is γ h b _ 1 (by decide)) rfl ?_
              refine go_iload_n dX4_connect_123 rfl ?_
              refine go_bipush (v := 6) dX4_connect_124 (by decide) ?_
              refine go_callSi dX4_connect_126 moX4_at csX4_26 (kX4_at γ l _ _ _ _ (ix p) 6 (zn8 c4).1 rfl) rfl rfl (Nat.le_refl _) (Nat.zero_le _) (Nat.zero_le _) (Nat.le_of_ble_eq_true rfl) ?_
              refine go_iload dX4_connect_129 rfl ?_
              refine go_iast dX4_connect_131 (by first | exact hm 0 (by decide) | exact hm 1 (by decide) | exact zpm_is γ h b _ 0 (by decide) | exact zpm_is γ h b _ 1 (by decide)) (zix (n := 149) rfl (mi_lt (zn8 c4).2 (by decide)) (by decide)).1 (zix (n := 149) rfl (mi_lt (zn8 c4).2 (by decide)) (by decide)).2 ?_
              refine go_h zmo_00 ?_
              refine go_aload_n dX4_connect_132 rfl ?_
              refine go_getf dX4_connect_133 flX4_7 (by first | exact hm 0 (by decide) | exact hm 1 (by decide) | exact zpm_is γ h b _ 0 (by decide) | exact zpm_is γ h b _ 1 (by decide)) rfl ?_
              refine go_iload_n dX4_connect_136 rfl ?_
              refine go_bipush (v := 7) dX4_connect_137 (by decide) ?_
              refine go_callSi dX4_connect_139 moX4_at csX4_26 (kX4_at γ l _ _ _ _ (ix p) 7 (zn8 c4).1 rfl) rfl rfl (Nat.le_refl _) (Nat.zero_le _) (Nat.zero_le _) (Nat.le_of_ble_eq_true rfl) ?_
              refine go_iload dX4_connect_142 rfl ?_
              refine go_if_ge (tgt := 151) dX4_connect_144 (by decide) (fun c144 => ?_) (fun c144 => ?_)
              · refine go_iload dX4_connect_151 rfl ?_
                refine go_callSi dX4_connect_153 moX4_maximumOf csX4_62 (kX4_maximumOf γ l _ _ _) rfl rfl (Nat.le_refl _) (Nat.zero_le _) (Nat.zero_le _) (Nat.le_of_ble_eq_true rfl) ?_
                refine go_iast dX4_connect_156 (by first | exact hm 0 (by decide) | exact hm 1 (by decide) | exact zpm_is γ h b _ 0 (by decide) | exact zpm_is γ h b _ 1 (by decide)) (zix (n := 149) rfl (mi_lt (zn8 c4).2 (by decide)) (by decide)).1 (zix (n := 149) rfl (mi_lt (zn8 c4).2 (by decide)) (by decide)).2 ?_
                refine go_h zmo_00 ?_
                refine go_iload dX4_connect_157 rfl ?_
                refine go_iret dX4_connect_159 rfl ?_ ?_ (Nat.zero_le _) (Nat.zero_le _)
                · rw [← hR]; simp [nCon, aP, nCo, gM, c4, c17, c27, c38, c50, c61, c144]
                · first | (rw [← hR]; simp [nCon, aP, nCo, gM, c4, c17, c27, c38, c50, c61, c144]; rw [upR_id]; exact zpm_id hm) | (rw [← hR]; simp only [nCon, aP, c4, c17, c27, c38, c50, c61, c144, if_true, if_false, and_self, not_false_eq_true, not_true_eq_false]; done) | (rw [← hR]; simp [nCon, aP, nCo, gM, c4, c17, c27, c38, c50, c61, c144]; rfl)
              · refine go_iconst (v := 0) dX4_connect_147 (by decide) ?_
                refine go_goto (tgt := 156) dX4_connect_148 (by decide) ?_
                refine go_iast dX4_connect_156 (by first | exact hm 0 (by decide) | exact hm 1 (by decide) | exact zpm_is γ h b _ 0 (by decide) | exact zpm_is γ h b _ 1 (by decide)) (zix (n := 149) rfl (mi_lt (zn8 c4).2 (by decide)) (by decide)).1 (zix (n := 149) rfl (mi_lt (zn8 c4).2 (by decide)) (by decide)).2 ?_
                refine go_h zmo_00 ?_
                refine go_iload dX4_connect_157 rfl ?_
                refine go_iret dX4_connect_159 rfl ?_ ?_ (Nat.zero_le _) (Nat.zero_le _)
                · rw [← hR]; simp [nCon, aP, nCo, gM, c4, c17, c27, c38, c50, c61, c144]
                · first | (rw [← hR]; simp [nCon, aP, nCo, gM, c4, c17, c27, c38, c50, c61, c144]; rw [upR_id]; exact zpm_id hm) | (rw [← hR]; simp only [nCon, aP, c4, c17, c27, c38, c50, c61, c144, if_true, if_false, and_self, not_false_eq_true, not_true_eq_false]; done) | (rw [← hR]; simp [nCon, aP, nCo, gM, c4, c17, c27, c38, c50, c61, c144]; rfl)
            · replace c61 := zi_nz.mp c61
              refine go_bipush (v := (-3)) dX4_connect_64 (by decide) ?_
              refine go_iret dX4_connect_66 rfl ?_ ?_ (Nat.zero_le _) (Nat.zero_le _)
              · rw [← hR]; simp [nCon, aP, nCo, gM, c4, c17, c27, c38, c50, c61]
              · first | (rw [← hR]; simp [nCon, aP, nCo, gM, c4, c17, c27, c38, c50, c61]; rw [upR_id]; exact zpm_id hm) | (rw [← hR]; simp only [nCon, aP, c4, c17, c27, c38, c50, c61, if_true, if_false, and_self, not_false_eq_true, not_true_eq_false]; done) | (rw [← hR]; simp [nCon, aP, nCo, gM, c4, c17, c27, c38, c50, c61]; rfl)
          · replace c50 := zi_0.mp c50
            refine go_bipush (v := (-2)) dX4_connect_53 (by decide) ?_
            refine go_iret dX4_connect_55 rfl ?_ ?_ (Nat.zero_le _) (Nat.zero_le _)
            · rw [← hR]; simp [nCon, aP, nCo, gM, c4, c17, c27, c38, c50]
            · first | (rw [← hR]; simp [nCon, aP, nCo, gM, c4, c17, c27, c38, c50]; rw [upR_id]; exact zpm_id hm) | (rw [← hR]; simp only [nCon, aP, c4, c17, c27, c38, c50, if_true, if_false, and_self, not_false_eq_true, not_true_eq_false]; done) | (rw [← hR]; simp [nCon, aP, nCo, gM, c4, c17, c27, c38, c50]; rfl)
  · replace c4 := zi_0.mp c4
    refine go_iconst (v := (-1)) dX4_connect_7 (by decide) ?_
    refine go_iret dX4_connect_8 rfl ?_ ?_ (Nat.zero_le _) (Nat.zero_le _)
    · rw [← hR]; simp [nCon, aP, nCo, gM, c4]
    · first | (rw [← hR]; simp [nCon, aP, nCo, gM, c4]; rw [upR_id]; exact zpm_id hm) | (rw [← hR]; simp only [nCon, aP, c4, if_true, if_false, and_self, not_false_eq_true, not_true_eq_false]; done) | (rw [← hR]; simp [nCon, aP, nCo, gM, c4]; rfl)
theorem zgt7 {t m : Nat} (hk : t + (m + 1) = 6) : ¬ (7 : Int32) < nI (2 + t) := by
  have h1 : (7 : Int32) = nI 7 := rfl
  rw [h1]
  exact nI_nlt (by omega) (by omega)
set_option maxRecDepth 4000 in
theorem kX4_disconnect_ (γ : zG) (l : Launch) (n : Nat) (h : zH) (b : Nat) (μ : zS) (hm : zMd γ h b μ) (p : Int32) (R : Int32 × (Nat → Int32)) (hR : nDis (μ 0) p = R) : Con γ l (n + 3) 0 0 MX4_disconnect [.ref b, .int p] h (some (.int R.1)) (zpm γ h b (upR μ 0 R.2)) := by
  refine Con.go (by decide +kernel) (Nat.le_of_ble_eq_true rfl) ⟨rfl, rfl, trivial⟩ ?_
  show Go _ 0 0 0 [some (.ref b), some (.int p), none, none] [] _
  have mid : aP p → nCo (μ 0) (ix p) → ∀ v : Int32, v = zi (0 < gM (μ 0) (ix p) 8) → Go (γ, l, n + 3, (0, 0), MX4_disconnect, zF γ 0 0 (some (.int R.1)) (zpm γ h b (upR μ 0 R.2))) 0 0 33 [some (.ref b), some (.int p), none, none] [.int v] h := by
    intro c4 c14 v hv
    have loop : ∀ (m t : Nat), t + m = 6 → Go (γ, l, n + 3, (0, 0), MX4_disconnect, zF γ 0 0 (some (.int R.1)) (zpm γ h b (upR μ 0 R.2))) 0 0 41 [some (.ref b), some (.int p), some (.int v), some (.int (nI (2 + t)))] [] (zpm γ h b (upR μ 0 (nDz (nLose (μ 0) (ix p)) (ix p) t))) := by
      intro m
      induction m with
      | zero =>
        intro t hk
        have hkN : t = 6 := by omega
        subst hkN
        refine go_iload_n dX4_disconnect_41 rfl ?_
        refine go_bipush (v := 7) dX4_disconnect_42 (by decide) ?_
        refine go_icmp_gt (tgt := 64) dX4_disconnect_44 (by decide) (fun c44 => ?_) (fun c44 => absurd (by decide) c44)
        refine go_aload_n dX4_disconnect_64 rfl ?_
        refine go_getf dX4_disconnect_65 flX4_7 (by first | exact hm 0 (by decide) | exact hm 1 (by decide) | exact zpm_is γ h b _ 0 (by decide) | exact zpm_is γ h b _ 1 (by decide)) rfl ?_
        refine go_iload_n dX4_disconnect_68 rfl ?_
        refine go_bipush (v := 10) dX4_disconnect_69 (by decide) ?_
        refine go_callSi dX4_disconnect_71 moX4_at csX4_26 (kX4_at γ l _ _ _ _ (ix p) 10 (zn8 c4).1 rfl) rfl rfl (Nat.le_refl _) (Nat.zero_le _) (Nat.zero_le _) (Nat.le_of_ble_eq_true rfl) ?_
        refine go_iconst (v := 0) dX4_disconnect_74 (by decide) ?_
        refine go_iast dX4_disconnect_75 (by first | exact hm 0 (by decide) | exact hm 1 (by decide) | exact zpm_is γ h b _ 0 (by decide) | exact zpm_is γ h b _ 1 (by decide)) (zix (n := 149) rfl (mi_lt (zn8 c4).2 (by decide)) (by decide)).1 (zix (n := 149) rfl (mi_lt (zn8 c4).2 (by decide)) (by decide)).2 ?_
        refine go_h zmo_00 ?_
        refine go_iload_n dX4_disconnect_76 rfl ?_
        refine go_iret dX4_disconnect_77 rfl ?_ ?_ (Nat.zero_le _) (Nat.zero_le _)
        · rw [← hR, nDis, if_pos c4, if_pos c14, hv]
        · (rw [← hR, nDis, if_pos c4, if_pos c14]; rfl)
      | succ m ih =>
        intro t hk
        have hlt : t < 6 := by omega
        refine go_iload_n dX4_disconnect_41 rfl ?_
        refine go_bipush (v := 7) dX4_disconnect_42 (by decide) ?_
        refine go_icmp_gt (tgt := 64) dX4_disconnect_44 (by decide) (fun c44 => absurd c44 (zgt7 hk)) (fun c44 => ?_)
        refine go_aload_n dX4_disconnect_47 rfl ?_
        refine go_getf dX4_disconnect_48 flX4_7 (by first | exact hm 0 (by decide) | exact hm 1 (by decide) | exact zpm_is γ h b _ 0 (by decide) | exact zpm_is γ h b _ 1 (by decide)) rfl ?_
        refine go_iload_n dX4_disconnect_51 rfl ?_
        refine go_iload_n dX4_disconnect_52 rfl ?_
        refine go_callSi dX4_disconnect_53 moX4_at csX4_26 (kX4_at γ l _ _ _ _ (ix p) (2 + t) (zn8 c4).1 rfl) rfl rfl (Nat.le_refl _) (Nat.zero_le _) (Nat.zero_le _) (Nat.le_of_ble_eq_true rfl) ?_
        refine go_iconst (v := 0) dX4_disconnect_56 (by decide) ?_
        refine go_iast dX4_disconnect_57 (by first | exact hm 0 (by decide) | exact hm 1 (by decide) | exact zpm_is γ h b _ 0 (by decide) | exact zpm_is γ h b _ 1 (by decide)) (zix (n := 149) rfl (mi_lt (zn8 c4).2 (show 2 + t ≤ 10 by omega)) (by decide)).1 (zix (n := 149) rfl (mi_lt (zn8 c4).2 (show 2 + t ≤ 10 by omega)) (by decide)).2 ?_
        refine go_h zmo_00 ?_
        refine go_iinc dX4_disconnect_58 rfl (nI_1 (2 + t)) (Nat.le_of_ble_eq_true rfl) ?_
        refine go_goto (tgt := 41) dX4_disconnect_61 (by decide) ?_
        exact ih (t + 1) (by omega)
    refine go_istore_n dX4_disconnect_33 (Nat.le_of_ble_eq_true rfl) ?_
    refine go_aload_n dX4_disconnect_34 rfl ?_
    refine go_iload_n dX4_disconnect_35 rfl ?_
    refine go_callVv (ci := 4) dX4_disconnect_36 moX4_losePower cvX4_51 ⟨rfl, rfl⟩ (kX4_losePower γ l _ _ b μ hm _ (ix p) (zn8 c4).1 (zn8 c4).2) (by first | exact hm 0 (by decide) | exact hm 1 (by decide) | exact zpm_is γ h b _ 0 (by decide) | exact zpm_is γ h b _ 1 (by decide)) rfl rfl (Nat.le_refl _) (Nat.zero_le _) (Nat.zero_le _) (Nat.le_of_ble_eq_true rfl) ?_
    refine go_iconst (v := 2) dX4_disconnect_39 (by decide) ?_
    refine go_istore_n dX4_disconnect_40 (Nat.le_of_ble_eq_true rfl) ?_
    exact go_vl (loop 6 0 rfl) ⟨rfl, rfl, rfl, rfl, trivial⟩
  refine go_iload_n dX4_disconnect_0 rfl ?_
  refine go_callSi dX4_disconnect_1 moX4_isPort csX4_48 (kX4_isPort γ l _ _ _) rfl rfl (Nat.le_refl _) (Nat.zero_le _) (Nat.zero_le _) (Nat.le_of_ble_eq_true rfl) ?_
  refine go_if_ne (tgt := 9) dX4_disconnect_4 (by decide) (fun c4 => ?_) (fun c4 => ?_)
  · replace c4 := zi_nz.mp c4
    refine go_aload_n dX4_disconnect_9 rfl ?_
    refine go_iload_n dX4_disconnect_10 rfl ?_
    refine go_callVi (ci := 4) dX4_disconnect_11 moX4_isConnected cvX4_55 ⟨rfl, rfl⟩ (kX4_isConnected γ l _ _ b μ hm _ (ix p) (zn8 c4).1 (zn8 c4).2) (by first | exact hm 0 (by decide) | exact hm 1 (by decide) | exact zpm_is γ h b _ 0 (by decide) | exact zpm_is γ h b _ 1 (by decide)) rfl rfl (Nat.le_refl _) (Nat.zero_le _) (Nat.zero_le _) (Nat.le_of_ble_eq_true rfl) ?_
    refine go_if_ne (tgt := 20) dX4_disconnect_14 (by decide) (fun c14 => ?_) (fun c14 => ?_)
    · replace c14 := zi_nz.mp c14
      refine go_aload_n dX4_disconnect_20 rfl ?_
      refine go_iload_n dX4_disconnect_21 rfl ?_
      refine go_callVi (ci := 4) dX4_disconnect_22 moX4_isPowered cvX4_65 ⟨rfl, rfl⟩ (kX4_isPowered γ l _ _ b μ hm _ (ix p) (zn8 c4).1 (zn8 c4).2) (by first | exact hm 0 (by decide) | exact hm 1 (by decide) | exact zpm_is γ h b _ 0 (by decide) | exact zpm_is γ h b _ 1 (by decide)) rfl rfl (Nat.le_refl _) (Nat.zero_le _) (Nat.zero_le _) (Nat.le_of_ble_eq_true rfl) ?_
      refine go_if_eq (tgt := 32) dX4_disconnect_25 (by decide) (fun c25 => ?_) (fun c25 => ?_)
      · replace c25 := zi_0.mp c25
        refine go_iconst (v := 0) dX4_disconnect_32 (by decide) ?_
        exact mid c4 c14 0 (zi_f c25).symm
      · replace c25 := zi_nz.mp c25
        refine go_iconst (v := 1) dX4_disconnect_28 (by decide) ?_
        refine go_goto (tgt := 33) dX4_disconnect_29 (by decide) ?_
        exact mid c4 c14 1 (zi_t c25).symm
    · replace c14 := zi_0.mp c14
      refine go_bipush (v := (-3)) dX4_disconnect_17 (by decide) ?_
      refine go_iret dX4_disconnect_19 rfl ?_ ?_ (Nat.zero_le _) (Nat.zero_le _)
      · rw [← hR]; simp [nDis, aP, nCo, gM, c4, c14]
      · (rw [← hR]; simp [nDis, aP, nCo, gM, c4, c14]; rw [upR_id]; exact zpm_id hm)
  · replace c4 := zi_0.mp c4
    refine go_iconst (v := (-1)) dX4_disconnect_7 (by decide) ?_
    refine go_iret dX4_disconnect_8 rfl ?_ ?_ (Nat.zero_le _) (Nat.zero_le _)
    · rw [← hR]; simp [nDis, aP, nCo, gM, c4]
    · (rw [← hR]; simp [nDis, aP, nCo, gM, c4]; rw [upR_id]; exact zpm_id hm)
set_option maxRecDepth 4000 in
theorem kX4_setRequest_ (γ : zG) (l : Launch) (n : Nat) (h : zH) (b : Nat) (μ : zS) (hm : zMd γ h b μ) (p w : Int32) (R : Int32 × (Nat → Int32)) (hR : nReq (μ 0) p w = R) : Con γ l (n + 4) 0 0 MX4_setRequest [.ref b, .int p, .int w] h (some (.int R.1)) (zpm γ h b (upR μ 0 R.2)) := by
  refine Con.go (by decide +kernel) (Nat.le_of_ble_eq_true rfl) ⟨rfl, rfl, rfl, trivial⟩ ?_
  show Go _ 0 0 0 [some (.ref b), some (.int p), some (.int w), none] [] _
  refine go_iload_n dX4_setRequest_0 rfl ?_
  refine go_callSi dX4_setRequest_1 moX4_isPort csX4_48 (kX4_isPort γ l _ _ _) rfl rfl (Nat.le_refl _) (Nat.zero_le _) (Nat.zero_le _) (Nat.le_of_ble_eq_true rfl) ?_
  refine go_if_ne (tgt := 9) dX4_setRequest_4 (by decide) (fun c4 => ?_) (fun c4 => ?_)
  · replace c4 := zi_nz.mp c4
    refine go_aload_n dX4_setRequest_9 rfl ?_
    refine go_iload_n dX4_setRequest_10 rfl ?_
    refine go_callVi (ci := 4) dX4_setRequest_11 moX4_classOf cvX4_68 ⟨rfl, rfl⟩ (kX4_classOf γ l _ _ b μ hm _ (ix p) (zn8 c4).1 (zn8 c4).2) (by first | exact hm 0 (by decide) | exact hm 1 (by decide) | exact zpm_is γ h b _ 0 (by decide) | exact zpm_is γ h b _ 1 (by decide)) rfl rfl (Nat.le_refl _) (Nat.zero_le _) (Nat.zero_le _) (Nat.le_of_ble_eq_true rfl) ?_
    refine go_if_ge (tgt := 20) dX4_setRequest_14 (by decide) (fun c14 => ?_) (fun c14 => ?_)
    · refine go_iload_n dX4_setRequest_20 rfl ?_
      refine go_iconst (v := 1) dX4_setRequest_21 (by decide) ?_
      refine go_aload_n dX4_setRequest_22 rfl ?_
      refine go_iload_n dX4_setRequest_23 rfl ?_
      refine go_callVi (ci := 4) dX4_setRequest_24 moX4_classOf cvX4_68 ⟨rfl, rfl⟩ (kX4_classOf γ l _ _ b μ hm _ (ix p) (zn8 c4).1 (zn8 c4).2) (by first | exact hm 0 (by decide) | exact hm 1 (by decide) | exact zpm_is γ h b _ 0 (by decide) | exact zpm_is γ h b _ 1 (by decide)) rfl rfl (Nat.le_refl _) (Nat.zero_le _) (Nat.zero_le _) (Nat.le_of_ble_eq_true rfl) ?_
      refine go_callSi dX4_setRequest_27 moX4_maximumOf csX4_62 (kX4_maximumOf γ l _ _ _) rfl rfl (Nat.le_refl _) (Nat.zero_le _) (Nat.zero_le _) (Nat.le_of_ble_eq_true rfl) ?_
      refine go_callSi dX4_setRequest_30 moX4_in csX4_30 (kX4_in γ l _ _ _ _ _) rfl rfl (Nat.le_refl _) (Nat.zero_le _) (Nat.zero_le _) (Nat.le_of_ble_eq_true rfl) ?_
      refine go_if_ne (tgt := 39) dX4_setRequest_33 (by decide) (fun c33 => ?_) (fun c33 => ?_)
      · replace c33 := zi_nz.mp c33
        refine go_iload_n dX4_setRequest_39 rfl ?_
        refine go_aload_n dX4_setRequest_40 rfl ?_
        refine go_iload_n dX4_setRequest_41 rfl ?_
        refine go_bipush (v := 8) dX4_setRequest_42 (by decide) ?_
        refine go_callVi (ci := 4) dX4_setRequest_44 moX4_of cvX4_45 ⟨rfl, rfl⟩ (kX4_of γ l _ _ b μ hm _ _ (ix p) 8 (zn8 c4).1 rfl (mi_lt (zn8 c4).2 (by decide))) (by first | exact hm 0 (by decide) | exact hm 1 (by decide) | exact zpm_is γ h b _ 0 (by decide) | exact zpm_is γ h b _ 1 (by decide)) rfl rfl (Nat.le_refl _) (Nat.zero_le _) (Nat.zero_le _) (Nat.le_of_ble_eq_true rfl) ?_
        refine go_isub dX4_setRequest_47 ?_
        refine go_istore_n dX4_setRequest_48 (Nat.le_of_ble_eq_true rfl) ?_
        refine go_aload_n dX4_setRequest_49 rfl ?_
        refine go_iload_n dX4_setRequest_50 rfl ?_
        refine go_callVi (ci := 4) dX4_setRequest_51 moX4_isPowered cvX4_65 ⟨rfl, rfl⟩ (kX4_isPowered γ l _ _ b μ hm _ (ix p) (zn8 c4).1 (zn8 c4).2) (by first | exact hm 0 (by decide) | exact hm 1 (by decide) | exact zpm_is γ h b _ 0 (by decide) | exact zpm_is γ h b _ 1 (by decide)) rfl rfl (Nat.le_refl _) (Nat.zero_le _) (Nat.zero_le _) (Nat.le_of_ble_eq_true rfl) ?_
        refine go_if_eq (tgt := 72) dX4_setRequest_54 (by decide) (fun c54 => ?_) (fun c54 => ?_)
        · replace c54 := zi_0.mp c54
          try simp only [zle] at c58
          try simp only [zle] at c66
          refine go_aload_n dX4_setRequest_72 rfl ?_
          refine go_iload_n dX4_setRequest_73 rfl ?_
          refine go_callVi (ci := 4) dX4_setRequest_74 moX4_isPowered cvX4_65 ⟨rfl, rfl⟩ (kX4_isPowered γ l _ _ b μ hm _ (ix p) (zn8 c4).1 (zn8 c4).2) (by first | exact hm 0 (by decide) | exact hm 1 (by decide) | exact zpm_is γ h b _ 0 (by decide) | exact zpm_is γ h b _ 1 (by decide)) rfl rfl (Nat.le_refl _) (Nat.zero_le _) (Nat.zero_le _) (Nat.le_of_ble_eq_true rfl) ?_
          refine go_if_eq (tgt := 92) dX4_setRequest_77 (by decide) (fun c77 => ?_) (fun c77 => ?_)
          · replace c77 := zi_0.mp c77
            refine go_aload_n dX4_setRequest_92 rfl ?_
            refine go_iload_n dX4_setRequest_93 rfl ?_
            refine go_bipush (v := 7) dX4_setRequest_94 (by decide) ?_
            refine go_callSi dX4_setRequest_96 moX4_at csX4_26 (kX4_at γ l _ _ _ _ (ix p) 7 (zn8 c4).1 rfl) rfl rfl (Nat.le_refl _) (Nat.zero_le _) (Nat.zero_le _) (Nat.le_of_ble_eq_true rfl) ?_
            refine go_iload_n dX4_setRequest_99 rfl ?_
            refine go_callVi (ci := 4) dX4_setRequest_100 moX4_set cvX4_38 ⟨rfl, rfl⟩ (kX4_set γ l _ _ b μ hm _ _ (mi (ix p) 7) rfl (mi_lt (zn8 c4).2 (by decide))) (by first | exact hm 0 (by decide) | exact hm 1 (by decide) | exact zpm_is γ h b _ 0 (by decide) | exact zpm_is γ h b _ 1 (by decide)) rfl rfl (Nat.le_refl _) (Nat.zero_le _) (Nat.zero_le _) (Nat.le_of_ble_eq_true rfl) ?_
            refine go_iret dX4_setRequest_103 rfl ?_ ?_ (Nat.zero_le _) (Nat.zero_le _)
            · first | (exact absurd c77 c54) | (exact absurd c54 c77) | (rw [← hR]; simp [nReq, aP, gM, c4, c14, c33, c54, c77]; done) | (rw [← hR]; simp [nReq, aP, gM, c4, c14, c33, c54, c77]; rfl)
            · first | (exact absurd c77 c54) | (exact absurd c54 c77) | (rw [← hR]; simp [nReq, aP, gM, c4, c14, c33, c54, c77]; rw [upR_id]; exact zpm_id hm) | (rw [← hR]; simp [nReq, aP, gM, c4, c14, c33, c54, c77]; rw [zpm_zpm, up2, upR_upR]; rfl) | (rw [← hR]; simp [nReq, aP, gM, c4, c14, c33, c54, c77]; rfl)
          · replace c77 := zi_nz.mp c77
            refine go_aload_n dX4_setRequest_80 rfl ?_
            refine go_getf dX4_setRequest_81 flX4_7 (by first | exact hm 0 (by decide) | exact hm 1 (by decide) | exact zpm_is γ h b _ 0 (by decide) | exact zpm_is γ h b _ 1 (by decide)) rfl ?_
            refine go_iload_n dX4_setRequest_84 rfl ?_
            refine go_bipush (v := 8) dX4_setRequest_85 (by decide) ?_
            refine go_callSi dX4_setRequest_87 moX4_at csX4_26 (kX4_at γ l _ _ _ _ (ix p) 8 (zn8 c4).1 rfl) rfl rfl (Nat.le_refl _) (Nat.zero_le _) (Nat.zero_le _) (Nat.le_of_ble_eq_true rfl) ?_
            refine go_iload_n dX4_setRequest_90 rfl ?_
            refine go_iast dX4_setRequest_91 (by first | exact hm 0 (by decide) | exact hm 1 (by decide) | exact zpm_is γ h b _ 0 (by decide) | exact zpm_is γ h b _ 1 (by decide)) (zix (n := 149) rfl (mi_lt (zn8 c4).2 (by decide)) (by decide)).1 (zix (n := 149) rfl (mi_lt (zn8 c4).2 (by decide)) (by decide)).2 ?_
            refine go_h (zmo_r0 hm) ?_
            refine go_aload_n dX4_setRequest_92 rfl ?_
            refine go_iload_n dX4_setRequest_93 rfl ?_
            refine go_bipush (v := 7) dX4_setRequest_94 (by decide) ?_
            refine go_callSi dX4_setRequest_96 moX4_at csX4_26 (kX4_at γ l _ _ _ _ (ix p) 7 (zn8 c4).1 rfl) rfl rfl (Nat.le_refl _) (Nat.zero_le _) (Nat.zero_le _) (Nat.le_of_ble_eq_true rfl) ?_
            refine go_iload_n dX4_setRequest_99 rfl ?_
            refine go_callVi (ci := 4) dX4_setRequest_100 moX4_set cvX4_38 ⟨rfl, rfl⟩ (kX4_set γ l _ _ b (upR μ 0 (upd (μ 0) (mi (ix p) 8) w)) (zpm_is γ h b _) _ _ (mi (ix p) 7) rfl (mi_lt (zn8 c4).2 (by decide))) (by first | exact hm 0 (by decide) | exact hm 1 (by decide) | exact zpm_is γ h b _ 0 (by decide) | exact zpm_is γ h b _ 1 (by decide)) rfl rfl (Nat.le_refl _) (Nat.zero_le _) (Nat.zero_le _) (Nat.le_of_ble_eq_true rfl) ?_
            refine go_iret dX4_setRequest_103 rfl ?_ ?_ (Nat.zero_le _) (Nat.zero_le _)
            · first | (exact absurd c77 c54) | (exact absurd c54 c77) | (rw [← hR]; simp [nReq, aP, gM, c4, c14, c33, c54, c77]; done) | (rw [← hR]; simp [nReq, aP, gM, c4, c14, c33, c54, c77]; rfl)
            · first | (exact absurd c77 c54) | (exact absurd c54 c77) | (rw [← hR]; simp [nReq, aP, gM, c4, c14, c33, c54, c77]; rw [upR_id]; exact zpm_id hm) | (rw [← hR]; simp [nReq, aP, gM, c4, c14, c33, c54, c77]; rw [zpm_zpm, up2, upR_upR]; rfl) | (rw [← hR]; simp [nReq, aP, gM, c4, c14, c33, c54, c77]; rfl)
        · replace c54 := zi_nz.mp c54
          refine go_iload_n dX4_setRequest_57 rfl ?_
          refine go_if_le (tgt := 72) dX4_setRequest_58 (by decide) (fun c58 => ?_) (fun c58 => ?_)
          · try simp only [zle] at c58
            try simp only [zle] at c66
            refine go_aload_n dX4_setRequest_72 rfl ?_
            refine go_iload_n dX4_setRequest_73 rfl ?_
            refine go_callVi (ci := 4) dX4_setRequest_74 moX4_isPowered cvX4_65 ⟨rfl, rfl⟩ (kX4_isPowered γ l _ _ b μ hm _ (ix p) (zn8 c4).1 (zn8 c4).2) (by first | exact hm 0 (by decide) | exact hm 1 (by decide) | exact zpm_is γ h b _ 0 (by decide) | exact zpm_is γ h b _ 1 (by decide)) rfl rfl (Nat.le_refl _) (Nat.zero_le _) (Nat.zero_le _) (Nat.le_of_ble_eq_true rfl) ?_
            refine go_if_eq (tgt := 92) dX4_setRequest_77 (by decide) (fun c77 => ?_) (fun c77 => ?_)
            · replace c77 := zi_0.mp c77
              refine go_aload_n dX4_setRequest_92 rfl ?_
              refine go_iload_n dX4_setRequest_93 rfl ?_
              refine go_bipush (v := 7) dX4_setRequest_94 (by decide) ?_
              refine go_callSi dX4_setRequest_96 moX4_at csX4_26 (kX4_at γ l _ _ _ _ (ix p) 7 (zn8 c4).1 rfl) rfl rfl (Nat.le_refl _) (Nat.zero_le _) (Nat.zero_le _) (Nat.le_of_ble_eq_true rfl) ?_
              refine go_iload_n dX4_setRequest_99 rfl ?_
              refine go_callVi (ci := 4) dX4_setRequest_100 moX4_set cvX4_38 ⟨rfl, rfl⟩ (kX4_set γ l _ _ b μ hm _ _ (mi (ix p) 7) rfl (mi_lt (zn8 c4).2 (by decide))) (by first | exact hm 0 (by decide) | exact hm 1 (by decide) | exact zpm_is γ h b _ 0 (by decide) | exact zpm_is γ h b _ 1 (by decide)) rfl rfl (Nat.le_refl _) (Nat.zero_le _) (Nat.zero_le _) (Nat.le_of_ble_eq_true rfl) ?_
              refine go_iret dX4_setRequest_103 rfl ?_ ?_ (Nat.zero_le _) (Nat.zero_le _)
              · first | (exact absurd c77 c54) | (exact absurd c54 c77) | (rw [← hR]; simp [nReq, aP, gM, c4, c14, c33, c54, c58, c77]; done) | (rw [← hR]; simp [nReq, aP, gM, c4, c14, c33, c54, c58, c77]; rfl)
              · first | (exact absurd c77 c54) | (exact absurd c54 c77) | (rw [← hR]; simp [nReq, aP, gM, c4, c14, c33, c54, c58, c77]; rw [upR_id]; exact zpm_id hm) | (rw [← hR]; simp [nReq, aP, gM, c4, c14, c33, c54, c58, c77]; rw [zpm_zpm, up2, upR_upR]; rfl) | (rw [← hR]; simp [nReq, aP, gM, c4, c14, c33, c54, c58, c77]; rfl)
            · replace c77 := zi_nz.mp c77
              refine go_aload_n dX4_setRequest_80 rfl ?_
              refine go_getf dX4_setRequest_81 flX4_7 (by first | exact hm 0 (by decide) | exact hm 1 (by decide) | exact zpm_is γ h b _ 0 (by decide) | exact zpm_is γ h b _ 1 (by decide)) rfl ?_
              refine go_iload_n dX4_setRequest_84 rfl ?_
              refine go_bipush (v := 8) dX4_setRequest_85 (by decide) ?_
              refine go_callSi dX4_setRequest_87 moX4_at csX4_26 (kX4_at γ l _ _ _ _ (ix p) 8 (zn8 c4).1 rfl) rfl rfl (Nat.le_refl _) (Nat.zero_le _) (Nat.zero_le _) (Nat.le_of_ble_eq_true rfl) ?_
              refine go_iload_n dX4_setRequest_90 rfl ?_
              refine go_iast dX4_setRequest_91 (by first | exact hm 0 (by decide) | exact hm 1 (by decide) | exact zpm_is γ h b _ 0 (by decide) | exact zpm_is γ h b _ 1 (by decide)) (zix (n := 149) rfl (mi_lt (zn8 c4).2 (by decide)) (by decide)).1 (zix (n := 149) rfl (mi_lt (zn8 c4).2 (by decide)) (by decide)).2 ?_
              refine go_h (zmo_r0 hm) ?_
              refine go_aload_n dX4_setRequest_92 rfl ?_
              refine go_iload_n dX4_setRequest_93 rfl ?_
              refine go_bipush (v := 7) dX4_setRequest_94 (by decide) ?_
              refine go_callSi dX4_setRequest_96 moX4_at csX4_26 (kX4_at γ l _ _ _ _ (ix p) 7 (zn8 c4).1 rfl) rfl rfl (Nat.le_refl _) (Nat.zero_le _) (Nat.zero_le _) (Nat.le_of_ble_eq_true rfl) ?_
              refine go_iload_n dX4_setRequest_99 rfl ?_
              refine go_callVi (ci := 4) dX4_setRequest_100 moX4_set cvX4_38 ⟨rfl, rfl⟩ (kX4_set γ l _ _ b (upR μ 0 (upd (μ 0) (mi (ix p) 8) w)) (zpm_is γ h b _) _ _ (mi (ix p) 7) rfl (mi_lt (zn8 c4).2 (by decide))) (by first | exact hm 0 (by decide) | exact hm 1 (by decide) | exact zpm_is γ h b _ 0 (by decide) | exact zpm_is γ h b _ 1 (by decide)) rfl rfl (Nat.le_refl _) (Nat.zero_le _) (Nat.zero_le _) (Nat.le_of_ble_eq_true rfl) ?_
              refine go_iret dX4_setRequest_103 rfl ?_ ?_ (Nat.zero_le _) (Nat.zero_le _)
              · first | (exact absurd c77 c54) | (exact absurd c54 c77) | (rw [← hR]; simp [nReq, aP, gM, c4, c14, c33, c54, c58, c77]; done) | (rw [← hR]; simp [nReq, aP, gM, c4, c14, c33, c54, c58, c77]; rfl)
              · first | (exact absurd c77 c54) | (exact absurd c54 c77) | (rw [← hR]; simp [nReq, aP, gM, c4, c14, c33, c54, c58, c77]; rw [upR_id]; exact zpm_id hm) | (rw [← hR]; simp [nReq, aP, gM, c4, c14, c33, c54, c58, c77]; rw [zpm_zpm, up2, upR_upR]; rfl) | (rw [← hR]; simp [nReq, aP, gM, c4, c14, c33, c54, c58, c77]; rfl)
          · simp only [zle, Classical.not_not] at c58
            refine go_iload_n dX4_setRequest_61 rfl ?_
            refine go_aload_n dX4_setRequest_62 rfl ?_
            refine go_callVi (ci := 4) dX4_setRequest_63 moX4_available cvX4_71 ⟨rfl, rfl⟩ (kX4_available γ l _ _ b μ hm) (by first | exact hm 0 (by decide) | exact hm 1 (by decide) | exact zpm_is γ h b _ 0 (by decide) | exact zpm_is γ h b _ 1 (by decide)) rfl rfl (Nat.le_refl _) (Nat.zero_le _) (Nat.zero_le _) (Nat.le_of_ble_eq_true rfl) ?_
            refine go_icmp_le (tgt := 72) dX4_setRequest_66 (by decide) (fun c66 => ?_) (fun c66 => ?_)
            · try simp only [zle] at c58
              try simp only [zle] at c66
              refine go_aload_n dX4_setRequest_72 rfl ?_
              refine go_iload_n dX4_setRequest_73 rfl ?_
              refine go_callVi (ci := 4) dX4_setRequest_74 moX4_isPowered cvX4_65 ⟨rfl, rfl⟩ (kX4_isPowered γ l _ _ b μ hm _ (ix p) (zn8 c4).1 (zn8 c4).2) (by first | exact hm 0 (by decide) | exact hm 1 (by decide) | exact zpm_is γ h b _ 0 (by decide) | exact zpm_is γ h b _ 1 (by decide)) rfl rfl (Nat.le_refl _) (Nat.zero_le _) (Nat.zero_le _) (Nat.le_of_ble_eq_true rfl) ?_
              refine go_if_eq (tgt := 92) dX4_setRequest_77 (by decide) (fun c77 => ?_) (fun c77 => ?_)
              · replace c77 := zi_0.mp c77
                refine go_aload_n dX4_setRequest_92 rfl ?_
                refine go_iload_n dX4_setRequest_93 rfl ?_
                refine go_bipush (v := 7) dX4_setRequest_94 (by decide) ?_
                refine go_callSi dX4_setRequest_96 moX4_at csX4_26 (kX4_at γ l _ _ _ _ (ix p) 7 (zn8 c4).1 rfl) rfl rfl (Nat.le_refl _) (Nat.zero_le _) (Nat.zero_le _) (Nat.le_of_ble_eq_true rfl) ?_
                refine go_iload_n dX4_setRequest_99 rfl ?_
                refine go_callVi (ci := 4) dX4_setRequest_100 moX4_set cvX4_38 ⟨rfl, rfl⟩ (kX4_set γ l _ _ b μ hm _ _ (mi (ix p) 7) rfl (mi_lt (zn8 c4).2 (by decide))) (by first | exact hm 0 (by decide) | exact hm 1 (by decide) | exact zpm_is γ h b _ 0 (by decide) | exact zpm_is γ h b _ 1 (by decide)) rfl rfl (Nat.le_refl _) (Nat.zero_le _) (Nat.zero_le _) (Nat.le_of_ble_eq_true rfl) ?_
                refine go_iret dX4_setRequest_103 rfl ?_ ?_ (Nat.zero_le _) (Nat.zero_le _)
                · first | (exact absurd c77 c54) | (exact absurd c54 c77) | (rw [← hR]; simp [nReq, aP, gM, c4, c14, c33, c54, c58, c66, c77]; done) | (rw [← hR]; simp [nReq, aP, gM, c4, c14, c33, c54, c58, c66, c77]; rfl)
                · first | (exact absurd c77 c54) | (exact absurd c54 c77) | (rw [← hR]; simp [nReq, aP, gM, c4, c14, c33, c54, c58, c66, c77]; rw [upR_id]; exact zpm_id hm) | (rw [← hR]; simp [nReq, aP, gM, c4, c14, c33, c54, c58, c66, c77]; rw [zpm_zpm, up2, upR_upR]; rfl) | (rw [← hR]; simp [nReq, aP, gM, c4, c14, c33, c54, c58, c66, c77]; rfl)
              · replace c77 := zi_nz.mp c77
                refine go_aload_n dX4_setRequest_80 rfl ?_
                refine go_getf dX4_setRequest_81 flX4_7 (by first | exact hm 0 (by decide) | exact hm 1 (by decide) | exact zpm_is γ h b _ 0 (by decide) | exact zpm_is γ h b _ 1 (by decide)) rfl ?_
                refine go_iload_n dX4_setRequest_84 rfl ?_
                refine go_bipush (v := 8) dX4_setRequest_85 (by decide) ?_
                refine go_callSi dX4_setRequest_87 moX4_at csX4_26 (kX4_at γ l _ _ _ _ (ix p) 8 (zn8 c4).1 rfl) rfl rfl (Nat.le_refl _) (Nat.zero_le _) (Nat.zero_le _) (Nat.le_of_ble_eq_true rfl) ?_
                refine go_iload_n dX4_setRequest_90 rfl ?_
                refine go_iast dX4_setRequest_91 (by first | exact hm 0 (by decide) | exact hm 1 (by decide) | exact zpm_is γ h b _ 0 (by decide) | exact zpm_is γ h b _ 1 (by decide)) (zix (n := 149) rfl (mi_lt (zn8 c4).2 (by decide)) (by decide)).1 (zix (n := 149) rfl (mi_lt (zn8 c4).2 (by decide)) (by decide)).2 ?_
                refine go_h (zmo_r0 hm) ?_
                refine go_aload_n dX4_setRequest_92 rfl ?_
                refine go_iload_n dX4_setRequest_93 rfl ?_
                refine go_bipush (v := 7) dX4_setRequest_94 (by decide) ?_
                refine go_callSi dX4_setRequest_96 moX4_at csX4_26 (kX4_at γ l _ _ _ _ (ix p) 7 (zn8 c4).1 rfl) rfl rfl (Nat.le_refl _) (Nat.zero_le _) (Nat.zero_le _) (Nat.le_of_ble_eq_true rfl) ?_
                refine go_iload_n dX4_setRequest_99 rfl ?_
                refine go_callVi (ci := 4) dX4_setRequest_100 moX4_set cvX4_38 ⟨rfl, rfl⟩ (kX4_set γ l _ _ b (upR μ 0 (upd (μ 0) (mi (ix p) 8) w)) (zpm_is γ h b _) _ _ (mi (ix p) 7) rfl (mi_lt (zn8 c4).2 (by decide))) (by first | exact hm 0 (by decide) | exact hm 1 (by decide) | exact zpm_is γ h b _ 0 (by decide) | exact zpm_is γ h b _ 1 (by decide)) rfl rfl (Nat.le_refl _) (Nat.zero_le _) (Nat.zero_le _) (Nat.le_of_ble_eq_true rfl) ?_
                refine go_iret dX4_setRequest_103 rfl ?_ ?_ (Nat.zero_le _) (Nat.zero_le _)
                · first | (exact absurd c77 c54) | (exact absurd c54 c77) | (rw [← hR]; simp [nReq, aP, gM, c4, c14, c33, c54, c58, c66, c77]; done) | (rw [← hR]; simp [nReq, aP, gM, c4, c14, c33, c54, c58, c66, c77]; rfl)
                · first | (exact absurd c77 c54) | (exact absurd c54 c77) | (rw [← hR]; simp [nReq, aP, gM, c4, c14, c33, c54, c58, c66, c77]; rw [upR_id]; exact zpm_id hm) | (rw [← hR]; simp [nReq, aP, gM, c4, c14, c33, c54, c58, c66, c77]; rw [zpm_zpm, up2, upR_upR]; rfl) | (rw [← hR]; simp [nReq, aP, gM, c4, c14, c33, c54, c58, c66, c77]; rfl)
            · simp only [zle, Classical.not_not] at c66
              refine go_bipush (v := (-5)) dX4_setRequest_69 (by decide) ?_
              refine go_iret dX4_setRequest_71 rfl ?_ ?_ (Nat.zero_le _) (Nat.zero_le _)
              · first | (rw [← hR]; simp [nReq, aP, gM, c4, c14, c33, c54, c58, c66]; done) | (rw [← hR]; simp [nReq, aP, gM, c4, c14, c33, c54, c58, c66]; rfl)
              · first | (rw [← hR]; simp [nReq, aP, gM, c4, c14, c33, c54, c58, c66]; rw [upR_id]; exact zpm_id hm) | (rw [← hR]; simp [nReq, aP, gM, c4, c14, c33, c54, c58, c66]; rfl)
      · replace c33 := zi_0.mp c33
        refine go_bipush (v := (-2)) dX4_setRequest_36 (by decide) ?_
        refine go_iret dX4_setRequest_38 rfl ?_ ?_ (Nat.zero_le _) (Nat.zero_le _)
        · first | (rw [← hR]; simp [nReq, aP, gM, c4, c14, c33]; done) | (rw [← hR]; simp [nReq, aP, gM, c4, c14, c33]; rfl)
        · first | (rw [← hR]; simp [nReq, aP, gM, c4, c14, c33]; rw [upR_id]; exact zpm_id hm) | (rw [← hR]; simp [nReq, aP, gM, c4, c14, c33]; rfl)
    · refine go_bipush (v := (-3)) dX4_setRequest_17 (by decide) ?_
      refine go_iret dX4_setRequest_19 rfl ?_ ?_ (Nat.zero_le _) (Nat.zero_le _)
      · first | (rw [← hR]; simp [nReq, aP, gM, c4, c14]; done) | (rw [← hR]; simp [nReq, aP, gM, c4, c14]; rfl)
      · first | (rw [← hR]; simp [nReq, aP, gM, c4, c14]; rw [upR_id]; exact zpm_id hm) | (rw [← hR]; simp [nReq, aP, gM, c4, c14]; rfl)
  · replace c4 := zi_0.mp c4
    refine go_iconst (v := (-1)) dX4_setRequest_7 (by decide) ?_
    refine go_iret dX4_setRequest_8 rfl ?_ ?_ (Nat.zero_le _) (Nat.zero_le _)
    · first | (rw [← hR]; simp [nReq, aP, gM, c4]; done) | (rw [← hR]; simp [nReq, aP, gM, c4]; rfl)
    · first | (rw [← hR]; simp [nReq, aP, gM, c4]; rw [upR_id]; exact zpm_id hm) | (rw [← hR]; simp [nReq, aP, gM, c4]; rfl)
