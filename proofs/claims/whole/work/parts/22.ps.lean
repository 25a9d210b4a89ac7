/-! PoeSwitch: ports and devices, the log -/
set_option maxRecDepth 4000 in
theorem kX3_setPriority_ (γ : zG) (l : Launch) (n : Nat) (h : zH) (x : Nat) (σ : zS) (hx : h.1 x = some (zsw x)) (hs : zSt16 γ h (x + 1) σ) (p : Int32) (q : Int32) (R : Int32 × zS) (hR : mPri σ p q = R) : Con γ l (n + 2) 0 0 MX3_setPriority [.ref x, .int p, .int q] h (some (.int R.1)) (zps γ h (x + 1) R.2) := by
  refine Con.go (by decide +kernel) (Nat.le_of_ble_eq_true rfl) ⟨rfl, rfl, rfl, trivial⟩ ?_
  show Go _ 0 0 0 [some (.ref x), some (.int p), some (.int q), none, none] [] _
  refine go_iload_n dX3_setPriority_0 rfl ?_
  refine go_callSi dX3_setPriority_1 moX3_isPort csX3_59 (kX3_isPort γ l _ _ _) rfl rfl (Nat.le_refl _) (Nat.zero_le _) (Nat.zero_le _) (Nat.le_of_ble_eq_true rfl) ?_
  refine go_if_ne (tgt := 9) dX3_setPriority_4 (by decide) (fun c4 => ?_) (fun c4 => ?_)
  · replace c4 := zi_nz.mp c4
    refine go_iload_n dX3_setPriority_9 rfl ?_
    refine go_iconst (v := 0) dX3_setPriority_10 (by decide) ?_
    refine go_iconst (v := 2) dX3_setPriority_11 (by decide) ?_
    refine go_callSi dX3_setPriority_12 moX3_isWithin csX3_27 (kX3_isWithin γ l _ _ _ _ _) rfl rfl (Nat.le_refl _) (Nat.zero_le _) (Nat.zero_le _) (Nat.le_of_ble_eq_true rfl) ?_
    refine go_if_ne (tgt := 21) dX3_setPriority_15 (by decide) (fun c15 => ?_) (fun c15 => ?_)
    · replace c15 := zi_nz.mp c15
      refine go_aload_n dX3_setPriority_21 rfl ?_
      refine go_getf dX3_setPriority_22 flX3_10 (by first | exact zu_s _ _ _ | exact zst_port hs (zn8 c4).2 | exact hx | exact hs 0 (by decide) | exact hs 3 (by decide) | exact hs 1 (by decide) | exact hs 2 (by decide)) rfl ?_
      refine go_getf dX3_setPriority_25 flX3_62 (by first | exact zu_s _ _ _ | exact zst_port hs (zn8 c4).2 | exact hx | exact hs 0 (by decide) | exact hs 3 (by decide) | exact hs 1 (by decide) | exact hs 2 (by decide)) rfl ?_
      refine go_iload_n dX3_setPriority_28 rfl ?_
      refine go_ald (t0 := 2) (C := RX1) dX3_setPriority_29 (by first | exact zu_s _ _ _ | exact zst_port hs (zn8 c4).2 | exact hx | exact hs 0 (by decide) | exact hs 3 (by decide) | exact hs 1 (by decide) | exact hs 2 (by decide)) rfl (zin8 c4) rfl (zrf8 (zn8 c4).2) ?_
      refine go_astore_n dX3_setPriority_30 (Nat.le_of_ble_eq_true rfl) ?_
      refine go_aload_n dX3_setPriority_31 rfl ?_
      refine go_getf dX3_setPriority_32 flX3_75 (by first | exact zu_s _ _ _ | exact zst_port hs (zn8 c4).2 | exact hx | exact hs 0 (by decide) | exact hs 3 (by decide) | exact hs 1 (by decide) | exact hs 2 (by decide)) rfl ?_
      refine go_istore dX3_setPriority_35 (Nat.le_of_ble_eq_true rfl) ?_
      refine go_aload_n dX3_setPriority_37 rfl ?_
      refine go_iload_n dX3_setPriority_38 rfl ?_
      refine go_putf dX3_setPriority_39 flX3_75 fnX1_1 (by first | exact zu_s _ _ _ | exact zst_port hs (zn8 c4).2 | exact hx | exact hs 0 (by decide) | exact hs 3 (by decide) | exact hs 1 (by decide) | exact hs 2 (by decide)) rfl rfl (Nat.le_of_ble_eq_true rfl) ?_
      refine go_iload dX3_setPriority_42 rfl ?_
      refine go_iret dX3_setPriority_44 rfl ?_ ?_ (Nat.zero_le _) (Nat.zero_le _)
      · rw [← hR]; simp [mPri, aS, aP, aT, po, ix, c4, c15]
      · first | (rw [← hR]; simp [mPri, aS, aP, aT, po, ix, c4, c15]; exact zps_id hs) | (rw [← hR]; simp [mPri, aS, aP, aT, po, ix, c4, c15]; exact (zst_rp hs (zn8 c4).2).symm)
    · replace c15 := zi_0.mp c15
      refine go_bipush (v := (-2)) dX3_setPriority_18 (by decide) ?_
      refine go_iret dX3_setPriority_20 rfl ?_ ?_ (Nat.zero_le _) (Nat.zero_le _)
      · rw [← hR]; simp [mPri, aS, aP, aT, po, ix, c4, c15]
      · first | (rw [← hR]; simp [mPri, aS, aP, aT, po, ix, c4, c15]; exact zps_id hs) | (rw [← hR]; simp [mPri, aS, aP, aT, po, ix, c4, c15]; exact (zst_rp hs (zn8 c4).2).symm)
  · replace c4 := zi_0.mp c4
    refine go_iconst (v := (-1)) dX3_setPriority_7 (by decide) ?_
    refine go_iret dX3_setPriority_8 rfl ?_ ?_ (Nat.zero_le _) (Nat.zero_le _)
    · rw [← hR]; simp [mPri, aS, aP, aT, po, ix, c4]
    · first | (rw [← hR]; simp [mPri, aS, aP, aT, po, ix, c4]; exact zps_id hs) | (rw [← hR]; simp [mPri, aS, aP, aT, po, ix, c4]; exact (zst_rp hs (zn8 c4).2).symm)
set_option maxRecDepth 4000 in
theorem kX3_setLoad_ (γ : zG) (l : Launch) (n : Nat) (h : zH) (x : Nat) (σ : zS) (hx : h.1 x = some (zsw x)) (hs : zSt16 γ h (x + 1) σ) (p : Int32) (w : Int32) (R : Int32 × zS) (hR : mLoa σ p w = R) : Con γ l (n + 2) 0 0 MX3_setLoad [.ref x, .int p, .int w] h (some (.int R.1)) (zps γ h (x + 1) R.2) := by
  refine Con.go (by decide +kernel) (Nat.le_of_ble_eq_true rfl) ⟨rfl, rfl, rfl, trivial⟩ ?_
  show Go _ 0 0 0 [some (.ref x), some (.int p), some (.int w), none, none] [] _
  refine go_iload_n dX3_setLoad_0 rfl ?_
  refine go_callSi dX3_setLoad_1 moX3_isPort csX3_59 (kX3_isPort γ l _ _ _) rfl rfl (Nat.le_refl _) (Nat.zero_le _) (Nat.zero_le _) (Nat.le_of_ble_eq_true rfl) ?_
  refine go_if_ne (tgt := 9) dX3_setLoad_4 (by decide) (fun c4 => ?_) (fun c4 => ?_)
  · replace c4 := zi_nz.mp c4
    refine go_iload_n dX3_setLoad_9 rfl ?_
    refine go_iconst (v := 0) dX3_setLoad_10 (by decide) ?_
    refine go_sipush (v := 999) dX3_setLoad_11 (by decide) ?_
    refine go_callSi dX3_setLoad_14 moX3_isWithin csX3_27 (kX3_isWithin γ l _ _ _ _ _) rfl rfl (Nat.le_refl _) (Nat.zero_le _) (Nat.zero_le _) (Nat.le_of_ble_eq_true rfl) ?_
    refine go_if_ne (tgt := 23) dX3_setLoad_17 (by decide) (fun c17 => ?_) (fun c17 => ?_)
    · replace c17 := zi_nz.mp c17
      refine go_aload_n dX3_setLoad_23 rfl ?_
      refine go_getf dX3_setLoad_24 flX3_10 (by first | exact zu_s _ _ _ | exact zst_port hs (zn8 c4).2 | exact hx | exact hs 0 (by decide) | exact hs 3 (by decide) | exact hs 1 (by decide) | exact hs 2 (by decide)) rfl ?_
      refine go_getf dX3_setLoad_27 flX3_62 (by first | exact zu_s _ _ _ | exact zst_port hs (zn8 c4).2 | exact hx | exact hs 0 (by decide) | exact hs 3 (by decide) | exact hs 1 (by decide) | exact hs 2 (by decide)) rfl ?_
      refine go_iload_n dX3_setLoad_30 rfl ?_
      refine go_ald (t0 := 2) (C := RX1) dX3_setLoad_31 (by first | exact zu_s _ _ _ | exact zst_port hs (zn8 c4).2 | exact hx | exact hs 0 (by decide) | exact hs 3 (by decide) | exact hs 1 (by decide) | exact hs 2 (by decide)) rfl (zin8 c4) rfl (zrf8 (zn8 c4).2) ?_
      refine go_astore_n dX3_setLoad_32 (Nat.le_of_ble_eq_true rfl) ?_
      refine go_aload_n dX3_setLoad_33 rfl ?_
      refine go_getf dX3_setLoad_34 flX3_78 (by first | exact zu_s _ _ _ | exact zst_port hs (zn8 c4).2 | exact hx | exact hs 0 (by decide) | exact hs 3 (by decide) | exact hs 1 (by decide) | exact hs 2 (by decide)) rfl ?_
      refine go_if_ne (tgt := 43) dX3_setLoad_37 (by decide) (fun c37 => ?_) (fun c37 => ?_)
      · refine go_aload_n dX3_setLoad_43 rfl ?_
        refine go_getf dX3_setLoad_44 flX3_95 (by first | exact zu_s _ _ _ | exact zst_port hs (zn8 c4).2 | exact hx | exact hs 0 (by decide) | exact hs 3 (by decide) | exact hs 1 (by decide) | exact hs 2 (by decide)) rfl ?_
        refine go_istore dX3_setLoad_47 (Nat.le_of_ble_eq_true rfl) ?_
        refine go_aload_n dX3_setLoad_49 rfl ?_
        refine go_iload_n dX3_setLoad_50 rfl ?_
        refine go_putf dX3_setLoad_51 flX3_95 fnX1_5 (by first | exact zu_s _ _ _ | exact zst_port hs (zn8 c4).2 | exact hx | exact hs 0 (by decide) | exact hs 3 (by decide) | exact hs 1 (by decide) | exact hs 2 (by decide)) rfl rfl (Nat.le_of_ble_eq_true rfl) ?_
        refine go_iload dX3_setLoad_54 rfl ?_
        refine go_iret dX3_setLoad_56 rfl ?_ ?_ (Nat.zero_le _) (Nat.zero_le _)
        · rw [← hR]; simp [mLoa, aS, aP, aT, po, ix, c4, c17, c37]
        · first | (rw [← hR]; simp [mLoa, aS, aP, aT, po, ix, c4, c17, c37]; exact zps_id hs) | (rw [← hR]; simp [mLoa, aS, aP, aT, po, ix, c4, c17, c37]; exact (zst_rp hs (zn8 c4).2).symm)
      · refine go_bipush (v := (-3)) dX3_setLoad_40 (by decide) ?_
        refine go_iret dX3_setLoad_42 rfl ?_ ?_ (Nat.zero_le _) (Nat.zero_le _)
        · rw [← hR]; simp [mLoa, aS, aP, aT, po, ix, c4, c17, c37]
        · first | (rw [← hR]; simp [mLoa, aS, aP, aT, po, ix, c4, c17, c37]; exact zps_id hs) | (rw [← hR]; simp [mLoa, aS, aP, aT, po, ix, c4, c17, c37]; exact (zst_rp hs (zn8 c4).2).symm)
    · replace c17 := zi_0.mp c17
      refine go_bipush (v := (-2)) dX3_setLoad_20 (by decide) ?_
      refine go_iret dX3_setLoad_22 rfl ?_ ?_ (Nat.zero_le _) (Nat.zero_le _)
      · rw [← hR]; simp [mLoa, aS, aP, aT, po, ix, c4, c17]
      · first | (rw [← hR]; simp [mLoa, aS, aP, aT, po, ix, c4, c17]; exact zps_id hs) | (rw [← hR]; simp [mLoa, aS, aP, aT, po, ix, c4, c17]; exact (zst_rp hs (zn8 c4).2).symm)
  · replace c4 := zi_0.mp c4
    refine go_iconst (v := (-1)) dX3_setLoad_7 (by decide) ?_
    refine go_iret dX3_setLoad_8 rfl ?_ ?_ (Nat.zero_le _) (Nat.zero_le _)
    · rw [← hR]; simp [mLoa, aS, aP, aT, po, ix, c4]
    · first | (rw [← hR]; simp [mLoa, aS, aP, aT, po, ix, c4]; exact zps_id hs) | (rw [← hR]; simp [mLoa, aS, aP, aT, po, ix, c4]; exact (zst_rp hs (zn8 c4).2).symm)
set_option maxRecDepth 4000 in
theorem kX3_setEnabled_ (γ : zG) (l : Launch) (n : Nat) (h : zH) (x : Nat) (σ : zS) (hx : h.1 x = some (zsw x)) (hs : zSt16 γ h (x + 1) σ) (p : Int32) (b : Int32) (hb : zB b) (R : Int32 × zS) (hR : mEna σ p b = R) : Con γ l (n + 3) 0 0 MX3_setEnabled [.ref x, .int p, .int b] h (some (.int R.1)) (zps γ h (x + 1) R.2) := by
  refine Con.go (by decide +kernel) (Nat.le_of_ble_eq_true rfl) ⟨rfl, rfl, rfl, trivial⟩ ?_
  show Go _ 0 0 0 [some (.ref x), some (.int p), some (.int b), none, none] [] _
  refine go_iload_n dX3_setEnabled_0 rfl ?_
  refine go_callSi dX3_setEnabled_1 moX3_isPort csX3_59 (kX3_isPort γ l _ _ _) rfl rfl (Nat.le_refl _) (Nat.zero_le _) (Nat.zero_le _) (Nat.le_of_ble_eq_true rfl) ?_
  refine go_if_ne (tgt := 9) dX3_setEnabled_4 (by decide) (fun c4 => ?_) (fun c4 => ?_)
  · replace c4 := zi_nz.mp c4
    refine go_aload_n dX3_setEnabled_9 rfl ?_
    refine go_getf dX3_setEnabled_10 flX3_10 (by first | exact zu_s _ _ _ | exact zst_port hs (zn8 c4).2 | exact hx | exact hs 0 (by decide) | exact hs 3 (by decide) | exact hs 1 (by decide) | exact hs 2 (by decide)) rfl ?_
    refine go_getf dX3_setEnabled_13 flX3_62 (by first | exact zu_s _ _ _ | exact zst_port hs (zn8 c4).2 | exact hx | exact hs 0 (by decide) | exact hs 3 (by decide) | exact hs 1 (by decide) | exact hs 2 (by decide)) rfl ?_
    refine go_iload_n dX3_setEnabled_16 rfl ?_
    refine go_ald (t0 := 2) (C := RX1) dX3_setEnabled_17 (by first | exact zu_s _ _ _ | exact zst_port hs (zn8 c4).2 | exact hx | exact hs 0 (by decide) | exact hs 3 (by decide) | exact hs 1 (by decide) | exact hs 2 (by decide)) rfl (zin8 c4) rfl (zrf8 (zn8 c4).2) ?_
    refine go_astore_n dX3_setEnabled_18 (Nat.le_of_ble_eq_true rfl) ?_
    refine go_aload_n dX3_setEnabled_19 rfl ?_
    refine go_getf dX3_setEnabled_20 flX3_66 (by first | exact zu_s _ _ _ | exact zst_port hs (zn8 c4).2 | exact hx | exact hs 0 (by decide) | exact hs 3 (by decide) | exact hs 1 (by decide) | exact hs 2 (by decide)) rfl ?_
    refine go_istore dX3_setEnabled_23 (Nat.le_of_ble_eq_true rfl) ?_
    refine go_aload_n dX3_setEnabled_25 rfl ?_
    refine go_iload_n dX3_setEnabled_26 rfl ?_
    refine go_putf dX3_setEnabled_27 flX3_66 fnX1_0 (by first | exact zu_s _ _ _ | exact zst_port hs (zn8 c4).2 | exact hx | exact hs 0 (by decide) | exact hs 3 (by decide) | exact hs 1 (by decide) | exact hs 2 (by decide)) (znb (by exact hb)) (zfb (by exact hb)) (Nat.le_of_ble_eq_true rfl) ?_
    refine go_iload_n dX3_setEnabled_30 rfl ?_
    refine go_if_ne (tgt := 38) dX3_setEnabled_31 (by decide) (fun c31 => ?_) (fun c31 => ?_)
    · refine go_iload dX3_setEnabled_38 rfl ?_
      refine go_if_eq (tgt := 47) dX3_setEnabled_40 (by decide) (fun c40 => ?_) (fun c40 => ?_)
      · refine go_iconst (v := 0) dX3_setEnabled_47 (by decide) ?_
        refine go_iret dX3_setEnabled_48 rfl ?_ ?_ (Nat.zero_le _) (Nat.zero_le _)
        · rw [← hR]; simp [mEna, zi, aP, po, ix, c4, c31, c40]
        · first | (rw [← hR]; simp [mEna, aS, aP, aT, po, ix, c4, c31, c40]; exact zps_id hs) | (rw [← hR]; simp [mEna, aS, aP, aT, po, ix, c4, c31, c40]; first | exact (zst_rp hs (zn8 c4).2).symm | (simp only [zu_zu]; exact (zst_rp hs (zn8 c4).2).symm))
      · refine go_iconst (v := 1) dX3_setEnabled_43 (by decide) ?_
        refine go_goto (tgt := 48) dX3_setEnabled_44 (by decide) ?_
        refine go_iret dX3_setEnabled_48 rfl ?_ ?_ (Nat.zero_le _) (Nat.zero_le _)
        · rw [← hR]; simp [mEna, zi, aP, po, ix, c4, c31, c40]
        · first | (rw [← hR]; simp [mEna, aS, aP, aT, po, ix, c4, c31, c40]; exact zps_id hs) | (rw [← hR]; simp [mEna, aS, aP, aT, po, ix, c4, c31, c40]; first | exact (zst_rp hs (zn8 c4).2).symm | (simp only [zu_zu]; exact (zst_rp hs (zn8 c4).2).symm))
    · refine go_aload_n dX3_setEnabled_34 rfl ?_
      refine go_callVv (ci := 1) dX3_setEnabled_35 moX1_reset cvX3_72 ⟨rfl, rfl⟩ (kX1_reset γ l _ _ _ (upd (po σ p) 0 b) (zu_s _ _ _)) (by exact zu_s _ _ _) rfl rfl (Nat.le_refl _) (Nat.zero_le _) (Nat.zero_le _) (Nat.le_of_ble_eq_true rfl) ?_
      refine go_iload dX3_setEnabled_38 rfl ?_
      refine go_if_eq (tgt := 47) dX3_setEnabled_40 (by decide) (fun c40 => ?_) (fun c40 => ?_)
      · refine go_iconst (v := 0) dX3_setEnabled_47 (by decide) ?_
        refine go_iret dX3_setEnabled_48 rfl ?_ ?_ (Nat.zero_le _) (Nat.zero_le _)
        · rw [← hR]; simp [mEna, zi, aP, po, ix, c4, c31, c40]
        · first | (rw [← hR]; simp [mEna, aS, aP, aT, po, ix, c4, c31, c40]; exact zps_id hs) | (rw [← hR]; simp [mEna, aS, aP, aT, po, ix, c4, c31, c40]; first | exact (zst_rp hs (zn8 c4).2).symm | (simp only [zu_zu]; exact (zst_rp hs (zn8 c4).2).symm))
      · refine go_iconst (v := 1) dX3_setEnabled_43 (by decide) ?_
        refine go_goto (tgt := 48) dX3_setEnabled_44 (by decide) ?_
        refine go_iret dX3_setEnabled_48 rfl ?_ ?_ (Nat.zero_le _) (Nat.zero_le _)
        · rw [← hR]; simp [mEna, zi, aP, po, ix, c4, c31, c40]
        · first | (rw [← hR]; simp [mEna, aS, aP, aT, po, ix, c4, c31, c40]; exact zps_id hs) | (rw [← hR]; simp [mEna, aS, aP, aT, po, ix, c4, c31, c40]; first | exact (zst_rp hs (zn8 c4).2).symm | (simp only [zu_zu]; exact (zst_rp hs (zn8 c4).2).symm))
  · replace c4 := zi_0.mp c4
    refine go_iconst (v := (-1)) dX3_setEnabled_7 (by decide) ?_
    refine go_iret dX3_setEnabled_8 rfl ?_ ?_ (Nat.zero_le _) (Nat.zero_le _)
    · rw [← hR]; simp [mEna, zi, aP, po, ix, c4]
    · first | (rw [← hR]; simp [mEna, aS, aP, aT, po, ix, c4]; exact zps_id hs) | (rw [← hR]; simp [mEna, aS, aP, aT, po, ix, c4]; first | exact (zst_rp hs (zn8 c4).2).symm | (simp only [zu_zu]; exact (zst_rp hs (zn8 c4).2).symm))
set_option maxRecDepth 4000 in
theorem kX3_disconnect_ (γ : zG) (l : Launch) (n : Nat) (h : zH) (x : Nat) (σ : zS) (hx : h.1 x = some (zsw x)) (hs : zSt16 γ h (x + 1) σ) (p : Int32) (R : Int32 × zS) (hR : mDis σ p = R) : Con γ l (n + 3) 0 0 MX3_disconnect [.ref x, .int p] h (some (.int R.1)) (zps γ h (x + 1) R.2) := by
  refine Con.go (by decide +kernel) (Nat.le_of_ble_eq_true rfl) ⟨rfl, rfl, trivial⟩ ?_
  show Go _ 0 0 0 [some (.ref x), some (.int p), none, none] [] _
  refine go_iload_n dX3_disconnect_0 rfl ?_
  refine go_callSi dX3_disconnect_1 moX3_isPort csX3_59 (kX3_isPort γ l _ _ _) rfl rfl (Nat.le_refl _) (Nat.zero_le _) (Nat.zero_le _) (Nat.le_of_ble_eq_true rfl) ?_
  refine go_if_ne (tgt := 9) dX3_disconnect_4 (by decide) (fun c4 => ?_) (fun c4 => ?_)
  · replace c4 := zi_nz.mp c4
    refine go_aload_n dX3_disconnect_9 rfl ?_
    refine go_getf dX3_disconnect_10 flX3_10 (by first | exact zu_s _ _ _ | exact zst_port hs (zn8 c4).2 | exact hx | exact hs 0 (by decide) | exact hs 3 (by decide) | exact hs 1 (by decide) | exact hs 2 (by decide)) rfl ?_
    refine go_getf dX3_disconnect_13 flX3_62 (by first | exact zu_s _ _ _ | exact zst_port hs (zn8 c4).2 | exact hx | exact hs 0 (by decide) | exact hs 3 (by decide) | exact hs 1 (by decide) | exact hs 2 (by decide)) rfl ?_
    refine go_iload_n dX3_disconnect_16 rfl ?_
    refine go_ald (t0 := 2) (C := RX1) dX3_disconnect_17 (by first | exact zu_s _ _ _ | exact zst_port hs (zn8 c4).2 | exact hx | exact hs 0 (by decide) | exact hs 3 (by decide) | exact hs 1 (by decide) | exact hs 2 (by decide)) rfl (zin8 c4) rfl (zrf8 (zn8 c4).2) ?_
    refine go_astore_n dX3_disconnect_18 (Nat.le_of_ble_eq_true rfl) ?_
    refine go_aload_n dX3_disconnect_19 rfl ?_
    refine go_getf dX3_disconnect_20 flX3_78 (by first | exact zu_s _ _ _ | exact zst_port hs (zn8 c4).2 | exact hx | exact hs 0 (by decide) | exact hs 3 (by decide) | exact hs 1 (by decide) | exact hs 2 (by decide)) rfl ?_
    refine go_if_ne (tgt := 29) dX3_disconnect_23 (by decide) (fun c23 => ?_) (fun c23 => ?_)
    · refine go_aload_n dX3_disconnect_29 rfl ?_
      refine go_callVi (ci := 1) dX3_disconnect_30 moX1_isPowered cvX3_104 ⟨rfl, rfl⟩ (kX1_isPowered γ l _ _ _ _ (zst_port hs (zn8 c4).2)) (by exact zst_port hs (zn8 c4).2) rfl rfl (Nat.le_refl _) (Nat.zero_le _) (Nat.zero_le _) (Nat.le_of_ble_eq_true rfl) ?_
      refine go_istore_n dX3_disconnect_33 (Nat.le_of_ble_eq_true rfl) ?_
      refine go_aload_n dX3_disconnect_34 rfl ?_
      refine go_iconst (v := 0) dX3_disconnect_35 (by decide) ?_
      refine go_putf dX3_disconnect_36 flX3_78 fnX1_2 (by first | exact zu_s _ _ _ | exact zst_port hs (zn8 c4).2 | exact hx | exact hs 0 (by decide) | exact hs 3 (by decide) | exact hs 1 (by decide) | exact hs 2 (by decide)) (znb (by first | exact Or.inl rfl | exact Or.inr rfl | exact zi_B)) (zfb (by first | exact Or.inl rfl | exact Or.inr rfl | exact zi_B)) (Nat.le_of_ble_eq_true rfl) ?_
      refine go_aload_n dX3_disconnect_39 rfl ?_
      refine go_callVv (ci := 1) dX3_disconnect_40 moX1_reset cvX3_72 ⟨rfl, rfl⟩ (kX1_reset γ l _ _ _ (upd (po σ p) 2 0) (zu_s _ _ _)) (by exact zu_s _ _ _) rfl rfl (Nat.le_refl _) (Nat.zero_le _) (Nat.zero_le _) (Nat.le_of_ble_eq_true rfl) ?_
      refine go_iload_n dX3_disconnect_43 rfl ?_
      refine go_if_eq (tgt := 51) dX3_disconnect_44 (by decide) (fun c44 => ?_) (fun c44 => ?_)
      · replace c44 := zi_0.mp c44
        refine go_iconst (v := 0) dX3_disconnect_51 (by decide) ?_
        refine go_iret dX3_disconnect_52 rfl ?_ ?_ (Nat.zero_le _) (Nat.zero_le _)
        · rw [← hR]; simp [mDis, zi, aP, po, ix, c4, c23, c44]
        · first | (rw [← hR]; simp [mDis, aS, aP, aT, po, ix, c4, c23, c44]; exact zps_id hs) | (rw [← hR]; simp [mDis, aS, aP, aT, po, ix, c4, c23, c44]; first | exact (zst_rp hs (zn8 c4).2).symm | (simp only [zu_zu]; exact (zst_rp hs (zn8 c4).2).symm))
      · replace c44 := zi_nz.mp c44
        refine go_iconst (v := 1) dX3_disconnect_47 (by decide) ?_
        refine go_goto (tgt := 52) dX3_disconnect_48 (by decide) ?_
        refine go_iret dX3_disconnect_52 rfl ?_ ?_ (Nat.zero_le _) (Nat.zero_le _)
        · rw [← hR]; simp [mDis, zi, aP, po, ix, c4, c23, c44]
        · first | (rw [← hR]; simp [mDis, aS, aP, aT, po, ix, c4, c23, c44]; exact zps_id hs) | (rw [← hR]; simp [mDis, aS, aP, aT, po, ix, c4, c23, c44]; first | exact (zst_rp hs (zn8 c4).2).symm | (simp only [zu_zu]; exact (zst_rp hs (zn8 c4).2).symm))
    · refine go_bipush (v := (-3)) dX3_disconnect_26 (by decide) ?_
      refine go_iret dX3_disconnect_28 rfl ?_ ?_ (Nat.zero_le _) (Nat.zero_le _)
      · rw [← hR]; simp [mDis, zi, aP, po, ix, c4, c23]
      · first | (rw [← hR]; simp [mDis, aS, aP, aT, po, ix, c4, c23]; exact zps_id hs) | (rw [← hR]; simp [mDis, aS, aP, aT, po, ix, c4, c23]; first | exact (zst_rp hs (zn8 c4).2).symm | (simp only [zu_zu]; exact (zst_rp hs (zn8 c4).2).symm))
  · replace c4 := zi_0.mp c4
    refine go_iconst (v := (-1)) dX3_disconnect_7 (by decide) ?_
    refine go_iret dX3_disconnect_8 rfl ?_ ?_ (Nat.zero_le _) (Nat.zero_le _)
    · rw [← hR]; simp [mDis, zi, aP, po, ix, c4]
    · first | (rw [← hR]; simp [mDis, aS, aP, aT, po, ix, c4]; exact zps_id hs) | (rw [← hR]; simp [mDis, aS, aP, aT, po, ix, c4]; first | exact (zst_rp hs (zn8 c4).2).symm | (simp only [zu_zu]; exact (zst_rp hs (zn8 c4).2).symm))
set_option maxRecDepth 4000 in
theorem kX3_connect_ (γ : zG) (l : Launch) (n : Nat) (h : zH) (x : Nat) (σ : zS) (hx : h.1 x = some (zsw x)) (hs : zSt16 γ h (x + 1) σ) (p : Int32) (r : Int32) (c : Int32) (i : Int32) (w : Int32) (R : Int32 × zS) (hR : mCon σ p r c i w = R) : Con γ l (n + 3) 0 0 MX3_connect [.ref x, .int p, .int r, .int c, .int i, .int w] h (some (.int R.1)) (zps γ h (x + 1) R.2) := by
  refine Con.go (by decide +kernel) (Nat.le_of_ble_eq_true rfl) ⟨rfl, rfl, rfl, rfl, rfl, rfl, trivial⟩ ?_
  show Go _ 0 0 0 [some (.ref x), some (.int p), some (.int r), some (.int c), some (.int i), some (.int w), none, none] [] _
  refine go_iload_n dX3_connect_0 rfl ?_
  refine go_callSi dX3_connect_1 moX3_isPort csX3_59 (kX3_isPort γ l _ _ _) rfl rfl (Nat.le_refl _) (Nat.zero_le _) (Nat.zero_le _) (Nat.le_of_ble_eq_true rfl) ?_
  refine go_if_ne (tgt := 9) dX3_connect_4 (by decide) (fun c4 => ?_) (fun c4 => ?_)
  · replace c4 := zi_nz.mp c4
    refine go_iload_n dX3_connect_9 rfl ?_
    refine go_iconst (v := 1) dX3_connect_10 (by decide) ?_
    refine go_sipush (v := 999) dX3_connect_11 (by decide) ?_
    refine go_callSi dX3_connect_14 moX3_isWithin csX3_27 (kX3_isWithin γ l _ _ _ _ _) rfl rfl (Nat.le_refl _) (Nat.zero_le _) (Nat.zero_le _) (Nat.le_of_ble_eq_true rfl) ?_
    refine go_if_eq (tgt := 53) dX3_connect_17 (by decide) (fun c17 => ?_) (fun c17 => ?_)
    · replace c17 := zi_0.mp c17
      refine go_bipush (v := (-2)) dX3_connect_53 (by decide) ?_
      refine go_iret dX3_connect_55 rfl ?_ ?_ (Nat.zero_le _) (Nat.zero_le _)
      · rw [← hR]; simp [mCon, aS, aP, aT, po, ix, c4, c17]
      · first | (rw [← hR]; simp [mCon, aS, aP, aT, po, ix, c4, c17]; exact zps_id hs) | (rw [← hR]; simp [mCon, aS, aP, aT, po, ix, c4, c17]; first | exact (zst_rp hs (zn8 c4).2).symm | (simp only [zu_zu]; exact (zst_rp hs (zn8 c4).2).symm))
    · replace c17 := zi_nz.mp c17
      refine go_iload_n dX3_connect_20 rfl ?_
      refine go_iconst (v := 0) dX3_connect_21 (by decide) ?_
      refine go_bipush (v := 99) dX3_connect_22 (by decide) ?_
      refine go_callSi dX3_connect_24 moX3_isWithin csX3_27 (kX3_isWithin γ l _ _ _ _ _) rfl rfl (Nat.le_refl _) (Nat.zero_le _) (Nat.zero_le _) (Nat.le_of_ble_eq_true rfl) ?_
      refine go_if_eq (tgt := 53) dX3_connect_27 (by decide) (fun c27 => ?_) (fun c27 => ?_)
      · replace c27 := zi_0.mp c27
        refine go_bipush (v := (-2)) dX3_connect_53 (by decide) ?_
        refine go_iret dX3_connect_55 rfl ?_ ?_ (Nat.zero_le _) (Nat.zero_le _)
        · rw [← hR]; simp [mCon, aS, aP, aT, po, ix, c4, c17, c27]
        · first | (rw [← hR]; simp [mCon, aS, aP, aT, po, ix, c4, c17, c27]; exact zps_id hs) | (rw [← hR]; simp [mCon, aS, aP, aT, po, ix, c4, c17, c27]; first | exact (zst_rp hs (zn8 c4).2).symm | (simp only [zu_zu]; exact (zst_rp hs (zn8 c4).2).symm))
      · replace c27 := zi_nz.mp c27
        refine go_iload dX3_connect_30 rfl ?_
        refine go_iconst (v := 0) dX3_connect_32 (by decide) ?_
        refine go_bipush (v := 60) dX3_connect_33 (by decide) ?_
        refine go_callSi dX3_connect_35 moX3_isWithin csX3_27 (kX3_isWithin γ l _ _ _ _ _) rfl rfl (Nat.le_refl _) (Nat.zero_le _) (Nat.zero_le _) (Nat.le_of_ble_eq_true rfl) ?_
        refine go_if_eq (tgt := 53) dX3_connect_38 (by decide) (fun c38 => ?_) (fun c38 => ?_)
        · replace c38 := zi_0.mp c38
          refine go_bipush (v := (-2)) dX3_connect_53 (by decide) ?_
          refine go_iret dX3_connect_55 rfl ?_ ?_ (Nat.zero_le _) (Nat.zero_le _)
          · rw [← hR]; simp [mCon, aS, aP, aT, po, ix, c4, c17, c27, c38]
          · first | (rw [← hR]; simp [mCon, aS, aP, aT, po, ix, c4, c17, c27, c38]; exact zps_id hs) | (rw [← hR]; simp [mCon, aS, aP, aT, po, ix, c4, c17, c27, c38]; first | exact (zst_rp hs (zn8 c4).2).symm | (simp only [zu_zu]; exact (zst_rp hs (zn8 c4).2).symm))
        · replace c38 := zi_nz.mp c38
          refine go_iload dX3_connect_41 rfl ?_
          refine go_iconst (v := 0) dX3_connect_43 (by decide) ?_
          refine go_sipush (v := 999) dX3_connect_44 (by decide) ?_
          refine go_callSi dX3_connect_47 moX3_isWithin csX3_27 (kX3_isWithin γ l _ _ _ _ _) rfl rfl (Nat.le_refl _) (Nat.zero_le _) (Nat.zero_le _) (Nat.le_of_ble_eq_true rfl) ?_
          refine go_if_ne (tgt := 56) dX3_connect_50 (by decide) (fun c50 => ?_) (fun c50 => ?_)
          · replace c50 := zi_nz.mp c50
            refine go_aload_n dX3_connect_56 rfl ?_
            refine go_getf dX3_connect_57 flX3_10 (by first | exact zu_s _ _ _ | exact zst_port hs (zn8 c4).2 | exact hx | exact hs 0 (by decide) | exact hs 3 (by decide) | exact hs 1 (by decide) | exact hs 2 (by decide)) rfl ?_
            refine go_getf dX3_connect_60 flX3_62 (by first | exact zu_s _ _ _ | exact zst_port hs (zn8 c4).2 | exact hx | exact hs 0 (by decide) | exact hs 3 (by decide) | exact hs 1 (by decide) | exact hs 2 (by decide)) rfl ?_
            refine go_iload_n dX3_connect_63 rfl ?_
            refine go_ald (t0 := 2) (C := RX1) dX3_connect_64 (by first | exact zu_s _ _ _ | exact zst_port hs (zn8 c4).2 | exact hx | exact hs 0 (by decide) | exact hs 3 (by decide) | exact hs 1 (by decide) | exact hs 2 (by decide)) rfl (zin8 c4) rfl (zrf8 (zn8 c4).2) ?_
            refine go_astore dX3_connect_65 (Nat.le_of_ble_eq_true rfl) ?_
            refine go_aload dX3_connect_67 rfl ?_
            refine go_getf dX3_connect_69 flX3_78 (by first | exact zu_s _ _ _ | exact zst_port hs (zn8 c4).2 | exact hx | exact hs 0 (by decide) | exact hs 3 (by decide) | exact hs 1 (by decide) | exact hs 2 (by decide)) rfl ?_
            refine go_if_eq (tgt := 78) dX3_connect_72 (by decide) (fun c72 => ?_) (fun c72 => ?_)
            · refine go_iload dX3_connect_78 rfl ?_
              refine go_callSi dX3_connect_80 moX3_classOf csX3_81 (kX3_classOf γ l _ _ _) rfl rfl (Nat.le_refl _) (Nat.zero_le _) (Nat.zero_le _) (Nat.le_of_ble_eq_true rfl) ?_
              refine go_istore dX3_connect_83 (Nat.le_of_ble_eq_true rfl) ?_
              refine go_aload dX3_connect_85 rfl ?_
              refine go_iconst (v := 1) dX3_connect_87 (by decide) ?_
              refine go_putf dX3_connect_88 flX3_78 fnX1_2 (by first | exact zu_s _ _ _ | exact zst_port hs (zn8 c4).2 | exact hx | exact hs 0 (by decide) | exact hs 3 (by decide) | exact hs 1 (by decide) | exact hs 2 (by decide)) (znb (by first | exact zi_B | exact Or.inr rfl)) (zfb (by first | exact zi_B | exact Or.inr rfl)) (Nat.le_of_ble_eq_true rfl) ?_
              refine go_aload dX3_connect_91 rfl ?_
              refine go_iload_n dX3_connect_93 rfl ?_
              refine go_iload_n dX3_connect_94 rfl ?_
              refine go_callSi dX3_connect_95 moX3_isDetected csX3_85 (kX3_isDetected γ l _ _ _ _) rfl rfl (Nat.le_refl _) (Nat.zero_le _) (Nat.zero_le _) (Nat.le_of_ble_eq_true rfl) ?_
              refine go_putf dX3_connect_98 flX3_89 fnX1_3 (by first | exact zu_s _ _ _ | exact zst_port hs (zn8 c4).2 | exact hx | exact hs 0 (by decide) | exact hs 3 (by decide) | exact hs 1 (by decide) | exact hs 2 (by decide)) (znb (by first | exact zi_B | exact Or.inr rfl)) (zfb (by first | exact zi_B | exact Or.inr rfl)) (Nat.le_of_ble_eq_true rfl) ?_
              refine go_aload dX3_connect_101 rfl ?_
              refine go_iload dX3_connect_103 rfl ?_
              refine go_putf dX3_connect_105 flX3_92 fnX1_4 (by first | exact zu_s _ _ _ | exact zst_port hs (zn8 c4).2 | exact hx | exact hs 0 (by decide) | exact hs 3 (by decide) | exact hs 1 (by decide) | exact hs 2 (by decide)) rfl rfl (Nat.le_of_ble_eq_true rfl) ?_
              refine go_aload dX3_connect_108 rfl ?_
              refine go_iload dX3_connect_110 rfl ?_
              refine go_putf dX3_connect_112 flX3_95 fnX1_5 (by first | exact zu_s _ _ _ | exact zst_port hs (zn8 c4).2 | exact hx | exact hs 0 (by decide) | exact hs 3 (by decide) | exact hs 1 (by decide) | exact hs 2 (by decide)) rfl rfl (Nat.le_of_ble_eq_true rfl) ?_
              refine go_aload dX3_connect_115 rfl ?_
              refine go_iload dX3_connect_117 rfl ?_
              refine go_callSi dX3_connect_119 moX3_maximumOf csX3_98 (kX3_maximumOf γ l _ _ _) rfl rfl (Nat.le_refl _) (Nat.zero_le _) (Nat.zero_le _) (Nat.le_of_ble_eq_true rfl) ?_
              refine go_putf dX3_connect_122 flX3_101 fnX1_6 (by first | exact zu_s _ _ _ | exact zst_port hs (zn8 c4).2 | exact hx | exact hs 0 (by decide) | exact hs 3 (by decide) | exact hs 1 (by decide) | exact hs 2 (by decide)) rfl rfl (Nat.le_of_ble_eq_true rfl) ?_
              refine go_iload dX3_connect_125 rfl ?_
              refine go_iret dX3_connect_127 rfl ?_ ?_ (Nat.zero_le _) (Nat.zero_le _)
              · rw [← hR]; simp [mCon, aS, aP, aT, po, ix, c4, c17, c27, c38, c50, c72]
              · first | (rw [← hR]; simp [mCon, aS, aP, aT, po, ix, c4, c17, c27, c38, c50, c72]; exact zps_id hs) | (rw [← hR]; simp [mCon, aS, aP, aT, po, ix, c4, c17, c27, c38, c50, c72]; first | exact (zst_rp hs (zn8 c4).2).symm | (simp only [zu_zu]; exact (zst_rp hs (zn8 c4).2).symm))
            · refine go_bipush (v := (-3)) dX3_connect_75 (by decide) ?_
              refine go_iret dX3_connect_77 rfl ?_ ?_ (Nat.zero_le _) (Nat.zero_le _)
              · rw [← hR]; simp [mCon, aS, aP, aT, po, ix, c4, c17, c27, c38, c50, c72]
              · first | (rw [← hR]; simp [mCon, aS, aP, aT, po, ix, c4, c17, c27, c38, c50, c72]; exact zps_id hs) | (rw [← hR]; simp [mCon, aS, aP, aT, po, ix, c4, c17, c27, c38, c50, c72]; first | exact (zst_rp hs (zn8 c4).2).symm | (simp only [zu_zu]; exact (zst_rp hs (zn8 c4).2).symm))
          · replace c50 := zi_0.mp c50
            refine go_bipush (v := (-2)) dX3_connect_53 (by decide) ?_
            refine go_iret dX3_connect_55 rfl ?_ ?_ (Nat.zero_le _) (Nat.zero_le _)
            · rw [← hR]; simp [mCon, aS, aP, aT, po, ix, c4, c17, c27, c38, c50]
            · first | (rw [← hR]; simp [mCon, aS, aP, aT, po, ix, c4, c17, c27, c38, c50]; exact zps_id hs) | (rw [← hR]; simp [mCon, aS, aP, aT, po, ix, c4, c17, c27, c38, c50]; first | exact (zst_rp hs (zn8 c4).2).symm | (simp only [zu_zu]; exact (zst_rp hs (zn8 c4).2).symm))
  · replace c4 := zi_0.mp c4
    refine go_iconst (v := (-1)) dX3_connect_7 (by decide) ?_
    refine go_iret dX3_connect_8 rfl ?_ ?_ (Nat.zero_le _) (Nat.zero_le _)
    · rw [← hR]; simp [mCon, aS, aP, aT, po, ix, c4]
    · first | (rw [← hR]; simp [mCon, aS, aP, aT, po, ix, c4]; exact zps_id hs) | (rw [← hR]; simp [mCon, aS, aP, aT, po, ix, c4]; first | exact (zst_rp hs (zn8 c4).2).symm | (simp only [zu_zu]; exact (zst_rp hs (zn8 c4).2).symm))
set_option maxRecDepth 4000 in
theorem kX3_setRequest_ (γ : zG) (l : Launch) (n : Nat) (h : zH) (x : Nat) (σ : zS) (hx : h.1 x = some (zsw x)) (hs : zSt16 γ h (x + 1) σ) (p : Int32) (w : Int32) (R : Int32 × zS) (hR : mReq σ p w = R) : Con γ l (n + 3) 0 0 MX3_setRequest [.ref x, .int p, .int w] h (some (.int R.1)) (zps γ h (x + 1) R.2) := by
  refine Con.go (by decide +kernel) (Nat.le_of_ble_eq_true rfl) ⟨rfl, rfl, rfl, trivial⟩ ?_
  show Go _ 0 0 0 [some (.ref x), some (.int p), some (.int w), none, none] [] _
  refine go_iload_n dX3_setRequest_0 rfl ?_
  refine go_callSi dX3_setRequest_1 moX3_isPort csX3_59 (kX3_isPort γ l _ _ _) rfl rfl (Nat.le_refl _) (Nat.zero_le _) (Nat.zero_le _) (Nat.le_of_ble_eq_true rfl) ?_
  refine go_if_ne (tgt := 9) dX3_setRequest_4 (by decide) (fun c4 => ?_) (fun c4 => ?_)
  · replace c4 := zi_nz.mp c4
    refine go_aload_n dX3_setRequest_9 rfl ?_
    refine go_getf dX3_setRequest_10 flX3_10 (by first | exact zu_s _ _ _ | exact zst_port hs (zn8 c4).2 | exact hx | exact hs 0 (by decide) | exact hs 3 (by decide) | exact hs 1 (by decide) | exact hs 2 (by decide)) rfl ?_
    refine go_getf dX3_setRequest_13 flX3_62 (by first | exact zu_s _ _ _ | exact zst_port hs (zn8 c4).2 | exact hx | exact hs 0 (by decide) | exact hs 3 (by decide) | exact hs 1 (by decide) | exact hs 2 (by decide)) rfl ?_
    refine go_iload_n dX3_setRequest_16 rfl ?_
    refine go_ald (t0 := 2) (C := RX1) dX3_setRequest_17 (by first | exact zu_s _ _ _ | exact zst_port hs (zn8 c4).2 | exact hx | exact hs 0 (by decide) | exact hs 3 (by decide) | exact hs 1 (by decide) | exact hs 2 (by decide)) rfl (zin8 c4) rfl (zrf8 (zn8 c4).2) ?_
    refine go_astore_n dX3_setRequest_18 (Nat.le_of_ble_eq_true rfl) ?_
    refine go_aload_n dX3_setRequest_19 rfl ?_
    refine go_callVi (ci := 1) dX3_setRequest_20 moX1_hasRequest cvX3_108 ⟨rfl, rfl⟩ (kX1_hasRequest γ l _ _ _ _ (zst_port hs (zn8 c4).2)) (by exact zst_port hs (zn8 c4).2) rfl rfl (Nat.le_refl _) (Nat.zero_le _) (Nat.zero_le _) (Nat.le_of_ble_eq_true rfl) ?_
    refine go_if_ne (tgt := 29) dX3_setRequest_23 (by decide) (fun c23 => ?_) (fun c23 => ?_)
    · replace c23 := zi_nz.mp c23
      refine go_iload_n dX3_setRequest_29 rfl ?_
      refine go_iconst (v := 1) dX3_setRequest_30 (by decide) ?_
      refine go_aload_n dX3_setRequest_31 rfl ?_
      refine go_getf dX3_setRequest_32 flX3_92 (by first | exact zu_s _ _ _ | exact zst_port hs (zn8 c4).2 | exact hx | exact hs 0 (by decide) | exact hs 3 (by decide) | exact hs 1 (by decide) | exact hs 2 (by decide)) rfl ?_
      refine go_callSi dX3_setRequest_35 moX3_maximumOf csX3_98 (kX3_maximumOf γ l _ _ _) rfl rfl (Nat.le_refl _) (Nat.zero_le _) (Nat.zero_le _) (Nat.le_of_ble_eq_true rfl) ?_
      refine go_callSi dX3_setRequest_38 moX3_isWithin csX3_27 (kX3_isWithin γ l _ _ _ _ _) rfl rfl (Nat.le_refl _) (Nat.zero_le _) (Nat.zero_le _) (Nat.le_of_ble_eq_true rfl) ?_
      refine go_if_ne (tgt := 47) dX3_setRequest_41 (by decide) (fun c41 => ?_) (fun c41 => ?_)
      · replace c41 := zi_nz.mp c41
        refine go_aload_n dX3_setRequest_47 rfl ?_
        refine go_callVi (ci := 1) dX3_setRequest_48 moX1_isPowered cvX3_104 ⟨rfl, rfl⟩ (kX1_isPowered γ l _ _ _ _ (zst_port hs (zn8 c4).2)) (by exact zst_port hs (zn8 c4).2) rfl rfl (Nat.le_refl _) (Nat.zero_le _) (Nat.zero_le _) (Nat.le_of_ble_eq_true rfl) ?_
        refine go_if_eq (tgt := 87) dX3_setRequest_51 (by decide) (fun c51 => ?_) (fun c51 => ?_)
        · replace c51 := zi_0.mp c51
          refine go_aload_n dX3_setRequest_87 rfl ?_
          refine go_getf dX3_setRequest_88 flX3_101 (by first | exact zu_s _ _ _ | exact zst_port hs (zn8 c4).2 | exact hx | exact hs 0 (by decide) | exact hs 3 (by decide) | exact hs 1 (by decide) | exact hs 2 (by decide)) rfl ?_
          refine go_istore dX3_setRequest_91 (Nat.le_of_ble_eq_true rfl) ?_
          refine go_aload_n dX3_setRequest_93 rfl ?_
          refine go_iload_n dX3_setRequest_94 rfl ?_
          refine go_putf dX3_setRequest_95 flX3_101 fnX1_6 (by first | exact zu_s _ _ _ | exact zst_port hs (zn8 c4).2 | exact hx | exact hs 0 (by decide) | exact hs 3 (by decide) | exact hs 1 (by decide) | exact hs 2 (by decide)) rfl rfl (Nat.le_of_ble_eq_true rfl) ?_
          refine go_iload dX3_setRequest_98 rfl ?_
          refine go_iret dX3_setRequest_100 rfl ?_ ?_ (Nat.zero_le _) (Nat.zero_le _)
          · rw [← hR]; simp [mReq, aP, po, ix, c4, c23, c41, c51]
          · first | (rw [← hR]; simp [mReq, aS, aP, aT, po, ix, c4, c23, c41, c51]; exact zps_id hs) | (rw [← hR]; simp [mReq, aS, aP, aT, po, ix, c4, c23, c41, c51]; first | exact (zst_rp hs (zn8 c4).2).symm | (simp only [zu_zu]; exact (zst_rp hs (zn8 c4).2).symm))
        · replace c51 := zi_nz.mp c51
          refine go_iload_n dX3_setRequest_54 rfl ?_
          refine go_aload_n dX3_setRequest_55 rfl ?_
          refine go_getf dX3_setRequest_56 flX3_111 (by first | exact zu_s _ _ _ | exact zst_port hs (zn8 c4).2 | exact hx | exact hs 0 (by decide) | exact hs 3 (by decide) | exact hs 1 (by decide) | exact hs 2 (by decide)) rfl ?_
          refine go_isub dX3_setRequest_59 ?_
          refine go_istore dX3_setRequest_60 (Nat.le_of_ble_eq_true rfl) ?_
          refine go_iload dX3_setRequest_62 rfl ?_
          refine go_if_le (tgt := 82) dX3_setRequest_64 (by decide) (fun c64 => ?_) (fun c64 => ?_)
          · try simp only [zle] at c64
            try simp only [zle] at c76
            refine go_aload_n dX3_setRequest_82 rfl ?_
            refine go_iload_n dX3_setRequest_83 rfl ?_
            refine go_putf dX3_setRequest_84 flX3_111 fnX1_7 (by first | exact zu_s _ _ _ | exact zst_port hs (zn8 c4).2 | exact hx | exact hs 0 (by decide) | exact hs 3 (by decide) | exact hs 1 (by decide) | exact hs 2 (by decide)) rfl rfl (Nat.le_of_ble_eq_true rfl) ?_
            refine go_aload_n dX3_setRequest_87 rfl ?_
            refine go_getf dX3_setRequest_88 flX3_101 (by first | exact zu_s _ _ _ | exact zst_port hs (zn8 c4).2 | exact hx | exact hs 0 (by decide) | exact hs 3 (by decide) | exact hs 1 (by decide) | exact hs 2 (by decide)) rfl ?_
            refine go_istore dX3_setRequest_91 (Nat.le_of_ble_eq_true rfl) ?_
            refine go_aload_n dX3_setRequest_93 rfl ?_
            refine go_iload_n dX3_setRequest_94 rfl ?_
            refine go_putf dX3_setRequest_95 flX3_101 fnX1_6 (by first | exact zu_s _ _ _ | exact zst_port hs (zn8 c4).2 | exact hx | exact hs 0 (by decide) | exact hs 3 (by decide) | exact hs 1 (by decide) | exact hs 2 (by decide)) rfl rfl (Nat.le_of_ble_eq_true rfl) ?_
            refine go_iload dX3_setRequest_98 rfl ?_
            refine go_iret dX3_setRequest_100 rfl ?_ ?_ (Nat.zero_le _) (Nat.zero_le _)
            · rw [← hR]; simp [mReq, aP, po, ix, c4, c23, c41, c51, c64]
            · first | (rw [← hR]; simp [mReq, aS, aP, aT, po, ix, c4, c23, c41, c51, c64]; exact zps_id hs) | (rw [← hR]; simp [mReq, aS, aP, aT, po, ix, c4, c23, c41, c51, c64]; first | exact (zst_rp hs (zn8 c4).2).symm | (simp only [zu_zu]; exact (zst_rp hs (zn8 c4).2).symm))
          · simp only [zle, Classical.not_not] at c64
            refine go_iload dX3_setRequest_67 rfl ?_
            refine go_aload_n dX3_setRequest_69 rfl ?_
            refine go_getf dX3_setRequest_70 flX3_10 (by first | exact zu_s _ _ _ | exact zst_port hs (zn8 c4).2 | exact hx | exact hs 0 (by decide) | exact hs 3 (by decide) | exact hs 1 (by decide) | exact hs 2 (by decide)) rfl ?_
            refine go_callVi (ci := 2) dX3_setRequest_73 moX2_sparePower cvX3_56 ⟨rfl, rfl⟩ (kX2_sparePower γ l _ _ (x + 1) σ hs) (by exact hs 0 (by decide)) rfl rfl (Nat.le_refl _) (Nat.zero_le _) (Nat.zero_le _) (Nat.le_of_ble_eq_true rfl) ?_
            refine go_icmp_le (tgt := 82) dX3_setRequest_76 (by decide) (fun c76 => ?_) (fun c76 => ?_)
            · try simp only [zle] at c64
              try simp only [zle] at c76
              refine go_aload_n dX3_setRequest_82 rfl ?_
              refine go_iload_n dX3_setRequest_83 rfl ?_
              refine go_putf dX3_setRequest_84 flX3_111 fnX1_7 (by first | exact zu_s _ _ _ | exact zst_port hs (zn8 c4).2 | exact hx | exact hs 0 (by decide) | exact hs 3 (by decide) | exact hs 1 (by decide) | exact hs 2 (by decide)) rfl rfl (Nat.le_of_ble_eq_true rfl) ?_
              refine go_aload_n dX3_setRequest_87 rfl ?_
              refine go_getf dX3_setRequest_88 flX3_101 (by first | exact zu_s _ _ _ | exact zst_port hs (zn8 c4).2 | exact hx | exact hs 0 (by decide) | exact hs 3 (by decide) | exact hs 1 (by decide) | exact hs 2 (by decide)) rfl ?_
              refine go_istore dX3_setRequest_91 (Nat.le_of_ble_eq_true rfl) ?_
              refine go_aload_n dX3_setRequest_93 rfl ?_
              refine go_iload_n dX3_setRequest_94 rfl ?_
              refine go_putf dX3_setRequest_95 flX3_101 fnX1_6 (by first | exact zu_s _ _ _ | exact zst_port hs (zn8 c4).2 | exact hx | exact hs 0 (by decide) | exact hs 3 (by decide) | exact hs 1 (by decide) | exact hs 2 (by decide)) rfl rfl (Nat.le_of_ble_eq_true rfl) ?_
              refine go_iload dX3_setRequest_98 rfl ?_
              refine go_iret dX3_setRequest_100 rfl ?_ ?_ (Nat.zero_le _) (Nat.zero_le _)
              · rw [← hR]; simp [mReq, aP, po, ix, c4, c23, c41, c51, c64, c76]
              · first | (rw [← hR]; simp [mReq, aS, aP, aT, po, ix, c4, c23, c41, c51, c64, c76]; exact zps_id hs) | (rw [← hR]; simp [mReq, aS, aP, aT, po, ix, c4, c23, c41, c51, c64, c76]; first | exact (zst_rp hs (zn8 c4).2).symm | (simp only [zu_zu]; exact (zst_rp hs (zn8 c4).2).symm))
            · simp only [zle, Classical.not_not] at c76
              refine go_bipush (v := (-5)) dX3_setRequest_79 (by decide) ?_
              refine go_iret dX3_setRequest_81 rfl ?_ ?_ (Nat.zero_le _) (Nat.zero_le _)
              · rw [← hR]; simp [mReq, aP, po, ix, c4, c23, c41, c51, c64, c76]
              · first | (rw [← hR]; simp [mReq, aS, aP, aT, po, ix, c4, c23, c41, c51, c64, c76]; exact zps_id hs) | (rw [← hR]; simp [mReq, aS, aP, aT, po, ix, c4, c23, c41, c51, c64, c76]; first | exact (zst_rp hs (zn8 c4).2).symm | (simp only [zu_zu]; exact (zst_rp hs (zn8 c4).2).symm))
      · replace c41 := zi_0.mp c41
        refine go_bipush (v := (-2)) dX3_setRequest_44 (by decide) ?_
        refine go_iret dX3_setRequest_46 rfl ?_ ?_ (Nat.zero_le _) (Nat.zero_le _)
        · rw [← hR]; simp [mReq, aP, po, ix, c4, c23, c41]
        · first | (rw [← hR]; simp [mReq, aS, aP, aT, po, ix, c4, c23, c41]; exact zps_id hs) | (rw [← hR]; simp [mReq, aS, aP, aT, po, ix, c4, c23, c41]; first | exact (zst_rp hs (zn8 c4).2).symm | (simp only [zu_zu]; exact (zst_rp hs (zn8 c4).2).symm))
    · replace c23 := zi_0.mp c23
      refine go_bipush (v := (-3)) dX3_setRequest_26 (by decide) ?_
      refine go_iret dX3_setRequest_28 rfl ?_ ?_ (Nat.zero_le _) (Nat.zero_le _)
      · rw [← hR]; simp [mReq, aP, po, ix, c4, c23]
      · first | (rw [← hR]; simp [mReq, aS, aP, aT, po, ix, c4, c23]; exact zps_id hs) | (rw [← hR]; simp [mReq, aS, aP, aT, po, ix, c4, c23]; first | exact (zst_rp hs (zn8 c4).2).symm | (simp only [zu_zu]; exact (zst_rp hs (zn8 c4).2).symm))
  · replace c4 := zi_0.mp c4
    refine go_iconst (v := (-1)) dX3_setRequest_7 (by decide) ?_
    refine go_iret dX3_setRequest_8 rfl ?_ ?_ (Nat.zero_le _) (Nat.zero_le _)
    · rw [← hR]; simp [mReq, aP, po, ix, c4]
    · first | (rw [← hR]; simp [mReq, aS, aP, aT, po, ix, c4]; exact zps_id hs) | (rw [← hR]; simp [mReq, aS, aP, aT, po, ix, c4]; first | exact (zst_rp hs (zn8 c4).2).symm | (simp only [zu_zu]; exact (zst_rp hs (zn8 c4).2).symm))
set_option maxRecDepth 4000 in
theorem kX3_request (γ : zG) (l : Launch) (n : Nat) (h : zH) (x : Nat) (σ : zS) (hx : h.1 x = some (zsw x)) (hs : zSt16 γ h (x + 1) σ) (p : Int32) : Con γ l (n + 2) 0 0 MX3_request [.ref x, .int p] h (some (.int (mRqt σ p))) h := by
  refine Con.go (by decide +kernel) (Nat.le_of_ble_eq_true rfl) ⟨rfl, rfl, trivial⟩ ?_
  show Go _ 0 0 0 [some (.ref x), some (.int p), none] [] _
  refine go_iload_n dX3_request_0 rfl ?_
  refine go_callSi dX3_request_1 moX3_isPort csX3_59 (kX3_isPort γ l _ _ _) rfl rfl (Nat.le_refl _) (Nat.zero_le _) (Nat.zero_le _) (Nat.le_of_ble_eq_true rfl) ?_
  refine go_if_ne (tgt := 9) dX3_request_4 (by decide) (fun c4 => ?_) (fun c4 => ?_)
  · replace c4 := zi_nz.mp c4
    refine go_aload_n dX3_request_9 rfl ?_
    refine go_getf dX3_request_10 flX3_10 (by first | exact zu_s _ _ _ | exact zst_port hs (zn8 c4).2 | exact hx | exact hs 0 (by decide) | exact hs 3 (by decide) | exact hs 1 (by decide) | exact hs 2 (by decide)) rfl ?_
    refine go_getf dX3_request_13 flX3_62 (by first | exact zu_s _ _ _ | exact zst_port hs (zn8 c4).2 | exact hx | exact hs 0 (by decide) | exact hs 3 (by decide) | exact hs 1 (by decide) | exact hs 2 (by decide)) rfl ?_
    refine go_iload_n dX3_request_16 rfl ?_
    refine go_ald (t0 := 2) (C := RX1) dX3_request_17 (by first | exact zu_s _ _ _ | exact zst_port hs (zn8 c4).2 | exact hx | exact hs 0 (by decide) | exact hs 3 (by decide) | exact hs 1 (by decide) | exact hs 2 (by decide)) rfl (zin8 c4) rfl (zrf8 (zn8 c4).2) ?_
    refine go_astore_n dX3_request_18 (Nat.le_of_ble_eq_true rfl) ?_
    refine go_aload_n dX3_request_19 rfl ?_
    refine go_callVi (ci := 1) dX3_request_20 moX1_hasRequest cvX3_108 ⟨rfl, rfl⟩ (kX1_hasRequest γ l _ _ _ _ (zst_port hs (zn8 c4).2)) (by exact zst_port hs (zn8 c4).2) rfl rfl (Nat.le_refl _) (Nat.zero_le _) (Nat.zero_le _) (Nat.le_of_ble_eq_true rfl) ?_
    refine go_if_eq (tgt := 33) dX3_request_23 (by decide) (fun c23 => ?_) (fun c23 => ?_)
    · replace c23 := zi_0.mp c23
      refine go_bipush (v := (-6)) dX3_request_33 (by decide) ?_
      refine go_iret dX3_request_35 rfl ?_ ?_ (Nat.zero_le _) (Nat.zero_le _)
      · simp [mRqt, aP, po, ix, c4, c23]
      · rfl
    · replace c23 := zi_nz.mp c23
      refine go_aload_n dX3_request_26 rfl ?_
      refine go_getf dX3_request_27 flX3_101 (by first | exact zu_s _ _ _ | exact zst_port hs (zn8 c4).2 | exact hx | exact hs 0 (by decide) | exact hs 3 (by decide) | exact hs 1 (by decide) | exact hs 2 (by decide)) rfl ?_
      refine go_goto (tgt := 35) dX3_request_30 (by decide) ?_
      refine go_iret dX3_request_35 rfl ?_ ?_ (Nat.zero_le _) (Nat.zero_le _)
      · simp [mRqt, aP, po, ix, c4, c23]
      · rfl
  · replace c4 := zi_0.mp c4
    refine go_iconst (v := (-1)) dX3_request_7 (by decide) ?_
    refine go_iret dX3_request_8 rfl ?_ ?_ (Nat.zero_le _) (Nat.zero_le _)
    · simp [mRqt, aP, po, ix, c4]
    · rfl
set_option maxRecDepth 4000 in
theorem kX3_grant (γ : zG) (l : Launch) (n : Nat) (h : zH) (x : Nat) (σ : zS) (hx : h.1 x = some (zsw x)) (hs : zSt16 γ h (x + 1) σ) (p : Int32) : Con γ l (n + 2) 0 0 MX3_grant [.ref x, .int p] h (some (.int (mFld σ 7 p))) h := by
  refine Con.go (by decide +kernel) (Nat.le_of_ble_eq_true rfl) ⟨rfl, rfl, trivial⟩ ?_
  show Go _ 0 0 0 [some (.ref x), some (.int p)] [] _
  refine go_iload_n dX3_grant_0 rfl ?_
  refine go_callSi dX3_grant_1 moX3_isPort csX3_59 (kX3_isPort γ l _ _ _) rfl rfl (Nat.le_refl _) (Nat.zero_le _) (Nat.zero_le _) (Nat.le_of_ble_eq_true rfl) ?_
  refine go_if_eq (tgt := 22) dX3_grant_4 (by decide) (fun c4 => ?_) (fun c4 => ?_)
  · replace c4 := zi_0.mp c4
    refine go_iconst (v := (-1)) dX3_grant_22 (by decide) ?_
    refine go_iret dX3_grant_23 rfl ?_ ?_ (Nat.zero_le _) (Nat.zero_le _)
    · simp [mFld, aP, po, ix, c4]
    · rfl
  · replace c4 := zi_nz.mp c4
    refine go_aload_n dX3_grant_7 rfl ?_
    refine go_getf dX3_grant_8 flX3_10 (by first | exact zu_s _ _ _ | exact zst_port hs (zn8 c4).2 | exact hx | exact hs 0 (by decide) | exact hs 3 (by decide) | exact hs 1 (by decide) | exact hs 2 (by decide)) rfl ?_
    refine go_getf dX3_grant_11 flX3_62 (by first | exact zu_s _ _ _ | exact zst_port hs (zn8 c4).2 | exact hx | exact hs 0 (by decide) | exact hs 3 (by decide) | exact hs 1 (by decide) | exact hs 2 (by decide)) rfl ?_
    refine go_iload_n dX3_grant_14 rfl ?_
    refine go_ald (t0 := 2) (C := RX1) dX3_grant_15 (by first | exact zu_s _ _ _ | exact zst_port hs (zn8 c4).2 | exact hx | exact hs 0 (by decide) | exact hs 3 (by decide) | exact hs 1 (by decide) | exact hs 2 (by decide)) rfl (zin8 c4) rfl (zrf8 (zn8 c4).2) ?_
    refine go_getf dX3_grant_16 flX3_111 (by first | exact zu_s _ _ _ | exact zst_port hs (zn8 c4).2 | exact hx | exact hs 0 (by decide) | exact hs 3 (by decide) | exact hs 1 (by decide) | exact hs 2 (by decide)) rfl ?_
    refine go_goto (tgt := 23) dX3_grant_19 (by decide) ?_
    refine go_iret dX3_grant_23 rfl ?_ ?_ (Nat.zero_le _) (Nat.zero_le _)
    · simp [mFld, aP, po, ix, c4]
    · rfl
set_option maxRecDepth 4000 in
theorem kX3_overload (γ : zG) (l : Launch) (n : Nat) (h : zH) (x : Nat) (σ : zS) (hx : h.1 x = some (zsw x)) (hs : zSt16 γ h (x + 1) σ) (p : Int32) : Con γ l (n + 2) 0 0 MX3_overload [.ref x, .int p] h (some (.int (mFld σ 8 p))) h := by
  refine Con.go (by decide +kernel) (Nat.le_of_ble_eq_true rfl) ⟨rfl, rfl, trivial⟩ ?_
  show Go _ 0 0 0 [some (.ref x), some (.int p)] [] _
  refine go_iload_n dX3_overload_0 rfl ?_
  refine go_callSi dX3_overload_1 moX3_isPort csX3_59 (kX3_isPort γ l _ _ _) rfl rfl (Nat.le_refl _) (Nat.zero_le _) (Nat.zero_le _) (Nat.le_of_ble_eq_true rfl) ?_
  refine go_if_eq (tgt := 22) dX3_overload_4 (by decide) (fun c4 => ?_) (fun c4 => ?_)
  · replace c4 := zi_0.mp c4
    refine go_iconst (v := (-1)) dX3_overload_22 (by decide) ?_
    refine go_iret dX3_overload_23 rfl ?_ ?_ (Nat.zero_le _) (Nat.zero_le _)
    · simp [mFld, aP, po, ix, c4]
    · rfl
  · replace c4 := zi_nz.mp c4
    refine go_aload_n dX3_overload_7 rfl ?_
    refine go_getf dX3_overload_8 flX3_10 (by first | exact zu_s _ _ _ | exact zst_port hs (zn8 c4).2 | exact hx | exact hs 0 (by decide) | exact hs 3 (by decide) | exact hs 1 (by decide) | exact hs 2 (by decide)) rfl ?_
    refine go_getf dX3_overload_11 flX3_62 (by first | exact zu_s _ _ _ | exact zst_port hs (zn8 c4).2 | exact hx | exact hs 0 (by decide) | exact hs 3 (by decide) | exact hs 1 (by decide) | exact hs 2 (by decide)) rfl ?_
    refine go_iload_n dX3_overload_14 rfl ?_
    refine go_ald (t0 := 2) (C := RX1) dX3_overload_15 (by first | exact zu_s _ _ _ | exact zst_port hs (zn8 c4).2 | exact hx | exact hs 0 (by decide) | exact hs 3 (by decide) | exact hs 1 (by decide) | exact hs 2 (by decide)) rfl (zin8 c4) rfl (zrf8 (zn8 c4).2) ?_
    refine go_getf dX3_overload_16 flX3_120 (by first | exact zu_s _ _ _ | exact zst_port hs (zn8 c4).2 | exact hx | exact hs 0 (by decide) | exact hs 3 (by decide) | exact hs 1 (by decide) | exact hs 2 (by decide)) rfl ?_
    refine go_goto (tgt := 23) dX3_overload_19 (by decide) ?_
    refine go_iret dX3_overload_23 rfl ?_ ?_ (Nat.zero_le _) (Nat.zero_le _)
    · simp [mFld, aP, po, ix, c4]
    · rfl
set_option maxRecDepth 4000 in
theorem kX3_cooldown (γ : zG) (l : Launch) (n : Nat) (h : zH) (x : Nat) (σ : zS) (hx : h.1 x = some (zsw x)) (hs : zSt16 γ h (x + 1) σ) (p : Int32) : Con γ l (n + 2) 0 0 MX3_cooldown [.ref x, .int p] h (some (.int (mFld σ 9 p))) h := by
  refine Con.go (by decide +kernel) (Nat.le_of_ble_eq_true rfl) ⟨rfl, rfl, trivial⟩ ?_
  show Go _ 0 0 0 [some (.ref x), some (.int p)] [] _
  refine go_iload_n dX3_cooldown_0 rfl ?_
  refine go_callSi dX3_cooldown_1 moX3_isPort csX3_59 (kX3_isPort γ l _ _ _) rfl rfl (Nat.le_refl _) (Nat.zero_le _) (Nat.zero_le _) (Nat.le_of_ble_eq_true rfl) ?_
  refine go_if_eq (tgt := 22) dX3_cooldown_4 (by decide) (fun c4 => ?_) (fun c4 => ?_)
  · replace c4 := zi_0.mp c4
    refine go_iconst (v := (-1)) dX3_cooldown_22 (by decide) ?_
    refine go_iret dX3_cooldown_23 rfl ?_ ?_ (Nat.zero_le _) (Nat.zero_le _)
    · simp [mFld, aP, po, ix, c4]
    · rfl
  · replace c4 := zi_nz.mp c4
    refine go_aload_n dX3_cooldown_7 rfl ?_
    refine go_getf dX3_cooldown_8 flX3_10 (by first | exact zu_s _ _ _ | exact zst_port hs (zn8 c4).2 | exact hx | exact hs 0 (by decide) | exact hs 3 (by decide) | exact hs 1 (by decide) | exact hs 2 (by decide)) rfl ?_
    refine go_getf dX3_cooldown_11 flX3_62 (by first | exact zu_s _ _ _ | exact zst_port hs (zn8 c4).2 | exact hx | exact hs 0 (by decide) | exact hs 3 (by decide) | exact hs 1 (by decide) | exact hs 2 (by decide)) rfl ?_
    refine go_iload_n dX3_cooldown_14 rfl ?_
    refine go_ald (t0 := 2) (C := RX1) dX3_cooldown_15 (by first | exact zu_s _ _ _ | exact zst_port hs (zn8 c4).2 | exact hx | exact hs 0 (by decide) | exact hs 3 (by decide) | exact hs 1 (by decide) | exact hs 2 (by decide)) rfl (zin8 c4) rfl (zrf8 (zn8 c4).2) ?_
    refine go_getf dX3_cooldown_16 flX3_123 (by first | exact zu_s _ _ _ | exact zst_port hs (zn8 c4).2 | exact hx | exact hs 0 (by decide) | exact hs 3 (by decide) | exact hs 1 (by decide) | exact hs 2 (by decide)) rfl ?_
    refine go_goto (tgt := 23) dX3_cooldown_19 (by decide) ?_
    refine go_iret dX3_cooldown_23 rfl ?_ ?_ (Nat.zero_le _) (Nat.zero_le _)
    · simp [mFld, aP, po, ix, c4]
    · rfl
set_option maxRecDepth 4000 in
theorem kX3_clock (γ : zG) (l : Launch) (n : Nat) (h : zH) (x : Nat) (σ : zS) (hx : h.1 x = some (zsw x)) (hs : zSt16 γ h (x + 1) σ) : Con γ l (n) 0 0 MX3_clock [.ref x] h (some (.int (σ 2 5))) h := by
  refine Con.go (by decide +kernel) (Nat.le_of_ble_eq_true rfl) ⟨rfl, trivial⟩ ?_
  show Go _ 0 0 0 [some (.ref x)] [] _
  refine go_aload_n dX3_clock_0 rfl ?_
  refine go_getf dX3_clock_1 flX3_10 (by first | exact hx | exact hs 0 (by decide) | exact hs 4 (by decide)) rfl ?_
  refine go_getf dX3_clock_4 flX3_129 (by first | exact hx | exact hs 0 (by decide) | exact hs 4 (by decide)) rfl ?_
  refine go_iret dX3_clock_7 rfl ?_ ?_ (Nat.zero_le _) (Nat.zero_le _)
  · rfl
  · rfl
set_option maxRecDepth 4000 in
theorem kX3_eventCount (γ : zG) (l : Launch) (n : Nat) (h : zH) (x : Nat) (σ : zS) (hx : h.1 x = some (zsw x)) (hs : zSt16 γ h (x + 1) σ) : Con γ l (n) 0 0 MX3_eventCount [.ref x] h (some (.int (σ 6 1))) h := by
  refine Con.go (by decide +kernel) (Nat.le_of_ble_eq_true rfl) ⟨rfl, trivial⟩ ?_
  show Go _ 0 0 0 [some (.ref x)] [] _
  refine go_aload_n dX3_eventCount_0 rfl ?_
  refine go_getf dX3_eventCount_1 flX3_10 (by first | exact hx | exact hs 0 (by decide) | exact hs 4 (by decide)) rfl ?_
  refine go_getf dX3_eventCount_4 flX3_132 (by first | exact hx | exact hs 0 (by decide) | exact hs 4 (by decide)) rfl ?_
  refine go_getf dX3_eventCount_7 flX3_136 (by first | exact hx | exact hs 0 (by decide) | exact hs 4 (by decide)) rfl ?_
  refine go_iret dX3_eventCount_10 rfl ?_ ?_ (Nat.zero_le _) (Nat.zero_le _)
  · rfl
  · rfl
theorem zev {σ : zS} {i : Int32} (hok : sOk σ) (hi : 0 ≤ i ∧ i < σ 6 1) : σ 6 0 + i = nI ((σ 6 0).toNatClampNeg + ix i) ∧ (σ 6 0).toNatClampNeg + ix i < 2 ^ 31 ∧ i = nI (ix i) ∧ ix i < (σ 6 1).toNatClampNeg := by
  obtain ⟨ho, hc, h0, h1⟩ := hok
  generalize (σ 6 0).toNatClampNeg = o at ho h0 ⊢
  generalize (σ 6 1).toNatClampNeg = c at hc h1 ⊢
  have h0 : σ 6 0 = nI o := h0
  have h1 : σ 6 1 = nI c := h1
  rw [h1] at hi
  have hn : ¬ i < 0 := zle.mp hi.1
  obtain ⟨j, hj, e⟩ := nI_of hn
  have hcj : ix i = j := by rw [e]; exact nI_clamp hj
  rw [hcj]
  have hjc : j < c := by
    have := hi.2
    rw [e] at this
    exact (nI_ltI hj (by omega)).mp this
  exact ⟨by rw [h0, e, nI_add], by omega, e, hjc⟩
set_option maxRecDepth 4000 in
theorem kX3_eventTime (γ : zG) (l : Launch) (n : Nat) (h : zH) (x : Nat) (σ : zS) (hx : h.1 x = some (zsw x)) (hs : zSt16 γ h (x + 1) σ) (hok : sOk σ) (i : Int32) : Con γ l (n + 2) 0 0 MX3_eventTime [.ref x, .int i] h (some (.int (mEvt σ 0 i))) h := by
  refine Con.go (by decide +kernel) (Nat.le_of_ble_eq_true rfl) ⟨rfl, rfl, trivial⟩ ?_
  show Go _ 0 0 0 [some (.ref x), some (.int i), none] [] _
  refine go_aload_n dX3_eventTime_0 rfl ?_
  refine go_getf dX3_eventTime_1 flX3_10 (by first | exact hx | exact hs 0 (by decide)) rfl ?_
  refine go_getf dX3_eventTime_4 flX3_132 (by first | exact hx | exact hs 0 (by decide)) rfl ?_
  refine go_astore_n dX3_eventTime_7 (Nat.le_of_ble_eq_true rfl) ?_
  refine go_aload_n dX3_eventTime_8 rfl ?_
  refine go_iload_n dX3_eventTime_9 rfl ?_
  refine go_callVi (ci := 0) dX3_eventTime_10 moX0_holds cvX3_141 ⟨rfl, rfl⟩ (kX0_holds γ l _ _ (x + 1 + 4) (fun c => σ (3 + c)) (zst_log hs) _) (by exact hs 4 (by decide)) rfl rfl (Nat.le_refl _) (Nat.zero_le _) (Nat.zero_le _) (Nat.le_of_ble_eq_true rfl) ?_
  refine go_if_eq (tgt := 29) dX3_eventTime_13 (by decide) (fun c13 => ?_) (fun c13 => ?_)
  · replace c13 := zi_0.mp c13
    refine go_iconst (v := (-1)) dX3_eventTime_29 (by decide) ?_
    refine go_iret dX3_eventTime_30 rfl ?_ ?_ (Nat.zero_le _) (Nat.zero_le _)
    · first | exact congrArg (fun v => some (Value.int v)) (if_pos c13) | exact congrArg (fun v => some (Value.int v)) (if_neg c13)
    · rfl
  · replace c13 := zi_nz.mp c13
    refine go_aload_n dX3_eventTime_16 rfl ?_
    refine go_getf dX3_eventTime_17 flX3_144 (by exact hs 4 (by decide)) rfl ?_
    refine go_aload_n dX3_eventTime_20 rfl ?_
    refine go_iload_n dX3_eventTime_21 rfl ?_
    refine go_callVi (ci := 0) dX3_eventTime_22 moX0_placeOf cvX3_147 ⟨rfl, rfl⟩ (kX0_placeOf γ l _ _ (x + 1 + 4) (fun c => σ (3 + c)) (zst_log hs) _ _ (zev hok c13).1 (zev hok c13).2.1) (by exact hs 4 (by decide)) rfl rfl (Nat.le_refl _) (Nat.zero_le _) (Nat.zero_le _) (Nat.le_of_ble_eq_true rfl) ?_
    refine go_iald dX3_eventTime_25 (by exact zst_log hs 1 (by decide)) (zix rfl (Nat.mod_lt _ (by decide)) (by decide)).1 (zix rfl (Nat.mod_lt _ (by decide)) (by decide)).2 ?_
    refine go_goto (tgt := 30) dX3_eventTime_26 (by decide) ?_
    refine go_iret dX3_eventTime_30 rfl ?_ ?_ (Nat.zero_le _) (Nat.zero_le _)
    · first | exact congrArg (fun v => some (Value.int v)) (if_pos c13) | exact congrArg (fun v => some (Value.int v)) (if_neg c13)
    · rfl
set_option maxRecDepth 4000 in
theorem kX3_eventPort (γ : zG) (l : Launch) (n : Nat) (h : zH) (x : Nat) (σ : zS) (hx : h.1 x = some (zsw x)) (hs : zSt16 γ h (x + 1) σ) (hok : sOk σ) (i : Int32) : Con γ l (n + 2) 0 0 MX3_eventPort [.ref x, .int i] h (some (.int (mEvt σ 1 i))) h := by
  refine Con.go (by decide +kernel) (Nat.le_of_ble_eq_true rfl) ⟨rfl, rfl, trivial⟩ ?_
  show Go _ 0 0 0 [some (.ref x), some (.int i), none] [] _
  refine go_aload_n dX3_eventPort_0 rfl ?_
  refine go_getf dX3_eventPort_1 flX3_10 (by first | exact hx | exact hs 0 (by decide)) rfl ?_
  refine go_getf dX3_eventPort_4 flX3_132 (by first | exact hx | exact hs 0 (by decide)) rfl ?_
  refine go_astore_n dX3_eventPort_7 (Nat.le_of_ble_eq_true rfl) ?_
  refine go_aload_n dX3_eventPort_8 rfl ?_
  refine go_iload_n dX3_eventPort_9 rfl ?_
  refine go_callVi (ci := 0) dX3_eventPort_10 moX0_holds cvX3_141 ⟨rfl, rfl⟩ (kX0_holds γ l _ _ (x + 1 + 4) (fun c => σ (3 + c)) (zst_log hs) _) (by exact hs 4 (by decide)) rfl rfl (Nat.le_refl _) (Nat.zero_le _) (Nat.zero_le _) (Nat.le_of_ble_eq_true rfl) ?_
  refine go_if_eq (tgt := 29) dX3_eventPort_13 (by decide) (fun c13 => ?_) (fun c13 => ?_)
  · replace c13 := zi_0.mp c13
    refine go_iconst (v := (-1)) dX3_eventPort_29 (by decide) ?_
    refine go_iret dX3_eventPort_30 rfl ?_ ?_ (Nat.zero_le _) (Nat.zero_le _)
    · first | exact congrArg (fun v => some (Value.int v)) (if_pos c13) | exact congrArg (fun v => some (Value.int v)) (if_neg c13)
    · rfl
  · replace c13 := zi_nz.mp c13
    refine go_aload_n dX3_eventPort_16 rfl ?_
    refine go_getf dX3_eventPort_17 flX3_150 (by exact hs 4 (by decide)) rfl ?_
    refine go_aload_n dX3_eventPort_20 rfl ?_
    refine go_iload_n dX3_eventPort_21 rfl ?_
    refine go_callVi (ci := 0) dX3_eventPort_22 moX0_placeOf cvX3_147 ⟨rfl, rfl⟩ (kX0_placeOf γ l _ _ (x + 1 + 4) (fun c => σ (3 + c)) (zst_log hs) _ _ (zev hok c13).1 (zev hok c13).2.1) (by exact hs 4 (by decide)) rfl rfl (Nat.le_refl _) (Nat.zero_le _) (Nat.zero_le _) (Nat.le_of_ble_eq_true rfl) ?_
    refine go_iald dX3_eventPort_25 (by exact zst_log hs 2 (by decide)) (zix rfl (Nat.mod_lt _ (by decide)) (by decide)).1 (zix rfl (Nat.mod_lt _ (by decide)) (by decide)).2 ?_
    refine go_goto (tgt := 30) dX3_eventPort_26 (by decide) ?_
    refine go_iret dX3_eventPort_30 rfl ?_ ?_ (Nat.zero_le _) (Nat.zero_le _)
    · first | exact congrArg (fun v => some (Value.int v)) (if_pos c13) | exact congrArg (fun v => some (Value.int v)) (if_neg c13)
    · rfl
set_option maxRecDepth 4000 in
theorem kX3_eventKind (γ : zG) (l : Launch) (n : Nat) (h : zH) (x : Nat) (σ : zS) (hx : h.1 x = some (zsw x)) (hs : zSt16 γ h (x + 1) σ) (hok : sOk σ) (i : Int32) : Con γ l (n + 2) 0 0 MX3_eventKind [.ref x, .int i] h (some (.int (mEvt σ 2 i))) h := by
  refine Con.go (by decide +kernel) (Nat.le_of_ble_eq_true rfl) ⟨rfl, rfl, trivial⟩ ?_
  show Go _ 0 0 0 [some (.ref x), some (.int i), none] [] _
  refine go_aload_n dX3_eventKind_0 rfl ?_
  refine go_getf dX3_eventKind_1 flX3_10 (by first | exact hx | exact hs 0 (by decide)) rfl ?_
  refine go_getf dX3_eventKind_4 flX3_132 (by first | exact hx | exact hs 0 (by decide)) rfl ?_
  refine go_astore_n dX3_eventKind_7 (Nat.le_of_ble_eq_true rfl) ?_
  refine go_aload_n dX3_eventKind_8 rfl ?_
  refine go_iload_n dX3_eventKind_9 rfl ?_
  refine go_callVi (ci := 0) dX3_eventKind_10 moX0_holds cvX3_141 ⟨rfl, rfl⟩ (kX0_holds γ l _ _ (x + 1 + 4) (fun c => σ (3 + c)) (zst_log hs) _) (by exact hs 4 (by decide)) rfl rfl (Nat.le_refl _) (Nat.zero_le _) (Nat.zero_le _) (Nat.le_of_ble_eq_true rfl) ?_
  refine go_if_eq (tgt := 29) dX3_eventKind_13 (by decide) (fun c13 => ?_) (fun c13 => ?_)
  · replace c13 := zi_0.mp c13
    refine go_iconst (v := (-1)) dX3_eventKind_29 (by decide) ?_
    refine go_iret dX3_eventKind_30 rfl ?_ ?_ (Nat.zero_le _) (Nat.zero_le _)
    · first | exact congrArg (fun v => some (Value.int v)) (if_pos c13) | exact congrArg (fun v => some (Value.int v)) (if_neg c13)
    · rfl
  · replace c13 := zi_nz.mp c13
    refine go_aload_n dX3_eventKind_16 rfl ?_
    refine go_getf dX3_eventKind_17 flX3_152 (by exact hs 4 (by decide)) rfl ?_
    refine go_aload_n dX3_eventKind_20 rfl ?_
    refine go_iload_n dX3_eventKind_21 rfl ?_
    refine go_callVi (ci := 0) dX3_eventKind_22 moX0_placeOf cvX3_147 ⟨rfl, rfl⟩ (kX0_placeOf γ l _ _ (x + 1 + 4) (fun c => σ (3 + c)) (zst_log hs) _ _ (zev hok c13).1 (zev hok c13).2.1) (by exact hs 4 (by decide)) rfl rfl (Nat.le_refl _) (Nat.zero_le _) (Nat.zero_le _) (Nat.le_of_ble_eq_true rfl) ?_
    refine go_iald dX3_eventKind_25 (by exact zst_log hs 3 (by decide)) (zix rfl (Nat.mod_lt _ (by decide)) (by decide)).1 (zix rfl (Nat.mod_lt _ (by decide)) (by decide)).2 ?_
    refine go_goto (tgt := 30) dX3_eventKind_26 (by decide) ?_
    refine go_iret dX3_eventKind_30 rfl ?_ ?_ (Nat.zero_le _) (Nat.zero_le _)
    · first | exact congrArg (fun v => some (Value.int v)) (if_pos c13) | exact congrArg (fun v => some (Value.int v)) (if_neg c13)
    · rfl
