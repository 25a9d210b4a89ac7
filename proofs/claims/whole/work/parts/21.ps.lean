/-! PoeSwitch: methods that touch its state alone -/
def zsw (x : Nat) : va_E := .inr (3, [.ref (x + 1), .ref (x + 17), .ref (x + 33)])
abbrev aP (p : Int32) : Prop := 0 ≤ p ∧ p ≤ 7
abbrev aS (p : Int32) : Prop := 0 ≤ p ∧ p ≤ 2
abbrev aT (p : Int32) : Prop := 0 ≤ p ∧ p ≤ 1
abbrev ix (p : Int32) : Nat := p.toNatClampNeg
def mCap (σ : zS) (s c : Int32) : Int32 × zS := if aS s then (if 0 ≤ c ∧ c ≤ 3000 then (σ 0 (ix s), up2 σ 0 (ix s) c) else (-2, σ)) else (-1, σ)
def mWrk (σ : zS) (s w : Int32) : Int32 × zS := if aS s then (zi (¬ σ 1 (ix s) = 0), up2 σ 1 (ix s) w) else (-1, σ)
def mRow (σ : zS) (i : Nat) (lo hi v : Int32) : Int32 × zS := if lo ≤ v ∧ v ≤ hi then (σ 2 i, up2 σ 2 i v) else (-2, σ)
def upP (σ : zS) (p : Int32) (f : Nat → Int32) : zS := upR σ (7 + ix p) f
abbrev po (σ : zS) (p : Int32) : Nat → Int32 := σ (7 + ix p)
def mEna (σ : zS) (p b : Int32) : Int32 × zS := if aP p then (zi (¬ po σ p 0 = 0), if b = 0 then upP σ p (upd (upd (upd (upd (po σ p) 0 b) 7 0) 8 0) 9 0) else upP σ p (upd (po σ p) 0 b)) else (-1, σ)
def mPri (σ : zS) (p q : Int32) : Int32 × zS := if aP p then (if 0 ≤ q ∧ q ≤ 2 then (po σ p 1, upP σ p (upd (po σ p) 1 q)) else (-2, σ)) else (-1, σ)
def mCon (σ : zS) (p r c i w : Int32) : Int32 × zS := if aP p then (if (1 ≤ r ∧ r ≤ 999) ∧ (0 ≤ c ∧ c ≤ 99) ∧ (0 ≤ i ∧ i ≤ 60) ∧ (0 ≤ w ∧ w ≤ 999) then (if po σ p 2 = 0 then (clF i 5 0, upP σ p (upd (upd (upd (upd (upd (po σ p) 2 1) 3 (zi ((190 ≤ r ∧ r ≤ 265) ∧ c ≤ 15))) 4 (clF i 5 0)) 5 w) 6 (mxF (clF i 5 0)))) else (-3, σ)) else (-2, σ)) else (-1, σ)
def mDis (σ : zS) (p : Int32) : Int32 × zS := if aP p then (if po σ p 2 = 0 then (-3, σ) else (zi (0 < po σ p 7), upP σ p (upd (upd (upd (upd (po σ p) 2 0) 7 0) 8 0) 9 0))) else (-1, σ)
def mLoa (σ : zS) (p w : Int32) : Int32 × zS := if aP p then (if 0 ≤ w ∧ w ≤ 999 then (if po σ p 2 = 0 then (-3, σ) else (po σ p 5, upP σ p (upd (po σ p) 5 w))) else (-2, σ)) else (-1, σ)
def mReq (σ : zS) (p w : Int32) : Int32 × zS := if aP p then (if ¬ po σ p 2 = 0 ∧ ¬ po σ p 4 = -6 then (if 1 ≤ w ∧ w ≤ mxF (po σ p 4) then (if 0 < po σ p 7 then (if 0 < w - po σ p 7 ∧ sSp σ 8 < w - po σ p 7 then (-5, σ) else (po σ p 6, upP σ p (upd (upd (po σ p) 7 w) 6 w))) else (po σ p 6, upP σ p (upd (po σ p) 6 w))) else (-2, σ)) else (-3, σ)) else (-1, σ)
def mRqt (σ : zS) (p : Int32) : Int32 := if aP p then (if ¬ po σ p 2 = 0 ∧ ¬ po σ p 4 = -6 then po σ p 6 else -6) else -1
def mFld (σ : zS) (k : Nat) (p : Int32) : Int32 := if aP p then po σ p k else -1
def mEvt (σ : zS) (k : Nat) (i : Int32) : Int32 := if 0 ≤ i ∧ i < σ 6 1 then σ (3 + k) (((σ 6 0).toNatClampNeg + ix i) % 16) else -1
set_option maxRecDepth 4000 in
theorem kX3_setCapacity_ (γ : zG) (l : Launch) (n : Nat) (h : zH) (x : Nat) (σ : zS) (hx : h.1 x = some (zsw x)) (hs : zSt16 γ h (x + 1) σ) (s : Int32) (c : Int32) (R : Int32 × zS) (hR : mCap σ s c = R) : Con γ l (n + 2) 0 0 MX3_setCapacity [.ref x, .int s, .int c] h (some (.int R.1)) (zps γ h (x + 1) R.2) := by
  refine Con.go (by decide +kernel) (Nat.le_of_ble_eq_true rfl) ⟨rfl, rfl, rfl, trivial⟩ ?_
  show Go _ 0 0 0 [some (.ref x), some (.int s), some (.int c), none] [] _
  refine go_iload_n dX3_setCapacity_0 rfl ?_
  refine go_callSi dX3_setCapacity_1 moX3_isSupply csX3_23 (kX3_isSupply γ l _ _ _) rfl rfl (Nat.le_refl _) (Nat.zero_le _) (Nat.zero_le _) (Nat.le_of_ble_eq_true rfl) ?_
  refine go_if_ne (tgt := 9) dX3_setCapacity_4 (by decide) (fun c4 => ?_) (fun c4 => ?_)
  · replace c4 := zi_nz.mp c4
    refine go_iload_n dX3_setCapacity_9 rfl ?_
    refine go_iconst (v := 0) dX3_setCapacity_10 (by decide) ?_
    refine go_sipush (v := 3000) dX3_setCapacity_11 (by decide) ?_
    refine go_callSi dX3_setCapacity_14 moX3_isWithin csX3_27 (kX3_isWithin γ l _ _ _ _ _) rfl rfl (Nat.le_refl _) (Nat.zero_le _) (Nat.zero_le _) (Nat.le_of_ble_eq_true rfl) ?_
    refine go_if_ne (tgt := 23) dX3_setCapacity_17 (by decide) (fun c17 => ?_) (fun c17 => ?_)
    · replace c17 := zi_nz.mp c17
      refine go_aload_n dX3_setCapacity_23 rfl ?_
      refine go_getf dX3_setCapacity_24 flX3_10 (by first | exact hx | exact hs 0 (by decide) | exact hs 3 (by decide) | exact hs 1 (by decide) | exact hs 2 (by decide)) rfl ?_
      refine go_getf dX3_setCapacity_27 flX3_31 (by first | exact hx | exact hs 0 (by decide) | exact hs 3 (by decide) | exact hs 1 (by decide) | exact hs 2 (by decide)) rfl ?_
      refine go_iload_n dX3_setCapacity_30 rfl ?_
      refine go_iald dX3_setCapacity_31 (by first | exact hx | exact hs 0 (by decide) | exact hs 3 (by decide) | exact hs 1 (by decide) | exact hs 2 (by decide)) (zin3 c4) rfl ?_
      refine go_istore_n dX3_setCapacity_32 (Nat.le_of_ble_eq_true rfl) ?_
      refine go_aload_n dX3_setCapacity_33 rfl ?_
      refine go_getf dX3_setCapacity_34 flX3_10 (by first | exact hx | exact hs 0 (by decide) | exact hs 3 (by decide) | exact hs 1 (by decide) | exact hs 2 (by decide)) rfl ?_
      refine go_getf dX3_setCapacity_37 flX3_31 (by first | exact hx | exact hs 0 (by decide) | exact hs 3 (by decide) | exact hs 1 (by decide) | exact hs 2 (by decide)) rfl ?_
      refine go_iload_n dX3_setCapacity_40 rfl ?_
      refine go_iload_n dX3_setCapacity_41 rfl ?_
      refine go_iast dX3_setCapacity_42 (by first | exact hx | exact hs 0 (by decide) | exact hs 3 (by decide) | exact hs 1 (by decide) | exact hs 2 (by decide)) (zin3 c4) rfl ?_
      refine go_iload_n dX3_setCapacity_43 rfl ?_
      refine go_iret dX3_setCapacity_44 rfl ?_ ?_ (Nat.zero_le _) (Nat.zero_le _)
      · rw [← hR]; simp [mCap, aS, aP, aT, po, ix, c4, c17]
      · first | (rw [← hR]; simp [mCap, aS, aP, aT, po, ix, c4, c17]; exact zps_id hs) | (rw [← hR]; simp [mCap, aS, aP, aT, po, ix, c4, c17]; exact (zst_r0 hs).symm)
    · replace c17 := zi_0.mp c17
      refine go_bipush (v := (-2)) dX3_setCapacity_20 (by decide) ?_
      refine go_iret dX3_setCapacity_22 rfl ?_ ?_ (Nat.zero_le _) (Nat.zero_le _)
      · rw [← hR]; simp [mCap, aS, aP, aT, po, ix, c4, c17]
      · first | (rw [← hR]; simp [mCap, aS, aP, aT, po, ix, c4, c17]; exact zps_id hs) | (rw [← hR]; simp [mCap, aS, aP, aT, po, ix, c4, c17]; exact (zst_r0 hs).symm)
  · replace c4 := zi_0.mp c4
    refine go_iconst (v := (-1)) dX3_setCapacity_7 (by decide) ?_
    refine go_iret dX3_setCapacity_8 rfl ?_ ?_ (Nat.zero_le _) (Nat.zero_le _)
    · rw [← hR]; simp [mCap, aS, aP, aT, po, ix, c4]
    · first | (rw [← hR]; simp [mCap, aS, aP, aT, po, ix, c4]; exact zps_id hs) | (rw [← hR]; simp [mCap, aS, aP, aT, po, ix, c4]; exact (zst_r0 hs).symm)
set_option maxRecDepth 4000 in
theorem kX3_setWorking_ (γ : zG) (l : Launch) (n : Nat) (h : zH) (x : Nat) (σ : zS) (hx : h.1 x = some (zsw x)) (hs : zSt16 γ h (x + 1) σ) (s : Int32) (w : Int32) (hw : zB w) (R : Int32 × zS) (hR : mWrk σ s w = R) : Con γ l (n + 2) 0 0 MX3_setWorking [.ref x, .int s, .int w] h (some (.int R.1)) (zps γ h (x + 1) R.2) := by
  refine Con.go (by decide +kernel) (Nat.le_of_ble_eq_true rfl) ⟨rfl, rfl, rfl, trivial⟩ ?_
  show Go _ 0 0 0 [some (.ref x), some (.int s), some (.int w), none] [] _
  refine go_iload_n dX3_setWorking_0 rfl ?_
  refine go_callSi dX3_setWorking_1 moX3_isSupply csX3_23 (kX3_isSupply γ l _ _ _) rfl rfl (Nat.le_refl _) (Nat.zero_le _) (Nat.zero_le _) (Nat.le_of_ble_eq_true rfl) ?_
  refine go_if_ne (tgt := 9) dX3_setWorking_4 (by decide) (fun c4 => ?_) (fun c4 => ?_)
  · replace c4 := zi_nz.mp c4
    refine go_aload_n dX3_setWorking_9 rfl ?_
    refine go_getf dX3_setWorking_10 flX3_10 (by first | exact hx | exact hs 0 (by decide) | exact hs 3 (by decide) | exact hs 1 (by decide) | exact hs 2 (by decide)) rfl ?_
    refine go_getf dX3_setWorking_13 flX3_35 (by first | exact hx | exact hs 0 (by decide) | exact hs 3 (by decide) | exact hs 1 (by decide) | exact hs 2 (by decide)) rfl ?_
    refine go_iload_n dX3_setWorking_16 rfl ?_
    refine go_zald dX3_setWorking_17 (by first | exact hx | exact hs 0 (by decide) | exact hs 3 (by decide) | exact hs 1 (by decide) | exact hs 2 (by decide)) (zin3 c4) rfl ?_
    refine go_istore_n dX3_setWorking_18 (Nat.le_of_ble_eq_true rfl) ?_
    refine go_aload_n dX3_setWorking_19 rfl ?_
    refine go_getf dX3_setWorking_20 flX3_10 (by first | exact hx | exact hs 0 (by decide) | exact hs 3 (by decide) | exact hs 1 (by decide) | exact hs 2 (by decide)) rfl ?_
    refine go_getf dX3_setWorking_23 flX3_35 (by first | exact hx | exact hs 0 (by decide) | exact hs 3 (by decide) | exact hs 1 (by decide) | exact hs 2 (by decide)) rfl ?_
    refine go_iload_n dX3_setWorking_26 rfl ?_
    refine go_iload_n dX3_setWorking_27 rfl ?_
    refine go_zast dX3_setWorking_28 (by first | exact hx | exact hs 0 (by decide) | exact hs 3 (by decide) | exact hs 1 (by decide) | exact hs 2 (by decide)) (zin3 c4) rfl (zab (by exact hw)) ?_
    refine go_iload_n dX3_setWorking_29 rfl ?_
    refine go_if_eq (tgt := 37) dX3_setWorking_30 (by decide) (fun c30 => ?_) (fun c30 => ?_)
    · refine go_iconst (v := 0) dX3_setWorking_37 (by decide) ?_
      refine go_iret dX3_setWorking_38 rfl ?_ ?_ (Nat.zero_le _) (Nat.zero_le _)
      · rw [← hR]; simp [mWrk, zi, aS, c4, c30]
      · first | (rw [← hR]; simp [mWrk, aS, aP, aT, po, ix, c4, c30]; exact zps_id hs) | (rw [← hR]; simp [mWrk, aS, aP, aT, po, ix, c4, c30]; exact (zst_r1 hs).symm)
    · refine go_iconst (v := 1) dX3_setWorking_33 (by decide) ?_
      refine go_goto (tgt := 38) dX3_setWorking_34 (by decide) ?_
      refine go_iret dX3_setWorking_38 rfl ?_ ?_ (Nat.zero_le _) (Nat.zero_le _)
      · rw [← hR]; simp [mWrk, zi, aS, c4, c30]
      · first | (rw [← hR]; simp [mWrk, aS, aP, aT, po, ix, c4, c30]; exact zps_id hs) | (rw [← hR]; simp [mWrk, aS, aP, aT, po, ix, c4, c30]; exact (zst_r1 hs).symm)
  · replace c4 := zi_0.mp c4
    refine go_iconst (v := (-1)) dX3_setWorking_7 (by decide) ?_
    refine go_iret dX3_setWorking_8 rfl ?_ ?_ (Nat.zero_le _) (Nat.zero_le _)
    · rw [← hR]; simp [mWrk, zi, aS, c4]
    · first | (rw [← hR]; simp [mWrk, aS, aP, aT, po, ix, c4]; exact zps_id hs) | (rw [← hR]; simp [mWrk, aS, aP, aT, po, ix, c4]; exact (zst_r1 hs).symm)
set_option maxRecDepth 4000 in
theorem kX3_setReserve_ (γ : zG) (l : Launch) (n : Nat) (h : zH) (x : Nat) (σ : zS) (hx : h.1 x = some (zsw x)) (hs : zSt16 γ h (x + 1) σ) (v : Int32) (R : Int32 × zS) (hR : mRow σ 0 0 3000 v = R) : Con γ l (n + 1) 0 0 MX3_setReserve [.ref x, .int v] h (some (.int R.1)) (zps γ h (x + 1) R.2) := by
  refine Con.go (by decide +kernel) (Nat.le_of_ble_eq_true rfl) ⟨rfl, rfl, trivial⟩ ?_
  show Go _ 0 0 0 [some (.ref x), some (.int v), none] [] _
  refine go_iload_n dX3_setReserve_0 rfl ?_
  refine go_iconst (v := 0) dX3_setReserve_1 (by decide) ?_
  refine go_sipush (v := 3000) dX3_setReserve_2 (by decide) ?_
  refine go_callSi dX3_setReserve_5 moX3_isWithin csX3_27 (kX3_isWithin γ l _ _ _ _ _) rfl rfl (Nat.le_refl _) (Nat.zero_le _) (Nat.zero_le _) (Nat.le_of_ble_eq_true rfl) ?_
  refine go_if_ne (tgt := 14) dX3_setReserve_8 (by decide) (fun c8 => ?_) (fun c8 => ?_)
  · replace c8 := zi_nz.mp c8
    refine go_aload_n dX3_setReserve_14 rfl ?_
    refine go_getf dX3_setReserve_15 flX3_10 (by first | exact hx | exact hs 0 (by decide) | exact hs 3 (by decide) | exact hs 1 (by decide) | exact hs 2 (by decide)) rfl ?_
    refine go_getf dX3_setReserve_18 flX3_39 (by first | exact hx | exact hs 0 (by decide) | exact hs 3 (by decide) | exact hs 1 (by decide) | exact hs 2 (by decide)) rfl ?_
    refine go_istore_n dX3_setReserve_21 (Nat.le_of_ble_eq_true rfl) ?_
    refine go_aload_n dX3_setReserve_22 rfl ?_
    refine go_getf dX3_setReserve_23 flX3_10 (by first | exact hx | exact hs 0 (by decide) | exact hs 3 (by decide) | exact hs 1 (by decide) | exact hs 2 (by decide)) rfl ?_
    refine go_iload_n dX3_setReserve_26 rfl ?_
    refine go_putf dX3_setReserve_27 flX3_39 fnX2_4 (by first | exact hx | exact hs 0 (by decide) | exact hs 3 (by decide) | exact hs 1 (by decide) | exact hs 2 (by decide)) rfl rfl (Nat.le_of_ble_eq_true rfl) ?_
    refine go_iload_n dX3_setReserve_30 rfl ?_
    refine go_iret dX3_setReserve_31 rfl ?_ ?_ (Nat.zero_le _) (Nat.zero_le _)
    · rw [← hR]; simp [mRow, c8]
    · first | (rw [← hR]; simp [mRow, c8]; exact zps_id hs) | (rw [← hR]; simp [mRow, c8]; exact (zst_r2 (f := upd (σ 2) 0 v) hs rfl).symm)
  · replace c8 := zi_0.mp c8
    refine go_bipush (v := (-2)) dX3_setReserve_11 (by decide) ?_
    refine go_iret dX3_setReserve_13 rfl ?_ ?_ (Nat.zero_le _) (Nat.zero_le _)
    · rw [← hR]; simp [mRow, c8]
    · first | (rw [← hR]; simp [mRow, c8]; exact zps_id hs) | (rw [← hR]; simp [mRow, c8]; exact (zst_r2 (f := upd (σ 2) 0 v) hs rfl).symm)
set_option maxRecDepth 4000 in
theorem kX3_setRestartGap_ (γ : zG) (l : Launch) (n : Nat) (h : zH) (x : Nat) (σ : zS) (hx : h.1 x = some (zsw x)) (hs : zSt16 γ h (x + 1) σ) (v : Int32) (R : Int32 × zS) (hR : mRow σ 1 1 30 v = R) : Con γ l (n + 1) 0 0 MX3_setRestartGap [.ref x, .int v] h (some (.int R.1)) (zps γ h (x + 1) R.2) := by
  refine Con.go (by decide +kernel) (Nat.le_of_ble_eq_true rfl) ⟨rfl, rfl, trivial⟩ ?_
  show Go _ 0 0 0 [some (.ref x), some (.int v), none] [] _
  refine go_iload_n dX3_setRestartGap_0 rfl ?_
  refine go_iconst (v := 1) dX3_setRestartGap_1 (by decide) ?_
  refine go_bipush (v := 30) dX3_setRestartGap_2 (by decide) ?_
  refine go_callSi dX3_setRestartGap_4 moX3_isWithin csX3_27 (kX3_isWithin γ l _ _ _ _ _) rfl rfl (Nat.le_refl _) (Nat.zero_le _) (Nat.zero_le _) (Nat.le_of_ble_eq_true rfl) ?_
  refine go_if_ne (tgt := 13) dX3_setRestartGap_7 (by decide) (fun c7 => ?_) (fun c7 => ?_)
  · replace c7 := zi_nz.mp c7
    refine go_aload_n dX3_setRestartGap_13 rfl ?_
    refine go_getf dX3_setRestartGap_14 flX3_10 (by first | exact hx | exact hs 0 (by decide) | exact hs 3 (by decide) | exact hs 1 (by decide) | exact hs 2 (by decide)) rfl ?_
    refine go_getf dX3_setRestartGap_17 flX3_43 (by first | exact hx | exact hs 0 (by decide) | exact hs 3 (by decide) | exact hs 1 (by decide) | exact hs 2 (by decide)) rfl ?_
    refine go_istore_n dX3_setRestartGap_20 (Nat.le_of_ble_eq_true rfl) ?_
    refine go_aload_n dX3_setRestartGap_21 rfl ?_
    refine go_getf dX3_setRestartGap_22 flX3_10 (by first | exact hx | exact hs 0 (by decide) | exact hs 3 (by decide) | exact hs 1 (by decide) | exact hs 2 (by decide)) rfl ?_
    refine go_iload_n dX3_setRestartGap_25 rfl ?_
    refine go_putf dX3_setRestartGap_26 flX3_43 fnX2_5 (by first | exact hx | exact hs 0 (by decide) | exact hs 3 (by decide) | exact hs 1 (by decide) | exact hs 2 (by decide)) rfl rfl (Nat.le_of_ble_eq_true rfl) ?_
    refine go_iload_n dX3_setRestartGap_29 rfl ?_
    refine go_iret dX3_setRestartGap_30 rfl ?_ ?_ (Nat.zero_le _) (Nat.zero_le _)
    · rw [← hR]; simp [mRow, c7]
    · first | (rw [← hR]; simp [mRow, c7]; exact zps_id hs) | (rw [← hR]; simp [mRow, c7]; exact (zst_r2 (f := upd (σ 2) 1 v) hs rfl).symm)
  · replace c7 := zi_0.mp c7
    refine go_bipush (v := (-2)) dX3_setRestartGap_10 (by decide) ?_
    refine go_iret dX3_setRestartGap_12 rfl ?_ ?_ (Nat.zero_le _) (Nat.zero_le _)
    · rw [← hR]; simp [mRow, c7]
    · first | (rw [← hR]; simp [mRow, c7]; exact zps_id hs) | (rw [← hR]; simp [mRow, c7]; exact (zst_r2 (f := upd (σ 2) 1 v) hs rfl).symm)
set_option maxRecDepth 4000 in
theorem kX3_setOverloadLimit_ (γ : zG) (l : Launch) (n : Nat) (h : zH) (x : Nat) (σ : zS) (hx : h.1 x = some (zsw x)) (hs : zSt16 γ h (x + 1) σ) (v : Int32) (R : Int32 × zS) (hR : mRow σ 2 1 30 v = R) : Con γ l (n + 1) 0 0 MX3_setOverloadLimit [.ref x, .int v] h (some (.int R.1)) (zps γ h (x + 1) R.2) := by
  refine Con.go (by decide +kernel) (Nat.le_of_ble_eq_true rfl) ⟨rfl, rfl, trivial⟩ ?_
  show Go _ 0 0 0 [some (.ref x), some (.int v), none] [] _
  refine go_iload_n dX3_setOverloadLimit_0 rfl ?_
  refine go_iconst (v := 1) dX3_setOverloadLimit_1 (by decide) ?_
  refine go_bipush (v := 30) dX3_setOverloadLimit_2 (by decide) ?_
  refine go_callSi dX3_setOverloadLimit_4 moX3_isWithin csX3_27 (kX3_isWithin γ l _ _ _ _ _) rfl rfl (Nat.le_refl _) (Nat.zero_le _) (Nat.zero_le _) (Nat.le_of_ble_eq_true rfl) ?_
  refine go_if_ne (tgt := 13) dX3_setOverloadLimit_7 (by decide) (fun c7 => ?_) (fun c7 => ?_)
  · replace c7 := zi_nz.mp c7
    refine go_aload_n dX3_setOverloadLimit_13 rfl ?_
    refine go_getf dX3_setOverloadLimit_14 flX3_10 (by first | exact hx | exact hs 0 (by decide) | exact hs 3 (by decide) | exact hs 1 (by decide) | exact hs 2 (by decide)) rfl ?_
    refine go_getf dX3_setOverloadLimit_17 flX3_46 (by first | exact hx | exact hs 0 (by decide) | exact hs 3 (by decide) | exact hs 1 (by decide) | exact hs 2 (by decide)) rfl ?_
    refine go_istore_n dX3_setOverloadLimit_20 (Nat.le_of_ble_eq_true rfl) ?_
    refine go_aload_n dX3_setOverloadLimit_21 rfl ?_
    refine go_getf dX3_setOverloadLimit_22 flX3_10 (by first | exact hx | exact hs 0 (by decide) | exact hs 3 (by decide) | exact hs 1 (by decide) | exact hs 2 (by decide)) rfl ?_
    refine go_iload_n dX3_setOverloadLimit_25 rfl ?_
    refine go_putf dX3_setOverloadLimit_26 flX3_46 fnX2_6 (by first | exact hx | exact hs 0 (by decide) | exact hs 3 (by decide) | exact hs 1 (by decide) | exact hs 2 (by decide)) rfl rfl (Nat.le_of_ble_eq_true rfl) ?_
    refine go_iload_n dX3_setOverloadLimit_29 rfl ?_
    refine go_iret dX3_setOverloadLimit_30 rfl ?_ ?_ (Nat.zero_le _) (Nat.zero_le _)
    · rw [← hR]; simp [mRow, c7]
    · first | (rw [← hR]; simp [mRow, c7]; exact zps_id hs) | (rw [← hR]; simp [mRow, c7]; exact (zst_r2 (f := upd (σ 2) 2 v) hs rfl).symm)
  · replace c7 := zi_0.mp c7
    refine go_bipush (v := (-2)) dX3_setOverloadLimit_10 (by decide) ?_
    refine go_iret dX3_setOverloadLimit_12 rfl ?_ ?_ (Nat.zero_le _) (Nat.zero_le _)
    · rw [← hR]; simp [mRow, c7]
    · first | (rw [← hR]; simp [mRow, c7]; exact zps_id hs) | (rw [← hR]; simp [mRow, c7]; exact (zst_r2 (f := upd (σ 2) 2 v) hs rfl).symm)
set_option maxRecDepth 4000 in
theorem kX3_setCooldownTime_ (γ : zG) (l : Launch) (n : Nat) (h : zH) (x : Nat) (σ : zS) (hx : h.1 x = some (zsw x)) (hs : zSt16 γ h (x + 1) σ) (v : Int32) (R : Int32 × zS) (hR : mRow σ 3 1 60 v = R) : Con γ l (n + 1) 0 0 MX3_setCooldownTime [.ref x, .int v] h (some (.int R.1)) (zps γ h (x + 1) R.2) := by
  refine Con.go (by decide +kernel) (Nat.le_of_ble_eq_true rfl) ⟨rfl, rfl, trivial⟩ ?_
  show Go _ 0 0 0 [some (.ref x), some (.int v), none] [] _
  refine go_iload_n dX3_setCooldownTime_0 rfl ?_
  refine go_iconst (v := 1) dX3_setCooldownTime_1 (by decide) ?_
  refine go_bipush (v := 60) dX3_setCooldownTime_2 (by decide) ?_
  refine go_callSi dX3_setCooldownTime_4 moX3_isWithin csX3_27 (kX3_isWithin γ l _ _ _ _ _) rfl rfl (Nat.le_refl _) (Nat.zero_le _) (Nat.zero_le _) (Nat.le_of_ble_eq_true rfl) ?_
  refine go_if_ne (tgt := 13) dX3_setCooldownTime_7 (by decide) (fun c7 => ?_) (fun c7 => ?_)
  · replace c7 := zi_nz.mp c7
    refine go_aload_n dX3_setCooldownTime_13 rfl ?_
    refine go_getf dX3_setCooldownTime_14 flX3_10 (by first | exact hx | exact hs 0 (by decide) | exact hs 3 (by decide) | exact hs 1 (by decide) | exact hs 2 (by decide)) rfl ?_
    refine go_getf dX3_setCooldownTime_17 flX3_49 (by first | exact hx | exact hs 0 (by decide) | exact hs 3 (by decide) | exact hs 1 (by decide) | exact hs 2 (by decide)) rfl ?_
    refine go_istore_n dX3_setCooldownTime_20 (Nat.le_of_ble_eq_true rfl) ?_
    refine go_aload_n dX3_setCooldownTime_21 rfl ?_
    refine go_getf dX3_setCooldownTime_22 flX3_10 (by first | exact hx | exact hs 0 (by decide) | exact hs 3 (by decide) | exact hs 1 (by decide) | exact hs 2 (by decide)) rfl ?_
    refine go_iload_n dX3_setCooldownTime_25 rfl ?_
    refine go_putf dX3_setCooldownTime_26 flX3_49 fnX2_7 (by first | exact hx | exact hs 0 (by decide) | exact hs 3 (by decide) | exact hs 1 (by decide) | exact hs 2 (by decide)) rfl rfl (Nat.le_of_ble_eq_true rfl) ?_
    refine go_iload_n dX3_setCooldownTime_29 rfl ?_
    refine go_iret dX3_setCooldownTime_30 rfl ?_ ?_ (Nat.zero_le _) (Nat.zero_le _)
    · rw [← hR]; simp [mRow, c7]
    · first | (rw [← hR]; simp [mRow, c7]; exact zps_id hs) | (rw [← hR]; simp [mRow, c7]; exact (zst_r2 (f := upd (σ 2) 3 v) hs rfl).symm)
  · replace c7 := zi_0.mp c7
    refine go_bipush (v := (-2)) dX3_setCooldownTime_10 (by decide) ?_
    refine go_iret dX3_setCooldownTime_12 rfl ?_ ?_ (Nat.zero_le _) (Nat.zero_le _)
    · rw [← hR]; simp [mRow, c7]
    · first | (rw [← hR]; simp [mRow, c7]; exact zps_id hs) | (rw [← hR]; simp [mRow, c7]; exact (zst_r2 (f := upd (σ 2) 3 v) hs rfl).symm)
set_option maxRecDepth 4000 in
theorem kX3_budget (γ : zG) (l : Launch) (n : Nat) (h : zH) (x : Nat) (σ : zS) (hx : h.1 x = some (zsw x)) (hs : zSt16 γ h (x + 1) σ) : Con γ l (n + 2) 0 0 MX3_budget [.ref x] h (some (.int (sBud σ))) h := by
  refine Con.go (by decide +kernel) (Nat.le_of_ble_eq_true rfl) ⟨rfl, trivial⟩ ?_
  show Go _ 0 0 0 [some (.ref x)] [] _
  refine go_aload_n dX3_budget_0 rfl ?_
  refine go_getf dX3_budget_1 flX3_10 (by first | exact hx | exact hs 0 (by decide) | exact hs 3 (by decide) | exact hs 1 (by decide) | exact hs 2 (by decide)) rfl ?_
  refine go_callVi (ci := 2) dX3_budget_4 moX2_wholeBudget cvX3_52 ⟨rfl, rfl⟩ (kX2_wholeBudget γ l _ h (x + 1) σ hs) (by first | exact hx | exact hs 0 (by decide) | exact hs 3 (by decide) | exact hs 1 (by decide) | exact hs 2 (by decide)) rfl rfl (Nat.le_refl _) (Nat.zero_le _) (Nat.zero_le _) (Nat.le_of_ble_eq_true rfl) ?_
  refine go_iret dX3_budget_7 rfl ?_ ?_ (Nat.zero_le _) (Nat.zero_le _)
  · rfl
  · rfl
set_option maxRecDepth 4000 in
theorem kX3_available (γ : zG) (l : Launch) (n : Nat) (h : zH) (x : Nat) (σ : zS) (hx : h.1 x = some (zsw x)) (hs : zSt16 γ h (x + 1) σ) : Con γ l (n + 3) 0 0 MX3_available [.ref x] h (some (.int (sSp σ 8))) h := by
  refine Con.go (by decide +kernel) (Nat.le_of_ble_eq_true rfl) ⟨rfl, trivial⟩ ?_
  show Go _ 0 0 0 [some (.ref x)] [] _
  refine go_aload_n dX3_available_0 rfl ?_
  refine go_getf dX3_available_1 flX3_10 (by first | exact hx | exact hs 0 (by decide) | exact hs 3 (by decide) | exact hs 1 (by decide) | exact hs 2 (by decide)) rfl ?_
  refine go_callVi (ci := 2) dX3_available_4 moX2_sparePower cvX3_56 ⟨rfl, rfl⟩ (kX2_sparePower γ l _ h (x + 1) σ hs) (by first | exact hx | exact hs 0 (by decide) | exact hs 3 (by decide) | exact hs 1 (by decide) | exact hs 2 (by decide)) rfl rfl (Nat.le_refl _) (Nat.zero_le _) (Nat.zero_le _) (Nat.le_of_ble_eq_true rfl) ?_
  refine go_iret dX3_available_7 rfl ?_ ?_ (Nat.zero_le _) (Nat.zero_le _)
  · rfl
  · rfl
set_option maxRecDepth 4000 in
theorem kX3_eligiblePorts (γ : zG) (l : Launch) (n : Nat) (h : zH) (x : Nat) (σ : zS) (hx : h.1 x = some (zsw x)) (hs : zSt16 γ h (x + 1) σ) : Con γ l (n + 3) 0 0 MX3_eligiblePorts [.ref x] h (some (.int (sEl σ 8))) h := by
  refine Con.go (by decide +kernel) (Nat.le_of_ble_eq_true rfl) ⟨rfl, trivial⟩ ?_
  show Go _ 0 0 0 [some (.ref x)] [] _
  refine go_aload_n dX3_eligiblePorts_0 rfl ?_
  refine go_getf dX3_eligiblePorts_1 flX3_10 (by first | exact hx | exact hs 0 (by decide) | exact hs 3 (by decide) | exact hs 1 (by decide) | exact hs 2 (by decide)) rfl ?_
  refine go_callVi (ci := 2) dX3_eligiblePorts_4 moX2_eligibleSet cvX3_114 ⟨rfl, rfl⟩ (kX2_eligibleSet γ l _ h (x + 1) σ hs) (by first | exact hx | exact hs 0 (by decide) | exact hs 3 (by decide) | exact hs 1 (by decide) | exact hs 2 (by decide)) rfl rfl (Nat.le_refl _) (Nat.zero_le _) (Nat.zero_le _) (Nat.le_of_ble_eq_true rfl) ?_
  refine go_iret dX3_eligiblePorts_7 rfl ?_ ?_ (Nat.zero_le _) (Nat.zero_le _)
  · rfl
  · rfl
set_option maxRecDepth 4000 in
theorem kX3_poweredPorts (γ : zG) (l : Launch) (n : Nat) (h : zH) (x : Nat) (σ : zS) (hx : h.1 x = some (zsw x)) (hs : zSt16 γ h (x + 1) σ) : Con γ l (n + 2) 0 0 MX3_poweredPorts [.ref x] h (some (.int (sPw σ 8))) h := by
  refine Con.go (by decide +kernel) (Nat.le_of_ble_eq_true rfl) ⟨rfl, trivial⟩ ?_
  show Go _ 0 0 0 [some (.ref x)] [] _
  refine go_aload_n dX3_poweredPorts_0 rfl ?_
  refine go_getf dX3_poweredPorts_1 flX3_10 (by first | exact hx | exact hs 0 (by decide) | exact hs 3 (by decide) | exact hs 1 (by decide) | exact hs 2 (by decide)) rfl ?_
  refine go_callVi (ci := 2) dX3_poweredPorts_4 moX2_poweredSet cvX3_117 ⟨rfl, rfl⟩ (kX2_poweredSet γ l _ h (x + 1) σ hs) (by first | exact hx | exact hs 0 (by decide) | exact hs 3 (by decide) | exact hs 1 (by decide) | exact hs 2 (by decide)) rfl rfl (Nat.le_refl _) (Nat.zero_le _) (Nat.zero_le _) (Nat.le_of_ble_eq_true rfl) ?_
  refine go_iret dX3_poweredPorts_7 rfl ?_ ?_ (Nat.zero_le _) (Nat.zero_le _)
  · rfl
  · rfl
set_option maxRecDepth 4000 in
theorem kX3_fittingPorts (γ : zG) (l : Launch) (n : Nat) (h : zH) (x : Nat) (σ : zS) (hx : h.1 x = some (zsw x)) (hs : zSt16 γ h (x + 1) σ) : Con γ l (n + 3) 0 0 MX3_fittingPorts [.ref x] h (some (.int ((sFo σ 3).1))) h := by
  refine Con.go (by decide +kernel) (Nat.le_of_ble_eq_true rfl) ⟨rfl, trivial⟩ ?_
  show Go _ 0 0 0 [some (.ref x)] [] _
  refine go_aload_n dX3_fittingPorts_0 rfl ?_
  refine go_getf dX3_fittingPorts_1 flX3_10 (by first | exact hx | exact hs 0 (by decide) | exact hs 3 (by decide) | exact hs 1 (by decide) | exact hs 2 (by decide)) rfl ?_
  refine go_callVi (ci := 2) dX3_fittingPorts_4 moX2_fittingSet cvX3_162 ⟨rfl, rfl⟩ (kX2_fittingSet γ l _ h (x + 1) σ hs) (by first | exact hx | exact hs 0 (by decide) | exact hs 3 (by decide) | exact hs 1 (by decide) | exact hs 2 (by decide)) rfl rfl (Nat.le_refl _) (Nat.zero_le _) (Nat.zero_le _) (Nat.le_of_ble_eq_true rfl) ?_
  refine go_iret dX3_fittingPorts_7 rfl ?_ ?_ (Nat.zero_le _) (Nat.zero_le _)
  · rfl
  · rfl
