/-! the law's loop -/
theorem and31 (x : Int32) : ∃ k, k < 32 ∧ x &&& 31 = nI k := by
  refine ⟨(x.toBitVec &&& 31#32).toNat, ?_, ?_⟩
  · rw [BitVec.toNat_and]
    exact Nat.lt_of_le_of_lt Nat.and_le_right (by decide)
  · apply Int32.toBitVec_inj.mp
    rw [Int32.toBitVec_and]
    show _ = BitVec.ofNat 32 _
    rw [BitVec.ofNat_toNat, BitVec.setWidth_eq]
    rfl
theorem lcmp {L j : Nat} (hL : L ≤ 3072) (hj : 6 * j ≤ 3072) : (Int32.ofNat L - 6 < nI (6 * j)) ↔ L < 6 * j + 6 := by
  have e : (Int32.ofNat L - 6).toInt = (L : Int) - 6 := pk_sub_toInt (a := L) (b := 6) (by omega) (by omega)
  rw [Int32.lt_iff_toInt_lt, e, nI_toInt (by omega)]
  omega
set_option maxRecDepth 4000 in
theorem lw_loop (γ : zG) (l : Launch) (b L : Nat) (xs : Nat → Int32) {x : Nat} (hL : L ≤ 3072) : ∀ (m j : Nat) (h : zH) (sn : Nat → Option Nat) (σ τ μ : zS) (t : Nat), L < 6 * (j + m) + 6 → 6 * j ≤ L → LI γ x h sn σ τ μ t (60 * j) → Go (EL γ l b L xs) (40 + 16 * j) (1073 + 157 * j) 18 [some (.ref b), some (.ref x), some (.ref (x + 34)), some (.int (nI (6 * j)))] [] h := by
  intro m
  induction m with
  | zero =>
    intro j h sn σ τ μ t hm hj6 I
    refine go_iload_n dL_law_18 rfl ?_
    refine go_aload_n dL_law_19 rfl ?_
    refine go_sN dL_law_20 ?_
    refine go_bipush (v := 6) dL_law_21 (by decide) ?_
    refine go_isub dL_law_23 ?_
    refine go_icmp_gt (tgt := 960) dL_law_24 (by decide) (fun c => ?_) (fun c => absurd ((lcmp hL (by omega)).mpr (by omega)) c)
    refine go_iconst (v := 1) dL_law_960 (by decide) ?_
    exact go_lend dL_law_961 (by omega) (by omega)
  | succ m ih =>
    intro j h sn σ τ μ t hm hj6 I
    refine go_iload_n dL_law_18 rfl ?_
    refine go_aload_n dL_law_19 rfl ?_
    refine go_sN dL_law_20 ?_
    refine go_bipush (v := 6) dL_law_21 (by decide) ?_
    refine go_isub dL_law_23 ?_
    refine go_icmp_gt (tgt := 960) dL_law_24 (by decide) (fun c => ?_) (fun c => ?_)
    · refine go_iconst (v := 1) dL_law_960 (by decide) ?_
      exact go_lend dL_law_961 (by omega) (by omega)
    · have hj : 6 * j + 6 ≤ L := by
        have : ¬ L < 6 * j + 6 := fun z => c ((lcmp hL (by omega)).mpr z)
        omega
      have nx : Nxt γ l b L xs x j := by
        intro h' sn' σ' τ' μ' t' I'
        refine go_iinc (v := nI (6 * (j + 1))) dL_law_954 rfl (by
          rw [show Int32.ofInt 6 = nI 6 by decide, nI_add]
          exact congrArg nI (by omega)) (Nat.le_of_ble_eq_true rfl) ?_
        refine go_goto (tgt := 18) dL_law_957 (by decide) ?_
        have k := ih (j + 1) h' sn' σ' τ' μ' t' (by omega) (by omega) (by rw [show 60 * (j + 1) = 60 * j + 60 by omega]; exact I')
        rw [show 40 + 16 * (j + 1) = 40 + 16 * j + 16 by omega, show 1073 + 157 * (j + 1) = 1073 + 157 * j + 157 by omega] at k
        exact k
      refine go_aload_n dL_law_27 rfl ?_
      refine go_iload_n dL_law_28 rfl ?_
      refine go_sX dL_law_29 (sin0 hj hL) ?_
      refine go_bipush (v := 31) dL_law_30 (by decide) ?_
      refine go_iand dL_law_32 ?_
      obtain ⟨k, hk, e⟩ := and31 (xs (6 * j))
      rw [e]
      match k, hk with
        | 0, _ => exact go_tableIn (tgt := 176) dL_law_33 (by decide) (by decide) (off := 143) (by decide) (by decide) (lc_0 γ l b L xs hj hL I nx)
        | 1, _ => exact go_tableIn (tgt := 209) dL_law_33 (by decide) (by decide) (off := 176) (by decide) (by decide) (lc_1 γ l b L xs hj hL I nx)
        | 2, _ => exact go_tableIn (tgt := 258) dL_law_33 (by decide) (by decide) (off := 225) (by decide) (by decide) (lc_2 γ l b L xs hj hL I nx)
        | 3, _ => exact go_tableIn (tgt := 281) dL_law_33 (by decide) (by decide) (off := 248) (by decide) (by decide) (lc_3 γ l b L xs hj hL I nx)
        | 4, _ => exact go_tableIn (tgt := 304) dL_law_33 (by decide) (by decide) (off := 271) (by decide) (by decide) (lc_4 γ l b L xs hj hL I nx)
        | 5, _ => exact go_tableIn (tgt := 327) dL_law_33 (by decide) (by decide) (off := 294) (by decide) (by decide) (lc_5 γ l b L xs hj hL I nx)
        | 6, _ => exact go_tableIn (tgt := 350) dL_law_33 (by decide) (by decide) (off := 317) (by decide) (by decide) (lc_6 γ l b L xs hj hL I nx)
        | 7, _ => exact go_tableIn (tgt := 363) dL_law_33 (by decide) (by decide) (off := 330) (by decide) (by decide) (lc_7 γ l b L xs hj hL I nx)
        | 8, _ => exact go_tableIn (tgt := 376) dL_law_33 (by decide) (by decide) (off := 343) (by decide) (by decide) (lc_8 γ l b L xs hj hL I nx)
        | 9, _ => exact go_tableIn (tgt := 425) dL_law_33 (by decide) (by decide) (off := 392) (by decide) (by decide) (lc_9 γ l b L xs hj hL I nx)
        | 10, _ => exact go_tableIn (tgt := 458) dL_law_33 (by decide) (by decide) (off := 425) (by decide) (by decide) (lc_10 γ l b L xs hj hL I nx)
        | 11, _ => exact go_tableIn (tgt := 521) dL_law_33 (by decide) (by decide) (off := 488) (by decide) (by decide) (lc_11 γ l b L xs hj hL I nx)
        | 12, _ => exact go_tableIn (tgt := 544) dL_law_33 (by decide) (by decide) (off := 511) (by decide) (by decide) (lc_12 γ l b L xs hj hL I nx)
        | 13, _ => exact go_tableIn (tgt := 577) dL_law_33 (by decide) (by decide) (off := 544) (by decide) (by decide) (lc_13 γ l b L xs hj hL I nx)
        | 14, _ => exact go_tableIn (tgt := 610) dL_law_33 (by decide) (by decide) (off := 577) (by decide) (by decide) (lc_14 γ l b L xs hj hL I nx)
        | 15, _ => exact go_tableIn (tgt := 633) dL_law_33 (by decide) (by decide) (off := 600) (by decide) (by decide) (lc_15 γ l b L xs hj hL I nx)
        | 16, _ => exact go_tableIn (tgt := 646) dL_law_33 (by decide) (by decide) (off := 613) (by decide) (by decide) (lc_16 γ l b L xs hj hL I nx)
        | 17, _ => exact go_tableIn (tgt := 659) dL_law_33 (by decide) (by decide) (off := 626) (by decide) (by decide) (lc_17 γ l b L xs hj hL I nx)
        | 18, _ => exact go_tableIn (tgt := 682) dL_law_33 (by decide) (by decide) (off := 649) (by decide) (by decide) (lc_18 γ l b L xs hj hL I nx)
        | 19, _ => exact go_tableIn (tgt := 705) dL_law_33 (by decide) (by decide) (off := 672) (by decide) (by decide) (lc_19 γ l b L xs hj hL I nx)
        | 20, _ => exact go_tableIn (tgt := 728) dL_law_33 (by decide) (by decide) (off := 695) (by decide) (by decide) (lc_20 γ l b L xs hj hL I nx)
        | 21, _ => exact go_tableIn (tgt := 751) dL_law_33 (by decide) (by decide) (off := 718) (by decide) (by decide) (lc_21 γ l b L xs hj hL I nx)
        | 22, _ => exact go_tableIn (tgt := 764) dL_law_33 (by decide) (by decide) (off := 731) (by decide) (by decide) (lc_22 γ l b L xs hj hL I nx)
        | 23, _ => exact go_tableIn (tgt := 777) dL_law_33 (by decide) (by decide) (off := 744) (by decide) (by decide) (lc_23 γ l b L xs hj hL I nx)
        | 24, _ => exact go_tableIn (tgt := 800) dL_law_33 (by decide) (by decide) (off := 767) (by decide) (by decide) (lc_24 γ l b L xs hj hL I nx)
        | 25, _ => exact go_tableIn (tgt := 823) dL_law_33 (by decide) (by decide) (off := 790) (by decide) (by decide) (lc_25 γ l b L xs hj hL I nx)
        | 26, _ => exact go_tableIn (tgt := 846) dL_law_33 (by decide) (by decide) (off := 813) (by decide) (by decide) (lc_26 γ l b L xs hj hL I nx)
        | 27, _ => exact go_tableIn (tgt := 869) dL_law_33 (by decide) (by decide) (off := 836) (by decide) (by decide) (lc_27 γ l b L xs hj hL I nx)
        | 28, _ => exact go_tableIn (tgt := 882) dL_law_33 (by decide) (by decide) (off := 849) (by decide) (by decide) (lc_28 γ l b L xs hj hL I nx)
        | 29, _ => exact go_tableIn (tgt := 895) dL_law_33 (by decide) (by decide) (off := 862) (by decide) (by decide) (lc_29 γ l b L xs hj hL I nx)
        | 30, _ => exact go_tableIn (tgt := 908) dL_law_33 (by decide) (by decide) (off := 875) (by decide) (by decide) (lc_30 γ l b L xs hj hL I nx)
        | 31, _ => exact go_tableIn (tgt := 931) dL_law_33 (by decide) (by decide) (off := 898) (by decide) (by decide) (lc_31 γ l b L xs hj hL I nx)
        | n + 32, hk => exact absurd hk (by omega)
theorem lw_go (γ : zG) (l : Launch) (b L : Nat) (xs : Nat → Int32) (hL : L ≤ 3072) (N : Nat) : Go (EL γ l b L xs) 0 0 0 [some (.ref b), none, none, none] [] (fun _ => none, N) := by
  refine go_newA (ci := 3) (q := N) (fs := [.null, .null, .null]) rfl rfl dL_law_0 rfl clL_7 (fun j hj => by rcases (show j = 0 ∨ j = 1 ∨ j = 2 by omega) with h | h | h <;> subst h <;> rfl) (Nat.le_of_ble_eq_true rfl) (Nat.le_of_ble_eq_true rfl) ?_
  refine go_dup dL_law_3 rfl ?_
  generalize hh : zp (fun _ => none, N) (.inr (3, [.null, .null, .null])) = h1
  have hp : h1.1 N = some (.inr (3, [.null, .null, .null])) := by rw [← hh]; exact zp_s
  have hnx : h1.2 = N + 1 := by rw [← hh]; rfl
  refine go_callIv dL_law_4 moX3_init ciL_9 ⟨rfl, rfl⟩ (kX3_init γ l 8 h1 N hp hnx) rfl rfl (Nat.le_of_ble_eq_true rfl) (Nat.le_of_ble_eq_true rfl) (Nat.le_of_ble_eq_true rfl) (Nat.le_of_ble_eq_true rfl) ?_
  refine go_astore_n dL_law_7 (Nat.le_of_ble_eq_true rfl) ?_
  have hq : (zcan h1 N 34 (zcP γ N)).2 = N + 34 := zcan_nx hnx (by decide)
  refine go_newA (ci := 4) (q := N + 34) (fs := [.null, .null, .null, .null, .int 0, .null, .int 0]) hq rfl dL_law_8 rfl clL_10 (fun j hj => by rcases (show j = 0 ∨ j = 1 ∨ j = 2 ∨ j = 3 ∨ j = 4 ∨ j = 5 ∨ j = 6 by omega) with h | h | h | h | h | h | h <;> subst h <;> rfl) (Nat.le_of_ble_eq_true rfl) (Nat.le_of_ble_eq_true rfl) ?_
  refine go_dup dL_law_11 rfl ?_
  generalize hh2 : zp (zcan h1 N 34 (zcP γ N)) (.inr (4, [.null, .null, .null, .null, .int 0, .null, .int 0])) = h2
  have hp2 : h2.1 (N + 34) = some (.inr (4, [.null, .null, .null, .null, .int 0, .null, .int 0])) := by rw [← hh2, ← hq]; exact zp_s
  have hnx2 : h2.2 = N + 34 + 1 := by rw [← hh2]; show (zcan h1 N 34 (zcP γ N)).2 + 1 = _; rw [hq]
  refine go_callIv dL_law_12 moX4_init ciL_12 ⟨rfl, rfl⟩ (kX4_init γ l 10 h2 (N + 34) hp2 hnx2) rfl rfl (Nat.le_of_ble_eq_true rfl) (Nat.le_of_ble_eq_true rfl) (Nat.le_of_ble_eq_true rfl) (Nat.le_of_ble_eq_true rfl) ?_
  refine go_astore_n dL_law_15 (Nat.le_of_ble_eq_true rfl) ?_
  refine go_iconst (v := nI (6 * 0)) dL_law_16 (by decide) ?_
  refine go_istore_n dL_law_17 (Nat.le_of_ble_eq_true rfl) ?_
  have hold : ∀ k, k < 34 → (zpm γ (zal h2 5) (N + 34) muI).1 (N + k) = some (zcP γ N k) := fun k hk => by
    refine (zput_out (by omega)).trans ?_
    show h2.1 (N + k) = _
    rw [← hh2, zp_o (by rw [hq]; omega)]
    exact zcan_rd k hk
  have I : LI γ N (zpm γ (zal h2 5) (N + 34) muI) (fun _ => none) sI sI muI 0 (60 * 0) := by
    refine ⟨hold 0 (by omega), fun k hk => ?_, fun k hk => ?_, hold 33 (by omega), zput_is _ _ _ _, ?_, RI_start, Nat.le_refl _, fun k hk => Or.inl ⟨rfl, rfl⟩, fun q q' e1 e2 => by cases e1⟩
    · have e := hold (1 + k) (by omega)
      rw [show N + 1 + k = N + (1 + k) by omega, e]
      unfold zcP
      rw [if_neg (by omega), if_pos (by omega), show 1 + k - 1 = k by omega]
    · have e := hold (17 + k) (by omega)
      rw [show N + 17 + k = N + (17 + k) by omega, e]
      unfold zcP
      rw [if_neg (by omega), if_neg (by omega), if_pos (by omega), show 17 + k - 17 = k by omega]
    · show N + 40 ≤ h2.2 + 5
      omega
  have k := lw_loop γ l b L xs (x := N) hL 513 0 _ _ _ _ _ _ (by omega) (by omega) I
  exact k
