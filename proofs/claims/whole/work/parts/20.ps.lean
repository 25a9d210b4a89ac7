/-! PoeSwitch: its own helpers -/
theorem zi_nz {p : Prop} [Decidable p] : ¬ zi p = 0 ↔ p := by
  unfold zi
  by_cases h : p <;> simp [h]
theorem zrz {p : Prop} [Decidable p] {v : Int32} (h : v = zi p) : some (Value.int (zi p)) = some (Value.int v) := by rw [h]
theorem znat {s : Int32} {n : Nat} {m : Int32} (hm : m.toInt = (n : Int) - 1) (h : 0 ≤ s ∧ s ≤ m) (hn : n < 2 ^ 31) : s = nI s.toNatClampNeg ∧ s.toNatClampNeg < n := by
  have h1 := Int32.le_iff_toInt_le.mp h.1
  have h2 := Int32.le_iff_toInt_le.mp h.2
  rw [hm] at h2
  have h0 : (0 : Int32).toInt = 0 := by decide
  rw [h0] at h1
  obtain ⟨j, hj, e⟩ := vp_in_of (vp_in_iff.mpr ⟨h1, by omega⟩) hn
  have hc : s.toNatClampNeg = j := by rw [e]; exact nI_clamp (by omega)
  rw [hc]
  exact ⟨e, hj⟩
theorem zn3 {s : Int32} (h : 0 ≤ s ∧ s ≤ 2) : s = nI s.toNatClampNeg ∧ s.toNatClampNeg < 3 := znat (n := 3) (by decide) h (by decide)
theorem zn8 {s : Int32} (h : 0 ≤ s ∧ s ≤ 7) : s = nI s.toNatClampNeg ∧ s.toNatClampNeg < 8 := znat (n := 8) (by decide) h (by decide)
theorem zn2 {s : Int32} (h : 0 ≤ s ∧ s ≤ 1) : s = nI s.toNatClampNeg ∧ s.toNatClampNeg < 2 := znat (n := 2) (by decide) h (by decide)
theorem zn5 {s : Int32} (h : 0 ≤ s ∧ s ≤ 4) : s = nI s.toNatClampNeg ∧ s.toNatClampNeg < 5 := znat (n := 5) (by decide) h (by decide)
theorem zin3 {s : Int32} (h : 0 ≤ s ∧ s ≤ 2) : vp_in s 3 := by rw [(zn3 h).1]; exact vp_in_nI (zn3 h).2 (by decide)
theorem zin8 {s : Int32} (h : 0 ≤ s ∧ s ≤ 7) : vp_in s 8 := by rw [(zn8 h).1]; exact vp_in_nI (zn8 h).2 (by decide)
theorem zin2 {s : Int32} (h : 0 ≤ s ∧ s ≤ 1) : vp_in s 2 := by rw [(zn2 h).1]; exact vp_in_nI (zn2 h).2 (by decide)
theorem zin5 {s : Int32} (h : 0 ≤ s ∧ s ≤ 4) : vp_in s 5 := by rw [(zn5 h).1]; exact vp_in_nI (zn5 h).2 (by decide)
set_option maxRecDepth 4000 in
theorem kX3_isWithin (γ : zG) (l : Launch) (n : Nat) (h : zH) (v lo hi : Int32) : Con γ l (n) 0 0 MX3_isWithin [.int v, .int lo, .int hi] h (some (.int (zi (lo ≤ v ∧ v ≤ hi)))) h := by
  refine Con.go (by decide +kernel) (Nat.le_of_ble_eq_true rfl) ⟨rfl, rfl, rfl, trivial⟩ ?_
  show Go _ 0 0 0 [some (.int v), some (.int lo), some (.int hi)] [] _
  refine go_iload_n dX3_isWithin_0 rfl ?_
  refine go_iload_n dX3_isWithin_1 rfl ?_
  refine go_icmp_lt (tgt := 14) dX3_isWithin_2 (by decide) (fun c2 => ?_) (fun c2 => ?_)
  · refine go_iconst (v := 0) dX3_isWithin_14 (by decide) ?_
    refine go_zret dX3_isWithin_15 rfl (by first | rfl | exact zi_n) ?_ ?_ (Nat.zero_le _) (Nat.zero_le _)
    · first | rfl | exact zrt (by simp_all [-Int32.not_lt, -Int32.not_le, zle]) | exact zrf (by simp_all [-Int32.not_lt, -Int32.not_le, zle])
    · rfl
  · refine go_iload_n dX3_isWithin_5 rfl ?_
    refine go_iload_n dX3_isWithin_6 rfl ?_
    refine go_icmp_gt (tgt := 14) dX3_isWithin_7 (by decide) (fun c7 => ?_) (fun c7 => ?_)
    · refine go_iconst (v := 0) dX3_isWithin_14 (by decide) ?_
      refine go_zret dX3_isWithin_15 rfl (by first | rfl | exact zi_n) ?_ ?_ (Nat.zero_le _) (Nat.zero_le _)
      · first | rfl | exact zrt (by simp_all [-Int32.not_lt, -Int32.not_le, zle]) | exact zrf (by simp_all [-Int32.not_lt, -Int32.not_le, zle])
      · rfl
    · refine go_iconst (v := 1) dX3_isWithin_10 (by decide) ?_
      refine go_goto (tgt := 15) dX3_isWithin_11 (by decide) ?_
      refine go_zret dX3_isWithin_15 rfl (by first | rfl | exact zi_n) ?_ ?_ (Nat.zero_le _) (Nat.zero_le _)
      · first | rfl | exact zrt (by simp_all [-Int32.not_lt, -Int32.not_le, zle]) | exact zrf (by simp_all [-Int32.not_lt, -Int32.not_le, zle])
      · rfl
set_option maxRecDepth 4000 in
theorem kX3_isPort (γ : zG) (l : Launch) (n : Nat) (h : zH) (v : Int32) : Con γ l (n + 1) 0 0 MX3_isPort [.int v] h (some (.int (zi (0 ≤ v ∧ v ≤ 7)))) h := by
  refine Con.go (by decide +kernel) (Nat.le_of_ble_eq_true rfl) ⟨rfl, trivial⟩ ?_
  show Go _ 0 0 0 [some (.int v)] [] _
  refine go_iload_n dX3_isPort_0 rfl ?_
  refine go_iconst (v := 0) dX3_isPort_1 (by decide) ?_
  refine go_bipush (v := 7) dX3_isPort_2 (by decide) ?_
  refine go_callSi dX3_isPort_4 moX3_isWithin csX3_27 (kX3_isWithin γ l _ _ _ _ _) rfl rfl (Nat.le_refl _) (Nat.zero_le _) (Nat.zero_le _) (Nat.le_of_ble_eq_true rfl) ?_
  refine go_zret dX3_isPort_7 rfl (by first | rfl | exact zi_n) ?_ ?_ (Nat.zero_le _) (Nat.zero_le _)
  · rfl
  · rfl
set_option maxRecDepth 4000 in
theorem kX3_isSupply (γ : zG) (l : Launch) (n : Nat) (h : zH) (v : Int32) : Con γ l (n + 1) 0 0 MX3_isSupply [.int v] h (some (.int (zi (0 ≤ v ∧ v ≤ 2)))) h := by
  refine Con.go (by decide +kernel) (Nat.le_of_ble_eq_true rfl) ⟨rfl, trivial⟩ ?_
  show Go _ 0 0 0 [some (.int v)] [] _
  refine go_iload_n dX3_isSupply_0 rfl ?_
  refine go_iconst (v := 0) dX3_isSupply_1 (by decide) ?_
  refine go_iconst (v := 2) dX3_isSupply_2 (by decide) ?_
  refine go_callSi dX3_isSupply_3 moX3_isWithin csX3_27 (kX3_isWithin γ l _ _ _ _ _) rfl rfl (Nat.le_refl _) (Nat.zero_le _) (Nat.zero_le _) (Nat.le_of_ble_eq_true rfl) ?_
  refine go_zret dX3_isSupply_6 rfl (by first | rfl | exact zi_n) ?_ ?_ (Nat.zero_le _) (Nat.zero_le _)
  · rfl
  · rfl
set_option maxRecDepth 4000 in
theorem kX3_isSlot (γ : zG) (l : Launch) (n : Nat) (h : zH) (v : Int32) : Con γ l (n + 1) 0 0 MX3_isSlot [.int v] h (some (.int (zi (0 ≤ v ∧ v ≤ 1)))) h := by
  refine Con.go (by decide +kernel) (Nat.le_of_ble_eq_true rfl) ⟨rfl, trivial⟩ ?_
  show Go _ 0 0 0 [some (.int v)] [] _
  refine go_iload_n dX3_isSlot_0 rfl ?_
  refine go_iconst (v := 0) dX3_isSlot_1 (by decide) ?_
  refine go_iconst (v := 1) dX3_isSlot_2 (by decide) ?_
  refine go_callSi dX3_isSlot_3 moX3_isWithin csX3_27 (kX3_isWithin γ l _ _ _ _ _) rfl rfl (Nat.le_refl _) (Nat.zero_le _) (Nat.zero_le _) (Nat.le_of_ble_eq_true rfl) ?_
  refine go_zret dX3_isSlot_6 rfl (by first | rfl | exact zi_n) ?_ ?_ (Nat.zero_le _) (Nat.zero_le _)
  · rfl
  · rfl
set_option maxRecDepth 4000 in
theorem kX3_isDetected (γ : zG) (l : Launch) (n : Nat) (h : zH) (r c : Int32) : Con γ l (n + 1) 0 0 MX3_isDetected [.int r, .int c] h (some (.int (zi ((190 ≤ r ∧ r ≤ 265) ∧ c ≤ 15)))) h := by
  refine Con.go (by decide +kernel) (Nat.le_of_ble_eq_true rfl) ⟨rfl, rfl, trivial⟩ ?_
  show Go _ 0 0 0 [some (.int r), some (.int c)] [] _
  refine go_iload_n dX3_isDetected_0 rfl ?_
  refine go_sipush (v := 190) dX3_isDetected_1 (by decide) ?_
  refine go_sipush (v := 265) dX3_isDetected_4 (by decide) ?_
  refine go_callSi dX3_isDetected_7 moX3_isWithin csX3_27 (kX3_isWithin γ l _ _ _ _ _) rfl rfl (Nat.le_refl _) (Nat.zero_le _) (Nat.zero_le _) (Nat.le_of_ble_eq_true rfl) ?_
  refine go_if_eq (tgt := 23) dX3_isDetected_10 (by decide) (fun c10 => ?_) (fun c10 => ?_)
  · replace c10 := zi_0.mp c10
    refine go_iconst (v := 0) dX3_isDetected_23 (by decide) ?_
    refine go_zret dX3_isDetected_24 rfl (by first | rfl | exact zi_n) ?_ ?_ (Nat.zero_le _) (Nat.zero_le _)
    · first | exact zrt ⟨c10⟩ | exact zrf (fun q => c10 q.1) | exact zrt ⟨c10, zle.mpr c16⟩ | exact zrf (fun q => zle.mp q.2 c16)
    · rfl
  · replace c10 := zi_nz.mp c10
    refine go_iload_n dX3_isDetected_13 rfl ?_
    refine go_bipush (v := 15) dX3_isDetected_14 (by decide) ?_
    refine go_icmp_gt (tgt := 23) dX3_isDetected_16 (by decide) (fun c16 => ?_) (fun c16 => ?_)
    · refine go_iconst (v := 0) dX3_isDetected_23 (by decide) ?_
      refine go_zret dX3_isDetected_24 rfl (by first | rfl | exact zi_n) ?_ ?_ (Nat.zero_le _) (Nat.zero_le _)
      · first | exact zrt ⟨c10, c16⟩ | exact zrf (fun q => c10, c16 q.1) | exact zrt ⟨c10, zle.mpr c16⟩ | exact zrf (fun q => zle.mp q.2 c16)
      · rfl
    · refine go_iconst (v := 1) dX3_isDetected_19 (by decide) ?_
      refine go_goto (tgt := 24) dX3_isDetected_20 (by decide) ?_
      refine go_zret dX3_isDetected_24 rfl (by first | rfl | exact zi_n) ?_ ?_ (Nat.zero_le _) (Nat.zero_le _)
      · first | exact zrt ⟨c10, c16⟩ | exact zrf (fun q => c10, c16 q.1) | exact zrt ⟨c10, zle.mpr c16⟩ | exact zrf (fun q => zle.mp q.2 c16)
      · rfl
def clF (x : Int32) : Nat → Nat → Int32
  | 0, _ => -6
  | m + 1, k => if zsv 0 k ≤ x ∧ x ≤ zsv 1 k then nI k else clF x m (k + 1)
theorem zge5 {k m : Nat} (hk : k + (m + 1) = 5) : ¬ (5 : Int32) ≤ nI k := by
  have h1 : (5 : Int32) = nI 5 := rfl
  rw [h1]
  exact nI_ge (by omega) (by decide)
set_option maxRecDepth 4000 in
theorem kX3_classOf (γ : zG) (l : Launch) (n : Nat) (h : zH) (x : Int32) : Con γ l (n + 1) 0 0 MX3_classOf [.int x] h (some (.int (clF x 5 0))) h := by
  refine Con.go (by decide +kernel) (Nat.le_of_ble_eq_true rfl) ⟨rfl, trivial⟩ ?_
  show Go _ 0 0 0 [some (.int x), none] [] _
  have loop : ∀ (m k : Nat), k + m = 5 → clF x m k = clF x 5 0 → Go (γ, l, n + 1, (0, 0), MX3_classOf, zF γ 0 0 (some (.int (clF x 5 0))) h) 0 0 2 [some (.int x), some (.int (nI k))] [] h := by
    intro m
    induction m with
    | zero =>
      intro k hk hf
      have hkN : k = 5 := by omega
      subst hkN
      refine go_iload_n dX3_classOf_2 rfl ?_
      refine go_gets (k := 2) dX3_classOf_3 (by decide) slX3_174 ?_
      refine go_tlen dX3_classOf_6 (by decide) ?_
      refine go_icmp_ge (tgt := 35) dX3_classOf_7 (by decide) (fun c7 => ?_) (fun c7 => absurd (by decide) c7)
      refine go_bipush (v := (-6)) dX3_classOf_35 (by decide) ?_
      refine go_iret dX3_classOf_37 rfl ?_ ?_ (Nat.zero_le _) (Nat.zero_le _)
      · rw [← hf]; rfl
      · rfl
    | succ m ih =>
      intro k hk hf
      have hlt : k < 5 := by omega
      refine go_iload_n dX3_classOf_2 rfl ?_
      refine go_gets (k := 2) dX3_classOf_3 (by decide) slX3_174 ?_
      refine go_tlen dX3_classOf_6 (by decide) ?_
      refine go_icmp_ge (tgt := 35) dX3_classOf_7 (by decide) (fun c7 => absurd c7 (zge5 hk)) (fun c7 => ?_)
      refine go_iload_n dX3_classOf_10 rfl ?_
      refine go_gets (k := 0) dX3_classOf_11 (by decide) slX3_177 ?_
      refine go_iload_n dX3_classOf_14 rfl ?_
      refine go_tald dX3_classOf_15 (by decide) (zix rfl hlt (by decide)).1 (zix rfl hlt (by decide)).2 ?_
      refine go_gets (k := 1) dX3_classOf_16 (by decide) slX3_180 ?_
      refine go_iload_n dX3_classOf_19 rfl ?_
      refine go_tald dX3_classOf_20 (by decide) (zix rfl hlt (by decide)).1 (zix rfl hlt (by decide)).2 ?_
      refine go_callSi dX3_classOf_21 moX3_isWithin csX3_27 (kX3_isWithin γ l _ _ _ _ _) rfl rfl (Nat.le_refl _) (Nat.zero_le _) (Nat.zero_le _) (Nat.le_of_ble_eq_true rfl) ?_
      refine go_if_eq (tgt := 29) dX3_classOf_24 (by decide) (fun c24 => ?_) (fun c24 => ?_)
      · replace c24 := zi_0.mp c24
        refine go_iinc dX3_classOf_29 rfl (nI_1 k) (Nat.le_of_ble_eq_true rfl) ?_
        refine go_goto (tgt := 2) dX3_classOf_32 (by decide) ?_
        exact ih (k + 1) (by omega) ((show clF x (m + 1) k = clF x m (k + 1) from if_neg c24).symm.trans hf)
      · replace c24 := zi_nz.mp c24
        refine go_iload_n dX3_classOf_27 rfl ?_
        refine go_iret dX3_classOf_28 rfl ?_ ?_ (Nat.zero_le _) (Nat.zero_le _)
        · rw [← hf]; exact congrArg (fun v => some (Value.int v)) (if_pos c24)
        · rfl
  refine go_iconst (v := 0) dX3_classOf_0 (by decide) ?_
  refine go_istore_n dX3_classOf_1 (Nat.le_of_ble_eq_true rfl) ?_
  exact loop 5 0 rfl rfl
def mxF (c : Int32) : Int32 := if 0 ≤ c ∧ c ≤ 4 then zsv 2 c.toNatClampNeg else 0
set_option maxRecDepth 4000 in
theorem kX3_maximumOf (γ : zG) (l : Launch) (n : Nat) (h : zH) (x : Int32) : Con γ l (n + 1) 0 0 MX3_maximumOf [.int x] h (some (.int (mxF x))) h := by
  refine Con.go (by decide +kernel) (Nat.le_of_ble_eq_true rfl) ⟨rfl, trivial⟩ ?_
  show Go _ 0 0 0 [some (.int x)] [] _
  refine go_iload_n dX3_maximumOf_0 rfl ?_
  refine go_iconst (v := 0) dX3_maximumOf_1 (by decide) ?_
  refine go_gets (k := 2) dX3_maximumOf_2 (by decide) slX3_174 ?_
  refine go_tlen dX3_maximumOf_5 (by decide) ?_
  refine go_iconst (v := 1) dX3_maximumOf_6 (by decide) ?_
  refine go_isub dX3_maximumOf_7 ?_
  refine go_callSi dX3_maximumOf_8 moX3_isWithin csX3_27 (kX3_isWithin γ l _ _ _ _ _) rfl rfl (Nat.le_refl _) (Nat.zero_le _) (Nat.zero_le _) (Nat.le_of_ble_eq_true rfl) ?_
  refine go_if_eq (tgt := 22) dX3_maximumOf_11 (by decide) (fun c11 => ?_) (fun c11 => ?_)
  · replace c11 := zi_0.mp c11
    refine go_iconst (v := 0) dX3_maximumOf_22 (by decide) ?_
    refine go_iret dX3_maximumOf_23 rfl ?_ ?_ (Nat.zero_le _) (Nat.zero_le _)
    · first | exact congrArg (fun v => some (Value.int v)) (if_pos (c := 0 ≤ x ∧ x ≤ 4) c11) | exact congrArg (fun v => some (Value.int v)) (if_neg (c := 0 ≤ x ∧ x ≤ 4) c11)
    · rfl
  · replace c11 := zi_nz.mp c11
    refine go_gets (k := 2) dX3_maximumOf_14 (by decide) slX3_174 ?_
    refine go_iload_n dX3_maximumOf_17 rfl ?_
    refine go_tald dX3_maximumOf_18 (by decide) (zin5 c11) rfl ?_
    refine go_goto (tgt := 23) dX3_maximumOf_19 (by decide) ?_
    refine go_iret dX3_maximumOf_23 rfl ?_ ?_ (Nat.zero_le _) (Nat.zero_le _)
    · first | exact congrArg (fun v => some (Value.int v)) (if_pos (c := 0 ≤ x ∧ x ≤ 4) c11) | exact congrArg (fun v => some (Value.int v)) (if_neg (c := 0 ≤ x ∧ x ≤ 4) c11)
    · rfl
