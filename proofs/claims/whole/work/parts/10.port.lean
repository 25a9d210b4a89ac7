/-! Port -/
def zpo (f : Nat → Int32) : va_E := .inr (1, [.int (f 0), .int (f 1), .int (f 2), .int (f 3), .int (f 4), .int (f 5), .int (f 6), .int (f 7), .int (f 8), .int (f 9)])
def zbo (f : Nat → Int32) : Prop := zB (f 0) ∧ zB (f 2) ∧ zB (f 3)
set_option maxRecDepth 4000 in
theorem kX1_isPowered (γ : zG) (l : Launch) (n : Nat) (h : zH) (a : Nat) (f : Nat → Int32) (hp : h.1 a = some (zpo f)) : Con γ l (n) 0 0 MX1_isPowered [.ref a] h (some (.int (zi (0 < f 7)))) h := by
  refine Con.go (by decide +kernel) (Nat.le_of_ble_eq_true rfl) ⟨rfl, trivial⟩ ?_
  show Go _ 0 0 0 [some (.ref a)] [] _
  refine go_aload_n dX1_isPowered_0 rfl ?_
  refine go_getf dX1_isPowered_1 flX1_22 (by exact hp) rfl ?_
  refine go_if_le (tgt := 11) dX1_isPowered_4 (by decide) (fun c4 => ?_) (fun c4 => ?_)
  · refine go_iconst (v := 0) dX1_isPowered_11 (by decide) ?_
    refine go_zret dX1_isPowered_12 rfl (by first | rfl | exact zi_n) ?_ ?_ (Nat.zero_le _) (Nat.zero_le _)
    · first | rfl | exact zrt (by simp_all [-Int32.not_lt, -Int32.not_le, zle, zi_0]) | exact zrf (by simp_all [-Int32.not_lt, -Int32.not_le, zle, zi_0])
    · rfl
  · refine go_iconst (v := 1) dX1_isPowered_7 (by decide) ?_
    refine go_goto (tgt := 12) dX1_isPowered_8 (by decide) ?_
    refine go_zret dX1_isPowered_12 rfl (by first | rfl | exact zi_n) ?_ ?_ (Nat.zero_le _) (Nat.zero_le _)
    · first | rfl | exact zrt (by simp_all [-Int32.not_lt, -Int32.not_le, zle, zi_0]) | exact zrf (by simp_all [-Int32.not_lt, -Int32.not_le, zle, zi_0])
    · rfl
set_option maxRecDepth 4000 in
theorem kX1_isOverloaded (γ : zG) (l : Launch) (n : Nat) (h : zH) (a : Nat) (f : Nat → Int32) (hp : h.1 a = some (zpo f)) : Con γ l (n + 1) 0 0 MX1_isOverloaded [.ref a] h (some (.int (zi (0 < f 7 ∧ f 7 < f 5)))) h := by
  refine Con.go (by decide +kernel) (Nat.le_of_ble_eq_true rfl) ⟨rfl, trivial⟩ ?_
  show Go _ 0 0 0 [some (.ref a)] [] _
  refine go_aload_n dX1_isOverloaded_0 rfl ?_
  refine go_callVi (ci := 1) dX1_isOverloaded_1 moX1_isPowered cvX1_25 ⟨rfl, rfl⟩ (kX1_isPowered γ l _ h a f hp) (by exact hp) rfl rfl (Nat.le_refl _) (Nat.zero_le _) (Nat.zero_le _) (Nat.le_of_ble_eq_true rfl) ?_
  refine go_if_eq (tgt := 22) dX1_isOverloaded_4 (by decide) (fun c4 => ?_) (fun c4 => ?_)
  · refine go_iconst (v := 0) dX1_isOverloaded_22 (by decide) ?_
    refine go_zret dX1_isOverloaded_23 rfl (by first | rfl | exact zi_n) ?_ ?_ (Nat.zero_le _) (Nat.zero_le _)
    · first | rfl | exact zrt (by simp_all [-Int32.not_lt, -Int32.not_le, zle, zi_0]) | exact zrf (by simp_all [-Int32.not_lt, -Int32.not_le, zle, zi_0])
    · rfl
  · refine go_aload_n dX1_isOverloaded_7 rfl ?_
    refine go_getf dX1_isOverloaded_8 flX1_29 (by exact hp) rfl ?_
    refine go_aload_n dX1_isOverloaded_11 rfl ?_
    refine go_getf dX1_isOverloaded_12 flX1_22 (by exact hp) rfl ?_
    refine go_icmp_le (tgt := 22) dX1_isOverloaded_15 (by decide) (fun c15 => ?_) (fun c15 => ?_)
    · refine go_iconst (v := 0) dX1_isOverloaded_22 (by decide) ?_
      refine go_zret dX1_isOverloaded_23 rfl (by first | rfl | exact zi_n) ?_ ?_ (Nat.zero_le _) (Nat.zero_le _)
      · first | rfl | exact zrt (by simp_all [-Int32.not_lt, -Int32.not_le, zle, zi_0]) | exact zrf (by simp_all [-Int32.not_lt, -Int32.not_le, zle, zi_0])
      · rfl
    · refine go_iconst (v := 1) dX1_isOverloaded_18 (by decide) ?_
      refine go_goto (tgt := 23) dX1_isOverloaded_19 (by decide) ?_
      refine go_zret dX1_isOverloaded_23 rfl (by first | rfl | exact zi_n) ?_ ?_ (Nat.zero_le _) (Nat.zero_le _)
      · first | rfl | exact zrt (by simp_all [-Int32.not_lt, -Int32.not_le, zle, zi_0]) | exact zrf (by simp_all [-Int32.not_lt, -Int32.not_le, zle, zi_0])
      · rfl
set_option maxRecDepth 4000 in
theorem kX1_hasRequest (γ : zG) (l : Launch) (n : Nat) (h : zH) (a : Nat) (f : Nat → Int32) (hp : h.1 a = some (zpo f)) : Con γ l (n) 0 0 MX1_hasRequest [.ref a] h (some (.int (zi (¬ f 2 = 0 ∧ ¬ f 4 = -6)))) h := by
  refine Con.go (by decide +kernel) (Nat.le_of_ble_eq_true rfl) ⟨rfl, trivial⟩ ?_
  show Go _ 0 0 0 [some (.ref a)] [] _
  refine go_aload_n dX1_hasRequest_0 rfl ?_
  refine go_getf dX1_hasRequest_1 flX1_32 (by exact hp) rfl ?_
  refine go_if_eq (tgt := 20) dX1_hasRequest_4 (by decide) (fun c4 => ?_) (fun c4 => ?_)
  · refine go_iconst (v := 0) dX1_hasRequest_20 (by decide) ?_
    refine go_zret dX1_hasRequest_21 rfl (by first | rfl | exact zi_n) ?_ ?_ (Nat.zero_le _) (Nat.zero_le _)
    · first | rfl | exact zrt (by simp_all [-Int32.not_lt, -Int32.not_le, zle, zi_0]) | exact zrf (by simp_all [-Int32.not_lt, -Int32.not_le, zle, zi_0])
    · rfl
  · refine go_aload_n dX1_hasRequest_7 rfl ?_
    refine go_getf dX1_hasRequest_8 flX1_19 (by exact hp) rfl ?_
    refine go_bipush (v := (-6)) dX1_hasRequest_11 (by decide) ?_
    refine go_icmp_eq (tgt := 20) dX1_hasRequest_13 (by decide) (fun c13 => ?_) (fun c13 => ?_)
    · refine go_iconst (v := 0) dX1_hasRequest_20 (by decide) ?_
      refine go_zret dX1_hasRequest_21 rfl (by first | rfl | exact zi_n) ?_ ?_ (Nat.zero_le _) (Nat.zero_le _)
      · first | rfl | exact zrt (by simp_all [-Int32.not_lt, -Int32.not_le, zle, zi_0]) | exact zrf (by simp_all [-Int32.not_lt, -Int32.not_le, zle, zi_0])
      · rfl
    · refine go_iconst (v := 1) dX1_hasRequest_16 (by decide) ?_
      refine go_goto (tgt := 21) dX1_hasRequest_17 (by decide) ?_
      refine go_zret dX1_hasRequest_21 rfl (by first | rfl | exact zi_n) ?_ ?_ (Nat.zero_le _) (Nat.zero_le _)
      · first | rfl | exact zrt (by simp_all [-Int32.not_lt, -Int32.not_le, zle, zi_0]) | exact zrf (by simp_all [-Int32.not_lt, -Int32.not_le, zle, zi_0])
      · rfl
set_option maxRecDepth 4000 in
theorem kX1_isEligible (γ : zG) (l : Launch) (n : Nat) (h : zH) (a : Nat) (f : Nat → Int32) (hp : h.1 a = some (zpo f)) : Con γ l (n + 1) 0 0 MX1_isEligible [.ref a] h (some (.int (zi (¬ f 0 = 0 ∧ ¬ f 3 = 0 ∧ ¬ f 2 = 0 ∧ ¬ f 4 = -6)))) h := by
  refine Con.go (by decide +kernel) (Nat.le_of_ble_eq_true rfl) ⟨rfl, trivial⟩ ?_
  show Go _ 0 0 0 [some (.ref a)] [] _
  refine go_aload_n dX1_isEligible_0 rfl ?_
  refine go_getf dX1_isEligible_1 flX1_9 (by exact hp) rfl ?_
  refine go_if_eq (tgt := 34) dX1_isEligible_4 (by decide) (fun c4 => ?_) (fun c4 => ?_)
  · refine go_iconst (v := 0) dX1_isEligible_34 (by decide) ?_
    refine go_zret dX1_isEligible_35 rfl (by first | rfl | exact zi_n) ?_ ?_ (Nat.zero_le _) (Nat.zero_le _)
    · first | rfl | exact zrt (by simp_all [-Int32.not_lt, -Int32.not_le, zle, zi_0]) | exact zrf (by simp_all [-Int32.not_lt, -Int32.not_le, zle, zi_0])
    · rfl
  · refine go_aload_n dX1_isEligible_7 rfl ?_
    refine go_getf dX1_isEligible_8 flX1_32 (by exact hp) rfl ?_
    refine go_if_eq (tgt := 34) dX1_isEligible_11 (by decide) (fun c11 => ?_) (fun c11 => ?_)
    · refine go_iconst (v := 0) dX1_isEligible_34 (by decide) ?_
      refine go_zret dX1_isEligible_35 rfl (by first | rfl | exact zi_n) ?_ ?_ (Nat.zero_le _) (Nat.zero_le _)
      · first | rfl | exact zrt (by simp_all [-Int32.not_lt, -Int32.not_le, zle, zi_0]) | exact zrf (by simp_all [-Int32.not_lt, -Int32.not_le, zle, zi_0])
      · rfl
    · refine go_aload_n dX1_isEligible_14 rfl ?_
      refine go_getf dX1_isEligible_15 flX1_35 (by exact hp) rfl ?_
      refine go_if_eq (tgt := 34) dX1_isEligible_18 (by decide) (fun c18 => ?_) (fun c18 => ?_)
      · refine go_iconst (v := 0) dX1_isEligible_34 (by decide) ?_
        refine go_zret dX1_isEligible_35 rfl (by first | rfl | exact zi_n) ?_ ?_ (Nat.zero_le _) (Nat.zero_le _)
        · first | rfl | exact zrt (by simp_all [-Int32.not_lt, -Int32.not_le, zle, zi_0]) | exact zrf (by simp_all [-Int32.not_lt, -Int32.not_le, zle, zi_0])
        · rfl
      · refine go_aload_n dX1_isEligible_21 rfl ?_
        refine go_getf dX1_isEligible_22 flX1_19 (by exact hp) rfl ?_
        refine go_bipush (v := (-6)) dX1_isEligible_25 (by decide) ?_
        refine go_icmp_eq (tgt := 34) dX1_isEligible_27 (by decide) (fun c27 => ?_) (fun c27 => ?_)
        · refine go_iconst (v := 0) dX1_isEligible_34 (by decide) ?_
          refine go_zret dX1_isEligible_35 rfl (by first | rfl | exact zi_n) ?_ ?_ (Nat.zero_le _) (Nat.zero_le _)
          · first | rfl | exact zrt (by simp_all [-Int32.not_lt, -Int32.not_le, zle, zi_0]) | exact zrf (by simp_all [-Int32.not_lt, -Int32.not_le, zle, zi_0])
          · rfl
        · refine go_iconst (v := 1) dX1_isEligible_30 (by decide) ?_
          refine go_goto (tgt := 35) dX1_isEligible_31 (by decide) ?_
          refine go_zret dX1_isEligible_35 rfl (by first | rfl | exact zi_n) ?_ ?_ (Nat.zero_le _) (Nat.zero_le _)
          · first | rfl | exact zrt (by simp_all [-Int32.not_lt, -Int32.not_le, zle, zi_0]) | exact zrf (by simp_all [-Int32.not_lt, -Int32.not_le, zle, zi_0])
          · rfl
set_option maxRecDepth 4000 in
theorem kX1_canPowerUp (γ : zG) (l : Launch) (n : Nat) (h : zH) (a : Nat) (f : Nat → Int32) (hp : h.1 a = some (zpo f)) (x : Int32) : Con γ l (n + 2) 0 0 MX1_canPowerUp [.ref a, .int x] h (some (.int (zi ((¬ f 0 = 0 ∧ ¬ f 3 = 0 ∧ ¬ f 2 = 0 ∧ ¬ f 4 = -6) ∧ ¬ 0 < f 7 ∧ f 9 = 0 ∧ f 6 ≤ x)))) h := by
  refine Con.go (by decide +kernel) (Nat.le_of_ble_eq_true rfl) ⟨rfl, rfl, trivial⟩ ?_
  show Go _ 0 0 0 [some (.ref a), some (.int x)] [] _
  refine go_aload_n dX1_canPowerUp_0 rfl ?_
  refine go_callVi (ci := 1) dX1_canPowerUp_1 moX1_isEligible cvX1_38 ⟨rfl, rfl⟩ (kX1_isEligible γ l _ h a f hp) (by exact hp) rfl rfl (Nat.le_refl _) (Nat.zero_le _) (Nat.zero_le _) (Nat.le_of_ble_eq_true rfl) ?_
  refine go_if_eq (tgt := 33) dX1_canPowerUp_4 (by decide) (fun c4 => ?_) (fun c4 => ?_)
  · refine go_iconst (v := 0) dX1_canPowerUp_33 (by decide) ?_
    refine go_zret dX1_canPowerUp_34 rfl (by first | rfl | exact zi_n) ?_ ?_ (Nat.zero_le _) (Nat.zero_le _)
    · first | rfl | exact zrt (by simp_all [-Int32.not_lt, -Int32.not_le, zle, zi_0]) | exact zrf (by simp_all [-Int32.not_lt, -Int32.not_le, zle, zi_0])
    · rfl
  · refine go_aload_n dX1_canPowerUp_7 rfl ?_
    refine go_callVi (ci := 1) dX1_canPowerUp_8 moX1_isPowered cvX1_25 ⟨rfl, rfl⟩ (kX1_isPowered γ l _ h a f hp) (by exact hp) rfl rfl (Nat.le_refl _) (Nat.zero_le _) (Nat.zero_le _) (Nat.le_of_ble_eq_true rfl) ?_
    refine go_if_ne (tgt := 33) dX1_canPowerUp_11 (by decide) (fun c11 => ?_) (fun c11 => ?_)
    · refine go_iconst (v := 0) dX1_canPowerUp_33 (by decide) ?_
      refine go_zret dX1_canPowerUp_34 rfl (by first | rfl | exact zi_n) ?_ ?_ (Nat.zero_le _) (Nat.zero_le _)
      · first | rfl | exact zrt (by simp_all [-Int32.not_lt, -Int32.not_le, zle, zi_0]) | exact zrf (by simp_all [-Int32.not_lt, -Int32.not_le, zle, zi_0])
      · rfl
    · refine go_aload_n dX1_canPowerUp_14 rfl ?_
      refine go_getf dX1_canPowerUp_15 flX1_41 (by exact hp) rfl ?_
      refine go_if_ne (tgt := 33) dX1_canPowerUp_18 (by decide) (fun c18 => ?_) (fun c18 => ?_)
      · refine go_iconst (v := 0) dX1_canPowerUp_33 (by decide) ?_
        refine go_zret dX1_canPowerUp_34 rfl (by first | rfl | exact zi_n) ?_ ?_ (Nat.zero_le _) (Nat.zero_le _)
        · first | rfl | exact zrt (by simp_all [-Int32.not_lt, -Int32.not_le, zle, zi_0]) | exact zrf (by simp_all [-Int32.not_lt, -Int32.not_le, zle, zi_0])
        · rfl
      · refine go_aload_n dX1_canPowerUp_21 rfl ?_
        refine go_getf dX1_canPowerUp_22 flX1_44 (by exact hp) rfl ?_
        refine go_iload_n dX1_canPowerUp_25 rfl ?_
        refine go_icmp_gt (tgt := 33) dX1_canPowerUp_26 (by decide) (fun c26 => ?_) (fun c26 => ?_)
        · refine go_iconst (v := 0) dX1_canPowerUp_33 (by decide) ?_
          refine go_zret dX1_canPowerUp_34 rfl (by first | rfl | exact zi_n) ?_ ?_ (Nat.zero_le _) (Nat.zero_le _)
          · first | rfl | exact zrt (by simp_all [-Int32.not_lt, -Int32.not_le, zle, zi_0]) | exact zrf (by simp_all [-Int32.not_lt, -Int32.not_le, zle, zi_0])
          · rfl
        · refine go_iconst (v := 1) dX1_canPowerUp_29 (by decide) ?_
          refine go_goto (tgt := 34) dX1_canPowerUp_30 (by decide) ?_
          refine go_zret dX1_canPowerUp_34 rfl (by first | rfl | exact zi_n) ?_ ?_ (Nat.zero_le _) (Nat.zero_le _)
          · first | rfl | exact zrt (by simp_all [-Int32.not_lt, -Int32.not_le, zle, zi_0]) | exact zrf (by simp_all [-Int32.not_lt, -Int32.not_le, zle, zi_0])
          · rfl
set_option maxRecDepth 4000 in
theorem kX1_losePower (γ : zG) (l : Launch) (n : Nat) (h : zH) (a : Nat) (f : Nat → Int32) (hp : h.1 a = some (zpo f)) : Con γ l (n) 0 0 MX1_losePower [.ref a] h none (zu h a (zpo (upd (upd f 7 0) 8 0))) := by
  refine Con.go (by decide +kernel) (Nat.le_of_ble_eq_true rfl) ⟨rfl, trivial⟩ ?_
  show Go _ 0 0 0 [some (.ref a)] [] _
  refine go_aload_n dX1_losePower_0 rfl ?_
  refine go_iconst (v := 0) dX1_losePower_1 (by decide) ?_
  refine go_putf dX1_losePower_2 flX1_22 fnX1_7 (by first | exact zu_s _ _ _ | exact hp) rfl rfl (Nat.le_of_ble_eq_true rfl) ?_
  refine go_aload_n dX1_losePower_5 rfl ?_
  refine go_iconst (v := 0) dX1_losePower_6 (by decide) ?_
  refine go_putf dX1_losePower_7 flX1_47 fnX1_8 (by first | exact zu_s _ _ _ | exact hp) rfl rfl (Nat.le_of_ble_eq_true rfl) ?_
  refine go_vret dX1_losePower_10 rfl rfl ?_ (Nat.zero_le _) (Nat.zero_le _)
  · simp only [zu_zu]; rfl
set_option maxRecDepth 4000 in
theorem kX1_reset (γ : zG) (l : Launch) (n : Nat) (h : zH) (a : Nat) (f : Nat → Int32) (hp : h.1 a = some (zpo f)) : Con γ l (n + 1) 0 0 MX1_reset [.ref a] h none (zu h a (zpo (upd (upd (upd f 7 0) 8 0) 9 0))) := by
  refine Con.go (by decide +kernel) (Nat.le_of_ble_eq_true rfl) ⟨rfl, trivial⟩ ?_
  show Go _ 0 0 0 [some (.ref a)] [] _
  refine go_aload_n dX1_reset_0 rfl ?_
  refine go_callVv (ci := 1) dX1_reset_1 moX1_losePower cvX1_50 ⟨rfl, rfl⟩ (kX1_losePower γ l _ h a f hp) (by exact hp) rfl rfl (Nat.le_refl _) (Nat.zero_le _) (Nat.zero_le _) (Nat.le_of_ble_eq_true rfl) ?_
  refine go_aload_n dX1_reset_4 rfl ?_
  refine go_iconst (v := 0) dX1_reset_5 (by decide) ?_
  refine go_putf dX1_reset_6 flX1_41 fnX1_9 (by exact zu_s _ _ _) rfl rfl (Nat.le_of_ble_eq_true rfl) ?_
  refine go_vret dX1_reset_9 rfl rfl ?_ (Nat.zero_le _) (Nat.zero_le _)
  · simp only [zu_zu]; rfl
set_option maxRecDepth 4000 in
theorem kX1_init (γ : zG) (l : Launch) (n : Nat) (h : zH) (a : Nat) (f : Nat → Int32) (hp : h.1 a = some (zpo f)) : Con γ l (n + 1) 0 0 MX1_init [.ref a] h none (zu h a (zpo (upd (upd (upd f 0 1) 1 2) 4 (-6)))) := by
  refine Con.go (by decide +kernel) (Nat.le_of_ble_eq_true rfl) ⟨rfl, trivial⟩ ?_
  show Go _ 0 0 0 [some (.ref a)] [] _
  refine go_aload_n dX1_init_0 rfl ?_
  refine go_objInit dX1_init_1 oiX1_3 (by show 1 ≤ _ + 1; omega) ?_
  refine go_aload_n dX1_init_4 rfl ?_
  refine go_iconst (v := 1) dX1_init_5 (by decide) ?_
  refine go_putf dX1_init_6 flX1_9 fnX1_0 (by first | exact zu_s _ _ _ | exact hp) (znb (by first | exact Or.inl rfl | exact Or.inr rfl | exact zi_B)) (zfb (by first | exact Or.inl rfl | exact Or.inr rfl | exact zi_B)) (Nat.le_of_ble_eq_true rfl) ?_
  refine go_aload_n dX1_init_9 rfl ?_
  refine go_iconst (v := 2) dX1_init_10 (by decide) ?_
  refine go_putf dX1_init_11 flX1_15 fnX1_1 (by first | exact zu_s _ _ _ | exact hp) rfl rfl (Nat.le_of_ble_eq_true rfl) ?_
  refine go_aload_n dX1_init_14 rfl ?_
  refine go_bipush (v := (-6)) dX1_init_15 (by decide) ?_
  refine go_putf dX1_init_17 flX1_19 fnX1_4 (by first | exact zu_s _ _ _ | exact hp) rfl rfl (Nat.le_of_ble_eq_true rfl) ?_
  refine go_vret dX1_init_20 rfl rfl ?_ (Nat.zero_le _) (Nat.zero_le _)
  · simp only [zu_zu]; rfl
set_option maxRecDepth 4000 in
theorem kX1_copyFrom (γ : zG) (l : Launch) (n : Nat) (h : zH) (a : Nat) (f : Nat → Int32) (hp : h.1 a = some (zpo f)) (b : Nat) (g : Nat → Int32) (hq : h.1 b = some (zpo g)) (hne : b ≠ a) (hb : zbo g) : Con γ l (n) 0 0 MX1_copyFrom [.ref a, .ref b] h none (zu h a (zpo g)) := by
  refine Con.go (by decide +kernel) (Nat.le_of_ble_eq_true rfl) ⟨rfl, rfl, trivial⟩ ?_
  show Go _ 0 0 0 [some (.ref a), some (.ref b)] [] _
  refine go_aload_n dX1_copyFrom_0 rfl ?_
  refine go_aload_n dX1_copyFrom_1 rfl ?_
  refine go_getf dX1_copyFrom_2 flX1_9 (by first | exact hq | exact zu_s _ _ _ | exact hp | ((repeat refine (zu_n hne).trans ?_); exact hq)) rfl ?_
  refine go_putf dX1_copyFrom_5 flX1_9 fnX1_0 (by first | exact hq | exact zu_s _ _ _ | exact hp | ((repeat refine (zu_n hne).trans ?_); exact hq)) (znb (by first | exact hb.1 | exact hb.2.1 | exact hb.2.2)) (zfb (by first | exact hb.1 | exact hb.2.1 | exact hb.2.2)) (Nat.le_of_ble_eq_true rfl) ?_
  refine go_aload_n dX1_copyFrom_8 rfl ?_
  refine go_aload_n dX1_copyFrom_9 rfl ?_
  refine go_getf dX1_copyFrom_10 flX1_15 (by first | exact hq | exact zu_s _ _ _ | exact hp | ((repeat refine (zu_n hne).trans ?_); exact hq)) rfl ?_
  refine go_putf dX1_copyFrom_13 flX1_15 fnX1_1 (by first | exact hq | exact zu_s _ _ _ | exact hp | ((repeat refine (zu_n hne).trans ?_); exact hq)) rfl rfl (Nat.le_of_ble_eq_true rfl) ?_
  refine go_aload_n dX1_copyFrom_16 rfl ?_
  refine go_aload_n dX1_copyFrom_17 rfl ?_
  refine go_getf dX1_copyFrom_18 flX1_32 (by first | exact hq | exact zu_s _ _ _ | exact hp | ((repeat refine (zu_n hne).trans ?_); exact hq)) rfl ?_
  refine go_putf dX1_copyFrom_21 flX1_32 fnX1_2 (by first | exact hq | exact zu_s _ _ _ | exact hp | ((repeat refine (zu_n hne).trans ?_); exact hq)) (znb (by first | exact hb.1 | exact hb.2.1 | exact hb.2.2)) (zfb (by first | exact hb.1 | exact hb.2.1 | exact hb.2.2)) (Nat.le_of_ble_eq_true rfl) ?_
  refine go_aload_n dX1_copyFrom_24 rfl ?_
  refine go_aload_n dX1_copyFrom_25 rfl ?_
  refine go_getf dX1_copyFrom_26 flX1_35 (by first | exact hq | exact zu_s _ _ _ | exact hp | ((repeat refine (zu_n hne).trans ?_); exact hq)) rfl ?_
  refine go_putf dX1_copyFrom_29 flX1_35 fnX1_3 (by first | exact hq | exact zu_s _ _ _ | exact hp | ((repeat refine (zu_n hne).trans ?_); exact hq)) (znb (by first | exact hb.1 | exact hb.2.1 | exact hb.2.2)) (zfb (by first | exact hb.1 | exact hb.2.1 | exact hb.2.2)) (Nat.le_of_ble_eq_true rfl) ?_
  refine go_aload_n dX1_copyFrom_32 rfl ?_
  refine go_aload_n dX1_copyFrom_33 rfl ?_
  refine go_getf dX1_copyFrom_34 flX1_19 (by first | exact hq | exact zu_s _ _ _ | exact hp | ((repeat refine (zu_n hne).trans ?_); exact hq)) rfl ?_
  refine go_putf dX1_copyFrom_37 flX1_19 fnX1_4 (by first | exact hq | exact zu_s _ _ _ | exact hp | ((repeat refine (zu_n hne).trans ?_); exact hq)) rfl rfl (Nat.le_of_ble_eq_true rfl) ?_
  refine go_aload_n dX1_copyFrom_40 rfl ?_
  refine go_aload_n dX1_copyFrom_41 rfl ?_
  refine go_getf dX1_copyFrom_42 flX1_29 (by first | exact hq | exact zu_s _ _ _ | exact hp | ((repeat refine (zu_n hne).trans ?_); exact hq)) rfl ?_
  refine go_putf dX1_copyFrom_45 flX1_29 fnX1_5 (by first | exact hq | exact zu_s _ _ _ | exact hp | ((repeat refine (zu_n hne).trans ?_); exact hq)) rfl rfl (Nat.le_of_ble_eq_true rfl) ?_
  refine go_aload_n dX1_copyFrom_48 rfl ?_
  refine go_aload_n dX1_copyFrom_49 rfl ?_
  refine go_getf dX1_copyFrom_50 flX1_44 (by first | exact hq | exact zu_s _ _ _ | exact hp | ((repeat refine (zu_n hne).trans ?_); exact hq)) rfl ?_
  refine go_putf dX1_copyFrom_53 flX1_44 fnX1_6 (by first | exact hq | exact zu_s _ _ _ | exact hp | ((repeat refine (zu_n hne).trans ?_); exact hq)) rfl rfl (Nat.le_of_ble_eq_true rfl) ?_
  refine go_aload_n dX1_copyFrom_56 rfl ?_
  refine go_aload_n dX1_copyFrom_57 rfl ?_
  refine go_getf dX1_copyFrom_58 flX1_22 (by first | exact hq | exact zu_s _ _ _ | exact hp | ((repeat refine (zu_n hne).trans ?_); exact hq)) rfl ?_
  refine go_putf dX1_copyFrom_61 flX1_22 fnX1_7 (by first | exact hq | exact zu_s _ _ _ | exact hp | ((repeat refine (zu_n hne).trans ?_); exact hq)) rfl rfl (Nat.le_of_ble_eq_true rfl) ?_
  refine go_aload_n dX1_copyFrom_64 rfl ?_
  refine go_aload_n dX1_copyFrom_65 rfl ?_
  refine go_getf dX1_copyFrom_66 flX1_47 (by first | exact hq | exact zu_s _ _ _ | exact hp | ((repeat refine (zu_n hne).trans ?_); exact hq)) rfl ?_
  refine go_putf dX1_copyFrom_69 flX1_47 fnX1_8 (by first | exact hq | exact zu_s _ _ _ | exact hp | ((repeat refine (zu_n hne).trans ?_); exact hq)) rfl rfl (Nat.le_of_ble_eq_true rfl) ?_
  refine go_aload_n dX1_copyFrom_72 rfl ?_
  refine go_aload_n dX1_copyFrom_73 rfl ?_
  refine go_getf dX1_copyFrom_74 flX1_41 (by first | exact hq | exact zu_s _ _ _ | exact hp | ((repeat refine (zu_n hne).trans ?_); exact hq)) rfl ?_
  refine go_putf dX1_copyFrom_77 flX1_41 fnX1_9 (by first | exact hq | exact zu_s _ _ _ | exact hp | ((repeat refine (zu_n hne).trans ?_); exact hq)) rfl rfl (Nat.le_of_ble_eq_true rfl) ?_
  refine go_vret dX1_copyFrom_80 rfl rfl ?_ (Nat.zero_le _) (Nat.zero_le _)
  · simp only [zu_zu]; rfl
