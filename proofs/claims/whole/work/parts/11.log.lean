/-! EventLog -/
def upR (L : Nat → Nat → Int32) (c : Nat) (f : Nat → Int32) : Nat → Nat → Int32 := fun c' => if c' = c then f else L c'
def up2 (L : Nat → Nat → Int32) (c i : Nat) (v : Int32) : Nat → Nat → Int32 := upR L c (upd (L c) i v)
def zlo (γ : zG) (b : Nat) (L : Nat → Nat → Int32) : Nat → va_E := fun k => match k with
  | 0 => .inr (0, [.ref (b + 1), .ref (b + 2), .ref (b + 3), .int (L 3 0), .int (L 3 1)])
  | 1 => zai γ 16 (L 0)
  | 2 => zai γ 16 (L 1)
  | _ => zai γ 16 (L 2)
theorem zlt4 {k : Nat} (h : k < 4) : k = 0 ∨ k = 1 ∨ k = 2 ∨ k = 3 := by omega
theorem zlo_0 {γ : zG} {h : zH} {b : Nat} {L : Nat → Nat → Int32} {f : Nat → Int32} (hs : zIs h b 4 (zlo γ b L)) : zu h (b + 1) (zai γ 16 f) = zput h b 4 (zlo γ b (upR L 0 f)) :=
  zu_zput hs (k := 1) (by decide) rfl (fun j hj hn => by rcases zlt4 hj with h | h | h | h <;> subst h <;> first | rfl | exact absurd rfl hn) rfl
theorem zlo_1 {γ : zG} {h : zH} {b : Nat} {L : Nat → Nat → Int32} {f : Nat → Int32} (hs : zIs h b 4 (zlo γ b L)) : zu h (b + 2) (zai γ 16 f) = zput h b 4 (zlo γ b (upR L 1 f)) :=
  zu_zput hs (k := 2) (by decide) rfl (fun j hj hn => by rcases zlt4 hj with h | h | h | h <;> subst h <;> first | rfl | exact absurd rfl hn) rfl
theorem zlo_2 {γ : zG} {h : zH} {b : Nat} {L : Nat → Nat → Int32} {f : Nat → Int32} (hs : zIs h b 4 (zlo γ b L)) : zu h (b + 3) (zai γ 16 f) = zput h b 4 (zlo γ b (upR L 2 f)) :=
  zu_zput hs (k := 3) (by decide) rfl (fun j hj hn => by rcases zlt4 hj with h | h | h | h <;> subst h <;> first | rfl | exact absurd rfl hn) rfl
theorem zlo_3 {γ : zG} {h : zH} {b : Nat} {L : Nat → Nat → Int32} {x y : Int32} (hs : zIs h b 4 (zlo γ b L)) : zu h b (.inr (0, [.ref (b + 1), .ref (b + 2), .ref (b + 3), .int x, .int y])) = zput h b 4 (zlo γ b (up2 (up2 L 3 0 x) 3 1 y)) :=
  zu_zput hs (k := 0) (by decide) rfl (fun j hj hn => by rcases zlt4 hj with h | h | h | h <;> subst h <;> first | rfl | exact absurd rfl hn) rfl
/-- the log's oldest place and its count are small -/
def lOk (L : Nat → Nat → Int32) (o c : Nat) : Prop := o < 16 ∧ c ≤ 16 ∧ L 3 0 = nI o ∧ L 3 1 = nI c
def lPut (L : Nat → Nat → Int32) (p : Nat) (t q k : Int32) : Nat → Nat → Int32 := up2 (up2 (up2 L 0 p t) 1 p q) 2 p k
def lAdd (L : Nat → Nat → Int32) (o c : Nat) (t q k : Int32) : Nat → Nat → Int32 := if c < 16 then up2 (lPut L ((o + c) % 16) t q k) 3 1 (nI (c + 1)) else up2 (lPut L ((o + c) % 16) t q k) 3 0 (nI ((o + 1) % 16))
def lCpy (L K : Nat → Nat → Int32) : Nat → Nat → Int32 := fun c => match c with
  | 0 => va_cpy (K 0) (L 0) 0 0 16
  | 1 => va_cpy (K 1) (L 1) 0 0 16
  | 2 => va_cpy (K 2) (L 2) 0 0 16
  | _ => upd (upd (L 3) 0 (K 3 0)) 1 (K 3 1)
set_option maxRecDepth 4000 in
theorem kX0_holds (γ : zG) (l : Launch) (n : Nat) (h : zH) (b : Nat) (L : Nat → Nat → Int32) (hs : zIs h b 4 (zlo γ b L)) (i : Int32) : Con γ l (n) 0 0 MX0_holds [.ref b, .int i] h (some (.int (zi (0 ≤ i ∧ i < L 3 1)))) h := by
  refine Con.go (by decide +kernel) (Nat.le_of_ble_eq_true rfl) ⟨rfl, rfl, trivial⟩ ?_
  show Go _ 0 0 0 [some (.ref b), some (.int i)] [] _
  refine go_iload_n dX0_holds_0 rfl ?_
  refine go_if_lt (tgt := 16) dX0_holds_1 (by decide) (fun c1 => ?_) (fun c1 => ?_)
  · refine go_iconst (v := 0) dX0_holds_16 (by decide) ?_
    refine go_zret dX0_holds_17 rfl (by first | rfl | exact zi_n) ?_ ?_ (Nat.zero_le _) (Nat.zero_le _)
    · first | rfl | exact zrt (by simp_all [-Int32.not_lt, -Int32.not_le, zle, zi_0]) | exact zrf (by simp_all [-Int32.not_lt, -Int32.not_le, zle, zi_0])
    · rfl
  · refine go_iload_n dX0_holds_4 rfl ?_
    refine go_aload_n dX0_holds_5 rfl ?_
    refine go_getf dX0_holds_6 flX0_21 (by exact hs 0 (by decide)) rfl ?_
    refine go_icmp_ge (tgt := 16) dX0_holds_9 (by decide) (fun c9 => ?_) (fun c9 => ?_)
    · refine go_iconst (v := 0) dX0_holds_16 (by decide) ?_
      refine go_zret dX0_holds_17 rfl (by first | rfl | exact zi_n) ?_ ?_ (Nat.zero_le _) (Nat.zero_le _)
      · first | rfl | exact zrt (by simp_all [-Int32.not_lt, -Int32.not_le, zle, zi_0]) | exact zrf (by simp_all [-Int32.not_lt, -Int32.not_le, zle, zi_0])
      · rfl
    · refine go_iconst (v := 1) dX0_holds_12 (by decide) ?_
      refine go_goto (tgt := 17) dX0_holds_13 (by decide) ?_
      refine go_zret dX0_holds_17 rfl (by first | rfl | exact zi_n) ?_ ?_ (Nat.zero_le _) (Nat.zero_le _)
      · first | rfl | exact zrt (by simp_all [-Int32.not_lt, -Int32.not_le, zle, zi_0]) | exact zrf (by simp_all [-Int32.not_lt, -Int32.not_le, zle, zi_0])
      · rfl
set_option maxRecDepth 4000 in
theorem kX0_placeOf (γ : zG) (l : Launch) (n : Nat) (h : zH) (b : Nat) (L : Nat → Nat → Int32) (hs : zIs h b 4 (zlo γ b L)) (i : Int32) (j : Nat) (hj : L 3 0 + i = nI j) (hlt : j < 2 ^ 31) : Con γ l (n) 0 0 MX0_placeOf [.ref b, .int i] h (some (.int (nI (j % 16)))) h := by
  refine Con.go (by decide +kernel) (Nat.le_of_ble_eq_true rfl) ⟨rfl, rfl, trivial⟩ ?_
  show Go _ 0 0 0 [some (.ref b), some (.int i)] [] _
  refine go_aload_n dX0_placeOf_0 rfl ?_
  refine go_getf dX0_placeOf_1 flX0_25 (by exact hs 0 (by decide)) rfl ?_
  refine go_iload_n dX0_placeOf_4 rfl ?_
  refine go_iadd dX0_placeOf_5 ?_
  refine go_bipush (v := 16) dX0_placeOf_6 (by decide) ?_
  refine go_irem dX0_placeOf_8 (by decide) ?_
  refine go_iret dX0_placeOf_9 rfl ?_ ?_ (Nat.zero_le _) (Nat.zero_le _)
  · rw [hj, zrem_n hlt]
  · rfl
theorem nI16 {c : Nat} (hc : c ≤ 16) : ((16 : Int32) ≤ nI c) ↔ c = 16 := by
  have h1 : (16 : Int32) = nI 16 := rfl
  rw [h1, nI_leI (by decide) (by omega)]
  omega
set_option maxRecDepth 4000 in
theorem kX0_add (γ : zG) (l : Launch) (n : Nat) (h : zH) (b : Nat) (L : Nat → Nat → Int32) (hs : zIs h b 4 (zlo γ b L)) (o c : Nat) (hok : lOk L o c) (t q k : Int32) : Con γ l (n + 1) 0 0 MX0_add [.ref b, .int t, .int q, .int k] h none (zput h b 4 (zlo γ b (lAdd L o c t q k))) := by
  refine Con.go (by decide +kernel) (Nat.le_of_ble_eq_true rfl) ⟨rfl, rfl, rfl, rfl, trivial⟩ ?_
  show Go _ 0 0 0 [some (.ref b), some (.int t), some (.int q), some (.int k), none] [] _
  have hpl : (o + c) % 16 < 16 := Nat.mod_lt _ (by decide)
  have ho := hok.1
  have hc := hok.2.1
  refine go_aload_n dX0_add_0 rfl ?_
  refine go_aload_n dX0_add_1 rfl ?_
  refine go_getf dX0_add_2 flX0_21 (by first | exact hs 0 (by decide) | exact hs 1 (by decide) | exact hs 2 (by decide) | exact hs 3 (by decide)) rfl ?_
  refine go_callVi (ci := 0) dX0_add_5 moX0_placeOf cvX0_28 ⟨rfl, rfl⟩ (kX0_placeOf γ l _ h b L hs (L 3 1) (o + c) (by rw [hok.2.2.1, hok.2.2.2, nI_add]) (by omega)) (by first | exact hs 0 (by decide) | exact hs 1 (by decide) | exact hs 2 (by decide) | exact hs 3 (by decide)) rfl rfl (Nat.le_refl _) (Nat.zero_le _) (Nat.zero_le _) (Nat.le_of_ble_eq_true rfl) ?_
  refine go_istore dX0_add_8 (Nat.le_of_ble_eq_true rfl) ?_
  refine go_aload_n dX0_add_10 rfl ?_
  refine go_getf dX0_add_11 flX0_9 (by first | exact hs 0 (by decide) | exact hs 1 (by decide) | exact hs 2 (by decide) | exact hs 3 (by decide)) rfl ?_
  refine go_iload dX0_add_14 rfl ?_
  refine go_iload_n dX0_add_16 rfl ?_
  refine go_iast dX0_add_17 (by first | exact hs 0 (by decide) | exact hs 1 (by decide) | exact hs 2 (by decide) | exact hs 3 (by decide)) (zix rfl hpl (by decide)).1 (zix rfl hpl (by decide)).2 ?_
  refine go_h (zlo_0 hs) ?_
  have hs := zput_is h b 4 (zlo γ b (upR L 0 (upd (L 0) ((o + c) % 16) t)))
  refine go_aload_n dX0_add_18 rfl ?_
  refine go_getf dX0_add_19 flX0_15 (by first | exact hs 0 (by decide) | exact hs 1 (by decide) | exact hs 2 (by decide) | exact hs 3 (by decide)) rfl ?_
  refine go_iload dX0_add_22 rfl ?_
  refine go_iload_n dX0_add_24 rfl ?_
  refine go_iast dX0_add_25 (by first | exact hs 0 (by decide) | exact hs 1 (by decide) | exact hs 2 (by decide) | exact hs 3 (by decide)) (zix rfl hpl (by decide)).1 (zix rfl hpl (by decide)).2 ?_
  refine go_h ((zlo_1 hs).trans (zput_zput _ _ _ _ _)) ?_
  have hs := zput_is h b 4 (zlo γ b (upR (upR L 0 (upd (L 0) ((o + c) % 16) t)) 1 (upd (L 1) ((o + c) % 16) q)))
  refine go_aload_n dX0_add_26 rfl ?_
  refine go_getf dX0_add_27 flX0_18 (by first | exact hs 0 (by decide) | exact hs 1 (by decide) | exact hs 2 (by decide) | exact hs 3 (by decide)) rfl ?_
  refine go_iload dX0_add_30 rfl ?_
  refine go_iload_n dX0_add_32 rfl ?_
  refine go_iast dX0_add_33 (by first | exact hs 0 (by decide) | exact hs 1 (by decide) | exact hs 2 (by decide) | exact hs 3 (by decide)) (zix rfl hpl (by decide)).1 (zix rfl hpl (by decide)).2 ?_
  refine go_h ((zlo_2 hs).trans (zput_zput _ _ _ _ _)) ?_
  have hs := zput_is h b 4 (zlo γ b (lPut L ((o + c) % 16) t q k))
  refine go_aload_n dX0_add_34 rfl ?_
  refine go_getf dX0_add_35 flX0_21 (by first | exact hs 0 (by decide) | exact hs 1 (by decide) | exact hs 2 (by decide) | exact hs 3 (by decide)) rfl ?_
  refine go_bipush (v := 16) dX0_add_38 (by decide) ?_
  refine go_icmp_ge (tgt := 56) dX0_add_40 (by decide) (fun c40 => ?_) (fun c40 => ?_)
  · refine go_aload_n dX0_add_56 rfl ?_
    refine go_aload_n dX0_add_57 rfl ?_
    refine go_iconst (v := 1) dX0_add_58 (by decide) ?_
    refine go_callVi (ci := 0) dX0_add_59 moX0_placeOf cvX0_28 ⟨rfl, rfl⟩ (kX0_placeOf γ l _ _ b _ hs 1 (o + 1) (by show L 3 0 + 1 = _; rw [hok.2.2.1]; exact nI_1 o) (by omega)) (by first | exact hs 0 (by decide) | exact hs 1 (by decide) | exact hs 2 (by decide) | exact hs 3 (by decide)) rfl rfl (Nat.le_refl _) (Nat.zero_le _) (Nat.zero_le _) (Nat.le_of_ble_eq_true rfl) ?_
    refine go_putf dX0_add_62 flX0_25 fnX0_3 (by first | exact hs 0 (by decide) | exact hs 1 (by decide) | exact hs 2 (by decide) | exact hs 3 (by decide)) rfl rfl (Nat.le_of_ble_eq_true rfl) ?_
    refine go_vret dX0_add_65 rfl rfl ?_ (Nat.zero_le _) (Nat.zero_le _)
    · have c40 : (16 : Int32) ≤ L 3 1 := c40
      rw [lAdd, if_neg (by have := (nI16 hok.2.1).mp (by rw [← hok.2.2.2]; exact c40); omega)]
      refine Eq.symm ((zlo_3 hs).trans ((zput_zput _ _ _ _ _).trans (zput_congr (fun j hj => ?_))))
      rcases zlt4 hj with h | h | h | h <;> subst h <;> first | rfl | (simp [zlo, up2, upR, upd, lPut]; done)
  · refine go_aload_n dX0_add_43 rfl ?_
    refine go_dup dX0_add_44 rfl ?_
    refine go_getf dX0_add_45 flX0_21 (by first | exact hs 0 (by decide) | exact hs 1 (by decide) | exact hs 2 (by decide) | exact hs 3 (by decide)) rfl ?_
    refine go_iconst (v := 1) dX0_add_48 (by decide) ?_
    refine go_iadd dX0_add_49 ?_
    refine go_putf dX0_add_50 flX0_21 fnX0_4 (by first | exact hs 0 (by decide) | exact hs 1 (by decide) | exact hs 2 (by decide) | exact hs 3 (by decide)) rfl rfl (Nat.le_of_ble_eq_true rfl) ?_
    refine go_goto (tgt := 65) dX0_add_53 (by decide) ?_
    refine go_vret dX0_add_65 rfl rfl ?_ (Nat.zero_le _) (Nat.zero_le _)
    · have c40 : ¬ (16 : Int32) ≤ L 3 1 := c40
      rw [lAdd, if_pos (by have hne : ¬ c = 16 := fun e => c40 (by rw [hok.2.2.2]; exact (nI16 hok.2.1).mpr e); omega)]
      refine Eq.symm ((zlo_3 hs).trans ((zput_zput _ _ _ _ _).trans (zput_congr (fun j hj => ?_))))
      rcases zlt4 hj with h | h | h | h <;> subst h <;> first | rfl | (simp [zlo, up2, upR, upd, lPut, hok.2.2.2, nI_1]; done)
set_option maxRecDepth 4000 in
theorem kX0_copyFrom (γ : zG) (l : Launch) (n : Nat) (h : zH) (b : Nat) (L : Nat → Nat → Int32) (hs : zIs h b 4 (zlo γ b L)) (b2 : Nat) (K : Nat → Nat → Int32) (ht0 : zIs h b2 4 (zlo γ b2 K)) (hd : b2 + 4 ≤ b ∨ b + 4 ≤ b2) : Con γ l (n + 1) 0 0 MX0_copyFrom [.ref b, .ref b2] h none (zput h b 4 (zlo γ b (lCpy L K))) := by
  refine Con.go (by decide +kernel) (Nat.le_of_ble_eq_true rfl) ⟨rfl, rfl, trivial⟩ ?_
  show Go _ 0 0 0 [some (.ref b), some (.ref b2)] [] _
  have ht := ht0
  refine go_aload_n dX0_copyFrom_0 rfl ?_
  refine go_getf dX0_copyFrom_1 flX0_9 (by first | exact hs 0 (by decide) | exact hs 1 (by decide) | exact hs 2 (by decide) | exact hs 3 (by decide) | exact ht 0 (by decide) | exact ht 1 (by decide) | exact ht 2 (by decide) | exact ht 3 (by decide)) rfl ?_
  refine go_iconst (v := 0) dX0_copyFrom_4 (by decide) ?_
  refine go_aload_n dX0_copyFrom_5 rfl ?_
  refine go_getf dX0_copyFrom_6 flX0_9 (by first | exact hs 0 (by decide) | exact hs 1 (by decide) | exact hs 2 (by decide) | exact hs 3 (by decide) | exact ht 0 (by decide) | exact ht 1 (by decide) | exact ht 2 (by decide) | exact ht 3 (by decide)) rfl ?_
  refine go_iconst (v := 0) dX0_copyFrom_9 (by decide) ?_
  refine go_bipush (v := 16) dX0_copyFrom_10 (by decide) ?_
  refine go_copyi dX0_copyFrom_12 acX0_32 (by first | exact hs 0 (by decide) | exact hs 1 (by decide) | exact hs 2 (by decide) | exact hs 3 (by decide) | exact ht 0 (by decide) | exact ht 1 (by decide) | exact ht 2 (by decide) | exact ht 3 (by decide)) (by first | exact hs 0 (by decide) | exact hs 1 (by decide) | exact hs 2 (by decide) | exact hs 3 (by decide) | exact ht 0 (by decide) | exact ht 1 (by decide) | exact ht 2 (by decide) | exact ht 3 (by decide)) (by decide) rfl (by decide) (by decide) (by show 1 ≤ _ + 1; omega) (by decide +kernel) ?_
  refine go_h (zlo_0 hs) ?_
  have hs := zput_is h b 4 (zlo γ b (upR L 0 (va_cpy (K 0) (L 0) 0 0 16)))
  have ht := ht0.out (c2 := zlo γ b (upR L 0 (va_cpy (K 0) (L 0) 0 0 16))) hd
  refine go_aload_n dX0_copyFrom_15 rfl ?_
  refine go_getf dX0_copyFrom_16 flX0_15 (by first | exact hs 0 (by decide) | exact hs 1 (by decide) | exact hs 2 (by decide) | exact hs 3 (by decide) | exact ht 0 (by decide) | exact ht 1 (by decide) | exact ht 2 (by decide) | exact ht 3 (by decide)) rfl ?_
  refine go_iconst (v := 0) dX0_copyFrom_19 (by decide) ?_
  refine go_aload_n dX0_copyFrom_20 rfl ?_
  refine go_getf dX0_copyFrom_21 flX0_15 (by first | exact hs 0 (by decide) | exact hs 1 (by decide) | exact hs 2 (by decide) | exact hs 3 (by decide) | exact ht 0 (by decide) | exact ht 1 (by decide) | exact ht 2 (by decide) | exact ht 3 (by decide)) rfl ?_
  refine go_iconst (v := 0) dX0_copyFrom_24 (by decide) ?_
  refine go_bipush (v := 16) dX0_copyFrom_25 (by decide) ?_
  refine go_copyi dX0_copyFrom_27 acX0_32 (by first | exact hs 0 (by decide) | exact hs 1 (by decide) | exact hs 2 (by decide) | exact hs 3 (by decide) | exact ht 0 (by decide) | exact ht 1 (by decide) | exact ht 2 (by decide) | exact ht 3 (by decide)) (by first | exact hs 0 (by decide) | exact hs 1 (by decide) | exact hs 2 (by decide) | exact hs 3 (by decide) | exact ht 0 (by decide) | exact ht 1 (by decide) | exact ht 2 (by decide) | exact ht 3 (by decide)) (by decide) rfl (by decide) (by decide) (by show 1 ≤ _ + 1; omega) (by decide +kernel) ?_
  refine go_h ((zlo_1 hs).trans (zput_zput _ _ _ _ _)) ?_
  have hs := zput_is h b 4 (zlo γ b (upR (upR L 0 (va_cpy (K 0) (L 0) 0 0 16)) 1 (va_cpy (K 1) (L 1) 0 0 16)))
  have ht := ht0.out (c2 := zlo γ b (upR (upR L 0 (va_cpy (K 0) (L 0) 0 0 16)) 1 (va_cpy (K 1) (L 1) 0 0 16))) hd
  refine go_aload_n dX0_copyFrom_30 rfl ?_
  refine go_getf dX0_copyFrom_31 flX0_18 (by first | exact hs 0 (by decide) | exact hs 1 (by decide) | exact hs 2 (by decide) | exact hs 3 (by decide) | exact ht 0 (by decide) | exact ht 1 (by decide) | exact ht 2 (by decide) | exact ht 3 (by decide)) rfl ?_
  refine go_iconst (v := 0) dX0_copyFrom_34 (by decide) ?_
  refine go_aload_n dX0_copyFrom_35 rfl ?_
  refine go_getf dX0_copyFrom_36 flX0_18 (by first | exact hs 0 (by decide) | exact hs 1 (by decide) | exact hs 2 (by decide) | exact hs 3 (by decide) | exact ht 0 (by decide) | exact ht 1 (by decide) | exact ht 2 (by decide) | exact ht 3 (by decide)) rfl ?_
  refine go_iconst (v := 0) dX0_copyFrom_39 (by decide) ?_
  refine go_bipush (v := 16) dX0_copyFrom_40 (by decide) ?_
  refine go_copyi dX0_copyFrom_42 acX0_32 (by first | exact hs 0 (by decide) | exact hs 1 (by decide) | exact hs 2 (by decide) | exact hs 3 (by decide) | exact ht 0 (by decide) | exact ht 1 (by decide) | exact ht 2 (by decide) | exact ht 3 (by decide)) (by first | exact hs 0 (by decide) | exact hs 1 (by decide) | exact hs 2 (by decide) | exact hs 3 (by decide) | exact ht 0 (by decide) | exact ht 1 (by decide) | exact ht 2 (by decide) | exact ht 3 (by decide)) (by decide) rfl (by decide) (by decide) (by show 1 ≤ _ + 1; omega) (by decide +kernel) ?_
  refine go_h ((zlo_2 hs).trans (zput_zput _ _ _ _ _)) ?_
  have hs := zput_is h b 4 (zlo γ b (upR (upR (upR L 0 (va_cpy (K 0) (L 0) 0 0 16)) 1 (va_cpy (K 1) (L 1) 0 0 16)) 2 (va_cpy (K 2) (L 2) 0 0 16)))
  have ht := ht0.out (c2 := zlo γ b (upR (upR (upR L 0 (va_cpy (K 0) (L 0) 0 0 16)) 1 (va_cpy (K 1) (L 1) 0 0 16)) 2 (va_cpy (K 2) (L 2) 0 0 16))) hd
  refine go_aload_n dX0_copyFrom_45 rfl ?_
  refine go_aload_n dX0_copyFrom_46 rfl ?_
  refine go_getf dX0_copyFrom_47 flX0_25 (by first | exact hs 0 (by decide) | exact hs 1 (by decide) | exact hs 2 (by decide) | exact hs 3 (by decide) | exact ht 0 (by decide) | exact ht 1 (by decide) | exact ht 2 (by decide) | exact ht 3 (by decide)) rfl ?_
  refine go_putf dX0_copyFrom_50 flX0_25 fnX0_3 (by first | exact hs 0 (by decide) | exact hs 1 (by decide) | exact hs 2 (by decide) | exact hs 3 (by decide) | exact ht 0 (by decide) | exact ht 1 (by decide) | exact ht 2 (by decide) | exact ht 3 (by decide)) rfl rfl (Nat.le_of_ble_eq_true rfl) ?_
  refine go_h ((zlo_3 hs).trans (zput_zput _ _ _ _ _)) ?_
  have hs := zput_is h b 4 (zlo γ b (up2 (up2 (upR (upR (upR L 0 (va_cpy (K 0) (L 0) 0 0 16)) 1 (va_cpy (K 1) (L 1) 0 0 16)) 2 (va_cpy (K 2) (L 2) 0 0 16)) 3 0 (K 3 0)) 3 1 (L 3 1)))
  have ht := ht0.out (c2 := zlo γ b (up2 (up2 (upR (upR (upR L 0 (va_cpy (K 0) (L 0) 0 0 16)) 1 (va_cpy (K 1) (L 1) 0 0 16)) 2 (va_cpy (K 2) (L 2) 0 0 16)) 3 0 (K 3 0)) 3 1 (L 3 1))) hd
  refine go_aload_n dX0_copyFrom_53 rfl ?_
  refine go_aload_n dX0_copyFrom_54 rfl ?_
  refine go_getf dX0_copyFrom_55 flX0_21 (by first | exact hs 0 (by decide) | exact hs 1 (by decide) | exact hs 2 (by decide) | exact hs 3 (by decide) | exact ht 0 (by decide) | exact ht 1 (by decide) | exact ht 2 (by decide) | exact ht 3 (by decide)) rfl ?_
  refine go_putf dX0_copyFrom_58 flX0_21 fnX0_4 (by first | exact hs 0 (by decide) | exact hs 1 (by decide) | exact hs 2 (by decide) | exact hs 3 (by decide) | exact ht 0 (by decide) | exact ht 1 (by decide) | exact ht 2 (by decide) | exact ht 3 (by decide)) rfl rfl (Nat.le_of_ble_eq_true rfl) ?_
  refine go_vret dX0_copyFrom_61 rfl rfl ?_ (Nat.zero_le _) (Nat.zero_le _)
  · refine Eq.symm ((zlo_3 hs).trans ((zput_zput _ _ _ _ _).trans (zput_congr (fun j hj => ?_))))
    rcases zlt4 hj with h | h | h | h <;> subst h <;> rfl
def zal (h : zH) (n : Nat) : zH := (h.1, h.2 + n)
theorem zp_o {h : zH} {a : Nat} {e : va_E} (hn : a ≠ h.2) : (zp h e).1 a = h.1 a := by simp [zp, hn]
theorem zp_s {h : zH} {e : va_E} : (zp h e).1 h.2 = some e := by simp [zp]
theorem zlo_init {γ : zG} {h : zH} {b : Nat} (hp : h.1 b = some (.inr (0, [.null, .null, .null, .int 0, .int 0]))) (hnx : h.2 = b + 1) :
    zal (zput h b 4 (zlo γ b (fun _ _ => 0))) 3 = zu (zp (zu (zp (zu (zp h (zai γ 16 (fun _ => 0))) b (.inr (0, [.ref h.2, .null, .null, .int 0, .int 0]))) (zai γ 16 (fun _ => 0))) b (.inr (0, [.ref h.2, .ref (h.2 + 1), .null, .int 0, .int 0]))) (zai γ 16 (fun _ => 0))) b (.inr (0, [.ref h.2, .ref (h.2 + 1), .ref (h.2 + 1 + 1), .int 0, .int 0])) := by
  refine Prod.ext ?_ rfl
  funext x
  by_cases h0 : x = b
  · subst h0
    rw [zu_s]
    show (zput h x 4 _).1 x = _
    rw [show (zput h x 4 (zlo γ x (fun _ _ => 0))).1 x = some (zlo γ x (fun _ _ => 0) 0) from zput_is _ _ _ _ 0 (by decide), hnx]
    rfl
  · by_cases h1 : x = b + 1
    · subst h1
      rw [show (zal (zput h b 4 (zlo γ b (fun _ _ => 0))) 3).1 (b + 1) = some (zlo γ b (fun _ _ => 0) 1) from zput_is _ _ _ _ 1 (by decide)]
      simp [zu, zp, hnx, zlo]
    · by_cases h2 : x = b + 2
      · subst h2
        rw [show (zal (zput h b 4 (zlo γ b (fun _ _ => 0))) 3).1 (b + 2) = some (zlo γ b (fun _ _ => 0) 2) from zput_is _ _ _ _ 2 (by decide)]
        simp [zu, zp, hnx, zlo]
      · by_cases h3 : x = b + 3
        · subst h3
          rw [show (zal (zput h b 4 (zlo γ b (fun _ _ => 0))) 3).1 (b + 3) = some (zlo γ b (fun _ _ => 0) 3) from zput_is _ _ _ _ 3 (by decide)]
          simp [zu, zp, hnx, zlo]
        · rw [show (zal (zput h b 4 (zlo γ b (fun _ _ => 0))) 3).1 x = h.1 x from zput_out (by omega)]
          simp [zu, zp, hnx, h0, h1, h2, h3]
set_option maxRecDepth 4000 in
theorem kX0_init (γ : zG) (l : Launch) (n : Nat) (h : zH) (b : Nat) (hp : h.1 b = some (.inr (0, [.null, .null, .null, .int 0, .int 0]))) (hnx : h.2 = b + 1) : Con γ l (n + 1) 3 48 MX0_init [.ref b] h none (zal (zput h b 4 (zlo γ b (fun _ _ => 0))) 3) := by
  refine Con.go (by decide +kernel) (Nat.le_of_ble_eq_true rfl) ⟨rfl, trivial⟩ ?_
  show Go _ 0 0 0 [some (.ref b)] [] _
  refine go_aload_n dX0_init_0 rfl ?_
  refine go_objInit dX0_init_1 oiX0_3 (by show 1 ≤ _ + 1; omega) ?_
  refine go_aload_n dX0_init_4 rfl ?_
  refine go_bipush (v := 16) dX0_init_5 (by decide) ?_
  refine go_newi dX0_init_7 arr_int (by decide) rfl (by decide) (Nat.le_of_ble_eq_true rfl) (Nat.le_of_ble_eq_true rfl) ?_
  refine go_putF dX0_init_9 flX0_9 fnX0_0 rfl rfl (by exact (zp_o (by omega)).trans hp) rfl rfl (Nat.le_of_ble_eq_true rfl) ?_
  refine go_aload_n dX0_init_12 rfl ?_
  refine go_bipush (v := 16) dX0_init_13 (by decide) ?_
  refine go_newi dX0_init_15 arr_int (by decide) rfl (by decide) (Nat.le_of_ble_eq_true rfl) (Nat.le_of_ble_eq_true rfl) ?_
  refine go_putF dX0_init_17 flX0_15 fnX0_1 rfl rfl (by exact (zp_o (show b ≠ h.2 + 1 by omega)).trans (zu_s _ _ _)) rfl rfl (Nat.le_of_ble_eq_true rfl) ?_
  refine go_aload_n dX0_init_20 rfl ?_
  refine go_bipush (v := 16) dX0_init_21 (by decide) ?_
  refine go_newi dX0_init_23 arr_int (by decide) rfl (by decide) (Nat.le_of_ble_eq_true rfl) (Nat.le_of_ble_eq_true rfl) ?_
  refine go_putF dX0_init_25 flX0_18 fnX0_2 rfl rfl (by exact (zp_o (show b ≠ h.2 + 1 + 1 by omega)).trans (zu_s _ _ _)) rfl rfl (Nat.le_of_ble_eq_true rfl) ?_
  refine go_vret dX0_init_28 rfl rfl ?_ (Nat.le_of_ble_eq_true rfl) (Nat.le_of_ble_eq_true rfl)
  · exact zlo_init hp hnx
