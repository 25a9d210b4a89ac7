/-! PoeSwitchModel: its cells. rows: 0 state, 1 before, 2 slots, 3 isSaved, 4 ahead, 5 occurred and stableSet -/
def zmo (γ : zG) (b : Nat) (μ : zS) : Nat → va_E := fun k => match k with
  | 0 => .inr (4, [.ref (b + 1), .ref (b + 2), .ref (b + 3), .ref (b + 4), .int (μ 5 0), .ref (b + 5), .int (μ 5 1)])
  | 1 => zai γ 149 (μ 0)
  | 2 => zai γ 149 (μ 1)
  | 3 => zai γ 298 (μ 2)
  | 4 => zaz γ 2 (μ 3)
  | _ => zai γ 149 (μ 4)
abbrev zMd (γ : zG) (h : zH) (b : Nat) (μ : zS) : Prop := zIs h b 6 (zmo γ b μ)
def zpm (γ : zG) (h : zH) (b : Nat) (μ : zS) : zH := zput h b 6 (zmo γ b μ)
theorem zpm_is (γ : zG) (h : zH) (b : Nat) (μ : zS) : zMd γ (zpm γ h b μ) b μ := zput_is _ _ _ _
theorem zpm_zpm (γ : zG) (h : zH) (b : Nat) (μ ν : zS) : zpm γ (zpm γ h b μ) b ν = zpm γ h b ν := zput_zput _ _ _ _ _
theorem zpm_id {γ : zG} {h : zH} {b : Nat} {μ : zS} (hm : zMd γ h b μ) : zpm γ h b μ = h := zput_id hm
theorem zlt6 {k : Nat} (h : k < 6) : k = 0 ∨ k = 1 ∨ k = 2 ∨ k = 3 ∨ k = 4 ∨ k = 5 := by omega
theorem zmo_r0 {γ : zG} {h : zH} {b : Nat} {μ : zS} {f : Nat → Int32} (hm : zMd γ h b μ) : zu h (b + 1) (zai γ 149 f) = zpm γ h b (upR μ 0 f) :=
  zu_zput hm (k := 1) (by decide) rfl (fun j hj hn => by rcases zlt6 hj with h | h | h | h | h | h <;> subst h <;> first | rfl | exact absurd rfl hn) rfl
theorem zmo_0 {γ : zG} {h : zH} {b : Nat} {μ : zS} {f : Nat → Int32} : zu (zpm γ h b μ) (b + 1) (zai γ 149 f) = zpm γ h b (upR μ 0 f) := (zmo_r0 (zpm_is γ h b μ)).trans (zpm_zpm _ _ _ _ _)
theorem zmo_r1 {γ : zG} {h : zH} {b : Nat} {μ : zS} {f : Nat → Int32} (hm : zMd γ h b μ) : zu h (b + 2) (zai γ 149 f) = zpm γ h b (upR μ 1 f) :=
  zu_zput hm (k := 2) (by decide) rfl (fun j hj hn => by rcases zlt6 hj with h | h | h | h | h | h <;> subst h <;> first | rfl | exact absurd rfl hn) rfl
theorem zmo_1 {γ : zG} {h : zH} {b : Nat} {μ : zS} {f : Nat → Int32} : zu (zpm γ h b μ) (b + 2) (zai γ 149 f) = zpm γ h b (upR μ 1 f) := (zmo_r1 (zpm_is γ h b μ)).trans (zpm_zpm _ _ _ _ _)
theorem zmo_r2 {γ : zG} {h : zH} {b : Nat} {μ : zS} {f : Nat → Int32} (hm : zMd γ h b μ) : zu h (b + 3) (zai γ 298 f) = zpm γ h b (upR μ 2 f) :=
  zu_zput hm (k := 3) (by decide) rfl (fun j hj hn => by rcases zlt6 hj with h | h | h | h | h | h <;> subst h <;> first | rfl | exact absurd rfl hn) rfl
theorem zmo_2 {γ : zG} {h : zH} {b : Nat} {μ : zS} {f : Nat → Int32} : zu (zpm γ h b μ) (b + 3) (zai γ 298 f) = zpm γ h b (upR μ 2 f) := (zmo_r2 (zpm_is γ h b μ)).trans (zpm_zpm _ _ _ _ _)
theorem zmo_r3 {γ : zG} {h : zH} {b : Nat} {μ : zS} {f : Nat → Int32} (hm : zMd γ h b μ) : zu h (b + 4) (zaz γ 2 f) = zpm γ h b (upR μ 3 f) :=
  zu_zput hm (k := 4) (by decide) rfl (fun j hj hn => by rcases zlt6 hj with h | h | h | h | h | h <;> subst h <;> first | rfl | exact absurd rfl hn) rfl
theorem zmo_3 {γ : zG} {h : zH} {b : Nat} {μ : zS} {f : Nat → Int32} : zu (zpm γ h b μ) (b + 4) (zaz γ 2 f) = zpm γ h b (upR μ 3 f) := (zmo_r3 (zpm_is γ h b μ)).trans (zpm_zpm _ _ _ _ _)
theorem zmo_r4 {γ : zG} {h : zH} {b : Nat} {μ : zS} {f : Nat → Int32} (hm : zMd γ h b μ) : zu h (b + 5) (zai γ 149 f) = zpm γ h b (upR μ 4 f) :=
  zu_zput hm (k := 5) (by decide) rfl (fun j hj hn => by rcases zlt6 hj with h | h | h | h | h | h <;> subst h <;> first | rfl | exact absurd rfl hn) rfl
theorem zmo_4 {γ : zG} {h : zH} {b : Nat} {μ : zS} {f : Nat → Int32} : zu (zpm γ h b μ) (b + 5) (zai γ 149 f) = zpm γ h b (upR μ 4 f) := (zmo_r4 (zpm_is γ h b μ)).trans (zpm_zpm _ _ _ _ _)
theorem zmo_r5 {γ : zG} {h : zH} {b : Nat} {μ : zS} {e : va_E} {f : Nat → Int32} (hm : zMd γ h b μ) (he : zmo γ b (upR μ 5 f) 0 = e) : zu h b e = zpm γ h b (upR μ 5 f) :=
  zu_zput hm (k := 0) (by decide) rfl (fun j hj hn => by rcases zlt6 hj with h | h | h | h | h | h <;> subst h <;> first | rfl | exact absurd rfl hn) he
theorem zmo_5 {γ : zG} {h : zH} {b : Nat} {μ : zS} {e : va_E} (f : Nat → Int32) (he : zmo γ b (upR μ 5 f) 0 = e) : zu (zpm γ h b μ) b e = zpm γ h b (upR μ 5 f) := (zmo_r5 (zpm_is γ h b μ) he).trans (zpm_zpm _ _ _ _ _)
abbrev mi (j k : Nat) : Nat := 61 + 11 * j + k
theorem mi_lt {j k : Nat} (hj : j < 8) (hk : k ≤ 10) : mi j k < 149 := by unfold mi; omega
theorem zlit {i : Int32} {n j : Nat} (h : i.toNatClampNeg = j) (h1 : vp_in i n) : vp_in i n ∧ i.toNatClampNeg = j := ⟨h1, h⟩
abbrev clM (x : Int32) : Int32 := if 0 ≤ x ∧ x ≤ 4 then 0 else if 9 ≤ x ∧ x ≤ 12 then 1 else if 17 ≤ x ∧ x ≤ 20 then 2 else if 26 ≤ x ∧ x ≤ 30 then 3 else if 36 ≤ x ∧ x ≤ 44 then 4 else -6
def nMx (c : Int32) : Int32 := if c = 0 ∨ c = 3 then 154 else if c = 1 then 40 else if c = 2 then 70 else 300
abbrev gM (M : Nat → Int32) (j k : Nat) : Int32 := M (mi j k)
abbrev nCo (M : Nat → Int32) (j : Nat) : Prop := gM M j 2 = 1
abbrev nCl (M : Nat → Int32) (j : Nat) : Int32 := if nCo M j then clM (gM M j 5) else -6
abbrev nDe (M : Nat → Int32) (j : Nat) : Prop := nCo M j ∧ (190 ≤ gM M j 3 ∧ gM M j 3 ≤ 265) ∧ gM M j 4 ≤ 15
abbrev nEl (M : Nat → Int32) (j : Nat) : Prop := gM M j 0 = 1 ∧ nDe M j ∧ ¬ nCl M j < 0
def nSum (M : Nat → Int32) : Nat → Int32
  | 0 => 0
  | k + 1 => nSum M k + M (3 + k) * M (0 + k)
def nBud (M : Nat → Int32) : Int32 := if nSum M 3 ≤ M 6 then 0 else nSum M 3 - M 6
def nAv (M : Nat → Int32) : Nat → Int32
  | 0 => nBud M
  | k + 1 => nAv M k - gM M k 8
def nEs (M : Nat → Int32) : Nat → Int32
  | 0 => 0
  | k + 1 => nEs M k ||| (if nEl M k then bit (nI k) else 0)
def nPs (M : Nat → Int32) : Nat → Int32
  | 0 => 0
  | k + 1 => nPs M k ||| (if 0 < gM M k 8 then bit (nI k) else 0)
def nLose (M : Nat → Int32) (j : Nat) : Nat → Int32 := upd (upd M (mi j 8) 0) (mi j 9) 0
set_option maxRecDepth 4000 in
theorem kX4_in (γ : zG) (l : Launch) (n : Nat) (h : zH) (v lo hi : Int32) : Con γ l (n) 0 0 MX4_in [.int v, .int lo, .int hi] h (some (.int (zi (lo ≤ v ∧ v ≤ hi)))) h := by
  refine Con.go (by decide +kernel) (Nat.le_of_ble_eq_true rfl) ⟨rfl, rfl, rfl, trivial⟩ ?_
  show Go _ 0 0 0 [some (.int v), some (.int lo), some (.int hi)] [] _
  refine go_iload_n dX4_in_0 rfl ?_
  refine go_iload_n dX4_in_1 rfl ?_
  refine go_icmp_lt (tgt := 14) dX4_in_2 (by decide) (fun c2 => ?_) (fun c2 => ?_)
  · refine go_iconst (v := 0) dX4_in_14 (by decide) ?_
    refine go_zret dX4_in_15 rfl (by first | rfl | exact zi_n) ?_ ?_ (Nat.zero_le _) (Nat.zero_le _)
    · first | rfl | exact zrt (by simp_all [-Int32.not_lt, -Int32.not_le, zle]) | exact zrf (by simp_all [-Int32.not_lt, -Int32.not_le, zle])
    · rfl
  · refine go_iload_n dX4_in_5 rfl ?_
    refine go_iload_n dX4_in_6 rfl ?_
    refine go_icmp_gt (tgt := 14) dX4_in_7 (by decide) (fun c7 => ?_) (fun c7 => ?_)
    · refine go_iconst (v := 0) dX4_in_14 (by decide) ?_
      refine go_zret dX4_in_15 rfl (by first | rfl | exact zi_n) ?_ ?_ (Nat.zero_le _) (Nat.zero_le _)
      · first | rfl | exact zrt (by simp_all [-Int32.not_lt, -Int32.not_le, zle]) | exact zrf (by simp_all [-Int32.not_lt, -Int32.not_le, zle])
      · rfl
    · refine go_iconst (v := 1) dX4_in_10 (by decide) ?_
      refine go_goto (tgt := 15) dX4_in_11 (by decide) ?_
      refine go_zret dX4_in_15 rfl (by first | rfl | exact zi_n) ?_ ?_ (Nat.zero_le _) (Nat.zero_le _)
      · first | rfl | exact zrt (by simp_all [-Int32.not_lt, -Int32.not_le, zle]) | exact zrf (by simp_all [-Int32.not_lt, -Int32.not_le, zle])
      · rfl
set_option maxRecDepth 4000 in
theorem kX4_isPort (γ : zG) (l : Launch) (n : Nat) (h : zH) (v : Int32) : Con γ l (n + 1) 0 0 MX4_isPort [.int v] h (some (.int (zi (0 ≤ v ∧ v ≤ 7)))) h := by
  refine Con.go (by decide +kernel) (Nat.le_of_ble_eq_true rfl) ⟨rfl, trivial⟩ ?_
  show Go _ 0 0 0 [some (.int v)] [] _
  refine go_iload_n dX4_isPort_0 rfl ?_
  refine go_iconst (v := 0) dX4_isPort_1 (by decide) ?_
  refine go_bipush (v := 7) dX4_isPort_2 (by decide) ?_
  refine go_callSi dX4_isPort_4 moX4_in csX4_30 (kX4_in γ l _ _ _ _ _) rfl rfl (Nat.le_refl _) (Nat.zero_le _) (Nat.zero_le _) (Nat.le_of_ble_eq_true rfl) ?_
  refine go_zret dX4_isPort_7 rfl (by first | rfl | exact zi_n) ?_ ?_ (Nat.zero_le _) (Nat.zero_le _)
  · rfl
  · rfl
set_option maxRecDepth 4000 in
theorem kX4_isSupply (γ : zG) (l : Launch) (n : Nat) (h : zH) (v : Int32) : Con γ l (n + 1) 0 0 MX4_isSupply [.int v] h (some (.int (zi (0 ≤ v ∧ v ≤ 2)))) h := by
  refine Con.go (by decide +kernel) (Nat.le_of_ble_eq_true rfl) ⟨rfl, trivial⟩ ?_
  show Go _ 0 0 0 [some (.int v)] [] _
  refine go_iload_n dX4_isSupply_0 rfl ?_
  refine go_iconst (v := 0) dX4_isSupply_1 (by decide) ?_
  refine go_iconst (v := 2) dX4_isSupply_2 (by decide) ?_
  refine go_callSi dX4_isSupply_3 moX4_in csX4_30 (kX4_in γ l _ _ _ _ _) rfl rfl (Nat.le_refl _) (Nat.zero_le _) (Nat.zero_le _) (Nat.le_of_ble_eq_true rfl) ?_
  refine go_zret dX4_isSupply_6 rfl (by first | rfl | exact zi_n) ?_ ?_ (Nat.zero_le _) (Nat.zero_le _)
  · rfl
  · rfl
set_option maxRecDepth 4000 in
theorem kX4_at (γ : zG) (l : Launch) (n : Nat) (h : zH) (p w : Int32) (j k : Nat) (hp : p = nI j) (hw : w = nI k) : Con γ l (n) 0 0 MX4_at [.int p, .int w] h (some (.int (nI (mi j k)))) h := by
  refine Con.go (by decide +kernel) (Nat.le_of_ble_eq_true rfl) ⟨rfl, rfl, trivial⟩ ?_
  show Go _ 0 0 0 [some (.int p), some (.int w)] [] _
  refine go_bipush (v := 61) dX4_at_0 (by decide) ?_
  refine go_bipush (v := 11) dX4_at_2 (by decide) ?_
  refine go_iload_n dX4_at_4 rfl ?_
  refine go_imul dX4_at_5 ?_
  refine go_iadd dX4_at_6 ?_
  refine go_iload_n dX4_at_7 rfl ?_
  refine go_iadd dX4_at_8 ?_
  refine go_iret dX4_at_9 rfl ?_ ?_ (Nat.zero_le _) (Nat.zero_le _)
  · rw [hp, hw, show (11 : Int32) = nI 11 from rfl, show (61 : Int32) = nI 61 from rfl, pk_mul, nI_add, nI_add]
  · rfl
set_option maxRecDepth 4000 in
theorem kX4_of (γ : zG) (l : Launch) (n : Nat) (h : zH) (b : Nat) (μ : zS) (hm : zMd γ h b μ) (p w : Int32) (j k : Nat) (hp : p = nI j) (hw : w = nI k) (hlt : mi j k < 149) : Con γ l (n + 1) 0 0 MX4_of [.ref b, .int p, .int w] h (some (.int (gM (μ 0) j k))) h := by
  refine Con.go (by decide +kernel) (Nat.le_of_ble_eq_true rfl) ⟨rfl, rfl, rfl, trivial⟩ ?_
  show Go _ 0 0 0 [some (.ref b), some (.int p), some (.int w)] [] _
  refine go_aload_n dX4_of_0 rfl ?_
  refine go_getf dX4_of_1 flX4_7 (by first | exact hm 0 (by decide) | exact hm 1 (by decide)) rfl ?_
  refine go_iload_n dX4_of_4 rfl ?_
  refine go_iload_n dX4_of_5 rfl ?_
  refine go_callSi dX4_of_6 moX4_at csX4_26 (kX4_at γ l _ _ _ _ j k hp hw) rfl rfl (Nat.le_refl _) (Nat.zero_le _) (Nat.zero_le _) (Nat.le_of_ble_eq_true rfl) ?_
  refine go_iald dX4_of_9 (by first | exact hm 0 (by decide) | exact hm 1 (by decide)) (zix rfl hlt (by decide)).1 (zix rfl hlt (by decide)).2 ?_
  refine go_iret dX4_of_10 rfl ?_ ?_ (Nat.zero_le _) (Nat.zero_le _)
  · rfl
  · rfl
set_option maxRecDepth 4000 in
theorem kX4_set (γ : zG) (l : Launch) (n : Nat) (h : zH) (b : Nat) (μ : zS) (hm : zMd γ h b μ) (i v : Int32) (q : Nat) (hi : i = nI q) (hlt : q < 149) : Con γ l (n) 0 0 MX4_set [.ref b, .int i, .int v] h (some (.int (μ 0 q))) (zpm γ h b (up2 μ 0 q v)) := by
  refine Con.go (by decide +kernel) (Nat.le_of_ble_eq_true rfl) ⟨rfl, rfl, rfl, trivial⟩ ?_
  show Go _ 0 0 0 [some (.ref b), some (.int i), some (.int v), none] [] _
  refine go_aload_n dX4_set_0 rfl ?_
  refine go_getf dX4_set_1 flX4_7 (by first | exact hm 0 (by decide) | exact hm 1 (by decide)) rfl ?_
  refine go_iload_n dX4_set_4 rfl ?_
  refine go_iald dX4_set_5 (by first | exact hm 0 (by decide) | exact hm 1 (by decide)) (zix hi hlt (by decide)).1 (zix hi hlt (by decide)).2 ?_
  refine go_istore_n dX4_set_6 (Nat.le_of_ble_eq_true rfl) ?_
  refine go_aload_n dX4_set_7 rfl ?_
  refine go_getf dX4_set_8 flX4_7 (by first | exact hm 0 (by decide) | exact hm 1 (by decide)) rfl ?_
  refine go_iload_n dX4_set_11 rfl ?_
  refine go_iload_n dX4_set_12 rfl ?_
  refine go_iast dX4_set_13 (by first | exact hm 0 (by decide) | exact hm 1 (by decide)) (zix hi hlt (by decide)).1 (zix hi hlt (by decide)).2 ?_
  refine go_iload_n dX4_set_14 rfl ?_
  refine go_iret dX4_set_15 rfl ?_ ?_ (Nat.zero_le _) (Nat.zero_le _)
  · rfl
  · exact (zmo_r0 hm).symm
set_option maxRecDepth 4000 in
theorem kX4_losePower (γ : zG) (l : Launch) (n : Nat) (h : zH) (b : Nat) (μ : zS) (hm : zMd γ h b μ) (p : Int32) (j : Nat) (hp : p = nI j) (hj : j < 8) : Con γ l (n + 1) 0 0 MX4_losePower [.ref b, .int p] h none (zpm γ h b (upR μ 0 (nLose (μ 0) j))) := by
  refine Con.go (by decide +kernel) (Nat.le_of_ble_eq_true rfl) ⟨rfl, rfl, trivial⟩ ?_
  show Go _ 0 0 0 [some (.ref b), some (.int p)] [] _
  refine go_aload_n dX4_losePower_0 rfl ?_
  refine go_getf dX4_losePower_1 flX4_7 (by first | exact hm 0 (by decide) | exact hm 1 (by decide) | exact zpm_is γ h b _ 0 (by decide) | exact zpm_is γ h b _ 1 (by decide)) rfl ?_
  refine go_iload_n dX4_losePower_4 rfl ?_
  refine go_bipush (v := 8) dX4_losePower_5 (by decide) ?_
  refine go_callSi dX4_losePower_7 moX4_at csX4_26 (kX4_at γ l _ _ _ _ j 8 hp rfl) rfl rfl (Nat.le_refl _) (Nat.zero_le _) (Nat.zero_le _) (Nat.le_of_ble_eq_true rfl) ?_
  refine go_iconst (v := 0) dX4_losePower_10 (by decide) ?_
  refine go_iast dX4_losePower_11 (by first | exact hm 0 (by decide) | exact hm 1 (by decide) | exact zpm_is γ h b _ 0 (by decide) | exact zpm_is γ h b _ 1 (by decide)) (zix (n := 149) rfl (mi_lt hj (by decide)) (by decide)).1 (zix (n := 149) rfl (mi_lt hj (by decide)) (by decide)).2 ?_
  refine go_h (zmo_r0 hm) ?_
  refine go_aload_n dX4_losePower_12 rfl ?_
  refine go_getf dX4_losePower_13 flX4_7 (by first | exact hm 0 (by decide) | exact hm 1 (by decide) | exact zpm_is γ h b _ 0 (by decide) | exact zpm_is γ h b _ 1 (by decide)) rfl ?_
  refine go_iload_n dX4_losePower_16 rfl ?_
  refine go_bipush (v := 9) dX4_losePower_17 (by decide) ?_
  refine go_callSi dX4_losePower_19 moX4_at csX4_26 (kX4_at γ l _ _ _ _ j 9 hp rfl) rfl rfl (Nat.le_refl _) (Nat.zero_le _) (Nat.zero_le _) (Nat.le_of_ble_eq_true rfl) ?_
  refine go_iconst (v := 0) dX4_losePower_22 (by decide) ?_
  refine go_iast dX4_losePower_23 (by first | exact hm 0 (by decide) | exact hm 1 (by decide) | exact zpm_is γ h b _ 0 (by decide) | exact zpm_is γ h b _ 1 (by decide)) (zix (n := 149) rfl (mi_lt hj (by decide)) (by decide)).1 (zix (n := 149) rfl (mi_lt hj (by decide)) (by decide)).2 ?_
  refine go_h zmo_0 ?_
  refine go_vret dX4_losePower_24 rfl rfl ?_ (Nat.zero_le _) (Nat.zero_le _)
  · (rw [upR_upR]; rfl)
set_option maxRecDepth 4000 in
theorem kX4_isPowered (γ : zG) (l : Launch) (n : Nat) (h : zH) (b : Nat) (μ : zS) (hm : zMd γ h b μ) (p : Int32) (j : Nat) (hp : p = nI j) (hj : j < 8) : Con γ l (n + 2) 0 0 MX4_isPowered [.ref b, .int p] h (some (.int (zi (0 < gM (μ 0) j 8)))) h := by
  refine Con.go (by decide +kernel) (Nat.le_of_ble_eq_true rfl) ⟨rfl, rfl, trivial⟩ ?_
  show Go _ 0 0 0 [some (.ref b), some (.int p)] [] _
  refine go_aload_n dX4_isPowered_0 rfl ?_
  refine go_iload_n dX4_isPowered_1 rfl ?_
  refine go_bipush (v := 8) dX4_isPowered_2 (by decide) ?_
  refine go_callVi (ci := 4) dX4_isPowered_4 moX4_of cvX4_45 ⟨rfl, rfl⟩ (kX4_of γ l _ _ b μ hm _ _ j 8 hp rfl (mi_lt hj (by decide))) (by first | exact hm 0 (by decide) | exact hm 1 (by decide)) rfl rfl (Nat.le_refl _) (Nat.zero_le _) (Nat.zero_le _) (Nat.le_of_ble_eq_true rfl) ?_
  refine go_if_le (tgt := 14) dX4_isPowered_7 (by decide) (fun c7 => ?_) (fun c7 => ?_)
  · refine go_iconst (v := 0) dX4_isPowered_14 (by decide) ?_
    refine go_zret dX4_isPowered_15 rfl (by first | rfl | exact zi_n) ?_ ?_ (Nat.zero_le _) (Nat.zero_le _)
    · first | rfl | exact zrt (by simp_all [-Int32.not_lt, -Int32.not_le, zle]) | exact zrf (by simp_all [-Int32.not_lt, -Int32.not_le, zle])
    · rfl
  · refine go_iconst (v := 1) dX4_isPowered_10 (by decide) ?_
    refine go_goto (tgt := 15) dX4_isPowered_11 (by decide) ?_
    refine go_zret dX4_isPowered_15 rfl (by first | rfl | exact zi_n) ?_ ?_ (Nat.zero_le _) (Nat.zero_le _)
    · first | rfl | exact zrt (by simp_all [-Int32.not_lt, -Int32.not_le, zle]) | exact zrf (by simp_all [-Int32.not_lt, -Int32.not_le, zle])
    · rfl
set_option maxRecDepth 4000 in
theorem kX4_isConnected (γ : zG) (l : Launch) (n : Nat) (h : zH) (b : Nat) (μ : zS) (hm : zMd γ h b μ) (p : Int32) (j : Nat) (hp : p = nI j) (hj : j < 8) : Con γ l (n + 2) 0 0 MX4_isConnected [.ref b, .int p] h (some (.int (zi (nCo (μ 0) j)))) h := by
  refine Con.go (by decide +kernel) (Nat.le_of_ble_eq_true rfl) ⟨rfl, rfl, trivial⟩ ?_
  show Go _ 0 0 0 [some (.ref b), some (.int p)] [] _
  refine go_aload_n dX4_isConnected_0 rfl ?_
  refine go_iload_n dX4_isConnected_1 rfl ?_
  refine go_iconst (v := 2) dX4_isConnected_2 (by decide) ?_
  refine go_callVi (ci := 4) dX4_isConnected_3 moX4_of cvX4_45 ⟨rfl, rfl⟩ (kX4_of γ l _ _ b μ hm _ _ j 2 hp rfl (mi_lt hj (by decide))) (by first | exact hm 0 (by decide) | exact hm 1 (by decide)) rfl rfl (Nat.le_refl _) (Nat.zero_le _) (Nat.zero_le _) (Nat.le_of_ble_eq_true rfl) ?_
  refine go_iconst (v := 1) dX4_isConnected_6 (by decide) ?_
  refine go_icmp_ne (tgt := 14) dX4_isConnected_7 (by decide) (fun c7 => ?_) (fun c7 => ?_)
  · refine go_iconst (v := 0) dX4_isConnected_14 (by decide) ?_
    refine go_zret dX4_isConnected_15 rfl (by first | rfl | exact zi_n) ?_ ?_ (Nat.zero_le _) (Nat.zero_le _)
    · first | exact zrt c7 | exact zrf c7
    · rfl
  · refine go_iconst (v := 1) dX4_isConnected_10 (by decide) ?_
    refine go_goto (tgt := 15) dX4_isConnected_11 (by decide) ?_
    refine go_zret dX4_isConnected_15 rfl (by first | rfl | exact zi_n) ?_ ?_ (Nat.zero_le _) (Nat.zero_le _)
    · first | exact zrt c7 | exact zrf c7
    · rfl
set_option maxRecDepth 4000 in
theorem kX4_classBy (γ : zG) (l : Launch) (n : Nat) (h : zH) (x : Int32) : Con γ l (n + 1) 0 0 MX4_classBy [.int x] h (some (.int (clM x))) h := by
  refine Con.go (by decide +kernel) (Nat.le_of_ble_eq_true rfl) ⟨rfl, trivial⟩ ?_
  show Go _ 0 0 0 [some (.int x)] [] _
  refine go_iload_n dX4_classBy_0 rfl ?_
  refine go_iconst (v := 0) dX4_classBy_1 (by decide) ?_
  refine go_iconst (v := 4) dX4_classBy_2 (by decide) ?_
  refine go_callSi dX4_classBy_3 moX4_in csX4_30 (kX4_in γ l _ _ _ _ _) rfl rfl (Nat.le_refl _) (Nat.zero_le _) (Nat.zero_le _) (Nat.le_of_ble_eq_true rfl) ?_
  refine go_if_eq (tgt := 11) dX4_classBy_6 (by decide) (fun c6 => ?_) (fun c6 => ?_)
  · replace c6 := zi_0.mp c6
    refine go_iload_n dX4_classBy_11 rfl ?_
    refine go_bipush (v := 9) dX4_classBy_12 (by decide) ?_
    refine go_bipush (v := 12) dX4_classBy_14 (by decide) ?_
    refine go_callSi dX4_classBy_16 moX4_in csX4_30 (kX4_in γ l _ _ _ _ _) rfl rfl (Nat.le_refl _) (Nat.zero_le _) (Nat.zero_le _) (Nat.le_of_ble_eq_true rfl) ?_
    refine go_if_eq (tgt := 24) dX4_classBy_19 (by decide) (fun c19 => ?_) (fun c19 => ?_)
    · replace c19 := zi_0.mp c19
      refine go_iload_n dX4_classBy_24 rfl ?_
      refine go_bipush (v := 17) dX4_classBy_25 (by decide) ?_
      refine go_bipush (v := 20) dX4_classBy_27 (by decide) ?_
      refine go_callSi dX4_classBy_29 moX4_in csX4_30 (kX4_in γ l _ _ _ _ _) rfl rfl (Nat.le_refl _) (Nat.zero_le _) (Nat.zero_le _) (Nat.le_of_ble_eq_true rfl) ?_
      refine go_if_eq (tgt := 37) dX4_classBy_32 (by decide) (fun c32 => ?_) (fun c32 => ?_)
      · replace c32 := zi_0.mp c32
        refine go_iload_n dX4_classBy_37 rfl ?_
        refine go_bipush (v := 26) dX4_classBy_38 (by decide) ?_
        refine go_bipush (v := 30) dX4_classBy_40 (by decide) ?_
        refine go_callSi dX4_classBy_42 moX4_in csX4_30 (kX4_in γ l _ _ _ _ _) rfl rfl (Nat.le_refl _) (Nat.zero_le _) (Nat.zero_le _) (Nat.le_of_ble_eq_true rfl) ?_
        refine go_if_eq (tgt := 50) dX4_classBy_45 (by decide) (fun c45 => ?_) (fun c45 => ?_)
        · replace c45 := zi_0.mp c45
          refine go_iload_n dX4_classBy_50 rfl ?_
          refine go_bipush (v := 36) dX4_classBy_51 (by decide) ?_
          refine go_bipush (v := 44) dX4_classBy_53 (by decide) ?_
          refine go_callSi dX4_classBy_55 moX4_in csX4_30 (kX4_in γ l _ _ _ _ _) rfl rfl (Nat.le_refl _) (Nat.zero_le _) (Nat.zero_le _) (Nat.le_of_ble_eq_true rfl) ?_
          refine go_if_eq (tgt := 65) dX4_classBy_58 (by decide) (fun c58 => ?_) (fun c58 => ?_)
          · replace c58 := zi_0.mp c58
            refine go_bipush (v := (-6)) dX4_classBy_65 (by decide) ?_
            refine go_iret dX4_classBy_67 rfl ?_ ?_ (Nat.zero_le _) (Nat.zero_le _)
            · simp [clM, c6, c19, c32, c45, c58]
            · rfl
          · replace c58 := zi_nz.mp c58
            refine go_iconst (v := 4) dX4_classBy_61 (by decide) ?_
            refine go_goto (tgt := 67) dX4_classBy_62 (by decide) ?_
            refine go_iret dX4_classBy_67 rfl ?_ ?_ (Nat.zero_le _) (Nat.zero_le _)
            · simp [clM, c6, c19, c32, c45, c58]
            · rfl
        · replace c45 := zi_nz.mp c45
          refine go_iconst (v := 3) dX4_classBy_48 (by decide) ?_
          refine go_iret dX4_classBy_49 rfl ?_ ?_ (Nat.zero_le _) (Nat.zero_le _)
          · simp [clM, c6, c19, c32, c45]
          · rfl
      · replace c32 := zi_nz.mp c32
        refine go_iconst (v := 2) dX4_classBy_35 (by decide) ?_
        refine go_iret dX4_classBy_36 rfl ?_ ?_ (Nat.zero_le _) (Nat.zero_le _)
        · simp [clM, c6, c19, c32]
        · rfl
    · replace c19 := zi_nz.mp c19
      refine go_iconst (v := 1) dX4_classBy_22 (by decide) ?_
      refine go_iret dX4_classBy_23 rfl ?_ ?_ (Nat.zero_le _) (Nat.zero_le _)
      · simp [clM, c6, c19]
      · rfl
  · replace c6 := zi_nz.mp c6
    refine go_iconst (v := 0) dX4_classBy_9 (by decide) ?_
    refine go_iret dX4_classBy_10 rfl ?_ ?_ (Nat.zero_le _) (Nat.zero_le _)
    · simp [clM, c6]
    · rfl
theorem nMx_o {c : Int32} (h : ¬ (c = 0 ∨ c = 1 ∨ c = 2 ∨ c = 3)) : nMx c = 300 := by
  unfold nMx
  rw [if_neg (fun q => h (q.elim Or.inl (fun q => Or.inr (Or.inr (Or.inr q))))), if_neg (fun q => h (Or.inr (Or.inl q))), if_neg (fun q => h (Or.inr (Or.inr (Or.inl q))))]
theorem t_out {c : Int32} (h : ¬ (c = 0 ∨ c = 1 ∨ c = 2 ∨ c = 3)) : c.toInt < 0 ∨ 3 < c.toInt := by
  have key : ∀ (d : Int32), c.toInt = d.toInt → c = d := fun d e => Int32.toInt_inj.mp e
  have h0 : ¬ c.toInt = 0 := fun e => h (Or.inl (key 0 e))
  have h1 : ¬ c.toInt = 1 := fun e => h (Or.inr (Or.inl (key 1 e)))
  have h2 : ¬ c.toInt = 2 := fun e => h (Or.inr (Or.inr (Or.inl (key 2 e))))
  have h3 : ¬ c.toInt = 3 := fun e => h (Or.inr (Or.inr (Or.inr (key 3 e))))
  omega
set_option maxRecDepth 4000 in
theorem kX4_maximumOf (γ : zG) (l : Launch) (n : Nat) (h : zH) (c : Int32) : Con γ l (n) 0 0 MX4_maximumOf [.int c] h (some (.int (nMx c))) h := by
  refine Con.go (by decide +kernel) (Nat.le_of_ble_eq_true rfl) ⟨rfl, trivial⟩ ?_
  show Go _ 0 0 0 [some (.int c)] [] _
  refine go_iload_n dX4_maximumOf_0 rfl ?_
  by_cases h0 : c = 0 ∨ c = 1 ∨ c = 2 ∨ c = 3
  · rcases h0 with hc | hc | hc | hc
    · subst hc
      refine go_tableIn (tgt := 32) dX4_maximumOf_1 (by decide) (by decide) (off := 31) (by decide) (by decide) ?_
      refine go_sipush (v := 154) dX4_maximumOf_32 (by decide) ?_
      refine go_iret dX4_maximumOf_35 rfl ?_ ?_ (Nat.zero_le _) (Nat.zero_le _)
      · rfl
      · rfl
    · subst hc
      refine go_tableIn (tgt := 36) dX4_maximumOf_1 (by decide) (by decide) (off := 35) (by decide) (by decide) ?_
      refine go_bipush (v := 40) dX4_maximumOf_36 (by decide) ?_
      refine go_iret dX4_maximumOf_38 rfl ?_ ?_ (Nat.zero_le _) (Nat.zero_le _)
      · rfl
      · rfl
    · subst hc
      refine go_tableIn (tgt := 39) dX4_maximumOf_1 (by decide) (by decide) (off := 38) (by decide) (by decide) ?_
      refine go_bipush (v := 70) dX4_maximumOf_39 (by decide) ?_
      refine go_iret dX4_maximumOf_41 rfl ?_ ?_ (Nat.zero_le _) (Nat.zero_le _)
      · rfl
      · rfl
    · subst hc
      refine go_tableIn (tgt := 32) dX4_maximumOf_1 (by decide) (by decide) (off := 31) (by decide) (by decide) ?_
      refine go_sipush (v := 154) dX4_maximumOf_32 (by decide) ?_
      refine go_iret dX4_maximumOf_35 rfl ?_ ?_ (Nat.zero_le _) (Nat.zero_le _)
      · rfl
      · rfl
  · refine go_tableOut (tgt := 42) dX4_maximumOf_1 (t_out h0) (by decide) ?_
    refine go_sipush (v := 300) dX4_maximumOf_42 (by decide) ?_
    refine go_iret dX4_maximumOf_45 rfl ?_ ?_ (Nat.zero_le _) (Nat.zero_le _)
    · rw [nMx_o h0]
    · rfl
set_option maxRecDepth 4000 in
theorem kX4_classOf (γ : zG) (l : Launch) (n : Nat) (h : zH) (b : Nat) (μ : zS) (hm : zMd γ h b μ) (p : Int32) (j : Nat) (hp : p = nI j) (hj : j < 8) : Con γ l (n + 3) 0 0 MX4_classOf [.ref b, .int p] h (some (.int (nCl (μ 0) j))) h := by
  refine Con.go (by decide +kernel) (Nat.le_of_ble_eq_true rfl) ⟨rfl, rfl, trivial⟩ ?_
  show Go _ 0 0 0 [some (.ref b), some (.int p)] [] _
  refine go_aload_n dX4_classOf_0 rfl ?_
  refine go_iload_n dX4_classOf_1 rfl ?_
  refine go_callVi (ci := 4) dX4_classOf_2 moX4_isConnected cvX4_55 ⟨rfl, rfl⟩ (kX4_isConnected γ l _ _ b μ hm _ j hp hj) (by first | exact hm 0 (by decide) | exact hm 1 (by decide)) rfl rfl (Nat.le_refl _) (Nat.zero_le _) (Nat.zero_le _) (Nat.le_of_ble_eq_true rfl) ?_
  refine go_if_eq (tgt := 20) dX4_classOf_5 (by decide) (fun c5 => ?_) (fun c5 => ?_)
  · replace c5 := zi_0.mp c5
    refine go_bipush (v := (-6)) dX4_classOf_20 (by decide) ?_
    refine go_iret dX4_classOf_22 rfl ?_ ?_ (Nat.zero_le _) (Nat.zero_le _)
    · simp [nCl, c5]
    · rfl
  · replace c5 := zi_nz.mp c5
    refine go_aload_n dX4_classOf_8 rfl ?_
    refine go_iload_n dX4_classOf_9 rfl ?_
    refine go_iconst (v := 5) dX4_classOf_10 (by decide) ?_
    refine go_callVi (ci := 4) dX4_classOf_11 moX4_of cvX4_45 ⟨rfl, rfl⟩ (kX4_of γ l _ _ b μ hm _ _ j 5 hp rfl (mi_lt hj (by decide))) (by first | exact hm 0 (by decide) | exact hm 1 (by decide)) rfl rfl (Nat.le_refl _) (Nat.zero_le _) (Nat.zero_le _) (Nat.le_of_ble_eq_true rfl) ?_
    refine go_callSi dX4_classOf_14 moX4_classBy csX4_58 (kX4_classBy γ l _ _ _) rfl rfl (Nat.le_refl _) (Nat.zero_le _) (Nat.zero_le _) (Nat.le_of_ble_eq_true rfl) ?_
    refine go_goto (tgt := 22) dX4_classOf_17 (by decide) ?_
    refine go_iret dX4_classOf_22 rfl ?_ ?_ (Nat.zero_le _) (Nat.zero_le _)
    · simp [nCl, c5]
    · rfl
set_option maxRecDepth 4000 in
theorem kX4_detects (γ : zG) (l : Launch) (n : Nat) (h : zH) (b : Nat) (μ : zS) (hm : zMd γ h b μ) (p : Int32) (j : Nat) (hp : p = nI j) (hj : j < 8) : Con γ l (n + 3) 0 0 MX4_detects [.ref b, .int p] h (some (.int (zi (nDe (μ 0) j)))) h := by
  refine Con.go (by decide +kernel) (Nat.le_of_ble_eq_true rfl) ⟨rfl, rfl, trivial⟩ ?_
  show Go _ 0 0 0 [some (.ref b), some (.int p)] [] _
  refine go_aload_n dX4_detects_0 rfl ?_
  refine go_iload_n dX4_detects_1 rfl ?_
  refine go_callVi (ci := 4) dX4_detects_2 moX4_isConnected cvX4_55 ⟨rfl, rfl⟩ (kX4_isConnected γ l _ _ b μ hm _ j hp hj) (by first | exact hm 0 (by decide) | exact hm 1 (by decide)) rfl rfl (Nat.le_refl _) (Nat.zero_le _) (Nat.zero_le _) (Nat.le_of_ble_eq_true rfl) ?_
  refine go_if_eq (tgt := 41) dX4_detects_5 (by decide) (fun c5 => ?_) (fun c5 => ?_)
  · replace c5 := zi_0.mp c5
    refine go_iconst (v := 0) dX4_detects_41 (by decide) ?_
    refine go_zret dX4_detects_42 rfl (by first | rfl | exact zi_n) ?_ ?_ (Nat.zero_le _) (Nat.zero_le _)
    · first | exact zrt ⟨c5, c23, zle.mpr c34⟩ | exact zrf (fun q => zle.mp q.2.2 c34) | exact zrf (fun q => c23 q.2.1) | exact zrf (fun q => c5 q.1)
    · rfl
  · replace c5 := zi_nz.mp c5
    refine go_aload_n dX4_detects_8 rfl ?_
    refine go_iload_n dX4_detects_9 rfl ?_
    refine go_iconst (v := 3) dX4_detects_10 (by decide) ?_
    refine go_callVi (ci := 4) dX4_detects_11 moX4_of cvX4_45 ⟨rfl, rfl⟩ (kX4_of γ l _ _ b μ hm _ _ j 3 hp rfl (mi_lt hj (by decide))) (by first | exact hm 0 (by decide) | exact hm 1 (by decide)) rfl rfl (Nat.le_refl _) (Nat.zero_le _) (Nat.zero_le _) (Nat.le_of_ble_eq_true rfl) ?_
    refine go_sipush (v := 190) dX4_detects_14 (by decide) ?_
    refine go_sipush (v := 265) dX4_detects_17 (by decide) ?_
    refine go_callSi dX4_detects_20 moX4_in csX4_30 (kX4_in γ l _ _ _ _ _) rfl rfl (Nat.le_refl _) (Nat.zero_le _) (Nat.zero_le _) (Nat.le_of_ble_eq_true rfl) ?_
    refine go_if_eq (tgt := 41) dX4_detects_23 (by decide) (fun c23 => ?_) (fun c23 => ?_)
    · replace c23 := zi_0.mp c23
      refine go_iconst (v := 0) dX4_detects_41 (by decide) ?_
      refine go_zret dX4_detects_42 rfl (by first | rfl | exact zi_n) ?_ ?_ (Nat.zero_le _) (Nat.zero_le _)
      · first | exact zrt ⟨c5, c23, zle.mpr c34⟩ | exact zrf (fun q => zle.mp q.2.2 c34) | exact zrf (fun q => c23 q.2.1) | exact zrf (fun q => c5 q.1)
      · rfl
    · replace c23 := zi_nz.mp c23
      refine go_aload_n dX4_detects_26 rfl ?_
      refine go_iload_n dX4_detects_27 rfl ?_
      refine go_iconst (v := 4) dX4_detects_28 (by decide) ?_
      refine go_callVi (ci := 4) dX4_detects_29 moX4_of cvX4_45 ⟨rfl, rfl⟩ (kX4_of γ l _ _ b μ hm _ _ j 4 hp rfl (mi_lt hj (by decide))) (by first | exact hm 0 (by decide) | exact hm 1 (by decide)) rfl rfl (Nat.le_refl _) (Nat.zero_le _) (Nat.zero_le _) (Nat.le_of_ble_eq_true rfl) ?_
      refine go_bipush (v := 15) dX4_detects_32 (by decide) ?_
      refine go_icmp_gt (tgt := 41) dX4_detects_34 (by decide) (fun c34 => ?_) (fun c34 => ?_)
      · refine go_iconst (v := 0) dX4_detects_41 (by decide) ?_
        refine go_zret dX4_detects_42 rfl (by first | rfl | exact zi_n) ?_ ?_ (Nat.zero_le _) (Nat.zero_le _)
        · first | exact zrt ⟨c5, c23, zle.mpr c34⟩ | exact zrf (fun q => zle.mp q.2.2 c34) | exact zrf (fun q => c23 q.2.1) | exact zrf (fun q => c5 q.1)
        · rfl
      · refine go_iconst (v := 1) dX4_detects_37 (by decide) ?_
        refine go_goto (tgt := 42) dX4_detects_38 (by decide) ?_
        refine go_zret dX4_detects_42 rfl (by first | rfl | exact zi_n) ?_ ?_ (Nat.zero_le _) (Nat.zero_le _)
        · first | exact zrt ⟨c5, c23, zle.mpr c34⟩ | exact zrf (fun q => zle.mp q.2.2 c34) | exact zrf (fun q => c23 q.2.1) | exact zrf (fun q => c5 q.1)
        · rfl
set_option maxRecDepth 4000 in
theorem kX4_isEligible (γ : zG) (l : Launch) (n : Nat) (h : zH) (b : Nat) (μ : zS) (hm : zMd γ h b μ) (p : Int32) (j : Nat) (hp : p = nI j) (hj : j < 8) : Con γ l (n + 4) 0 0 MX4_isEligible [.ref b, .int p] h (some (.int (zi (nEl (μ 0) j)))) h := by
  refine Con.go (by decide +kernel) (Nat.le_of_ble_eq_true rfl) ⟨rfl, rfl, trivial⟩ ?_
  show Go _ 0 0 0 [some (.ref b), some (.int p)] [] _
  refine go_aload_n dX4_isEligible_0 rfl ?_
  refine go_iload_n dX4_isEligible_1 rfl ?_
  refine go_iconst (v := 0) dX4_isEligible_2 (by decide) ?_
  refine go_callVi (ci := 4) dX4_isEligible_3 moX4_of cvX4_45 ⟨rfl, rfl⟩ (kX4_of γ l _ _ b μ hm _ _ j 0 hp rfl (mi_lt hj (by decide))) (by first | exact hm 0 (by decide) | exact hm 1 (by decide)) rfl rfl (Nat.le_refl _) (Nat.zero_le _) (Nat.zero_le _) (Nat.le_of_ble_eq_true rfl) ?_
  refine go_iconst (v := 1) dX4_isEligible_6 (by decide) ?_
  refine go_icmp_ne (tgt := 30) dX4_isEligible_7 (by decide) (fun c7 => ?_) (fun c7 => ?_)
  · refine go_iconst (v := 0) dX4_isEligible_30 (by decide) ?_
    refine go_zret dX4_isEligible_31 rfl (by first | rfl | exact zi_n) ?_ ?_ (Nat.zero_le _) (Nat.zero_le _)
    · first | exact zrt ⟨c7, c15, c23⟩ | exact zrf (fun q => q.2.2 c23) | exact zrf (fun q => c15 q.2.1) | exact zrf (fun q => c7 q.1)
    · rfl
  · refine go_aload_n dX4_isEligible_10 rfl ?_
    refine go_iload_n dX4_isEligible_11 rfl ?_
    refine go_callVi (ci := 4) dX4_isEligible_12 moX4_detects cvX4_74 ⟨rfl, rfl⟩ (kX4_detects γ l _ _ b μ hm _ j hp hj) (by first | exact hm 0 (by decide) | exact hm 1 (by decide)) rfl rfl (Nat.le_refl _) (Nat.zero_le _) (Nat.zero_le _) (Nat.le_of_ble_eq_true rfl) ?_
    refine go_if_eq (tgt := 30) dX4_isEligible_15 (by decide) (fun c15 => ?_) (fun c15 => ?_)
    · replace c15 := zi_0.mp c15
      refine go_iconst (v := 0) dX4_isEligible_30 (by decide) ?_
      refine go_zret dX4_isEligible_31 rfl (by first | rfl | exact zi_n) ?_ ?_ (Nat.zero_le _) (Nat.zero_le _)
      · first | exact zrt ⟨c7, c15, c23⟩ | exact zrf (fun q => q.2.2 c23) | exact zrf (fun q => c15 q.2.1) | exact zrf (fun q => c7 q.1)
      · rfl
    · replace c15 := zi_nz.mp c15
      refine go_aload_n dX4_isEligible_18 rfl ?_
      refine go_iload_n dX4_isEligible_19 rfl ?_
      refine go_callVi (ci := 4) dX4_isEligible_20 moX4_classOf cvX4_68 ⟨rfl, rfl⟩ (kX4_classOf γ l _ _ b μ hm _ j hp hj) (by first | exact hm 0 (by decide) | exact hm 1 (by decide)) rfl rfl (Nat.le_refl _) (Nat.zero_le _) (Nat.zero_le _) (Nat.le_of_ble_eq_true rfl) ?_
      refine go_if_lt (tgt := 30) dX4_isEligible_23 (by decide) (fun c23 => ?_) (fun c23 => ?_)
      · refine go_iconst (v := 0) dX4_isEligible_30 (by decide) ?_
        refine go_zret dX4_isEligible_31 rfl (by first | rfl | exact zi_n) ?_ ?_ (Nat.zero_le _) (Nat.zero_le _)
        · first | exact zrt ⟨c7, c15, c23⟩ | exact zrf (fun q => q.2.2 c23) | exact zrf (fun q => c15 q.2.1) | exact zrf (fun q => c7 q.1)
        · rfl
      · refine go_iconst (v := 1) dX4_isEligible_26 (by decide) ?_
        refine go_goto (tgt := 31) dX4_isEligible_27 (by decide) ?_
        refine go_zret dX4_isEligible_31 rfl (by first | rfl | exact zi_n) ?_ ?_ (Nat.zero_le _) (Nat.zero_le _)
        · first | exact zrt ⟨c7, c15, c23⟩ | exact zrf (fun q => q.2.2 c23) | exact zrf (fun q => c15 q.2.1) | exact zrf (fun q => c7 q.1)
        · rfl
