/-! State(): fifteen new cells behind it -/
def zcu (c : Nat → va_E) (k : Nat) (e : va_E) : Nat → va_E := fun j => if j = k then e else c j
def zcan (h : zH) (a N : Nat) (c : Nat → va_E) : zH := zal (zput h a N c) (N - 1)
theorem zcan_nx {h : zH} {a N : Nat} {c : Nat → va_E} (hnx : h.2 = a + 1) (hN : 1 ≤ N) : (zcan h a N c).2 = a + N := by
  show h.2 + (N - 1) = _
  omega
theorem zcan_rd {h : zH} {a N : Nat} {c : Nat → va_E} (k : Nat) (hk : k < N) : (zcan h a N c).1 (a + k) = some (c k) := zput_is h a N c k hk
theorem zcan_out {h : zH} {a N x : Nat} {c : Nat → va_E} (hx : x < a ∨ a + N ≤ x) : (zcan h a N c).1 x = h.1 x := zput_out hx
theorem zcan_ext {h g : zH} {a N : Nat} {c : Nat → va_E} (h2 : g.2 = (zcan h a N c).2) (hi : ∀ k, k < N → g.1 (a + k) = some (c k)) (ho : ∀ x, (x < a ∨ a + N ≤ x) → g.1 x = h.1 x) : g = zcan h a N c := by
  refine Prod.ext ?_ h2
  funext x
  by_cases hx : a ≤ x ∧ x < a + N
  · obtain ⟨k, rfl⟩ : ∃ k, x = a + k := ⟨x - a, by omega⟩
    rw [hi k (by omega), zcan_rd k (by omega)]
  · rw [ho x (by omega), zcan_out (by omega)]
theorem zcan_push {h : zH} {a N : Nat} {c : Nat → va_E} {e : va_E} (hnx : h.2 = a + 1) (hN : 1 ≤ N) : zp (zcan h a N c) e = zcan h a (N + 1) (zcu c N e) := by
  refine zcan_ext ?_ (fun k hk => ?_) (fun x hx => ?_)
  · rw [zcan_nx hnx (by omega)]
    show (zcan h a N c).2 + 1 = _
    rw [zcan_nx hnx hN]
    omega
  · by_cases hkN : k = N
    · subst hkN
      rw [← zcan_nx (c := c) hnx hN, zp_s]
      simp [zcu]
    · rw [zp_o (by rw [zcan_nx hnx hN]; omega), zcan_rd k (by omega)]
      simp [zcu, hkN]
  · rw [zp_o (by rw [zcan_nx hnx hN]; omega), zcan_out (by omega)]
theorem zcan_zu {h : zH} {a N k x : Nat} {c : Nat → va_E} {e : va_E} (hk : k < N) (hx : x = a + k) : zu (zcan h a N c) x e = zcan h a N (zcu c k e) := by
  subst hx
  refine zcan_ext rfl (fun j hj => ?_) (fun x hx => ?_)
  · by_cases hjk : j = k
    · subst hjk
      rw [zu_s]
      simp [zcu]
    · rw [zu_n (by omega), zcan_rd j hj]
      simp [zcu, hjk]
  · rw [zu_n (by omega), zcan_out hx]
def zcb (c d : Nat → va_E) (k n : Nat) : Nat → va_E := fun j => if k ≤ j ∧ j < k + n then d (j - k) else c j
theorem zcan_blk {h : zH} {a N M k n m x : Nat} {c d : Nat → va_E} (hnx : h.2 = a + 1) (hN : 1 ≤ N) (hM : k + n = M) (hm : N + m = M) (hk : k ≤ N) (hx : x = a + k) : zal (zput (zcan h a N c) x n d) m = zcan h a M (zcb c d k n) := by
  subst hx
  refine zcan_ext ?_ (fun j hj => ?_) (fun x hx => ?_)
  · rw [zcan_nx hnx (by omega)]
    show (zcan h a N c).2 + m = _
    rw [zcan_nx hnx hN]
    omega
  · show (zput (zcan h a N c) (a + k) n d).1 (a + j) = _
    by_cases hj2 : k ≤ j ∧ j < k + n
    · obtain ⟨i, rfl⟩ : ∃ i, j = k + i := ⟨j - k, by omega⟩
      rw [← Nat.add_assoc, zput_is (zcan h a N c) (a + k) n d i (by omega)]
      simp [zcb, hj2]
    · rw [zput_out (by omega), zcan_rd j (by omega)]
      simp [zcb, hj2]
  · show (zput (zcan h a N c) (a + k) n d).1 x = _
    rw [zput_out (by omega), zcan_out (by omega)]
theorem zcan_congr {h : zH} {a N : Nat} {c d : Nat → va_E} (hc : ∀ k, k < N → c k = d k) : zcan h a N c = zcan h a N d := by
  unfold zcan
  rw [zput_congr hc]
theorem zcan_1 {h : zH} {a : Nat} {e : va_E} (hp : h.1 a = some e) : h = zcan h a 1 (fun _ => e) := by
  refine zcan_ext rfl (fun k hk => ?_) (fun x _ => rfl)
  rw [show k = 0 by omega]
  exact hp
section ZA
variable {E : zE} {cs sl pc : Nat} {lv : zLv} {st : List Value} {h h1 : zH}
theorem go_newA {idx ci q : Nat} {C : String} {T : u_T} {N : Nat} {fs : List Value} (hq : h.2 = q) (he : zp h (.inr (ci, fs)) = h1) (hd : decode (zb E) pc = .ok (.new idx, 3)) (hc : zcl[ci]? = some (C, T, N)) (hw : Cond.classLink (zo E) idx C ∈ zT ∧ Cond.instantiable C N ∈ zT ∧ Cond.initialized C ∈ zT) (hfs : ∀ j, j < N → defaultValue (zct ci j) = vp_V fs j) (hcs : cs + 1 ≤ zcc E) (hsl : sl + N ≤ zcs E)
    (kk : Go E (cs + 1) (sl + N) (pc + 3) lv (.ref q :: st) h1) : Go E cs sl pc lv st h := go_new hd hc hw hfs hcs hsl (by rw [hq, he]; exact kk)
theorem go_newiA {n : Int32} {N q : Nat} (hq : h.2 = q) (he : zp h (zai (zg E) N (fun _ => 0)) = h1) (hd : decode (zb E) pc = .ok (.newarray .int, 2)) (hn : ¬ n < 0) (hN : n.toNatClampNeg = N) (hsm : N ≤ 100000) (hcs : cs + 1 ≤ zcc E) (hsl : sl + N ≤ zcs E)
    (kk : Go E (cs + 1) (sl + N) (pc + 2) lv (.ref q :: st) h1) : Go E cs sl pc lv (.int n :: st) h := go_newi hd arr_int hn hN hsm hcs hsl (by rw [hq, he]; exact kk)
theorem go_newzA {n : Int32} {N q : Nat} (hq : h.2 = q) (he : zp h (zaz (zg E) N (fun _ => 0)) = h1) (hd : decode (zb E) pc = .ok (.newarray .boolean, 2)) (hn : ¬ n < 0) (hN : n.toNatClampNeg = N) (hsm : N ≤ 100000) (hcs : cs + 1 ≤ zcc E) (hsl : sl + N ≤ zcs E)
    (kk : Go E (cs + 1) (sl + N) (pc + 2) lv (.ref q :: st) h1) : Go E cs sl pc lv (.int n :: st) h := go_newz hd arr_boolean hn hN hsm hcs hsl (by rw [hq, he]; exact kk)
theorem go_anewA {idx t0 q : Nat} {C : String} {n : Int32} {N : Nat} {cA0 : ClassId} (hq : h.2 = q) (he : zp h (.inl (cA0, N, .inr (.inr (.inr (.inr (fun _ => none)))))) = h1) (hd : decode (zb E) pc = .ok (.anewarray idx, 3)) (hw : Cond.classLink (zo E) idx C ∈ zT) (ho : ∀ U : State, zK (zg E) U → va_AO C U) (ht : (zty (zg E))[t0]? = some (cA0, .object C)) (hn : ¬ n < 0) (hN : n.toNatClampNeg = N) (hsm : N ≤ 100000) (hcs : cs + 1 ≤ zcc E) (hsl : sl + N ≤ zcs E)
    (kk : Go E (cs + 1) (sl + N) (pc + 3) lv (.ref q :: st) h1) : Go E cs sl pc lv (.int n :: st) h := go_anew hd hw ho ht hn hN hsm hcs hsl (by rw [hq, he]; exact kk)
end ZA
def pI : Nat → Int32 := upd (upd (upd (fun _ => 0) 0 1) 1 2) 4 (-6)
/-- a new State -/
def sI : zS := fun c => match c with
  | 0 => upd (upd (upd (fun _ => 0) 0 1500) 1 0) 2 0
  | 1 => upd (upd (upd (fun _ => 0) 0 1) 1 1) 2 1
  | 2 => upd (upd (upd (fun _ => 0) 1 2) 2 3) 3 5
  | 3 => fun _ => 0
  | 4 => fun _ => 0
  | 5 => fun _ => 0
  | 6 => fun _ => 0
  | _ => pI
def zcK (γ : zG) (a k : Nat) : Nat → va_E := fun j => if j = 3 then zap γ 8 (fun i => if i < k then some (a + 8 + i) else none) else if j < 8 then zst γ a sI j else zpo pI
theorem zcK_end (γ : zG) (a : Nat) : ∀ j, j < 16 → zcK γ a 8 j = zst γ a sI j := by
  intro j hj
  rcases zlt16 hj with h | h | h | h | h | h | h | h | h | h | h | h | h | h | h | h <;> subst h <;> rfl
theorem zcK_step (γ : zG) (a k : Nat) (hk : k < 8) : ∀ j, j < 8 + k + 1 → zcu (zcu (zcu (zcK γ a k) (8 + k) (zpo (fun _ => 0))) (8 + k) (zpo pI)) 3 (zap γ 8 (va_up (fun i => if i < k then some (a + 8 + i) else none) k (some (a + 8 + k)))) j = zcK γ a (k + 1) j := by
  intro j hj
  by_cases h3 : j = 3
  · subst h3
    show zap γ 8 _ = zap γ 8 _
    congr 1
    funext i
    unfold va_up
    by_cases hi : i = k
    · subst hi
      simp
    · by_cases hl : i < k
      · have : i < k + 1 := by omega
        simp [hi, hl, this]
      · have : ¬ i < k + 1 := by omega
        simp [hi, hl, this]
  · by_cases h8 : j = 8 + k
    · subst h8
      have h9 : ¬ (8 + k = 3) := by omega
      have h10 : ¬ (8 + k < 8) := by omega
      simp [zcu, zcK, h9]
      exact fun q => absurd q h10
    · simp [zcu, zcK, h3, h8]
set_option maxRecDepth 4000 in
theorem kX2_init (γ : zG) (l : Launch) (n : Nat) (h : zH) (a : Nat) (hp : h.1 a = some (.inr (2, [.null, .null, .null, .null, .int 0, .int 0, .int 0, .int 0, .int 0, .int 0]))) (hnx : h.2 = a + 1) : Con γ l (n + 2) 15 147 MX2_init [.ref a] h none (zal (zps γ h a sI) 15) := by
  refine Con.go (by decide +kernel) (Nat.le_of_ble_eq_true rfl) ⟨rfl, trivial⟩ ?_
  show Go _ 0 0 0 [some (.ref a), none] [] _
  have loop : ∀ (m k : Nat), k ≤ 8 → k + m = 8 → Go (γ, l, n + 2, (15, 147), MX2_init, zF γ 15 147 none (zal (zps γ h a sI) 15)) (7 + k) (67 + 10 * k) 81 [some (.ref a), some (.int (nI k))] [] (zcan h a (8 + k) (zcK γ a k)) := by
    intro m
    induction m with
    | zero =>
      intro k hk8 hk
      have hkN : k = 8 := by omega
      subst hkN
      refine go_iload_n dX2_init_81 rfl ?_
      refine go_bipush (v := 8) dX2_init_82 (by decide) ?_
      refine go_icmp_ge (tgt := 106) dX2_init_84 (by decide) (fun c84 => ?_) (fun c84 => absurd (by decide) c84)
      refine go_vret dX2_init_106 rfl rfl ?_ (by omega) (by omega)
      · exact ((zcan_congr (zcK_end γ a)).symm)
    | succ m ih =>
      intro k hk8 hk
      have hlt : k < 8 := by omega
      refine go_iload_n dX2_init_81 rfl ?_
      refine go_bipush (v := 8) dX2_init_82 (by decide) ?_
      refine go_icmp_ge (tgt := 106) dX2_init_84 (by decide) (fun c84 => absurd c84 (zge hk)) (fun c84 => ?_)
      refine go_aload_n dX2_init_87 rfl ?_
      refine go_getf dX2_init_88 flX2_21 (by exact zcan_rd 0 (by omega)) rfl ?_
      refine go_iload_n dX2_init_91 rfl ?_
      refine go_newA (ci := 1) (q := a + 8 + k) (fs := [.int 0, .int 0, .int 0, .int 0, .int 0, .int 0, .int 0, .int 0, .int 0, .int 0]) ((zcan_nx hnx (by omega)).trans (Nat.add_assoc _ _ _).symm) (zcan_push hnx (by omega)) dX2_init_92 rfl clX2_19 (fun j hj => by rcases (show j = 0 ∨ j = 1 ∨ j = 2 ∨ j = 3 ∨ j = 4 ∨ j = 5 ∨ j = 6 ∨ j = 7 ∨ j = 8 ∨ j = 9 by omega) with h | h | h | h | h | h | h | h | h | h <;> subst h <;> rfl) (show 7 + k + 1 ≤ 15 by omega) (show 67 + 10 * k + 10 ≤ 147 by omega) ?_
      refine go_dup dX2_init_95 rfl ?_
      refine go_callIv (C' := 0) (S' := 0) dX2_init_96 moX1_init ciX2_42 ⟨rfl, rfl⟩ (kX1_init γ l _ _ (a + 8 + k) (fun _ => 0) ((congrArg _ (Nat.add_assoc a 8 k)).trans ((zcan_rd (8 + k) (by omega)).trans (by simp [zcu, zpo])))) rfl rfl (Nat.le_refl _) (show 7 + k + 1 + 0 ≤ 15 by omega) (show 67 + 10 * k + 10 + 0 ≤ 147 by omega) (Nat.le_of_ble_eq_true rfl) ?_
      refine go_h (zcan_zu (k := 8 + k) (by omega) (Nat.add_assoc _ _ _)) ?_
      refine go_aast (t0 := 2) (ci := 1) (r := (RX1, TX1, 10)) (f := fun i => if i < k then some (a + 8 + i) else none) dX2_init_99 ((zcan_rd 3 (by omega)).trans (by simp [zcu, zcK, zap, show ¬ (3 = 8 + k) by omega])) rfl ((congrArg _ (Nat.add_assoc a 8 k)).trans ((zcan_rd (8 + k) (by omega)).trans (by simp only [zcu, if_true]; rfl))) rfl (zix rfl hlt (by decide)).1 (zix rfl hlt (by decide)).2 ?_
      refine go_h ((zcan_zu (k := 3) (by omega) rfl).trans (zcan_congr (zcK_step γ a k hlt))) ?_
      refine go_iinc dX2_init_100 rfl (nI_1 k) (Nat.le_of_ble_eq_true rfl) ?_
      refine go_goto (tgt := 81) dX2_init_103 (by decide) ?_
      refine go_widen (cs' := 7 + (k + 1)) (sl' := 67 + 10 * (k + 1)) (by omega) (by omega) ?_
      exact ih (k + 1) (by omega) (by omega)
  refine go_h (zcan_1 hp) ?_
  refine go_aload_n dX2_init_0 rfl ?_
  refine go_objInit dX2_init_1 oiX2_3 (by show 1 ≤ _ + 1; omega) ?_
  refine go_aload_n dX2_init_4 rfl ?_
  refine go_iconst (v := 3) dX2_init_5 (by decide) ?_
  refine go_newiA (N := 3) (zcan_nx hnx (by decide)) (zcan_push hnx (by decide)) dX2_init_6 (by decide) rfl (by decide) (Nat.le_of_ble_eq_true rfl) (Nat.le_of_ble_eq_true rfl) ?_
  refine go_dup dX2_init_8 rfl ?_
  refine go_iconst (v := 0) dX2_init_9 (by decide) ?_
  refine go_sipush (v := 1500) dX2_init_10 (by decide) ?_
  refine go_iast dX2_init_13 (by first | exact zcan_rd 0 (by decide) | exact zcan_rd 1 (by decide) | exact zcan_rd 2 (by decide) | exact zcan_rd 3 (by decide) | exact zcan_rd 4 (by decide)) (by unfold vp_in; decide) rfl ?_
  refine go_h (zcan_zu (k := 1) (by decide) rfl) ?_
  refine go_dup dX2_init_14 rfl ?_
  refine go_iconst (v := 1) dX2_init_15 (by decide) ?_
  refine go_iconst (v := 0) dX2_init_16 (by decide) ?_
  refine go_iast dX2_init_17 (by first | exact zcan_rd 0 (by decide) | exact zcan_rd 1 (by decide) | exact zcan_rd 2 (by decide) | exact zcan_rd 3 (by decide) | exact zcan_rd 4 (by decide)) (by unfold vp_in; decide) rfl ?_
  refine go_h (zcan_zu (k := 1) (by decide) rfl) ?_
  refine go_dup dX2_init_18 rfl ?_
  refine go_iconst (v := 2) dX2_init_19 (by decide) ?_
  refine go_iconst (v := 0) dX2_init_20 (by decide) ?_
  refine go_iast dX2_init_21 (by first | exact zcan_rd 0 (by decide) | exact zcan_rd 1 (by decide) | exact zcan_rd 2 (by decide) | exact zcan_rd 3 (by decide) | exact zcan_rd 4 (by decide)) (by unfold vp_in; decide) rfl ?_
  refine go_h (zcan_zu (k := 1) (by decide) rfl) ?_
  refine go_putF dX2_init_22 flX2_9 fnX2_0 rfl rfl (by first | exact zcan_rd 0 (by decide) | exact zcan_rd 1 (by decide) | exact zcan_rd 2 (by decide) | exact zcan_rd 3 (by decide) | exact zcan_rd 4 (by decide)) rfl rfl (Nat.le_of_ble_eq_true rfl) ?_
  refine go_h (zcan_zu (k := 0) (by decide) rfl) ?_
  refine go_aload_n dX2_init_25 rfl ?_
  refine go_iconst (v := 3) dX2_init_26 (by decide) ?_
  refine go_newzA (N := 3) (zcan_nx hnx (by decide)) (zcan_push hnx (by decide)) dX2_init_27 (by decide) rfl (by decide) (Nat.le_of_ble_eq_true rfl) (Nat.le_of_ble_eq_true rfl) ?_
  refine go_dup dX2_init_29 rfl ?_
  refine go_iconst (v := 0) dX2_init_30 (by decide) ?_
  refine go_iconst (v := 1) dX2_init_31 (by decide) ?_
  refine go_zast dX2_init_32 (by first | exact zcan_rd 0 (by decide) | exact zcan_rd 1 (by decide) | exact zcan_rd 2 (by decide) | exact zcan_rd 3 (by decide) | exact zcan_rd 4 (by decide)) (by unfold vp_in; decide) rfl (zab (by first | exact Or.inl rfl | exact Or.inr rfl | exact zi_B)) ?_
  refine go_h (zcan_zu (k := 2) (by decide) rfl) ?_
  refine go_dup dX2_init_33 rfl ?_
  refine go_iconst (v := 1) dX2_init_34 (by decide) ?_
  refine go_iconst (v := 1) dX2_init_35 (by decide) ?_
  refine go_zast dX2_init_36 (by first | exact zcan_rd 0 (by decide) | exact zcan_rd 1 (by decide) | exact zcan_rd 2 (by decide) | exact zcan_rd 3 (by decide) | exact zcan_rd 4 (by decide)) (by unfold vp_in; decide) rfl (zab (by first | exact Or.inl rfl | exact Or.inr rfl | exact zi_B)) ?_
  refine go_h (zcan_zu (k := 2) (by decide) rfl) ?_
  refine go_dup dX2_init_37 rfl ?_
  refine go_iconst (v := 2) dX2_init_38 (by decide) ?_
  refine go_iconst (v := 1) dX2_init_39 (by decide) ?_
  refine go_zast dX2_init_40 (by first | exact zcan_rd 0 (by decide) | exact zcan_rd 1 (by decide) | exact zcan_rd 2 (by decide) | exact zcan_rd 3 (by decide) | exact zcan_rd 4 (by decide)) (by unfold vp_in; decide) rfl (zab (by first | exact Or.inl rfl | exact Or.inr rfl | exact zi_B)) ?_
  refine go_h (zcan_zu (k := 2) (by decide) rfl) ?_
  refine go_putF dX2_init_41 flX2_15 fnX2_1 rfl rfl (by first | exact zcan_rd 0 (by decide) | exact zcan_rd 1 (by decide) | exact zcan_rd 2 (by decide) | exact zcan_rd 3 (by decide) | exact zcan_rd 4 (by decide)) rfl rfl (Nat.le_of_ble_eq_true rfl) ?_
  refine go_h (zcan_zu (k := 0) (by decide) rfl) ?_
  refine go_aload_n dX2_init_44 rfl ?_
  refine go_bipush (v := 8) dX2_init_45 (by decide) ?_
  refine go_anewA (N := 8) (t0 := 2) (zcan_nx hnx (by decide)) (zcan_push hnx (by decide)) dX2_init_47 clX2_19.1 (fun U hU => hU.2.2.1) rfl (by decide) rfl (by decide) (Nat.le_of_ble_eq_true rfl) (Nat.le_of_ble_eq_true rfl) ?_
  refine go_putF dX2_init_50 flX2_21 fnX2_2 rfl rfl (by first | exact zcan_rd 0 (by decide) | exact zcan_rd 1 (by decide) | exact zcan_rd 2 (by decide) | exact zcan_rd 3 (by decide) | exact zcan_rd 4 (by decide)) rfl rfl (Nat.le_of_ble_eq_true rfl) ?_
  refine go_h (zcan_zu (k := 0) (by decide) rfl) ?_
  refine go_aload_n dX2_init_53 rfl ?_
  refine go_newA (ci := 0) (fs := [.null, .null, .null, .int 0, .int 0]) (zcan_nx hnx (by decide)) (zcan_push hnx (by decide)) dX2_init_54 rfl clX2_25 (fun j hj => by rcases (show j = 0 ∨ j = 1 ∨ j = 2 ∨ j = 3 ∨ j = 4 by omega) with h | h | h | h | h <;> subst h <;> rfl) (Nat.le_of_ble_eq_true rfl) (Nat.le_of_ble_eq_true rfl) ?_
  refine go_dup dX2_init_57 rfl ?_
  refine go_callIv dX2_init_58 moX0_init ciX2_27 ⟨rfl, rfl⟩ (kX0_init γ l _ _ (a + 4) (zcan_rd 4 (by decide)) (zcan_nx hnx (by decide))) rfl rfl (Nat.le_refl _) (Nat.le_of_ble_eq_true rfl) (Nat.le_of_ble_eq_true rfl) (Nat.le_of_ble_eq_true rfl) ?_
  refine go_h (zcan_blk (k := 4) (M := 8) hnx (by decide) rfl rfl (by decide) rfl) ?_
  refine go_putF dX2_init_61 flX2_28 fnX2_3 rfl rfl (by first | exact zcan_rd 0 (by decide) | exact zcan_rd 1 (by decide) | exact zcan_rd 2 (by decide) | exact zcan_rd 3 (by decide) | exact zcan_rd 4 (by decide)) rfl rfl (Nat.le_of_ble_eq_true rfl) ?_
  refine go_h (zcan_zu (k := 0) (by decide) rfl) ?_
  refine go_aload_n dX2_init_64 rfl ?_
  refine go_iconst (v := 2) dX2_init_65 (by decide) ?_
  refine go_putf dX2_init_66 flX2_32 fnX2_5 (by first | exact zcan_rd 0 (by decide) | exact zcan_rd 1 (by decide) | exact zcan_rd 2 (by decide) | exact zcan_rd 3 (by decide) | exact zcan_rd 4 (by decide)) rfl rfl (Nat.le_of_ble_eq_true rfl) ?_
  refine go_h (zcan_zu (k := 0) (by decide) rfl) ?_
  refine go_aload_n dX2_init_69 rfl ?_
  refine go_iconst (v := 3) dX2_init_70 (by decide) ?_
  refine go_putf dX2_init_71 flX2_36 fnX2_6 (by first | exact zcan_rd 0 (by decide) | exact zcan_rd 1 (by decide) | exact zcan_rd 2 (by decide) | exact zcan_rd 3 (by decide) | exact zcan_rd 4 (by decide)) rfl rfl (Nat.le_of_ble_eq_true rfl) ?_
  refine go_h (zcan_zu (k := 0) (by decide) rfl) ?_
  refine go_aload_n dX2_init_74 rfl ?_
  refine go_iconst (v := 5) dX2_init_75 (by decide) ?_
  refine go_putf dX2_init_76 flX2_39 fnX2_7 (by first | exact zcan_rd 0 (by decide) | exact zcan_rd 1 (by decide) | exact zcan_rd 2 (by decide) | exact zcan_rd 3 (by decide) | exact zcan_rd 4 (by decide)) rfl rfl (Nat.le_of_ble_eq_true rfl) ?_
  refine go_h (zcan_zu (k := 0) (by decide) rfl) ?_
  refine go_iconst (v := 0) dX2_init_79 (by decide) ?_
  refine go_istore_n dX2_init_80 (Nat.le_of_ble_eq_true rfl) ?_
  refine go_h (zcan_congr (d := zcK γ a 0) (fun j hj => ?_)) ?_
  · rcases (show j = 0 ∨ j = 1 ∨ j = 2 ∨ j = 3 ∨ j = 4 ∨ j = 5 ∨ j = 6 ∨ j = 7 by omega) with h | h | h | h | h | h | h | h <;> subst h <;> rfl
  · exact go_vl (loop 8 0 (by decide) rfl) ⟨rfl, rfl, trivial⟩
