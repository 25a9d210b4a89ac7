/-! PoeSwitchModel: the order of the ports -/
def nIn (M : Nat → Int32) (q pr : Nat) : Nat → Nat → Nat → Nat ⊕ Nat
  | 0, _, n => .inl n
  | m + 1, k, n => if gM M k 1 = nI pr then (if n = q then .inr k else nIn M q pr m (k + 1) (n + 1)) else nIn M q pr m (k + 1) n
def nOu (M : Nat → Int32) (q : Nat) : Nat → Nat → Nat → Int32
  | 0, _, _ => -6
  | m + 1, pr, n => match nIn M q pr 8 0 n with
    | .inr k => nI k
    | .inl n' => nOu M q m (pr + 1) n'
def nFi (M : Nat → Int32) (q m pr : Nat) : Nat ⊕ Nat → Int32
  | .inr k => nI k
  | .inl n' => nOu M q m (pr + 1) n'
def nOrd (M : Nat → Int32) (q : Nat) : Int32 := nOu M q 3 0 0
theorem nOu_s (M : Nat → Int32) (q m pr n : Nat) : nOu M q (m + 1) pr n = nFi M q m pr (nIn M q pr 8 0 n) := by
  unfold nOu nFi
  cases nIn M q pr 8 0 n <;> rfl
theorem nIn_no {M : Nat → Int32} {q pr m k n : Nat} (h : ¬ gM M k 1 = nI pr) : nIn M q pr (m + 1) k n = nIn M q pr m (k + 1) n := if_neg h
theorem nIn_hit {M : Nat → Int32} {q pr m k n : Nat} (h : gM M k 1 = nI pr) (h2 : n = q) : nIn M q pr (m + 1) k n = .inr k := (if_pos h).trans (if_pos h2)
theorem nIn_go {M : Nat → Int32} {q pr m k n : Nat} (h : gM M k 1 = nI pr) (h2 : ¬ n = q) : nIn M q pr (m + 1) k n = nIn M q pr m (k + 1) (n + 1) := (if_pos h).trans (if_neg h2)
set_option maxRecDepth 4000 in
theorem kX4_inOrder_ (γ : zG) (l : Launch) (n : Nat) (h : zH) (b : Nat) (μ : zS) (hm : zMd γ h b μ) (q : Nat) (hq : q < 8) (v : Int32) (hv : v = nI q) (R : Int32) (hR : nOrd (μ 0) q = R) : Con γ l (n + 2) 0 0 MX4_inOrder [.ref b, .int v] h (some (.int R)) h := by
  refine Con.go (by decide +kernel) (Nat.le_of_ble_eq_true rfl) ⟨rfl, rfl, trivial⟩ ?_
  show Go _ 0 0 0 [some (.ref b), some (.int v), none, none, none] [] _
  subst hv
  have outer : ∀ (m pr c : Nat), pr + m = 3 → c ≤ 8 * pr → nOu (μ 0) q m pr c = R → Go (γ, l, n + 2, (0, 0), MX4_inOrder, zF γ 0 0 (some (.int R)) h) 0 0 4 [some (.ref b), some (.int (nI q)), some (.int (nI c)), some (.int (nI pr)), none] [] h := by
    intro m
    induction m with
    | zero =>
      intro pr c hkq hc hf
      have hqN : pr = 3 := by omega
      subst hqN
      refine go_iload_n dX4_inOrder_4 rfl ?_
      refine go_iconst (v := 3) dX4_inOrder_5 (by decide) ?_
      refine go_icmp_ge (tgt := 53) dX4_inOrder_6 (by decide) (fun c6 => ?_) (fun c6 => absurd (by decide) c6)
      refine go_bipush (v := (-6)) dX4_inOrder_53 (by decide) ?_
      refine go_iret dX4_inOrder_55 rfl ?_ ?_ (Nat.zero_le _) (Nat.zero_le _)
      · rw [← hf]; rfl
      · rfl
    | succ m ihq =>
      intro pr c hkq hc hf
      have inner : ∀ (m2 k c : Nat), k + m2 = 8 → c ≤ 8 * pr + k → nFi (μ 0) q m pr (nIn (μ 0) q pr m2 k c) = R → Go (γ, l, n + 2, (0, 0), MX4_inOrder, zF γ 0 0 (some (.int R)) h) 0 0 12 [some (.ref b), some (.int (nI q)), some (.int (nI c)), some (.int (nI pr)), some (.int (nI k))] [] h := by
        intro m2
        induction m2 with
        | zero =>
          intro k c hk hc hg
          have hkN : k = 8 := by omega
          subst hkN
          refine go_iload dX4_inOrder_12 rfl ?_
          refine go_bipush (v := 8) dX4_inOrder_14 (by decide) ?_
          refine go_icmp_ge (tgt := 47) dX4_inOrder_16 (by decide) (fun c16 => ?_) (fun c16 => absurd (by decide) c16)
          refine go_iinc dX4_inOrder_47 rfl (nI_1 pr) (Nat.le_of_ble_eq_true rfl) ?_
          refine go_goto (tgt := 4) dX4_inOrder_50 (by decide) ?_
          exact go_vl (ihq (pr + 1) c (by omega) (by omega) hg) ⟨rfl, rfl, rfl, rfl, trivial⟩
        | succ m2 ih =>
          intro k c hk hc hg
          have hlt : k < 8 := by omega
          refine go_iload dX4_inOrder_12 rfl ?_
          refine go_bipush (v := 8) dX4_inOrder_14 (by decide) ?_
          refine go_icmp_ge (tgt := 47) dX4_inOrder_16 (by decide) (fun c16 => absurd c16 (zge hk)) (fun c16 => ?_)
          refine go_aload_n dX4_inOrder_19 rfl ?_
          refine go_iload dX4_inOrder_20 rfl ?_
          refine go_iconst (v := 1) dX4_inOrder_22 (by decide) ?_
          refine go_callVi (ci := 4) dX4_inOrder_23 moX4_of cvX4_45 ⟨rfl, rfl⟩ (kX4_of γ l _ _ b μ hm _ _ k 1 rfl rfl (mi_lt hlt (by decide))) (by first | exact hm 0 (by decide) | exact hm 1 (by decide)) rfl rfl (Nat.le_refl _) (Nat.zero_le _) (Nat.zero_le _) (Nat.le_of_ble_eq_true rfl) ?_
          refine go_iload_n dX4_inOrder_26 rfl ?_
          refine go_icmp_ne (tgt := 41) dX4_inOrder_27 (by decide) (fun c27 => ?_) (fun c27 => ?_)
          · refine go_iinc dX4_inOrder_41 rfl (nI_1 k) (Nat.le_of_ble_eq_true rfl) ?_
            refine go_goto (tgt := 12) dX4_inOrder_44 (by decide) ?_
            exact ih (k + 1) c (by omega) (by omega) ((congrArg (nFi (μ 0) q m pr) (nIn_no c27)).symm.trans hg)
          · refine go_iload_n dX4_inOrder_30 rfl ?_
            refine go_iload_n dX4_inOrder_31 rfl ?_
            refine go_icmp_ne (tgt := 38) dX4_inOrder_32 (by decide) (fun c32 => ?_) (fun c32 => ?_)
            · refine go_iinc dX4_inOrder_38 rfl (nI_1 c) (Nat.le_of_ble_eq_true rfl) ?_
              refine go_iinc dX4_inOrder_41 rfl (nI_1 k) (Nat.le_of_ble_eq_true rfl) ?_
              refine go_goto (tgt := 12) dX4_inOrder_44 (by decide) ?_
              exact ih (k + 1) (c + 1) (by omega) (by omega) ((congrArg (nFi (μ 0) q m pr) (nIn_go c27 (fun z => c32 (by rw [z])))).symm.trans hg)
            · refine go_iload dX4_inOrder_35 rfl ?_
              refine go_iret dX4_inOrder_37 rfl ?_ ?_ (Nat.zero_le _) (Nat.zero_le _)
              · rw [← hg, nIn_hit c27 ((nI_eq (by omega) (by omega)).mp c32)]; rfl
              · rfl
      refine go_iload_n dX4_inOrder_4 rfl ?_
      refine go_iconst (v := 3) dX4_inOrder_5 (by decide) ?_
      refine go_icmp_ge (tgt := 53) dX4_inOrder_6 (by decide) (fun c6 => absurd c6 (zge3 hkq)) (fun c6 => ?_)
      refine go_iconst (v := 0) dX4_inOrder_9 (by decide) ?_
      refine go_istore dX4_inOrder_10 (Nat.le_of_ble_eq_true rfl) ?_
      exact go_vl (inner 8 0 c rfl (by omega) ((nOu_s (μ 0) q m pr c).symm.trans hf)) ⟨rfl, rfl, rfl, rfl, rfl, trivial⟩
  refine go_iconst (v := 0) dX4_inOrder_0 (by decide) ?_
  refine go_istore_n dX4_inOrder_1 (Nat.le_of_ble_eq_true rfl) ?_
  refine go_iconst (v := 0) dX4_inOrder_2 (by decide) ?_
  refine go_istore_n dX4_inOrder_3 (Nat.le_of_ble_eq_true rfl) ?_
  exact go_vl (outer 3 0 0 rfl (by omega) hR) ⟨rfl, rfl, rfl, rfl, trivial⟩
/-! the order as a list -/
def oL (M : Nat → Int32) (pr m k : Nat) : List Nat := (List.range' k m).filter (fun j => decide (gM M j 1 = nI pr))
def oAt (l : List Nat) (q n : Nat) : Nat ⊕ Nat := match l[q - n]? with
  | some j => .inr j
  | none => .inl (n + l.length)
theorem nIn_list (M : Nat → Int32) (q pr : Nat) : ∀ (m k n : Nat), n ≤ q → nIn M q pr m k n = oAt (oL M pr m k) q n
  | 0, k, n, hn => by
    show Sum.inl n = _
    simp [oAt, oL]
  | m + 1, k, n, hn => by
    by_cases h : gM M k 1 = nI pr
    · have e : oL M pr (m + 1) k = k :: oL M pr m (k + 1) := by
        simp only [oL, List.range'_succ]
        rw [List.filter_cons_of_pos (by simpa using h)]
      by_cases h2 : n = q
      · rw [nIn_hit h h2, e]
        subst h2
        simp [oAt]
      · rw [nIn_go h h2, nIn_list M q pr m (k + 1) (n + 1) (by omega), e]
        unfold oAt
        rw [show q - n = (q - (n + 1)) + 1 by omega, List.getElem?_cons_succ, List.length_cons]
        cases (oL M pr m (k + 1))[q - (n + 1)]? with
        | some j => rfl
        | none => simp only []; congr 1; omega
    · have e : oL M pr (m + 1) k = oL M pr m (k + 1) := by
        simp only [oL, List.range'_succ]
        rw [List.filter_cons_of_neg (by simpa using h)]
      rw [nIn_no h, nIn_list M q pr m (k + 1) n hn, e]
def ordL (M : Nat → Int32) : List Nat := oL M 0 8 0 ++ (oL M 1 8 0 ++ oL M 2 8 0)
def oI (r : Option Nat) : Int32 := match r with
  | some j => nI j
  | none => -6
theorem nOu_list (M : Nat → Int32) (q m pr n : Nat) (hn : n ≤ q) : nOu M q (m + 1) pr n = (match (oL M pr 8 0)[q - n]? with
    | some j => nI j
    | none => nOu M q m (pr + 1) (n + (oL M pr 8 0).length)) := by
  rw [nOu_s, nIn_list M q pr 8 0 n hn]
  unfold oAt
  cases (oL M pr 8 0)[q - n]? <;> rfl
theorem nOrd_list (M : Nat → Int32) (q : Nat) : nOrd M q = oI (ordL M)[q]? := by
  unfold nOrd ordL
  rw [nOu_list M q 2 0 0 (Nat.zero_le _), Nat.sub_zero]
  cases h0 : (oL M 0 8 0)[q]? with
  | some j =>
    have hl := (List.getElem?_eq_some_iff.mp h0).1
    rw [List.getElem?_append_left hl, h0]
    rfl
  | none =>
    have hl : (oL M 0 8 0).length ≤ q := by simpa using h0
    rw [List.getElem?_append_right hl]
    simp only [Nat.zero_add]
    rw [nOu_list M q 1 1 _ hl]
    cases h1 : (oL M 1 8 0)[q - (oL M 0 8 0).length]? with
    | some j =>
      have hl1 := (List.getElem?_eq_some_iff.mp h1).1
      rw [List.getElem?_append_left hl1, h1]
      rfl
    | none =>
      have hl1 : (oL M 1 8 0).length ≤ q - (oL M 0 8 0).length := by simpa using h1
      rw [List.getElem?_append_right hl1]
      simp only []
      rw [nOu_list M q 0 2 _ (by omega), Nat.sub_sub]
      cases h2 : (oL M 2 8 0)[q - ((oL M 0 8 0).length + (oL M 1 8 0).length)]? <;> rfl
def nPv (M : Nat → Int32) : Prop := ∀ j, j < 8 → gM M j 1 = nI 0 ∨ gM M j 1 = nI 1 ∨ gM M j 1 = nI 2
theorem o_len (M : Nat → Int32) : ∀ (l : List Nat), (∀ j ∈ l, gM M j 1 = nI 0 ∨ gM M j 1 = nI 1 ∨ gM M j 1 = nI 2) → (l.filter (fun j => decide (gM M j 1 = nI 0))).length + ((l.filter (fun j => decide (gM M j 1 = nI 1))).length + (l.filter (fun j => decide (gM M j 1 = nI 2))).length) = l.length
  | [], _ => rfl
  | j :: l, h => by
    have ih := o_len M l (fun i hi => h i (List.mem_cons_of_mem _ hi))
    have n01 : ¬ nI 0 = nI 1 := by decide
    have n02 : ¬ nI 0 = nI 2 := by decide
    have n12 : ¬ nI 1 = nI 2 := by decide
    rcases h j List.mem_cons_self with e | e | e <;> simp [e, n01, n02, n12, Ne.symm n01, Ne.symm n02, Ne.symm n12] <;> omega
theorem ordL_len {M : Nat → Int32} (h : nPv M) : (ordL M).length = 8 := by
  unfold ordL oL
  rw [List.length_append, List.length_append]
  have := o_len M (List.range' 0 8) (fun j hj => h j (by have := List.mem_range'_1.mp hj; omega))
  rw [List.length_range'] at this
  exact this
theorem ordL_mem {M : Nat → Int32} {j : Nat} (h : j ∈ ordL M) : j < 8 := by
  unfold ordL oL at h
  simp only [List.mem_append, List.mem_filter, List.mem_range'_1] at h
  omega
theorem nOrd_ok {M : Nat → Int32} (h : nPv M) {q : Nat} (hq : q < 8) : ∃ j, j < 8 ∧ (ordL M)[q]? = some j ∧ nOrd M q = nI j := by
  have hl : q < (ordL M).length := by rw [ordL_len h]; exact hq
  refine ⟨(ordL M)[q], ordL_mem (List.getElem_mem hl), List.getElem?_eq_getElem hl, ?_⟩
  rw [nOrd_list, List.getElem?_eq_getElem hl]
  rfl
