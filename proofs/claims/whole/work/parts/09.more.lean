/-! helpers for the walks -/
def zcat : List Value → Prop
  | [] => True
  | v :: l => v.category = 1 ∧ zcat l
theorem zcat_mem : ∀ {As : List Value}, zcat As → ∀ v ∈ As, v.category = 1
  | [], _, v, h => by cases h
  | w :: l, hc, v, h => by
    rcases List.mem_cons.mp h with h | h
    · subst h; exact hc.1
    · exact zcat_mem hc.2 v h
theorem Con.go {γ : zG} {l : Launch} {n C S : Nat} {M : zM} {As : List Value} {h : zH} {r : Option Value} {h' : zH} (hy : plainName M.1.cls = true) (hlen : (lg_sl As).length ≤ M.2.2.1) (hcat : zcat As)
    (hgo : Go (γ, l, n, (C, S), M, zF γ C S r h') 0 0 0 (zent As M.2.2.1) [] h) : Con γ l n C S M As h r h' := Con.of hy hlen (zcat_mem hcat) hgo
section ZC
variable {E : zE} {cs sl pc : Nat} {lv : zLv} {st : List Value} {h : zH}
theorem go_callVi {idx np n' b ci : Nat} {M : zM} {As rest fs : List Value} {v : Int32} {h1 : zH} {q : vw_C} (hd : decode (zb E) pc = .ok (.invokevirtual idx, 3)) (hm : zMo M np)
    (hw : Cond.methodLink (zo E) idx M.1 ∈ zT ∧ Cond.instanceMethod M.1 ∈ zT ∧ Cond.selects M.1.cls M.1 M.1 ∈ zT) (hc : zcl[ci]? = some q ∧ q.1 = M.1.cls)
    (hcon : Con (zg E) (zl E) n' 0 0 M (.ref b :: As) h (some (.int v)) h1) (hh : h.1 b = some (.inr (ci, fs))) (hst : st = As.reverse ++ .ref b :: rest) (hnp : As.length = np) (hn : n' + 1 ≤ zn E) (hcs : cs ≤ zcc E) (hsl : sl ≤ zcs E) (hrs : (rest.map fun v => v.category).sum ≤ 8)
    (kk : Go E cs sl (pc + 3) lv (.int v :: rest) h1) : Go E cs sl pc lv st h := go_callV hd hm hw hc hcon hh hst hnp hn hcs hsl hrs kk
theorem go_callVv {idx np n' b ci : Nat} {M : zM} {As rest fs : List Value} {h1 : zH} {q : vw_C} (hd : decode (zb E) pc = .ok (.invokevirtual idx, 3)) (hm : zMo M np)
    (hw : Cond.methodLink (zo E) idx M.1 ∈ zT ∧ Cond.instanceMethod M.1 ∈ zT ∧ Cond.selects M.1.cls M.1 M.1 ∈ zT) (hc : zcl[ci]? = some q ∧ q.1 = M.1.cls)
    (hcon : Con (zg E) (zl E) n' 0 0 M (.ref b :: As) h none h1) (hh : h.1 b = some (.inr (ci, fs))) (hst : st = As.reverse ++ .ref b :: rest) (hnp : As.length = np) (hn : n' + 1 ≤ zn E) (hcs : cs ≤ zcc E) (hsl : sl ≤ zcs E) (hrs : (rest.map fun v => v.category).sum ≤ 8)
    (kk : Go E cs sl (pc + 3) lv rest h1) : Go E cs sl pc lv st h := go_callV hd hm hw hc hcon hh hst hnp hn hcs hsl hrs kk
theorem go_callSi {idx np n' : Nat} {M : zM} {As rest : List Value} {v : Int32} {h1 : zH} (hd : decode (zb E) pc = .ok (.invokestatic idx, 3)) (hm : zMo M np)
    (hw : Cond.methodLink (zo E) idx M.1 ∈ zT ∧ Cond.static M.1 ∈ zT)
    (hcon : Con (zg E) (zl E) n' 0 0 M As h (some (.int v)) h1) (hst : st = As.reverse ++ rest) (hnp : As.length = np) (hn : n' + 1 ≤ zn E) (hcs : cs ≤ zcc E) (hsl : sl ≤ zcs E) (hrs : (rest.map fun v => v.category).sum ≤ 8)
    (kk : Go E cs sl (pc + 3) lv (.int v :: rest) h1) : Go E cs sl pc lv st h := go_callS hd hm hw hcon hst hnp hn hcs hsl hrs kk
theorem go_callIv {idx np n' C' S' b : Nat} {M : zM} {As rest : List Value} {h1 : zH} (hd : decode (zb E) pc = .ok (.invokespecial idx, 3)) (hm : zMo M np)
    (hw : Cond.methodLink (zo E) idx M.1 ∈ zT ∧ Cond.instanceMethod M.1 ∈ zT) (hi : M.1.name = "<init>" ∧ M.2.2.2 = none)
    (hcon : Con (zg E) (zl E) n' C' S' M (.ref b :: As) h none h1) (hst : st = As.reverse ++ .ref b :: rest) (hnp : As.length = np) (hn : n' + 1 ≤ zn E) (hcs : cs + C' ≤ zcc E) (hsl : sl + S' ≤ zcs E) (hrs : (rest.map fun v => v.category).sum ≤ 8)
    (kk : Go E (cs + C') (sl + S') (pc + 3) lv rest h1) : Go E cs sl pc lv st h := go_callI hd hm hw hi hcon hst hnp hn hcs hsl hrs kk
end ZC
/-- a yes or a no -/
def zi (p : Prop) [Decidable p] : Int32 := if p then 1 else 0
theorem zi_0 {p : Prop} [Decidable p] : zi p = 0 ↔ ¬ p := by
  unfold zi
  by_cases h : p <;> simp [h]
theorem zi_t {p : Prop} [Decidable p] (h : p) : zi p = 1 := by simp [zi, h]
theorem zi_f {p : Prop} [Decidable p] (h : ¬ p) : zi p = 0 := by simp [zi, h]
theorem zi_n {p : Prop} [Decidable p] : narrow .boolean (.int (zi p)) = .int (zi p) := by
  unfold zi
  by_cases h : p <;> simp [h] <;> rfl
theorem zi_a {p : Prop} [Decidable p] : zi p &&& 1 = zi p := by
  unfold zi
  by_cases h : p <;> simp [h] <;> rfl
theorem zi_iff {p q : Prop} [Decidable p] [Decidable q] (h : p ↔ q) : zi p = zi q := by
  unfold zi
  by_cases hp : p
  · simp [hp, h.mp hp]
  · have hq : ¬ q := fun x => hp (h.mpr x)
    simp [hp, hq]
theorem zrt {p : Prop} [Decidable p] (h : p) : some (Value.int (zi p)) = some (Value.int 1) := by rw [zi_t h]
theorem zrf {p : Prop} [Decidable p] (h : ¬ p) : some (Value.int (zi p)) = some (Value.int 0) := by rw [zi_f h]
/-! a block of cells -/
def zIs (h : zH) (b n : Nat) (c : Nat → va_E) : Prop := ∀ k, k < n → h.1 (b + k) = some (c k)
def zput (h : zH) (b n : Nat) (c : Nat → va_E) : zH := (fun x => if b ≤ x ∧ x < b + n then some (c (x - b)) else h.1 x, h.2)
theorem zput_is (h : zH) (b n : Nat) (c : Nat → va_E) : zIs (zput h b n c) b n c := fun k hk => by
  have h1 : b ≤ b + k ∧ b + k < b + n := by omega
  simp [zput, h1, hk]
theorem zput_out {h : zH} {b n x : Nat} {c : Nat → va_E} (hx : x < b ∨ b + n ≤ x) : (zput h b n c).1 x = h.1 x := by
  have h1 : ¬ (b ≤ x ∧ x < b + n) := by omega
  show (if b ≤ x ∧ x < b + n then some (c (x - b)) else h.1 x) = h.1 x
  rw [if_neg h1]
theorem zput_zput (h : zH) (b n : Nat) (c c' : Nat → va_E) : zput (zput h b n c) b n c' = zput h b n c' := by
  refine Prod.ext ?_ rfl
  funext x
  show (if b ≤ x ∧ x < b + n then some (c' (x - b)) else (zput h b n c).1 x) = (if b ≤ x ∧ x < b + n then some (c' (x - b)) else h.1 x)
  by_cases h1 : b ≤ x ∧ x < b + n
  · rw [if_pos h1, if_pos h1]
  · rw [if_neg h1, if_neg h1]
    exact zput_out (by omega)
theorem zput_id {h : zH} {b n : Nat} {c : Nat → va_E} (hs : zIs h b n c) : zput h b n c = h := by
  refine Prod.ext ?_ rfl
  funext x
  show (if b ≤ x ∧ x < b + n then some (c (x - b)) else h.1 x) = h.1 x
  by_cases h1 : b ≤ x ∧ x < b + n
  · rw [if_pos h1, ← hs (x - b) (by omega)]
    exact congrArg h.1 (show b + (x - b) = x by omega)
  · rw [if_neg h1]
theorem zput_congr {h : zH} {b n : Nat} {c c' : Nat → va_E} (hc : ∀ k, k < n → c k = c' k) : zput h b n c = zput h b n c' := by
  refine Prod.ext ?_ rfl
  funext x
  show (if b ≤ x ∧ x < b + n then some (c (x - b)) else h.1 x) = (if b ≤ x ∧ x < b + n then some (c' (x - b)) else h.1 x)
  by_cases h1 : b ≤ x ∧ x < b + n
  · rw [if_pos h1, if_pos h1, hc (x - b) (by omega)]
  · rw [if_neg h1, if_neg h1]
theorem zu_zput {h : zH} {b n k a : Nat} {c c' : Nat → va_E} {e : va_E} (hs : zIs h b n c) (hk : k < n) (ha : a = b + k) (h1 : ∀ j, j < n → j ≠ k → c' j = c j) (h2 : c' k = e) : zu h a e = zput h b n c' := by
  subst ha
  refine Prod.ext ?_ rfl
  funext x
  show (if x = b + k then some e else h.1 x) = (if b ≤ x ∧ x < b + n then some (c' (x - b)) else h.1 x)
  by_cases hx : x = b + k
  · subst hx
    rw [if_pos rfl, if_pos (by omega), show b + k - b = k by omega, h2]
  · rw [if_neg hx]
    by_cases hb : b ≤ x ∧ x < b + n
    · rw [if_pos hb, h1 (x - b) (by omega) (by omega), ← hs (x - b) (by omega)]
      exact (congrArg h.1 (show b + (x - b) = x by omega)).symm
    · rw [if_neg hb]
theorem zIs.out {h : zH} {b n b2 n2 : Nat} {c c2 : Nat → va_E} (hs : zIs h b n c) (hd : b + n ≤ b2 ∨ b2 + n2 ≤ b) : zIs (zput h b2 n2 c2) b n c := fun k hk => by
  rw [zput_out (by omega)]
  exact hs k hk
theorem zIs.zu {h : zH} {b n a : Nat} {c : Nat → va_E} {e : va_E} (hs : zIs h b n c) (hd : a < b ∨ b + n ≤ a) : zIs (zu h a e) b n c := fun k hk => by
  rw [zu_n (by omega)]
  exact hs k hk
/-- numbers -/
theorem zrem_n {a : Nat} (ha : a < 2 ^ 31) : nI a - nI a / 16 * 16 = nI (a % 16) := pk_rem (d := 16) ha (by decide) (by decide)
theorem zix {i : Int32} {n j : Nat} (h : i = nI j) (hj : j < n) (hn : n < 2 ^ 31) : vp_in i n ∧ i.toNatClampNeg = j := by
  subst h
  exact ⟨vp_in_nI hj hn, nI_clamp (by omega)⟩
def zB (x : Int32) : Prop := x = 0 ∨ x = 1
theorem znb {x : Int32} (h : zB x) : narrow .boolean (.int x) = .int x := by rcases h with h | h <;> subst h <;> rfl
theorem zfb {x : Int32} (h : zB x) : fits .boolean (.int x) = true := by rcases h with h | h <;> subst h <;> rfl
theorem zab {x : Int32} (h : zB x) : x &&& 1 = x := by rcases h with h | h <;> subst h <;> rfl
theorem zi_B {p : Prop} [Decidable p] : zB (zi p) := by
  unfold zi zB
  by_cases h : p <;> simp [h]
theorem zle {a b : Int32} : a ≤ b ↔ ¬ b < a := Int32.not_lt.symm
theorem go_vl {E : zE} {cs sl pc : Nat} {lv lv' : zLv} {st : List Value} {h : zH} (k : Go E cs sl pc lv' st h) (hs : zsub lv 0 lv') : Go E cs sl pc lv st h := go_lv hs k
