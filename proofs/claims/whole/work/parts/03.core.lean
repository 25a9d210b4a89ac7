/-! the core: abstract heaps, walks over them, contracts over them -/
/-- the words of the tables that hold in every state of the run -/
def zT : List Cond := lw_tbl.filter goodWord
theorem zT_mem {w : Cond} (i : Nat) (h : lw_tbl[i]? = some w) (hg : goodWord w = true) : w ∈ zT := List.mem_filter.mpr ⟨List.mem_of_getElem? h, hg⟩
theorem zT_good {w : Cond} (h : w ∈ zT) : (w.onTables && w.keeps) = true ∨ ∃ ty, w = .arrayClass ty := good_of_word (List.mem_filter.mp h).2
abbrev zH : Type := (Nat → Option va_E) × Nat
/-- class numbers and slots; array classes; the heap at the law's entry; where the static tables lie -/
abbrev zG : Type := va_G × (Nat → ClassId) × Heap × (Nat → Nat)
def zcl : List vw_C := [(RX0, TX0, 5), (RX1, TX1, 10), (RX2, TX2, 10), (RX3, TX3, 3), (RX4, TX4, 7)]
def zty (γ : zG) : List (ClassId × FieldType) := [(γ.2.1 0, .int), (γ.2.1 1, .boolean), (γ.2.1 2, .object RX1), (γ.2.1 3, .object RX2)]
def zN (γ : zG) : Nat := γ.2.2.1.size
def zsn : Nat → String := fun k => match k with
  | 0 => "CLASS_CURRENT_FROM"
  | 1 => "CLASS_CURRENT_TO"
  | _ => "CLASS_MAXIMUM"
def zsv : Nat → Nat → Int32 := fun k j => match k with
  | 0 => (match j with | 0 => 0 | 1 => 9 | 2 => 17 | 3 => 26 | _ => 36)
  | 1 => (match j with | 0 => 4 | 1 => 12 | 2 => 20 | 3 => 30 | _ => 44)
  | _ => (match j with | 0 => 154 | 1 => 40 | 2 => 70 | 3 => 154 | _ => 300)
def zA (γ : zG) : Nat → Prop := fun q => zN γ ≤ q
def zSt (γ : zG) (U : State) : Prop := ∀ k, k < 3 → va_Z RX3 (zsn k) "[I" (.ref (γ.2.2.2 k)) (zA γ) U γ.2.2.1 ∧ va_T .int (γ.2.2.2 k) 5 (fun j => .int (zsv k j)) (zA γ) U γ.2.2.1
def zK (γ : zG) (U : State) : Prop := va_K γ.1 zcl (zty γ) U ∧ zSt γ U ∧ va_AO RX1 U ∧ va_AO RX2 U
theorem zK.moved {γ : zG} {u U : State} (hvm : u.vm.Alike U.vm) (h : zK γ u) : zK γ U :=
  ⟨va_K.moved hvm h.1, fun k hk => ⟨va_Z.moved hvm (h.2.1 k hk).1, va_T.moved hvm (h.2.1 k hk).2⟩, h.2.2.1.moved hvm, h.2.2.2.moved hvm⟩
/-- the heap H is what h says -/
def zR (γ : zG) (h : zH) (H : Heap) : Prop := h.2 = H.size ∧ zN γ ≤ H.size ∧ (∀ (a : Nat) (e : va_E), h.1 a = some e → zN γ ≤ a ∧ va_at γ.1 zcl (a, e) H) ∧ ∀ q : Nat, q < zN γ → H[q]? = γ.2.2.1[q]?
/-- one cell changed; one cell more -/
def zu (h : zH) (a : Nat) (e : va_E) : zH := (fun x => if x = a then some e else h.1 x, h.2)
def zp (h : zH) (e : va_E) : zH := (fun x => if x = h.2 then some e else h.1 x, h.2 + 1)
theorem zu_s (h : zH) (a : Nat) (e : va_E) : (zu h a e).1 a = some e := by simp [zu]
theorem zu_n {h : zH} {a b : Nat} {e : va_E} (hn : b ≠ a) : (zu h a e).1 b = h.1 b := by simp [zu, hn]
theorem zu_zu (h : zH) (a : Nat) (e f : va_E) : zu (zu h a e) a f = zu h a f := by
  unfold zu
  congr 1
  funext x
  by_cases hx : x = a <;> simp [hx]
theorem zR.lt {γ : zG} {h : zH} {H : Heap} (hR : zR γ h H) {a : Nat} {e : va_E} (ha : h.1 a = some e) : a < H.size := (hR.2.2.1 a e ha).2.lt
theorem zR.put {γ : zG} {h : zH} {H H1 : Heap} (hR : zR γ h H) {a : Nat} {e0 e : va_E} (ha : h.1 a = some e0) (he : va_at γ.1 zcl (a, e) H1) (z : H1.size = H.size) (oq : ∀ q : Nat, q ≠ a → H1[q]? = H[q]?) : zR γ (zu h a e) H1 := by
  refine ⟨hR.1.trans z.symm, by rw [z]; exact hR.2.1, fun b f hb => ?_, fun q hq => ?_⟩
  · by_cases hba : b = a
    · subst hba
      rw [zu_s] at hb
      cases hb
      exact ⟨(hR.2.2.1 b e0 ha).1, he⟩
    · rw [zu_n hba] at hb
      exact ⟨(hR.2.2.1 b f hb).1, (hR.2.2.1 b f hb).2.kept (oq b hba)⟩
  · have h1 := (hR.2.2.1 a e0 ha).1
    rw [oq q (by omega)]
    exact hR.2.2.2 q hq
theorem zR.push {γ : zG} {h : zH} {H H1 : Heap} (hR : zR γ h H) {e : va_E} (he : va_at γ.1 zcl (H.size, e) H1) (z : H1.size = H.size + 1) (oq : ∀ q : Nat, q < H.size → H1[q]? = H[q]?) : zR γ (zp h e) H1 := by
  refine ⟨by show h.2 + 1 = _; rw [hR.1, z], by rw [z]; have := hR.2.1; omega, fun b f hb => ?_, fun q hq => ?_⟩
  · by_cases hba : b = h.2
    · have hb' : (zp h e).1 b = some e := by simp [zp, hba]
      rw [hb'] at hb
      cases hb
      rw [hba, hR.1]
      exact ⟨hR.2.1, he⟩
    · have hb' : (zp h e).1 b = h.1 b := by simp [zp, hba]
      rw [hb'] at hb
      exact ⟨(hR.2.2.1 b f hb).1, (hR.2.2.1 b f hb).2.kept (oq b (hR.lt hb))⟩
  · have h1 := hR.2.1
    rw [oq q (by omega)]
    exact hR.2.2.2 q hq
/-! locals by their places; every value here takes one slot -/
abbrev zLv : Type := List (Option Value)
def zat : zLv → Nat → Option Value
  | [], _ => none
  | v :: _, 0 => v
  | _ :: l, i + 1 => zat l i
def zloc (ls : Array Slot) (nL : Nat) (lv : zLv) : Prop := ls.size = nL ∧ lv_wf ls ∧ ∀ (j : Nat) (w : Value), zat lv j = some w → ls[j]? = some (.val w) ∧ w.category = 1
def zpr (lv : zLv) : List (Nat × Value) := (List.range lv.length).filterMap fun j => (zat lv j).map fun w => (j, w)
theorem zat_lt : ∀ {lv : zLv} {j : Nat} {w : Value}, zat lv j = some w → j < lv.length
  | [], j, w, h => by cases h
  | _ :: l, 0, w, h => by simp
  | _ :: l, j + 1, w, h => by
    have := zat_lt (lv := l) (j := j) h
    simp; omega
theorem zpr_mem {lv : zLv} {j : Nat} {w : Value} : (j, w) ∈ zpr lv ↔ zat lv j = some w := by
  constructor
  · intro h
    obtain ⟨i, -, h⟩ := List.mem_filterMap.mp h
    cases hi : zat lv i with
    | none => rw [hi] at h; cases h
    | some v =>
      rw [hi] at h
      cases h
      exact hi
  · intro h
    exact List.mem_filterMap.mpr ⟨j, List.mem_range.mpr (zat_lt h), by rw [h]; rfl⟩
theorem zloc.has {ls : Array Slot} {nL : Nat} {lv : zLv} (h : zloc ls nL lv) : lv_has ls nL (zpr lv) := ⟨h.1, h.2.1, fun q hq => (h.2.2 q.1 q.2 (zpr_mem.mp hq)).1⟩
theorem zloc.at {ls : Array Slot} {nL : Nat} {lv : zLv} (h : zloc ls nL lv) {i : Nat} {v : Value} (hv : zat lv i = some v) : ls[i]? = some (.val v) := (h.2.2 i v hv).1
theorem zat_set : ∀ {lv : zLv} {i j : Nat} {v w : Value}, zat (lv.set i (some v)) j = some w → (j = i ∧ w = v) ∨ (j ≠ i ∧ zat lv j = some w)
  | [], i, j, v, w, h => by cases h
  | _ :: l, 0, 0, v, w, h => by
    have : some v = some w := h
    cases this
    exact Or.inl ⟨rfl, rfl⟩
  | _ :: l, 0, j + 1, v, w, h => Or.inr ⟨by omega, h⟩
  | _ :: l, i + 1, 0, v, w, h => Or.inr ⟨by omega, h⟩
  | _ :: l, i + 1, j + 1, v, w, h => by
    rcases zat_set (lv := l) (i := i) (j := j) h with ⟨h1, h2⟩ | ⟨h1, h2⟩
    · exact Or.inl ⟨by omega, h2⟩
    · exact Or.inr ⟨by omega, h2⟩
theorem zloc.set {ls ls' : Array Slot} {nL : Nat} {lv : zLv} {i : Nat} {v : Value} (h : zloc ls nL lv) (hc : v.category = 1) (h' : lv_has ls' nL ((i, v) :: (zpr lv).filter (fun q => !(q.1 == i) && !(q.1 + 1 == i && q.2.category == 2)))) : zloc ls' nL (lv.set i (some v)) := by
  refine ⟨h'.1, h'.2.1, fun j w hj => ?_⟩
  rcases zat_set hj with ⟨h1, h2⟩ | ⟨h1, h2⟩
  · subst h1; subst h2
    exact ⟨h'.2.2 _ List.mem_cons_self, hc⟩
  · have hw := (h.2.2 j w h2).2
    refine ⟨h'.2.2 (j, w) (List.mem_cons_of_mem _ (List.mem_filter.mpr ⟨zpr_mem.mpr h2, ?_⟩)), hw⟩
    simp [h1, hw]
def zent (As : List Value) (n : Nat) : zLv := As.map some ++ List.replicate (n - As.length) none
theorem zat_rep (n : Nat) : ∀ j, zat (List.replicate n none) j = none := by
  induction n with
  | zero => intro j; rfl
  | succ n ih =>
    intro j
    cases j with
    | zero => rfl
    | succ j => exact ih j
theorem zent_args : ∀ (As : List Value) (k n j : Nat) (w : Value), (∀ v ∈ As, v.category = 1) → zat (As.map some ++ List.replicate n none) j = some w → (k + j, w) ∈ lv_args k As ∧ w.category = 1
  | [], k, n, j, w, _, h => by
    rw [List.map_nil, List.nil_append, zat_rep] at h
    cases h
  | v :: As, k, n, 0, w, hc, h => by
    have e : some v = some w := h
    cases e
    exact ⟨by simp [lv_args], hc v List.mem_cons_self⟩
  | v :: As, k, n, j + 1, w, hc, h => by
    have hv := hc v List.mem_cons_self
    have := zent_args As (k + 1) n j w (fun u hu => hc u (List.mem_cons_of_mem _ hu)) h
    refine ⟨?_, this.2⟩
    simp only [lv_args, hv]
    refine List.mem_cons_of_mem _ ?_
    rw [show k + (j + 1) = k + 1 + j by omega]
    exact this.1
theorem zloc_entry {ls : Array Slot} {nL : Nat} {As : List Value} (hc : ∀ v ∈ As, v.category = 1) (h : lv_has ls nL (lv_args 0 As)) : zloc ls nL (zent As nL) :=
  ⟨h.1, h.2.1, fun j w hj => by
    obtain ⟨h1, h2⟩ := zent_args As 0 _ j w hc hj
    rw [Nat.zero_add] at h1
    exact ⟨h.2.2 _ h1, h2⟩⟩
/-- fewer values -/
def zsub (lv : zLv) : Nat → zLv → Prop
  | _, [] => True
  | i, none :: l => zsub lv (i + 1) l
  | i, some v :: l => zat lv i = some v ∧ zsub lv (i + 1) l
theorem zsub_at {lv : zLv} : ∀ {l : zLv} {i j : Nat} {w : Value}, zsub lv i l → zat l j = some w → zat lv (i + j) = some w
  | [], i, j, w, _, h => by cases h
  | none :: l, i, 0, w, _, h => by cases h
  | some v :: l, i, 0, w, hs, h => by
    have e : some v = some w := h
    cases e
    exact hs.1
  | none :: l, i, j + 1, w, hs, h => by
    rw [show i + (j + 1) = i + 1 + j by omega]
    exact zsub_at (l := l) hs h
  | some v :: l, i, j + 1, w, hs, h => by
    rw [show i + (j + 1) = i + 1 + j by omega]
    exact zsub_at (l := l) hs.2 h
theorem zloc.sub {ls : Array Slot} {nL : Nat} {lv lv' : zLv} (h : zloc ls nL lv) (hs : zsub lv 0 lv') : zloc ls nL lv' :=
  ⟨h.1, h.2.1, fun j w hj => h.2.2 j w (by have := zsub_at hs hj; rwa [Nat.zero_add] at this)⟩
/-- a method: its name, its code, its locals, its answer's type -/
abbrev zM : Type := MethodName × ByteArray × Nat × Option FieldType
/-- a walk's surroundings: the world, the launch, the level, the cells and slots that it may make in all, the method, the end -/
abbrev zE : Type := zG × Launch × Nat × (Nat × Nat) × zM × (State → Array Value → List Frame → State → Prop)
abbrev zg (E : zE) : zG := E.1
abbrev zl (E : zE) : Launch := E.2.1
abbrev zn (E : zE) : Nat := E.2.2.1
abbrev zcc (E : zE) : Nat := E.2.2.2.1.1
abbrev zcs (E : zE) : Nat := E.2.2.2.1.2
abbrev zm (E : zE) : zM := E.2.2.2.2.1
abbrev zf (E : zE) : State → Array Value → List Frame → State → Prop := E.2.2.2.2.2
abbrev zb (E : zE) : ByteArray := (zm E).2.1
abbrev zo (E : zE) : String := (zm E).1.cls
def zC (E : zE) (p : Program) (R : Room) (s : State) (m : MethodId) (args : Array Value) (meth : Method) (c : Code) : Prop :=
  p.tables.exec = Jvm.exec ∧ c.code = zb E ∧ meth.sig.returnType = (zm E).2.2.2 ∧ meth.locks = false ∧ c.maxLocals = (zm E).2.2.1 ∧ s.vm.findClass (zo E) = some m.cls ∧ ((zm E).1.name = "<init>" → meth.name = "<init>") ∧
  (∀ w ∈ zT, w.before args s = true) ∧ zK (zg E) s ∧ zN (zg E) ≤ s.heap.size ∧ zn E ≤ R.frames ∧ 36 * zn E ≤ R.locals ∧ zcc E ≤ R.cells ∧ zcs E ≤ R.slots
def Go (E : zE) (cs sl pc : Nat) (lv : zLv) (st : List Value) (h : zH) : Prop :=
  ∀ (p : Program) (e : Env) (R : Room) (s : State) (m : MethodId) (args : Array Value) (below : List Frame) (meth : Method) (c : Code) (H : Heap) (locs : List Loc) (ls : Array Slot),
    zC E p R s m args meth c → zR (zg E) h H → (∀ q ∈ locs, zN (zg E) ≤ q.base) → zloc ls (zm E).2.2.1 lv →
    W p (zl E) e R s m args below meth c H locs cs sl (zf E s args below) (F0 m pc ls st)
/-- a contract: from the arguments and the heap h it answers r and leaves h' -/
def zP (γ : zG) (As : List Value) (h : zH) : Array Value → State → Prop := fun v U => v = As.toArray ∧ zR γ h U.heap ∧ zK γ U
def zQ (γ : zG) (r : Option Value) (h' : zH) : Array Value → State → Outcome → State → Prop := fun _ _ o t => o = .returned r ∧ zR γ h' t.heap
def zF (γ : zG) (C S : Nat) (r : Option Value) (h' : zH) : State → Array Value → List Frame → State → Prop := fun s args below => MQ below (zQ γ r h') args s C S (zA γ)
def zrm (n C S : Nat) : Room := { frames := n, cells := C, slots := S, locals := 36 * n }
def Con (γ : zG) (l : Launch) (n C S : Nat) (M : zM) (As : List Value) (h : zH) (r : Option Value) (h' : zH) : Prop :=
  Met l M.1 (.code M.1 M.2.1 M.2.2.1 M.2.2.2 :: zT) (zrm n C S) (zP γ As h) (zQ γ r h') C S (zA γ)
set_option maxHeartbeats 1000000 in
theorem Con.of {γ : zG} {l : Launch} {n C S : Nat} {M : zM} {As : List Value} {h : zH} {r : Option Value} {h' : zH} (hy : plainName M.1.cls = true) (hlen : (lg_sl As).length ≤ M.2.2.1)
    (hcat : ∀ v ∈ As, v.category = 1) (hgo : Go (γ, l, n, (C, S), M, zF γ C S r h') 0 0 0 (zent As M.2.2.1) [] h) : Con γ l n C S M As h r h' := by
  refine Met.ofW (cc := M.2.1) (maxL := M.2.2.1) (ret := M.2.2.2) hy rfl ?_
  intro p e s m args below meth c s₁ B hml hv
  obtain ⟨rfl, hR, hK⟩ := hv
  have hts := atoms_spec (ws := .code M.1 M.2.1 M.2.2.1 M.2.2.2 :: zT) B.pre
  have hown : s.vm.findClass M.1.cls = some m.cls := findClass_of_methodNamed B.named
  have hl := lv_entry As (n := M.2.2.1) hlen
  rw [lg_entry_eq]
  have hnm : meth.name = M.1.name := (name_of_methodNamed B.named B.method).1
  exact hgo p e (headSpec (.code M.1 M.2.1 M.2.2.1 M.2.2.2 :: zT) (zrm n C S)).room s m As.toArray below meth c s.heap [] _
    ⟨B.exec, B.bytes, B.returns, B.notSynchronized, hml, hown, fun hh => hnm.trans hh, fun w hw => hts w (List.mem_cons_of_mem _ hw), hK, hR.2.1, Nat.le_refl _, Nat.le_refl _, Nat.le_refl _, Nat.le_refl _⟩ hR (fun q hq => by cases hq) (zloc_entry hcat hl)
