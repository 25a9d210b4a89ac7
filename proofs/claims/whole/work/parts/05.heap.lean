/-! rows: fields, arrays, objects, statics -/
def zct : Nat → Nat → FieldType := fun ci => match ci with
  | 0 => tyX0
  | 1 => tyX1
  | 2 => tyX2
  | 3 => tyX3
  | _ => tyX4
theorem zws0 : ∀ w ∈ u_ws RX0 TX0 5, w ∈ zT := by decide +kernel
theorem zws1 : ∀ w ∈ u_ws RX1 TX1 10, w ∈ zT := by decide +kernel
theorem zws2 : ∀ w ∈ u_ws RX2 TX2 10, w ∈ zT := by decide +kernel
theorem zws3 : ∀ w ∈ u_ws RX3 TX3 3, w ∈ zT := by decide +kernel
theorem zws4 : ∀ w ∈ u_ws RX4 TX4 7, w ∈ zT := by decide +kernel
theorem zcl_ok {ci : Nat} {q : vw_C} (h : zcl[ci]? = some q) : (∀ w ∈ u_ws q.1 q.2.1 q.2.2, w ∈ zT) ∧ (∀ a, a < q.2.2 → ∀ b, b < q.2.2 → a ≠ b → (q.2.1 a).2.1 ≠ (q.2.1 b).2.1) ∧ ∀ k, k < q.2.2 → parseFieldDescriptor (q.2.1 k).2.2.1 = some (zct ci k) := by
  match ci, h with
  | 0, h => cases h; exact ⟨zws0, nmX0, tyX0_ok⟩
  | 1, h => cases h; exact ⟨zws1, nmX1, tyX1_ok⟩
  | 2, h => cases h; exact ⟨zws2, nmX2, tyX2_ok⟩
  | 3, h => cases h; exact ⟨zws3, nmX3, tyX3_ok⟩
  | 4, h => cases h; exact ⟨zws4, nmX4, tyX4_ok⟩
  | n + 5, h => simp [zcl] at h
/-- the entry idx of own's pool is field k of class ci; final or not -/
def zFl (own : String) (idx ci k : Nat) : Prop := ∃ (C : String) (T : u_T) (N : Nat), zcl[ci]? = some (C, T, N) ∧ k < N ∧ Cond.fieldLink own idx (T k).1 (T k).2.1 (T k).2.2.1 ∈ zT
def zFn (ci k : Nat) (b : Bool) : Prop := ∃ (C : String) (T : u_T) (N : Nat), zcl[ci]? = some (C, T, N) ∧ (T k).2.2.2 = b ∧ (T k).1 = C
section ZH
variable {E : zE} {cs sl pc : Nat} {lv : zLv} {st : List Value} {h : zH}
theorem go_getf {idx ci k a : Nat} {fs : List Value} {v : Value} (hd : decode (zb E) pc = .ok (.getfield idx, 3)) (hf : zFl (zo E) idx ci k) (hh : h.1 a = some (.inr (ci, fs))) (hv : fs[k]? = some v) (kk : Go E cs sl (pc + 3) lv (v :: st) h) : Go E cs sl pc lv (.ref a :: st) h := by
  intro p e R s m args below meth c H locs ls hC hR hL hl
  obtain ⟨C, T, N, hc, hk, hlk⟩ := hf
  obtain ⟨hin, hnm, hty⟩ := zcl_ok hc
  have hP : va_P (zg E).1 zcl [(a, .inr (ci, fs))] H := fun j q hq => by
    match j, hq with
    | 0, hq => cases hq; exact (hR.2.2.1 a _ hh).2
    | j + 1, hq => simp at hq
  exact va_get (D := (zg E).1) (Ts := zT) hC.1 hC.2.1 hC.2.2.2.2.2.2.2.1 hin hC.2.2.2.2.2.1 hC.2.2.2.2.2.2.2.2.1.1 hP 0 rfl hc k hk (hC.2.2.2.2.2.2.2.1 _ hlk) (fun _ x => x) hv hd (kk p e R s m args below meth c H locs ls hC hR hL hl)
theorem zlocs {γ : zG} {locs L : List Loc} (hL : ∀ q ∈ locs, zN γ ≤ q.base) (h : ∀ q ∈ L, zN γ ≤ q.base) : ∀ q ∈ locs ++ L, zN γ ≤ q.base := fun q hq => (List.mem_append.mp hq).elim (hL q) (h q)
theorem zloc1 {γ : zG} {locs : List Loc} {a k : Nat} (hL : ∀ q ∈ locs, zN γ ≤ q.base) (h : zN γ ≤ a) : ∀ q ∈ locs ++ [(⟨a, k⟩ : Loc)], zN γ ≤ q.base := zlocs hL (fun q hq => by rw [List.mem_singleton.mp hq]; exact h)
theorem go_putf {idx ci k a : Nat} {fs : List Value} {v : Value} (hd : decode (zb E) pc = .ok (.putfield idx, 3)) (hf : zFl (zo E) idx ci k) (hfin : zFn ci k false) (hh : h.1 a = some (.inr (ci, fs))) (hn : narrow (zct ci k) v = v) (hfit : fits (zct ci k) v = true) (hlen : k < fs.length) (kk : Go E cs sl (pc + 3) lv st (zu h a (.inr (ci, fs.set k v)))) : Go E cs sl pc lv (v :: .ref a :: st) h := by
  intro p e R s m args below meth c H locs ls hC hR hL hl
  obtain ⟨C, T, N, hc, hk, hlk⟩ := hf
  obtain ⟨C', T', N', hc', hfin, hdecl⟩ := hfin
  cases hc.symm.trans hc'
  obtain ⟨hin, hnm, hty⟩ := zcl_ok hc
  have hts := hC.2.2.2.2.2.2.2.1
  have hK := hC.2.2.2.2.2.2.2.2.1.1
  have hap := va_apart (own := zo E) hts hin (zct ci) hty hnm hK hc
  obtain ⟨r, h1, cell, q1, q2, q3, q4⟩ := (hR.2.2.1 a _ hh).2
  have hr : r = (C, T, N) := Option.some.inj (h1.symm.trans hc)
  subst hr
  obtain ⟨hS, hfc, kC, hkC, hkind⟩ := hK.1 ci _ hc
  obtain ⟨cf, kf, fi, f, hi, hsl⟩ := hS k hk
  have hlay := hts _ (hin _ (u_in_lay hk))
  unfold u_lay at hlay
  rw [if_neg (by rw [hfin]; decide)] at hlay
  have hst := (u_facts hfc hkC (u_lays hts hin hk) hi).1
  have h6 := u_store hfc hkC hkind hlay hi (hty k hk) hn hfit
  refine W.putK hC.1 hC.2.1 (f := f) ⟨hC.2.2.2.2.2.1, hts _ hlk, ⟨_, _, _, hi⟩, hst⟩ (by rw [q2]; exact h6) q1 q3 (by rw [hsl]; exact k2_hasslot (q4 k hk)) rfl rfl hd fun H' e1 e2 e3 => ?_
  rw [hsl] at e1 ⊢
  exact kk p e R s m args below meth c H' _ ls hC (hR.put hh ⟨_, hc, t_OB.to (V := updV (vp_V fs) k v) ⟨_, e1, q2, q3, t_set q4 hap hk v⟩ (fun j _ => vp_updV_set hlen v j)⟩ e2 e3) (zloc1 hL (hR.2.2.1 a _ hh).1) hl
theorem go_putF {idx ci k a : Nat} {fs : List Value} {v : Value} (hd : decode (zb E) pc = .ok (.putfield idx, 3)) (hf : zFl (zo E) idx ci k) (hfin : zFn ci k true) (hown : (zcl[ci]?).map (fun q => q.1) = some (zo E)) (hini : (zm E).1.name = "<init>") (hh : h.1 a = some (.inr (ci, fs))) (hn : narrow (zct ci k) v = v) (hfit : fits (zct ci k) v = true) (hlen : k < fs.length) (kk : Go E cs sl (pc + 3) lv st (zu h a (.inr (ci, fs.set k v)))) : Go E cs sl pc lv (v :: .ref a :: st) h := by
  intro p e R s m args below meth c H locs ls hC hR hL hl
  obtain ⟨C, T, N, hc, hk, hlk⟩ := hf
  obtain ⟨C', T', N', hc', hfin, hdecl⟩ := hfin
  cases hc.symm.trans hc'
  rw [hc] at hown
  have hCo : C = zo E := Option.some.inj hown
  obtain ⟨hin, hnm, hty⟩ := zcl_ok hc
  have hts := hC.2.2.2.2.2.2.2.1
  have hK := hC.2.2.2.2.2.2.2.2.1.1
  have hap := va_apart (own := zo E) hts hin (zct ci) hty hnm hK hc
  obtain ⟨r, h1, cell, q1, q2, q3, q4⟩ := (hR.2.2.1 a _ hh).2
  have hr : r = (C, T, N) := Option.some.inj (h1.symm.trans hc)
  subst hr
  obtain ⟨hS, hfc, kC, hkC, hkind⟩ := hK.1 ci _ hc
  obtain ⟨cf, kf, fi, f, hi, hsl⟩ := hS k hk
  have hlay := hts _ (hin _ (u_in_lay hk))
  unfold u_lay at hlay
  rw [if_pos hfin] at hlay
  have hst := (u_facts hfc hkC (u_lays hts hin hk) hi).1
  have hcf : m.cls = cf := by
    obtain ⟨_, _, c', _, _, _, -, -, hf', -, -, -, hown2, -⟩ := Cond.laysFinal_spec hlay
    have e1 : c' = cf := by have := hi.symm.trans hf'; simp at this; exact this.1.symm
    have e2 : (T k).1 = zo E := hdecl.trans hCo
    rw [e2] at hown2
    rw [← e1]; exact Option.some.inj (hC.2.2.2.2.2.1.symm.trans hown2)
  have h6 := u_fits hfc hkC hkind (Or.inr hlay) hi (hty k hk) hn hfit
  refine W.putFinK hC.1 hC.2.1 hC.2.2.2.2.2.1 (hts _ hlk) hi hst hcf (hC.2.2.2.2.2.2.1 hini) (by rw [q2]; exact h6) q1 q3 (by rw [hsl]; exact k2_hasslot (q4 k hk)) rfl rfl hd fun H' e1 e2 e3 => ?_
  rw [hsl] at e1 ⊢
  exact kk p e R s m args below meth c H' _ ls hC (hR.put hh ⟨_, hc, t_OB.to (V := updV (vp_V fs) k v) ⟨_, e1, q2, q3, t_set q4 hap hk v⟩ (fun j _ => vp_updV_set hlen v j)⟩ e2 e3) (zloc1 hL (hR.2.2.1 a _ hh).1) hl
theorem zty_i {γ : zG} {U : State} (hK : va_K γ.1 zcl (zty γ) U) : ArrOfT U (γ.2.1 0) .int := (hK.2 0 _ rfl).1
theorem zty_z {γ : zG} {U : State} (hK : va_K γ.1 zcl (zty γ) U) : ArrOfT U (γ.2.1 1) .boolean := (hK.2 1 _ rfl).1
/-- cells that are arrays: of ints, of booleans, of Ports, of States -/
def zai (γ : zG) (n : Nat) (f : Nat → Int32) : va_E := .inl (γ.2.1 0, n, .inl f)
def zaz (γ : zG) (n : Nat) (f : Nat → Int32) : va_E := .inl (γ.2.1 1, n, .inl f)
def zap (γ : zG) (n : Nat) (f : Nat → Option Nat) : va_E := .inl (γ.2.1 2, n, .inr (.inr (.inr (.inr f))))
def zas (γ : zG) (n : Nat) (f : Nat → Option Nat) : va_E := .inl (γ.2.1 3, n, .inr (.inr (.inr (.inr f))))
theorem go_iald {a n j : Nat} {f : Nat → Int32} {i : Int32} (hd : decode (zb E) pc = .ok (.iaload, 1)) (hh : h.1 a = some (zai (zg E) n f)) (hin : vp_in i n) (hj : i.toNatClampNeg = j) (kk : Go E cs sl (pc + 1) lv (.int (f j) :: st) h) : Go E cs sl pc lv (.int i :: .ref a :: st) h := by
  intro p e R s m args below meth c H locs ls hC hR hL hl
  subst hj
  have hlt : i.toNatClampNeg < n := Nat.not_le.mp fun q => hin (Or.inr q)
  exact W.iald (v := .int (f i.toNatClampNeg)) hC.1 hC.2.1 (hR.2.2.1 a _ hh).2 (zty_i hC.2.2.2.2.2.2.2.2.1.1 n (fun j => .int (f j))) (fun q => by cases q) (by show ¬ (i < 0 ∨ (arrV _ _ _).slots.size ≤ _); rw [arrV_size]; exact hin) (by show (arrV _ _ _).slots[_]? = _; rw [arrV_read _ _ hlt]) rfl rfl hd (kk p e R s m args below meth c H locs ls hC hR hL hl)
theorem go_zald {a n j : Nat} {f : Nat → Int32} {i : Int32} (hd : decode (zb E) pc = .ok (.baload, 1)) (hh : h.1 a = some (zaz (zg E) n f)) (hin : vp_in i n) (hj : i.toNatClampNeg = j) (kk : Go E cs sl (pc + 1) lv (.int (f j) :: st) h) : Go E cs sl pc lv (.int i :: .ref a :: st) h := by
  intro p e R s m args below meth c H locs ls hC hR hL hl
  subst hj
  have hlt : i.toNatClampNeg < n := Nat.not_le.mp fun q => hin (Or.inr q)
  exact W.zald (v := .int (f i.toNatClampNeg)) hC.1 hC.2.1 (hR.2.2.1 a _ hh).2 (zty_z hC.2.2.2.2.2.2.2.2.1.1 n (fun j => .int (f j))) (fun q => by cases q) (by show ¬ (i < 0 ∨ (arrV _ _ _).slots.size ≤ _); rw [arrV_size]; exact hin) (by show (arrV _ _ _).slots[_]? = _; rw [arrV_read _ _ hlt]) rfl rfl hd (kk p e R s m args below meth c H locs ls hC hR hL hl)
theorem go_ald {t0 : Nat} {C : String} {a n j : Nat} {cA : ClassId} {f : Nat → Option Nat} {i : Int32} {v : Value} (hd : decode (zb E) pc = .ok (.aaload, 1)) (hh : h.1 a = some (.inl (cA, n, .inr (.inr (.inr (.inr f)))))) (ht : (zty (zg E))[t0]? = some (cA, .object C)) (hin : vp_in i n) (hj : i.toNatClampNeg = j) (hv : va_rf (f j) = v) (kk : Go E cs sl (pc + 1) lv (v :: st) h) : Go E cs sl pc lv (.int i :: .ref a :: st) h := by
  intro p e R s m args below meth c H locs ls hC hR hL hl
  subst hj
  subst hv
  have hlt : i.toNatClampNeg < n := Nat.not_le.mp fun q => hin (Or.inr q)
  exact W.aald (v := va_rf (f i.toNatClampNeg)) (ty := .object C) hC.1 hC.2.1 (hR.2.2.1 a _ hh).2 ((hC.2.2.2.2.2.2.2.2.1.1.2 t0 _ ht).1 n (fun j => va_rf (f j))) rfl (fun q => by cases q) (by show ¬ (i < 0 ∨ (arrV _ _ _).slots.size ≤ _); rw [arrV_size]; exact hin) (by show (arrV _ _ _).slots[_]? = _; rw [arrV_read _ _ hlt]) rfl rfl hd (kk p e R s m args below meth c H locs ls hC hR hL hl)
theorem go_alen {a n : Nat} {cA : ClassId} {x : vp_A} {t0 : Nat} {ty : FieldType} {v : Int32} (hd : decode (zb E) pc = .ok (.arraylength, 1)) (hh : h.1 a = some (.inl (cA, x))) (ht : (zty (zg E))[t0]? = some (cA, ty)) (hv : Int32.ofNat x.1 = v) (kk : Go E cs sl (pc + 1) lv (.int v :: st) h) : Go E cs sl pc lv (.ref a :: st) h := by
  intro p e R s m args below meth c H locs ls hC hR hL hl
  have hP : va_P (zg E).1 zcl [(a, .inl (cA, x))] H := fun j q hq => by
    match j, hq with
    | 0, hq => cases hq; exact (hR.2.2.1 a _ hh).2
    | j + 1, hq => simp at hq
  exact va_alen hC.1 hC.2.1 hC.2.2.2.2.2.2.2.2.1.1 hP 0 t0 rfl ht hv hd (kk p e R s m args below meth c H locs ls hC hR hL hl)
theorem zst_at {cA : ClassId} {n k : Nat} {f : Nat → Int32} {x : Int32} {H1 : Heap} {a : Nat} {D : va_G} (e : H1[a]? = some ((vp_cell cA (n, .inl f)).setSlot k (.int x))) : va_at D zcl (a, .inl (cA, n, .inl (upd f k x))) H1 := by
  show H1[a]? = some (vp_cell _ _)
  rw [e, vp_cell_i, vp_cell_i, arrV_store]
  congr 2
  funext q
  by_cases hq : q = k
  · subst hq
    simp [updV, upd]
  · simp [updV, upd, hq]
theorem go_iast {a n j : Nat} {f : Nat → Int32} {i x : Int32} (hd : decode (zb E) pc = .ok (.iastore, 1)) (hh : h.1 a = some (zai (zg E) n f)) (hin : vp_in i n) (hj : i.toNatClampNeg = j) (kk : Go E cs sl (pc + 1) lv st (zu h a (zai (zg E) n (upd f j x)))) : Go E cs sl pc lv (.int x :: .int i :: .ref a :: st) h := by
  intro p e R s m args below meth c H locs ls hC hR hL hl
  subst hj
  refine W.iast hC.1 hC.2.1 (hR.2.2.1 a _ hh).2 (zty_i hC.2.2.2.2.2.2.2.2.1.1 n (fun j => .int (f j))) (fun q => by cases q) (by show ¬ (i < 0 ∨ (arrV _ _ _).slots.size ≤ _); rw [arrV_size]; exact hin) rfl rfl hd fun H1 e1 z oq => ?_
  exact kk p e R s m args below meth c H1 _ ls hC (hR.put hh (zst_at e1) z oq) (zloc1 hL (hR.2.2.1 a _ hh).1) hl
theorem go_zast {a n j : Nat} {f : Nat → Int32} {i x : Int32} (hd : decode (zb E) pc = .ok (.bastore, 1)) (hh : h.1 a = some (zaz (zg E) n f)) (hin : vp_in i n) (hj : i.toNatClampNeg = j) (hx : x &&& 1 = x) (kk : Go E cs sl (pc + 1) lv st (zu h a (zaz (zg E) n (upd f j x)))) : Go E cs sl pc lv (.int x :: .int i :: .ref a :: st) h := by
  intro p e R s m args below meth c H locs ls hC hR hL hl
  subst hj
  refine W.zast hC.1 hC.2.1 (hR.2.2.1 a _ hh).2 (zty_z hC.2.2.2.2.2.2.2.2.1.1 n (fun j => .int (f j))) (fun q => by cases q) (by show ¬ (i < 0 ∨ (arrV _ _ _).slots.size ≤ _); rw [arrV_size]; exact hin) rfl rfl hd fun H1 e1 z oq => ?_
  have hxx : narrow .boolean (.int x) = .int x := by show Value.int (x &&& 1) = _; rw [hx]
  rw [hxx] at e1
  exact kk p e R s m args below meth c H1 _ ls hC (hR.put hh (zst_at e1) z oq) (zloc1 hL (hR.2.2.1 a _ hh).1) hl
theorem go_aast {t0 ci : Nat} {r : vw_C} {a n j b : Nat} {vs : List Value} {cA : ClassId} {f : Nat → Option Nat} {i : Int32} (hd : decode (zb E) pc = .ok (.aastore, 1)) (hh : h.1 a = some (.inl (cA, n, .inr (.inr (.inr (.inr f)))))) (ht : (zty (zg E))[t0]? = some (cA, .object r.1)) (hb : h.1 b = some (.inr (ci, vs))) (hc : zcl[ci]? = some r) (hin : vp_in i n) (hj : i.toNatClampNeg = j) (kk : Go E cs sl (pc + 1) lv st (zu h a (.inl (cA, n, .inr (.inr (.inr (.inr (va_up f j (some b))))))))) : Go E cs sl pc lv (.ref b :: .int i :: .ref a :: st) h := by
  intro p e R s m args below meth c H locs ls hC hR hL hl
  subst hj
  have hK := hC.2.2.2.2.2.2.2.2.1.1
  have hlt : i.toNatClampNeg < n := Nat.not_le.mp fun q => hin (Or.inr q)
  have h0 : ¬ i < 0 := fun q => hin (Or.inl q)
  obtain ⟨r', hr', cellV, g1, g2, g3, -⟩ := (hR.2.2.1 b _ hb).2
  have hcls := (hK.1 ci r hc).2
  obtain ⟨kA, comp, k1, k2, k3, -⟩ := (hK.2 t0 _ ht).2
  have hcomp : comp = (zg E).1.1 ci := Option.some.inj (k3.symm.trans hcls.1)
  subst hcomp
  obtain ⟨kC, hkC, -⟩ := hcls.2
  refine W.aast hC.1 hC.2.1 (hR.2.2.1 a _ hh).2 (fun q h => by cases h) (fun h => by cases h) k1 k2 rfl hkC ⟨h0, by show _ < (arrV _ _ _).slots.size; rw [arrV_size]; exact hlt⟩ g1 (fun q h => by rw [g3] at h; cases h) (by rw [g2]; exact hkC) (by rw [g2]; exact va_assign hcls) rfl rfl hd fun H1 e1 z oq => ?_
  refine kk p e R s m args below meth c H1 _ ls hC (hR.put hh ?_ z oq) (zloc1 hL (hR.2.2.1 a _ hh).1) hl
  show H1[a]? = some (vp_cell _ _)
  rw [e1, vp_cell_q, vp_cell_q, arrV_store]
  congr 2
  funext q
  by_cases hq : q = i.toNatClampNeg
  · subst hq
    simp [updV, va_up, va_rf]
  · simp [updV, va_up, hq]
theorem go_new {idx ci : Nat} {C : String} {T : u_T} {N : Nat} {fs : List Value} (hd : decode (zb E) pc = .ok (.new idx, 3)) (hc : zcl[ci]? = some (C, T, N)) (hw : Cond.classLink (zo E) idx C ∈ zT ∧ Cond.instantiable C N ∈ zT ∧ Cond.initialized C ∈ zT) (hfs : ∀ j, j < N → defaultValue (zct ci j) = vp_V fs j) (hcs : cs + 1 ≤ zcc E) (hsl : sl + N ≤ zcs E)
    (kk : Go E (cs + 1) (sl + N) (pc + 3) lv (.ref h.2 :: st) (zp h (.inr (ci, fs)))) : Go E cs sl pc lv st h := by
  intro p e R s m args below meth c H locs ls hC hR hL hl
  have hts := hC.2.2.2.2.2.2.2.1
  obtain ⟨hin, hnm, hty⟩ := zcl_ok hc
  have hKn := hC.2.2.2.2.2.2.2.2.1.1.1 ci _ hc
  have hrc := hC.2.2.2.2.2.2.2.2.2.2.2.2.1
  have hrs := hC.2.2.2.2.2.2.2.2.2.2.2.2.2
  refine W.newcK hC.1 hC.2.1 hC.2.2.2.2.2.1 (hts _ hw.1) (hts _ hw.2.1) (hts _ hw.2.2) rfl hd (by omega) (by omega) hKn.2.1 rfl fun H1 kC hkC e1 z1 o1 => ?_
  have hR1 := hR.push (e := .inr (ci, fs)) (H1 := H1) ⟨_, hc, (u_born (zct ci) hts hin hKn hkC e1 hty).to hfs⟩ z1 o1
  have := kk p e R s m args below meth c H1 locs ls hC hR1 hL hl
  rw [hR.1] at this
  exact this
theorem go_newi {n : Int32} {N : Nat} (hd : decode (zb E) pc = .ok (.newarray .int, 2)) (hw : Cond.arrayClass .int ∈ zT) (hn : ¬ n < 0) (hN : n.toNatClampNeg = N) (hsm : N ≤ 100000) (hcs : cs + 1 ≤ zcc E) (hsl : sl + N ≤ zcs E)
    (kk : Go E (cs + 1) (sl + N) (pc + 2) lv (.ref h.2 :: st) (zp h (zai (zg E) N (fun _ => 0)))) : Go E cs sl pc lv (.int n :: st) h := by
  intro p e R s m args below meth c H locs ls hC hR hL hl
  have hts := hC.2.2.2.2.2.2.2.1
  have hrc := hC.2.2.2.2.2.2.2.2.2.2.2.2.1
  have hrs := hC.2.2.2.2.2.2.2.2.2.2.2.2.2
  refine va_newaK (atype := .int) hC.1 hC.2.1 (hts _ hw) rfl hd rfl hn hN (by show N * 4 ≤ _; omega) (by omega) (by omega) rfl fun H1 cA e1 z1 o1 hAr hNm => ?_
  have hcA : cA = (zg E).2.1 0 := Option.some.inj (hNm.symm.trans (hC.2.2.2.2.2.2.2.2.1.1.2 0 _ rfl).2)
  subst hcA
  have hR1 := hR.push (e := zai (zg E) N (fun _ => 0)) (H1 := H1) e1 z1 o1
  have := kk p e R s m args below meth c H1 locs ls hC hR1 hL hl
  rw [hR.1] at this
  exact this
theorem go_newz {n : Int32} {N : Nat} (hd : decode (zb E) pc = .ok (.newarray .boolean, 2)) (hw : Cond.arrayClass .boolean ∈ zT) (hn : ¬ n < 0) (hN : n.toNatClampNeg = N) (hsm : N ≤ 100000) (hcs : cs + 1 ≤ zcc E) (hsl : sl + N ≤ zcs E)
    (kk : Go E (cs + 1) (sl + N) (pc + 2) lv (.ref h.2 :: st) (zp h (zaz (zg E) N (fun _ => 0)))) : Go E cs sl pc lv (.int n :: st) h := by
  intro p e R s m args below meth c H locs ls hC hR hL hl
  have hts := hC.2.2.2.2.2.2.2.1
  have hrc := hC.2.2.2.2.2.2.2.2.2.2.2.2.1
  have hrs := hC.2.2.2.2.2.2.2.2.2.2.2.2.2
  refine va_newaK (atype := .boolean) hC.1 hC.2.1 (hts _ hw) rfl hd rfl hn hN (by show N * 1 ≤ _; omega) (by omega) (by omega) rfl fun H1 cA e1 z1 o1 hAr hNm => ?_
  have hcA : cA = (zg E).2.1 1 := Option.some.inj (hNm.symm.trans (hC.2.2.2.2.2.2.2.2.1.1.2 1 _ rfl).2)
  subst hcA
  have hR1 := hR.push (e := zaz (zg E) N (fun _ => 0)) (H1 := H1) e1 z1 o1
  have := kk p e R s m args below meth c H1 locs ls hC hR1 hL hl
  rw [hR.1] at this
  exact this
theorem go_anew {idx t0 : Nat} {C : String} {n : Int32} {N : Nat} {cA0 : ClassId} (hd : decode (zb E) pc = .ok (.anewarray idx, 3)) (hw : Cond.classLink (zo E) idx C ∈ zT) (ho : ∀ U : State, zK (zg E) U → va_AO C U) (ht : (zty (zg E))[t0]? = some (cA0, .object C)) (hn : ¬ n < 0) (hN : n.toNatClampNeg = N) (hsm : N ≤ 100000) (hcs : cs + 1 ≤ zcc E) (hsl : sl + N ≤ zcs E)
    (kk : Go E (cs + 1) (sl + N) (pc + 3) lv (.ref h.2 :: st) (zp h (.inl (cA0, N, .inr (.inr (.inr (.inr (fun _ => none)))))))) : Go E cs sl pc lv (.int n :: st) h := by
  intro p e R s m args below meth c H locs ls hC hR hL hl
  subst hN
  have hts := hC.2.2.2.2.2.2.2.1
  have hrc := hC.2.2.2.2.2.2.2.2.2.2.2.2.1
  have hrs := hC.2.2.2.2.2.2.2.2.2.2.2.2.2
  refine W.anew hC.1 hC.2.1 hC.2.2.2.2.2.1 (hts _ hw) (va_AO.use (ho s hC.2.2.2.2.2.2.2.2.1)) rfl hd rfl hn (by omega) (by omega) (by omega) fun cA kA comp f1 f2 f3 f4 => ?_
  obtain ⟨-, -, -, -, -, f5⟩ := (hC.2.2.2.2.2.2.2.2.1.1.2 t0 _ ht).2
  have hcA : cA = cA0 := Option.some.inj (f1.symm.trans f5)
  subst hcA
  generalize hH1 : H.push ({ cls := cA, slots := Array.replicate n.toNatClampNeg .null, vm := .none } : Cell) = H1
  have z1 : H1.size = H.size + 1 := by rw [← hH1, Array.size_push]
  have e1 : H1[H.size]? = some (arrV cA n.toNatClampNeg (fun _ => .null)) := by rw [← hH1, Array.getElem?_push_size, ← arrV_new]
  have o1 : ∀ q : Nat, q < H.size → H1[q]? = H[q]? := fun q hq => by rw [← hH1, Array.getElem?_push, if_neg (Nat.ne_of_lt hq)]
  have hR1 := hR.push (e := .inl (cA, n.toNatClampNeg, .inr (.inr (.inr (.inr (fun _ => none)))))) (H1 := H1) e1 z1 o1
  have := kk p e R s m args below meth c H1 locs ls hC hR1 hL hl
  rw [hR.1] at this
  exact this
theorem zSfull {γ : zG} {h : zH} {H : Heap} (hR : zR γ h H) : ∀ q : Nat, q < γ.2.2.1.size → ¬ zA γ q → H[q]? = γ.2.2.1[q]? := fun q hq _ => hR.2.2.2 q hq
theorem go_gets {idx k : Nat} (hd : decode (zb E) pc = .ok (.getstatic idx, 3)) (hk : k < 3) (hw : Cond.fieldLink (zo E) idx RX3 (zsn k) "[I" ∈ zT) (kk : Go E cs sl (pc + 3) lv (.ref ((zg E).2.2.2 k) :: st) h) : Go E cs sl pc lv st h := by
  intro p e R s m args below meth c H locs ls hC hR hL hl
  obtain ⟨⟨cf, kf, fi, f, a, cell, h1, h2, h3, h4, h5, h6, h7, h8⟩, -⟩ := hC.2.2.2.2.2.2.2.2.1.2.1 k hk
  exact W.gets hC.1 hC.2.1 hC.2.2.2.2.2.1 (hC.2.2.2.2.2.2.2.1 _ hw) h1 h2 h3 h4 (by rw [zSfull hR a (Array.getElem?_eq_some_iff.mp h5).1 h8]; exact h5) (fun e => by rw [e] at h6; cases h6) h7 rfl hd (kk p e R s m args below meth c H locs ls hC hR hL hl)
theorem go_tald {k j : Nat} {i : Int32} (hd : decode (zb E) pc = .ok (.iaload, 1)) (hk : k < 3) (hin : vp_in i 5) (hj : i.toNatClampNeg = j) (kk : Go E cs sl (pc + 1) lv (.int (zsv k j) :: st) h) : Go E cs sl pc lv (.int i :: .ref ((zg E).2.2.2 k) :: st) h := by
  intro p e R s m args below meth c H locs ls hC hR hL hl
  subst hj
  obtain ⟨-, cell, h1, h2, h3, h4, h5, h6, h7⟩ := hC.2.2.2.2.2.2.2.2.1.2.1 k hk
  have hlt : i.toNatClampNeg < 5 := Nat.not_le.mp fun q => hin (Or.inr q)
  have hin' : ¬ (i < 0 ∨ cell.slots.size ≤ i.toNatClampNeg) := by
    intro q
    rcases q with q | q
    · exact hin (Or.inl q)
    · omega
  exact W.iald (v := .int (zsv k i.toNatClampNeg)) hC.1 hC.2.1 (by rw [zSfull hR _ (Array.getElem?_eq_some_iff.mp h1).1 h7]; exact h1) h2 h3 hin' (h6 _ hlt) rfl rfl hd (kk p e R s m args below meth c H locs ls hC hR hL hl)
theorem go_tlen {k : Nat} (hd : decode (zb E) pc = .ok (.arraylength, 1)) (hk : k < 3) (kk : Go E cs sl (pc + 1) lv (.int 5 :: st) h) : Go E cs sl pc lv (.ref ((zg E).2.2.2 k) :: st) h := by
  intro p e R s m args below meth c H locs ls hC hR hL hl
  obtain ⟨-, cell, h1, h2, h3, h4, h5, h6, h7⟩ := hC.2.2.2.2.2.2.2.2.1.2.1 k hk
  exact W.alen (n := 5) hC.1 hC.2.1 (by rw [zSfull hR _ (Array.getElem?_eq_some_iff.mp h1).1 h7]; exact h1) h2 h5 rfl rfl hd (kk p e R s m args below meth c H locs ls hC hR hL hl)
theorem go_ldcw {idx : Nat} {v : Int32} (hd : decode (zb E) pc = .ok (.ldc_w idx, 3)) (hw : Cond.constant (zo E) idx v ∈ zT) (kk : Go E cs sl (pc + 3) lv (.int v :: st) h) : Go E cs sl pc lv st h := by
  intro p e R s m args below meth c H locs ls hC hR hL hl
  exact lv_ldcw hC.1 hC.2.1 hC.2.2.2.2.2.1 (hC.2.2.2.2.2.2.2.1 _ hw) hd (kk p e R s m args below meth c H locs ls hC hR hL hl)
theorem go_objInit {idx a : Nat} (hd : decode (zb E) pc = .ok (.invokespecial idx, 3)) (hw : Cond.methodLink (zo E) idx objectInit ∈ zT ∧ Cond.instanceMethod objectInit ∈ zT ∧ Cond.code objectInit ⟨#[0xb1]⟩ 1 none ∈ zT) (hn : 1 ≤ zn E) (kk : Go E cs sl (pc + 3) lv [] h) : Go E cs sl pc lv [.ref a] h := by
  intro p e R s m args below meth c H locs ls hC hR hL hl
  have hts := hC.2.2.2.2.2.2.2.1
  have hfr := hC.2.2.2.2.2.2.2.2.2.2.1
  have hlo := hC.2.2.2.2.2.2.2.2.2.2.2.1
  exact W.objInit hC.1 hC.2.1 hC.2.2.2.2.2.1 (hts _ hw.1) (hts _ hw.2.1) (hts _ hw.2.2) rfl (by rw [hC.2.2.2.2.1]; exact hl.1) rfl hd (by omega) (by show 2 * 0 + 0 + 12 ≤ _; omega) (kk p e R s m args below meth c H locs ls hC hR hL hl)
end ZH
