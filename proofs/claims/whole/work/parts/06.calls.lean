/-! rows: calls and ends -/
theorem zP_blind (γ : zG) (As : List Value) (h : zH) : FrameBlind (zP γ As h) := fun a U g mk q => ⟨q.1, q.2.1, zK.moved (u := U) (U := U.calling g mk a) (Vm.Alike.refl U.vm) q.2.2⟩
/-- what a call needs of the method that is called -/
def zMo (M : zM) (np : Nat) : Prop := Cond.code M.1 M.2.1 M.2.2.1 M.2.2.2 ∈ zT ∧ Cond.initialized M.1.cls ∈ zT ∧ (M.1.cls ≠ "java/lang/invoke/MethodHandle" ∧ M.1.cls ≠ "java/lang/invoke/VarHandle" ∧ (parseMethodDescriptor M.1.desc).map (fun d => d.parameters.length) = some np) ∧ M.2.2.1 ≤ 17
theorem zgood_in {M : zM} {np : Nat} (hm : zMo M np) : GoodIn zT (Cond.code M.1 M.2.1 M.2.2.1 M.2.2.2 :: zT) := fun w hw => by
  rcases List.mem_cons.mp hw with h | h
  · subst h; exact ⟨hm.1, zT_good hm.1⟩
  · exact ⟨h, zT_good h⟩
section ZC
variable {E : zE} {cs sl pc : Nat} {lv : zLv} {st : List Value} {h : zH}
theorem zcallB {p : Program} {R : Room} {s : State} {m : MethodId} {args : Array Value} {meth : Method} {c : Code} {M : zM} {np n' C' S' idx : Nat} (hC : zC E p R s m args meth c) (hm : zMo M np) (hl : Cond.methodLink (zo E) idx M.1 ∈ zT) (hn : n' + 1 ≤ zn E) :
    CallB R s args (zo E) idx M.1 M.2.1 M.2.2.1 M.2.2.2 (.code M.1 M.2.1 M.2.2.1 M.2.2.2 :: zT) (zrm n' C' S') C' S' np := by
  have hts := hC.2.2.2.2.2.2.2.1
  have hfr := hC.2.2.2.2.2.2.2.2.2.2.1
  have hlo := hC.2.2.2.2.2.2.2.2.2.2.2.1
  have hM := hm.2.2.2
  exact callB_of (ws' := zT) (rm := zrm n' C' S') np hts (zgood_in hm) rfl rfl rfl (hts _ hm.2.1) (hts _ hl) hm.2.2.1 ⟨by show n' + 1 ≤ _; omega, by show 8 + (M.2.2.1 + 11) + 36 * n' ≤ _; omega⟩
theorem zafter {p : Program} {e : Env} {R : Room} {s : State} {m : MethodId} {args : Array Value} {below : List Frame} {meth : Method} {c : Code} {H : Heap} {locs : List Loc} {ls : Array Slot} {mc ms : Nat} {st0 rest : List Value} {a : Array Value} {r : Option Value} {h1 : zH}
    (hr : va_Run p (zl E) e R s m args below meth c H locs cs sl mc ms (F0 m pc ls st0) rest (zQ (zg E) r h1 a) (zA (zg E))) (hC : zC E p R s m args meth c) (hL : ∀ q ∈ locs, zN (zg E) ≤ q.base) (hl : zloc ls (zm E).2.2.1 lv)
    (kk : Go E (cs + mc) (sl + ms) (pc + 3) lv (r.toList ++ rest) h1) : W p (zl E) e R s m args below meth c H locs cs sl (zf E s args below) (F0 m pc ls st0) := by
  intro T hT X
  obtain ⟨v, st₀, t, T', L, h0, X', hLL, e1, e2, ⟨hv, hR1⟩, st⟩ := hr T hT X
  cases hv
  rw [← e1] at hR1
  obtain ⟨t2, a1, b1⟩ := kk p e R s m args below meth c T'.heap (locs ++ L) ls hC hR1 (zlocs hL hLL) hl T' rfl X'
  exact ⟨t2, st t2 a1, b1⟩
theorem go_callV {idx np n' C' S' b ci : Nat} {M : zM} {As rest fs : List Value} {r : Option Value} {h1 : zH} {q : vw_C} (hd : decode (zb E) pc = .ok (.invokevirtual idx, 3)) (hm : zMo M np)
    (hw : Cond.methodLink (zo E) idx M.1 ∈ zT ∧ Cond.instanceMethod M.1 ∈ zT ∧ Cond.selects M.1.cls M.1 M.1 ∈ zT) (hc : zcl[ci]? = some q ∧ q.1 = M.1.cls)
    (hcon : Con (zg E) (zl E) n' C' S' M (.ref b :: As) h r h1) (hh : h.1 b = some (.inr (ci, fs))) (hst : st = As.reverse ++ .ref b :: rest) (hnp : As.length = np) (hn : n' + 1 ≤ zn E) (hcs : cs + C' ≤ zcc E) (hsl : sl + S' ≤ zcs E) (hrs : (rest.map fun v => v.category).sum ≤ 8)
    (kk : Go E (cs + C') (sl + S') (pc + 3) lv (r.toList ++ rest) h1) : Go E cs sl pc lv st h := by
  intro p e R s m args below meth c H locs ls hC hR hL hl
  have hts := hC.2.2.2.2.2.2.2.1
  have hrc := hC.2.2.2.2.2.2.2.2.2.2.2.2.1
  have hrl := hC.2.2.2.2.2.2.2.2.2.2.2.2.2
  have hK := hC.2.2.2.2.2.2.2.2.1
  have hP : va_P (zg E).1 zcl [(b, .inr (ci, fs))] H := fun j q hq => by
    match j, hq with
    | 0, hq => cases hq; exact (hR.2.2.1 b _ hh).2
    | j + 1, hq => simp at hq
  have hrecv := va_recv hK.1 hP hc.1 (q0 := 0) rfl
  rw [hc.2] at hrecv
  refine zafter (va_runV (C := M.1.cls) (Ts := zT) (own := zo E) (As := As) (rest := rest) (b := b) ⟨hC.1, hC.2.1, hC.2.2.2.2.1, hC.2.2.2.2.2.1, hts⟩ hcon ⟨zcallB hC hm hw.1 hn, hts _ hw.2.1, hts _ hw.2.2⟩ ⟨zP_blind _ _ _, hrecv, fun U hU hW => ⟨rfl, by rw [hU]; exact hR, hK.moved hW.alike⟩⟩ rfl hnp hl.1 hst (by show 2 * 0 + _ ≤ 8; omega) hd ⟨by omega, by omega⟩) hC hL hl kk
theorem go_callS {idx np n' C' S' : Nat} {M : zM} {As rest : List Value} {r : Option Value} {h1 : zH} (hd : decode (zb E) pc = .ok (.invokestatic idx, 3)) (hm : zMo M np)
    (hw : Cond.methodLink (zo E) idx M.1 ∈ zT ∧ Cond.static M.1 ∈ zT)
    (hcon : Con (zg E) (zl E) n' C' S' M As h r h1) (hst : st = As.reverse ++ rest) (hnp : As.length = np) (hn : n' + 1 ≤ zn E) (hcs : cs + C' ≤ zcc E) (hsl : sl + S' ≤ zcs E) (hrs : (rest.map fun v => v.category).sum ≤ 8)
    (kk : Go E (cs + C') (sl + S') (pc + 3) lv (r.toList ++ rest) h1) : Go E cs sl pc lv st h := by
  intro p e R s m args below meth c H locs ls hC hR hL hl
  have hts := hC.2.2.2.2.2.2.2.1
  have hrc := hC.2.2.2.2.2.2.2.2.2.2.2.2.1
  have hrl := hC.2.2.2.2.2.2.2.2.2.2.2.2.2
  have hK := hC.2.2.2.2.2.2.2.2.1
  refine zafter (va_runS (Ts := zT) (own := zo E) (As := As) (rest := rest) ⟨hC.1, hC.2.1, hC.2.2.2.2.1, hC.2.2.2.2.2.1, hts⟩ hcon ⟨zcallB hC hm hw.1 hn, hts _ hw.2⟩ ⟨zP_blind _ _ _, fun U hU hW => ⟨rfl, by rw [hU]; exact hR, hK.moved hW.alike⟩⟩ rfl hnp hl.1 hst (by show 2 * 0 + _ ≤ 8; omega) hd ⟨by omega, by omega⟩) hC hL hl kk
theorem go_callI {idx np n' C' S' b : Nat} {M : zM} {As rest : List Value} {r : Option Value} {h1 : zH} (hd : decode (zb E) pc = .ok (.invokespecial idx, 3)) (hm : zMo M np)
    (hw : Cond.methodLink (zo E) idx M.1 ∈ zT ∧ Cond.instanceMethod M.1 ∈ zT) (hi : M.1.name = "<init>" ∧ M.2.2.2 = none)
    (hcon : Con (zg E) (zl E) n' C' S' M (.ref b :: As) h r h1) (hst : st = As.reverse ++ .ref b :: rest) (hnp : As.length = np) (hn : n' + 1 ≤ zn E) (hcs : cs + C' ≤ zcc E) (hsl : sl + S' ≤ zcs E) (hrs : (rest.map fun v => v.category).sum ≤ 8)
    (kk : Go E (cs + C') (sl + S') (pc + 3) lv (r.toList ++ rest) h1) : Go E cs sl pc lv st h := by
  intro p e R s m args below meth c H locs ls hC hR hL hl
  have hts := hC.2.2.2.2.2.2.2.1
  have hrc := hC.2.2.2.2.2.2.2.2.2.2.2.2.1
  have hrl := hC.2.2.2.2.2.2.2.2.2.2.2.2.2
  have hK := hC.2.2.2.2.2.2.2.2.1
  have hB := zcallB (C' := C') (S' := S') hC hm hw.1 hn
  unfold Con at hcon
  rw [hi.2] at hB hcon
  refine zafter (va_runI (Ts := zT) (own := zo E) (As := As) (rest := rest) (b := b) ⟨hC.1, hC.2.1, hC.2.2.2.2.1, hC.2.2.2.2.2.1, hts⟩ hcon ⟨hB, hi.1, hts _ hw.2⟩ ⟨zP_blind _ _ _, fun U hU hW => ⟨rfl, by rw [hU]; exact hR, hK.moved hW.alike⟩⟩ rfl hnp hl.1 hst (by show 2 * 0 + _ ≤ 8; omega) hd ⟨by omega, by omega⟩) hC hL hl kk
theorem go_mmax {idx : Nat} {x y : Int32} (hd : decode (zb E) pc = .ok (.invokestatic idx, 3)) (hw : Cond.methodLink (zo E) idx Lib.Math.max.name ∈ zT ∧ Cond.static Lib.Math.max.name ∈ zT ∧ Cond.initialized "java/lang/Math" ∈ zT ∧ Cond.code Lib.Math.max.name Lib.Math.max.code 2 (some .int) ∈ zT) (hn : 1 ≤ zn E) (hcs : cs ≤ zcc E) (hsl : sl ≤ zcs E)
    (kk : Go E cs sl (pc + 3) lv [.int (if x < y then y else x)] h) : Go E cs sl pc lv [.int y, .int x] h := by
  intro p e R s m args below meth c H locs ls hC hR hL hl
  have hts := hC.2.2.2.2.2.2.2.1
  have hfr := hC.2.2.2.2.2.2.2.2.2.2.1
  have hlo := hC.2.2.2.2.2.2.2.2.2.2.2.1
  have hrc := hC.2.2.2.2.2.2.2.2.2.2.2.2.1
  have hrl := hC.2.2.2.2.2.2.2.2.2.2.2.2.2
  exact va_mmax hC.1 hC.2.1 (by rw [hC.2.2.2.2.1]; exact hl.1.symm) hC.2.2.2.2.2.1 (hts _ hw.1) (hts _ hw.2.1) (hts _ hw.2.2.1) (hts _ hw.2.2.2) (by omega) (by show 0 + 13 ≤ _; omega) (by omega) (by omega) hd (kk p e R s m args below meth c H locs ls hC hR hL hl)
end ZC
section ZF
variable {γ : zG} {l : Launch} {n C S cs sl pc : Nat} {M : zM} {lv : zLv} {h h' : zH} {r : Option Value}
theorem go_zret {v : Int32} {ty : FieldType} (hd : decode M.2.1 pc = .ok (.ireturn, 1)) (hty : M.2.2.2 = some ty) (hn : narrow ty (.int v) = .int v) (hr : r = some (.int v)) (hh : h' = h) (hcs : cs ≤ C) (hsl : sl ≤ S) : Go (γ, l, n, (C, S), M, zF γ C S r h') cs sl pc lv [.int v] h := by
  intro p e R s m args below meth c H locs ls hC hR hL hl
  subst hr; subst hh
  have hlocks := hC.2.2.2.1
  refine W.widen (k := C) (n := S) hcs hsl ?_
  exact W.zret (Qc := zQ γ (some (.int v)) h') (free := zA γ) hC.1 hC.2.1 (hC.2.2.1.trans hty) hn (fun t ht hW => ⟨rfl, by rw [ht]; exact hR⟩) hL hd hlocks
theorem go_iret {v : Int32} (hd : decode M.2.1 pc = .ok (.ireturn, 1)) (hty : M.2.2.2 = some .int) (hr : r = some (.int v)) (hh : h' = h) (hcs : cs ≤ C) (hsl : sl ≤ S) : Go (γ, l, n, (C, S), M, zF γ C S r h') cs sl pc lv [.int v] h := go_zret hd hty rfl hr hh hcs hsl
theorem go_vret (hd : decode M.2.1 pc = .ok (.return_, 1)) (hty : M.2.2.2 = none) (hr : r = none) (hh : h' = h) (hcs : cs ≤ C) (hsl : sl ≤ S) : Go (γ, l, n, (C, S), M, zF γ C S r h') cs sl pc lv [] h := by
  intro p e R s m args below meth c H locs ls hC hR hL hl
  subst hr; subst hh
  have hlocks := hC.2.2.2.1
  refine W.widen (k := C) (n := S) hcs hsl ?_
  exact W.vret (Qc := zQ γ none h') (free := zA γ) hC.1 hC.2.1 (hC.2.2.1.trans hty) (fun t ht hW => ⟨rfl, by rw [ht]; exact hR⟩) hL hd hlocks
end ZF
section ZV
variable {E : zE} {cs sl pc : Nat} {lv lv' : zLv} {st : List Value} {h h1 : zH}
theorem go_lv (hs : zsub lv 0 lv') (k : Go E cs sl pc lv' st h) : Go E cs sl pc lv st h := fun p e R s m args below meth c H locs ls hC hR hL hl => k p e R s m args below meth c H locs ls hC hR hL (hl.sub hs)
theorem go_h (he : h = h1) (k : Go E cs sl pc lv st h1) : Go E cs sl pc lv st h := he ▸ k
theorem go_at {pc' : Nat} {st' : List Value} (h1 : lv = lv') (h2 : st = st') (h3 : pc = pc') (k : Go E cs sl pc' lv' st' h) : Go E cs sl pc lv st h := by subst h1; subst h2; subst h3; exact k
theorem go_top {x : Int32} (k : ∀ y : Int32, y = x → Go E cs sl pc lv (.int y :: st) h) : Go E cs sl pc lv (.int x :: st) h := k x rfl
theorem go_widen {cs' sl' : Nat} (h1 : cs ≤ cs') (h2 : sl ≤ sl') (k : Go E cs' sl' pc lv st h) : Go E cs sl pc lv st h := fun p e R s m args below meth c H locs ls hC hR hL hl => W.widen h1 h2 (k p e R s m args below meth c H locs ls hC hR hL hl)
theorem go_copyi {idx a0 a n0 n1 j : Nat} {f g : Nat → Int32} {n : Int32} (hd : decode (zb E) pc = .ok (.invokestatic idx, 3)) (hw : Cond.methodLink (zo E) idx arraycopyName ∈ zT ∧ Cond.native arraycopyName ∈ zT ∧ Cond.static arraycopyName ∈ zT ∧ Cond.initialized "java/lang/System" ∈ zT)
    (hs : h.1 a0 = some (zai (zg E) n0 f)) (ht : h.1 a = some (zai (zg E) n1 g)) (hn : ¬ n < 0) (hj : n.toNatClampNeg = j) (h4 : j ≤ n0) (h5 : j ≤ n1) (hlev : 1 ≤ zn E) (hnw : nativeFrameWords "java/lang/System" "arraycopy" 5 ≤ 25)
    (kk : Go E cs sl (pc + 3) lv [] (zu h a (zai (zg E) n1 (va_cpy f g 0 0 j)))) : Go E cs sl pc lv [.int n, .int 0, .ref a, .int 0, .ref a0] h := by
  intro p e R s m args below meth c H locs ls hC hR hL hl
  subst hj
  have hts := hC.2.2.2.2.2.2.2.1
  have hfr := hC.2.2.2.2.2.2.2.2.2.2.1
  have hlo := hC.2.2.2.2.2.2.2.2.2.2.2.1
  have hK := hC.2.2.2.2.2.2.2.2.1.1
  have nn : ∀ z : Int32, ¬ z < 0 → z.toInt = (z.toNatClampNeg : Int) := by
    intro z hz
    have hz0 : (0 : Int) ≤ z.toInt := by
      have := Int32.not_lt.mp hz
      simpa using Int32.le_iff_toInt_le.mp this
    show z.toInt = ((z.toInt.toNat : Nat) : Int)
    omega
  have hz : ¬ (0 : Int32) < 0 := by decide
  have hzc : (0 : Int32).toNatClampNeg = 0 := by decide
  intro T hT X
  have hc0 : H[a0]? = some (vp_cell ((zg E).2.1 0) (n0, .inl f)) := (hR.2.2.1 a0 _ hs).2
  have hc1 : H[a]? = some (vp_cell ((zg E).2.1 0) (n1, .inl g)) := (hR.2.2.1 a _ ht).2
  obtain ⟨-, k0, hk0, cm0, hkk0⟩ := zty_i hK n0 (fun j => .int (f j))
  obtain ⟨-, k1, hk1, cm1, hkk1⟩ := zty_i hK n1 (fun j => .int (g j))
  obtain ⟨vm', X', step⟩ := X.arraycopy hC.1 hC.2.2.2.2.2.1 (hts _ hw.1) (hts _ hw.2.1) (hts _ hw.2.2.1) (hts _ hw.2.2.2) (src := a0) (dst := a) (cs := vp_cell ((zg E).2.1 0) (n0, .inl f)) (cd := vp_cell ((zg E).2.1 0) (n1, .inl g)) (srcPos := 0) (destPos := 0) (n := n) (by rw [hT]; exact hc0) (by rw [hT]; exact hc1)
    (fun _ h => by cases h) (fun _ h => by cases h) (fun h => by cases h) (fun h => by cases h) hk0 hk1 hkk0 hkk1 (by simp [refKind]) hz hz hn
    (by rw [nn 0 hz, nn n hn, hzc]; show ¬ _ > ((arrV _ n0 (fun j => .int (f j))).slots.size : Int); rw [arrV_size]; omega)
    (by rw [nn 0 hz, nn n hn, hzc]; show ¬ _ > ((arrV _ n1 (fun j => .int (g j))).slots.size : Int); rw [arrV_size]; omega)
    (fun vm₁ _ i hi => by
      have e : (vp_cell ((zg E).2.1 0) (n0, .inl f)).slots.getD ((0 : Int32).toNatClampNeg + i) .null = .int (f ((0 : Int32).toNatClampNeg + i)) := by
        show (arrV _ n0 (fun j => .int (f j))).slots.getD _ _ = _
        rw [Array.getD_eq_getD_getElem?, arrV_read _ _ (by omega)]
        rfl
      refine ⟨?_, ?_⟩
      · rw [e]
        rfl
      · rw [e]
        exact trivial)
    (g := F0 m pc ls [.int n, .int 0, .ref a, .int 0, .ref a0]) rfl (by rw [hC.2.2.2.2.1]; exact hl.1) (rest := []) rfl (by rw [hC.2.1]; exact hd) (by omega) (by show 2 * 0 + 0 + (nativeFrameWords "java/lang/System" "arraycopy" 5 + 11) ≤ _; omega)
  have e1 : copied (vp_cell ((zg E).2.1 0) (n0, .inl f)) (vp_cell ((zg E).2.1 0) (n1, .inl g)) 0 0 n = vp_cell ((zg E).2.1 0) (n1, .inl (va_cpy f g 0 0 n.toNatClampNeg)) := va_copied (sp := 0) (dp := 0) (fun z => .int z) _ _ f g (by omega)
  rw [e1] at X' step
  have hlt : a < H.size := (Array.getElem?_eq_some_iff.mp hc1).1
  have hheap : ((T.setVm vm').setCell a (vp_cell ((zg E).2.1 0) (n1, .inl (va_cpy f g 0 0 n.toNatClampNeg)))).heap = H.setIfInBounds a (vp_cell ((zg E).2.1 0) (n1, .inl (va_cpy f g 0 0 n.toNatClampNeg))) := by rw [← hT]; rfl
  have oq : ∀ q : Nat, q ≠ a → (H.setIfInBounds a (vp_cell ((zg E).2.1 0) (n1, .inl (va_cpy f g 0 0 n.toNatClampNeg))))[q]? = H[q]? := fun q hq => by simp [Array.getElem?_setIfInBounds, Ne.symm hq]
  have hR1 : zR (zg E) (zu h a (zai (zg E) n1 (va_cpy f g 0 0 n.toNatClampNeg))) (H.setIfInBounds a (vp_cell ((zg E).2.1 0) (n1, .inl (va_cpy f g 0 0 n.toNatClampNeg)))) := hR.put ht (show (H.setIfInBounds a _)[a]? = some _ by simp [Array.getElem?_setIfInBounds, hlt]) (by simp) oq
  obtain ⟨t, a1, b1⟩ := kk p e R s m args below meth c _ _ ls hC hR1 (zlocs hL (fun q hq => by
      obtain ⟨z, -, hz⟩ := List.mem_map.mp hq
      rw [← hz]
      exact (hR.2.2.1 a _ ht).1)) hl _ hheap X'
  exact ⟨t, step t a1, b1⟩
end ZV
