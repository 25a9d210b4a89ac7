/-! rows: an instruction each -/
section ZR
variable {E : zE} {cs sl pc : Nat} {lv : zLv} {st : List Value} {h : zH}
theorem go_W (f : ∀ (p : Program) (e : Env) (R : Room) (s : State) (m : MethodId) (args : Array Value) (below : List Frame) (meth : Method) (c : Code) (H : Heap) (locs : List Loc) (ls : Array Slot),
    zC E p R s m args meth c → zR (zg E) h H → (∀ q ∈ locs, zN (zg E) ≤ q.base) → zloc ls (zm E).2.2.1 lv → W p (zl E) e R s m args below meth c H locs cs sl (zf E s args below) (F0 m pc ls st)) : Go E cs sl pc lv st h := f
theorem go_iconst {n : Int} {v : Int32} (hd : decode (zb E) pc = .ok (.iconst n, 1)) (hv : Int32.ofInt n = v) (k : Go E cs sl (pc + 1) lv (.int v :: st) h) : Go E cs sl pc lv st h := by
  intro p e R s m args below meth c H locs ls hC hR hL hl
  exact lv_iconst hC.1 hC.2.1 hd hv (k p e R s m args below meth c H locs ls hC hR hL hl)
theorem go_bipush {n : Int} {v : Int32} (hd : decode (zb E) pc = .ok (.bipush n, 2)) (hv : (Int8.ofInt n).toInt32 = v) (k : Go E cs sl (pc + 2) lv (.int v :: st) h) : Go E cs sl pc lv st h := by
  intro p e R s m args below meth c H locs ls hC hR hL hl
  exact lv_bipush hC.1 hC.2.1 hd hv (k p e R s m args below meth c H locs ls hC hR hL hl)
theorem go_sipush {n : Int} {v : Int32} (hd : decode (zb E) pc = .ok (.sipush n, 3)) (hv : (Int16.ofInt n).toInt32 = v) (k : Go E cs sl (pc + 3) lv (.int v :: st) h) : Go E cs sl pc lv st h := by
  intro p e R s m args below meth c H locs ls hC hR hL hl
  exact lv_sipush hC.1 hC.2.1 hd hv (k p e R s m args below meth c H locs ls hC hR hL hl)
theorem go_iload_n {j : Fin 4} {x : Int32} (hd : decode (zb E) pc = .ok (.iload_n j, 1)) (hx : zat lv (j : Nat) = some (.int x)) (k : Go E cs sl (pc + 1) lv (.int x :: st) h) : Go E cs sl pc lv st h := by
  intro p e R s m args below meth c H locs ls hC hR hL hl
  exact lv_iload_n hC.1 hC.2.1 hd rfl (hl.at hx) (k p e R s m args below meth c H locs ls hC hR hL hl)
theorem go_iload {i : Nat} {x : Int32} (hd : decode (zb E) pc = .ok (.iload i, 2)) (hx : zat lv i = some (.int x)) (k : Go E cs sl (pc + 2) lv (.int x :: st) h) : Go E cs sl pc lv st h := by
  intro p e R s m args below meth c H locs ls hC hR hL hl
  exact lv_iload hC.1 hC.2.1 hd (hl.at hx) (k p e R s m args below meth c H locs ls hC hR hL hl)
theorem go_aload_n {j : Fin 4} {x : Nat} (hd : decode (zb E) pc = .ok (.aload_n j, 1)) (hx : zat lv (j : Nat) = some (.ref x)) (k : Go E cs sl (pc + 1) lv (.ref x :: st) h) : Go E cs sl pc lv st h := by
  intro p e R s m args below meth c H locs ls hC hR hL hl
  exact lv_aload_n hC.1 hC.2.1 hd rfl (hl.at hx) (k p e R s m args below meth c H locs ls hC hR hL hl)
theorem go_aload {i : Nat} {x : Nat} (hd : decode (zb E) pc = .ok (.aload i, 2)) (hx : zat lv i = some (.ref x)) (k : Go E cs sl (pc + 2) lv (.ref x :: st) h) : Go E cs sl pc lv st h := by
  intro p e R s m args below meth c H locs ls hC hR hL hl
  exact lv_aload hC.1 hC.2.1 hd (hl.at hx) (k p e R s m args below meth c H locs ls hC hR hL hl)
theorem go_istore_n {j : Fin 4} {x : Int32} (hd : decode (zb E) pc = .ok (.istore_n j, 1)) (hn : (j : Nat) < (zm E).2.2.1) (k : Go E cs sl (pc + 1) (lv.set j (some (.int x))) st h) : Go E cs sl pc lv (.int x :: st) h := by
  intro p e R s m args below meth c H locs ls hC hR hL hl
  exact lv_istore_n hC.1 hC.2.1 hd rfl hl.has hn rfl (fun ls' hl' => k p e R s m args below meth c H locs ls' hC hR hL (hl.set rfl hl'))
theorem go_istore {i : Nat} {x : Int32} (hd : decode (zb E) pc = .ok (.istore i, 2)) (hn : i < (zm E).2.2.1) (k : Go E cs sl (pc + 2) (lv.set i (some (.int x))) st h) : Go E cs sl pc lv (.int x :: st) h := by
  intro p e R s m args below meth c H locs ls hC hR hL hl
  exact lv_istore hC.1 hC.2.1 hd hl.has hn rfl (fun ls' hl' => k p e R s m args below meth c H locs ls' hC hR hL (hl.set rfl hl'))
theorem go_astore_n {j : Fin 4} {x : Nat} (hd : decode (zb E) pc = .ok (.astore_n j, 1)) (hn : (j : Nat) < (zm E).2.2.1) (k : Go E cs sl (pc + 1) (lv.set j (some (.ref x))) st h) : Go E cs sl pc lv (.ref x :: st) h := by
  intro p e R s m args below meth c H locs ls hC hR hL hl
  exact lv_astore_n hC.1 hC.2.1 hd rfl hl.has hn rfl (fun ls' hl' => k p e R s m args below meth c H locs ls' hC hR hL (hl.set rfl hl'))
theorem go_astore {i : Nat} {x : Nat} (hd : decode (zb E) pc = .ok (.astore i, 2)) (hn : i < (zm E).2.2.1) (k : Go E cs sl (pc + 2) (lv.set i (some (.ref x))) st h) : Go E cs sl pc lv (.ref x :: st) h := by
  intro p e R s m args below meth c H locs ls hC hR hL hl
  exact lv_astore hC.1 hC.2.1 hd hl.has hn rfl (fun ls' hl' => k p e R s m args below meth c H locs ls' hC hR hL (hl.set rfl hl'))
theorem go_iinc {i : Nat} {n : Int} {x v : Int32} (hd : decode (zb E) pc = .ok (.iinc i n, 3)) (hx : zat lv i = some (.int x)) (hv : x + Int32.ofInt n = v) (hn : i < (zm E).2.2.1) (k : Go E cs sl (pc + 3) (lv.set i (some (.int v))) st h) : Go E cs sl pc lv st h := by
  intro p e R s m args below meth c H locs ls hC hR hL hl
  obtain ⟨q, hq⟩ := List.getElem?_of_mem (zpr_mem.mpr hx)
  exact lv_iinc hC.1 hC.2.1 hd hl.has hq hv hn rfl (fun ls' hl' => k p e R s m args below meth c H locs ls' hC hR hL (hl.set rfl hl'))
theorem go_iadd {x y : Int32} (hd : decode (zb E) pc = .ok (.iadd, 1)) (k : Go E cs sl (pc + 1) lv (.int (x + y) :: st) h) : Go E cs sl pc lv (.int y :: .int x :: st) h := by
  intro p e R s m args below meth c H locs ls hC hR hL hl
  exact lv_iadd hC.1 hC.2.1 hd (k p e R s m args below meth c H locs ls hC hR hL hl)
theorem go_isub {x y : Int32} (hd : decode (zb E) pc = .ok (.isub, 1)) (k : Go E cs sl (pc + 1) lv (.int (x - y) :: st) h) : Go E cs sl pc lv (.int y :: .int x :: st) h := by
  intro p e R s m args below meth c H locs ls hC hR hL hl
  exact lv_isub hC.1 hC.2.1 hd (k p e R s m args below meth c H locs ls hC hR hL hl)
theorem go_imul {x y : Int32} (hd : decode (zb E) pc = .ok (.imul, 1)) (k : Go E cs sl (pc + 1) lv (.int (x * y) :: st) h) : Go E cs sl pc lv (.int y :: .int x :: st) h := by
  intro p e R s m args below meth c H locs ls hC hR hL hl
  exact lv_imul hC.1 hC.2.1 hd (k p e R s m args below meth c H locs ls hC hR hL hl)
theorem go_iand {x y : Int32} (hd : decode (zb E) pc = .ok (.iand, 1)) (k : Go E cs sl (pc + 1) lv (.int (x &&& y) :: st) h) : Go E cs sl pc lv (.int y :: .int x :: st) h := by
  intro p e R s m args below meth c H locs ls hC hR hL hl
  exact lv_iand hC.1 hC.2.1 hd (k p e R s m args below meth c H locs ls hC hR hL hl)
theorem go_ior {x y : Int32} (hd : decode (zb E) pc = .ok (.ior, 1)) (k : Go E cs sl (pc + 1) lv (.int (x ||| y) :: st) h) : Go E cs sl pc lv (.int y :: .int x :: st) h := by
  intro p e R s m args below meth c H locs ls hC hR hL hl
  exact lv_ior hC.1 hC.2.1 hd (k p e R s m args below meth c H locs ls hC hR hL hl)
theorem go_ishl {x y : Int32} (hd : decode (zb E) pc = .ok (.ishl, 1)) (k : Go E cs sl (pc + 1) lv (.int (x <<< (y &&& 31)) :: st) h) : Go E cs sl pc lv (.int y :: .int x :: st) h := by
  intro p e R s m args below meth c H locs ls hC hR hL hl
  exact lv_ishl hC.1 hC.2.1 hd (k p e R s m args below meth c H locs ls hC hR hL hl)
theorem go_ishr {x y : Int32} (hd : decode (zb E) pc = .ok (.ishr, 1)) (k : Go E cs sl (pc + 1) lv (.int (x >>> (y &&& 31)) :: st) h) : Go E cs sl pc lv (.int y :: .int x :: st) h := by
  intro p e R s m args below meth c H locs ls hC hR hL hl
  exact lv_ishr hC.1 hC.2.1 hd (k p e R s m args below meth c H locs ls hC hR hL hl)
theorem go_irem {x y : Int32} (hd : decode (zb E) pc = .ok (.irem, 1)) (hne : ¬ y = 0) (k : Go E cs sl (pc + 1) lv (.int (x - x / y * y) :: st) h) : Go E cs sl pc lv (.int y :: .int x :: st) h := by
  intro p e R s m args below meth c H locs ls hC hR hL hl
  exact lv_irem hC.1 hC.2.1 hd hne (k p e R s m args below meth c H locs ls hC hR hL hl)
theorem go_iushr {x y : Int32} (hd : decode (zb E) pc = .ok (.iushr, 1)) (k : Go E cs sl (pc + 1) lv (.int ((x.toUInt32 >>> (y.toUInt32 &&& Int32.toUInt32 31)).toInt32) :: st) h) : Go E cs sl pc lv (.int y :: .int x :: st) h := by
  intro p e R s m args below meth c H locs ls hC hR hL hl
  exact lv_iushr hC.1 hC.2.1 hd rfl (k p e R s m args below meth c H locs ls hC hR hL hl)
theorem go_dup {v : Value} (hd : decode (zb E) pc = .ok (.dup, 1)) (hv : v.category = 1) (k : Go E cs sl (pc + 1) lv (v :: v :: st) h) : Go E cs sl pc lv (v :: st) h := by
  intro p e R s m args below meth c H locs ls hC hR hL hl
  exact lv_dup hC.1 hC.2.1 hd hv (k p e R s m args below meth c H locs ls hC hR hL hl)
theorem go_pop {v : Value} (hd : decode (zb E) pc = .ok (.pop, 1)) (hv : v.category = 1) (k : Go E cs sl (pc + 1) lv st h) : Go E cs sl pc lv (v :: st) h := by
  intro p e R s m args below meth c H locs ls hC hR hL hl
  exact lv_pop hC.1 hC.2.1 hd hv (k p e R s m args below meth c H locs ls hC hR hL hl)
theorem go_dup2 {v w : Value} (hd : decode (zb E) pc = .ok (.dup2, 1)) (hv : v.category = 1) (hw : w.category = 1) (k : Go E cs sl (pc + 1) lv (v :: w :: v :: w :: st) h) : Go E cs sl pc lv (v :: w :: st) h := by
  intro p e R s m args below meth c H locs ls hC hR hL hl
  exact lv_dup2_11 hC.1 hC.2.1 hd hv hw (k p e R s m args below meth c H locs ls hC hR hL hl)
theorem go_if_eq {x : Int32} {off : Int} {tgt : Nat} (hd : decode (zb E) pc = .ok (.ifCond .eq off, 3)) (ht : (pc : Int) + off = (tgt : Int)) (kt : x = 0 → Go E cs sl tgt lv st h) (kf : ¬ (x = 0) → Go E cs sl (pc + 3) lv st h) : Go E cs sl pc lv (.int x :: st) h := by
  intro p e R s m args below meth c H locs ls hC hR hL hl
  exact lv_if_eq hC.1 hC.2.1 hd ht (fun q => kt q p e R s m args below meth c H locs ls hC hR hL hl) (fun q => kf q p e R s m args below meth c H locs ls hC hR hL hl)
theorem go_icmp_eq {x y : Int32} {off : Int} {tgt : Nat} (hd : decode (zb E) pc = .ok (.if_icmp .eq off, 3)) (ht : (pc : Int) + off = (tgt : Int)) (kt : x = y → Go E cs sl tgt lv st h) (kf : ¬ (x = y) → Go E cs sl (pc + 3) lv st h) : Go E cs sl pc lv (.int y :: .int x :: st) h := by
  intro p e R s m args below meth c H locs ls hC hR hL hl
  exact lv_icmp_eq hC.1 hC.2.1 hd ht (fun q => kt q p e R s m args below meth c H locs ls hC hR hL hl) (fun q => kf q p e R s m args below meth c H locs ls hC hR hL hl)
theorem go_if_ne {x : Int32} {off : Int} {tgt : Nat} (hd : decode (zb E) pc = .ok (.ifCond .ne off, 3)) (ht : (pc : Int) + off = (tgt : Int)) (kt : ¬ x = 0 → Go E cs sl tgt lv st h) (kf : x = 0 → Go E cs sl (pc + 3) lv st h) : Go E cs sl pc lv (.int x :: st) h := by
  intro p e R s m args below meth c H locs ls hC hR hL hl
  exact lv_if_ne hC.1 hC.2.1 hd ht (fun q => kt q p e R s m args below meth c H locs ls hC hR hL hl) (fun q => kf q p e R s m args below meth c H locs ls hC hR hL hl)
theorem go_icmp_ne {x y : Int32} {off : Int} {tgt : Nat} (hd : decode (zb E) pc = .ok (.if_icmp .ne off, 3)) (ht : (pc : Int) + off = (tgt : Int)) (kt : ¬ x = y → Go E cs sl tgt lv st h) (kf : x = y → Go E cs sl (pc + 3) lv st h) : Go E cs sl pc lv (.int y :: .int x :: st) h := by
  intro p e R s m args below meth c H locs ls hC hR hL hl
  exact lv_icmp_ne hC.1 hC.2.1 hd ht (fun q => kt q p e R s m args below meth c H locs ls hC hR hL hl) (fun q => kf q p e R s m args below meth c H locs ls hC hR hL hl)
theorem go_if_lt {x : Int32} {off : Int} {tgt : Nat} (hd : decode (zb E) pc = .ok (.ifCond .lt off, 3)) (ht : (pc : Int) + off = (tgt : Int)) (kt : x < 0 → Go E cs sl tgt lv st h) (kf : ¬ (x < 0) → Go E cs sl (pc + 3) lv st h) : Go E cs sl pc lv (.int x :: st) h := by
  intro p e R s m args below meth c H locs ls hC hR hL hl
  exact lv_if_lt hC.1 hC.2.1 hd ht (fun q => kt q p e R s m args below meth c H locs ls hC hR hL hl) (fun q => kf q p e R s m args below meth c H locs ls hC hR hL hl)
theorem go_icmp_lt {x y : Int32} {off : Int} {tgt : Nat} (hd : decode (zb E) pc = .ok (.if_icmp .lt off, 3)) (ht : (pc : Int) + off = (tgt : Int)) (kt : x < y → Go E cs sl tgt lv st h) (kf : ¬ (x < y) → Go E cs sl (pc + 3) lv st h) : Go E cs sl pc lv (.int y :: .int x :: st) h := by
  intro p e R s m args below meth c H locs ls hC hR hL hl
  exact lv_icmp_lt hC.1 hC.2.1 hd ht (fun q => kt q p e R s m args below meth c H locs ls hC hR hL hl) (fun q => kf q p e R s m args below meth c H locs ls hC hR hL hl)
theorem go_if_ge {x : Int32} {off : Int} {tgt : Nat} (hd : decode (zb E) pc = .ok (.ifCond .ge off, 3)) (ht : (pc : Int) + off = (tgt : Int)) (kt : 0 ≤ x → Go E cs sl tgt lv st h) (kf : ¬ (0 ≤ x) → Go E cs sl (pc + 3) lv st h) : Go E cs sl pc lv (.int x :: st) h := by
  intro p e R s m args below meth c H locs ls hC hR hL hl
  exact lv_if_ge hC.1 hC.2.1 hd ht (fun q => kt q p e R s m args below meth c H locs ls hC hR hL hl) (fun q => kf q p e R s m args below meth c H locs ls hC hR hL hl)
theorem go_icmp_ge {x y : Int32} {off : Int} {tgt : Nat} (hd : decode (zb E) pc = .ok (.if_icmp .ge off, 3)) (ht : (pc : Int) + off = (tgt : Int)) (kt : y ≤ x → Go E cs sl tgt lv st h) (kf : ¬ (y ≤ x) → Go E cs sl (pc + 3) lv st h) : Go E cs sl pc lv (.int y :: .int x :: st) h := by
  intro p e R s m args below meth c H locs ls hC hR hL hl
  exact lv_icmp_ge hC.1 hC.2.1 hd ht (fun q => kt q p e R s m args below meth c H locs ls hC hR hL hl) (fun q => kf q p e R s m args below meth c H locs ls hC hR hL hl)
theorem go_if_gt {x : Int32} {off : Int} {tgt : Nat} (hd : decode (zb E) pc = .ok (.ifCond .gt off, 3)) (ht : (pc : Int) + off = (tgt : Int)) (kt : 0 < x → Go E cs sl tgt lv st h) (kf : ¬ (0 < x) → Go E cs sl (pc + 3) lv st h) : Go E cs sl pc lv (.int x :: st) h := by
  intro p e R s m args below meth c H locs ls hC hR hL hl
  exact lv_if_gt hC.1 hC.2.1 hd ht (fun q => kt q p e R s m args below meth c H locs ls hC hR hL hl) (fun q => kf q p e R s m args below meth c H locs ls hC hR hL hl)
theorem go_icmp_gt {x y : Int32} {off : Int} {tgt : Nat} (hd : decode (zb E) pc = .ok (.if_icmp .gt off, 3)) (ht : (pc : Int) + off = (tgt : Int)) (kt : y < x → Go E cs sl tgt lv st h) (kf : ¬ (y < x) → Go E cs sl (pc + 3) lv st h) : Go E cs sl pc lv (.int y :: .int x :: st) h := by
  intro p e R s m args below meth c H locs ls hC hR hL hl
  exact lv_icmp_gt hC.1 hC.2.1 hd ht (fun q => kt q p e R s m args below meth c H locs ls hC hR hL hl) (fun q => kf q p e R s m args below meth c H locs ls hC hR hL hl)
theorem go_if_le {x : Int32} {off : Int} {tgt : Nat} (hd : decode (zb E) pc = .ok (.ifCond .le off, 3)) (ht : (pc : Int) + off = (tgt : Int)) (kt : x ≤ 0 → Go E cs sl tgt lv st h) (kf : ¬ (x ≤ 0) → Go E cs sl (pc + 3) lv st h) : Go E cs sl pc lv (.int x :: st) h := by
  intro p e R s m args below meth c H locs ls hC hR hL hl
  exact lv_if_le hC.1 hC.2.1 hd ht (fun q => kt q p e R s m args below meth c H locs ls hC hR hL hl) (fun q => kf q p e R s m args below meth c H locs ls hC hR hL hl)
theorem go_icmp_le {x y : Int32} {off : Int} {tgt : Nat} (hd : decode (zb E) pc = .ok (.if_icmp .le off, 3)) (ht : (pc : Int) + off = (tgt : Int)) (kt : x ≤ y → Go E cs sl tgt lv st h) (kf : ¬ (x ≤ y) → Go E cs sl (pc + 3) lv st h) : Go E cs sl pc lv (.int y :: .int x :: st) h := by
  intro p e R s m args below meth c H locs ls hC hR hL hl
  exact lv_icmp_le hC.1 hC.2.1 hd ht (fun q => kt q p e R s m args below meth c H locs ls hC hR hL hl) (fun q => kf q p e R s m args below meth c H locs ls hC hR hL hl)
theorem go_goto {off : Int} {tgt : Nat} (hd : decode (zb E) pc = .ok (.goto off, 3)) (ht : (pc : Int) + off = (tgt : Int)) (k : Go E cs sl tgt lv st h) : Go E cs sl pc lv st h := by
  intro p e R s m args below meth c H locs ls hC hR hL hl
  exact lv_goto hC.1 hC.2.1 hd ht (k p e R s m args below meth c H locs ls hC hR hL hl)
theorem go_ifnonnull_r {x : Nat} {off : Int} {tgt : Nat} (hd : decode (zb E) pc = .ok (.ifnonnull off, 3)) (ht : (pc : Int) + off = (tgt : Int)) (k : Go E cs sl tgt lv st h) : Go E cs sl pc lv (.ref x :: st) h := by
  intro p e R s m args below meth c H locs ls hC hR hL hl
  exact lv_ifnonnull hC.1 hC.2.1 hd ht (k p e R s m args below meth c H locs ls hC hR hL hl)
theorem go_ifnonnull_n {off : Int} (hd : decode (zb E) pc = .ok (.ifnonnull off, 3)) (k : Go E cs sl (pc + 3) lv st h) : Go E cs sl pc lv (.null :: st) h := by
  intro p e R s m args below meth c H locs ls hC hR hL hl
  exact lv_ifnonnullN hC.1 hC.2.1 hd (k p e R s m args below meth c H locs ls hC hR hL hl)
theorem go_tableIn {dflt lo hi : Int} {offs : Array Int} {len : Nat} {x : Int32} {off : Int} {tgt : Nat} (hd : decode (zb E) pc = .ok (.tableswitch dflt lo hi offs, len)) (h1 : ¬ x.toInt < lo) (h2 : ¬ hi < x.toInt) (ho : offs[(x.toInt - lo).toNat]? = some off) (ht : (pc : Int) + off = (tgt : Int)) (k : Go E cs sl tgt lv st h) : Go E cs sl pc lv (.int x :: st) h := by
  intro p e R s m args below meth c H locs ls hC hR hL hl
  exact lv_tableIn hC.1 hC.2.1 hd h1 h2 ho ht (k p e R s m args below meth c H locs ls hC hR hL hl)
theorem go_tableOut {dflt lo hi : Int} {offs : Array Int} {len : Nat} {x : Int32} {tgt : Nat} (hd : decode (zb E) pc = .ok (.tableswitch dflt lo hi offs, len)) (h1 : x.toInt < lo ∨ hi < x.toInt) (ht : (pc : Int) + dflt = (tgt : Int)) (k : Go E cs sl tgt lv st h) : Go E cs sl pc lv (.int x :: st) h := by
  intro p e R s m args below meth c H locs ls hC hR hL hl
  exact lv_tableOut hC.1 hC.2.1 hd h1 ht (k p e R s m args below meth c H locs ls hC hR hL hl)
end ZR
