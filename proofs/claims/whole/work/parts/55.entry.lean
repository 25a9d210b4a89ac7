/-! the law's entry -/
theorem lw_sta {args : Array Value} {s : State} {A : Nat → Prop} (nm : String) (f : Nat → Int32) (hA : ∀ a : Nat, a < s.heap.size → ¬ A a) (h1 : (Cond.arrayOf (.static RX3 nm "[I") .int).before args s = true) (h2 : (Cond.eq (.length (.static RX3 nm "[I")) (.int 5)).before args s = true)
    (e0 : (Cond.eq (.elem (.static RX3 nm "[I") (.int 0)) (.int (f 0))).before args s = true) (e1 : (Cond.eq (.elem (.static RX3 nm "[I") (.int 1)) (.int (f 1))).before args s = true) (e2 : (Cond.eq (.elem (.static RX3 nm "[I") (.int 2)) (.int (f 2))).before args s = true) (e3 : (Cond.eq (.elem (.static RX3 nm "[I") (.int 3)) (.int (f 3))).before args s = true) (e4 : (Cond.eq (.elem (.static RX3 nm "[I") (.int 4)) (.int (f 4))).before args s = true)
    (hl : (Cond.laysStatic RX3 nm "[I").before args s = true) (hi : (Cond.initialized RX3).before args s = true) : ∃ t : Nat, va_Z RX3 nm "[I" (.ref t) A s s.heap ∧ va_T .int t 5 (fun j => .int (f j)) A s s.heap := by
  obtain ⟨t, ht, hT⟩ := va_Tof (tm := .static RX3 nm "[I") (ty := .int) (N := 5) (f := fun j => .int (f j)) (A := A) (by decide) h1 (va_eqt h2) (fun j hj => by
    match j, hj with
    | 0, _ => exact va_eqt e0
    | 1, _ => exact va_eqt e1
    | 2, _ => exact va_eqt e2
    | 3, _ => exact va_eqt e3
    | 4, _ => exact va_eqt e4) hA
  exact ⟨t, va_Zof hl hi ht hA, hT⟩
theorem lw_world {s : State} {args : Array Value} (hts : ∀ w ∈ lw_tbl, w.before args s = true) (hgv : (Jvm.Cond.and given_1 narrow_1).before args s = true) : ∃ γ : zG, γ.2.2.1 = s.heap ∧ zK γ s := by
  have htz : ∀ w ∈ zT, w.before args s = true := fun w hw => hts w (List.mem_filter.mp hw).1
  have hs := flat_of_before _ hgv
  obtain ⟨c0, i0, k0⟩ := u_known htz zws0 (htz _ clX2_25.2.1)
  obtain ⟨c1, i1, k1⟩ := u_known htz zws1 (htz _ clX2_19.2.1)
  obtain ⟨c2, i2, k2⟩ := u_known htz zws2 (htz _ clX3_7.2.1)
  obtain ⟨c3, i3, k3⟩ := u_known htz zws3 (htz _ clL_7.2.1)
  obtain ⟨c4, i4, k4⟩ := u_known htz zws4 (htz _ clL_10.2.1)
  obtain ⟨a0, A0, p0, f0, g0, h0⟩ := Cond.arrayClass_spec (htz _ arr_int)
  obtain ⟨a1, A1, p1, f1, g1, h1⟩ := Cond.arrayClass_spec (htz _ arr_boolean)
  have w2 := hts (.arrayOver (.object RX1)) (by decide +kernel)
  have w3 := hts (.arrayOver (.object RX2)) (by decide +kernel)
  obtain ⟨p2, a2, A2, f2, -, g2, h2, n2⟩ := Cond.arrayOver_spec w2
  obtain ⟨p3, a3, A3, f3, -, g3, h3, n3⟩ := Cond.arrayOver_spec w3
  obtain ⟨t0, z0, y0⟩ := lw_sta (A := fun q => s.heap.size ≤ q) "CLASS_CURRENT_FROM" (zsv 0) (fun a ha => Nat.not_le.mpr ha) (hs (.arrayOf (.static RX3 "CLASS_CURRENT_FROM" "[I") .int) (by decide +kernel)) (hs (.eq (.length (.static RX3 "CLASS_CURRENT_FROM" "[I")) (.int 5)) (by decide +kernel)) (hs (.eq (.elem (.static RX3 "CLASS_CURRENT_FROM" "[I") (.int 0)) (.int 0)) (by decide +kernel)) (hs (.eq (.elem (.static RX3 "CLASS_CURRENT_FROM" "[I") (.int 1)) (.int 9)) (by decide +kernel)) (hs (.eq (.elem (.static RX3 "CLASS_CURRENT_FROM" "[I") (.int 2)) (.int 17)) (by decide +kernel)) (hs (.eq (.elem (.static RX3 "CLASS_CURRENT_FROM" "[I") (.int 3)) (.int 26)) (by decide +kernel)) (hs (.eq (.elem (.static RX3 "CLASS_CURRENT_FROM" "[I") (.int 4)) (.int 36)) (by decide +kernel)) (hts (.laysStatic RX3 "CLASS_CURRENT_FROM" "[I") (by decide +kernel)) (htz _ clL_7.2.2)
  obtain ⟨t1, z1, y1⟩ := lw_sta (A := fun q => s.heap.size ≤ q) "CLASS_CURRENT_TO" (zsv 1) (fun a ha => Nat.not_le.mpr ha) (hs (.arrayOf (.static RX3 "CLASS_CURRENT_TO" "[I") .int) (by decide +kernel)) (hs (.eq (.length (.static RX3 "CLASS_CURRENT_TO" "[I")) (.int 5)) (by decide +kernel)) (hs (.eq (.elem (.static RX3 "CLASS_CURRENT_TO" "[I") (.int 0)) (.int 4)) (by decide +kernel)) (hs (.eq (.elem (.static RX3 "CLASS_CURRENT_TO" "[I") (.int 1)) (.int 12)) (by decide +kernel)) (hs (.eq (.elem (.static RX3 "CLASS_CURRENT_TO" "[I") (.int 2)) (.int 20)) (by decide +kernel)) (hs (.eq (.elem (.static RX3 "CLASS_CURRENT_TO" "[I") (.int 3)) (.int 30)) (by decide +kernel)) (hs (.eq (.elem (.static RX3 "CLASS_CURRENT_TO" "[I") (.int 4)) (.int 44)) (by decide +kernel)) (hts (.laysStatic RX3 "CLASS_CURRENT_TO" "[I") (by decide +kernel)) (htz _ clL_7.2.2)
  obtain ⟨t2, z2, y2⟩ := lw_sta (A := fun q => s.heap.size ≤ q) "CLASS_MAXIMUM" (zsv 2) (fun a ha => Nat.not_le.mpr ha) (hs (.arrayOf (.static RX3 "CLASS_MAXIMUM" "[I") .int) (by decide +kernel)) (hs (.eq (.length (.static RX3 "CLASS_MAXIMUM" "[I")) (.int 5)) (by decide +kernel)) (hs (.eq (.elem (.static RX3 "CLASS_MAXIMUM" "[I") (.int 0)) (.int 154)) (by decide +kernel)) (hs (.eq (.elem (.static RX3 "CLASS_MAXIMUM" "[I") (.int 1)) (.int 40)) (by decide +kernel)) (hs (.eq (.elem (.static RX3 "CLASS_MAXIMUM" "[I") (.int 2)) (.int 70)) (by decide +kernel)) (hs (.eq (.elem (.static RX3 "CLASS_MAXIMUM" "[I") (.int 3)) (.int 154)) (by decide +kernel)) (hs (.eq (.elem (.static RX3 "CLASS_MAXIMUM" "[I") (.int 4)) (.int 300)) (by decide +kernel)) (hts (.laysStatic RX3 "CLASS_MAXIMUM" "[I") (by decide +kernel)) (htz _ clL_7.2.2)
  refine ⟨((fun k => match k with | 0 => c0 | 1 => c1 | 2 => c2 | 3 => c3 | _ => c4, fun k => match k with | 0 => i0 | 1 => i1 | 2 => i2 | 3 => i3 | _ => i4), (fun k => match k with | 0 => a0 | 1 => a1 | 2 => a2 | _ => a3), s.heap, (fun k => match k with | 0 => t0 | 1 => t1 | _ => t2)), rfl, ⟨fun c q hq => ?_, fun k q hq => ?_⟩, fun k hk => ?_, va_AO.of w2, va_AO.of w3⟩
  · match c, hq with
    | 0, hq => cases hq; exact k0
    | 1, hq => cases hq; exact k1
    | 2, hq => cases hq; exact k2
    | 3, hq => cases hq; exact k3
    | 4, hq => cases hq; exact k4
    | n + 5, hq => simp [zcl] at hq
  · match k, hq with
    | 0, hq => cases hq; exact ⟨fun n z => ⟨fun k h => (by cases h), A0, g0, p0, h0⟩, f0⟩
    | 1, hq => cases hq; exact ⟨fun n z => ⟨fun k h => (by cases h), A1, g1, p1, h1⟩, f1⟩
    | 2, hq => cases hq; exact ⟨fun n z => ⟨fun k h => (by cases h), A2, g2, p2, h2⟩, ⟨A2, p2, g2, h2, f2, n2⟩⟩
    | 3, hq => cases hq; exact ⟨fun n z => ⟨fun k h => (by cases h), A3, g3, p3, h3⟩, ⟨A3, p3, g3, h3, f3, n3⟩⟩
    | n + 4, hq => simp [zty] at hq
  · match k, hk with
    | 0, _ => exact ⟨z0, y0⟩
    | 1, _ => exact ⟨z1, y1⟩
    | 2, _ => exact ⟨z2, y2⟩
/-- from the entry, for every script of at most 3072 ints, the law comes to its end with true -/
theorem whole_start {p : Program} {e : Env} {s : State} {m : MethodId} {below : List Frame} {meth : Method} {c : Code} (l : Launch) (hflags : l.flags = flags0) {b L : Nat} {xs : Nat → Int32} (hL : L ≤ 3072) (C0 : lw_At p s m meth c b L xs) : W p l e room_1 s m #[Value.ref b] below meth c s.heap [] 0 0 (lw_Z below #[Value.ref b] s) (entryFrame m ([Value.ref b] : List Value).toArray 4) := by
  obtain ⟨hx, hb, hr, hml, hown, hts, hX, hbl, hlocks, hgv⟩ := C0
  obtain ⟨γ, hN, hK⟩ := lw_world hts hgv
  have hl := lv_entry [Value.ref b] (n := 4) (Nat.le_of_ble_eq_true rfl)
  have hzN : zN γ = s.heap.size := by unfold zN; rw [hN]
  have hC : zC (EL γ l b L xs) p room_1 s m #[Value.ref b] meth c := by
    refine ⟨hx, hb, hr, hlocks, hml, hown, fun h => ?_, fun w hw => hts w (List.mem_filter.mp hw).1, hK, Nat.le_of_eq hzN, ?_, ?_, ?_, ?_⟩
    · exact absurd (show "law" = "<init>" from h) (by decide)
    · show 12 ≤ 12
      exact Nat.le_refl _
    · show 36 * 12 ≤ 432
      decide
    · show 600000 ≤ 600000
      exact Nat.le_refl _
    · show 7302250 ≤ 7302250
      exact Nat.le_refl _
  have hR : zR γ (fun _ => none, s.heap.size) s.heap := by
    refine ⟨rfl, Nat.le_of_eq hzN, fun a e h => ?_, fun q _ => ?_⟩
    · exact absurd (show (none : Option va_E) = some e from h) (by simp)
    · rw [hN]
  have hloc := zloc_entry (As := [Value.ref b]) (fun v hv => by rw [List.mem_singleton.mp hv]; rfl) hl
  have hgo := lw_go γ l b L xs hL s.heap.size p e room_1 s m #[Value.ref b] below meth c s.heap [] _ hC hR (fun q hq => by cases hq) hloc
  rw [lg_entry_eq]
  intro T hT X
  obtain ⟨t, a1, b1⟩ := hgo T hT X
  exact ⟨t, a1, b1 ⟨by rw [hN]; exact hX, by rw [hzN]; exact hbl, hN.symm, rfl⟩⟩
