/-! the law: rows over the script, the loop's invariant -/
def ML : zM := (yL_law, cL_law, 4, some .boolean)
def lwC (γ : zG) (b L : Nat) (xs : Nat → Int32) (s : State) (args : Array Value) : Prop := va_X b L xs s γ.2.2.1 ∧ b < zN γ ∧ s.heap = γ.2.2.1 ∧ args = #[.ref b]
def lwF (γ : zG) (b L : Nat) (xs : Nat → Int32) : State → Array Value → List Frame → State → Prop := fun s args below t => lwC γ b L xs s args → lw_Z below args s t
def EL (γ : zG) (l : Launch) (b L : Nat) (xs : Nat → Int32) : zE := (γ, l, 12, (600000, 7302250), ML, lwF γ b L xs)
section ZL
variable {γ : zG} {l : Launch} {b L : Nat} {xs : Nat → Int32} {cs sl pc : Nat} {lv : zLv} {st : List Value} {h : zH}
theorem go_sX {i : Int32} {k : Nat} (hd : decode cL_law pc = .ok (.iaload, 1)) (hq : vp_in i L ∧ i.toNatClampNeg = k) (kk : Go (EL γ l b L xs) cs sl (pc + 1) lv (.int (xs k) :: st) h) : Go (EL γ l b L xs) cs sl pc lv (.int i :: .ref b :: st) h := by
  intro p e R s m args below meth c H locs ls hC hR hL hl
  by_cases hf : lwC γ b L xs s args
  · obtain ⟨⟨scr, h1, h2, h3, h4, h5⟩, hb, -, -⟩ := hf
    obtain ⟨hin, hk⟩ := hq
    subst hk
    have hlt : i.toNatClampNeg < L := Nat.not_le.mp fun q => hin (Or.inr q)
    exact W.iald (v := .int (xs i.toNatClampNeg)) hC.1 hC.2.1 (by rw [hR.2.2.2 b hb]; exact h1) h2 h3 (by rw [h4]; exact hin) (h5 _ hlt) rfl rfl hd (kk p e R s m args below meth c H locs ls hC hR hL hl)
  · intro T hT X
    exact ⟨_, Steps.refl _, fun q => absurd q hf⟩
theorem go_sN (hd : decode cL_law pc = .ok (.arraylength, 1)) (kk : Go (EL γ l b L xs) cs sl (pc + 1) lv (.int (Int32.ofNat L) :: st) h) : Go (EL γ l b L xs) cs sl pc lv (.ref b :: st) h := by
  intro p e R s m args below meth c H locs ls hC hR hL hl
  by_cases hf : lwC γ b L xs s args
  · obtain ⟨⟨scr, h1, h2, h3, h4, h5⟩, hb, -, -⟩ := hf
    exact W.alen (n := Int32.ofNat L) hC.1 hC.2.1 (by rw [hR.2.2.2 b hb]; exact h1) h2 (by rw [h4] <;> rfl) rfl rfl hd (kk p e R s m args below meth c H locs ls hC hR hL hl)
  · intro T hT X
    exact ⟨_, Steps.refl _, fun q => absurd q hf⟩
theorem go_nz {v : Int32} (h0 : decode cL_law pc = .ok (.ifCond .eq 7, 3)) (h1 : decode cL_law (pc + 3) = .ok (.iconst 1, 1)) (h2 : decode cL_law (pc + 3 + 1) = .ok (.goto 4, 3)) (h3 : decode cL_law (pc + 7) = .ok (.iconst 0, 1)) (kk : Go (EL γ l b L xs) cs sl (pc + 8) lv (.int (zi (¬ v = 0)) :: st) h) : Go (EL γ l b L xs) cs sl pc lv (.int v :: st) h := by
  refine go_if_eq (tgt := pc + 7) h0 (by omega) (fun c => ?_) (fun c => ?_)
  · refine go_iconst (v := 0) h3 (by decide) ?_
    rw [zi_f (fun q => q c)] at kk
    exact kk
  · refine go_iconst (v := 1) h1 (by decide) ?_
    refine go_goto (tgt := pc + 8) h2 (by omega) ?_
    rw [zi_t c] at kk
    exact kk
theorem lw_retR {p : Program} {l : Launch} {e : Env} {R : Room} {s : State} {m : MethodId} {args : Array Value} {below : List Frame} {meth : Method} {c : Code} (hx : p.tables.exec = Jvm.exec) (hb : c.code = code) (hr : meth.sig.returnType = ret) (hlocks : meth.locks = false) {pc : Nat} {H : Heap} {ls : Array Slot} (hdg : decode code pc = .ok (.ireturn, 1)) : W p l e R s m args below meth c H [] 600000 7302250 (lw_Z below args s) (F0 m pc ls [.int 1]) := by
  intro T hT X
  obtain ⟨fs, hret, hrun, hended, hW, hframe⟩ := X.leave (v := some (.int 1)) (hlocks := hlocks) (fun h => by rw [hr] at h; cases h)
  have hmeth' : T.vm.method? m = some meth := X.method'
  refine ⟨T.setFrames fs, ?_, .returned (some (.int 1)), hrun, hended, rfl, ⟨_, rfl⟩, hW, hframe⟩
  jvm_step X.here [X.here.top, hx, hb, hdg, hmeth', hr, ret, narrow_b1]
  (try refine ⟨rfl, ?_⟩); (try refine ⟨rfl, ?_⟩)
  first | (intro acts; rw [hret _ acts rfl rfl rfl]) | rw [hret _ _ rfl rfl rfl]
  exact Steps.refl _
theorem go_lend (hd : decode cL_law pc = .ok (.ireturn, 1)) (hcs : cs ≤ 600000) (hsl : sl ≤ 7302250) : Go (EL γ l b L xs) cs sl pc lv [.int 1] h := by
  intro p e R s m args below meth c H locs ls hC hR hL hl
  by_cases hf : lwC γ b L xs s args
  · refine W.widen hcs hsl (va_forget (fun q hq => by rw [hf.2.2.1]; exact hL q hq) ?_)
    intro T hT X
    obtain ⟨t, a1, b1⟩ := lw_retR (pc := pc) (ls := ls) hC.1 hC.2.1 hC.2.2.1 hC.2.2.2.1 hd T hT X
    exact ⟨t, a1, fun _ => b1⟩
  · intro T hT X
    exact ⟨_, Steps.refl _, fun q => absurd q hf⟩
theorem go_callVs {E : zE} {idx np n' C' S' b ci : Nat} {M : zM} {As rest fs : List Value} {v : Int32} {h1 : zH} {q : vw_C} (hd : decode (zb E) pc = .ok (.invokevirtual idx, 3)) (hm : zMo M np)
    (hw : Cond.methodLink (zo E) idx M.1 ∈ zT ∧ Cond.instanceMethod M.1 ∈ zT ∧ Cond.selects M.1.cls M.1 M.1 ∈ zT) (hc : zcl[ci]? = some q ∧ q.1 = M.1.cls)
    (hcon : Con (zg E) (zl E) n' C' S' M (.ref b :: As) h (some (.int v)) h1) (hh : h.1 b = some (.inr (ci, fs))) (hst : st = As.reverse ++ .ref b :: rest) (hnp : As.length = np) (hn : n' + 1 ≤ zn E) (hcs : cs + C' ≤ zcc E) (hsl : sl + S' ≤ zcs E) (hrs : (rest.map fun v => v.category).sum ≤ 8)
    (kk : Go E (cs + C') (sl + S') (pc + 3) lv (.int v :: rest) h1) : Go E cs sl pc lv st h := go_callV hd hm hw hc hcon hh hst hnp hn hcs hsl hrs kk
end ZL
theorem sin {j k L : Nat} {x : Int32} (hx : x = nI k) (hk : k < 6) (hj : 6 * j + 6 ≤ L) (hL : L ≤ 3072) : vp_in (nI (6 * j) + x) L ∧ (nI (6 * j) + x).toNatClampNeg = 6 * j + k := by
  subst hx
  rw [nI_add]
  have e := nI_clamp (n := 6 * j + k) (by omega)
  refine ⟨fun q => ?_, e⟩
  rcases q with q | q
  · exact nI_pos (by omega) q
  · rw [e] at q; omega
theorem sin0 {j L : Nat} (hj : 6 * j + 6 ≤ L) (hL : L ≤ 3072) : vp_in (nI (6 * j)) L ∧ (nI (6 * j)).toNatClampNeg = 6 * j := by
  have e := nI_clamp (n := 6 * j) (by omega)
  refine ⟨fun q => ?_, e⟩
  rcases q with q | q
  · exact nI_pos (by omega) q
  · rw [e] at q; omega
/-! the invariant -/
def slI (γ : zG) (x : Nat) (h : zH) (sn : Nat → Option Nat) (μ : zS) (T k : Nat) : Prop := (sn k = none ∧ μ 3 k = 0) ∨ ∃ q ρ t', sn k = some q ∧ x + 40 ≤ q ∧ q + 16 ≤ h.2 ∧ zSt16 γ h q ρ ∧ RI ρ (slM μ k) t' t' ∧ t' ≤ T ∧ ¬ μ 3 k = 0
/-- the objects of the run: the switch at x, its State, its plan, the snapshots' array, the model at x + 34 -/
def LI (γ : zG) (x : Nat) (h : zH) (sn : Nat → Option Nat) (σ τ μ : zS) (t T : Nat) : Prop :=
  h.1 x = some (zsw x) ∧ zSt16 γ h (x + 1) σ ∧ zSt16 γ h (x + 17) τ ∧ h.1 (x + 33) = some (zas γ 2 sn) ∧ zMd γ h (x + 34) μ ∧ x + 40 ≤ h.2 ∧ RI σ (μ 0) t t ∧ t ≤ T ∧ (∀ k, k < 2 → slI γ x h sn μ T k) ∧ ∀ q q', sn 0 = some q → sn 1 = some q' → q + 16 ≤ q' ∨ q' + 16 ≤ q
theorem LI.of {γ : zG} {x : Nat} {h g : zH} {sn : Nat → Option Nat} {σ τ μ σ' τ' μ' : zS} {t T t' T' : Nat} (I : LI γ x h sn σ τ μ t T) (hx : g.1 x = some (zsw x)) (hs : zSt16 γ g (x + 1) σ') (ht : zSt16 γ g (x + 17) τ') (ha : g.1 (x + 33) = some (zas γ 2 sn)) (hm : zMd γ g (x + 34) μ') (hR : RI σ' (μ' 0) t' t') (htT : t' ≤ T') (hT : T ≤ T') (hsl : nSl μ μ') (hn : g.2 = h.2) (ho : ∀ y, x + 40 ≤ y → g.1 y = h.1 y) : LI γ x g sn σ' τ' μ' t' T' := by
  obtain ⟨-, -, -, -, -, i6, -, -, i9, i10⟩ := I
  refine ⟨hx, hs, ht, ha, hm, by omega, hR, htT, fun k hk => ?_, i10⟩
  rcases i9 k hk with ⟨a, b⟩ | ⟨q, ρ, t1, a, b, c, d, e, f, g1⟩
  · exact Or.inl ⟨a, by rw [hsl.2]; exact b⟩
  · refine Or.inr ⟨q, ρ, t1, a, b, by omega, fun i hi => (ho _ (by omega)).trans (d i hi), ?_, by omega, by rw [hsl.2]; exact g1⟩
    have : slM μ' k = slM μ k := by
      funext i
      show μ' 2 _ = μ 2 _
      rw [hsl.1]
    rw [this]
    exact e
theorem LI.same {γ : zG} {x : Nat} {h : zH} {sn : Nat → Option Nat} {σ τ μ : zS} {t T T' : Nat} (I : LI γ x h sn σ τ μ t T) (hT : T ≤ T') : LI γ x h sn σ τ μ t T' := by
  obtain ⟨i1, i2, i3, i4, i5, i6, i7, i8, -⟩ := id I
  exact I.of i1 i2 i3 i4 i5 i7 (by omega) hT ⟨rfl, rfl⟩ rfl (fun _ _ => rfl)
theorem LI.step {γ : zG} {x : Nat} {h : zH} {sn : Nat → Option Nat} {σ τ μ σ' μ' : zS} {t T t' T' : Nat} (I : LI γ x h sn σ τ μ t T) (hR : RI σ' (μ' 0) t' t') (htT : t' ≤ T') (hT : T ≤ T') (hsl : nSl μ μ') : LI γ x (zpm γ (zps γ h (x + 1) σ') (x + 34) μ') sn σ' τ μ' t' T' := by
  obtain ⟨i1, i2, i3, i4, i5, i6, i7, i8, -⟩ := id I
  refine I.of ?_ ?_ ?_ ?_ ?_ hR htT hT hsl rfl (fun y hy => ?_)
  · exact (zput_out (by omega)).trans ((zput_out (by omega)).trans i1)
  · exact zIs.out (zput_is _ _ _ _) (by omega)
  · exact zIs.out (zIs.out i3 (by omega)) (by omega)
  · exact (zput_out (by omega)).trans ((zput_out (by omega)).trans i4)
  · exact zput_is _ _ _ _
  · exact (zput_out (by omega)).trans (zput_out (by omega))
theorem LI.plan {γ : zG} {x : Nat} {h : zH} {sn : Nat → Option Nat} {σ τ μ τ' μ' : zS} {t T T' : Nat} (I : LI γ x h sn σ τ μ t T) (hR : RI σ (μ' 0) t t) (hT : T ≤ T') (hsl : nSl μ μ') : LI γ x (zpm γ (zps γ h (x + 17) τ') (x + 34) μ') sn σ τ' μ' t T' := by
  obtain ⟨i1, i2, i3, i4, i5, i6, i7, i8, -⟩ := id I
  refine I.of ?_ ?_ ?_ ?_ ?_ hR (by omega) hT hsl rfl (fun y hy => ?_)
  · exact (zput_out (by omega)).trans ((zput_out (by omega)).trans i1)
  · exact zIs.out (zIs.out i2 (by omega)) (by omega)
  · exact zIs.out (zput_is _ _ _ _) (by omega)
  · exact (zput_out (by omega)).trans ((zput_out (by omega)).trans i4)
  · exact zput_is _ _ _ _
  · exact (zput_out (by omega)).trans (zput_out (by omega))
theorem sv_mark {μ : zS} {v : Int32} {k : Nat} : nSv μ v 3 k = if k = ix v then 1 else μ 3 k := by
  show upd (μ 3) (ix v) 1 k = _
  by_cases hk : k = ix v
  · rw [if_pos hk, hk, upd_s]
  · rw [if_neg hk, upd_o hk]
/-- a snapshot written, over an old one or a new one -/
theorem LI.save {γ : zG} {x : Nat} {h g : zH} {sn sn' : Nat → Option Nat} {σ τ μ ρ' : zS} {t T T' q : Nat} {v : Int32} (I : LI γ x h sn σ τ μ t T) (hv : aT v) (hT : T ≤ T') (hR : RI ρ' (slM (nSv μ v) (ix v)) t t) (hg : h.2 ≤ g.2) (hq : x + 40 ≤ q) (hq2 : q + 16 ≤ g.2) (hat : zSt16 γ g q ρ') (hsn : sn' (ix v) = some q) (hso : ∀ k, k ≠ ix v → sn' k = sn k)
    (ha : g.1 (x + 33) = some (zas γ 2 sn')) (hlow : ∀ y, y < x + 40 → y ≠ x + 33 → g.1 y = h.1 y) (hoth : ∀ k, k < 2 → k ≠ ix v → ∀ q', sn k = some q' → (q + 16 ≤ q' ∨ q' + 16 ≤ q) ∧ (q' + 16 ≤ h.2 → ∀ y, q' ≤ y → y < q' + 16 → g.1 y = h.1 y)) : LI γ x (zpm γ g (x + 34) (nSv μ v)) sn' σ τ (nSv μ v) t T' := by
  obtain ⟨i1, i2, i3, i4, i5, i6, i7, i8, i9, i10⟩ := I
  have hk2 := (zn2 hv).2
  change ix v < 2 at hk2
  refine ⟨(zput_out (by omega)).trans ((hlow _ (by omega) (by omega)).trans i1), zIs.out (fun i hi => (hlow _ (by omega) (by omega)).trans (i2 i hi)) (by omega), zIs.out (fun i hi => (hlow _ (by omega) (by omega)).trans (i3 i hi)) (by omega), (zput_out (by omega)).trans ha, zput_is _ _ _ _, by show x + 40 ≤ g.2; omega, i7, by omega, fun k hk => ?_, fun q1 q2 e1 e2 => ?_⟩
  · by_cases hkv : k = ix v
    · subst hkv
      exact Or.inr ⟨q, ρ', t, hsn, hq, hq2, zIs.out hat (by omega), hR, by omega, by rw [sv_mark, if_pos rfl]; decide⟩
    · rcases i9 k hk with ⟨a, b⟩ | ⟨q', ρ, t1, a, b, c, d, e, f, g1⟩
      · exact Or.inl ⟨(hso k hkv).trans a, by rw [sv_mark, if_neg hkv]; exact b⟩
      · refine Or.inr ⟨q', ρ, t1, (hso k hkv).trans a, b, by show q' + 16 ≤ g.2; omega, zIs.out (fun i hi => ((hoth k hk hkv q' a).2 c _ (by omega) (by omega)).trans (d i hi)) (by omega), sv_other hkv e, by omega, by rw [sv_mark, if_neg hkv]; exact g1⟩
  · by_cases h0 : 0 = ix v
    · rw [h0, hsn] at e1
      have e1 := Option.some.inj e1
      subst e1
      rw [hso 1 (by omega)] at e2
      exact (hoth 1 (by omega) (by omega) q2 e2).1
    · have h1 : 1 = ix v := by omega
      rw [h1, hsn] at e2
      have e2 := Option.some.inj e2
      subst e2
      rw [hso 0 (by omega)] at e1
      exact (hoth 0 (by omega) (by omega) q1 e1).1.symm
/-- where the loop goes on -/
def Nxt (γ : zG) (l : Launch) (b L : Nat) (xs : Nat → Int32) (x j : Nat) : Prop := ∀ (h' : zH) (sn' : Nat → Option Nat) (σ' τ' μ' : zS) (t' : Nat), LI γ x h' sn' σ' τ' μ' t' (60 * j + 60) → Go (EL γ l b L xs) (40 + 16 * j + 16) (1073 + 157 * j + 157) 954 [some (.ref b), some (.ref x), some (.ref (x + 34)), some (.int (nI (6 * j)))] [] h'
