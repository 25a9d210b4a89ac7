/-! State: overload check, cooldown, power-up, a second -/
theorem upR_upR {σ : zS} {c : Nat} {f g : Nat → Int32} : upR (upR σ c f) c g = upR σ c g := by
  funext x
  by_cases h : x = c <;> simp [upR, h]
theorem zst_pf {γ : zG} {h : zH} {a p : Nat} {σ : zS} {f : Nat → Int32} (hp : p < 8) : (zps γ h a (upR σ (7 + p) f)).1 (a + 8 + p) = some (zpo f) := by
  rw [zst_port (zps_is γ h a _) hp, upR_s]
theorem zst_0u {γ : zG} {h : zH} {a p : Nat} {σ : zS} {f : Nat → Int32} : (zps γ h a (upR σ (7 + p) f)).1 a = some (zst γ a σ 0) := by
  rw [show (zps γ h a (upR σ (7 + p) f)).1 a = some (zst γ a (upR σ (7 + p) f) 0) from zps_is γ h a _ 0 (by decide)]
  simp only [zst, upR_n (show 2 ≠ 7 + p by omega)]
theorem zst_pp {γ : zG} {h : zH} {a p : Nat} {σ : zS} {f g : Nat → Int32} (hp : p < 8) : zu (zps γ h a (upR σ (7 + p) f)) (a + 8 + p) (zpo g) = zps γ h a (upR σ (7 + p) g) := by
  rw [zst_p hp, upR_upR]
def sOv (f : Nat → Int32) : Int32 := if 0 < f 7 ∧ f 7 < f 5 then f 8 + 1 else 0
def sC1 (s : zS × Int32) (k : Nat) : zS × Int32 := if sOv (s.1 (7 + k)) < s.1 2 2 then (upR s.1 (7 + k) (upd (s.1 (7 + k)) 8 (sOv (s.1 (7 + k)))), s.2) else (sLog (upR s.1 (7 + k) (upd (upd (upd (upd (s.1 (7 + k)) 8 (sOv (s.1 (7 + k)))) 7 0) 8 0) 9 (s.1 2 3))) (nI k) 2, s.2 ||| bit (nI k))
def sCt (σ : zS) : Nat → zS × Int32
  | 0 => (σ, 0)
  | k + 1 => sC1 (sCt σ k) k
theorem sC1_ok {s : zS × Int32} {k : Nat} (h : sOk s.1) : sOk (sC1 s k).1 := by
  unfold sC1
  split
  · exact h.up (by omega)
  · exact (h.up (by omega)).log
theorem sCt_ok {σ : zS} (h : sOk σ) : ∀ k, sOk (sCt σ k).1
  | 0 => h
  | k + 1 => sC1_ok (sCt_ok h k)
theorem sSh_ok : ∀ (k : Nat) (s : zS × Int32), sOk s.1 → sOk (sSh k s).1
  | 0, s, h => h
  | k + 1, s, h => by
    unfold sSh
    split
    · split
      · exact sSh_ok k s h
      · exact sSh_ok k _ (sOk.log (h.up (c := 7 + _) (by omega)))
    · exact h
def sD1 (cut : Int32) (σ : zS) (k : Nat) : zS := if cut &&& bit (nI k) = 0 ∧ 0 < σ (7 + k) 9 then upR σ (7 + k) (upd (σ (7 + k)) 9 (σ (7 + k) 9 - 1)) else σ
def sCd (cut : Int32) (σ : zS) : Nat → zS
  | 0 => σ
  | k + 1 => sD1 cut (sCd cut σ k) k
theorem sD1_ok {cut : Int32} {σ : zS} {k : Nat} (h : sOk σ) : sOk (sD1 cut σ k) := by
  unfold sD1
  split
  · exact h.up (by omega)
  · exact h
theorem sCd_ok {cut : Int32} {σ : zS} (h : sOk σ) : ∀ k, sOk (sCd cut σ k)
  | 0 => h
  | k + 1 => sD1_ok (sCd_ok h k)
def sTm (σ : zS) : zS := if 0 < σ 2 4 then up2 σ 2 4 (σ 2 4 - 1) else σ
def sP1 (τ : zS) : zS × Int32 := if 0 < τ 2 4 then (τ, 0) else if (sFp τ 8).1 = -6 then (τ, 0) else (sLog (up2 (upR τ (7 + (sFp τ 8).1.toNatClampNeg) (upd (τ (7 + (sFp τ 8).1.toNatClampNeg)) 7 (τ (7 + (sFp τ 8).1.toNatClampNeg) 6))) 2 4 (τ 2 1)) (sFp τ 8).1 0, 1)
def sPu (σ : zS) : zS × Int32 := sP1 (sTm σ)
theorem sTm_ok {σ : zS} (h : sOk σ) : sOk (sTm σ) := by
  unfold sTm
  split
  · exact h.up (by decide)
  · exact h
theorem sP1_ok {τ : zS} (h : sOk τ) : sOk (sP1 τ).1 := by
  unfold sP1
  split
  · exact h
  · split
    · exact h
    · exact sOk.log (sOk.up (h.up (by omega)) (by decide))
theorem sPu_ok {σ : zS} (h : sOk σ) : sOk (sPu σ).1 := sP1_ok (sTm_ok h)
def sSec (σ : zS) : zS × Int32 :=
  let s1 := sSh 8 (σ, 0)
  let s2 := sCt s1.1 8
  let s3 := sCd s2.2 s2.1 8
  let s4 := sPu s3
  (up2 s4.1 2 5 (s4.1 2 5 + 1), zbc s1.2 + zbc s2.2 + s4.2)
theorem sSec_ok {σ : zS} (h : sOk σ) : sOk (sSec σ).1 := sOk.up (sPu_ok (sCd_ok (sCt_ok (sSh_ok 8 _ h) 8) 8)) (by decide)
set_option maxRecDepth 4000 in
theorem kX2_cutPorts_ (γ : zG) (l : Launch) (n : Nat) (h : zH) (a : Nat) (σ : zS) (hs : zSt16 γ h a σ) (hok : sOk σ) (R : zS × Int32) (hR : sCt σ 8 = R) : Con γ l (n + 3) 0 0 MX2_cutPorts [.ref a] h (some (.int R.2)) (zps γ h a R.1) := by
  refine Con.go (by decide +kernel) (Nat.le_of_ble_eq_true rfl) ⟨rfl, trivial⟩ ?_
  show Go _ 0 0 0 [some (.ref a), none, none, none] [] _
  have loop : ∀ (m k : Nat) (s : zS × Int32), s = sCt σ k → sOk s.1 → k + m = 8 → Go (γ, l, n + 3, (0, 0), MX2_cutPorts, zF γ 0 0 (some (.int R.2)) (zps γ h a R.1)) 0 0 4 [some (.ref a), some (.int s.2), some (.int (nI k)), none] [] (zps γ h a s.1) := by
    intro m
    induction m with
    | zero =>
      intro k s he hok hk
      have hkN : k = 8 := by omega
      subst hkN
      refine go_iload_n dX2_cutPorts_4 rfl ?_
      refine go_bipush (v := 8) dX2_cutPorts_5 (by decide) ?_
      refine go_icmp_ge (tgt := 86) dX2_cutPorts_7 (by decide) (fun c7 => ?_) (fun c7 => absurd (by decide) c7)
      refine go_iload_n dX2_cutPorts_86 rfl ?_
      refine go_iret dX2_cutPorts_87 rfl ?_ ?_ (Nat.zero_le _) (Nat.zero_le _)
      · (rw [← hR, ← he])
      · (rw [← hR, ← he])
    | succ m ih =>
      intro k s he hok hk
      have hlt : k < 8 := by omega
      have hs := zps_is γ h a s.1
      have mid : Go (γ, l, n + 3, (0, 0), MX2_cutPorts, zF γ 0 0 (some (.int R.2)) (zps γ h a R.1)) 0 0 35 [some (.ref a), some (.int s.2), some (.int (nI k)), some (.ref (a + 8 + k))] [.int (sOv (s.1 (7 + k))), .ref (a + 8 + k)] (zps γ h a s.1) := by
        refine go_putf dX2_cutPorts_35 flX2_120 fnX1_8 (by exact zst_port hs hlt) rfl rfl (Nat.le_of_ble_eq_true rfl) ?_
        refine go_h (zst_p (f := (upd (s.1 (7 + k)) 8 (sOv (s.1 (7 + k))))) hlt) ?_
        refine go_aload_n dX2_cutPorts_38 rfl ?_
        refine go_getf dX2_cutPorts_39 flX2_120 (by exact zst_pf hlt) rfl ?_
        refine go_aload_n dX2_cutPorts_42 rfl ?_
        refine go_getf dX2_cutPorts_43 flX2_36 (by exact zst_0u) rfl ?_
        refine go_icmp_lt (tgt := 80) dX2_cutPorts_46 (by decide) (fun c46 => ?_) (fun c46 => ?_)
        · refine go_iinc dX2_cutPorts_80 rfl (nI_1 k) (Nat.le_of_ble_eq_true rfl) ?_
          refine go_goto (tgt := 4) dX2_cutPorts_83 (by decide) ?_
          have e1 : sC1 s k = _ := if_pos c46
          have g := ih (k + 1) (sC1 s k) (by rw [he]; rfl) (sC1_ok hok) (by omega)
          rw [e1] at g
          exact go_vl g ⟨rfl, rfl, rfl, trivial⟩
        · refine go_aload_n dX2_cutPorts_49 rfl ?_
          refine go_callVv (ci := 1) dX2_cutPorts_50 moX1_losePower cvX2_110 ⟨rfl, rfl⟩ (kX1_losePower γ l _ _ _ (upd (s.1 (7 + k)) 8 (sOv (s.1 (7 + k)))) (zst_pf hlt)) (by exact zst_pf hlt) rfl rfl (Nat.le_refl _) (Nat.zero_le _) (Nat.zero_le _) (Nat.le_of_ble_eq_true rfl) ?_
          refine go_h (zst_pp (g := (upd (upd (upd (s.1 (7 + k)) 8 (sOv (s.1 (7 + k)))) 7 0) 8 0)) hlt) ?_
          refine go_aload_n dX2_cutPorts_53 rfl ?_
          refine go_aload_n dX2_cutPorts_54 rfl ?_
          refine go_getf dX2_cutPorts_55 flX2_39 (by exact zst_0u) rfl ?_
          refine go_putf dX2_cutPorts_58 flX2_123 fnX1_9 (by exact zst_pf hlt) rfl rfl (Nat.le_of_ble_eq_true rfl) ?_
          refine go_h (zst_pp (g := (upd (upd (upd (upd (s.1 (7 + k)) 8 (sOv (s.1 (7 + k)))) 7 0) 8 0) 9 (s.1 2 3))) hlt) ?_
          refine go_aload_n dX2_cutPorts_61 rfl ?_
          refine go_getf dX2_cutPorts_62 flX2_28 (by exact zps_is γ h a _ 0 (by decide)) rfl ?_
          refine go_aload_n dX2_cutPorts_65 rfl ?_
          refine go_getf dX2_cutPorts_66 flX2_56 (by exact zps_is γ h a _ 0 (by decide)) rfl ?_
          refine go_iload_n dX2_cutPorts_69 rfl ?_
          refine go_iconst (v := 2) dX2_cutPorts_70 (by decide) ?_
          refine go_callVv (ci := 0) dX2_cutPorts_71 moX0_add cvX2_113 ⟨rfl, rfl⟩ (kX0_add γ l _ _ (a + 4) (fun c => upR s.1 (7 + k) (upd (upd (upd (upd (s.1 (7 + k)) 8 (sOv (s.1 (7 + k)))) 7 0) 8 0) 9 (s.1 2 3)) (3 + c)) (zst_log (zps_is γ h a _)) _ _ (hok.up (c := 7 + k) (by omega)) _ _ _) (by exact zps_is γ h a _ 4 (by decide)) rfl rfl (Nat.le_refl _) (Nat.zero_le _) (Nat.zero_le _) (Nat.le_of_ble_eq_true rfl) ?_
          refine go_h zst_add ?_
          refine go_iload_n dX2_cutPorts_74 rfl ?_
          refine go_iconst (v := 1) dX2_cutPorts_75 (by decide) ?_
          refine go_iload_n dX2_cutPorts_76 rfl ?_
          refine go_ishl dX2_cutPorts_77 ?_
          refine go_ior dX2_cutPorts_78 ?_
          refine go_istore_n dX2_cutPorts_79 (Nat.le_of_ble_eq_true rfl) ?_
          refine go_iinc dX2_cutPorts_80 rfl (nI_1 k) (Nat.le_of_ble_eq_true rfl) ?_
          refine go_goto (tgt := 4) dX2_cutPorts_83 (by decide) ?_
          have e1 : sC1 s k = _ := if_neg c46
          have g := ih (k + 1) (sC1 s k) (by rw [he]; rfl) (sC1_ok hok) (by omega)
          rw [e1] at g
          exact go_vl g ⟨rfl, rfl, rfl, trivial⟩
      refine go_iload_n dX2_cutPorts_4 rfl ?_
      refine go_bipush (v := 8) dX2_cutPorts_5 (by decide) ?_
      refine go_icmp_ge (tgt := 86) dX2_cutPorts_7 (by decide) (fun c7 => absurd c7 (zge hk)) (fun c7 => ?_)
      refine go_aload_n dX2_cutPorts_10 rfl ?_
      refine go_getf dX2_cutPorts_11 flX2_21 (by exact hs 0 (by decide)) rfl ?_
      refine go_iload_n dX2_cutPorts_14 rfl ?_
      refine go_ald (t0 := 2) (C := RX1) dX2_cutPorts_15 (by exact hs 3 (by decide)) rfl (zix rfl hlt (by decide)).1 (zix rfl hlt (by decide)).2 (zrf8 hlt) ?_
      refine go_astore_n dX2_cutPorts_16 (Nat.le_of_ble_eq_true rfl) ?_
      refine go_aload_n dX2_cutPorts_17 rfl ?_
      refine go_aload_n dX2_cutPorts_18 rfl ?_
      refine go_callVi (ci := 1) dX2_cutPorts_19 moX1_isOverloaded cvX2_117 ⟨rfl, rfl⟩ (kX1_isOverloaded γ l _ _ _ _ (zst_port hs hlt)) (by exact zst_port hs hlt) rfl rfl (Nat.le_refl _) (Nat.zero_le _) (Nat.zero_le _) (Nat.le_of_ble_eq_true rfl) ?_
      refine go_if_eq (tgt := 34) dX2_cutPorts_22 (by decide) (fun c22 => ?_) (fun c22 => ?_)
      · refine go_iconst (v := 0) dX2_cutPorts_34 (by decide) ?_
        rw [← show sOv (s.1 (7 + k)) = 0 from if_neg (zi_0.mp c22)]
        exact mid
      · refine go_aload_n dX2_cutPorts_25 rfl ?_
        refine go_getf dX2_cutPorts_26 flX2_120 (by exact zst_port hs hlt) rfl ?_
        refine go_iconst (v := 1) dX2_cutPorts_29 (by decide) ?_
        refine go_iadd dX2_cutPorts_30 ?_
        refine go_goto (tgt := 35) dX2_cutPorts_31 (by decide) ?_
        rw [show s.1 (7 + k) 8 + 1 = sOv (s.1 (7 + k)) from (if_pos (Classical.byContradiction fun q => c22 (zi_0.mpr q))).symm]
        exact mid
  refine go_h (zps_id hs).symm ?_
  refine go_iconst (v := 0) dX2_cutPorts_0 (by decide) ?_
  refine go_istore_n dX2_cutPorts_1 (Nat.le_of_ble_eq_true rfl) ?_
  refine go_iconst (v := 0) dX2_cutPorts_2 (by decide) ?_
  refine go_istore_n dX2_cutPorts_3 (Nat.le_of_ble_eq_true rfl) ?_
  exact go_vl (loop 8 0 (σ, 0) rfl hok rfl) ⟨rfl, rfl, rfl, trivial⟩
set_option maxRecDepth 4000 in
theorem kX2_coolDownExcept_ (γ : zG) (l : Launch) (n : Nat) (h : zH) (a : Nat) (σ : zS) (hs : zSt16 γ h a σ) (cut : Int32) (R : zS) (hR : sCd cut σ 8 = R) : Con γ l (n + 1) 0 0 MX2_coolDownExcept [.ref a, .int cut] h none (zps γ h a R) := by
  refine Con.go (by decide +kernel) (Nat.le_of_ble_eq_true rfl) ⟨rfl, rfl, trivial⟩ ?_
  show Go _ 0 0 0 [some (.ref a), some (.int cut), none, none] [] _
  have loop : ∀ (m k : Nat) (τ : zS), τ = sCd cut σ k → k + m = 8 → Go (γ, l, n + 1, (0, 0), MX2_coolDownExcept, zF γ 0 0 none (zps γ h a R)) 0 0 2 [some (.ref a), some (.int cut), some (.int (nI k)), none] [] (zps γ h a τ) := by
    intro m
    induction m with
    | zero =>
      intro k τ he hk
      have hkN : k = 8 := by omega
      subst hkN
      refine go_iload_n dX2_coolDownExcept_2 rfl ?_
      refine go_bipush (v := 8) dX2_coolDownExcept_3 (by decide) ?_
      refine go_icmp_ge (tgt := 59) dX2_coolDownExcept_5 (by decide) (fun c5 => ?_) (fun c5 => absurd (by decide) c5)
      refine go_vret dX2_coolDownExcept_59 rfl rfl ?_ (Nat.zero_le _) (Nat.zero_le _)
      · (rw [← hR, ← he])
    | succ m ih =>
      intro k τ he hk
      have hlt : k < 8 := by omega
      have hs := zps_is γ h a τ
      have mid : ∀ v : Int32, (v = 0 ↔ cut &&& bit (nI k) = 0) → Go (γ, l, n + 1, (0, 0), MX2_coolDownExcept, zF γ 0 0 none (zps γ h a R)) 0 0 21 [some (.ref a), some (.int cut), some (.int (nI k)), none] [.int v] (zps γ h a τ) := by
        intro v hv
        refine go_istore_n dX2_coolDownExcept_21 (Nat.le_of_ble_eq_true rfl) ?_
        refine go_iload_n dX2_coolDownExcept_22 rfl ?_
        refine go_if_ne (tgt := 53) dX2_coolDownExcept_23 (by decide) (fun c23 => ?_) (fun c23 => ?_)
        · refine go_iinc dX2_coolDownExcept_53 rfl (nI_1 k) (Nat.le_of_ble_eq_true rfl) ?_
          refine go_goto (tgt := 2) dX2_coolDownExcept_56 (by decide) ?_
          have e1 : sD1 cut τ k = _ := if_neg (fun q => c23 (hv.mpr q.1))
          have g := ih (k + 1) (sD1 cut τ k) (by rw [he]; rfl) (by omega)
          rw [e1] at g
          exact go_vl g ⟨rfl, rfl, rfl, trivial⟩
        · refine go_aload_n dX2_coolDownExcept_26 rfl ?_
          refine go_getf dX2_coolDownExcept_27 flX2_21 (by exact hs 0 (by decide)) rfl ?_
          refine go_iload_n dX2_coolDownExcept_30 rfl ?_
          refine go_ald (t0 := 2) (C := RX1) dX2_coolDownExcept_31 (by exact hs 3 (by decide)) rfl (zix rfl hlt (by decide)).1 (zix rfl hlt (by decide)).2 (zrf8 hlt) ?_
          refine go_getf dX2_coolDownExcept_32 flX2_123 (by exact zst_port hs hlt) rfl ?_
          refine go_if_le (tgt := 53) dX2_coolDownExcept_35 (by decide) (fun c35 => ?_) (fun c35 => ?_)
          · refine go_iinc dX2_coolDownExcept_53 rfl (nI_1 k) (Nat.le_of_ble_eq_true rfl) ?_
            refine go_goto (tgt := 2) dX2_coolDownExcept_56 (by decide) ?_
            have e1 : sD1 cut τ k = _ := if_neg (fun q => zle.mp c35 q.2)
            have g := ih (k + 1) (sD1 cut τ k) (by rw [he]; rfl) (by omega)
            rw [e1] at g
            exact go_vl g ⟨rfl, rfl, rfl, trivial⟩
          · refine go_aload_n dX2_coolDownExcept_38 rfl ?_
            refine go_getf dX2_coolDownExcept_39 flX2_21 (by exact hs 0 (by decide)) rfl ?_
            refine go_iload_n dX2_coolDownExcept_42 rfl ?_
            refine go_ald (t0 := 2) (C := RX1) dX2_coolDownExcept_43 (by exact hs 3 (by decide)) rfl (zix rfl hlt (by decide)).1 (zix rfl hlt (by decide)).2 (zrf8 hlt) ?_
            refine go_dup dX2_coolDownExcept_44 rfl ?_
            refine go_getf dX2_coolDownExcept_45 flX2_123 (by exact zst_port hs hlt) rfl ?_
            refine go_iconst (v := 1) dX2_coolDownExcept_48 (by decide) ?_
            refine go_isub dX2_coolDownExcept_49 ?_
            refine go_putf dX2_coolDownExcept_50 flX2_123 fnX1_9 (by exact zst_port hs hlt) rfl rfl (Nat.le_of_ble_eq_true rfl) ?_
            refine go_iinc dX2_coolDownExcept_53 rfl (nI_1 k) (Nat.le_of_ble_eq_true rfl) ?_
            refine go_goto (tgt := 2) dX2_coolDownExcept_56 (by decide) ?_
            refine go_h (zst_p (f := upd (τ (7 + k)) 9 (τ (7 + k) 9 - 1)) hlt) ?_
            have e1 : sD1 cut τ k = _ := if_pos ⟨hv.mp c23, Int32.not_le.mp c35⟩
            have g := ih (k + 1) (sD1 cut τ k) (by rw [he]; rfl) (by omega)
            rw [e1] at g
            exact go_vl g ⟨rfl, rfl, rfl, trivial⟩
      refine go_iload_n dX2_coolDownExcept_2 rfl ?_
      refine go_bipush (v := 8) dX2_coolDownExcept_3 (by decide) ?_
      refine go_icmp_ge (tgt := 59) dX2_coolDownExcept_5 (by decide) (fun c5 => absurd c5 (zge hk)) (fun c5 => ?_)
      refine go_iload_n dX2_coolDownExcept_8 rfl ?_
      refine go_iconst (v := 1) dX2_coolDownExcept_9 (by decide) ?_
      refine go_iload_n dX2_coolDownExcept_10 rfl ?_
      refine go_ishl dX2_coolDownExcept_11 ?_
      refine go_iand dX2_coolDownExcept_12 ?_
      refine go_if_eq (tgt := 20) dX2_coolDownExcept_13 (by decide) (fun c13 => ?_) (fun c13 => ?_)
      · refine go_iconst (v := 0) dX2_coolDownExcept_20 (by decide) ?_
        exact mid 0 ⟨fun _ => c13, fun _ => rfl⟩
      · refine go_iconst (v := 1) dX2_coolDownExcept_16 (by decide) ?_
        refine go_goto (tgt := 21) dX2_coolDownExcept_17 (by decide) ?_
        exact mid 1 ⟨fun q => absurd q (by decide), fun q => absurd q c13⟩
  refine go_h (zps_id hs).symm ?_
  refine go_iconst (v := 0) dX2_coolDownExcept_0 (by decide) ?_
  refine go_istore_n dX2_coolDownExcept_1 (Nat.le_of_ble_eq_true rfl) ?_
  exact go_vl (loop 8 0 σ rfl rfl) ⟨rfl, rfl, rfl, trivial⟩
set_option maxRecDepth 4000 in
theorem kX2_powerUp_ (γ : zG) (l : Launch) (n : Nat) (h : zH) (a : Nat) (σ : zS) (hs : zSt16 γ h a σ) (hok : sOk σ) (R : zS × Int32) (hR : sPu σ = R) : Con γ l (n + 4) 0 0 MX2_powerUp [.ref a] h (some (.int R.2)) (zps γ h a R.1) := by
  refine Con.go (by decide +kernel) (Nat.le_of_ble_eq_true rfl) ⟨rfl, trivial⟩ ?_
  show Go _ 0 0 0 [some (.ref a), none] [] _
  have mid : ∀ τ : zS, sOk τ → sP1 τ = R → Go (γ, l, n + 4, (0, 0), MX2_powerUp, zF γ 0 0 (some (.int R.2)) (zps γ h a R.1)) 0 0 17 [some (.ref a), none] [] (zps γ h a τ) := by
    intro τ hok hf
    have hs := zps_is γ h a τ
    refine go_aload_n dX2_powerUp_17 rfl ?_
    refine go_getf dX2_powerUp_18 flX2_53 (by exact hs 0 (by decide)) rfl ?_
    refine go_if_le (tgt := 26) dX2_powerUp_21 (by decide) (fun c21 => ?_) (fun c21 => ?_)
    · refine go_aload_n dX2_powerUp_26 rfl ?_
      refine go_callVi (ci := 2) dX2_powerUp_27 moX2_firstPortToPowerUp cvX2_126 ⟨rfl, rfl⟩ (kX2_firstPortToPowerUp γ l _ _ a τ hs) (by exact hs 0 (by decide)) rfl rfl (Nat.le_refl _) (Nat.zero_le _) (Nat.zero_le _) (Nat.le_of_ble_eq_true rfl) ?_
      refine go_istore_n dX2_powerUp_30 (Nat.le_of_ble_eq_true rfl) ?_
      refine go_iload_n dX2_powerUp_31 rfl ?_
      refine go_bipush (v := (-6)) dX2_powerUp_32 (by decide) ?_
      refine go_icmp_ne (tgt := 39) dX2_powerUp_34 (by decide) (fun c34 => ?_) (fun c34 => ?_)
      · obtain ⟨j, hlt, ej⟩ : ∃ j, j < 8 ∧ (sFp τ 8).1 = nI j := (sFp_ix τ 8 (Nat.le_refl 8)).resolve_left c34
        refine go_aload_n dX2_powerUp_39 rfl ?_
        refine go_getf dX2_powerUp_40 flX2_21 (by exact hs 0 (by decide)) rfl ?_
        refine go_iload_n dX2_powerUp_43 rfl ?_
        refine go_ald (t0 := 2) (C := RX1) dX2_powerUp_44 (by exact hs 3 (by decide)) rfl (zix ej hlt (by decide)).1 (zix ej hlt (by decide)).2 (zrf8 hlt) ?_
        refine go_aload_n dX2_powerUp_45 rfl ?_
        refine go_getf dX2_powerUp_46 flX2_21 (by exact hs 0 (by decide)) rfl ?_
        refine go_iload_n dX2_powerUp_49 rfl ?_
        refine go_ald (t0 := 2) (C := RX1) dX2_powerUp_50 (by exact hs 3 (by decide)) rfl (zix ej hlt (by decide)).1 (zix ej hlt (by decide)).2 (zrf8 hlt) ?_
        refine go_getf dX2_powerUp_51 flX2_82 (by exact zst_port hs hlt) rfl ?_
        refine go_putf dX2_powerUp_54 flX2_69 fnX1_7 (by exact zst_port hs hlt) rfl rfl (Nat.le_of_ble_eq_true rfl) ?_
        refine go_h (zst_p (f := (upd (τ (7 + j)) 7 (τ (7 + j) 6))) hlt) ?_
        refine go_aload_n dX2_powerUp_57 rfl ?_
        refine go_aload_n dX2_powerUp_58 rfl ?_
        refine go_getf dX2_powerUp_59 flX2_32 (by exact zst_0u) rfl ?_
        refine go_putf dX2_powerUp_62 flX2_53 fnX2_8 (by exact zps_is γ h a _ 0 (by decide)) rfl rfl (Nat.le_of_ble_eq_true rfl) ?_
        refine go_h (zst_2 (upd (upR τ (7 + j) (upd (τ (7 + j)) 7 (τ (7 + j) 6)) 2) 4 (τ 2 1)) rfl) ?_
        refine go_aload_n dX2_powerUp_65 rfl ?_
        refine go_getf dX2_powerUp_66 flX2_28 (by exact zps_is γ h a _ 0 (by decide)) rfl ?_
        refine go_aload_n dX2_powerUp_69 rfl ?_
        refine go_getf dX2_powerUp_70 flX2_56 (by exact zps_is γ h a _ 0 (by decide)) rfl ?_
        refine go_iload_n dX2_powerUp_73 rfl ?_
        refine go_iconst (v := 0) dX2_powerUp_74 (by decide) ?_
        refine go_callVv (ci := 0) dX2_powerUp_75 moX0_add cvX2_113 ⟨rfl, rfl⟩ (kX0_add γ l _ _ (a + 4) (fun c => up2 (upR τ (7 + j) (upd (τ (7 + j)) 7 (τ (7 + j) 6))) 2 4 (τ 2 1) (3 + c)) (zst_log (zps_is γ h a _)) _ _ (sOk.up (hok.up (c := 7 + j) (by omega)) (by decide)) _ _ _) (by exact zps_is γ h a _ 4 (by decide)) rfl rfl (Nat.le_refl _) (Nat.zero_le _) (Nat.zero_le _) (Nat.le_of_ble_eq_true rfl) ?_
        refine go_h zst_add ?_
        refine go_iconst (v := 1) dX2_powerUp_78 (by decide) ?_
        refine go_iret dX2_powerUp_79 rfl ?_ ?_ (Nat.zero_le _) (Nat.zero_le _)
        · rw [← hf, show sP1 τ = _ from (if_neg (zle.mp c21)).trans (if_neg c34), (zix ej hlt (by decide)).2]
        · rw [← hf, show sP1 τ = _ from (if_neg (zle.mp c21)).trans (if_neg c34), (zix ej hlt (by decide)).2]
      · refine go_iconst (v := 0) dX2_powerUp_37 (by decide) ?_
        refine go_iret dX2_powerUp_38 rfl ?_ ?_ (Nat.zero_le _) (Nat.zero_le _)
        · rw [← hf, show sP1 τ = (τ, 0) from (if_neg (zle.mp c21)).trans (if_pos c34)]
        · rw [← hf, show sP1 τ = (τ, 0) from (if_neg (zle.mp c21)).trans (if_pos c34)]
    · refine go_iconst (v := 0) dX2_powerUp_24 (by decide) ?_
      refine go_iret dX2_powerUp_25 rfl ?_ ?_ (Nat.zero_le _) (Nat.zero_le _)
      · rw [← hf, show sP1 τ = (τ, 0) from if_pos (Int32.not_le.mp c21)]
      · rw [← hf, show sP1 τ = (τ, 0) from if_pos (Int32.not_le.mp c21)]
  refine go_h (zps_id hs).symm ?_
  have hs := zps_is γ h a σ
  refine go_aload_n dX2_powerUp_0 rfl ?_
  refine go_getf dX2_powerUp_1 flX2_53 (by exact hs 0 (by decide)) rfl ?_
  refine go_if_le (tgt := 17) dX2_powerUp_4 (by decide) (fun c4 => ?_) (fun c4 => ?_)
  · exact mid σ hok (by rw [← hR, sPu, show sTm σ = σ from if_neg (zle.mp c4)])
  · refine go_aload_n dX2_powerUp_7 rfl ?_
    refine go_dup dX2_powerUp_8 rfl ?_
    refine go_getf dX2_powerUp_9 flX2_53 (by exact hs 0 (by decide)) rfl ?_
    refine go_iconst (v := 1) dX2_powerUp_12 (by decide) ?_
    refine go_isub dX2_powerUp_13 ?_
    refine go_putf dX2_powerUp_14 flX2_53 fnX2_8 (by exact hs 0 (by decide)) rfl rfl (Nat.le_of_ble_eq_true rfl) ?_
    refine go_h (zst_2 (upd (σ 2) 4 (σ 2 4 - 1)) rfl) ?_
    exact mid _ (sOk.up hok (c := 2) (by decide)) (by rw [← hR, sPu, show sTm σ = _ from if_pos (Int32.not_le.mp c4)]; rfl)
