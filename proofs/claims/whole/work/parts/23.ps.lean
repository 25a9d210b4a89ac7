/-! PoeSwitch: advance, planning, snapshots, constructor -/
def sAd (σ : zS) : Nat → zS × Int32
  | 0 => (σ, 0)
  | k + 1 => ((sSec (sAd σ k).1).1, (sAd σ k).2 + (sSec (sAd σ k).1).2)
theorem sAd_ok {σ : zS} (h : sOk σ) : ∀ k, sOk (sAd σ k).1
  | 0 => h
  | k + 1 => sSec_ok (sAd_ok h k)
def mAdv (σ : zS) (v : Int32) : Int32 × zS := if 1 ≤ v ∧ v ≤ 60 then ((sAd σ (ix v)).2, (sAd σ (ix v)).1) else (-2, σ)
theorem zps_out {γ : zG} {h : zH} {a y : Nat} {σ : zS} (hy : y < a ∨ a + 16 ≤ y) : (zps γ h a σ).1 y = h.1 y := zput_out hy
theorem zn60 {v : Int32} (h : 1 ≤ v ∧ v ≤ 60) : v = nI (ix v) ∧ ix v < 61 := by
  refine znat (n := 61) (m := 60) (by decide) ⟨?_, h.2⟩ (by decide)
  have h1 := Int32.le_iff_toInt_le.mp h.1
  refine Int32.le_iff_toInt_le.mpr ?_
  have e1 : (1 : Int32).toInt = 1 := by decide
  have e0 : (0 : Int32).toInt = 0 := by decide
  omega
theorem sCp_6 {σ τ : zS} : (sCp σ τ 6 0 = τ 6 0) ∧ (sCp σ τ 6 1 = τ 6 1) := ⟨rfl, rfl⟩
theorem sCp_ok {σ τ : zS} (h : sOk τ) : sOk (sCp σ τ) := sOk.of h.1 h.2.1 (sCp_6.1.trans h.2.2.1) (sCp_6.2.trans h.2.2.2)
/-- settling: with m looks left, k seconds gone -/
def sSet : Nat → zS → Nat → Int32 × zS
  | 0, τ, _ => (-6, τ)
  | m + 1, τ, k => if sStab τ then (nI k, τ) else sSet m (sSec τ).1 (k + 1)
def mStl (σ τ : zS) : Int32 × zS := sSet 301 (sCp τ σ) 0
theorem sSet_t {m k : Nat} {τ : zS} (h : sStab τ) : sSet (m + 1) τ k = (nI k, τ) := if_pos h
theorem sSet_f {m k : Nat} {τ : zS} (h : ¬ sStab τ) : sSet (m + 1) τ k = sSet m (sSec τ).1 (k + 1) := if_neg h
set_option maxRecDepth 4000 in
theorem kX3_advance_ (γ : zG) (l : Launch) (n : Nat) (h : zH) (x : Nat) (σ : zS) (hx : h.1 x = some (zsw x)) (hs : zSt16 γ h (x + 1) σ) (hok : sOk σ) (v : Int32) (R : Int32 × zS) (hR : mAdv σ v = R) : Con γ l (n + 6) 0 0 MX3_advance [.ref x, .int v] h (some (.int R.1)) (zps γ h (x + 1) R.2) := by
  refine Con.go (by decide +kernel) (Nat.le_of_ble_eq_true rfl) ⟨rfl, rfl, trivial⟩ ?_
  show Go _ 0 0 0 [some (.ref x), some (.int v), none, none] [] _
  have loop : ∀ N : Nat, N < 61 → ((sAd σ N).2, (sAd σ N).1) = R → ∀ (m k : Nat), k + m = N → Go (γ, l, n + 6, (0, 0), MX3_advance, zF γ 0 0 (some (.int R.1)) (zps γ h (x + 1) R.2)) 0 0 17 [some (.ref x), some (.int (nI N)), some (.int (sAd σ k).2), some (.int (nI k))] [] (zps γ h (x + 1) (sAd σ k).1) := by
    intro N hN hf m
    induction m with
    | zero =>
      intro k hk
      have hkN : k = N := by omega
      subst hkN
      refine go_iload_n dX3_advance_17 rfl ?_
      refine go_iload_n dX3_advance_18 rfl ?_
      refine go_icmp_ge (tgt := 38) dX3_advance_19 (by decide) (fun c19 => ?_) (fun c19 => absurd (Int32.le_refl _) c19)
      refine go_iload_n dX3_advance_38 rfl ?_
      refine go_iret dX3_advance_39 rfl ?_ ?_ (Nat.zero_le _) (Nat.zero_le _)
      · rw [← hf]
      · rw [← hf]
    | succ m ih =>
      intro k hk
      refine go_iload_n dX3_advance_17 rfl ?_
      refine go_iload_n dX3_advance_18 rfl ?_
      refine go_icmp_ge (tgt := 38) dX3_advance_19 (by decide) (fun c19 => absurd c19 (nI_ge (by omega) (by omega))) (fun c19 => ?_)
      refine go_iload_n dX3_advance_22 rfl ?_
      refine go_aload_n dX3_advance_23 rfl ?_
      refine go_getf dX3_advance_24 flX3_10 (by exact (zps_out (by omega)).trans hx) rfl ?_
      refine go_callVi (ci := 2) dX3_advance_27 moX2_runSecond cvX3_126 ⟨rfl, rfl⟩ (kX2_runSecond_ γ l _ _ (x + 1) (sAd σ k).1 (zps_is γ h (x + 1) _) (sAd_ok hok k) _ rfl) (by exact zps_is γ h (x + 1) _ 0 (by decide)) rfl rfl (Nat.le_refl _) (Nat.zero_le _) (Nat.zero_le _) (Nat.le_of_ble_eq_true rfl) ?_
      refine go_h (zps_zps _ _ _ _ _) ?_
      refine go_iadd dX3_advance_30 ?_
      refine go_istore_n dX3_advance_31 (Nat.le_of_ble_eq_true rfl) ?_
      refine go_iinc dX3_advance_32 rfl (nI_1 k) (Nat.le_of_ble_eq_true rfl) ?_
      refine go_goto (tgt := 17) dX3_advance_35 (by decide) ?_
      exact ih (k + 1) (by omega)
  refine go_iload_n dX3_advance_0 rfl ?_
  refine go_iconst (v := 1) dX3_advance_1 (by decide) ?_
  refine go_bipush (v := 60) dX3_advance_2 (by decide) ?_
  refine go_callSi dX3_advance_4 moX3_isWithin csX3_27 (kX3_isWithin γ l _ _ _ _ _) rfl rfl (Nat.le_refl _) (Nat.zero_le _) (Nat.zero_le _) (Nat.le_of_ble_eq_true rfl) ?_
  refine go_if_ne (tgt := 13) dX3_advance_7 (by decide) (fun c7 => ?_) (fun c7 => ?_)
  · replace c7 := zi_nz.mp c7
    refine go_iconst (v := 0) dX3_advance_13 (by decide) ?_
    refine go_istore_n dX3_advance_14 (Nat.le_of_ble_eq_true rfl) ?_
    refine go_iconst (v := 0) dX3_advance_15 (by decide) ?_
    refine go_istore_n dX3_advance_16 (Nat.le_of_ble_eq_true rfl) ?_
    have h0 := loop (ix v) (zn60 c7).2 (by rw [← hR, mAdv, if_pos c7]) (ix v) 0 (Nat.zero_add _)
    rw [← (zn60 c7).1] at h0
    refine go_h (zps_id hs).symm ?_
    exact go_vl h0 ⟨rfl, rfl, rfl, rfl, trivial⟩
  · replace c7 := zi_0.mp c7
    refine go_bipush (v := (-2)) dX3_advance_10 (by decide) ?_
    refine go_iret dX3_advance_12 rfl ?_ ?_ (Nat.zero_le _) (Nat.zero_le _)
    · rw [← hR]; simp [mAdv, c7]
    · rw [← hR]; simp [mAdv, c7]; exact zps_id hs
set_option maxRecDepth 4000 in
theorem kX3_shedIfFails_ (γ : zG) (l : Launch) (n : Nat) (h : zH) (x : Nat) (σ : zS) (hx : h.1 x = some (zsw x)) (hs : zSt16 γ h (x + 1) σ) (τ : zS) (ht : zSt16 γ h (x + 17) τ) (hok : sOk σ) (hbo : sBo σ) (s : Int32) (S : zS × Int32) (hS : sSh 8 (up2 (sCp τ σ) 1 (ix s) 0, 0) = S) : Con γ l (n + 4) 0 0 MX3_shedIfFails [.ref x, .int s] h (some (.int (if aS s then S.2 else -1))) (zps γ h (x + 17) (if aS s then S.1 else τ)) := by
  refine Con.go (by decide +kernel) (Nat.le_of_ble_eq_true rfl) ⟨rfl, rfl, trivial⟩ ?_
  show Go _ 0 0 0 [some (.ref x), some (.int s)] [] _
  refine go_iload_n dX3_shedIfFails_0 rfl ?_
  refine go_callSi dX3_shedIfFails_1 moX3_isSupply csX3_23 (kX3_isSupply γ l _ _ _) rfl rfl (Nat.le_refl _) (Nat.zero_le _) (Nat.zero_le _) (Nat.le_of_ble_eq_true rfl) ?_
  refine go_if_ne (tgt := 9) dX3_shedIfFails_4 (by decide) (fun c4 => ?_) (fun c4 => ?_)
  · replace c4 := zi_nz.mp c4
    refine go_aload_n dX3_shedIfFails_9 rfl ?_
    refine go_getf dX3_shedIfFails_10 flX3_16 (by exact hx) rfl ?_
    refine go_aload_n dX3_shedIfFails_13 rfl ?_
    refine go_getf dX3_shedIfFails_14 flX3_10 (by exact hx) rfl ?_
    refine go_callVv (ci := 2) dX3_shedIfFails_17 moX2_copyFrom cvX3_155 ⟨rfl, rfl⟩ (kX2_copyFrom_ γ l _ _ (x + 17) τ ht (x + 1) σ hs (by omega) hbo _ rfl) (by exact ht 0 (by decide)) rfl rfl (Nat.le_refl _) (Nat.zero_le _) (Nat.zero_le _) (Nat.le_of_ble_eq_true rfl) ?_
    refine go_aload_n dX3_shedIfFails_20 rfl ?_
    refine go_getf dX3_shedIfFails_21 flX3_16 (by exact (zps_out (by omega)).trans hx) rfl ?_
    refine go_getf dX3_shedIfFails_24 flX3_35 (by exact zps_is γ h (x + 17) _ 0 (by decide)) rfl ?_
    refine go_iload_n dX3_shedIfFails_27 rfl ?_
    refine go_iconst (v := 0) dX3_shedIfFails_28 (by decide) ?_
    refine go_zast dX3_shedIfFails_29 (by exact zps_is γ h (x + 17) _ 2 (by decide)) (zin3 c4) rfl (zab (by first | exact Or.inl rfl | exact Or.inr rfl | exact zi_B)) ?_
    refine go_h zst_1 ?_
    refine go_aload_n dX3_shedIfFails_30 rfl ?_
    refine go_getf dX3_shedIfFails_31 flX3_16 (by exact (zps_out (by omega)).trans hx) rfl ?_
    refine go_callVi (ci := 2) dX3_shedIfFails_34 moX2_shedPorts cvX3_159 ⟨rfl, rfl⟩ (kX2_shedPorts_ γ l _ _ (x + 17) _ (zps_is γ h (x + 17) _) (sOk.up (sCp_ok hok) (c := 1) (by decide)) S hS) (by exact zps_is γ h (x + 17) _ 0 (by decide)) rfl rfl (Nat.le_refl _) (Nat.zero_le _) (Nat.zero_le _) (Nat.le_of_ble_eq_true rfl) ?_
    refine go_h (zps_zps _ _ _ _ _) ?_
    refine go_iret dX3_shedIfFails_37 rfl ?_ ?_ (Nat.zero_le _) (Nat.zero_le _)
    · simp [aS, c4]
    · first | (rw [if_neg c4]; exact zps_id ht) | rw [if_pos c4]
  · replace c4 := zi_0.mp c4
    refine go_iconst (v := (-1)) dX3_shedIfFails_7 (by decide) ?_
    refine go_iret dX3_shedIfFails_8 rfl ?_ ?_ (Nat.zero_le _) (Nat.zero_le _)
    · simp [aS, c4]
    · first | (rw [if_neg c4]; exact zps_id ht) | rw [if_pos c4]
theorem zgt300 {k m : Nat} (hk : k + (m + 1) = 301) : ¬ (300 : Int32) < nI k := by
  have h1 : (300 : Int32) = nI 300 := rfl
  rw [h1]
  exact nI_nlt (by omega) (by omega)
set_option maxRecDepth 4000 in
theorem kX3_settlePlan_ (γ : zG) (l : Launch) (n : Nat) (h : zH) (x : Nat) (σ : zS) (hx : h.1 x = some (zsw x)) (hs : zSt16 γ h (x + 1) σ) (τ : zS) (ht : zSt16 γ h (x + 17) τ) (hok : sOk σ) (hbo : sBo σ) (R : Int32 × zS) (hR : mStl σ τ = R) : Con γ l (n + 6) 0 0 MX3_settlePlan [.ref x] h (some (.int R.1)) (zps γ h (x + 17) R.2) := by
  refine Con.go (by decide +kernel) (Nat.le_of_ble_eq_true rfl) ⟨rfl, trivial⟩ ?_
  show Go _ 0 0 0 [some (.ref x), none] [] _
  have loop : ∀ (m k : Nat) (ρ : zS), k + m = 301 → sOk ρ → sSet m ρ k = R → Go (γ, l, n + 6, (0, 0), MX3_settlePlan, zF γ 0 0 (some (.int R.1)) (zps γ h (x + 17) R.2)) 0 0 13 [some (.ref x), some (.int (nI k))] [] (zps γ h (x + 17) ρ) := by
    intro m
    induction m with
    | zero =>
      intro k ρ hk hok hf
      have hkN : k = 301 := by omega
      subst hkN
      refine go_iload_n dX3_settlePlan_13 rfl ?_
      refine go_sipush (v := 300) dX3_settlePlan_14 (by decide) ?_
      refine go_icmp_gt (tgt := 46) dX3_settlePlan_17 (by decide) (fun c17 => ?_) (fun c17 => absurd (by decide) c17)
      refine go_bipush (v := (-6)) dX3_settlePlan_46 (by decide) ?_
      refine go_iret dX3_settlePlan_48 rfl ?_ ?_ (Nat.zero_le _) (Nat.zero_le _)
      · rw [← hf]; rfl
      · rw [← hf]; rfl
    | succ m ih =>
      intro k ρ hk hok hf
      refine go_iload_n dX3_settlePlan_13 rfl ?_
      refine go_sipush (v := 300) dX3_settlePlan_14 (by decide) ?_
      refine go_icmp_gt (tgt := 46) dX3_settlePlan_17 (by decide) (fun c17 => absurd c17 (zgt300 hk)) (fun c17 => ?_)
      refine go_aload_n dX3_settlePlan_20 rfl ?_
      refine go_getf dX3_settlePlan_21 flX3_16 (by exact (zps_out (by omega)).trans hx) rfl ?_
      refine go_callVi (ci := 2) dX3_settlePlan_24 moX2_isStable cvX3_171 ⟨rfl, rfl⟩ (kX2_isStable γ l _ _ (x + 17) ρ (zps_is γ h (x + 17) _)) (by exact zps_is γ h (x + 17) _ 0 (by decide)) rfl rfl (Nat.le_refl _) (Nat.zero_le _) (Nat.zero_le _) (Nat.le_of_ble_eq_true rfl) ?_
      refine go_if_eq (tgt := 32) dX3_settlePlan_27 (by decide) (fun c27 => ?_) (fun c27 => ?_)
      · replace c27 := zi_0.mp c27
        refine go_aload_n dX3_settlePlan_32 rfl ?_
        refine go_getf dX3_settlePlan_33 flX3_16 (by exact (zps_out (by omega)).trans hx) rfl ?_
        refine go_callVi (ci := 2) dX3_settlePlan_36 moX2_runSecond cvX3_126 ⟨rfl, rfl⟩ (kX2_runSecond_ γ l _ _ (x + 17) ρ (zps_is γ h (x + 17) _) hok _ rfl) (by exact zps_is γ h (x + 17) _ 0 (by decide)) rfl rfl (Nat.le_refl _) (Nat.zero_le _) (Nat.zero_le _) (Nat.le_of_ble_eq_true rfl) ?_
        refine go_h (zps_zps _ _ _ _ _) ?_
        refine go_pop dX3_settlePlan_39 rfl ?_
        refine go_iinc dX3_settlePlan_40 rfl (nI_1 k) (Nat.le_of_ble_eq_true rfl) ?_
        refine go_goto (tgt := 13) dX3_settlePlan_43 (by decide) ?_
        exact ih (k + 1) _ (by omega) (sSec_ok hok) ((sSet_f c27).symm.trans hf)
      · replace c27 := zi_nz.mp c27
        refine go_iload_n dX3_settlePlan_30 rfl ?_
        refine go_iret dX3_settlePlan_31 rfl ?_ ?_ (Nat.zero_le _) (Nat.zero_le _)
        · rw [← hf, sSet_t c27]
        · rw [← hf, sSet_t c27]
  refine go_aload_n dX3_settlePlan_0 rfl ?_
  refine go_getf dX3_settlePlan_1 flX3_16 (by exact hx) rfl ?_
  refine go_aload_n dX3_settlePlan_4 rfl ?_
  refine go_getf dX3_settlePlan_5 flX3_10 (by exact hx) rfl ?_
  refine go_callVv (ci := 2) dX3_settlePlan_8 moX2_copyFrom cvX3_155 ⟨rfl, rfl⟩ (kX2_copyFrom_ γ l _ _ (x + 17) τ ht (x + 1) σ hs (by omega) hbo _ rfl) (by exact ht 0 (by decide)) rfl rfl (Nat.le_refl _) (Nat.zero_le _) (Nat.zero_le _) (Nat.le_of_ble_eq_true rfl) ?_
  refine go_iconst (v := 0) dX3_settlePlan_11 (by decide) ?_
  refine go_istore_n dX3_settlePlan_12 (Nat.le_of_ble_eq_true rfl) ?_
  exact go_vl (loop 301 0 _ rfl (sCp_ok hok) hR) ⟨rfl, rfl, trivial⟩
set_option maxRecDepth 4000 in
theorem kX3_secondsToStable_ (γ : zG) (l : Launch) (n : Nat) (h : zH) (x : Nat) (σ : zS) (hx : h.1 x = some (zsw x)) (hs : zSt16 γ h (x + 1) σ) (τ : zS) (ht : zSt16 γ h (x + 17) τ) (hok : sOk σ) (hbo : sBo σ) (R : Int32 × zS) (hR : mStl σ τ = R) : Con γ l (n + 7) 0 0 MX3_secondsToStable [.ref x] h (some (.int R.1)) (zps γ h (x + 17) R.2) := by
  refine Con.go (by decide +kernel) (Nat.le_of_ble_eq_true rfl) ⟨rfl, trivial⟩ ?_
  show Go _ 0 0 0 [some (.ref x)] [] _
  refine go_aload_n dX3_secondsToStable_0 rfl ?_
  refine go_callVi (ci := 3) dX3_secondsToStable_1 moX3_settlePlan cvX3_165 ⟨rfl, rfl⟩ (kX3_settlePlan_ γ l _ _ x σ hx hs τ ht hok hbo R hR) (by exact hx) rfl rfl (Nat.le_refl _) (Nat.zero_le _) (Nat.zero_le _) (Nat.le_of_ble_eq_true rfl) ?_
  refine go_iret dX3_secondsToStable_4 rfl ?_ ?_ (Nat.zero_le _) (Nat.zero_le _)
  · rfl
  · rfl
set_option maxRecDepth 4000 in
theorem kX3_stablePorts_ (γ : zG) (l : Launch) (n : Nat) (h : zH) (x : Nat) (σ : zS) (hx : h.1 x = some (zsw x)) (hs : zSt16 γ h (x + 1) σ) (τ : zS) (ht : zSt16 γ h (x + 17) τ) (hok : sOk σ) (hbo : sBo σ) (R : Int32 × zS) (hR : mStl σ τ = R) : Con γ l (n + 7) 0 0 MX3_stablePorts [.ref x] h (some (.int (if R.1 = -6 then -6 else sPw R.2 8))) (zps γ h (x + 17) R.2) := by
  refine Con.go (by decide +kernel) (Nat.le_of_ble_eq_true rfl) ⟨rfl, trivial⟩ ?_
  show Go _ 0 0 0 [some (.ref x)] [] _
  refine go_aload_n dX3_stablePorts_0 rfl ?_
  refine go_callVi (ci := 3) dX3_stablePorts_1 moX3_settlePlan cvX3_165 ⟨rfl, rfl⟩ (kX3_settlePlan_ γ l _ _ x σ hx hs τ ht hok hbo R hR) (by exact hx) rfl rfl (Nat.le_refl _) (Nat.zero_le _) (Nat.zero_le _) (Nat.le_of_ble_eq_true rfl) ?_
  refine go_bipush (v := (-6)) dX3_stablePorts_4 (by decide) ?_
  refine go_icmp_ne (tgt := 14) dX3_stablePorts_6 (by decide) (fun c6 => ?_) (fun c6 => ?_)
  · refine go_aload_n dX3_stablePorts_14 rfl ?_
    refine go_getf dX3_stablePorts_15 flX3_16 (by exact (zps_out (by omega)).trans hx) rfl ?_
    refine go_callVi (ci := 2) dX3_stablePorts_18 moX2_poweredSet cvX3_117 ⟨rfl, rfl⟩ (kX2_poweredSet γ l _ _ (x + 17) R.2 (zps_is γ h (x + 17) _)) (by exact zps_is γ h (x + 17) _ 0 (by decide)) rfl rfl (Nat.le_refl _) (Nat.zero_le _) (Nat.zero_le _) (Nat.le_of_ble_eq_true rfl) ?_
    refine go_iret dX3_stablePorts_21 rfl ?_ ?_ (Nat.zero_le _) (Nat.zero_le _)
    · simp [c6]
    · rfl
  · refine go_bipush (v := (-6)) dX3_stablePorts_9 (by decide) ?_
    refine go_goto (tgt := 21) dX3_stablePorts_11 (by decide) ?_
    refine go_iret dX3_stablePorts_21 rfl ?_ ?_ (Nat.zero_le _) (Nat.zero_le _)
    · simp [c6]
    · rfl
