/-! PoeSwitchModel: findStable, snapshots, constructor -/
def nPp (ν : zS) : zS := upR ν 5 (upd (ν 5) 1 (nPs (ν 0) 8))
def nFs : Nat → Nat → zS → Int32 × zS
  | 0, _, ν => (-6, ν)
  | m + 1, k, ν => if nSm (nSs (nPp ν)) 149 then (nI k, nSs (nPp ν)) else nFs m (k + 1) (nSs (nPp ν))
theorem nFs_t {m k : Nat} {ν : zS} (h : nSm (nSs (nPp ν)) 149) : nFs (m + 1) k ν = (nI k, nSs (nPp ν)) := if_pos h
theorem nFs_f {m k : Nat} {ν : zS} (h : ¬ nSm (nSs (nPp ν)) 149) : nFs (m + 1) k ν = nFs m (k + 1) (nSs (nPp ν)) := if_neg h
theorem nSs_ok {ν : zS} (h : nOk (ν 0)) : nOk (nSs (nPp ν) 0) := nSec_ok (μ := nAh (nPp ν)) h
set_option maxRecDepth 4000 in
theorem kX4_findStable_ (γ : zG) (l : Launch) (n : Nat) (h : zH) (b : Nat) (μ : zS) (hm : zMd γ h b μ) (hok : nOk (μ 0)) (F : Int32 × zS) (hF : nFs 301 0 (nKp μ) = F) : Con γ l (n + 8) 0 0 MX4_findStable [.ref b] h (some (.int F.1)) (zpm γ h b (nPb F.2)) := by
  refine Con.go (by decide +kernel) (Nat.le_of_ble_eq_true rfl) ⟨rfl, trivial⟩ ?_
  show Go _ 0 0 0 [some (.ref b), none, none] [] _
  have fin : ∀ (v w : Int32) (ν : zS), F = (v, ν) → Go (γ, l, n + 8, (0, 0), MX4_findStable, zF γ 0 0 (some (.int F.1)) (zpm γ h b (nPb F.2))) 0 0 48 [some (.ref b), some (.int v), some (.int w)] [] (zpm γ h b ν) := by
    intro v w ν hF
    refine go_aload_n dX4_findStable_48 rfl ?_
    refine go_callVv (ci := 4) dX4_findStable_49 moX4_putBack cvX4_115 ⟨rfl, rfl⟩ (kX4_putBack γ l _ _ b ν (zpm_is γ h b _)) (by first | exact zpm_is γ h b _ 0 (by decide) | exact zpm_is γ h b _ 1 (by decide)) rfl rfl (Nat.le_refl _) (Nat.zero_le _) (Nat.zero_le _) (Nat.le_of_ble_eq_true rfl) ?_
    refine go_h (zpm_zpm _ _ _ _ _) ?_
    refine go_iload_n dX4_findStable_52 rfl ?_
    refine go_iret dX4_findStable_53 rfl ?_ ?_ (Nat.zero_le _) (Nat.zero_le _)
    · rw [hF]
    · rw [hF]
  have got : ∀ (k : Nat) (ν : zS), k ≤ 300 → F = (nI k, ν) → Go (γ, l, n + 8, (0, 0), MX4_findStable, zF γ 0 0 (some (.int F.1)) (zpm γ h b (nPb F.2))) 0 0 9 [some (.ref b), some (.int (nI k)), some (.int (nI (k + 1)))] [] (zpm γ h b ν) := by
    intro k ν hk hF
    refine go_iload_n dX4_findStable_9 rfl ?_
    refine go_sipush (v := 300) dX4_findStable_10 (by decide) ?_
    refine go_icmp_gt (tgt := 48) dX4_findStable_13 (by decide) (fun c13 => ?_) (fun c13 => ?_)
    · exact fin _ _ ν hF
    · refine go_iload_n dX4_findStable_16 rfl ?_
      refine go_if_ge (tgt := 48) dX4_findStable_17 (by decide) (fun c17 => ?_) (fun c17 => ?_)
      · exact fin _ _ ν hF
      · exact absurd (nI_pos' (by omega)) c17
  have loop : ∀ (m k : Nat) (ν : zS), k + m = 301 → nOk (ν 0) → nFs m k ν = F → Go (γ, l, n + 8, (0, 0), MX4_findStable, zF γ 0 0 (some (.int F.1)) (zpm γ h b (nPb F.2))) 0 0 9 [some (.ref b), some (.int (-6)), some (.int (nI k))] [] (zpm γ h b ν) := by
    intro m
    induction m with
    | zero =>
      intro k ν hk hok hf
      have hkN : k = 301 := by omega
      subst hkN
      refine go_iload_n dX4_findStable_9 rfl ?_
      refine go_sipush (v := 300) dX4_findStable_10 (by decide) ?_
      refine go_icmp_gt (tgt := 48) dX4_findStable_13 (by decide) (fun c13 => ?_) (fun c13 => absurd (by decide) c13)
      exact fin _ _ ν hf.symm
    | succ m ih =>
      intro k ν hk hok hf
      refine go_iload_n dX4_findStable_9 rfl ?_
      refine go_sipush (v := 300) dX4_findStable_10 (by decide) ?_
      refine go_icmp_gt (tgt := 48) dX4_findStable_13 (by decide) (fun c13 => absurd c13 (zgt300 hk)) (fun c13 => ?_)
      refine go_iload_n dX4_findStable_16 rfl ?_
      refine go_if_ge (tgt := 48) dX4_findStable_17 (by decide) (fun c17 => absurd c17 (by decide)) (fun c17 => ?_)
      refine go_aload_n dX4_findStable_20 rfl ?_
      refine go_aload_n dX4_findStable_21 rfl ?_
      refine go_callVi (ci := 4) dX4_findStable_22 moX4_poweredPorts cvX4_118 ⟨rfl, rfl⟩ (kX4_poweredPorts γ l _ _ b ν (zpm_is γ h b _)) (by first | exact zpm_is γ h b _ 0 (by decide) | exact zpm_is γ h b _ 1 (by decide)) rfl rfl (Nat.le_refl _) (Nat.zero_le _) (Nat.zero_le _) (Nat.le_of_ble_eq_true rfl) ?_
      refine go_putf dX4_findStable_25 flX4_121 fnX4_6 (by first | exact zpm_is γ h b _ 0 (by decide) | exact zpm_is γ h b _ 1 (by decide)) rfl rfl (Nat.le_of_ble_eq_true rfl) ?_
      refine go_h (zmo_5 (upd (ν 5) 1 (nPs (ν 0) 8)) rfl) ?_
      refine go_aload_n dX4_findStable_28 rfl ?_
      refine go_callVi (ci := 4) dX4_findStable_29 moX4_isStableSecond cvX4_124 ⟨rfl, rfl⟩ (kX4_isStableSecond_ γ l _ _ b (nPp ν) (zpm_is γ h b _) hok _ rfl) (by first | exact zpm_is γ h b _ 0 (by decide) | exact zpm_is γ h b _ 1 (by decide)) rfl rfl (Nat.le_refl _) (Nat.zero_le _) (Nat.zero_le _) (Nat.le_of_ble_eq_true rfl) ?_
      refine go_h (zpm_zpm _ _ _ _ _) ?_
      refine go_if_eq (tgt := 39) dX4_findStable_32 (by decide) (fun c32 => ?_) (fun c32 => ?_)
      · replace c32 := zi_0.mp c32
        refine go_bipush (v := (-6)) dX4_findStable_39 (by decide) ?_
        refine go_istore_n dX4_findStable_41 (Nat.le_of_ble_eq_true rfl) ?_
        refine go_iinc dX4_findStable_42 rfl (nI_1 k) (Nat.le_of_ble_eq_true rfl) ?_
        refine go_goto (tgt := 9) dX4_findStable_45 (by decide) ?_
        exact go_vl (ih (k + 1) (nSs (nPp ν)) (by omega) (nSs_ok hok) ((nFs_f c32).symm.trans hf)) ⟨rfl, rfl, rfl, trivial⟩
      · replace c32 := zi_nz.mp c32
        refine go_iload_n dX4_findStable_35 rfl ?_
        refine go_goto (tgt := 41) dX4_findStable_36 (by decide) ?_
        refine go_istore_n dX4_findStable_41 (Nat.le_of_ble_eq_true rfl) ?_
        refine go_iinc dX4_findStable_42 rfl (nI_1 k) (Nat.le_of_ble_eq_true rfl) ?_
        refine go_goto (tgt := 9) dX4_findStable_45 (by decide) ?_
        exact go_vl (got k (nSs (nPp ν)) (by omega) (hf.symm.trans (nFs_t c32))) ⟨rfl, rfl, rfl, trivial⟩
  refine go_aload_n dX4_findStable_0 rfl ?_
  refine go_callVv (ci := 4) dX4_findStable_1 moX4_keep cvX4_112 ⟨rfl, rfl⟩ (kX4_keep γ l _ _ b μ hm) (by first | exact hm 0 (by decide) | exact hm 1 (by decide) | exact zpm_is γ h b _ 0 (by decide) | exact zpm_is γ h b _ 1 (by decide)) rfl rfl (Nat.le_refl _) (Nat.zero_le _) (Nat.zero_le _) (Nat.le_of_ble_eq_true rfl) ?_
  refine go_bipush (v := (-6)) dX4_findStable_4 (by decide) ?_
  refine go_istore_n dX4_findStable_6 (Nat.le_of_ble_eq_true rfl) ?_
  refine go_iconst (v := 0) dX4_findStable_7 (by decide) ?_
  refine go_istore_n dX4_findStable_8 (Nat.le_of_ble_eq_true rfl) ?_
  exact go_vl (loop 301 0 (nKp μ) rfl hok hF) ⟨rfl, rfl, rfl, trivial⟩
set_option maxRecDepth 4000 in
theorem kX4_secondsToStable_ (γ : zG) (l : Launch) (n : Nat) (h : zH) (b : Nat) (μ : zS) (hm : zMd γ h b μ) (hok : nOk (μ 0)) (F : Int32 × zS) (hF : nFs 301 0 (nKp μ) = F) : Con γ l (n + 9) 0 0 MX4_secondsToStable [.ref b] h (some (.int F.1)) (zpm γ h b (nPb F.2)) := by
  refine Con.go (by decide +kernel) (Nat.le_of_ble_eq_true rfl) ⟨rfl, trivial⟩ ?_
  show Go _ 0 0 0 [some (.ref b)] [] _
  refine go_aload_n dX4_secondsToStable_0 rfl ?_
  refine go_callVi (ci := 4) dX4_secondsToStable_1 moX4_findStable cvX4_128 ⟨rfl, rfl⟩ (kX4_findStable_ γ l _ _ b μ hm hok F hF) (by first | exact hm 0 (by decide) | exact hm 1 (by decide) | exact zpm_is γ h b _ 0 (by decide) | exact zpm_is γ h b _ 1 (by decide)) rfl rfl (Nat.le_refl _) (Nat.zero_le _) (Nat.zero_le _) (Nat.le_of_ble_eq_true rfl) ?_
  refine go_iret dX4_secondsToStable_4 rfl ?_ ?_ (Nat.zero_le _) (Nat.zero_le _)
  · rfl
  · rfl
set_option maxRecDepth 4000 in
theorem kX4_stablePorts_ (γ : zG) (l : Launch) (n : Nat) (h : zH) (b : Nat) (μ : zS) (hm : zMd γ h b μ) (hok : nOk (μ 0)) (F : Int32 × zS) (hF : nFs 301 0 (nKp μ) = F) : Con γ l (n + 9) 0 0 MX4_stablePorts [.ref b] h (some (.int (if 0 ≤ F.1 then F.2 5 1 else -6))) (zpm γ h b (nPb F.2)) := by
  refine Con.go (by decide +kernel) (Nat.le_of_ble_eq_true rfl) ⟨rfl, trivial⟩ ?_
  show Go _ 0 0 0 [some (.ref b)] [] _
  refine go_aload_n dX4_stablePorts_0 rfl ?_
  refine go_callVi (ci := 4) dX4_stablePorts_1 moX4_findStable cvX4_128 ⟨rfl, rfl⟩ (kX4_findStable_ γ l _ _ b μ hm hok F hF) (by first | exact hm 0 (by decide) | exact hm 1 (by decide) | exact zpm_is γ h b _ 0 (by decide) | exact zpm_is γ h b _ 1 (by decide)) rfl rfl (Nat.le_refl _) (Nat.zero_le _) (Nat.zero_le _) (Nat.le_of_ble_eq_true rfl) ?_
  refine go_if_ge (tgt := 12) dX4_stablePorts_4 (by decide) (fun c4 => ?_) (fun c4 => ?_)
  · refine go_aload_n dX4_stablePorts_12 rfl ?_
    refine go_getf dX4_stablePorts_13 flX4_121 (by first | exact hm 0 (by decide) | exact hm 1 (by decide) | exact zpm_is γ h b _ 0 (by decide) | exact zpm_is γ h b _ 1 (by decide)) rfl ?_
    refine go_iret dX4_stablePorts_16 rfl ?_ ?_ (Nat.zero_le _) (Nat.zero_le _)
    · first | exact congrArg (fun v => some (Value.int v)) (if_pos c4) | exact congrArg (fun v => some (Value.int v)) (if_neg c4)
    · rfl
  · refine go_bipush (v := (-6)) dX4_stablePorts_7 (by decide) ?_
    refine go_goto (tgt := 16) dX4_stablePorts_9 (by decide) ?_
    refine go_iret dX4_stablePorts_16 rfl ?_ ?_ (Nat.zero_le _) (Nat.zero_le _)
    · first | exact congrArg (fun v => some (Value.int v)) (if_pos c4) | exact congrArg (fun v => some (Value.int v)) (if_neg c4)
    · rfl
def cpo (f g : Nat → Int32) (o k : Nat) : Nat → Int32 := fun i => if o ≤ i ∧ i < o + k then g (i - o) else f i
theorem cpo_s (f g : Nat → Int32) (o k : Nat) : upd (cpo f g o k) (o + k) (g k) = cpo f g o (k + 1) := by
  funext i
  unfold upd cpo
  by_cases h1 : i = o + k
  · subst h1
    rw [if_pos rfl, if_pos (by omega), show o + k - o = k by omega]
  · rw [if_neg h1]
    by_cases h2 : o ≤ i ∧ i < o + k
    · rw [if_pos h2, if_pos (by omega)]
    · rw [if_neg h2, if_neg (by omega)]
theorem cpo_0 (f g : Nat → Int32) (o : Nat) : cpo f g o 0 = f := by
  funext i
  unfold cpo
  rw [if_neg (by omega)]
theorem n149 {v : Int32} (h : aT v) (k : Nat) : (149 : Int32) * v + nI k = nI (149 * ix v + k) := by
  have e : (149 : Int32) * v = nI (149 * ix v) := (congrArg (fun z => (149 : Int32) * z) (zn2 h).1).trans (pk_mul 149 (ix v))
  rw [e, nI_add]
def nSv (μ : zS) (v : Int32) : zS := upR (upR μ 2 (cpo (μ 2) (μ 0) (149 * ix v) 149)) 3 (upd (μ 3) (ix v) 1)
def nRs (μ : zS) (v : Int32) : zS := upR μ 0 (cpk (μ 0) (fun i => μ 2 (149 * ix v + i)) 149)
set_option maxRecDepth 4000 in
theorem kX4_save_b (γ : zG) (l : Launch) (n : Nat) (h : zH) (b : Nat) (v : Int32) (hb : ¬ aT v) : Con γ l (n + 1) 0 0 MX4_save [.ref b, .int v] h (some (.int (-1))) h := by
  refine Con.go (by decide +kernel) (Nat.le_of_ble_eq_true rfl) ⟨rfl, rfl, trivial⟩ ?_
  show Go _ 0 0 0 [some (.ref b), some (.int v), none] [] _
  refine go_iload_n dX4_save_0 rfl ?_
  refine go_iconst (v := 0) dX4_save_1 (by decide) ?_
  refine go_iconst (v := 1) dX4_save_2 (by decide) ?_
  refine go_callSi dX4_save_3 moX4_in csX4_30 (kX4_in γ l _ _ _ _ _) rfl rfl (Nat.le_refl _) (Nat.zero_le _) (Nat.zero_le _) (Nat.le_of_ble_eq_true rfl) ?_
  refine go_if_ne (tgt := 11) dX4_save_6 (by decide) (fun c6 => ?_) (fun c6 => ?_)
  · replace c6 := zi_nz.mp c6
    exact absurd c6 hb
  · replace c6 := zi_0.mp c6
    refine go_iconst (v := (-1)) dX4_save_9 (by decide) ?_
    refine go_iret dX4_save_10 rfl ?_ ?_ (Nat.zero_le _) (Nat.zero_le _)
    · rfl
    · rfl
set_option maxRecDepth 4000 in
theorem kX4_save_o (γ : zG) (l : Launch) (n : Nat) (h : zH) (b : Nat) (μ : zS) (hm : zMd γ h b μ) (v : Int32) (hb : aT v) : Con γ l (n + 1) 0 0 MX4_save [.ref b, .int v] h (some (.int (μ 0 11))) (zpm γ h b (nSv μ v)) := by
  refine Con.go (by decide +kernel) (Nat.le_of_ble_eq_true rfl) ⟨rfl, rfl, trivial⟩ ?_
  show Go _ 0 0 0 [some (.ref b), some (.int v), none] [] _
  have loop : ∀ (m k : Nat), k + m = 149 → Go (γ, l, n + 1, (0, 0), MX4_save, zF γ 0 0 (some (.int (μ 0 11))) (zpm γ h b (nSv μ v))) 0 0 13 [some (.ref b), some (.int v), some (.int (nI k))] [] (zpm γ h b (upR μ 2 (cpo (μ 2) (μ 0) (149 * ix v) k))) := by
    intro m
    induction m with
    | zero =>
      intro k hk
      have hkN : k = 149 := by omega
      subst hkN
      refine go_iload_n dX4_save_13 rfl ?_
      refine go_sipush (v := 149) dX4_save_14 (by decide) ?_
      refine go_icmp_ge (tgt := 44) dX4_save_17 (by decide) (fun c17 => ?_) (fun c17 => absurd (by decide) c17)
      refine go_aload_n dX4_save_44 rfl ?_
      refine go_getf dX4_save_45 flX4_19 (by exact zpm_is γ h b _ 0 (by decide)) rfl ?_
      refine go_iload_n dX4_save_48 rfl ?_
      refine go_iconst (v := 1) dX4_save_49 (by decide) ?_
      refine go_zast dX4_save_50 (by exact zpm_is γ h b _ 4 (by decide)) (zin2 hb) rfl (zab (by first | exact Or.inl rfl | exact Or.inr rfl | exact zi_B)) ?_
      refine go_h zmo_3 ?_
      refine go_aload_n dX4_save_51 rfl ?_
      refine go_getf dX4_save_52 flX4_7 (by exact zpm_is γ h b _ 0 (by decide)) rfl ?_
      refine go_bipush (v := 11) dX4_save_55 (by decide) ?_
      refine go_iald dX4_save_57 (by exact zpm_is γ h b _ 1 (by decide)) (by unfold vp_in; decide) rfl ?_
      refine go_iret dX4_save_58 rfl ?_ ?_ (Nat.zero_le _) (Nat.zero_le _)
      · rfl
      · rfl
    | succ m ih =>
      intro k hk
      have hlt : k < 149 := by omega
      refine go_iload_n dX4_save_13 rfl ?_
      refine go_sipush (v := 149) dX4_save_14 (by decide) ?_
      refine go_icmp_ge (tgt := 44) dX4_save_17 (by decide) (fun c17 => absurd c17 (zge149 hk)) (fun c17 => ?_)
      refine go_aload_n dX4_save_20 rfl ?_
      refine go_getf dX4_save_21 flX4_16 (by exact zpm_is γ h b _ 0 (by decide)) rfl ?_
      refine go_sipush (v := 149) dX4_save_24 (by decide) ?_
      refine go_iload_n dX4_save_27 rfl ?_
      refine go_imul dX4_save_28 ?_
      refine go_iload_n dX4_save_29 rfl ?_
      refine go_iadd dX4_save_30 ?_
      refine go_aload_n dX4_save_31 rfl ?_
      refine go_getf dX4_save_32 flX4_7 (by exact zpm_is γ h b _ 0 (by decide)) rfl ?_
      refine go_iload_n dX4_save_35 rfl ?_
      refine go_iald dX4_save_36 (by exact zpm_is γ h b _ 1 (by decide)) (zix (n := 149) rfl hlt (by decide)).1 (zix (n := 149) rfl hlt (by decide)).2 ?_
      refine go_iast dX4_save_37 (by exact zpm_is γ h b _ 3 (by decide)) (zix (n := 298) (n149 hb k) (by have := (zn2 hb).2; show 149 * v.toNatClampNeg + k < 298; omega) (by decide)).1 (zix (n := 298) (n149 hb k) (by have := (zn2 hb).2; show 149 * v.toNatClampNeg + k < 298; omega) (by decide)).2 ?_
      refine go_h zmo_22 ?_
      refine go_h (congrArg (fun M => zpm γ h b (upR μ 2 M)) (cpo_s (μ 2) (μ 0) (149 * ix v) k)) ?_
      refine go_iinc dX4_save_38 rfl (nI_1 k) (Nat.le_of_ble_eq_true rfl) ?_
      refine go_goto (tgt := 13) dX4_save_41 (by decide) ?_
      exact ih (k + 1) (by omega)
  refine go_h ((zpm_id hm).symm.trans (congrArg (zpm γ h b) (show μ = upR μ 2 (cpo (μ 2) (μ 0) (149 * ix v) 0) from by rw [cpo_0, upR_id]))) ?_
  refine go_iload_n dX4_save_0 rfl ?_
  refine go_iconst (v := 0) dX4_save_1 (by decide) ?_
  refine go_iconst (v := 1) dX4_save_2 (by decide) ?_
  refine go_callSi dX4_save_3 moX4_in csX4_30 (kX4_in γ l _ _ _ _ _) rfl rfl (Nat.le_refl _) (Nat.zero_le _) (Nat.zero_le _) (Nat.le_of_ble_eq_true rfl) ?_
  refine go_if_ne (tgt := 11) dX4_save_6 (by decide) (fun c6 => ?_) (fun c6 => ?_)
  · replace c6 := zi_nz.mp c6
    refine go_iconst (v := 0) dX4_save_11 (by decide) ?_
    refine go_istore_n dX4_save_12 (Nat.le_of_ble_eq_true rfl) ?_
    exact loop 149 0 rfl
  · replace c6 := zi_0.mp c6
    exact absurd hb c6
set_option maxRecDepth 4000 in
theorem kX4_restore_b (γ : zG) (l : Launch) (n : Nat) (h : zH) (b : Nat) (v : Int32) (hb : ¬ aT v) : Con γ l (n + 1) 0 0 MX4_restore [.ref b, .int v] h (some (.int (-1))) h := by
  refine Con.go (by decide +kernel) (Nat.le_of_ble_eq_true rfl) ⟨rfl, rfl, trivial⟩ ?_
  show Go _ 0 0 0 [some (.ref b), some (.int v), none] [] _
  refine go_iload_n dX4_restore_0 rfl ?_
  refine go_iconst (v := 0) dX4_restore_1 (by decide) ?_
  refine go_iconst (v := 1) dX4_restore_2 (by decide) ?_
  refine go_callSi dX4_restore_3 moX4_in csX4_30 (kX4_in γ l _ _ _ _ _) rfl rfl (Nat.le_refl _) (Nat.zero_le _) (Nat.zero_le _) (Nat.le_of_ble_eq_true rfl) ?_
  refine go_if_ne (tgt := 11) dX4_restore_6 (by decide) (fun c6 => ?_) (fun c6 => ?_)
  · replace c6 := zi_nz.mp c6
    exact absurd c6 hb
  · replace c6 := zi_0.mp c6
    refine go_iconst (v := (-1)) dX4_restore_9 (by decide) ?_
    refine go_iret dX4_restore_10 rfl ?_ ?_ (Nat.zero_le _) (Nat.zero_le _)
    · rfl
    · rfl
set_option maxRecDepth 4000 in
theorem kX4_restore_n (γ : zG) (l : Launch) (n : Nat) (h : zH) (b : Nat) (μ : zS) (hm : zMd γ h b μ) (v : Int32) (hb : aT v) (hs : μ 3 (ix v) = 0) : Con γ l (n + 1) 0 0 MX4_restore [.ref b, .int v] h (some (.int (-3))) h := by
  refine Con.go (by decide +kernel) (Nat.le_of_ble_eq_true rfl) ⟨rfl, rfl, trivial⟩ ?_
  show Go _ 0 0 0 [some (.ref b), some (.int v), none] [] _
  refine go_iload_n dX4_restore_0 rfl ?_
  refine go_iconst (v := 0) dX4_restore_1 (by decide) ?_
  refine go_iconst (v := 1) dX4_restore_2 (by decide) ?_
  refine go_callSi dX4_restore_3 moX4_in csX4_30 (kX4_in γ l _ _ _ _ _) rfl rfl (Nat.le_refl _) (Nat.zero_le _) (Nat.zero_le _) (Nat.le_of_ble_eq_true rfl) ?_
  refine go_if_ne (tgt := 11) dX4_restore_6 (by decide) (fun c6 => ?_) (fun c6 => ?_)
  · replace c6 := zi_nz.mp c6
    refine go_aload_n dX4_restore_11 rfl ?_
    refine go_getf dX4_restore_12 flX4_19 (by first | exact hm 0 (by decide) | exact hm 4 (by decide)) rfl ?_
    refine go_iload_n dX4_restore_15 rfl ?_
    refine go_zald dX4_restore_16 (by first | exact hm 0 (by decide) | exact hm 4 (by decide)) (zin2 hb) rfl ?_
    refine go_if_ne (tgt := 23) dX4_restore_17 (by decide) (fun c17 => ?_) (fun c17 => ?_)
    · exact absurd hs c17
    · refine go_bipush (v := (-3)) dX4_restore_20 (by decide) ?_
      refine go_iret dX4_restore_22 rfl ?_ ?_ (Nat.zero_le _) (Nat.zero_le _)
      · rfl
      · rfl
  · replace c6 := zi_0.mp c6
    exact absurd hb c6
set_option maxRecDepth 4000 in
theorem kX4_restore_o (γ : zG) (l : Launch) (n : Nat) (h : zH) (b : Nat) (μ : zS) (hm : zMd γ h b μ) (v : Int32) (hb : aT v) (hs : ¬ μ 3 (ix v) = 0) : Con γ l (n + 1) 0 0 MX4_restore [.ref b, .int v] h (some (.int (nRs μ v 0 11))) (zpm γ h b (nRs μ v)) := by
  refine Con.go (by decide +kernel) (Nat.le_of_ble_eq_true rfl) ⟨rfl, rfl, trivial⟩ ?_
  show Go _ 0 0 0 [some (.ref b), some (.int v), none] [] _
  have loop : ∀ (m k : Nat), k + m = 149 → Go (γ, l, n + 1, (0, 0), MX4_restore, zF γ 0 0 (some (.int (nRs μ v 0 11))) (zpm γ h b (nRs μ v))) 0 0 25 [some (.ref b), some (.int v), some (.int (nI k))] [] (zpm γ h b (upR μ 0 (cpk (μ 0) (fun i => μ 2 (149 * ix v + i)) k))) := by
    intro m
    induction m with
    | zero =>
      intro k hk
      have hkN : k = 149 := by omega
      subst hkN
      refine go_iload_n dX4_restore_25 rfl ?_
      refine go_sipush (v := 149) dX4_restore_26 (by decide) ?_
      refine go_icmp_ge (tgt := 56) dX4_restore_29 (by decide) (fun c29 => ?_) (fun c29 => absurd (by decide) c29)
      refine go_aload_n dX4_restore_56 rfl ?_
      refine go_getf dX4_restore_57 flX4_7 (by exact zpm_is γ h b _ 0 (by decide)) rfl ?_
      refine go_bipush (v := 11) dX4_restore_60 (by decide) ?_
      refine go_iald dX4_restore_62 (by exact zpm_is γ h b _ 1 (by decide)) (by unfold vp_in; decide) rfl ?_
      refine go_iret dX4_restore_63 rfl ?_ ?_ (Nat.zero_le _) (Nat.zero_le _)
      · rfl
      · rfl
    | succ m ih =>
      intro k hk
      have hlt : k < 149 := by omega
      refine go_iload_n dX4_restore_25 rfl ?_
      refine go_sipush (v := 149) dX4_restore_26 (by decide) ?_
      refine go_icmp_ge (tgt := 56) dX4_restore_29 (by decide) (fun c29 => absurd c29 (zge149 hk)) (fun c29 => ?_)
      refine go_aload_n dX4_restore_32 rfl ?_
      refine go_getf dX4_restore_33 flX4_7 (by exact zpm_is γ h b _ 0 (by decide)) rfl ?_
      refine go_iload_n dX4_restore_36 rfl ?_
      refine go_aload_n dX4_restore_37 rfl ?_
      refine go_getf dX4_restore_38 flX4_16 (by exact zpm_is γ h b _ 0 (by decide)) rfl ?_
      refine go_sipush (v := 149) dX4_restore_41 (by decide) ?_
      refine go_iload_n dX4_restore_44 rfl ?_
      refine go_imul dX4_restore_45 ?_
      refine go_iload_n dX4_restore_46 rfl ?_
      refine go_iadd dX4_restore_47 ?_
      refine go_iald dX4_restore_48 (by exact zpm_is γ h b _ 3 (by decide)) (zix (n := 298) (n149 hb k) (by have := (zn2 hb).2; show 149 * v.toNatClampNeg + k < 298; omega) (by decide)).1 (zix (n := 298) (n149 hb k) (by have := (zn2 hb).2; show 149 * v.toNatClampNeg + k < 298; omega) (by decide)).2 ?_
      refine go_iast dX4_restore_49 (by exact zpm_is γ h b _ 1 (by decide)) (zix (n := 149) rfl hlt (by decide)).1 (zix (n := 149) rfl hlt (by decide)).2 ?_
      refine go_h zmo_00 ?_
      refine go_h (congrArg (fun M => zpm γ h b (upR μ 0 M)) (cpk_s (μ 0) (fun i => μ 2 (149 * ix v + i)) k)) ?_
      refine go_iinc dX4_restore_50 rfl (nI_1 k) (Nat.le_of_ble_eq_true rfl) ?_
      refine go_goto (tgt := 25) dX4_restore_53 (by decide) ?_
      exact ih (k + 1) (by omega)
  refine go_iload_n dX4_restore_0 rfl ?_
  refine go_iconst (v := 0) dX4_restore_1 (by decide) ?_
  refine go_iconst (v := 1) dX4_restore_2 (by decide) ?_
  refine go_callSi dX4_restore_3 moX4_in csX4_30 (kX4_in γ l _ _ _ _ _) rfl rfl (Nat.le_refl _) (Nat.zero_le _) (Nat.zero_le _) (Nat.le_of_ble_eq_true rfl) ?_
  refine go_if_ne (tgt := 11) dX4_restore_6 (by decide) (fun c6 => ?_) (fun c6 => ?_)
  · replace c6 := zi_nz.mp c6
    refine go_aload_n dX4_restore_11 rfl ?_
    refine go_getf dX4_restore_12 flX4_19 (by first | exact hm 0 (by decide) | exact hm 4 (by decide)) rfl ?_
    refine go_iload_n dX4_restore_15 rfl ?_
    refine go_zald dX4_restore_16 (by first | exact hm 0 (by decide) | exact hm 4 (by decide)) (zin2 hb) rfl ?_
    refine go_if_ne (tgt := 23) dX4_restore_17 (by decide) (fun c17 => ?_) (fun c17 => ?_)
    · refine go_iconst (v := 0) dX4_restore_23 (by decide) ?_
      refine go_istore_n dX4_restore_24 (Nat.le_of_ble_eq_true rfl) ?_
      refine go_h ((zpm_id hm).symm.trans (congrArg (zpm γ h b) (show μ = upR μ 0 (cpk (μ 0) (fun i => μ 2 (149 * ix v + i)) 0) from by rw [cpk_0, upR_id]))) ?_
      exact loop 149 0 rfl
    · exact absurd c17 hs
  · replace c6 := zi_0.mp c6
    exact absurd hb c6
def nM1 : Nat → Nat → Int32
  | 0 => upd (fun _ => 0) 0 1500
  | k + 1 => upd (nM1 k) (3 + k) 1
def nM2 : Nat → Int32 := upd (upd (upd (nM1 3) 7 2) 8 3) 9 5
def nM3 : Nat → Nat → Int32
  | 0 => nM2
  | k + 1 => upd (upd (nM3 k) (mi k 0) 1) (mi k 1) 2
def mu0 : zS := fun _ _ => 0
/-- a new model -/
def muI : zS := upR mu0 0 (nM3 8)
theorem zcan_m {γ : zG} {h : zH} {b : Nat} {c : Nat → va_E} (hc : ∀ k, k < 6 → c k = zmo γ b mu0 k) : zcan h b 6 c = zpm γ (zal h 5) b mu0 := (zcan_congr hc).trans rfl
set_option maxRecDepth 4000 in
theorem kX4_init (γ : zG) (l : Launch) (n : Nat) (h : zH) (b : Nat) (hp : h.1 b = some (.inr (4, [.null, .null, .null, .null, .int 0, .null, .int 0]))) (hnx : h.2 = b + 1) : Con γ l (n + 1) 5 747 MX4_init [.ref b] h none (zpm γ (zal h 5) b muI) := by
  refine Con.go (by decide +kernel) (Nat.le_of_ble_eq_true rfl) ⟨rfl, trivial⟩ ?_
  show Go _ 0 0 0 [some (.ref b), none] [] _
  have loop3 : ∀ (m k : Nat), k + m = 8 → Go (γ, l, n + 1, (5, 747), MX4_init, zF γ 5 747 none (zpm γ (zal h 5) b muI)) 5 747 104 [some (.ref b), some (.int (nI k))] [] (zpm γ (zal h 5) b (upR mu0 0 (nM3 k))) := by
    intro m
    induction m with
    | zero =>
      intro k hk
      have hkN : k = 8 := by omega
      subst hkN
      refine go_iload_n dX4_init_104 rfl ?_
      refine go_bipush (v := 8) dX4_init_105 (by decide) ?_
      refine go_icmp_ge (tgt := 138) dX4_init_107 (by decide) (fun c107 => ?_) (fun c107 => absurd (by decide) c107)
      refine go_vret dX4_init_138 rfl rfl ?_ (Nat.le_of_ble_eq_true rfl) (Nat.le_of_ble_eq_true rfl)
      · rfl
    | succ m ih =>
      intro k hk
      have hlt : k < 8 := by omega
      refine go_iload_n dX4_init_104 rfl ?_
      refine go_bipush (v := 8) dX4_init_105 (by decide) ?_
      refine go_icmp_ge (tgt := 138) dX4_init_107 (by decide) (fun c107 => absurd c107 (zge hk)) (fun c107 => ?_)
      refine go_aload_n dX4_init_110 rfl ?_
      refine go_getf dX4_init_111 flX4_7 (by first | exact zpm_is γ (zal h 5) b _ 0 (by decide) | exact zpm_is γ (zal h 5) b _ 1 (by decide)) rfl ?_
      refine go_iload_n dX4_init_114 rfl ?_
      refine go_iconst (v := 0) dX4_init_115 (by decide) ?_
      refine go_callSi dX4_init_116 moX4_at csX4_26 (kX4_at γ l _ _ _ _ k 0 rfl rfl) rfl rfl (Nat.le_refl _) (Nat.le_of_ble_eq_true rfl) (Nat.le_of_ble_eq_true rfl) (Nat.le_of_ble_eq_true rfl) ?_
      refine go_iconst (v := 1) dX4_init_119 (by decide) ?_
      refine go_iast dX4_init_120 (by first | exact zpm_is γ (zal h 5) b _ 0 (by decide) | exact zpm_is γ (zal h 5) b _ 1 (by decide)) (zix (n := 149) rfl (mi_lt hlt (by decide)) (by decide)).1 (zix (n := 149) rfl (mi_lt hlt (by decide)) (by decide)).2 ?_
      refine go_h zmo_00 ?_
      refine go_aload_n dX4_init_121 rfl ?_
      refine go_getf dX4_init_122 flX4_7 (by first | exact zpm_is γ (zal h 5) b _ 0 (by decide) | exact zpm_is γ (zal h 5) b _ 1 (by decide)) rfl ?_
      refine go_iload_n dX4_init_125 rfl ?_
      refine go_iconst (v := 1) dX4_init_126 (by decide) ?_
      refine go_callSi dX4_init_127 moX4_at csX4_26 (kX4_at γ l _ _ _ _ k 1 rfl rfl) rfl rfl (Nat.le_refl _) (Nat.le_of_ble_eq_true rfl) (Nat.le_of_ble_eq_true rfl) (Nat.le_of_ble_eq_true rfl) ?_
      refine go_iconst (v := 2) dX4_init_130 (by decide) ?_
      refine go_iast dX4_init_131 (by first | exact zpm_is γ (zal h 5) b _ 0 (by decide) | exact zpm_is γ (zal h 5) b _ 1 (by decide)) (zix (n := 149) rfl (mi_lt hlt (by decide)) (by decide)).1 (zix (n := 149) rfl (mi_lt hlt (by decide)) (by decide)).2 ?_
      refine go_h zmo_00 ?_
      refine go_iinc dX4_init_132 rfl (nI_1 k) (Nat.le_of_ble_eq_true rfl) ?_
      refine go_goto (tgt := 104) dX4_init_135 (by decide) ?_
      exact ih (k + 1) (by omega)
  have loop1 : ∀ (m k : Nat), k + m = 3 → Go (γ, l, n + 1, (5, 747), MX4_init, zF γ 5 747 none (zpm γ (zal h 5) b muI)) 5 747 58 [some (.ref b), some (.int (nI k))] [] (zpm γ (zal h 5) b (upR mu0 0 (nM1 k))) := by
    intro m
    induction m with
    | zero =>
      intro k hk
      have hkN : k = 3 := by omega
      subst hkN
      refine go_iload_n dX4_init_58 rfl ?_
      refine go_iconst (v := 3) dX4_init_59 (by decide) ?_
      refine go_icmp_ge (tgt := 78) dX4_init_60 (by decide) (fun c60 => ?_) (fun c60 => absurd (by decide) c60)
      refine go_aload_n dX4_init_78 rfl ?_
      refine go_getf dX4_init_79 flX4_7 (by first | exact zpm_is γ (zal h 5) b _ 0 (by decide) | exact zpm_is γ (zal h 5) b _ 1 (by decide)) rfl ?_
      refine go_bipush (v := 7) dX4_init_82 (by decide) ?_
      refine go_iconst (v := 2) dX4_init_84 (by decide) ?_
      refine go_iast dX4_init_85 (by first | exact zpm_is γ (zal h 5) b _ 0 (by decide) | exact zpm_is γ (zal h 5) b _ 1 (by decide)) (by unfold vp_in; decide) rfl ?_
      refine go_h zmo_00 ?_
      refine go_aload_n dX4_init_86 rfl ?_
      refine go_getf dX4_init_87 flX4_7 (by first | exact zpm_is γ (zal h 5) b _ 0 (by decide) | exact zpm_is γ (zal h 5) b _ 1 (by decide)) rfl ?_
      refine go_bipush (v := 8) dX4_init_90 (by decide) ?_
      refine go_iconst (v := 3) dX4_init_92 (by decide) ?_
      refine go_iast dX4_init_93 (by first | exact zpm_is γ (zal h 5) b _ 0 (by decide) | exact zpm_is γ (zal h 5) b _ 1 (by decide)) (by unfold vp_in; decide) rfl ?_
      refine go_h zmo_00 ?_
      refine go_aload_n dX4_init_94 rfl ?_
      refine go_getf dX4_init_95 flX4_7 (by first | exact zpm_is γ (zal h 5) b _ 0 (by decide) | exact zpm_is γ (zal h 5) b _ 1 (by decide)) rfl ?_
      refine go_bipush (v := 9) dX4_init_98 (by decide) ?_
      refine go_iconst (v := 5) dX4_init_100 (by decide) ?_
      refine go_iast dX4_init_101 (by first | exact zpm_is γ (zal h 5) b _ 0 (by decide) | exact zpm_is γ (zal h 5) b _ 1 (by decide)) (by unfold vp_in; decide) rfl ?_
      refine go_h zmo_00 ?_
      refine go_iconst (v := 0) dX4_init_102 (by decide) ?_
      refine go_istore_n dX4_init_103 (Nat.le_of_ble_eq_true rfl) ?_
      exact go_vl (loop3 8 0 rfl) ⟨rfl, rfl, trivial⟩
    | succ m ih =>
      intro k hk
      have hlt : k < 3 := by omega
      refine go_iload_n dX4_init_58 rfl ?_
      refine go_iconst (v := 3) dX4_init_59 (by decide) ?_
      refine go_icmp_ge (tgt := 78) dX4_init_60 (by decide) (fun c60 => absurd c60 (zge3 hk)) (fun c60 => ?_)
      refine go_aload_n dX4_init_63 rfl ?_
      refine go_getf dX4_init_64 flX4_7 (by first | exact zpm_is γ (zal h 5) b _ 0 (by decide) | exact zpm_is γ (zal h 5) b _ 1 (by decide)) rfl ?_
      refine go_iconst (v := 3) dX4_init_67 (by decide) ?_
      refine go_iload_n dX4_init_68 rfl ?_
      refine go_iadd dX4_init_69 ?_
      refine go_iconst (v := 1) dX4_init_70 (by decide) ?_
      refine go_iast dX4_init_71 (by first | exact zpm_is γ (zal h 5) b _ 0 (by decide) | exact zpm_is γ (zal h 5) b _ 1 (by decide)) (zix (n := 149) (n3k k) (by omega) (by decide)).1 (zix (n := 149) (n3k k) (by omega) (by decide)).2 ?_
      refine go_h zmo_00 ?_
      refine go_iinc dX4_init_72 rfl (nI_1 k) (Nat.le_of_ble_eq_true rfl) ?_
      refine go_goto (tgt := 58) dX4_init_75 (by decide) ?_
      exact ih (k + 1) (by omega)
  refine go_h (zcan_1 hp) ?_
  refine go_aload_n dX4_init_0 rfl ?_
  refine go_objInit dX4_init_1 oiX4_1 (by show 1 ≤ _ + 1; omega) ?_
  refine go_aload_n dX4_init_4 rfl ?_
  refine go_sipush (v := 149) dX4_init_5 (by decide) ?_
  refine go_newiA (N := 149) (zcan_nx hnx (by decide)) (zcan_push hnx (by decide)) dX4_init_8 (by decide) rfl (by decide) (Nat.le_of_ble_eq_true rfl) (Nat.le_of_ble_eq_true rfl) ?_
  refine go_putF dX4_init_10 flX4_7 fnX4_0 rfl rfl (by exact zcan_rd 0 (by decide)) rfl rfl (Nat.le_of_ble_eq_true rfl) ?_
  refine go_h (zcan_zu (k := 0) (by decide) rfl) ?_
  refine go_aload_n dX4_init_13 rfl ?_
  refine go_sipush (v := 149) dX4_init_14 (by decide) ?_
  refine go_newiA (N := 149) (zcan_nx hnx (by decide)) (zcan_push hnx (by decide)) dX4_init_17 (by decide) rfl (by decide) (Nat.le_of_ble_eq_true rfl) (Nat.le_of_ble_eq_true rfl) ?_
  refine go_putF dX4_init_19 flX4_13 fnX4_1 rfl rfl (by exact zcan_rd 0 (by decide)) rfl rfl (Nat.le_of_ble_eq_true rfl) ?_
  refine go_h (zcan_zu (k := 0) (by decide) rfl) ?_
  refine go_aload_n dX4_init_22 rfl ?_
  refine go_sipush (v := 298) dX4_init_23 (by decide) ?_
  refine go_newiA (N := 298) (zcan_nx hnx (by decide)) (zcan_push hnx (by decide)) dX4_init_26 (by decide) rfl (by decide) (Nat.le_of_ble_eq_true rfl) (Nat.le_of_ble_eq_true rfl) ?_
  refine go_putF dX4_init_28 flX4_16 fnX4_2 rfl rfl (by exact zcan_rd 0 (by decide)) rfl rfl (Nat.le_of_ble_eq_true rfl) ?_
  refine go_h (zcan_zu (k := 0) (by decide) rfl) ?_
  refine go_aload_n dX4_init_31 rfl ?_
  refine go_iconst (v := 2) dX4_init_32 (by decide) ?_
  refine go_newzA (N := 2) (zcan_nx hnx (by decide)) (zcan_push hnx (by decide)) dX4_init_33 (by decide) rfl (by decide) (Nat.le_of_ble_eq_true rfl) (Nat.le_of_ble_eq_true rfl) ?_
  refine go_putF dX4_init_35 flX4_19 fnX4_3 rfl rfl (by exact zcan_rd 0 (by decide)) rfl rfl (Nat.le_of_ble_eq_true rfl) ?_
  refine go_h (zcan_zu (k := 0) (by decide) rfl) ?_
  refine go_aload_n dX4_init_38 rfl ?_
  refine go_sipush (v := 149) dX4_init_39 (by decide) ?_
  refine go_newiA (N := 149) (zcan_nx hnx (by decide)) (zcan_push hnx (by decide)) dX4_init_42 (by decide) rfl (by decide) (Nat.le_of_ble_eq_true rfl) (Nat.le_of_ble_eq_true rfl) ?_
  refine go_putF dX4_init_44 flX4_23 fnX4_5 rfl rfl (by exact zcan_rd 0 (by decide)) rfl rfl (Nat.le_of_ble_eq_true rfl) ?_
  refine go_h (zcan_zu (k := 0) (by decide) rfl) ?_
  refine go_h (zcan_m (γ := γ) (fun k hk => ?_)) ?_
  · rcases zlt6 hk with h | h | h | h | h | h <;> subst h <;> rfl
  refine go_aload_n dX4_init_47 rfl ?_
  refine go_getf dX4_init_48 flX4_7 (by exact zpm_is γ (zal h 5) b _ 0 (by decide)) rfl ?_
  refine go_iconst (v := 0) dX4_init_51 (by decide) ?_
  refine go_sipush (v := 1500) dX4_init_52 (by decide) ?_
  refine go_iast dX4_init_55 (by exact zpm_is γ (zal h 5) b _ 1 (by decide)) (by unfold vp_in; decide) rfl ?_
  refine go_h zmo_0 ?_
  refine go_iconst (v := 0) dX4_init_56 (by decide) ?_
  refine go_istore_n dX4_init_57 (Nat.le_of_ble_eq_true rfl) ?_
  exact go_vl (loop1 3 0 rfl) ⟨rfl, rfl, trivial⟩
