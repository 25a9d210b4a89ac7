/-! State: the steps of one second -/
def sOk (σ : zS) : Prop := lOk (fun c => σ (3 + c)) (σ 6 0).toNatClampNeg (σ 6 1).toNatClampNeg
theorem sOk.of {σ : zS} {o c : Nat} (ho : o < 16) (hc : c ≤ 16) (h0 : σ 6 0 = nI o) (h1 : σ 6 1 = nI c) : sOk σ := by
  unfold sOk
  rw [h0, h1, nI_clamp (by omega), nI_clamp (by omega)]
  exact ⟨ho, hc, h0, h1⟩
theorem sOk.up {σ : zS} {c : Nat} {f : Nat → Int32} (h : sOk σ) (hc : c ≠ 6) : sOk (upR σ c f) := by
  have e : upR σ c f 6 = σ 6 := upR_n (Ne.symm hc)
  exact sOk.of h.1 h.2.1 (by rw [e]; exact h.2.2.1) (by rw [e]; exact h.2.2.2)
/-- an event into the log -/
def sLog (σ : zS) (q k : Int32) : zS := upL σ (lAdd (fun c => σ (3 + c)) (σ 6 0).toNatClampNeg (σ 6 1).toNatClampNeg (σ 2 5) q k)
theorem sLog_6 {σ : zS} {q k : Int32} : sLog σ q k 6 = lAdd (fun c => σ (3 + c)) (σ 6 0).toNatClampNeg (σ 6 1).toNatClampNeg (σ 2 5) q k 3 := rfl
theorem sOk.log {σ : zS} {q k : Int32} (h : sOk σ) : sOk (sLog σ q k) := by
  obtain ⟨ho, hc, h0, h1⟩ := h
  generalize hO : (σ 6 0).toNatClampNeg = o at ho h0
  generalize hCn : (σ 6 1).toNatClampNeg = c at hc h1
  have h0 : σ 6 0 = nI o := h0
  have h1 : σ 6 1 = nI c := h1
  by_cases hlt : c < 16
  · refine sOk.of (o := o) (c := c + 1) ho (by omega) ?_ ?_
    · rw [sLog_6, hO, hCn, lAdd, if_pos hlt]; exact h0
    · rw [sLog_6, hO, hCn, lAdd, if_pos hlt]; rfl
  · refine sOk.of (o := (o + 1) % 16) (c := c) (Nat.mod_lt _ (by decide)) hc ?_ ?_
    · rw [sLog_6, hO, hCn, lAdd, if_neg hlt]; rfl
    · rw [sLog_6, hO, hCn, lAdd, if_neg hlt]; exact h1
theorem zst_add {γ : zG} {h : zH} {a : Nat} {σ : zS} {q k : Int32} : zput (zps γ h a σ) (a + 4) 4 (zlo γ (a + 4) (lAdd (fun c => σ (3 + c)) (σ 6 0).toNatClampNeg (σ 6 1).toNatClampNeg (σ 2 5) q k)) = zps γ h a (sLog σ q k) :=
  (zst_rl (zps_is γ h a σ)).trans (zps_zps _ _ _ _ _)
theorem zst_p {γ : zG} {h : zH} {a p : Nat} {σ : zS} {f : Nat → Int32} (hp : p < 8) : zu (zps γ h a σ) (a + 8 + p) (zpo f) = zps γ h a (upR σ (7 + p) f) := (zst_rp (zps_is γ h a σ) hp).trans (zps_zps _ _ _ _ _)
theorem zst_2 {γ : zG} {h : zH} {a : Nat} {σ : zS} {e : va_E} (f : Nat → Int32) (he : zst γ a (upR σ 2 f) 0 = e) : zu (zps γ h a σ) a e = zps γ h a (upR σ 2 f) := (zst_r2 (zps_is γ h a σ) he).trans (zps_zps _ _ _ _ _)
theorem sLp_ix (σ : zS) : ∀ k, k ≤ 8 → (sLp σ k).1 = -6 ∨ ∃ j, j < k ∧ (sLp σ k).1 = nI j
  | 0, _ => Or.inl rfl
  | k + 1, hk => by
    by_cases hc : pPow (σ (7 + k)) ∧ ¬ σ (7 + k) 1 < (sLp σ k).2
    · exact Or.inr ⟨k, Nat.lt_succ_self k, by rw [show sLp σ (k + 1) = (nI k, σ (7 + k) 1) from if_pos hc]⟩
    · rw [show sLp σ (k + 1) = sLp σ k from if_neg hc]
      rcases sLp_ix σ k (by omega) with h | ⟨j, h1, h2⟩
      · exact Or.inl h
      · exact Or.inr ⟨j, by omega, h2⟩
theorem sFp_ix (σ : zS) : ∀ k, k ≤ 8 → (sFp σ k).1 = -6 ∨ ∃ j, j < k ∧ (sFp σ k).1 = nI j
  | 0, _ => Or.inl rfl
  | k + 1, hk => by
    by_cases hc : σ (7 + k) 1 < (sFp σ k).2 ∧ pCan (σ (7 + k)) (sSp σ 8)
    · exact Or.inr ⟨k, Nat.lt_succ_self k, by rw [show sFp σ (k + 1) = (nI k, σ (7 + k) 1) from if_pos hc]⟩
    · rw [show sFp σ (k + 1) = sFp σ k from if_neg hc]
      rcases sFp_ix σ k (by omega) with h | ⟨j, h1, h2⟩
      · exact Or.inl h
      · exact Or.inr ⟨j, by omega, h2⟩
def sLose (σ : zS) (j : Nat) : zS := upR σ (7 + j) (upd (upd (σ (7 + j)) 7 0) 8 0)
/-- shedding, with k rounds left -/
def sSh : Nat → zS × Int32 → zS × Int32
  | 0, s => s
  | k + 1, s => if sSp s.1 8 < 0 then (if (sLp s.1 8).1 = -6 then sSh k s else sSh k (sLog (sLose s.1 (sLp s.1 8).1.toNatClampNeg) (sLp s.1 8).1 1, s.2 ||| bit (sLp s.1 8).1)) else s
theorem sSh_stop {k : Nat} {τ : zS} {x : Int32} (h : ¬ sSp τ 8 < 0) : sSh (k + 1) (τ, x) = (τ, x) := if_neg h
theorem sSh_none {k : Nat} {τ : zS} {x : Int32} (h : sSp τ 8 < 0) (h2 : (sLp τ 8).1 = -6) : sSh (k + 1) (τ, x) = sSh k (τ, x) := (if_pos h).trans (if_pos h2)
theorem sSh_some {k j : Nat} {τ : zS} {x : Int32} (h : sSp τ 8 < 0) (h2 : ¬ (sLp τ 8).1 = -6) (hj : (sLp τ 8).1.toNatClampNeg = j) : sSh (k + 1) (τ, x) = sSh k (sLog (sLose τ j) (sLp τ 8).1 1, x ||| bit (sLp τ 8).1) := by
  subst hj
  exact (if_pos h).trans (if_neg h2)
set_option maxRecDepth 4000 in
theorem kX2_shedPorts_ (γ : zG) (l : Launch) (n : Nat) (h : zH) (a : Nat) (σ : zS) (hs : zSt16 γ h a σ) (hok : sOk σ) (R : zS × Int32) (hR : sSh 8 (σ, 0) = R) : Con γ l (n + 3) 0 0 MX2_shedPorts [.ref a] h (some (.int R.2)) (zps γ h a R.1) := by
  refine Con.go (by decide +kernel) (Nat.le_of_ble_eq_true rfl) ⟨rfl, trivial⟩ ?_
  show Go _ 0 0 0 [some (.ref a), none, none, none] [] _
  have loop : ∀ (m k : Nat) (τ : zS) (x : Int32), k + m = 8 → sOk τ → sSh m (τ, x) = R → Go (γ, l, n + 3, (0, 0), MX2_shedPorts, zF γ 0 0 (some (.int R.2)) (zps γ h a R.1)) 0 0 4 [some (.ref a), some (.int x), some (.int (nI k)), none] [] (zps γ h a τ) := by
    intro m
    induction m with
    | zero =>
      intro k τ x hk hok hf
      have hkN : k = 8 := by omega
      subst hkN
      refine go_iload_n dX2_shedPorts_4 rfl ?_
      refine go_bipush (v := 8) dX2_shedPorts_5 (by decide) ?_
      refine go_icmp_ge (tgt := 62) dX2_shedPorts_7 (by decide) (fun c7 => ?_) (fun c7 => absurd (by decide) c7)
      refine go_iload_n dX2_shedPorts_62 rfl ?_
      refine go_iret dX2_shedPorts_63 rfl ?_ ?_ (Nat.zero_le _) (Nat.zero_le _)
      · (rw [← hf]; rfl)
      · (rw [← hf]; rfl)
    | succ m ih =>
      intro k τ x hk hok hf
      have hs := zps_is γ h a τ
      refine go_iload_n dX2_shedPorts_4 rfl ?_
      refine go_bipush (v := 8) dX2_shedPorts_5 (by decide) ?_
      refine go_icmp_ge (tgt := 62) dX2_shedPorts_7 (by decide) (fun c7 => absurd c7 (zge hk)) (fun c7 => ?_)
      refine go_aload_n dX2_shedPorts_10 rfl ?_
      refine go_callVi (ci := 2) dX2_shedPorts_11 moX2_sparePower cvX2_104 ⟨rfl, rfl⟩ (kX2_sparePower γ l _ _ a τ hs) (by first | exact hs 0 (by decide) | exact hs 3 (by decide) | exact zst_port hs hlt | exact hs 4 (by decide)) rfl rfl (Nat.le_refl _) (Nat.zero_le _) (Nat.zero_le _) (Nat.le_of_ble_eq_true rfl) ?_
      refine go_if_ge (tgt := 62) dX2_shedPorts_14 (by decide) (fun c14 => ?_) (fun c14 => ?_)
      · refine go_iload_n dX2_shedPorts_62 rfl ?_
        refine go_iret dX2_shedPorts_63 rfl ?_ ?_ (Nat.zero_le _) (Nat.zero_le _)
        · rw [← hf, sSh_stop (zle.mp c14)]
        · rw [← hf, sSh_stop (zle.mp c14)]
      · refine go_aload_n dX2_shedPorts_17 rfl ?_
        refine go_callVi (ci := 2) dX2_shedPorts_18 moX2_lastPoweredPort cvX2_107 ⟨rfl, rfl⟩ (kX2_lastPoweredPort γ l _ _ a τ hs) (by first | exact hs 0 (by decide) | exact hs 3 (by decide) | exact zst_port hs hlt | exact hs 4 (by decide)) rfl rfl (Nat.le_refl _) (Nat.zero_le _) (Nat.zero_le _) (Nat.le_of_ble_eq_true rfl) ?_
        refine go_istore_n dX2_shedPorts_21 (Nat.le_of_ble_eq_true rfl) ?_
        refine go_iload_n dX2_shedPorts_22 rfl ?_
        refine go_bipush (v := (-6)) dX2_shedPorts_23 (by decide) ?_
        refine go_icmp_eq (tgt := 56) dX2_shedPorts_25 (by decide) (fun c25 => ?_) (fun c25 => ?_)
        · refine go_iinc dX2_shedPorts_56 rfl (nI_1 k) (Nat.le_of_ble_eq_true rfl) ?_
          refine go_goto (tgt := 4) dX2_shedPorts_59 (by decide) ?_
          exact go_vl (ih (k + 1) τ x (by omega) hok ((sSh_none (Int32.not_le.mp c14) c25).symm.trans hf)) ⟨rfl, rfl, rfl, trivial⟩
        · obtain ⟨j, hlt, ej⟩ : ∃ j, j < 8 ∧ (sLp τ 8).1 = nI j := (sLp_ix τ 8 (Nat.le_refl 8)).resolve_left c25
          refine go_aload_n dX2_shedPorts_28 rfl ?_
          refine go_getf dX2_shedPorts_29 flX2_21 (by first | exact hs 0 (by decide) | exact hs 3 (by decide) | exact zst_port hs hlt | exact hs 4 (by decide)) rfl ?_
          refine go_iload_n dX2_shedPorts_32 rfl ?_
          refine go_ald (t0 := 2) (C := RX1) dX2_shedPorts_33 (by first | exact hs 0 (by decide) | exact hs 3 (by decide) | exact zst_port hs hlt | exact hs 4 (by decide)) rfl (zix ej hlt (by decide)).1 (zix ej hlt (by decide)).2 (zrf8 hlt) ?_
          refine go_callVv (ci := 1) dX2_shedPorts_34 moX1_losePower cvX2_110 ⟨rfl, rfl⟩ (kX1_losePower γ l _ _ _ _ (zst_port hs hlt)) (by exact zst_port hs hlt) rfl rfl (Nat.le_refl _) (Nat.zero_le _) (Nat.zero_le _) (Nat.le_of_ble_eq_true rfl) ?_
          refine go_h (zst_p hlt) ?_
          have hs := zps_is γ h a (sLose τ j)
          refine go_aload_n dX2_shedPorts_37 rfl ?_
          refine go_getf dX2_shedPorts_38 flX2_28 (by first | exact hs 0 (by decide) | exact hs 3 (by decide) | exact zst_port hs hlt | exact hs 4 (by decide)) rfl ?_
          refine go_aload_n dX2_shedPorts_41 rfl ?_
          refine go_getf dX2_shedPorts_42 flX2_56 (by first | exact hs 0 (by decide) | exact hs 3 (by decide) | exact zst_port hs hlt | exact hs 4 (by decide)) rfl ?_
          refine go_iload_n dX2_shedPorts_45 rfl ?_
          refine go_iconst (v := 1) dX2_shedPorts_46 (by decide) ?_
          refine go_callVv (ci := 0) dX2_shedPorts_47 moX0_add cvX2_113 ⟨rfl, rfl⟩ (kX0_add γ l _ _ (a + 4) (fun c => sLose τ j (3 + c)) (zst_log hs) _ _ (hok.up (c := 7 + j) (by omega)) _ _ _) (by exact hs 4 (by decide)) rfl rfl (Nat.le_refl _) (Nat.zero_le _) (Nat.zero_le _) (Nat.le_of_ble_eq_true rfl) ?_
          refine go_h (zst_add (σ := sLose τ j)) ?_
          refine go_iload_n dX2_shedPorts_50 rfl ?_
          refine go_iconst (v := 1) dX2_shedPorts_51 (by decide) ?_
          refine go_iload_n dX2_shedPorts_52 rfl ?_
          refine go_ishl dX2_shedPorts_53 ?_
          refine go_ior dX2_shedPorts_54 ?_
          refine go_istore_n dX2_shedPorts_55 (Nat.le_of_ble_eq_true rfl) ?_
          refine go_iinc dX2_shedPorts_56 rfl (nI_1 k) (Nat.le_of_ble_eq_true rfl) ?_
          refine go_goto (tgt := 4) dX2_shedPorts_59 (by decide) ?_
          exact go_vl (ih (k + 1) (sLog (sLose τ j) (sLp τ 8).1 1) (x ||| bit (sLp τ 8).1) (by omega) (hok.up (c := 7 + j) (by omega)).log ((sSh_some (Int32.not_le.mp c14) c25 (zix ej hlt (by decide)).2).symm.trans hf)) ⟨rfl, rfl, rfl, trivial⟩
  refine go_h (zps_id hs).symm ?_
  refine go_iconst (v := 0) dX2_shedPorts_0 (by decide) ?_
  refine go_istore_n dX2_shedPorts_1 (Nat.le_of_ble_eq_true rfl) ?_
  refine go_iconst (v := 0) dX2_shedPorts_2 (by decide) ?_
  refine go_istore_n dX2_shedPorts_3 (Nat.le_of_ble_eq_true rfl) ?_
  exact go_vl (loop 8 0 σ 0 rfl hok hR) ⟨rfl, rfl, rfl, trivial⟩
theorem kX2_shedPorts (γ : zG) (l : Launch) (n : Nat) (h : zH) (a : Nat) (σ : zS) (hs : zSt16 γ h a σ) (hok : sOk σ) : Con γ l (n + 3) 0 0 MX2_shedPorts [.ref a] h (some (.int (sSh 8 (σ, 0)).2)) (zps γ h a (sSh 8 (σ, 0)).1) := kX2_shedPorts_ γ l n h a σ hs hok _ rfl
