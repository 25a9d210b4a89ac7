/-! State: runSecond, copyFrom -/
set_option maxRecDepth 4000 in
theorem kX2_runSecond_ (γ : zG) (l : Launch) (n : Nat) (h : zH) (a : Nat) (σ : zS) (hs : zSt16 γ h a σ) (hok : sOk σ) (R : zS × Int32) (hR : sSec σ = R) : Con γ l (n + 5) 0 0 MX2_runSecond [.ref a] h (some (.int R.2)) (zps γ h a R.1) := by
  refine Con.go (by decide +kernel) (Nat.le_of_ble_eq_true rfl) ⟨rfl, trivial⟩ ?_
  show Go _ 0 0 0 [some (.ref a), none, none, none] [] _
  obtain ⟨s1, h1⟩ : ∃ s1, sSh 8 (σ, 0) = s1 := ⟨_, rfl⟩
  obtain ⟨s2, h2⟩ : ∃ s2, sCt s1.1 8 = s2 := ⟨_, rfl⟩
  obtain ⟨s3, h3⟩ : ∃ s3, sCd s2.2 s2.1 8 = s3 := ⟨_, rfl⟩
  obtain ⟨s4, h4⟩ : ∃ s4, sPu s3 = s4 := ⟨_, rfl⟩
  have k1 : sOk s1.1 := by rw [← h1]; exact sSh_ok 8 _ hok
  have k3 : sOk s3 := by rw [← h3, ← h2]; exact sCd_ok (sCt_ok k1 8) 8
  have hE : sSec σ = (up2 s4.1 2 5 (s4.1 2 5 + 1), zbc s1.2 + zbc s2.2 + s4.2) := by simp only [sSec, h1, h2, h3, h4]
  refine go_aload_n dX2_runSecond_0 rfl ?_
  refine go_callVi (ci := 2) dX2_runSecond_1 moX2_shedPorts cvX2_85 ⟨rfl, rfl⟩ (kX2_shedPorts_ γ l _ h a σ hs hok s1 h1) (by exact hs 0 (by decide)) rfl rfl (Nat.le_refl _) (Nat.zero_le _) (Nat.zero_le _) (Nat.le_of_ble_eq_true rfl) ?_
  refine go_istore_n dX2_runSecond_4 (Nat.le_of_ble_eq_true rfl) ?_
  refine go_aload_n dX2_runSecond_5 rfl ?_
  refine go_callVi (ci := 2) dX2_runSecond_6 moX2_cutPorts cvX2_88 ⟨rfl, rfl⟩ (kX2_cutPorts_ γ l _ _ a s1.1 (zps_is γ h a _) k1 s2 h2) (by exact zps_is γ h a _ 0 (by decide)) rfl rfl (Nat.le_refl _) (Nat.zero_le _) (Nat.zero_le _) (Nat.le_of_ble_eq_true rfl) ?_
  refine go_h (zps_zps _ _ _ _ _) ?_
  refine go_istore_n dX2_runSecond_9 (Nat.le_of_ble_eq_true rfl) ?_
  refine go_aload_n dX2_runSecond_10 rfl ?_
  refine go_iload_n dX2_runSecond_11 rfl ?_
  refine go_callVv (ci := 2) dX2_runSecond_12 moX2_coolDownExcept cvX2_91 ⟨rfl, rfl⟩ (kX2_coolDownExcept_ γ l _ _ a s2.1 (zps_is γ h a _) _ s3 h3) (by exact zps_is γ h a _ 0 (by decide)) rfl rfl (Nat.le_refl _) (Nat.zero_le _) (Nat.zero_le _) (Nat.le_of_ble_eq_true rfl) ?_
  refine go_h (zps_zps _ _ _ _ _) ?_
  refine go_aload_n dX2_runSecond_15 rfl ?_
  refine go_callVi (ci := 2) dX2_runSecond_16 moX2_powerUp cvX2_95 ⟨rfl, rfl⟩ (kX2_powerUp_ γ l _ _ a s3 (zps_is γ h a _) k3 s4 h4) (by exact zps_is γ h a _ 0 (by decide)) rfl rfl (Nat.le_refl _) (Nat.zero_le _) (Nat.zero_le _) (Nat.le_of_ble_eq_true rfl) ?_
  refine go_h (zps_zps _ _ _ _ _) ?_
  refine go_istore_n dX2_runSecond_19 (Nat.le_of_ble_eq_true rfl) ?_
  refine go_aload_n dX2_runSecond_20 rfl ?_
  refine go_dup dX2_runSecond_21 rfl ?_
  refine go_getf dX2_runSecond_22 flX2_56 (by exact zps_is γ h a _ 0 (by decide)) rfl ?_
  refine go_iconst (v := 1) dX2_runSecond_25 (by decide) ?_
  refine go_iadd dX2_runSecond_26 ?_
  refine go_putf dX2_runSecond_27 flX2_56 fnX2_9 (by exact zps_is γ h a _ 0 (by decide)) rfl rfl (Nat.le_of_ble_eq_true rfl) ?_
  refine go_h (zst_2 (upd (s4.1 2) 5 (s4.1 2 5 + 1)) rfl) ?_
  refine go_iload_n dX2_runSecond_30 rfl ?_
  refine go_callSi dX2_runSecond_31 moJ6_bitCount_0f7a4 csX2_98 (kJ6_bitCount_0f7a4 γ l _ _ _) rfl rfl (Nat.le_refl _) (Nat.zero_le _) (Nat.zero_le _) (Nat.le_of_ble_eq_true rfl) ?_
  refine go_iload_n dX2_runSecond_34 rfl ?_
  refine go_callSi dX2_runSecond_35 moJ6_bitCount_0f7a4 csX2_98 (kJ6_bitCount_0f7a4 γ l _ _ _) rfl rfl (Nat.le_refl _) (Nat.zero_le _) (Nat.zero_le _) (Nat.le_of_ble_eq_true rfl) ?_
  refine go_iadd dX2_runSecond_38 ?_
  refine go_iload_n dX2_runSecond_39 rfl ?_
  refine go_iadd dX2_runSecond_40 ?_
  refine go_iret dX2_runSecond_41 rfl ?_ ?_ (Nat.zero_le _) (Nat.zero_le _)
  · rw [← hR, hE]
  · rw [← hR, hE]; rfl
def sX1 (σ τ : zS) : Nat → zS
  | 0 => σ
  | k + 1 => up2 (up2 (sX1 σ τ k) 0 k (τ 0 k)) 1 k (τ 1 k)
def sX2 (σ τ : zS) : Nat → zS
  | 0 => sX1 σ τ 3
  | k + 1 => upR (sX2 σ τ k) (7 + k) (τ (7 + k))
def sX3 (ρ τ : zS) : zS := upL ρ (lCpy (fun c => ρ (3 + c)) (fun c => τ (3 + c)))
def sCp (σ τ : zS) : zS := let ρ := sX3 (sX2 σ τ 8) τ
  up2 (up2 (up2 (up2 (up2 (up2 ρ 2 0 (τ 2 0)) 2 1 (τ 2 1)) 2 2 (τ 2 2)) 2 3 (τ 2 3)) 2 4 (τ 2 4)) 2 5 (τ 2 5)
def sBo (τ : zS) : Prop := (∀ k, k < 3 → zB (τ 1 k)) ∧ ∀ k, k < 8 → zbo (τ (7 + k))
theorem zst_0 {γ : zG} {h : zH} {a : Nat} {σ : zS} {f : Nat → Int32} : zu (zps γ h a σ) (a + 1) (zai γ 3 f) = zps γ h a (upR σ 0 f) := (zst_r0 (zps_is γ h a σ)).trans (zps_zps _ _ _ _ _)
theorem zst_1 {γ : zG} {h : zH} {a : Nat} {σ : zS} {f : Nat → Int32} : zu (zps γ h a σ) (a + 2) (zaz γ 3 f) = zps γ h a (upR σ 1 f) := (zst_r1 (zps_is γ h a σ)).trans (zps_zps _ _ _ _ _)
theorem zst_l {γ : zG} {h : zH} {a : Nat} {σ : zS} {L : Nat → Nat → Int32} : zput (zps γ h a σ) (a + 4) 4 (zlo γ (a + 4) L) = zps γ h a (upL σ L) := (zst_rl (zps_is γ h a σ)).trans (zps_zps _ _ _ _ _)
theorem zps_o {γ : zG} {h : zH} {a b : Nat} {σ τ : zS} (ht : zSt16 γ h b τ) (hd : b + 16 ≤ a ∨ a + 16 ≤ b) : zSt16 γ (zps γ h a σ) b τ := zIs.out ht (by omega)
set_option maxRecDepth 4000 in
theorem kX2_copyFrom_ (γ : zG) (l : Launch) (n : Nat) (h : zH) (a : Nat) (σ : zS) (hs : zSt16 γ h a σ) (b : Nat) (τ : zS) (ht0 : zSt16 γ h b τ) (hd : b + 16 ≤ a ∨ a + 16 ≤ b) (hbo : sBo τ) (R : zS) (hR : sCp σ τ = R) : Con γ l (n + 2) 0 0 MX2_copyFrom [.ref a, .ref b] h none (zps γ h a R) := by
  refine Con.go (by decide +kernel) (Nat.le_of_ble_eq_true rfl) ⟨rfl, rfl, trivial⟩ ?_
  show Go _ 0 0 0 [some (.ref a), some (.ref b), none] [] _
  have loop2 : ∀ (m k : Nat) (ρ : zS), ρ = sX2 σ τ k → k + m = 8 → Go (γ, l, n + 2, (0, 0), MX2_copyFrom, zF γ 0 0 none (zps γ h a R)) 0 0 39 [some (.ref a), some (.ref b), some (.int (nI k))] [] (zps γ h a ρ) := by
    intro m
    induction m with
    | zero =>
      intro k ρ he hk
      have hkN : k = 8 := by omega
      subst hkN
      refine go_iload_n dX2_copyFrom_39 rfl ?_
      refine go_bipush (v := 8) dX2_copyFrom_40 (by decide) ?_
      refine go_icmp_ge (tgt := 66) dX2_copyFrom_42 (by decide) (fun c42 => ?_) (fun c42 => absurd (by decide) c42)
      refine go_aload_n dX2_copyFrom_66 rfl ?_
      refine go_getf dX2_copyFrom_67 flX2_28 (by exact zps_is γ h a _ 0 (by decide)) rfl ?_
      refine go_aload_n dX2_copyFrom_70 rfl ?_
      refine go_getf dX2_copyFrom_71 flX2_28 (by exact zps_o ht0 hd 0 (by decide)) rfl ?_
      refine go_callVv (ci := 0) dX2_copyFrom_74 moX0_copyFrom cvX2_47 ⟨rfl, rfl⟩ (kX0_copyFrom γ l _ _ (a + 4) (fun c => ρ (3 + c)) (zst_log (zps_is γ h a _)) (b + 4) (fun c => τ (3 + c)) (zst_log (zps_o ht0 hd)) (by omega)) (by exact zps_is γ h a _ 4 (by decide)) rfl rfl (Nat.le_refl _) (Nat.zero_le _) (Nat.zero_le _) (Nat.le_of_ble_eq_true rfl) ?_
      refine go_h zst_l ?_
      generalize hr2 : upL ρ (lCpy (fun c => ρ (3 + c)) (fun c => τ (3 + c))) = ρ2
      refine go_aload_n dX2_copyFrom_77 rfl ?_
      refine go_aload_n dX2_copyFrom_78 rfl ?_
      refine go_getf dX2_copyFrom_79 flX2_50 (by exact zps_o ht0 hd 0 (by decide)) rfl ?_
      refine go_putf dX2_copyFrom_82 flX2_50 fnX2_4 (by exact zps_is γ h a _ 0 (by decide)) rfl rfl (Nat.le_of_ble_eq_true rfl) ?_
      refine go_h (zst_2 (upd (ρ2 2) 0 (τ 2 0)) rfl) ?_
      refine go_aload_n dX2_copyFrom_85 rfl ?_
      refine go_aload_n dX2_copyFrom_86 rfl ?_
      refine go_getf dX2_copyFrom_87 flX2_32 (by exact zps_o ht0 hd 0 (by decide)) rfl ?_
      refine go_putf dX2_copyFrom_90 flX2_32 fnX2_5 (by exact zps_is γ h a _ 0 (by decide)) rfl rfl (Nat.le_of_ble_eq_true rfl) ?_
      refine go_h (zst_2 (upd (up2 ρ2 2 0 (τ 2 0) 2) 1 (τ 2 1)) rfl) ?_
      refine go_aload_n dX2_copyFrom_93 rfl ?_
      refine go_aload_n dX2_copyFrom_94 rfl ?_
      refine go_getf dX2_copyFrom_95 flX2_36 (by exact zps_o ht0 hd 0 (by decide)) rfl ?_
      refine go_putf dX2_copyFrom_98 flX2_36 fnX2_6 (by exact zps_is γ h a _ 0 (by decide)) rfl rfl (Nat.le_of_ble_eq_true rfl) ?_
      refine go_h (zst_2 (upd (up2 (up2 ρ2 2 0 (τ 2 0)) 2 1 (τ 2 1) 2) 2 (τ 2 2)) rfl) ?_
      refine go_aload_n dX2_copyFrom_101 rfl ?_
      refine go_aload_n dX2_copyFrom_102 rfl ?_
      refine go_getf dX2_copyFrom_103 flX2_39 (by exact zps_o ht0 hd 0 (by decide)) rfl ?_
      refine go_putf dX2_copyFrom_106 flX2_39 fnX2_7 (by exact zps_is γ h a _ 0 (by decide)) rfl rfl (Nat.le_of_ble_eq_true rfl) ?_
      refine go_h (zst_2 (upd (up2 (up2 (up2 ρ2 2 0 (τ 2 0)) 2 1 (τ 2 1)) 2 2 (τ 2 2) 2) 3 (τ 2 3)) rfl) ?_
      refine go_aload_n dX2_copyFrom_109 rfl ?_
      refine go_aload_n dX2_copyFrom_110 rfl ?_
      refine go_getf dX2_copyFrom_111 flX2_53 (by exact zps_o ht0 hd 0 (by decide)) rfl ?_
      refine go_putf dX2_copyFrom_114 flX2_53 fnX2_8 (by exact zps_is γ h a _ 0 (by decide)) rfl rfl (Nat.le_of_ble_eq_true rfl) ?_
      refine go_h (zst_2 (upd (up2 (up2 (up2 (up2 ρ2 2 0 (τ 2 0)) 2 1 (τ 2 1)) 2 2 (τ 2 2)) 2 3 (τ 2 3) 2) 4 (τ 2 4)) rfl) ?_
      refine go_aload_n dX2_copyFrom_117 rfl ?_
      refine go_aload_n dX2_copyFrom_118 rfl ?_
      refine go_getf dX2_copyFrom_119 flX2_56 (by exact zps_o ht0 hd 0 (by decide)) rfl ?_
      refine go_putf dX2_copyFrom_122 flX2_56 fnX2_9 (by exact zps_is γ h a _ 0 (by decide)) rfl rfl (Nat.le_of_ble_eq_true rfl) ?_
      refine go_h (zst_2 (upd (up2 (up2 (up2 (up2 (up2 ρ2 2 0 (τ 2 0)) 2 1 (τ 2 1)) 2 2 (τ 2 2)) 2 3 (τ 2 3)) 2 4 (τ 2 4) 2) 5 (τ 2 5)) rfl) ?_
      refine go_vret dX2_copyFrom_125 rfl rfl ?_ (Nat.zero_le _) (Nat.zero_le _)
      · (rw [← hR, sCp, sX3, ← he, hr2]; rfl)
    | succ m ih =>
      intro k ρ he hk
      have hlt : k < 8 := by omega
      refine go_iload_n dX2_copyFrom_39 rfl ?_
      refine go_bipush (v := 8) dX2_copyFrom_40 (by decide) ?_
      refine go_icmp_ge (tgt := 66) dX2_copyFrom_42 (by decide) (fun c42 => absurd c42 (zge hk)) (fun c42 => ?_)
      refine go_aload_n dX2_copyFrom_45 rfl ?_
      refine go_getf dX2_copyFrom_46 flX2_21 (by exact zps_is γ h a _ 0 (by decide)) rfl ?_
      refine go_iload_n dX2_copyFrom_49 rfl ?_
      refine go_ald (t0 := 2) (C := RX1) dX2_copyFrom_50 (by exact zps_is γ h a _ 3 (by decide)) rfl (zix rfl hlt (by decide)).1 (zix rfl hlt (by decide)).2 (zrf8 hlt) ?_
      refine go_aload_n dX2_copyFrom_51 rfl ?_
      refine go_getf dX2_copyFrom_52 flX2_21 (by exact zps_o ht0 hd 0 (by decide)) rfl ?_
      refine go_iload_n dX2_copyFrom_55 rfl ?_
      refine go_ald (t0 := 2) (C := RX1) dX2_copyFrom_56 (by exact zps_o ht0 hd 3 (by decide)) rfl (zix rfl hlt (by decide)).1 (zix rfl hlt (by decide)).2 (zrf8 hlt) ?_
      refine go_callVv (ci := 1) dX2_copyFrom_57 moX1_copyFrom cvX2_43 ⟨rfl, rfl⟩ (kX1_copyFrom γ l _ _ (a + 8 + k) (ρ (7 + k)) (zst_port (zps_is γ h a _) hlt) (b + 8 + k) (τ (7 + k)) (zst_port (zps_o ht0 hd) hlt) (by omega) (hbo.2 k hlt)) (by exact zst_port (zps_is γ h a _) hlt) rfl rfl (Nat.le_refl _) (Nat.zero_le _) (Nat.zero_le _) (Nat.le_of_ble_eq_true rfl) ?_
      refine go_h (zst_p hlt) ?_
      refine go_iinc dX2_copyFrom_60 rfl (nI_1 k) (Nat.le_of_ble_eq_true rfl) ?_
      refine go_goto (tgt := 39) dX2_copyFrom_63 (by decide) ?_
      exact ih (k + 1) _ (by rw [he]; rfl) (by omega)
  have loop : ∀ (m k : Nat), k + m = 3 → Go (γ, l, n + 2, (0, 0), MX2_copyFrom, zF γ 0 0 none (zps γ h a R)) 0 0 2 [some (.ref a), some (.ref b), some (.int (nI k))] [] (zps γ h a (sX1 σ τ k)) := by
    intro m
    induction m with
    | zero =>
      intro k hk
      have hkN : k = 3 := by omega
      subst hkN
      refine go_iload_n dX2_copyFrom_2 rfl ?_
      refine go_iconst (v := 3) dX2_copyFrom_3 (by decide) ?_
      refine go_icmp_ge (tgt := 37) dX2_copyFrom_4 (by decide) (fun c4 => ?_) (fun c4 => absurd (by decide) c4)
      refine go_iconst (v := 0) dX2_copyFrom_37 (by decide) ?_
      refine go_istore_n dX2_copyFrom_38 (Nat.le_of_ble_eq_true rfl) ?_
      exact go_vl (loop2 8 0 (sX2 σ τ 0) rfl rfl) ⟨rfl, rfl, rfl, trivial⟩
    | succ m ih =>
      intro k hk
      have hlt : k < 3 := by omega
      refine go_iload_n dX2_copyFrom_2 rfl ?_
      refine go_iconst (v := 3) dX2_copyFrom_3 (by decide) ?_
      refine go_icmp_ge (tgt := 37) dX2_copyFrom_4 (by decide) (fun c4 => absurd c4 (zge3 hk)) (fun c4 => ?_)
      refine go_aload_n dX2_copyFrom_7 rfl ?_
      refine go_getf dX2_copyFrom_8 flX2_9 (by first | exact zps_is γ h a _ 0 (by decide) | exact zps_is γ h a _ 1 (by decide) | exact zps_is γ h a _ 2 (by decide) | exact zps_o ht0 hd 0 (by decide) | exact zps_o ht0 hd 1 (by decide) | exact zps_o ht0 hd 2 (by decide)) rfl ?_
      refine go_iload_n dX2_copyFrom_11 rfl ?_
      refine go_aload_n dX2_copyFrom_12 rfl ?_
      refine go_getf dX2_copyFrom_13 flX2_9 (by first | exact zps_is γ h a _ 0 (by decide) | exact zps_is γ h a _ 1 (by decide) | exact zps_is γ h a _ 2 (by decide) | exact zps_o ht0 hd 0 (by decide) | exact zps_o ht0 hd 1 (by decide) | exact zps_o ht0 hd 2 (by decide)) rfl ?_
      refine go_iload_n dX2_copyFrom_16 rfl ?_
      refine go_iald dX2_copyFrom_17 (by first | exact zps_is γ h a _ 0 (by decide) | exact zps_is γ h a _ 1 (by decide) | exact zps_is γ h a _ 2 (by decide) | exact zps_o ht0 hd 0 (by decide) | exact zps_o ht0 hd 1 (by decide) | exact zps_o ht0 hd 2 (by decide)) (zix rfl hlt (by decide)).1 (zix rfl hlt (by decide)).2 ?_
      refine go_iast dX2_copyFrom_18 (by first | exact zps_is γ h a _ 0 (by decide) | exact zps_is γ h a _ 1 (by decide) | exact zps_is γ h a _ 2 (by decide) | exact zps_o ht0 hd 0 (by decide) | exact zps_o ht0 hd 1 (by decide) | exact zps_o ht0 hd 2 (by decide)) (zix rfl hlt (by decide)).1 (zix rfl hlt (by decide)).2 ?_
      refine go_h zst_0 ?_
      refine go_aload_n dX2_copyFrom_19 rfl ?_
      refine go_getf dX2_copyFrom_20 flX2_15 (by first | exact zps_is γ h a _ 0 (by decide) | exact zps_is γ h a _ 1 (by decide) | exact zps_is γ h a _ 2 (by decide) | exact zps_o ht0 hd 0 (by decide) | exact zps_o ht0 hd 1 (by decide) | exact zps_o ht0 hd 2 (by decide)) rfl ?_
      refine go_iload_n dX2_copyFrom_23 rfl ?_
      refine go_aload_n dX2_copyFrom_24 rfl ?_
      refine go_getf dX2_copyFrom_25 flX2_15 (by first | exact zps_is γ h a _ 0 (by decide) | exact zps_is γ h a _ 1 (by decide) | exact zps_is γ h a _ 2 (by decide) | exact zps_o ht0 hd 0 (by decide) | exact zps_o ht0 hd 1 (by decide) | exact zps_o ht0 hd 2 (by decide)) rfl ?_
      refine go_iload_n dX2_copyFrom_28 rfl ?_
      refine go_zald dX2_copyFrom_29 (by first | exact zps_is γ h a _ 0 (by decide) | exact zps_is γ h a _ 1 (by decide) | exact zps_is γ h a _ 2 (by decide) | exact zps_o ht0 hd 0 (by decide) | exact zps_o ht0 hd 1 (by decide) | exact zps_o ht0 hd 2 (by decide)) (zix rfl hlt (by decide)).1 (zix rfl hlt (by decide)).2 ?_
      refine go_zast dX2_copyFrom_30 (by first | exact zps_is γ h a _ 0 (by decide) | exact zps_is γ h a _ 1 (by decide) | exact zps_is γ h a _ 2 (by decide) | exact zps_o ht0 hd 0 (by decide) | exact zps_o ht0 hd 1 (by decide) | exact zps_o ht0 hd 2 (by decide)) (zix rfl hlt (by decide)).1 (zix rfl hlt (by decide)).2 (zab (by exact hbo.1 k hlt)) ?_
      refine go_h zst_1 ?_
      refine go_iinc dX2_copyFrom_31 rfl (nI_1 k) (Nat.le_of_ble_eq_true rfl) ?_
      refine go_goto (tgt := 2) dX2_copyFrom_34 (by decide) ?_
      exact ih (k + 1) (by omega)
  refine go_h (zps_id hs).symm ?_
  refine go_iconst (v := 0) dX2_copyFrom_0 (by decide) ?_
  refine go_istore_n dX2_copyFrom_1 (Nat.le_of_ble_eq_true rfl) ?_
  exact go_vl (loop 3 0 rfl) ⟨rfl, rfl, rfl, trivial⟩
