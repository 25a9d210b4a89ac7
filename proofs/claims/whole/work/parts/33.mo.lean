/-! PoeSwitchModel: the log, the order, shedding -/
def nOf (M : Nat → Int32) (k : Nat) (i : Int32) : Int32 := if 0 ≤ i ∧ i ≤ M 12 - 1 then M (13 + 3 * ix i + k) else -1
theorem nev {M : Nat → Int32} {i : Int32} {c k : Nat} (hc : M 12 = nI c) (h16 : c ≤ 16) (hk : k < 3) (hi : 0 ≤ i ∧ i ≤ M 12 - 1) : (13 : Int32) + 3 * i + nI k = nI (13 + 3 * ix i + k) ∧ 13 + 3 * ix i + k < 149 ∧ i = nI (ix i) ∧ ix i < c := by
  rw [hc] at hi
  have hn : ¬ i < 0 := zle.mp hi.1
  obtain ⟨j, hj, e⟩ := nI_of hn
  have hcj : ix i = j := by rw [e]; exact nI_clamp hj
  rw [hcj]
  have hjc : j < c := by
    have h2 := Int32.le_iff_toInt_le.mp hi.2
    rw [e, nI_toInt hj] at h2
    cases c with
    | zero =>
      have : (nI 0 - 1).toInt = -1 := by decide
      omega
    | succ c =>
      rw [nI_pred, nI_toInt (by omega)] at h2
      omega
  refine ⟨?_, by omega, e, hjc⟩
  rw [e, show (3 : Int32) = nI 3 from rfl, show (13 : Int32) = nI 13 from rfl, pk_mul, nI_add, nI_add]
set_option maxRecDepth 4000 in
theorem kX4_ofEvent (γ : zG) (l : Launch) (n : Nat) (h : zH) (b : Nat) (μ : zS) (hm : zMd γ h b μ) (c : Nat) (hc : μ 0 12 = nI c) (h16 : c ≤ 16) (i w : Int32) (k : Nat) (hw : w = nI k) (hk : k < 3) : Con γ l (n + 1) 0 0 MX4_ofEvent [.ref b, .int i, .int w] h (some (.int (nOf (μ 0) k i))) h := by
  refine Con.go (by decide +kernel) (Nat.le_of_ble_eq_true rfl) ⟨rfl, rfl, rfl, trivial⟩ ?_
  show Go _ 0 0 0 [some (.ref b), some (.int i), some (.int w)] [] _
  subst hw
  refine go_iload_n dX4_ofEvent_0 rfl ?_
  refine go_iconst (v := 0) dX4_ofEvent_1 (by decide) ?_
  refine go_aload_n dX4_ofEvent_2 rfl ?_
  refine go_getf dX4_ofEvent_3 flX4_7 (by first | exact hm 0 (by decide) | exact hm 1 (by decide)) rfl ?_
  refine go_bipush (v := 12) dX4_ofEvent_6 (by decide) ?_
  refine go_iald dX4_ofEvent_8 (by first | exact hm 0 (by decide) | exact hm 1 (by decide)) (by unfold vp_in; decide) rfl ?_
  refine go_iconst (v := 1) dX4_ofEvent_9 (by decide) ?_
  refine go_isub dX4_ofEvent_10 ?_
  refine go_callSi dX4_ofEvent_11 moX4_in csX4_30 (kX4_in γ l _ _ _ _ _) rfl rfl (Nat.le_refl _) (Nat.zero_le _) (Nat.zero_le _) (Nat.le_of_ble_eq_true rfl) ?_
  refine go_if_eq (tgt := 33) dX4_ofEvent_14 (by decide) (fun c14 => ?_) (fun c14 => ?_)
  · replace c14 := zi_0.mp c14
    refine go_iconst (v := (-1)) dX4_ofEvent_33 (by decide) ?_
    refine go_iret dX4_ofEvent_34 rfl ?_ ?_ (Nat.zero_le _) (Nat.zero_le _)
    · first | exact congrArg (fun v => some (Value.int v)) (if_pos c14) | exact congrArg (fun v => some (Value.int v)) (if_neg c14)
    · rfl
  · replace c14 := zi_nz.mp c14
    skip
    refine go_aload_n dX4_ofEvent_17 rfl ?_
    refine go_getf dX4_ofEvent_18 flX4_7 (by first | exact hm 0 (by decide) | exact hm 1 (by decide)) rfl ?_
    refine go_bipush (v := 13) dX4_ofEvent_21 (by decide) ?_
    refine go_iconst (v := 3) dX4_ofEvent_23 (by decide) ?_
    refine go_iload_n dX4_ofEvent_24 rfl ?_
    refine go_imul dX4_ofEvent_25 ?_
    refine go_iadd dX4_ofEvent_26 ?_
    refine go_iload_n dX4_ofEvent_27 rfl ?_
    refine go_iadd dX4_ofEvent_28 ?_
    refine go_iald dX4_ofEvent_29 (by first | exact hm 0 (by decide) | exact hm 1 (by decide)) (zix (n := 149) (nev hc h16 hk c14).1 (nev hc h16 hk c14).2.1 (by decide)).1 (zix (n := 149) (nev hc h16 hk c14).1 (nev hc h16 hk c14).2.1 (by decide)).2 ?_
    refine go_goto (tgt := 34) dX4_ofEvent_30 (by decide) ?_
    refine go_iret dX4_ofEvent_34 rfl ?_ ?_ (Nat.zero_le _) (Nat.zero_le _)
    · first | exact congrArg (fun v => some (Value.int v)) (if_pos c14) | exact congrArg (fun v => some (Value.int v)) (if_neg c14)
    · rfl
set_option maxRecDepth 4000 in
theorem kX4_eventTime (γ : zG) (l : Launch) (n : Nat) (h : zH) (b : Nat) (μ : zS) (hm : zMd γ h b μ) (c : Nat) (hc : μ 0 12 = nI c) (h16 : c ≤ 16) (i : Int32) : Con γ l (n + 2) 0 0 MX4_eventTime [.ref b, .int i] h (some (.int (nOf (μ 0) 0 i))) h := by
  refine Con.go (by decide +kernel) (Nat.le_of_ble_eq_true rfl) ⟨rfl, rfl, trivial⟩ ?_
  show Go _ 0 0 0 [some (.ref b), some (.int i)] [] _
  refine go_aload_n dX4_eventTime_0 rfl ?_
  refine go_iload_n dX4_eventTime_1 rfl ?_
  refine go_iconst (v := 0) dX4_eventTime_2 (by decide) ?_
  refine go_callVi (ci := 4) dX4_eventTime_3 moX4_ofEvent cvX4_109 ⟨rfl, rfl⟩ (kX4_ofEvent γ l _ _ b μ hm c hc h16 _ _ 0 rfl (by decide)) (by first | exact hm 0 (by decide) | exact hm 1 (by decide)) rfl rfl (Nat.le_refl _) (Nat.zero_le _) (Nat.zero_le _) (Nat.le_of_ble_eq_true rfl) ?_
  refine go_iret dX4_eventTime_6 rfl ?_ ?_ (Nat.zero_le _) (Nat.zero_le _)
  · rfl
  · rfl
set_option maxRecDepth 4000 in
theorem kX4_eventPort (γ : zG) (l : Launch) (n : Nat) (h : zH) (b : Nat) (μ : zS) (hm : zMd γ h b μ) (c : Nat) (hc : μ 0 12 = nI c) (h16 : c ≤ 16) (i : Int32) : Con γ l (n + 2) 0 0 MX4_eventPort [.ref b, .int i] h (some (.int (nOf (μ 0) 1 i))) h := by
  refine Con.go (by decide +kernel) (Nat.le_of_ble_eq_true rfl) ⟨rfl, rfl, trivial⟩ ?_
  show Go _ 0 0 0 [some (.ref b), some (.int i)] [] _
  refine go_aload_n dX4_eventPort_0 rfl ?_
  refine go_iload_n dX4_eventPort_1 rfl ?_
  refine go_iconst (v := 1) dX4_eventPort_2 (by decide) ?_
  refine go_callVi (ci := 4) dX4_eventPort_3 moX4_ofEvent cvX4_109 ⟨rfl, rfl⟩ (kX4_ofEvent γ l _ _ b μ hm c hc h16 _ _ 1 rfl (by decide)) (by first | exact hm 0 (by decide) | exact hm 1 (by decide)) rfl rfl (Nat.le_refl _) (Nat.zero_le _) (Nat.zero_le _) (Nat.le_of_ble_eq_true rfl) ?_
  refine go_iret dX4_eventPort_6 rfl ?_ ?_ (Nat.zero_le _) (Nat.zero_le _)
  · rfl
  · rfl
set_option maxRecDepth 4000 in
theorem kX4_eventKind (γ : zG) (l : Launch) (n : Nat) (h : zH) (b : Nat) (μ : zS) (hm : zMd γ h b μ) (c : Nat) (hc : μ 0 12 = nI c) (h16 : c ≤ 16) (i : Int32) : Con γ l (n + 2) 0 0 MX4_eventKind [.ref b, .int i] h (some (.int (nOf (μ 0) 2 i))) h := by
  refine Con.go (by decide +kernel) (Nat.le_of_ble_eq_true rfl) ⟨rfl, rfl, trivial⟩ ?_
  show Go _ 0 0 0 [some (.ref b), some (.int i)] [] _
  refine go_aload_n dX4_eventKind_0 rfl ?_
  refine go_iload_n dX4_eventKind_1 rfl ?_
  refine go_iconst (v := 2) dX4_eventKind_2 (by decide) ?_
  refine go_callVi (ci := 4) dX4_eventKind_3 moX4_ofEvent cvX4_109 ⟨rfl, rfl⟩ (kX4_ofEvent γ l _ _ b μ hm c hc h16 _ _ 2 rfl (by decide)) (by first | exact hm 0 (by decide) | exact hm 1 (by decide)) rfl rfl (Nat.le_refl _) (Nat.zero_le _) (Nat.zero_le _) (Nat.le_of_ble_eq_true rfl) ?_
  refine go_iret dX4_eventKind_6 rfl ?_ ?_ (Nat.zero_le _) (Nat.zero_le _)
  · rfl
  · rfl
def nSf (M : Nat → Int32) (k : Nat) : Nat → Int32 := fun i => if 13 ≤ i ∧ i < 13 + k then M (i + 3) else M i
theorem nSf_s (M : Nat → Int32) (k : Nat) : upd (nSf M k) (13 + k) (nSf M k (13 + k + 3)) = nSf M (k + 1) := by
  funext i
  unfold upd nSf
  by_cases h1 : i = 13 + k
  · subst h1
    rw [if_pos rfl, if_neg (by omega), if_pos (by omega)]
  · rw [if_neg h1]
    by_cases h2 : 13 ≤ i ∧ i < 13 + k
    · rw [if_pos h2, if_pos (by omega)]
    · rw [if_neg h2, if_neg (by omega)]
theorem nSf_0 (M : Nat → Int32) : nSf M 0 = M := by
  funext i
  unfold nSf
  rw [if_neg (by omega)]
def nTl (M : Nat → Int32) (c : Nat) (p kd : Int32) : Nat → Int32 :=
  upd (upd (upd (upd M (13 + 3 * c) (M 11)) (13 + 3 * c + 1) p) (13 + 3 * c + 2) kd) 12 (upd (upd (upd M (13 + 3 * c) (M 11)) (13 + 3 * c + 1) p) (13 + 3 * c + 2) kd 12 + 1)
def nAdd (M : Nat → Int32) (c : Nat) (p kd : Int32) : Nat → Int32 := if c = 16 then nTl (upd (nSf M 45) 12 (nSf M 45 12 - 1)) 15 p kd else nTl M c p kd
def nOc (μ : zS) : zS := upR μ 5 (upd (μ 5) 0 (μ 5 0 + 1))
def nEv (μ : zS) (c : Nat) (p kd : Int32) : zS := upR (nOc μ) 0 (nAdd (μ 0) c p kd)
theorem zge45 {k m : Nat} (hk : k + (m + 1) = 45) : ¬ (45 : Int32) ≤ nI k := by
  have h1 : (45 : Int32) = nI 45 := rfl
  rw [h1]
  exact nI_ge (by omega) (by decide)
theorem n13k (k : Nat) : (13 : Int32) + nI k = nI (13 + k) := nI_add 13 k
theorem n13k3 (k : Nat) : (13 : Int32) + nI k + 3 = nI (13 + k + 3) := by rw [n13k]; exact nI_add (13 + k) 3
theorem n133c (c : Nat) : (13 : Int32) + 3 * nI c = nI (13 + 3 * c) := by rw [show (3 : Int32) = nI 3 from rfl, show (13 : Int32) = nI 13 from rfl, pk_mul, nI_add]
set_option maxRecDepth 4000 in
theorem kX4_addEvent (γ : zG) (l : Launch) (n : Nat) (h : zH) (b : Nat) (μ : zS) (hm : zMd γ h b μ) (c : Nat) (hc : μ 0 12 = nI c) (h16 : c ≤ 16) (p kd : Int32) : Con γ l (n) 0 0 MX4_addEvent [.ref b, .int p, .int kd] h none (zpm γ h b (nEv μ c p kd)) := by
  refine Con.go (by decide +kernel) (Nat.le_of_ble_eq_true rfl) ⟨rfl, rfl, rfl, trivial⟩ ?_
  show Go _ 0 0 0 [some (.ref b), some (.int p), some (.int kd), none] [] _
  have mid : ∀ (M : Nat → Int32) (q : Nat), M 12 = nI q → q < 16 → zpm γ h b (nEv μ c p kd) = zpm γ h b (upR (nOc μ) 0 (nTl M q p kd)) → Go (γ, l, n, (0, 0), MX4_addEvent, zF γ 0 0 none (zpm γ h b (nEv μ c p kd))) 0 0 67 [some (.ref b), some (.int p), some (.int kd), none] [] (zpm γ h b (upR (nOc μ) 0 M)) := by
    intro M q hq hq16 hf
    refine go_bipush (v := 13) dX4_addEvent_67 (by decide) ?_
    refine go_iconst (v := 3) dX4_addEvent_69 (by decide) ?_
    refine go_aload_n dX4_addEvent_70 rfl ?_
    refine go_getf dX4_addEvent_71 flX4_7 (by first | exact zpm_is γ h b _ 0 (by decide) | exact zpm_is γ h b _ 1 (by decide)) rfl ?_
    refine go_bipush (v := 12) dX4_addEvent_74 (by decide) ?_
    refine go_iald dX4_addEvent_76 (by first | exact zpm_is γ h b _ 0 (by decide) | exact zpm_is γ h b _ 1 (by decide)) (by unfold vp_in; decide) rfl ?_
    refine go_imul dX4_addEvent_77 ?_
    refine go_iadd dX4_addEvent_78 ?_
    refine go_at rfl (show [Value.int (13 + 3 * M 12)] = [Value.int (nI (13 + 3 * q))] by rw [hq, n133c]) rfl ?_
    refine go_istore_n dX4_addEvent_79 (Nat.le_of_ble_eq_true rfl) ?_
    refine go_aload_n dX4_addEvent_80 rfl ?_
    refine go_getf dX4_addEvent_81 flX4_7 (by first | exact zpm_is γ h b _ 0 (by decide) | exact zpm_is γ h b _ 1 (by decide)) rfl ?_
    refine go_iload_n dX4_addEvent_84 rfl ?_
    refine go_aload_n dX4_addEvent_85 rfl ?_
    refine go_getf dX4_addEvent_86 flX4_7 (by first | exact zpm_is γ h b _ 0 (by decide) | exact zpm_is γ h b _ 1 (by decide)) rfl ?_
    refine go_bipush (v := 11) dX4_addEvent_89 (by decide) ?_
    refine go_iald dX4_addEvent_91 (by first | exact zpm_is γ h b _ 0 (by decide) | exact zpm_is γ h b _ 1 (by decide)) (by unfold vp_in; decide) rfl ?_
    refine go_iast dX4_addEvent_92 (by first | exact zpm_is γ h b _ 0 (by decide) | exact zpm_is γ h b _ 1 (by decide)) (zix (n := 149) (rfl) (by omega) (by decide)).1 (zix (n := 149) (rfl) (by omega) (by decide)).2 ?_
    refine go_h zmo_00 ?_
    refine go_aload_n dX4_addEvent_93 rfl ?_
    refine go_getf dX4_addEvent_94 flX4_7 (by first | exact zpm_is γ h b _ 0 (by decide) | exact zpm_is γ h b _ 1 (by decide)) rfl ?_
    refine go_iload_n dX4_addEvent_97 rfl ?_
    refine go_iconst (v := 1) dX4_addEvent_98 (by decide) ?_
    refine go_iadd dX4_addEvent_99 ?_
    refine go_iload_n dX4_addEvent_100 rfl ?_
    refine go_iast dX4_addEvent_101 (by first | exact zpm_is γ h b _ 0 (by decide) | exact zpm_is γ h b _ 1 (by decide)) (zix (n := 149) (nI_1 (13 + 3 * q)) (by omega) (by decide)).1 (zix (n := 149) (nI_1 (13 + 3 * q)) (by omega) (by decide)).2 ?_
    refine go_h zmo_00 ?_
    refine go_aload_n dX4_addEvent_102 rfl ?_
    refine go_getf dX4_addEvent_103 flX4_7 (by first | exact zpm_is γ h b _ 0 (by decide) | exact zpm_is γ h b _ 1 (by decide)) rfl ?_
    refine go_iload_n dX4_addEvent_106 rfl ?_
    refine go_iconst (v := 2) dX4_addEvent_107 (by decide) ?_
    refine go_iadd dX4_addEvent_108 ?_
    refine go_iload_n dX4_addEvent_109 rfl ?_
    refine go_iast dX4_addEvent_110 (by first | exact zpm_is γ h b _ 0 (by decide) | exact zpm_is γ h b _ 1 (by decide)) (zix (n := 149) (nI_add (13 + 3 * q) 2) (by omega) (by decide)).1 (zix (n := 149) (nI_add (13 + 3 * q) 2) (by omega) (by decide)).2 ?_
    refine go_h zmo_00 ?_
    refine go_aload_n dX4_addEvent_111 rfl ?_
    refine go_getf dX4_addEvent_112 flX4_7 (by first | exact zpm_is γ h b _ 0 (by decide) | exact zpm_is γ h b _ 1 (by decide)) rfl ?_
    refine go_bipush (v := 12) dX4_addEvent_115 (by decide) ?_
    refine go_dup2 dX4_addEvent_117 rfl rfl ?_
    refine go_iald dX4_addEvent_118 (by first | exact zpm_is γ h b _ 0 (by decide) | exact zpm_is γ h b _ 1 (by decide)) (by unfold vp_in; decide) rfl ?_
    refine go_iconst (v := 1) dX4_addEvent_119 (by decide) ?_
    refine go_iadd dX4_addEvent_120 ?_
    refine go_iast dX4_addEvent_121 (by first | exact zpm_is γ h b _ 0 (by decide) | exact zpm_is γ h b _ 1 (by decide)) (by unfold vp_in; decide) rfl ?_
    refine go_h zmo_00 ?_
    refine go_vret dX4_addEvent_122 rfl rfl ?_ (Nat.zero_le _) (Nat.zero_le _)
    · (rw [hf]; rfl)
  have loop : c = 16 → ∀ (m k : Nat), k + m = 45 → Go (γ, l, n, (0, 0), MX4_addEvent, zF γ 0 0 none (zpm γ h b (nEv μ c p kd))) 0 0 24 [some (.ref b), some (.int p), some (.int kd), some (.int (nI k))] [] (zpm γ h b (upR (nOc μ) 0 (nSf (μ 0) k))) := by
    intro hc16
    intro m
    induction m with
    | zero =>
      intro k hk
      have hkN : k = 45 := by omega
      subst hkN
      refine go_iload_n dX4_addEvent_24 rfl ?_
      refine go_bipush (v := 45) dX4_addEvent_25 (by decide) ?_
      refine go_icmp_ge (tgt := 56) dX4_addEvent_27 (by decide) (fun c27 => ?_) (fun c27 => absurd (by decide) c27)
      refine go_aload_n dX4_addEvent_56 rfl ?_
      refine go_getf dX4_addEvent_57 flX4_7 (by first | exact zpm_is γ h b _ 0 (by decide) | exact zpm_is γ h b _ 1 (by decide)) rfl ?_
      refine go_bipush (v := 12) dX4_addEvent_60 (by decide) ?_
      refine go_dup2 dX4_addEvent_62 rfl rfl ?_
      refine go_iald dX4_addEvent_63 (by first | exact zpm_is γ h b _ 0 (by decide) | exact zpm_is γ h b _ 1 (by decide)) (by unfold vp_in; decide) rfl ?_
      refine go_iconst (v := 1) dX4_addEvent_64 (by decide) ?_
      refine go_isub dX4_addEvent_65 ?_
      refine go_iast dX4_addEvent_66 (by first | exact zpm_is γ h b _ 0 (by decide) | exact zpm_is γ h b _ 1 (by decide)) (by unfold vp_in; decide) rfl ?_
      refine go_h zmo_00 ?_
      exact go_vl (mid (upd (nSf (μ 0) 45) 12 (nSf (μ 0) 45 12 - 1)) 15 (by show μ 0 12 - 1 = _; rw [hc, hc16]; rfl) (by decide) (by rw [nEv, nAdd, if_pos hc16])) ⟨rfl, rfl, rfl, trivial⟩
    | succ m ih =>
      intro k hk
      have hlt : k < 45 := by omega
      refine go_iload_n dX4_addEvent_24 rfl ?_
      refine go_bipush (v := 45) dX4_addEvent_25 (by decide) ?_
      refine go_icmp_ge (tgt := 56) dX4_addEvent_27 (by decide) (fun c27 => absurd c27 (zge45 hk)) (fun c27 => ?_)
      refine go_aload_n dX4_addEvent_30 rfl ?_
      refine go_getf dX4_addEvent_31 flX4_7 (by first | exact zpm_is γ h b _ 0 (by decide) | exact zpm_is γ h b _ 1 (by decide)) rfl ?_
      refine go_bipush (v := 13) dX4_addEvent_34 (by decide) ?_
      refine go_iload_n dX4_addEvent_36 rfl ?_
      refine go_iadd dX4_addEvent_37 ?_
      refine go_aload_n dX4_addEvent_38 rfl ?_
      refine go_getf dX4_addEvent_39 flX4_7 (by first | exact zpm_is γ h b _ 0 (by decide) | exact zpm_is γ h b _ 1 (by decide)) rfl ?_
      refine go_bipush (v := 13) dX4_addEvent_42 (by decide) ?_
      refine go_iload_n dX4_addEvent_44 rfl ?_
      refine go_iadd dX4_addEvent_45 ?_
      refine go_iconst (v := 3) dX4_addEvent_46 (by decide) ?_
      refine go_iadd dX4_addEvent_47 ?_
      refine go_iald dX4_addEvent_48 (by first | exact zpm_is γ h b _ 0 (by decide) | exact zpm_is γ h b _ 1 (by decide)) (zix (n := 149) (n13k3 k) (by omega) (by decide)).1 (zix (n := 149) (n13k3 k) (by omega) (by decide)).2 ?_
      refine go_iast dX4_addEvent_49 (by first | exact zpm_is γ h b _ 0 (by decide) | exact zpm_is γ h b _ 1 (by decide)) (zix (n := 149) (n13k k) (by omega) (by decide)).1 (zix (n := 149) (n13k k) (by omega) (by decide)).2 ?_
      refine go_h zmo_00 ?_
      refine go_iinc dX4_addEvent_50 rfl (nI_1 k) (Nat.le_of_ble_eq_true rfl) ?_
      refine go_goto (tgt := 24) dX4_addEvent_53 (by decide) ?_
      exact (congrArg (fun M => Go _ 0 0 24 _ [] (zpm γ h b (upR (nOc μ) 0 M))) (nSf_s (μ 0) k)).mpr (ih (k + 1) (by omega))
  refine go_aload_n dX4_addEvent_0 rfl ?_
  refine go_dup dX4_addEvent_1 rfl ?_
  refine go_getf dX4_addEvent_2 flX4_83 (by first | exact hm 0 (by decide) | exact hm 1 (by decide) | exact zpm_is γ h b _ 0 (by decide) | exact zpm_is γ h b _ 1 (by decide)) rfl ?_
  refine go_iconst (v := 1) dX4_addEvent_5 (by decide) ?_
  refine go_iadd dX4_addEvent_6 ?_
  refine go_putf dX4_addEvent_7 flX4_83 fnX4_4 (by first | exact hm 0 (by decide) | exact hm 1 (by decide) | exact zpm_is γ h b _ 0 (by decide) | exact zpm_is γ h b _ 1 (by decide)) rfl rfl (Nat.le_of_ble_eq_true rfl) ?_
  refine go_h (zmo_r5 (f := upd (μ 5) 0 (μ 5 0 + 1)) hm rfl) ?_
  refine go_aload_n dX4_addEvent_10 rfl ?_
  refine go_getf dX4_addEvent_11 flX4_7 (by first | exact hm 0 (by decide) | exact hm 1 (by decide) | exact zpm_is γ h b _ 0 (by decide) | exact zpm_is γ h b _ 1 (by decide)) rfl ?_
  refine go_bipush (v := 12) dX4_addEvent_14 (by decide) ?_
  refine go_iald dX4_addEvent_16 (by first | exact hm 0 (by decide) | exact hm 1 (by decide) | exact zpm_is γ h b _ 0 (by decide) | exact zpm_is γ h b _ 1 (by decide)) (by unfold vp_in; decide) rfl ?_
  refine go_bipush (v := 16) dX4_addEvent_17 (by decide) ?_
  refine go_icmp_ne (tgt := 67) dX4_addEvent_19 (by decide) (fun c19 => ?_) (fun c19 => ?_)
  · have hne : ¬ c = 16 := fun q => c19 (by show μ 0 12 = 16; rw [hc, q]; rfl)
    refine go_h (show zpm γ h b (nOc μ) = zpm γ h b (upR (nOc μ) 0 (μ 0)) from congrArg (zpm γ h b) (upR_id (σ := nOc μ) (c := 0)).symm) ?_
    exact mid (μ 0) c hc (by omega) (by rw [nEv, nAdd, if_neg hne])
  · refine go_iconst (v := 0) dX4_addEvent_22 (by decide) ?_
    refine go_istore_n dX4_addEvent_23 (Nat.le_of_ble_eq_true rfl) ?_
    have heq : c = 16 := by
      have q : μ 0 12 = 16 := c19
      rw [hc] at q
      exact (nI_eq (b := 16) (by omega) (by decide)).mp q
    refine go_h (show zpm γ h b (nOc μ) = zpm γ h b (upR (nOc μ) 0 (nSf (μ 0) 0)) from by rw [nSf_0]; exact congrArg (zpm γ h b) (upR_id (σ := nOc μ) (c := 0)).symm) ?_
    exact go_vl (loop heq 45 0 rfl) ⟨rfl, rfl, rfl, rfl, trivial⟩
