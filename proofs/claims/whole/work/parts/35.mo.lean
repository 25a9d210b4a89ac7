/-! PoeSwitchModel: what stays as it must -/
def nCt (M : Nat → Int32) : Nat := (M 12).toNatClampNeg
def nOk (M : Nat → Int32) : Prop := nPv M ∧ M 12 = nI (nCt M) ∧ nCt M ≤ 16
theorem nOk.of {M : Nat → Int32} {c : Nat} (h : nPv M) (h1 : M 12 = nI c) (h2 : c ≤ 16) : nOk M := by
  have e : nCt M = c := by unfold nCt; rw [h1]; exact nI_clamp (by omega)
  exact ⟨h, by rw [e]; exact h1, by rw [e]; exact h2⟩
theorem nOk.same {M N : Nat → Int32} (h : nOk M) (h1 : ∀ j, j < 8 → gM N j 1 = gM M j 1) (h2 : N 12 = M 12) : nOk N :=
  nOk.of (fun j hj => by rw [h1 j hj]; exact h.1 j hj) (h2.trans h.2.1) h.2.2
theorem nOk.upd {M : Nat → Int32} (h : nOk M) {i : Nat} {v : Int32} (h1 : ∀ j, j < 8 → mi j 1 ≠ i) (h2 : 12 ≠ i) : nOk (upd M i v) :=
  h.same (fun j hj => pk_un (h1 j hj)) (pk_un h2)
theorem nLose_o {M : Nat → Int32} {j i : Nat} (h1 : i ≠ mi j 8) (h2 : i ≠ mi j 9) : nLose M j i = M i := by rw [nLose, pk_un h2, pk_un h1]
theorem nOk.lose {M : Nat → Int32} (h : nOk M) (j : Nat) : nOk (nLose M j) :=
  h.same (fun i hi => nLose_o (by unfold mi; omega) (by unfold mi; omega)) (nLose_o (by unfold mi; omega) (by unfold mi; omega))
theorem nTl_o {M : Nat → Int32} {c i : Nat} {p kd : Int32} (h : i ≠ 12) (h1 : i < 13 + 3 * c ∨ 13 + 3 * c + 2 < i) : nTl M c p kd i = M i := by
  unfold nTl
  rw [pk_un h, pk_un (by omega), pk_un (by omega), pk_un (by omega)]
theorem nTl_12 {M : Nat → Int32} {c : Nat} {p kd : Int32} (h : M 12 = nI c) : nTl M c p kd 12 = nI (c + 1) := by
  unfold nTl
  rw [pk_us, pk_un (by omega), pk_un (by omega), pk_un (by omega), h, nI_1]
theorem nAdd_o {M : Nat → Int32} {c i : Nat} {p kd : Int32} (hc : c ≤ 16) (h : i ≤ 11 ∨ 61 ≤ i) : nAdd M c p kd i = M i := by
  unfold nAdd
  by_cases h16 : c = 16
  · rw [if_pos h16, nTl_o (by omega) (by omega), pk_un (by omega)]
    unfold nSf
    rw [if_neg (by omega)]
  · rw [if_neg h16, nTl_o (by omega) (by omega)]
theorem nAdd_12 {M : Nat → Int32} {c : Nat} {p kd : Int32} (h : M 12 = nI c) : nAdd M c p kd 12 = nI (if c = 16 then 16 else c + 1) := by
  unfold nAdd
  by_cases h16 : c = 16
  · rw [if_pos h16, if_pos h16, nTl_12]
    rw [pk_us]
    have e : nSf M 45 12 = M 12 := by unfold nSf; rw [if_neg (by omega)]
    rw [e, h, h16]
    rfl
  · rw [if_neg h16, if_neg h16, nTl_12 h]
theorem nOk.add {M : Nat → Int32} (h : nOk M) (p kd : Int32) : nOk (nAdd M (nCt M) p kd) := by
  refine nOk.of (c := if nCt M = 16 then 16 else nCt M + 1) (fun j hj => ?_) (nAdd_12 h.2.1) ?_
  · rw [show gM (nAdd M (nCt M) p kd) j 1 = gM M j 1 from nAdd_o h.2.2 (by unfold mi; omega)]
    exact h.1 j hj
  · have := h.2.2
    by_cases h16 : nCt M = 16
    · rw [if_pos h16]; exact Nat.le_refl _
    · rw [if_neg h16]; omega
/-! what its steps do -/
def pv (m : Nat) : Int32 := if m = 0 then -1 else nI (m - 1)
theorem pv_s (m : Nat) : pv (m + 1) = nI m := by unfold pv; rw [if_neg (by omega)]; rfl
theorem pv_d (m : Nat) : nI m + Int32.ofInt (-1) = pv m := by
  unfold pv
  cases m with
  | zero => decide
  | succ m => rw [if_neg (by omega)]; exact pk_m1 m
def nS1 (s : zS × Int32) (q : Nat) : zS × Int32 := if nAv (s.1 0) 8 < 0 ∧ 0 < gM (s.1 0) (ix (nOrd (s.1 0) q)) 8 then (nEv (upR s.1 0 (nLose (s.1 0) (ix (nOrd (s.1 0) q)))) (nCt (s.1 0)) (nOrd (s.1 0) q) 1, s.2 ||| bit (nOrd (s.1 0) q)) else s
def nSh : Nat → zS × Int32 → zS × Int32
  | 0, s => s
  | m + 1, s => nSh m (nS1 s m)
theorem nEv_0 {μ : zS} {c : Nat} {p kd : Int32} : nEv μ c p kd 0 = nAdd (μ 0) c p kd := rfl
theorem nOk.ev {M : Nat → Int32} (h : nOk M) (j : Nat) (p kd : Int32) : nOk (nAdd (nLose M j) (nCt M) p kd) := by
  have e : nCt (nLose M j) = nCt M := by unfold nCt; rw [nLose_o (by unfold mi; omega) (by unfold mi; omega)]
  rw [← e]
  exact (h.lose j).add p kd
theorem nS1_ok {s : zS × Int32} {q : Nat} (h : nOk (s.1 0)) : nOk ((nS1 s q).1 0) := by
  unfold nS1
  split
  · exact h.ev _ _ _
  · exact h
theorem nSh_ok : ∀ (m : Nat) (s : zS × Int32), nOk (s.1 0) → nOk ((nSh m s).1 0)
  | 0, s, h => h
  | m + 1, s, h => nSh_ok m _ (nS1_ok h)
def nChk (M : Nat → Int32) (j : Nat) : Nat → Int32 := if gM M j 6 ≤ gM M j 8 then upd M (mi j 9) 0 else upd M (mi j 9) (M (mi j 9) + 1)
theorem nChk_o {M : Nat → Int32} {j i : Nat} (h : i ≠ mi j 9) : nChk M j i = M i := by
  unfold nChk
  split <;> exact pk_un h
theorem nOk.chk {M : Nat → Int32} (h : nOk M) (j : Nat) : nOk (nChk M j) := h.same (fun i hi => nChk_o (by unfold mi; omega)) (nChk_o (by unfold mi; omega))
abbrev nCu (M : Nat → Int32) (j : Nat) : Nat → Int32 := upd (nLose (nChk M j) j) (mi j 10) (nLose (nChk M j) j 9)
def nIc (μ : zS) (j : Nat) : zS × Int32 := if 0 < gM (μ 0) j 8 then (if nChk (μ 0) j 8 ≤ gM (nChk (μ 0) j) j 9 then (nEv (upR μ 0 (nCu (μ 0) j)) (nCt (μ 0)) (nI j) 2, 1) else (upR μ 0 (nChk (μ 0) j), 0)) else (μ, 0)
theorem nCu_12 {M : Nat → Int32} {j : Nat} : nCu M j 12 = M 12 := by
  rw [nCu, pk_un (by unfold mi; omega), nLose_o (by unfold mi; omega) (by unfold mi; omega), nChk_o (by unfold mi; omega)]
theorem nOk.cu {M : Nat → Int32} (h : nOk M) (j : Nat) : nOk (nCu M j) := (((h.chk j).lose j).upd (fun i hi => by unfold mi; omega) (by unfold mi; omega))
theorem nOk.cuA {M : Nat → Int32} (h : nOk M) (j : Nat) (p kd : Int32) : nOk (nAdd (nCu M j) (nCt M) p kd) := by
  have e : nCt (nCu M j) = nCt M := by unfold nCt; rw [nCu_12]
  rw [← e]
  exact (h.cu j).add p kd
theorem nIc_ok {μ : zS} {j : Nat} (h : nOk (μ 0)) : nOk ((nIc μ j).1 0) := by
  unfold nIc
  split
  · split
    · exact h.cuA _ _ _
    · exact h.chk j
  · exact h
def nC (μ : zS) : Nat → zS × Int32
  | 0 => (μ, 0)
  | k + 1 => ((nIc (nC μ k).1 k).1, (nC μ k).2 ||| (if (nIc (nC μ k).1 k).2 = 0 then 0 else bit (nI k)))
theorem nC_ok {μ : zS} (h : nOk (μ 0)) : ∀ k, nOk ((nC μ k).1 0)
  | 0 => h
  | k + 1 => nIc_ok (nC_ok h k)
abbrev nDc (cut : Int32) (M : Nat → Int32) (k : Nat) : Prop := (cut >>> (nI k &&& 31)) &&& 1 = 0 ∧ 0 < gM M k 10
def nD1 (cut : Int32) (M : Nat → Int32) (k : Nat) : Nat → Int32 := upd M (mi k 10) (M (mi k 10) - (if nDc cut M k then 1 else 0))
def nD (cut : Int32) (M : Nat → Int32) : Nat → Nat → Int32
  | 0 => M
  | k + 1 => nD1 cut (nD cut M k) k
theorem nD_ok {cut : Int32} {M : Nat → Int32} (h : nOk M) : ∀ k, nOk (nD cut M k)
  | 0 => h
  | k + 1 => (nD_ok h k).upd (fun j hj => by unfold mi; omega) (by unfold mi; omega)
def nTm (M : Nat → Int32) : Nat → Int32 := upd M 10 (M 10 - (if 0 < M 10 then 1 else 0))
theorem nOk.tm {M : Nat → Int32} (h : nOk M) : nOk (nTm M) := h.upd (fun j hj => by unfold mi; omega) (by decide)
abbrev nCan (M : Nat → Int32) (j : Nat) : Prop := nEl M j ∧ ¬ 0 < gM M j 8 ∧ gM M j 10 = 0 ∧ ¬ nAv M 8 < gM M j 7
abbrev nGr (M : Nat → Int32) (j : Nat) : Nat → Int32 := upd (upd M (mi j 8) (gM M j 7)) 10 (upd M (mi j 8) (gM M j 7) 7)
def nP2 (μ : zS) : Nat → Nat → zS
  | 0, _ => μ
  | m + 1, q => if nCan (μ 0) (ix (nOrd (μ 0) q)) then nEv (upR μ 0 (nGr (μ 0) (ix (nOrd (μ 0) q)))) (nCt (μ 0)) (nOrd (μ 0) q) 0 else nP2 μ m (q + 1)
def nPu (μ : zS) : zS := if 0 < nTm (μ 0) 10 then upR μ 0 (nTm (μ 0)) else nP2 (upR μ 0 (nTm (μ 0))) 8 0
theorem nOk.gr {M : Nat → Int32} (h : nOk M) (j : Nat) (p kd : Int32) : nOk (nAdd (nGr M j) (nCt M) p kd) := by
  have e : nCt (nGr M j) = nCt M := by unfold nCt nGr; rw [pk_un (by omega), pk_un (by unfold mi; omega)]
  rw [← e]
  exact ((h.upd (fun i hi => by unfold mi; omega) (by unfold mi; omega)).upd (fun i hi => by unfold mi; omega) (by decide)).add p kd
theorem nP2_ok {μ : zS} (h : nOk (μ 0)) : ∀ (m q : Nat), nOk (nP2 μ m q 0)
  | 0, _ => h
  | m + 1, q => by
    unfold nP2
    split
    · exact h.gr _ _ _
    · exact nP2_ok h m (q + 1)
theorem nPu_ok {μ : zS} (h : nOk (μ 0)) : nOk (nPu μ 0) := by
  unfold nPu
  split
  · exact h.tm
  · exact nP2_ok (μ := upR μ 0 (nTm (μ 0))) h.tm 8 0
def nSec (μ : zS) : zS :=
  let s1 := nSh 8 (μ, 0)
  let s2 := nC s1.1 8
  let μ4 := nPu (upR s2.1 0 (nD s2.2 (s2.1 0) 8))
  upR μ4 0 (upd (μ4 0) 11 (μ4 0 11 + 1))
theorem nSec_ok {μ : zS} (h : nOk (μ 0)) : nOk (nSec μ 0) :=
  nOk.upd (nPu_ok (μ := upR _ 0 _) (nD_ok (nC_ok (nSh_ok 8 (μ, 0) h) 8) 8)) (fun j hj => by unfold mi; omega) (by decide)
theorem nS1_no {ν : zS} {x : Int32} {q : Nat} (h : ¬ (nAv (ν 0) 8 < 0 ∧ 0 < gM (ν 0) (ix (nOrd (ν 0) q)) 8)) : nS1 (ν, x) q = (ν, x) := if_neg h
theorem nS1_yes {ν : zS} {x : Int32} {q j : Nat} (hj : nOrd (ν 0) q = nI j) (hlt : j < 8) (h1 : nAv (ν 0) 8 < 0) (h2 : 0 < gM (ν 0) j 8) : nS1 (ν, x) q = (nEv (upR ν 0 (nLose (ν 0) j)) (nCt (ν 0)) (nI j) 1, x ||| bit (nI j)) := by
  have e : ix (nOrd (ν 0) q) = j := by rw [hj]; exact nI_clamp (by omega)
  have hc : nAv (ν 0) 8 < 0 ∧ 0 < gM (ν 0) (ix (nOrd (ν 0) q)) 8 := ⟨h1, by rw [e]; exact h2⟩
  have k : nS1 (ν, x) q = (nEv (upR ν 0 (nLose (ν 0) (ix (nOrd (ν 0) q)))) (nCt (ν 0)) (nOrd (ν 0) q) 1, x ||| bit (nOrd (ν 0) q)) := if_pos hc
  rw [k, e, hj]
theorem nSt_ix {ν : zS} {q j : Nat} (hj : nOrd (ν 0) q = nI j) (hlt : j < 8) : ix (nOrd (ν 0) q) = j := by rw [hj]; exact nI_clamp (by omega)
set_option maxRecDepth 4000 in
theorem kX4_shedAll_ (γ : zG) (l : Launch) (n : Nat) (h : zH) (b : Nat) (μ : zS) (hm : zMd γ h b μ) (hok : nOk (μ 0)) (R : zS × Int32) (hR : nSh 8 (μ, 0) = R) : Con γ l (n + 3) 0 0 MX4_shedAll [.ref b] h (some (.int R.2)) (zpm γ h b R.1) := by
  refine Con.go (by decide +kernel) (Nat.le_of_ble_eq_true rfl) ⟨rfl, trivial⟩ ?_
  show Go _ 0 0 0 [some (.ref b), none, none, none] [] _
  have loop : ∀ (m : Nat) (ν : zS) (x : Int32), m ≤ 8 → nOk (ν 0) → nSh m (ν, x) = R → Go (γ, l, n + 3, (0, 0), MX4_shedAll, zF γ 0 0 (some (.int R.2)) (zpm γ h b R.1)) 0 0 5 [some (.ref b), some (.int x), some (.int (pv m)), none] [] (zpm γ h b ν) := by
    intro m
    induction m with
    | zero =>
      intro ν x hm8 hok hf
      refine go_iload_n dX4_shedAll_5 rfl ?_
      refine go_if_lt (tgt := 53) dX4_shedAll_6 (by decide) (fun c6 => ?_) (fun c6 => absurd (by decide) c6)
      refine go_iload_n dX4_shedAll_53 rfl ?_
      refine go_iret dX4_shedAll_54 rfl ?_ ?_ (Nat.zero_le _) (Nat.zero_le _)
      · rw [← hf]; rfl
      · rw [← hf]; rfl
    | succ m ih =>
      intro ν x hm8 hok hf
      obtain ⟨j, hlt, -, hj⟩ := nOrd_ok hok.1 (q := m) (by omega)
      refine go_iload_n dX4_shedAll_5 rfl ?_
      refine go_if_lt (tgt := 53) dX4_shedAll_6 (by decide) (fun c6 => absurd c6 (by rw [pv_s]; exact nI_pos (by omega))) (fun c6 => ?_)
      refine go_aload_n dX4_shedAll_9 rfl ?_
      refine go_iload_n dX4_shedAll_10 rfl ?_
      refine go_callVi (ci := 4) dX4_shedAll_11 moX4_inOrder cvX4_87 ⟨rfl, rfl⟩ (kX4_inOrder_ γ l _ _ b ν (zpm_is γ h b _) m (by omega) _ (pv_s m) (nI j) hj) (by first | exact zpm_is γ h b _ 0 (by decide) | exact zpm_is γ h b _ 1 (by decide)) rfl rfl (Nat.le_refl _) (Nat.zero_le _) (Nat.zero_le _) (Nat.le_of_ble_eq_true rfl) ?_
      refine go_istore_n dX4_shedAll_14 (Nat.le_of_ble_eq_true rfl) ?_
      refine go_aload_n dX4_shedAll_15 rfl ?_
      refine go_callVi (ci := 4) dX4_shedAll_16 moX4_available cvX4_71 ⟨rfl, rfl⟩ (kX4_available γ l _ _ b ν (zpm_is γ h b _)) (by first | exact zpm_is γ h b _ 0 (by decide) | exact zpm_is γ h b _ 1 (by decide)) rfl rfl (Nat.le_refl _) (Nat.zero_le _) (Nat.zero_le _) (Nat.le_of_ble_eq_true rfl) ?_
      refine go_if_ge (tgt := 47) dX4_shedAll_19 (by decide) (fun c19 => ?_) (fun c19 => ?_)
      · refine go_iinc dX4_shedAll_47 rfl ((congrArg (fun v => v + Int32.ofInt (-1)) (pv_s m)).trans (pv_d m)) (Nat.le_of_ble_eq_true rfl) ?_
        refine go_goto (tgt := 5) dX4_shedAll_50 (by decide) ?_
        exact go_vl (ih ν x (by omega) hok ((congrArg (nSh m) (nS1_no (fun q => zle.mp c19 q.1))).symm.trans hf)) ⟨rfl, rfl, rfl, trivial⟩
      · refine go_aload_n dX4_shedAll_22 rfl ?_
        refine go_iload_n dX4_shedAll_23 rfl ?_
        refine go_callVi (ci := 4) dX4_shedAll_24 moX4_isPowered cvX4_65 ⟨rfl, rfl⟩ (kX4_isPowered γ l _ _ b ν (zpm_is γ h b _) _ j rfl hlt) (by first | exact zpm_is γ h b _ 0 (by decide) | exact zpm_is γ h b _ 1 (by decide)) rfl rfl (Nat.le_refl _) (Nat.zero_le _) (Nat.zero_le _) (Nat.le_of_ble_eq_true rfl) ?_
        refine go_if_eq (tgt := 47) dX4_shedAll_27 (by decide) (fun c27 => ?_) (fun c27 => ?_)
        · replace c27 := zi_0.mp c27
          refine go_iinc dX4_shedAll_47 rfl ((congrArg (fun v => v + Int32.ofInt (-1)) (pv_s m)).trans (pv_d m)) (Nat.le_of_ble_eq_true rfl) ?_
          refine go_goto (tgt := 5) dX4_shedAll_50 (by decide) ?_
          exact go_vl (ih ν x (by omega) hok ((congrArg (nSh m) (nS1_no (fun q => c27 ((nSt_ix hj hlt) ▸ q.2)))).symm.trans hf)) ⟨rfl, rfl, rfl, trivial⟩
        · replace c27 := zi_nz.mp c27
          refine go_aload_n dX4_shedAll_30 rfl ?_
          refine go_iload_n dX4_shedAll_31 rfl ?_
          refine go_callVv (ci := 4) dX4_shedAll_32 moX4_losePower cvX4_51 ⟨rfl, rfl⟩ (kX4_losePower γ l _ _ b ν (zpm_is γ h b _) _ j rfl hlt) (by first | exact zpm_is γ h b _ 0 (by decide) | exact zpm_is γ h b _ 1 (by decide)) rfl rfl (Nat.le_refl _) (Nat.zero_le _) (Nat.zero_le _) (Nat.le_of_ble_eq_true rfl) ?_
          refine go_h (zpm_zpm _ _ _ _ _) ?_
          refine go_aload_n dX4_shedAll_35 rfl ?_
          refine go_iload_n dX4_shedAll_36 rfl ?_
          refine go_iconst (v := 1) dX4_shedAll_37 (by decide) ?_
          refine go_callVv (ci := 4) dX4_shedAll_38 moX4_addEvent cvX4_90 ⟨rfl, rfl⟩ (kX4_addEvent γ l _ _ b (upR ν 0 (nLose (ν 0) j)) (zpm_is γ h b _) (nCt (ν 0)) ((nLose_o (by unfold mi; omega) (by unfold mi; omega)).trans hok.2.1) hok.2.2 _ _) (by first | exact zpm_is γ h b _ 0 (by decide) | exact zpm_is γ h b _ 1 (by decide)) rfl rfl (Nat.le_refl _) (Nat.zero_le _) (Nat.zero_le _) (Nat.le_of_ble_eq_true rfl) ?_
          refine go_h (zpm_zpm _ _ _ _ _) ?_
          refine go_iload_n dX4_shedAll_41 rfl ?_
          refine go_iconst (v := 1) dX4_shedAll_42 (by decide) ?_
          refine go_iload_n dX4_shedAll_43 rfl ?_
          refine go_ishl dX4_shedAll_44 ?_
          refine go_ior dX4_shedAll_45 ?_
          refine go_istore_n dX4_shedAll_46 (Nat.le_of_ble_eq_true rfl) ?_
          refine go_iinc dX4_shedAll_47 rfl ((congrArg (fun v => v + Int32.ofInt (-1)) (pv_s m)).trans (pv_d m)) (Nat.le_of_ble_eq_true rfl) ?_
          refine go_goto (tgt := 5) dX4_shedAll_50 (by decide) ?_
          exact go_vl (ih _ (x ||| bit (nI j)) (by omega) (hok.ev j (nI j) 1) ((congrArg (nSh m) (nS1_yes hj hlt (Int32.not_le.mp c19) c27)).symm.trans hf)) ⟨rfl, rfl, rfl, trivial⟩
  refine go_h (zpm_id hm).symm ?_
  refine go_iconst (v := 0) dX4_shedAll_0 (by decide) ?_
  refine go_istore_n dX4_shedAll_1 (Nat.le_of_ble_eq_true rfl) ?_
  refine go_bipush (v := 7) dX4_shedAll_2 (by decide) ?_
  refine go_istore_n dX4_shedAll_4 (Nat.le_of_ble_eq_true rfl) ?_
  exact go_vl (loop 8 μ 0 (Nat.le_refl 8) hok hR) ⟨rfl, rfl, rfl, trivial⟩
set_option maxRecDepth 4000 in
theorem kX4_checkOverload (γ : zG) (l : Launch) (n : Nat) (h : zH) (b : Nat) (μ : zS) (hm : zMd γ h b μ) (p : Int32) (j : Nat) (hp : p = nI j) (hj : j < 8) : Con γ l (n + 2) 0 0 MX4_checkOverload [.ref b, .int p] h none (zpm γ h b (upR μ 0 (nChk (μ 0) j))) := by
  refine Con.go (by decide +kernel) (Nat.le_of_ble_eq_true rfl) ⟨rfl, rfl, trivial⟩ ?_
  show Go _ 0 0 0 [some (.ref b), some (.int p)] [] _
  refine go_aload_n dX4_checkOverload_0 rfl ?_
  refine go_iload_n dX4_checkOverload_1 rfl ?_
  refine go_bipush (v := 6) dX4_checkOverload_2 (by decide) ?_
  refine go_callVi (ci := 4) dX4_checkOverload_4 moX4_of cvX4_45 ⟨rfl, rfl⟩ (kX4_of γ l _ _ b μ hm _ _ j 6 hp rfl (mi_lt hj (by decide))) (by first | exact hm 0 (by decide) | exact hm 1 (by decide) | exact zpm_is γ h b _ 0 (by decide) | exact zpm_is γ h b _ 1 (by decide)) rfl rfl (Nat.le_refl _) (Nat.zero_le _) (Nat.zero_le _) (Nat.le_of_ble_eq_true rfl) ?_
  refine go_aload_n dX4_checkOverload_7 rfl ?_
  refine go_iload_n dX4_checkOverload_8 rfl ?_
  refine go_bipush (v := 8) dX4_checkOverload_9 (by decide) ?_
  refine go_callVi (ci := 4) dX4_checkOverload_11 moX4_of cvX4_45 ⟨rfl, rfl⟩ (kX4_of γ l _ _ b μ hm _ _ j 8 hp rfl (mi_lt hj (by decide))) (by first | exact hm 0 (by decide) | exact hm 1 (by decide) | exact zpm_is γ h b _ 0 (by decide) | exact zpm_is γ h b _ 1 (by decide)) rfl rfl (Nat.le_refl _) (Nat.zero_le _) (Nat.zero_le _) (Nat.le_of_ble_eq_true rfl) ?_
  refine go_icmp_le (tgt := 35) dX4_checkOverload_14 (by decide) (fun c14 => ?_) (fun c14 => ?_)
  · refine go_aload_n dX4_checkOverload_35 rfl ?_
    refine go_getf dX4_checkOverload_36 flX4_7 (by first | exact hm 0 (by decide) | exact hm 1 (by decide) | exact zpm_is γ h b _ 0 (by decide) | exact zpm_is γ h b _ 1 (by decide)) rfl ?_
    refine go_iload_n dX4_checkOverload_39 rfl ?_
    refine go_bipush (v := 9) dX4_checkOverload_40 (by decide) ?_
    refine go_callSi dX4_checkOverload_42 moX4_at csX4_26 (kX4_at γ l _ _ _ _ j 9 hp rfl) rfl rfl (Nat.le_refl _) (Nat.zero_le _) (Nat.zero_le _) (Nat.le_of_ble_eq_true rfl) ?_
    refine go_iconst (v := 0) dX4_checkOverload_45 (by decide) ?_
    refine go_iast dX4_checkOverload_46 (by first | exact hm 0 (by decide) | exact hm 1 (by decide) | exact zpm_is γ h b _ 0 (by decide) | exact zpm_is γ h b _ 1 (by decide)) (zix (n := 149) rfl (mi_lt hj (by decide)) (by decide)).1 (zix (n := 149) rfl (mi_lt hj (by decide)) (by decide)).2 ?_
    refine go_vret dX4_checkOverload_47 rfl rfl ?_ (Nat.zero_le _) (Nat.zero_le _)
    · first | exact ((zmo_r0 hm).trans (congrArg (fun M => zpm γ h b (upR μ 0 M)) (show nChk (μ 0) j = _ from if_pos c14).symm)).symm | exact ((zmo_r0 hm).trans (congrArg (fun M => zpm γ h b (upR μ 0 M)) (show nChk (μ 0) j = _ from if_neg c14).symm)).symm
  · refine go_aload_n dX4_checkOverload_17 rfl ?_
    refine go_getf dX4_checkOverload_18 flX4_7 (by first | exact hm 0 (by decide) | exact hm 1 (by decide) | exact zpm_is γ h b _ 0 (by decide) | exact zpm_is γ h b _ 1 (by decide)) rfl ?_
    refine go_iload_n dX4_checkOverload_21 rfl ?_
    refine go_bipush (v := 9) dX4_checkOverload_22 (by decide) ?_
    refine go_callSi dX4_checkOverload_24 moX4_at csX4_26 (kX4_at γ l _ _ _ _ j 9 hp rfl) rfl rfl (Nat.le_refl _) (Nat.zero_le _) (Nat.zero_le _) (Nat.le_of_ble_eq_true rfl) ?_
    refine go_dup2 dX4_checkOverload_27 rfl rfl ?_
    refine go_iald dX4_checkOverload_28 (by first | exact hm 0 (by decide) | exact hm 1 (by decide) | exact zpm_is γ h b _ 0 (by decide) | exact zpm_is γ h b _ 1 (by decide)) (zix (n := 149) rfl (mi_lt hj (by decide)) (by decide)).1 (zix (n := 149) rfl (mi_lt hj (by decide)) (by decide)).2 ?_
    refine go_iconst (v := 1) dX4_checkOverload_29 (by decide) ?_
    refine go_iadd dX4_checkOverload_30 ?_
    refine go_iast dX4_checkOverload_31 (by first | exact hm 0 (by decide) | exact hm 1 (by decide) | exact zpm_is γ h b _ 0 (by decide) | exact zpm_is γ h b _ 1 (by decide)) (zix (n := 149) rfl (mi_lt hj (by decide)) (by decide)).1 (zix (n := 149) rfl (mi_lt hj (by decide)) (by decide)).2 ?_
    refine go_goto (tgt := 47) dX4_checkOverload_32 (by decide) ?_
    refine go_vret dX4_checkOverload_47 rfl rfl ?_ (Nat.zero_le _) (Nat.zero_le _)
    · first | exact ((zmo_r0 hm).trans (congrArg (fun M => zpm γ h b (upR μ 0 M)) (show nChk (μ 0) j = _ from if_pos c14).symm)).symm | exact ((zmo_r0 hm).trans (congrArg (fun M => zpm γ h b (upR μ 0 M)) (show nChk (μ 0) j = _ from if_neg c14).symm)).symm
set_option maxRecDepth 4000 in
theorem kX4_isCut_ (γ : zG) (l : Launch) (n : Nat) (h : zH) (b : Nat) (μ : zS) (hm : zMd γ h b μ) (hok : nOk (μ 0)) (p : Int32) (j : Nat) (hp : p = nI j) (hj : j < 8) (R : zS × Int32) (hR : nIc μ j = R) : Con γ l (n + 3) 0 0 MX4_isCut [.ref b, .int p] h (some (.int R.2)) (zpm γ h b R.1) := by
  refine Con.go (by decide +kernel) (Nat.le_of_ble_eq_true rfl) ⟨rfl, rfl, trivial⟩ ?_
  show Go _ 0 0 0 [some (.ref b), some (.int p)] [] _
  refine go_aload_n dX4_isCut_0 rfl ?_
  refine go_iload_n dX4_isCut_1 rfl ?_
  refine go_callVi (ci := 4) dX4_isCut_2 moX4_isPowered cvX4_65 ⟨rfl, rfl⟩ (kX4_isPowered γ l _ _ b μ hm _ j hp hj) (by first | exact hm 0 (by decide) | exact hm 1 (by decide) | exact zpm_is γ h b _ 0 (by decide) | exact zpm_is γ h b _ 1 (by decide)) rfl rfl (Nat.le_refl _) (Nat.zero_le _) (Nat.zero_le _) (Nat.le_of_ble_eq_true rfl) ?_
  refine go_if_ne (tgt := 10) dX4_isCut_5 (by decide) (fun c5 => ?_) (fun c5 => ?_)
  · replace c5 := zi_nz.mp c5
    refine go_aload_n dX4_isCut_10 rfl ?_
    refine go_iload_n dX4_isCut_11 rfl ?_
    refine go_callVv (ci := 4) dX4_isCut_12 moX4_checkOverload cvX4_94 ⟨rfl, rfl⟩ (kX4_checkOverload γ l _ _ b μ hm _ j hp hj) (by first | exact hm 0 (by decide) | exact hm 1 (by decide) | exact zpm_is γ h b _ 0 (by decide) | exact zpm_is γ h b _ 1 (by decide)) rfl rfl (Nat.le_refl _) (Nat.zero_le _) (Nat.zero_le _) (Nat.le_of_ble_eq_true rfl) ?_
    refine go_aload_n dX4_isCut_15 rfl ?_
    refine go_iload_n dX4_isCut_16 rfl ?_
    refine go_bipush (v := 9) dX4_isCut_17 (by decide) ?_
    refine go_callVi (ci := 4) dX4_isCut_19 moX4_of cvX4_45 ⟨rfl, rfl⟩ (kX4_of γ l _ _ b (upR μ 0 (nChk (μ 0) j)) (zpm_is γ h b _) _ _ j 9 hp rfl (mi_lt hj (by decide))) (by first | exact hm 0 (by decide) | exact hm 1 (by decide) | exact zpm_is γ h b _ 0 (by decide) | exact zpm_is γ h b _ 1 (by decide)) rfl rfl (Nat.le_refl _) (Nat.zero_le _) (Nat.zero_le _) (Nat.le_of_ble_eq_true rfl) ?_
    refine go_aload_n dX4_isCut_22 rfl ?_
    refine go_getf dX4_isCut_23 flX4_7 (by first | exact hm 0 (by decide) | exact hm 1 (by decide) | exact zpm_is γ h b _ 0 (by decide) | exact zpm_is γ h b _ 1 (by decide)) rfl ?_
    refine go_bipush (v := 8) dX4_isCut_26 (by decide) ?_
    refine go_iald dX4_isCut_28 (by first | exact hm 0 (by decide) | exact hm 1 (by decide) | exact zpm_is γ h b _ 0 (by decide) | exact zpm_is γ h b _ 1 (by decide)) (by unfold vp_in; decide) rfl ?_
    refine go_icmp_ge (tgt := 34) dX4_isCut_29 (by decide) (fun c29 => ?_) (fun c29 => ?_)
    · have c29 : nChk (μ 0) j 8 ≤ gM (nChk (μ 0) j) j 9 := c29
      refine go_aload_n dX4_isCut_34 rfl ?_
      refine go_iload_n dX4_isCut_35 rfl ?_
      refine go_callVv (ci := 4) dX4_isCut_36 moX4_losePower cvX4_51 ⟨rfl, rfl⟩ (kX4_losePower γ l _ _ b (upR μ 0 (nChk (μ 0) j)) (zpm_is γ h b _) _ j hp hj) (by first | exact hm 0 (by decide) | exact hm 1 (by decide) | exact zpm_is γ h b _ 0 (by decide) | exact zpm_is γ h b _ 1 (by decide)) rfl rfl (Nat.le_refl _) (Nat.zero_le _) (Nat.zero_le _) (Nat.le_of_ble_eq_true rfl) ?_
      refine go_h ((zpm_zpm _ _ _ _ _).trans (congrArg (zpm γ h b) (upR_upR (σ := μ)))) ?_
      refine go_aload_n dX4_isCut_39 rfl ?_
      refine go_getf dX4_isCut_40 flX4_7 (by first | exact hm 0 (by decide) | exact hm 1 (by decide) | exact zpm_is γ h b _ 0 (by decide) | exact zpm_is γ h b _ 1 (by decide)) rfl ?_
      refine go_iload_n dX4_isCut_43 rfl ?_
      refine go_bipush (v := 10) dX4_isCut_44 (by decide) ?_
      refine go_callSi dX4_isCut_46 moX4_at csX4_26 (kX4_at γ l _ _ _ _ j 10 hp rfl) rfl rfl (Nat.le_refl _) (Nat.zero_le _) (Nat.zero_le _) (Nat.le_of_ble_eq_true rfl) ?_
      refine go_aload_n dX4_isCut_49 rfl ?_
      refine go_getf dX4_isCut_50 flX4_7 (by first | exact hm 0 (by decide) | exact hm 1 (by decide) | exact zpm_is γ h b _ 0 (by decide) | exact zpm_is γ h b _ 1 (by decide)) rfl ?_
      refine go_bipush (v := 9) dX4_isCut_53 (by decide) ?_
      refine go_iald dX4_isCut_55 (by first | exact hm 0 (by decide) | exact hm 1 (by decide) | exact zpm_is γ h b _ 0 (by decide) | exact zpm_is γ h b _ 1 (by decide)) (by unfold vp_in; decide) rfl ?_
      refine go_iast dX4_isCut_56 (by first | exact hm 0 (by decide) | exact hm 1 (by decide) | exact zpm_is γ h b _ 0 (by decide) | exact zpm_is γ h b _ 1 (by decide)) (zix (n := 149) rfl (mi_lt hj (by decide)) (by decide)).1 (zix (n := 149) rfl (mi_lt hj (by decide)) (by decide)).2 ?_
      refine go_h zmo_00 ?_
      refine go_aload_n dX4_isCut_57 rfl ?_
      refine go_iload_n dX4_isCut_58 rfl ?_
      refine go_iconst (v := 2) dX4_isCut_59 (by decide) ?_
      refine go_callVv (ci := 4) dX4_isCut_60 moX4_addEvent cvX4_90 ⟨rfl, rfl⟩ (kX4_addEvent γ l _ _ b (upR μ 0 (nCu (μ 0) j)) (zpm_is γ h b _) (nCt (μ 0)) (nCu_12.trans hok.2.1) hok.2.2 _ _) (by first | exact hm 0 (by decide) | exact hm 1 (by decide) | exact zpm_is γ h b _ 0 (by decide) | exact zpm_is γ h b _ 1 (by decide)) rfl rfl (Nat.le_refl _) (Nat.zero_le _) (Nat.zero_le _) (Nat.le_of_ble_eq_true rfl) ?_
      refine go_h (zpm_zpm _ _ _ _ _) ?_
      rw [hp]
      refine go_iconst (v := 1) dX4_isCut_63 (by decide) ?_
      refine go_zret dX4_isCut_64 rfl (by first | rfl | exact zi_n) ?_ ?_ (Nat.zero_le _) (Nat.zero_le _)
      · (rw [← hR, nIc, if_pos c5, if_pos c29]; try rfl)
      · (rw [← hR, nIc, if_pos c5, if_pos c29]; try rfl)
    · have c29 : ¬ nChk (μ 0) j 8 ≤ gM (nChk (μ 0) j) j 9 := c29
      refine go_iconst (v := 0) dX4_isCut_32 (by decide) ?_
      refine go_zret dX4_isCut_33 rfl (by first | rfl | exact zi_n) ?_ ?_ (Nat.zero_le _) (Nat.zero_le _)
      · (rw [← hR, nIc, if_pos c5, if_neg c29])
      · (rw [← hR, nIc, if_pos c5, if_neg c29])
  · replace c5 := zi_0.mp c5
    refine go_iconst (v := 0) dX4_isCut_8 (by decide) ?_
    refine go_zret dX4_isCut_9 rfl (by first | rfl | exact zi_n) ?_ ?_ (Nat.zero_le _) (Nat.zero_le _)
    · (rw [← hR, nIc, if_neg c5])
    · (rw [← hR, nIc, if_neg c5]; exact zpm_id hm)
