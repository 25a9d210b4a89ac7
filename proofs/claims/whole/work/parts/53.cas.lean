/-! the law's cases, the rest -/
set_option maxRecDepth 4000 in
theorem lc_16 (γ : zG) (l : Launch) (b L : Nat) (xs : Nat → Int32) {x j t : Nat} {h : zH} {sn : Nat → Option Nat} {σ τ μ : zS} (hj : 6 * j + 6 ≤ L) (hL : L ≤ 3072) (I : LI γ x h sn σ τ μ t (60 * j)) (next : Nxt γ l b L xs x j) : Go (EL γ l b L xs) (40 + 16 * j) (1073 + 157 * j) 646 [some (.ref b), some (.ref x), some (.ref (x + 34)), some (.int (nI (6 * j)))] [] h := by
  obtain ⟨hx, hs, ht, ha, hm, hn, hR, htT, hsl, hdj⟩ := id I
  have hm2 := hm
  refine go_aload_n dL_law_646 rfl ?_
  refine go_callVi (ci := 3) dL_law_647 moX3_poweredPorts cvL_82 ⟨rfl, rfl⟩ (kX3_poweredPorts γ l 9 h x σ hx hs  ) (hx) rfl rfl (Nat.le_of_ble_eq_true rfl) (by show _ ≤ 600000; omega) (by show _ ≤ 7302250; omega) (Nat.le_of_ble_eq_true rfl) ?_
  refine go_aload_n dL_law_650 rfl ?_
  refine go_callVi (ci := 4) dL_law_651 moX4_poweredPorts cvL_85 ⟨rfl, rfl⟩ (kX4_poweredPorts γ l 8 h (x + 34) μ hm  ) (hm2 0 (by omega)) rfl rfl (Nat.le_of_ble_eq_true rfl) (by show _ ≤ 600000; omega) (by show _ ≤ 7302250; omega) (Nat.le_of_ble_eq_true rfl) ?_
  refine go_icmp_eq (tgt := 954) dL_law_654 (by decide) (fun c654 => ?_) (fun c654 => absurd (pwS_eq hR.2.2 8 (Nat.le_refl 8)) c654)
  refine go_widen (Nat.le_add_right _ 16) (Nat.le_add_right _ 157) ?_
  exact next _ sn _ τ _ t (I.same (by omega))
set_option maxRecDepth 4000 in
theorem lc_17 (γ : zG) (l : Launch) (b L : Nat) (xs : Nat → Int32) {x j t : Nat} {h : zH} {sn : Nat → Option Nat} {σ τ μ : zS} (hj : 6 * j + 6 ≤ L) (hL : L ≤ 3072) (I : LI γ x h sn σ τ μ t (60 * j)) (next : Nxt γ l b L xs x j) : Go (EL γ l b L xs) (40 + 16 * j) (1073 + 157 * j) 659 [some (.ref b), some (.ref x), some (.ref (x + 34)), some (.int (nI (6 * j)))] [] h := by
  obtain ⟨hx, hs, ht, ha, hm, hn, hR, htT, hsl, hdj⟩ := id I
  have hm2 := hm
  refine go_aload_n dL_law_659 rfl ?_
  refine go_aload_n dL_law_660 rfl ?_
  refine go_iload_n dL_law_661 rfl ?_
  refine go_iconst (v := 1) dL_law_662 (by decide) ?_
  refine go_iadd dL_law_663 ?_
  refine go_sX dL_law_664 (sin (k := 1) (by decide) (by decide) hj hL) ?_
  refine go_callVi (ci := 3) dL_law_665 moX3_grant cvL_86 ⟨rfl, rfl⟩ (kX3_grant γ l 9 h x σ hx hs  (xs (6 * j + 1))) (hx) rfl rfl (Nat.le_of_ble_eq_true rfl) (by show _ ≤ 600000; omega) (by show _ ≤ 7302250; omega) (Nat.le_of_ble_eq_true rfl) ?_
  refine go_aload_n dL_law_668 rfl ?_
  refine go_aload_n dL_law_669 rfl ?_
  refine go_iload_n dL_law_670 rfl ?_
  refine go_iconst (v := 1) dL_law_671 (by decide) ?_
  refine go_iadd dL_law_672 ?_
  refine go_sX dL_law_673 (sin (k := 1) (by decide) (by decide) hj hL) ?_
  refine go_callVi (ci := 4) dL_law_674 moX4_grant cvL_89 ⟨rfl, rfl⟩ (kX4_grant γ l 8 h (x + 34) μ hm  (xs (6 * j + 1))) (hm2 0 (by omega)) rfl rfl (Nat.le_of_ble_eq_true rfl) (by show _ ≤ 600000; omega) (by show _ ≤ 7302250; omega) (Nat.le_of_ble_eq_true rfl) ?_
  refine go_icmp_eq (tgt := 954) dL_law_677 (by decide) (fun c677 => ?_) (fun c677 => absurd ((fld_eq hR (xs (6 * j + 1))).1) c677)
  refine go_widen (Nat.le_add_right _ 16) (Nat.le_add_right _ 157) ?_
  exact next _ sn _ τ _ t (I.same (by omega))
set_option maxRecDepth 4000 in
theorem lc_18 (γ : zG) (l : Launch) (b L : Nat) (xs : Nat → Int32) {x j t : Nat} {h : zH} {sn : Nat → Option Nat} {σ τ μ : zS} (hj : 6 * j + 6 ≤ L) (hL : L ≤ 3072) (I : LI γ x h sn σ τ μ t (60 * j)) (next : Nxt γ l b L xs x j) : Go (EL γ l b L xs) (40 + 16 * j) (1073 + 157 * j) 682 [some (.ref b), some (.ref x), some (.ref (x + 34)), some (.int (nI (6 * j)))] [] h := by
  obtain ⟨hx, hs, ht, ha, hm, hn, hR, htT, hsl, hdj⟩ := id I
  have hm2 := hm
  refine go_aload_n dL_law_682 rfl ?_
  refine go_aload_n dL_law_683 rfl ?_
  refine go_iload_n dL_law_684 rfl ?_
  refine go_iconst (v := 1) dL_law_685 (by decide) ?_
  refine go_iadd dL_law_686 ?_
  refine go_sX dL_law_687 (sin (k := 1) (by decide) (by decide) hj hL) ?_
  refine go_callVi (ci := 3) dL_law_688 moX3_overload cvL_90 ⟨rfl, rfl⟩ (kX3_overload γ l 9 h x σ hx hs  (xs (6 * j + 1))) (hx) rfl rfl (Nat.le_of_ble_eq_true rfl) (by show _ ≤ 600000; omega) (by show _ ≤ 7302250; omega) (Nat.le_of_ble_eq_true rfl) ?_
  refine go_aload_n dL_law_691 rfl ?_
  refine go_aload_n dL_law_692 rfl ?_
  refine go_iload_n dL_law_693 rfl ?_
  refine go_iconst (v := 1) dL_law_694 (by decide) ?_
  refine go_iadd dL_law_695 ?_
  refine go_sX dL_law_696 (sin (k := 1) (by decide) (by decide) hj hL) ?_
  refine go_callVi (ci := 4) dL_law_697 moX4_overload cvL_93 ⟨rfl, rfl⟩ (kX4_overload γ l 8 h (x + 34) μ hm  (xs (6 * j + 1))) (hm2 0 (by omega)) rfl rfl (Nat.le_of_ble_eq_true rfl) (by show _ ≤ 600000; omega) (by show _ ≤ 7302250; omega) (Nat.le_of_ble_eq_true rfl) ?_
  refine go_icmp_eq (tgt := 954) dL_law_700 (by decide) (fun c700 => ?_) (fun c700 => absurd ((fld_eq hR (xs (6 * j + 1))).2.1) c700)
  refine go_widen (Nat.le_add_right _ 16) (Nat.le_add_right _ 157) ?_
  exact next _ sn _ τ _ t (I.same (by omega))
set_option maxRecDepth 4000 in
theorem lc_19 (γ : zG) (l : Launch) (b L : Nat) (xs : Nat → Int32) {x j t : Nat} {h : zH} {sn : Nat → Option Nat} {σ τ μ : zS} (hj : 6 * j + 6 ≤ L) (hL : L ≤ 3072) (I : LI γ x h sn σ τ μ t (60 * j)) (next : Nxt γ l b L xs x j) : Go (EL γ l b L xs) (40 + 16 * j) (1073 + 157 * j) 705 [some (.ref b), some (.ref x), some (.ref (x + 34)), some (.int (nI (6 * j)))] [] h := by
  obtain ⟨hx, hs, ht, ha, hm, hn, hR, htT, hsl, hdj⟩ := id I
  have hm2 := hm
  refine go_aload_n dL_law_705 rfl ?_
  refine go_aload_n dL_law_706 rfl ?_
  refine go_iload_n dL_law_707 rfl ?_
  refine go_iconst (v := 1) dL_law_708 (by decide) ?_
  refine go_iadd dL_law_709 ?_
  refine go_sX dL_law_710 (sin (k := 1) (by decide) (by decide) hj hL) ?_
  refine go_callVi (ci := 3) dL_law_711 moX3_cooldown cvL_94 ⟨rfl, rfl⟩ (kX3_cooldown γ l 9 h x σ hx hs  (xs (6 * j + 1))) (hx) rfl rfl (Nat.le_of_ble_eq_true rfl) (by show _ ≤ 600000; omega) (by show _ ≤ 7302250; omega) (Nat.le_of_ble_eq_true rfl) ?_
  refine go_aload_n dL_law_714 rfl ?_
  refine go_aload_n dL_law_715 rfl ?_
  refine go_iload_n dL_law_716 rfl ?_
  refine go_iconst (v := 1) dL_law_717 (by decide) ?_
  refine go_iadd dL_law_718 ?_
  refine go_sX dL_law_719 (sin (k := 1) (by decide) (by decide) hj hL) ?_
  refine go_callVi (ci := 4) dL_law_720 moX4_cooldown cvL_97 ⟨rfl, rfl⟩ (kX4_cooldown γ l 8 h (x + 34) μ hm  (xs (6 * j + 1))) (hm2 0 (by omega)) rfl rfl (Nat.le_of_ble_eq_true rfl) (by show _ ≤ 600000; omega) (by show _ ≤ 7302250; omega) (Nat.le_of_ble_eq_true rfl) ?_
  refine go_icmp_eq (tgt := 954) dL_law_723 (by decide) (fun c723 => ?_) (fun c723 => absurd ((fld_eq hR (xs (6 * j + 1))).2.2) c723)
  refine go_widen (Nat.le_add_right _ 16) (Nat.le_add_right _ 157) ?_
  exact next _ sn _ τ _ t (I.same (by omega))
set_option maxRecDepth 4000 in
theorem lc_20 (γ : zG) (l : Launch) (b L : Nat) (xs : Nat → Int32) {x j t : Nat} {h : zH} {sn : Nat → Option Nat} {σ τ μ : zS} (hj : 6 * j + 6 ≤ L) (hL : L ≤ 3072) (I : LI γ x h sn σ τ μ t (60 * j)) (next : Nxt γ l b L xs x j) : Go (EL γ l b L xs) (40 + 16 * j) (1073 + 157 * j) 728 [some (.ref b), some (.ref x), some (.ref (x + 34)), some (.int (nI (6 * j)))] [] h := by
  obtain ⟨hx, hs, ht, ha, hm, hn, hR, htT, hsl, hdj⟩ := id I
  obtain ⟨e1, e2, t2, e3, e4⟩ := adv_ag hR (xs (6 * j + 1))
  have hm2 : zMd γ (zps γ h (x + 1) (mAdv σ (xs (6 * j + 1))).2) (x + 34) μ := zIs.out hm (by omega)
  refine go_aload_n dL_law_728 rfl ?_
  refine go_aload_n dL_law_729 rfl ?_
  refine go_iload_n dL_law_730 rfl ?_
  refine go_iconst (v := 1) dL_law_731 (by decide) ?_
  refine go_iadd dL_law_732 ?_
  refine go_sX dL_law_733 (sin (k := 1) (by decide) (by decide) hj hL) ?_
  refine go_callVi (ci := 3) dL_law_734 moX3_advance cvL_98 ⟨rfl, rfl⟩ (kX3_advance_ γ l 5 h x σ hx hs hR.ok.2.1 (xs (6 * j + 1)) (mAdv σ (xs (6 * j + 1))) rfl) (hx) rfl rfl (Nat.le_of_ble_eq_true rfl) (by show _ ≤ 600000; omega) (by show _ ≤ 7302250; omega) (Nat.le_of_ble_eq_true rfl) ?_
  refine go_aload_n dL_law_737 rfl ?_
  refine go_aload_n dL_law_738 rfl ?_
  refine go_iload_n dL_law_739 rfl ?_
  refine go_iconst (v := 1) dL_law_740 (by decide) ?_
  refine go_iadd dL_law_741 ?_
  refine go_sX dL_law_742 (sin (k := 1) (by decide) (by decide) hj hL) ?_
  refine go_callVi (ci := 4) dL_law_743 moX4_advance cvL_101 ⟨rfl, rfl⟩ (kX4_advance_ γ l 4 _ (x + 34) μ hm2 hR.ok.1 (xs (6 * j + 1)) (nAdv μ (xs (6 * j + 1))) rfl) (hm2 0 (by omega)) rfl rfl (Nat.le_of_ble_eq_true rfl) (by show _ ≤ 600000; omega) (by show _ ≤ 7302250; omega) (Nat.le_of_ble_eq_true rfl) ?_
  refine go_icmp_eq (tgt := 954) dL_law_746 (by decide) (fun c746 => ?_) (fun c746 => absurd (e1) c746)
  refine go_widen (Nat.le_add_right _ 16) (Nat.le_add_right _ 157) ?_
  exact next _ sn _ τ _ t2 (I.step e4 (by omega) (by omega) e2)
set_option maxRecDepth 4000 in
theorem lc_21 (γ : zG) (l : Launch) (b L : Nat) (xs : Nat → Int32) {x j t : Nat} {h : zH} {sn : Nat → Option Nat} {σ τ μ : zS} (hj : 6 * j + 6 ≤ L) (hL : L ≤ 3072) (I : LI γ x h sn σ τ μ t (60 * j)) (next : Nxt γ l b L xs x j) : Go (EL γ l b L xs) (40 + 16 * j) (1073 + 157 * j) 751 [some (.ref b), some (.ref x), some (.ref (x + 34)), some (.int (nI (6 * j)))] [] h := by
  obtain ⟨hx, hs, ht, ha, hm, hn, hR, htT, hsl, hdj⟩ := id I
  have hm2 := hm
  refine go_aload_n dL_law_751 rfl ?_
  refine go_callVi (ci := 3) dL_law_752 moX3_clock cvL_102 ⟨rfl, rfl⟩ (kX3_clock γ l 11 h x σ hx hs  ) (hx) rfl rfl (Nat.le_of_ble_eq_true rfl) (by show _ ≤ 600000; omega) (by show _ ≤ 7302250; omega) (Nat.le_of_ble_eq_true rfl) ?_
  refine go_aload_n dL_law_755 rfl ?_
  refine go_callVi (ci := 4) dL_law_756 moX4_clock cvL_105 ⟨rfl, rfl⟩ (kX4_clock γ l 11 h (x + 34) μ hm  ) (hm2 0 (by omega)) rfl rfl (Nat.le_of_ble_eq_true rfl) (by show _ ≤ 600000; omega) (by show _ ≤ 7302250; omega) (Nat.le_of_ble_eq_true rfl) ?_
  refine go_icmp_eq (tgt := 954) dL_law_759 (by decide) (fun c759 => ?_) (fun c759 => absurd (hR.1.2.2.2.2.2.2.1.symm) c759)
  refine go_widen (Nat.le_add_right _ 16) (Nat.le_add_right _ 157) ?_
  exact next _ sn _ τ _ t (I.same (by omega))
set_option maxRecDepth 4000 in
theorem lc_22 (γ : zG) (l : Launch) (b L : Nat) (xs : Nat → Int32) {x j t : Nat} {h : zH} {sn : Nat → Option Nat} {σ τ μ : zS} (hj : 6 * j + 6 ≤ L) (hL : L ≤ 3072) (I : LI γ x h sn σ τ μ t (60 * j)) (next : Nxt γ l b L xs x j) : Go (EL γ l b L xs) (40 + 16 * j) (1073 + 157 * j) 764 [some (.ref b), some (.ref x), some (.ref (x + 34)), some (.int (nI (6 * j)))] [] h := by
  obtain ⟨hx, hs, ht, ha, hm, hn, hR, htT, hsl, hdj⟩ := id I
  have hm2 := hm
  have ec : σ 6 1 = μ 0 12 := by
    obtain ⟨o, c, -, -, -, h1, h2, -⟩ := hR.2.1
    exact h1.trans h2.symm
  refine go_aload_n dL_law_764 rfl ?_
  refine go_callVi (ci := 3) dL_law_765 moX3_eventCount cvL_106 ⟨rfl, rfl⟩ (kX3_eventCount γ l 11 h x σ hx hs) (hx) rfl rfl (Nat.le_of_ble_eq_true rfl) (by show _ ≤ 600000; omega) (by show _ ≤ 7302250; omega) (Nat.le_of_ble_eq_true rfl) ?_
  refine go_aload_n dL_law_768 rfl ?_
  refine go_callVi (ci := 4) dL_law_769 moX4_eventCount cvL_109 ⟨rfl, rfl⟩ (kX4_eventCount γ l 11 h (x + 34) μ hm) (hm2 0 (by omega)) rfl rfl (Nat.le_of_ble_eq_true rfl) (by show _ ≤ 600000; omega) (by show _ ≤ 7302250; omega) (Nat.le_of_ble_eq_true rfl) ?_
  refine go_icmp_eq (tgt := 954) dL_law_772 (by decide) (fun c772 => ?_) (fun c772 => absurd (ec) c772)
  refine go_widen (Nat.le_add_right _ 16) (Nat.le_add_right _ 157) ?_
  exact next _ sn _ τ _ t (I.same (by omega))
set_option maxRecDepth 4000 in
theorem lc_23 (γ : zG) (l : Launch) (b L : Nat) (xs : Nat → Int32) {x j t : Nat} {h : zH} {sn : Nat → Option Nat} {σ τ μ : zS} (hj : 6 * j + 6 ≤ L) (hL : L ≤ 3072) (I : LI γ x h sn σ τ μ t (60 * j)) (next : Nxt γ l b L xs x j) : Go (EL γ l b L xs) (40 + 16 * j) (1073 + 157 * j) 777 [some (.ref b), some (.ref x), some (.ref (x + 34)), some (.int (nI (6 * j)))] [] h := by
  obtain ⟨hx, hs, ht, ha, hm, hn, hR, htT, hsl, hdj⟩ := id I
  have hm2 := hm
  refine go_aload_n dL_law_777 rfl ?_
  refine go_aload_n dL_law_778 rfl ?_
  refine go_iload_n dL_law_779 rfl ?_
  refine go_iconst (v := 1) dL_law_780 (by decide) ?_
  refine go_iadd dL_law_781 ?_
  refine go_sX dL_law_782 (sin (k := 1) (by decide) (by decide) hj hL) ?_
  refine go_callVi (ci := 3) dL_law_783 moX3_eventTime cvL_110 ⟨rfl, rfl⟩ (kX3_eventTime γ l 9 h x σ hx hs hR.ok.2.1 (xs (6 * j + 1))) (hx) rfl rfl (Nat.le_of_ble_eq_true rfl) (by show _ ≤ 600000; omega) (by show _ ≤ 7302250; omega) (Nat.le_of_ble_eq_true rfl) ?_
  refine go_aload_n dL_law_786 rfl ?_
  refine go_aload_n dL_law_787 rfl ?_
  refine go_iload_n dL_law_788 rfl ?_
  refine go_iconst (v := 1) dL_law_789 (by decide) ?_
  refine go_iadd dL_law_790 ?_
  refine go_sX dL_law_791 (sin (k := 1) (by decide) (by decide) hj hL) ?_
  refine go_callVi (ci := 4) dL_law_792 moX4_eventTime cvL_113 ⟨rfl, rfl⟩ (kX4_eventTime γ l 9 h (x + 34) μ hm (nCt (μ 0)) hR.ok.1.2.1 hR.ok.1.2.2 (xs (6 * j + 1))) (hm2 0 (by omega)) rfl rfl (Nat.le_of_ble_eq_true rfl) (by show _ ≤ 600000; omega) (by show _ ≤ 7302250; omega) (Nat.le_of_ble_eq_true rfl) ?_
  refine go_icmp_eq (tgt := 954) dL_law_795 (by decide) (fun c795 => ?_) (fun c795 => absurd ((evt_eq hR (xs (6 * j + 1))).1) c795)
  refine go_widen (Nat.le_add_right _ 16) (Nat.le_add_right _ 157) ?_
  exact next _ sn _ τ _ t (I.same (by omega))
set_option maxRecDepth 4000 in
theorem lc_24 (γ : zG) (l : Launch) (b L : Nat) (xs : Nat → Int32) {x j t : Nat} {h : zH} {sn : Nat → Option Nat} {σ τ μ : zS} (hj : 6 * j + 6 ≤ L) (hL : L ≤ 3072) (I : LI γ x h sn σ τ μ t (60 * j)) (next : Nxt γ l b L xs x j) : Go (EL γ l b L xs) (40 + 16 * j) (1073 + 157 * j) 800 [some (.ref b), some (.ref x), some (.ref (x + 34)), some (.int (nI (6 * j)))] [] h := by
  obtain ⟨hx, hs, ht, ha, hm, hn, hR, htT, hsl, hdj⟩ := id I
  have hm2 := hm
  refine go_aload_n dL_law_800 rfl ?_
  refine go_aload_n dL_law_801 rfl ?_
  refine go_iload_n dL_law_802 rfl ?_
  refine go_iconst (v := 1) dL_law_803 (by decide) ?_
  refine go_iadd dL_law_804 ?_
  refine go_sX dL_law_805 (sin (k := 1) (by decide) (by decide) hj hL) ?_
  refine go_callVi (ci := 3) dL_law_806 moX3_eventPort cvL_114 ⟨rfl, rfl⟩ (kX3_eventPort γ l 9 h x σ hx hs hR.ok.2.1 (xs (6 * j + 1))) (hx) rfl rfl (Nat.le_of_ble_eq_true rfl) (by show _ ≤ 600000; omega) (by show _ ≤ 7302250; omega) (Nat.le_of_ble_eq_true rfl) ?_
  refine go_aload_n dL_law_809 rfl ?_
  refine go_aload_n dL_law_810 rfl ?_
  refine go_iload_n dL_law_811 rfl ?_
  refine go_iconst (v := 1) dL_law_812 (by decide) ?_
  refine go_iadd dL_law_813 ?_
  refine go_sX dL_law_814 (sin (k := 1) (by decide) (by decide) hj hL) ?_
  refine go_callVi (ci := 4) dL_law_815 moX4_eventPort cvL_117 ⟨rfl, rfl⟩ (kX4_eventPort γ l 9 h (x + 34) μ hm (nCt (μ 0)) hR.ok.1.2.1 hR.ok.1.2.2 (xs (6 * j + 1))) (hm2 0 (by omega)) rfl rfl (Nat.le_of_ble_eq_true rfl) (by show _ ≤ 600000; omega) (by show _ ≤ 7302250; omega) (Nat.le_of_ble_eq_true rfl) ?_
  refine go_icmp_eq (tgt := 954) dL_law_818 (by decide) (fun c818 => ?_) (fun c818 => absurd ((evt_eq hR (xs (6 * j + 1))).2.1) c818)
  refine go_widen (Nat.le_add_right _ 16) (Nat.le_add_right _ 157) ?_
  exact next _ sn _ τ _ t (I.same (by omega))
set_option maxRecDepth 4000 in
theorem lc_25 (γ : zG) (l : Launch) (b L : Nat) (xs : Nat → Int32) {x j t : Nat} {h : zH} {sn : Nat → Option Nat} {σ τ μ : zS} (hj : 6 * j + 6 ≤ L) (hL : L ≤ 3072) (I : LI γ x h sn σ τ μ t (60 * j)) (next : Nxt γ l b L xs x j) : Go (EL γ l b L xs) (40 + 16 * j) (1073 + 157 * j) 823 [some (.ref b), some (.ref x), some (.ref (x + 34)), some (.int (nI (6 * j)))] [] h := by
  obtain ⟨hx, hs, ht, ha, hm, hn, hR, htT, hsl, hdj⟩ := id I
  have hm2 := hm
  refine go_aload_n dL_law_823 rfl ?_
  refine go_aload_n dL_law_824 rfl ?_
  refine go_iload_n dL_law_825 rfl ?_
  refine go_iconst (v := 1) dL_law_826 (by decide) ?_
  refine go_iadd dL_law_827 ?_
  refine go_sX dL_law_828 (sin (k := 1) (by decide) (by decide) hj hL) ?_
  refine go_callVi (ci := 3) dL_law_829 moX3_eventKind cvL_118 ⟨rfl, rfl⟩ (kX3_eventKind γ l 9 h x σ hx hs hR.ok.2.1 (xs (6 * j + 1))) (hx) rfl rfl (Nat.le_of_ble_eq_true rfl) (by show _ ≤ 600000; omega) (by show _ ≤ 7302250; omega) (Nat.le_of_ble_eq_true rfl) ?_
  refine go_aload_n dL_law_832 rfl ?_
  refine go_aload_n dL_law_833 rfl ?_
  refine go_iload_n dL_law_834 rfl ?_
  refine go_iconst (v := 1) dL_law_835 (by decide) ?_
  refine go_iadd dL_law_836 ?_
  refine go_sX dL_law_837 (sin (k := 1) (by decide) (by decide) hj hL) ?_
  refine go_callVi (ci := 4) dL_law_838 moX4_eventKind cvL_121 ⟨rfl, rfl⟩ (kX4_eventKind γ l 9 h (x + 34) μ hm (nCt (μ 0)) hR.ok.1.2.1 hR.ok.1.2.2 (xs (6 * j + 1))) (hm2 0 (by omega)) rfl rfl (Nat.le_of_ble_eq_true rfl) (by show _ ≤ 600000; omega) (by show _ ≤ 7302250; omega) (Nat.le_of_ble_eq_true rfl) ?_
  refine go_icmp_eq (tgt := 954) dL_law_841 (by decide) (fun c841 => ?_) (fun c841 => absurd ((evt_eq hR (xs (6 * j + 1))).2.2) c841)
  refine go_widen (Nat.le_add_right _ 16) (Nat.le_add_right _ 157) ?_
  exact next _ sn _ τ _ t (I.same (by omega))
set_option maxRecDepth 4000 in
theorem lc_26 (γ : zG) (l : Launch) (b L : Nat) (xs : Nat → Int32) {x j t : Nat} {h : zH} {sn : Nat → Option Nat} {σ τ μ : zS} (hj : 6 * j + 6 ≤ L) (hL : L ≤ 3072) (I : LI γ x h sn σ τ μ t (60 * j)) (next : Nxt γ l b L xs x j) : Go (EL γ l b L xs) (40 + 16 * j) (1073 + 157 * j) 846 [some (.ref b), some (.ref x), some (.ref (x + 34)), some (.int (nI (6 * j)))] [] h := by
  obtain ⟨hx, hs, ht, ha, hm, hn, hR, htT, hsl, hdj⟩ := id I
  obtain ⟨e1, e2, e3⟩ := shf_ag (τ := τ) hR (xs (6 * j + 1))
  have hm2 : zMd γ (zps γ h (x + 17) (if aS (xs (6 * j + 1)) then (sSh 8 (up2 (sCp τ σ) 1 (ix (xs (6 * j + 1))) 0, 0)).1 else τ)) (x + 34) μ := zIs.out hm (by omega)
  refine go_aload_n dL_law_846 rfl ?_
  refine go_aload_n dL_law_847 rfl ?_
  refine go_iload_n dL_law_848 rfl ?_
  refine go_iconst (v := 1) dL_law_849 (by decide) ?_
  refine go_iadd dL_law_850 ?_
  refine go_sX dL_law_851 (sin (k := 1) (by decide) (by decide) hj hL) ?_
  refine go_callVi (ci := 3) dL_law_852 moX3_shedIfFails cvL_122 ⟨rfl, rfl⟩ (kX3_shedIfFails_ γ l 7 h x σ hx hs τ ht hR.ok.2.1 hR.ok.2.2 (xs (6 * j + 1)) (sSh 8 (up2 (sCp τ σ) 1 (ix (xs (6 * j + 1))) 0, 0)) rfl) (hx) rfl rfl (Nat.le_of_ble_eq_true rfl) (by show _ ≤ 600000; omega) (by show _ ≤ 7302250; omega) (Nat.le_of_ble_eq_true rfl) ?_
  refine go_aload_n dL_law_855 rfl ?_
  refine go_aload_n dL_law_856 rfl ?_
  refine go_iload_n dL_law_857 rfl ?_
  refine go_iconst (v := 1) dL_law_858 (by decide) ?_
  refine go_iadd dL_law_859 ?_
  refine go_sX dL_law_860 (sin (k := 1) (by decide) (by decide) hj hL) ?_
  refine go_callVi (ci := 4) dL_law_861 moX4_shedIfFails cvL_125 ⟨rfl, rfl⟩ (kX4_shedIfFails_ γ l 7 _ (x + 34) μ hm2 hR.ok.1 (xs (6 * j + 1)) (nSh 8 ((upR (nKp μ) 0 (upd (μ 0) (3 + ix (xs (6 * j + 1))) 0)), 0)) rfl) (hm2 0 (by omega)) rfl rfl (Nat.le_of_ble_eq_true rfl) (by show _ ≤ 600000; omega) (by show _ ≤ 7302250; omega) (Nat.le_of_ble_eq_true rfl) ?_
  refine go_icmp_eq (tgt := 954) dL_law_864 (by decide) (fun c864 => ?_) (fun c864 => absurd (e1) c864)
  refine go_widen (Nat.le_add_right _ 16) (Nat.le_add_right _ 157) ?_
  exact next _ sn _ _ _ t (I.plan e3 (by omega) e2)
set_option maxRecDepth 4000 in
theorem lc_27 (γ : zG) (l : Launch) (b L : Nat) (xs : Nat → Int32) {x j t : Nat} {h : zH} {sn : Nat → Option Nat} {σ τ μ : zS} (hj : 6 * j + 6 ≤ L) (hL : L ≤ 3072) (I : LI γ x h sn σ τ μ t (60 * j)) (next : Nxt γ l b L xs x j) : Go (EL γ l b L xs) (40 + 16 * j) (1073 + 157 * j) 869 [some (.ref b), some (.ref x), some (.ref (x + 34)), some (.int (nI (6 * j)))] [] h := by
  obtain ⟨hx, hs, ht, ha, hm, hn, hR, htT, hsl, hdj⟩ := id I
  have hm2 := hm
  refine go_aload_n dL_law_869 rfl ?_
  refine go_callVi (ci := 3) dL_law_870 moX3_fittingPorts cvL_126 ⟨rfl, rfl⟩ (kX3_fittingPorts γ l 8 h x σ hx hs) (hx) rfl rfl (Nat.le_of_ble_eq_true rfl) (by show _ ≤ 600000; omega) (by show _ ≤ 7302250; omega) (Nat.le_of_ble_eq_true rfl) ?_
  refine go_aload_n dL_law_873 rfl ?_
  refine go_callVi (ci := 4) dL_law_874 moX4_fittingPorts cvL_129 ⟨rfl, rfl⟩ (kX4_fittingPorts γ l 6 h (x + 34) μ hm hR.ok.1) (hm2 0 (by omega)) rfl rfl (Nat.le_of_ble_eq_true rfl) (by show _ ≤ 600000; omega) (by show _ ≤ 7302250; omega) (Nat.le_of_ble_eq_true rfl) ?_
  refine go_icmp_eq (tgt := 954) dL_law_877 (by decide) (fun c877 => ?_) (fun c877 => absurd (fit_eq hR) c877)
  refine go_widen (Nat.le_add_right _ 16) (Nat.le_add_right _ 157) ?_
  exact next _ sn _ τ _ t (I.same (by omega))
set_option maxRecDepth 4000 in
theorem lc_28 (γ : zG) (l : Launch) (b L : Nat) (xs : Nat → Int32) {x j t : Nat} {h : zH} {sn : Nat → Option Nat} {σ τ μ : zS} (hj : 6 * j + 6 ≤ L) (hL : L ≤ 3072) (I : LI γ x h sn σ τ μ t (60 * j)) (next : Nxt γ l b L xs x j) : Go (EL γ l b L xs) (40 + 16 * j) (1073 + 157 * j) 882 [some (.ref b), some (.ref x), some (.ref (x + 34)), some (.int (nI (6 * j)))] [] h := by
  obtain ⟨hx, hs, ht, ha, hm, hn, hR, htT, hsl, hdj⟩ := id I
  obtain ⟨e1, e2, e3, e4⟩ := stl_ag (τ := τ) hR (by omega)
  generalize hA : mStl σ τ = A at *
  generalize hF : nFs 301 0 (nKp μ) = F at *
  have hm2 : zMd γ (zps γ h (x + 17) A.2) (x + 34) μ := zIs.out hm (by omega)
  refine go_aload_n dL_law_882 rfl ?_
  refine go_callVi (ci := 3) dL_law_883 moX3_secondsToStable cvL_130 ⟨rfl, rfl⟩ (kX3_secondsToStable_ γ l 4 h x σ hx hs τ ht hR.ok.2.1 hR.ok.2.2 A hA) (hx) rfl rfl (Nat.le_of_ble_eq_true rfl) (by show _ ≤ 600000; omega) (by show _ ≤ 7302250; omega) (Nat.le_of_ble_eq_true rfl) ?_
  refine go_aload_n dL_law_886 rfl ?_
  refine go_callVi (ci := 4) dL_law_887 moX4_secondsToStable cvL_133 ⟨rfl, rfl⟩ (kX4_secondsToStable_ γ l 2 _ (x + 34) μ hm2 hR.ok.1 F hF) (hm2 0 (by omega)) rfl rfl (Nat.le_of_ble_eq_true rfl) (by show _ ≤ 600000; omega) (by show _ ≤ 7302250; omega) (Nat.le_of_ble_eq_true rfl) ?_
  refine go_icmp_eq (tgt := 954) dL_law_890 (by decide) (fun c890 => ?_) (fun c890 => absurd (e1) c890)
  refine go_widen (Nat.le_add_right _ 16) (Nat.le_add_right _ 157) ?_
  exact next _ sn _ _ _ t (I.plan e4 (by omega) e3)
set_option maxRecDepth 4000 in
theorem lc_29 (γ : zG) (l : Launch) (b L : Nat) (xs : Nat → Int32) {x j t : Nat} {h : zH} {sn : Nat → Option Nat} {σ τ μ : zS} (hj : 6 * j + 6 ≤ L) (hL : L ≤ 3072) (I : LI γ x h sn σ τ μ t (60 * j)) (next : Nxt γ l b L xs x j) : Go (EL γ l b L xs) (40 + 16 * j) (1073 + 157 * j) 895 [some (.ref b), some (.ref x), some (.ref (x + 34)), some (.int (nI (6 * j)))] [] h := by
  obtain ⟨hx, hs, ht, ha, hm, hn, hR, htT, hsl, hdj⟩ := id I
  obtain ⟨e1, e2, e3, e4⟩ := stl_ag (τ := τ) hR (by omega)
  generalize hA : mStl σ τ = A at *
  generalize hF : nFs 301 0 (nKp μ) = F at *
  have hm2 : zMd γ (zps γ h (x + 17) A.2) (x + 34) μ := zIs.out hm (by omega)
  refine go_aload_n dL_law_895 rfl ?_
  refine go_callVi (ci := 3) dL_law_896 moX3_stablePorts cvL_134 ⟨rfl, rfl⟩ (kX3_stablePorts_ γ l 4 h x σ hx hs τ ht hR.ok.2.1 hR.ok.2.2 A hA) (hx) rfl rfl (Nat.le_of_ble_eq_true rfl) (by show _ ≤ 600000; omega) (by show _ ≤ 7302250; omega) (Nat.le_of_ble_eq_true rfl) ?_
  refine go_aload_n dL_law_899 rfl ?_
  refine go_callVi (ci := 4) dL_law_900 moX4_stablePorts cvL_137 ⟨rfl, rfl⟩ (kX4_stablePorts_ γ l 2 _ (x + 34) μ hm2 hR.ok.1 F hF) (hm2 0 (by omega)) rfl rfl (Nat.le_of_ble_eq_true rfl) (by show _ ≤ 600000; omega) (by show _ ≤ 7302250; omega) (Nat.le_of_ble_eq_true rfl) ?_
  refine go_icmp_eq (tgt := 954) dL_law_903 (by decide) (fun c903 => ?_) (fun c903 => absurd (e2) c903)
  refine go_widen (Nat.le_add_right _ 16) (Nat.le_add_right _ 157) ?_
  exact next _ sn _ _ _ t (I.plan e4 (by omega) e3)
set_option maxRecDepth 4000 in
theorem lc_30 (γ : zG) (l : Launch) (b L : Nat) (xs : Nat → Int32) {x j t : Nat} {h : zH} {sn : Nat → Option Nat} {σ τ μ : zS} (hj : 6 * j + 6 ≤ L) (hL : L ≤ 3072) (I : LI γ x h sn σ τ μ t (60 * j)) (next : Nxt γ l b L xs x j) : Go (EL γ l b L xs) (40 + 16 * j) (1073 + 157 * j) 908 [some (.ref b), some (.ref x), some (.ref (x + 34)), some (.int (nI (6 * j)))] [] h := by
  obtain ⟨hx, hs, ht, ha, hm, hn, hR, htT, hsl, hdj⟩ := id I
  by_cases hv : aT (xs (6 * j + 1))
  · have hk2 := (zn2 hv).2
    rcases hsl (ix (xs (6 * j + 1))) hk2 with ⟨hq, -⟩ | ⟨q, ρ, t', hq, hq1, hq2, hr, -⟩
    · have hm2 : zMd γ (zps γ (zal (zu h (x + 33) (zas γ 2 (va_up sn (ix (xs (6 * j + 1))) (some h.2)))) 16) h.2 (sCp sI σ)) (x + 34) μ := zIs.out (zIs.zu (h := h) hm (by omega)) (by omega)
      refine go_aload_n dL_law_908 rfl ?_
      refine go_aload_n dL_law_909 rfl ?_
      refine go_iload_n dL_law_910 rfl ?_
      refine go_iconst (v := 1) dL_law_911 (by decide) ?_
      refine go_iadd dL_law_912 ?_
      refine go_sX dL_law_913 (sin (k := 1) (by decide) (by decide) hj hL) ?_
      refine go_callVs (ci := 3) dL_law_914 moX3_save cvL_138 ⟨rfl, rfl⟩ (kX3_save_n γ l 7 h x σ hx hs sn ha hR.ok.2.2 (xs (6 * j + 1)) hv hq (by omega)) (hx) rfl rfl (Nat.le_of_ble_eq_true rfl) (by show _ ≤ 600000; omega) (by show _ ≤ 7302250; omega) (Nat.le_of_ble_eq_true rfl) ?_
      refine go_aload_n dL_law_917 rfl ?_
      refine go_aload_n dL_law_918 rfl ?_
      refine go_iload_n dL_law_919 rfl ?_
      refine go_iconst (v := 1) dL_law_920 (by decide) ?_
      refine go_iadd dL_law_921 ?_
      refine go_sX dL_law_922 (sin (k := 1) (by decide) (by decide) hj hL) ?_
      refine go_callVi (ci := 4) dL_law_923 moX4_save cvL_141 ⟨rfl, rfl⟩ (kX4_save_o γ l 10 _ (x + 34) μ hm2 (xs (6 * j + 1)) hv) (hm2 0 (by omega)) rfl rfl (Nat.le_of_ble_eq_true rfl) (by show _ ≤ 600000; omega) (by show _ ≤ 7302250; omega) (Nat.le_of_ble_eq_true rfl) ?_
      refine go_icmp_eq (tgt := 954) dL_law_926 (by decide) (fun c926 => ?_) (fun c926 => absurd (hR.1.2.2.2.2.2.2.1.symm) c926)
      refine next _ (va_up sn (ix (xs (6 * j + 1))) (some h.2)) _ τ _ t (I.save (q := h.2) (ρ' := sCp sI σ) hv (by omega) (sv_same hR) (by show h.2 ≤ h.2 + 16; omega) hn (Nat.le_refl _) (zput_is _ _ _ _) (by simp [va_up]) (fun k hk => by simp [va_up, hk]) ((zput_out (by omega)).trans (zu_s _ _ _)) (fun y hy hy2 => (zput_out (by omega)).trans (zu_n hy2)) (fun k hk hkv q' hq' => ?_))
      rcases hsl k hk with ⟨a, -⟩ | ⟨q2, ρ, t', a, a2, a3, -⟩
      · rw [a] at hq'; cases hq'
      · have e := Option.some.inj (a.symm.trans hq')
        subst e
        exact ⟨Or.inr a3, fun _ y hy1 hy2 => (zput_out (by omega)).trans (zu_n (by omega))⟩
    · have hm2 : zMd γ (zps γ h q (sCp ρ σ)) (x + 34) μ := zIs.out hm (by omega)
      refine go_aload_n dL_law_908 rfl ?_
      refine go_aload_n dL_law_909 rfl ?_
      refine go_iload_n dL_law_910 rfl ?_
      refine go_iconst (v := 1) dL_law_911 (by decide) ?_
      refine go_iadd dL_law_912 ?_
      refine go_sX dL_law_913 (sin (k := 1) (by decide) (by decide) hj hL) ?_
      refine go_callVs (ci := 3) dL_law_914 moX3_save cvL_138 ⟨rfl, rfl⟩ (kX3_save_o γ l 8 h x σ hx hs sn ha hR.ok.2.2 (xs (6 * j + 1)) hv q ρ hq hr (by omega)) (hx) rfl rfl (Nat.le_of_ble_eq_true rfl) (by show _ ≤ 600000; omega) (by show _ ≤ 7302250; omega) (Nat.le_of_ble_eq_true rfl) ?_
      refine go_aload_n dL_law_917 rfl ?_
      refine go_aload_n dL_law_918 rfl ?_
      refine go_iload_n dL_law_919 rfl ?_
      refine go_iconst (v := 1) dL_law_920 (by decide) ?_
      refine go_iadd dL_law_921 ?_
      refine go_sX dL_law_922 (sin (k := 1) (by decide) (by decide) hj hL) ?_
      refine go_callVi (ci := 4) dL_law_923 moX4_save cvL_141 ⟨rfl, rfl⟩ (kX4_save_o γ l 10 _ (x + 34) μ hm2 (xs (6 * j + 1)) hv) (hm2 0 (by omega)) rfl rfl (Nat.le_of_ble_eq_true rfl) (by show _ ≤ 600000; omega) (by show _ ≤ 7302250; omega) (Nat.le_of_ble_eq_true rfl) ?_
      refine go_icmp_eq (tgt := 954) dL_law_926 (by decide) (fun c926 => ?_) (fun c926 => absurd (hR.1.2.2.2.2.2.2.1.symm) c926)
      refine next _ sn _ τ _ t (I.save (q := q) (ρ' := sCp ρ σ) hv (by omega) (sv_same hR) (Nat.le_refl _) hq1 hq2 (zput_is _ _ _ _) hq (fun _ _ => rfl) ((zput_out (by omega)).trans ha) (fun y hy _ => zput_out (by omega)) (fun k hk hkv q' hq' => ?_))
      have hk2 := (zn2 hv).2
      change ix (xs (6 * j + 1)) < 2 at hk2
      have hd : q + 16 ≤ q' ∨ q' + 16 ≤ q := by
        by_cases h0 : k = 0
        · subst h0
          have h1 : ix (xs (6 * j + 1)) = 1 := by omega
          rw [h1] at hq
          exact (hdj q' q hq' hq).symm
        · have h1 : k = 1 := by omega
          subst h1
          have h1 : ix (xs (6 * j + 1)) = 0 := by omega
          rw [h1] at hq
          exact hdj q q' hq hq'
      exact ⟨hd, fun _ y hy1 hy2 => zput_out (by omega)⟩
  · have hm2 := hm
    refine go_aload_n dL_law_908 rfl ?_
    refine go_aload_n dL_law_909 rfl ?_
    refine go_iload_n dL_law_910 rfl ?_
    refine go_iconst (v := 1) dL_law_911 (by decide) ?_
    refine go_iadd dL_law_912 ?_
    refine go_sX dL_law_913 (sin (k := 1) (by decide) (by decide) hj hL) ?_
    refine go_callVs (ci := 3) dL_law_914 moX3_save cvL_138 ⟨rfl, rfl⟩ (kX3_save_b γ l 8 h x (xs (6 * j + 1)) hv) (hx) rfl rfl (Nat.le_of_ble_eq_true rfl) (by show _ ≤ 600000; omega) (by show _ ≤ 7302250; omega) (Nat.le_of_ble_eq_true rfl) ?_
    refine go_aload_n dL_law_917 rfl ?_
    refine go_aload_n dL_law_918 rfl ?_
    refine go_iload_n dL_law_919 rfl ?_
    refine go_iconst (v := 1) dL_law_920 (by decide) ?_
    refine go_iadd dL_law_921 ?_
    refine go_sX dL_law_922 (sin (k := 1) (by decide) (by decide) hj hL) ?_
    refine go_callVi (ci := 4) dL_law_923 moX4_save cvL_141 ⟨rfl, rfl⟩ (kX4_save_b γ l 10 h (x + 34) (xs (6 * j + 1)) hv) (hm2 0 (by omega)) rfl rfl (Nat.le_of_ble_eq_true rfl) (by show _ ≤ 600000; omega) (by show _ ≤ 7302250; omega) (Nat.le_of_ble_eq_true rfl) ?_
    refine go_icmp_eq (tgt := 954) dL_law_926 (by decide) (fun c926 => ?_) (fun c926 => absurd (rfl) c926)
    exact next _ sn _ τ _ t (I.same (by omega))
set_option maxRecDepth 4000 in
theorem lc_31 (γ : zG) (l : Launch) (b L : Nat) (xs : Nat → Int32) {x j t : Nat} {h : zH} {sn : Nat → Option Nat} {σ τ μ : zS} (hj : 6 * j + 6 ≤ L) (hL : L ≤ 3072) (I : LI γ x h sn σ τ μ t (60 * j)) (next : Nxt γ l b L xs x j) : Go (EL γ l b L xs) (40 + 16 * j) (1073 + 157 * j) 931 [some (.ref b), some (.ref x), some (.ref (x + 34)), some (.int (nI (6 * j)))] [] h := by
  obtain ⟨hx, hs, ht, ha, hm, hn, hR, htT, hsl, hdj⟩ := id I
  by_cases hv : aT (xs (6 * j + 1))
  · have hk2 := (zn2 hv).2
    rcases hsl (ix (xs (6 * j + 1))) hk2 with ⟨hq, hz⟩ | ⟨q, ρ, t', hq, hq1, hq2, hr, hr2, hr3, hz⟩
    · have hm2 := hm
      refine go_aload_n dL_law_931 rfl ?_
      refine go_aload_n dL_law_932 rfl ?_
      refine go_iload_n dL_law_933 rfl ?_
      refine go_iconst (v := 1) dL_law_934 (by decide) ?_
      refine go_iadd dL_law_935 ?_
      refine go_sX dL_law_936 (sin (k := 1) (by decide) (by decide) hj hL) ?_
      refine go_callVi (ci := 3) dL_law_937 moX3_restore cvL_142 ⟨rfl, rfl⟩ (kX3_restore_n γ l 9 h x σ hx hs sn ha (xs (6 * j + 1)) hv hq) (hx) rfl rfl (Nat.le_of_ble_eq_true rfl) (by show _ ≤ 600000; omega) (by show _ ≤ 7302250; omega) (Nat.le_of_ble_eq_true rfl) ?_
      refine go_aload_n dL_law_940 rfl ?_
      refine go_aload_n dL_law_941 rfl ?_
      refine go_iload_n dL_law_942 rfl ?_
      refine go_iconst (v := 1) dL_law_943 (by decide) ?_
      refine go_iadd dL_law_944 ?_
      refine go_sX dL_law_945 (sin (k := 1) (by decide) (by decide) hj hL) ?_
      refine go_callVi (ci := 4) dL_law_946 moX4_restore cvL_145 ⟨rfl, rfl⟩ (kX4_restore_n γ l 10 h (x + 34) μ hm (xs (6 * j + 1)) hv hz) (hm2 0 (by omega)) rfl rfl (Nat.le_of_ble_eq_true rfl) (by show _ ≤ 600000; omega) (by show _ ≤ 7302250; omega) (Nat.le_of_ble_eq_true rfl) ?_
      refine go_icmp_eq (tgt := 954) dL_law_949 (by decide) (fun c949 => ?_) (fun c949 => absurd (rfl) c949)
      refine go_widen (Nat.le_add_right _ 16) (Nat.le_add_right _ 157) ?_
      exact next _ sn _ τ _ t (I.same (by omega))
    · have hm2 : zMd γ (zps γ h (x + 1) (sCp σ ρ)) (x + 34) μ := zIs.out hm (by omega)
      have hRr : RI (sCp σ ρ) (nRs μ (xs (6 * j + 1)) 0) t' t' := rs_same hr2
      have e5 := hRr.1.2.2.2.2.2.2.1.symm
      refine go_aload_n dL_law_931 rfl ?_
      refine go_aload_n dL_law_932 rfl ?_
      refine go_iload_n dL_law_933 rfl ?_
      refine go_iconst (v := 1) dL_law_934 (by decide) ?_
      refine go_iadd dL_law_935 ?_
      refine go_sX dL_law_936 (sin (k := 1) (by decide) (by decide) hj hL) ?_
      refine go_callVi (ci := 3) dL_law_937 moX3_restore cvL_142 ⟨rfl, rfl⟩ (kX3_restore_o γ l 8 h x σ hx hs sn ha (xs (6 * j + 1)) hv q ρ hr2.ok.2.2 hq hr (by omega)) (hx) rfl rfl (Nat.le_of_ble_eq_true rfl) (by show _ ≤ 600000; omega) (by show _ ≤ 7302250; omega) (Nat.le_of_ble_eq_true rfl) ?_
      refine go_aload_n dL_law_940 rfl ?_
      refine go_aload_n dL_law_941 rfl ?_
      refine go_iload_n dL_law_942 rfl ?_
      refine go_iconst (v := 1) dL_law_943 (by decide) ?_
      refine go_iadd dL_law_944 ?_
      refine go_sX dL_law_945 (sin (k := 1) (by decide) (by decide) hj hL) ?_
      refine go_callVi (ci := 4) dL_law_946 moX4_restore cvL_145 ⟨rfl, rfl⟩ (kX4_restore_o γ l 10 _ (x + 34) μ hm2 (xs (6 * j + 1)) hv hz) (hm2 0 (by omega)) rfl rfl (Nat.le_of_ble_eq_true rfl) (by show _ ≤ 600000; omega) (by show _ ≤ 7302250; omega) (Nat.le_of_ble_eq_true rfl) ?_
      refine go_icmp_eq (tgt := 954) dL_law_949 (by decide) (fun c949 => ?_) (fun c949 => absurd (e5) c949)
      refine go_widen (Nat.le_add_right _ 16) (Nat.le_add_right _ 157) ?_
      exact next _ sn _ τ _ t' (I.step hRr (by omega) (by omega) ⟨rfl, rfl⟩)
  · have hm2 := hm
    refine go_aload_n dL_law_931 rfl ?_
    refine go_aload_n dL_law_932 rfl ?_
    refine go_iload_n dL_law_933 rfl ?_
    refine go_iconst (v := 1) dL_law_934 (by decide) ?_
    refine go_iadd dL_law_935 ?_
    refine go_sX dL_law_936 (sin (k := 1) (by decide) (by decide) hj hL) ?_
    refine go_callVi (ci := 3) dL_law_937 moX3_restore cvL_142 ⟨rfl, rfl⟩ (kX3_restore_b γ l 9 h x (xs (6 * j + 1)) hv) (hx) rfl rfl (Nat.le_of_ble_eq_true rfl) (by show _ ≤ 600000; omega) (by show _ ≤ 7302250; omega) (Nat.le_of_ble_eq_true rfl) ?_
    refine go_aload_n dL_law_940 rfl ?_
    refine go_aload_n dL_law_941 rfl ?_
    refine go_iload_n dL_law_942 rfl ?_
    refine go_iconst (v := 1) dL_law_943 (by decide) ?_
    refine go_iadd dL_law_944 ?_
    refine go_sX dL_law_945 (sin (k := 1) (by decide) (by decide) hj hL) ?_
    refine go_callVi (ci := 4) dL_law_946 moX4_restore cvL_145 ⟨rfl, rfl⟩ (kX4_restore_b γ l 10 h (x + 34) (xs (6 * j + 1)) hv) (hm2 0 (by omega)) rfl rfl (Nat.le_of_ble_eq_true rfl) (by show _ ≤ 600000; omega) (by show _ ≤ 7302250; omega) (Nat.le_of_ble_eq_true rfl) ?_
    refine go_icmp_eq (tgt := 954) dL_law_949 (by decide) (fun c949 => ?_) (fun c949 => absurd (rfl) c949)
    refine go_widen (Nat.le_add_right _ 16) (Nat.le_add_right _ 157) ?_
    exact next _ sn _ τ _ t (I.same (by omega))
