/-! PoeSwitch: snapshots, constructor -/
theorem zal_zps {γ : zG} {h : zH} {a n : Nat} {σ : zS} : zal (zps γ h a σ) n = zps γ (zal h n) a σ := rfl
theorem zps_zp {γ : zG} {h : zH} {e : va_E} {σ : zS} : zal (zps γ (zp h e) h.2 σ) 15 = zps γ (zal h 16) h.2 σ := by
  refine Prod.ext ?_ (by show h.2 + 1 + 15 = h.2 + 16; omega)
  funext y
  by_cases hy : h.2 ≤ y ∧ y < h.2 + 16
  · obtain ⟨k, rfl⟩ : ∃ k, y = h.2 + k := ⟨y - h.2, by omega⟩
    rw [show (zal (zps γ (zp h e) h.2 σ) 15).1 (h.2 + k) = _ from zps_is γ (zp h e) h.2 σ k (by omega), show (zps γ (zal h 16) h.2 σ).1 (h.2 + k) = _ from zps_is γ (zal h 16) h.2 σ k (by omega)]
  · rw [show (zal (zps γ (zp h e) h.2 σ) 15).1 y = (zp h e).1 y from zps_out (by omega), zps_out (by omega), zp_o (by omega)]
    rfl
theorem zu_zps {γ : zG} {h : zH} {a y : Nat} {σ : zS} {e : va_E} (hy : y < a ∨ a + 16 ≤ y) : zu (zps γ h a σ) y e = zps γ (zu h y e) a σ := by
  refine Prod.ext ?_ rfl
  funext z
  by_cases hz : z = y
  · subst hz
    rw [zu_s, zps_out hy, zu_s]
  · rw [zu_n hz]
    by_cases hi : a ≤ z ∧ z < a + 16
    · obtain ⟨k, rfl⟩ : ∃ k, z = a + k := ⟨z - a, by omega⟩
      rw [zps_is γ h a σ k (by omega), zps_is γ (zu h y e) a σ k (by omega)]
    · rw [zps_out (by omega), zps_out (by omega), zu_n hz]
theorem sI_bo : sBo sI := by
  refine ⟨fun k hk => ?_, fun k hk => ?_⟩
  · rcases (show k = 0 ∨ k = 1 ∨ k = 2 by omega) with h | h | h <;> subst h <;> exact Or.inr rfl
  · rcases (show k = 0 ∨ k = 1 ∨ k = 2 ∨ k = 3 ∨ k = 4 ∨ k = 5 ∨ k = 6 ∨ k = 7 by omega) with h | h | h | h | h | h | h | h <;> subst h <;> exact ⟨Or.inr rfl, Or.inl rfl, Or.inl rfl⟩
theorem go_aload_nN {E : zE} {cs sl pc : Nat} {lv : zLv} {st : List Value} {h : zH} {j : Fin 4} (hd : decode (zb E) pc = .ok (.aload_n j, 1)) (hx : zat lv (j : Nat) = some .null) (k : Go E cs sl (pc + 1) lv (.null :: st) h) : Go E cs sl pc lv st h := by
  intro p e R s m args below meth c H locs ls hC hR hL hl
  exact lv_aload_nN hC.1 hC.2.1 hd rfl (hl.at hx) (k p e R s m args below meth c H locs ls hC hR hL hl)
theorem go_astore_nN {E : zE} {cs sl pc : Nat} {lv : zLv} {st : List Value} {h : zH} {j : Fin 4} (hd : decode (zb E) pc = .ok (.astore_n j, 1)) (hn : (j : Nat) < (zm E).2.2.1) (k : Go E cs sl (pc + 1) (lv.set j (some .null)) st h) : Go E cs sl pc lv (.null :: st) h := by
  intro p e R s m args below meth c H locs ls hC hR hL hl
  exact lv_astore_nN hC.1 hC.2.1 hd rfl hl.has hn rfl (fun ls' hl' => k p e R s m args below meth c H locs ls' hC hR hL (hl.set rfl hl'))
theorem zrfN {f : Nat → Option Nat} {k : Nat} (h : f k = none) : va_rf (f k) = .null := by rw [h]; rfl
theorem zrfS {f : Nat → Option Nat} {k q : Nat} (h : f k = some q) : va_rf (f k) = .ref q := by rw [h]; rfl
set_option maxRecDepth 4000 in
theorem kX3_save_b (γ : zG) (l : Launch) (n : Nat) (h : zH) (x : Nat) (s : Int32) (hb : ¬ aT s) : Con γ l (n + 3) 16 157 MX3_save [.ref x, .int s] h (some (.int (-1))) h := by
  refine Con.go (by decide +kernel) (Nat.le_of_ble_eq_true rfl) ⟨rfl, rfl, trivial⟩ ?_
  show Go _ 0 0 0 [some (.ref x), some (.int s), none] [] _
  refine go_iload_n dX3_save_0 rfl ?_
  refine go_callSi dX3_save_1 moX3_isSlot csX3_168 (kX3_isSlot γ l _ _ _) rfl rfl (Nat.le_refl _) (Nat.le_of_ble_eq_true rfl) (Nat.le_of_ble_eq_true rfl) (Nat.le_of_ble_eq_true rfl) ?_
  refine go_if_ne (tgt := 9) dX3_save_4 (by decide) (fun c4 => ?_) (fun c4 => ?_)
  · replace c4 := zi_nz.mp c4
    exact absurd c4 hb
  · replace c4 := zi_0.mp c4
    refine go_iconst (v := (-1)) dX3_save_7 (by decide) ?_
    refine go_iret dX3_save_8 rfl ?_ ?_ (Nat.le_of_ble_eq_true rfl) (Nat.le_of_ble_eq_true rfl)
    · rfl
    · rfl
set_option maxRecDepth 4000 in
theorem kX3_save_o (γ : zG) (l : Launch) (n : Nat) (h : zH) (x : Nat) (σ : zS) (hx : h.1 x = some (zsw x)) (hs : zSt16 γ h (x + 1) σ) (sn : Nat → Option Nat) (ha : h.1 (x + 33) = some (zas γ 2 sn)) (hbo : sBo σ) (s : Int32) (hb : aT s) (q : Nat) (ρ : zS) (hq : sn (ix s) = some q) (hr : zSt16 γ h q ρ) (hd : x + 34 ≤ q) : Con γ l (n + 3) 16 157 MX3_save [.ref x, .int s] h (some (.int (σ 2 5))) (zps γ h q (sCp ρ σ)) := by
  refine Con.go (by decide +kernel) (Nat.le_of_ble_eq_true rfl) ⟨rfl, rfl, trivial⟩ ?_
  show Go _ 0 0 0 [some (.ref x), some (.int s), none] [] _
  refine go_iload_n dX3_save_0 rfl ?_
  refine go_callSi dX3_save_1 moX3_isSlot csX3_168 (kX3_isSlot γ l _ _ _) rfl rfl (Nat.le_refl _) (Nat.le_of_ble_eq_true rfl) (Nat.le_of_ble_eq_true rfl) (Nat.le_of_ble_eq_true rfl) ?_
  refine go_if_ne (tgt := 9) dX3_save_4 (by decide) (fun c4 => ?_) (fun c4 => ?_)
  · replace c4 := zi_nz.mp c4
    refine go_aload_n dX3_save_9 rfl ?_
    refine go_getf dX3_save_10 flX3_19 (by exact hx) rfl ?_
    refine go_iload_n dX3_save_13 rfl ?_
    refine go_ald (t0 := 3) (C := RX2) dX3_save_14 (by exact ha) rfl (zin2 c4) rfl (zrfS hq) ?_
    refine go_astore_n dX3_save_15 (Nat.le_of_ble_eq_true rfl) ?_
    refine go_aload_n dX3_save_16 rfl ?_
    refine go_ifnonnull_r (tgt := 35) dX3_save_17 (by decide) ?_
    refine go_aload_n dX3_save_35 rfl ?_
    refine go_aload_n dX3_save_36 rfl ?_
    refine go_getf dX3_save_37 flX3_10 (by exact hx) rfl ?_
    refine go_callVv (ci := 2) dX3_save_40 moX2_copyFrom cvX3_155 ⟨rfl, rfl⟩ (kX2_copyFrom_ γ l _ _ q ρ hr (x + 1) σ hs (by omega) hbo _ rfl) (by exact hr 0 (by decide)) rfl rfl (Nat.le_refl _) (Nat.le_of_ble_eq_true rfl) (Nat.le_of_ble_eq_true rfl) (Nat.le_of_ble_eq_true rfl) ?_
    refine go_aload_n dX3_save_43 rfl ?_
    refine go_getf dX3_save_44 flX3_10 (by exact (zps_out (by omega)).trans hx) rfl ?_
    refine go_getf dX3_save_47 flX3_129 (by exact zps_o hs (by omega) 0 (by decide)) rfl ?_
    refine go_iret dX3_save_50 rfl ?_ ?_ (Nat.le_of_ble_eq_true rfl) (Nat.le_of_ble_eq_true rfl)
    · rfl
    · rfl
  · replace c4 := zi_0.mp c4
    exact absurd hb c4
set_option maxRecDepth 4000 in
theorem kX3_save_n (γ : zG) (l : Launch) (n : Nat) (h : zH) (x : Nat) (σ : zS) (hx : h.1 x = some (zsw x)) (hs : zSt16 γ h (x + 1) σ) (sn : Nat → Option Nat) (ha : h.1 (x + 33) = some (zas γ 2 sn)) (hbo : sBo σ) (s : Int32) (hb : aT s) (hq : sn (ix s) = none) (hd : x + 34 ≤ h.2) : Con γ l (n + 4) 16 157 MX3_save [.ref x, .int s] h (some (.int (σ 2 5))) (zps γ (zal (zu h (x + 33) (zas γ 2 (va_up sn (ix s) (some h.2)))) 16) h.2 (sCp sI σ)) := by
  refine Con.go (by decide +kernel) (Nat.le_of_ble_eq_true rfl) ⟨rfl, rfl, trivial⟩ ?_
  show Go _ 0 0 0 [some (.ref x), some (.int s), none] [] _
  refine go_iload_n dX3_save_0 rfl ?_
  refine go_callSi dX3_save_1 moX3_isSlot csX3_168 (kX3_isSlot γ l _ _ _) rfl rfl (Nat.le_refl _) (Nat.le_of_ble_eq_true rfl) (Nat.le_of_ble_eq_true rfl) (Nat.le_of_ble_eq_true rfl) ?_
  refine go_if_ne (tgt := 9) dX3_save_4 (by decide) (fun c4 => ?_) (fun c4 => ?_)
  · replace c4 := zi_nz.mp c4
    refine go_aload_n dX3_save_9 rfl ?_
    refine go_getf dX3_save_10 flX3_19 (by exact hx) rfl ?_
    refine go_iload_n dX3_save_13 rfl ?_
    refine go_ald (t0 := 3) (C := RX2) dX3_save_14 (by exact ha) rfl (zin2 c4) rfl (zrfN hq) ?_
    refine go_astore_nN dX3_save_15 (Nat.le_of_ble_eq_true rfl) ?_
    refine go_aload_nN dX3_save_16 rfl ?_
    refine go_ifnonnull_n dX3_save_17 ?_
    refine go_newA (ci := 2) (fs := [.null, .null, .null, .null, .int 0, .int 0, .int 0, .int 0, .int 0, .int 0]) rfl rfl dX3_save_20 rfl clX3_7 (fun j hj => by rcases (show j = 0 ∨ j = 1 ∨ j = 2 ∨ j = 3 ∨ j = 4 ∨ j = 5 ∨ j = 6 ∨ j = 7 ∨ j = 8 ∨ j = 9 by omega) with h | h | h | h | h | h | h | h | h | h <;> subst h <;> rfl) (Nat.le_of_ble_eq_true rfl) (Nat.le_of_ble_eq_true rfl) ?_
    refine go_dup dX3_save_23 rfl ?_
    refine go_callIv dX3_save_24 moX2_init ciX3_9 ⟨rfl, rfl⟩ (kX2_init γ l _ _ h.2 zp_s rfl) rfl rfl (Nat.le_refl _) (Nat.le_of_ble_eq_true rfl) (Nat.le_of_ble_eq_true rfl) (Nat.le_of_ble_eq_true rfl) ?_
    refine go_h zps_zp ?_
    refine go_astore_n dX3_save_27 (Nat.le_of_ble_eq_true rfl) ?_
    refine go_aload_n dX3_save_28 rfl ?_
    refine go_getf dX3_save_29 flX3_19 (by exact (zps_out (by omega)).trans hx) rfl ?_
    refine go_iload_n dX3_save_32 rfl ?_
    refine go_aload_n dX3_save_33 rfl ?_
    refine go_aast (t0 := 3) (ci := 2) (r := (RX2, TX2, 10)) dX3_save_34 ((zps_out (by omega)).trans ha) rfl (zps_is γ (zal h 16) h.2 sI 0 (by decide)) rfl (zin2 c4) rfl ?_
    refine go_h (zu_zps (by omega)) ?_
    refine go_h (show _ = zps γ (zal (zu h (x + 33) (zas γ 2 (va_up sn (ix s) (some h.2)))) 16) h.2 sI from rfl) ?_
    refine go_aload_n dX3_save_35 rfl ?_
    refine go_aload_n dX3_save_36 rfl ?_
    refine go_getf dX3_save_37 flX3_10 (by exact ((zps_out (by omega)).trans (zu_n (by omega))).trans hx) rfl ?_
    refine go_callVv (ci := 2) dX3_save_40 moX2_copyFrom cvX3_155 ⟨rfl, rfl⟩ (kX2_copyFrom_ γ l _ _ h.2 sI (zps_is γ _ h.2 sI) (x + 1) σ (show zSt16 γ (zps γ (zal (zu h (x + 33) (zas γ 2 (va_up sn (ix s) (some h.2)))) 16) h.2 sI) (x + 1) σ from fun k hk => ((zps_out (by omega)).trans (zu_n (by omega))).trans (hs k hk)) (by omega) hbo _ rfl) (by exact zps_is γ _ h.2 sI 0 (by decide)) rfl rfl (Nat.le_refl _) (Nat.le_of_ble_eq_true rfl) (Nat.le_of_ble_eq_true rfl) (Nat.le_of_ble_eq_true rfl) ?_
    refine go_aload_n dX3_save_43 rfl ?_
    refine go_getf dX3_save_44 flX3_10 (by exact ((zps_out (by omega)).trans ((zps_out (by omega)).trans (zu_n (by omega)))).trans hx) rfl ?_
    refine go_getf dX3_save_47 flX3_129 (by exact zps_o (show zSt16 γ (zps γ (zal (zu h (x + 33) (zas γ 2 (va_up sn (ix s) (some h.2)))) 16) h.2 sI) (x + 1) σ from fun k hk => ((zps_out (by omega)).trans (zu_n (by omega))).trans (hs k hk)) (by omega) 0 (by decide)) rfl ?_
    refine go_iret dX3_save_50 rfl ?_ ?_ (Nat.le_of_ble_eq_true rfl) (Nat.le_of_ble_eq_true rfl)
    · rfl
    · exact (zps_zps _ _ _ _ _).symm
  · replace c4 := zi_0.mp c4
    exact absurd hb c4
set_option maxRecDepth 4000 in
theorem kX3_restore_b (γ : zG) (l : Launch) (n : Nat) (h : zH) (x : Nat) (s : Int32) (hb : ¬ aT s) : Con γ l (n + 2) 0 0 MX3_restore [.ref x, .int s] h (some (.int (-1))) h := by
  refine Con.go (by decide +kernel) (Nat.le_of_ble_eq_true rfl) ⟨rfl, rfl, trivial⟩ ?_
  show Go _ 0 0 0 [some (.ref x), some (.int s), none] [] _
  refine go_iload_n dX3_restore_0 rfl ?_
  refine go_callSi dX3_restore_1 moX3_isSlot csX3_168 (kX3_isSlot γ l _ _ _) rfl rfl (Nat.le_refl _) (Nat.zero_le _) (Nat.zero_le _) (Nat.le_of_ble_eq_true rfl) ?_
  refine go_if_ne (tgt := 9) dX3_restore_4 (by decide) (fun c4 => ?_) (fun c4 => ?_)
  · replace c4 := zi_nz.mp c4
    exact absurd c4 hb
  · replace c4 := zi_0.mp c4
    refine go_iconst (v := (-1)) dX3_restore_7 (by decide) ?_
    refine go_iret dX3_restore_8 rfl ?_ ?_ (Nat.zero_le _) (Nat.zero_le _)
    · rfl
    · rfl
set_option maxRecDepth 4000 in
theorem kX3_restore_n (γ : zG) (l : Launch) (n : Nat) (h : zH) (x : Nat) (σ : zS) (hx : h.1 x = some (zsw x)) (hs : zSt16 γ h (x + 1) σ) (sn : Nat → Option Nat) (ha : h.1 (x + 33) = some (zas γ 2 sn)) (s : Int32) (hb : aT s) (hq : sn (ix s) = none) : Con γ l (n + 2) 0 0 MX3_restore [.ref x, .int s] h (some (.int (-3))) h := by
  refine Con.go (by decide +kernel) (Nat.le_of_ble_eq_true rfl) ⟨rfl, rfl, trivial⟩ ?_
  show Go _ 0 0 0 [some (.ref x), some (.int s), none] [] _
  refine go_iload_n dX3_restore_0 rfl ?_
  refine go_callSi dX3_restore_1 moX3_isSlot csX3_168 (kX3_isSlot γ l _ _ _) rfl rfl (Nat.le_refl _) (Nat.zero_le _) (Nat.zero_le _) (Nat.le_of_ble_eq_true rfl) ?_
  refine go_if_ne (tgt := 9) dX3_restore_4 (by decide) (fun c4 => ?_) (fun c4 => ?_)
  · replace c4 := zi_nz.mp c4
    refine go_aload_n dX3_restore_9 rfl ?_
    refine go_getf dX3_restore_10 flX3_19 (by exact hx) rfl ?_
    refine go_iload_n dX3_restore_13 rfl ?_
    refine go_ald (t0 := 3) (C := RX2) dX3_restore_14 (by exact ha) rfl (zin2 c4) rfl (zrfN hq) ?_
    refine go_astore_nN dX3_restore_15 (Nat.le_of_ble_eq_true rfl) ?_
    refine go_aload_nN dX3_restore_16 rfl ?_
    refine go_ifnonnull_n dX3_restore_17 ?_
    refine go_bipush (v := (-3)) dX3_restore_20 (by decide) ?_
    refine go_iret dX3_restore_22 rfl ?_ ?_ (Nat.zero_le _) (Nat.zero_le _)
    · rfl
    · rfl
  · replace c4 := zi_0.mp c4
    exact absurd hb c4
set_option maxRecDepth 4000 in
theorem kX3_restore_o (γ : zG) (l : Launch) (n : Nat) (h : zH) (x : Nat) (σ : zS) (hx : h.1 x = some (zsw x)) (hs : zSt16 γ h (x + 1) σ) (sn : Nat → Option Nat) (ha : h.1 (x + 33) = some (zas γ 2 sn)) (s : Int32) (hb : aT s) (q : Nat) (ρ : zS) (hbo : sBo ρ) (hq : sn (ix s) = some q) (hr : zSt16 γ h q ρ) (hd : x + 34 ≤ q) : Con γ l (n + 3) 0 0 MX3_restore [.ref x, .int s] h (some (.int (sCp σ ρ 2 5))) (zps γ h (x + 1) (sCp σ ρ)) := by
  refine Con.go (by decide +kernel) (Nat.le_of_ble_eq_true rfl) ⟨rfl, rfl, trivial⟩ ?_
  show Go _ 0 0 0 [some (.ref x), some (.int s), none] [] _
  refine go_iload_n dX3_restore_0 rfl ?_
  refine go_callSi dX3_restore_1 moX3_isSlot csX3_168 (kX3_isSlot γ l _ _ _) rfl rfl (Nat.le_refl _) (Nat.zero_le _) (Nat.zero_le _) (Nat.le_of_ble_eq_true rfl) ?_
  refine go_if_ne (tgt := 9) dX3_restore_4 (by decide) (fun c4 => ?_) (fun c4 => ?_)
  · replace c4 := zi_nz.mp c4
    refine go_aload_n dX3_restore_9 rfl ?_
    refine go_getf dX3_restore_10 flX3_19 (by exact hx) rfl ?_
    refine go_iload_n dX3_restore_13 rfl ?_
    refine go_ald (t0 := 3) (C := RX2) dX3_restore_14 (by exact ha) rfl (zin2 c4) rfl (zrfS hq) ?_
    refine go_astore_n dX3_restore_15 (Nat.le_of_ble_eq_true rfl) ?_
    refine go_aload_n dX3_restore_16 rfl ?_
    refine go_ifnonnull_r (tgt := 23) dX3_restore_17 (by decide) ?_
    refine go_aload_n dX3_restore_23 rfl ?_
    refine go_getf dX3_restore_24 flX3_10 (by exact hx) rfl ?_
    refine go_aload_n dX3_restore_27 rfl ?_
    refine go_callVv (ci := 2) dX3_restore_28 moX2_copyFrom cvX3_155 ⟨rfl, rfl⟩ (kX2_copyFrom_ γ l _ _ (x + 1) σ hs q ρ hr (by omega) hbo _ rfl) (by exact hs 0 (by decide)) rfl rfl (Nat.le_refl _) (Nat.zero_le _) (Nat.zero_le _) (Nat.le_of_ble_eq_true rfl) ?_
    refine go_aload_n dX3_restore_31 rfl ?_
    refine go_getf dX3_restore_32 flX3_10 (by exact (zps_out (by omega)).trans hx) rfl ?_
    refine go_getf dX3_restore_35 flX3_129 (by exact zps_is γ h (x + 1) _ 0 (by decide)) rfl ?_
    refine go_iret dX3_restore_38 rfl ?_ ?_ (Nat.zero_le _) (Nat.zero_le _)
    · rfl
    · rfl
  · replace c4 := zi_0.mp c4
    exact absurd hb c4
def zcP (γ : zG) (x : Nat) : Nat → va_E := fun j => if j = 0 then zsw x else if j < 17 then zst γ (x + 1) sI (j - 1) else if j < 33 then zst γ (x + 17) sI (j - 17) else zas γ 2 (fun _ => none)
set_option maxRecDepth 4000 in
theorem kX3_init (γ : zG) (l : Launch) (n : Nat) (h : zH) (x : Nat) (hp : h.1 x = some (.inr (3, [.null, .null, .null]))) (hnx : h.2 = x + 1) : Con γ l (n + 3) 33 316 MX3_init [.ref x] h none (zcan h x 34 (zcP γ x)) := by
  refine Con.go (by decide +kernel) (Nat.le_of_ble_eq_true rfl) ⟨rfl, trivial⟩ ?_
  show Go _ 0 0 0 [some (.ref x)] [] _
  refine go_h (zcan_1 hp) ?_
  refine go_aload_n dX3_init_0 rfl ?_
  refine go_objInit dX3_init_1 oiX3_1 (by show 1 ≤ _ + 1; omega) ?_
  refine go_aload_n dX3_init_4 rfl ?_
  refine go_newA (ci := 2) (fs := [.null, .null, .null, .null, .int 0, .int 0, .int 0, .int 0, .int 0, .int 0]) (zcan_nx hnx (by decide)) (zcan_push hnx (by decide)) dX3_init_5 rfl clX3_7 (fun j hj => by rcases (show j = 0 ∨ j = 1 ∨ j = 2 ∨ j = 3 ∨ j = 4 ∨ j = 5 ∨ j = 6 ∨ j = 7 ∨ j = 8 ∨ j = 9 by omega) with h | h | h | h | h | h | h | h | h | h <;> subst h <;> rfl) (Nat.le_of_ble_eq_true rfl) (Nat.le_of_ble_eq_true rfl) ?_
  refine go_dup dX3_init_8 rfl ?_
  refine go_callIv dX3_init_9 moX2_init ciX3_9 ⟨rfl, rfl⟩ (kX2_init γ l _ _ (x + 1) (zcan_rd 1 (by decide)) (zcan_nx hnx (by decide))) rfl rfl (Nat.le_refl _) (Nat.le_of_ble_eq_true rfl) (Nat.le_of_ble_eq_true rfl) (Nat.le_of_ble_eq_true rfl) ?_
  refine go_h (zcan_blk (k := 1) (M := 17) (m := 15) hnx (by decide) rfl rfl (by decide) rfl) ?_
  refine go_putF dX3_init_12 flX3_10 fnX3_0 rfl rfl (by exact zcan_rd 0 (by decide)) rfl rfl (Nat.le_of_ble_eq_true rfl) ?_
  refine go_h (zcan_zu (k := 0) (by decide) rfl) ?_
  refine go_aload_n dX3_init_15 rfl ?_
  refine go_newA (ci := 2) (fs := [.null, .null, .null, .null, .int 0, .int 0, .int 0, .int 0, .int 0, .int 0]) (zcan_nx hnx (by decide)) (zcan_push hnx (by decide)) dX3_init_16 rfl clX3_7 (fun j hj => by rcases (show j = 0 ∨ j = 1 ∨ j = 2 ∨ j = 3 ∨ j = 4 ∨ j = 5 ∨ j = 6 ∨ j = 7 ∨ j = 8 ∨ j = 9 by omega) with h | h | h | h | h | h | h | h | h | h <;> subst h <;> rfl) (Nat.le_of_ble_eq_true rfl) (Nat.le_of_ble_eq_true rfl) ?_
  refine go_dup dX3_init_19 rfl ?_
  refine go_callIv dX3_init_20 moX2_init ciX3_9 ⟨rfl, rfl⟩ (kX2_init γ l _ _ (x + 17) (zcan_rd 17 (by decide)) (zcan_nx hnx (by decide))) rfl rfl (Nat.le_refl _) (Nat.le_of_ble_eq_true rfl) (Nat.le_of_ble_eq_true rfl) (Nat.le_of_ble_eq_true rfl) ?_
  refine go_h (zcan_blk (k := 17) (M := 33) (m := 15) hnx (by decide) rfl rfl (by decide) rfl) ?_
  refine go_putF dX3_init_23 flX3_16 fnX3_1 rfl rfl (by exact zcan_rd 0 (by decide)) rfl rfl (Nat.le_of_ble_eq_true rfl) ?_
  refine go_h (zcan_zu (k := 0) (by decide) rfl) ?_
  refine go_aload_n dX3_init_26 rfl ?_
  refine go_iconst (v := 2) dX3_init_27 (by decide) ?_
  refine go_anewA (N := 2) (t0 := 3) (zcan_nx hnx (by decide)) (zcan_push hnx (by decide)) dX3_init_28 clX3_7.1 (fun U hU => hU.2.2.2) rfl (by decide) rfl (by decide) (Nat.le_of_ble_eq_true rfl) (Nat.le_of_ble_eq_true rfl) ?_
  refine go_putF dX3_init_31 flX3_19 fnX3_2 rfl rfl (by exact zcan_rd 0 (by decide)) rfl rfl (Nat.le_of_ble_eq_true rfl) ?_
  refine go_h (zcan_zu (k := 0) (by decide) rfl) ?_
  refine go_vret dX3_init_34 rfl rfl ?_ (Nat.le_of_ble_eq_true rfl) (Nat.le_of_ble_eq_true rfl)
  · refine zcan_congr (fun j hj => ?_)
    by_cases h0 : j = 0
    · subst h0; rfl
    · by_cases h1 : j < 17
      · have e : ¬ (j = 33) := by omega
        have e2 : ¬ (17 ≤ j ∧ j < 17 + 16) := by omega
        have e3 : ¬ (j = 17) := by omega
        have e4 : 1 ≤ j ∧ j < 1 + 16 := by omega
        simp [zcP, zcu, zcb, h0, h1, e, e2, e3, e4]
      · by_cases h2 : j < 33
        · have e : ¬ (j = 33) := by omega
          have e2 : 17 ≤ j ∧ j < 17 + 16 := by omega
          simp [zcP, zcu, zcb, h0, h1, h2, e, e2]
        · have e : j = 33 := by omega
          subst e
          rfl
