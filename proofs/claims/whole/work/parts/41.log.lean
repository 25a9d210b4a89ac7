/-! events and single ports under the relation -/
theorem gRl.same {σ ρ : zS} {M N : Nat → Int32} {t : Nat} (h : gRl σ M t) (h0 : ρ 0 = σ 0) (h1 : ρ 1 = σ 1) (h2 : ρ 2 = σ 2) (hM : ∀ i, i ≤ 11 → N i = M i) : gRl ρ N t := by
  obtain ⟨a, b, c, d, e, f, g⟩ := h
  refine ⟨fun k hk => ?_, ?_, ?_, ?_, ?_, ?_, ?_⟩
  · rw [hM k (by omega), hM (3 + k) (by omega), h0, h1]; exact a k hk
  · rw [hM 6 (by omega), h2]; exact b
  · rw [hM 7 (by omega), h2]; exact c
  · rw [hM 8 (by omega), h2]; exact d
  · rw [hM 9 (by omega), h2]; exact e
  · rw [hM 10 (by omega), h2]; exact f
  · rw [hM 11 (by omega), h2]; exact g
theorem lRl.same {σ ρ : zS} {M N : Nat → Int32} {u w : Nat} (h : lRl σ M u) (hu : u ≤ w) (h3 : ρ 3 = σ 3) (h4 : ρ 4 = σ 4) (h5 : ρ 5 = σ 5) (h6 : ρ 6 = σ 6) (hM : ∀ i, 12 ≤ i → i < 61 → N i = M i) : lRl ρ N w := by
  obtain ⟨o, c, ho, hc, a, b, d, e⟩ := h
  refine ⟨o, c, ho, hc, by rw [h6]; exact a, by rw [h6]; exact b, by rw [hM 12 (by omega) (by omega)]; exact d, fun i hi => ?_⟩
  obtain ⟨e1, e2, e3, s, hs, e4⟩ := e i hi
  rw [hM (13 + 3 * i) (by omega) (by omega), hM (13 + 3 * i + 1) (by omega) (by omega), hM (13 + 3 * i + 2) (by omega) (by omega), h3, h4, h5]
  exact ⟨e1, e2, e3, s, by omega, e4⟩
theorem pRl.same {f g g' : Nat → Int32} (h : pRl f g) (hg : ∀ k, k ≤ 10 → g' k = g k) : pRl f g' := by
  unfold pRl at h ⊢
  rw [hg 0 (by omega), hg 1 (by omega), hg 2 (by omega), hg 8 (by omega), hg 9 (by omega), hg 10 (by omega), hg 6 (by omega), hg 7 (by omega), hg 5 (by omega)]
  obtain ⟨a, b, c, d, e, f', k⟩ := h
  refine ⟨a, b, c, d, e, f', fun q => ?_⟩
  obtain ⟨k1, k2, k3, k4⟩ := k q
  refine ⟨k1, k2, k3.trans (zi_iff ?_), k4⟩
  rw [hg 3 (by omega), hg 4 (by omega)]
theorem qRl.same {σ ρ : zS} {M N : Nat → Int32} (h : qRl σ M) (hp : ∀ j, j < 8 → ρ (7 + j) = σ (7 + j)) (hM : ∀ i, 61 ≤ i → N i = M i) : qRl ρ N := fun j hj => by
  obtain ⟨a, b⟩ := h j hj
  rw [hp j hj]
  exact ⟨a.same (fun k _ => hM _ (by unfold mi; omega)), b⟩
/-- one port changes -/
theorem RI.port {σ : zS} {M N : Nat → Int32} {t u j : Nat} {f : Nat → Int32} (h : RI σ M t u) (hj : j < 8) (hp : pRl f (fun k => N (mi j k))) (hi : pIv f) (hM : ∀ i, (∀ k, k ≤ 10 → i ≠ mi j k) → N i = M i) : RI (upR σ (7 + j) f) N t u := by
  obtain ⟨hg, hl, hq⟩ := h
  have hlow : ∀ i, i < 61 → N i = M i := fun i hi => hM i (fun k _ => by unfold mi; omega)
  refine ⟨hg.same (upR_n (by omega)) (upR_n (by omega)) (upR_n (by omega)) (fun i hi => hlow i (by omega)), hl.same (Nat.le_refl u) (upR_n (by omega)) (upR_n (by omega)) (upR_n (by omega)) (upR_n (by omega)) (fun i _ hi => hlow i hi), fun i hi2 => ?_⟩
  by_cases hij : i = j
  · subst hij
    rw [upR_s]
    exact ⟨hp, hi⟩
  · rw [upR_n (by omega)]
    obtain ⟨a, b⟩ := hq i hi2
    exact ⟨a.same (fun k hk => hM _ (fun k2 hk2 => by unfold mi; omega)), b⟩
theorem RI.row2 {σ : zS} {M N : Nat → Int32} {t t' u : Nat} {f : Nat → Int32} (h : RI σ M t u) (hg : gRl (upR σ 2 f) N t') (hM : ∀ i, 12 ≤ i → N i = M i) : RI (upR σ 2 f) N t' u :=
  ⟨hg, h.2.1.same (Nat.le_refl u) (upR_n (by omega)) (upR_n (by omega)) (upR_n (by omega)) (upR_n (by omega)) (fun i hi _ => hM i hi), h.2.2.same (fun j hj => upR_n (by omega)) (fun i hi => hM i (by omega))⟩
/-! an event -/
theorem lAdd_r0 {L : Nat → Nat → Int32} {o c : Nat} {t q k : Int32} : lAdd L o c t q k 0 = upd (L 0) ((o + c) % 16) t := by unfold lAdd; split <;> rfl
theorem lAdd_r1 {L : Nat → Nat → Int32} {o c : Nat} {t q k : Int32} : lAdd L o c t q k 1 = upd (L 1) ((o + c) % 16) q := by unfold lAdd; split <;> rfl
theorem lAdd_r2 {L : Nat → Nat → Int32} {o c : Nat} {t q k : Int32} : lAdd L o c t q k 2 = upd (L 2) ((o + c) % 16) k := by unfold lAdd; split <;> rfl
theorem lAdd_r3 {L : Nat → Nat → Int32} {o c : Nat} {t q k : Int32} : lAdd L o c t q k 3 = if c < 16 then upd (L 3) 1 (nI (c + 1)) else upd (L 3) 0 (nI ((o + 1) % 16)) := by unfold lAdd; split <;> rfl
theorem sLog_n {σ : zS} {q k : Int32} {c : Nat} (h : c < 3 ∨ 7 ≤ c) : sLog σ q k c = σ c := by
  unfold sLog upL
  rw [if_neg (by omega)]
theorem upd_s {f : Nat → Int32} {k : Nat} {x : Int32} : upd f k x k = x := pk_us
theorem upd_o {f : Nat → Int32} {k j : Nat} {x : Int32} (h : j ≠ k) : upd f k x j = f j := pk_un h
theorem nTl_a {M : Nat → Int32} {c : Nat} {p kd : Int32} : nTl M c p kd (13 + 3 * c) = M 11 ∧ nTl M c p kd (13 + 3 * c + 1) = p ∧ nTl M c p kd (13 + 3 * c + 2) = kd := by
  unfold nTl
  refine ⟨?_, ?_, ?_⟩
  · rw [upd_o (by omega), upd_o (by omega), upd_o (by omega), upd_s]
  · rw [upd_o (by omega), upd_o (by omega), upd_s]
  · rw [upd_o (by omega), upd_s]
theorem lRl.add {σ : zS} {M : Nat → Int32} {t u w : Nat} {p kd : Int32} (h : lRl σ M u) (ht : σ 2 5 = nI t) (hM : M 11 = nI t) (hu : u ≤ w) (htw : t < w) : lRl (sLog σ p kd) (nAdd M (nCt M) p kd) w := by
  obtain ⟨o, c, ho, hc, a, b, d, e⟩ := h
  have ec : nCt M = c := by unfold nCt; rw [d]; exact nI_clamp (by omega)
  have eo : (σ 6 0).toNatClampNeg = o := by rw [a]; exact nI_clamp (by omega)
  have ec2 : (σ 6 1).toNatClampNeg = c := by rw [b]; exact nI_clamp (by omega)
  have r3 : sLog σ p kd 3 = upd (σ 3) ((o + c) % 16) (nI t) := by
    show lAdd _ _ _ _ _ _ 0 = _
    rw [lAdd_r0, eo, ec2, ht]
  have r4 : sLog σ p kd 4 = upd (σ 4) ((o + c) % 16) p := by
    show lAdd _ _ _ _ _ _ 1 = _
    rw [lAdd_r1, eo, ec2]
  have r5 : sLog σ p kd 5 = upd (σ 5) ((o + c) % 16) kd := by
    show lAdd _ _ _ _ _ _ 2 = _
    rw [lAdd_r2, eo, ec2]
  have r6 : sLog σ p kd 6 = if c < 16 then upd (σ 6) 1 (nI (c + 1)) else upd (σ 6) 0 (nI ((o + 1) % 16)) := by
    show lAdd _ _ _ _ _ _ 3 = _
    rw [lAdd_r3, eo, ec2]
  rw [ec]
  by_cases h16 : c = 16
  · subst h16
    have r6' : sLog σ p kd 6 = upd (σ 6) 0 (nI ((o + 1) % 16)) := by rw [r6, if_neg (by omega)]
    refine ⟨(o + 1) % 16, 16, Nat.mod_lt _ (by decide), Nat.le_refl _, by rw [r6', upd_s], by rw [r6', upd_o (by omega)]; exact b, by rw [nAdd_12 d, if_pos rfl], fun i hi => ?_⟩
    rw [r3, r4, r5]
    generalize hN : upd (nSf M 45) 12 (nSf M 45 12 - 1) = N
    have hadd : nAdd M 16 p kd = nTl N 15 p kd := by unfold nAdd; rw [if_pos rfl, hN]
    have hNi : ∀ i, 13 ≤ i → i < 58 → N i = M (i + 3) := by
      intro i h1 h2
      rw [← hN, upd_o (by omega)]
      unfold nSf
      rw [if_pos (by omega)]
    have hN11 : N 11 = nI t := by
      rw [← hN, upd_o (by omega)]
      unfold nSf
      rw [if_neg (by omega), hM]
    rw [hadd]
    by_cases hi15 : i = 15
    · subst hi15
      obtain ⟨k1, k2, k3⟩ := nTl_a (M := N) (c := 15) (p := p) (kd := kd)
      have em : ((o + 1) % 16 + 15) % 16 = (o + 16) % 16 := by omega
      rw [em, upd_s, upd_s, upd_s]
      exact ⟨k1.trans hN11, k2, k3, t, htw, k1.trans hN11⟩
    · have em : ((o + 1) % 16 + i) % 16 = (o + (i + 1)) % 16 := by omega
      have en : (o + (i + 1)) % 16 ≠ (o + 16) % 16 := by omega
      obtain ⟨e1, e2, e3, s, hs, e4⟩ := e (i + 1) (by omega)
      rw [em, upd_o en, upd_o en, upd_o en, nTl_o (by omega) (by omega), nTl_o (by omega) (by omega), nTl_o (by omega) (by omega), hNi _ (by omega) (by omega), hNi _ (by omega) (by omega), hNi _ (by omega) (by omega)]
      rw [show 13 + 3 * i + 3 = 13 + 3 * (i + 1) by omega, show 13 + 3 * i + 1 + 3 = 13 + 3 * (i + 1) + 1 by omega, show 13 + 3 * i + 2 + 3 = 13 + 3 * (i + 1) + 2 by omega]
      exact ⟨e1, e2, e3, s, by omega, e4⟩
  · have r6' : sLog σ p kd 6 = upd (σ 6) 1 (nI (c + 1)) := by rw [r6, if_pos (by omega)]
    have hadd : nAdd M c p kd = nTl M c p kd := by unfold nAdd; rw [if_neg h16]
    refine ⟨o, c + 1, ho, by omega, by rw [r6', upd_o (by omega)]; exact a, by rw [r6', upd_s], by rw [hadd, nTl_12 d], fun i hi => ?_⟩
    rw [r3, r4, r5, hadd]
    by_cases hic : i = c
    · subst hic
      obtain ⟨k1, k2, k3⟩ := nTl_a (M := M) (c := i) (p := p) (kd := kd)
      rw [upd_s, upd_s, upd_s]
      exact ⟨k1.trans hM, k2, k3, t, htw, k1.trans hM⟩
    · have en : (o + i) % 16 ≠ (o + c) % 16 := by omega
      obtain ⟨e1, e2, e3, s, hs, e4⟩ := e i (by omega)
      rw [upd_o en, upd_o en, upd_o en, nTl_o (by omega) (by omega), nTl_o (by omega) (by omega), nTl_o (by omega) (by omega)]
      exact ⟨e1, e2, e3, s, by omega, e4⟩
theorem RI.log {σ : zS} {M : Nat → Int32} {t u w : Nat} (h : RI σ M t u) (p kd : Int32) (hu : u ≤ w) (htw : t < w) : RI (sLog σ p kd) (nAdd M (nCt M) p kd) t w := by
  have hok := h.ok.1
  obtain ⟨hg, hl, hq⟩ := h
  have h7 := hg.2.2.2.2.2.2
  exact ⟨hg.same (sLog_n (by omega)) (sLog_n (by omega)) (sLog_n (by omega)) (fun i hi => nAdd_o hok.2.2 (by omega)), hl.add h7.2 (h7.1.trans h7.2) hu htw, hq.same (fun j hj => sLog_n (by omega)) (fun i hi => nAdd_o hok.2.2 (by omega))⟩
/-! a port loses power -/
theorem pIv.lose {f : Nat → Int32} (h : pIv f) : pIv (upd (upd f 7 0) 8 0) := by
  obtain ⟨a, b, c, d, e, f1, g, k⟩ := h
  exact ⟨a, b, ⟨0, by omega, rfl⟩, fun q => absurd (show (0 : Int32) < 0 from q) (by decide), fun _ => rfl, ⟨0, by omega, rfl⟩, g, k⟩
theorem nLose_p {M : Nat → Int32} {j k : Nat} : nLose M j (mi j k) = upd (upd (fun k => M (mi j k)) 8 0) 9 0 k := by
  unfold nLose
  by_cases h9 : k = 9
  · subst h9; rw [upd_s, upd_s]
  · rw [upd_o (by unfold mi; omega), upd_o h9]
    by_cases h8 : k = 8
    · subst h8; rw [upd_s, upd_s]
    · rw [upd_o (by unfold mi; omega), upd_o h8]
theorem pRl.lose {f g : Nat → Int32} (h : pRl f g) : pRl (upd (upd f 7 0) 8 0) (upd (upd g 8 0) 9 0) := by
  obtain ⟨a, b, c, d, e, f1, k⟩ := h
  exact ⟨a, b, c, rfl, rfl, f1, k⟩
theorem RI.lose {σ : zS} {M : Nat → Int32} {t u j : Nat} (h : RI σ M t u) (hj : j < 8) : RI (sLose σ j) (nLose M j) t u := by
  obtain ⟨a, b⟩ := h.2.2 j hj
  refine h.port hj ?_ b.lose (fun i hi => nLose_o (hi 8 (by omega)) (hi 9 (by omega)))
  rw [show (fun k => nLose M j (mi j k)) = upd (upd (fun k => M (mi j k)) 8 0) 9 0 from funext fun k => nLose_p]
  exact a.lose
