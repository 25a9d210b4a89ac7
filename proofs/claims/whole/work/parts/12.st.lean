/-! State: its cells -/
abbrev zS : Type := Nat → Nat → Int32
/-- rows: 0 capacities, 1 works, 2 reserve, gap, limit, cooldown time, timer, time; 3 to 5 the log, 6 its oldest and count; 7 + p port p -/
def zst (γ : zG) (a : Nat) (σ : zS) : Nat → va_E := fun k => match k with
  | 0 => .inr (2, [.ref (a + 1), .ref (a + 2), .ref (a + 3), .ref (a + 4), .int (σ 2 0), .int (σ 2 1), .int (σ 2 2), .int (σ 2 3), .int (σ 2 4), .int (σ 2 5)])
  | 1 => zai γ 3 (σ 0)
  | 2 => zaz γ 3 (σ 1)
  | 3 => zap γ 8 (fun j => if j < 8 then some (a + 8 + j) else none)
  | 4 => .inr (0, [.ref (a + 4 + 1), .ref (a + 4 + 2), .ref (a + 4 + 3), .int (σ 6 0), .int (σ 6 1)])
  | 5 => zai γ 16 (σ 3)
  | 6 => zai γ 16 (σ 4)
  | 7 => zai γ 16 (σ 5)
  | k => zpo (σ (k - 1))
abbrev zSt16 (γ : zG) (h : zH) (a : Nat) (σ : zS) : Prop := zIs h a 16 (zst γ a σ)
def zps (γ : zG) (h : zH) (a : Nat) (σ : zS) : zH := zput h a 16 (zst γ a σ)
theorem zps_is (γ : zG) (h : zH) (a : Nat) (σ : zS) : zSt16 γ (zps γ h a σ) a σ := zput_is _ _ _ _
theorem zps_zps (γ : zG) (h : zH) (a : Nat) (σ τ : zS) : zps γ (zps γ h a σ) a τ = zps γ h a τ := zput_zput _ _ _ _ _
theorem zps_id {γ : zG} {h : zH} {a : Nat} {σ : zS} (hs : zSt16 γ h a σ) : zps γ h a σ = h := zput_id hs
theorem zlt16 {k : Nat} (h : k < 16) : k = 0 ∨ k = 1 ∨ k = 2 ∨ k = 3 ∨ k = 4 ∨ k = 5 ∨ k = 6 ∨ k = 7 ∨ k = 8 ∨ k = 9 ∨ k = 10 ∨ k = 11 ∨ k = 12 ∨ k = 13 ∨ k = 14 ∨ k = 15 := by omega
theorem upR_n {σ : zS} {c c' : Nat} {f : Nat → Int32} (h : c' ≠ c) : upR σ c f c' = σ c' := by simp [upR, h]
theorem upR_s {σ : zS} {c : Nat} {f : Nat → Int32} : upR σ c f c = f := by simp [upR]
theorem zst_log {γ : zG} {h : zH} {a : Nat} {σ : zS} (hs : zSt16 γ h a σ) : zIs h (a + 4) 4 (zlo γ (a + 4) (fun c => σ (3 + c))) := fun k hk => by
  rw [Nat.add_assoc, hs (4 + k) (by omega)]
  rcases zlt4 hk with h | h | h | h <;> subst h <;> rfl
theorem zst_po {γ : zG} {a p : Nat} {σ : zS} (hp : p < 8) : zst γ a σ (8 + p) = zpo (σ (7 + p)) := by
  rcases (show p = 0 ∨ p = 1 ∨ p = 2 ∨ p = 3 ∨ p = 4 ∨ p = 5 ∨ p = 6 ∨ p = 7 by omega) with h | h | h | h | h | h | h | h <;> subst h <;> rfl
theorem zst_port {γ : zG} {h : zH} {a p : Nat} {σ : zS} (hs : zSt16 γ h a σ) (hp : p < 8) : h.1 (a + 8 + p) = some (zpo (σ (7 + p))) := by
  rw [Nat.add_assoc, hs (8 + p) (by omega), zst_po hp]
theorem zst_r0 {γ : zG} {h : zH} {a : Nat} {σ : zS} {f : Nat → Int32} (hs : zSt16 γ h a σ) : zu h (a + 1) (zai γ 3 f) = zps γ h a (upR σ 0 f) :=
  zu_zput hs (k := 1) (by decide) rfl (fun j hj hn => by rcases zlt16 hj with h | h | h | h | h | h | h | h | h | h | h | h | h | h | h | h <;> subst h <;> first | rfl | exact absurd rfl hn) rfl
theorem zst_r1 {γ : zG} {h : zH} {a : Nat} {σ : zS} {f : Nat → Int32} (hs : zSt16 γ h a σ) : zu h (a + 2) (zaz γ 3 f) = zps γ h a (upR σ 1 f) :=
  zu_zput hs (k := 2) (by decide) rfl (fun j hj hn => by rcases zlt16 hj with h | h | h | h | h | h | h | h | h | h | h | h | h | h | h | h <;> subst h <;> first | rfl | exact absurd rfl hn) rfl
theorem zst_r2 {γ : zG} {h : zH} {a : Nat} {σ : zS} {e : va_E} {f : Nat → Int32} (hs : zSt16 γ h a σ) (he : zst γ a (upR σ 2 f) 0 = e) : zu h a e = zps γ h a (upR σ 2 f) :=
  zu_zput hs (k := 0) (by decide) rfl (fun j hj hn => by rcases zlt16 hj with h | h | h | h | h | h | h | h | h | h | h | h | h | h | h | h <;> subst h <;> first | rfl | exact absurd rfl hn) he
theorem zst_rp {γ : zG} {h : zH} {a p : Nat} {σ : zS} {f : Nat → Int32} (hs : zSt16 γ h a σ) (hp : p < 8) : zu h (a + 8 + p) (zpo f) = zps γ h a (upR σ (7 + p) f) := by
  refine zu_zput hs (k := 8 + p) (by omega) (Nat.add_assoc _ _ _) (fun j hj hn => ?_) ?_
  · have e : ∀ c, c ≠ 7 + p → upR σ (7 + p) f c = σ c := fun c hc => upR_n hc
    rcases zlt16 hj with h | h | h | h | h | h | h | h | h | h | h | h | h | h | h | h <;> subst h <;> simp only [zst] <;> first | rfl | (rw [e _ (by omega)]; done) | (rw [e 2 (by omega)]; done) | (rw [e 6 (by omega)]; done)
  · rw [zst_po hp, upR_s]
def upL (σ : zS) (L : Nat → Nat → Int32) : zS := fun c => if 3 ≤ c ∧ c < 7 then L (c - 3) else σ c
theorem zst_rl {γ : zG} {h : zH} {a : Nat} {σ : zS} {L : Nat → Nat → Int32} (hs : zSt16 γ h a σ) : zput h (a + 4) 4 (zlo γ (a + 4) L) = zps γ h a (upL σ L) := by
  refine Prod.ext ?_ rfl
  funext x
  by_cases h1 : a + 4 ≤ x ∧ x < a + 4 + 4
  · obtain ⟨k, rfl⟩ : ∃ k, x = a + 4 + k := ⟨x - (a + 4), by omega⟩
    have hk : k < 4 := by omega
    rw [show (zput h (a + 4) 4 (zlo γ (a + 4) L)).1 (a + 4 + k) = _ from zput_is _ _ _ _ k hk, Nat.add_assoc, show (zps γ h a (upL σ L)).1 (a + (4 + k)) = _ from zps_is γ h a _ (4 + k) (by omega)]
    rcases zlt4 hk with h | h | h | h <;> subst h <;> rfl
  · rw [zput_out (by omega)]
    by_cases h2 : a ≤ x ∧ x < a + 16
    · obtain ⟨k, rfl⟩ : ∃ k, x = a + k := ⟨x - a, by omega⟩
      have hk : k < 16 := by omega
      rw [show (zps γ h a (upL σ L)).1 (a + k) = _ from zps_is γ h a _ k hk, hs k hk]
      have hk2 : ¬ (4 ≤ k ∧ k < 8) := by omega
      rcases zlt16 hk with h | h | h | h | h | h | h | h | h | h | h | h | h | h | h | h <;> subst h <;> first | rfl | exact absurd ⟨by decide, by decide⟩ hk2
    · exact (zput_out (h := h) (c := zst γ a (upL σ L)) (by omega)).symm
/-! loops over ports: the branch at the head -/
theorem zge {k m : Nat} (hk : k + (m + 1) = 8) : ¬ (8 : Int32) ≤ nI k := by
  have h1 : (8 : Int32) = nI 8 := rfl
  rw [h1]
  exact nI_ge (by omega) (by decide)
theorem zge3 {k m : Nat} (hk : k + (m + 1) = 3) : ¬ (3 : Int32) ≤ nI k := by
  have h1 : (3 : Int32) = nI 3 := rfl
  rw [h1]
  exact nI_ge (by omega) (by decide)
theorem zrf8 {k : Nat} {a : Nat} (hk : k < 8) : va_rf ((fun j => if j < 8 then some (a + 8 + j) else none) k) = .ref (a + 8 + k) := by
  show va_rf (if k < 8 then some (a + 8 + k) else none) = _
  rw [if_pos hk]
  rfl
/-! what State's methods answer -/
abbrev pPow (f : Nat → Int32) : Prop := 0 < f 7
abbrev pEli (f : Nat → Int32) : Prop := ¬ f 0 = 0 ∧ ¬ f 3 = 0 ∧ ¬ f 2 = 0 ∧ ¬ f 4 = -6
abbrev pCan (f : Nat → Int32) (x : Int32) : Prop := pEli f ∧ ¬ 0 < f 7 ∧ f 9 = 0 ∧ f 6 ≤ x
abbrev bit (k : Int32) : Int32 := 1 <<< (k &&& 31)
def sSum (σ : zS) : Nat → Int32
  | 0 => 0
  | k + 1 => if σ 1 k = 0 then sSum σ k else sSum σ k + σ 0 k
def sBud (σ : zS) : Int32 := if 0 < sSum σ 3 - σ 2 0 then sSum σ 3 - σ 2 0 else 0
def sSp (σ : zS) : Nat → Int32
  | 0 => sBud σ
  | k + 1 => sSp σ k - σ (7 + k) 7
def sEl (σ : zS) : Nat → Int32
  | 0 => 0
  | k + 1 => if pEli (σ (7 + k)) then sEl σ k ||| bit (nI k) else sEl σ k
def sPw (σ : zS) : Nat → Int32
  | 0 => 0
  | k + 1 => if pPow (σ (7 + k)) then sPw σ k ||| bit (nI k) else sPw σ k
def sLp (σ : zS) : Nat → Int32 × Int32
  | 0 => (-6, 0)
  | k + 1 => if pPow (σ (7 + k)) ∧ ¬ σ (7 + k) 1 < (sLp σ k).2 then (nI k, σ (7 + k) 1) else sLp σ k
def sFp (σ : zS) : Nat → Int32 × Int32
  | 0 => (-6, 3)
  | k + 1 => if σ (7 + k) 1 < (sFp σ k).2 ∧ pCan (σ (7 + k)) (sSp σ 8) then (nI k, σ (7 + k) 1) else sFp σ k
def sFi (σ : zS) (q : Nat) (s : Int32 × Int32) : Nat → Int32 × Int32
  | 0 => s
  | k + 1 => if σ (7 + k) 1 = nI q ∧ pEli (σ (7 + k)) ∧ σ (7 + k) 6 ≤ (sFi σ q s k).2 then ((sFi σ q s k).1 ||| bit (nI k), (sFi σ q s k).2 - σ (7 + k) 6) else sFi σ q s k
def sFo (σ : zS) : Nat → Int32 × Int32
  | 0 => (0, sBud σ)
  | q + 1 => sFi σ q (sFo σ q) 8
