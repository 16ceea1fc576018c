/-! ALLOWED: no PERSON twice, as the class finds it and as the reference counts it -/
theorem rp_cnt {A : AS} (w : WF A) {f : Nat} (P : Nat) : ∀ n, n ≤ nOf A f → popN 32 (pplP A f P n) ≤ cntN (fun b => P.testBit b) n ∧ (popN 32 (pplP A f P n) = cntN (fun b => P.testBit b) n ↔ ∀ m, m < n → rpP A f P m = false) := by
  have hn7 := w.1.1
  intro n
  induction n with
  | zero =>
    intro _
    have e : pplP A f P 0 = 0 := rfl
    have e2 : cntN (fun b => P.testBit b) 0 = 0 := rfl
    rw [e, e2, popN_0]
    exact ⟨Nat.le_refl _, (fun _ m hm => absurd hm (Nat.not_lt_zero m)), fun _ => rfl⟩
  | succ n ih =>
    intro hn
    obtain ⟨i1, i2⟩ := ih (by omega)
    have h2 : cntN (fun b => P.testBit b) (n + 1) = if P.testBit n then cntN (fun b => P.testBit b) n + 1 else cntN (fun b => P.testBit b) n := rfl
    have hb := (bAt_ok w (f := f) (i := n) (by omega)).1
    have hp := (w.2.2.1.2.1 _ hb).1
    have hr : rpP A f P n = (P.testBit n && (pplP A f P n).testBit (aPe A (bAt A f n))) := rfl
    have hall : (∀ m, m < n + 1 → rpP A f P m = false) ↔ (∀ m, m < n → rpP A f P m = false) ∧ rpP A f P n = false := by
      constructor
      · intro h; exact ⟨fun m hm => h m (by omega), h n (by omega)⟩
      · rintro ⟨g1, g2⟩ m hm
        by_cases e : m = n
        · rw [e]; exact g2
        · exact g1 m (by omega)
    rw [pplP_s, h2, hall, ← i2, hr]
    clear hr hall i2 ih h2
    by_cases hs : P.testBit n = true
    · rw [if_pos hs, if_pos hs, popN_bit 32 _ _ (by omega), hs]
      by_cases hq : (pplP A f P n).testBit (aPe A (bAt A f n)) = true
      · rw [if_pos hq, hq]
        refine ⟨by omega, ?_⟩
        constructor
        · intro h; omega
        · rintro ⟨-, h⟩; cases h
      · rw [if_neg hq]
        have hq' : (pplP A f P n).testBit (aPe A (bAt A f n)) = false := by simpa using hq
        rw [hq']
        refine ⟨by omega, ?_⟩
        constructor
        · intro h; exact ⟨by omega, rfl⟩
        · rintro ⟨h, -⟩; omega
    · rw [if_neg hs, if_neg hs]
      have hs' : P.testBit n = false := by simpa using hs
      rw [hs']
      exact ⟨i1, fun h => ⟨h, rfl⟩, fun h => h.1⟩
