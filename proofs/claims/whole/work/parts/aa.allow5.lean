/-! ALLOWED: the class's answer is the reference's, with another MOST -/
def sAlM (A : AS) (f m S : Nat) : Bool := S == 0 || (match aCh A f with
  | none => false
  | some C => sBr A (m, C.2) S == 0 && !sTog C (sPpl A S))
theorem sAlM_most {A : AS} {f : Nat} {C : CH} (h : aCh A f = some C) (S : Nat) : sAlM A f (cMost C) S = sAlw A f S := by
  unfold sAlM sAlw
  rw [h]
  rfl
theorem fst1_all {p : Nat → Bool} {n : Nat} : (fst1 p n).isNone = true ↔ ∀ m, m < n → p m = false := by
  constructor
  · intro h
    exact fst1_none (Option.isNone_iff_eq_none.mp h)
  · exact fst1_isN
theorem rp_ok {A : AS} (w : WF A) {f P : Nat} (hP : P < 2 ^ nOf A f) : (fst1 (rpP A f P) (nOf A f)).isNone = decide (popN 32 (pplP A f P (nOf A f)) = popN 32 P) := by
  have h8 := nOf_le w f
  have h1 := (rp_cnt w (f := f) P (nOf A f) (Nat.le_refl _)).2
  rw [← popN_cnt hP (by omega)] at h1
  rw [Bool.eq_iff_iff, fst1_all, decide_eq_true_iff]
  exact h1.symm
