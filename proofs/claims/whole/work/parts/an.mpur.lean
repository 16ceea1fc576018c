/-! MATCHINGS in the class: what its sets say -/
theorem setP_b (A : AS) (p : Nat) : ∀ n b, (nfo (fun b m => if aPe A b == p then m ||| 2 ^ b else m) n 0).testBit b = (decide (b < n) && decide (aPe A b = p)) := by
  intro n b
  rw [Bool.eq_iff_iff]
  refine (or_bits (fun b => aPe A b == p) (fun b => b) n b).trans ?_
  simp only [beq_iff_eq, Bool.and_eq_true, decide_eq_true_eq]
  constructor
  · rintro ⟨k, h1, h2, rfl⟩; exact ⟨h1, h2⟩
  · rintro ⟨h1, h2⟩; exact ⟨b, h1, h2, rfl⟩
theorem setP_bit (A : AS) (p b : Nat) : (setP A p).testBit b = (decide (b < aNb A) && decide (aPe A b = p)) := setP_b A p _ _
theorem setP_lt (A : AS) (p : Nat) : setP A p < 2 ^ aNb A := lt_of_bits fun i hi => by
  rw [setP_bit] at hi
  simp only [Bool.and_eq_true, decide_eq_true_eq] at hi
  exact hi.1
theorem oM_bit (o : Option Nat) (j : Nat) : (oM o).testBit j = true ↔ o = some j := by
  cases o with
  | none => simp [oM]
  | some b =>
    simp only [oM, Nat.testBit_two_pow, decide_eq_true_eq, Option.some.injEq]
theorem sBnd_iff {A : AS} {S p b : Nat} (hm : sMat A S) : sBnd A S p = some b ↔ b < aNb A ∧ S.testBit b = true ∧ aPe A b = p := by
  constructor
  · intro h
    obtain ⟨h1, h2, -⟩ := fst1_some h
    simp only [Bool.and_eq_true, beq_iff_eq] at h2
    exact ⟨h1, h2.1, h2.2⟩
  · rintro ⟨h1, h2, rfl⟩
    exact sBnd_mat hm h1 h2
theorem mine_ok {A : AS} {S : Nat} (hm : sMat A S) (p : Nat) : S &&& setP A p = oM (sBnd A S p) := by
  apply Nat.eq_of_testBit_eq
  intro b
  rw [Bool.eq_iff_iff, oM_bit, sBnd_iff hm, Nat.testBit_and, setP_bit]
  simp only [Bool.and_eq_true, decide_eq_true_eq]
  constructor
  · rintro ⟨h1, h2, h3⟩; exact ⟨h2, h1, h3⟩
  · rintro ⟨h1, h2, h3⟩; exact ⟨h2, h1, h3⟩
theorem lowN_pow : ∀ b, b < 32 → lowN (2 ^ b) = b := by decide +kernel
theorem prM_bit (q : Option Nat × Option Nat) (j : Nat) : (prM q).testBit j = true ↔ q.1 = some j ∨ q.2 = some j := by
  unfold prM
  rw [Nat.testBit_or, Bool.or_eq_true, oM_bit, oM_bit]
theorem prM_inj {A : AS} {p r : Nat} (hpr : p ≠ r) {q q' : Option Nat × Option Nat} (h1 : ∀ b, q.1 = some b → aPe A b = p) (h2 : ∀ b, q.2 = some b → aPe A b = r) (h3 : ∀ b, q'.1 = some b → aPe A b = p) (h4 : ∀ b, q'.2 = some b → aPe A b = r) : prM q = prM q' ↔ q = q' := by
  constructor
  · intro e
    have hb : ∀ j, (q.1 = some j ∨ q.2 = some j) ↔ (q'.1 = some j ∨ q'.2 = some j) := fun j => by rw [← prM_bit, ← prM_bit, e]
    obtain ⟨a, b⟩ := q
    obtain ⟨c, d⟩ := q'
    simp only at *
    have ea : ∀ j, a = some j ↔ c = some j := fun j => by
      constructor
      · intro z
        rcases (hb j).mp (Or.inl z) with y | y
        · exact y
        · exact absurd ((h1 j z).symm.trans (h4 j y)) hpr
      · intro z
        rcases (hb j).mpr (Or.inl z) with y | y
        · exact y
        · exact absurd ((h3 j z).symm.trans (h2 j y)) hpr
    have eb : ∀ j, b = some j ↔ d = some j := fun j => by
      constructor
      · intro z
        rcases (hb j).mp (Or.inr z) with y | y
        · exact absurd ((h3 j y).symm.trans (h2 j z)) hpr
        · exact y
      · intro z
        rcases (hb j).mpr (Or.inr z) with y | y
        · exact absurd ((h1 j y).symm.trans (h4 j z)) hpr
        · exact y
    have eo : ∀ {x y : Option Nat}, (∀ j, x = some j ↔ y = some j) → x = y := fun {x y} h => by
      cases x with
      | none =>
        cases y with
        | none => rfl
        | some j => exact (h j).mpr rfl
      | some j => exact ((h j).mp rfl).symm
    rw [eo ea, eo eb]
  · rintro rfl; rfl
theorem prM_0 (q : Option Nat × Option Nat) : prM q = 0 ↔ q.1 = none ∧ q.2 = none := by
  constructor
  · intro h
    have hb : ∀ j, ¬ (q.1 = some j ∨ q.2 = some j) := fun j => by rw [← prM_bit, h]; simp
    constructor
    · cases e : q.1 with
      | none => rfl
      | some j => exact absurd (Or.inl e) (hb j)
    · cases e : q.2 with
      | none => rfl
      | some j => exact absurd (Or.inr e) (hb j)
  · rintro ⟨h1, h2⟩
    unfold prM
    rw [h1, h2]; rfl
theorem both_ok {A : AS} {S : Nat} (hm : sMat A S) (p r : Nat) : S &&& (setP A p ||| setP A r) = prM (sBnd A S p, sBnd A S r) := by
  unfold prM
  rw [← mine_ok hm, ← mine_ok hm]
  apply Nat.eq_of_testBit_eq
  intro j
  simp only [Nat.testBit_and, Nat.testBit_or]
  cases S.testBit j <;> simp
/-- a COUPLE's rank, by its set -/
def rkS (A : AS) (c X : Nat) : Option Nat := if X = 0 then some (aPl A c).length else fst1 (fun k => prM ((aPl A c).getD k (none, none)) == X) (aPl A c).length
theorem rkS_ok {A : AS} (w : WF A) {S c : Nat} (hm : sMat A S) (hc : c < aNc A) : rkS A c (S &&& (setP A (aC1 A c) ||| setP A (aC2 A c))) = sRkc A S c := by
  rw [both_ok hm]
  unfold rkS sRkc
  have hpl := (w.2.2.2.2.1.2.2.2 c).2.2.2
  have hne := (w.2.2.2.2.1.2.1 c hc).2.2
  by_cases z : sBnd A S (aC1 A c) = none ∧ sBnd A S (aC2 A c) = none
  · rw [if_pos z, if_pos ((prM_0 _).mpr z)]
  · rw [if_neg z, if_neg (fun q => z ((prM_0 _).mp q))]
    refine fst1_congr fun k hk => ?_
    have hq := hpl _ (getD_mem' (d := (none, none)) hk)
    generalize (aPl A c).getD k (none, none) = q at *
    rw [Bool.eq_iff_iff, beq_iff_eq, beq_iff_eq]
    exact prM_inj hne (fun b hb => (hq.2.1 b hb).2) (fun b hb => (hq.2.2 b hb).2) (fun b hb => ((sBnd_iff hm).mp hb).2.2) (fun b hb => ((sBnd_iff hm).mp hb).2.2)
theorem prM_lt {A : AS} (w : WF A) {c : Nat} {q : Option Nat × Option Nat} (h : PRok A c q) : prM q < 2 ^ aNb A := lt_of_bits fun i hi => by
  rcases (prM_bit q i).mp hi with z | z
  · exact (h.2.1 i z).1
  · exact (h.2.2 i z).1
theorem cntN_le1 {p : Nat → Bool} : ∀ n, cntN p n ≤ 1 ↔ ∀ i j, i < n → j < n → p i = true → p j = true → i = j := by
  intro n
  induction n with
  | zero => exact ⟨fun _ i j h => by omega, fun _ => Nat.zero_le 1⟩
  | succ n ih =>
    have e : cntN p (n + 1) = if p n then cntN p n + 1 else cntN p n := rfl
    rw [e]
    by_cases q : p n = true
    · rw [if_pos q]
      constructor
      · intro h i j hi hj pi pj
        have h0 : ∀ m, m < n → p m = false := fun m hm => by
          cases z : p m with
          | false => rfl
          | true => have := cntN_lt hm z; omega
        have e1 : i = n := by
          by_cases z : i = n
          · exact z
          · rw [h0 i (by omega)] at pi; cases pi
        have e2 : j = n := by
          by_cases z : j = n
          · exact z
          · rw [h0 j (by omega)] at pj; cases pj
        omega
      · intro h
        rw [cntN_no n fun i hi => by
          cases z : p i with
          | false => rfl
          | true => have := h i n (by omega) (by omega) z q; omega]
        decide
    · rw [if_neg q, ih]
      constructor
      · intro h i j hi hj pi pj
        have e1 : i ≠ n := fun z => by rw [z] at pi; exact q pi
        have e2 : j ≠ n := fun z => by rw [z] at pj; exact q pj
        exact h i j (by omega) (by omega) pi pj
      · intro h i j hi hj
        exact h i j (by omega) (by omega)
theorem mat_pop {A : AS} (w : WF A) (S : Nat) : (∀ p, p < aNp A → popN 32 (S &&& setP A p) ≤ 1) ↔ sMat A S := by
  have h20 := w.2.2.1.1
  have hc : ∀ p, popN 32 (S &&& setP A p) = cntN (fun b => (S &&& setP A p).testBit b) (aNb A) := fun p => by
    have hlt : S &&& setP A p < 2 ^ aNb A := Nat.lt_of_le_of_lt Nat.and_le_right (setP_lt A p)
    exact popN_cnt hlt (by omega)
  have hbit : ∀ p b, (S &&& setP A p).testBit b = true ↔ S.testBit b = true ∧ b < aNb A ∧ aPe A b = p := fun p b => by
    rw [Nat.testBit_and, setP_bit]
    simp only [Bool.and_eq_true, decide_eq_true_eq]
  constructor
  · intro h b c hb hc' tb tc e
    have := h (aPe A b) (w.2.2.1.2.1 b hb).1
    rw [hc, cntN_le1] at this
    exact this b c hb hc' ((hbit _ _).mpr ⟨tb, hb, rfl⟩) ((hbit _ _).mpr ⟨tc, hc', e.symm⟩)
  · intro h p hp
    rw [hc, cntN_le1]
    intro i j hi hj pi pj
    have a1 := (hbit _ _).mp pi
    have a2 := (hbit _ _).mp pj
    exact h i j hi hj a1.1 a2.1 (a1.2.2.trans a2.2.2.symm)
