/-! the class's frames, and the ORDER of a Desk -/
theorem CB_eq {A : AS} {h h' : jHp} (c : CB A h) (e : ∀ a j, a ≤ 29 → hI h' a j = hI h a j) : CB A h' := by
  have f : ∀ a, a ≤ 29 → hI h' a = hI h a := fun a ha => funext fun j => e a j ha
  unfold CB
  simp only [f 2 (by decide), f 3 (by decide), f 4 (by decide), f 5 (by decide), f 6 (by decide), f 7 (by decide), f 8 (by decide), f 9 (by decide), f 10 (by decide), f 11 (by decide), f 12 (by decide), f 13 (by decide), f 14 (by decide)]
  exact c
theorem CP_eq {A : AS} {h h' : jHp} (c : CP A h) (e : ∀ a j, a ≤ 29 → hI h' a j = hI h a j) : CP A h' := by
  have f : ∀ a, a ≤ 29 → hI h' a = hI h a := fun a ha => funext fun j => e a j ha
  unfold CP
  simp only [f 15 (by decide), f 16 (by decide), f 17 (by decide), f 18 (by decide), f 19 (by decide), f 20 (by decide), f 21 (by decide), f 22 (by decide), f 23 (by decide)]
  exact c
theorem CC_eq {A : AS} {h h' : jHp} (c : CC A h) (e : ∀ a j, a ≤ 29 → hI h' a j = hI h a j) : CC A h' := by
  have f : ∀ a, a ≤ 29 → hI h' a = hI h a := fun a ha => funext fun j => e a j ha
  unfold CC
  simp only [f 24 (by decide), f 25 (by decide), f 26 (by decide), f 27 (by decide), f 28 (by decide), f 29 (by decide)]
  exact c
theorem CHc_eq {C : CH} {t : Bool} {a : Nat} {h h' : jHp} (c : CHc C t a h) (e : ∀ i j, i ≤ 5 → hI h' (a + i) j = hI h (a + i) j) : CHc C t a h' := by
  have f : ∀ i, i ≤ 5 → hI h' (a + i) = hI h (a + i) := fun i hi => funext fun j => e i j hi
  have f0 := f 0 (by decide)
  rw [Nat.add_zero] at f0
  unfold CHc
  simp only [f0, f 1 (by decide), f 2 (by decide), f 3 (by decide), f 4 (by decide), f 5 (by decide)]
  exact c
/-- the cells that hold the state, in the class: BONDS, PEOPLE, COUPLES, the CHOICES, the Desks' numbers -/
def cC (a j : Nat) : Prop := a ≤ 29 ∨ (∃ c, isCA c ∧ c ≤ a ∧ a ≤ c + 5) ∨ ((a = 31 ∨ a = 41 ∨ a = 51 ∨ a = 61) ∧ j = 0)
theorem CX_fr {A : AS} {W : Nat → Nat → Prop} {h h' : jHp} (x : CX A h) (f : Fr W h h') (hW : ∀ a j, W a j → ¬ cC a j) : CX A h' := by
  have e : ∀ a j, a ≤ 29 → hI h' a j = hI h a j := fun a j ha => Fr_I f fun q => hW a j q (Or.inl ha)
  exact ⟨Fr_shape x.1 f, x.2.1, CB_eq x.2.2.1 e, CP_eq x.2.2.2 e⟩
theorem dA_cC {k : Nat} (hk : k < 4) : cC (dA k) 0 := by
  unfold cC dA
  omega
theorem CD0_fr {A : AS} {W : Nat → Nat → Prop} {h h' : jHp} {k a : Nat} (hk : k < 4) (d : CD0 A k a h) (f : Fr W h h') (hW : ∀ a j, W a j → ¬ cC a j) : CD0 A k a h' := by
  obtain ⟨d0, d1, d2, d3⟩ := d
  refine ⟨by rw [Fr_I f fun q => hW _ _ q (dA_cC hk)]; exact d0, by rw [f.1.2.1]; exact d1, d2, CHc_eq d3 fun i j hi => Fr_I f fun q => hW _ _ q (Or.inr (Or.inl ⟨a, d2, by omega, by omega⟩))⟩
/-- a Desk's own cells: its ORDER and its tables -/
def Wda (k a j : Nat) : Prop := (a = dA k ∧ j = 7) ∨ a = dA k + 8 ∨ a = dA k + 9
def Wdk (k a j : Nat) : Prop := (a = dA k ∧ (j = 7 ∨ j = 8)) ∨ a = dA k + 7 ∨ a = dA k + 8 ∨ a = dA k + 9
theorem Wda_Wdk {k a j : Nat} (h : Wda k a j) : Wdk k a j := by unfold Wda at h; unfold Wdk; omega
theorem Wdk_cC {k a j : Nat} (hk : k < 4) (h : Wdk k a j) : ¬ cC a j := by
  unfold Wdk dA at h
  unfold cC isCA
  rintro (q | ⟨c, q1, q2, q3⟩ | q) <;> omega
/-- the weight of a part -/
def wgt (A : AS) (f P : Nat) : Nat := nfo (fun i m => if P.testBit i then m ||| 2 ^ (8 - plc A f i) else m) (nOf A f) 0
theorem wgt_bit (A : AS) (f P j : Nat) : (wgt A f P).testBit j = true ↔ ∃ i, i < nOf A f ∧ P.testBit i = true ∧ 8 - plc A f i = j := or_bits (fun i => P.testBit i) (fun i => 8 - plc A f i) (nOf A f) j
theorem wgt_gat {A : AS} (w : WF A) {f P : Nat} (hP : P < 2 ^ nOf A f) : wgt A f P = 2 ^ (9 - nOf A f) * sGat (sOrd A f) (pSet A f P) := by
  have h8 := nOf_le w f
  have hP8 : P < 256 := Nat.lt_of_lt_of_le hP (Nat.pow_le_pow_right (by decide) h8)
  have hl := sOrd_len A f
  have hps : ∀ i, i < nOf A f → (pSet A f P).testBit (bAt A f i) = P.testBit i := fun i hi => by
    obtain ⟨b1, b2, b3⟩ := bAt_ok w hi
    rw [pSet_bit w hP8, b2, b3]
    simp [b1]
  apply Nat.eq_of_testBit_eq
  intro j
  rw [Bool.eq_iff_iff, wgt_bit, Nat.testBit_two_pow_mul]
  simp only [Bool.and_eq_true, decide_eq_true_eq]
  have hg := or_bits (fun k => (pSet A f P).testBit ((sOrd A f).getD k 0)) (fun k => (sOrd A f).length - 1 - k) (sOrd A f).length (j - (9 - nOf A f))
  constructor
  · rintro ⟨i, i1, i2, i3⟩
    obtain ⟨p1, p2⟩ := plc_ok w i1
    refine ⟨by omega, hg.mpr ⟨plc A f i, by omega, ?_, by omega⟩⟩
    rw [p2, hps i i1]; exact i2
  · rintro ⟨h1, h2⟩
    obtain ⟨m, m1, m2, m3⟩ := hg.mp h2
    obtain ⟨i, i1, i2⟩ := plc_surj w (f := f) (m := m) (by omega)
    obtain ⟨p1, p2⟩ := plc_ok w i1
    refine ⟨i, i1, ?_, by omega⟩
    rw [← hps i i1, ← p2, i2]; exact m2
theorem wgt_0 (A : AS) (f : Nat) : wgt A f 0 = 0 := by
  apply Nat.eq_of_testBit_eq
  intro j
  rw [Bool.eq_iff_iff, wgt_bit]
  simp
theorem low_bits : ∀ P, P < 256 → P ≠ 0 → P &&& (P - 1) < P ∧ lowN P < 8 ∧ ∀ i, i < 8 → (P &&& (P - 1)).testBit i = (P.testBit i && i != lowN P) := by decide +kernel
theorem wgt_low {A : AS} (w : WF A) {f P : Nat} (hP : P < 2 ^ nOf A f) (h0 : P ≠ 0) : lowN P < nOf A f ∧ wgt A f P = wgt A f (P &&& (P - 1)) ||| 2 ^ (8 - plc A f (lowN P)) := by
  have h8 := nOf_le w f
  have hP8 : P < 256 := Nat.lt_of_lt_of_le hP (Nat.pow_le_pow_right (by decide) h8)
  obtain ⟨l1, l2, l3⟩ := low_bits P hP8 h0
  have lo := (lowN_ok (x := P) (by omega) h0).2.1
  have hlo : lowN P < nOf A f := by
    cases Nat.lt_or_ge (lowN P) (nOf A f) with
    | inl h => exact h
    | inr h => rw [tb_false hP h] at lo; cases lo
  refine ⟨hlo, ?_⟩
  apply Nat.eq_of_testBit_eq
  intro j
  rw [Nat.testBit_or, Nat.testBit_two_pow, Bool.eq_iff_iff, Bool.or_eq_true, wgt_bit, wgt_bit, decide_eq_true_iff]
  constructor
  · rintro ⟨i, i1, i2, i3⟩
    by_cases e : i = lowN P
    · right; rw [← e]; exact i3
    · left
      refine ⟨i, i1, ?_, i3⟩
      rw [l3 i (by omega), i2]
      simp [e]
  · rintro (⟨i, i1, i2, i3⟩ | h)
    · rw [l3 i (by omega)] at i2
      simp only [Bool.and_eq_true] at i2
      exact ⟨i, i1, i2.1, i3⟩
    · exact ⟨lowN P, hlo, lo, h⟩
theorem wgt_lt {A : AS} (w : WF A) {f P : Nat} (hP : P < 2 ^ nOf A f) : wgt A f P < 512 := by
  refine Nat.lt_pow_two_of_testBit (n := 9) _ fun i hi => ?_
  cases h : (wgt A f P).testBit i with
  | false => rfl
  | true =>
    obtain ⟨j, -, -, j3⟩ := (wgt_bit A f P i).mp h
    omega
