/-! false LISTS -/
def nP (A : AS) (p : Nat) : Nat := cntN (fun b => aPe A b == p) (aNb A)
def bP (A : AS) (p i : Nat) : Nat := (fst1 (fun b => aPe A b == p && pIdx A b == i) (aNb A)).getD 0
theorem bP_ok {A : AS} {p i : Nat} (hi : i < nP A p) : bP A p i < aNb A ∧ aPe A (bP A p i) = p ∧ pIdx A (bP A p i) = i := by
  obtain ⟨b, b1, b2, b3⟩ := cnt_ex hi
  have b2' : aPe A b = p := by simpa using b2
  unfold bP
  cases hf : fst1 (fun b => aPe A b == p && pIdx A b == i) (aNb A) with
  | none =>
    have := fst1_none hf b b1
    have hx : pIdx A b = i := by unfold pIdx; rw [b2']; exact b3
    simp [b2', hx] at this
  | some c =>
    obtain ⟨c1, c2, -⟩ := fst1_some hf
    simp only [Bool.and_eq_true, beq_iff_eq] at c2
    exact ⟨c1, c2.1, c2.2⟩
theorem pIdx_n {A : AS} {b : Nat} (hb : b < aNb A) : pIdx A b < nP A (aPe A b) := cntN_lt (p := fun c => aPe A c == aPe A b) hb (by simp)
theorem bP_mono {A : AS} {p i j : Nat} (hj : j < nP A p) (h : i < j) : bP A p i < bP A p j := by
  obtain ⟨b1, b2, b3⟩ := bP_ok (A := A) (p := p) (i := i) (by omega)
  obtain ⟨c1, c2, c3⟩ := bP_ok hj
  cases Nat.lt_or_ge (bP A p i) (bP A p j) with
  | inl q => exact q
  | inr q =>
    have := cntN_mono (fun c => aPe A c == p) q
    unfold pIdx at b3 c3
    rw [b2] at b3
    rw [c2] at c3
    omega
theorem bP_idx {A : AS} {b : Nat} (hb : b < aNb A) : bP A (aPe A b) (pIdx A b) = b := by
  have hi := pIdx_n hb
  obtain ⟨c1, c2, c3⟩ := bP_ok hi
  generalize bP A (aPe A b) (pIdx A b) = d at *
  unfold pIdx at c3
  rw [c2] at c3
  rcases Nat.lt_trichotomy d b with q | q | q
  · have := cntN_lt (p := fun z => aPe A z == aPe A b) q (by simp [c2])
    omega
  · exact q
  · have := cntN_lt (p := fun z => aPe A z == aPe A b) q (by simp)
    omega
theorem bP_inj {A : AS} {p i j : Nat} (hi : i < nP A p) (hj : j < nP A p) (e : bP A p i = bP A p j) : i = j := by
  rw [← (bP_ok hi).2.2, ← (bP_ok hj).2.2, e]
theorem lieC_iff {A : AS} {p : Nat} {pre : List Nat} {b : Nat} : lieC A p pre b = true ↔ aPe A b = p ∧ b ∉ pre := by
  unfold lieC
  have : ∀ n s, n ≤ pre.length → (nfo (fun i s => s && pre.getD i 0 != b) n s = true ↔ s = true ∧ ∀ i, i < n → pre.getD i 0 ≠ b) := by
    intro n
    induction n with
    | zero => intro s _; exact ⟨fun h => ⟨h, fun i hi => by omega⟩, fun h => h.1⟩
    | succ n ih =>
      intro s hn
      simp only [nfo]
      rw [Bool.and_eq_true, ih s (by omega), bne_iff_ne]
      constructor
      · rintro ⟨⟨h1, h2⟩, h3⟩
        refine ⟨h1, fun i hi => ?_⟩
        by_cases e : i = n
        · rw [e]; exact h3
        · exact h2 i (by omega)
      · rintro ⟨h1, h2⟩
        exact ⟨⟨h1, fun i hi => h2 i (by omega)⟩, h2 n (by omega)⟩
  rw [this _ _ (Nat.le_refl _), beq_iff_eq]
  constructor
  · rintro ⟨h1, h2⟩
    refine ⟨h1, fun hm => ?_⟩
    obtain ⟨i, hi, e⟩ := List.mem_iff_getElem.mp hm
    exact h2 i hi (by rw [List.getD_eq_getElem?_getD, List.getElem?_eq_getElem hi]; exact e)
  · rintro ⟨h1, h2⟩
    exact ⟨h1, fun i hi e => h2 (by rw [← e]; exact getD_mem' hi)⟩
def usd (A : AS) (p : Nat) (pre : List Nat) (U : Nat) : Prop := U < 2 ^ 5 ∧ ∀ i, i < nP A p → (U.testBit i = true ↔ bP A p i ∈ pre)
theorem usd_app {A : AS} {p i U : Nat} {pre : List Nat} (h5 : nP A p ≤ 5) (hi : i < nP A p) (u : usd A p pre U) : usd A p (pre ++ [bP A p i]) (U ||| 2 ^ i) := by
  refine ⟨Nat.or_lt_two_pow u.1 (Nat.pow_lt_pow_right (by decide) (by omega)), fun j hj => ?_⟩
  rw [Nat.testBit_or, Nat.testBit_two_pow, Bool.or_eq_true, decide_eq_true_iff, u.2 j hj, List.mem_append, List.mem_singleton]
  constructor
  · rintro (h | h)
    · exact Or.inl h
    · rw [h]; exact Or.inr rfl
  · rintro (h | h)
    · exact Or.inl h
    · exact Or.inr (bP_inj hi hj h.symm)
theorem lie_s {A : AS} {p n : Nat} {hon : Int32} {pre : List Nat} {U : Nat} (u : usd A p pre U) : lieF A p hon (n + 1) pre = match fst1 (fun i => !U.testBit i && (lieF A p hon n (pre ++ [bP A p i])).isSome) (nP A p) with
    | some i => lieF A p hon n (pre ++ [bP A p i])
    | none => none := by
  have hm := fst_map (p := fun i => !U.testBit i && (lieF A p hon n (pre ++ [bP A p i])).isSome) (q := fun b => (if lieC A p pre b then lieF A p hon n (pre ++ [b]) else none).isSome) (g := bP A p) (N := nP A p) (M := aNb A) (fun i j h1 h2 => bP_mono h2 h1) (fun i hi => (bP_ok hi).1) (fun i hi => ?_) (fun z hz hq => ?_)
  · show fsO (fun b => if lieC A p pre b then lieF A p hon n (pre ++ [b]) else none) (aNb A) = _
    unfold fsO
    rw [hm]
    cases hf : fst1 (fun i => !U.testBit i && (lieF A p hon n (pre ++ [bP A p i])).isSome) (nP A p) with
    | none => rfl
    | some i =>
      obtain ⟨h1, h2, -⟩ := fst1_some hf
      simp only [Bool.and_eq_true, Bool.not_eq_true'] at h2
      have hc : lieC A p pre (bP A p i) = true := lieC_iff.mpr ⟨(bP_ok h1).2.1, fun q => by rw [(u.2 i h1).mpr q] at h2; exact absurd h2.1 (by decide)⟩
      simp only [Option.map_some]
      rw [if_pos hc]
  · have hc : lieC A p pre (bP A p i) = !U.testBit i := by
      rw [Bool.eq_iff_iff, lieC_iff, Bool.not_eq_true', ← Bool.not_eq_true, u.2 i hi]
      exact ⟨fun h => h.2, fun h => ⟨(bP_ok hi).2.1, h⟩⟩
    rw [hc]
    cases U.testBit i <;> simp
  · by_cases hc : lieC A p pre z = true
    · have hpe := (lieC_iff.mp hc).1
      have := pIdx_n hz
      rw [hpe] at this
      refine ⟨pIdx A z, this, ?_⟩
      rw [← hpe]; exact bP_idx hz
    · rw [if_neg hc] at hq; cases hq
theorem lie_len {A : AS} {p : Nat} {hon : Int32} : ∀ n pre l, lieF A p hon n pre = some l → ∃ m, l = pre ++ m ∧ m.length = n ∧ (pre.Nodup → l.Nodup) ∧ ((∀ b ∈ pre, b < aNb A ∧ aPe A b = p) → ∀ b ∈ l, b < aNb A ∧ aPe A b = p) := by
  intro n
  induction n with
  | zero =>
    intro pre l h
    simp only [lieF] at h
    split at h
    · cases h
      exact ⟨[], by simp, rfl, fun q => q, fun q => q⟩
    · cases h
  | succ n ih =>
    intro pre l h
    have h' : fsO (fun b => if lieC A p pre b then lieF A p hon n (pre ++ [b]) else none) (aNb A) = some l := h
    unfold fsO at h'
    cases hf : fst1 (fun b => (if lieC A p pre b then lieF A p hon n (pre ++ [b]) else none).isSome) (aNb A) with
    | none => rw [hf] at h'; cases h'
    | some b =>
      rw [hf] at h'
      simp only at h'
      have hb := fst1_lt hf
      split at h'
      · rename_i hc
        obtain ⟨c1, c2⟩ := lieC_iff.mp hc
        obtain ⟨m, m1, m2, m3, m4⟩ := ih _ _ h'
        refine ⟨b :: m, by rw [m1]; simp, by simp [m2], fun hd => m3 ?_, fun hm => m4 fun z hz => ?_⟩
        · rw [List.nodup_append]
          refine ⟨hd, by simp, fun y hy z hz e => ?_⟩
          simp only [List.mem_singleton] at hz
          subst hz; subst e; exact c2 hy
        · rcases List.mem_append.mp hz with q | q
          · exact hm z q
          · simp only [List.mem_singleton] at q
            subst q; exact ⟨hb, c1⟩
      · cases h'
theorem lie_no {A : AS} (w : WF A) {p n : Nat} {hon : Int32} (hn : nP A p < n) : lieF A p hon n [] = none := by
  cases h : lieF A p hon n [] with
  | none => rfl
  | some l =>
    obtain ⟨m, m1, m2, m3, m4⟩ := lie_len n [] l h
    have h1 := nd_cnt (p := fun b => aPe A b == p) (n := aNb A) (m3 List.nodup_nil) (fun b hb => by
      have := m4 (fun b hb => by simp at hb) b hb
      exact ⟨this.1, by simpa using this.2⟩)
    rw [m1] at h1
    simp only [List.nil_append] at h1
    have : nP A p = cntN (fun b => aPe A b == p) (aNb A) := rfl
    omega
