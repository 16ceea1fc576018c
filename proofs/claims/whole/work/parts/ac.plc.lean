/-! the ORDER: a BOND's place is the count of those ahead of it -/
theorem sAhL_irr (A : AS) (a : Nat) : ∀ l, sAhL A a a l = false := by
  intro l
  induction l with
  | nil => simp [sAhL]
  | cons k r ih => simp [sAhL, ih]
theorem sAhL_tot (A : AS) {a b : Nat} (h : a ≠ b) : ∀ l, sAhL A a b l = !sAhL A b a l := by
  intro l
  induction l with
  | nil =>
    simp only [sAhL]
    by_cases q : a < b
    · have : ¬ b < a := by omega
      simp [q, this]
    · have : b < a := by omega
      simp [q, this]
  | cons k r ih =>
    simp only [sAhL]
    by_cases e : sVal A a k.1 = sVal A b k.1
    · rw [if_pos e, if_pos e.symm]; exact ih
    · rw [if_neg e, if_neg (fun z => e z.symm)]
      by_cases q : sVal A b k.1 < sVal A a k.1
      · have : ¬ sVal A a k.1 < sVal A b k.1 := by omega
        simp only [q, this, decide_true, decide_false]
        cases k.2 <;> rfl
      · have : sVal A a k.1 < sVal A b k.1 := by omega
        simp only [q, this, decide_true, decide_false]
        cases k.2 <;> rfl
theorem sAhL_tr (A : AS) {a b c : Nat} : ∀ l, sAhL A a b l = true → sAhL A b c l = true → sAhL A a c l = true := by
  intro l
  induction l with
  | nil =>
    simp only [sAhL, decide_eq_true_eq]
    omega
  | cons k r ih =>
    simp only [sAhL]
    generalize sVal A a k.1 = x
    generalize sVal A b k.1 = y
    generalize sVal A c k.1 = z
    intro h1 h2
    by_cases e1 : x = y
    · subst e1
      by_cases e2 : x = z
      · subst e2
        rw [if_pos rfl] at *
        exact ih h1 h2
      · rw [if_neg e2] at *
        exact h2
    · rw [if_neg e1] at h1
      by_cases e2 : y = z
      · subst e2
        rw [if_neg e1]
        exact h1
      · rw [if_neg e2] at h2
        generalize k.2 = u at *
        cases u with
        | true =>
          simp only [beq_iff_eq, decide_eq_true_eq] at h1 h2
          rw [if_neg (by omega)]
          simp only [beq_iff_eq, decide_eq_true_eq]
          omega
        | false =>
          simp only [beq_iff_eq, decide_eq_false_iff_not] at h1 h2
          rw [if_neg (by omega)]
          simp only [beq_iff_eq, decide_eq_false_iff_not]
          omega
theorem insL_srt {r : Nat → Nat → Bool} (ht : ∀ a b c, r a b = true → r b c = true → r a c = true) {b : Nat} {l : List Nat} (hto : ∀ x ∈ l, r b x = false → r x b = true) (hl : l.Pairwise (fun x y => r x y = true)) : (insL (fun k => r b (l.getD k 0)) b l).Pairwise (fun x y => r x y = true) := by
  unfold insL
  have hle := insP_le (fun k => r b (l.getD k 0)) l.length
  have hhi := insP_hi (fun k => r b (l.getD k 0)) l.length
  have hlo := insP_lo (fun k => r b (l.getD k 0)) l.length
  generalize insP (fun k => r b (l.getD k 0)) l.length = k at *
  have hg : ∀ i (h : i < l.length), l.getD i 0 = l[i] := fun i h => by rw [List.getD_eq_getElem?_getD, List.getElem?_eq_getElem h]; rfl
  have below : ∀ x ∈ l.take k, r x b = true := by
    intro x hx
    obtain ⟨i, hi, ei⟩ := List.mem_iff_getElem.mp hx
    rw [List.length_take] at hi
    rw [List.getElem_take] at ei
    have hk0 : 0 < k := by omega
    have h1 := hlo hk0
    rw [hg (k - 1) (by omega)] at h1
    have h2 := hto _ (List.getElem_mem (by omega : k - 1 < l.length)) h1
    by_cases e : i = k - 1
    · subst e; rw [← ei]; exact h2
    · have := List.pairwise_iff_getElem.mp hl i (k - 1) (by omega) (by omega) (by omega)
      rw [ei] at this
      exact ht _ _ _ this h2
  have above : ∀ x ∈ l.drop k, r b x = true := by
    intro x hx
    obtain ⟨i, hi, ei⟩ := List.mem_iff_getElem.mp hx
    rw [List.length_drop] at hi
    rw [List.getElem_drop] at ei
    have := hhi (k + i) (by omega) (by omega)
    rw [hg _ (by omega), ei] at this
    exact this
  rw [List.pairwise_append]
  refine ⟨hl.sublist (List.take_sublist k l), ?_, fun x hx y hy => ?_⟩
  · rw [List.pairwise_cons]
    exact ⟨above, hl.sublist (List.drop_sublist k l)⟩
  · rcases List.mem_cons.mp hy with e | e
    · subst e; exact below x hx
    · exact ht _ _ _ (below x hx) (above y e)
theorem sOrd_srt (A : AS) (f : Nat) : (sOrd A f).Pairwise (fun x y => sAhd A f x y = true) := by
  unfold sOrd
  have : ∀ n, (sOrdN A f n).Pairwise (fun x y => sAhd A f x y = true) := by
    intro n
    induction n with
    | zero => exact List.Pairwise.nil
    | succ n ih =>
      have h1 : sOrdN A f (n + 1) = if aOf A n == f then insL (fun k => sAhd A f n ((sOrdN A f n).getD k 0)) n (sOrdN A f n) else sOrdN A f n := rfl
      rw [h1]
      split
      · refine insL_srt (r := sAhd A f) (fun a b c => sAhL_tr A _) (fun x hx h => ?_) ih
        have hn := (sOrdN_mem hx).1
        have := sAhL_tot A (a := x) (b := n) (by omega) (aKs A f)
        unfold sAhd at h ⊢
        rw [this, h]; rfl
      · exact ih
  exact this _
theorem srt_lt {r : Nat → Nat → Bool} {l : List Nat} (hl : l.Pairwise (fun x y => r x y = true)) (hi : ∀ x, r x x = false) (ht : ∀ a b c, r a b = true → r b c = true → r a c = true) {i j : Nat} (h1 : i < l.length) (h2 : j < l.length) : r (l.getD i 0) (l.getD j 0) = decide (i < j) := by
  have hg : ∀ i (h : i < l.length), l.getD i 0 = l[i] := fun i h => by rw [List.getD_eq_getElem?_getD, List.getElem?_eq_getElem h]; rfl
  rw [hg i h1, hg j h2]
  rcases Nat.lt_trichotomy i j with q | q | q
  · have := List.pairwise_iff_getElem.mp hl i j h1 h2 q
    simp [this, q]
  · subst q; simp [hi]
  · have := List.pairwise_iff_getElem.mp hl j i h2 h1 q
    have hn : ¬ i < j := by omega
    rw [decide_eq_false hn]
    cases h : r l[i] l[j] with
    | false => rfl
    | true => have := ht _ _ _ h this; rw [hi] at this; cases this
theorem cntN_or {p q r : Nat → Bool} : ∀ n, (∀ i, i < n → r i = (p i || q i) ∧ ¬ (p i = true ∧ q i = true)) → cntN r n = cntN p n + cntN q n := by
  intro n
  induction n with
  | zero => intro _; rfl
  | succ n ih =>
    intro h
    have ih := ih fun i hi => h i (by omega)
    obtain ⟨h1, h2⟩ := h n (by omega)
    have e : ∀ p : Nat → Bool, cntN p (n + 1) = if p n then cntN p n + 1 else cntN p n := fun _ => rfl
    rw [e, e, e, h1, ih]
    cases hp : p n <;> cases hq : q n
    · simp
    · simp; omega
    · simp; omega
    · exact absurd ⟨hp, hq⟩ h2
theorem cntN_no {p : Nat → Bool} : ∀ n, (∀ i, i < n → p i = false) → cntN p n = 0 := by
  intro n
  induction n with
  | zero => intro _; rfl
  | succ n ih =>
    intro h
    have e : cntN p (n + 1) = if p n then cntN p n + 1 else cntN p n := rfl
    rw [e, h n (by omega), ih fun i hi => h i (by omega)]; rfl
theorem cntN_one {p : Nat → Bool} : ∀ n j, j < n → p j = true → (∀ i, i < n → p i = true → i = j) → cntN p n = 1 := by
  intro n
  induction n with
  | zero => intro j h; omega
  | succ n ih =>
    intro j hj hp hu
    have e : cntN p (n + 1) = if p n then cntN p n + 1 else cntN p n := rfl
    rw [e]
    by_cases q : p n = true
    · have := hu n (by omega) q
      subst this
      rw [if_pos q, cntN_no n fun i hi => by
        cases h : p i with
        | false => rfl
        | true => have := hu i (by omega) h; omega]
    · rw [if_neg q]
      refine ih j ?_ hp fun i hi => hu i (by omega)
      by_cases e : j = n
      · subst e; exact absurd hp q
      · omega
theorem cnt_bij {g : Nat → Nat} {n : Nat} (hi : ∀ i j, i < n → j < n → g i = g j → i = j) (hs : ∀ m, m < n → ∃ i, i < n ∧ g i = m) : ∀ m, m ≤ n → cntN (fun j => decide (g j < m)) n = m := by
  intro m
  induction m with
  | zero => intro _; exact cntN_no n fun i _ => by simp
  | succ m ih =>
    intro hm
    obtain ⟨i, i1, i2⟩ := hs m (by omega)
    rw [cntN_or (p := fun j => decide (g j < m)) (q := fun j => decide (g j = m)) n, ih (by omega), cntN_one n i i1 (by simpa using i2) fun k hk h => hi k i hk i1 (by simp at h; omega)]
    intro k _
    constructor
    · rw [Bool.eq_iff_iff, Bool.or_eq_true, decide_eq_true_iff, decide_eq_true_iff, decide_eq_true_iff]; omega
    · simp only [decide_eq_true_eq]; omega
/-- the place in the ORDER of the BOND at place i of an OFFICE -/
def plc (A : AS) (f i : Nat) : Nat := idxL (sOrd A f) (bAt A f i)
theorem plc_ok {A : AS} (w : WF A) {f i : Nat} (hi : i < nOf A f) : plc A f i < nOf A f ∧ (sOrd A f).getD (plc A f i) 0 = bAt A f i := by
  obtain ⟨b1, b2, -⟩ := bAt_ok w hi
  obtain ⟨h1, h2, -⟩ := idxL_ok ((sOrd_mem w).mpr ⟨b1, b2⟩)
  rw [sOrd_len] at h1
  exact ⟨h1, h2⟩
theorem plc_inj {A : AS} (w : WF A) {f i j : Nat} (hi : i < nOf A f) (hj : j < nOf A f) (e : plc A f i = plc A f j) : i = j := by
  have h1 := (plc_ok w hi).2
  have h2 := (plc_ok w hj).2
  rw [e, h2] at h1
  have b1 := (bAt_ok w hi).2.2
  have b2 := (bAt_ok w hj).2.2
  rw [← b1, ← b2, h1]
theorem plc_surj {A : AS} (w : WF A) {f m : Nat} (hm : m < nOf A f) : ∃ i, i < nOf A f ∧ plc A f i = m := by
  have hl := sOrd_len A f
  have hmem : (sOrd A f).getD m 0 ∈ sOrd A f := getD_mem' (by omega)
  obtain ⟨b1, b2⟩ := (sOrd_mem w).mp hmem
  have hi := (sIdx_lt w b1).1
  have hb := bAt_idx w b1
  rw [b2] at hi hb
  refine ⟨sIdx A ((sOrd A f).getD m 0), hi, ?_⟩
  have h2 := plc_ok w (f := f) hi
  rw [hb] at h2
  exact nd_idx (sOrd_nd A f) (by omega) (by omega) h2.2
theorem plc_ahd {A : AS} (w : WF A) {f i j : Nat} (hi : i < nOf A f) (hj : j < nOf A f) : sAhd A f (bAt A f i) (bAt A f j) = decide (plc A f i < plc A f j) := by
  obtain ⟨h1, h2⟩ := plc_ok w hi
  obtain ⟨h3, h4⟩ := plc_ok w hj
  have hl := sOrd_len A f
  rw [← h2, ← h4]
  exact srt_lt (r := sAhd A f) (sOrd_srt A f) (fun x => sAhL_irr A x _) (fun a b c => sAhL_tr A _) (by omega) (by omega)
theorem plc_cnt {A : AS} (w : WF A) {f i : Nat} (hi : i < nOf A f) : cntN (fun j => i != j && sAhd A f (bAt A f j) (bAt A f i)) (nOf A f) = plc A f i := by
  have h := cnt_bij (g := plc A f) (n := nOf A f) (fun i j hi hj e => plc_inj w hi hj e) (fun m hm => plc_surj w hm) (plc A f i) (Nat.le_of_lt (plc_ok w hi).1)
  refine (cntN_congr fun j hj => ?_).trans h
  rw [plc_ahd w hj hi]
  by_cases e : i = j
  · subst e; simp
  · simp [e]
