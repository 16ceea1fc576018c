/-! the fewest steps -/
def rch (nx : Nat → Nat → Bool) (N s : Nat) : Nat → Nat → Bool
  | 0, i => i == s
  | d + 1, i => rch nx N s d i || (fst1 (fun j => rch nx N s d j && nx j i) N).isSome
def dst (nx : Nat → Nat → Bool) (N s t : Nat) : Option Nat := fst1 (fun d => rch nx N s d t) (N + 1)
theorem rch_mono {nx : Nat → Nat → Bool} {N s i : Nat} : ∀ {d e : Nat}, d ≤ e → rch nx N s d i = true → rch nx N s e i = true := by
  intro d e h hr
  induction e with
  | zero => have : d = 0 := by omega
            subst this; exact hr
  | succ e ih =>
    by_cases q : d = e + 1
    · subst q; exact hr
    · simp only [rch, ih (by omega), Bool.true_or]
theorem rch_step {nx : Nat → Nat → Bool} {N s i j d : Nat} (h : rch nx N s d j = true) (hj : j < N) (hn : nx j i = true) : rch nx N s (d + 1) i = true := by
  simp only [rch, Bool.or_eq_true]
  right
  cases hf : fst1 (fun j => rch nx N s d j && nx j i) N with
  | some _ => rfl
  | none => have := fst1_none hf j hj; simp [h, hn] at this
theorem rch_inv {nx : Nat → Nat → Bool} {N s i d : Nat} (h : rch nx N s (d + 1) i = true) : rch nx N s d i = true ∨ ∃ j, j < N ∧ rch nx N s d j = true ∧ nx j i = true := by
  simp only [rch, Bool.or_eq_true] at h
  rcases h with h | h
  · exact Or.inl h
  · right
    cases hf : fst1 (fun j => rch nx N s d j && nx j i) N with
    | none => rw [hf] at h; cases h
    | some j =>
      obtain ⟨a, b, -⟩ := fst1_some hf
      simp only [Bool.and_eq_true] at b
      exact ⟨j, a, b.1, b.2⟩
def BIn (nx : Nat → Nat → Bool) (N s : Nat) (Q : List Nat) (far : Nat → Nat) (hd : Nat) : Prop :=
  Q.Nodup ∧ (∀ i ∈ Q, i < N) ∧ s ∈ Q ∧ (∀ i ∈ Q, rch nx N s (far i) i = true ∧ ∀ d, d < far i → rch nx N s d i = false) ∧ (∀ a b, a ≤ b → b < Q.length → far (Q.getD a 0) ≤ far (Q.getD b 0)) ∧ (∀ b, b < Q.length → far (Q.getD b 0) ≤ b) ∧ (hd < Q.length → ∀ b, b < Q.length → far (Q.getD b 0) ≤ far (Q.getD hd 0) + 1) ∧ (∀ a, a < hd → ∀ j, j < N → nx (Q.getD a 0) j = true → j ∈ Q) ∧ hd ≤ Q.length
theorem mem_getD {l : List Nat} {x : Nat} (h : x ∈ l) : ∃ a, a < l.length ∧ l.getD a 0 = x := by
  obtain ⟨i, hi, e⟩ := List.mem_iff_getElem.mp h
  exact ⟨i, hi, by rw [List.getD_eq_getElem?_getD, List.getElem?_eq_getElem hi]; exact e⟩
theorem BIn_full {nx : Nat → Nat → Bool} {N s : Nat} {Q : List Nat} {far : Nat → Nat} {hd : Nat} (b : BIn nx N s Q far hd) (hh : hd < Q.length) : ∀ d, d ≤ far (Q.getD hd 0) → ∀ j, j < N → rch nx N s d j = true → j ∈ Q := by
  obtain ⟨b1, b2, b3, b4, b5, b6, b7, b8, b9⟩ := b
  intro d
  induction d with
  | zero =>
    intro _ j hj h
    have : j = s := by simpa [rch] using h
    rw [this]; exact b3
  | succ d ih =>
    intro hd' j hj h
    rcases rch_inv h with h | ⟨i, hi, h1, h2⟩
    · exact ih (by omega) j hj h
    · have hiQ := ih (by omega) i hi h1
      have hf : far i ≤ d := Classical.byContradiction fun q => by
        have := (b4 i hiQ).2 d (by omega)
        rw [h1] at this
        cases this
      obtain ⟨a, ha, hae⟩ := mem_getD hiQ
      have hahd : a < hd := Classical.byContradiction fun q => by
        have := b5 hd a (by omega) ha
        rw [hae] at this
        omega
      exact b8 a hahd j hj (by rw [hae]; exact h2)
theorem BIn_step {nx : Nat → Nat → Bool} {N s : Nat} {Q ns : List Nat} {far : Nat → Nat} {hd : Nat} (b : BIn nx N s Q far hd) (hh : hd < Q.length) (n1 : ns.Nodup) (n2 : ∀ j ∈ ns, j < N ∧ j ∉ Q ∧ nx (Q.getD hd 0) j = true) (n3 : ∀ j, j < N → nx (Q.getD hd 0) j = true → j ∈ Q ∨ j ∈ ns) :
    BIn nx N s (Q ++ ns) (fun j => if j ∈ Q then far j else far (Q.getD hd 0) + 1) (hd + 1) := by
  have full := BIn_full b hh
  obtain ⟨b1, b2, b3, b4, b5, b6, b7, b8, b9⟩ := b
  have huQ : Q.getD hd 0 ∈ Q := getD_mem' hh
  have gl : ∀ a, a < Q.length → (Q ++ ns).getD a 0 = Q.getD a 0 := fun a ha => by
    simp only [List.getD_eq_getElem?_getD]
    rw [List.getElem?_append_left ha]
  have gr : ∀ a, Q.length ≤ a → a < (Q ++ ns).length → (Q ++ ns).getD a 0 ∈ ns := fun a h1 h2 => by
    have : (Q ++ ns).getD a 0 = ns.getD (a - Q.length) 0 := by
      simp only [List.getD_eq_getElem?_getD]
      rw [List.getElem?_append_right h1]
    rw [this]
    rw [List.length_append] at h2
    exact getD_mem' (by omega)
  have fQ : ∀ j, j ∈ Q → (if j ∈ Q then far j else far (Q.getD hd 0) + 1) = far j := fun j hj => if_pos hj
  have fN : ∀ j, j ∈ ns → (if j ∈ Q then far j else far (Q.getD hd 0) + 1) = far (Q.getD hd 0) + 1 := fun j hj => if_neg (n2 j hj).2.1
  have fa : ∀ a, a < Q.length → (if (Q ++ ns).getD a 0 ∈ Q then far ((Q ++ ns).getD a 0) else far (Q.getD hd 0) + 1) = far (Q.getD a 0) := fun a ha => by rw [gl a ha, if_pos (getD_mem' ha)]
  have fb : ∀ a, Q.length ≤ a → a < (Q ++ ns).length → (if (Q ++ ns).getD a 0 ∈ Q then far ((Q ++ ns).getD a 0) else far (Q.getD hd 0) + 1) = far (Q.getD hd 0) + 1 := fun a h1 h2 => fN _ (gr a h1 h2)
  refine ⟨?_, fun i hi => ?_, List.mem_append.mpr (Or.inl b3), fun i hi => ?_, fun a c hac hc => ?_, fun c hc => ?_, fun hl c hc => ?_, fun a ha j hj hn => ?_, by rw [List.length_append]; omega⟩
  · rw [List.nodup_append]
    exact ⟨b1, n1, fun a ha c hc e => (n2 c hc).2.1 (e ▸ ha)⟩
  · rcases List.mem_append.mp hi with q | q
    · exact b2 i q
    · exact (n2 i q).1
  · rcases List.mem_append.mp hi with q | q
    · simp only [fQ i q]; exact b4 i q
    · simp only [fN i q]
      refine ⟨rch_step (b4 _ huQ).1 (b2 _ huQ) (n2 i q).2.2, fun d hd' => ?_⟩
      cases hr : rch nx N s d i with
      | false => rfl
      | true => exact absurd (full d (by omega) i (n2 i q).1 hr) (n2 i q).2.1
  · simp only
    by_cases h1 : c < Q.length
    · rw [fa a (by omega), fa c h1]; exact b5 a c hac h1
    · rw [fb c (by omega) hc]
      by_cases h2 : a < Q.length
      · rw [fa a h2]; exact b7 hh a h2
      · rw [fb a (by omega) (by omega)]; exact Nat.le_refl _
  · simp only
    by_cases h1 : c < Q.length
    · rw [fa c h1]; exact b6 c h1
    · rw [fb c (by omega) hc]
      have := b6 hd hh
      omega
  · simp only
    have key : far (Q.getD hd 0) ≤ (if (Q ++ ns).getD (hd + 1) 0 ∈ Q then far ((Q ++ ns).getD (hd + 1) 0) else far (Q.getD hd 0) + 1) := by
      by_cases h2 : hd + 1 < Q.length
      · rw [fa _ h2]; exact b5 hd (hd + 1) (by omega) h2
      · rw [fb _ (by omega) hl]; omega
    by_cases h1 : c < Q.length
    · rw [fa c h1]
      have := b7 hh c h1
      omega
    · rw [fb c (by omega) hc]; omega
  · by_cases e : a = hd
    · subst e
      rw [gl a hh] at hn
      rcases n3 j hj hn with q | q
      · exact List.mem_append.mpr (Or.inl q)
      · exact List.mem_append.mpr (Or.inr q)
    · rw [gl a (by omega)] at hn
      exact List.mem_append.mpr (Or.inl (b8 a (by omega) j hj hn))
theorem BIn_found {nx : Nat → Nat → Bool} {N s t : Nat} {Q : List Nat} {far : Nat → Nat} {hd : Nat} (b : BIn nx N s Q far hd) (ht : t ∈ Q) : dst nx N s t = some (far t) := by
  obtain ⟨b1, b2, b3, b4, b5, b6, b7, b8, b9⟩ := b
  obtain ⟨a, ha, hae⟩ := mem_getD ht
  have h1 := b6 a ha
  rw [hae] at h1
  have hlen : Q.length ≤ N := by
    have h2 := nd_cnt (p := fun _ => true) (n := N) b1 (fun b hb => ⟨b2 b hb, rfl⟩)
    have h3 := cntN_le (fun _ => true) N
    omega
  exact fst1_of (by omega) (b4 t ht).1 (b4 t ht).2
theorem BIn_none {nx : Nat → Nat → Bool} {N s t : Nat} {Q : List Nat} {far : Nat → Nat} (b : BIn nx N s Q far Q.length) (htN : t < N) (ht : t ∉ Q) : dst nx N s t = none := by
  obtain ⟨b1, b2, b3, b4, b5, b6, b7, b8, b9⟩ := b
  have all : ∀ d j, j < N → rch nx N s d j = true → j ∈ Q := by
    intro d
    induction d with
    | zero => intro j hj h; have : j = s := by simpa [rch] using h
              rw [this]; exact b3
    | succ d ih =>
      intro j hj h
      rcases rch_inv h with h | ⟨i, hi, h1, h2⟩
      · exact ih j hj h
      · obtain ⟨a, ha, hae⟩ := mem_getD (ih i hi h1)
        exact b8 a ha j hj (by rw [hae]; exact h2)
  refine fst1_no fun d _ => ?_
  cases hr : rch nx N s d t with
  | false => rfl
  | true => exact absurd (all d t htN hr) ht
theorem BIn_ini (nx : Nat → Nat → Bool) {N s : Nat} (hs : s < N) : BIn nx N s [s] (fun _ => 0) 0 := by
  refine ⟨by simp, fun i hi => ?_, by simp, fun i hi => ?_, fun a b _ _ => Nat.le_refl _, fun b _ => Nat.zero_le _, fun _ b _ => Nat.zero_le _, fun a ha => by omega, Nat.zero_le _⟩
  · simp only [List.mem_singleton] at hi; subst hi; exact hs
  · simp only [List.mem_singleton] at hi; subst hi; exact ⟨by simp [rch], fun d hd => absurd hd (Nat.not_lt_zero d)⟩
