/-! the Walk, purely -/
def ofPr (A : AS) : Nat := nfo (fun c m => (aPl A c).foldl (fun m q => m ||| prM q) m) (aNc A) 0
theorem fold_or_bit {α : Type} (g : α → Nat) (j : Nat) : ∀ (l : List α) (m : Nat), (l.foldl (fun m q => m ||| g q) m).testBit j = true ↔ m.testBit j = true ∨ ∃ q ∈ l, (g q).testBit j = true := by
  intro l
  induction l with
  | nil => intro m; simp
  | cons b l ih =>
    intro m
    simp only [List.foldl_cons]
    rw [ih, Nat.testBit_or, Bool.or_eq_true]
    simp only [List.mem_cons]
    constructor
    · rintro ((h | h) | ⟨c, h1, h2⟩)
      · exact Or.inl h
      · exact Or.inr ⟨b, Or.inl rfl, h⟩
      · exact Or.inr ⟨c, Or.inr h1, h2⟩
    · rintro (h | ⟨c, h1 | h1, h2⟩)
      · exact Or.inl (Or.inl h)
      · subst h1; exact Or.inl (Or.inr h2)
      · exact Or.inr ⟨c, h1, h2⟩
theorem ofPr_bit (A : AS) (j : Nat) : (ofPr A).testBit j = true ↔ ∃ c, c < aNc A ∧ ∃ q ∈ aPl A c, (prM q).testBit j = true := by
  unfold ofPr
  have : ∀ n, (nfo (fun c m => (aPl A c).foldl (fun m q => m ||| prM q) m) n 0).testBit j = true ↔ ∃ c, c < n ∧ ∃ q ∈ aPl A c, (prM q).testBit j = true := by
    intro n
    induction n with
    | zero => simp [nfo]
    | succ n ih =>
      simp only [nfo]
      rw [fold_or_bit, ih]
      constructor
      · rintro (⟨c, h1, h2⟩ | h)
        · exact ⟨c, by omega, h2⟩
        · exact ⟨n, by omega, h⟩
      · rintro ⟨c, h1, h2⟩
        by_cases e : c = n
        · subst e; exact Or.inr h2
        · exact Or.inl ⟨c, by omega, h2⟩
  exact this _
/-- BONDS that may be in a FREE matching, the highest first -/
def lvP (A : AS) (b : Nat) : Bool := if (sCpl A (aPe A b)).isNone then (sPlc A b).isSome else (ofPr A).testBit b
def lvL (A : AS) : Nat → List Nat
  | 0 => []
  | n + 1 => if lvP A n then n :: lvL A n else lvL A n
theorem lvL_mem {A : AS} : ∀ n b, b ∈ lvL A n ↔ b < n ∧ lvP A b = true := by
  intro n
  induction n with
  | zero => intro b; simp [lvL]
  | succ n ih =>
    intro b
    simp only [lvL]
    by_cases q : lvP A n = true
    · rw [if_pos q, List.mem_cons, ih]
      constructor
      · rintro (h | h)
        · subst h; exact ⟨by omega, q⟩
        · exact ⟨by omega, h.2⟩
      · rintro ⟨h1, h2⟩
        by_cases e : b = n
        · exact Or.inl e
        · exact Or.inr ⟨by omega, h2⟩
    · rw [if_neg q, ih]
      constructor
      · rintro ⟨h1, h2⟩; exact ⟨by omega, h2⟩
      · rintro ⟨h1, h2⟩
        by_cases e : b = n
        · subst e; exact absurd h2 q
        · exact ⟨by omega, h2⟩
theorem lvL_len (A : AS) : ∀ n, (lvL A n).length ≤ n := by
  intro n
  induction n with
  | zero => simp [lvL]
  | succ n ih =>
    simp only [lvL]
    split
    · simp; omega
    · omega
theorem lvL_desc (A : AS) : ∀ n, (lvL A n).Pairwise (fun x y => y < x) := by
  intro n
  induction n with
  | zero => exact List.Pairwise.nil
  | succ n ih =>
    simp only [lvL]
    split
    · rw [List.pairwise_cons]
      exact ⟨fun b hb => ((lvL_mem n b).mp hb).1, ih⟩
    · exact ih
/-- whether the walk may go on with b: its PERSON has none yet, and the OFFICE's part may grow -/
def wkO (A : AS) (mv : Nat → Nat) (S b : Nat) : Bool := !(sPpl A S).testBit (aPe A b) && tG A (aOf A b) (mv (aOf A b)) (prt (aOf A b) (slM A (S ||| 2 ^ b)))
def wk (A : AS) (mv : Nat → Nat) : List Nat → Nat → List Nat
  | [], S => [S]
  | b :: l, S => wk A mv l S ++ if wkO A mv S b then wk A mv l (S ||| 2 ^ b) else []
/-- what comes of it: each is arrived at, until one says that it is enough -/
def vst {σ : Type} (ar : Nat → σ → Bool × σ) : List Nat → σ → Bool × σ
  | [], s => (false, s)
  | S :: L, s => if (ar S s).1 then ar S s else vst ar L (ar S s).2
theorem vst_app {σ : Type} (ar : Nat → σ → Bool × σ) : ∀ (L M : List Nat) (s : σ), vst ar (L ++ M) s = if (vst ar L s).1 then vst ar L s else vst ar M (vst ar L s).2 := by
  intro L
  induction L with
  | nil => intro M s; rfl
  | cons S L ih =>
    intro M s
    have d : ∀ N, vst ar (S :: N) s = if (ar S s).1 then ar S s else vst ar N (ar S s).2 := fun _ => rfl
    by_cases q : (ar S s).1 = true
    · have e : ∀ N, vst ar (S :: N) s = ar S s := fun N => by rw [d, if_pos q]
      rw [List.cons_append, e, e, if_pos q]
    · have e : ∀ N, vst ar (S :: N) s = vst ar N (ar S s).2 := fun N => by rw [d, if_neg q]
      rw [List.cons_append, e, e, ih]
theorem wk_sub {A : AS} {mv : Nat → Nat} : ∀ l S T, T ∈ wk A mv l S → SubB S T ∧ ∀ b, T.testBit b = true → S.testBit b = true ∨ b ∈ l := by
  intro l
  induction l with
  | nil =>
    intro S T h
    simp only [wk, List.mem_singleton] at h
    subst h
    exact ⟨fun _ q => q, fun b q => Or.inl q⟩
  | cons b l ih =>
    intro S T h
    simp only [wk, List.mem_append] at h
    rcases h with q | q
    · obtain ⟨a1, a2⟩ := ih S T q
      exact ⟨a1, fun c hc => (a2 c hc).elim Or.inl fun z => Or.inr (List.mem_cons_of_mem _ z)⟩
    · split at q
      · obtain ⟨a1, a2⟩ := ih _ T q
        refine ⟨fun c hc => a1 c (by rw [Nat.testBit_or, hc]; rfl), fun c hc => ?_⟩
        rcases a2 c hc with z | z
        · rw [Nat.testBit_or, Nat.testBit_two_pow, Bool.or_eq_true, decide_eq_true_iff] at z
          rcases z with y | y
          · exact Or.inl y
          · subst y; exact Or.inr List.mem_cons_self
        · exact Or.inr (List.mem_cons_of_mem _ z)
      · cases q
/-- the sets come ascending -/
theorem wk_srt {A : AS} {mv : Nat → Nat} : ∀ l S, l.Pairwise (fun x y => y < x) → (∀ b ∈ l, ∀ c, c ≤ b → S.testBit c = false) → (wk A mv l S).Pairwise (· < ·) := by
  intro l
  induction l with
  | nil => intro S _ _; simp only [wk]; exact List.pairwise_singleton _ _
  | cons b l ih =>
    intro S hl hS
    obtain ⟨hb, hl'⟩ := List.pairwise_cons.mp hl
    have hS' : ∀ c ∈ l, ∀ d, d ≤ c → (S ||| 2 ^ b).testBit d = false := fun c hc d hd => by
      have h1 := hS c (List.mem_cons_of_mem _ hc) d hd
      have h2 := hb c hc
      rw [Nat.testBit_or, h1, Nat.testBit_two_pow, Bool.false_or, decide_eq_false_iff_not]
      omega
    simp only [wk]
    rw [List.pairwise_append]
    refine ⟨ih S hl' fun c hc => hS c (List.mem_cons_of_mem _ hc), ?_, fun T hT U hU => ?_⟩
    · split
      · exact ih _ hl' hS'
      · exact List.Pairwise.nil
    · split at hU
      · obtain ⟨t1, t2⟩ := wk_sub l S T hT
        obtain ⟨u1, u2⟩ := wk_sub l _ U hU
        have hbl : ∀ c, b ≤ c → c ∉ l := fun c hc q => by have := hb c q; omega
        refine lt_bit b T U ?_ ?_ fun j hj => ?_
        · cases q : T.testBit b with
          | false => rfl
          | true =>
            rcases t2 b q with z | z
            · rw [hS b List.mem_cons_self b (Nat.le_refl _)] at z; cases z
            · exact absurd z (hbl b (Nat.le_refl _))
        · exact u1 b (by rw [Nat.testBit_or, Nat.testBit_two_pow]; simp)
        · rw [Bool.eq_iff_iff]
          constructor
          · intro h
            rcases t2 j h with z | z
            · exact u1 j (by rw [Nat.testBit_or, z]; rfl)
            · exact absurd z (hbl j (by omega))
          · intro h
            rcases u2 j h with z | z
            · rw [Nat.testBit_or, Nat.testBit_two_pow, Bool.or_eq_true, decide_eq_true_iff] at z
              rcases z with y | y
              · exact t1 j y
              · omega
            · exact absurd z (hbl j (by omega))
      · cases hU
theorem ppl_or {A : AS} {S b : Nat} (hb : b < aNb A) : sPpl A (S ||| 2 ^ b) = sPpl A S ||| 2 ^ aPe A b := by
  apply Nat.eq_of_testBit_eq
  intro p
  rw [Bool.eq_iff_iff, Nat.testBit_or, Bool.or_eq_true, Nat.testBit_two_pow, decide_eq_true_iff]
  unfold sPpl
  rw [ppl_bit, ppl_bit]
  constructor
  · rintro ⟨c, c1, c2, c3⟩
    rw [Nat.testBit_or, Nat.testBit_two_pow, Bool.or_eq_true, decide_eq_true_iff] at c2
    rcases c2 with q | q
    · exact Or.inl ⟨c, c1, q, c3⟩
    · subst q; exact Or.inr c3
  · rintro (⟨c, c1, c2, c3⟩ | h)
    · exact ⟨c, c1, by rw [Nat.testBit_or, c2]; rfl, c3⟩
    · exact ⟨b, hb, by rw [Nat.testBit_or, Nat.testBit_two_pow]; simp, h⟩
/-- every set that is a MATCHING of such BONDS, each OFFICE's part of which grows into an ALLOWED one, is come to -/
theorem wk_all {A : AS} (w : WF A) {mv : Nat → Nat} {T : Nat} (hT : T < 2 ^ aNb A) (mT : sMat A T) (gT : ∀ o, kOk A o (mv o) (prt o (slM A T)) = true) : ∀ l S, l.Pairwise (fun x y => y < x) → (∀ b ∈ l, b < aNb A) → SubB S T → (∀ b ∈ l, S.testBit b = false) → (∀ b, T.testBit b = true → S.testBit b = true ∨ b ∈ l) → T ∈ wk A mv l S := by
  intro l
  induction l with
  | nil =>
    intro S _ _ h1 _ h2
    simp only [wk, List.mem_singleton]
    apply Nat.eq_of_testBit_eq
    intro b
    cases q : T.testBit b with
    | true => exact ((h2 b q).elim id fun z => by cases z).symm
    | false =>
      cases z : S.testBit b with
      | false => rfl
      | true => rw [h1 b z] at q; cases q
  | cons b l ih =>
    intro S hl hnb h1 h0 h2
    obtain ⟨hb, hl'⟩ := List.pairwise_cons.mp hl
    have hbn := hnb b List.mem_cons_self
    simp only [wk, List.mem_append]
    cases q : T.testBit b with
    | false =>
      left
      refine ih S hl' (fun c hc => hnb c (List.mem_cons_of_mem _ hc)) h1 (fun c hc => h0 c (List.mem_cons_of_mem _ hc)) fun c hc => ?_
      rcases h2 c hc with z | z
      · exact Or.inl z
      · rcases List.mem_cons.mp z with y | y
        · subst y; rw [q] at hc; cases hc
        · exact Or.inr y
    | true =>
      right
      have hsub : SubB (S ||| 2 ^ b) T := or_bit_sub.mpr ⟨h1, q⟩
      have hok : wkO A mv S b = true := by
        unfold wkO
        rw [Bool.and_eq_true]
        constructor
        · cases z : (sPpl A S).testBit (aPe A b) with
          | false => rfl
          | true =>
            unfold sPpl at z
            obtain ⟨c, c1, c2, c3⟩ := (ppl_bit A S _ _).mp z
            have := mT c b c1 hbn (h1 c c2) q c3
            subst this
            rw [h0 c List.mem_cons_self] at c2; cases c2
        · refine tG_iff.mpr ⟨prt (aOf A b) (slM A T), prt_slM_lt w _ _, fun i hi => ?_, gT _⟩
          obtain ⟨i1, i2⟩ := prt_slM_hi w hi
          obtain ⟨b1, b2, b3⟩ := bAt_ok w i1
          have := prt_slM_bit w (S := T) b1 b2
          rw [b3] at this
          rw [this]
          exact hsub _ i2
      rw [if_pos hok]
      refine ih _ hl' (fun c hc => hnb c (List.mem_cons_of_mem _ hc)) hsub (fun c hc => ?_) fun c hc => ?_
      · have := hb c hc
        rw [Nat.testBit_or, h0 c (List.mem_cons_of_mem _ hc), Nat.testBit_two_pow, Bool.false_or, decide_eq_false_iff_not]
        omega
      · rcases h2 c hc with z | z
        · exact Or.inl (by rw [Nat.testBit_or, z]; rfl)
        · rcases List.mem_cons.mp z with y | y
          · subst y; exact Or.inl (by rw [Nat.testBit_or, Nat.testBit_two_pow]; simp)
          · exact Or.inr y
/-- sets that the walk has: MATCHINGS, the BONDS of PEOPLE in no COUPLE listed -/
def okS (A : AS) (S : Nat) : Prop := S < 2 ^ aNb A ∧ sMat A S ∧ (sF1 A S).isNone = true
theorem okS_0 (A : AS) : okS A 0 := by
  refine ⟨Nat.two_pow_pos _, fun b c _ _ hb => by simp at hb, sF1_iff.mpr fun p _ _ hr => ?_⟩
  unfold sRnk at hr
  rw [sBnd_0] at hr
  cases hr
theorem mat_or {A : AS} {S b : Nat} (mS : sMat A S) (hb : b < aNb A) (hu : (sPpl A S).testBit (aPe A b) = false) : sMat A (S ||| 2 ^ b) := by
  have key : ∀ c, c < aNb A → S.testBit c = true → aPe A c ≠ aPe A b := fun c hc hs e => by
    have : (sPpl A S).testBit (aPe A b) = true := by unfold sPpl; exact (ppl_bit A S _ _).mpr ⟨c, hc, hs, e⟩
    rw [hu] at this; cases this
  intro c d hc hd tc td e
  rw [Nat.testBit_or, Nat.testBit_two_pow, Bool.or_eq_true, decide_eq_true_iff] at tc td
  rcases tc with tc | tc <;> rcases td with td | td
  · exact mS c d hc hd tc td e
  · subst td; exact absurd e (key c hc tc)
  · subst tc; exact absurd e.symm (key d hd td)
  · omega
theorem okS_or {A : AS} (w : WF A) {S b : Nat} (h : okS A S) (hb : b < aNb A) (hu : (sPpl A S).testBit (aPe A b) = false) (hl : lvP A b = true) : okS A (S ||| 2 ^ b) := by
  obtain ⟨h1, h2, h3⟩ := h
  have m2 := mat_or h2 hb hu
  refine ⟨Nat.or_lt_two_pow h1 (Nat.pow_lt_pow_right (by decide) hb), m2, ?_⟩
  rw [← f1_bonds w h2, fst1_all] at h3
  rw [← f1_bonds w m2, fst1_all]
  intro c hc
  have := h3 c hc
  rw [Nat.testBit_or, Nat.testBit_two_pow]
  by_cases e : b = c
  · subst e
    unfold lvP at hl
    cases hcp : (sCpl A (aPe A b)).isNone with
    | false => simp
    | true =>
      rw [hcp] at hl
      simp only [if_true] at hl
      have : (sPlc A b).isNone = false := by
        cases z : sPlc A b with
        | none => rw [z] at hl; cases hl
        | some k => rfl
      simp [this]
  · simp only [e, decide_false, Bool.or_false]
    exact this
