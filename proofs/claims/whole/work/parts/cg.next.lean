/-! steps, purely -/
theorem bnd_rnk {A : AS} {S p n : Nat} (hm : sMat A S) (h : sRnk A S p = some n) : sBnd A S p = if n < (aLl A p).length then some ((aLl A p).getD n 0) else none := by
  unfold sRnk at h
  cases hb : sBnd A S p with
  | none =>
    rw [hb] at h
    simp only [Option.some.injEq] at h
    rw [if_neg (by omega)]
  | some b =>
    rw [hb] at h
    simp only at h
    obtain ⟨-, -, hp⟩ := (sBnd_iff hm).mp hb
    unfold sPlc at h
    obtain ⟨h1, h2, -⟩ := fst1_some h
    rw [hp] at h1 h2
    rw [if_pos h1]
    simp only [beq_iff_eq] at h2
    rw [h2]
theorem bnd_rkc {A : AS} {S c n : Nat} (h : sRkc A S c = some n) : (sBnd A S (aC1 A c), sBnd A S (aC2 A c)) = if n < (aPl A c).length then (aPl A c).getD n (none, none) else (none, none) := by
  unfold sRkc at h
  by_cases q : sBnd A S (aC1 A c) = none ∧ sBnd A S (aC2 A c) = none
  · rw [if_pos q] at h
    simp only [Option.some.injEq] at h
    rw [if_neg (by omega), q.1, q.2]
  · rw [if_neg q] at h
    obtain ⟨h1, h2, -⟩ := fst1_some h
    simp only [beq_iff_eq] at h2
    rw [if_pos h1, h2]
theorem rk_inj {A : AS} (w : WF A) {S T : Nat} (hS : S < 2 ^ aNb A) (hT : T < 2 ^ aNb A) (mS : sMat A S) (mT : sMat A T) (fS : FRk A S) (fT : FRk A T) (h : rkN A S = rkN A T) : S = T := by
  have hn := w.1.1
  rw [rkN_fN, rkN_fN] at h
  have hin := fN_inj (fun p => by have := gF_lt w S p; omega) (fun p => by have := gF_lt w T p; omega) h
  have hb : ∀ p, p < aNp A → sBnd A S p = sBnd A T p := by
    intro p hp
    cases hc : sCpl A p with
    | none =>
      obtain ⟨m, -, m2⟩ := fS.1 p hp hc
      obtain ⟨n, -, n2⟩ := fT.1 p hp hc
      have := hin p (by omega)
      unfold gF rkF at this
      rw [if_pos hp, if_pos hp, hc] at this
      simp only [m2, n2, Option.getD_some] at this
      rw [bnd_rnk mS m2, bnd_rnk mT n2, this]
    | some c =>
      have hcn := sCpl_lt hc
      obtain ⟨m, -, m2⟩ := fS.2 c hcn
      obtain ⟨n, -, n2⟩ := fT.2 c hcn
      have h1 := (w.2.2.2.2.1.2.1 c hcn).1
      have := hin (aC1 A c) (by omega)
      have hcc : sCpl A (aC1 A c) = some c := (sCpl_iff w hcn).mpr (Or.inl rfl)
      unfold gF rkF at this
      rw [if_pos h1, if_pos h1, hcc] at this
      simp only [if_true, m2, n2, Option.getD_some] at this
      have e1 := bnd_rkc m2
      have e2 := bnd_rkc n2
      rw [this, ← e2] at e1
      rcases (sCpl_iff w hcn).mp hc with e | e
      · rw [← e]; exact congrArg Prod.fst e1
      · rw [← e]; exact congrArg Prod.snd e1
  apply Nat.eq_of_testBit_eq
  intro b
  by_cases hbn : b < aNb A
  · have hp := (w.2.2.1.2.1 b hbn).1
    have e := hb _ hp
    rw [Bool.eq_iff_iff]
    constructor
    · intro t
      have := (sBnd_iff mS).mpr ⟨hbn, t, rfl⟩
      rw [e] at this
      exact ((sBnd_iff mT).mp this).2.1
    · intro t
      have := (sBnd_iff mT).mpr ⟨hbn, t, rfl⟩
      rw [← e] at this
      exact ((sBnd_iff mS).mp this).2.1
  · rw [tb_false hS (by omega), tb_false hT (by omega)]
-- beyond, on the sorted ones
theorem bet_trans {A : AS} (w : WF A) {a b c : Nat} (ha : FRk A a) (hb : FRk A b) (hc : FRk A c) (h1 : sBet A a b = true) (h2 : sBet A b c = true) : sBet A a c = true := by
  have s1 := bet_sum w ha hb h1
  have s2 := bet_sum w hb hc h2
  obtain ⟨p1, -⟩ := (bet_fld w ha hb).mp h1
  obtain ⟨q1, -⟩ := (bet_fld w hb hc).mp h2
  refine (bet_fld w ha hc).mpr ⟨fun p hp => Nat.le_trans (p1 p hp) (q1 p hp), fun e => ?_⟩
  rw [rkN_fN, rkN_fN] at e
  have hin := fN_inj (fun p => by have := gF_lt w a p; omega) (fun p => by have := gF_lt w c p; omega) e
  have : rkS7 A a = rkS7 A c := by
    rw [rkS7_g, rkS7_g]
    exact nfo_congr fun i hi t => by rw [hin i hi]
  omega
def SOK (A : AS) (l : List Nat) (σ : Nat → Nat) : Prop := (∀ i, i < l.length → FRk A (l.getD i 0)) ∧ (∀ i, i < l.length → σ i < l.length) ∧ (∀ i j, i < l.length → j < l.length → σ i = σ j → i = j) ∧ ∀ i j, i < l.length → j < l.length → i < j → rkS7 A (l.getD (σ i) 0) ≤ rkS7 A (l.getD (σ j) 0)
/-- i is beyond j, on the way u -/
def Ru (A : AS) (l : List Nat) (σ : Nat → Nat) (u : Bool) (i j : Nat) : Bool := bb A l u (σ i) (σ j)
theorem Ru_ord {A : AS} (w : WF A) {l : List Nat} {σ : Nat → Nat} (s : SOK A l σ) {u : Bool} {i j : Nat} (hi : i < l.length) (hj : j < l.length) (h : Ru A l σ u i j = true) : if u then i < j else j < i := by
  obtain ⟨s0, s1, s2, s3⟩ := s
  unfold Ru bb at h
  cases u with
  | true =>
    simp only [if_true] at h ⊢
    have := bet_sum w (s0 _ (s1 i hi)) (s0 _ (s1 j hj)) h
    apply Nat.lt_of_not_le
    intro q
    by_cases e : i = j
    · subst e; omega
    · have := s3 j i hj hi (by omega); omega
  | false =>
    simp only [Bool.false_eq_true, if_false] at h ⊢
    have := bet_sum w (s0 _ (s1 j hj)) (s0 _ (s1 i hi)) h
    apply Nat.lt_of_not_le
    intro q
    by_cases e : i = j
    · subst e; omega
    · have := s3 i j hi hj (by omega); omega
theorem Ru_trans {A : AS} (w : WF A) {l : List Nat} {σ : Nat → Nat} (s : SOK A l σ) {u : Bool} {i j k : Nat} (hi : i < l.length) (hj : j < l.length) (hk : k < l.length) (h1 : Ru A l σ u i j = true) (h2 : Ru A l σ u j k = true) : Ru A l σ u i k = true := by
  obtain ⟨s0, s1, -, -⟩ := s
  have fi := s0 _ (s1 i hi)
  have fj := s0 _ (s1 j hj)
  have fk := s0 _ (s1 k hk)
  unfold Ru bb at *
  cases u with
  | true => exact bet_trans w fi fj fk h1 h2
  | false => exact bet_trans w fk fj fi h2 h1
def acc (A : AS) (l : List Nat) (σ : Nat → Nat) (u : Bool) (at' i : Nat) : Bool := Ru A l σ u i at' && (fst1 (fun k => Ru A l σ u i k && Ru A l σ u k at') l.length).isNone
/-- the way from a place on -/
def ix (u : Bool) (at' s : Nat) : Nat := if u then at' - 1 - s else at' + 1 + s
def cnt (u : Bool) (N at' : Nat) : Nat := if u then at' else N - 1 - at'
theorem ix_lt {u : Bool} {N at' s : Nat} (ha : at' < N) (h : s < cnt u N at') : ix u at' s < N ∧ ix u at' s ≠ at' := by
  unfold cnt at h
  unfold ix
  cases u with
  | true => simp only [if_true] at *; omega
  | false => simp only [Bool.false_eq_true, if_false] at *; omega
theorem ix_inj {u : Bool} {N at' s t : Nat} (h : s < cnt u N at') (h2 : t < cnt u N at') (e : ix u at' s = ix u at' t) : s = t := by
  unfold cnt at h h2
  unfold ix at e
  cases u with
  | true => simp only [if_true] at *; omega
  | false => simp only [Bool.false_eq_true, if_false] at *; omega
theorem ix_of {A : AS} (w : WF A) {l : List Nat} {σ : Nat → Nat} (s : SOK A l σ) {u : Bool} {at' i : Nat} (ha : at' < l.length) (hi : i < l.length) (h : Ru A l σ u i at' = true) : ∃ t, t < cnt u l.length at' ∧ ix u at' t = i := by
  have := Ru_ord w s hi ha h
  unfold cnt ix
  cases u with
  | true => simp only [if_true] at *; exact ⟨at' - 1 - i, by omega, by omega⟩
  | false => simp only [Bool.false_eq_true, if_false] at *; exact ⟨i - at' - 1, by omega, by omega⟩
theorem ix_ord {A : AS} (w : WF A) {l : List Nat} {σ : Nat → Nat} (so : SOK A l σ) {u : Bool} {at' s t : Nat} (ha : at' < l.length) (hs : s < cnt u l.length at') (ht : t < cnt u l.length at') (h : Ru A l σ u (ix u at' s) (ix u at' t) = true) : t < s := by
  have := Ru_ord w so (ix_lt ha hs).1 (ix_lt ha ht).1 h
  unfold cnt at hs ht
  unfold ix at this
  cases u with
  | true => simp only [if_true] at *; omega
  | false => simp only [Bool.false_eq_true, if_false] at *; omega
/-- those that are next, of the first s on the way -/
def cov (A : AS) (l : List Nat) (σ : Nat → Nat) (u : Bool) (at' : Nat) : Nat → List Nat
  | 0 => []
  | s + 1 => cov A l σ u at' s ++ if acc A l σ u at' (ix u at' s) then [ix u at' s] else []
theorem cov_mem {A : AS} {l : List Nat} {σ : Nat → Nat} {u : Bool} {at' j : Nat} : ∀ s, j ∈ cov A l σ u at' s ↔ ∃ t, t < s ∧ ix u at' t = j ∧ acc A l σ u at' j = true := by
  intro s
  induction s with
  | zero => simp [cov]
  | succ s ih =>
    simp only [cov, List.mem_append, ih]
    constructor
    · rintro (⟨t, h1, h2⟩ | h)
      · exact ⟨t, by omega, h2⟩
      · by_cases q : acc A l σ u at' (ix u at' s) = true
        · rw [if_pos q] at h
          simp only [List.mem_singleton] at h
          rw [h]
          exact ⟨s, by omega, rfl, q⟩
        · rw [if_neg q] at h; cases h
    · rintro ⟨t, h1, h2, h3⟩
      by_cases q : t = s
      · subst q
        right
        rw [h2, if_pos h3]
        simp
      · exact Or.inl ⟨t, by omega, h2, h3⟩
theorem cov_len {A : AS} {l : List Nat} {σ : Nat → Nat} {u : Bool} {at' : Nat} : ∀ s, (cov A l σ u at' s).length ≤ s := by
  intro s
  induction s with
  | zero => exact Nat.le_refl _
  | succ s ih =>
    simp only [cov, List.length_append]
    split
    · simp; omega
    · simp; omega
theorem acc_cov {A : AS} (w : WF A) {l : List Nat} {σ : Nat → Nat} (so : SOK A l σ) {u : Bool} {at' s : Nat} (ha : at' < l.length) (hs : s < cnt u l.length at') : acc A l σ u at' (ix u at' s) = (Ru A l σ u (ix u at' s) at' && !((cov A l σ u at' s).any fun c => Ru A l σ u (ix u at' s) c)) := by
  have hi := (ix_lt ha hs).1
  rw [Bool.eq_iff_iff]
  constructor
  · intro h
    have h0 := h
    unfold acc at h
    rw [Bool.and_eq_true, fst1_all] at h
    rw [Bool.and_eq_true, Bool.not_eq_true', List.any_eq_false]
    refine ⟨h.1, fun c hc hr => ?_⟩
    obtain ⟨t, t1, t2, t3⟩ := (cov_mem s).mp hc
    have hcl : c < l.length := by rw [← t2]; exact (ix_lt ha (by omega)).1
    have := h.2 c hcl
    unfold acc at t3
    rw [Bool.and_eq_true] at t3
    rw [hr, t3.1] at this
    cases this
  · intro h
    rw [Bool.and_eq_true, Bool.not_eq_true', List.any_eq_false] at h
    unfold acc
    rw [Bool.and_eq_true]
    refine ⟨h.1, ?_⟩
    apply Classical.byContradiction
    intro hno
    -- one between them, the nearest to the place
    have hex : ∃ k, k < l.length ∧ Ru A l σ u (ix u at' s) k = true ∧ Ru A l σ u k at' = true := by
      apply Classical.byContradiction
      intro hq
      apply hno
      rw [fst1_all]
      intro k hk
      cases hc : (Ru A l σ u (ix u at' s) k && Ru A l σ u k at') with
      | false => rfl
      | true =>
        rw [Bool.and_eq_true] at hc
        exact absurd ⟨k, hk, hc.1, hc.2⟩ hq
    obtain ⟨k, hk, k1, k2⟩ := hex
    obtain ⟨t0, t01, t02⟩ := ix_of w so ha hk k2
    cases hf : fst1 (fun t => Ru A l σ u (ix u at' s) (ix u at' t) && Ru A l σ u (ix u at' t) at') (cnt u l.length at') with
    | none =>
      have := fst1_none hf t0 t01
      rw [t02, k1, k2] at this
      cases this
    | some t =>
      obtain ⟨f1, f2, f3⟩ := fst1_some hf
      rw [Bool.and_eq_true] at f2
      have hts := ix_ord w so ha hs f1 f2.1
      have htl := (ix_lt ha f1).1
      have hacc : acc A l σ u at' (ix u at' t) = true := by
        unfold acc
        rw [Bool.and_eq_true, fst1_all]
        refine ⟨f2.2, fun m hm => ?_⟩
        cases hc : (Ru A l σ u (ix u at' t) m && Ru A l σ u m at') with
        | false => rfl
        | true =>
          rw [Bool.and_eq_true] at hc
          obtain ⟨t', t'1, t'2⟩ := ix_of w so ha hm hc.2
          subst t'2
          have hlt := ix_ord w so ha f1 t'1 hc.1
          have := f3 t' hlt
          rw [Ru_trans w so hi htl hm f2.1 hc.1, hc.2] at this
          cases this
      exact h.2 _ ((cov_mem s).mpr ⟨t, hts, rfl, hacc⟩) f2.1
theorem cov_s {A : AS} {l : List Nat} {σ : Nat → Nat} {u : Bool} {at' s : Nat} : cov A l σ u at' (s + 1) = cov A l σ u at' s ++ if acc A l σ u at' (ix u at' s) then [ix u at' s] else [] := rfl
-- next ones
def nxS (A : AS) (l : List Nat) (σ : Nat → Nat) (i j : Nat) : Bool := nxL A l (σ i) (σ j)
theorem nx_acc {A : AS} (w : WF A) {l : List Nat} {σ : Nat → Nat} (so : SOK A l σ) {i j : Nat} (hi : i < l.length) (hj : j < l.length) : nxS A l σ i j = true ↔ acc A l σ true i j = true ∨ acc A l σ false i j = true := by
  have so0 := so
  obtain ⟨s0, s1, s2, s3⟩ := so
  have sur : ∀ k, k < l.length → ∃ m, m < l.length ∧ σ m = k := fun k hk => inj_sur s1 s2 hk
  have asym : ¬ (sBet A (l.getD (σ i) 0) (l.getD (σ j) 0) = true ∧ sBet A (l.getD (σ j) 0) (l.getD (σ i) 0) = true) := by
    rintro ⟨h1, h2⟩
    have := bet_sum w (s0 _ (s1 i hi)) (s0 _ (s1 j hj)) h1
    have := bet_sum w (s0 _ (s1 j hj)) (s0 _ (s1 i hi)) h2
    omega
  have aT : acc A l σ true i j = true ↔ sBet A (l.getD (σ j) 0) (l.getD (σ i) 0) = true ∧ ∀ k, k < l.length → ¬ (sBet A (l.getD (σ j) 0) (l.getD k 0) = true ∧ sBet A (l.getD k 0) (l.getD (σ i) 0) = true) := by
    unfold acc
    rw [Bool.and_eq_true, fst1_all]
    constructor
    · rintro ⟨h1, h2⟩
      refine ⟨h1, fun k hk hc => ?_⟩
      obtain ⟨m, hm, rfl⟩ := sur k hk
      have := h2 m hm
      unfold Ru bb at this
      simp only [if_true] at this
      rw [hc.1, hc.2] at this
      cases this
    · rintro ⟨h1, h2⟩
      refine ⟨h1, fun k hk => ?_⟩
      cases hc : (Ru A l σ true j k && Ru A l σ true k i) with
      | false => rfl
      | true =>
        rw [Bool.and_eq_true] at hc
        exact absurd hc (h2 _ (s1 k hk))
  have aF : acc A l σ false i j = true ↔ sBet A (l.getD (σ i) 0) (l.getD (σ j) 0) = true ∧ ∀ k, k < l.length → ¬ (sBet A (l.getD (σ i) 0) (l.getD k 0) = true ∧ sBet A (l.getD k 0) (l.getD (σ j) 0) = true) := by
    unfold acc
    rw [Bool.and_eq_true, fst1_all]
    constructor
    · rintro ⟨h1, h2⟩
      refine ⟨h1, fun k hk hc => ?_⟩
      obtain ⟨m, hm, rfl⟩ := sur k hk
      have := h2 m hm
      unfold Ru bb at this
      simp only [Bool.false_eq_true, if_false] at this
      rw [hc.1, hc.2] at this
      cases this
    · rintro ⟨h1, h2⟩
      refine ⟨h1, fun k hk => ?_⟩
      cases hc : (Ru A l σ false j k && Ru A l σ false k i) with
      | false => rfl
      | true =>
        rw [Bool.and_eq_true] at hc
        exact absurd ⟨hc.2, hc.1⟩ (h2 _ (s1 k hk))
  rw [aT, aF]
  unfold nxS nxL sNxt
  cases h1 : sBet A (l.getD (σ i) 0) (l.getD (σ j) 0) with
  | true =>
    have h2 : sBet A (l.getD (σ j) 0) (l.getD (σ i) 0) = false := by
      cases h2 : sBet A (l.getD (σ j) 0) (l.getD (σ i) 0) with
      | false => rfl
      | true => exact absurd ⟨h1, h2⟩ asym
    simp only [h1, h2, if_true, Bool.true_eq_false, false_and, if_false, fst1_all, Bool.false_eq_true, true_and, false_or]
    constructor
    · intro h k hk hc
      have := h k hk
      rw [hc.1, hc.2] at this
      cases this
    · intro h k hk
      cases hc : (sBet A (l.getD (σ i) 0) (l.getD k 0) && sBet A (l.getD k 0) (l.getD (σ j) 0)) with
      | false => rfl
      | true =>
        rw [Bool.and_eq_true] at hc
        exact absurd hc (h k hk)
  | false =>
    cases h2 : sBet A (l.getD (σ j) 0) (l.getD (σ i) 0) with
    | false => simp [h1, h2]
    | true =>
      simp only [h1, h2, if_true, Bool.true_eq_false, and_false, if_false, fst1_all, Bool.false_eq_true, true_and, false_and, or_false]
      constructor
      · intro h k hk hc
        have := h k hk
        rw [hc.1, hc.2] at this
        cases this
      · intro h k hk
        cases hc : (sBet A (l.getD (σ j) 0) (l.getD k 0) && sBet A (l.getD k 0) (l.getD (σ i) 0)) with
        | false => rfl
        | true =>
          rw [Bool.and_eq_true] at hc
          exact absurd hc (h k hk)
theorem rch_iso {nx : Nat → Nat → Bool} {N : Nat} {σ : Nat → Nat} (s1 : ∀ i, i < N → σ i < N) (s2 : ∀ i j, i < N → j < N → σ i = σ j → i = j) {s : Nat} (hs : s < N) : ∀ d i, i < N → rch (fun a b => nx (σ a) (σ b)) N s d i = rch nx N (σ s) d (σ i) := by
  intro d
  induction d with
  | zero =>
    intro i hi
    simp only [rch]
    rw [Bool.eq_iff_iff, beq_iff_eq, beq_iff_eq]
    exact ⟨fun e => by rw [e], fun e => s2 _ _ hi hs e⟩
  | succ d ih =>
    intro i hi
    simp only [rch]
    rw [ih i hi]
    congr 1
    rw [Bool.eq_iff_iff, fst1_isSome, fst1_isSome]
    constructor
    · rintro ⟨j, hj, h⟩
      rw [ih j hj] at h
      exact ⟨σ j, s1 j hj, h⟩
    · rintro ⟨j, hj, h⟩
      obtain ⟨m, hm, rfl⟩ := inj_sur s1 s2 hj
      exact ⟨m, hm, by rw [ih m hm]; exact h⟩
theorem dst_iso {nx : Nat → Nat → Bool} {N : Nat} {σ : Nat → Nat} (s1 : ∀ i, i < N → σ i < N) (s2 : ∀ i j, i < N → j < N → σ i = σ j → i = j) {s t : Nat} (hs : s < N) (ht : t < N) : dst (fun a b => nx (σ a) (σ b)) N s t = dst nx N (σ s) (σ t) := by
  unfold dst
  exact fst1_congr fun d _ => rch_iso s1 s2 hs d t ht
