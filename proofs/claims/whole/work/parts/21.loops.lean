/-! LOOPS THAT COUNT, as functions -/
/-- from place i on, k times: go on with a new state, or leave -/
def lgo {σ ρ : Type} (f : Nat → σ → σ ⊕ ρ) : Nat → Nat → σ → σ ⊕ ρ
  | 0, _, s => .inl s
  | k + 1, i, s => match f i s with
    | .inl s' => lgo f k (i + 1) s'
    | .inr r => .inr r
/-- a loop whose state is told by a place i < n and some s: P holds all the way -/
theorem loop_gen {σ : Type} {lb lc : Nat} {c : jB} {b u : jSt} (n : Nat) (G : Nat → σ → jS) (f : Nat → σ → σ ⊕ (jO × jS)) (P : Nat → σ → Prop)
    (hc : ∀ i s, i < n → P i s → c (G i s) = some (true, G i s)) (he : ∀ s, P n s → c (G n s) = some (false, G n s))
    (hb : ∀ i s, i < n → P i s → match f i s with
      | .inl s' => P (i + 1) s' ∧ ∃ (o : Nat) (mid : jS), (o = 0 ∨ o = lc) ∧ b (G i s) = some (.inl o, mid) ∧ u mid = some (.inl 0, G (i + 1) s')
      | .inr r => (∃ v st, r = (.inr v, st) ∧ b (G i s) = some (.inr v, st)) ∨ (∃ k st, k ≠ 0 ∧ k ≠ lc ∧ k ≠ lb ∧ r = (.inl k, st) ∧ b (G i s) = some (.inl k, st)) ∨ (∃ st, lb ≠ 0 ∧ lb ≠ lc ∧ r = (.inl 0, st) ∧ b (G i s) = some (.inl lb, st))) :
    ∀ (k i : Nat) (s : σ), i + k = n → P i s → s_loop lb lc c b u (G i s) = match lgo f k i s with
      | .inl s' => some (.inl 0, G n s')
      | .inr r => some r := by
  have key : ∀ (k i : Nat) (s : σ), i + k = n → P i s → j_loopN lb lc c b u (k + 1) (G i s) = match lgo f k i s with
      | .inl s' => some (.inl 0, G n s')
      | .inr r => some r := by
    intro k
    induction k with
    | zero =>
      intro i s hi hP
      have hi : i = n := by omega
      subst hi
      simp only [j_loopN, he s hP, jb_some, lgo]
      simp
    | succ k ih =>
      intro i s hi hP
      have h1 := hb i s (by omega) hP
      simp only [lgo]
      cases hf : f i s with
      | inl s' =>
        rw [hf] at h1
        obtain ⟨hP', o, mid, ho, hb1, hu1⟩ := h1
        have := ih (i + 1) s' (by omega) hP'
        rw [j_loopN, hc i s (by omega) hP, jb_some]
        simp only [if_true, hb1, jb_some, ho, hu1]
        exact this
      | inr r =>
        rw [hf] at h1
        rw [j_loopN, hc i s (by omega) hP, jb_some]
        simp only [if_true]
        rcases h1 with ⟨v, st, rfl, hb1⟩ | ⟨k0, st, q1, q2, q3, rfl, hb1⟩ | ⟨st, q1, q2, rfl, hb1⟩
        · simp only [hb1, jb_some]
        · simp only [hb1, jb_some]
          rw [if_neg (by simp [q1, q2]), if_neg q3]
        · simp only [hb1, jb_some]
          rw [if_neg (by simp [q1, q2])]
          simp
  intro k i s hi hP
  have h := key k i s hi hP
  cases hl : lgo f k i s with
  | inl s' => rw [hl] at h; exact s_loop_of h
  | inr r => rw [hl] at h; exact s_loop_of h
/-- what a loop that never leaves early does -/
def nfo {σ : Type} (f : Nat → σ → σ) : Nat → σ → σ
  | 0, s => s
  | k + 1, s => f k (nfo f k s)
theorem lgo_nfo {σ ρ : Type} (f : Nat → σ → σ) : ∀ (k i : Nat) (s : σ), lgo (ρ := ρ) (fun j t => .inl (f j t)) k i (nfo f i s) = .inl (nfo f (i + k) s) := by
  intro k
  induction k with
  | zero => intro i s; rfl
  | succ k ih =>
    intro i s
    simp only [lgo]
    have := ih (i + 1) s
    rw [show i + (k + 1) = i + 1 + k by omega]
    exact this
/-- a plain counting loop -/
theorem loop_nfo {σ : Type} {lb lc : Nat} {c : jB} {b u : jSt} (n : Nat) (G : Nat → σ → jS) (f : Nat → σ → σ) (P : Nat → σ → Prop)
    (hc : ∀ i s, i < n → P i s → c (G i s) = some (true, G i s)) (he : ∀ s, P n s → c (G n s) = some (false, G n s))
    (hb : ∀ i s, i < n → P i s → P (i + 1) (f i s) ∧ ∃ (o : Nat) (mid : jS), (o = 0 ∨ o = lc) ∧ b (G i s) = some (.inl o, mid) ∧ u mid = some (.inl 0, G (i + 1) (f i s)))
    (s : σ) (hP : P 0 s) : s_loop lb lc c b u (G 0 s) = some (.inl 0, G n (nfo f n s)) := by
  have h := loop_gen (lb := lb) (lc := lc) (c := c) (b := b) (u := u) n G (fun i s => .inl (f i s)) P hc he (fun i s hi hp => hb i s hi hp) n 0 s (by omega) hP
  have h2 := lgo_nfo (ρ := jO × jS) f n 0 s
  rw [Nat.zero_add] at h2
  rw [show nfo f 0 s = s from rfl] at h2
  rw [h2] at h
  exact h
theorem nfo_inv {σ : Type} {f : Nat → σ → σ} (P : Nat → σ → Prop) (n : Nat) (s : σ) (h0 : P 0 s) (hs : ∀ i t, i < n → P i t → P (i + 1) (f i t)) : ∀ k, k ≤ n → P k (nfo f k s) := by
  intro k
  induction k with
  | zero => intro _; exact h0
  | succ k ih => intro hk; exact hs k _ (by omega) (ih (by omega))
