/-! rules of the clean semantics -/
theorem jb_some {α β : Type} {v : α} {st : jS} {f : α → jS → Option β} : jb (some (v, st)) f = f v st := rfl
theorem jb_none {α β : Type} {f : α → jS → Option β} : jb (none : Option (α × jS)) f = none := rfl
theorem jb_eq {α β : Type} {x : Option (α × jS)} {f : α → jS → Option β} {r : β} (h : jb x f = some r) : ∃ v st, x = some (v, st) ∧ f v st = some r := by
  match x, h with
  | some (v, st), h => exact ⟨v, st, rfl, h⟩
theorem j_loopN_mono {lb lc : Nat} {c : jB} {b u : jSt} : ∀ (n : Nat) (st : jS) (r : jO × jS), j_loopN lb lc c b u n st = some r → ∀ m, n ≤ m → j_loopN lb lc c b u m st = some r := by
  intro n
  induction n with
  | zero => intro st r h; simp [j_loopN] at h
  | succ n ih =>
    intro st r h m hm
    obtain ⟨m, rfl⟩ : ∃ k, m = k + 1 := ⟨m - 1, by omega⟩
    simp only [j_loopN] at h ⊢
    obtain ⟨t, s1, h1, h2⟩ := jb_eq h
    rw [h1, jb_some]
    cases t with
    | false => simpa using h2
    | true =>
      simp only [if_true] at h2 ⊢
      obtain ⟨o, s2, h3, h4⟩ := jb_eq h2
      rw [h3, jb_some]
      match o, h4 with
      | .inr v, h4 => exact h4
      | .inl k, h4 =>
        simp only at h4 ⊢
        by_cases hk : k = 0 ∨ k = lc
        · rw [if_pos hk] at h4 ⊢
          obtain ⟨o3, s3, h5, h6⟩ := jb_eq h4
          rw [h5, jb_some]
          match o3, h6 with
          | .inl 0, h6 => exact ih _ _ h6 _ (by omega)
        · rw [if_neg hk] at h4 ⊢
          exact h4
theorem s_loop_of {lb lc : Nat} {c : jB} {b u : jSt} {st : jS} {r : jO × jS} {n : Nat} (h : j_loopN lb lc c b u n st = some r) : s_loop lb lc c b u st = some r := by
  have hex : ∃ n r, j_loopN lb lc c b u n st = some r := ⟨n, r, h⟩
  unfold s_loop
  rw [dif_pos hex]
  obtain ⟨r', h'⟩ := Classical.choose_spec hex
  rw [h']
  have h1 := j_loopN_mono _ _ _ h (n + Classical.choose hex) (by omega)
  have h2 := j_loopN_mono _ _ _ h' (n + Classical.choose hex) (by omega)
  rw [h1] at h2
  exact h2.symm
theorem s_loop_ex {lb lc : Nat} {c : jB} {b u : jSt} {st : jS} {r : jO × jS} (h : s_loop lb lc c b u st = some r) : ∃ n, j_loopN lb lc c b u n st = some r := by
  unfold s_loop at h
  by_cases hex : ∃ n r, j_loopN lb lc c b u n st = some r
  · rw [dif_pos hex] at h
    exact ⟨_, h⟩
  · rw [dif_neg hex] at h
    cases h
theorem j_doN_mono {lb lc : Nat} {c : jB} {b : jSt} : ∀ (n : Nat) (st : jS) (r : jO × jS), j_doN lb lc b c n st = some r → ∀ m, n ≤ m → j_doN lb lc b c m st = some r := by
  intro n
  induction n with
  | zero => intro st r h; simp [j_doN] at h
  | succ n ih =>
    intro st r h m hm
    obtain ⟨m, rfl⟩ : ∃ k, m = k + 1 := ⟨m - 1, by omega⟩
    simp only [j_doN] at h ⊢
    obtain ⟨o, s2, h3, h4⟩ := jb_eq h
    rw [h3, jb_some]
    match o, h4 with
    | .inr v, h4 => exact h4
    | .inl k, h4 =>
      simp only at h4 ⊢
      by_cases hk : k = 0 ∨ k = lc
      · rw [if_pos hk] at h4 ⊢
        obtain ⟨t, s3, h5, h6⟩ := jb_eq h4
        rw [h5, jb_some]
        cases t with
        | false => simpa using h6
        | true =>
          simp only [if_true] at h6 ⊢
          exact ih _ _ h6 _ (by omega)
      · rw [if_neg hk] at h4 ⊢
        exact h4
theorem s_do_of {lb lc : Nat} {c : jB} {b : jSt} {st : jS} {r : jO × jS} {n : Nat} (h : j_doN lb lc b c n st = some r) : s_do lb lc b c st = some r := by
  have hex : ∃ n r, j_doN lb lc b c n st = some r := ⟨n, r, h⟩
  unfold s_do
  rw [dif_pos hex]
  obtain ⟨r', h'⟩ := Classical.choose_spec hex
  rw [h']
  have h1 := j_doN_mono _ _ _ h (n + Classical.choose hex) (by omega)
  have h2 := j_doN_mono _ _ _ h' (n + Classical.choose hex) (by omega)
  rw [h1] at h2
  exact h2.symm
theorem s_do_ex {lb lc : Nat} {c : jB} {b : jSt} {st : jS} {r : jO × jS} (h : s_do lb lc b c st = some r) : ∃ n, j_doN lb lc b c n st = some r := by
  unfold s_do at h
  by_cases hex : ∃ n r, j_doN lb lc b c n st = some r
  · rw [dif_pos hex] at h
    exact ⟨_, h⟩
  · rw [dif_neg hex] at h
    cases h
