/-! one turn of a loop, and what follows for the whole loop -/
def lstp (lb lc : Nat) (c : jB) (b u : jSt) (st : jS) : Option (jS ⊕ (jO × jS)) :=
  jb (c st) fun t s1 => if t then jb (b s1) (fun o s2 => match o with
    | .inl k => if k = 0 ∨ k = lc then jb (u s2) (fun o3 s3 => match o3 with
        | .inl 0 => some (.inl s3)
        | _ => none) else if k = lb then some (.inr (.inl 0, s2)) else some (.inr (.inl k, s2))
    | .inr v => some (.inr (.inr v, s2))) else some (.inr (.inl 0, s1))
theorem loopN_inl {lb lc : Nat} {c : jB} {b u : jSt} {st st' : jS} (h : lstp lb lc c b u st = some (.inl st')) (n : Nat) : j_loopN lb lc c b u (n + 1) st = j_loopN lb lc c b u n st' := by
  unfold lstp at h
  obtain ⟨t, s1, h1, h2⟩ := jb_eq h
  rw [j_loopN, h1, jb_some]
  cases t with
  | false => cases h2
  | true =>
    simp only [if_true] at h2 ⊢
    obtain ⟨o, s2, h3, h4⟩ := jb_eq h2
    rw [h3, jb_some]
    cases o with
    | inr v => cases h4
    | inl k =>
      simp only at h4 ⊢
      by_cases hk : k = 0 ∨ k = lc
      · rw [if_pos hk] at h4 ⊢
        obtain ⟨o3, s3, h5, h6⟩ := jb_eq h4
        rw [h5, jb_some]
        match o3, h6 with
        | .inl 0, h6 => cases h6; rfl
      · rw [if_neg hk] at h4
        by_cases hl : k = lb
        · rw [if_pos hl] at h4; cases h4
        · rw [if_neg hl] at h4; cases h4
theorem loopN_inr {lb lc : Nat} {c : jB} {b u : jSt} {st : jS} {r : jO × jS} (h : lstp lb lc c b u st = some (.inr r)) (n : Nat) : j_loopN lb lc c b u (n + 1) st = some r := by
  unfold lstp at h
  obtain ⟨t, s1, h1, h2⟩ := jb_eq h
  rw [j_loopN, h1, jb_some]
  cases t with
  | false => cases h2; rfl
  | true =>
    simp only [if_true] at h2 ⊢
    obtain ⟨o, s2, h3, h4⟩ := jb_eq h2
    rw [h3, jb_some]
    cases o with
    | inr v => cases h4; rfl
    | inl k =>
      simp only at h4 ⊢
      by_cases hk : k = 0 ∨ k = lc
      · rw [if_pos hk] at h4
        obtain ⟨o3, s3, h5, h6⟩ := jb_eq h4
        match o3, h6 with
        | .inl 0, h6 => cases h6
      · rw [if_neg hk] at h4 ⊢
        by_cases hl : k = lb
        · rw [if_pos hl] at h4 ⊢; cases h4; rfl
        · rw [if_neg hl] at h4 ⊢; cases h4; rfl
theorem s_loop_inl {lb lc : Nat} {c : jB} {b u : jSt} {st st' : jS} {r : jO × jS} (h : lstp lb lc c b u st = some (.inl st')) (h2 : s_loop lb lc c b u st' = some r) : s_loop lb lc c b u st = some r := by
  obtain ⟨n, hn⟩ := s_loop_ex h2
  exact s_loop_of (n := n + 1) (by rw [loopN_inl h]; exact hn)
theorem s_loop_inr {lb lc : Nat} {c : jB} {b u : jSt} {st : jS} {r : jO × jS} (h : lstp lb lc c b u st = some (.inr r)) : s_loop lb lc c b u st = some r := s_loop_of (n := 1) (loopN_inr h 0)
/-- any loop, by a measure -/
theorem loop_ind {τ : Type} {lb lc : Nat} {c : jB} {b u : jSt} (G : τ → jS) (P : τ → Prop) (R : τ → jO × jS → Prop) (m : τ → Nat)
    (h : ∀ t, P t → (∃ t', P t' ∧ m t' < m t ∧ lstp lb lc c b u (G t) = some (.inl (G t')) ∧ ∀ r, R t' r → R t r) ∨ (∃ r, lstp lb lc c b u (G t) = some (.inr r) ∧ R t r)) :
    ∀ t, P t → ∃ r, s_loop lb lc c b u (G t) = some r ∧ R t r := by
  have key : ∀ n t, m t < n → P t → ∃ r, s_loop lb lc c b u (G t) = some r ∧ R t r := by
    intro n
    induction n with
    | zero => intro t ht; omega
    | succ n ih =>
      intro t ht hP
      rcases h t hP with ⟨t', hP', hm, hl, hR⟩ | ⟨r, hl, hR⟩
      · obtain ⟨r, h1, h2⟩ := ih t' (by omega) hP'
        exact ⟨r, s_loop_inl hl h1, hR r h2⟩
      · exact ⟨r, s_loop_inr hl, hR⟩
  exact fun t hP => key (m t + 1) t (by omega) hP
/-- a counting loop that may leave -/
theorem loop_f {σ : Type} {lb lc : Nat} {c : jB} {b u : jSt} (n : Nat) (G : Nat → σ → jS) (f : Nat → σ → σ ⊕ (jO × jS)) (P : Nat → σ → Prop)
    (hb : ∀ i s, i < n → P i s → (∀ s', f i s = .inl s' → P (i + 1) s') ∧ lstp lb lc c b u (G i s) = some (match f i s with
      | .inl s' => .inl (G (i + 1) s')
      | .inr r => .inr r))
    (he : ∀ s, P n s → lstp lb lc c b u (G n s) = some (.inr (.inl 0, G n s))) :
    ∀ (k i : Nat) (s : σ), i + k = n → P i s → s_loop lb lc c b u (G i s) = some (match lgo f k i s with
      | .inl s' => (.inl 0, G n s')
      | .inr r => r) := by
  intro k
  induction k with
  | zero =>
    intro i s hi hP
    have hi : i = n := by omega
    subst hi
    exact s_loop_inr (he s hP)
  | succ k ih =>
    intro i s hi hP
    obtain ⟨h1, h2⟩ := hb i s (by omega) hP
    simp only [lgo]
    cases hf : f i s with
    | inl s' =>
      rw [hf] at h2
      exact s_loop_inl h2 (ih (i + 1) s' (by omega) (h1 s' hf))
    | inr r =>
      rw [hf] at h2
      exact s_loop_inr h2
/-- a counting loop that never leaves -/
theorem loop_n {σ : Type} {lb lc : Nat} {c : jB} {b u : jSt} (n : Nat) (G : Nat → σ → jS) (f : Nat → σ → σ) (P : Nat → σ → Prop)
    (hb : ∀ i s, i < n → P i s → P (i + 1) (f i s) ∧ lstp lb lc c b u (G i s) = some (.inl (G (i + 1) (f i s))))
    (he : ∀ s, P n s → lstp lb lc c b u (G n s) = some (.inr (.inl 0, G n s)))
    (s : σ) (hP : P 0 s) : s_loop lb lc c b u (G 0 s) = some (.inl 0, G n (nfo f n s)) := by
  have h := loop_f (lb := lb) (lc := lc) (c := c) (b := b) (u := u) n G (fun i s => .inl (f i s)) P (fun i s hi hP => ⟨fun s' e => by cases e; exact (hb i s hi hP).1, (hb i s hi hP).2⟩) he n 0 s (by omega) hP
  have h2 := lgo_nfo (ρ := jO × jS) f n 0 s
  rw [Nat.zero_add] at h2
  rw [show nfo f 0 s = s from rfl] at h2
  rw [h2] at h
  exact h
/-- a loop that looks for the first place with a property and leaves there -/
theorem loop_1 {lb lc : Nat} {c : jB} {b u : jSt} (n : Nat) (G : Nat → jS) (p : Nat → Bool) (R : Nat → jO × jS)
    (hb1 : ∀ i, i < n → p i = true → lstp lb lc c b u (G i) = some (.inr (R i)))
    (hb0 : ∀ i, i < n → p i = false → lstp lb lc c b u (G i) = some (.inl (G (i + 1))))
    (he : lstp lb lc c b u (G n) = some (.inr (.inl 0, G n))) :
    s_loop lb lc c b u (G 0) = some (match fst1 p n with
      | some i => R i
      | none => (.inl 0, G n)) := by
  have key : ∀ (k i : Nat), i + k = n → s_loop lb lc c b u (G i) = some (match fi p k i with
      | some i => R i
      | none => (.inl 0, G n)) := by
    intro k
    induction k with
    | zero => intro i hi; have hi : i = n := by omega
              subst hi; exact s_loop_inr he
    | succ k ih =>
      intro i hi
      simp only [fi]
      by_cases hp : p i = true
      · rw [if_pos hp]; exact s_loop_inr (hb1 i (by omega) hp)
      · rw [if_neg hp]; exact s_loop_inl (hb0 i (by omega) (by simpa using hp)) (ih (i + 1) (by omega))
  exact key n 0 (by omega)
theorem n_in' {i n : Nat} (hi : i < n) (hn : n < 2 ^ 31) : j_in (nI i) n = true := by
  rw [n_in (by omega)]
  simpa using hi
theorem getD_mem' {α : Type} {l : List α} {i : Nat} {d : α} (h : i < l.length) : l.getD i d ∈ l := by
  rw [List.getD_eq_getElem?_getD, List.getElem?_eq_getElem h]
  exact List.getElem_mem h
def isN : jO → Bool
  | .inl 0 => true
  | _ => false
theorem isN_inl (n : Nat) : isN (.inl n) = (n == 0) := by
  cases n with
  | zero => rfl
  | succ n => rfl
theorem isN_inr (v : Option Value) : isN (.inr v) = false := rfl
theorem s_seq_w (a b : jSt) (st : jS) : s_seq a b st = jb (a st) fun o s1 => if isN o then b s1 else some (o, s1) := by
  unfold s_seq
  cases h : a st with
  | none => rfl
  | some q =>
    obtain ⟨o, s1⟩ := q
    simp only [jb_some]
    match o with
    | .inl 0 => rfl
    | .inl (n + 1) => rfl
    | .inr v => rfl
