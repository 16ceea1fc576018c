/-! loops through methods that may make the tables -/
theorem loop_1x {γ : Type} {lb lc : Nat} {c : jB} {b u : jSt} (n : Nat) (G : Nat → γ → jHp → jS) (X : jHp → Prop) (p : Nat → Bool) (V : Nat → jO)
    (hb1 : ∀ i j h, i < n → X h → p i = true → ∃ L h', X h' ∧ lstp lb lc c b u (G i j h) = some (.inr (V i, (L, h'))))
    (hb0 : ∀ i j h, i < n → X h → p i = false → ∃ j' h', X h' ∧ lstp lb lc c b u (G i j h) = some (.inl (G (i + 1) j' h')))
    (he : ∀ j h, X h → lstp lb lc c b u (G n j h) = some (.inr (.inl 0, G n j h))) (j : γ) (h : jHp) (hX : X h) :
    match fst1 p n with
      | some i => ∃ L h', X h' ∧ s_loop lb lc c b u (G 0 j h) = some (V i, (L, h'))
      | none => ∃ j' h', X h' ∧ s_loop lb lc c b u (G 0 j h) = some (.inl 0, G n j' h') := by
  have key : ∀ (k i : Nat) (j : γ) (h : jHp), i + k = n → X h → match fi p k i with
      | some i' => ∃ L h', X h' ∧ s_loop lb lc c b u (G i j h) = some (V i', (L, h'))
      | none => ∃ j' h', X h' ∧ s_loop lb lc c b u (G i j h) = some (.inl 0, G n j' h') := by
    intro k
    induction k with
    | zero => intro i j h hi hX; have hi : i = n := by omega
              subst hi; exact ⟨j, h, hX, s_loop_inr (he j h hX)⟩
    | succ k ih =>
      intro i j h hi hX
      simp only [fi]
      by_cases hp : p i = true
      · rw [if_pos hp]
        obtain ⟨L, h', hX', hL⟩ := hb1 i j h (by omega) hX hp
        exact ⟨L, h', hX', s_loop_inr hL⟩
      · rw [if_neg hp]
        obtain ⟨j', h', hX', hj⟩ := hb0 i j h (by omega) hX (by simpa using hp)
        have := ih (i + 1) j' h' (by omega) hX'
        cases hf : fi p k (i + 1) with
        | none => rw [hf] at this; obtain ⟨j2, h2, hX2, e2⟩ := this; exact ⟨j2, h2, hX2, s_loop_inl hj e2⟩
        | some i' => rw [hf] at this; obtain ⟨L, h2, hX2, e2⟩ := this; exact ⟨L, h2, hX2, s_loop_inl hj e2⟩
  exact key n 0 j h (by omega) hX
theorem loop_nx {σ γ : Type} {lb lc : Nat} {c : jB} {b u : jSt} (n : Nat) (G : Nat → σ → γ → jHp → jS) (X : jHp → Prop) (f : Nat → σ → σ) (P : Nat → σ → Prop)
    (hb : ∀ i s j h, i < n → X h → P i s → P (i + 1) (f i s) ∧ ∃ j' h', X h' ∧ lstp lb lc c b u (G i s j h) = some (.inl (G (i + 1) (f i s) j' h')))
    (he : ∀ s j h, X h → P n s → lstp lb lc c b u (G n s j h) = some (.inr (.inl 0, G n s j h))) (s : σ) (j : γ) (h : jHp) (hX : X h) (hP : P 0 s) :
    ∃ j' h', X h' ∧ P n (nfo f n s) ∧ s_loop lb lc c b u (G 0 s j h) = some (.inl 0, G n (nfo f n s) j' h') := by
  have key : ∀ (k i : Nat) (j : γ) (h : jHp), i + k = n → X h → P i (nfo f i s) → ∃ j' h', X h' ∧ P n (nfo f n s) ∧ s_loop lb lc c b u (G i (nfo f i s) j h) = some (.inl 0, G n (nfo f n s) j' h') := by
    intro k
    induction k with
    | zero => intro i j h hi hX hP; have hi : i = n := by omega
              subst hi; exact ⟨j, h, hX, hP, s_loop_inr (he _ j h hX hP)⟩
    | succ k ih =>
      intro i j h hi hX hP
      obtain ⟨hP', j', h', hX', e⟩ := hb i _ j h (by omega) hX hP
      obtain ⟨j2, h2, hX2, hP2, e2⟩ := ih (i + 1) j' h' (by omega) hX' hP'
      exact ⟨j2, h2, hX2, hP2, s_loop_inl e e2⟩
  exact key n 0 j h (by omega) hX hP
/-- from h to h' nothing but the tables was made -/
def MX (A : AS) (h h' : jHp) : Prop := Fr Wmk h h' ∧ RMK A h' ∧ RMT A h'
theorem MX_refl {A : AS} {h : jHp} (k : RMK A h) (t : RMT A h) : MX A h h := ⟨Fr_refl _ _, k, t⟩
theorem MX_trans {A : AS} {h h1 h2 : jHp} (a : MX A h h1) (b : MX A h1 h2) : MX A h h2 := ⟨Fr_trans a.1 b.1, b.2⟩
theorem x_M_takeOf {A : AS} {h : jHp} (k : RMK A h) (t : RMT A h) {f S : Nat} (hf : f < aNo A) (hS : S < 2 ^ 31) : ∃ h', f_M_takeOf [.ref 98, .int (nI f), .int (nI S)] h = some (some (.int (nI (sTk A f S))), h') ∧ MX A h h' := by
  obtain ⟨h', e1, e2, e3, e4⟩ := e_M_takeOf k t hf hS
  exact ⟨h', e1, e2, RMK_fr k e2 Wmk_cM, Or.inr ⟨e3, e4⟩⟩
