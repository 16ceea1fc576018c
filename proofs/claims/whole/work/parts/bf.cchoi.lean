/-! frames where references change too -/
def FrR (W V : Nat → Nat → Prop) (h h' : jHp) : Prop := (hT h' = hT h ∧ hJ h' = hJ h ∧ hN h' = hN h ∧ hS h' = hS h) ∧ (∀ a k, ¬ V a k → hR h' a k = hR h a k) ∧ ∀ a k, ¬ W a k → hI h' a k = hI h a k
theorem FrR_of {W V : Nat → Nat → Prop} {h h' : jHp} (f : Fr W h h') : FrR W V h h' := by
  obtain ⟨⟨a1, a2, a3, a4, a5⟩, a6⟩ := f
  exact ⟨⟨a1, a3, a4, a5⟩, fun a k _ => by rw [a2], a6⟩
theorem FrR_set {W V : Nat → Nat → Prop} {h : jHp} {a i : Nat} (v : Nat) (hV : V a i) : FrR W V h (hSetR h a i v) := by
  refine ⟨⟨rfl, rfl, rfl, rfl⟩, fun b k hb => ?_, fun _ _ _ => rfl⟩
  rw [hR_setR, if_neg]
  rintro ⟨rfl, rfl⟩
  exact hb hV
theorem FrR_trans {W V : Nat → Nat → Prop} {h h1 h2 : jHp} (a : FrR W V h h1) (b : FrR W V h1 h2) : FrR W V h h2 := by
  obtain ⟨⟨a1, a2, a3, a4⟩, a5, a6⟩ := a
  obtain ⟨⟨b1, b2, b3, b4⟩, b5, b6⟩ := b
  exact ⟨⟨b1.trans a1, b2.trans a2, b3.trans a3, b4.trans a4⟩, fun x y hx => (b5 x y hx).trans (a5 x y hx), fun x y hx => (b6 x y hx).trans (a6 x y hx)⟩
theorem FrR_mono {W V W' V' : Nat → Nat → Prop} {h h1 : jHp} (a : FrR W V h h1) (m : ∀ a k, W a k → W' a k) (n : ∀ a k, V a k → V' a k) : FrR W' V' h h1 := ⟨a.1, fun x y hx => a.2.1 x y fun q => hx (n x y q), fun x y hx => a.2.2 x y fun q => hx (m x y q)⟩
theorem CGr_r {W V : Nat → Nat → Prop} {fa fl sa sl ra rl so di qu co : Nat} {h h' : jHp} (g : CGr fa fl sa sl ra rl so di qu co h) (f : FrR W V h h') (hV : ∀ a k, V a k → a ≠ 73 ∧ a ≠ 77) : CGr fa fl sa sl ra rl so di qu co h' := by
  have e : ∀ a k, a = 73 ∨ a = 77 → hR h' a k = hR h a k := fun a k ha => f.2.1 a k fun q => by
    have := hV a k q
    omega
  unfold CGr
  rw [f.1.1, f.1.2.2.1, e 73 11 (by omega), e 77 6 (by omega), e 77 8 (by omega), e 77 9 (by omega), e 77 10 (by omega), e 77 11 (by omega), e 77 12 (by omega)]
  exact g
theorem CSt_r {A : AS} {W V : Nat → Nat → Prop} {h h' : jHp} (g : CSt A h) (f : FrR W V h h') (hV : ∀ a k, V a k → a ≠ 73 ∧ a ≠ 77) (hW : ∀ a j, W a j → ¬ isG a ∧ a ≠ 77) : CSt A h' := by
  obtain ⟨fa, fl, sa, sl, ra, rl, so, di, qu, co, g1, g2⟩ := g
  refine ⟨fa, fl, sa, sl, ra, rl, so, di, qu, co, CGr_r g1 f hV, ?_⟩
  have e77 : ∀ j, hI h' 77 j = hI h 77 j := fun j => f.2.2 77 j fun q => (hW _ _ q).2 rfl
  unfold CKn
  rw [e77, e77, e77]
  rcases g2 with q | ⟨q1, q2, q3, q4, q5, q6⟩
  · exact Or.inl q
  · refine Or.inr ⟨q1, q2, q3, q4, fun i hi => ?_, ?_⟩
    · rw [f.2.2 _ _ fun q => (hW _ _ q).1 g1.2.1.1]; exact q5 i hi
    · rcases q6 with q | ⟨z1, z2, σ, s1, s2, s3⟩
      · exact Or.inl q
      · refine Or.inr ⟨z1, z2, σ, fun i hi => ?_, s2, s3⟩
        obtain ⟨d1, d2, d3⟩ := s1 i hi
        exact ⟨d1, by rw [f.2.2 _ _ fun q => (hW _ _ q).1 g1.2.1.2.2.2.1]; exact d2, by rw [f.1.2.1]; exact d3⟩
theorem CSt_n {A B : AS} {W V : Nat → Nat → Prop} {h h' : jHp} (g : CSt A h) (f : FrR W V h h') (hV : ∀ a k, V a k → a ≠ 73 ∧ a ≠ 77) (h0 : hI h' 77 4 = 0) : CSt B h' := by
  obtain ⟨fa, fl, sa, sl, ra, rl, so, di, qu, co, g1, g2⟩ := g
  exact ⟨fa, fl, sa, sl, ra, rl, so, di, qu, co, CGr_r g1 f hV, Or.inl h0⟩
theorem FC_r {W V : Nat → Nat → Prop} {h h' : jHp} (f : FrR W V h h') (hW : ∀ a j, W a j → a ≤ 97) (hV : ∀ a j, V a j → a ≤ 97 ∧ a ≠ 73 ∧ a ≠ 77) : FC h h' := by
  obtain ⟨⟨a1, a3, a4, a5⟩, a2, a6⟩ := f
  have hp : pot h' = pot h := by
    unfold pot
    rw [a1, a2 73 11 fun q => (hV _ _ q).2.1 rfl, a2 77 8 fun q => (hV _ _ q).2.2 rfl]
  exact ⟨fun a k h1 h2 => ⟨a6 a k fun q => by have := hW a k q; omega, by rw [a3], a2 a k fun q => by have := hV a k q; omega⟩, fun a _ => by rw [a1], by rw [a4]; exact Nat.le_refl _, by rw [a5]; exact Nat.le_refl _, by rw [hp, a4]; exact Nat.le_refl _, by rw [hp, a5]; exact Nat.le_refl _⟩
theorem CR_r {A : AS} {W V : Nat → Nat → Prop} {k bl : Nat} {h h' : jHp} (t : CR A k bl h) (f : FrR W V h h') (hW : ∀ a j, W a j → ¬ Wdk k a j) : CR A k bl h' := by
  have e : ∀ a j, Wdk k a j → hI h' a j = hI h a j := fun a j q => f.2.2 a j fun z => hW a j z q
  obtain ⟨t1, t2, t3, t4, t5⟩ := t
  have e7 := e (dA k) 7 (Or.inl ⟨rfl, Or.inl rfl⟩)
  have e8 := e (dA k) 8 (Or.inl ⟨rfl, Or.inr rfl⟩)
  refine ⟨?_, fun q => by rw [e7]; exact t2 q, t3, by rw [e8]; exact t4, fun l hl hb P hP => by rw [e _ _ (Or.inr (Or.inl rfl))]; exact t5 l hl hb P hP⟩
  rcases t1 with q | ⟨q1, q2, q3⟩
  · left; rw [e7]; exact q
  · right
    exact ⟨by rw [e7]; exact q1, fun i hi => by rw [e _ _ (Or.inr (Or.inr (Or.inr rfl)))]; exact q2 i hi, fun P hP => by rw [e _ _ (Or.inr (Or.inr (Or.inl rfl)))]; exact q3 P hP⟩
theorem Shape_d {h : jHp} (hs : Shape h) {f : Nat} (hf : f < 4) (v : Nat) : Shape (hSetR h (dA f) 3 v) := by
  have : f = 0 ∨ f = 1 ∨ f = 2 ∨ f = 3 := by omega
  rcases this with rfl | rfl | rfl | rfl <;> exact Shape.setR hs v (R0_no (by decide +kernel))
theorem Shape_1 {h : jHp} (hs : Shape h) (v : Nat) : Shape (hSetR h 1 10 v) := Shape.setR hs v (R0_no (by decide +kernel))
theorem ag_choi {A : AS} {f : Nat} (C : CH) {k : Nat} (hk : k ≠ f) : TkAg A (aChoi A f C) k := ⟨Nat.le_refl _, Nat.le_refl _, fun b _ => ⟨rfl, rfl, rfl, rfl, rfl⟩, fun b h1 h2 => absurd h2 (Nat.not_lt.mpr h1), fun p _ => rfl, updN_ne _ _ hk⟩
/-- what read may change -/
def Wrr (a b j : Nat) : Prop := Wtc a b j ∨ (b = 88 ∧ j = 1)
def V88 (b j : Nat) : Prop := b = 88 ∧ j = 3
theorem Wrr_ne {a b j : Nat} (ha : isCA a) (h : Wrr a b j) : 30 ≤ b ∧ ¬ isG b ∧ b ≠ 77 ∧ b ≠ 89 ∧ b ≠ 90 ∧ b ≠ 91 ∧ b ≤ 97 ∧ (∀ k, k < 4 → ¬ Wdk k b j) ∧ ∀ k, k < 4 → ¬ (b = dA k ∧ j = 0) := by
  have hal := CA_lt ha
  unfold isCA at ha
  unfold Wrr Wtc at h
  unfold isG
  refine ⟨by omega, by omega, by omega, by omega, by omega, by omega, by omega, fun k hk q => ?_, fun k hk q => ?_⟩
  · unfold Wdk dA at q
    omega
  · unfold dA at q
    omega
theorem CA_dis {a b : Nat} (ha : isCA a) (hb : isCA b) (h : a ≠ b) {i : Nat} (hi : i ≤ 5) : ¬ (a ≤ b + i ∧ b + i ≤ a + 5) := by
  unfold isCA at ha hb
  omega
theorem RC_read {A : AS} {tx : List Nat} {rw : List Int32} {ca bl : Nat → Nat} {h h1 : jHp} (r : RC A tx rw h) (d : DK A ca bl h) (sp : CSp ca h) (f : FrR (Wrr (ca 4)) V88 h h1) (hs1 : Shape h1) (c0 : hI h1 88 1 = nI 0) : RC A [] rw h1 ∧ FC h h1 ∧ DK A ca bl h1 ∧ CSp ca h1 := by
  obtain ⟨r1, -, r3, r4, r5, r6⟩ := r
  have ha := sp.2.1 4 (by decide)
  have hW := fun b j (q : Wrr (ca 4) b j) => Wrr_ne ha q
  have e : ∀ a j, a ≤ 29 → hI h1 a j = hI h a j := fun a j h1 => f.2.2 a j fun q => by have := hW a j q; omega
  have eR : ∀ a k, a ≠ 88 → hR h1 a k = hR h a k := fun a k h1 => f.2.1 a k fun q => h1 q.1
  have d1 : DK A ca bl h1 := fun k hk => by
    obtain ⟨⟨d0, d1, d2, d3⟩, t⟩ := d k hk
    refine ⟨⟨?_, ?_, d2, CHc_eq d3 fun i j hi => f.2.2 _ _ fun q => ?_⟩, CR_r t f fun a j q => (hW a j q).2.2.2.2.2.2.2.1 k hk⟩
    · rw [f.2.2 _ _ fun q => (hW _ _ q).2.2.2.2.2.2.2.2 k hk ⟨rfl, rfl⟩]; exact d0
    · rw [eR _ _ (by unfold dA; omega)]; exact d1
    · have hne : ca 4 ≠ ca k := fun z => by have := sp.2.2 4 k (by decide) (by omega) z; omega
      have := CA_dis ha d2 hne hi
      unfold Wrr Wtc at q
      unfold isCA at d2
      omega
  have sp1 : CSp ca h1 := ⟨by rw [eR _ _ (by decide)]; exact sp.1, sp.2⟩
  refine ⟨⟨⟨⟨hs1, r1.1.2.1, CB_eq r1.1.2.2.1 e, CP_eq r1.1.2.2.2 e⟩, CC_eq r1.2 e⟩, ⟨ca, bl, d1, sp1⟩, ?_, ⟨⟨by simp, fun x hx => by simp at hx⟩, c0, fun i hi => by simp at hi⟩, ⟨r5.1, ?_, fun i hi => ?_⟩, CSt_r r6 f (fun a k q => by unfold V88 at q; omega) fun a j q => ⟨(hW a j q).2.1, (hW a j q).2.2.1⟩⟩, FC_r f (fun a j q => (hW a j q).2.2.2.2.2.2.1) (fun a j q => by unfold V88 at q; omega), d1, sp1⟩
  · rw [e _ _ (by omega)]; exact r3
  · rw [f.2.2 _ _ fun q => (hW _ _ q).2.2.2.2.1 rfl]; exact r5.2.1
  · rw [f.2.2 _ _ fun q => (hW _ _ q).2.2.2.2.2.1 rfl]; exact r5.2.2 i hi
