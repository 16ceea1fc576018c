/-! frames of what grows -/
def Vg (a k : Nat) : Prop := (a = 73 ∧ k = 11) ∨ (a = 77 ∧ (k = 6 ∨ (8 ≤ k ∧ k ≤ 12)))
def FG (W U : Nat → Nat → Prop) (h h' : jHp) : Prop := (∀ a, a < hN h → hT h' a = hT h a) ∧ hN h ≤ hN h' ∧ (∀ a k, a < hN h → ¬ W a k → hI h' a k = hI h a k) ∧ (∀ a k, a < hN h → ¬ U a k → hJ h' a k = hJ h a k) ∧ ∀ a k, a < hN h → ¬ Vg a k → hR h' a k = hR h a k
theorem FG_refl (W U : Nat → Nat → Prop) (h : jHp) : FG W U h h := ⟨fun _ _ => rfl, Nat.le_refl _, fun _ _ _ _ => rfl, fun _ _ _ _ => rfl, fun _ _ _ _ => rfl⟩
theorem FG_trans {W U : Nat → Nat → Prop} {h h1 h2 : jHp} (a : FG W U h h1) (b : FG W U h1 h2) : FG W U h h2 := by
  obtain ⟨a1, a2, a3, a4, a5⟩ := a
  obtain ⟨b1, b2, b3, b4, b5⟩ := b
  exact ⟨fun x hx => (b1 x (by omega)).trans (a1 x hx), Nat.le_trans a2 b2, fun x k hx n => (b3 x k (by omega) n).trans (a3 x k hx n), fun x k hx n => (b4 x k (by omega) n).trans (a4 x k hx n), fun x k hx n => (b5 x k (by omega) n).trans (a5 x k hx n)⟩
theorem FG_mono {W U W' U' : Nat → Nat → Prop} {h h1 : jHp} (a : FG W U h h1) (m : ∀ a k, a < hN h → W a k → W' a k) (n : ∀ a k, a < hN h → U a k → U' a k) : FG W' U' h h1 := ⟨a.1, a.2.1, fun x k hx q => a.2.2.1 x k hx fun z => q (m x k hx z), fun x k hx q => a.2.2.2.1 x k hx fun z => q (n x k hx z), a.2.2.2.2⟩
theorem FG_Fr {W U : Nat → Nat → Prop} {h h' : jHp} (f : Fr W h h') : FG W U h h' := by
  obtain ⟨⟨a1, a2, a3, a4, a5⟩, a6⟩ := f
  exact ⟨fun a _ => by rw [a1], by rw [a4]; exact Nat.le_refl _, fun a k _ n => a6 a k n, fun a k _ _ => by rw [a3], fun a k _ _ => by rw [a2]⟩
theorem T0_lt : ∀ q ∈ T0, q.1 < 142 := by
  have h : T0.all (fun q => decide (q.1 < 142)) = true := by decide +kernel
  exact fun q hq => of_decide_eq_true (List.all_eq_true.mp h q hq)
theorem R0_ok : ∀ q ∈ R0, q.1 < 142 ∧ ¬ Vg q.1 q.2.1 := by
  have h : R0.all (fun q => decide (q.1 < 142) && !((q.1 == 73 && q.2.1 == 11) || (q.1 == 77 && (q.2.1 == 6 || (decide (8 ≤ q.2.1) && decide (q.2.1 ≤ 12)))))) = true := by decide +kernel
  intro q hq
  have := List.all_eq_true.mp h q hq
  simp only [Bool.and_eq_true, decide_eq_true_iff, Bool.not_eq_true', Bool.or_eq_false_iff, Bool.and_eq_false_iff, beq_eq_false_iff_ne, decide_eq_false_iff_not] at this
  unfold Vg
  omega
theorem FG_shape {W U : Nat → Nat → Prop} {h h' : jHp} (hs : Shape h) (f : FG W U h h') : Shape h' := by
  obtain ⟨s1, s2, s3⟩ := hs
  obtain ⟨a1, a2, a3, a4, a5⟩ := f
  refine ⟨fun q hq => ?_, fun q hq => ?_, by omega⟩
  · have := T0_lt q hq
    rw [a1 _ (by omega)]; exact s1 q hq
  · have := R0_ok q hq
    rw [a5 _ _ (by omega) this.2]; exact s2 q hq
theorem FG_I {W U : Nat → Nat → Prop} {h h' : jHp} (hs : Shape h) (f : FG W U h h') {a k : Nat} (ha : a < 142) (n : ¬ W a k) : hI h' a k = hI h a k := f.2.2.1 a k (by have := hs.2.2; omega) n
theorem FG_R {W U : Nat → Nat → Prop} {h h' : jHp} (hs : Shape h) (f : FG W U h h') {a k : Nat} (ha : a < 142) (n : ¬ Vg a k) : hR h' a k = hR h a k := f.2.2.2.2 a k (by have := hs.2.2; omega) n
theorem MK_g {A : AS} {W U : Nat → Nat → Prop} {h h' : jHp} (x : MK A h) (f : FG W U h h') (hW : ∀ a j, W a j → 72 ≤ a) : MK A h' := by
  have e : ∀ a j, a ≤ 29 → hI h' a j = hI h a j := fun a j ha => FG_I x.1.1 f (by omega) fun q => by have := hW a j q; omega
  exact ⟨⟨FG_shape x.1.1 f, x.1.2.1, CB_eq x.1.2.2.1 e, CP_eq x.1.2.2.2 e⟩, CC_eq x.2 e⟩
theorem MV_g {A : AS} {mv : Nat → Nat} {W U : Nat → Nat → Prop} {h h' : jHp} (x : MV A mv h) (f : FG W U h h') (hW : ∀ a j, W a j → 73 ≤ a) : MV A mv h' := by
  refine ⟨MK_g x.1 f fun a j q => by have := hW a j q; omega, fun o ho => ?_⟩
  obtain ⟨h1, h2, h3⟩ := x.2 o ho
  have hs := x.1.1.1
  refine ⟨h1, ?_, fun P hP => ?_⟩
  · rw [FG_I hs f (by omega) fun q => by have := hW _ _ q; omega]; exact h2
  · rw [FG_I hs f (by unfold dA; omega) fun q => by have := hW _ _ q; unfold dA at this; omega]; exact h3 P hP
theorem CRw_g {W U : Nat → Nat → Prop} {rw : List Int32} {h h' : jHp} (hs : Shape h) (r : CRw rw h) (f : FG W U h h') (hW : ∀ a j, W a j → a ≠ 90 ∧ a ≠ 91) : CRw rw h' := ⟨r.1, by rw [FG_I hs f (by omega) fun q => (hW _ _ q).1 rfl]; exact r.2.1, fun i hi => by rw [FG_I hs f (by omega) fun q => (hW _ _ q).2 rfl]; exact r.2.2 i hi⟩
def okG (a : Nat) : Prop := (72 ≤ a ∧ a ≤ 87) ∨ a = 90 ∨ a = 91 ∨ 142 ≤ a
theorem RC_g {A : AS} {tx : List Nat} {rw rw' : List Int32} {W U : Nat → Nat → Prop} {h h' : jHp} (r : RC A tx rw h) (f : FG W U h h') (hW : ∀ a j, W a j → okG a) (c : CRw rw' h') (cs : CSt A h') : RC A tx rw' h' := by
  obtain ⟨r1, ⟨ca, bl, d, sp⟩, r3, r4, -, -⟩ := r
  have hs := r1.1.1
  have e : ∀ a j, a < 142 → ¬ okG a → hI h' a j = hI h a j := fun a j ha hn => FG_I hs f ha fun q => hn (hW a j q)
  have g : ∀ a j, a < 142 → a ≠ 73 → a ≠ 77 → hR h' a j = hR h a j := fun a j ha h1 h2 => FG_R hs f ha fun q => by unfold Vg at q; omega
  refine ⟨?_, ⟨ca, bl, fun k hk => ⟨?_, ?_⟩, ⟨by rw [g _ _ (by omega) (by omega) (by omega)]; exact sp.1, sp.2⟩⟩, ?_, ⟨r4.1, ?_, fun i hi => ?_⟩, c, cs⟩
  · have e' : ∀ a j, a ≤ 29 → hI h' a j = hI h a j := fun a j ha => e a j (by omega) (by unfold okG; omega)
    exact ⟨⟨FG_shape hs f, r1.1.2.1, CB_eq r1.1.2.2.1 e', CP_eq r1.1.2.2.2 e'⟩, CC_eq r1.2 e'⟩
  · obtain ⟨d0, d1, d2, d3⟩ := (d k hk).1
    refine ⟨?_, ?_, d2, CHc_eq d3 fun i j hi => ?_⟩
    · rw [e _ _ (by unfold dA; omega) (by unfold okG dA; omega)]; exact d0
    · rw [g _ _ (by unfold dA; omega) (by unfold dA; omega) (by unfold dA; omega)]; exact d1
    · unfold isCA at d2
      exact e _ _ (by omega) (by unfold okG; omega)
  · have e2 : ∀ a j, Wdk k a j → hI h' a j = hI h a j := fun a j q => by
      have := Wdk_lt hk q
      exact e _ _ (by omega) (by unfold okG; omega)
    obtain ⟨t1, t2, t3, t4, t5⟩ := (d k hk).2
    have e7 := e2 (dA k) 7 (Or.inl ⟨rfl, Or.inl rfl⟩)
    have e8 := e2 (dA k) 8 (Or.inl ⟨rfl, Or.inr rfl⟩)
    refine ⟨?_, fun q => by rw [e7]; exact t2 q, t3, by rw [e8]; exact t4, fun l hl hb P hP => by rw [e2 _ _ (Or.inr (Or.inl rfl))]; exact t5 l hl hb P hP⟩
    rcases t1 with q | ⟨q1, q2, q3⟩
    · exact Or.inl (by rw [e7]; exact q)
    · exact Or.inr ⟨by rw [e7]; exact q1, fun i hi => by rw [e2 _ _ (Or.inr (Or.inr (Or.inr rfl)))]; exact q2 i hi, fun P hP => by rw [e2 _ _ (Or.inr (Or.inr (Or.inl rfl)))]; exact q3 P hP⟩
  · rw [e _ _ (by omega) (by unfold okG; omega)]; exact r3
  · rw [e _ _ (by omega) (by unfold okG; omega)]; exact r4.2.1
  · rw [e _ _ (by omega) (by unfold okG; omega)]; exact r4.2.2 i hi
theorem FC_g {W U : Nat → Nat → Prop} {h h' : jHp} (f : FG W U h h') (hs : Shape h) (hW : ∀ a j, W a j → okG a) (hU : ∀ a j, U a j → okG a) (hS1 : hS h ≤ hS h') (hN1 : hN h' + pot h ≤ hN h + pot h') (hS2 : hS h' + pot h ≤ hS h + pot h') : FC h h' := by
  have h142 := hs.2.2
  exact ⟨fun a k h1 h2 => ⟨f.2.2.1 a k (by omega) fun q => by have := hW a k q; unfold okG at this; omega, f.2.2.2.1 a k (by omega) fun q => by have := hU a k q; unfold okG at this; omega, f.2.2.2.2 a k (by omega) fun q => by unfold Vg at q; omega⟩, f.1, f.2.1, hS1, hN1, hS2⟩
