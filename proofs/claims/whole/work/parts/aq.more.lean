/-! with places more for each OFFICE -/
def aMv (A : AS) (mv : Nat → Nat) : AS := (A.1, A.2.1, A.2.2.1, A.2.2.2.1, A.2.2.2.2.1, (fun f => (aCh A f).map (fun C => (cMost C + lv A f (mv f), C.2))), A.2.2.2.2.2.2)
theorem aMv_ch (A : AS) (mv : Nat → Nat) (f : Nat) : aCh (aMv A mv) f = (aCh A f).map (fun C => (cMost C + lv A f (mv f), C.2)) := rfl
theorem lv_0 (A : AS) (f : Nat) : lv A f 0 = 0 := Nat.zero_min _
theorem aMv_0 (A : AS) (mv : Nat → Nat) (h : ∀ f, mv f = 0) : aMv A mv = A := by
  have : (fun f => (aCh A f).map (fun C => (cMost C + lv A f (mv f), C.2))) = aCh A := by
    funext f
    rw [h f, lv_0]
    cases aCh A f with
    | none => rfl
    | some C => rfl
  unfold aMv
  rw [this]
  rfl
theorem WF_mv {A : AS} (w : WF A) (mv : Nat → Nat) : WF (aMv A mv) := by
  refine WF_ch w rfl rfl rfl rfl rfl rfl fun g => ?_
  rw [aMv_ch]
  have hno : aNo (aMv A mv) = aNo A := rfl
  rw [hno]
  have hl := lv_le w g (l := mv g)
  unfold chD at hl
  cases hC : aCh A g with
  | none => exact ⟨fun _ => rfl, fun C h => by cases h⟩
  | some C =>
    rw [hC] at hl
    have hk := (w.2.2.2.2.2.1 g).2 C hC
    refine ⟨fun h => ?_, fun D hD => ?_⟩
    · have := (w.2.2.2.2.2.1 g).1 h; rw [hC] at this; cases this
    · simp only [Option.map_some, Option.some.injEq] at hD
      subst hD
      exact ⟨hl, hk.2⟩
theorem sTk_congr {A B : AS} {f : Nat} (e1 : B.1 = A.1) (e3 : B.2.2.1 = A.2.2.1) (ec : aCh B f = aCh A f) (S : Nat) : sTk B f S = sTk A f S := by
  have hn : aNb B = aNb A := by unfold aNb; rw [e3]
  have ho : aOf B = aOf A := by unfold aOf; rw [e3]
  have hv : ∀ x k, sVal B x k = sVal A x k := fun x k => by
    unfold sVal aPa aYe aTo aPe aKd
    rw [e1, e3]
  have hks : aKs B f = aKs A f := by unfold aKs; rw [ec]
  have hah : ∀ a b l, sAhL B a b l = sAhL A a b l := by
    intro a b l
    induction l with
    | nil => rfl
    | cons k r ih => simp only [sAhL, hv, ih]
  have hor : sOrd B f = sOrd A f := by
    unfold sOrd
    rw [hn]
    have : ∀ n, sOrdN B f n = sOrdN A f n := by
      intro n
      induction n with
      | zero => rfl
      | succ n ih =>
        have h1 : ∀ A : AS, sOrdN A f (n + 1) = if aOf A n == f then insL (fun k => sAhd A f n ((sOrdN A f n).getD k 0)) n (sOrdN A f n) else sOrdN A f n := fun _ => rfl
        have ha : ∀ a b, sAhd B f a b = sAhd A f a b := fun a b => by unfold sAhd; rw [hks, hah]
        rw [h1, h1, ih, ho]
        simp only [ha]
    exact this _
  have hal : ∀ U, sAlw B f U = sAlw A f U := by
    intro U
    unfold sAlw
    rw [ec]
    cases aCh A f with
    | none => rfl
    | some C =>
      have hp : sPpl B U = sPpl A U := by unfold sPpl aNb aPe; rw [e3]
      have h2 : sPay B U = sPay A U := by unfold sPay aNb aPa; rw [e3]
      have h3 : aKd B = aKd A := by unfold aKd; rw [e1]
      have h4 : aNp B = aNp A := by unfold aNp; rw [e1]
      have hb : sBr B C U = sBr A C U := by
        unfold sBr sOth
        rw [hp, h2, h3, h4]
      simp only [hb, hp]
  have hq : ∀ s, sQ B f s = sQ A f s := by
    intro s
    funext t
    unfold sQ
    rw [hor, hal]
  unfold sTk sTkM
  rw [hor, hq]
theorem tk_mv (A : AS) (mv : Nat → Nat) (f S : Nat) : sTk (aMv A mv) f S = sTk (aLv A f (mv f)) f S := by
  obtain ⟨e1, e2, e3, e4, e5, e7⟩ := aMore_id A f (lv A f (mv f))
  have h1 : (aMv A mv).1 = (aLv A f (mv f)).1 := e1.symm
  have h3 : (aMv A mv).2.2.1 = (aLv A f (mv f)).2.2.1 := e3.symm
  have hc : aCh (aMv A mv) f = aCh (aLv A f (mv f)) f := by
    rw [aMv_ch]
    unfold aLv
    rw [aMore_ch, if_pos rfl]
  exact sTk_congr (A := aLv A f (mv f)) (B := aMv A mv) h1 h3 hc S
/-- what the tables say, of a set -/
theorem tPm_set {A : AS} (w : WF A) (mv : Nat → Nat) (f S : Nat) : pSet A f (tP A f (mv f) (prt f (slM A S))) = sTk (aMv A mv) f S := by
  have h := (tP_spec w (l := mv f) (prt_slM_lt w f S)).2.2.2.2
  rw [h, pSet_prt w, tk_mv]
  have := sTk_off (WF_lv w f (mv f)) f S
  have ho : sOff (aLv A f (mv f)) f = sOff A f := by
    have e3 := (aMore_id A f (lv A f (mv f))).2.2.1
    unfold aLv sOff aNb aOf
    rw [e3]
  rw [ho] at this
  exact this
theorem pS_inj {A : AS} (w : WF A) {f P Q : Nat} (hP : P < 2 ^ nOf A f) (hQ : Q < 2 ^ nOf A f) : pSet A f P = pSet A f Q ↔ P = Q := by
  constructor
  · intro h; rw [← prt_pSet w hP, ← prt_pSet w hQ, h]
  · rintro rfl; rfl
theorem tk_iff {A : AS} (w : WF A) (mv : Nat → Nat) (f S T : Nat) : tP A f (mv f) (prt f (slM A S)) = prt f (slM A T) ↔ sTk (aMv A mv) f S = T &&& sOff A f := by
  have h1 := (tP_spec w (l := mv f) (prt_slM_lt w f S)).1
  rw [← pS_inj w h1 (prt_slM_lt w f T), tPm_set w mv, pSet_prt w]
theorem slM_or (A : AS) (S T : Nat) : slM A (S ||| T) = slM A S ||| slM A T := by
  apply Nat.eq_of_testBit_eq
  intro j
  rw [Bool.eq_iff_iff, Nat.testBit_or, Bool.or_eq_true]
  unfold slM
  rw [slM_bit, slM_bit, slM_bit]
  constructor
  · rintro ⟨b, h1, h2, h3⟩
    rw [Nat.testBit_or, Bool.or_eq_true] at h2
    rcases h2 with q | q
    · exact Or.inl ⟨b, h1, q, h3⟩
    · exact Or.inr ⟨b, h1, q, h3⟩
  · rintro (⟨b, h1, h2, h3⟩ | ⟨b, h1, h2, h3⟩)
    · exact ⟨b, h1, by rw [Nat.testBit_or, h2]; rfl, h3⟩
    · exact ⟨b, h1, by rw [Nat.testBit_or, h2, Bool.or_true], h3⟩
theorem prt_or (f X Y : Nat) : prt f (X ||| Y) = prt f X ||| prt f Y := by
  apply Nat.eq_of_testBit_eq
  intro j
  rw [Nat.testBit_or, prt_bit, prt_bit, prt_bit, Nat.testBit_or]
  cases decide (j < 8) <;> rfl
/-- the highest place where two numbers differ -/
theorem hi_diff : ∀ y x : Nat, x < y → ∃ i, x.testBit i = false ∧ y.testBit i = true ∧ ∀ j, i < j → x.testBit j = y.testBit j := by
  intro y
  induction y using Nat.strongRecOn with
  | ind y ih =>
    intro x hx
    by_cases q : x / 2 < y / 2
    · obtain ⟨i, h1, h2, h3⟩ := ih (y / 2) (by omega) (x / 2) q
      refine ⟨i + 1, by rw [Nat.testBit_succ]; exact h1, by rw [Nat.testBit_succ]; exact h2, fun j hj => ?_⟩
      obtain ⟨j', rfl⟩ : ∃ j', j = j' + 1 := ⟨j - 1, by omega⟩
      rw [Nat.testBit_succ, Nat.testBit_succ]
      exact h3 j' (by omega)
    · have e : x / 2 = y / 2 := by omega
      refine ⟨0, ?_, ?_, fun j hj => ?_⟩
      · rw [Nat.testBit_zero]; simp; omega
      · rw [Nat.testBit_zero]; simp; omega
      · obtain ⟨j', rfl⟩ : ∃ j', j = j' + 1 := ⟨j - 1, by omega⟩
        rw [Nat.testBit_succ, Nat.testBit_succ, e]
theorem lt_bit : ∀ (i x y : Nat), x.testBit i = false → y.testBit i = true → (∀ j, i < j → x.testBit j = y.testBit j) → x < y := by
  intro i
  induction i with
  | zero =>
    intro x y h1 h2 h3
    have e : x / 2 = y / 2 := by
      apply Nat.eq_of_testBit_eq
      intro j
      rw [← Nat.testBit_succ, ← Nat.testBit_succ]
      exact h3 (j + 1) (by omega)
    rw [Nat.testBit_zero] at h1 h2
    simp at h1 h2
    omega
  | succ i ih =>
    intro x y h1 h2 h3
    rw [Nat.testBit_succ] at h1 h2
    have := ih (x / 2) (y / 2) h1 h2 fun j hj => by
      rw [← Nat.testBit_succ, ← Nat.testBit_succ]
      exact h3 (j + 1) (by omega)
    omega
theorem bAt_mono {A : AS} (w : WF A) {f i j : Nat} (hj : j < nOf A f) (h : i < j) : bAt A f i < bAt A f j := by
  obtain ⟨b1, b2, b3⟩ := bAt_ok w (f := f) (i := i) (by omega)
  obtain ⟨c1, c2, c3⟩ := bAt_ok w hj
  cases Nat.lt_or_ge (bAt A f i) (bAt A f j) with
  | inl q => exact q
  | inr q =>
    have := cntN_mono (fun c => aOf A c == f) q
    unfold sIdx at b3 c3
    rw [b2] at b3
    rw [c2] at c3
    omega
theorem pS_mono {A : AS} (w : WF A) {f P Q : Nat} (hQ : Q < 2 ^ nOf A f) (h : P < Q) : pSet A f P < pSet A f Q := by
  obtain ⟨i, h1, h2, h3⟩ := hi_diff Q P h
  have hP : P < 2 ^ nOf A f := by omega
  have hi := bits_lt hQ h2
  refine lt_bit (bAt A f i) _ _ (by rw [pS_bit w hP hi]; exact h1) (by rw [pS_bit w hQ hi]; exact h2) fun b hb => ?_
  rw [Bool.eq_iff_iff]
  have key : ∀ P Q, P < 2 ^ nOf A f → Q < 2 ^ nOf A f → (∀ j, i < j → P.testBit j = Q.testBit j) → (pSet A f P).testBit b = true → (pSet A f Q).testBit b = true := by
    intro P Q hP hQ he hb1
    obtain ⟨b1, b2⟩ := pS_of w hP b hb1
    have hix := (sIdx_lt w b1).1
    have hbt := bAt_idx w b1
    rw [b2] at hix hbt
    rw [← hbt, pS_bit w hP hix] at hb1
    rw [← hbt, pS_bit w hQ hix]
    rw [← he _ ?_]
    · exact hb1
    · cases Nat.lt_or_ge i (sIdx A b) with
      | inl q => exact q
      | inr q =>
        by_cases e : sIdx A b = i
        · rw [e] at hbt; omega
        · have := bAt_mono w hi (show sIdx A b < i by omega)
          rw [hbt] at this
          omega
  exact ⟨key P Q hP hQ h3, key Q P hQ hP fun j hj => (h3 j hj).symm⟩
