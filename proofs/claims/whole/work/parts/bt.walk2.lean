/-! the Walk: what PEOPLE would rather have, step by step -/
def chg (A : AS) (b : Nat) : Nat := if (sCpl A (aPe A b)).isNone then lsM A (aLl A (aPe A b)) ^^^ lsM A ((aLl A (aPe A b)).take ((sPlc A b).getD 0)) else 0
theorem wtM_b {A : AS} (w : WF A) {S c : Nat} (hc : c < aNb A) : (wtM A S).testBit (sSlot A c) = true ↔ sCpl A (aPe A c) = none ∧ ∃ i, sPlc A c = some i ∧ i < (sRnk A S (aPe A c)).getD 0 := by
  unfold wtM
  rw [nfo_or_bit]
  constructor
  · rintro ⟨p, hp, h⟩
    obtain ⟨h1, b, i, r, a1, a2, a3, a4, a5⟩ := (wtS_bit w).mp h
    have hb := sPlc_in w a3
    have := sSlot_inj w hb hc a2
    subst this
    subst a1
    exact ⟨h1, i, a3, by rw [a4]; exact a5⟩
  · rintro ⟨h1, i, a3, a5⟩
    exact ⟨aPe A c, (w.2.2.1.2.1 c hc).1, (wtS_bit w).mpr ⟨h1, c, i, _, rfl, rfl, a3, rfl, a5⟩⟩
theorem wtM_in {A : AS} (w : WF A) {S j : Nat} (h : (wtM A S).testBit j = true) : ∃ c, c < aNb A ∧ sSlot A c = j := by
  unfold wtM at h
  rw [nfo_or_bit] at h
  obtain ⟨p, -, h⟩ := h
  obtain ⟨-, b, i, r, -, a2, a3, -⟩ := (wtS_bit w).mp h
  exact ⟨b, sPlc_in w a3, a2⟩
theorem lsM_at {A : AS} (w : WF A) {p r c : Nat} (hc : c < aNb A) : (lsM A ((aLl A p).take r)).testBit (sSlot A c) = true ↔ aPe A c = p ∧ ∃ i, sPlc A c = some i ∧ i < r := by
  rw [lsM_b]
  constructor
  · rintro ⟨b, h1, h2⟩
    have hb := ((w.2.2.2.1 p).2.2.2 b (List.mem_of_mem_take h1)).1
    have := sSlot_inj w hb hc h2
    subst this
    exact (mem_take w).mp h1
  · intro h
    exact ⟨c, (mem_take w).mpr h, rfl⟩
theorem lsM_in {A : AS} (w : WF A) {p r j : Nat} (h : (lsM A ((aLl A p).take r)).testBit j = true) : ∃ c, c < aNb A ∧ sSlot A c = j := by
  obtain ⟨b, h1, h2⟩ := (lsM_b A _ j).mp h
  exact ⟨b, ((w.2.2.2.1 p).2.2.2 b (List.mem_of_mem_take h1)).1, h2⟩
theorem bnd_or {A : AS} {S b p : Nat} (mS : sMat A (S ||| 2 ^ b)) (hb : b < aNb A) : sBnd A (S ||| 2 ^ b) p = if aPe A b = p then some b else sBnd A S p := by
  by_cases e : aPe A b = p
  · rw [if_pos e]
    exact (sBnd_iff mS).mpr ⟨hb, by rw [Nat.testBit_or, Nat.testBit_two_pow]; simp, e⟩
  · rw [if_neg e]
    unfold sBnd
    refine fst1_congr fun c _ => ?_
    rw [Nat.testBit_or, Nat.testBit_two_pow]
    by_cases y : b = c
    · subst y
      have : (aPe A b == p) = false := by simpa using e
      rw [this]; simp
    · simp [y]
theorem wt_or {A : AS} (w : WF A) {S b : Nat} (h : okS A S) (hb : b < aNb A) (hu : (sPpl A S).testBit (aPe A b) = false) (hl : lvP A b = true) : wtM A (S ||| 2 ^ b) = wtM A S ^^^ chg A b := by
  have m2 := mat_or h.2.1 hb hu
  have hn : sBnd A S (aPe A b) = none := by
    cases q : sBnd A S (aPe A b) with
    | none => rfl
    | some c =>
      obtain ⟨c1, c2, c3⟩ := (sBnd_iff h.2.1).mp q
      have : (sPpl A S).testBit (aPe A b) = true := by unfold sPpl; exact (ppl_bit A S _ _).mpr ⟨c, c1, c2, c3⟩
      rw [hu] at this; cases this
  have hfull : lsM A (aLl A (aPe A b)) = lsM A ((aLl A (aPe A b)).take (aLl A (aPe A b)).length) := by rw [List.take_length]
  apply Nat.eq_of_testBit_eq
  intro j
  rw [Nat.testBit_xor]
  by_cases hj : ∃ c, c < aNb A ∧ sSlot A c = j
  · obtain ⟨c, hc, rfl⟩ := hj
    by_cases e : aPe A c = aPe A b
    · cases hs : sCpl A (aPe A b) with
      | some z =>
        have f : ∀ S, (wtM A S).testBit (sSlot A c) = false := fun S => by
          cases q : (wtM A S).testBit (sSlot A c) with
          | false => rfl
          | true =>
            have := ((wtM_b w hc).mp q).1
            rw [e, hs] at this; cases this
        have hz : chg A b = 0 := by unfold chg; rw [hs]; rfl
        rw [f, f, hz]
        simp
      | none =>
        unfold lvP at hl
        rw [hs] at hl
        simp only [Option.isNone_none, if_true] at hl
        obtain ⟨k, hk⟩ := Option.isSome_iff_exists.mp hl
        have hz : chg A b = lsM A ((aLl A (aPe A b)).take (aLl A (aPe A b)).length) ^^^ lsM A ((aLl A (aPe A b)).take k) := by
          unfold chg
          rw [hs, hk, ← hfull]
          rfl
        have r1 : (sRnk A S (aPe A b)).getD 0 = (aLl A (aPe A b)).length := by unfold sRnk; rw [hn]; rfl
        have r2 : (sRnk A (S ||| 2 ^ b) (aPe A b)).getD 0 = k := by
          unfold sRnk
          rw [bnd_or m2 hb, if_pos rfl]
          simp only [hk, Option.getD_some]
        rw [hz, Nat.testBit_xor]
        have b1 := wtM_b w (S := S) hc
        have b2 := wtM_b w (S := S ||| 2 ^ b) hc
        have b3 := lsM_at w (p := aPe A b) (r := (aLl A (aPe A b)).length) hc
        have b4 := lsM_at w (p := aPe A b) (r := k) hc
        rw [e, hs, r1] at b1
        rw [e, hs, r2] at b2
        rw [e] at b3 b4
        have q1 : (wtM A S).testBit (sSlot A c) = (lsM A ((aLl A (aPe A b)).take (aLl A (aPe A b)).length)).testBit (sSlot A c) := by
          rw [Bool.eq_iff_iff, b1, b3]
          exact ⟨fun z => ⟨rfl, z.2⟩, fun z => ⟨rfl, z.2⟩⟩
        have q2 : (wtM A (S ||| 2 ^ b)).testBit (sSlot A c) = (lsM A ((aLl A (aPe A b)).take k)).testBit (sSlot A c) := by
          rw [Bool.eq_iff_iff, b2, b4]
          exact ⟨fun z => ⟨rfl, z.2⟩, fun z => ⟨rfl, z.2⟩⟩
        rw [q1, q2]
        cases (lsM A ((aLl A (aPe A b)).take (aLl A (aPe A b)).length)).testBit (sSlot A c) <;> simp
    · have hz : (chg A b).testBit (sSlot A c) = false := by
        unfold chg
        split
        · rw [hfull, Nat.testBit_xor]
          have f : ∀ r, (lsM A ((aLl A (aPe A b)).take r)).testBit (sSlot A c) = false := fun r => by
            cases q : (lsM A ((aLl A (aPe A b)).take r)).testBit (sSlot A c) with
            | false => rfl
            | true => exact absurd ((lsM_at w hc).mp q).1 e
          rw [f, f]; rfl
        · simp
      have hr : sRnk A (S ||| 2 ^ b) (aPe A c) = sRnk A S (aPe A c) := by
        unfold sRnk
        rw [bnd_or m2 hb, if_neg (fun z => e z.symm)]
      rw [hz, Bool.xor_false, Bool.eq_iff_iff, wtM_b w hc, wtM_b w hc, hr]
  · have f : ∀ S, (wtM A S).testBit j = false := fun S => by
      cases q : (wtM A S).testBit j with
      | false => rfl
      | true => exact absurd (wtM_in w q) hj
    have hz : (chg A b).testBit j = false := by
      unfold chg
      split
      · rw [hfull, Nat.testBit_xor]
        have g : ∀ r, (lsM A ((aLl A (aPe A b)).take r)).testBit j = false := fun r => by
          cases q : (lsM A ((aLl A (aPe A b)).take r)).testBit j with
          | false => rfl
          | true => exact absurd (lsM_in w q) hj
        rw [g, g]; rfl
      · simp
    rw [f, f, hz]
    rfl
