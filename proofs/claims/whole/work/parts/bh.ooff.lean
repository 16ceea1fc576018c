/-! OFFERS in the class, purely -/
theorem pop_or {X Y n : Nat} (hX : X < 2 ^ n) (hY : Y < 2 ^ n) (hn : n ≤ 32) (hd : ∀ i, X.testBit i = true → Y.testBit i = false) : popN 32 (X ||| Y) = popN 32 X + popN 32 Y := by
  rw [popN_cnt (Nat.or_lt_two_pow hX hY) hn, popN_cnt hX hn, popN_cnt hY hn]
  refine cntN_or n fun i _ => ⟨Nat.testBit_or _ _ _, ?_⟩
  rintro ⟨h1, h2⟩
  rw [hd i h1] at h2
  cases h2
theorem pop_0 : popN 32 0 = 0 := by
  rw [popN_cnt (n := 0) (by decide) (by decide)]
  rfl
theorem pop_1 {k : Nat} (hk : k < 32) : popN 32 (2 ^ k) = 1 := by
  rw [popN_cnt (n := 32) (Nat.pow_lt_pow_right (by decide) hk) (Nat.le_refl _)]
  exact cntN_one 32 k hk (by simp [Nat.testBit_two_pow]) fun i _ h => by
    rw [Nat.testBit_two_pow, decide_eq_true_iff] at h
    exact h.symm
theorem pop_slM {A : AS} (w : WF A) (S : Nat) : ∀ n, n ≤ aNb A → popN 32 (nfo (fun b m => if S.testBit b then m ||| 2 ^ sSlot A b else m) n 0) = cntN (fun b => S.testBit b) n := by
  intro n
  induction n with
  | zero => intro _; exact pop_0
  | succ n ih =>
    intro hn
    have ih := ih (by omega)
    have e : cntN (fun b => S.testBit b) (n + 1) = if S.testBit n then cntN (fun b => S.testBit b) n + 1 else cntN (fun b => S.testBit b) n := rfl
    rw [e]
    simp only [nfo]
    by_cases q : S.testBit n = true
    · rw [if_pos q, if_pos q]
      have hsl := sSlot_lt w (b := n) (by omega)
      have hlt : nfo (fun b m => if S.testBit b then m ||| 2 ^ sSlot A b else m) n 0 < 2 ^ 32 := lt_of_bits fun i hi => by
        obtain ⟨b, h1, -, h3⟩ := (slM_bit A S n i).mp hi
        have := sSlot_lt w (b := b) (by omega)
        omega
      rw [pop_or hlt (Nat.pow_lt_pow_right (by decide) hsl) (Nat.le_refl _), pop_1 hsl, ih]
      intro i hi
      obtain ⟨b, h1, -, h3⟩ := (slM_bit A S n i).mp hi
      rw [Nat.testBit_two_pow, decide_eq_false_iff_not]
      intro z
      have := sSlot_inj w (b := b) (c := n) (by omega) (by omega) (h3.trans z.symm)
      omega
    · rw [if_neg q, if_neg q]; exact ih
theorem pop_sl {A : AS} (w : WF A) {S : Nat} (hS : S < 2 ^ aNb A) : popN 32 (slM A S) = popN 32 S := by
  have h20 := w.2.2.1.1
  have := pop_slM w S (aNb A) (Nat.le_refl _)
  unfold slM
  rw [this, popN_cnt hS (by omega)]
/-- LISTS that may be run -/
def LK (A : AS) (L : Nat → List Nat) : Prop := ∀ p, (L p).length ≤ 5 ∧ (L p).Nodup ∧ ∀ b ∈ L p, b < aNb A ∧ aPe A b = p
def OIn (A : AS) (s : OS) : Prop := s.1 < 2 ^ aNb A ∧ s.2.2.2.1 = popN 32 s.1 ∧ s.2.2.1 ≤ popN 32 s.1 ∧ ∀ p, (s.2.2.2.2 p).Nodup ∧ ∀ b ∈ s.2.2.2.2 p, b < aNb A ∧ aPe A b = p ∧ s.1.testBit b = false
theorem oNow_bit (A : AS) (s : OS) (b : Nat) : (oNow A s).testBit b = true ↔ ∃ p, p < aNp A ∧ oAct A s p = some b := by
  unfold oNow
  rw [nfo_or_bit]
  constructor
  · rintro ⟨p, h1, h2⟩; exact ⟨p, h1, (oM_bit _ _).mp h2⟩
  · rintro ⟨p, h1, h2⟩; exact ⟨p, h1, (oM_bit _ _).mpr h2⟩
theorem oAct_in {A : AS} {s : OS} (h : OIn A s) {p b : Nat} (ha : oAct A s p = some b) : b < aNb A ∧ aPe A b = p ∧ s.1.testBit b = false ∧ b ∉ oTl A s p := by
  have hm := oAct_mem ha
  obtain ⟨hd, hmem⟩ := h.2.2.2 p
  refine ⟨(hmem b hm).1, (hmem b hm).2.1, (hmem b hm).2.2, ?_⟩
  unfold oAct at ha
  unfold oTl
  split at ha
  · rename_i q
    rw [if_pos q]
    cases hl : s.2.2.2.2 p with
    | nil => rw [hl] at ha; cases ha
    | cons c l =>
      rw [hl] at ha hd
      simp only [List.head?_cons, Option.some.injEq] at ha
      rw [← ha]
      exact (List.nodup_cons.mp hd).1
  · cases ha
theorem oTl_sub {A : AS} {s : OS} {p b : Nat} (h : b ∈ oTl A s p) : b ∈ s.2.2.2.2 p := by
  unfold oTl at h
  split at h
  · exact List.mem_of_mem_tail h
  · exact h
theorem OIn_stp {A : AS} (w : WF A) {s : OS} (h : OIn A s) (h0 : oNow A s ≠ 0) : OIn A (oStp A s) ∧ popN 32 s.1 < popN 32 (oStp A s).1 := by
  have h20 := w.2.2.1.1
  have hnl : oNow A s < 2 ^ aNb A := lt_of_bits fun i hi => by
    obtain ⟨p, -, ha⟩ := (oNow_bit A s i).mp hi
    exact (oAct_in h ha).1
  have hpop : popN 32 (s.1 ||| oNow A s) = popN 32 s.1 + popN 32 (oNow A s) := pop_or h.1 hnl (by omega) fun i hi => by
    cases q : (oNow A s).testBit i with
    | false => rfl
    | true =>
      obtain ⟨p, -, ha⟩ := (oNow_bit A s i).mp q
      rw [(oAct_in h ha).2.2.1] at hi
      cases hi
  have hpos : 0 < popN 32 (oNow A s) := by
    rw [popN_cnt hnl (by omega)]
    obtain ⟨i, hi⟩ := ne0_bit.mp h0
    have := cntN_lt (p := fun b => (oNow A s).testBit b) (bits_lt hnl hi) hi
    omega
  refine ⟨⟨Nat.or_lt_two_pow h.1 hnl, ?_, ?_, fun p => ⟨?_, fun b hb => ?_⟩⟩, ?_⟩
  · show s.2.2.2.1 + popN 32 (oNow A s) = popN 32 (s.1 ||| oNow A s)
    rw [hpop, h.2.1]
  · show s.2.2.1 + 1 ≤ popN 32 (s.1 ||| oNow A s)
    have := h.2.2.1
    omega
  · show (oTl A s p).Nodup
    unfold oTl
    split
    · exact (h.2.2.2 p).1.sublist (List.tail_sublist _)
    · exact (h.2.2.2 p).1
  · have hb' : b ∈ oTl A s p := hb
    have hb2 := oTl_sub hb'
    obtain ⟨c1, c2, c3⟩ := (h.2.2.2 p).2 b hb2
    refine ⟨c1, c2, ?_⟩
    show (s.1 ||| oNow A s).testBit b = false
    rw [Nat.testBit_or, c3, Bool.false_or]
    cases q : (oNow A s).testBit b with
    | false => rfl
    | true =>
      obtain ⟨q', -, ha⟩ := (oNow_bit A s b).mp q
      have hin := oAct_in h ha
      have : q' = p := by rw [← hin.2.1, c2]
      subst this
      exact absurd hb' hin.2.2.2
  · show popN 32 s.1 < popN 32 (s.1 ||| oNow A s)
    omega
theorem pop_le {A : AS} (w : WF A) {S : Nat} (hS : S < 2 ^ aNb A) : popN 32 S ≤ 20 := by
  have h20 := w.2.2.1.1
  rw [popN_cnt hS (by omega)]
  exact Nat.le_trans (cntN_le _ _) h20
theorem oRun_end {A : AS} (w : WF A) : ∀ n s, OIn A s → 20 ≤ n + popN 32 s.1 → ∀ m, n ≤ m → oRun A m s = oRun A n s := by
  intro n
  induction n with
  | zero =>
    intro s h hp m hm
    have h0 : oNow A s = 0 := by
      apply Classical.byContradiction
      intro q
      obtain ⟨a, b⟩ := OIn_stp w h q
      have := pop_le w a.1
      omega
    cases m with
    | zero => rfl
    | succ m => simp only [oRun]; rw [if_pos h0]
  | succ n ih =>
    intro s h hp m hm
    cases m with
    | zero => omega
    | succ m =>
      simp only [oRun]
      by_cases h0 : oNow A s = 0
      · rw [if_pos h0, if_pos h0]
      · rw [if_neg h0, if_neg h0]
        obtain ⟨a, b⟩ := OIn_stp w h h0
        exact ih _ a (by omega) m (by omega)
theorem OIn_ini {A : AS} {L : Nat → List Nat} (h : LK A L) : OIn A (0, 0, 0, 0, L) := ⟨Nat.two_pow_pos _, pop_0.symm, Nat.zero_le _, fun p => ⟨(h p).2.1, fun b hb => ⟨((h p).2.2 b hb).1, ((h p).2.2 b hb).2, by simp⟩⟩⟩
theorem OIn_run {A : AS} (w : WF A) : ∀ n s, OIn A s → OIn A (oRun A n s) := by
  intro n
  induction n with
  | zero => intro s h; exact h
  | succ n ih =>
    intro s h
    simp only [oRun]
    by_cases h0 : oNow A s = 0
    · rw [if_pos h0]; exact h
    · rw [if_neg h0]; exact ih _ (OIn_stp w h h0).1
theorem run_20 {A : AS} (w : WF A) {L : Nat → List Nat} (h : LK A L) : oRun A 36 (0, 0, 0, 0, L) = oRun A 20 (0, 0, 0, 0, L) := oRun_end w 20 _ (OIn_ini h) (by omega) 36 (by omega)
