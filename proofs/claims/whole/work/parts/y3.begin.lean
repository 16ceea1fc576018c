/-! THE START is a state: nobody, nothing -/
def A0 : AS := ((0, fun _ => 0), 0, (0, fun _ => 0, fun _ => 0, fun _ => 0, fun _ => 0, fun _ => 0), fun _ => [], (0, fun _ => 0, fun _ => 0, fun _ => []), fun _ => none, [], [])
theorem WF_0 : WF A0 := by
  refine ⟨⟨Nat.zero_le _, fun p hp => absurd hp (Nat.not_lt_zero p)⟩, Nat.zero_le _, ⟨Nat.zero_le _, fun b hb => absurd hb (Nat.not_lt_zero b), fun f => Nat.zero_le _, fun p => Nat.zero_le _⟩, fun p => ⟨fun _ => rfl, Nat.zero_le _, List.nodup_nil, fun b hb => nomatch hb⟩, ⟨Nat.zero_le _, fun c hc => absurd hc (Nat.not_lt_zero c), fun c d hc => absurd hc (Nat.not_lt_zero c), fun c => ⟨fun _ => rfl, Nat.zero_le _, List.nodup_nil, fun q hq => nomatch hq⟩⟩, fun f => ⟨fun _ => rfl, fun C hC => nomatch hC⟩, ⟨Nat.zero_le _, fun x hx => nomatch hx⟩, Nat.zero_le _⟩
theorem eI0 (a k : Nat) : hI hStart a k = mI sl_46 a k := (m_ok sk_46).2.2.2.2 a k
theorem eR0 (a k : Nat) : hR hStart a k = mR sl_46 a k := (m_ok sk_46).2.2.2.1 a k
theorem eT0 (a : Nat) : hT hStart a = mT sl_46 a := (m_ok sk_46).2.2.1 a
theorem eN0 : hN hStart = 142 := (m_ok sk_46).1
theorem eS0 : hS hStart = 45851 := (m_ok sk_46).2.1
theorem st_T : ∀ q ∈ T0, mT sl_46 q.1 = q.2 := by
  have h : T0.all (fun q => mT sl_46 q.1 == q.2) = true := by decide +kernel
  exact fun q hq => eq_of_beq (List.all_eq_true.mp h q hq)
theorem st_R : ∀ q ∈ R0, mR sl_46 q.1 q.2.1 = q.2.2 := by
  have h : R0.all (fun q => mR sl_46 q.1 q.2.1 == q.2.2) = true := by decide +kernel
  exact fun q hq => eq_of_beq (List.all_eq_true.mp h q hq)
theorem Shape_0 : Shape hStart := ⟨fun q hq => by rw [eT0]; exact st_T q hq, fun q hq => by rw [eR0]; exact st_R q hq, by rw [eN0]; exact Nat.le_refl _⟩
theorem b0_1 : mI sl_46 2 0 = nI (aNb A0) ∧ (∀ f, f < 4 → mI sl_46 10 f = nI (cntN (fun b => aOf A0 b == f) (aNb A0))) ∧ (∀ p, p < 7 → mI sl_46 11 p = nI (cntN (fun b => aPe A0 b == p) (aNb A0)) ∧ mI sl_46 13 p = nI (setP A0 p) ∧ mI sl_46 14 p = nI (slP A0 p)) := by decide +kernel
theorem CB_0 : CB A0 hStart := ⟨by rw [eI0]; exact b0_1.1, fun b hb => absurd hb (Nat.not_lt_zero b), fun f hf => by rw [eI0]; exact b0_1.2.1 f hf, fun p hp => by rw [eI0, eI0, eI0]; exact b0_1.2.2 p hp⟩
theorem b0_2 : mI sl_46 15 0 = nI (aNp A0) ∧ (∀ k, k < 4 → mI sl_46 17 k = nI (kdM A0 k)) ∧ (∀ p, p < 7 → mI sl_46 18 p = oI (sCpl A0 p) ∧ mI sl_46 20 p = nI (aLl A0 p).length ∧ mI sl_46 21 p = nI (lsM A0 (aLl A0 p))) ∧ (∀ b, b < 20 → mI sl_46 22 b = -1) := by decide +kernel
theorem CP_0 : CP A0 hStart := ⟨by rw [eI0]; exact b0_2.1, fun p hp => absurd hp (Nat.not_lt_zero p), fun k hk => by rw [eI0]; exact b0_2.2.1 k hk, fun p hp => by
    obtain ⟨q1, q2, q3⟩ := b0_2.2.2.1 p hp
    exact ⟨by rw [eI0]; exact q1, by rw [eI0]; exact q2, by rw [eI0]; exact q3, fun k hk => absurd hk (Nat.not_lt_zero k)⟩, fun b hb => by
    have e0 : ¬ b < aNb A0 := Nat.not_lt_zero b
    rw [eI0, if_neg e0]; exact b0_2.2.2.2 b hb, fun b k hb => absurd hb (Nat.not_lt_zero b)⟩
theorem b0_3 : mI sl_46 24 0 = nI (aNc A0) ∧ ∀ c, c < 2 → mI sl_46 27 c = nI (aPl A0 c).length := by decide +kernel
theorem CC_0 : CC A0 hStart := ⟨by rw [eI0]; exact b0_3.1, fun c hc => absurd hc (Nat.not_lt_zero c), fun c hc => ⟨by rw [eI0]; exact b0_3.2 c hc, fun k hk => absurd hk (Nat.not_lt_zero k)⟩⟩
theorem MK_0 : MK A0 hStart := ⟨⟨Shape_0, WF_0, CB_0, CP_0⟩, CC_0⟩
def ca0 (k : Nat) : Nat := 32 + 10 * k + (if k = 4 then 20 else 0)
theorem b0_4 : ∀ k, k < 4 → (mI sl_46 (dA k) 0 = nI k ∧ mR sl_46 (dA k) 3 = ca0 k ∧ mI sl_46 (dA k) 7 = 0 ∧ mI sl_46 (dA k) 8 = nI 0) ∧ (mI sl_46 (ca0 k) 0 = (if (aCh A0 k).isSome then 1 else 0) ∧ mI sl_46 (ca0 k) 1 = nI (cMost (chD A0 k)) ∧ mI sl_46 (ca0 k) 2 = nI ((cMoney (chD A0 k)).getD 1000000) ∧ mI sl_46 (ca0 k) 3 = nI (cKeys (chD A0 k)).length) ∧ (cKeys (chD A0 k)).length = 0 ∧ (∀ j, j < 4 → mI sl_46 (ca0 k + 3) j = nI (kpM (cKeeps (chD A0 k)) j)) ∧ ∀ p, p < 7 → mI sl_46 (ca0 k + 4) p = nI (twM (cBoths (chD A0 k)) p) ∧ mI sl_46 (ca0 k + 5) p = nI (twM (cNevers (chD A0 k)) p) := by decide +kernel
theorem ca0_ok : ∀ i, i < 5 → isCA (ca0 i) := by unfold isCA; decide
theorem DK_0 : DK A0 ca0 (fun _ => 0) hStart := by
  intro k hk
  obtain ⟨⟨q1, q2, q3, q4⟩, ⟨p1, p2, p3, p4⟩, p5, p6, p7⟩ := b0_4 k hk
  refine ⟨⟨by rw [eI0]; exact q1, by rw [eR0]; exact q2, ca0_ok k (by omega), ⟨by rw [eI0]; exact p1, by rw [eI0]; exact p2, by rw [eI0]; exact p3, by rw [eI0]; exact p4, fun j hj => by omega, fun j hj => by rw [eI0]; exact p6 j hj, fun p hp => by rw [eI0, eI0]; exact p7 p hp⟩⟩, ⟨Or.inl (by rw [eI0]; exact q3), fun q => absurd rfl q, by show (0 : Nat) < 16; omega, by rw [eI0]; exact q4, fun l hl q => by simp at q⟩⟩
theorem b0_5 : (mR sl_46 1 10 = 92 ∧ mI sl_46 1 11 = nI (aNo A0) ∧ mI sl_46 88 1 = nI 0 ∧ mI sl_46 90 1 = nI 0 ∧ mI sl_46 77 4 = 0) ∧ (mR sl_46 73 11 = 76 ∧ mT sl_46 76 = (1, 64) ∧ mR sl_46 77 6 = 76 ∧ mR sl_46 77 8 = 78 ∧ mT sl_46 78 = (5, 64) ∧ mR sl_46 77 9 = 79 ∧ mT sl_46 79 = (1, 64) ∧ mR sl_46 77 10 = 80 ∧ mT sl_46 80 = (1, 64) ∧ mR sl_46 77 11 = 81 ∧ mT sl_46 81 = (1, 64) ∧ mR sl_46 77 12 = 82 ∧ mT sl_46 82 = (1, 64)) := by decide +kernel
theorem CSt_0 : CSt A0 hStart := by
  obtain ⟨⟨-, -, -, -, k0⟩, a1, a2, a3, a4, a5, a6, a7, a8, a9, b1, b2, b3, b4⟩ := b0_5
  refine ⟨76, 64, 76, 64, 78, 64, 79, 80, 81, 82, ⟨⟨by rw [eR0]; exact a1, by rw [eT0]; exact a2, by rw [eR0]; exact a3, by rw [eT0]; exact a2, by rw [eR0]; exact a4, by rw [eT0]; exact a5, by rw [eR0]; exact a6, by rw [eT0]; exact a7, by rw [eR0]; exact a8, by rw [eT0]; exact a9, by rw [eR0]; exact b1, by rw [eT0]; exact b2, by rw [eR0]; exact b3, by rw [eT0]; exact b4⟩, ?_, ?_, ?_, ⟨0, by omega, rfl⟩, ⟨0, by omega, rfl⟩⟩, Or.inl (by rw [eI0]; exact k0)⟩
  · unfold isG; omega
  · rw [eN0]; omega
  · omega
theorem RC_0 : RC A0 [] [] hStart := by
  obtain ⟨⟨c1, c2, c3, c4, -⟩, -⟩ := b0_5
  refine ⟨MK_0, ⟨ca0, fun _ => 0, DK_0, ⟨by rw [eR0]; exact c1, ca0_ok, ?_⟩⟩, by rw [eI0]; exact c2, ⟨⟨by decide, fun x hx => nomatch hx⟩, by rw [eI0]; exact c3, fun i hi => absurd hi (Nat.not_lt_zero i)⟩, ⟨by decide, by rw [eI0]; exact c4, fun i hi => absurd hi (Nat.not_lt_zero i)⟩, CSt_0⟩
  intro i j hi hj e
  unfold ca0 at e
  split at e <;> split at e <;> omega
theorem pot_0 : pot hStart = 768 := by
  obtain ⟨-, a1, a2, -, a4, a5, -⟩ := b0_5
  unfold pot
  rw [eR0, a1, eT0, a2, eR0, a4, eT0, a5]
  decide
theorem b0_6 : (mI sl_46 98 0 = nI (aNp A0) ∧ mI sl_46 98 2 = nI (aNo A0) ∧ mI sl_46 98 3 = nI (aNb A0) ∧ mI sl_46 98 11 = nI (aNc A0) ∧ mI sl_46 98 37 = 0 ∧ mI sl_46 98 30 = nI 0 ∧ mI sl_46 98 32 = nI 0 ∧ mI sl_46 98 57 = oI none ∧ mI sl_46 98 60 = oI none ∧ mI sl_46 98 61 = oI none) ∧ (∀ p, p < 7 → mI sl_46 106 p = nI (aLl A0 p).length) ∧ (∀ c, c < 2 → mI sl_46 111 c = nI (aPl A0 c).length) ∧ ∀ f, f < 4 → mI sl_46 112 f = 0 ∧ mI sl_46 116 f = 0 ∧ mI sl_46 113 f = 0 := by decide +kernel
theorem RMX_0 : RMX A0 [] [] hStart := by
  obtain ⟨⟨m1, m2, m3, m4, m5, m6, m7, m8, m9, m10⟩, n1, n2, n3⟩ := b0_6
  refine ⟨⟨Shape_0, WF_0, ⟨by rw [eI0]; exact m1, fun p hp => absurd hp (Nat.not_lt_zero p)⟩, ⟨by rw [eI0]; exact m2, by rw [eI0]; exact m3, fun b hb => absurd hb (Nat.not_lt_zero b)⟩, fun p hp => ⟨by rw [eI0]; exact n1 p hp, fun k hk => absurd hk (Nat.not_lt_zero k)⟩, ⟨by rw [eI0]; exact m4, fun c hc => absurd hc (Nat.not_lt_zero c), fun c hc => ⟨by rw [eI0]; exact n2 c hc, fun k hk => absurd hk (Nat.not_lt_zero k)⟩⟩, fun f hf => ?_⟩, Or.inl (by rw [eI0]; exact m5), ⟨⟨by decide, fun x hx => nomatch hx⟩, by rw [eI0]; exact m6, fun i hi => absurd hi (Nat.not_lt_zero i)⟩, ⟨by decide, by rw [eI0]; exact m7, fun i hi => absurd hi (Nat.not_lt_zero i)⟩, ⟨by rw [eI0]; exact m8, fun q hq => (by cases hq), by rw [eI0]; exact m9, by rw [eI0]; exact m10⟩⟩
  show hI hStart 112 f = 0 ∧ hI hStart 116 f = 0 ∧ hI hStart 113 f = 0
  rw [eI0, eI0, eI0]
  exact n3 f hf
