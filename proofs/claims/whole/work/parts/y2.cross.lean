/-! BETWEEN THE TWO: a call of the one leaves the other as it was; the room -/
theorem RMX_FC {A : AS} {tx : List Nat} {rw : List Int32} {h h' : jHp} (r : RMX A tx rw h) (e : ∀ a k, 98 ≤ a → a ≤ 140 → hI h' a k = hI h a k) (hs : Shape h') : RMX A tx rw h' := by
  obtain ⟨r1, r2, r3, r4, r5⟩ := r
  have f : Fr (fun a _ => a < 98 ∨ 140 < a) h (hI h', hJ h, hR h, hT h, hN h, hS h) := ⟨⟨rfl, rfl, rfl, rfl, rfl⟩, fun a k n => e a k (by omega) (by omega)⟩
  refine ⟨RMK_eq r1 hs fun a k q => e a k (by unfold cM at q; omega) (by unfold cM at q; omega), ?_, ⟨r3.1, by rw [e _ _ (by omega) (by omega)]; exact r3.2.1, fun i hi => by rw [e _ _ (by omega) (by omega)]; exact r3.2.2 i hi⟩, ⟨r4.1, by rw [e _ _ (by omega) (by omega)]; exact r4.2.1, fun i hi => by rw [e _ _ (by omega) (by omega)]; exact r4.2.2 i hi⟩, ?_⟩
  · have t1 : RMT A (hI h', hJ h, hR h, hT h, hN h, hS h) := RMT_fr r2 f fun a k q => by show ¬ (a < 98 ∨ 140 < a); omega
    exact t1
  · have t1 : ROf none none none (hI h', hJ h, hR h, hT h, hN h, hS h) := ROf_fr r5 f fun a k (q : a < 98 ∨ 140 < a) => by omega
    exact t1
theorem RC_WM {A : AS} {tx : List Nat} {rw : List Int32} {h h' : jHp} (r : RC A tx rw h) (f : Fr WM h h') : RC A tx rw h' := by
  obtain ⟨r1, ⟨ca, bl, d, sp⟩, r3, r4, r5, r6⟩ := r
  have hc : ∀ a j, WM a j → ¬ cC a j := by
    intro a j q z
    unfold WM at q
    rcases z with z | ⟨c, z1, z2, z3⟩ | z
    · omega
    · unfold isCA at z1; omega
    · omega
  refine ⟨MK_fr r1 f hc, ⟨ca, bl, DK_fr d f hc fun a j k hk q z => ?_, ⟨by rw [f.1.2.1]; exact sp.1, sp.2⟩⟩, ?_, CTx_fr r4 f fun a j q => ?_, CRw_fr r5 f fun a j q => ?_, CSt_fr r6 f fun a j q => ?_⟩
  · have := Wdk_lt hk z
    unfold WM at q; omega
  · rw [Fr_I f fun q => by unfold WM at q; omega]; exact r3
  · unfold WM at q; omega
  · unfold WM at q; omega
  · unfold WM at q; unfold isG; omega
theorem pot_le {A : AS} {tx : List Nat} {rw : List Int32} {h : jHp} (r : RC A tx rw h) : pot h ≤ 196608 := by
  obtain ⟨-, -, -, -, -, ⟨fa, fl, sa, sl, ra, rl, so, di, qu, co, ⟨⟨a1, a2, a3, a4, a5, a6, -⟩, -, -, -, ⟨i, hi, e1⟩, ⟨j, hj, e2⟩⟩, -⟩⟩ := r
  unfold pot
  rw [a1, a2, a5, a6]
  have h1 : 2 ^ i ≤ 2 ^ 8 := Nat.pow_le_pow_right (by omega) hi
  have h2 : 2 ^ j ≤ 2 ^ 8 := Nat.pow_le_pow_right (by omega) hj
  simp only
  omega
theorem CSt_x {A : AS} {h h' : jHp} (g : CSt A h) (hT' : ∀ a, a < hN h → hT h' a = hT h a) (hN' : hN h ≤ hN h') (hI' : ∀ a k, a < hN h → hI h' a k = hI h a k) (hJ' : ∀ a k, a < hN h → a ≠ 141 → hJ h' a k = hJ h a k) (hR' : ∀ a k, a < hN h → hR h' a k = hR h a k) (h142 : 142 ≤ hN h) : CSt A h' ∧ pot h' = pot h := by
  obtain ⟨fa, fl, sa, sl, ra, rl, so, di, qu, co, ⟨⟨a1, a2, a3, a4, a5, a6, a7, a8, a9, b1, b2, b3, b4, b5⟩, gG, gL, gD, gF⟩, g2⟩ := g
  have gG0 := gG
  obtain ⟨G1, G2, G3, G4, G5, G6, G7⟩ := gG
  obtain ⟨l1, l2, l3, l4, l5, l6, l7⟩ := gL
  have e1 : hR h' 73 11 = fa := by rw [hR' 73 11 (by omega)]; exact a1
  have e2 : hR h' 77 8 = ra := by rw [hR' 77 8 (by omega)]; exact a5
  refine ⟨⟨fa, fl, sa, sl, ra, rl, so, di, qu, co, ⟨⟨e1, by rw [hT' _ l1]; exact a2, by rw [hR' 77 6 (by omega)]; exact a3, by rw [hT' _ l2]; exact a4, e2, by rw [hT' _ l3]; exact a6, by rw [hR' 77 9 (by omega)]; exact a7, by rw [hT' _ l4]; exact a8, by rw [hR' 77 10 (by omega)]; exact a9, by rw [hT' _ l5]; exact b1, by rw [hR' 77 11 (by omega)]; exact b2, by rw [hT' _ l6]; exact b3, by rw [hR' 77 12 (by omega)]; exact b4, by rw [hT' _ l7]; exact b5⟩, gG0, ⟨by omega, by omega, by omega, by omega, by omega, by omega, by omega⟩, gD, gF⟩, ?_⟩, ?_⟩
  · unfold CKn
    rw [hI' 77 4 (by omega), hI' 77 7 (by omega), hI' 77 5 (by omega)]
    rcases g2 with q | ⟨q1, q2, q3, q4, q5, q6⟩
    · exact Or.inl q
    · refine Or.inr ⟨q1, q2, q3, q4, fun i hi => by rw [hI' _ _ l1]; exact q5 i hi, ?_⟩
      rcases q6 with q | ⟨z1, z2, σ, s1, s2, s3⟩
      · exact Or.inl q
      · refine Or.inr ⟨z1, z2, σ, fun i hi => ?_, s2, s3⟩
        obtain ⟨c1, c2, c3⟩ := s1 i hi
        exact ⟨c1, by rw [hI' _ _ l4]; exact c2, by rw [hJ' _ _ l3 (by unfold isG at G3; omega)]; exact c3⟩
  · unfold pot
    rw [e1, e2, a1, a5, hT' _ l1, hT' _ l3]
/-- the heap with a cell of no kind more, or a number in the cell 141 -/
theorem both_x {A : AS} {tx : List Nat} {rw : List Int32} {h h' : jHp} (r : RC A tx rw h) (m : RMX A tx rw h) (hT' : ∀ a, a < hN h → hT h' a = hT h a) (hN' : hN h ≤ hN h') (hI' : ∀ a k, a < hN h → hI h' a k = hI h a k) (hJ' : ∀ a k, a < hN h → a ≠ 141 → hJ h' a k = hJ h a k) (hR' : ∀ a k, a < hN h → hR h' a k = hR h a k) : RC A tx rw h' ∧ RMX A tx rw h' ∧ pot h' = pot h := by
  have hs := r.1.1.1
  have h142 := hs.2.2
  have f : FG (fun _ _ => False) (fun a _ => a = 141) h h' := ⟨hT', hN', fun a k ha _ => hI' a k ha, fun a k ha n => hJ' a k ha n, fun a k ha _ => hR' a k ha⟩
  obtain ⟨c1, c2⟩ := CSt_x r.2.2.2.2.2 hT' hN' hI' hJ' hR' h142
  have r' := RC_g r f (fun a j q => q.elim) (CRw_g hs r.2.2.2.2.1 f fun a j q => q.elim) c1
  exact ⟨r', RMX_FC m (fun a k h1 h2 => hI' a k (by omega)) r'.1.1.1, c2⟩
/-- no more room than what grows, and t cells of six slots -/
def ROOM (h h' : jHp) (t : Nat) : Prop := hN h' + pot h ≤ hN h + t + pot h' ∧ hS h' + pot h ≤ hS h + 6 * t + pot h' ∧ hN h ≤ hN h' ∧ hS h ≤ hS h'
theorem both {A A' : AS} {tx tx' : List Nat} {rw rw' : List Int32} {h : jHp} {L : List Value} {v : Int32} {fS fM : jF} {vs : List Value} {as1 as2 : jS → Option (List Value × jS)} (r : RC A tx rw h) (m : RMX A tx rw h)
    (oS : ∃ h', fS (.ref 1 :: vs) h = some (some (.int v), h') ∧ RC A' tx' rw' h' ∧ FC h h') (oM : ∀ h1, RMX A tx rw h1 → ∃ h', fM (.ref 98 :: vs) h1 = some (some (.int v), h') ∧ RMX A' tx' rw' h' ∧ Fr WM h1 h')
    (h1 : ∀ h, as1 (L, h) = some (.ref 1 :: vs, (L, h))) (h2 : ∀ h, as2 (L, h) = some (.ref 98 :: vs, (L, h))) :
    ∃ h', s_if (b_cmp .ne (x_callv 0 fS as1) (x_callv 12 fM as2)) (s_ret (x_c (.int (nI 0)))) s_skip (L, h) = some (.inl 0, (L, h')) ∧ RC A' tx' rw' h' ∧ RMX A' tx' rw' h' ∧ ROOM h h' 0 := by
  obtain ⟨g1, e1, r1, f1⟩ := oS
  have hs := r.1.1.1
  have hs1 := r1.1.1.1
  have m1 : RMX A tx rw g1 := RMX_FC m (fun a k q1 q2 => (f1.1 a k q1 (by omega)).1) hs1
  obtain ⟨g2, e2, m2, f2⟩ := oM g1 m1
  have r2 := RC_WM r1 f2
  refine ⟨g2, ?_, r2, m2, ?_⟩
  · have t1 : (hT h 1).1 = 10 := by rw [sT_1 hs]
    have t2 : (hT g1 98).1 = 22 := by rw [sT_98 hs1]
    simp [s_if, b_cmp, x_callv, h1, h2, jb, j_recv, t1, t2, e1, e2, j_ret, if_icmp.holds, s_skip]
  · obtain ⟨⟨a1, a2, a3, a4, a5⟩, a6⟩ := f2
    have hp : pot g2 = pot g1 := by unfold pot; rw [a1, a2]
    obtain ⟨-, -, b3, b4, b5, b6⟩ := f1
    unfold ROOM
    rw [hp, a4, a5]
    omega
