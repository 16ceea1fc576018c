/-! why, in the class and in the document -/
theorem pplP_bit (A : AS) (f P n p : Nat) : (pplP A f P n).testBit p = true ↔ ∃ i, i < n ∧ P.testBit i = true ∧ aPe A (bAt A f i) = p := or_bits (fun i => P.testBit i) (fun i => aPe A (bAt A f i)) n p
theorem sTk_off {A : AS} (w : WF A) (f S : Nat) : sTk A f (S &&& sOff A f) = sTk A f S := by
  unfold sTk
  congr 1
  apply Nat.eq_of_testBit_eq
  intro j
  have h1 := or_bits (fun k => (S &&& sOff A f).testBit ((sOrd A f).getD k 0)) (fun k => (sOrd A f).length - 1 - k) (sOrd A f).length j
  have h2 := or_bits (fun k => S.testBit ((sOrd A f).getD k 0)) (fun k => (sOrd A f).length - 1 - k) (sOrd A f).length j
  rw [Bool.eq_iff_iff]
  refine h1.trans (Iff.trans ?_ h2.symm)
  have he : ∀ k, k < (sOrd A f).length → (S &&& sOff A f).testBit ((sOrd A f).getD k 0) = S.testBit ((sOrd A f).getD k 0) := fun k hk => by
    obtain ⟨b1, b2⟩ := (sOrd_mem w).mp (getD_mem' (d := 0) hk)
    generalize (sOrd A f).getD k 0 = b at *
    rw [Nat.testBit_and]
    unfold sOff
    rw [sOff_bit]
    simp [b1, b2]
  constructor
  · rintro ⟨k, k1, k2, k3⟩; exact ⟨k, k1, by rw [← he k k1]; exact k2, k3⟩
  · rintro ⟨k, k1, k2, k3⟩; exact ⟨k, k1, by rw [he k k1]; exact k2, k3⟩
/-- what the table says, of a set -/
theorem tP_set {A : AS} (w : WF A) (f S : Nat) : pSet A f (tP A f 0 (prt f (slM A S))) = sTk A f S := by
  have h := (tP_spec w (l := 0) (prt_slM_lt w f S)).2.2.2.2
  rw [aLv_0, pSet_prt w, sTk_off w] at h
  exact h
theorem plc_idx {A : AS} (w : WF A) {b : Nat} (hb : b < aNb A) : plc A (aOf A b) (sIdx A b) = idxL (sOrd A (aOf A b)) b := by
  unfold plc
  rw [bAt_idx w hb]
theorem idxL_inj {l : List Nat} {a b : Nat} (ha : a ∈ l) (hb : b ∈ l) (e : idxL l a = idxL l b) : a = b := by
  rw [← (idxL_ok ha).2.1, e, (idxL_ok hb).2.1]
theorem whS_set {A : AS} (w : WF A) {f T b : Nat} (hb : b < aNb A) (hf : aOf A b = f) (hT : T < 2 ^ nOf A f) : sWhS (sOrd A f) (pSet A f T) b = pSet A f (hB A f T (sIdx A b) ||| 2 ^ sIdx A b) := by
  have hix := (sIdx_lt w hb).1
  have hix8 := (sIdx_lt w hb).2
  rw [hf] at hix
  have hnf : nOf A f ≤ 8 := nOf_le w f
  have hHl : hB A f T (sIdx A b) < 2 ^ nOf A f := lt_of_bits fun i hi => by
    rw [hB_bit] at hi
    simp only [Bool.and_eq_true, decide_eq_true_eq] at hi
    exact hi.1
  have hQ : hB A f T (sIdx A b) ||| 2 ^ sIdx A b < 2 ^ nOf A f := or_bit_lt hHl hix
  have hQ8 : hB A f T (sIdx A b) ||| 2 ^ sIdx A b < 256 := Nat.lt_of_lt_of_le hQ (Nat.pow_le_pow_right (by decide) hnf)
  have hT8 : T < 256 := Nat.lt_of_lt_of_le hT (Nat.pow_le_pow_right (by decide) hnf)
  have hbm : b ∈ sOrd A f := (sOrd_mem w).mpr ⟨hb, hf⟩
  have hbits : ∀ n, n ≤ (sOrd A f).length → ∀ j, (nfo (fun k m => m ||| (pSet A f T &&& 2 ^ ((sOrd A f).getD k 0))) n (2 ^ b)).testBit j = true ↔ j = b ∨ ∃ k, k < n ∧ (sOrd A f).getD k 0 = j ∧ (pSet A f T).testBit j = true := by
    intro n
    induction n with
    | zero =>
      intro _ j
      simp only [nfo, Nat.testBit_two_pow, decide_eq_true_eq]
      constructor
      · intro h; exact Or.inl h.symm
      · rintro (h | ⟨k, h, -⟩)
        · exact h.symm
        · omega
    | succ n ih =>
      intro hn j
      simp only [nfo]
      rw [Nat.testBit_or, Bool.or_eq_true, ih (by omega), Nat.testBit_and, Nat.testBit_two_pow, Bool.and_eq_true, decide_eq_true_iff]
      constructor
      · rintro ((h | ⟨k, k1, k2⟩) | ⟨h1, h2⟩)
        · exact Or.inl h
        · exact Or.inr ⟨k, by omega, k2⟩
        · exact Or.inr ⟨n, by omega, h2, h1⟩
      · rintro (h | ⟨k, k1, k2, k3⟩)
        · exact Or.inl (Or.inl h)
        · by_cases e : k = n
          · subst e; exact Or.inr ⟨k3, k2⟩
          · exact Or.inl (Or.inr ⟨k, by omega, k2, k3⟩)
  apply Nat.eq_of_testBit_eq
  intro j
  rw [Bool.eq_iff_iff]
  unfold sWhS
  rw [hbits _ (Nat.le_of_lt (idxL_ok hbm).1), pSet_bit w hQ8]
  simp only [Bool.and_eq_true, decide_eq_true_eq]
  rw [Nat.testBit_or, Nat.testBit_two_pow, hB_bit, Bool.or_eq_true]
  simp only [Bool.and_eq_true, decide_eq_true_eq]
  constructor
  · rintro (h | ⟨k, k1, k2, k3⟩)
    · subst h; exact ⟨hb, hf, Or.inr rfl⟩
    · rw [pSet_bit w hT8] at k3
      simp only [Bool.and_eq_true, decide_eq_true_eq] at k3
      obtain ⟨j1, j2, j3⟩ := k3
      refine ⟨j1, j2, Or.inl ⟨?_, j3, ?_⟩⟩
      · have := (sIdx_lt w j1).1; rw [j2] at this; exact this
      · have hjm : j ∈ sOrd A f := (sOrd_mem w).mpr ⟨j1, j2⟩
        have p1 := plc_idx w j1
        have p2 := plc_idx w hb
        rw [j2] at p1
        rw [hf] at p2
        rw [p1, p2]
        have : idxL (sOrd A f) j = k := nd_idx (sOrd_nd A f) (idxL_ok hjm).1 (by have := (idxL_ok hbm).1; omega) (by rw [(idxL_ok hjm).2.1, k2])
        omega
  · rintro ⟨j1, j2, ⟨j3, j4, j5⟩ | j3⟩
    · right
      have hjm : j ∈ sOrd A f := (sOrd_mem w).mpr ⟨j1, j2⟩
      have p1 := plc_idx w j1
      have p2 := plc_idx w hb
      rw [j2] at p1
      rw [hf] at p2
      rw [p1, p2] at j5
      refine ⟨idxL (sOrd A f) j, j5, (idxL_ok hjm).2.1, ?_⟩
      rw [pSet_bit w hT8]
      simp [j1, j2, j4]
    · left
      exact sSlot_inj w j1 hb (by unfold sSlot; rw [j2, hf, j3])
theorem payP_or {A : AS} {f H x : Nat} (hx : H.testBit x = false) : ∀ n, payP A f (H ||| 2 ^ x) n = payP A f H n + if x < n then aPa A (bAt A f x) else 0 := by
  intro n
  induction n with
  | zero => rfl
  | succ n ih =>
    rw [payP_s, payP_s, ih, Nat.testBit_or, Nat.testBit_two_pow]
    by_cases e : x = n
    · subst e
      rw [hx]
      simp
    · by_cases q : x < n
      · have q2 : x < n + 1 := by omega
        cases H.testBit n <;> simp [e, q, q2] <;> omega
      · have q2 : ¬ x < n + 1 := by omega
        cases H.testBit n <;> simp [e, q, q2]
theorem rpP_iff {A : AS} {f P m : Nat} : rpP A f P m = true ↔ P.testBit m = true ∧ ∃ i, i < m ∧ P.testBit i = true ∧ aPe A (bAt A f i) = aPe A (bAt A f m) := by
  unfold rpP
  rw [Bool.and_eq_true, pplP_bit]
theorem kOk_nr {A : AS} {f l T : Nat} (h : kOk A f l T = true) : ∀ m, m < nOf A f → rpP A f T m = false := by
  unfold kOk kAlw at h
  intro m hm
  by_cases e : T = 0
  · subst e
    unfold rpP
    simp
  · have e' : (T == 0) = false := by simpa using e
    rw [e', Bool.false_or, Bool.and_eq_true, Bool.and_eq_true] at h
    exact fst1_all.mp h.1.2 m hm
theorem rsN_ok {A : AS} (w : WF A) {f T x : Nat} (hT : T < 2 ^ nOf A f) (hk : kOk A f 0 T = true) (hx : x < nOf A f) : rsN A f T x = if sBr A (chD A f) (pSet A f (hB A f T x ||| 2 ^ x)) = 0 then 6 else sBr A (chD A f) (pSet A f (hB A f T x ||| 2 ^ x)) := by
  have hnf : nOf A f ≤ 8 := nOf_le w f
  have hHb := hB_bit A f T x
  have hnr := kOk_nr hk
  have hHl : hB A f T x < 2 ^ nOf A f := lt_of_bits fun i hi => by
    rw [hHb] at hi
    simp only [Bool.and_eq_true, decide_eq_true_eq] at hi
    exact hi.1
  have hHx : (hB A f T x).testBit x = false := by rw [hHb]; simp
  have hHT : ∀ i, (hB A f T x).testBit i = true → T.testBit i = true := fun i hi => by
    rw [hHb] at hi
    simp only [Bool.and_eq_true] at hi
    exact hi.2.1
  have hQ : hB A f T x ||| 2 ^ x < 2 ^ nOf A f := or_bit_lt hHl hx
  have hQ8 : hB A f T x ||| 2 ^ x < 256 := Nat.lt_of_lt_of_le hQ (Nat.pow_le_pow_right (by decide) hnf)
  have hpp := ppl_pS w (f := f) hQ8
  have hpy := pay_pS w (f := f) hQ8
  have hpo := pop_pS w (f := f) hQ
  have hrp := rp_ok w (f := f) hQ
  have hC := chD_ok w f
  have hWl := pplP_lt w (f := f) (hB A f T x ||| 2 ^ x) (nOf A f) (Nat.le_refl _)
  have hpl : popN 32 (pplP A f (hB A f T x ||| 2 ^ x) (nOf A f)) ≤ cMost (chD A f) → kPlc A (cKeeps (chD A f)) (pplP A f (hB A f T x ||| 2 ^ x) (nOf A f)) (cMost (chD A f)) = _ := fun z => kPlc_ok w hC.2.2.2.2.2.1 hWl z
  have hap := kApt_ok (l := cNevers (chD A f)) hC.2.2.2.2.2.2.2.2.2 (pplP A f (hB A f T x ||| 2 ^ x) (nOf A f))
  have hpay := payP_or (A := A) (f := f) hHx (nOf A f)
  rw [if_pos hx] at hpay
  have hYl := payP_le w (f := f) (hB A f T x) (nOf A f) (Nat.le_refl _)
  have hcl := (w.2.2.1.2.1 _ (bAt_ok w hx).1).2.2.1
  have hppo : pplP A f (hB A f T x ||| 2 ^ x) (nOf A f) = pplP A f (hB A f T x) (nOf A f) ||| 2 ^ aPe A (bAt A f x) := by
    apply Nat.eq_of_testBit_eq
    intro p
    rw [Bool.eq_iff_iff, Nat.testBit_or, Nat.testBit_two_pow, Bool.or_eq_true, pplP_bit, pplP_bit, decide_eq_true_iff]
    constructor
    · rintro ⟨i, i1, i2, i3⟩
      rw [Nat.testBit_or, Nat.testBit_two_pow, Bool.or_eq_true, decide_eq_true_iff] at i2
      rcases i2 with q | q
      · exact Or.inl ⟨i, i1, q, i3⟩
      · rw [q]; exact Or.inr i3
    · rintro (⟨i, i1, i2, i3⟩ | h)
      · exact ⟨i, i1, by rw [Nat.testBit_or, i2]; rfl, i3⟩
      · exact ⟨x, hx, by rw [Nat.testBit_or, Nat.testBit_two_pow]; simp, h⟩
  have hcn : popN 32 (hB A f T x ||| 2 ^ x) = 1 + cntN (fun j => (hB A f T x).testBit j) (nOf A f) := by
    rw [popN_cnt hQ (by omega), cntN_or (p := fun j => decide (j = x)) (q := fun j => (hB A f T x).testBit j)]
    · rw [cntN_one _ x hx (by simp) fun i _ h => by simpa using h]
    · intro i _
      constructor
      · have hd : decide (i = x) = decide (x = i) := decide_eq_decide.mpr eq_comm
        rw [Nat.testBit_or, Nat.testBit_two_pow, Bool.or_comm, hd]
      · rintro ⟨h1, h2⟩
        simp only [decide_eq_true_eq] at h1
        rw [h1, hHx] at h2; cases h2
  have hrep : popN 32 (pplP A f (hB A f T x ||| 2 ^ x) (nOf A f)) = popN 32 (hB A f T x ||| 2 ^ x) ↔ (pplP A f (hB A f T x) (nOf A f)).testBit (aPe A (bAt A f x)) = false := by
    rw [← decide_eq_true_iff (p := popN 32 (pplP A f (hB A f T x ||| 2 ^ x) (nOf A f)) = popN 32 (hB A f T x ||| 2 ^ x)), ← hrp, fst1_all]
    have hqb : ∀ i, (hB A f T x ||| 2 ^ x).testBit i = true ↔ (hB A f T x).testBit i = true ∨ x = i := fun i => by
      rw [Nat.testBit_or, Nat.testBit_two_pow, Bool.or_eq_true, decide_eq_true_iff]
    constructor
    · intro h
      cases q : (pplP A f (hB A f T x) (nOf A f)).testBit (aPe A (bAt A f x)) with
      | false => rfl
      | true =>
        obtain ⟨i, i1, i2, i3⟩ := (pplP_bit A f _ _ _).mp q
        have hne : i ≠ x := fun e => by rw [e, hHx] at i2; cases i2
        rcases Nat.lt_or_gt_of_ne hne with z | z
        · have := h x hx
          rw [rpP_iff.mpr ⟨(hqb x).mpr (Or.inr rfl), i, z, (hqb i).mpr (Or.inl i2), i3⟩] at this
          cases this
        · have := h i i1
          rw [rpP_iff.mpr ⟨(hqb i).mpr (Or.inl i2), x, z, (hqb x).mpr (Or.inr rfl), i3.symm⟩] at this
          cases this
    · intro h m hm
      cases q : rpP A f (hB A f T x ||| 2 ^ x) m with
      | false => rfl
      | true =>
        obtain ⟨m1, i, i1, i2, i3⟩ := rpP_iff.mp q
        have bad : ∀ i, i < nOf A f → (hB A f T x).testBit i = true → aPe A (bAt A f i) = aPe A (bAt A f x) → False := fun i j1 j2 j3 => by
          rw [(pplP_bit A f _ _ _).mpr ⟨i, j1, j2, j3⟩] at h; cases h
        rcases (hqb m).mp m1 with y | y
        · rcases (hqb i).mp i2 with z | z
          · have := hnr m hm
            rw [rpP_iff.mpr ⟨hHT m y, i, i1, hHT i z, i3⟩] at this
            cases this
          · subst z; exact absurd i3.symm (fun z => bad m hm y z)
        · subst y
          rcases (hqb i).mp i2 with z | z
          · exact absurd i3 (fun y => bad i (by omega) z y)
          · omega
  unfold rsN rsM sBr
  rw [hpp, hpy, hpo]
  rw [hppo] at hpl hap
  rw [hppo] at hrep ⊢
  have hpl2 := hpl
  rw [hpay, hcn] at *
  generalize pplP A f (hB A f T x) (nOf A f) = W at *
  generalize payP A f (hB A f T x) (nOf A f) = Y at *
  generalize cntN (fun j => (hB A f T x).testBit j) (nOf A f) = M at *
  generalize aPe A (bAt A f x) = pr at *
  generalize aPa A (bAt A f x) = c at *
  by_cases z1 : W.testBit pr = true
  · have : ¬ (popN 32 (W ||| 2 ^ pr) = 1 + M) := fun e => by rw [hrep.mp e] at z1; cases z1
    rw [if_pos z1, if_pos this]
    rfl
  · have z1' : popN 32 (W ||| 2 ^ pr) = 1 + M := hrep.mpr (by simpa using z1)
    have z1n : ¬ (popN 32 (W ||| 2 ^ pr) ≠ 1 + M) := fun q => q z1'
    rw [if_neg z1, if_neg z1n]
    by_cases z2 : cMost (chD A f) < 1 + M
    · rw [if_pos z2, if_pos z2]; rfl
    · rw [if_neg z2, if_neg z2]
      have hpl3 := hpl (by omega)
      rw [hpl3, hap]
      generalize (cKeeps (chD A f)).any (fun q => decide (cMost (chD A f) - q.2 < sOth A (W ||| 2 ^ pr) q.1)) = u1 at *
      generalize (cNevers (chD A f)).any (fun m => (W ||| 2 ^ pr) &&& m == m) = u2 at *
      cases hm : cMoney (chD A f) with
      | none =>
        have z3 : ¬ (none : Option Nat).getD 1000000 < c + Y := by
          simp only [Option.getD_none]
          omega
        rw [if_neg z3]
        cases u1 <;> cases u2 <;> rfl
      | some m =>
        have hcm : m < Y + c ↔ m < c + Y := by omega
        simp only [Option.getD_some, decide_eq_true_eq, hcm]
        by_cases z3 : m < c + Y
        · simp [z3]
        · cases u1 <;> cases u2 <;> simp [z3]
theorem why_ok {A : AS} (w : WF A) {f S b : Nat} (hb : b < aNb A) (hf : aOf A b = f) : (if (tP A f 0 (prt f (slM A S))).testBit (sIdx A b) then 0 else rsN A f (tP A f 0 (prt f (slM A S))) (sIdx A b)) = sWhy A f S b := by
  have hP := prt_slM_lt w f S
  obtain ⟨t1, -, t3, -, -⟩ := tP_spec w (l := 0) hP
  have hset := tP_set w f S
  have hix := (sIdx_lt w hb).1
  have hbt := bAt_idx w hb
  rw [hf] at hix hbt
  have hbit := pS_bit w t1 hix
  rw [hbt, hset] at hbit
  have hwh := whS_set w hb hf t1
  rw [hset] at hwh
  have hrs := rsN_ok w t1 t3 hix
  unfold sWhy
  rw [hbit, hwh]
  by_cases z : (tP A f 0 (prt f (slM A S))).testBit (sIdx A b) = true
  · rw [if_pos z, if_pos z]
  · rw [if_neg z, if_neg z, hrs]
    cases hC : aCh A f with
    | some C =>
      have : chD A f = C := by unfold chD; rw [hC]; rfl
      rw [this]
    | none =>
      have hc : chD A f = C0 := by unfold chD; rw [hC]; rfl
      have hT0 : tP A f 0 (prt f (slM A S)) = 0 := by
        unfold kOk kAlw at t3
        rw [hC] at t3
        simpa using t3
      rw [hc, hT0]
      have hH0 : hB A f 0 (sIdx A b) = 0 := by
        apply Nat.eq_of_testBit_eq
        intro j
        rw [hB_bit]
        simp
      rw [hH0, Nat.zero_or]
      have hQ : 2 ^ sIdx A b < 2 ^ nOf A f := Nat.pow_lt_pow_right (by decide) hix
      have hnf : nOf A f ≤ 8 := nOf_le w f
      have hQ8 : 2 ^ sIdx A b < 256 := Nat.lt_of_lt_of_le hQ (Nat.pow_le_pow_right (by decide) hnf)
      have hrp := rp_ok w (f := f) hQ
      have hnone : ∀ m, m < nOf A f → rpP A f (2 ^ sIdx A b) m = false := fun m hm => by
        cases q : rpP A f (2 ^ sIdx A b) m with
        | false => rfl
        | true =>
          obtain ⟨m1, i, i1, i2, -⟩ := rpP_iff.mp q
          rw [Nat.testBit_two_pow, decide_eq_true_iff] at m1 i2
          omega
      have hn2 := fst1_all.mpr hnone
      rw [hrp, decide_eq_true_iff] at hn2
      have hp1 : popN 32 (2 ^ sIdx A b) ≤ 8 := by
        rw [popN_cnt hQ (by omega)]
        exact Nat.le_trans (cntN_le _ _) hnf
      have hbr : sBr A C0 (pSet A f (2 ^ sIdx A b)) = 0 := by
        unfold sBr
        rw [ppl_pS w hQ8, pop_pS w hQ]
        have n1 : ¬ (popN 32 (pplP A f (2 ^ sIdx A b) (nOf A f)) ≠ popN 32 (2 ^ sIdx A b)) := fun q => q hn2
        have n2 : ¬ cMost C0 < popN 32 (2 ^ sIdx A b) := by
          have : cMost C0 = 8 := rfl
          omega
        rw [if_neg n1, if_neg n2]
        rfl
      rw [hbr]
      rfl
