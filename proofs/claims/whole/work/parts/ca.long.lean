/-! ranks as fields of one long -/
theorem jJ_tI {n : Nat} (h : n < 2 ^ 63) : (Int64.ofNat n).toInt = n := by
  rw [Int64.toInt_ofNat_of_lt h]
theorem jJ_eq {a b : Nat} (ha : a < 2 ^ 63) (hb : b < 2 ^ 63) : Int64.ofNat a = Int64.ofNat b ↔ a = b := by
  refine ⟨fun h => ?_, fun h => by rw [h]⟩
  have h1 := congrArg Int64.toInt h
  rw [jJ_tI ha, jJ_tI hb] at h1
  omega
theorem jJ_or (a b : Nat) : Int64.ofNat a ||| Int64.ofNat b = Int64.ofNat (a ||| b) := by
  apply Int64.toBitVec_inj.1
  show BitVec.ofNat 64 a ||| BitVec.ofNat 64 b = BitVec.ofNat 64 (a ||| b)
  apply BitVec.eq_of_getLsbD_eq
  intro i hi
  simp [hi]
theorem jJ_and (a b : Nat) : Int64.ofNat a &&& Int64.ofNat b = Int64.ofNat (a &&& b) := by
  apply Int64.toBitVec_inj.1
  show BitVec.ofNat 64 a &&& BitVec.ofNat 64 b = BitVec.ofNat 64 (a &&& b)
  apply BitVec.eq_of_getLsbD_eq
  intro i hi
  simp [hi]
theorem jJ_sub {a b : Nat} (h : b ≤ a) (ha : a < 2 ^ 63) : Int64.ofNat a - Int64.ofNat b = Int64.ofNat (a - b) := by
  apply Int64.toInt_inj.1
  rw [Jvm.Kit.i64_sub, jJ_tI ha, jJ_tI (by omega), jJ_tI (by omega)]
  · omega
  · rw [jJ_tI ha, jJ_tI (by omega)]; omega
  · rw [jJ_tI ha, jJ_tI (by omega)]; omega
theorem jJ_i2l {a : Nat} (ha : a < 2 ^ 31) : (nI a).toInt64 = Int64.ofNat a := by
  apply Int64.toInt_inj.1
  rw [Jvm.Kit.i64_of_i32, nI_toInt ha, jJ_tI (by omega)]
theorem jJ_sl : ∀ n, n < 64 → (((nI n).toInt64 &&& 63).toBitVec.smod 64).toNat = n := by decide
theorem jJ_su : ∀ n, n < 64 → ((nI n).toInt64.toUInt64 &&& Int64.toUInt64 63).toNat = n := by decide
theorem jJ_shl {a k : Nat} (hk : k < 64) (h : a * 2 ^ k < 2 ^ 63) : Int64.ofNat a <<< ((nI k).toInt64 &&& 63) = Int64.ofNat (a * 2 ^ k) := by
  have ha : a < 2 ^ 63 := Nat.lt_of_le_of_lt (Nat.le_mul_of_pos_right a (Nat.two_pow_pos k)) h
  have e : (a : Int) * 2 ^ k = ((a * 2 ^ k : Nat) : Int) := by rw [Int.natCast_mul, Int.natCast_pow]; rfl
  apply Int64.toInt_inj.1
  rw [Jvm.Kit.i64_shl _ _ (jJ_sl k hk), jJ_tI ha, jJ_tI h, e]
  · rw [jJ_tI ha, e]; omega
  · rw [jJ_tI ha, e]; omega
theorem jJ_ushr {a k : Nat} (ha : a < 2 ^ 63) (hk : k < 64) : ((Int64.ofNat a).toUInt64 >>> ((nI k).toInt64.toUInt64 &&& Int64.toUInt64 63)).toInt64 = Int64.ofNat (a / 2 ^ k) := by
  apply Int64.toInt_inj.1
  have h2 : a / 2 ^ k ≤ a := Nat.div_le_self _ _
  rw [Jvm.Kit.i64_lushr (Jvm.Kit.i64_nonneg.mpr (by rw [jJ_tI ha]; omega)) (jJ_su k hk) hk, jJ_tI ha, jJ_tI (by omega)]
  rw [Int.natCast_ediv, Int.natCast_pow]
  rfl
theorem jJ_l2i (a : Nat) : (Int64.ofNat a).toInt32 = nI a := by
  apply Int32.toBitVec_inj.1
  show (BitVec.ofNat 64 a).signExtend 32 = BitVec.ofNat 32 a
  apply BitVec.eq_of_getLsbD_eq
  intro i hi
  rw [BitVec.getLsbD_signExtend, BitVec.getLsbD_ofNat, BitVec.getLsbD_ofNat]
  simp [hi, show i < 64 by omega]
theorem lg_eq (x y : Int64) : ifCond.holds .eq (lg_cmp x y) = decide (x = y) := by
  unfold lg_cmp
  by_cases h1 : x > y
  · rw [if_pos h1]
    have : ¬ x = y := fun e => lg_lt_ne h1 e.symm
    simp [this, ifCond.holds]
  · rw [if_neg h1]
    by_cases h2 : x = y
    · rw [if_pos h2]; simp [h2, ifCond.holds]
    · rw [if_neg h2]; simp [h2, ifCond.holds]
theorem lg_ne (x y : Int64) : ifCond.holds .ne (lg_cmp x y) = decide (¬ x = y) := by
  unfold lg_cmp
  by_cases h1 : x > y
  · rw [if_pos h1]
    have : ¬ x = y := fun e => lg_lt_ne h1 e.symm
    simp [this, ifCond.holds]
  · rw [if_neg h1]
    by_cases h2 : x = y
    · rw [if_pos h2]; simp [h2, ifCond.holds]
    · rw [if_neg h2]; simp [h2, ifCond.holds]
-- fields
def fN (g : Nat → Nat) (n : Nat) : Nat := nfo (fun p m => m + g p * 2 ^ (5 * p)) n 0
theorem fN_s (g : Nat → Nat) (n : Nat) : fN g (n + 1) = fN g n + g n * 2 ^ (5 * n) := rfl
theorem fN_lt {g : Nat → Nat} (hg : ∀ p, g p < 32) : ∀ n, fN g n < 2 ^ (5 * n) := by
  intro n
  induction n with
  | zero => exact Nat.one_pos
  | succ n ih =>
    rw [fN_s, show 5 * (n + 1) = 5 * n + 5 by omega, Nat.pow_add]
    have : g n * 2 ^ (5 * n) ≤ 31 * 2 ^ (5 * n) := Nat.mul_le_mul_right _ (by have := hg n; omega)
    omega
theorem fN_bit {g : Nat → Nat} (hg : ∀ p, g p < 32) : ∀ n j, (fN g n).testBit j = (decide (j < 5 * n) && (g (j / 5)).testBit (j % 5)) := by
  intro n
  induction n with
  | zero => intro j; simp [fN, nfo]
  | succ n ih =>
    intro j
    rw [fN_s, Nat.add_comm, Nat.mul_comm, Nat.testBit_two_pow_mul_add _ (fN_lt hg n)]
    by_cases h : j < 5 * n
    · rw [if_pos h, ih]
      simp [h, show j < 5 * (n + 1) by omega]
    · rw [if_neg h]
      by_cases h2 : j < 5 * (n + 1)
      · have e1 : j / 5 = n := by omega
        have e2 : j % 5 = j - 5 * n := by omega
        rw [e1, e2]
        simp [h2]
      · have : (g n).testBit (j - 5 * n) = false := Nat.testBit_lt_two_pow (Nat.lt_of_lt_of_le (hg n) (show 2 ^ 5 ≤ 2 ^ (j - 5 * n) from Nat.pow_le_pow_right (by decide) (by omega)))
        rw [this]
        simp [h2]
theorem fN_or {g : Nat → Nat} (hg : ∀ p, g p < 32) {q r : Nat} (hq : q < 7) (h0 : g q = 0) (hr : r < 32) : fN g 7 ||| r * 2 ^ (5 * q) = fN (fun p => if p = q then r else g p) 7 := by
  have hg' : ∀ p, (fun p => if p = q then r else g p) p < 32 := fun p => by
    simp only
    split
    · exact hr
    · exact hg p
  apply Nat.eq_of_testBit_eq
  intro j
  rw [Nat.testBit_or, fN_bit hg, fN_bit hg', ← Nat.shiftLeft_eq, Nat.testBit_shiftLeft]
  by_cases h : j / 5 = q
  · rw [if_pos h, h, h0, Nat.zero_testBit]
    have e : j % 5 = j - 5 * q := by omega
    rw [e]
    simp [show j < 5 * 7 by omega, show 5 * q ≤ j by omega]
  · rw [if_neg h]
    have : (decide (j ≥ 5 * q) && r.testBit (j - 5 * q)) = false := by
      by_cases h1 : 5 * q ≤ j
      · rw [Nat.testBit_lt_two_pow (Nat.lt_of_lt_of_le hr (show 2 ^ 5 ≤ 2 ^ (j - 5 * q) from Nat.pow_le_pow_right (by decide) (by omega)))]
        simp
      · simp [h1]
    rw [this, Bool.or_false]
theorem fN_fld {g : Nat → Nat} (hg : ∀ p, g p < 16) {p : Nat} (hp : p < 7) : fN g 7 / 2 ^ (5 * p) &&& 15 = g p := by
  apply Nat.eq_of_testBit_eq
  intro j
  rw [Nat.testBit_and, Nat.testBit_div_two_pow, fN_bit (fun p => by have := hg p; omega), show (15 : Nat) = 2 ^ 4 - 1 from rfl, Nat.testBit_two_pow_sub_one]
  by_cases h : j < 4
  · rw [show (j + 5 * p) / 5 = p by omega, show (j + 5 * p) % 5 = j by omega]
    simp [h, show j + 5 * p < 5 * 7 by omega]
  · rw [Nat.testBit_lt_two_pow (Nat.lt_of_lt_of_le (hg p) (show 2 ^ 4 ≤ 2 ^ j from Nat.pow_le_pow_right (by decide) (by omega)))]
    simp [h]
theorem fN_add (a b : Nat → Nat) : ∀ n, fN (fun p => a p + b p) n = fN a n + fN b n := by
  intro n
  induction n with
  | zero => rfl
  | succ n ih =>
    rw [fN_s, fN_s, fN_s, ih, Nat.add_mul]
    omega
theorem fN_cg {a b : Nat → Nat} {n : Nat} (h : ∀ p, p < n → a p = b p) : fN a n = fN b n := nfo_congr fun i hi t => by rw [h i hi]
theorem fN_inj {a b : Nat → Nat} (ha : ∀ p, a p < 32) (hb : ∀ p, b p < 32) (h : fN a 7 = fN b 7) : ∀ p, p < 7 → a p = b p := by
  intro p hp
  apply Nat.eq_of_testBit_eq
  intro j
  by_cases hj : j < 5
  · have := congrArg (fun x => Nat.testBit x (5 * p + j)) h
    simp only [fN_bit ha, fN_bit hb] at this
    rw [show (5 * p + j) / 5 = p by omega, show (5 * p + j) % 5 = j by omega] at this
    simpa [show 5 * p + j < 5 * 7 by omega] using this
  · have hp5 : 2 ^ 5 ≤ 2 ^ j := Nat.pow_le_pow_right (by decide) (by omega)
    rw [Nat.testBit_lt_two_pow (Nat.lt_of_lt_of_le (ha p) hp5), Nat.testBit_lt_two_pow (Nat.lt_of_lt_of_le (hb p) hp5)]
theorem lent_fN : fN (fun _ => 16) 7 = 17734058512 := by decide
theorem b5_or : ∀ x, x < 16 → ∀ i, i < 5 → (x + 16).testBit i = (x.testBit i || (16).testBit i) := by decide
theorem b5_4 : ∀ x, x < 32 → x.testBit 4 = decide (16 ≤ x) := by decide
theorem lent_ok {a b : Nat → Nat} (ha : ∀ p, a p < 16) (hb : ∀ p, b p < 16) : fN a 7 ≤ fN b 7 ||| 17734058512 ∧ (((fN b 7 ||| 17734058512) - fN a 7) &&& 17734058512 = 17734058512 ↔ ∀ p, p < 7 → a p ≤ b p) := by
  have h16 : ∀ p : Nat, (fun _ : Nat => 16) p < 32 := fun _ => (by decide : 16 < 32)
  have hb' : ∀ p, (fun p => b p + 16) p < 32 := fun p => by have := hb p; simp only; omega
  have e1 : fN b 7 ||| 17734058512 = fN (fun p => b p + 16) 7 := by
    rw [← lent_fN]
    apply Nat.eq_of_testBit_eq
    intro j
    rw [Nat.testBit_or, fN_bit (fun p => by have := hb p; omega), fN_bit h16, fN_bit hb']
    rw [b5_or _ (hb _) _ (Nat.mod_lt _ (by decide)), Bool.and_or_distrib_left]
  have hu : ∀ p, (fun p => b p + 16 - a p) p < 32 := fun p => by have := hb p; simp only; omega
  have e2 : fN (fun p => b p + 16 - a p) 7 + fN a 7 = fN (fun p => b p + 16) 7 := by
    rw [← fN_add]
    exact fN_cg fun p _ => by have := ha p; omega
  rw [e1]
  refine ⟨by omega, ?_⟩
  have e3 : fN (fun p => b p + 16) 7 - fN a 7 = fN (fun p => b p + 16 - a p) 7 := by omega
  rw [e3, ← lent_fN]
  constructor
  · intro h p hp
    have := congrArg (fun x => Nat.testBit x (5 * p + 4)) h
    simp only [Nat.testBit_and, fN_bit hu, fN_bit h16] at this
    rw [show (5 * p + 4) / 5 = p by omega, show (5 * p + 4) % 5 = 4 by omega, b5_4 _ (hu p)] at this
    have hd : decide (5 * p + 4 < 5 * 7) = true := by simp; omega
    rw [hd, show (16 : Nat).testBit 4 = true from by decide] at this
    simp at this
    have := ha p
    omega
  · intro h
    apply Nat.eq_of_testBit_eq
    intro j
    rw [Nat.testBit_and, fN_bit hu, fN_bit h16]
    by_cases hj : j < 5 * 7
    case neg => simp [hj]
    simp only [hj, decide_true, Bool.true_and]
    by_cases h4 : j % 5 = 4
    · rw [h4, b5_4 _ (hu _)]
      have := h (j / 5) (by omega)
      have := ha (j / 5)
      simp
      omega
    · have : (16 : Nat).testBit (j % 5) = false := by
        have hl : j % 5 < 5 := Nat.mod_lt _ (by decide)
        have : j % 5 = 0 ∨ j % 5 = 1 ∨ j % 5 = 2 ∨ j % 5 = 3 := by omega
        rcases this with e | e | e | e <;> rw [e] <;> decide
      rw [this, Bool.and_false]
-- of people
def gF (A : AS) (S p : Nat) : Nat := if p < aNp A then rkF A S p else 0
theorem rkN_fN (A : AS) (S : Nat) : rkN A S = fN (gF A S) 7 := rfl
/-- all have a rank -/
def FRk (A : AS) (S : Nat) : Prop := (∀ p, p < aNp A → sCpl A p = none → ∃ n, n ≤ 5 ∧ sRnk A S p = some n) ∧ ∀ c, c < aNc A → ∃ n, n ≤ 8 ∧ sRkc A S c = some n
theorem FRk_of {A : AS} (w : WF A) {S : Nat} (h : sFree A S = true) : FRk A S := by
  unfold sFree at h
  simp only [Bool.and_eq_true] at h
  obtain ⟨⟨h1, h2⟩, -⟩ := h
  unfold sF1 at h1
  unfold sF2 at h2
  rw [fst1_all] at h1 h2
  refine ⟨fun p hp hc => ?_, fun c hc => ?_⟩
  · have := h1 p hp
    rw [hc] at this
    cases hq : sRnk A S p with
    | none => rw [hq] at this; simp at this
    | some n => exact ⟨n, sRnk_lt w hq, rfl⟩
  · have := h2 c hc
    cases hq : sRkc A S c with
    | none => rw [hq] at this; simp at this
    | some n => exact ⟨n, sRkc_lt w hq, rfl⟩
theorem FRk_all {A : AS} (w : WF A) {i : Nat} (hi : i < (sAllR A).length) : FRk A ((sAllR A).getD i 0) := by
  have h := (sAllR_mem w).mp (getD_mem' (d := 0) hi)
  exact FRk_of w (std_ok w h.1 h.2).2
theorem gF_lt {A : AS} (w : WF A) (S p : Nat) : gF A S p < 16 := by
  unfold gF
  split
  · unfold rkF
    cases hc : sCpl A p with
    | none =>
      cases hq : sRnk A S p with
      | none => simp
      | some n => have := sRnk_lt w hq; simp; omega
    | some c =>
      simp only
      split
      · cases hq : sRkc A S c with
        | none => simp
        | some n => have := sRkc_lt w hq; simp; omega
      · decide
  · decide
theorem rkN_lt {A : AS} (w : WF A) (S : Nat) : rkN A S < 2 ^ 35 := by
  rw [rkN_fN]
  exact fN_lt (fun p => by have := gF_lt w S p; omega) 7
theorem nfo_orT {f : Nat → Bool} : ∀ n (s : Bool), nfo (fun p s => s || f p) n s = true ↔ s = true ∨ ∃ p, p < n ∧ f p = true := by
  intro n
  induction n with
  | zero => intro s; simp [nfo]
  | succ n ih =>
    intro s
    have e : nfo (fun p s => s || f p) (n + 1) s = (nfo (fun p s => s || f p) n s || f n) := rfl
    rw [e, Bool.or_eq_true, ih]
    constructor
    · rintro ((h | ⟨p, h1, h2⟩) | h)
      · exact Or.inl h
      · exact Or.inr ⟨p, by omega, h2⟩
      · exact Or.inr ⟨n, by omega, h⟩
    · rintro (h | ⟨p, h1, h2⟩)
      · exact Or.inl (Or.inl h)
      · by_cases q : p = n
        · rw [q] at h2; exact Or.inr h2
        · exact Or.inl (Or.inr ⟨p, by omega, h2⟩)
theorem bet_fld {A : AS} (w : WF A) {a b : Nat} (ha : FRk A a) (hb : FRk A b) : sBet A a b = true ↔ (∀ p, p < 7 → gF A a p ≤ gF A b p) ∧ rkN A a ≠ rkN A b := by
  have hn := w.1.1
  have hR : ∀ x y, FRk A x → FRk A y → ∀ p, p < aNp A → (ltR A x y p = true ↔ sCpl A p = none ∧ gF A x p < gF A y p) := by
    intro x y hx hy p hp
    unfold ltR sSg gF rkF
    rw [if_pos hp, if_pos hp]
    cases hc : sCpl A p with
    | some c => simp
    | none =>
      obtain ⟨m, m1, m2⟩ := hx.1 p hp hc
      obtain ⟨n, n1, n2⟩ := hy.1 p hp hc
      rw [m2, n2, oI_s, oI_s]
      have : (nI m < nI n) = (m < n) := propext (nI_ltI (by omega) (by omega))
      simp [this]
  have hC : ∀ x y, FRk A x → FRk A y → ∀ c, c < aNc A → (ltC A x y c = true ↔ gF A x (aC1 A c) < gF A y (aC1 A c)) := by
    intro x y hx hy c hc
    have hp : aC1 A c < aNp A := (w.2.2.2.2.1.2.1 c hc).1
    have hcc : sCpl A (aC1 A c) = some c := (sCpl_iff w hc).mpr (Or.inl rfl)
    obtain ⟨m, m1, m2⟩ := hx.2 c hc
    obtain ⟨n, n1, n2⟩ := hy.2 c hc
    unfold ltC gF rkF
    rw [if_pos hp, if_pos hp, hcc]
    simp only [if_true]
    rw [m2, n2, oI_s, oI_s]
    have : (nI m < nI n) = (m < n) := propext (nI_ltI (by omega) (by omega))
    simp [this]
  -- a field that is smaller is a PERSON's or a COUPLE's
  have hX : ∀ x y, ∀ p, gF A x p < gF A y p → p < aNp A ∧ (sCpl A p = none ∨ ∃ c, c < aNc A ∧ aC1 A c = p) := by
    intro x y p h
    unfold gF at h
    by_cases hp : p < aNp A
    · refine ⟨hp, ?_⟩
      rw [if_pos hp, if_pos hp] at h
      unfold rkF at h
      cases hc : sCpl A p with
      | none => exact Or.inl rfl
      | some c =>
        rw [hc] at h
        simp only at h
        by_cases q : aC1 A c = p
        · exact Or.inr ⟨c, sCpl_lt hc, q⟩
        · rw [if_neg q, if_neg q] at h; omega
    · rw [if_neg hp, if_neg hp] at h; omega
  unfold sBet
  rw [Bool.and_eq_true, Bool.and_eq_true, fst1_all, fst1_all, nfo_orT, nfo_orT]
  constructor
  · rintro ⟨h1, h2, h3⟩
    have hle : ∀ p, p < 7 → gF A a p ≤ gF A b p := by
      intro p _
      apply Nat.le_of_not_lt
      intro hlt
      obtain ⟨hp, z⟩ := hX _ _ _ hlt
      rcases z with z | ⟨c, hc, rfl⟩
      · have := (hR b a hb ha p hp).mpr ⟨z, hlt⟩
        rw [h1 p hp] at this; cases this
      · have := (hC b a hb ha c hc).mpr hlt
        rw [h2 c hc] at this; cases this
    refine ⟨hle, fun he => ?_⟩
    rw [rkN_fN, rkN_fN] at he
    have hin := fN_inj (fun p => by have := gF_lt w a p; omega) (fun p => by have := gF_lt w b p; omega) he
    rcases h3 with (h | ⟨p, hp, h⟩) | ⟨c, hc, h⟩
    · cases h
    · have := ((hR a b ha hb p hp).mp h).2
      rw [hin p (by omega)] at this
      omega
    · have := (hC a b ha hb c hc).mp h
      rw [hin _ (by have := (w.2.2.2.2.1.2.1 c hc).1; omega)] at this
      omega
  · rintro ⟨h1, h2⟩
    refine ⟨fun p hp => ?_, fun c hc => ?_, ?_⟩
    · cases h : ltR A b a p with
      | false => rfl
      | true =>
        have := ((hR b a hb ha p hp).mp h).2
        have := h1 p (by omega)
        omega
    · cases h : ltC A b a c with
      | false => rfl
      | true =>
        have := (hC b a hb ha c hc).mp h
        have := h1 (aC1 A c) (by have := (w.2.2.2.2.1.2.1 c hc).1; omega)
        omega
    · apply Classical.byContradiction
      intro hno
      apply h2
      rw [rkN_fN, rkN_fN]
      apply fN_cg
      intro p hp
      have h3 := h1 p hp
      apply Nat.le_antisymm h3
      apply Nat.le_of_not_lt
      intro hlt
      obtain ⟨hp', z⟩ := hX _ _ _ hlt
      apply hno
      rcases z with z | ⟨c, hc, rfl⟩
      · exact Or.inl (Or.inr ⟨p, hp', (hR a b ha hb p hp').mpr ⟨z, hlt⟩⟩)
      · exact Or.inr ⟨c, hc, (hC a b ha hb c hc).mpr hlt⟩
