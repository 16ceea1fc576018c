/-! how many bits; the lowest bit -/
def popN : Nat → Nat → Nat
  | 0, _ => 0
  | k + 1, x => x % 2 + popN k (x / 2)
theorem and_256 (a b c d : Nat) (ha : a < 256) (hc : c < 256) : (a + 256 * b) &&& (c + 256 * d) = (a &&& c) + 256 * (b &&& d) := by
  have h1 : ((a + 256 * b) &&& (c + 256 * d)) % 2 ^ 8 = a &&& c := by
    rw [Nat.and_mod_two_pow]
    congr 1 <;> omega
  have h2 : ((a + 256 * b) &&& (c + 256 * d)) / 2 ^ 8 = b &&& d := by
    rw [Nat.and_div_two_pow]
    congr 1 <;> omega
  omega
def bM5 : Nat → Nat
  | 0 => 0
  | n + 1 => 85 + 256 * bM5 n
def bM3 : Nat → Nat
  | 0 => 0
  | n + 1 => 51 + 256 * bM3 n
def bMf : Nat → Nat
  | 0 => 0
  | n + 1 => 15 + 256 * bMf n
def bS1 : Nat → Nat → Nat
  | 0, _ => 0
  | n + 1, x => (x % 256 - (x % 256 / 2 &&& 85)) + 256 * bS1 n (x / 256)
def bS2 (d : Nat) : Nat := ((d - (d / 2 &&& 85)) &&& 51) + ((d - (d / 2 &&& 85)) / 4 &&& 51)
def bT2 : Nat → Nat → Nat
  | 0, _ => 0
  | n + 1, x => bS2 (x % 256) + 256 * bT2 n (x / 256)
def bT3 : Nat → Nat → Nat
  | 0, _ => 0
  | n + 1, x => popN 8 (x % 256) + 256 * bT3 n (x / 256)
theorem b_t1 : ∀ u, u < 128 → ∀ c, c < 2 → (u + 128 * c) &&& 85 = u &&& 85 := by decide
theorem b_t2 : ∀ u, u < 64 → ∀ c, c < 4 → (u + 64 * c) &&& 51 = u &&& 51 := by decide +kernel
theorem b_t3 : ∀ d, d < 256 → (bS2 d + bS2 d / 16) % 16 = popN 8 d ∧ bS2 d % 16 ≤ 4 ∧ bS2 d / 16 ≤ 4 ∧ (d / 2 &&& 85) ≤ d ∧ popN 8 d ≤ 8 := by decide +kernel
theorem b_step1 : ∀ n x, x < 256 ^ n → (x / 2 &&& bM5 n) ≤ x ∧ x - (x / 2 &&& bM5 n) = bS1 n x := by
  intro n
  induction n with
  | zero => intro x hx; simp [bM5, bS1]; omega
  | succ n ih =>
    intro x hx
    have hq : x / 256 < 256 ^ n := by rw [Nat.pow_succ] at hx; omega
    obtain ⟨i1, i2⟩ := ih (x / 256) hq
    have e : x / 2 = (x % 256 / 2 + 128 * (x / 256 % 2)) + 256 * (x / 256 / 2) := by omega
    have h3 := (b_t3 (x % 256) (by omega)).2.2.2.1
    simp only [bM5, bS1]
    rw [e, and_256 _ _ _ _ (by omega) (by decide), b_t1 (x % 256 / 2) (by omega) (x / 256 % 2) (by omega)]
    omega
theorem b_lt1 : ∀ d, d < 256 → d - (d / 2 &&& 85) < 256 := by intro d hd; omega
theorem b_step2 : ∀ n x, x < 256 ^ n → (bS1 n x &&& bM3 n) + (bS1 n x / 4 &&& bM3 n) = bT2 n x := by
  intro n
  induction n with
  | zero => intro x hx; simp [bS1, bM3, bT2]
  | succ n ih =>
    intro x hx
    have hq : x / 256 < 256 ^ n := by rw [Nat.pow_succ] at hx; omega
    have i2 := ih (x / 256) hq
    simp only [bM3, bS1, bT2]
    generalize hd : x % 256 - (x % 256 / 2 &&& 85) = d
    have hd2 : d < 256 := by omega
    have e : (d + 256 * bS1 n (x / 256)) / 4 = (d / 4 + 64 * (bS1 n (x / 256) % 4)) + 256 * (bS1 n (x / 256) / 4) := by omega
    rw [e, and_256 _ _ _ _ hd2 (by decide), and_256 _ _ _ _ (by omega) (by decide), b_t2 (d / 4) (by omega) (bS1 n (x / 256) % 4) (by omega)]
    have e2 : bS2 (x % 256) = (d &&& 51) + (d / 4 &&& 51) := by rw [← hd]; rfl
    rw [e2]
    omega
theorem b_and15 (a : Nat) : a &&& 15 = a % 16 := Nat.and_two_pow_sub_one_eq_mod a 4
theorem b_step3 : ∀ n x, x < 256 ^ n → bT2 n x % 16 ≤ 4 ∧ ((bT2 n x + bT2 n x / 16) &&& bMf n) = bT3 n x := by
  intro n
  induction n with
  | zero => intro x hx; simp [bT2, bMf, bT3]
  | succ n ih =>
    intro x hx
    have hq : x / 256 < 256 ^ n := by rw [Nat.pow_succ] at hx; omega
    obtain ⟨i1, i2⟩ := ih (x / 256) hq
    obtain ⟨q1, q2, q3, -, -⟩ := b_t3 (x % 256) (by omega)
    simp only [bMf, bT2, bT3]
    refine ⟨by omega, ?_⟩
    have e : (bS2 (x % 256) + 256 * bT2 n (x / 256)) + (bS2 (x % 256) + 256 * bT2 n (x / 256)) / 16 = (bS2 (x % 256) + bS2 (x % 256) / 16 + 16 * (bT2 n (x / 256) % 16)) + 256 * (bT2 n (x / 256) + bT2 n (x / 256) / 16) := by omega
    rw [e, and_256 _ _ _ _ (by omega) (by decide), b_and15, i2]
    omega
theorem popN_add : ∀ a b x, popN (a + b) x = popN a x + popN b (x / 2 ^ a) := by
  intro a
  induction a with
  | zero => intro b x; simp [popN]
  | succ a ih =>
    intro b x
    rw [show a + 1 + b = (a + b) + 1 by omega]
    simp only [popN]
    rw [ih, Nat.div_div_eq_div_mul, Nat.pow_succ, Nat.mul_comm 2 (2 ^ a)]
    omega
theorem popN_mod : ∀ k x, popN k (x % 2 ^ k) = popN k x := by
  intro k
  induction k with
  | zero => intro x; rfl
  | succ k ih =>
    intro x
    simp only [popN]
    rw [← ih (x / 2), ← ih (x % 2 ^ (k + 1) / 2)]
    have h1 : x % 2 ^ (k + 1) % 2 = x % 2 := Nat.mod_mod_of_dvd x (by rw [Nat.pow_succ]; exact Nat.dvd_mul_left 2 _)
    have h2 : x % 2 ^ (k + 1) / 2 % 2 ^ k = x / 2 % 2 ^ k := by
      rw [Nat.pow_succ, Nat.mul_comm, Nat.mod_mul_right_div_self, Nat.mod_mod]
    rw [h1, h2]
/-- the JDK's way to count the bits -/
theorem b_swar {x : Nat} (hx : x < 2 ^ 32) : (x / 2 &&& 1431655765) ≤ x ∧
    (((((x - (x / 2 &&& 1431655765) &&& 858993459) + ((x - (x / 2 &&& 1431655765)) / 4 &&& 858993459)) + ((x - (x / 2 &&& 1431655765) &&& 858993459) + ((x - (x / 2 &&& 1431655765)) / 4 &&& 858993459)) / 16) &&& 252645135) = bT3 4 x) := by
  have hx' : x < 256 ^ 4 := by omega
  obtain ⟨a1, a2⟩ := b_step1 4 x hx'
  have a3 := b_step2 4 x hx'
  obtain ⟨-, a4⟩ := b_step3 4 x hx'
  have e5 : bM5 4 = 1431655765 := by decide
  have e3 : bM3 4 = 858993459 := by decide
  have ef : bMf 4 = 252645135 := by decide
  rw [e5] at a1 a2
  rw [e3] at a3
  rw [ef] at a4
  refine ⟨a1, ?_⟩
  rw [a2, a3]
  exact a4
theorem b_last {x : Nat} (hx : x < 2 ^ 32) : ((bT3 4 x + bT3 4 x / 256) + (bT3 4 x + bT3 4 x / 256) / 65536) % 64 = popN 32 x := by
  have p1 := (b_t3 (x % 256) (by omega)).2.2.2.2
  have p2 := (b_t3 (x / 256 % 256) (by omega)).2.2.2.2
  have p3 := (b_t3 (x / 256 / 256 % 256) (by omega)).2.2.2.2
  have p4 := (b_t3 (x / 256 / 256 / 256 % 256) (by omega)).2.2.2.2
  have e : popN 32 x = popN 8 (x % 256) + (popN 8 (x / 256 % 256) + (popN 8 (x / 256 / 256 % 256) + popN 8 (x / 256 / 256 / 256 % 256))) := by
    rw [show (32 : Nat) = 8 + (8 + (8 + 8)) by decide, popN_add, popN_add, popN_add]
    rw [← popN_mod 8 x, ← popN_mod 8 (x / 2 ^ 8), ← popN_mod 8 (x / 2 ^ 8 / 2 ^ 8), ← popN_mod 8 (x / 2 ^ 8 / 2 ^ 8 / 2 ^ 8)]
  rw [e]
  simp only [bT3]
  generalize popN 8 (x % 256) = a at *
  generalize popN 8 (x / 256 % 256) = b at *
  generalize popN 8 (x / 256 / 256 % 256) = c at *
  generalize popN 8 (x / 256 / 256 / 256 % 256) = d at *
  clear e
  generalize hy : a + 256 * (b + 256 * (c + 256 * (d + 256 * 0))) = y
  have e1 : y / 256 = b + 256 * c + 65536 * d := by omega
  rw [e1]
  have e2 : (y + (b + 256 * c + 65536 * d)) / 65536 = c + d + 256 * d := by omega
  rw [e2]
  omega
theorem b_lt3 {x : Nat} (hx : x < 2 ^ 32) : bT3 4 x ≤ 134744072 := by
  have p1 := (b_t3 (x % 256) (by omega)).2.2.2.2
  have p2 := (b_t3 (x / 256 % 256) (by omega)).2.2.2.2
  have p3 := (b_t3 (x / 256 / 256 % 256) (by omega)).2.2.2.2
  have p4 := (b_t3 (x / 256 / 256 / 256 % 256) (by omega)).2.2.2.2
  simp only [bT3]
  omega
