/-! whole numbers as ints: nI -/
theorem n_tb (n : Nat) : (nI n).toBitVec = BitVec.ofNat 32 n := rfl
theorem n_and (a b : Nat) : nI a &&& nI b = nI (a &&& b) := by
  apply Int32.toBitVec_inj.1
  show BitVec.ofNat 32 a &&& BitVec.ofNat 32 b = BitVec.ofNat 32 (a &&& b)
  apply BitVec.eq_of_getLsbD_eq
  intro i hi
  simp [hi]
theorem n_or (a b : Nat) : nI a ||| nI b = nI (a ||| b) := by
  apply Int32.toBitVec_inj.1
  show BitVec.ofNat 32 a ||| BitVec.ofNat 32 b = BitVec.ofNat 32 (a ||| b)
  apply BitVec.eq_of_getLsbD_eq
  intro i hi
  simp [hi]
theorem n_xor (a b : Nat) : nI a ^^^ nI b = nI (a ^^^ b) := by
  apply Int32.toBitVec_inj.1
  show BitVec.ofNat 32 a ^^^ BitVec.ofNat 32 b = BitVec.ofNat 32 (a ^^^ b)
  apply BitVec.eq_of_getLsbD_eq
  intro i hi
  simp [hi]
theorem n_m1 : (-1 : Int32) = nI 4294967295 := by decide
theorem n_eq {a b : Nat} (ha : a < 2 ^ 32) (hb : b < 2 ^ 32) : nI a = nI b ↔ a = b := by
  refine ⟨fun h => ?_, fun h => by rw [h]⟩
  have h1 := congrArg (fun x : Int32 => x.toBitVec.toNat) h
  simp only [n_tb, BitVec.toNat_ofNat] at h1
  omega
theorem n_eq0 {a : Nat} (ha : a < 2 ^ 32) : nI a = 0 ↔ a = 0 := n_eq ha (by decide)
theorem n_mod (a : Nat) : nI (a % 2 ^ 32) = nI a := by
  apply Int32.toBitVec_inj.1
  show BitVec.ofNat 32 (a % 2 ^ 32) = BitVec.ofNat 32 a
  apply BitVec.eq_of_toNat_eq
  simp
theorem n_sl : ∀ n, n < 32 → ((nI n &&& 31).toBitVec.smod 32).toNat = n := by decide
theorem n_su : ∀ n, n < 32 → (((nI n).toUInt32 &&& Int32.toUInt32 31).toBitVec % 32).toNat = n := by decide
theorem n_shl (a : Nat) {k : Nat} (hk : k < 32) : nI a <<< (nI k &&& 31) = nI (a * 2 ^ k) := by
  apply Int32.toBitVec_inj.1
  apply BitVec.eq_of_toNat_eq
  rw [pk_shl (nI a) (nI k &&& 31) k (n_sl k hk)]
  simp only [n_tb, BitVec.toNat_ofNat]
  rw [Nat.mod_mul_mod]
theorem n_ushr {a : Nat} (ha : a < 2 ^ 32) {k : Nat} (hk : k < 32) : ((nI a).toUInt32 >>> ((nI k).toUInt32 &&& Int32.toUInt32 31)).toInt32 = nI (a / 2 ^ k) := pk_ushrN ha (nI k) k (n_su k hk)
theorem n_shr {a : Nat} (ha : a < 2 ^ 31) {k : Nat} (hk : k < 32) : nI a >>> (nI k &&& 31) = nI (a / 2 ^ k) := pk_shrN ha (nI k &&& 31) k (n_sl k hk)
theorem n_in {i n : Nat} (hi : i < 2 ^ 31) : j_in (nI i) n = decide (i < n) := by
  simp [j_in, nI_clamp hi, nI_pos' hi]
theorem n_bit {a k : Nat} (ha : a < 2 ^ 32) (hk : k < 32) : ((nI a).toUInt32 >>> ((nI k).toUInt32 &&& Int32.toUInt32 31)).toInt32 &&& nI 1 = nI (a.testBit k).toNat := by
  rw [n_ushr ha hk, n_and]
  congr 1
  rw [Nat.testBit_eq_decide_div_mod_eq, Nat.and_one_is_mod]
  have : a / 2 ^ k % 2 = 0 ∨ a / 2 ^ k % 2 = 1 := by omega
  rcases this with h | h <;> simp [h]
theorem n_sbit {a k : Nat} (ha : a < 2 ^ 31) (hk : k < 32) : (nI a >>> (nI k &&& 31)) &&& nI 1 = nI (a.testBit k).toNat := by
  rw [n_shr ha hk, n_and]
  congr 1
  rw [Nat.testBit_eq_decide_div_mod_eq, Nat.and_one_is_mod]
  have : a / 2 ^ k % 2 = 0 ∨ a / 2 ^ k % 2 = 1 := by omega
  rcases this with h | h <;> simp [h]
theorem n_or_lt {a b k : Nat} (ha : a < 2 ^ k) (hb : b < 2 ^ k) : a ||| b < 2 ^ k := Nat.or_lt_two_pow ha hb
theorem n_and_lt {a b k : Nat} (ha : a < 2 ^ k) : a &&& b < 2 ^ k := Nat.lt_of_le_of_lt Nat.and_le_left ha
theorem n_of (x : Int32) : (∃ n, n < 2 ^ 31 ∧ x = nI n) ∨ x < 0 := by
  by_cases h : x < 0
  · exact Or.inr h
  · exact Or.inl (nI_of h)
theorem ite_and' (c : Prop) {dc : Decidable c} (u : Bool) (s : jS) : (if c then some (u, s) else some (false, s)) = some (decide c && u, s) := by
  by_cases h : c <;> simp [h]
theorem ite_or' (c : Prop) {dc : Decidable c} (u : Bool) (s : jS) : (if c then some (true, s) else some (u, s)) = some (decide c || u, s) := by
  by_cases h : c <;> simp [h]
theorem ite_int' (c : Prop) {dc : Decidable c} (u v : Int32) (s : jS) : (if c then some (Value.int u, s) else some (Value.int v, s)) = some (Value.int (if c then u else v), s) := by
  by_cases h : c <;> simp [h]
theorem n_m1e {n : Nat} (h : n < 2 ^ 31) : (nI n = -1) = False := by
  rw [n_m1]
  simp only [eq_iff_iff, iff_false]
  intro q
  have := (n_eq (by omega) (by decide)).mp q
  omega
theorem n_neg {x : Int32} (h : x < 0) {n : Nat} (hn : n < 2 ^ 31) : ¬ nI n ≤ x := by
  intro q
  have h1 := nI_pos' hn
  exact absurd (Int32.le_trans h1 q) (Int32.not_le.mpr h)
theorem n_01 : ((0 : Int32) = nI 1) = False := by decide
theorem n_10 : (nI 1 = (0 : Int32)) = False := by decide
