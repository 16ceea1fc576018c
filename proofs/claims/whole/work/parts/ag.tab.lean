/-! the tables of a Desk, purely -/
def aLv (A : AS) (f l : Nat) : AS := aMore A f (lv A f l)
theorem WF_more {A : AS} (w : WF A) {f v : Nat} (hv : cMost (chD A f) + v ≤ 999) : WF (aMore A f v) := by
  obtain ⟨e1, e2, e3, e4, e5, e7⟩ := aMore_id A f v
  refine WF_ch w e1 e2 e3 e4 e5 e7 fun g => ?_
  have hno : aNo (aMore A f v) = aNo A := e2
  rw [hno, aMore_ch]
  by_cases e : g = f
  · subst e
    rw [if_pos rfl]
    unfold chD at hv
    cases hC : aCh A g with
    | none => exact ⟨fun _ => rfl, fun C h => by cases h⟩
    | some C =>
      rw [hC] at hv
      have hk := (w.2.2.2.2.2.1 g).2 C hC
      refine ⟨fun h => ?_, fun D hD => ?_⟩
      · have := (w.2.2.2.2.2.1 g).1 h; rw [hC] at this; cases this
      · simp only [Option.map_some, Option.some.injEq] at hD
        subst hD
        exact ⟨hv, hk.2⟩
  · rw [if_neg e]
    exact w.2.2.2.2.2.1 g
theorem lv_le {A : AS} (w : WF A) (f : Nat) {l : Nat} : cMost (chD A f) + lv A f l ≤ 999 := by
  have := (chD_ok w f).1
  unfold lv
  omega
theorem WF_lv {A : AS} (w : WF A) (f l : Nat) : WF (aLv A f l) := WF_more w (lv_le w f)
theorem more_ks (A : AS) (f v : Nat) : aKs (aMore A f v) f = aKs A f := by
  unfold aKs
  rw [aMore_ch, if_pos rfl]
  cases aCh A f <;> rfl
theorem more_ahL (A : AS) (f v a b : Nat) : ∀ l, sAhL (aMore A f v) a b l = sAhL A a b l := by
  obtain ⟨e1, e2, e3, e4, e5, e7⟩ := aMore_id A f v
  have hv : ∀ x k, sVal (aMore A f v) x k = sVal A x k := fun x k => by
    unfold sVal aPa aYe aTo aPe aKd
    rw [e1, e3]
  intro l
  induction l with
  | nil => rfl
  | cons k r ih => simp only [sAhL, hv, ih]
theorem more_ord (A : AS) (f v : Nat) : sOrd (aMore A f v) f = sOrd A f := by
  have e3 := (aMore_id A f v).2.2.1
  have hn : aNb (aMore A f v) = aNb A := by unfold aNb; rw [e3]
  have ho : aOf (aMore A f v) = aOf A := by unfold aOf; rw [e3]
  unfold sOrd
  rw [hn]
  have : ∀ n, sOrdN (aMore A f v) f n = sOrdN A f n := by
    intro n
    induction n with
    | zero => rfl
    | succ n ih =>
      have h1 : ∀ A : AS, sOrdN A f (n + 1) = if aOf A n == f then insL (fun k => sAhd A f n ((sOrdN A f n).getD k 0)) n (sOrdN A f n) else sOrdN A f n := fun _ => rfl
      have ha : ∀ a b, sAhd (aMore A f v) f a b = sAhd A f a b := fun a b => by unfold sAhd; rw [more_ks, more_ahL]
      rw [h1, h1, ih, ho]
      simp only [ha]
  exact this _
theorem more_alw (A : AS) (f v S : Nat) : sAlw (aMore A f v) f S = sAlM A f (cMost (chD A f) + v) S := by
  obtain ⟨e1, e2, e3, e4, e5, e7⟩ := aMore_id A f v
  unfold sAlw sAlM
  rw [aMore_ch, if_pos rfl]
  unfold chD
  cases hC : aCh A f with
  | none => rfl
  | some C =>
    have hp : sPpl (aMore A f v) S = sPpl A S := by unfold sPpl aNb aPe; rw [e3]
    have hb : sBr (aMore A f v) (cMost C + v, C.2) S = sBr A (cMost C + v, C.2) S := by
      unfold sBr sOth
      rw [hp]
      have h2 : sPay (aMore A f v) S = sPay A S := by unfold sPay aNb aPa; rw [e3]
      have h3 : aKd (aMore A f v) = aKd A := by unfold aKd; rw [e1]
      have h4 : aNp (aMore A f v) = aNp A := by unfold aNp; rw [e1]
      rw [h2, h3, h4]
    show (S == 0 || (sBr (aMore A f v) (cMost C + v, C.2) S == 0 && !sTog (cMost C + v, C.2) (sPpl (aMore A f v) S))) = _
    rw [hb, hp]
    rfl
/-- an ALLOWED part, what is TAKEN of a part, whether a part grows into an ALLOWED one -/
def kOk (A : AS) (f l P : Nat) : Bool := kAlw A f P (cMost (chD A f) + lv A f l)
def tP (A : AS) (f l P : Nat) : Nat := prt f (slM A (sTk (aLv A f l) f (pSet A f P)))
theorem kOk_alw {A : AS} (w : WF A) {f l P : Nat} (hP : P < 2 ^ nOf A f) : kOk A f l P = sAlw (aLv A f l) f (pSet A f P) := by
  unfold kOk aLv
  rw [kAlw_ok w hP, more_alw]
theorem pS_bit {A : AS} (w : WF A) {f P i : Nat} (hP : P < 2 ^ nOf A f) (hi : i < nOf A f) : (pSet A f P).testBit (bAt A f i) = P.testBit i := by
  have h8 := nOf_le w f
  have hP8 : P < 256 := Nat.lt_of_lt_of_le hP (Nat.pow_le_pow_right (by decide) h8)
  obtain ⟨b1, b2, b3⟩ := bAt_ok w hi
  rw [pSet_bit w hP8, b2, b3]
  simp [b1]
theorem pS_of {A : AS} (w : WF A) {f P : Nat} (hP : P < 2 ^ nOf A f) : OfS A f (pSet A f P) := by
  have h8 := nOf_le w f
  have hP8 : P < 256 := Nat.lt_of_lt_of_le hP (Nat.pow_le_pow_right (by decide) h8)
  intro b hb
  rw [pSet_bit w hP8] at hb
  simp only [Bool.and_eq_true, decide_eq_true_eq] at hb
  exact ⟨hb.1, hb.2.1⟩
theorem lt_of_bits {P n : Nat} (h : ∀ i, P.testBit i = true → i < n) : P < 2 ^ n := by
  apply Nat.lt_pow_two_of_testBit
  intro i hi
  cases q : P.testBit i with
  | false => rfl
  | true => have := h i q; omega
theorem bits_lt {P n : Nat} (h : P < 2 ^ n) {i : Nat} (hi : P.testBit i = true) : i < n := by
  cases Nat.lt_or_ge i n with
  | inl q => exact q
  | inr q => rw [tb_false h q] at hi; cases hi
theorem SubB_lt {Q P n : Nat} (h : SubB Q P) (hP : P < 2 ^ n) : Q < 2 ^ n := lt_of_bits fun i hi => bits_lt hP (h i hi)
theorem SubB_pS {A : AS} (w : WF A) {f P Q : Nat} (hP : P < 2 ^ nOf A f) (hQ : Q < 2 ^ nOf A f) : SubB (pSet A f Q) (pSet A f P) ↔ SubB Q P := by
  constructor
  · intro h i hi
    have hin := bits_lt hQ hi
    rw [← pS_bit w hP hin]
    apply h
    rw [pS_bit w hQ hin]; exact hi
  · intro h b hb
    obtain ⟨b1, b2⟩ := pS_of w hQ b hb
    have hix := (sIdx_lt w b1).1
    have hbt := bAt_idx w b1
    rw [b2] at hix hbt
    rw [← hbt, pS_bit w hQ hix] at hb
    rw [← hbt, pS_bit w hP hix]
    exact h _ hb
theorem pS_back {A : AS} (w : WF A) {f S : Nat} (h : OfS A f S) : pSet A f (prt f (slM A S)) = S := by
  rw [pSet_prt w]
  apply Nat.eq_of_testBit_eq
  intro b
  rw [Nat.testBit_and]
  cases q : S.testBit b with
  | false => rfl
  | true =>
    have := h b q
    unfold sOff
    rw [sOff_bit]
    simp [this.1, this.2]
theorem wgt_le {A : AS} (w : WF A) {f P Q : Nat} (hP : P < 2 ^ nOf A f) (hQ : Q < 2 ^ nOf A f) : wgt A f P ≤ wgt A f Q ↔ sGat (sOrd A f) (pSet A f P) ≤ sGat (sOrd A f) (pSet A f Q) := by
  rw [wgt_gat w hP, wgt_gat w hQ]
  have := Nat.two_pow_pos (9 - nOf A f)
  exact Nat.mul_le_mul_left_iff this
theorem wgt_inj {A : AS} (w : WF A) {f P Q : Nat} (hP : P < 2 ^ nOf A f) (hQ : Q < 2 ^ nOf A f) (e : wgt A f P = wgt A f Q) : P = Q := by
  have h1 := (wgt_le w hP hQ).mp (by omega)
  have h2 := (wgt_le w hQ hP).mp (by omega)
  have h3 := sGat_inj (sOrd_nd A f) (fun b hb => (sOrd_mem w).mpr (pS_of w hP b hb)) (fun b hb => (sOrd_mem w).mpr (pS_of w hQ b hb)) (Nat.le_antisymm h1 h2)
  rw [← prt_pSet w hP, ← prt_pSet w hQ, h3]
theorem OfS_lv (A : AS) (f l g S : Nat) : OfS (aLv A f l) g S ↔ OfS A g S := by
  have e3 := (aMore_id A f (lv A f l)).2.2.1
  have hn : aNb (aLv A f l) = aNb A := by unfold aNb aLv; rw [e3]
  have ho : aOf (aLv A f l) = aOf A := by unfold aOf aLv; rw [e3]
  unfold OfS
  rw [hn, ho]
theorem tP_spec {A : AS} (w : WF A) {f l P : Nat} (hP : P < 2 ^ nOf A f) : tP A f l P < 2 ^ nOf A f ∧ SubB (tP A f l P) P ∧ kOk A f l (tP A f l P) = true ∧ (∀ Q, SubB Q P → kOk A f l Q = true → wgt A f Q ≤ wgt A f (tP A f l P)) ∧ pSet A f (tP A f l P) = sTk (aLv A f l) f (pSet A f P) := by
  obtain ⟨a1, a2, a3, a4⟩ := take_spec (WF_lv w f l) f (pSet A f P)
  have ho : sOrd (aLv A f l) f = sOrd A f := more_ord _ _ _
  rw [ho] at a4
  have a1' := (OfS_lv A f l f _).mp a1
  have hb := pS_back w a1'
  have hlt : tP A f l P < 2 ^ nOf A f := prt_slM_lt w _ _
  have e : pSet A f (tP A f l P) = sTk (aLv A f l) f (pSet A f P) := hb
  refine ⟨hlt, ?_, ?_, fun Q hQ hk => ?_, e⟩
  · rw [← SubB_pS w hP hlt, e]; exact a2
  · rw [kOk_alw w hlt, e]; exact a3
  · have hQl := SubB_lt hQ hP
    rw [wgt_le w hQl hlt, e]
    refine a4 _ ((OfS_lv A f l f _).mpr (pS_of w hQl)) ((SubB_pS w hP hQl).mpr hQ) ?_
    rw [← kOk_alw w hQl]; exact hk
theorem tP_uniq {A : AS} (w : WF A) {f l P T : Nat} (hP : P < 2 ^ nOf A f) (h1 : SubB T P) (h2 : kOk A f l T = true) (h3 : ∀ Q, SubB Q P → kOk A f l Q = true → wgt A f Q ≤ wgt A f T) : tP A f l P = T := by
  obtain ⟨a1, a2, a3, a4, -⟩ := tP_spec w (l := l) hP
  have hT := SubB_lt h1 hP
  exact wgt_inj w a1 hT (Nat.le_antisymm (h3 _ a2 a3) (a4 T h1 h2))
theorem tP_self {A : AS} (w : WF A) {f l P : Nat} (hP : P < 2 ^ nOf A f) : tP A f l P = P ↔ kOk A f l P = true := by
  constructor
  · intro h
    have := (tP_spec w (l := l) hP).2.2.1
    rw [h] at this; exact this
  · intro h
    refine tP_uniq w hP (fun _ q => q) h fun Q hQ _ => ?_
    have hQl := SubB_lt hQ hP
    rw [wgt_le w hQl hP]
    have hm : ∀ b, b ∈ sOrd A f → (pSet A f Q).testBit b = true → (pSet A f P).testBit b = true := fun b _ => (SubB_pS w hP hQl).mpr hQ b
    exact sub_le ((sGat_sub (sOrd_nd A f)).mp hm)
theorem kOk_0 (A : AS) (f l : Nat) : kOk A f l 0 = true := by
  unfold kOk kAlw; rfl
