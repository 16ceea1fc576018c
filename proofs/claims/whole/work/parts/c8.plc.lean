/-! places, purely -/
def exB (B : AS) : Bool := (genL B (aNp B) 0 0).any (sStd B)
theorem exB_iff {B : AS} (w : WF B) : exB B = true ↔ ∃ S, S < 2 ^ aNb B ∧ sStd B S = true := by
  unfold exB
  rw [List.any_eq_true]
  constructor
  · rintro ⟨S, h1, h2⟩
    exact ⟨S, ((gen_mem w).mp h1).1, h2⟩
  · rintro ⟨S, h1, h2⟩
    obtain ⟨m1, m2⟩ := std_ok w h1 h2
    exact ⟨S, (gen_mem w).mpr ⟨h1, m1, fun b hb ht => free_elg w m1 m2 hb ht⟩, h2⟩
def aRow : AS → Nat → List Nat → AS
  | B, _, [] => B
  | B, f, v :: l => aRow (aMore B f v) (f + 1) l
def okRow : AS → Nat → List Nat → Prop
  | _, _, [] => True
  | B, f, v :: l => okV B f v = true ∧ okRow (aMore B f v) (f + 1) l
def cod : List Nat → Nat
  | [] => 0
  | v :: l => v * 4 ^ l.length + cod l
theorem cod_lt : ∀ l : List Nat, l.sum ≤ 3 → cod l < 4 ^ l.length := by
  intro l
  induction l with
  | nil => intro _; simp [cod]
  | cons v l ih =>
    intro h
    rw [List.sum_cons] at h
    have i := ih (by omega)
    simp only [cod, List.length_cons, Nat.pow_succ]
    have : v * 4 ^ l.length ≤ 3 * 4 ^ l.length := Nat.mul_le_mul_right _ (by omega)
    omega
theorem sh_ok : ∀ n B f left, left ≤ 3 →
    (∀ l, shF n B f left = some l → l.length = n ∧ l.sum = left ∧ okRow B f l ∧ exB (aRow B f l) = true ∧ ∀ l', l'.length = n → l'.sum = left → okRow B f l' → exB (aRow B f l') = true → cod l ≤ cod l') ∧
    (shF n B f left = none → ∀ l', l'.length = n → l'.sum = left → okRow B f l' → exB (aRow B f l') = true → False) := by
  intro n
  induction n with
  | zero =>
    intro B f left _
    unfold shF
    refine ⟨fun l h => ?_, fun h l' h1 h2 h3 h4 => ?_⟩
    · by_cases q : left = 0 ∧ (genL B (aNp B) 0 0).any (sStd B) = true
      · rw [if_pos q] at h
        cases h
        exact ⟨rfl, q.1.symm, trivial, q.2, fun l' _ _ _ _ => Nat.zero_le _⟩
      · rw [if_neg q] at h; cases h
    · have : l' = [] := List.length_eq_zero_iff.mp h1
      subst this
      rw [if_pos ⟨h2.symm, h4⟩] at h
      cases h
  | succ n ih =>
    intro B f left hl3
    unfold shF
    cases hq : fst1 (fun v => okV B f v && (shF n (aMore B f v) (f + 1) (left - v)).isSome) (left + 1) with
    | none =>
      refine ⟨fun l h => (by cases h), fun _ l' h1 h2 h3 h4 => ?_⟩
      cases l' with
      | nil => simp at h1
      | cons v l =>
        rw [List.sum_cons] at h2
        have := fst1_none hq v (by omega)
        simp only [Bool.and_eq_false_iff] at this
        rcases this with z | z
        · rw [h3.1] at z; cases z
        · have hn : shF n (aMore B f v) (f + 1) (left - v) = none := by
            cases hh : shF n (aMore B f v) (f + 1) (left - v) with
            | none => rfl
            | some q => rw [hh] at z; cases z
          exact (ih (aMore B f v) (f + 1) (left - v) (by omega)).2 hn l (by simpa using h1) (by omega) h3.2 h4
    | some v =>
      obtain ⟨v1, v2, v3⟩ := fst1_some hq
      simp only [Bool.and_eq_true] at v2
      obtain ⟨l1, hl1⟩ := Option.isSome_iff_exists.mp v2.2
      simp only [hl1, Option.map_some]
      refine ⟨fun l h => ?_, fun h => by cases h⟩
      cases h
      obtain ⟨i1, i2, i3, i4, i5⟩ := (ih (aMore B f v) (f + 1) (left - v) (by omega)).1 l1 hl1
      refine ⟨by simp [i1], by rw [List.sum_cons]; omega, ⟨v2.1, i3⟩, i4, fun l' h1 h2 h3 h4 => ?_⟩
      cases l' with
      | nil => simp at h1
      | cons u l =>
        rw [List.sum_cons] at h2
        have h1' : l.length = n := by simpa using h1
        have hvu : v ≤ u := by
          apply Nat.le_of_not_lt
          intro hlt
          have := v3 u hlt
          simp only [Bool.and_eq_false_iff] at this
          rcases this with z | z
          · rw [h3.1] at z; cases z
          · have hn : shF n (aMore B f u) (f + 1) (left - u) = none := by
              cases hh : shF n (aMore B f u) (f + 1) (left - u) with
              | none => rfl
              | some q => rw [hh] at z; cases z
            exact (ih (aMore B f u) (f + 1) (left - u) (by omega)).2 hn l h1' (by omega) h3.2 h4
        simp only [cod]
        by_cases e : v = u
        · subst e
          have := i5 l h1' (by omega) h3.2 h4
          rw [i1, h1']
          omega
        · have c1 := cod_lt l1 (by omega)
          rw [i1] at c1 ⊢
          rw [h1']
          have : (v + 1) * 4 ^ n ≤ u * 4 ^ n := Nat.mul_le_mul_right _ (by omega)
          rw [Nat.add_mul] at this
          omega
theorem aRow_ch : ∀ l B f g, aCh (aRow B f l) g = if f ≤ g ∧ g < f + l.length then (aCh B g).map (fun C => (cMost C + l.getD (g - f) 0, C.2)) else aCh B g := by
  intro l
  induction l with
  | nil => intro B f g; rw [if_neg (by simp)]; rfl
  | cons v l ih =>
    intro B f g
    show aCh (aRow (aMore B f v) (f + 1) l) g = _
    rw [ih, aMore_ch]
    simp only [List.length_cons]
    by_cases h1 : g = f
    · subst h1
      rw [if_neg (by omega), if_pos rfl, if_pos (by omega), Nat.sub_self]
      rfl
    · by_cases h2 : f + 1 ≤ g ∧ g < f + 1 + l.length
      · rw [if_pos h2, if_neg h1, if_pos (by omega)]
        have : g - f = (g - (f + 1)) + 1 := by omega
        rw [this]
        rfl
      · rw [if_neg h2, if_neg h1, if_neg (by omega)]
theorem aRow_id : ∀ l B f, (aRow B f l).1 = B.1 ∧ (aRow B f l).2.1 = B.2.1 ∧ (aRow B f l).2.2.1 = B.2.2.1 ∧ (aRow B f l).2.2.2.1 = B.2.2.2.1 ∧ (aRow B f l).2.2.2.2.1 = B.2.2.2.2.1 ∧ (aRow B f l).2.2.2.2.2.2 = B.2.2.2.2.2.2 := by
  intro l
  induction l with
  | nil => intro B f; exact ⟨rfl, rfl, rfl, rfl, rfl, rfl⟩
  | cons v l ih =>
    intro B f
    obtain ⟨a1, a2, a3, a4, a5, a6⟩ := aMore_id B f v
    obtain ⟨b1, b2, b3, b4, b5, b6⟩ := ih (aMore B f v) (f + 1)
    exact ⟨b1.trans a1, b2.trans a2, b3.trans a3, b4.trans a4, b5.trans a5, b6.trans a6⟩
theorem okV_ch {A B : AS} {f v : Nat} (h : aCh A f = aCh B f) : okV A f v = okV B f v := by
  unfold okV
  rw [h]
theorem okRow_iff : ∀ l B f, okRow B f l ↔ ∀ i, i < l.length → okV B (f + i) (l.getD i 0) = true := by
  intro l
  induction l with
  | nil => intro B f; simp [okRow]
  | cons v l ih =>
    intro B f
    simp only [okRow]
    rw [ih]
    have hk : ∀ i, okV (aMore B f v) (f + 1 + i) (l.getD i 0) = okV B (f + (i + 1)) ((v :: l).getD (i + 1) 0) := fun i => by
      rw [show f + 1 + i = f + (i + 1) by omega]
      exact okV_ch (by rw [aMore_ch, if_neg (by omega)])
    constructor
    · rintro ⟨h1, h2⟩ i hi
      cases i with
      | zero => exact h1
      | succ i =>
        rw [← hk]
        exact h2 i (by simpa using hi)
    · intro h
      refine ⟨h 0 (by simp), fun i hi => ?_⟩
      rw [hk]
      exact h (i + 1) (by simpa using hi)
theorem okV_lv {A : AS} {f v : Nat} (h : okV A f v = true) {C : CH} (hC : aCh A f = some C) : lv A f v = v := by
  unfold lv chD
  rw [hC]
  unfold okV at h
  rw [hC] at h
  simp only [Bool.or_eq_true, beq_iff_eq, decide_eq_true_eq] at h
  simp only [Option.getD_some]
  rcases h with h | h <;> omega
theorem aRow_mv {A : AS} (w : WF A) {l : List Nat} {mv : Nat → Nat} (hl : l.length = aNo A) (ok : okRow A 0 l) (hm : ∀ o, o < aNo A → mv o = l.getD o 0) : aRow A 0 l = aMv A mv := by
  obtain ⟨b1, b2, b3, b4, b5, b6⟩ := aRow_id l A 0
  have hc : aCh (aRow A 0 l) = aCh (aMv A mv) := by
    funext g
    rw [aRow_ch, aMv_ch, hl]
    by_cases q : g < aNo A
    · rw [if_pos (by omega)]
      cases hC : aCh A g with
      | none => rfl
      | some C =>
        have := (okRow_iff l A 0).mp ok g (by omega)
        rw [Nat.zero_add] at this
        simp only [Option.map_some, Nat.sub_zero]
        rw [hm g q, okV_lv this hC]
    · have := (w.2.2.2.2.2.1 g).1 (by omega)
      rw [if_neg (by omega), this]
      rfl
  generalize aRow A 0 l = R at *
  obtain ⟨r1, r2, r3, r4, r5, r6, r7⟩ := R
  simp only at b1 b2 b3 b4 b5 b6
  have hc : r6 = aCh (aMv A mv) := hc
  rw [b1, b2, b3, b4, b5, b6, hc]
  rfl
-- codes
def mvC (c o : Nat) : Nat := c / 4 ^ (3 - o) % 4
def rowC (n c : Nat) : List Nat := (List.range n).map (mvC c)
theorem rowC_len (n c : Nat) : (rowC n c).length = n := by unfold rowC; simp
theorem rowC_get {n c o : Nat} (h : o < n) : (rowC n c).getD o 0 = mvC c o := by
  unfold rowC
  rw [List.getD_eq_getElem?_getD, List.getElem?_map, List.getElem?_range h]
  rfl
def smC (c : Nat) : Nat := mvC c 0 + mvC c 1 + mvC c 2 + mvC c 3
theorem dig4 {c a0 a1 a2 a3 : Nat} (h0 : a0 < 4) (h1 : a1 < 4) (h2 : a2 < 4) (h3 : a3 < 4) (hc : c = a0 * 64 + a1 * 16 + a2 * 4 + a3) : mvC c 0 = a0 ∧ mvC c 1 = a1 ∧ mvC c 2 = a2 ∧ mvC c 3 = a3 := by
  have e0 : mvC c 0 = c / 64 % 4 := rfl
  have e1 : mvC c 1 = c / 16 % 4 := rfl
  have e2 : mvC c 2 = c / 4 % 4 := rfl
  have e3 : mvC c 3 = c / 1 % 4 := rfl
  have q0 : c / 64 = a0 := by omega
  have q1 : c / 16 = 4 * a0 + a1 := by omega
  have q2 : c / 4 = 16 * a0 + 4 * a1 + a2 := by omega
  rw [e0, e1, e2, e3, q0, q1, q2, Nat.div_one]
  refine ⟨by omega, by omega, by omega, by omega⟩
theorem dig4' {c : Nat} (hc : c < 256) : mvC c 0 < 4 ∧ mvC c 1 < 4 ∧ mvC c 2 < 4 ∧ mvC c 3 < 4 ∧ c = mvC c 0 * 64 + mvC c 1 * 16 + mvC c 2 * 4 + mvC c 3 := by
  have h1 : c / 4 / 4 = c / 16 := by rw [Nat.div_div_eq_div_mul]
  have h2 : c / 16 / 4 = c / 64 := by rw [Nat.div_div_eq_div_mul]
  have m3 := Nat.div_add_mod c 4
  have m2 := Nat.div_add_mod (c / 4) 4
  have m1 := Nat.div_add_mod (c / 16) 4
  have l0 : c / 64 < 4 := by omega
  have l1 := Nat.mod_lt (c / 16) (show 0 < 4 by decide)
  have l2 := Nat.mod_lt (c / 4) (show 0 < 4 by decide)
  have l3 := Nat.mod_lt c (show 0 < 4 by decide)
  rw [h1] at m2
  rw [h2] at m1
  generalize c / 64 = b0 at *
  generalize c / 16 = b1 at *
  have hq : c = b0 * 64 + b1 % 4 * 16 + c / 4 % 4 * 4 + c % 4 := by
    generalize b1 % 4 = r1 at *
    generalize c / 4 % 4 = r2 at *
    generalize c % 4 = r3 at *
    generalize c / 4 = b2 at *
    omega
  obtain ⟨z0, z1, z2, z3⟩ := dig4 l0 l1 l2 l3 hq
  rw [z0, z1, z2, z3]
  exact ⟨l0, l1, l2, l3, hq⟩
theorem rowC_cod {n c : Nat} (hn : n ≤ 4) (hc : c < 256) (h0 : ∀ o, n ≤ o → o < 4 → mvC c o = 0) : cod (rowC n c) * 4 ^ (4 - n) = c ∧ (rowC n c).sum = smC c := by
  have h3 : n ≤ 3 → mvC c 3 = 0 := fun q => h0 3 q (by omega)
  have h2 : n ≤ 2 → mvC c 2 = 0 := fun q => h0 2 q (by omega)
  have h1 : n ≤ 1 → mvC c 1 = 0 := fun q => h0 1 q (by omega)
  have h0 : n ≤ 0 → mvC c 0 = 0 := fun q => h0 0 q (by omega)
  unfold smC
  obtain ⟨b0, b1, b2, b3, hcc⟩ := dig4' hc
  have hn' : n = 0 ∨ n = 1 ∨ n = 2 ∨ n = 3 ∨ n = 4 := by omega
  rcases hn' with rfl | rfl | rfl | rfl | rfl
  · have g0 := h0 (by omega)
    have g1 := h1 (by omega)
    have g2 := h2 (by omega)
    have g3 := h3 (by omega)
    refine ⟨?_, ?_⟩
    · show 0 * 4 ^ 4 = c
      have : c = 0 := by rw [hcc, g0, g1, g2, g3]
      rw [this, Nat.zero_mul]
    · show 0 = _
      omega
  · have g1 := h1 (by omega)
    have g2 := h2 (by omega)
    have g3 := h3 (by omega)
    refine ⟨?_, ?_⟩
    · show (mvC c 0 * 4 ^ 0 + 0) * 4 ^ 3 = c
      omega
    · show mvC c 0 + 0 = _
      omega
  · have g2 := h2 (by omega)
    have g3 := h3 (by omega)
    refine ⟨?_, ?_⟩
    · show (mvC c 0 * 4 ^ 1 + (mvC c 1 * 4 ^ 0 + 0)) * 4 ^ 2 = c
      omega
    · show mvC c 0 + (mvC c 1 + 0) = _
      omega
  · have g3 := h3 (by omega)
    refine ⟨?_, ?_⟩
    · show (mvC c 0 * 4 ^ 2 + (mvC c 1 * 4 ^ 1 + (mvC c 2 * 4 ^ 0 + 0))) * 4 ^ 1 = c
      omega
    · show mvC c 0 + (mvC c 1 + (mvC c 2 + 0)) = _
      omega
  · refine ⟨?_, ?_⟩
    · show (mvC c 0 * 4 ^ 3 + (mvC c 1 * 4 ^ 2 + (mvC c 2 * 4 ^ 1 + (mvC c 3 * 4 ^ 0 + 0)))) * 4 ^ 0 = c
      clear h0 h1 h2 h3 b0 b1 b2 b3 hc
      generalize mvC c 0 = x0 at *
      generalize mvC c 1 = x1 at *
      generalize mvC c 2 = x2 at *
      generalize mvC c 3 = x3 at *
      rw [hcc, show (4 : Nat) ^ 3 = 64 from rfl, show (4 : Nat) ^ 2 = 16 from rfl, show (4 : Nat) ^ 1 = 4 from rfl, show (4 : Nat) ^ 0 = 1 from rfl]
      omega
    · show mvC c 0 + (mvC c 1 + (mvC c 2 + (mvC c 3 + 0))) = _
      omega
theorem cod_mv {n : Nat} {l : List Nat} (hn : n ≤ 4) (hl : l.length = n) (hs : l.sum ≤ 3) : cod l * 4 ^ (4 - n) < 256 ∧ (∀ o, o < 4 → mvC (cod l * 4 ^ (4 - n)) o = l.getD o 0) ∧ smC (cod l * 4 ^ (4 - n)) = l.sum := by
  have key : ∀ c a0 a1 a2 a3 : Nat, a0 + a1 + a2 + a3 ≤ 3 → c = a0 * 64 + a1 * 16 + a2 * 4 + a3 → c < 256 ∧ mvC c 0 = a0 ∧ mvC c 1 = a1 ∧ mvC c 2 = a2 ∧ mvC c 3 = a3 := by
    intro c a0 a1 a2 a3 h hc
    exact ⟨by omega, dig4 (by omega) (by omega) (by omega) (by omega) hc⟩
  have fin : ∀ a0 a1 a2 a3 : Nat, a0 + a1 + a2 + a3 ≤ 3 → cod l * 4 ^ (4 - n) = a0 * 64 + a1 * 16 + a2 * 4 + a3 → l.getD 0 0 = a0 → l.getD 1 0 = a1 → l.getD 2 0 = a2 → l.getD 3 0 = a3 → l.sum = a0 + a1 + a2 + a3 → cod l * 4 ^ (4 - n) < 256 ∧ (∀ o, o < 4 → mvC (cod l * 4 ^ (4 - n)) o = l.getD o 0) ∧ smC (cod l * 4 ^ (4 - n)) = l.sum := by
    intro a0 a1 a2 a3 h hc l0 l1 l2 l3 hsum
    obtain ⟨k0, k1, k2, k3, k4⟩ := key _ a0 a1 a2 a3 h hc
    refine ⟨k0, fun o ho => ?_, by unfold smC; omega⟩
    have : o = 0 ∨ o = 1 ∨ o = 2 ∨ o = 3 := by omega
    rcases this with rfl | rfl | rfl | rfl
    · rw [k1, l0]
    · rw [k2, l1]
    · rw [k3, l2]
    · rw [k4, l3]
  rcases l with _ | ⟨a, _ | ⟨b, _ | ⟨c, _ | ⟨d, _ | ⟨e, l⟩⟩⟩⟩⟩
  · have : n = 0 := by simpa using hl.symm
    subst this
    exact fin 0 0 0 0 (by omega) rfl rfl rfl rfl rfl rfl
  · have : n = 1 := by simpa using hl.symm
    subst this
    simp only [List.sum_cons, List.sum_nil] at hs
    exact fin a 0 0 0 (by omega) (by simp [cod]) rfl rfl rfl rfl (by simp)
  · have : n = 2 := by simpa using hl.symm
    subst this
    simp only [List.sum_cons, List.sum_nil] at hs
    exact fin a b 0 0 (by omega) (by simp [cod]; omega) rfl rfl rfl rfl (by simp)
  · have : n = 3 := by simpa using hl.symm
    subst this
    simp only [List.sum_cons, List.sum_nil] at hs
    exact fin a b c 0 (by omega) (by simp [cod]; omega) rfl rfl rfl rfl (by simp; omega)
  · have : n = 4 := by simpa using hl.symm
    subst this
    simp only [List.sum_cons, List.sum_nil] at hs
    exact fin a b c d (by omega) (by simp [cod]; omega) rfl rfl rfl rfl (by simp; omega)
  · simp at hl; omega
-- a place that changes nothing can be spared
theorem std_tk {A : AS} {mv mv' : Nat → Nat} (h : ∀ f S, sTk (aMv A mv) f S = sTk (aMv A mv') f S) (S : Nat) : sStd (aMv A mv) S = sStd (aMv A mv') S := by
  have h' : sTk (aMv A mv) = sTk (aMv A mv') := funext fun f => funext fun S => h f S
  have f3 : ∀ S, sF3 (aMv A mv) S = sF3 (aMv A mv') S := fun S => by unfold sF3; rw [h']; rfl
  have fr : ∀ S, sFree (aMv A mv) S = sFree (aMv A mv') S := fun S => by unfold sFree; rw [f3]; rfl
  have bk : ∀ a b f z, sBkP (aMv A mv) a b f z = sBkP (aMv A mv') a b f z := fun a b f z => by unfold sBkP; rw [h']
  have br : ∀ S f wt, sBrk (aMv A mv) S f wt = sBrk (aMv A mv') S f wt := fun S f wt => by
    unfold sBrk
    have : ∀ a b, sBkP (aMv A mv) a b f = sBkP (aMv A mv') a b f := fun a b => funext fun z => bk a b f z
    rw [this]
    rfl
  have b3 : ∀ S, sBk3 (aMv A mv) S = sBk3 (aMv A mv') S := fun S => by
    unfold sBk3
    exact fst1_congr fun f _ => by rw [br]; rfl
  have as : ∀ a b f, sAsk (aMv A mv) a b f = sAsk (aMv A mv') a b f := fun a b f => by unfold sAsk; rw [h']; rfl
  have pt : ∀ a b, sPTk (aMv A mv) a b = sPTk (aMv A mv') a b := fun a b => by
    unfold sPTk
    exact nfo_congr fun f _ t => by rw [as]
  have bp : ∀ S c, sBrP (aMv A mv) S c = sBrP (aMv A mv') S c := fun S c => by
    unfold sBrP
    exact fst1_congr fun k _ => by rw [pt]; rfl
  have b4 : ∀ S, sBk4 (aMv A mv) S = sBk4 (aMv A mv') S := fun S => by
    unfold sBk4
    exact fst1_congr fun c _ => by rw [bp]
  unfold sStd sJdg
  rw [fr, b3, b4]
  have hp : sPpl (aMv A mv) S = sPpl (aMv A mv') S := rfl
  rw [hp]
  split
  · rfl
  · split
    · rfl
    · cases sBk3 (aMv A mv') S with
      | some f => rfl
      | none => cases sBk4 (aMv A mv') S <;> rfl
theorem gn_okV {A : AS} {f v : Nat} (h0 : 0 < v) (h : gnB A f v = true) : okV A f v = true := by
  unfold gnB at h
  simp only [Bool.and_eq_true, bne_iff_ne] at h
  obtain ⟨⟨h1, h2⟩, -⟩ := h
  obtain ⟨C, hC⟩ := Option.isSome_iff_exists.mp h1
  unfold okV
  rw [hC]
  unfold lv chD at h2
  rw [hC] at h2
  simp only [Option.getD_some] at h2
  simp only [Bool.or_eq_true, beq_iff_eq, decide_eq_true_eq]
  omega
theorem gn_no {A : AS} (w : WF A) {f : Nat} {mv : Nat → Nat} (h0 : 0 < mv f) (hk : okV A f (mv f) = true) (h : gnB A f (mv f) = false) (S : Nat) : sStd (aMv A mv) S = sStd (aMv A (fun o => if o = f then mv f - 1 else mv o)) S := by
  apply std_tk
  intro g S
  rw [← tPm_set w, ← tPm_set w]
  by_cases q : g = f
  · subst q
    simp only [if_true]
    have hlv : (aCh A g).isSome = true ∧ lv A g (mv g) ≠ lv A g (mv g - 1) := by
      unfold okV at hk
      cases hC : aCh A g with
      | none =>
        rw [hC] at hk
        simp only [Bool.or_false, beq_iff_eq] at hk
        omega
      | some C =>
        rw [hC] at hk
        simp only [Bool.or_eq_true, beq_iff_eq, decide_eq_true_eq] at hk
        refine ⟨rfl, ?_⟩
        unfold lv chD
        rw [hC]
        simp only [Option.getD_some]
        omega
    unfold gnB at h
    have h3 : (fst1 (gnP A g (mv g)) (2 ^ nOf A g)).isSome = false := by
      simp only [Bool.and_eq_false_iff, bne_eq_false_iff_eq] at h
      rcases h with (h | h) | h
      · rw [hlv.1] at h; cases h
      · exact absurd h hlv.2
      · exact h
    have h4 : fst1 (gnP A g (mv g)) (2 ^ nOf A g) = none := by
      cases hh : fst1 (gnP A g (mv g)) (2 ^ nOf A g) with
      | none => rfl
      | some z => rw [hh] at h3; cases h3
    have h5 := fst1_none h4 (prt g (slM A S)) (prt_slM_lt w g S)
    unfold gnP tE at h5
    simp only [bne_eq_false_iff_eq] at h5
    have a1 := tP_256 A g (mv g) (prt g (slM A S))
    have a2 := tP_256 A g (mv g - 1) (prt g (slM A S))
    have : tP A g (mv g) (prt g (slM A S)) = tP A g (mv g - 1) (prt g (slM A S)) := by
      split at h5 <;> split at h5 <;> omega
    rw [this]
  · simp only [if_neg q]
def rdP (A : AS) (t c : Nat) : Bool := smC c == t && nfo (fun o a => a && (mvC c o == 0 || gnB A o (mvC c o))) 4 true
theorem rdP_iff {A : AS} {t c : Nat} : rdP A t c = true ↔ smC c = t ∧ ∀ o, o < 4 → mvC c o = 0 ∨ gnB A o (mvC c o) = true := by
  unfold rdP
  rw [Bool.and_eq_true, beq_iff_eq, nfo_all]
  simp only [Bool.or_eq_true, beq_iff_eq]
def accC (A : AS) (t c : Nat) : Bool := rdP A t c && exB (aMv A (mvC c))
theorem rowC_ok {A : AS} (w : WF A) {t c : Nat} (hc : c < 256) (h : accC A t c = true) : (rowC (aNo A) c).length = aNo A ∧ (rowC (aNo A) c).sum = t ∧ okRow A 0 (rowC (aNo A) c) ∧ exB (aRow A 0 (rowC (aNo A) c)) = true ∧ cod (rowC (aNo A) c) * 4 ^ (4 - aNo A) = c := by
  have hno := w.2.1
  unfold accC at h
  rw [Bool.and_eq_true, rdP_iff] at h
  obtain ⟨⟨h1, h2⟩, h3⟩ := h
  have hz : ∀ o, aNo A ≤ o → o < 4 → mvC c o = 0 := fun o q1 q2 => by
    rcases h2 o q2 with z | z
    · exact z
    · unfold gnB at z
      rw [(w.2.2.2.2.2.1 o).1 q1] at z
      simp at z
  obtain ⟨c1, c2⟩ := rowC_cod hno hc hz
  have ok : okRow A 0 (rowC (aNo A) c) := (okRow_iff _ _ _).mpr fun i hi => by
    rw [rowC_len] at hi
    rw [rowC_get hi, Nat.zero_add]
    rcases h2 i (by omega) with z | z
    · rw [z]; rfl
    · by_cases q : mvC c i = 0
      · rw [q]; rfl
      · exact gn_okV (by omega) z
  refine ⟨rowC_len _ _, by rw [c2, h1], ok, ?_, c1⟩
  rw [aRow_mv w (rowC_len _ _) ok fun o ho => (rowC_get ho).symm]
  exact h3
theorem sum_set : ∀ (l : List Nat) (i : Nat), i < l.length → 0 < l.getD i 0 → (l.set i (l.getD i 0 - 1)).sum + 1 = l.sum := by
  intro l
  induction l with
  | nil => intro i hi; simp at hi
  | cons v l ih =>
    intro i hi h
    cases i with
    | zero =>
      simp only [List.getD_cons_zero] at h ⊢
      simp only [List.set_cons_zero, List.sum_cons]
      omega
    | succ i =>
      simp only [List.getD_cons_succ] at h ⊢
      simp only [List.set_cons_succ, List.sum_cons]
      have := ih i (by simpa using hi) h
      omega
theorem plcc_ok {A : AS} (w : WF A) {t : Nat} (ht : t < 4) (hn : ∀ m, m < t → shF (aNo A) A 0 m = none) : fst1 (accC A t) 256 = (shF (aNo A) A 0 t).map (fun l => cod l * 4 ^ (4 - aNo A)) := by
  have hno := w.2.1
  obtain ⟨s1, s2⟩ := sh_ok (aNo A) A 0 t (by omega)
  cases hq : shF (aNo A) A 0 t with
  | none =>
    refine fst1_no fun c hc => ?_
    cases ha : accC A t c with
    | false => rfl
    | true =>
      obtain ⟨r1, r2, r3, r4, -⟩ := rowC_ok w hc ha
      exact (s2 hq _ r1 r2 r3 r4).elim
  | some l =>
    obtain ⟨l1, l2, l3, l4, l5⟩ := s1 l hq
    obtain ⟨c1, c2, c3⟩ := cod_mv hno l1 (by omega)
    have hmv := aRow_mv w l1 l3 (mv := mvC (cod l * 4 ^ (4 - aNo A))) fun o ho => c2 o (by omega)
    show fst1 (accC A t) 256 = some (cod l * 4 ^ (4 - aNo A))
    refine fst1_of c1 ?_ fun c hc => ?_
    · unfold accC
      rw [Bool.and_eq_true, ← hmv, rdP_iff]
      refine ⟨⟨by omega, fun o ho => ?_⟩, l4⟩
      by_cases z : mvC (cod l * 4 ^ (4 - aNo A)) o = 0
      · exact Or.inl z
      right
      cases hg : gnB A o (mvC (cod l * 4 ^ (4 - aNo A)) o) with
      | true => rfl
      | false =>
        exfalso
        have hz := c2 o ho
        have hol : o < aNo A := by
          apply Nat.lt_of_not_le
          intro q
          rw [List.getD_eq_getElem?_getD, List.getElem?_eq_none (by omega)] at hz
          exact z hz
        have hk := (okRow_iff l A 0).mp l3 o (by omega)
        rw [Nat.zero_add, ← hz] at hk
        have hst := gn_no w (mv := mvC (cod l * 4 ^ (4 - aNo A))) (f := o) (by omega) hk hg
        have hs := sum_set l o (by omega) (by omega)
        have ok' : okRow A 0 (l.set o (l.getD o 0 - 1)) := (okRow_iff _ _ _).mpr fun i hi => by
          rw [List.length_set] at hi
          rw [Nat.zero_add]
          by_cases e : o = i
          · subst e
            have : (l.set o (l.getD o 0 - 1)).getD o 0 = l.getD o 0 - 1 := by
              rw [List.getD_eq_getElem?_getD, List.getElem?_set_self (by omega)]; rfl
            rw [this]
            rw [hz] at hk
            unfold okV at hk ⊢
            cases hC : aCh A o with
            | none =>
              rw [hC] at hk
              simp only [Bool.or_false, beq_iff_eq] at hk ⊢
              omega
            | some C =>
              rw [hC] at hk
              simp only [Bool.or_eq_true, beq_iff_eq, decide_eq_true_eq] at hk ⊢
              omega
          · have : (l.set o (l.getD o 0 - 1)).getD i 0 = l.getD i 0 := by
              rw [List.getD_eq_getElem?_getD, List.getElem?_set_ne e, ← List.getD_eq_getElem?_getD]
            rw [this]
            have := (okRow_iff l A 0).mp l3 i hi
            rwa [Nat.zero_add] at this
        have hl' : (l.set o (l.getD o 0 - 1)).length = aNo A := by rw [List.length_set]; exact l1
        have hmv' := aRow_mv w hl' ok' (mv := fun p => if p = o then mvC (cod l * 4 ^ (4 - aNo A)) o - 1 else mvC (cod l * 4 ^ (4 - aNo A)) p) fun p hp => by
          by_cases e : p = o
          · subst e
            rw [if_pos rfl, List.getD_eq_getElem?_getD, List.getElem?_set_self (by omega), hz]; rfl
          · rw [if_neg e, List.getD_eq_getElem?_getD, List.getElem?_set_ne (Ne.symm e), ← List.getD_eq_getElem?_getD]
            exact c2 p (by omega)
        have hex : exB (aRow A 0 (l.set o (l.getD o 0 - 1))) = true := by
          rw [hmv', exB_iff (WF_mv w _)]
          rw [hmv, exB_iff (WF_mv w _)] at l4
          obtain ⟨S, S1, S2⟩ := l4
          exact ⟨S, S1, by rw [← hst]; exact S2⟩
        have hn' := hn (t - 1) (by omega)
        exact (sh_ok (aNo A) A 0 (t - 1) (by omega)).2 hn' _ hl' (by omega) ok' hex
    · cases ha : accC A t c with
      | false => rfl
      | true =>
        obtain ⟨r1, r2, r3, r4, r5⟩ := rowC_ok w (by omega) ha
        have := l5 _ r1 r2 r3 r4
        have : cod l * 4 ^ (4 - aNo A) ≤ cod (rowC (aNo A) c) * 4 ^ (4 - aNo A) := Nat.mul_le_mul_right _ this
        omega
/-- how many places more, and the code -/
def plcC (A : AS) : Option (Nat × Nat) := match fst1 (fun t => (fst1 (accC A t) 256).isSome) 4 with
  | some t => some (t, (fst1 (accC A t) 256).getD 0)
  | none => none
theorem plcs_ok {A : AS} (w : WF A) : sPlcs A = (plcC A).map (fun q => (q.1, rowC (aNo A) q.2)) := by
  have hno := w.2.1
  unfold sPlcs plcC
  have key : ∀ t, t ≤ 4 → (∀ m, m < t → (shF (aNo A) A 0 m).isSome = false) → ∀ m, m < t → shF (aNo A) A 0 m = none := fun t _ h m hm => by
    have := h m hm
    cases hh : shF (aNo A) A 0 m with
    | none => rfl
    | some q => rw [hh] at this; cases this
  cases hq : fst1 (fun n => (shF (aNo A) A 0 n).isSome) 4 with
  | none =>
    have h1 := key 4 (Nat.le_refl _) (fst1_none hq)
    have : fst1 (fun t => (fst1 (accC A t) 256).isSome) 4 = none := fst1_no fun t ht => by
      rw [plcc_ok w ht (fun m hm => h1 m (by omega)), h1 t ht]
      rfl
    rw [this]
    rfl
  | some t =>
    obtain ⟨t1, t2, t3⟩ := fst1_some hq
    have h1 := key t (by omega) t3
    obtain ⟨l, hl⟩ := Option.isSome_iff_exists.mp t2
    have e := plcc_ok w t1 h1
    rw [hl] at e
    simp only [Option.map_some] at e
    have : fst1 (fun t => (fst1 (accC A t) 256).isSome) 4 = some t := fst1_of t1 (by rw [e]; rfl) fun m hm => by
      rw [plcc_ok w (by omega) (fun k hk => h1 k (by omega)), h1 m hm]
      rfl
    rw [this]
    simp only [hl, e, Option.getD_some, Option.map_some]
    obtain ⟨l1, l2, l3, l4, l5⟩ := (sh_ok (aNo A) A 0 t (by omega)).1 l hl
    obtain ⟨c1, c2, c3⟩ := cod_mv hno l1 (by omega)
    congr 2
    apply List.ext_getElem?
    intro i
    by_cases hi : i < aNo A
    · have g1 : l[i]? = some (l.getD i 0) := by
        rw [List.getD_eq_getElem?_getD, List.getElem?_eq_getElem (by omega)]; rfl
      have g2 : (rowC (aNo A) (cod l * 4 ^ (4 - aNo A)))[i]? = some (mvC (cod l * 4 ^ (4 - aNo A)) i) := by
        unfold rowC
        rw [List.getElem?_map, List.getElem?_range hi]
        rfl
      rw [g1, g2, c2 i (by omega)]
    · rw [List.getElem?_eq_none (by omega), List.getElem?_eq_none (by rw [rowC_len]; omega)]
