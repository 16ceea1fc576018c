/-! what is TAKEN is the greatest ALLOWED set, by the ORDER -/
theorem or_bits (c : Nat → Bool) (g : Nat → Nat) : ∀ n j, (nfo (fun k m => if c k then m ||| 2 ^ g k else m) n 0).testBit j = true ↔ ∃ k, k < n ∧ c k = true ∧ g k = j := by
  intro n
  induction n with
  | zero => intro k; simp [nfo]
  | succ n ih =>
    intro j
    simp only [nfo]
    by_cases hs : c n = true
    · rw [if_pos hs, Nat.testBit_or, Nat.testBit_two_pow, Bool.or_eq_true, ih]
      constructor
      · rintro (⟨b, h1, h2, h3⟩ | h1)
        · exact ⟨b, by omega, h2, h3⟩
        · exact ⟨n, by omega, hs, by simpa using h1⟩
      · rintro ⟨b, h1, h2, h3⟩
        by_cases e : b = n
        · subst e; right; simpa using h3
        · exact Or.inl ⟨b, by omega, h2, h3⟩
    · rw [if_neg hs, ih]
      constructor
      · rintro ⟨b, h1, h2, h3⟩; exact ⟨b, by omega, h2, h3⟩
      · rintro ⟨b, h1, h2, h3⟩
        by_cases e : b = n
        · subst e; exact absurd h2 hs
        · exact ⟨b, by omega, h2, h3⟩
theorem insL_nd {p : Nat → Bool} {b : Nat} {l : List Nat} (h : l.Nodup) (hb : b ∉ l) : (insL p b l).Nodup := by
  unfold insL
  generalize insP p l.length = k
  rw [List.nodup_append]
  refine ⟨h.sublist (List.take_sublist k l), ?_, fun x hx y hy e => ?_⟩
  · rw [List.nodup_cons]
    exact ⟨fun q => hb (List.mem_of_mem_drop q), h.sublist (List.drop_sublist k l)⟩
  · subst e
    rcases List.mem_cons.mp hy with q | q
    · subst q; exact hb (List.mem_of_mem_take hx)
    · obtain ⟨i, hi, ei⟩ := List.mem_iff_getElem.mp hx
      obtain ⟨j, hj, ej⟩ := List.mem_iff_getElem.mp q
      rw [List.length_take] at hi
      rw [List.length_drop] at hj
      rw [List.getElem_take] at ei
      rw [List.getElem_drop] at ej
      exact List.pairwise_iff_getElem.mp h i (k + j) (by omega) (by omega) (by omega) (by rw [ei, ej])
theorem sOrdN_nd (A : AS) (f : Nat) : ∀ n, (sOrdN A f n).Nodup := by
  intro n
  induction n with
  | zero => exact List.nodup_nil
  | succ n ih =>
    have h1 : sOrdN A f (n + 1) = if aOf A n == f then insL (fun k => sAhd A f n ((sOrdN A f n).getD k 0)) n (sOrdN A f n) else sOrdN A f n := rfl
    rw [h1]
    split
    · exact insL_nd ih fun q => by have := (sOrdN_mem q).1; omega
    · exact ih
theorem sOrd_nd (A : AS) (f : Nat) : (sOrd A f).Nodup := sOrdN_nd A f _
theorem sOrd_len (A : AS) (f : Nat) : (sOrd A f).length = nOf A f := sOrdN_len A f _
theorem sOrd_mem {A : AS} (w : WF A) {f b : Nat} : b ∈ sOrd A f ↔ b < aNb A ∧ aOf A b = f := ⟨fun h => (sOrd_ok w f).2 b h, fun h => h.2 ▸ sOrd_all h.1⟩
theorem nd_idx {l : List Nat} (h : l.Nodup) {i j : Nat} (hi : i < l.length) (hj : j < l.length) (e : l.getD i 0 = l.getD j 0) : i = j := by
  simp only [List.getD_eq_getElem?_getD, List.getElem?_eq_getElem hi, List.getElem?_eq_getElem hj, Option.getD_some] at e
  rcases Nat.lt_trichotomy i j with q | q | q
  · exact absurd e (List.pairwise_iff_getElem.mp h i j hi hj q)
  · exact q
  · exact absurd e.symm (List.pairwise_iff_getElem.mp h j i hj hi q)
theorem sGat_b {l : List Nat} (h : l.Nodup) (S : Nat) {k : Nat} (hk : k < l.length) : (sGat l S).testBit (l.length - 1 - k) = S.testBit (l.getD k 0) := by
  have hb := or_bits (fun k => S.testBit (l.getD k 0)) (fun k => l.length - 1 - k) l.length (l.length - 1 - k)
  cases hs : S.testBit (l.getD k 0) with
  | true => exact hb.mpr ⟨k, hk, hs, rfl⟩
  | false =>
    cases hq : (sGat l S).testBit (l.length - 1 - k) with
    | false => rfl
    | true =>
      obtain ⟨i, i1, i2, i3⟩ := hb.mp hq
      have : i = k := by omega
      subst this
      rw [hs] at i2; cases i2
theorem sSpr_b {l : List Nat} (h : l.Nodup) (t : Nat) {k : Nat} (hk : k < l.length) : (sSpr l t).testBit (l.getD k 0) = t.testBit (l.length - 1 - k) := by
  have hb := or_bits (fun k => t.testBit (l.length - 1 - k)) (fun k => l.getD k 0) l.length (l.getD k 0)
  cases hs : t.testBit (l.length - 1 - k) with
  | true => exact hb.mpr ⟨k, hk, hs, rfl⟩
  | false =>
    cases hq : (sSpr l t).testBit (l.getD k 0) with
    | false => rfl
    | true =>
      obtain ⟨i, i1, i2, i3⟩ := hb.mp hq
      have := nd_idx h i1 hk i3
      subst this
      rw [hs] at i2; cases i2
theorem sSpr_in {l : List Nat} {t b : Nat} (h : (sSpr l t).testBit b = true) : b ∈ l := by
  obtain ⟨k, h1, -, h3⟩ := (or_bits (fun k => t.testBit (l.length - 1 - k)) (fun k => l.getD k 0) l.length b).mp h
  rw [← h3]; exact getD_mem' h1
theorem sGat_sSpr {l : List Nat} (h : l.Nodup) {t : Nat} (ht : t < 2 ^ l.length) : sGat l (sSpr l t) = t := by
  apply Nat.eq_of_testBit_eq
  intro j
  by_cases hj : j < l.length
  · have e : j = l.length - 1 - (l.length - 1 - j) := by omega
    have h1 := sGat_b h (sSpr l t) (k := l.length - 1 - j) (by omega)
    have h2 := sSpr_b h t (k := l.length - 1 - j) (by omega)
    rw [← e] at h1 h2
    rw [h1, h2]
  · rw [tb_false (sGat_lt (l := l) (sSpr l t)) (by omega), tb_false ht (by omega)]
theorem sSpr_sGat {l : List Nat} (h : l.Nodup) {S : Nat} (hS : ∀ b, S.testBit b = true → b ∈ l) : sSpr l (sGat l S) = S := by
  apply Nat.eq_of_testBit_eq
  intro b
  by_cases hb : b ∈ l
  · obtain ⟨k, hk, e⟩ := mem_getD hb
    rw [← e, sSpr_b h _ hk, sGat_b h S hk]
  · have h1 : (sSpr l (sGat l S)).testBit b = false := by
      cases q : (sSpr l (sGat l S)).testBit b with
      | false => rfl
      | true => exact absurd (sSpr_in q) hb
    have h2 : S.testBit b = false := by
      cases q : S.testBit b with
      | false => rfl
      | true => exact absurd (hS b q) hb
    rw [h1, h2]
/-- a set of an OFFICE's BONDS -/
def OfS (A : AS) (f S : Nat) : Prop := ∀ b, S.testBit b = true → b < aNb A ∧ aOf A b = f
def SubB (S T : Nat) : Prop := ∀ b, S.testBit b = true → T.testBit b = true
theorem SubB_and {S T : Nat} : S &&& T = S ↔ SubB S T := by
  constructor
  · intro h b hb
    rw [← h, Nat.testBit_and, Bool.and_eq_true] at hb
    exact hb.2
  · intro h
    apply Nat.eq_of_testBit_eq
    intro b
    rw [Nat.testBit_and]
    cases hs : S.testBit b with
    | false => rfl
    | true => rw [h b hs]; rfl
theorem sGat_sub {l : List Nat} (hl : l.Nodup) {S T : Nat} : (∀ b ∈ l, S.testBit b = true → T.testBit b = true) ↔ sGat l S &&& sGat l T = sGat l S := by
  rw [SubB_and]
  constructor
  · intro h j hj
    obtain ⟨k, h1, h2, h3⟩ := (or_bits (fun k => S.testBit (l.getD k 0)) (fun k => l.length - 1 - k) l.length j).mp hj
    rw [← h3, sGat_b hl T h1]
    exact h _ (getD_mem' h1) h2
  · intro h b hb hs
    obtain ⟨k, hk, e⟩ := mem_getD hb
    have := h (l.length - 1 - k) (by rw [sGat_b hl S hk, e]; exact hs)
    rw [sGat_b hl T hk, e] at this
    exact this
theorem sGat_inj {l : List Nat} (hl : l.Nodup) {S T : Nat} (hS : ∀ b, S.testBit b = true → b ∈ l) (hT : ∀ b, T.testBit b = true → b ∈ l) (h : sGat l S = sGat l T) : S = T := by
  rw [← sSpr_sGat hl hS, ← sSpr_sGat hl hT, h]
/-- TAKES: in what is offered, ALLOWED, and ahead of all such -/
theorem take_spec {A : AS} (w : WF A) (f S : Nat) : OfS A f (sTk A f S) ∧ SubB (sTk A f S) S ∧ sAlw A f (sTk A f S) = true ∧ ∀ U, OfS A f U → SubB U S → sAlw A f U = true → sGat (sOrd A f) U ≤ sGat (sOrd A f) (sTk A f S) := by
  have hl := sOrd_nd A f
  have hm := fun b => sOrd_mem w (f := f) (b := b)
  unfold sTk sTkM
  generalize hs : sGat (sOrd A f) S = s
  have hspec := mxN_spec (sQ_0 A f s) s
  have hle := mxN_le (sQ A f s) s
  generalize hx : mxN (sQ A f s) s = x at *
  obtain ⟨h1, h2⟩ := hspec
  unfold sQ at h1
  simp only [Bool.and_eq_true, beq_iff_eq] at h1
  have hslt : s < 2 ^ (sOrd A f).length := by rw [← hs]; exact sGat_lt S
  have hgx := sGat_sSpr hl (t := x) (by omega)
  refine ⟨fun b hb => (hm b).mp (sSpr_in hb), fun b hb => ?_, h1.2, fun U hU hUS hUa => ?_⟩
  · have hbl := sSpr_in hb
    have := (sGat_sub hl (S := sSpr (sOrd A f) x) (T := S)).mpr (by rw [hgx, hs]; exact h1.1)
    exact this b hbl hb
  · rw [hgx]
    have hUl : ∀ b, U.testBit b = true → b ∈ sOrd A f := fun b hb => (hm b).mpr (hU b hb)
    have hsub : sGat (sOrd A f) U &&& s = sGat (sOrd A f) U := by
      rw [← hs]
      exact (sGat_sub hl).mp fun b _ hb => hUS b hb
    refine h2 _ (sub_le hsub) ?_
    unfold sQ
    simp only [Bool.and_eq_true, beq_iff_eq]
    exact ⟨hsub, by rw [sSpr_sGat hl hUl]; exact hUa⟩
theorem take_uniq {A : AS} (w : WF A) {f S T : Nat} (h1 : OfS A f T) (h2 : SubB T S) (h3 : sAlw A f T = true) (h4 : ∀ U, OfS A f U → SubB U S → sAlw A f U = true → sGat (sOrd A f) U ≤ sGat (sOrd A f) T) : sTk A f S = T := by
  obtain ⟨a1, a2, a3, a4⟩ := take_spec w f S
  have e1 := h4 _ a1 a2 a3
  have e2 := a4 T h1 h2 h3
  exact sGat_inj (sOrd_nd A f) (fun b hb => (sOrd_mem w).mpr (a1 b hb)) (fun b hb => (sOrd_mem w).mpr (h1 b hb)) (by omega)
