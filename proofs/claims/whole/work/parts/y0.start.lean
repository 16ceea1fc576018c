/-! THE START: the heap that the constructors make, as a list of what was done, the newest first -/
abbrev hop : Type := Nat × Nat × Nat × Nat × Int32
def hFil (h : jHp) (a n : Nat) (v : Int32) : jHp := (fun b j => if b = a ∧ j < n then v else hI h b j, hJ h, hR h, hT h, hN h, hS h)
/-- 0: a new cell (kind, length, address); 1: a reference is put; 2: a number is put; 3: a row of numbers is filled -/
def hAp (o : hop) (h : jHp) : jHp := match o.1 with
  | 0 => hNew h o.2.1 o.2.2.1
  | 1 => hSetR h o.2.1 o.2.2.1 o.2.2.2.1
  | 2 => hSetI h o.2.1 o.2.2.1 o.2.2.2.2
  | _ => hFil h o.2.1 o.2.2.1 o.2.2.2.2
def hZ : jHp := (fun _ _ => 0, fun _ _ => 0, fun _ _ => 0, fun _ => (0, 0), 1, 0)
def hMk : List hop → jHp
  | [] => hZ
  | o :: l => hAp o (hMk l)
def mOk : List hop → Option (Nat × Nat)
  | [] => some (1, 0)
  | o :: l => match mOk l with
    | none => none
    | some q => if o.1 = 0 then (if o.2.2.2.1 = q.1 then some (q.1 + 1, q.2 + o.2.2.1) else none) else some q
def mT : List hop → Nat → Nat × Nat
  | [], _ => (0, 0)
  | o :: l, a => if o.1 = 0 ∧ a = o.2.2.2.1 then (o.2.1, o.2.2.1) else mT l a
def mR : List hop → Nat → Nat → Nat
  | [], _, _ => 0
  | o :: l, a, k => if o.1 = 0 ∧ a = o.2.2.2.1 then 0 else if o.1 = 1 ∧ a = o.2.1 ∧ k = o.2.2.1 then o.2.2.2.1 else mR l a k
def mI : List hop → Nat → Nat → Int32
  | [], _, _ => 0
  | o :: l, a, k => if o.1 = 0 ∧ a = o.2.2.2.1 then 0 else if o.1 = 2 ∧ a = o.2.1 ∧ k = o.2.2.1 then o.2.2.2.2 else if 3 ≤ o.1 ∧ a = o.2.1 ∧ k < o.2.2.1 then o.2.2.2.2 else mI l a k
theorem m_ok : ∀ {l : List hop} {q : Nat × Nat}, mOk l = some q → hN (hMk l) = q.1 ∧ hS (hMk l) = q.2 ∧ (∀ a, hT (hMk l) a = mT l a) ∧ (∀ a k, hR (hMk l) a k = mR l a k) ∧ (∀ a k, hI (hMk l) a k = mI l a k) := by
  intro l
  induction l with
  | nil => intro q h; cases h; exact ⟨rfl, rfl, fun _ => rfl, fun _ _ => rfl, fun _ _ => rfl⟩
  | cons o l ih =>
    intro q h
    obtain ⟨c, x, y, z, v⟩ := o
    simp only [mOk] at h
    cases hl : mOk l with
    | none => rw [hl] at h; cases h
    | some q0 =>
      obtain ⟨i1, i2, i3, i4, i5⟩ := ih hl
      rw [hl] at h
      simp only at h
      match c, h with
      | 0, h =>
        simp only [if_true] at h
        split at h
        · rename_i hz
          cases h
          refine ⟨by show hN (hMk l) + 1 = _; rw [i1], by show hS (hMk l) + y = _; rw [i2], fun a => ?_, fun a k => ?_, fun a k => ?_⟩
          · show (if a = hN (hMk l) then (x, y) else hT (hMk l) a) = _
            rw [i1, i3]; simp [mT, hz]
          · show (if a = hN (hMk l) then 0 else hR (hMk l) a k) = _
            rw [i1, i4]; simp [mR, hz]
          · show (if a = hN (hMk l) then 0 else hI (hMk l) a k) = _
            rw [i1, i5]; simp [mI, hz]
        · cases h
      | 1, h =>
        simp only [Nat.one_ne_zero, if_false] at h
        cases h
        refine ⟨i1, i2, fun a => ?_, fun a k => ?_, fun a k => ?_⟩
        · show hT (hMk l) a = _
          rw [i3]; simp [mT]
        · show (if a = x ∧ k = y then z else hR (hMk l) a k) = _
          rw [i4]; simp [mR]
        · show hI (hMk l) a k = _
          rw [i5]; simp [mI]
      | 2, h =>
        simp at h
        subst h
        refine ⟨i1, i2, fun a => ?_, fun a k => ?_, fun a k => ?_⟩
        · show hT (hMk l) a = _
          rw [i3]; simp [mT]
        · show hR (hMk l) a k = _
          rw [i4]; simp [mR]
        · show (if a = x ∧ k = y then v else hI (hMk l) a k) = _
          rw [i5]; simp [mI]
      | c + 3, h =>
        simp at h
        subst h
        refine ⟨i1, i2, fun a => ?_, fun a k => ?_, fun a k => ?_⟩
        · show hT (hMk l) a = _
          rw [i3]; simp [mT]
        · show hR (hMk l) a k = _
          rw [i4]; simp [mR]
        · show (if a = x ∧ k < y then v else hI (hMk l) a k) = _
          rw [i5]; simp [mI]
def mA (l : List hop) (m : Nat) : Bool := match mOk l with
  | some q => q.1 == m
  | none => false
def mB (l : List hop) : Bool := (mOk l).isSome
theorem mA_ok {l : List hop} {m : Nat} (h : mA l m = true) : ∃ s, mOk l = some (m, s) := by
  unfold mA at h
  split at h
  · rename_i q e
    obtain ⟨a, b⟩ := q
    simp only [beq_iff_eq] at h
    subst h
    exact ⟨b, e⟩
  · cases h
theorem mB_ok {l : List hop} (h : mB l = true) : ∃ q, mOk l = some q := Option.isSome_iff_exists.mp h
theorem fb_step {a b : jSt} {st st1 : jS} {r : Option (jO × jS)} (e : a st = some (.inl 0, st1)) (k : b st1 = r) : s_seq a b st = r := by
  simp only [s_seq, e, jb]
  exact k
theorem st_super {L : List Value} {h : jHp} {a : Nat} (h0 : L[(0 : Nat)]? = some (.ref a)) : s_super (L, h) = some (.inl 0, (L, h)) := by
  simp [s_super, h0]
theorem st_newa {L : List Value} {l : List hop} {m a ci k kind n : Nat} (hl : mA l m = true) (h0 : L[(0 : Nat)]? = some (.ref a)) (ht : (mT ((0, kind, n, m, 0) :: l) a).1 = 10 + ci) (hm : m ≠ 0) (hn : n ≤ 1000000) : s_fput ci 1 0 k (x_aloc 0) (x_newa kind (x_c (.int (nI n)))) (L, hMk l) = some (.inl 0, (L, hMk ((1, a, k, m, 0) :: (0, kind, n, m, 0) :: l))) := by
  obtain ⟨s, hl⟩ := mA_ok hl
  have e1 := nI_pos' (n := n) (by omega)
  have e2 := nI_clamp (n := n) (by omega)
  have eN : hN (hMk l) = m := (m_ok hl).1
  have hl1 : mOk ((0, kind, n, m, 0) :: l) = some (m + 1, s + n) := by simp [mOk, hl]
  have eT := (m_ok hl1).2.2.1 a
  have eM : hMk ((0, kind, n, m, 0) :: l) = hNew (hMk l) kind n := rfl
  rw [eM] at eT
  simp only [s_fput, x_aloc, h0, jb, x_newa, x_c, e1, e2, hn, and_self, if_true, j_fput, eN, eT, ht, true_and, hm, ne_eq, not_false_eq_true]
  rfl
theorem st_putI {L : List Value} {l : List hop} {a ci k : Nat} {e : jE} {v : Int32} (hl : mB l = true) (h0 : L[(0 : Nat)]? = some (.ref a)) (ht : (mT l a).1 = 10 + ci) (he : e (L, hMk l) = some (.int v, (L, hMk l))) : s_fput ci 0 0 k (x_aloc 0) e (L, hMk l) = some (.inl 0, (L, hMk ((2, a, k, 0, v) :: l))) := by
  obtain ⟨q, hl⟩ := mB_ok hl
  have eT := (m_ok hl).2.2.1 a
  simp only [s_fput, x_aloc, h0, jb, he, j_fput, eT, ht, true_and, true_or, and_self, if_true]
  rfl
theorem st_putR {L : List Value} {l : List hop} {a ci k b : Nat} {e : jE} (hl : mB l = true) (h0 : L[(0 : Nat)]? = some (.ref a)) (ht : (mT l a).1 = 10 + ci) (hb : b ≠ 0) (he : e (L, hMk l) = some (.ref b, (L, hMk l))) : s_fput ci 1 0 k (x_aloc 0) e (L, hMk l) = some (.inl 0, (L, hMk ((1, a, k, b, 0) :: l))) := by
  obtain ⟨q, hl⟩ := mB_ok hl
  have eT := (m_ok hl).2.2.1 a
  simp only [s_fput, x_aloc, h0, jb, he, j_fput, eT, ht, true_and, hb, ne_eq, not_false_eq_true, and_self, if_true]
  rfl
theorem ev_c {L : List Value} {h : jHp} {v : Value} : x_c v (L, h) = some (v, (L, h)) := rfl
theorem ev_il {L : List Value} {h : jHp} {j : Nat} {v : Int32} (h0 : L[j]? = some (.int v)) : x_iloc j (L, h) = some (.int v, (L, h)) := by
  simp [x_iloc, h0]
theorem ev_al {L : List Value} {h : jHp} {j b : Nat} (h0 : L[j]? = some (.ref b)) : x_aloc j (L, h) = some (.ref b, (L, h)) := by
  simp [x_aloc, h0]
theorem ev_fld {L : List Value} {l : List hop} {j a ci k b : Nat} (hl : mB l = true) (h0 : L[j]? = some (.ref a)) (ht : (mT l a).1 = 10 + ci) (hr : mR l a k = b) (hb : b ≠ 0) : x_fld ci 1 k (x_aloc j) (L, hMk l) = some (.ref b, (L, hMk l)) := by
  obtain ⟨q, hl⟩ := mB_ok hl
  have eT := (m_ok hl).2.2.1 a
  have eR := (m_ok hl).2.2.2.1 a k
  simp [x_fld, x_aloc, h0, jb, j_fget, eT, ht, eR, hr, hb]
theorem ev_nil {st : jS} : xs_nil st = some ([], st) := rfl
theorem ev_cons {a : jE} {as : jS → Option (List Value × jS)} {st : jS} {v : Value} {vs : List Value} (h1 : a st = some (v, st)) (h2 : as st = some (vs, st)) : xs_cons a as st = some (v :: vs, st) := by
  simp [xs_cons, jb, h1, h2]
theorem ev_new {L : List Value} {l l' : List hop} {m cj N n : Nat} {f : jF} {as : jS → Option (List Value × jS)} {vs : List Value} (hl : mA l m = true) (hn : N = n) (has : as (L, hMk ((0, 10 + cj, n, m, 0) :: l)) = some (vs, (L, hMk ((0, 10 + cj, n, m, 0) :: l)))) (hf : f (.ref m :: vs) (hMk ((0, 10 + cj, n, m, 0) :: l)) = some (none, hMk l')) : x_new cj N f as (L, hMk l) = some (.ref m, (L, hMk l')) := by
  obtain ⟨s, hl⟩ := mA_ok hl
  subst hn
  have eN : hN (hMk l) = m := (m_ok hl).1
  have eM : hMk ((0, 10 + cj, N, m, 0) :: l) = hNew (hMk l) (10 + cj) N := rfl
  rw [eM] at has hf
  simp only [x_new, has, jb, eN, hf]
theorem st_new {L : List Value} {l l' : List hop} {m a ci k : Nat} {e : jE} (h0 : L[(0 : Nat)]? = some (.ref a)) (he : e (L, hMk l) = some (.ref m, (L, hMk l'))) (hl' : mB l' = true) (ht : (mT l' a).1 = 10 + ci) (hm : m ≠ 0) : s_fput ci 1 0 k (x_aloc 0) e (L, hMk l) = some (.inl 0, (L, hMk ((1, a, k, m, 0) :: l'))) := by
  obtain ⟨q, hl'⟩ := mB_ok hl'
  have eT := (m_ok hl').2.2.1 a
  simp only [s_fput, x_aloc, h0, jb, he, j_fput, eT, ht, true_and, hm, ne_eq, not_false_eq_true, and_self, if_true]
  rfl
theorem ct_of {body : jSt} {args L : List Value} {n : Nat} {h h' : jHp} {L' : List Value} (h1 : (lg_sl args).length ≤ n) (h2 : j_pad args n = L) (h3 : body (L, h) = some (.inr none, (L', h'))) : j_meth 0 n body args h = some (none, h') := by
  subst h2
  simp only [j_meth, if_pos h1, h3, j_out]
  rfl
-- rows are filled
theorem hFil_0 (h : jHp) (a : Nat) (v : Int32) : hFil h a 0 v = h := by
  have : (fun b j => if b = a ∧ j < 0 then v else hI h b j) = hI h := by funext b j; simp
  unfold hFil
  rw [this]
  rfl
theorem hFil_1 (h : jHp) (a n : Nat) (v : Int32) : hSetI (hFil h a n v) a n v = hFil h a (n + 1) v := by
  unfold hFil hSetI
  refine Prod.ext ?_ rfl
  funext b j
  simp only [j_up, hI]
  by_cases e : b = a
  · subst e
    by_cases q : j = n
    · subst q; simp
    · have : j < n + 1 ↔ j < n := by omega
      simp [q, this]
  · simp [e]
theorem fill_all {h : jHp} {a n : Nat} (v : Int32) (ht : hT h a = (1, n)) (hn : n < 2 ^ 31) : f_J_fill [.ref a, .int v] h = some (none, hFil h a n v) := by
  have key : ∀ k i, i + k = n → j_loopN 1 2 lc_J_fill_1 lb_J_fill_1 lu_J_fill_1 (k + 1) ([.ref a, .int v, .int (nI i), .int (nI n)], hFil h a i v) = some (.inl 0, ([.ref a, .int v, .int (nI n), .int (nI n)], hFil h a n v)) := by
    intro k
    induction k with
    | zero =>
      intro i hi
      have e : i = n := by omega
      subst e
      have e2 : ¬ nI i < nI i := Int32.lt_irrefl
      simp [j_loopN, lc_J_fill_1, b_cmp, x_iloc, jb, if_icmp.holds, e2]
    | succ k ih =>
      intro i hi
      have h1 : nI i < nI n := nI_lt (by omega) hn
      have h2 : hT (hFil h a i v) a = (1, n) := ht
      have h3 : j_in (nI i) n = true := n_in' (by omega) hn
      have h4 := nI_clamp (n := i) (by omega)
      have := ih (i + 1) (by omega)
      have h15 : (1 : Nat) < 5 := by decide
      have h01 : (0 : Nat) < 1 := by decide
      rw [j_loopN]
      simp only [lc_J_fill_1, b_cmp, x_iloc, List.getElem?_cons_succ, List.getElem?_cons_zero, jb, if_icmp.holds, h1, decide_true, if_true, lb_J_fill_1, s_aput, x_aloc, j_aput, h2, h3, true_and, h15, h01, and_self, j_nar, h4, lu_J_fill_1, s_inc, j_lset, j_kill, Value.category, List.set_cons_succ, List.set_cons_zero]
      simp [hFil_1, nI_add]
      exact this
  have h0 := key n 0 (by omega)
  rw [hFil_0] at h0
  have hL := s_loop_of h0
  simp [f_J_fill, body_J_fill, j_meth, j_out, j_rok, j_pad, lg_sl, Value.category, s_seq, jb, s_set, x_c, j_ty, j_lset, j_kill, x_len, x_aloc, j_alen, ht, hL, s_retv]
theorem st_fill {L : List Value} {l : List hop} {a ci k b n : Nat} {v : Int32} (hl0 : mB l = true) (h0 : L[(0 : Nat)]? = some (.ref a)) (ht : (mT l a).1 = 10 + ci) (hr : mR l a k = b) (hb : b ≠ 0) (hb2 : mT l b = (1, n)) (hn : n < 2 ^ 31) : s_calls f_J_fill (xs_cons (x_fld ci 1 k (x_aloc 0)) (xs_cons (x_c (.int v)) xs_nil)) (L, hMk l) = some (.inl 0, (L, hMk ((3, b, n, 0, v) :: l))) := by
  obtain ⟨q, hl⟩ := mB_ok hl0
  have eT := (m_ok hl).2.2.1 b
  rw [hb2] at eT
  have e1 := fill_all v eT hn
  have e2 : xs_cons (x_fld ci 1 k (x_aloc 0)) (xs_cons (x_c (.int v)) xs_nil) (L, hMk l) = some ([.ref b, .int v], (L, hMk l)) := ev_cons (ev_fld hl0 h0 ht hr hb) (ev_cons ev_c ev_nil)
  simp only [s_calls, e2, jb, e1, j_retv]
  rfl
-- the loop over the Desks
theorem lp_step {c : jB} {b u : jSt} {n : Nat} {st st1 st2 : jS} {r : jO × jS} (hc : c st = some (true, st)) (hb : b st = some (.inl 0, st1)) (hu : u st1 = some (.inl 0, st2)) (h : j_loopN 1 2 c b u n st2 = some r) : j_loopN 1 2 c b u (n + 1) st = some r := by
  simp [j_loopN, jb, hc, hb, hu, h]
theorem lp_end {c : jB} {b u : jSt} {n : Nat} {st : jS} (hc : c st = some (false, st)) : j_loopN 1 2 c b u (n + 1) st = some (.inl 0, st) := by
  simp [j_loopN, jb, hc]
theorem st_desk {L : List Value} {l l' : List hop} {m i : Nat} {e : jE} (hl0 : mB l = true) (h0 : L[(0 : Nat)]? = some (.ref 1)) (h1 : L[(1 : Nat)]? = some (.int (nI i))) (ht : (mT l 1).1 = 10) (hr : mR l 1 3 = 30) (he : e (L, hMk l) = some (.ref m, (L, hMk l'))) (hl' : mB l' = true) (ht3 : mT l' 30 = (6, 4)) (htm : (mT l' m).1 = 14) (hi : i < 4) : s_aput 6 (x_fld 0 1 3 (x_aloc 0)) (x_iloc 1) e (L, hMk l) = some (.inl 0, (L, hMk ((1, 30, i, m, 0) :: l'))) := by
  obtain ⟨q, hl⟩ := mB_ok hl0
  obtain ⟨q', hl'⟩ := mB_ok hl'
  have e1 := ev_fld (ci := 0) (k := 3) (b := 30) hl0 h0 ht hr (by omega)
  have e2 := ev_il (h := hMk l) h1
  have e3 := (m_ok hl').2.2.1 30
  rw [ht3] at e3
  have e4 := (m_ok hl').2.2.1 m
  have e5 : j_in (nI i) 4 = true := n_in' hi (by omega)
  have e6 := nI_clamp (n := i) (by omega)
  simp only [s_aput, e1, e2, he, jb, j_aput, e3, e4, htm, e5, e6, and_self, if_true]
  rfl
