/-! RULES: arguments, calls, new cells, statements, methods -/
section Rules2
variable {M : jMs} {C : jC} {k pc p1 p2 p3 p4 p5 tT tF : Nat} {tg : Nat → Nat}
theorem li_nil : LI M C k pc pc 0 xs_nil := by
  intro L h v L' h' he
  cases he
  exact ⟨rfl, Nat.le_refl _, Nat.le_refl _, fun hG stk hk c1 c2 K => K⟩
theorem li_cons {n : Nat} {a : jE} {as : jS → Option (List Value × jS)} (ha : EI M C k pc p1 a) (hs : LI M C (k + 2) p1 p2 n as) : LI M C k pc p2 (n + 1) (xs_cons a as) := by
  intro L h v L' h' he
  simp only [xs_cons] at he
  obtain ⟨u, ⟨L1, h1⟩, e1, he⟩ := jb_eq he
  obtain ⟨w, ⟨L2, h2⟩, e2, he⟩ := jb_eq he
  obtain ⟨m1, m2, K1⟩ := ha _ _ _ _ _ e1
  obtain ⟨hl, n1, n2, K2⟩ := hs _ _ _ _ _ e2
  cases he
  refine ⟨by simp [hl], Nat.le_trans m1 n1, Nat.le_trans m2 n2, fun hG stk hk c1 c2 K => K1 hG stk hk (Nat.le_trans n1 c1) (Nat.le_trans n2 c2) (K2 hG (u :: stk) (Nat.le_trans (j_ws_cons u stk) (by omega)) c1 c2 ?_)⟩
  simpa using K
theorem j_recv_ref {h : jHp} {ci : Nat} {vs : List Value} (hr : j_recv h ci vs = true) : ∃ a vs', vs = .ref a :: vs' := by
  match vs, hr with
  | .ref a :: vs', _ => exact ⟨a, vs', rfl⟩
theorem ei_callv {y : MethodName} {bytes : ByteArray} {nL n idx D' Λ' ci : Nat} {ret : Option FieldType} {f : jF} {as : jS → Option (List Value × jS)} (has : LI M C k pc p1 (n + 1) as) (hd : decode M.2.1 p1 = .ok (.invokevirtual idx, 3)) (hyb : YB y bytes nL ret n) (hyv : YV y ci) (hl : Jvm.Cond.methodLink M.1 idx y ∈ jtbl) (hm : MOk C.1 C.2.1.2.1 y bytes nL ret D' Λ' f) (hD : D' + 1 ≤ M.2.2.2.1) (hΛ : 8 + (nL + 11) + Λ' ≤ M.2.2.2.2.1) (hk8 : k ≤ 8) : EI M C k pc (p1 + 3) (x_callv ci f as) := by
  intro L h v L' h' he
  simp only [x_callv] at he
  obtain ⟨vs, ⟨L1, h1⟩, e1, he⟩ := jb_eq he
  obtain ⟨hlen, m1, m2, K1⟩ := has _ _ _ _ _ e1
  split at he
  · rename_i hr
    obtain ⟨a, vs', rfl⟩ := j_recv_ref hr
    cases hf : f (.ref a :: vs') h1 with
    | none => rw [hf] at he; cases he
    | some q =>
      obtain ⟨r, h2⟩ := q
      rw [hf] at he
      cases r with
      | none => cases he
      | some r =>
        cases he
        obtain ⟨n1, n2⟩ := (hm _ _ _ _ hf).1 ⟨C, rfl, rfl⟩
        refine ⟨Nat.le_trans m1 n1, Nat.le_trans m2 n2, fun hG stk hk c1 c2 K => K1 hG stk hk (Nat.le_trans n1 c1) (Nat.le_trans n2 c2) ?_⟩
        have := ww_callv (r := some v) hG hd hyb hyv hl hm hr (by simpa using hlen) hf hD hΛ (Nat.le_trans hk hk8) c1 c2 K
        simpa using this
  · cases he
theorem ei_callvn {y : MethodName} {bytes : ByteArray} {nL n idx D' Λ' ci : Nat} {ret : Option FieldType} {host : String} {f : jF} {as : jS → Option (List Value × jS)} (has : LI M C k pc p1 (n + 1) as) (hd : decode M.2.1 p1 = .ok (.invokevirtual idx, 3)) (hyb : YB y bytes nL ret n) (hyv : YV y ci) (hl : Jvm.Cond.methodLinkNest M.1 idx y host ∈ jnest) (hm : MOk C.1 C.2.1.2.1 y bytes nL ret D' Λ' f) (hD : D' + 1 ≤ M.2.2.2.1) (hΛ : 8 + (nL + 11) + Λ' ≤ M.2.2.2.2.1) (hk8 : k ≤ 8) : EI M C k pc (p1 + 3) (x_callv ci f as) := by
  intro L h v L' h' he
  simp only [x_callv] at he
  obtain ⟨vs, ⟨L1, h1⟩, e1, he⟩ := jb_eq he
  obtain ⟨hlen, m1, m2, K1⟩ := has _ _ _ _ _ e1
  split at he
  · rename_i hr
    obtain ⟨a, vs', rfl⟩ := j_recv_ref hr
    cases hf : f (.ref a :: vs') h1 with
    | none => rw [hf] at he; cases he
    | some q =>
      obtain ⟨r, h2⟩ := q
      rw [hf] at he
      cases r with
      | none => cases he
      | some r =>
        cases he
        obtain ⟨n1, n2⟩ := (hm _ _ _ _ hf).1 ⟨C, rfl, rfl⟩
        refine ⟨Nat.le_trans m1 n1, Nat.le_trans m2 n2, fun hG stk hk c1 c2 K => K1 hG stk hk (Nat.le_trans n1 c1) (Nat.le_trans n2 c2) ?_⟩
        have := ww_callvn (r := some v) hG hd hyb hyv hl hm hr (by simpa using hlen) hf hD hΛ (Nat.le_trans hk hk8) c1 c2 K
        simpa using this
  · cases he
theorem ei_calls {y : MethodName} {bytes : ByteArray} {nL n idx D' Λ' : Nat} {ret : Option FieldType} {f : jF} {as : jS → Option (List Value × jS)} (has : LI M C k pc p1 n as) (hd : decode M.2.1 p1 = .ok (.invokestatic idx, 3)) (hyb : YB y bytes nL ret n) (hys : YS y) (hl : Jvm.Cond.methodLink M.1 idx y ∈ jtbl) (hm : MOk C.1 C.2.1.2.1 y bytes nL ret D' Λ' f) (hD : D' + 1 ≤ M.2.2.2.1) (hΛ : 8 + (nL + 11) + Λ' ≤ M.2.2.2.2.1) (hk8 : k ≤ 8) : EI M C k pc (p1 + 3) (x_calls f as) := by
  intro L h v L' h' he
  simp only [x_calls] at he
  obtain ⟨vs, ⟨L1, h1⟩, e1, he⟩ := jb_eq he
  obtain ⟨hlen, m1, m2, K1⟩ := has _ _ _ _ _ e1
  cases hf : f vs h1 with
  | none => rw [hf] at he; cases he
  | some q =>
    obtain ⟨r, h2⟩ := q
    rw [hf] at he
    cases r with
    | none => cases he
    | some r =>
      cases he
      obtain ⟨n1, n2⟩ := (hm _ _ _ _ hf).1 ⟨C, rfl, rfl⟩
      exact ⟨Nat.le_trans m1 n1, Nat.le_trans m2 n2, fun hG stk hk c1 c2 K => K1 hG stk hk (Nat.le_trans n1 c1) (Nat.le_trans n2 c2) (ww_calls (r := some v) hG hd hyb hys hl hm hlen hf hD hΛ (Nat.le_trans hk hk8) c1 c2 K)⟩
theorem si_callv {y : MethodName} {bytes : ByteArray} {nL n idx D' Λ' ci : Nat} {ret : Option FieldType} {f : jF} {as : jS → Option (List Value × jS)} (has : LI M C 0 pc p1 (n + 1) as) (hd : decode M.2.1 p1 = .ok (.invokevirtual idx, 3)) (hyb : YB y bytes nL ret n) (hyv : YV y ci) (hl : Jvm.Cond.methodLink M.1 idx y ∈ jtbl) (hm : MOk C.1 C.2.1.2.1 y bytes nL ret D' Λ' f) (hD : D' + 1 ≤ M.2.2.2.1) (hΛ : 8 + (nL + 11) + Λ' ≤ M.2.2.2.2.1) : SI M C tg pc (p1 + 3) (s_callv ci f as) := by
  intro L h v L' h' he
  simp only [s_callv] at he
  obtain ⟨vs, ⟨L1, h1⟩, e1, he⟩ := jb_eq he
  obtain ⟨hlen, m1, m2, K1⟩ := has _ _ _ _ _ e1
  split at he
  · rename_i hr
    obtain ⟨a, vs', rfl⟩ := j_recv_ref hr
    cases hf : f (.ref a :: vs') h1 with
    | none => rw [hf] at he; cases he
    | some q =>
      obtain ⟨r, h2⟩ := q
      rw [hf] at he
      cases r with
      | some r => cases he
      | none =>
        cases he
        obtain ⟨n1, n2⟩ := (hm _ _ _ _ hf).1 ⟨C, rfl, rfl⟩
        refine ⟨Nat.le_trans m1 n1, Nat.le_trans m2 n2, fun hG c1 c2 K => K1 hG [] (Nat.le_refl _) (Nat.le_trans n1 c1) (Nat.le_trans n2 c2) ?_⟩
        have := ww_callv (r := none) (stk := []) hG hd hyb hyv hl hm hr (by simpa using hlen) hf hD hΛ (by simp) c1 c2 K
        simpa using this
  · cases he
theorem si_calls {y : MethodName} {bytes : ByteArray} {nL n idx D' Λ' : Nat} {ret : Option FieldType} {f : jF} {as : jS → Option (List Value × jS)} (has : LI M C 0 pc p1 n as) (hd : decode M.2.1 p1 = .ok (.invokestatic idx, 3)) (hyb : YB y bytes nL ret n) (hys : YS y) (hl : Jvm.Cond.methodLink M.1 idx y ∈ jtbl) (hm : MOk C.1 C.2.1.2.1 y bytes nL ret D' Λ' f) (hD : D' + 1 ≤ M.2.2.2.1) (hΛ : 8 + (nL + 11) + Λ' ≤ M.2.2.2.2.1) : SI M C tg pc (p1 + 3) (s_calls f as) := by
  intro L h v L' h' he
  simp only [s_calls] at he
  obtain ⟨vs, ⟨L1, h1⟩, e1, he⟩ := jb_eq he
  obtain ⟨hlen, m1, m2, K1⟩ := has _ _ _ _ _ e1
  cases hf : f vs h1 with
  | none => rw [hf] at he; cases he
  | some q =>
    obtain ⟨r, h2⟩ := q
    rw [hf] at he
    cases r with
    | some r => cases he
    | none =>
      cases he
      obtain ⟨n1, n2⟩ := (hm _ _ _ _ hf).1 ⟨C, rfl, rfl⟩
      exact ⟨Nat.le_trans m1 n1, Nat.le_trans m2 n2, fun hG c1 c2 K => K1 hG [] (Nat.le_refl _) (Nat.le_trans n1 c1) (Nat.le_trans n2 c2) (ww_calls (r := none) (stk := []) hG hd hyb hys hl hm hlen hf hD hΛ (by simp) c1 c2 K)⟩
/-- new, dup, the arguments, the constructor: its call is given by ww_calli or ww_callin -/
theorem ei_new {n i ci : Nat} {f : jF} {as : jS → Option (List Value × jS)} (hd1 : decode M.2.1 pc = .ok (.new i, 3)) (hd2 : decode M.2.1 (pc + 3) = .ok (.dup, 1)) (hci : ci < 13) (hw : Jvm.Cond.classLink M.1 i (kc ci).1 ∈ jtbl) (hw2 : Jvm.Cond.instantiable (kc ci).1 (kc ci).2.2 ∈ jtbl) (hw3 : Jvm.Cond.initialized (kc ci).1 ∈ jtbl) (has : LI M C (k + 4) (pc + 4) p1 n as)
    (hcall : ∀ (a : Nat) (vs : List Value) (h : jHp) (h' : jHp), vs.length = n → f (.ref a :: vs) h = some (none, h') → hN h ≤ hN h' ∧ hS h ≤ hS h' ∧ (GOK M C → ∀ (L stk : List Value), j_ws stk ≤ k + 2 → hN h' ≤ hN C.2.2.2.2.1 → hS h' ≤ hS C.2.2.2.2.1 → WW M C (p1 + 3) L stk h' → WW M C p1 L (vs.reverse ++ .ref a :: stk) h)) : EI M C k pc (p1 + 3) (x_new ci (kc ci).2.2 f as) := by
  intro L h v L' h' he
  simp only [x_new] at he
  obtain ⟨vs, ⟨L1, h1⟩, e1, he⟩ := jb_eq he
  obtain ⟨hlen, m1, m2, K1⟩ := has _ _ _ _ _ e1
  cases hf : f (.ref (hN h) :: vs) h1 with
  | none => simp only [hf] at he; cases he
  | some q =>
    obtain ⟨r, h2⟩ := q
    simp only [hf] at he
    cases r with
    | some r => cases he
    | none =>
      cases he
      obtain ⟨n1, n2, K2⟩ := hcall _ _ _ _ hlen hf
      have q1 : hN (hNew h (10 + ci) (kc ci).2.2) = hN h + 1 := rfl
      have q2 : hS (hNew h (10 + ci) (kc ci).2.2) = hS h + (kc ci).2.2 := rfl
      rw [q1] at m1
      rw [q2] at m2
      refine ⟨by omega, by omega, fun hG stk hk c1 c2 K => ?_⟩
      refine ww_new hG hd1 hci hw hw2 hw3 (by omega) (by omega) (ww_dup hG hd2 rfl (K1 hG (.ref (hN h) :: .ref (hN h) :: stk) ?_ (by omega) (by omega) (K2 hG L' (.ref (hN h) :: stk) ?_ c1 c2 K)))
      · exact Nat.le_trans (j_ws_cons _ _) (by have := j_ws_cons (.ref (hN h)) stk; omega)
      · exact Nat.le_trans (j_ws_cons _ _) (by omega)
theorem call_i {y : MethodName} {bytes : ByteArray} {nL n idx D' Λ' : Nat} {f : jF} (hd : decode M.2.1 p1 = .ok (.invokespecial idx, 3)) (hyb : YB y bytes nL none n) (hyi : YI y) (hl : Jvm.Cond.methodLink M.1 idx y ∈ jtbl) (hm : MOk C.1 C.2.1.2.1 y bytes nL none D' Λ' f) (hD : D' + 1 ≤ M.2.2.2.1) (hΛ : 8 + (nL + 11) + Λ' ≤ M.2.2.2.2.1) (hk8 : k ≤ 6) :
    ∀ (a : Nat) (vs : List Value) (h : jHp) (h' : jHp), vs.length = n → f (.ref a :: vs) h = some (none, h') → hN h ≤ hN h' ∧ hS h ≤ hS h' ∧ (GOK M C → ∀ (L stk : List Value), j_ws stk ≤ k + 2 → hN h' ≤ hN C.2.2.2.2.1 → hS h' ≤ hS C.2.2.2.2.1 → WW M C (p1 + 3) L stk h' → WW M C p1 L (vs.reverse ++ .ref a :: stk) h) := by
  intro a vs h h' hn hf
  obtain ⟨n1, n2⟩ := (hm _ _ _ _ hf).1 ⟨C, rfl, rfl⟩
  exact ⟨n1, n2, fun hG L stk hk c1 c2 K => ww_calli (r := none) hG hd hyb hyi hl hm hn hf hD hΛ (Nat.le_trans hk (by omega)) c1 c2 K⟩
theorem call_in {y : MethodName} {bytes : ByteArray} {nL n idx D' Λ' : Nat} {host : String} {f : jF} (hd : decode M.2.1 p1 = .ok (.invokespecial idx, 3)) (hyb : YB y bytes nL none n) (hyi : YI y) (hl : Jvm.Cond.methodLinkNest M.1 idx y host ∈ jnest) (hm : MOk C.1 C.2.1.2.1 y bytes nL none D' Λ' f) (hD : D' + 1 ≤ M.2.2.2.1) (hΛ : 8 + (nL + 11) + Λ' ≤ M.2.2.2.2.1) (hk8 : k ≤ 6) :
    ∀ (a : Nat) (vs : List Value) (h : jHp) (h' : jHp), vs.length = n → f (.ref a :: vs) h = some (none, h') → hN h ≤ hN h' ∧ hS h ≤ hS h' ∧ (GOK M C → ∀ (L stk : List Value), j_ws stk ≤ k + 2 → hN h' ≤ hN C.2.2.2.2.1 → hS h' ≤ hS C.2.2.2.2.1 → WW M C (p1 + 3) L stk h' → WW M C p1 L (vs.reverse ++ .ref a :: stk) h) := by
  intro a vs h h' hn hf
  obtain ⟨n1, n2⟩ := (hm _ _ _ _ hf).1 ⟨C, rfl, rfl⟩
  exact ⟨n1, n2, fun hG L stk hk c1 c2 K => ww_callin (r := none) hG hd hyb hyi hl hm hn hf hD hΛ (Nat.le_trans hk (by omega)) c1 c2 K⟩
theorem ei_newa {kind : Nat} {at0 : ArrayType} {a : jE} (ha : EI M C k pc p1 a) (hd : decode M.2.1 p1 = .ok (.newarray at0, 2)) (hk0 : kind ≠ 0) (hk6 : kind < 6) (hat : newarray.typeOf at0 = j_kindty kind) : EI M C k pc (p1 + 2) (x_newa kind a) := by
  intro L h v L' h' he
  simp only [x_newa] at he
  obtain ⟨u, ⟨L1, h1⟩, e1, he⟩ := jb_eq he
  obtain ⟨m1, m2, K1⟩ := ha _ _ _ _ _ e1
  cases u <;> simp only [reduceCtorEq] at he
  rename_i n
  split at he
  · rename_i hn
    cases he
    have q1 : hN (hNew h1 kind n.toNatClampNeg) = hN h1 + 1 := rfl
    have q2 : hS (hNew h1 kind n.toNatClampNeg) = hS h1 + n.toNatClampNeg := rfl
    refine ⟨by omega, by omega, fun hG stk hk c1 c2 K => K1 hG stk hk (by omega) (by omega) (ww_newa hG hd hk0 hk6 hat hn (by omega) (by omega) K)⟩
  · cases he
theorem ei_newd {i : Nat} {a : jE} (ha : EI M C k pc p1 a) (hd : decode M.2.1 p1 = .ok (.anewarray i, 3)) (hw : Jvm.Cond.classLink M.1 i "SealedBonds$Desk" ∈ jtbl) : EI M C k pc (p1 + 3) (x_newa 6 a) := by
  intro L h v L' h' he
  simp only [x_newa] at he
  obtain ⟨u, ⟨L1, h1⟩, e1, he⟩ := jb_eq he
  obtain ⟨m1, m2, K1⟩ := ha _ _ _ _ _ e1
  cases u <;> simp only [reduceCtorEq] at he
  rename_i n
  split at he
  · rename_i hn
    cases he
    have q1 : hN (hNew h1 6 n.toNatClampNeg) = hN h1 + 1 := rfl
    have q2 : hS (hNew h1 6 n.toNatClampNeg) = hS h1 + n.toNatClampNeg := rfl
    refine ⟨by omega, by omega, fun hG stk hk c1 c2 K => K1 hG stk hk (by omega) (by omega) (ww_newd hG hd hw hn (by omega) (by omega) K)⟩
  · cases he
-- statements
theorem si_skip : SI M C tg pc pc s_skip := by
  intro L h v L' h' he
  cases he
  exact ⟨Nat.le_refl _, Nat.le_refl _, fun _ _ _ K => K⟩
theorem si_seq {a b : jSt} (ha : SI M C tg pc p1 a) (hb : SI M C tg p1 p2 b) : SI M C tg pc p2 (s_seq a b) := by
  intro L h v L' h' he
  simp only [s_seq] at he
  obtain ⟨o, ⟨L1, h1⟩, e1, he⟩ := jb_eq he
  obtain ⟨m1, m2, K1⟩ := ha _ _ _ _ _ e1
  match o, he, K1 with
  | .inl 0, he, K1 =>
    obtain ⟨n1, n2, K2⟩ := hb _ _ _ _ _ he
    exact ⟨Nat.le_trans m1 n1, Nat.le_trans m2 n2, fun hG c1 c2 K => K1 hG (Nat.le_trans n1 c1) (Nat.le_trans n2 c2) (K2 hG c1 c2 K)⟩
  | .inl (q + 1), he, K1 => cases he; exact ⟨m1, m2, K1⟩
  | .inr q, he, K1 => cases he; exact ⟨m1, m2, K1⟩
theorem si_goto {a : jSt} {off : Int} (ha : SI M C tg pc p1 a) (hd : decode M.2.1 p1 = .ok (.goto off, 3)) (ht : (p1 : Int) + off = (p2 : Int)) : SI M C tg pc p2 a := by
  intro L h v L' h' he
  obtain ⟨m1, m2, K1⟩ := ha _ _ _ _ _ he
  refine ⟨m1, m2, fun hG c1 c2 K => K1 hG c1 c2 ?_⟩
  match v, K with
  | .inl 0, K => exact ww_goto hG hd ht K
  | .inl (q + 1), K => exact K
  | .inr q, K => exact K
theorem si_if {c : jB} {a b : jSt} (hc : BI M C 0 pc tT tF c) (ha : SI M C tg tT p1 a) (hb : SI M C tg tF p1 b) : SI M C tg pc p1 (s_if c a b) := by
  intro L h v L' h' he
  simp only [s_if] at he
  obtain ⟨t, ⟨L1, h1'⟩, e1, he⟩ := jb_eq he
  obtain ⟨m1, m2, K1⟩ := hc _ _ _ _ _ e1
  cases t with
  | true =>
    obtain ⟨n1, n2, K2⟩ := ha _ _ _ _ _ he
    exact ⟨Nat.le_trans m1 n1, Nat.le_trans m2 n2, fun hG c1 c2 K => K1 hG [] (Nat.le_refl _) (Nat.le_trans n1 c1) (Nat.le_trans n2 c2) (K2 hG c1 c2 K)⟩
  | false =>
    obtain ⟨n1, n2, K2⟩ := hb _ _ _ _ _ he
    exact ⟨Nat.le_trans m1 n1, Nat.le_trans m2 n2, fun hG c1 c2 K => K1 hG [] (Nat.le_refl _) (Nat.le_trans n1 c1) (Nat.le_trans n2 c2) (K2 hG c1 c2 K)⟩
/-- the instruction at p1 stores the value on top into local i, if it is of its type -/
def OPS (M : jMs) (C : jC) (p1 p2 i : Nat) (con : Value → Prop) : Prop := GOK M C → ∀ (v : Value), con v → ∀ (L stk : List Value) (h : jHp), WW M C p2 (j_lset L i v) stk h → WW M C p1 L (v :: stk) h
def j_isi (v : Value) : Prop := ∃ x, v = .int x
def j_isl (v : Value) : Prop := ∃ x, v = .long x
def j_isa (v : Value) : Prop := ∃ x, v = .ref x
theorem ops_i {i : Nat} (hd : decode M.2.1 p1 = .ok (.istore i, 2)) (hn : i < M.2.2.1) : OPS M C p1 (p1 + 2) i j_isi := by
  intro hG v hv L stk h K; obtain ⟨x, rfl⟩ := hv; exact ww_istore hG hd hn K
theorem ops_in {i : Fin 4} (hd : decode M.2.1 p1 = .ok (.istore_n i, 1)) (hn : i.val < M.2.2.1) : OPS M C p1 (p1 + 1) i.val j_isi := by
  intro hG v hv L stk h K; obtain ⟨x, rfl⟩ := hv; exact ww_istore_n hG hd hn K
theorem ops_l {i : Nat} (hd : decode M.2.1 p1 = .ok (.lstore i, 2)) (hn : i + 1 < M.2.2.1) : OPS M C p1 (p1 + 2) i j_isl := by
  intro hG v hv L stk h K; obtain ⟨x, rfl⟩ := hv; exact ww_lstore hG hd hn K
theorem ops_ln {i : Fin 4} (hd : decode M.2.1 p1 = .ok (.lstore_n i, 1)) (hn : i.val + 1 < M.2.2.1) : OPS M C p1 (p1 + 1) i.val j_isl := by
  intro hG v hv L stk h K; obtain ⟨x, rfl⟩ := hv; exact ww_lstore_n hG hd hn K
theorem ops_a {i : Nat} (hd : decode M.2.1 p1 = .ok (.astore i, 2)) (hn : i < M.2.2.1) : OPS M C p1 (p1 + 2) i j_isa := by
  intro hG v hv L stk h K; obtain ⟨x, rfl⟩ := hv; exact ww_astore hG hd hn K
theorem ops_an {i : Fin 4} (hd : decode M.2.1 p1 = .ok (.astore_n i, 1)) (hn : i.val < M.2.2.1) : OPS M C p1 (p1 + 1) i.val j_isa := by
  intro hG v hv L stk h K; obtain ⟨x, rfl⟩ := hv; exact ww_astore_n hG hd hn K
theorem si_set {i t : Nat} {con : Value → Prop} {e : jE} (he0 : EI M C 0 pc p1 e) (ho : OPS M C p1 p2 i con) (hc : ∀ v, j_ty t v = true → con v) : SI M C tg pc p2 (s_set t i e) := by
  intro L h v L' h' he
  simp only [s_set] at he
  obtain ⟨u, ⟨L1, h1⟩, e1, he⟩ := jb_eq he
  obtain ⟨m1, m2, K1⟩ := he0 _ _ _ _ _ e1
  split at he
  · rename_i hu
    cases he
    exact ⟨m1, m2, fun hG c1 c2 K => K1 hG [] (Nat.le_refl _) c1 c2 (ho hG u (hc u hu) _ _ _ K)⟩
  · cases he
theorem jty_i : ∀ v, j_ty 0 v = true → j_isi v := fun v h => by cases v <;> simp [j_ty] at h; exact ⟨_, rfl⟩
theorem jty_a : ∀ v, j_ty 1 v = true → j_isa v := fun v h => by cases v <;> simp [j_ty] at h; exact ⟨_, rfl⟩
theorem jty_l : ∀ v, j_ty 2 v = true → j_isl v := fun v h => by cases v <;> simp [j_ty] at h; exact ⟨_, rfl⟩
theorem si_inc {i : Nat} {n : Int} {x : Int32} (hd : decode M.2.1 pc = .ok (.iinc i n, 3)) (hx : Int32.ofInt n = x) (hn : i < M.2.2.1) : SI M C tg pc (pc + 3) (s_inc i x) := by
  subst hx
  intro L h v L' h' he
  unfold s_inc at he
  split at he
  · rename_i y hy
    cases he
    exact ⟨Nat.le_refl _, Nat.le_refl _, fun hG c1 c2 K => ww_iinc hG hd hy rfl hn K⟩
  · cases he
theorem ei_linc {i : Nat} {n : Int} {x : Int32} (hd0 : EI M C k pc p1 (x_iloc i)) (hd : decode M.2.1 p1 = .ok (.iinc i n, 3)) (hx : Int32.ofInt n = x) (hn : i < M.2.2.1) : EI M C k pc (p1 + 3) (x_linc i x) := by
  subst hx
  intro L h v L' h' he
  unfold x_linc at he
  split at he
  · rename_i y hy
    cases he
    have e1 : x_iloc i (L, h) = some (.int y, (L, h)) := by
      unfold x_iloc
      rw [hy]
    obtain ⟨m1, m2, K1⟩ := hd0 _ _ _ _ _ e1
    exact ⟨m1, m2, fun hG stk hk c1 c2 K => K1 hG stk hk c1 c2 (ww_iinc hG hd hy rfl hn K)⟩
  · cases he
theorem si_super {i : Nat} (hd0 : EI M C 0 pc p1 (x_aloc 0)) (hd : decode M.2.1 p1 = .ok (.invokespecial i, 3)) (hw : Jvm.Cond.methodLink M.1 i objectInit ∈ jtbl) (hD : 1 ≤ M.2.2.2.1) (hL : 20 ≤ M.2.2.2.2.1) : SI M C tg pc (p1 + 3) s_super := by
  intro L h v L' h' he
  unfold s_super at he
  split at he
  · rename_i a ha
    cases he
    have e1 : x_aloc 0 (L, h) = some (.ref a, (L, h)) := by
      unfold x_aloc
      rw [ha]
    obtain ⟨m1, m2, K1⟩ := hd0 _ _ _ _ _ e1
    exact ⟨m1, m2, fun hG c1 c2 K => K1 hG [] (Nat.le_refl _) c1 c2 (ww_objinit hG hd hw hD hL (by simp) K)⟩
  · cases he
theorem j_fput_ok {h h' : jHp} {ci t z j : Nat} {u v : Value} (he : j_fput h ci t z j u v = some h') (ht : j_isref (kty ci j) = decide (t ≠ 0)) (hz : z = 0 → kty ci j ≠ .boolean) (hk : kty ci j = .int ∨ kty ci j = .boolean ∨ j_isref (kty ci j) = true) :
    ∃ a, u = .ref a ∧ (hT h a).1 = 10 + ci ∧ hN h' = hN h ∧ hS h' = hS h ∧ j_fitv (kty ci j) v = true ∧ ∀ (X : jX) (H H1 : Heap), HRel X h H → t_OB (X.1 + a) (X.2.2.1.1 ci) (kc ci).2.2 (X.2.2.1.2 ci) H1 (updV (jfv X h ci a) j (mv X.1 v)) → H1.size = H.size → (∀ q, q ≠ X.1 + a → H1[q]? = H[q]?) → HRel X h' H1 := by
  cases u <;> cases v <;> simp only [j_fput, reduceCtorEq] at he
  · rename_i a x
    split at he
    · rename_i hc
      cases he
      have ht' : j_isref (kty ci j) = false := by rw [ht]; simp [hc.2.1]
      refine ⟨a, rfl, hc.1, rfl, rfl, ?_, fun X H H1 r q1 q2 q3 => r.putI hc.1 ht' q1 q2 q3⟩
      rcases hk with q | q | q
      · rw [q]; rfl
      · rcases hc.2.2 with q2 | q2 | q2
        · exact absurd q (hz q2)
        · subst q2; rw [q]; rfl
        · subst q2; rw [q]; rfl
      · rw [q] at ht'; cases ht'
    · cases he
  · rename_i a x
    split at he
    · rename_i hc
      cases he
      have ht' : j_isref (kty ci j) = true := by rw [ht]; simp [hc.2.1]
      exact ⟨a, rfl, hc.1, rfl, rfl, ht', fun X H H1 r q1 q2 q3 => r.putR hc.1 ht' hc.2.2 q1 q2 q3⟩
    · cases he
/-- the instruction at p1 puts the value on top into a field -/
def OPF (M : jMs) (C : jC) (p1 p2 ci t z j : Nat) : Prop := ∀ (u v : Value) (h h' : jHp), j_fput h ci t z j u v = some h' → hN h' = hN h ∧ hS h' = hS h ∧ (GOK M C → ∀ (L stk : List Value), WW M C p2 L stk h' → WW M C p1 L (v :: u :: stk) h)
theorem opf {i ci t z j : Nat} (hd : decode M.2.1 p1 = .ok (.putfield i, 3)) (hw : Jvm.Cond.fieldLink M.1 i ((kc ci).2.1 j).1 ((kc ci).2.1 j).2.1 ((kc ci).2.1 j).2.2.1 ∈ jtbl) (hj : j < (kc ci).2.2) (hci : ci < 13) (hfin : ((kc ci).2.1 j).2.2.2 = false ∨ (M.2.2.2.2.2.2 = true ∧ ((kc ci).2.1 j).1 = M.1)) (ht : j_isref (kty ci j) = decide (t ≠ 0)) (hz : z = 0 → kty ci j ≠ .boolean) : OPF M C p1 (p1 + 3) ci t z j := by
  intro u v h h' he
  obtain ⟨a, rfl, q1, q2, q3, q4, q5⟩ := j_fput_ok he ht hz (k_kind ci hci j hj)
  exact ⟨q2, q3, fun hG L stk K => ww_putobj hG hd hw hj hfin q4 q1 h' q2 q3 q5 K⟩
theorem si_fput {ci t z j : Nat} {o e : jE} (ho : EI M C 0 pc p1 o) (he0 : EI M C 2 p1 p2 e) (hp : OPF M C p2 p3 ci t z j) : SI M C tg pc p3 (s_fput ci t z j o e) := by
  intro L h v L' h' he
  simp only [s_fput] at he
  obtain ⟨u, ⟨L1, h1⟩, e1, he⟩ := jb_eq he
  obtain ⟨w, ⟨L2, h2⟩, e2, he⟩ := jb_eq he
  obtain ⟨m1, m2, K1⟩ := ho _ _ _ _ _ e1
  obtain ⟨n1, n2, K2⟩ := he0 _ _ _ _ _ e2
  cases hf : j_fput h2 ci t z j u w with
  | none => simp only [hf] at he; cases he
  | some hh =>
    simp only [hf] at he
    cases he
    obtain ⟨g1, g2, K3⟩ := hp _ _ _ _ hf
    exact ⟨by omega, by omega, fun hG c1 c2 K => K1 hG [] (Nat.le_refl _) (by omega) (by omega) (K2 hG [u] (j_ws_cons u []) (by omega) (by omega) (K3 hG _ _ K))⟩
theorem si_fop {i ci j : Nat} {f : Value → Value → Option Value} {o e : jE} (ho : EI M C 0 pc p1 o) (hd1 : decode M.2.1 p1 = .ok (.dup, 1)) (hd2 : decode M.2.1 (p1 + 1) = .ok (.getfield i, 3)) (hw : Jvm.Cond.fieldLink M.1 i ((kc ci).2.1 j).1 ((kc ci).2.1 j).2.1 ((kc ci).2.1 j).2.2.1 ∈ jtbl) (ht : j_isref (kty ci j) = decide ((0 : Nat) ≠ 0)) (hj : j < (kc ci).2.2) (he0 : EI M C 4 (p1 + 4) p2 e) (hop : OP2 M C p2 p3 f) (hp : OPF M C p3 p4 ci 0 0 j) : SI M C tg pc p4 (s_fop ci j f o e) := by
  intro L h v L' h' he
  simp only [s_fop] at he
  obtain ⟨u, ⟨L1, h1⟩, e1, he⟩ := jb_eq he
  obtain ⟨m1, m2, K1⟩ := ho _ _ _ _ _ e1
  cases hg : j_fget h1 ci 0 j u with
  | none => simp only [hg] at he; cases he
  | some w =>
    simp only [hg] at he
    obtain ⟨a, rfl⟩ := j_fget_ref hg
    obtain ⟨z, ⟨L2, h2⟩, e2, he⟩ := jb_eq he
    obtain ⟨n1, n2, K2⟩ := he0 _ _ _ _ _ e2
    cases hf : f w z with
    | none => simp only [hf] at he; cases he
    | some y =>
      simp only [hf] at he
      cases y <;> simp only [reduceCtorEq] at he
      rename_i y
      cases hq : j_fput h2 ci 0 0 j (.ref a) (.int y) with
      | none => simp only [hq] at he; cases he
      | some hh =>
        simp only [hq] at he
        cases he
        obtain ⟨g1, g2, K3⟩ := hp _ _ _ _ hq
        refine ⟨by omega, by omega, fun hG c1 c2 K => K1 hG [] (Nat.le_refl _) (by omega) (by omega) (ww_dup hG hd1 rfl (ww_get (own := "") hG hd2 hw ht hj hg (K2 hG [w, .ref a] ?_ (by omega) (by omega) (hop hG _ _ _ hf _ _ _ (K3 hG _ _ K)))))⟩
        exact Nat.le_trans (j_ws_cons _ _) (by have := j_ws_cons (.ref a) []; simp [j_ws] at this ⊢; omega)
theorem ei_finc {i ci j : Nat} {o : jE} (ho : EI M C k pc p1 o) (hd1 : decode M.2.1 p1 = .ok (.dup, 1)) (hd2 : decode M.2.1 (p1 + 1) = .ok (.getfield i, 3)) (hd3 : decode M.2.1 (p1 + 4) = .ok (.dup_x1, 1)) (hd4 : decode M.2.1 (p1 + 5) = .ok (.iconst 1, 1)) (hd5 : decode M.2.1 (p1 + 6) = .ok (.iadd, 1)) (hp : OPF M C (p1 + 7) (p1 + 10) ci 0 0 j)
    (hw : Jvm.Cond.fieldLink M.1 i ((kc ci).2.1 j).1 ((kc ci).2.1 j).2.1 ((kc ci).2.1 j).2.2.1 ∈ jtbl) (ht : j_isref (kty ci j) = decide ((0 : Nat) ≠ 0)) (hj : j < (kc ci).2.2) : EI M C k pc (p1 + 10) (x_finc ci j o) := by
  intro L h v L' h' he
  simp only [x_finc] at he
  obtain ⟨u, ⟨L1, h1⟩, e1, he⟩ := jb_eq he
  obtain ⟨m1, m2, K1⟩ := ho _ _ _ _ _ e1
  cases u <;> simp only [reduceCtorEq] at he
  rename_i a
  split at he
  · rename_i htag
    cases he
    have hg : j_fget h1 ci 0 j (.ref a) = some (.int (hI h1 a j)) := by simp [j_fget, htag]
    have hq : j_fput h1 ci 0 0 j (.ref a) (.int (hI h1 a j + 1)) = some (hSetI h1 a j (hI h1 a j + 1)) := by simp [j_fput, htag]
    obtain ⟨g1, g2, K3⟩ := hp _ _ _ _ hq
    exact ⟨m1, m2, fun hG stk hk c1 c2 K => K1 hG stk hk c1 c2 (ww_dup hG hd1 rfl (ww_get (own := "") hG hd2 hw ht hj hg (ww_dup_x1 hG hd3 rfl rfl (ww_iconst hG hd4 rfl (ww_iadd hG hd5 (K3 hG _ _ K))))))⟩
  · cases he
/-- the instruction at p1 stores the value on top into a row of this kind -/
def OPT (M : jMs) (C : jC) (p1 p2 kind : Nat) : Prop := ∀ (u w v : Value) (h h' : jHp), j_aput h kind u w v = some h' → hN h' = hN h ∧ hS h' = hS h ∧ (GOK M C → ∀ (L stk : List Value), WW M C p2 L stk h' → WW M C p1 L (v :: w :: u :: stk) h)
theorem j_aput_ok {h h' : jHp} {kind : Nat} {u w v : Value} (he : j_aput h kind u w v = some h') : ∃ a i, u = .ref a ∧ w = .int i ∧ hN h' = hN h ∧ hS h' = hS h ∧ ((∃ x, v = .int x ∧ kind < 5) ∨ (∃ x, v = .long x ∧ kind = 5) ∨ ∃ x, v = .ref x ∧ kind = 6) := by
  cases u <;> cases w <;> cases v <;> simp only [j_aput, reduceCtorEq] at he
  all_goals
    split at he
    · rename_i hc
      cases he
      refine ⟨_, _, rfl, rfl, rfl, rfl, ?_⟩
      simp [hc]
    · cases he
theorem opt_i (hd : decode M.2.1 p1 = .ok (.iastore, 1)) : OPT M C p1 (p1 + 1) 1 := by
  intro u w v h h' he
  obtain ⟨a, i, rfl, rfl, q1, q2, q3⟩ := j_aput_ok he
  refine ⟨q1, q2, fun hG L stk K => ?_⟩
  rcases q3 with ⟨x, rfl, -⟩ | ⟨x, -, q⟩ | ⟨x, -, q⟩
  · exact ww_iast hG hd he K
  · cases q
  · cases q
theorem opt_b (hd : decode M.2.1 p1 = .ok (.bastore, 1)) : OPT M C p1 (p1 + 1) 2 := by
  intro u w v h h' he
  obtain ⟨a, i, rfl, rfl, q1, q2, q3⟩ := j_aput_ok he
  refine ⟨q1, q2, fun hG L stk K => ?_⟩
  rcases q3 with ⟨x, rfl, -⟩ | ⟨x, -, q⟩ | ⟨x, -, q⟩
  · exact ww_bast hG hd he K
  · cases q
  · cases q
theorem opt_z (hd : decode M.2.1 p1 = .ok (.bastore, 1)) : OPT M C p1 (p1 + 1) 3 := by
  intro u w v h h' he
  obtain ⟨a, i, rfl, rfl, q1, q2, q3⟩ := j_aput_ok he
  refine ⟨q1, q2, fun hG L stk K => ?_⟩
  rcases q3 with ⟨x, rfl, -⟩ | ⟨x, -, q⟩ | ⟨x, -, q⟩
  · exact ww_zast hG hd he K
  · cases q
  · cases q
theorem opt_c (hd : decode M.2.1 p1 = .ok (.castore, 1)) : OPT M C p1 (p1 + 1) 4 := by
  intro u w v h h' he
  obtain ⟨a, i, rfl, rfl, q1, q2, q3⟩ := j_aput_ok he
  refine ⟨q1, q2, fun hG L stk K => ?_⟩
  rcases q3 with ⟨x, rfl, -⟩ | ⟨x, -, q⟩ | ⟨x, -, q⟩
  · exact ww_cast hG hd he K
  · cases q
  · cases q
theorem opt_l (hd : decode M.2.1 p1 = .ok (.lastore, 1)) : OPT M C p1 (p1 + 1) 5 := by
  intro u w v h h' he
  obtain ⟨a, i, rfl, rfl, q1, q2, q3⟩ := j_aput_ok he
  refine ⟨q1, q2, fun hG L stk K => ?_⟩
  rcases q3 with ⟨x, -, q⟩ | ⟨x, rfl, -⟩ | ⟨x, -, q⟩
  · omega
  · exact ww_last hG hd he K
  · cases q
theorem opt_a (hd : decode M.2.1 p1 = .ok (.aastore, 1)) : OPT M C p1 (p1 + 1) 6 := by
  intro u w v h h' he
  obtain ⟨a, i, rfl, rfl, q1, q2, q3⟩ := j_aput_ok he
  refine ⟨q1, q2, fun hG L stk K => ?_⟩
  rcases q3 with ⟨x, -, q⟩ | ⟨x, -, q⟩ | ⟨x, rfl, -⟩
  · omega
  · cases q
  · exact ww_aast hG hd he K
theorem si_aput {kind : Nat} {a i e : jE} (ha : EI M C 0 pc p1 a) (hi : EI M C 2 p1 p2 i) (he0 : EI M C 4 p2 p3 e) (ht : OPT M C p3 p4 kind) : SI M C tg pc p4 (s_aput kind a i e) := by
  intro L h v L' h' he
  simp only [s_aput] at he
  obtain ⟨u, ⟨L1, h1⟩, e1, he⟩ := jb_eq he
  obtain ⟨w, ⟨L2, h2⟩, e2, he⟩ := jb_eq he
  obtain ⟨z, ⟨L3, h3⟩, e3, he⟩ := jb_eq he
  obtain ⟨m1, m2, K1⟩ := ha _ _ _ _ _ e1
  obtain ⟨n1, n2, K2⟩ := hi _ _ _ _ _ e2
  obtain ⟨l1, l2, K3⟩ := he0 _ _ _ _ _ e3
  cases hf : j_aput h3 kind u w z with
  | none => simp only [hf] at he; cases he
  | some hh =>
    simp only [hf] at he
    cases he
    obtain ⟨g1, g2, K4⟩ := ht _ _ _ _ _ hf
    refine ⟨by omega, by omega, fun hG c1 c2 K => K1 hG [] (Nat.le_refl _) (by omega) (by omega) (K2 hG [u] (j_ws_cons u []) (by omega) (by omega) (K3 hG [w, u] ?_ (by omega) (by omega) (K4 hG _ _ K)))⟩
    exact Nat.le_trans (j_ws_cons _ _) (by have := j_ws_cons u []; simp [j_ws] at this ⊢; omega)
theorem si_aop {kind p6 : Nat} {f : Value → Value → Option Value} {a i e : jE} (ha : EI M C 0 pc p1 a) (hi : EI M C 2 p1 p2 i) (hd : decode M.2.1 p2 = .ok (.dup2, 1)) (hl : OPA M C (p2 + 1) p3 kind) (he0 : EI M C 6 p3 p4 e) (hop : OP2 M C p4 p5 f) (ht : OPT M C p5 p6 kind) : SI M C tg pc p6 (s_aop kind f a i e) := by
  intro L h v L' h' he
  simp only [s_aop] at he
  obtain ⟨u, ⟨L1, h1⟩, e1, he⟩ := jb_eq he
  obtain ⟨w, ⟨L2, h2⟩, e2, he⟩ := jb_eq he
  obtain ⟨m1, m2, K1⟩ := ha _ _ _ _ _ e1
  obtain ⟨n1, n2, K2⟩ := hi _ _ _ _ _ e2
  cases hg : j_aget h2 kind u w with
  | none => simp only [hg] at he; cases he
  | some y =>
    simp only [hg] at he
    obtain ⟨ua, wi, rfl, rfl⟩ := j_aget_ref hg
    obtain ⟨z, ⟨L3, h3⟩, e3, he⟩ := jb_eq he
    obtain ⟨l1, l2, K3⟩ := he0 _ _ _ _ _ e3
    cases hf : f y z with
    | none => simp only [hf] at he; cases he
    | some x =>
      simp only [hf] at he
      cases hq : j_aput h3 kind (.ref ua) (.int wi) x with
      | none => simp only [hq] at he; cases he
      | some hh =>
        simp only [hq] at he
        cases he
        obtain ⟨g1, g2, K4⟩ := ht _ _ _ _ _ hq
        refine ⟨by omega, by omega, fun hG c1 c2 K => K1 hG [] (Nat.le_refl _) (by omega) (by omega) (K2 hG [.ref ua] (j_ws_cons _ []) (by omega) (by omega) (ww_dup2 hG hd rfl rfl (hl hG _ _ _ _ hg _ _ (K3 hG [y, .int wi, .ref ua] ?_ (by omega) (by omega) (hop hG _ _ _ hf _ _ _ (K4 hG _ _ K))))))⟩
        exact Nat.le_trans (j_ws_cons _ _) (by simp [j_ws, Value.category])
theorem si_pop {e : jE} (he0 : EI M C 0 pc p1 e) (hd : decode M.2.1 p1 = .ok (.pop, 1)) : SI M C tg pc (p1 + 1) (s_pop e) := by
  intro L h v L' h' he
  simp only [s_pop] at he
  obtain ⟨u, ⟨L1, h1⟩, e1, he⟩ := jb_eq he
  obtain ⟨m1, m2, K1⟩ := he0 _ _ _ _ _ e1
  split at he
  · rename_i hc
    cases he
    exact ⟨m1, m2, fun hG c1 c2 K => K1 hG [] (Nat.le_refl _) c1 c2 (ww_pop hG hd hc K)⟩
  · cases he
theorem si_ret {e : jE} (he0 : EI M C 0 pc p1 e) (hd : decode M.2.1 p1 = .ok (M.2.2.2.2.2.1, 1)) : SI M C tg pc p2 (s_ret e) := by
  intro L h v L' h' he
  simp only [s_ret] at he
  obtain ⟨u, ⟨L1, h1⟩, e1, he⟩ := jb_eq he
  obtain ⟨m1, m2, K1⟩ := he0 _ _ _ _ _ e1
  cases he
  refine ⟨m1, m2, fun hG c1 c2 K => K1 hG [] (Nat.le_refl _) c1 c2 (ww_ret hG hd ?_ K.2)⟩
  rw [← K.1]
  rfl
theorem si_retv (hd : decode M.2.1 pc = .ok (M.2.2.2.2.2.1, 1)) : SI M C tg pc p2 s_retv := by
  intro L h v L' h' he
  cases he
  refine ⟨Nat.le_refl _, Nat.le_refl _, fun hG c1 c2 K => ww_ret hG hd ?_ K.2⟩
  rw [← K.1]
  rfl
theorem si_go {l : Nat} {off : Int} (hd : decode M.2.1 pc = .ok (.goto off, 3)) (ht : (pc : Int) + off = (tg l : Int)) (hl : l ≠ 0) : SI M C tg pc p2 (s_go l) := by
  intro L h v L' h' he
  cases he
  refine ⟨Nat.le_refl _, Nat.le_refl _, fun hG c1 c2 K => ?_⟩
  match l, hl, K, ht with
  | q + 1, _, K, ht => exact ww_goto hG hd ht K
theorem si_loop {lb lc : Nat} {c : jB} {b u : jSt} (hc : BI M C 0 pc tT tF c) (hb : SI M C tg tT p1 b) (hu : SI M C tg p1 pc u) (hlb : lb ≠ 0 ∧ tg lb = tF) (hlc : lc ≠ 0 ∧ tg lc = p1) : SI M C tg pc tF (s_loop lb lc c b u) := by
  intro L h o L' h' he
  have hx := s_loop_ex he
  clear he
  obtain ⟨n, he⟩ := hx
  revert L h o L' h'
  induction n with
  | zero => intro L h o L' h' he; simp [j_loopN] at he
  | succ n ih =>
    intro L h o L' h' he
    simp only [j_loopN] at he
    obtain ⟨t, ⟨L1, h1⟩, e1, he⟩ := jb_eq he
    obtain ⟨m1, m2, K1⟩ := hc _ _ _ _ _ e1
    cases t with
    | false =>
      cases he
      exact ⟨m1, m2, fun hG c1 c2 K => K1 hG [] (Nat.le_refl _) c1 c2 K⟩
    | true =>
      simp only [if_true] at he K1
      obtain ⟨ob, ⟨L2, h2⟩, e2, he⟩ := jb_eq he
      obtain ⟨n1, n2, K2⟩ := hb _ _ _ _ _ e2
      match ob, he, K2 with
      | .inr v, he, K2 =>
        cases he
        exact ⟨by omega, by omega, fun hG c1 c2 K => K1 hG [] (Nat.le_refl _) (by omega) (by omega) (K2 hG c1 c2 K)⟩
      | .inl q, he, K2 =>
        simp only at he
        by_cases hq : q = 0 ∨ q = lc
        · rw [if_pos hq] at he
          obtain ⟨o3, ⟨L3, h3⟩, e3, he⟩ := jb_eq he
          obtain ⟨l1, l2, K3⟩ := hu _ _ _ _ _ e3
          match o3, he, K3 with
          | .inl 0, he, K3 =>
            obtain ⟨r1, r2, K4⟩ := ih _ _ _ _ _ he
            refine ⟨by omega, by omega, fun hG c1 c2 K => K1 hG [] (Nat.le_refl _) (by omega) (by omega) (K2 hG (by omega) (by omega) ?_)⟩
            have K5 : WW M C p1 L2 [] h2 := K3 hG (by omega) (by omega) (K4 hG c1 c2 K)
            rcases hq with rfl | rfl
            · exact K5
            · match q, hlc, K5 with
              | q + 1, hlc, K5 => show WW M C (tg (q + 1)) L2 [] h2; rw [hlc.2]; exact K5
        · rw [if_neg hq] at he
          by_cases hq2 : q = lb
          · rw [if_pos hq2] at he
            cases he
            refine ⟨by omega, by omega, fun hG c1 c2 K => K1 hG [] (Nat.le_refl _) (by omega) (by omega) (K2 hG c1 c2 ?_)⟩
            subst hq2
            match q, hlb, K with
            | q + 1, hlb, K => show WW M C (tg (q + 1)) L' [] h'; rw [hlb.2]; exact K
          · rw [if_neg hq2] at he
            cases he
            refine ⟨by omega, by omega, fun hG c1 c2 K => K1 hG [] (Nat.le_refl _) (by omega) (by omega) (K2 hG c1 c2 ?_)⟩
            match q, hq, K with
            | 0, hq, K => exact absurd (Or.inl rfl) hq
            | q + 1, hq, K => exact K
theorem si_do {lb lc : Nat} {c : jB} {b : jSt} (hb : SI M C tg pc p1 b) (hc : BI M C 0 p1 pc tF c) (hlb : lb ≠ 0 ∧ tg lb = tF) (hlc : lc ≠ 0 ∧ tg lc = p1) : SI M C tg pc tF (s_do lb lc b c) := by
  intro L h o L' h' he
  have hx := s_do_ex he
  clear he
  obtain ⟨n, he⟩ := hx
  revert L h o L' h'
  induction n with
  | zero => intro L h o L' h' he; simp [j_doN] at he
  | succ n ih =>
    intro L h o L' h' he
    simp only [j_doN] at he
    obtain ⟨ob, ⟨L2, h2⟩, e2, he⟩ := jb_eq he
    obtain ⟨n1, n2, K2⟩ := hb _ _ _ _ _ e2
    match ob, he, K2 with
    | .inr v, he, K2 =>
      cases he
      exact ⟨n1, n2, K2⟩
    | .inl q, he, K2 =>
      simp only at he
      by_cases hq : q = 0 ∨ q = lc
      · rw [if_pos hq] at he
        obtain ⟨t, ⟨L3, h3⟩, e3, he⟩ := jb_eq he
        obtain ⟨l1, l2, K3⟩ := hc _ _ _ _ _ e3
        have key : hN h ≤ hN h' ∧ hS h ≤ hS h' ∧ (GOK M C → hN h' ≤ hN C.2.2.2.2.1 → hS h' ≤ hS C.2.2.2.2.1 → JK M C tg tF o L' h' → WW M C p1 L2 [] h2 ∧ hN h2 ≤ hN h' ∧ hS h2 ≤ hS h') := by
          cases t with
          | false =>
            cases he
            exact ⟨by omega, by omega, fun hG c1 c2 K => ⟨K3 hG [] (Nat.le_refl _) c1 c2 K, l1, l2⟩⟩
          | true =>
            obtain ⟨r1, r2, K4⟩ := ih _ _ _ _ _ he
            exact ⟨by omega, by omega, fun hG c1 c2 K => ⟨K3 hG [] (Nat.le_refl _) (by omega) (by omega) (K4 hG c1 c2 K), by omega, by omega⟩⟩
        refine ⟨key.1, key.2.1, fun hG c1 c2 K => ?_⟩
        obtain ⟨K5, z1, z2⟩ := key.2.2 hG c1 c2 K
        refine K2 hG (by omega) (by omega) ?_
        rcases hq with rfl | rfl
        · exact K5
        · match q, hlc, K5 with
          | q + 1, hlc, K5 => show WW M C (tg (q + 1)) L2 [] h2; rw [hlc.2]; exact K5
      · rw [if_neg hq] at he
        by_cases hq2 : q = lb
        · rw [if_pos hq2] at he
          cases he
          refine ⟨by omega, by omega, fun hG c1 c2 K => K2 hG c1 c2 ?_⟩
          subst hq2
          match q, hlb, K with
          | q + 1, hlb, K => show WW M C (tg (q + 1)) L' [] h'; rw [hlb.2]; exact K
        · rw [if_neg hq2] at he
          cases he
          refine ⟨by omega, by omega, fun hG c1 c2 K => K2 hG c1 c2 ?_⟩
          match q, hq, K with
          | 0, hq, K => exact absurd (Or.inl rfl) hq
          | q + 1, hq, K => exact K
end Rules2
