/-! RULES: what a piece of code does, by the pieces that it is made of -/
def j_ws (stk : List Value) : Nat := (stk.map fun v => v.category).sum
theorem j_ws_cons (v : Value) (stk : List Value) : j_ws (v :: stk) ≤ j_ws stk + 2 := by
  rcases lv_cat v with h | h <;> simp [j_ws, h] <;> omega
def EI (M : jMs) (C : jC) (k pc pc' : Nat) (x : jE) : Prop := ∀ (L : List Value) (h : jHp) (v : Value) (L' : List Value) (h' : jHp), x (L, h) = some (v, (L', h')) → hN h ≤ hN h' ∧ hS h ≤ hS h' ∧ (GOK M C → ∀ stk : List Value, j_ws stk ≤ k → hN h' ≤ hN C.2.2.2.2.1 → hS h' ≤ hS C.2.2.2.2.1 → WW M C pc' L' (v :: stk) h' → WW M C pc L stk h)
def BI (M : jMs) (C : jC) (k pc tT tF : Nat) (x : jB) : Prop := ∀ (L : List Value) (h : jHp) (b : Bool) (L' : List Value) (h' : jHp), x (L, h) = some (b, (L', h')) → hN h ≤ hN h' ∧ hS h ≤ hS h' ∧ (GOK M C → ∀ stk : List Value, j_ws stk ≤ k → hN h' ≤ hN C.2.2.2.2.1 → hS h' ≤ hS C.2.2.2.2.1 → WW M C (if b then tT else tF) L' stk h' → WW M C pc L stk h)
def LI (M : jMs) (C : jC) (k pc pc' n : Nat) (x : jS → Option (List Value × jS)) : Prop := ∀ (L : List Value) (h : jHp) (vs : List Value) (L' : List Value) (h' : jHp), x (L, h) = some (vs, (L', h')) → vs.length = n ∧ hN h ≤ hN h' ∧ hS h ≤ hS h' ∧ (GOK M C → ∀ stk : List Value, j_ws stk ≤ k → hN h' ≤ hN C.2.2.2.2.1 → hS h' ≤ hS C.2.2.2.2.1 → WW M C pc' L' (vs.reverse ++ stk) h' → WW M C pc L stk h)
def JK (M : jMs) (C : jC) (tg : Nat → Nat) (pc' : Nat) (o : jO) (L' : List Value) (h' : jHp) : Prop := match o with
  | .inl 0 => WW M C pc' L' [] h'
  | .inl (k + 1) => WW M C (tg (k + 1)) L' [] h'
  | .inr v => v = C.2.2.2.2.2 ∧ h' = C.2.2.2.2.1
def SI (M : jMs) (C : jC) (tg : Nat → Nat) (pc pc' : Nat) (x : jSt) : Prop := ∀ (L : List Value) (h : jHp) (o : jO) (L' : List Value) (h' : jHp), x (L, h) = some (o, (L', h')) → hN h ≤ hN h' ∧ hS h ≤ hS h' ∧ (GOK M C → hN h' ≤ hN C.2.2.2.2.1 → hS h' ≤ hS C.2.2.2.2.1 → JK M C tg pc' o L' h' → WW M C pc L [] h)
section Rules
variable {M : jMs} {C : jC} {k pc p1 p2 p3 p4 p5 tT tF : Nat} {tg : Nat → Nat}
-- constants and locals
theorem ei_of {x : jE} (hp : ∀ (L : List Value) (h : jHp) (v : Value) (L' : List Value) (h' : jHp), x (L, h) = some (v, (L', h')) → h' = h ∧ (GOK M C → ∀ stk : List Value, WW M C p1 L' (v :: stk) h → WW M C pc L stk h)) : EI M C k pc p1 x := by
  intro L h v L' h' he
  obtain ⟨rfl, K⟩ := hp L h v L' h' he
  exact ⟨Nat.le_refl _, Nat.le_refl _, fun hG stk _ _ _ q => K hG stk q⟩
theorem ei_ic {n : Int} {v : Int32} (hd : decode M.2.1 pc = .ok (.iconst n, 1)) (hv : Int32.ofInt n = v) : EI M C k pc (pc + 1) (x_c (.int v)) := ei_of fun L h w L' h' he => by
  cases he; exact ⟨rfl, fun hG stk K => ww_iconst hG hd hv K⟩
theorem ei_bi {n : Int} {v : Int32} (hd : decode M.2.1 pc = .ok (.bipush n, 2)) (hv : (Int8.ofInt n).toInt32 = v) : EI M C k pc (pc + 2) (x_c (.int v)) := ei_of fun L h w L' h' he => by
  cases he; exact ⟨rfl, fun hG stk K => ww_bipush hG hd hv K⟩
theorem ei_si {n : Int} {v : Int32} (hd : decode M.2.1 pc = .ok (.sipush n, 3)) (hv : (Int16.ofInt n).toInt32 = v) : EI M C k pc (pc + 3) (x_c (.int v)) := ei_of fun L h w L' h' he => by
  cases he; exact ⟨rfl, fun hG stk K => ww_sipush hG hd hv K⟩
theorem ei_lc {n : Fin 2} {v : Int64} (hd : decode M.2.1 pc = .ok (.lconst n, 1)) (hv : Int64.ofNat (n : Nat) = v) : EI M C k pc (pc + 1) (x_c (.long v)) := ei_of fun L h w L' h' he => by
  cases he; exact ⟨rfl, fun hG stk K => ww_lconst hG hd hv K⟩
theorem ei_ldc {i : Nat} {v : Int32} (hd : decode M.2.1 pc = .ok (.ldc i, 2)) (hw : Jvm.Cond.constant M.1 i v ∈ jtbl) : EI M C k pc (pc + 2) (x_c (.int v)) := ei_of fun L h w L' h' he => by
  cases he; exact ⟨rfl, fun hG stk K => ww_ldc hG hd hw K⟩
theorem ei_ldcw {i : Nat} {v : Int32} (hd : decode M.2.1 pc = .ok (.ldc_w i, 3)) (hw : Jvm.Cond.constant M.1 i v ∈ jtbl) : EI M C k pc (pc + 3) (x_c (.int v)) := ei_of fun L h w L' h' he => by
  cases he; exact ⟨rfl, fun hG stk K => ww_ldcw hG hd hw K⟩
theorem ei_ldc2 {i : Nat} {v : Int64} (hd : decode M.2.1 pc = .ok (.ldc2_w i, 3)) (hw : Jvm.Cond.constantLong M.1 i v ∈ jtbl) : EI M C k pc (pc + 3) (x_c (.long v)) := ei_of fun L h w L' h' he => by
  cases he; exact ⟨rfl, fun hG stk K => ww_ldc2 hG hd hw K⟩
theorem x_iloc_eq {i : Nat} {st : jS} {v : Value} {st' : jS} (h : x_iloc i st = some (v, st')) : ∃ x, st.1[i]? = some (.int x) ∧ v = .int x ∧ st' = st := by
  unfold x_iloc at h
  split at h
  · rename_i x hx; cases h; exact ⟨x, hx, rfl, rfl⟩
  · cases h
theorem x_lloc_eq {i : Nat} {st : jS} {v : Value} {st' : jS} (h : x_lloc i st = some (v, st')) : ∃ x, st.1[i]? = some (.long x) ∧ v = .long x ∧ st' = st := by
  unfold x_lloc at h
  split at h
  · rename_i x hx; cases h; exact ⟨x, hx, rfl, rfl⟩
  · cases h
theorem x_aloc_eq {i : Nat} {st : jS} {v : Value} {st' : jS} (h : x_aloc i st = some (v, st')) : ∃ x, st.1[i]? = some (.ref x) ∧ v = .ref x ∧ st' = st := by
  unfold x_aloc at h
  split at h
  · rename_i x hx; cases h; exact ⟨x, hx, rfl, rfl⟩
  · cases h
theorem ei_il {i : Nat} (hd : decode M.2.1 pc = .ok (.iload i, 2)) : EI M C k pc (pc + 2) (x_iloc i) := ei_of fun L h w L' h' he => by
  obtain ⟨x, h1, h2, h3⟩ := x_iloc_eq he; cases h2; cases h3; exact ⟨rfl, fun hG stk K => ww_iload hG hd h1 K⟩
theorem ei_iln {i : Fin 4} (hd : decode M.2.1 pc = .ok (.iload_n i, 1)) : EI M C k pc (pc + 1) (x_iloc i.val) := ei_of fun L h w L' h' he => by
  obtain ⟨x, h1, h2, h3⟩ := x_iloc_eq he; cases h2; cases h3; exact ⟨rfl, fun hG stk K => ww_iload_n hG hd h1 K⟩
theorem ei_ll {i : Nat} (hd : decode M.2.1 pc = .ok (.lload i, 2)) : EI M C k pc (pc + 2) (x_lloc i) := ei_of fun L h w L' h' he => by
  obtain ⟨x, h1, h2, h3⟩ := x_lloc_eq he; cases h2; cases h3; exact ⟨rfl, fun hG stk K => ww_lload hG hd h1 K⟩
theorem ei_lln {i : Fin 4} (hd : decode M.2.1 pc = .ok (.lload_n i, 1)) : EI M C k pc (pc + 1) (x_lloc i.val) := ei_of fun L h w L' h' he => by
  obtain ⟨x, h1, h2, h3⟩ := x_lloc_eq he; cases h2; cases h3; exact ⟨rfl, fun hG stk K => ww_lload_n hG hd h1 K⟩
theorem ei_al {i : Nat} (hd : decode M.2.1 pc = .ok (.aload i, 2)) : EI M C k pc (pc + 2) (x_aloc i) := ei_of fun L h w L' h' he => by
  obtain ⟨x, h1, h2, h3⟩ := x_aloc_eq he; cases h2; cases h3; exact ⟨rfl, fun hG stk K => ww_aload hG hd h1 K⟩
theorem ei_aln {i : Fin 4} (hd : decode M.2.1 pc = .ok (.aload_n i, 1)) : EI M C k pc (pc + 1) (x_aloc i.val) := ei_of fun L h w L' h' he => by
  obtain ⟨x, h1, h2, h3⟩ := x_aloc_eq he; cases h2; cases h3; exact ⟨rfl, fun hG stk K => ww_aload_n hG hd h1 K⟩
-- operations
/-- the instruction at p1 turns the two values on top into one -/
def OP2 (M : jMs) (C : jC) (p1 p2 : Nat) (f : Value → Value → Option Value) : Prop := GOK M C → ∀ (u w v : Value), f u w = some v → ∀ (L stk : List Value) (h : jHp), WW M C p2 L (v :: stk) h → WW M C p1 L (w :: u :: stk) h
def OP1 (M : jMs) (C : jC) (p1 p2 : Nat) (f : Value → Option Value) : Prop := GOK M C → ∀ (u v : Value), f u = some v → ∀ (L stk : List Value) (h : jHp), WW M C p2 L (v :: stk) h → WW M C p1 L (u :: stk) h
theorem ei_bin {f : Value → Value → Option Value} {a b : jE} (ha : EI M C k pc p1 a) (hb : EI M C (k + 2) p1 p2 b) (ho : OP2 M C p2 p3 f) : EI M C k pc p3 (x_bin f a b) := by
  intro L h v L' h' he
  simp only [x_bin] at he
  obtain ⟨u, ⟨L1, h1⟩, e1, he⟩ := jb_eq he
  obtain ⟨w, ⟨L2, h2⟩, e2, he⟩ := jb_eq he
  obtain ⟨m1, m2, K1⟩ := ha _ _ _ _ _ e1
  obtain ⟨n1, n2, K2⟩ := hb _ _ _ _ _ e2
  cases hf : f u w with
  | none => rw [hf] at he; cases he
  | some z =>
    rw [hf] at he
    cases he
    exact ⟨Nat.le_trans m1 n1, Nat.le_trans m2 n2, fun hG stk hk c1 c2 K => K1 hG stk hk (Nat.le_trans n1 c1) (Nat.le_trans n2 c2) (K2 hG (u :: stk) (Nat.le_trans (j_ws_cons u stk) (by omega)) c1 c2 (ho hG u w _ hf _ _ _ K))⟩
theorem ei_un {f : Value → Option Value} {a : jE} (ha : EI M C k pc p1 a) (ho : OP1 M C p1 p2 f) : EI M C k pc p2 (x_un f a) := by
  intro L h v L' h' he
  simp only [x_un] at he
  obtain ⟨u, ⟨L1, h1⟩, e1, he⟩ := jb_eq he
  obtain ⟨m1, m2, K1⟩ := ha _ _ _ _ _ e1
  cases hf : f u with
  | none => rw [hf] at he; cases he
  | some z =>
    rw [hf] at he
    cases he
    exact ⟨m1, m2, fun hG stk hk c1 c2 K => K1 hG stk hk c1 c2 (ho hG u _ hf _ _ _ K)⟩
theorem op_add (hd : decode M.2.1 p1 = .ok (.iadd, 1)) : OP2 M C p1 (p1 + 1) o_add := by
  intro hG u w v hv L stk h K
  cases u <;> cases w <;> simp only [o_add, Option.some.injEq, reduceCtorEq] at hv
  subst hv; exact ww_iadd hG hd K
theorem op_sub (hd : decode M.2.1 p1 = .ok (.isub, 1)) : OP2 M C p1 (p1 + 1) o_sub := by
  intro hG u w v hv L stk h K
  cases u <;> cases w <;> simp only [o_sub, Option.some.injEq, reduceCtorEq] at hv
  subst hv; exact ww_isub hG hd K
theorem op_mul (hd : decode M.2.1 p1 = .ok (.imul, 1)) : OP2 M C p1 (p1 + 1) o_mul := by
  intro hG u w v hv L stk h K
  cases u <;> cases w <;> simp only [o_mul, Option.some.injEq, reduceCtorEq] at hv
  subst hv; exact ww_imul hG hd K
theorem op_and (hd : decode M.2.1 p1 = .ok (.iand, 1)) : OP2 M C p1 (p1 + 1) o_and := by
  intro hG u w v hv L stk h K
  cases u <;> cases w <;> simp only [o_and, Option.some.injEq, reduceCtorEq] at hv
  subst hv; exact ww_iand hG hd K
theorem op_or (hd : decode M.2.1 p1 = .ok (.ior, 1)) : OP2 M C p1 (p1 + 1) o_or := by
  intro hG u w v hv L stk h K
  cases u <;> cases w <;> simp only [o_or, Option.some.injEq, reduceCtorEq] at hv
  subst hv; exact ww_ior hG hd K
theorem op_xor (hd : decode M.2.1 p1 = .ok (.ixor, 1)) : OP2 M C p1 (p1 + 1) o_xor := by
  intro hG u w v hv L stk h K
  cases u <;> cases w <;> simp only [o_xor, Option.some.injEq, reduceCtorEq] at hv
  subst hv; exact ww_ixor hG hd K
theorem op_shl (hd : decode M.2.1 p1 = .ok (.ishl, 1)) : OP2 M C p1 (p1 + 1) o_shl := by
  intro hG u w v hv L stk h K
  cases u <;> cases w <;> simp only [o_shl, Option.some.injEq, reduceCtorEq] at hv
  subst hv; exact ww_ishl hG hd K
theorem op_shr (hd : decode M.2.1 p1 = .ok (.ishr, 1)) : OP2 M C p1 (p1 + 1) o_shr := by
  intro hG u w v hv L stk h K
  cases u <;> cases w <;> simp only [o_shr, Option.some.injEq, reduceCtorEq] at hv
  subst hv; exact ww_ishr hG hd K
theorem op_ushr (hd : decode M.2.1 p1 = .ok (.iushr, 1)) : OP2 M C p1 (p1 + 1) o_ushr := by
  intro hG u w v hv L stk h K
  cases u <;> cases w <;> simp only [o_ushr, Option.some.injEq, reduceCtorEq] at hv
  subst hv; exact ww_iushr hG hd K
theorem op_div (hd : decode M.2.1 p1 = .ok (.idiv, 1)) : OP2 M C p1 (p1 + 1) o_div := by
  intro hG u w v hv L stk h K
  cases u <;> cases w <;> simp only [o_div, reduceCtorEq] at hv
  split at hv
  · cases hv
  · rename_i hy; cases hv; exact ww_idiv hG hd hy K
theorem op_rem (hd : decode M.2.1 p1 = .ok (.irem, 1)) : OP2 M C p1 (p1 + 1) o_rem := by
  intro hG u w v hv L stk h K
  cases u <;> cases w <;> simp only [o_rem, reduceCtorEq] at hv
  split at hv
  · cases hv
  · rename_i hy; cases hv; exact ww_irem hG hd hy K
theorem op_lsub (hd : decode M.2.1 p1 = .ok (.lsub, 1)) : OP2 M C p1 (p1 + 1) o_lsub := by
  intro hG u w v hv L stk h K
  cases u <;> cases w <;> simp only [o_lsub, Option.some.injEq, reduceCtorEq] at hv
  subst hv; exact ww_lsub hG hd K
theorem op_land (hd : decode M.2.1 p1 = .ok (.land, 1)) : OP2 M C p1 (p1 + 1) o_land := by
  intro hG u w v hv L stk h K
  cases u <;> cases w <;> simp only [o_land, Option.some.injEq, reduceCtorEq] at hv
  subst hv; exact ww_land hG hd K
theorem op_lor (hd : decode M.2.1 p1 = .ok (.lor, 1)) : OP2 M C p1 (p1 + 1) o_lor := by
  intro hG u w v hv L stk h K
  cases u <;> cases w <;> simp only [o_lor, Option.some.injEq, reduceCtorEq] at hv
  subst hv; exact ww_lor hG hd K
theorem op_lushr (hd : decode M.2.1 p1 = .ok (.lushr, 1)) : OP2 M C p1 (p1 + 1) o_lushr := by
  intro hG u w v hv L stk h K
  cases u <;> cases w <;> simp only [o_lushr, Option.some.injEq, reduceCtorEq] at hv
  subst hv; exact ww_lushr hG hd K
theorem op_lshl (hd : decode M.2.1 p1 = .ok (.lshl, 1)) : OP2 M C p1 (p1 + 1) o_lshl := by
  intro hG u w v hv L stk h K
  cases u <;> cases w <;> simp only [o_lshl, Option.some.injEq, reduceCtorEq] at hv
  subst hv; exact ww_lshl hG hd K
theorem op_i2l (hd : decode M.2.1 p1 = .ok (.i2l, 1)) : OP1 M C p1 (p1 + 1) o_i2l := by
  intro hG u v hv L stk h K
  cases u <;> simp only [o_i2l, Option.some.injEq, reduceCtorEq] at hv
  subst hv; exact ww_i2l hG hd K
theorem op_l2i (hd : decode M.2.1 p1 = .ok (.l2i, 1)) : OP1 M C p1 (p1 + 1) o_l2i := by
  intro hG u v hv L stk h K
  cases u <;> simp only [o_l2i, Option.some.injEq, reduceCtorEq] at hv
  subst hv; exact ww_l2i hG hd K
theorem op_i2b (hd : decode M.2.1 p1 = .ok (.i2b, 1)) : OP1 M C p1 (p1 + 1) o_i2b := by
  intro hG u v hv L stk h K
  cases u <;> simp only [o_i2b, Option.some.injEq, reduceCtorEq] at hv
  subst hv; exact ww_i2b hG hd K
theorem op_i2c (hd : decode M.2.1 p1 = .ok (.i2c, 1)) : OP1 M C p1 (p1 + 1) o_i2c := by
  intro hG u v hv L stk h K
  cases u <;> simp only [o_i2c, Option.some.injEq, reduceCtorEq] at hv
  subst hv; exact ww_i2c hG hd K
-- fields, elements, lengths
theorem j_fget_ref {h : jHp} {ci t j : Nat} {u w : Value} (hg : j_fget h ci t j u = some w) : ∃ a, u = .ref a := by
  cases u <;> simp [j_fget] at hg
  exact ⟨_, rfl⟩
theorem ei_fld {i ci t j : Nat} {o : jE} (ho : EI M C k pc p1 o) (hd : decode M.2.1 p1 = .ok (.getfield i, 3)) (hw : Jvm.Cond.fieldLink M.1 i ((kc ci).2.1 j).1 ((kc ci).2.1 j).2.1 ((kc ci).2.1 j).2.2.1 ∈ jtbl) (ht : j_isref (kty ci j) = decide (t ≠ 0)) (hj : j < (kc ci).2.2) : EI M C k pc (p1 + 3) (x_fld ci t j o) := by
  intro L h v L' h' he
  simp only [x_fld] at he
  obtain ⟨u, ⟨L1, h1⟩, e1, he⟩ := jb_eq he
  obtain ⟨m1, m2, K1⟩ := ho _ _ _ _ _ e1
  cases hf : j_fget h1 ci t j u with
  | none => rw [hf] at he; cases he
  | some z =>
    rw [hf] at he
    cases he
    obtain ⟨a, rfl⟩ := j_fget_ref hf
    exact ⟨m1, m2, fun hG stk hk c1 c2 K => K1 hG stk hk c1 c2 (ww_get (own := "") hG hd hw ht hj hf K)⟩
theorem j_aget_ref {h : jHp} {kind : Nat} {u v w : Value} (hg : j_aget h kind u v = some w) : ∃ a i, u = .ref a ∧ v = .int i := by
  cases u <;> cases v <;> simp [j_aget] at hg
  exact ⟨_, _, rfl, rfl⟩
/-- the instruction at p1 loads an element of a row of this kind -/
def OPA (M : jMs) (C : jC) (p1 p2 kind : Nat) : Prop := GOK M C → ∀ (u w v : Value) (h : jHp), j_aget h kind u w = some v → ∀ (L stk : List Value), WW M C p2 L (v :: stk) h → WW M C p1 L (w :: u :: stk) h
theorem opa_i (hd : decode M.2.1 p1 = .ok (.iaload, 1)) : OPA M C p1 (p1 + 1) 1 := by
  intro hG u w v h hv L stk K
  obtain ⟨a, i, rfl, rfl⟩ := j_aget_ref hv
  exact ww_iald hG hd hv K
theorem opa_b (hd : decode M.2.1 p1 = .ok (.baload, 1)) : OPA M C p1 (p1 + 1) 2 := by
  intro hG u w v h hv L stk K
  obtain ⟨a, i, rfl, rfl⟩ := j_aget_ref hv
  exact ww_bald hG hd hv K
theorem opa_z (hd : decode M.2.1 p1 = .ok (.baload, 1)) : OPA M C p1 (p1 + 1) 3 := by
  intro hG u w v h hv L stk K
  obtain ⟨a, i, rfl, rfl⟩ := j_aget_ref hv
  exact ww_zald hG hd hv K
theorem opa_c (hd : decode M.2.1 p1 = .ok (.caload, 1)) : OPA M C p1 (p1 + 1) 4 := by
  intro hG u w v h hv L stk K
  obtain ⟨a, i, rfl, rfl⟩ := j_aget_ref hv
  exact ww_cald hG hd hv K
theorem opa_l (hd : decode M.2.1 p1 = .ok (.laload, 1)) : OPA M C p1 (p1 + 1) 5 := by
  intro hG u w v h hv L stk K
  obtain ⟨a, i, rfl, rfl⟩ := j_aget_ref hv
  exact ww_lald hG hd hv K
theorem opa_a (hd : decode M.2.1 p1 = .ok (.aaload, 1)) : OPA M C p1 (p1 + 1) 6 := by
  intro hG u w v h hv L stk K
  obtain ⟨a, i, rfl, rfl⟩ := j_aget_ref hv
  exact ww_aald hG hd hv K
theorem ei_idx {kind : Nat} {a b : jE} (ha : EI M C k pc p1 a) (hb : EI M C (k + 2) p1 p2 b) (ho : OPA M C p2 p3 kind) : EI M C k pc p3 (x_idx kind a b) := by
  intro L h v L' h' he
  simp only [x_idx] at he
  obtain ⟨u, ⟨L1, h1⟩, e1, he⟩ := jb_eq he
  obtain ⟨w, ⟨L2, h2⟩, e2, he⟩ := jb_eq he
  obtain ⟨m1, m2, K1⟩ := ha _ _ _ _ _ e1
  obtain ⟨n1, n2, K2⟩ := hb _ _ _ _ _ e2
  cases hf : j_aget h2 kind u w with
  | none => rw [hf] at he; cases he
  | some z =>
    rw [hf] at he
    cases he
    exact ⟨Nat.le_trans m1 n1, Nat.le_trans m2 n2, fun hG stk hk c1 c2 K => K1 hG stk hk (Nat.le_trans n1 c1) (Nat.le_trans n2 c2) (K2 hG (u :: stk) (Nat.le_trans (j_ws_cons u stk) (by omega)) c1 c2 (ho hG u w _ _ hf _ _ K))⟩
theorem ei_len {kind : Nat} {a : jE} (ha : EI M C k pc p1 a) (hd : decode M.2.1 p1 = .ok (.arraylength, 1)) (h0 : kind ≠ 0) (h7 : kind < 7) : EI M C k pc (p1 + 1) (x_len kind a) := by
  intro L h v L' h' he
  simp only [x_len] at he
  obtain ⟨u, ⟨L1, h1⟩, e1, he⟩ := jb_eq he
  obtain ⟨m1, m2, K1⟩ := ha _ _ _ _ _ e1
  cases hf : j_alen h1 kind u with
  | none => rw [hf] at he; cases he
  | some z =>
    rw [hf] at he
    cases he
    cases u <;> simp only [j_alen, reduceCtorEq] at hf
    exact ⟨m1, m2, fun hG stk hk c1 c2 K => K1 hG stk hk c1 c2 (ww_alen hG hd h0 h7 hf K)⟩
-- conditions
theorem bi_cmp {op op' : jcmp} {tgt : Nat} {off : Int} {neg : Bool} {a b : jE} (ha : EI M C k pc p1 a) (hb : EI M C (k + 2) p1 p2 b) (hd : decode M.2.1 p2 = .ok (.if_icmp op' off, 3)) (ht : (p2 : Int) + off = (tgt : Int)) (hn : ∀ x y, if_icmp.holds op' x y = (neg ^^ if_icmp.holds op x y)) :
    BI M C k pc (if neg then p2 + 3 else tgt) (if neg then tgt else p2 + 3) (b_cmp op a b) := by
  intro L h v L' h' he
  simp only [b_cmp] at he
  obtain ⟨u, ⟨L1, h1⟩, e1, he1⟩ := jb_eq he
  clear he
  obtain ⟨w, ⟨L2, h2⟩, e2, he⟩ := jb_eq he1
  clear he1
  obtain ⟨m1, m2, K1⟩ := ha _ _ _ _ _ e1
  obtain ⟨n1, n2, K2⟩ := hb _ _ _ _ _ e2
  cases u <;> cases w <;> simp only [Option.some.injEq, Prod.mk.injEq, reduceCtorEq] at he
  rename_i x y
  obtain ⟨rfl, rfl, rfl⟩ := he
  refine ⟨Nat.le_trans m1 n1, Nat.le_trans m2 n2, fun hG stk hk c1 c2 K => K1 hG stk hk (Nat.le_trans n1 c1) (Nat.le_trans n2 c2) (K2 hG (.int x :: stk) (Nat.le_trans (j_ws_cons _ stk) (by omega)) c1 c2 (ww_icmp hG hd ht (fun q => ?_) (fun q => ?_)))⟩
  · rw [hn x y] at q
    cases neg <;> cases hz : if_icmp.holds op x y <;> simp_all
  · rw [hn x y] at q
    cases neg <;> cases hz : if_icmp.holds op x y <;> simp_all
theorem j_holds0 (op : jcmp) (x : Int32) : ifCond.holds op x = if_icmp.holds op x 0 := by cases op <;> rfl
theorem bi_cmp0 {op op' : jcmp} {tgt : Nat} {off : Int} {neg : Bool} {a : jE} (ha : EI M C k pc p1 a) (hd : decode M.2.1 p1 = .ok (.ifCond op' off, 3)) (ht : (p1 : Int) + off = (tgt : Int)) (hn : ∀ x y, if_icmp.holds op' x y = (neg ^^ if_icmp.holds op x y)) :
    BI M C k pc (if neg then p1 + 3 else tgt) (if neg then tgt else p1 + 3) (b_cmp op a (x_c (.int 0))) := by
  intro L h v L' h' he
  simp only [b_cmp, x_c] at he
  obtain ⟨u, ⟨L1, h1⟩, e1, he⟩ := jb_eq he
  rw [jb_some] at he
  obtain ⟨m1, m2, K1⟩ := ha _ _ _ _ _ e1
  cases u <;> simp only [Option.some.injEq, Prod.mk.injEq, reduceCtorEq] at he
  rename_i x
  obtain ⟨rfl, rfl, rfl⟩ := he
  refine ⟨m1, m2, fun hG stk hk c1 c2 K => K1 hG stk hk c1 c2 (ww_ifc hG hd ht (fun q => ?_) (fun q => ?_))⟩
  · rw [j_holds0, hn x 0] at q
    cases neg <;> cases hz : if_icmp.holds op x 0 <;> simp_all
  · rw [j_holds0, hn x 0] at q
    cases neg <;> cases hz : if_icmp.holds op x 0 <;> simp_all
theorem bi_ofi {tgt : Nat} {off : Int} {neg : Bool} {a : jE} (ha : EI M C k pc p1 a) (hd : decode M.2.1 p1 = .ok (.ifCond (if neg then .eq else .ne) off, 3)) (ht : (p1 : Int) + off = (tgt : Int)) :
    BI M C k pc (if neg then p1 + 3 else tgt) (if neg then tgt else p1 + 3) (b_ofi a) := by
  intro L h v L' h' he
  simp only [b_ofi] at he
  obtain ⟨u, ⟨L1, h1⟩, e1, he⟩ := jb_eq he
  obtain ⟨m1, m2, K1⟩ := ha _ _ _ _ _ e1
  cases u <;> simp only [Option.some.injEq, Prod.mk.injEq, reduceCtorEq] at he
  rename_i x
  obtain ⟨rfl, rfl, rfl⟩ := he
  refine ⟨m1, m2, fun hG stk hk c1 c2 K => K1 hG stk hk c1 c2 (ww_ifc hG hd ht (fun q => ?_) (fun q => ?_))⟩
  · cases neg <;> by_cases hz : x = 0 <;> simp_all [ifCond.holds]
  · cases neg <;> by_cases hz : x = 0 <;> simp_all [ifCond.holds]
theorem bi_lcmp {op op' : jcmp} {tgt : Nat} {off : Int} {neg : Bool} {a b : jE} (ha : EI M C k pc p1 a) (hb : EI M C (k + 2) p1 p2 b) (hd0 : decode M.2.1 p2 = .ok (.lcmp, 1)) (hd : decode M.2.1 (p2 + 1) = .ok (.ifCond op' off, 3)) (ht : ((p2 + 1 : Nat) : Int) + off = (tgt : Int)) (hn : ∀ x y, if_icmp.holds op' x y = (neg ^^ if_icmp.holds op x y)) :
    BI M C k pc (if neg then p2 + 4 else tgt) (if neg then tgt else p2 + 4) (b_lcmp op a b) := by
  intro L h v L' h' he
  simp only [b_lcmp] at he
  obtain ⟨u, ⟨L1, h1⟩, e1, he1⟩ := jb_eq he
  clear he
  obtain ⟨w, ⟨L2, h2⟩, e2, he⟩ := jb_eq he1
  clear he1
  obtain ⟨m1, m2, K1⟩ := ha _ _ _ _ _ e1
  obtain ⟨n1, n2, K2⟩ := hb _ _ _ _ _ e2
  cases u <;> cases w <;> simp only [Option.some.injEq, Prod.mk.injEq, reduceCtorEq] at he
  rename_i x y
  obtain ⟨rfl, rfl, rfl⟩ := he
  refine ⟨Nat.le_trans m1 n1, Nat.le_trans m2 n2, fun hG stk hk c1 c2 K => K1 hG stk hk (Nat.le_trans n1 c1) (Nat.le_trans n2 c2) (K2 hG (.long x :: stk) (Nat.le_trans (j_ws_cons _ stk) (by omega)) c1 c2 (ww_lcmp hG hd0 (ww_ifc hG hd ht (fun q => ?_) (fun q => ?_))))⟩
  · rw [j_holds0, hn _ 0] at q
    rw [j_holds0] at K
    cases neg <;> cases hz : if_icmp.holds op (lg_cmp x y) 0 <;> simp_all
  · rw [j_holds0, hn _ 0] at q
    rw [j_holds0] at K
    cases neg <;> cases hz : if_icmp.holds op (lg_cmp x y) 0 <;> simp_all
theorem bi_and {a b : jB} (ha : BI M C k pc p1 tF a) (hb : BI M C k p1 tT tF b) : BI M C k pc tT tF (b_and a b) := by
  intro L h v L' h' he
  simp only [b_and] at he
  obtain ⟨t, ⟨L1, h1⟩, e1, he⟩ := jb_eq he
  obtain ⟨m1, m2, K1⟩ := ha _ _ _ _ _ e1
  cases t with
  | false =>
    cases he
    exact ⟨m1, m2, K1⟩
  | true =>
    obtain ⟨n1, n2, K2⟩ := hb _ _ _ _ _ he
    exact ⟨Nat.le_trans m1 n1, Nat.le_trans m2 n2, fun hG stk hk c1 c2 K => K1 hG stk hk (Nat.le_trans n1 c1) (Nat.le_trans n2 c2) (K2 hG stk hk c1 c2 K)⟩
theorem bi_or {a b : jB} (ha : BI M C k pc tT p1 a) (hb : BI M C k p1 tT tF b) : BI M C k pc tT tF (b_or a b) := by
  intro L h v L' h' he
  simp only [b_or] at he
  obtain ⟨t, ⟨L1, h1⟩, e1, he⟩ := jb_eq he
  obtain ⟨m1, m2, K1⟩ := ha _ _ _ _ _ e1
  cases t with
  | true =>
    cases he
    exact ⟨m1, m2, K1⟩
  | false =>
    obtain ⟨n1, n2, K2⟩ := hb _ _ _ _ _ he
    exact ⟨Nat.le_trans m1 n1, Nat.le_trans m2 n2, fun hG stk hk c1 c2 K => K1 hG stk hk (Nat.le_trans n1 c1) (Nat.le_trans n2 c2) (K2 hG stk hk c1 c2 K)⟩
theorem bi_not {a : jB} (ha : BI M C k pc tF tT a) : BI M C k pc tT tF (b_not a) := by
  intro L h v L' h' he
  simp only [b_not] at he
  obtain ⟨t, ⟨L1, h1⟩, e1, he⟩ := jb_eq he
  obtain ⟨m1, m2, K1⟩ := ha _ _ _ _ _ e1
  cases he
  exact ⟨m1, m2, fun hG stk hk c1 c2 K => K1 hG stk hk c1 c2 (by cases t <;> exact K)⟩
theorem bi_true : BI M C k pc pc tF b_true := by
  intro L h v L' h' he
  cases he
  exact ⟨Nat.le_refl _, Nat.le_refl _, fun hG stk hk c1 c2 K => K⟩
/-- jumps that were turned about: the same places under other numbers -/
theorem bi_to {tT' tF' : Nat} {a : jB} (ha : BI M C k pc tT tF a) (h1 : tT = tT') (h2 : tF = tF') : BI M C k pc tT' tF' a := by subst h1 h2; exact ha
theorem ei_ofb {c : jB} {off : Int} (hc : BI M C k pc tT tF c) (h1 : decode M.2.1 tT = .ok (.iconst 1, 1)) (h2 : decode M.2.1 (tT + 1) = .ok (.goto off, 3)) (ht : ((tT + 1 : Nat) : Int) + off = ((tF + 1 : Nat) : Int)) (h3 : decode M.2.1 tF = .ok (.iconst 0, 1)) : EI M C k pc (tF + 1) (x_ofb c) := by
  intro L h v L' h' he
  simp only [x_ofb] at he
  obtain ⟨t, ⟨L1, h1'⟩, e1, he⟩ := jb_eq he
  obtain ⟨m1, m2, K1⟩ := hc _ _ _ _ _ e1
  cases he
  refine ⟨m1, m2, fun hG stk hk c1 c2 K => K1 hG stk hk c1 c2 ?_⟩
  cases t with
  | true => exact ww_iconst hG h1 rfl (ww_goto hG h2 ht K)
  | false => exact ww_iconst hG h3 rfl K
theorem ei_ite {c : jB} {a b : jE} {off : Int} (hc : BI M C k pc tT tF c) (ha : EI M C k tT p1 a) (hd : decode M.2.1 p1 = .ok (.goto off, 3)) (ht : (p1 : Int) + off = (p2 : Int)) (hb : EI M C k tF p2 b) : EI M C k pc p2 (x_ite c a b) := by
  intro L h v L' h' he
  simp only [x_ite] at he
  obtain ⟨t, ⟨L1, h1'⟩, e1, he⟩ := jb_eq he
  obtain ⟨m1, m2, K1⟩ := hc _ _ _ _ _ e1
  cases t with
  | true =>
    obtain ⟨n1, n2, K2⟩ := ha _ _ _ _ _ he
    exact ⟨Nat.le_trans m1 n1, Nat.le_trans m2 n2, fun hG stk hk c1 c2 K => K1 hG stk hk (Nat.le_trans n1 c1) (Nat.le_trans n2 c2) (K2 hG stk hk c1 c2 (ww_goto hG hd ht K))⟩
  | false =>
    obtain ⟨n1, n2, K2⟩ := hb _ _ _ _ _ he
    exact ⟨Nat.le_trans m1 n1, Nat.le_trans m2 n2, fun hG stk hk c1 c2 K => K1 hG stk hk (Nat.le_trans n1 c1) (Nat.le_trans n2 c2) (K2 hG stk hk c1 c2 K)⟩
end Rules
