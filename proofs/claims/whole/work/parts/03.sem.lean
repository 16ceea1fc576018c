/-! THE CLEAN SEMANTICS: a heap of whole numbers and references at small addresses, expressions, conditions and statements as functions. -/
/-- the clean heap: ints, longs, references, tags (kind, length), the next address, slots in use -/
abbrev jHp : Type := (Nat → Nat → Int32) × (Nat → Nat → Int64) × (Nat → Nat → Nat) × (Nat → Nat × Nat) × Nat × Nat
def hI (h : jHp) : Nat → Nat → Int32 := h.1
def hJ (h : jHp) : Nat → Nat → Int64 := h.2.1
def hR (h : jHp) : Nat → Nat → Nat := h.2.2.1
def hT (h : jHp) : Nat → Nat × Nat := h.2.2.2.1
def hN (h : jHp) : Nat := h.2.2.2.2.1
def hS (h : jHp) : Nat := h.2.2.2.2.2
def j_up {α : Type} (f : Nat → Nat → α) (a i : Nat) (v : α) : Nat → Nat → α := fun b j => if b = a ∧ j = i then v else f b j
def hSetI (h : jHp) (a i : Nat) (v : Int32) : jHp := (j_up (hI h) a i v, hJ h, hR h, hT h, hN h, hS h)
def hSetJ (h : jHp) (a i : Nat) (v : Int64) : jHp := (hI h, j_up (hJ h) a i v, hR h, hT h, hN h, hS h)
def hSetR (h : jHp) (a i : Nat) (v : Nat) : jHp := (hI h, hJ h, j_up (hR h) a i v, hT h, hN h, hS h)
/-- a new cell: all its numbers 0, its references null -/
def hNew (h : jHp) (kind len : Nat) : jHp := (fun a i => if a = hN h then 0 else hI h a i, fun a i => if a = hN h then 0 else hJ h a i, fun a i => if a = hN h then 0 else hR h a i, fun a => if a = hN h then (kind, len) else hT h a, hN h + 1, hS h + len)
/-- a part of one row of ints copied into another (or the same) -/
def hCopy (h : jHp) (a sp b dp n : Nat) : jHp := (fun c j => if c = b ∧ dp ≤ j ∧ j < dp + n then hI h a (sp + (j - dp)) else hI h c j, hJ h, hR h, hT h, hN h, hS h)

abbrev jS : Type := List Value × jHp
abbrev jO : Type := Nat ⊕ Option Value
abbrev jE : Type := jS → Option (Value × jS)
abbrev jB : Type := jS → Option (Bool × jS)
abbrev jSt : Type := jS → Option (jO × jS)
abbrev jF : Type := List Value → jHp → Option (Option Value × jHp)
def jb {α β : Type} (x : Option (α × jS)) (f : α → jS → Option β) : Option β := match x with
  | none => none
  | some q => f q.1 q.2

-- operations on values
def o_add : Value → Value → Option Value | .int x, .int y => some (.int (x + y)) | _, _ => none
def o_sub : Value → Value → Option Value | .int x, .int y => some (.int (x - y)) | _, _ => none
def o_mul : Value → Value → Option Value | .int x, .int y => some (.int (x * y)) | _, _ => none
def o_and : Value → Value → Option Value | .int x, .int y => some (.int (x &&& y)) | _, _ => none
def o_or : Value → Value → Option Value | .int x, .int y => some (.int (x ||| y)) | _, _ => none
def o_xor : Value → Value → Option Value | .int x, .int y => some (.int (x ^^^ y)) | _, _ => none
def o_shl : Value → Value → Option Value | .int x, .int y => some (.int (x <<< (y &&& 31))) | _, _ => none
def o_shr : Value → Value → Option Value | .int x, .int y => some (.int (x >>> (y &&& 31))) | _, _ => none
def o_ushr : Value → Value → Option Value | .int x, .int y => some (.int (x.toUInt32 >>> (y.toUInt32 &&& Int32.toUInt32 31)).toInt32) | _, _ => none
def o_div : Value → Value → Option Value | .int x, .int y => if y = 0 then none else some (.int (x / y)) | _, _ => none
def o_rem : Value → Value → Option Value | .int x, .int y => if y = 0 then none else some (.int (x - x / y * y)) | _, _ => none
def o_lor : Value → Value → Option Value | .long x, .long y => some (.long (x ||| y)) | _, _ => none
def o_land : Value → Value → Option Value | .long x, .long y => some (.long (x &&& y)) | _, _ => none
def o_lsub : Value → Value → Option Value | .long x, .long y => some (.long (x - y)) | _, _ => none

/-- a long whose second half is written over is gone -/
def j_kill (L : List Value) (k : Nat) : List Value := match k with
  | 0 => L
  | k + 1 => match L[k]? with
    | some v => if v.category = 2 then L.set k .null else L
    | none => L
/-- a local gets a value; a long takes the place behind it too -/
def j_lset (L : List Value) (k : Nat) (v : Value) : List Value := match v with
  | .long x => ((j_kill L k).set k (.long x)).set (k + 1) .null
  | v => (j_kill L k).set k v
def x_c (v : Value) : jE := fun st => some (v, st)
def x_iloc (k : Nat) : jE := fun st => match st.1[k]? with
  | some (.int x) => some (.int x, st)
  | _ => none
def x_lloc (k : Nat) : jE := fun st => match st.1[k]? with
  | some (.long x) => some (.long x, st)
  | _ => none
def x_aloc (k : Nat) : jE := fun st => match st.1[k]? with
  | some (.ref x) => some (.ref x, st)
  | _ => none
def o_i2l : Value → Option Value | .int x => some (.long x.toInt64) | _ => none
def o_l2i : Value → Option Value | .long x => some (.int x.toInt32) | _ => none
def o_i2b : Value → Option Value | .int x => some (.int x.toInt8.toInt32) | _ => none
def o_i2c : Value → Option Value | .int x => some (.int (x.toUInt32 % 65536).toInt32) | _ => none
def o_lushr : Value → Value → Option Value | .long x, .int y => some (.long (x.toUInt64 >>> (y.toInt64.toUInt64 &&& Int64.toUInt64 63)).toInt64) | _, _ => none
def o_lshl : Value → Value → Option Value | .long x, .int y => some (.long (x <<< (y.toInt64 &&& 63))) | _, _ => none
def x_bin (f : Value → Value → Option Value) (a b : jE) : jE := fun st => jb (a st) fun u s1 => jb (b s1) fun v s2 => match f u v with
  | some w => some (w, s2)
  | none => none
def x_un (f : Value → Option Value) (a : jE) : jE := fun st => jb (a st) fun u s1 => match f u with
  | some w => some (w, s1)
  | none => none
/-- a field of an object of class number ci: t = 0 a number, else a reference -/
def j_fget (h : jHp) (ci t k : Nat) : Value → Option Value
  | .ref a => if (hT h a).1 = 10 + ci then (if t = 0 then some (.int (hI h a k)) else if hR h a k = 0 then none else some (.ref (hR h a k))) else none
  | _ => none
def x_fld (ci t k : Nat) (o : jE) : jE := fun st => jb (o st) fun u s1 => match j_fget s1.2 ci t k u with
  | some w => some (w, s1)
  | none => none
def j_in (i : Int32) (n : Nat) : Bool := decide (0 ≤ i) && decide (i.toNatClampNeg < n)
/-- an element: kinds 1 int, 2 byte, 3 boolean, 4 char, 5 long, 6 reference -/
def j_aget (h : jHp) (kind : Nat) : Value → Value → Option Value
  | .ref a, .int i => if (hT h a).1 = kind ∧ j_in i (hT h a).2 = true then (if kind = 5 then some (.long (hJ h a i.toNatClampNeg)) else if kind = 6 then (if hR h a i.toNatClampNeg = 0 then none else some (.ref (hR h a i.toNatClampNeg))) else some (.int (hI h a i.toNatClampNeg))) else none
  | _, _ => none
def x_idx (kind : Nat) (a i : jE) : jE := fun st => jb (a st) fun u s1 => jb (i s1) fun v s2 => match j_aget s2.2 kind u v with
  | some w => some (w, s2)
  | none => none
def j_alen (h : jHp) (kind : Nat) : Value → Option Value
  | .ref a => if (hT h a).1 = kind then some (.int (nI (hT h a).2)) else none
  | _ => none
def x_len (kind : Nat) (a : jE) : jE := fun st => jb (a st) fun u s1 => match j_alen s1.2 kind u with
  | some w => some (w, s1)
  | none => none
def x_ofb (c : jB) : jE := fun st => jb (c st) fun t s1 => some (.int (if t then 1 else 0), s1)
def x_ite (c : jB) (a b : jE) : jE := fun st => jb (c st) fun t s1 => if t then a s1 else b s1
def xs_nil : jS → Option (List Value × jS) := fun st => some ([], st)
def xs_cons (a : jE) (as : jS → Option (List Value × jS)) : jS → Option (List Value × jS) := fun st => jb (a st) fun v s1 => jb (as s1) fun vs s2 => some (v :: vs, s2)
/-- the receiver is an object of class number ci -/
def j_recv (h : jHp) (ci : Nat) : List Value → Bool
  | .ref a :: _ => decide ((hT h a).1 = 10 + ci)
  | _ => false
def j_ret (st : jS) : Option (Option Value × jHp) → Option (Value × jS)
  | some (some v, h) => some (v, (st.1, h))
  | _ => none
def j_retv (st : jS) : Option (Option Value × jHp) → Option (jO × jS)
  | some (none, h) => some (.inl 0, (st.1, h))
  | _ => none
def x_callv (ci : Nat) (f : jF) (as : jS → Option (List Value × jS)) : jE := fun st => jb (as st) fun vs s1 => if j_recv s1.2 ci vs = true then j_ret s1 (f vs s1.2) else none
def x_calls (f : jF) (as : jS → Option (List Value × jS)) : jE := fun st => jb (as st) fun vs s1 => j_ret s1 (f vs s1.2)
def s_callv (ci : Nat) (f : jF) (as : jS → Option (List Value × jS)) : jSt := fun st => jb (as st) fun vs s1 => if j_recv s1.2 ci vs = true then j_retv s1 (f vs s1.2) else none
def s_calls (f : jF) (as : jS → Option (List Value × jS)) : jSt := fun st => jb (as st) fun vs s1 => j_retv s1 (f vs s1.2)
def x_new (ci N : Nat) (f : jF) (as : jS → Option (List Value × jS)) : jE := fun st => jb (as (st.1, hNew st.2 (10 + ci) N)) fun vs s1 => match f (.ref (hN st.2) :: vs) s1.2 with
  | some (none, h) => some (.ref (hN st.2), (s1.1, h))
  | _ => none
def x_newa (kind : Nat) (n : jE) : jE := fun st => jb (n st) fun v s1 => match v with
  | .int i => if 0 ≤ i ∧ i.toNatClampNeg ≤ 1000000 then some (.ref (hN s1.2), (s1.1, hNew s1.2 kind i.toNatClampNeg)) else none
  | _ => none
/-- a field, kept as it was read, and then one more -/
def x_finc (ci k : Nat) (o : jE) : jE := fun st => jb (o st) fun u s1 => match u with
  | .ref a => if (hT s1.2 a).1 = 10 + ci then some (.int (hI s1.2 a k), (s1.1, hSetI s1.2 a k (hI s1.2 a k + 1))) else none
  | _ => none
def x_linc (k : Nat) (n : Int32) : jE := fun st => match st.1[k]? with
  | some (.int x) => some (.int x, (j_lset st.1 k (.int (x + n)), st.2))
  | _ => none

abbrev jcmp : Type := Jvm.ClassFile.Cond
def b_cmp (op : jcmp) (a b : jE) : jB := fun st => jb (a st) fun u s1 => jb (b s1) fun v s2 => match u, v with
  | .int x, .int y => some (if_icmp.holds op x y, s2)
  | _, _ => none
def b_lcmp (op : jcmp) (a b : jE) : jB := fun st => jb (a st) fun u s1 => jb (b s1) fun v s2 => match u, v with
  | .long x, .long y => some (ifCond.holds op (lg_cmp x y), s2)
  | _, _ => none
def b_and (a b : jB) : jB := fun st => jb (a st) fun t s1 => if t then b s1 else some (false, s1)
def b_or (a b : jB) : jB := fun st => jb (a st) fun t s1 => if t then some (true, s1) else b s1
def b_not (a : jB) : jB := fun st => jb (a st) fun t s1 => some (!t, s1)
def b_ofi (a : jE) : jB := fun st => jb (a st) fun u s1 => match u with
  | .int x => some (decide (x ≠ 0), s1)
  | _ => none
def b_true : jB := fun st => some (true, st)

/-- Object's constructor -/
def s_super : jSt := fun st => match st.1[(0 : Nat)]? with
  | some (.ref _) => some (.inl 0, st)
  | _ => none
def s_skip : jSt := fun st => some (.inl 0, st)
def s_seq (a b : jSt) : jSt := fun st => jb (a st) fun o s1 => match o with
  | .inl 0 => b s1
  | o => some (o, s1)
def s_if (c : jB) (a b : jSt) : jSt := fun st => jb (c st) fun t s1 => if t then a s1 else b s1
/-- the type of a local: 0 a number, 1 a reference, 2 a long -/
def j_ty (t : Nat) : Value → Bool
  | .int _ => t == 0
  | .ref _ => t == 1
  | .long _ => t == 2
  | _ => false
def s_set (t k : Nat) (e : jE) : jSt := fun st => jb (e st) fun v s1 => if j_ty t v = true then some (.inl 0, (j_lset s1.1 k v, s1.2)) else none
def s_inc (k : Nat) (n : Int32) : jSt := fun st => match st.1[k]? with
  | some (.int x) => some (.inl 0, (j_lset st.1 k (.int (x + n)), st.2))
  | _ => none
/-- z = 1: the field is a boolean: 0 or 1 alone are put there -/
def j_fput (h : jHp) (ci t z k : Nat) : Value → Value → Option jHp
  | .ref a, .int x => if (hT h a).1 = 10 + ci ∧ t = 0 ∧ (z = 0 ∨ x = 0 ∨ x = 1) then some (hSetI h a k x) else none
  | .ref a, .ref x => if (hT h a).1 = 10 + ci ∧ t = 1 ∧ x ≠ 0 then some (hSetR h a k x) else none
  | _, _ => none
def s_fput (ci t z k : Nat) (o e : jE) : jSt := fun st => jb (o st) fun u s1 => jb (e s1) fun v s2 => match j_fput s2.2 ci t z k u v with
  | some h => some (.inl 0, (s2.1, h))
  | none => none
/-- o.f = o.f op e, o looked at once -/
def s_fop (ci k : Nat) (f : Value → Value → Option Value) (o e : jE) : jSt := fun st => jb (o st) fun u s1 => match j_fget s1.2 ci 0 k u with
  | some w => jb (e s1) fun v s2 => match f w v with
    | some (.int x) => (match j_fput s2.2 ci 0 0 k u (.int x) with
      | some h => some (.inl 0, (s2.1, h))
      | none => none)
    | _ => none
  | none => none
def j_nar (kind : Nat) (x : Int32) : Int32 := if kind = 2 then x.toInt8.toInt32 else if kind = 3 then x &&& 1 else if kind = 4 then x.toUInt32.toUInt16.toUInt32.toInt32 else x
def j_aput (h : jHp) (kind : Nat) : Value → Value → Value → Option jHp
  | .ref a, .int i, .int x => if (hT h a).1 = kind ∧ j_in i (hT h a).2 = true ∧ kind < 5 ∧ 0 < kind then some (hSetI h a i.toNatClampNeg (j_nar kind x)) else none
  | .ref a, .int i, .long x => if (hT h a).1 = kind ∧ j_in i (hT h a).2 = true ∧ kind = 5 then some (hSetJ h a i.toNatClampNeg x) else none
  | .ref a, .int i, .ref x => if (hT h a).1 = kind ∧ j_in i (hT h a).2 = true ∧ kind = 6 ∧ (hT h x).1 = 14 then some (hSetR h a i.toNatClampNeg x) else none
  | _, _, _ => none
def s_aput (kind : Nat) (a i e : jE) : jSt := fun st => jb (a st) fun u s1 => jb (i s1) fun v s2 => jb (e s2) fun w s3 => match j_aput s3.2 kind u v w with
  | some h => some (.inl 0, (s3.1, h))
  | none => none
/-- a[i] = a[i] op e, a and i looked at once -/
def s_aop (kind : Nat) (f : Value → Value → Option Value) (a i e : jE) : jSt := fun st => jb (a st) fun u s1 => jb (i s1) fun v s2 => match j_aget s2.2 kind u v with
  | some w => jb (e s2) fun z s3 => match f w z with
    | some y => (match j_aput s3.2 kind u v y with
      | some h => some (.inl 0, (s3.1, h))
      | none => none)
    | none => none
  | none => none
def j_copy (h : jHp) : List Value → Option jHp
  | [.ref a, .int sp, .ref b, .int dp, .int n] => if (hT h a).1 = 1 ∧ (hT h b).1 = 1 ∧ 0 ≤ sp ∧ 0 ≤ dp ∧ 0 ≤ n ∧ sp.toNatClampNeg + n.toNatClampNeg ≤ (hT h a).2 ∧ dp.toNatClampNeg + n.toNatClampNeg ≤ (hT h b).2 then some (hCopy h a sp.toNatClampNeg b dp.toNatClampNeg n.toNatClampNeg) else none
  | _ => none
def s_copy (as : jS → Option (List Value × jS)) : jSt := fun st => jb (as st) fun vs s1 => match j_copy s1.2 vs with
  | some h => some (.inl 0, (s1.1, h))
  | none => none
/-- an expression for what it does -/
def s_pop (e : jE) : jSt := fun st => jb (e st) fun v s1 => if v.category = 1 then some (.inl 0, s1) else none
def s_ret (e : jE) : jSt := fun st => jb (e st) fun v s1 => some (.inr (some v), s1)
def s_retv : jSt := fun st => some (.inr none, st)
/-- l > 0 names the place to go to -/
def s_go (l : Nat) : jSt := fun st => some (.inl l, st)
def s_sw (e : jE) (br : Int32 → jSt) : jSt := fun st => jb (e st) fun u s1 => match u with
  | .int x => br x s1
  | _ => none
/-- lb is where 'break' goes, lc where 'continue' goes -/
def j_loopN (lb lc : Nat) (c : jB) (b u : jSt) : Nat → jS → Option (jO × jS)
  | 0, _ => none
  | n + 1, st => jb (c st) fun t s1 => if t then jb (b s1) (fun o s2 => match o with
      | .inl k => if k = 0 ∨ k = lc then jb (u s2) (fun o3 s3 => match o3 with
          | .inl 0 => j_loopN lb lc c b u n s3
          | _ => none) else if k = lb then some (.inl 0, s2) else some (.inl k, s2)
      | .inr v => some (.inr v, s2)) else some (.inl 0, s1)
noncomputable def s_loop (lb lc : Nat) (c : jB) (b u : jSt) : jSt := fun st =>
  @dite _ (∃ n r, j_loopN lb lc c b u n st = some r) (Classical.propDecidable _) (fun h => j_loopN lb lc c b u (Classical.choose h) st) (fun _ => none)
/-- the body first, then the condition -/
def j_doN (lb lc : Nat) (b : jSt) (c : jB) : Nat → jS → Option (jO × jS)
  | 0, _ => none
  | n + 1, st => jb (b st) fun o s2 => match o with
      | .inl k => if k = 0 ∨ k = lc then jb (c s2) (fun t s3 => if t then j_doN lb lc b c n s3 else some (.inl 0, s3)) else if k = lb then some (.inl 0, s2) else some (.inl k, s2)
      | .inr v => some (.inr v, s2)
noncomputable def s_do (lb lc : Nat) (b : jSt) (c : jB) : jSt := fun st =>
  @dite _ (∃ n r, j_doN lb lc b c n st = some r) (Classical.propDecidable _) (fun h => j_doN lb lc b c (Classical.choose h) st) (fun _ => none)

/-- the locals at a method's entry -/
def j_pad : List Value → Nat → List Value
  | [], n => List.replicate n .null
  | v :: vs, n => if v.category = 2 then v :: .null :: j_pad vs (n - 2) else v :: j_pad vs (n - 1)
/-- what a method may answer: 0 nothing, 1 an int, 2 a boolean, 3 a long, 4 a reference -/
def j_rok (rt : Nat) : Option Value → Bool
  | none => rt == 0
  | some (.int x) => rt == 1 || (rt == 2 && (x == 0 || x == 1))
  | some (.long _) => rt == 3
  | some (.ref _) => rt == 4
  | _ => false
def j_out (rt : Nat) : Option (jO × jS) → Option (Option Value × jHp)
  | some (.inr v, st) => if j_rok rt v = true then some (v, st.2) else none
  | _ => none
def j_meth (rt nL : Nat) (body : jSt) : jF := fun args h => if (lg_sl args).length ≤ nL then j_out rt (body (j_pad args nL, h)) else none
def s_fail : jSt := fun _ => none
def s_tsw (lo : Int) (ss : List jSt) (d : jSt) : Int32 → jSt := fun x => if x.toInt < lo then d else (ss[(x.toInt - lo).toNat]?).getD d
def s_lsw : List (Int × jSt) → jSt → Int32 → jSt
  | [], d => fun _ => d
  | (k, s) :: r, d => fun x => if x.toInt = k then s else s_lsw r d x
