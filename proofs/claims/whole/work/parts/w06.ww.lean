/-! ONE INSTRUCTION OF THE MACHINE, over the clean state -/
/-- own class, bytes, locals, frames, words of locals, the return instruction, whether it is a constructor -/
abbrev jMs : Type := String × ByteArray × Nat × Nat × Nat × Instr × Bool
abbrev jG : Type := Program × Launch × Env × Room × State × MethodId × Array Value × List Frame × Method × Code × (State → Prop)
/-- the clean addresses' ground; the machine; cells and slots at the start; the heap and the answer at the end -/
abbrev jC : Type := jX × jG × Nat × Nat × jHp × Option Value
def WW (M : jMs) (C : jC) (pc : Nat) (L stk : List Value) (h : jHp) : Prop := match C with
  | (X, (p, l, e, R, s, m, args, below, meth, c, Q), n0, s0, _, _) => ∀ (ls : Array Slot) (H : Heap) (locs : List Loc), jLok X.1 ls M.2.2.1 L → HRel X h H → (∀ q ∈ locs, X.1 < q.base) → n0 ≤ hN h → s0 ≤ hS h →
    W p l e R s m args below meth c H locs (hN h - n0) (hS h - s0) Q (F0 m pc ls (stk.map (mv X.1)))
def GOK (M : jMs) (C : jC) : Prop := match C with
  | (X, (p, l, e, R, s, m, args, below, meth, c, Q), n0, s0, hE, rv) => p.tables.exec = Jvm.exec ∧ c.code = M.2.1 ∧ c.maxLocals = M.2.2.1 ∧ s.vm.findClass M.1 = some m.cls ∧ (∀ w ∈ jtbl, w.before args s = true) ∧ jK X s ∧ (M.2.2.2.2.2.2 = true → meth.name = "<init>") ∧
    (M.2.2.2.1 ≤ R.frames ∧ M.2.2.2.2.1 ≤ R.locals ∧ hN hE - n0 ≤ R.cells ∧ hS hE - s0 ≤ R.slots) ∧
    (∀ (pc : Nat) (ls : Array Slot) (H : Heap) (locs : List Loc), decode M.2.1 pc = .ok (M.2.2.2.2.2.1, 1) → HRel X hE H → (∀ q ∈ locs, X.1 < q.base) → n0 ≤ hN hE → s0 ≤ hS hE →
      W p l e R s m args below meth c H locs (hN hE - n0) (hS hE - s0) Q (F0 m pc ls ((rv.map (mv X.1)).toList)))
section WWrows
variable {M : jMs} {C : jC} {pc : Nat} {L stk : List Value} {h : jHp}
theorem ww_iconst {n : Int} {v : Int32} (hG : GOK M C) (hd : decode M.2.1 pc = .ok (.iconst n, 1)) (hv : Int32.ofInt n = v) (K : WW M C (pc + 1) L (.int v :: stk) h) : WW M C pc L (stk) h := by
  obtain ⟨X, ⟨p, l, e, R, s, m, args, below, meth, c, Q⟩, n0, s0, hE, rv⟩ := C
  obtain ⟨hx, hb, hml, hown, hts, hK, hin, hrm, hret⟩ := hG
  exact fun ls H locs a1 a2 a3 a4 a5 => lv_iconst hx hb hd hv (K ls H locs a1 a2 a3 a4 a5)
theorem ww_bipush {n : Int} {v : Int32} (hG : GOK M C) (hd : decode M.2.1 pc = .ok (.bipush n, 2)) (hv : (Int8.ofInt n).toInt32 = v) (K : WW M C (pc + 2) L (.int v :: stk) h) : WW M C pc L (stk) h := by
  obtain ⟨X, ⟨p, l, e, R, s, m, args, below, meth, c, Q⟩, n0, s0, hE, rv⟩ := C
  obtain ⟨hx, hb, hml, hown, hts, hK, hin, hrm, hret⟩ := hG
  exact fun ls H locs a1 a2 a3 a4 a5 => lv_bipush hx hb hd hv (K ls H locs a1 a2 a3 a4 a5)
theorem ww_sipush {n : Int} {v : Int32} (hG : GOK M C) (hd : decode M.2.1 pc = .ok (.sipush n, 3)) (hv : (Int16.ofInt n).toInt32 = v) (K : WW M C (pc + 3) L (.int v :: stk) h) : WW M C pc L (stk) h := by
  obtain ⟨X, ⟨p, l, e, R, s, m, args, below, meth, c, Q⟩, n0, s0, hE, rv⟩ := C
  obtain ⟨hx, hb, hml, hown, hts, hK, hin, hrm, hret⟩ := hG
  exact fun ls H locs a1 a2 a3 a4 a5 => lv_sipush hx hb hd hv (K ls H locs a1 a2 a3 a4 a5)
theorem ww_lconst {n : Fin 2} {v : Int64} (hG : GOK M C) (hd : decode M.2.1 pc = .ok (.lconst n, 1)) (hv : Int64.ofNat (n : Nat) = v) (K : WW M C (pc + 1) L (.long v :: stk) h) : WW M C pc L (stk) h := by
  obtain ⟨X, ⟨p, l, e, R, s, m, args, below, meth, c, Q⟩, n0, s0, hE, rv⟩ := C
  obtain ⟨hx, hb, hml, hown, hts, hK, hin, hrm, hret⟩ := hG
  exact fun ls H locs a1 a2 a3 a4 a5 => lv_lconst hx hb hd hv (K ls H locs a1 a2 a3 a4 a5)
theorem ww_ldc {i : Nat} {v : Int32} (hG : GOK M C) (hd : decode M.2.1 pc = .ok (.ldc i, 2)) (hw : Jvm.Cond.constant M.1 i v ∈ jtbl) (K : WW M C (pc + 2) L (.int v :: stk) h) : WW M C pc L (stk) h := by
  obtain ⟨X, ⟨p, l, e, R, s, m, args, below, meth, c, Q⟩, n0, s0, hE, rv⟩ := C
  obtain ⟨hx, hb, hml, hown, hts, hK, hin, hrm, hret⟩ := hG
  exact fun ls H locs a1 a2 a3 a4 a5 => lv_ldc hx hb hown (hts _ hw) hd (K ls H locs a1 a2 a3 a4 a5)
theorem ww_ldcw {i : Nat} {v : Int32} (hG : GOK M C) (hd : decode M.2.1 pc = .ok (.ldc_w i, 3)) (hw : Jvm.Cond.constant M.1 i v ∈ jtbl) (K : WW M C (pc + 3) L (.int v :: stk) h) : WW M C pc L (stk) h := by
  obtain ⟨X, ⟨p, l, e, R, s, m, args, below, meth, c, Q⟩, n0, s0, hE, rv⟩ := C
  obtain ⟨hx, hb, hml, hown, hts, hK, hin, hrm, hret⟩ := hG
  exact fun ls H locs a1 a2 a3 a4 a5 => lv_ldcw hx hb hown (hts _ hw) hd (K ls H locs a1 a2 a3 a4 a5)
theorem ww_ldc2 {i : Nat} {v : Int64} (hG : GOK M C) (hd : decode M.2.1 pc = .ok (.ldc2_w i, 3)) (hw : Jvm.Cond.constantLong M.1 i v ∈ jtbl) (K : WW M C (pc + 3) L (.long v :: stk) h) : WW M C pc L (stk) h := by
  obtain ⟨X, ⟨p, l, e, R, s, m, args, below, meth, c, Q⟩, n0, s0, hE, rv⟩ := C
  obtain ⟨hx, hb, hml, hown, hts, hK, hin, hrm, hret⟩ := hG
  exact fun ls H locs a1 a2 a3 a4 a5 => lv_ldc2 hx hb hown (hts _ hw) hd (K ls H locs a1 a2 a3 a4 a5)
theorem ww_iload_n {k : Fin 4} {x : Int32} (hG : GOK M C) (hd : decode M.2.1 pc = .ok (.iload_n k, 1)) (hv : L[(k : Nat)]? = some (.int x)) (K : WW M C (pc + 1) L (.int x :: stk) h) : WW M C pc L (stk) h := by
  obtain ⟨X, ⟨p, l, e, R, s, m, args, below, meth, c, Q⟩, n0, s0, hE, rv⟩ := C
  obtain ⟨hx, hb, hml, hown, hts, hK, hin, hrm, hret⟩ := hG
  exact fun ls H locs a1 a2 a3 a4 a5 => lv_iload_n hx hb hd rfl (a1.2.2 _ _ hv (by simp)) (K ls H locs a1 a2 a3 a4 a5)
theorem ww_iload {k : Nat} {x : Int32} (hG : GOK M C) (hd : decode M.2.1 pc = .ok (.iload k, 2)) (hv : L[k]? = some (.int x)) (K : WW M C (pc + 2) L (.int x :: stk) h) : WW M C pc L (stk) h := by
  obtain ⟨X, ⟨p, l, e, R, s, m, args, below, meth, c, Q⟩, n0, s0, hE, rv⟩ := C
  obtain ⟨hx, hb, hml, hown, hts, hK, hin, hrm, hret⟩ := hG
  exact fun ls H locs a1 a2 a3 a4 a5 => lv_iload hx hb hd (a1.2.2 _ _ hv (by simp)) (K ls H locs a1 a2 a3 a4 a5)
theorem ww_lload_n {k : Fin 4} {x : Int64} (hG : GOK M C) (hd : decode M.2.1 pc = .ok (.lload_n k, 1)) (hv : L[(k : Nat)]? = some (.long x)) (K : WW M C (pc + 1) L (.long x :: stk) h) : WW M C pc L (stk) h := by
  obtain ⟨X, ⟨p, l, e, R, s, m, args, below, meth, c, Q⟩, n0, s0, hE, rv⟩ := C
  obtain ⟨hx, hb, hml, hown, hts, hK, hin, hrm, hret⟩ := hG
  exact fun ls H locs a1 a2 a3 a4 a5 => lv_lload_n hx hb hd rfl (a1.2.2 _ _ hv (by simp)) (K ls H locs a1 a2 a3 a4 a5)
theorem ww_lload {k : Nat} {x : Int64} (hG : GOK M C) (hd : decode M.2.1 pc = .ok (.lload k, 2)) (hv : L[k]? = some (.long x)) (K : WW M C (pc + 2) L (.long x :: stk) h) : WW M C pc L (stk) h := by
  obtain ⟨X, ⟨p, l, e, R, s, m, args, below, meth, c, Q⟩, n0, s0, hE, rv⟩ := C
  obtain ⟨hx, hb, hml, hown, hts, hK, hin, hrm, hret⟩ := hG
  exact fun ls H locs a1 a2 a3 a4 a5 => lv_lload hx hb hd (a1.2.2 _ _ hv (by simp)) (K ls H locs a1 a2 a3 a4 a5)
theorem ww_aload_n {k : Fin 4} {x : Nat} (hG : GOK M C) (hd : decode M.2.1 pc = .ok (.aload_n k, 1)) (hv : L[(k : Nat)]? = some (.ref x)) (K : WW M C (pc + 1) L (.ref x :: stk) h) : WW M C pc L (stk) h := by
  obtain ⟨X, ⟨p, l, e, R, s, m, args, below, meth, c, Q⟩, n0, s0, hE, rv⟩ := C
  obtain ⟨hx, hb, hml, hown, hts, hK, hin, hrm, hret⟩ := hG
  exact fun ls H locs a1 a2 a3 a4 a5 => lv_aload_n hx hb hd rfl (a1.2.2 _ _ hv (by simp)) (K ls H locs a1 a2 a3 a4 a5)
theorem ww_aload {k : Nat} {x : Nat} (hG : GOK M C) (hd : decode M.2.1 pc = .ok (.aload k, 2)) (hv : L[k]? = some (.ref x)) (K : WW M C (pc + 2) L (.ref x :: stk) h) : WW M C pc L (stk) h := by
  obtain ⟨X, ⟨p, l, e, R, s, m, args, below, meth, c, Q⟩, n0, s0, hE, rv⟩ := C
  obtain ⟨hx, hb, hml, hown, hts, hK, hin, hrm, hret⟩ := hG
  exact fun ls H locs a1 a2 a3 a4 a5 => lv_aload hx hb hd (a1.2.2 _ _ hv (by simp)) (K ls H locs a1 a2 a3 a4 a5)
theorem ww_iadd {x y : Int32} (hG : GOK M C) (hd : decode M.2.1 pc = .ok (.iadd, 1)) (K : WW M C (pc + 1) L (.int (x + y) :: stk) h) : WW M C pc L (.int y :: .int x :: stk) h := by
  obtain ⟨X, ⟨p, l, e, R, s, m, args, below, meth, c, Q⟩, n0, s0, hE, rv⟩ := C
  obtain ⟨hx, hb, hml, hown, hts, hK, hin, hrm, hret⟩ := hG
  exact fun ls H locs a1 a2 a3 a4 a5 => lv_iadd hx hb hd (K ls H locs a1 a2 a3 a4 a5)
theorem ww_isub {x y : Int32} (hG : GOK M C) (hd : decode M.2.1 pc = .ok (.isub, 1)) (K : WW M C (pc + 1) L (.int (x - y) :: stk) h) : WW M C pc L (.int y :: .int x :: stk) h := by
  obtain ⟨X, ⟨p, l, e, R, s, m, args, below, meth, c, Q⟩, n0, s0, hE, rv⟩ := C
  obtain ⟨hx, hb, hml, hown, hts, hK, hin, hrm, hret⟩ := hG
  exact fun ls H locs a1 a2 a3 a4 a5 => lv_isub hx hb hd (K ls H locs a1 a2 a3 a4 a5)
theorem ww_imul {x y : Int32} (hG : GOK M C) (hd : decode M.2.1 pc = .ok (.imul, 1)) (K : WW M C (pc + 1) L (.int (x * y) :: stk) h) : WW M C pc L (.int y :: .int x :: stk) h := by
  obtain ⟨X, ⟨p, l, e, R, s, m, args, below, meth, c, Q⟩, n0, s0, hE, rv⟩ := C
  obtain ⟨hx, hb, hml, hown, hts, hK, hin, hrm, hret⟩ := hG
  exact fun ls H locs a1 a2 a3 a4 a5 => lv_imul hx hb hd (K ls H locs a1 a2 a3 a4 a5)
theorem ww_iand {x y : Int32} (hG : GOK M C) (hd : decode M.2.1 pc = .ok (.iand, 1)) (K : WW M C (pc + 1) L (.int (x &&& y) :: stk) h) : WW M C pc L (.int y :: .int x :: stk) h := by
  obtain ⟨X, ⟨p, l, e, R, s, m, args, below, meth, c, Q⟩, n0, s0, hE, rv⟩ := C
  obtain ⟨hx, hb, hml, hown, hts, hK, hin, hrm, hret⟩ := hG
  exact fun ls H locs a1 a2 a3 a4 a5 => lv_iand hx hb hd (K ls H locs a1 a2 a3 a4 a5)
theorem ww_ior {x y : Int32} (hG : GOK M C) (hd : decode M.2.1 pc = .ok (.ior, 1)) (K : WW M C (pc + 1) L (.int (x ||| y) :: stk) h) : WW M C pc L (.int y :: .int x :: stk) h := by
  obtain ⟨X, ⟨p, l, e, R, s, m, args, below, meth, c, Q⟩, n0, s0, hE, rv⟩ := C
  obtain ⟨hx, hb, hml, hown, hts, hK, hin, hrm, hret⟩ := hG
  exact fun ls H locs a1 a2 a3 a4 a5 => lv_ior hx hb hd (K ls H locs a1 a2 a3 a4 a5)
theorem ww_ixor {x y : Int32} (hG : GOK M C) (hd : decode M.2.1 pc = .ok (.ixor, 1)) (K : WW M C (pc + 1) L (.int (x ^^^ y) :: stk) h) : WW M C pc L (.int y :: .int x :: stk) h := by
  obtain ⟨X, ⟨p, l, e, R, s, m, args, below, meth, c, Q⟩, n0, s0, hE, rv⟩ := C
  obtain ⟨hx, hb, hml, hown, hts, hK, hin, hrm, hret⟩ := hG
  exact fun ls H locs a1 a2 a3 a4 a5 => lv_ixor hx hb hd (K ls H locs a1 a2 a3 a4 a5)
theorem ww_ishl {x y : Int32} (hG : GOK M C) (hd : decode M.2.1 pc = .ok (.ishl, 1)) (K : WW M C (pc + 1) L (.int (x <<< (y &&& 31)) :: stk) h) : WW M C pc L (.int y :: .int x :: stk) h := by
  obtain ⟨X, ⟨p, l, e, R, s, m, args, below, meth, c, Q⟩, n0, s0, hE, rv⟩ := C
  obtain ⟨hx, hb, hml, hown, hts, hK, hin, hrm, hret⟩ := hG
  exact fun ls H locs a1 a2 a3 a4 a5 => lv_ishl hx hb hd (K ls H locs a1 a2 a3 a4 a5)
theorem ww_ishr {x y : Int32} (hG : GOK M C) (hd : decode M.2.1 pc = .ok (.ishr, 1)) (K : WW M C (pc + 1) L (.int (x >>> (y &&& 31)) :: stk) h) : WW M C pc L (.int y :: .int x :: stk) h := by
  obtain ⟨X, ⟨p, l, e, R, s, m, args, below, meth, c, Q⟩, n0, s0, hE, rv⟩ := C
  obtain ⟨hx, hb, hml, hown, hts, hK, hin, hrm, hret⟩ := hG
  exact fun ls H locs a1 a2 a3 a4 a5 => lv_ishr hx hb hd (K ls H locs a1 a2 a3 a4 a5)
theorem ww_iushr {x y : Int32} (hG : GOK M C) (hd : decode M.2.1 pc = .ok (.iushr, 1)) (K : WW M C (pc + 1) L (.int (x.toUInt32 >>> (y.toUInt32 &&& Int32.toUInt32 31)).toInt32 :: stk) h) : WW M C pc L (.int y :: .int x :: stk) h := by
  obtain ⟨X, ⟨p, l, e, R, s, m, args, below, meth, c, Q⟩, n0, s0, hE, rv⟩ := C
  obtain ⟨hx, hb, hml, hown, hts, hK, hin, hrm, hret⟩ := hG
  exact fun ls H locs a1 a2 a3 a4 a5 => lv_iushr hx hb hd rfl (K ls H locs a1 a2 a3 a4 a5)
theorem ww_idiv {x y : Int32} (hG : GOK M C) (hd : decode M.2.1 pc = .ok (.idiv, 1)) (hy : ¬ y = 0) (K : WW M C (pc + 1) L (.int (x / y) :: stk) h) : WW M C pc L (.int y :: .int x :: stk) h := by
  obtain ⟨X, ⟨p, l, e, R, s, m, args, below, meth, c, Q⟩, n0, s0, hE, rv⟩ := C
  obtain ⟨hx, hb, hml, hown, hts, hK, hin, hrm, hret⟩ := hG
  exact fun ls H locs a1 a2 a3 a4 a5 => lv_idiv hx hb hd hy (K ls H locs a1 a2 a3 a4 a5)
theorem ww_irem {x y : Int32} (hG : GOK M C) (hd : decode M.2.1 pc = .ok (.irem, 1)) (hy : ¬ y = 0) (K : WW M C (pc + 1) L (.int (x - x / y * y) :: stk) h) : WW M C pc L (.int y :: .int x :: stk) h := by
  obtain ⟨X, ⟨p, l, e, R, s, m, args, below, meth, c, Q⟩, n0, s0, hE, rv⟩ := C
  obtain ⟨hx, hb, hml, hown, hts, hK, hin, hrm, hret⟩ := hG
  exact fun ls H locs a1 a2 a3 a4 a5 => lv_irem hx hb hd hy (K ls H locs a1 a2 a3 a4 a5)
theorem ww_lsub {x y : Int64} (hG : GOK M C) (hd : decode M.2.1 pc = .ok (.lsub, 1)) (K : WW M C (pc + 1) L (.long (x - y) :: stk) h) : WW M C pc L (.long y :: .long x :: stk) h := by
  obtain ⟨X, ⟨p, l, e, R, s, m, args, below, meth, c, Q⟩, n0, s0, hE, rv⟩ := C
  obtain ⟨hx, hb, hml, hown, hts, hK, hin, hrm, hret⟩ := hG
  exact fun ls H locs a1 a2 a3 a4 a5 => lv_lsub hx hb hd (K ls H locs a1 a2 a3 a4 a5)
theorem ww_land {x y : Int64} (hG : GOK M C) (hd : decode M.2.1 pc = .ok (.land, 1)) (K : WW M C (pc + 1) L (.long (x &&& y) :: stk) h) : WW M C pc L (.long y :: .long x :: stk) h := by
  obtain ⟨X, ⟨p, l, e, R, s, m, args, below, meth, c, Q⟩, n0, s0, hE, rv⟩ := C
  obtain ⟨hx, hb, hml, hown, hts, hK, hin, hrm, hret⟩ := hG
  exact fun ls H locs a1 a2 a3 a4 a5 => lv_land hx hb hd (K ls H locs a1 a2 a3 a4 a5)
theorem ww_lor {x y : Int64} (hG : GOK M C) (hd : decode M.2.1 pc = .ok (.lor, 1)) (K : WW M C (pc + 1) L (.long (x ||| y) :: stk) h) : WW M C pc L (.long y :: .long x :: stk) h := by
  obtain ⟨X, ⟨p, l, e, R, s, m, args, below, meth, c, Q⟩, n0, s0, hE, rv⟩ := C
  obtain ⟨hx, hb, hml, hown, hts, hK, hin, hrm, hret⟩ := hG
  exact fun ls H locs a1 a2 a3 a4 a5 => lv_lor hx hb hd (K ls H locs a1 a2 a3 a4 a5)
theorem ww_lushr {x : Int64} {y : Int32} (hG : GOK M C) (hd : decode M.2.1 pc = .ok (.lushr, 1)) (K : WW M C (pc + 1) L (.long (x.toUInt64 >>> (y.toInt64.toUInt64 &&& Int64.toUInt64 63)).toInt64 :: stk) h) : WW M C pc L (.int y :: .long x :: stk) h := by
  obtain ⟨X, ⟨p, l, e, R, s, m, args, below, meth, c, Q⟩, n0, s0, hE, rv⟩ := C
  obtain ⟨hx, hb, hml, hown, hts, hK, hin, hrm, hret⟩ := hG
  exact fun ls H locs a1 a2 a3 a4 a5 => lv_lushr hx hb hd rfl (K ls H locs a1 a2 a3 a4 a5)
theorem ww_lshl {x : Int64} {y : Int32} (hG : GOK M C) (hd : decode M.2.1 pc = .ok (.lshl, 1)) (K : WW M C (pc + 1) L (.long (x <<< (y.toInt64 &&& 63)) :: stk) h) : WW M C pc L (.int y :: .long x :: stk) h := by
  obtain ⟨X, ⟨p, l, e, R, s, m, args, below, meth, c, Q⟩, n0, s0, hE, rv⟩ := C
  obtain ⟨hx, hb, hml, hown, hts, hK, hin, hrm, hret⟩ := hG
  exact fun ls H locs a1 a2 a3 a4 a5 => lv_lshl hx hb hd rfl (K ls H locs a1 a2 a3 a4 a5)
theorem ww_i2l {x : Int32} (hG : GOK M C) (hd : decode M.2.1 pc = .ok (.i2l, 1)) (K : WW M C (pc + 1) L (.long x.toInt64 :: stk) h) : WW M C pc L (.int x :: stk) h := by
  obtain ⟨X, ⟨p, l, e, R, s, m, args, below, meth, c, Q⟩, n0, s0, hE, rv⟩ := C
  obtain ⟨hx, hb, hml, hown, hts, hK, hin, hrm, hret⟩ := hG
  exact fun ls H locs a1 a2 a3 a4 a5 => lv_i2l hx hb hd rfl (K ls H locs a1 a2 a3 a4 a5)
theorem ww_l2i {x : Int64} (hG : GOK M C) (hd : decode M.2.1 pc = .ok (.l2i, 1)) (K : WW M C (pc + 1) L (.int x.toInt32 :: stk) h) : WW M C pc L (.long x :: stk) h := by
  obtain ⟨X, ⟨p, l, e, R, s, m, args, below, meth, c, Q⟩, n0, s0, hE, rv⟩ := C
  obtain ⟨hx, hb, hml, hown, hts, hK, hin, hrm, hret⟩ := hG
  exact fun ls H locs a1 a2 a3 a4 a5 => lv_l2i hx hb hd rfl (K ls H locs a1 a2 a3 a4 a5)
theorem ww_i2b {x : Int32} (hG : GOK M C) (hd : decode M.2.1 pc = .ok (.i2b, 1)) (K : WW M C (pc + 1) L (.int x.toInt8.toInt32 :: stk) h) : WW M C pc L (.int x :: stk) h := by
  obtain ⟨X, ⟨p, l, e, R, s, m, args, below, meth, c, Q⟩, n0, s0, hE, rv⟩ := C
  obtain ⟨hx, hb, hml, hown, hts, hK, hin, hrm, hret⟩ := hG
  exact fun ls H locs a1 a2 a3 a4 a5 => lv_i2b hx hb hd rfl (K ls H locs a1 a2 a3 a4 a5)
theorem ww_i2c {x : Int32} (hG : GOK M C) (hd : decode M.2.1 pc = .ok (.i2c, 1)) (K : WW M C (pc + 1) L (.int (x.toUInt32 % 65536).toInt32 :: stk) h) : WW M C pc L (.int x :: stk) h := by
  obtain ⟨X, ⟨p, l, e, R, s, m, args, below, meth, c, Q⟩, n0, s0, hE, rv⟩ := C
  obtain ⟨hx, hb, hml, hown, hts, hK, hin, hrm, hret⟩ := hG
  exact fun ls H locs a1 a2 a3 a4 a5 => lv_i2c hx hb hd rfl (K ls H locs a1 a2 a3 a4 a5)
theorem ww_lcmp {x y : Int64} (hG : GOK M C) (hd : decode M.2.1 pc = .ok (.lcmp, 1)) (K : WW M C (pc + 1) L (.int (lg_cmp x y) :: stk) h) : WW M C pc L (.long y :: .long x :: stk) h := by
  obtain ⟨X, ⟨p, l, e, R, s, m, args, below, meth, c, Q⟩, n0, s0, hE, rv⟩ := C
  obtain ⟨hx, hb, hml, hown, hts, hK, hin, hrm, hret⟩ := hG
  exact fun ls H locs a1 a2 a3 a4 a5 => W.lcmp hx hb hd (K ls H locs a1 a2 a3 a4 a5)
theorem ww_dup {v : Value} (hG : GOK M C) (hd : decode M.2.1 pc = .ok (.dup, 1)) (hv : v.category = 1) (K : WW M C (pc + 1) L (v :: v :: stk) h) : WW M C pc L (v :: stk) h := by
  obtain ⟨X, ⟨p, l, e, R, s, m, args, below, meth, c, Q⟩, n0, s0, hE, rv⟩ := C
  obtain ⟨hx, hb, hml, hown, hts, hK, hin, hrm, hret⟩ := hG
  exact fun ls H locs a1 a2 a3 a4 a5 => lv_dup hx hb hd (by rw [mv_cat]; exact hv) (K ls H locs a1 a2 a3 a4 a5)
theorem ww_pop {v : Value} (hG : GOK M C) (hd : decode M.2.1 pc = .ok (.pop, 1)) (hv : v.category = 1) (K : WW M C (pc + 1) L (stk) h) : WW M C pc L (v :: stk) h := by
  obtain ⟨X, ⟨p, l, e, R, s, m, args, below, meth, c, Q⟩, n0, s0, hE, rv⟩ := C
  obtain ⟨hx, hb, hml, hown, hts, hK, hin, hrm, hret⟩ := hG
  exact fun ls H locs a1 a2 a3 a4 a5 => lv_pop hx hb hd (by rw [mv_cat]; exact hv) (K ls H locs a1 a2 a3 a4 a5)
theorem ww_dup_x1 {v w : Value} (hG : GOK M C) (hd : decode M.2.1 pc = .ok (.dup_x1, 1)) (hv : v.category = 1) (hw : w.category = 1) (K : WW M C (pc + 1) L (v :: w :: v :: stk) h) : WW M C pc L (v :: w :: stk) h := by
  obtain ⟨X, ⟨p, l, e, R, s, m, args, below, meth, c, Q⟩, n0, s0, hE, rv⟩ := C
  obtain ⟨hx, hb, hml, hown, hts, hK, hin, hrm, hret⟩ := hG
  exact fun ls H locs a1 a2 a3 a4 a5 => lv_dup_x1 hx hb hd (by rw [mv_cat]; exact hv) (by rw [mv_cat]; exact hw) (K ls H locs a1 a2 a3 a4 a5)
theorem ww_dup2 {v w : Value} (hG : GOK M C) (hd : decode M.2.1 pc = .ok (.dup2, 1)) (hv : v.category = 1) (hw : w.category = 1) (K : WW M C (pc + 1) L (v :: w :: v :: w :: stk) h) : WW M C pc L (v :: w :: stk) h := by
  obtain ⟨X, ⟨p, l, e, R, s, m, args, below, meth, c, Q⟩, n0, s0, hE, rv⟩ := C
  obtain ⟨hx, hb, hml, hown, hts, hK, hin, hrm, hret⟩ := hG
  exact fun ls H locs a1 a2 a3 a4 a5 => lv_dup2_11 hx hb hd (by rw [mv_cat]; exact hv) (by rw [mv_cat]; exact hw) (K ls H locs a1 a2 a3 a4 a5)
theorem ww_istore {k : Nat} {x : Int32} (hG : GOK M C) (hd : decode M.2.1 pc = .ok (.istore k, 2)) (hn : k < M.2.2.1) (K : WW M C (pc + 2) (j_lset L k (.int x)) stk h) : WW M C pc L (.int x :: stk) h := by
  obtain ⟨X, ⟨p, l, e, R, s, m, args, below, meth, c, Q⟩, n0, s0, hE, rv⟩ := C
  obtain ⟨hx, hb, hml, hown, hts, hK, hin, hrm, hret⟩ := hG
  exact fun ls H locs a1 a2 a3 a4 a5 => lv_istore hx hb hd a1.has hn rfl (fun ls' g => K ls' H locs (j_has1 rfl g) a2 a3 a4 a5)
theorem ww_istore_n {k : Fin 4} {x : Int32} (hG : GOK M C) (hd : decode M.2.1 pc = .ok (.istore_n k, 1)) (hn : (k : Nat) < M.2.2.1) (K : WW M C (pc + 1) (j_lset L (k : Nat) (.int x)) stk h) : WW M C pc L (.int x :: stk) h := by
  obtain ⟨X, ⟨p, l, e, R, s, m, args, below, meth, c, Q⟩, n0, s0, hE, rv⟩ := C
  obtain ⟨hx, hb, hml, hown, hts, hK, hin, hrm, hret⟩ := hG
  exact fun ls H locs a1 a2 a3 a4 a5 => lv_istore_n hx hb hd rfl a1.has hn rfl (fun ls' g => K ls' H locs (j_has1 rfl g) a2 a3 a4 a5)
theorem ww_astore {k : Nat} {x : Nat} (hG : GOK M C) (hd : decode M.2.1 pc = .ok (.astore k, 2)) (hn : k < M.2.2.1) (K : WW M C (pc + 2) (j_lset L k (.ref x)) stk h) : WW M C pc L (.ref x :: stk) h := by
  obtain ⟨X, ⟨p, l, e, R, s, m, args, below, meth, c, Q⟩, n0, s0, hE, rv⟩ := C
  obtain ⟨hx, hb, hml, hown, hts, hK, hin, hrm, hret⟩ := hG
  exact fun ls H locs a1 a2 a3 a4 a5 => lv_astore hx hb hd a1.has hn rfl (fun ls' g => K ls' H locs (j_has1 rfl g) a2 a3 a4 a5)
theorem ww_astore_n {k : Fin 4} {x : Nat} (hG : GOK M C) (hd : decode M.2.1 pc = .ok (.astore_n k, 1)) (hn : (k : Nat) < M.2.2.1) (K : WW M C (pc + 1) (j_lset L (k : Nat) (.ref x)) stk h) : WW M C pc L (.ref x :: stk) h := by
  obtain ⟨X, ⟨p, l, e, R, s, m, args, below, meth, c, Q⟩, n0, s0, hE, rv⟩ := C
  obtain ⟨hx, hb, hml, hown, hts, hK, hin, hrm, hret⟩ := hG
  exact fun ls H locs a1 a2 a3 a4 a5 => lv_astore_n hx hb hd rfl a1.has hn rfl (fun ls' g => K ls' H locs (j_has1 rfl g) a2 a3 a4 a5)
theorem ww_lstore {k : Nat} {x : Int64} (hG : GOK M C) (hd : decode M.2.1 pc = .ok (.lstore k, 2)) (hn : k + 1 < M.2.2.1) (K : WW M C (pc + 2) (j_lset L k (.long x)) stk h) : WW M C pc L (.long x :: stk) h := by
  obtain ⟨X, ⟨p, l, e, R, s, m, args, below, meth, c, Q⟩, n0, s0, hE, rv⟩ := C
  obtain ⟨hx, hb, hml, hown, hts, hK, hin, hrm, hret⟩ := hG
  exact fun ls H locs a1 a2 a3 a4 a5 => lv_lstore hx hb hd a1.has hn rfl (fun ls' g => K ls' H locs (j_has2 g) a2 a3 a4 a5)
theorem ww_lstore_n {k : Fin 4} {x : Int64} (hG : GOK M C) (hd : decode M.2.1 pc = .ok (.lstore_n k, 1)) (hn : (k : Nat) + 1 < M.2.2.1) (K : WW M C (pc + 1) (j_lset L (k : Nat) (.long x)) stk h) : WW M C pc L (.long x :: stk) h := by
  obtain ⟨X, ⟨p, l, e, R, s, m, args, below, meth, c, Q⟩, n0, s0, hE, rv⟩ := C
  obtain ⟨hx, hb, hml, hown, hts, hK, hin, hrm, hret⟩ := hG
  exact fun ls H locs a1 a2 a3 a4 a5 => lv_lstore_n hx hb hd rfl a1.has hn rfl (fun ls' g => K ls' H locs (j_has2 g) a2 a3 a4 a5)
theorem ww_iinc {k : Nat} {n : Int} {x v : Int32} (hG : GOK M C) (hd : decode M.2.1 pc = .ok (.iinc k n, 3)) (hL : L[k]? = some (.int x)) (hv : x + Int32.ofInt n = v) (hn : k < M.2.2.1) (K : WW M C (pc + 3) (j_lset L k (.int v)) stk h) : WW M C pc L stk h := by
  obtain ⟨X, ⟨p, l, e, R, s, m, args, below, meth, c, Q⟩, n0, s0, hE, rv⟩ := C
  obtain ⟨hx, hb, hml, hown, hts, hK, hin, hrm, hret⟩ := hG
  intro ls H locs a1 a2 a3 a4 a5
  obtain ⟨q, hq⟩ := jlp_idx (off := X.1) hL (by simp)
  exact lv_iinc hx hb hd a1.has hq hv hn rfl (fun ls' g => K ls' H locs (j_has1 (x := .int v) rfl g) a2 a3 a4 a5)
theorem ww_goto {off : Int} {tgt : Nat} (hG : GOK M C) (hd : decode M.2.1 pc = .ok (.goto off, 3)) (ht : (pc : Int) + off = (tgt : Int)) (K : WW M C tgt L stk h) : WW M C pc L stk h := by
  obtain ⟨X, ⟨p, l, e, R, s, m, args, below, meth, c, Q⟩, n0, s0, hE, rv⟩ := C
  obtain ⟨hx, hb, hml, hown, hts, hK, hin, hrm, hret⟩ := hG
  exact fun ls H locs a1 a2 a3 a4 a5 => lv_goto hx hb hd ht (K ls H locs a1 a2 a3 a4 a5)
theorem ww_icmp {op : jcmp} {x y : Int32} {off : Int} {tgt : Nat} (hG : GOK M C) (hd : decode M.2.1 pc = .ok (.if_icmp op off, 3)) (ht : (pc : Int) + off = (tgt : Int)) (Kt : if_icmp.holds op x y = true → WW M C tgt L stk h) (Kf : if_icmp.holds op x y = false → WW M C (pc + 3) L stk h) : WW M C pc L (.int y :: .int x :: stk) h := by
  obtain ⟨X, ⟨p, l, e, R, s, m, args, below, meth, c, Q⟩, n0, s0, hE, rv⟩ := C
  obtain ⟨hx, hb, hml, hown, hts, hK, hin, hrm, hret⟩ := hG
  intro ls H locs a1 a2 a3 a4 a5
  cases op
  · exact lv_icmp_eq hx hb hd ht (fun q => Kt (by simp [if_icmp.holds, q]) ls H locs a1 a2 a3 a4 a5) (fun q => Kf (by simp [if_icmp.holds, q]) ls H locs a1 a2 a3 a4 a5)
  · exact lv_icmp_ne hx hb hd ht (fun q => Kt (by simp [if_icmp.holds, q]) ls H locs a1 a2 a3 a4 a5) (fun q => Kf (by simp [if_icmp.holds, q]) ls H locs a1 a2 a3 a4 a5)
  · exact lv_icmp_lt hx hb hd ht (fun q => Kt (by simp [if_icmp.holds, q]) ls H locs a1 a2 a3 a4 a5) (fun q => Kf (by simp [if_icmp.holds, q]) ls H locs a1 a2 a3 a4 a5)
  · exact lv_icmp_ge hx hb hd ht (fun q => Kt (by simp [if_icmp.holds, q]) ls H locs a1 a2 a3 a4 a5) (fun q => Kf (by simp [if_icmp.holds, q]) ls H locs a1 a2 a3 a4 a5)
  · exact lv_icmp_gt hx hb hd ht (fun q => Kt (by simp [if_icmp.holds, q]) ls H locs a1 a2 a3 a4 a5) (fun q => Kf (by simp [if_icmp.holds, q]) ls H locs a1 a2 a3 a4 a5)
  · exact lv_icmp_le hx hb hd ht (fun q => Kt (by simp [if_icmp.holds, q]) ls H locs a1 a2 a3 a4 a5) (fun q => Kf (by simp [if_icmp.holds, q]) ls H locs a1 a2 a3 a4 a5)
theorem ww_ifc {op : jcmp} {x : Int32} {off : Int} {tgt : Nat} (hG : GOK M C) (hd : decode M.2.1 pc = .ok (.ifCond op off, 3)) (ht : (pc : Int) + off = (tgt : Int)) (Kt : ifCond.holds op x = true → WW M C tgt L stk h) (Kf : ifCond.holds op x = false → WW M C (pc + 3) L stk h) : WW M C pc L (.int x :: stk) h := by
  obtain ⟨X, ⟨p, l, e, R, s, m, args, below, meth, c, Q⟩, n0, s0, hE, rv⟩ := C
  obtain ⟨hx, hb, hml, hown, hts, hK, hin, hrm, hret⟩ := hG
  intro ls H locs a1 a2 a3 a4 a5
  cases op
  · exact lv_if_eq hx hb hd ht (fun q => Kt (by simp [ifCond.holds, q]) ls H locs a1 a2 a3 a4 a5) (fun q => Kf (by simp [ifCond.holds, q]) ls H locs a1 a2 a3 a4 a5)
  · exact lv_if_ne hx hb hd ht (fun q => Kt (by simp [ifCond.holds, q]) ls H locs a1 a2 a3 a4 a5) (fun q => Kf (by simp [ifCond.holds, q]) ls H locs a1 a2 a3 a4 a5)
  · exact lv_if_lt hx hb hd ht (fun q => Kt (by simp [ifCond.holds, q]) ls H locs a1 a2 a3 a4 a5) (fun q => Kf (by simp [ifCond.holds, q]) ls H locs a1 a2 a3 a4 a5)
  · exact lv_if_ge hx hb hd ht (fun q => Kt (by simp [ifCond.holds, q]) ls H locs a1 a2 a3 a4 a5) (fun q => Kf (by simp [ifCond.holds, q]) ls H locs a1 a2 a3 a4 a5)
  · exact lv_if_gt hx hb hd ht (fun q => Kt (by simp [ifCond.holds, q]) ls H locs a1 a2 a3 a4 a5) (fun q => Kf (by simp [ifCond.holds, q]) ls H locs a1 a2 a3 a4 a5)
  · exact lv_if_le hx hb hd ht (fun q => Kt (by simp [ifCond.holds, q]) ls H locs a1 a2 a3 a4 a5) (fun q => Kf (by simp [ifCond.holds, q]) ls H locs a1 a2 a3 a4 a5)
theorem ww_lookup {dflt : Int} {ps : Array (Int × Int)} {len : Nat} {x : Int32} {off : Int} {tgt : Nat} (hG : GOK M C) (hd : decode M.2.1 pc = .ok (.lookupswitch dflt ps, len)) (hp : (ps.toList.zip (ps.toList.drop 1)).all (fun (a, next) => a.1 < next.1) = true) (ho : Op.lookupswitch.offset ps.toList dflt x.toInt = off) (ht : (pc : Int) + off = (tgt : Int)) (K : WW M C tgt L stk h) : WW M C pc L (.int x :: stk) h := by
  obtain ⟨X, ⟨p, l, e, R, s, m, args, below, meth, c, Q⟩, n0, s0, hE, rv⟩ := C
  obtain ⟨hx, hb, hml, hown, hts, hK, hin, hrm, hret⟩ := hG
  exact fun ls H locs a1 a2 a3 a4 a5 => lv_lookup hx hb hd hp ho ht (K ls H locs a1 a2 a3 a4 a5)
theorem ww_tblout {dflt lo hi : Int} {offs : Array Int} {len : Nat} {x : Int32} {tgt : Nat} (hG : GOK M C) (hd : decode M.2.1 pc = .ok (.tableswitch dflt lo hi offs, len)) (hq : x.toInt < lo ∨ hi < x.toInt) (ht : (pc : Int) + dflt = (tgt : Int)) (K : WW M C tgt L stk h) : WW M C pc L (.int x :: stk) h := by
  obtain ⟨X, ⟨p, l, e, R, s, m, args, below, meth, c, Q⟩, n0, s0, hE, rv⟩ := C
  obtain ⟨hx, hb, hml, hown, hts, hK, hin, hrm, hret⟩ := hG
  exact fun ls H locs a1 a2 a3 a4 a5 => lv_tableOut hx hb hd hq ht (K ls H locs a1 a2 a3 a4 a5)
theorem ww_tblin {dflt lo hi : Int} {offs : Array Int} {len : Nat} {x : Int32} {off : Int} {tgt : Nat} (hG : GOK M C) (hd : decode M.2.1 pc = .ok (.tableswitch dflt lo hi offs, len)) (h1 : ¬ x.toInt < lo) (h2 : ¬ hi < x.toInt) (ho : offs[(x.toInt - lo).toNat]? = some off) (ht : (pc : Int) + off = (tgt : Int)) (K : WW M C tgt L stk h) : WW M C pc L (.int x :: stk) h := by
  obtain ⟨X, ⟨p, l, e, R, s, m, args, below, meth, c, Q⟩, n0, s0, hE, rv⟩ := C
  obtain ⟨hx, hb, hml, hown, hts, hK, hin, hrm, hret⟩ := hG
  exact fun ls H locs a1 a2 a3 a4 a5 => lv_tableIn hx hb hd h1 h2 ho ht (K ls H locs a1 a2 a3 a4 a5)
theorem ww_ret (hG : GOK M C) (hd : decode M.2.1 pc = .ok (M.2.2.2.2.2.1, 1)) (hv : C.2.2.2.2.2.toList = stk) (hh : h = C.2.2.2.2.1) : WW M C pc L stk h := by
  obtain ⟨X, ⟨p, l, e, R, s, m, args, below, meth, c, Q⟩, n0, s0, hE, rv⟩ := C
  obtain ⟨hx, hb, hml, hown, hts, hK, hin, hrm, hret⟩ := hG
  simp only at hv hh
  subst hv hh
  intro ls H locs a1 a2 a3 a4 a5
  have e : List.map (mv X.1) rv.toList = (rv.map (mv X.1)).toList := by cases rv <;> rfl
  rw [e]
  exact hret pc ls H locs hd a2 a3 a4 a5
theorem j_get {X : jX} {hp : jHp} {H : Heap} {a ci t k : Nat} {w : Value} (r : HRel X hp H) (hg : j_fget hp ci t k (.ref a) = some w) (ht : j_isref (kty ci k) = decide (t ≠ 0)) : (hT hp a).1 = 10 + ci ∧ mv X.1 w = jfv X hp ci a k := by
  simp only [j_fget] at hg
  split at hg
  · rename_i h1
    refine ⟨h1, ?_⟩
    unfold jfv
    rw [ht]
    split at hg
    · rename_i h2
      cases hg
      simp [h2, mv]
    · rename_i h2
      split at hg
      · cases hg
      · rename_i h3
        cases hg
        simp [h2, mv, jrf, h3]
  · cases hg
theorem ww_get {own : String} {i a ci t k : Nat} {w : Value} (hG : GOK M C) (hd : decode M.2.1 pc = .ok (.getfield i, 3)) (hw : Jvm.Cond.fieldLink M.1 i ((kc ci).2.1 k).1 ((kc ci).2.1 k).2.1 ((kc ci).2.1 k).2.2.1 ∈ jtbl) (ht : j_isref (kty ci k) = decide (t ≠ 0)) (hk : k < (kc ci).2.2) (hg : j_fget h ci t k (.ref a) = some w) (K : WW M C (pc + 3) L (w :: stk) h) : WW M C pc L (.ref a :: stk) h := by
  obtain ⟨X, ⟨p, l, e, R, s, m, args, below, meth, c, Q⟩, n0, s0, hE, rv⟩ := C
  obtain ⟨hx, hb, hml, hown, hts, hK, hin, hrm, hret⟩ := hG
  intro ls H locs a1 a2 a3 a4 a5
  obtain ⟨e1, e2⟩ := j_get a2 hg ht
  obtain ⟨hci, cell, q1, q2, q3, q4⟩ := a2.obj e1
  obtain ⟨hS, hfc, kC, hkC, hkind⟩ := hK.1.1 ci _ (k_at ci hci)
  obtain ⟨cf, kf, fi, f, hi, hsl⟩ := hS k hk
  refine W.getf hx hb hown (hts _ hw) hi (u_facts hfc hkC (u_lays hts (k_in ci hci) hk) hi).1 q1 (by rw [q3]; exact fun h => by cases h) (v := mv X.1 w) ?_ rfl rfl hd (K ls H locs a1 a2 a3 a4 a5)
  rw [hsl, q4 k hk, e2]
/-- what a store into a field needs of its value -/
def j_fitv (ty : FieldType) : Value → Bool
  | .int x => (match ty with | .int => true | .boolean => x == 0 || x == 1 | _ => false)
  | .ref _ => j_isref ty
  | _ => false
theorem j_fitv_ok {ty : FieldType} {v : Value} (off : Nat) (hf : j_fitv ty v = true) : narrow ty (mv off v) = mv off v ∧ fits ty (mv off v) = true := by
  cases v with
  | int x =>
    cases ty <;> simp [j_fitv] at hf
    · simp [mv, narrow, fits]
    · rcases hf with rfl | rfl <;> simp [mv, narrow, fits] <;> decide
  | ref a => cases ty <;> simp [j_fitv, j_isref] at hf <;> simp [mv, narrow, fits]
  | _ => simp [j_fitv] at hf
theorem ww_putobj {i a ci k : Nat} {v : Value} (hG : GOK M C) (hd : decode M.2.1 pc = .ok (.putfield i, 3)) (hw : Jvm.Cond.fieldLink M.1 i ((kc ci).2.1 k).1 ((kc ci).2.1 k).2.1 ((kc ci).2.1 k).2.2.1 ∈ jtbl) (hk : k < (kc ci).2.2) (hfin : ((kc ci).2.1 k).2.2.2 = false ∨ (M.2.2.2.2.2.2 = true ∧ ((kc ci).2.1 k).1 = M.1)) (hf : j_fitv (kty ci k) v = true) (ht : (hT h a).1 = 10 + ci)
    (h' : jHp) (hN' : hN h' = hN h) (hS' : hS h' = hS h)
    (hh : ∀ (X : jX) (H H1 : Heap), HRel X h H → t_OB (X.1 + a) (X.2.2.1.1 ci) (kc ci).2.2 (X.2.2.1.2 ci) H1 (updV (jfv X h ci a) k (mv X.1 v)) → H1.size = H.size → (∀ q, q ≠ X.1 + a → H1[q]? = H[q]?) → HRel X h' H1) (K : WW M C (pc + 3) L stk h') : WW M C pc L (v :: .ref a :: stk) h := by
  obtain ⟨X, ⟨p, l, e, R, s, m, args, below, meth, c, Q⟩, n0, s0, hE, rv⟩ := C
  obtain ⟨hx, hb, hml, hown, hts, hK, hin, hrm, hret⟩ := hG
  intro ls H locs a1 a2 a3 a4 a5
  obtain ⟨hci, cell, q1, q2, q3, q4⟩ := a2.obj ht
  obtain ⟨hS, hfc, kC, hkC, hkind⟩ := hK.1.1 ci _ (k_at ci hci)
  obtain ⟨cf, kf, fi, f, hi, hsl⟩ := hS k hk
  have hin' := k_in ci hci
  have hty := k_ty ci hci
  have hap := va_apart (own := M.1) (args := args) hts hin' (kty ci) hty (k_nm ci hci) hK.1 (k_at ci hci)
  have hlay := hts _ (hin' _ (u_in_lay hk))
  have hst := (u_facts hfc hkC (u_lays hts hin' hk) hi).1
  obtain ⟨hn, hft⟩ := j_fitv_ok X.1 hf
  have hfu : narrow f.type (mv X.1 v) = mv X.1 v ∧ s.fitsSlot cell.cls .none f.slot (mv X.1 v) = true := by
    rw [q2]
    exact u_fits hfc hkC hkind (u_lays hts hin' hk) hi (hty k hk) hn hft
  have hfin' : hasFlag f.accessFlags Acc.final = false ∨ (m.cls = cf ∧ meth.name = "<init>") := by
    unfold u_lay at hlay
    rcases hfin with q | ⟨q1, q2⟩
    · rw [if_neg (by rw [q]; decide)] at hlay
      obtain ⟨c, k', cf', kf', fi', fd', r1, r2, hi', hst, hfin, -⟩ := Cond.lays_spec hlay
      cases hi.symm.trans hi'
      exact Or.inl hfin
    · by_cases hq : ((kc ci).2.1 k).2.2.2 = true
      · rw [if_pos hq] at hlay
        refine Or.inr ⟨?_, hin q1⟩
        obtain ⟨_, _, c', _, _, _, -, -, hf', -, -, -, hown2, -⟩ := Cond.laysFinal_spec hlay
        have e1 : c' = cf := by have := hi.symm.trans hf'; simp at this; exact this.1.symm
        rw [q2] at hown2
        rw [← e1]
        exact Option.some.inj (hown.symm.trans hown2)
      · rw [if_neg hq] at hlay
        obtain ⟨c, k', cf', kf', fi', fd', r1, r2, hi', hst, hfin, -⟩ := Cond.lays_spec hlay
        cases hi.symm.trans hi'
        exact Or.inl hfin
  have hlt : f.slot < cell.slots.size := by rw [hsl]; exact k2_hasslot (q4 k hk)
  have ha : X.1 + a < H.size := (Array.getElem?_eq_some_iff.mp q1).1
  refine W.putf hx hb hown (hts _ hw) hi hst hfin' q1 (by rw [q3]; exact fun h => by cases h) hlt hfu.1 (by rw [q3]; exact hfu.2) rfl rfl hd ?_
  rw [← hN', ← hS']
  rw [← hN'] at a4
  rw [← hS'] at a5
  refine K ls _ _ a1 (hh X H _ a2 ⟨cell.setSlot f.slot (mv X.1 v), ?_, q2, q3, by rw [hsl]; exact t_set q4 hap hk (mv X.1 v)⟩ (by simp) (fun q hq => by simp [Array.getElem?_setIfInBounds, Ne.symm hq])) ?_ a4 a5
  · simp [Array.getElem?_setIfInBounds, ha]
  · intro q hq
    rcases List.mem_append.mp hq with hq | hq
    · exact a3 q hq
    · simp only [List.mem_singleton] at hq
      subst hq
      have := (a2.2.2.2 a (by omega)).1
      show X.1 < X.1 + a
      omega
end WWrows
