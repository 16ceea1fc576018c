/-! CONTRACTS OF METHODS, and calls -/
def jPc (X : jX) (vs : List Value) (h : jHp) : Array Value → State → Prop := fun v U => v = (vs.map (mv X.1)).toArray ∧ HRel X h U.heap ∧ jK X U
def jQc (X : jX) (r : Option Value) (h' : jHp) : Array Value → State → Outcome → State → Prop := fun _ _ o t => o = .returned (r.map (mv X.1)) ∧ HRel X h' t.heap
/-- the method y does what f says, in D frames and Λ words of locals -/
def MOk (X : jX) (l : Launch) (y : MethodName) (bytes : ByteArray) (nL : Nat) (ret : Option FieldType) (D Λ : Nat) (f : jF) : Prop :=
  ∀ (vs : List Value) (h : jHp) (r : Option Value) (h' : jHp), f vs h = some (r, h') → ((∃ C : jC, C.1 = X ∧ C.2.1.2.1 = l) → hN h ≤ hN h' ∧ hS h ≤ hS h') ∧
    Met l y (Jvm.Cond.code y bytes nL ret :: jtbl) { frames := D, cells := hN h' - hN h, slots := hS h' - hS h, locals := Λ } (jPc X vs h) (jQc X r h') (hN h' - hN h) (hS h' - hS h) (fun q => X.1 < q)
theorem jPc_blind {X : jX} {vs : List Value} {h : jHp} : FrameBlind (jPc X vs h) := by
  intro a U g mk ⟨q1, q2, q3⟩
  exact ⟨q1, q2, q3.same rfl⟩
theorem jtbl_good : ∀ w ∈ jtbl, (w.onTables && w.keeps) = true ∨ ∃ ty, w = .arrayClass ty := fun w hw => good_of_word (List.mem_filter.mp hw).2
theorem jgood {ws : List Jvm.Cond} (h : ∀ w ∈ ws, w ∈ jtbl) : GoodIn jtbl ws := fun w hw => ⟨h w hw, jtbl_good w (h w hw)⟩
/-- what the tables say of a method that is called: on an object of class ci, statically, as a constructor -/
def YB (y : MethodName) (bytes : ByteArray) (nL : Nat) (ret : Option FieldType) (n : Nat) : Prop := Jvm.Cond.code y bytes nL ret ∈ jtbl ∧ Jvm.Cond.initialized y.cls ∈ jtbl ∧ y.cls ≠ "java/lang/invoke/MethodHandle" ∧ y.cls ≠ "java/lang/invoke/VarHandle" ∧ (parseMethodDescriptor y.desc).map (fun d => d.parameters.length) = some n
def YV (y : MethodName) (ci : Nat) : Prop := Jvm.Cond.instanceMethod y ∈ jtbl ∧ Jvm.Cond.selects y.cls y y ∈ jtbl ∧ y.cls = (kc ci).1
def YS (y : MethodName) : Prop := Jvm.Cond.static y ∈ jtbl
def YI (y : MethodName) : Prop := Jvm.Cond.instanceMethod y ∈ jtbl ∧ y.name = "<init>"
theorem va_Run.ofC {p : Program} {l : Launch} {e : Env} {R : Room} {s : State} {m : MethodId} {args : Array Value} {below : List Frame} {meth : Method} {c : Code} {H : Heap} {locs : List Loc} {cells slots mc ms : Nat} {g : JFrame} {rest : List Value} {Qa : State → Outcome → State → Prop} {free : Addr → Prop}
    (h : va_Run p l e R s m args below meth c H locs cells slots mc ms g rest Qa free) : CallRun p l e R s m args below meth c H locs cells slots mc ms g rest Qa free := by
  intro T hT X
  obtain ⟨v, st0, t, T', L, a1, a2, a3, a4, -, a6, a7⟩ := h T hT X
  exact ⟨v, st0, t, T', L, a1, a2, a3, a4, a6, a7⟩
theorem j_callW {p : Program} {l : Launch} {e : Env} {R : Room} {s : State} {m : MethodId} {args : Array Value} {below : List Frame} {meth : Method} {c : Code} {H : Heap} {locs : List Loc} {cells slots mc ms : Nat} {g : JFrame} {rest : List Value} {Qa : State → Outcome → State → Prop} {free : Addr → Prop} {Q : State → Prop}
    (hr : CallRun p l e R s m args below meth c H locs cells slots mc ms g rest Qa free) (kk : ∀ (v : Option Value) (st0 t : State) (L : List Loc), (∀ q ∈ L, free q.base) → Qa st0 (.returned v) t → W p l e R s m args below meth c t.heap (locs ++ L) (cells + mc) (slots + ms) Q { g with pc := g.pc + 3, stack := v.toList ++ rest }) : W p l e R s m args below meth c H locs cells slots Q g := by
  intro T hT X
  obtain ⟨v, st0, t, T', L, a1, a2, a3, a4, a6, a7⟩ := hr T hT X
  obtain ⟨t2, b1, b2⟩ := kk v st0 t L a3 a6 T' a4 a2
  exact ⟨t2, a7 t2 b1, b2⟩
theorem j_sum (off : Nat) (stk : List Value) : ((stk.map (mv off)).map fun v => v.category).sum = (stk.map fun v => v.category).sum := by
  rw [List.map_map]
  have : (fun v : Value => v.category) ∘ mv off = fun v => v.category := funext fun v => mv_cat off v
  rw [this]
section WWcalls
variable {M : jMs} {C : jC} {pc : Nat} {L stk : List Value} {h : jHp}
theorem ww_callv {y : MethodName} {bytes : ByteArray} {nL n idx D' Λ' : Nat} {f : jF} {r : Option Value} {h' : jHp} {ret : Option FieldType} {ci a : Nat} {vs : List Value} (hG : GOK M C) (hd : decode M.2.1 pc = .ok (.invokevirtual idx, 3)) (hyb : YB y bytes nL ret n) (hyv : YV y ci) (hl : Jvm.Cond.methodLink M.1 idx y ∈ jtbl) (hm : MOk C.1 C.2.1.2.1 y bytes nL ret D' Λ' f) (hr : j_recv h ci (.ref a :: vs) = true) (hn : vs.length = n) (he : f (.ref a :: vs) h = some (r, h')) (hD : D' + 1 ≤ M.2.2.2.1) (hΛ : 8 + (nL + 11) + Λ' ≤ M.2.2.2.2.1) (hstk : (stk.map fun v => v.category).sum ≤ 8) (hc : hN h' ≤ hN C.2.2.2.2.1) (hs : hS h' ≤ hS C.2.2.2.2.1)
    (K : WW M C (pc + 3) L (r.toList ++ stk) h') : WW M C pc L (vs.reverse ++ .ref a :: stk) h := by
  obtain ⟨X, ⟨p, l, e, R, s, m, args, below, meth, c, Q⟩, n0, s0, hE, rv⟩ := C
  obtain ⟨hx, hb, hml, hown, hts, hK, hin, hrm, hret⟩ := hG
  simp only at hc hs hm
  obtain ⟨hmono, hM⟩ := hm _ _ _ _ he
  obtain ⟨m1, m2⟩ := hmono ⟨(X, (p, l, e, R, s, m, args, below, meth, c, Q), n0, s0, hE, rv), rfl, rfl⟩
  obtain ⟨y1, y2, y3, y4, y5⟩ := hyb
  intro ls H locs a1 a2 a3 a4 a5
  obtain ⟨z1, z2, z3, z4⟩ := hrm
  have hpre : ∀ U : State, U.heap = H → s.WarmedH U.vm → jPc X (.ref a :: vs) h (List.map (mv X.1) (.ref a :: vs)).toArray U := fun U hU hW => ⟨rfl, by rw [hU]; exact a2, hK.warm hW⟩
  simp only [j_recv, decide_eq_true_eq] at hr
  obtain ⟨hci, cell, g1, g2, g3, -⟩ := a2.obj hr
  have hcell : ∃ cellB : Cell, H[X.1 + a]? = some cellB ∧ cellB.vm.isStatics = false ∧ s.vm.findClass (kc ci).1 = some cellB.cls := ⟨cell, g1, by rw [g3]; rfl, by rw [g2]; exact (hK.1.1 ci _ (k_at ci hci)).2.1⟩
  obtain ⟨v1, v2, v3⟩ := hyv
  rw [← v3] at hcell
  refine j_callW (W.runV (C := y.cls) (b := X.1 + a) (As := vs.map (mv X.1)) (rest := stk.map (mv X.1)) ⟨hx, hb, hml, hown, hts⟩ hM (cwV n hts (jgood (by
      intro w hw
      simp only [wsV, List.cons_append, List.nil_append, List.mem_cons] at hw
      rcases hw with rfl | rfl | rfl | rfl | rfl | hw
      · exact hl
      · exact v1
      · exact v2
      · exact y2
      · exact y1
      · exact hw)) rfl rfl rfl ⟨rfl, y3, y4, y5⟩ ⟨by show D' + 1 ≤ _; omega, by show _ + Λ' ≤ _; omega⟩) ⟨jPc_blind, hcell, hpre⟩ rfl ?_ a1.1 ?_ (lv_room (by rw [j_sum]; exact hstk)) hd ⟨by omega, by omega⟩) fun v st0 t L' hL' hQ => ?_
  · simpa using hn
  · simp [mv]
  · obtain ⟨q1, q2⟩ := hQ
    cases q1
    have K := K ls t.heap (locs ++ L') a1 q2 (fun q hq => (List.mem_append.mp hq).elim (a3 q) (hL' q)) (by omega) (by omega)
    have c1 : hN h' - n0 = hN h - n0 + (hN h' - hN h) := by omega
    have c2 : hS h' - s0 = hS h - s0 + (hS h' - hS h) := by omega
    rw [c1, c2, List.map_append] at K
    have e : List.map (mv X.1) r.toList = (r.map (mv X.1)).toList := by cases r <;> rfl
    rw [e] at K
    exact K
theorem ww_callvn {y : MethodName} {bytes : ByteArray} {nL n idx D' Λ' : Nat} {f : jF} {r : Option Value} {h' : jHp} {ret : Option FieldType} {host : String} {ci a : Nat} {vs : List Value} (hG : GOK M C) (hd : decode M.2.1 pc = .ok (.invokevirtual idx, 3)) (hyb : YB y bytes nL ret n) (hyv : YV y ci) (hl : Jvm.Cond.methodLinkNest M.1 idx y host ∈ jnest) (hm : MOk C.1 C.2.1.2.1 y bytes nL ret D' Λ' f) (hr : j_recv h ci (.ref a :: vs) = true) (hn : vs.length = n) (he : f (.ref a :: vs) h = some (r, h')) (hD : D' + 1 ≤ M.2.2.2.1) (hΛ : 8 + (nL + 11) + Λ' ≤ M.2.2.2.2.1) (hstk : (stk.map fun v => v.category).sum ≤ 8) (hc : hN h' ≤ hN C.2.2.2.2.1) (hs : hS h' ≤ hS C.2.2.2.2.1)
    (K : WW M C (pc + 3) L (r.toList ++ stk) h') : WW M C pc L (vs.reverse ++ .ref a :: stk) h := by
  obtain ⟨X, ⟨p, l, e, R, s, m, args, below, meth, c, Q⟩, n0, s0, hE, rv⟩ := C
  obtain ⟨hx, hb, hml, hown, hts, hK, hin, hrm, hret⟩ := hG
  simp only at hc hs hm
  obtain ⟨hmono, hM⟩ := hm _ _ _ _ he
  obtain ⟨m1, m2⟩ := hmono ⟨(X, (p, l, e, R, s, m, args, below, meth, c, Q), n0, s0, hE, rv), rfl, rfl⟩
  obtain ⟨y1, y2, y3, y4, y5⟩ := hyb
  intro ls H locs a1 a2 a3 a4 a5
  obtain ⟨z1, z2, z3, z4⟩ := hrm
  have hpre : ∀ U : State, U.heap = H → s.WarmedH U.vm → jPc X (.ref a :: vs) h (List.map (mv X.1) (.ref a :: vs)).toArray U := fun U hU hW => ⟨rfl, by rw [hU]; exact a2, hK.warm hW⟩
  simp only [j_recv, decide_eq_true_eq] at hr
  obtain ⟨hci, cell, g1, g2, g3, -⟩ := a2.obj hr
  have hcell : ∃ cellB : Cell, H[X.1 + a]? = some cellB ∧ cellB.vm.isStatics = false ∧ s.vm.findClass (kc ci).1 = some cellB.cls := ⟨cell, g1, by rw [g3]; rfl, by rw [g2]; exact (hK.1.1 ci _ (k_at ci hci)).2.1⟩
  obtain ⟨v1, v2, v3⟩ := hyv
  rw [← v3] at hcell
  refine j_callW (va_Run.ofC <| va_runVN (C := y.cls) (b := X.1 + a) (As := vs.map (mv X.1)) (rest := stk.map (mv X.1)) ⟨hx, hb, hml, hown, hts⟩ hM ⟨va_cnB n hts (jgood (by
      intro w hw
      simp only [List.mem_cons] at hw
      rcases hw with rfl | hw
      · exact y1
      · exact hw)) rfl rfl rfl (hK.2.1 _ hl) (hts _ y2) ⟨y3, y4, y5⟩ ⟨by show D' + 1 ≤ _; omega, by show _ + Λ' ≤ _; omega⟩, hts _ v1, hts _ v2⟩ ⟨jPc_blind, hcell, hpre⟩ rfl ?_ a1.1 ?_ (lv_room (by rw [j_sum]; exact hstk)) hd ⟨by omega, by omega⟩) fun v st0 t L' hL' hQ => ?_
  · simpa using hn
  · simp [mv]
  · obtain ⟨q1, q2⟩ := hQ
    cases q1
    have K := K ls t.heap (locs ++ L') a1 q2 (fun q hq => (List.mem_append.mp hq).elim (a3 q) (hL' q)) (by omega) (by omega)
    have c1 : hN h' - n0 = hN h - n0 + (hN h' - hN h) := by omega
    have c2 : hS h' - s0 = hS h - s0 + (hS h' - hS h) := by omega
    rw [c1, c2, List.map_append] at K
    have e : List.map (mv X.1) r.toList = (r.map (mv X.1)).toList := by cases r <;> rfl
    rw [e] at K
    exact K
theorem ww_calls {y : MethodName} {bytes : ByteArray} {nL n idx D' Λ' : Nat} {f : jF} {r : Option Value} {h' : jHp} {ret : Option FieldType} {vs : List Value} (hG : GOK M C) (hd : decode M.2.1 pc = .ok (.invokestatic idx, 3)) (hyb : YB y bytes nL ret n) (hys : YS y) (hl : Jvm.Cond.methodLink M.1 idx y ∈ jtbl) (hm : MOk C.1 C.2.1.2.1 y bytes nL ret D' Λ' f) (hn : vs.length = n) (he : f vs h = some (r, h')) (hD : D' + 1 ≤ M.2.2.2.1) (hΛ : 8 + (nL + 11) + Λ' ≤ M.2.2.2.2.1) (hstk : (stk.map fun v => v.category).sum ≤ 8) (hc : hN h' ≤ hN C.2.2.2.2.1) (hs : hS h' ≤ hS C.2.2.2.2.1)
    (K : WW M C (pc + 3) L (r.toList ++ stk) h') : WW M C pc L (vs.reverse ++ stk) h := by
  obtain ⟨X, ⟨p, l, e, R, s, m, args, below, meth, c, Q⟩, n0, s0, hE, rv⟩ := C
  obtain ⟨hx, hb, hml, hown, hts, hK, hin, hrm, hret⟩ := hG
  simp only at hc hs hm
  obtain ⟨hmono, hM⟩ := hm _ _ _ _ he
  obtain ⟨m1, m2⟩ := hmono ⟨(X, (p, l, e, R, s, m, args, below, meth, c, Q), n0, s0, hE, rv), rfl, rfl⟩
  obtain ⟨y1, y2, y3, y4, y5⟩ := hyb
  intro ls H locs a1 a2 a3 a4 a5
  obtain ⟨z1, z2, z3, z4⟩ := hrm
  have hpre : ∀ U : State, U.heap = H → s.WarmedH U.vm → jPc X (vs) h (List.map (mv X.1) (vs)).toArray U := fun U hU hW => ⟨rfl, by rw [hU]; exact a2, hK.warm hW⟩
  refine j_callW (W.runS (As := vs.map (mv X.1)) (rest := stk.map (mv X.1)) ⟨hx, hb, hml, hown, hts⟩ hM (va_cwS n hts (jgood (by
      intro w hw
      simp only [va_wsS, List.cons_append, List.nil_append, List.mem_cons] at hw
      rcases hw with rfl | rfl | rfl | rfl | hw
      · exact hl
      · exact hys
      · exact y2
      · exact y1
      · exact hw)) rfl rfl rfl ⟨y3, y4, y5⟩ ⟨by show D' + 1 ≤ _; omega, by show _ + Λ' ≤ _; omega⟩) ⟨jPc_blind, hpre⟩ rfl ?_ a1.1 ?_ (lv_room (by rw [j_sum]; exact hstk)) hd ⟨by omega, by omega⟩) fun v st0 t L' hL' hQ => ?_
  · simpa using hn
  · simp [mv]
  · obtain ⟨q1, q2⟩ := hQ
    cases q1
    have K := K ls t.heap (locs ++ L') a1 q2 (fun q hq => (List.mem_append.mp hq).elim (a3 q) (hL' q)) (by omega) (by omega)
    have c1 : hN h' - n0 = hN h - n0 + (hN h' - hN h) := by omega
    have c2 : hS h' - s0 = hS h - s0 + (hS h' - hS h) := by omega
    rw [c1, c2, List.map_append] at K
    have e : List.map (mv X.1) r.toList = (r.map (mv X.1)).toList := by cases r <;> rfl
    rw [e] at K
    exact K
theorem ww_calli {y : MethodName} {bytes : ByteArray} {nL n idx D' Λ' : Nat} {f : jF} {r : Option Value} {h' : jHp} {a : Nat} {vs : List Value} (hG : GOK M C) (hd : decode M.2.1 pc = .ok (.invokespecial idx, 3)) (hyb : YB y bytes nL none n) (hyi : YI y) (hl : Jvm.Cond.methodLink M.1 idx y ∈ jtbl) (hm : MOk C.1 C.2.1.2.1 y bytes nL none D' Λ' f) (hn : vs.length = n) (he : f (.ref a :: vs) h = some (r, h')) (hD : D' + 1 ≤ M.2.2.2.1) (hΛ : 8 + (nL + 11) + Λ' ≤ M.2.2.2.2.1) (hstk : (stk.map fun v => v.category).sum ≤ 8) (hc : hN h' ≤ hN C.2.2.2.2.1) (hs : hS h' ≤ hS C.2.2.2.2.1)
    (K : WW M C (pc + 3) L (r.toList ++ stk) h') : WW M C pc L (vs.reverse ++ .ref a :: stk) h := by
  obtain ⟨X, ⟨p, l, e, R, s, m, args, below, meth, c, Q⟩, n0, s0, hE, rv⟩ := C
  obtain ⟨hx, hb, hml, hown, hts, hK, hin, hrm, hret⟩ := hG
  simp only at hc hs hm
  obtain ⟨hmono, hM⟩ := hm _ _ _ _ he
  obtain ⟨m1, m2⟩ := hmono ⟨(X, (p, l, e, R, s, m, args, below, meth, c, Q), n0, s0, hE, rv), rfl, rfl⟩
  obtain ⟨y1, y2, y3, y4, y5⟩ := hyb
  intro ls H locs a1 a2 a3 a4 a5
  obtain ⟨z1, z2, z3, z4⟩ := hrm
  have hpre : ∀ U : State, U.heap = H → s.WarmedH U.vm → jPc X (.ref a :: vs) h (List.map (mv X.1) (.ref a :: vs)).toArray U := fun U hU hW => ⟨rfl, by rw [hU]; exact a2, hK.warm hW⟩
  obtain ⟨v1, v2⟩ := hyi
  refine j_callW (W.runI (b := X.1 + a) (As := vs.map (mv X.1)) (rest := stk.map (mv X.1)) ⟨hx, hb, hml, hown, hts⟩ hM (cwI n hts (jgood (by
      intro w hw
      simp only [List.mem_cons] at hw
      rcases hw with rfl | hw
      · exact y1
      · exact hw)) rfl rfl rfl (hts _ y2) (hts _ hl) (hts _ v1) v2 ⟨y3, y4, y5⟩ ⟨by show D' + 1 ≤ _; omega, by show _ + Λ' ≤ _; omega⟩) ⟨jPc_blind, hpre⟩ rfl ?_ a1.1 ?_ (lv_room (by rw [j_sum]; exact hstk)) hd ⟨by omega, by omega⟩) fun v st0 t L' hL' hQ => ?_
  · simpa using hn
  · simp [mv]
  · obtain ⟨q1, q2⟩ := hQ
    cases q1
    have K := K ls t.heap (locs ++ L') a1 q2 (fun q hq => (List.mem_append.mp hq).elim (a3 q) (hL' q)) (by omega) (by omega)
    have c1 : hN h' - n0 = hN h - n0 + (hN h' - hN h) := by omega
    have c2 : hS h' - s0 = hS h - s0 + (hS h' - hS h) := by omega
    rw [c1, c2, List.map_append] at K
    have e : List.map (mv X.1) r.toList = (r.map (mv X.1)).toList := by cases r <;> rfl
    rw [e] at K
    exact K
theorem ww_callin {y : MethodName} {bytes : ByteArray} {nL n idx D' Λ' : Nat} {f : jF} {r : Option Value} {h' : jHp} {host : String} {a : Nat} {vs : List Value} (hG : GOK M C) (hd : decode M.2.1 pc = .ok (.invokespecial idx, 3)) (hyb : YB y bytes nL none n) (hyi : YI y) (hl : Jvm.Cond.methodLinkNest M.1 idx y host ∈ jnest) (hm : MOk C.1 C.2.1.2.1 y bytes nL none D' Λ' f) (hn : vs.length = n) (he : f (.ref a :: vs) h = some (r, h')) (hD : D' + 1 ≤ M.2.2.2.1) (hΛ : 8 + (nL + 11) + Λ' ≤ M.2.2.2.2.1) (hstk : (stk.map fun v => v.category).sum ≤ 8) (hc : hN h' ≤ hN C.2.2.2.2.1) (hs : hS h' ≤ hS C.2.2.2.2.1)
    (K : WW M C (pc + 3) L (r.toList ++ stk) h') : WW M C pc L (vs.reverse ++ .ref a :: stk) h := by
  obtain ⟨X, ⟨p, l, e, R, s, m, args, below, meth, c, Q⟩, n0, s0, hE, rv⟩ := C
  obtain ⟨hx, hb, hml, hown, hts, hK, hin, hrm, hret⟩ := hG
  simp only at hc hs hm
  obtain ⟨hmono, hM⟩ := hm _ _ _ _ he
  obtain ⟨m1, m2⟩ := hmono ⟨(X, (p, l, e, R, s, m, args, below, meth, c, Q), n0, s0, hE, rv), rfl, rfl⟩
  obtain ⟨y1, y2, y3, y4, y5⟩ := hyb
  intro ls H locs a1 a2 a3 a4 a5
  obtain ⟨z1, z2, z3, z4⟩ := hrm
  have hpre : ∀ U : State, U.heap = H → s.WarmedH U.vm → jPc X (.ref a :: vs) h (List.map (mv X.1) (.ref a :: vs)).toArray U := fun U hU hW => ⟨rfl, by rw [hU]; exact a2, hK.warm hW⟩
  obtain ⟨v1, v2⟩ := hyi
  refine j_callW (va_Run.ofC <| va_runIN (b := X.1 + a) (As := vs.map (mv X.1)) (rest := stk.map (mv X.1)) ⟨hx, hb, hml, hown, hts⟩ hM ⟨va_cnB n hts (jgood (by
      intro w hw
      simp only [List.mem_cons] at hw
      rcases hw with rfl | hw
      · exact y1
      · exact hw)) rfl rfl rfl (hK.2.1 _ hl) (hts _ y2) ⟨y3, y4, y5⟩ ⟨by show D' + 1 ≤ _; omega, by show _ + Λ' ≤ _; omega⟩, v2, hts _ v1⟩ ⟨jPc_blind, hpre⟩ rfl ?_ a1.1 ?_ (lv_room (by rw [j_sum]; exact hstk)) hd ⟨by omega, by omega⟩) fun v st0 t L' hL' hQ => ?_
  · simpa using hn
  · simp [mv]
  · obtain ⟨q1, q2⟩ := hQ
    cases q1
    have K := K ls t.heap (locs ++ L') a1 q2 (fun q hq => (List.mem_append.mp hq).elim (a3 q) (hL' q)) (by omega) (by omega)
    have c1 : hN h' - n0 = hN h - n0 + (hN h' - hN h) := by omega
    have c2 : hS h' - s0 = hS h - s0 + (hS h' - hS h) := by omega
    rw [c1, c2, List.map_append] at K
    have e : List.map (mv X.1) r.toList = (r.map (mv X.1)).toList := by cases r <;> rfl
    rw [e] at K
    exact K
end WWcalls
