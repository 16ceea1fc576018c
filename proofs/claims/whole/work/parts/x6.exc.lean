/-! SealedBonds.row where it throws; SealedBondsLaw.row, which catches -/
set_option maxHeartbeats 4000000 in
/-- the steps of 'new E("text")' from the constructor's call to the throw, where E's own link stands at ix (after the library's ctorThrowS, which has it at 7) -/
theorem vz_ctorThrow {p : Program} {l : Launch} {e : Env} {R : Room} {s : State} {m₀ : MethodId} {args : Array Value} {below : List Frame} {meth : Method} {c : Code} {T0 : State} {locs : List Loc} {cells slots : Nat} (X : Stand p l e R s m₀ args below meth c T0 locs cells slots) (hexec : p.tables.exec = Jvm.exec) (htr : e.platform.stackTraces = false) {own cls : String} {names : List String} {ic : Nat}
    {ix : Nat} {rx : ByteArray} (x0 : decode rx 0 = .ok (.aload_n 0, 1)) (x1 : decode rx 1 = .ok (.aload_n 1, 1)) (x2 : decode rx 2 = .ok (.invokespecial ix, 3)) (x5 : decode rx 5 = .ok (.return_, 1))
    (hown : s.vm.findClass own = some m₀.cls) (hcls : Bundle.fit cls = true) (hnames : ∀ n ∈ names, Bundle.fit n = true)
    (h : ∀ a ∈ Bundle.ownAtomsX own ic cls ix rx names, a.before args s = true)
    (hlocs : ∀ x ∈ locs, ∀ cell, s.heap[x.base]? = some cell → cell.vm.isStatics = false)
    {a : Addr} {cX : ClassId} {kX : Class} (hfoundX : s.vm.findClass cls = some cX) (hkX : s.vm.classes[cX]? = some kX) (hcell : T0.heap[a]? = some (freshCell cX kX)) (hnew : s.heap.size ≤ a)
    {msg : Value} (hmsg : msg.isRef = true)
    {g : JFrame} (hg : g.method = m₀) (hsize : g.locals.size = c.maxLocals) (hlocked : g.locked = none) (hentered : g.entered = []) {rest : List Value} (hstack : g.stack = msg :: .ref a :: .ref a :: rest)
    (hd6 : decode c.code g.pc = .ok (.invokespecial ic, 3)) (hd9 : decode c.code (g.pc + 3) = .ok (.athrow, 1)) (hout : ∀ x ∈ c.exceptionTable.toList, covers x (g.pc + 3) = false)
    (hRframes : names.length + 3 < R.frames) (hRlocals : 2 * g.monitorRoom + ((Value.ref a :: rest).map fun v => v.category).sum + (13 * (names.length + 1) + 42) ≤ R.locals) (hlocks : meth.locks = false) :
    ∃ U : State, Steps p.tables e below (T0.setTop g) U ∧ U.status = .running ∧ Ended U below (.threw a) ∧ s.WarmedH U.vm ∧ s.sameButNew ({ U with vm := s.vm } : State) locs cells slots ∧
      ∃ ce, U.heap[a]? = some ce ∧ ce.vm = .none ∧ s.vm.findClass cls = some ce.cls := by
  have howns : e.platform.frameOwnsMonitors = true := by rw [X.admits.platform]
  have hfin : e.platform.finalization = false := by rw [X.admits.platform]
  have hpl : e.platform.magicAccessors = ({} : Platform).magicAccessors := by rw [X.admits.platform]
  have a' : ∀ x, x ∈ Bundle.ownAtomsX own ic cls ix rx names → x.holds args s none s [] = true := fun x hx => h x hx
  obtain ⟨T, Z0, L, -, Y⟩ := ThrowableC.of_atoms (args := args) howns hfin hpl (fun x hx => h x (by simp [Bundle.ownAtomsX, hx]))
  obtain ⟨Z, M, LZ, LM, hnZ⟩ := Init0T.ofS_atoms (args := args) hpl L Y (fun x hx => h x (by simp [Bundle.ownAtomsX, hx]))
  obtain ⟨P1, Ps, hlen, L1, hL, hP1m, hlink1, hlink⟩ := Bundle.chainSX (args := args) hpl hnZ x0 x1 x2 x5 names cls hcls hnames (fun x hx => h x (by simp [Bundle.ownAtomsX, hx]))
  have hfound : s.vm.findClass cls = some P1.m.cls := findClass_of_methodNamed hP1m
  cases Option.some.inj (hfoundX.symm.trans hfound)
  obtain ⟨c1, kX', hc1, hk, hord, -, -, hn6⟩ := Cond.instantiable_spec (a' (.instantiable cls 6) (by simp [Bundle.ownAtomsX]))
  cases Option.some.inj (hc1.symm.trans hfound)
  cases Option.some.inj (hkX.symm.trans hk)
  have hsel0 : selectMethod e.platform s.vm P1.m.cls T.fill0 = .method T.fill0 := by
    obtain ⟨c2, r2, m2, q1, q2, q3, q4, -⟩ := Cond.selects_spec (a' (.selects cls Bundle.tFill0 Bundle.tFill0) (by simp [Bundle.ownAtomsX]))
    cases Option.some.inj (q1.symm.trans hfound)
    cases Option.some.inj (q2.symm.trans (State.methodFound?_of_named Y.fill0 (by decide)))
    cases Option.some.inj (q3.symm.trans Y.fill0)
    rw [Launch.admits_selectMethod X.admits]; exact q4
  have hselF : selectMethod e.platform s.vm P1.m.cls T.fill = .method T.fill := by
    obtain ⟨c2, r2, m2, q1, q2, q3, q4, -⟩ := Cond.selects_spec (a' (.selects cls Bundle.tFill Bundle.tFill) (by simp [Bundle.ownAtomsX]))
    cases Option.some.inj (q1.symm.trans hfound)
    cases Option.some.inj (q2.symm.trans (State.methodFound?_of_named Y.fill (by decide)))
    cases Option.some.inj (q3.symm.trans Y.fill)
    rw [Launch.admits_selectMethod X.admits]; exact q4
  obtain ⟨cellS0, hcS0, hiss⟩ := Y.statics
  obtain ⟨u0, hu0⟩ := Cond.staticRefV Y.unassigned L.unassignedStatic L.statics hcS0 hiss (a' (.isRef (.static Bundle.tN "UNASSIGNED_STACK" Bundle.steD)) (by simp [Bundle.ownAtomsX]))
  obtain ⟨sen, hsen⟩ := Cond.staticRefV Y.sentinel L.sentinelStatic L.statics hcS0 hiss (a' (.isRef (.static Bundle.tN "SUPPRESSED_SENTINEL" Bundle.listD)) (by simp [Bundle.ownAtomsX]))
  obtain ⟨ci198, i198, fB, hk198, hg198, ha198, hsB, -, hnB, htB, hffB⟩ := Cond.ownField (t := .object "java/lang/Object") Y.found L.cls (by decide +kernel) (a' (.fieldLink Bundle.tN 198 Bundle.tN "backtrace" "Ljava/lang/Object;") (by simp [Bundle.ownAtomsX])) (a' (.lays Bundle.tN Bundle.tN "backtrace" "Ljava/lang/Object;") (by simp [Bundle.ownAtomsX])) e.platform hpl
  obtain ⟨cellS, hcS', heS, -, hkeep⟩ := X.same.2.2.2.2.2 T.aS cellS0 hcS0
  have hcellS : T0.heap[T.aS]? = some cellS := hcS'
  have hout' : ∀ i, (⟨T.aS, i⟩ : Loc) ∉ locs := fun i hmem => by
    have := hlocs _ hmem cellS0 hcS0
    rw [hiss] at this; cases this
  have hknownS : cellS.vm ≠ .unknown := by
    rw [heS]; intro hu
    rw [show cellS0.vm = .unknown from hu] at hiss
    cases hiss
  have hneS : T.aS ≠ a := Nat.ne_of_lt (Nat.lt_of_lt_of_le (Array.getElem?_eq_some_iff.mp hcS0).1 hnew)
  obtain ⟨iM, hffM⟩ := Y.msg
  obtain ⟨tyC, dC, hdC, hdnC⟩ := Cond.laysAt hfound hk Y.cause (a' (.lays cls Bundle.tN "cause" "Ljava/lang/Throwable;") (by simp [Bundle.ownAtomsX]))
  obtain ⟨tyS, dS, hdS, hdnS⟩ := Cond.laysAt hfound hk Y.stack (a' (.lays cls Bundle.tN "stackTrace" Bundle.steD) (by simp [Bundle.ownAtomsX]))
  obtain ⟨tyP, dP, hdP, hdnP⟩ := Cond.laysAt hfound hk Y.supp (a' (.lays cls Bundle.tN "suppressedExceptions" Bundle.listD) (by simp [Bundle.ownAtomsX]))
  obtain ⟨tyM, dM, hdM, hdnM⟩ := Cond.laysAt hfound hk hffM (a' (.lays cls Bundle.tN "detailMessage" "Ljava/lang/String;") (by simp [Bundle.ownAtomsX]))
  obtain ⟨tyB, dB, hdB, hdnB⟩ := Cond.laysAt hfound hk hffB (a' (.lays cls Bundle.tN "backtrace" "Ljava/lang/Object;") (by simp [Bundle.ownAtomsX]))
  have bC := Cond.laysApart hdB hdC hdnB hdnC (by rw [hnB, Y.causeName]; decide)
  have bS := Cond.laysApart hdB hdS hdnB hdnS (by rw [hnB, Y.stackName]; decide)
  have bP := Cond.laysApart hdB hdP hdnB hdnP (by rw [hnB, Y.suppName]; decide)
  have hskip : SkipFacts T e.platform s (fun u => u) u0 ((preparedCellV T.toThrowableT (freshCell P1.m.cls kX) a u0 sen).withEntry T0.cur) :=
    ⟨{ ci198 := ci198, i198 := i198, fBack := fB }, ⟨hk198, hg198, ha198, hsB⟩, by
      have := fresh_default (c := P1.m.cls) tyB
      rw [htB] at this
      simpa [preparedCellV, Cell.setSlot, Cell.withEntry, Array.getElem?_setIfInBounds, bC, bS, bP, bC.symm, bS.symm, bP.symm, defaultValue] using this, fun _ _ => rfl⟩
  obtain ⟨tm, methC, cdC, kC, vm₁, hnC, -, -, -, -, -, -, -, hW₁, st1⟩ := Steps.initColdS (tb := p.tables) (e := e) (below := below) (s := s) (U := T0) X.here hexec X.warmed hpl hown (t := Bundle.initS cls) rfl rfl (Bundle.fit_spec hcls).2
    (a' (.methodLink own ic (Bundle.initS cls)) (by simp [Bundle.ownAtomsX])) (h (.instanceMethod (Bundle.initS cls)) (by cases names <;> simp [Bundle.ownAtomsX, Bundle.chainSAtomsX, Bundle.passSAtoms])) (bytes := rx) (maxL := 2) (h (.code (Bundle.initS cls) rx 2 none) (by cases names <;> simp [Bundle.ownAtomsX, Bundle.chainSAtomsX, Bundle.passSAtoms]))
    (f := g) hg (a := a) (msg := msg) (rest := .ref a :: rest) hstack hd6
  cases Option.some.inj (hnC.symm.trans hP1m)
  have X₁ := X.noted hW₁
  obtain ⟨vm₂, X₂, st2⟩ := X₁.ctorMessageOffV hexec (g := { g with stack := .ref a :: rest }) hg hsize T L Z LZ M LM (P1 :: Ps)
    (fun P hP => by rcases List.mem_cons.mp hP with rfl | hP; exact L1; exact hL P hP) ⟨hlink1, hlink⟩ (u0 := u0) (sen := sen) (self := a) hmsg (cell := freshCell P1.m.cls kX) (cellS := cellS)
    hcell (fun _ => by simp) (by simp) rfl rfl hsel0 hselF hcellS hneS hknownS (by rw [hkeep _ (hout' _)]; exact hu0) (by rw [hkeep _ (hout' _)]; exact hsen)
    (Takes.of_laid hk hord tyC (by rw [Y.causeType]; rfl)) (Takes.of_laid hk hord tyS (by rw [Y.stackType]; exact fits_refV_array _ u0)) (Takes.of_laid hk hord tyP (by rw [Y.suppType]; exact fits_refV_object _ sen))
    (Takes.of_laid hk hord tyM (by rw [Y.msgType]; exact fits_refV_object _ ⟨msg, hmsg⟩)) Y.objLocals hskip htr [] hd6
    (by simp only [List.length_cons, hlen]; omega) (by simp only [List.length_cons, hlen]; exact hRlocals)
  obtain ⟨hwalk, hrun, hended, hWU, hsame⟩ := X₂.athrowLeaves hexec (g := { g with stack := .ref a :: rest, pc := g.pc + 3 }) hg hlocked hentered hout (a := a) (rest := rest) rfl hd9
  have hlt : a < ((T0.setVm vm₁).setVm vm₂).heap.size := (Array.getElem?_eq_some_iff.mp hcell).1
  have hU := heapAt_setCell_self (s := (T0.setVm vm₁).setVm vm₂) (plainBareV T.toThrowableT (freshCell P1.m.cls kX) a u0 sen msg) hlt
  refine ⟨_, st1 _ (fun acts => ?_), hrun, hended, hWU, hsame.weaken (fun y hy hlt' => ?_) (Nat.le_refl _) (Nat.le_refl _), _, hU, rfl, hfound⟩
  · rw [doInvoke_state]
    exact st2 _ hwalk
  · rcases List.mem_append.mp hy with h1 | h1
    · exact h1
    · exfalso
      have hb : y.base = a := by
        simp only [List.mem_cons, List.not_mem_nil, or_false] at h1
        rcases h1 with rfl | rfl | rfl | rfl | rfl <;> rfl
      rw [hb] at hlt'
      exact Nat.not_lt.mpr hnew hlt'
def xa_atS (own : String) (ic : Nat) (X : String) (ix : Nat) (rx : ByteArray) (names : List String) : List Cond := (Bundle.ownAtomsX own ic X ix rx names).filter vx_no
section Ends2
variable {p : Program} {l : Launch} {e : Env} {R : Room} {s : State} {m : MethodId} {args : Array Value} {below : List Frame} {meth : Method} {c : Code} {H : Heap} {locs : List Loc} {cells slots : Nat} {Q : State → Prop}
variable {mc ms : Nat} {free : Addr → Prop} {A0 A1 : Nat → Prop} {H0 : Heap} {a : Array Value} {ls : Array Slot} {st0 rest : List Value}
variable {Qc : Array Value → State → Outcome → State → Prop} {XC : String → State → State → Prop}
/-- 'throw new E("text")', the text by a wide index: one cell more and no other -/
theorem vy_throwSW {cc : ByteArray} {pc : Nat} (hexec : p.tables.exec = Jvm.exec) (hb : c.code = cc) (hl : l.stackTraces = false) {own cls text : String} {names : List String} {ik is ic mc ms sa ix : Nat} {rx : ByteArray} {A : Nat → Prop} (x0 : decode rx 0 = .ok (.aload_n 0, 1)) (x1 : decode rx 1 = .ok (.aload_n 1, 1)) (x2 : decode rx 2 = .ok (.invokespecial ix, 3)) (x5 : decode rx 5 = .ok (.return_, 1))
    (hown : s.vm.findClass own = some m.cls) (hcls : Bundle.fit cls = true) (hnames : ∀ n ∈ names, Bundle.fit n = true)
    (hk : (Cond.classLink own ik cls).before args s = true) (hini : (Cond.initialized cls).before args s = true) (hstr : vk_R own is text sa s) (hat : ∀ w ∈ xa_atS own ic cls ix rx names, w.before args s = true)
    (hgood : ∀ w ∈ Cond.classLink own ik cls :: Cond.initialized cls :: xa_atS own ic cls ix rx names, vx_ot w = true)
    (hU : vx_Zq Bundle.tN "UNASSIGNED_STACK" Bundle.steD A s s.heap) (hN : vx_Zq Bundle.tN "SUPPRESSED_SENTINEL" Bundle.listD A s s.heap) (hS : va_S A s.heap H locs) (hsize : ls.size = c.maxLocals)
    (d0 : decode cc pc = .ok (.new ik, 3)) (d3 : decode cc (pc + 3) = .ok (.dup, 1)) (d4 : decode cc (pc + 4) = .ok (.ldc_w is, 3)) (d7 : decode cc (pc + 7) = .ok (.invokespecial ic, 3)) (d10 : decode cc (pc + 10) = .ok (.athrow, 1))
    (hout : ∀ x ∈ c.exceptionTable.toList, covers x (pc + 10) = false)
    (hRframes : names.length + 3 < R.frames) (hRlocals : (rest.map fun v => v.category).sum + (13 * (names.length + 1) + 43) ≤ R.locals) (hRcells : cells + 1 ≤ R.cells) (hRslots : slots + 6 ≤ R.slots) (hlocks : meth.locks = false)
    (hx : ∀ t : State, s.vm.Alike t.vm → t.heap.size = H.size + 1 → (∀ q : Nat, q < H.size → t.heap[q]? = H[q]?) → XC cls s t)
    (hf : ∀ z ∈ locs, free z.base) (hc : cells + 1 ≤ mc) (hs : slots + 6 ≤ ms) :
    W p l e R s m args below meth c H locs cells slots (vx_MQ below Qc XC args s mc ms free) (F0 m pc ls rest) := by
  intro T hT X
  have htr : e.platform.stackTraces = false := (show e.platform.stackTraces = l.stackTraces by rw [X.admits.platform]).trans hl
  have Y := vx_rebase X (R' := { frames := R.frames, locals := R.locals, cells := 1, slots := 6 }) (Nat.le_refl _) (Nat.le_refl _) hRcells hRslots
  obtain ⟨s', hA⟩ : ∃ z, z = (T.setVm s.vm).setFrames (.invoking m args :: below) := ⟨_, rfl⟩
  rw [← hA] at Y
  have hvm : s'.vm = s.vm := by rw [hA]; rfl
  have hhp : s'.heap = H := by rw [hA]; exact hT
  have hW0 : s.WarmedH s'.vm := by rw [hvm]; exact State.WarmedH.refl s
  have hat' : ∀ w ∈ xa_atS own ic cls ix rx names, w.before args s' = true := fun w hw => vx_ot_at hW0 hvm.symm (hgood w (List.mem_cons_of_mem _ (List.mem_cons_of_mem _ hw))) (hat w hw)
  have hk' : (Cond.classLink own ik cls).before args s' = true := vx_ot_at hW0 hvm.symm (hgood _ List.mem_cons_self) hk
  have hini' : (Cond.initialized cls).before args s' = true := vx_ot_at hW0 hvm.symm (hgood _ (List.mem_cons_of_mem _ List.mem_cons_self)) hini
  have hU' : vx_Zq Bundle.tN "UNASSIGNED_STACK" Bundle.steD A s' s'.heap := by rw [hhp]; exact vx_Zq.moved hW0.alike (hU.kept hS.2.1)
  have hN' : vx_Zq Bundle.tN "SUPPRESSED_SENTINEL" Bundle.listD A s' s'.heap := by rw [hhp]; exact vx_Zq.moved hW0.alike (hN.kept hS.2.1)
  have h : ∀ w ∈ Bundle.ownAtomsX own ic cls ix rx names, w.before args s' = true := vx_own hat' (vx_isRefq hU'.1) (vx_isRefq hN'.1) hU'.2.word hN'.2.word
  have hown' : s'.vm.findClass own = some m.cls := by rw [hvm]; exact hown
  have hins : (Cond.instantiable cls 6).before args s' = true := h _ (by simp [Bundle.ownAtomsX])
  obtain ⟨vm₁, cX, kX, hfX, hkX, -, -, X₁, st1⟩ := Y.newCold hexec (own := own) (C := cls) (index := ik) (n := 6) hown' hk' hins hini'
    (g := F0 m pc ls rest) rfl (by rw [hb]; exact d0) (Nat.le_refl _) (Nat.le_refl _)
  generalize hT1 : (T.setVm vm₁).pushCell { cls := cX, slots := kX.instanceTypes.map defaultValue, vm := .none } = T1 at X₁ st1
  have hcat : (Value.ref T.heap.size).category = 1 := rfl
  have hcellA : T1.heap[T.heap.size]? = some (freshCell cX kX) := by rw [← hT1]; exact State.heap_pushCell_size _ _
  have d3' : decode c.code (pc + 3) = .ok (.dup, 1) := by rw [hb]; exact d3
  have d4' : decode c.code (pc + 4) = .ok (.ldc_w is, 3) := by rw [hb]; exact d4
  have hstr' : vk_R own is text sa s' := vk_R.warm hW0 hstr
  obtain ⟨U, hsteps, hrun, hend, hW, hsame, ce, hce, hO1, hO2⟩ := vz_ctorThrow X₁ hexec htr x0 x1 x2 x5 (own := own) (cls := cls) (names := names) (ic := ic) hown' hcls hnames h (fun x hx => nomatch hx) hfX hkX hcellA (by rw [hhp, hT]; exact Nat.le_refl _) (msg := .ref sa) rfl
    (g := { method := m, pc := pc + 7, locals := ls, stack := .ref sa :: .ref T.heap.size :: .ref T.heap.size :: rest, locked := none }) rfl hsize rfl rfl (rest := rest) rfl
    (by rw [hb]; exact d7) (by rw [hb]; exact d10) hout hRframes (by simp only [List.map_cons, List.sum_cons, hcat]; omega) hlocks
  have f3 : U.heap.size ≤ s'.heap.size + (0 + 1) := hsame.2.2.1
  obtain ⟨f1, f2⟩ := vx_frame hsame
  rw [hhp] at f1 f2 f3
  have f4 : T.heap.size < U.heap.size := (Array.getElem?_eq_some_iff.mp hce).1
  have fz : U.heap.size = H.size + 1 := by rw [hT] at f4; omega
  have hWs : s.WarmedH U.vm := State.WarmedH.trans hW0 hW
  have hcl : s.vm.findClass cls = some ce.cls := by
    have h9 := hO2
    rw [hvm] at h9
    exact h9
  have hall : s.sameButNew ({ U with vm := s.vm } : State) locs mc ms := by
    subst hA
    obtain ⟨e1, e2⟩ := hsame
    rw [State.setFrames_setFrames] at e1
    have h2 : (T.setVm s.vm).sameButNew ({ U with vm := s.vm } : State) [] (0 + 1) (0 + 6) := ⟨e1, e2⟩
    have h3 := X.same.trans h2
    rw [List.append_nil] at h3
    exact h3.mono hc hs
  refine ⟨U, ?_, .threw T.heap.size, hrun, hend, Or.inr ⟨T.heap.size, rfl, cls, ce, locs, hx U hWs.alike fz (fun q hq => f2 q hq (fun z hz => nomatch hz)), hce, hO1, hcl, hWs, hall, hf⟩⟩
  refine st1 _ ?_
  show Steps p.tables e below (T1.setTop { method := m, pc := pc + 3, locals := ls, stack := .ref T.heap.size :: rest, locked := none }) _
  jvm_step X₁.here [X₁.here.top, hexec, d3', Value.category]
  exact X₁.ldcStringW hexec (own := own) (text := text) (index := is) (a := sa) hown' hstr'.1 hstr'.2
    (g := { method := m, pc := pc + 4, locals := ls, stack := .ref T.heap.size :: .ref T.heap.size :: rest, locked := none }) rfl d4' _ hsteps
end Ends2
abbrev nEx : String := "java/util/NoSuchElementException"
def xat : List Cond := xa_atS "SealedBonds" 363 nEx 13 prog_27_method_4_code ["java/lang/RuntimeException", "java/lang/Exception"]
/-- words of it that are not among the methods' own -/
def xatB : List Cond := [.castable nEx nEx, .declares (Bundle.initS "java/lang/RuntimeException"), .declares (Bundle.initS "java/lang/Exception"), .declares (Bundle.initS Bundle.tN)]
theorem xat_in : ∀ w ∈ xat.filter goodWord, w ∈ lw_tbl := by decide +kernel
theorem xat_tb : ∀ w ∈ xat.filter goodWord, w ∈ jtbl := fun w hw => List.mem_filter.mpr ⟨xat_in w hw, (List.mem_filter.mp hw).2⟩
theorem xat_b : ∀ w ∈ xat.filter (fun w => !goodWord w), w ∈ xatB := by decide +kernel
theorem xatB_in : ∀ w ∈ xatB, w ∈ lw_tbl := by decide +kernel
theorem xw_link : Jvm.Cond.classLink "SealedBonds" 359 nEx ∈ jtbl := j_mem 1305 (by decide +kernel)
theorem xw_ini : Jvm.Cond.initialized nEx ∈ jtbl := j_mem 113 (by decide +kernel)
theorem xw_catch : Jvm.Cond.classLink "SealedBondsLaw" 13 nEx ∈ jtbl := j_mem 1300 (by decide +kernel)
theorem cl_L_7 : Jvm.Cond.methodLink "SealedBondsLaw" 7 y_S_row ∈ jtbl := j_mem 1301 (by decide +kernel)
theorem xgood : ∀ w ∈ Cond.classLink "SealedBonds" 359 nEx :: Cond.initialized nEx :: xat, vx_ot w = true := by decide +kernel
theorem xr_0 : decode prog_27_method_4_code 0 = .ok (.aload_n 0, 1) := by decide +kernel
theorem xr_1 : decode prog_27_method_4_code 1 = .ok (.aload_n 1, 1) := by decide +kernel
theorem xr_2 : decode prog_27_method_4_code 2 = .ok (.invokespecial 13, 3) := by decide +kernel
theorem xr_5 : decode prog_27_method_4_code 5 = .ok (.return_, 1) := by decide +kernel
/-- what a throw needs of the world: its text, Throwable's two statics -/
def jKx (X : jX) (U : State) : Prop := (∃ sa : Nat, vk_R "SealedBonds" 361 "the ROW has no such number" sa U) ∧ vx_Zq Bundle.tN "UNASSIGNED_STACK" Bundle.steD (fun q => X.1 < q) U X.2.1 ∧ vx_Zq Bundle.tN "SUPPRESSED_SENTINEL" Bundle.listD (fun q => X.1 < q) U X.2.1 ∧ (va_Nw (.castable nEx nEx) U ∧ va_Nw (.declares (Bundle.initS "java/lang/RuntimeException")) U ∧ va_Nw (.declares (Bundle.initS "java/lang/Exception")) U ∧ va_Nw (.declares (Bundle.initS Bundle.tN)) U)
theorem jKx.warm {X : jX} {s U : State} (h : jKx X s) (hW : s.WarmedH U.vm) : jKx X U := by
  obtain ⟨⟨sa, h1⟩, h2, h3, h4, h5, h6, h7⟩ := h
  exact ⟨⟨sa, h1.warm hW⟩, h2.moved hW.alike, h3.moved hW.alike, va_Nw.warmC hW h4, va_Nw.warmD hW h5, va_Nw.warmD hW h6, va_Nw.warmD hW h7⟩
theorem jKx.same {X : jX} {s U : State} (h : jKx X s) (hv : s.vm = U.vm) : jKx X U := by
  obtain ⟨⟨sa, h1⟩, h2, h3, h4, h5, h6, h7⟩ := h
  exact ⟨⟨sa, h1.same hv.symm⟩, h2.moved (by rw [hv]; exact Vm.Alike.refl _), h3.moved (by rw [hv]; exact Vm.Alike.refl _), va_Nw.same rfl hv h4, va_Nw.same rfl hv h5, va_Nw.same rfl hv h6, va_Nw.same rfl hv h7⟩
def jPx (X : jX) (vs : List Value) (h : jHp) : Array Value → State → Prop := fun v U => jPc X vs h v U ∧ jKx X U
theorem jPx_blind {X : jX} {vs : List Value} {h : jHp} : FrameBlind (jPx X vs h) := by
  intro a U g mk ⟨q1, q2⟩
  exact ⟨jPc_blind a U g mk q1, q2.same rfl⟩
theorem HRel.new0 {X : jX} {h : jHp} {H H1 : Heap} (r : HRel X h H) {len : Nat} (hz : H1.size = H.size + 1) (ho : ∀ q, q < H.size → H1[q]? = H[q]?) : HRel X (hNew h 0 len) H1 := by
  obtain ⟨r1, r2, r3, r4⟩ := r
  have eN : hN (hNew h 0 len) = hN h + 1 := rfl
  refine ⟨by rw [hz, r1, eN]; omega, by rw [eN]; omega, fun q hq => by rw [ho q (by omega)]; exact r3 q hq, fun b hb => ?_⟩
  by_cases e : b = hN h
  · subst e
    exact absurd (by simp [hNew, hT]) hb
  · have et : hT (hNew h 0 len) b = hT h b := by simp [hNew, hT, e]
    rw [et] at hb
    obtain ⟨q1, q2, q3⟩ := r4 b hb
    refine ⟨q1, by rw [eN]; omega, ?_⟩
    exact q3.to et (fun i => by simp [hNew, hI, e]) (fun i => by simp [hNew, hJ, e]) (fun i => by simp [hNew, hR, e]) (ho _ (by omega))
-- the condition changes nothing
def pureE (x : jE) : Prop := ∀ st v st', x st = some (v, st') → st' = st
def pureB (x : jB) : Prop := ∀ st v st', x st = some (v, st') → st' = st
theorem pe_c (v : Value) : pureE (x_c v) := by intro st w st' h; cases h; rfl
theorem pe_iloc (k : Nat) : pureE (x_iloc k) := by intro st w st' h; unfold x_iloc at h; split at h <;> cases h; rfl
theorem pe_aloc (k : Nat) : pureE (x_aloc k) := by intro st w st' h; unfold x_aloc at h; split at h <;> cases h; rfl
theorem pe_fld {ci t k : Nat} {o : jE} (ho : pureE o) : pureE (x_fld ci t k o) := by
  intro st w st' h
  unfold x_fld at h
  obtain ⟨u, s1, h1, h2⟩ := jb_eq h
  have e := ho _ _ _ h1
  split at h2 <;> cases h2
  exact e
theorem pb_cmp {op : jcmp} {a b : jE} (ha : pureE a) (hb : pureE b) : pureB (b_cmp op a b) := by
  intro st w st' h
  unfold b_cmp at h
  obtain ⟨u, s1, h1, h2⟩ := jb_eq h
  obtain ⟨v, s2, h3, h4⟩ := jb_eq h2
  have e1 := ha _ _ _ h1
  have e2 := hb _ _ _ h3
  split at h4 <;> cases h4
  rw [e2, e1]
theorem pb_or {a b : jB} (ha : pureB a) (hb : pureB b) : pureB (b_or a b) := by
  intro st w st' h
  unfold b_or at h
  obtain ⟨u, s1, h1, h2⟩ := jb_eq h
  have e1 := ha _ _ _ h1
  split at h2
  · cases h2; exact e1
  · rw [hb _ _ _ h2, e1]
theorem cnd_pure : pureB cnd_S_row := pb_or (pb_cmp (pe_iloc 1) (pe_c _)) (pb_cmp (pe_iloc 1) (pe_fld (pe_fld (pe_aloc 0))))
/-- a clean heap that no heap of the machine is like -/
def hBad (h : jHp) : jHp := (hI h, hJ h, hR h, fun _ => (1, 0), hN h + 1, hS h + 6)
theorem hBad_no {X : jX} {h : jHp} {H : Heap} (r : HRel X (hBad h) H) : False := absurd (r.2.2.2 0 (by show (1 : Nat) ≠ 0; omega)).1 (by omega)
set_option maxRecDepth 100000 in
set_option maxHeartbeats 4000000 in
theorem xm_S_row (X : jX) (l : Launch) (hl : l.stackTraces = false) (a : Nat) (k : Int32) (h : jHp) (hc : cnd_S_row ([.ref a, .int k], h) = some (true, ([.ref a, .int k], h))) :
    vx_Met l y_S_row (Jvm.Cond.code y_S_row prog_1_method_37_code 2 (Option.some Jvm.ClassFile.FieldType.int) :: jtbl) { frames := 10, cells := 1, slots := 6, locals := 400 } (jPx X [.ref a, .int k] h) (fun _ _ _ _ => False) (fun E _ t => E = nEx ∧ HRel X (hNew h 0 6) t.heap) 1 6 (fun q => X.1 < q) := by
  refine vx_ofW (cc := prog_1_method_37_code) (maxL := 2) (ret := Option.some Jvm.ClassFile.FieldType.int) (by decide) rfl ?_
  intro p e s m args below meth c s₁ B hml hex hv
  obtain ⟨⟨rfl, hH, hK⟩, hKx⟩ := hv
  generalize hvs : (([.ref a, .int k] : List Value).map (mv X.1)).toArray = args at *
  have hts : ∀ w ∈ jtbl, w.before args s = true := fun w hw => atoms_spec (ws := Jvm.Cond.code y_S_row prog_1_method_37_code 2 (Option.some Jvm.ClassFile.FieldType.int) :: jtbl) B.pre w (List.mem_cons_of_mem _ hw)
  have hown : s.vm.findClass "SealedBonds" = some m.cls := findClass_of_methodNamed B.named
  have hx := B.exec
  have hcb := B.bytes
  have hlocks := B.notSynchronized
  obtain ⟨m1, m2, K⟩ := bw_S_row (M := ms_S_row) (C := (X, (p, l, e, { frames := 10, cells := 1, slots := 6, locals := 400 }, s, m, args, below, meth, c, vx_MQ below (fun _ _ _ _ => False) (fun E _ t => E = nEx ∧ HRel X (hNew h 0 6) t.heap) args s 1 6 (fun q => X.1 < q)), hN h, hS h, hBad h, none)) rfl rfl _ _ _ _ _ hc
  have e1 : hN (hBad h) = hN h + 1 := rfl
  have e2 : hS (hBad h) = hS h + 6 := rfl
  have hG : GOK ms_S_row (X, (p, l, e, { frames := 10, cells := 1, slots := 6, locals := 400 }, s, m, args, below, meth, c, vx_MQ below (fun _ _ _ _ => False) (fun E _ t => E = nEx ∧ HRel X (hNew h 0 6) t.heap) args s 1 6 (fun q => X.1 < q)), hN h, hS h, hBad h, none) :=
    ⟨hx, hcb, hml, hown, hts, hK, fun q => (by cases q), ⟨Nat.le_refl _, Nat.le_refl _, (by rw [e1]; show hN h + 1 - hN h ≤ 1; omega), (by rw [e2]; show hS h + 6 - hS h ≤ 6; omega)⟩, fun pc ls H locs hd hH' => (hBad_no hH').elim⟩
  have KW := K hG [] (Nat.le_refl _) (by show hN h ≤ hN (hBad h); omega) (by show hS h ≤ hS (hBad h); omega) (by
    show WW ms_S_row _ 15 _ _ _
    intro ls H locs a1 a2 a3 a4 a5
    obtain ⟨⟨sa, hstr⟩, hU, hN', n4, n5, n6, n7⟩ := hKx
    have hat : ∀ w ∈ xat, w.before args s = true := vx_hat (fun w hw => hts w (xat_tb w hw)) xat_b (by
      intro w hw
      simp only [xatB, List.mem_cons, List.not_mem_nil, or_false] at hw
      rcases hw with rfl | rfl | rfl | rfl
      · exact va_Nw.use rfl n4
      · exact va_Nw.use rfl n5
      · exact va_Nw.use rfl n6
      · exact va_Nw.use rfl n7)
    have hkp : ∀ q : Nat, q < X.2.1.size → ¬ X.1 < q → s.heap[q]? = X.2.1[q]? := fun q _ hq => hH.2.2.1 q (by omega)
    have hS' : va_S (fun q => X.1 < q) s.heap H locs := ⟨by rw [hH.1, a2.1]; exact Nat.le_refl _, fun q _ hq => by rw [a2.2.2.1 q (by omega), hH.2.2.1 q (by omega)], a3⟩
    exact vy_throwSW (own := "SealedBonds") (cls := nEx) (text := "the ROW has no such number") (names := ["java/lang/RuntimeException", "java/lang/Exception"]) (ik := 359) (is := 361) (ic := 363) (sa := sa) (ix := 13) (rx := prog_27_method_4_code) (A := fun q => X.1 < q) (rest := []) hx hcb hl xr_0 xr_1 xr_2 xr_5 hown (by decide +kernel) (by decide +kernel) (hts _ xw_link) (hts _ xw_ini) hstr hat xgood (hU.kept hkp) (hN'.kept hkp) hS' (a1.1.trans hml.symm) d_S_row_15 d_S_row_18 d_S_row_19 d_S_row_22 d_S_row_25 (fun x hx => (hex x hx).elim) (by decide) (by decide) (by show hN h - hN h + 1 ≤ 1; omega) (by show hS h - hS h + 6 ≤ 6; omega) hlocks (fun t _ hz ho => ⟨rfl, a2.new0 hz ho⟩) a3 (by show hN h - hN h + 1 ≤ 1; omega) (by show hS h - hS h + 6 ≤ 6; omega))
  have hlen : (lg_sl [Value.ref a, Value.int k]).length ≤ 2 := Nat.le_of_ble_eq_true rfl
  have KW2 := KW _ s.heap [] (jLok_entry X.1 [.ref a, .int k] hlen) hH (fun q hq => by cases hq) (Nat.le_refl _) (Nat.le_refl _)
  rw [Nat.sub_self, Nat.sub_self] at KW2
  rw [← hvs, lg_entry_eq]
  rw [← hvs] at KW2
  exact KW2
