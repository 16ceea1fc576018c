/-! THE CLAIM OUT OF ONE WALK OF THE LAW'S BODY. Your part is whole_start (and what it stands on); all else here is the same for every law, but numbers. -/
def R_law : String := "SealedBondsLaw"
def lw_P (b : Addr) (xs : List Int32) (args : Array Value) (s : State) : Prop := args = #[.ref b] ∧ s.IntsAt b xs ∧ xs.length ≤ 3072 ∧ (Jvm.Cond.and given_1 narrow_1).before args s = true
def lw_Q (_ : Array Value) (s : State) (o : Outcome) (t : State) : Prop := o = .returned (some (.int 1)) ∧ Framed s o t [] 601024 7293033
def lw_Z (below : List Frame) (a : Array Value) (s : State) : State → Prop := fun t => ∃ o, t.status = .running ∧ Ended t below o ∧ lw_Q a s o t
/-- the law's own end, with 1 on the stack, nothing written that was there before, its room as the claim has it -/
theorem lw_ret {p : Program} {l : Launch} {e : Env} {s : State} {m : MethodId} {below : List Frame} {meth : Method} {c : Code} {b : Nat} (hx : p.tables.exec = Jvm.exec) (hb : c.code = code) (hr : meth.sig.returnType = ret) (hlocks : meth.locks = false) {pc : Nat} {H : Heap} {ls : Array Slot} (hdg : decode code pc = .ok (.ireturn, 1)) : W p l e room_1 s m #[Value.ref b] below meth c H [] 601024 7293033 (lw_Z below #[Value.ref b] s) (F0 m pc ls [.int 1]) := by
  intro T hT X
  obtain ⟨fs, hret, hrun, hended, hW, hframe⟩ := X.leave (v := some (.int 1)) (hlocks := hlocks) (fun h => by rw [hr] at h; cases h)
  have hmeth' : T.vm.method? m = some meth := X.method'
  refine ⟨T.setFrames fs, ?_, .returned (some (.int 1)), hrun, hended, rfl, ⟨_, rfl⟩, hW, hframe⟩
  jvm_step X.here [X.here.top, hx, hb, hdg, hmeth', hr, ret, narrow_b1]
  (try refine ⟨rfl, ?_⟩); (try refine ⟨rfl, ?_⟩)
  first | (intro acts; rw [hret _ acts rfl rfl rfl]) | rw [hret _ _ rfl rfl rfl]
  exact Steps.refl _
/-- what holds at the law's entry: the machine, the code, the tables' words (any of lw_tbl by 'hts w (by decide +kernel)'), the script of L ints xs at the cell b, what the Statement gives of the start (any of its parts by flat_of_before) -/
def lw_At (p : Program) (s : State) (m : MethodId) (meth : Method) (c : Code) (b L : Nat) (xs : Nat → Int32) : Prop :=
  p.tables.exec = Jvm.exec ∧ c.code = code ∧ meth.sig.returnType = ret ∧ c.maxLocals = 7 ∧ s.vm.findClass R_law = some m.cls ∧ (∀ w ∈ lw_tbl, w.before #[Value.ref b] s = true) ∧ va_X b L xs s s.heap ∧ b < s.heap.size ∧ meth.locks = false ∧ (Jvm.Cond.and given_1 narrow_1).before #[Value.ref b] s = true
theorem arr_at {args : Array Value} {s : State} {ty : FieldType} (h : (Cond.arrayClass ty).before args s = true) : ∃ cA : ClassId, ArrOfT s cA ty ∧ s.vm.findClass ("[" ++ ty.toString) = some cA := by
  obtain ⟨c, k, comp, h1, h2, h3⟩ := Cond.arrayClass_spec h
  exact ⟨c, fun N z => ⟨fun k h => (by cases h), k, h2, comp, h3⟩, h1⟩
theorem wi_all : ∀ ci, ci < 13 → Jvm.Cond.instantiable (kc ci).1 (kc ci).2.2 ∈ jtbl := by
  intro ci h
  match ci, h with
  | 0, _ => exact wi_0
  | 1, _ => exact wi_1
  | 2, _ => exact wi_2
  | 3, _ => exact wi_3
  | 4, _ => exact wi_4
  | 5, _ => exact wi_5
  | 6, _ => exact wi_6
  | 7, _ => exact wi_7
  | 8, _ => exact wi_8
  | 9, _ => exact wi_9
  | 10, _ => exact wi_10
  | 11, _ => exact wi_11
  | 12, _ => exact wi_12
  | n + 13, h => omega
theorem lw_mem {w : Cond} (i : Nat) (h : (lw_tbl[i]? == some w) = true) : w ∈ lw_tbl := List.mem_of_getElem? (i := i) (by simpa using h)
/-- a text of five bytes, as the Statement has it -/
theorem str_at {s : State} {b : Nat} {own : String} {k : Nat} {X : jX} (hX1 : X.1 + 1 = s.heap.size) (hX2 : X.2.1 = s.heap) (hts : ∀ w ∈ lw_tbl, w.before #[Value.ref b] s = true) (hgv : ∀ w ∈ flatC (Jvm.Cond.and given_1 narrow_1), w.before #[Value.ref b] s = true) (h1 : Cond.stringRef own k "pytkn" ∈ lw_tbl)
    (hex : Cond.exactly (.string own k) "java/lang/String" ∈ flatC (Jvm.Cond.and given_1 narrow_1)) (hco : Cond.eq (.field (.string own k) "java/lang/String" "coder" "B") (.int 0) ∈ flatC (Jvm.Cond.and given_1 narrow_1)) (har : Cond.arrayOf (.field (.string own k) "java/lang/String" "value" "[B") .byte ∈ flatC (Jvm.Cond.and given_1 narrow_1))
    (hle : Cond.eq (.length (.field (.string own k) "java/lang/String" "value" "[B")) (.int 5) ∈ flatC (Jvm.Cond.and given_1 narrow_1))
    (hel : ∀ j : Nat, j < 5 → Cond.eq (.elem (.field (.string own k) "java/lang/String" "value" "[B") (.int (Int32.ofNat j))) (.int (([112, 121, 116, 107, 110] : List Int32).getD j 0)) ∈ flatC (Jvm.Cond.and given_1 narrow_1)) : jStr X own k s := by
  have hA : ∀ a : Nat, a < s.heap.size → ¬ X.1 < a := fun a ha => by omega
  have g1 : ∀ i : Nat, i < 1 → ([5] : List Nat).getD i 0 < 2 ^ 31 := by
    intro i hi
    have e : i = 0 := by omega
    subst e
    decide
  have g2 : ∀ i : Nat, i < 1 → (Cond.eq (.length (.field (.string own k) "java/lang/String" "value" "[B")) (.int (Int32.ofNat (([5] : List Nat).getD i 0)))).before #[Value.ref b] s = true := by
    intro i hi
    have e : i = 0 := by omega
    subst e
    exact hgv _ hle
  have g3 : ∀ i : Nat, i < 1 → ∀ j : Nat, j < ([5] : List Nat).getD i 0 → (Cond.eq (.elem (.field (.string own k) "java/lang/String" "value" "[B") (.int (Int32.ofNat j))) (.int ((([[112, 121, 116, 107, 110]] : List (List Int32)).getD i []).getD j 0))).before #[Value.ref b] s = true := by
    intro i hi j hj
    have e : i = 0 := by omega
    subst e
    exact hgv _ (hel j hj)
  obtain ⟨adK, adV, hS, hev⟩ := vk_Sof (args := #[Value.ref b]) (s := s) (N := 1) (tm := fun _ => .string own k) (len := [5]) (byt := [[112, 121, 116, 107, 110]]) (A := fun q => X.1 < q) g1 (fun i hi => hgv _ hex) (fun i hi => hgv _ hco) (fun i hi => hgv _ har) g2 g3 (fun i j hi hj hij => by omega) hA
  obtain ⟨s1, s2, s3, s4⟩ := hS.1 0 (by omega)
  refine ⟨adK 0, adV 0, vk_R.of (hts _ h1) (hev 0 (by omega)), ?_⟩
  rw [hX2]
  refine ⟨s1, s2, s3, ?_, va_Zof (hts _ (lw_mem 783 (by decide +kernel))) (hts (.initialized "java/lang/String") (by decide +kernel)) (va_eqt (hgv (Cond.eq (.static "java/lang/String" "COMPACT_STRINGS" "Z") (.int 1)) (by decide +kernel))) hA⟩
  obtain ⟨cell, q1, q2, q3, q4, q5, q6, q7⟩ := s4
  refine ⟨cell, q1, q2, q3, q4, q5, fun j hj => ?_, q7⟩
  rw [q6 j hj]
  match j, hj with
  | 0, _ => rfl
  | 1, _ => rfl
  | 2, _ => rfl
  | 3, _ => rfl
  | 4, _ => rfl
  | n + 5, h => omega
set_option maxRecDepth 100000 in
set_option maxHeartbeats 4000000 in
/-- from the entry, for every script of at most 3072 ints, the law comes to its end with true -/
theorem whole_start {p : Program} {e : Env} {s : State} {m : MethodId} {below : List Frame} {meth : Method} {c : Code} (l : Launch) (hl : l.stackTraces = false) {b L : Nat} {xs : Nat → Int32} (hL : L ≤ 3072) (C0 : lw_At p s m meth c b L xs) : W p l e room_1 s m #[Value.ref b] below meth c s.heap [] 0 0 (lw_Z below #[Value.ref b] s) (entryFrame m ([Value.ref b] : List Value).toArray 7) := by
  obtain ⟨hx, hb, hr, hml, hown, hts, hX, hbl, hlocks, hgv⟩ := C0
  have hgv := flat_of_before _ hgv
  have htj : ∀ w ∈ jtbl, w.before #[Value.ref b] s = true := fun w hw => hts w (List.mem_filter.mp hw).1
  have h0 : ∀ ci : Nat, ∃ q : ClassId × (Nat → Nat), ci < 13 → u_Kn s (kc ci).1 (kc ci).2.1 (kc ci).2.2 q.1 q.2 := by
    intro ci
    by_cases h : ci < 13
    · obtain ⟨cC, iS, hk⟩ := u_known htj (k_in ci h) (htj _ (wi_all ci h))
      exact ⟨(cC, iS), fun _ => hk⟩
    · exact ⟨(0, fun _ => 0), fun q => absurd q h⟩
  obtain ⟨D, hD⟩ := Classical.axiomOfChoice h0
  obtain ⟨c1, a1, b1⟩ := arr_at (htj _ w_arr1)
  obtain ⟨c2, a2, b2⟩ := arr_at (htj _ w_arr2)
  obtain ⟨c3, a3, b3⟩ := arr_at (htj _ w_arr3)
  obtain ⟨c4, a4, b4⟩ := arr_at (htj _ w_arr4)
  obtain ⟨c5, a5, b5⟩ := arr_at (htj _ w_arr5)
  have hao : (Cond.arrayOver (.object "SealedBonds$Desk")).before #[Value.ref b] s = true := hts _ (lw_mem 299 (by decide +kernel))
  obtain ⟨comp, c6, k6, d1, d2, d3, d4, d5⟩ := Cond.arrayOver_spec hao
  obtain ⟨X, hX0⟩ : ∃ X : jX, X = (s.heap.size - 1, s.heap, (fun ci => (D ci).1, fun ci => (D ci).2), fun k => match k with
    | 1 => c1
    | 2 => c2
    | 3 => c3
    | 4 => c4
    | 5 => c5
    | _ => c6) := ⟨_, rfl⟩
  have hX1 : X.1 + 1 = s.heap.size := by rw [hX0]; show s.heap.size - 1 + 1 = s.heap.size; omega
  have hX2 : X.2.1 = s.heap := by rw [hX0]
  have hA : ∀ a : Nat, a < s.heap.size → ¬ X.1 < a := fun a ha => by omega
  have hK1 : va_K X.2.2.1 kcl (jtys X) s := by
    subst hX0
    refine ⟨fun ci q hq => ?_, fun k q hq => ?_⟩
    · by_cases h : ci < 13
      · rw [k_at ci h] at hq
        cases hq
        exact hD ci h
      · have : kcl[ci]? = none := List.getElem?_eq_none (by show 13 ≤ ci; omega)
        rw [this] at hq
        cases hq
    · match k, hq with
      | 0, hq => cases hq; exact ⟨a1, b1⟩
      | 1, hq => cases hq; exact ⟨a2, b2⟩
      | 2, hq => cases hq; exact ⟨a3, b3⟩
      | 3, hq => cases hq; exact ⟨a4, b4⟩
      | 4, hq => cases hq; exact ⟨a5, b5⟩
      | 5, hq => cases hq; exact ⟨fun N z => ⟨fun k h => (by cases h), k6, d3, comp, d4⟩, ⟨k6, comp, d3, d4, d1, d5⟩⟩
      | n + 6, hq => simp [jtys] at hq
  have hK : jK X s := ⟨hK1, fun w hw => by
    obtain ⟨a, i, y, q, rfl⟩ := jnest_ok w hw
    exact va_Nw.of rfl (hts _ (jnest_in _ hw)), va_AO.of hao, str_at (own := "SealedBonds$Text") (k := 80) hX1 hX2 hts hgv (lw_mem 769 (by decide +kernel)) (by decide +kernel) (by decide +kernel) (by decide +kernel) (by decide +kernel) (by decide +kernel), str_at (own := "SealedBondsModel") (k := 217) hX1 hX2 hts hgv (by decide +kernel) (by decide +kernel) (by decide +kernel) (by decide +kernel) (by decide +kernel) (by decide +kernel)⟩
  have hKx : jKx X s := by
    refine ⟨?_, ?_, ?_, va_Nw.of rfl (hts _ (xatB_in _ (List.mem_of_getElem? (i := 0) rfl))), va_Nw.of rfl (hts _ (xatB_in _ (List.mem_of_getElem? (i := 1) rfl))), va_Nw.of rfl (hts _ (xatB_in _ (List.mem_of_getElem? (i := 2) rfl))), va_Nw.of rfl (hts _ (xatB_in _ (List.mem_of_getElem? (i := 3) rfl)))⟩
    · obtain ⟨a, -, -, -, q1, -⟩ := Cond.exactly_spec (args := #[Value.ref b]) (first := s) (o := none) (s := s) (idx := []) (t := .string "SealedBonds" 361) (cls := "java/lang/String") (hgv _ (by decide +kernel))
      exact ⟨a, vk_R.of (hts _ (lw_mem 1344 (by decide +kernel))) q1⟩
    · rw [hX2]
      exact vx_Zqof (hts _ (lw_mem 1332 (by decide +kernel))) (hts (.initialized "java/lang/Throwable") (by decide +kernel)) (hgv _ (by decide +kernel)) hA
    · rw [hX2]
      exact vx_Zqof (hts _ (lw_mem 1334 (by decide +kernel))) (hts (.initialized "java/lang/Throwable") (by decide +kernel)) (hgv _ (by decide +kernel)) hA
  obtain ⟨L', hE, hbody, hb1, hb2⟩ := law_body (b := b) (xs := xs) hL
  have hSC : vSC (X, (p, l, e, room_1, s, m, #[Value.ref b], below, meth, c, lw_Z below #[Value.ref b] s), 1, 0, hE, some (.int 1)) b L xs := ⟨by show va_X b L xs s X.2.1; rw [hX2]; exact hX, by show b ≤ X.1; omega, by show X.2.1.size = X.1 + 1; rw [hX2]; omega⟩
  have hG : GOK ms_L_law (X, (p, l, e, room_1, s, m, #[Value.ref b], below, meth, c, lw_Z below #[Value.ref b] s), 1, 0, hE, some (.int 1)) := by
    refine ⟨hx, hb, hml, hown, htj, hK, fun q => (by cases q), ⟨by decide, by decide, by show hN hE - 1 ≤ 601024; omega, by show hS hE - 0 ≤ 7293033; omega⟩, ?_⟩
    intro pc ls H locs hd hH hl2 h1 h2
    refine va_forget (fun q hq => by have := hl2 q hq; omega) ?_
    refine W.widen (k := 601024) (n := 7293033) (by show hN hE - 1 ≤ 601024; omega) (by show hS hE - 0 ≤ 7293033; omega) ?_
    exact lw_ret hx hb hr hlocks hd
  obtain ⟨m1, m2, K⟩ := im_L_law hSC hKx hl _ _ _ _ _ hbody
  have KW := K hG (Nat.le_refl _) (Nat.le_refl _) ⟨rfl, rfl⟩
  have hlen : (lg_sl [Value.retAddr b]).length ≤ 7 := Nat.le_of_ble_eq_true rfl
  have KW2 := KW _ s.heap [] (jLok_entry X.1 [.retAddr b] hlen) ⟨by show s.heap.size = X.1 + 1; omega, by decide, fun q hq => by rw [hX2], fun a ha => absurd rfl ha⟩ (fun q hq => by cases hq) (Nat.le_refl _) (Nat.zero_le _)
  rw [lg_entry_eq]
  exact KW2
-- ===== YOUR PART ENDS =====
set_option maxHeartbeats 4000000 in
theorem lw_walk (l : Launch) (hl : l.stackTraces = false) (b : Addr) (xs : List Int32) : MetFree l x (headSpec (Jvm.Cond.code x code maxLocals ret :: tables_1) room_1) (lw_P b xs) (fun _ _ _ _ _ => True) lw_Q := by
  refine MetFree.of_bodyS (code := code) (maxLocals := maxLocals) (ret := ret) (by decide) ?_ ?_
  · intro args s m h hn
    obtain ⟨meth, c, h1, h2, h3, h4, h5, h6, -, -⟩ := Cond.code_spec hn (atoms_spec (ws := Jvm.Cond.code x code maxLocals ret :: tables_1) h _ List.mem_cons_self)
    exact ⟨meth, c, h1, h2, h3, h4, h5, h6⟩
  · intro p e s m args below meth c s₁ B hml0 hP _
    obtain ⟨rfl, hx, hbd, hgv⟩ := hP
    obtain ⟨scr, harrAt, hlist, hof, hsmall⟩ := hx
    obtain ⟨hcb, hkn, -, -⟩ := State.arrayAt?_spec harrAt
    have hown : s.vm.findClass R_law = some m.cls := findClass_of_methodNamed B.named
    have hts0 : ∀ c ∈ (Jvm.Cond.code x code maxLocals ret :: tables_1), c.before #[Value.ref b] s = true := atoms_spec (ws := Jvm.Cond.code x code maxLocals ret :: tables_1) B.pre
    have hts : ∀ w ∈ lw_tbl, w.before #[Value.ref b] s = true := k2_hts_sels lw_privs (fun w hw => hts0 w (List.mem_cons_of_mem _ hw)) lw_privs_ok
    have hml : c.maxLocals = 7 := B.maxLocals_eq (hts0 _ List.mem_cons_self)
    have X₀ : Stand p l e room_1 s m #[Value.ref b] below meth c s₁ [] 0 0 := Stand.of_body B
    have hh0 : s₁.heap = s.heap := by rw [B.state]; rfl
    have hsz : scr.slots.size = xs.length := by rw [← Array.length_toList, hlist, List.length_map]
    have hval : ∀ j : Nat, j < xs.length → scr.slots[j]? = some (.int (xs.getD j 0)) := fun j hj => by
      rw [← Array.getElem?_toList, hlist]
      simp [hj]
    have hbl : b < s.heap.size := (Array.getElem?_eq_some_iff.mp hcb).1
    have hX : va_X b xs.length (fun j => xs.getD j 0) s s.heap := ⟨scr, hcb, hof, hkn, hsz, hval⟩
    have K : W p l e room_1 s m #[Value.ref b] below meth c s₁.heap [] 0 0 (lw_Z below #[Value.ref b] s) (entryFrame m ([Value.ref b] : List Value).toArray 7) := by
      rw [hh0]
      exact whole_start l hl hbd ⟨B.exec, B.bytes, B.returns, hml, hown, hts, hX, hbl, B.notSynchronized, hgv⟩
    obtain ⟨t, a1, o, b1, b2, b3⟩ := K s₁ rfl X₀
    exact ⟨t, o, a1, b1, b2, b3⟩
theorem lw_pre_spec {args : Array Value} {s : State} (h : (Jvm.Cond.and given_1 narrow_1).before args s = true) (hr : rest_1_c.before args s = true) : ∃ (b : Addr) (xs : List Int32), lw_P b xs args s := by
  have hs := flat_of_before _ h
  have hq := flat_of_before _ hr
  have hc : (Cond.count 1).before args s = true := hs _ (by decide +kernel)
  have harr : (Cond.arrayOf (.arg 0) .int).before args s = true := hs _ (by decide +kernel)
  have hle : (Cond.le (.length (.arg 0)) (.int 3072)).before args s = true := hs _ (by decide +kernel)
  have hlen : (Cond.isInt (.length (.arg 0))).before args s = true := hq _ (by decide +kernel)
  have hall : (Cond.all (.arg 0) (.isInt (.elem (.arg 0) (.index 0)))).before args s = true := hq _ (by decide +kernel)
  obtain ⟨b, xs, hb, hx⟩ := State.ints_of_pre rfl harr hlen hall
  have hsm : xs.length < 2 ^ 31 := hx.choose_spec.2.2.2
  have hev : (Term.length (.arg 0)).eval args s none [] s = some (.int xs.length.toInt32) := hx.length_eval hb
  have hv := Cond.le_ints hev (show (Term.int 3072).eval args s none [] s = some (.int 3072) from rfl)
  have hd : xs.length.toInt32 ≤ 3072 := by
    simpa [Cond.before, Cond.holds, hv] using hle
  have hN : xs.length ≤ 3072 := (Int32.ofNat_le_ofNat hsm (by decide)).mp (show Int32.ofNat xs.length ≤ Int32.ofNat 3072 from hd)
  exact ⟨b, xs, Cond.one_arg hc (show args[0]? = some (.ref b) from hb), hx, hN, h⟩
theorem lw_comes (l : Launch) (hl : l.stackTraces = false) : Comes l x (Jvm.Cond.code x code maxLocals ret :: tables_1) room_1 (fun tb e args s => Calls_1 tb e args s ∧ rest_1 tb e args s ∧ Pre_1 tb e args s)
    (fun _ _ args s o t => lw_Q args s o t) := by
  intro p e ha hc hk s m args below hf hfit hheap happ hpre
  obtain ⟨b, xs, hP⟩ := lw_pre_spec hpre.2.2 hpre.2.1
  obtain ⟨k, o, h1, h2, h3, hQ⟩ := lw_walk l hl b xs p e ha hc hk s m args below hf ((Spec.applies_iff_loose hf).mp happ).1 hP trivial
  exact ⟨k, o, h1, h2, h3, hQ⟩
theorem lw_frame {s t : State} {o : Outcome} {args : Array Value} (h : Framed s o t [] 601024 7293033) :
    Framed s o t (fieldLocs frame_1_writes args s ++ arrayLocs frame_1_arrays args s ++ staticLocs frame_1_statics s) 601024 7293033 := h
theorem lw_limb (L : Cond) (hL : ∀ (args : Array Value) (s t : State), L.after args s (.returned (some (.int 1))) t = true) :
    ArmFor flags0 classFile x code maxLocals ret World_1 tables_1 room_1 Calls_1 rest_1 Pre_1
      (fun tb e a s o t => postC L tb e a s o t ∧ Framed s o t (fieldLocs frame_1_writes a s ++ arrayLocs frame_1_arrays a s ++ staticLocs frame_1_statics s) 601024 7293033) := by
  intro l hfl _ _ p e ha hc hk s m args below hf hfit hheap happ hpre
  have hl : l.stackTraces = false := by
    unfold Launch.stackTraces
    rw [hfl]
    decide
  obtain ⟨k, o, h1, h2, h3, rfl, hF⟩ := lw_comes l hl p e ha hc hk s m args below hf hfit hheap happ hpre
  exact ⟨k, _, h1, h2, h3, hL args s _, lw_frame hF⟩
theorem i_vc : Claimed_1_1 ∧ Claimed_1_2 := ⟨lw_limb limb_1_1 (fun args s t => by simp [limb_1_1, Cond.after, Cond.holds, Cond.value]), lw_limb limb_1_2 (fun args s t => Cond.after_iff.mpr (by
  first | (rw [show limb_1_2 = Cond.eq .result (.int 1) from rfl, Cond.eq_ints (x := 1) (y := 1) rfl rfl]; simp; done) | (simp [limb_1_2, Cond.value, Term.eval]; done)))⟩
