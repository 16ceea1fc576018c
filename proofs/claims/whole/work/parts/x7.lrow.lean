/-! methods with a table of their own -/
def MOkW (X : jX) (l : Launch) (y : MethodName) (bytes : ByteArray) (nL : Nat) (ret : Option FieldType) (hh : List (Nat × Nat × Nat × Nat)) (D Λ : Nat) (f : jF) : Prop :=
  ∀ (vs : List Value) (h : jHp) (r : Option Value) (h' : jHp), f vs h = some (r, h') → ((∃ C : jC, C.1 = X ∧ C.2.1.2.1 = l) → hN h ≤ hN h' ∧ hS h ≤ hS h') ∧
    Met l y (Jvm.Cond.codeWith y bytes nL ret hh :: jtbl) { frames := D, cells := hN h' - hN h, slots := hS h' - hS h, locals := Λ } (jPx X vs h) (jQc X r h') (hN h' - hN h) (hS h' - hS h) (fun q => X.1 < q)
theorem mokw {X : jX} {l : Launch} {y : MethodName} {bytes : ByteArray} {nL D Λ rt : Nat} {ret : Option FieldType} {ri : Instr} {ini : Bool} {tg : Nat → Nat} {pe : Nat} {body : jSt} {hh : List (Nat × Nat × Nat × Nat)} (hp : plainName y.cls = true) (hr : jRet ret ri rt) (hi : ini = true → y.name = "<init>")
    (hb : ∀ C : jC, C.1 = X → C.2.1.2.1 = l → SI (y.cls, bytes, nL, D, Λ, ri, ini) C tg 0 pe body) : MOkW X l y bytes nL ret hh D Λ (j_meth rt nL body) := by
  intro vs h r h' hf
  unfold j_meth at hf
  split at hf
  · rename_i hlen
    obtain ⟨L', hbody, hrok⟩ : ∃ L', body (j_pad vs nL, h) = some (.inr r, (L', h')) ∧ j_rok rt r = true := by
      unfold j_out at hf
      split at hf
      · rename_i v st hq
        split at hf
        · rename_i hk
          cases hf
          exact ⟨st.1, hq, hk⟩
        · cases hf
      · cases hf
    refine ⟨fun ⟨C, c1, c2⟩ => ⟨(hb C c1 c2 _ _ _ _ _ hbody).1, (hb C c1 c2 _ _ _ _ _ hbody).2.1⟩, ?_⟩
    refine va_MetW (hh := hh) (cc := bytes) (maxL := nL) (ret := ret) hp rfl ?_
    intro p e s m args below meth c s₁ B hml hv
    obtain ⟨⟨rfl, hH, hK⟩, -⟩ := hv
    have hts : ∀ w ∈ jtbl, w.before (vs.map (mv X.1)).toArray s = true := fun w hw => atoms_spec (ws := Jvm.Cond.codeWith y bytes nL ret hh :: jtbl) B.pre w (List.mem_cons_of_mem _ hw)
    have hown : s.vm.findClass y.cls = some m.cls := findClass_of_methodNamed B.named
    have hin : ini = true → meth.name = "<init>" := fun q => by rw [(name_of_methodNamed B.named B.method).1]; exact hi q
    have hx := B.exec
    have hcb := B.bytes
    have hret := B.returns
    have hlocks := B.notSynchronized
    obtain ⟨m1, m2, K⟩ := hb (X, (p, l, e, { frames := D, cells := hN h' - hN h, slots := hS h' - hS h, locals := Λ }, s, m, (vs.map (mv X.1)).toArray, below, meth, c, MQ below (jQc X r h') (vs.map (mv X.1)).toArray s (hN h' - hN h) (hS h' - hS h) (fun q => X.1 < q)), hN h, hS h, h', r) rfl rfl _ _ _ _ _ hbody
    have hG : GOK (y.cls, bytes, nL, D, Λ, ri, ini) (X, (p, l, e, { frames := D, cells := hN h' - hN h, slots := hS h' - hS h, locals := Λ }, s, m, (vs.map (mv X.1)).toArray, below, meth, c, MQ below (jQc X r h') (vs.map (mv X.1)).toArray s (hN h' - hN h) (hS h' - hS h) (fun q => X.1 < q)), hN h, hS h, h', r) := by
      refine ⟨hx, hcb, hml, hown, hts, hK, hin, ⟨Nat.le_refl _, Nat.le_refl _, Nat.le_refl _, Nat.le_refl _⟩, ?_⟩
      intro pc ls H locs hd hH' hl _ _
      have hq : ∀ t : State, t.heap = H → s.WarmedH t.vm → jQc X r h' (vs.map (mv X.1)).toArray s (.returned (r.map (mv X.1))) t := fun t ht _ => ⟨rfl, by rw [ht]; exact hH'⟩
      rcases hr with ⟨rfl, rfl, rfl⟩ | ⟨rfl, rfl, rfl⟩ | ⟨rfl, rfl, rfl⟩ | ⟨rfl, rfl, rfl⟩ | ⟨ty, rfl, rfl, rfl⟩
      · match r, hrok, hq with
        | none, _, hq => exact W.vret hx hcb hret hq hl hd
        | some (.int x), hrok, hq => simp [j_rok] at hrok
        | some (.long x), hrok, hq => simp [j_rok] at hrok
        | some (.ref x), hrok, hq => simp [j_rok] at hrok
      · match r, hrok, hq with
        | none, hrok, hq => simp [j_rok] at hrok
        | some (.int x), hrok, hq => exact W.iret hx hcb hret hq hl hd
        | some (.long x), hrok, hq => simp [j_rok] at hrok
        | some (.ref x), hrok, hq => simp [j_rok] at hrok
      · match r, hrok, hq with
        | none, hrok, hq => simp [j_rok] at hrok
        | some (.int x), hrok, hq =>
          refine W.zret hx hcb hret ?_ hq hl hd
          simp [j_rok] at hrok
          rcases hrok with rfl | rfl <;> rfl
        | some (.long x), hrok, hq => simp [j_rok] at hrok
        | some (.ref x), hrok, hq => simp [j_rok] at hrok
      · match r, hrok, hq with
        | none, hrok, hq => simp [j_rok] at hrok
        | some (.int x), hrok, hq => simp [j_rok] at hrok
        | some (.long x), hrok, hq => exact W.lret hx hcb hret hq hl hd
        | some (.ref x), hrok, hq => simp [j_rok] at hrok
      · match r, hrok, hq with
        | none, hrok, hq => simp [j_rok] at hrok
        | some (.int x), hrok, hq => simp [j_rok] at hrok
        | some (.long x), hrok, hq => simp [j_rok] at hrok
        | some (.ref x), hrok, hq => exact W.aret hx hcb hret (Or.inr ⟨ty, rfl⟩) (Or.inr ⟨_, rfl⟩) hq hl hd
    have KW := K hG (Nat.le_refl _) (Nat.le_refl _) ⟨rfl, rfl⟩
    have KW2 := KW _ s.heap [] (jLok_entry X.1 vs hlen) hH (fun q hq => by cases hq) (Nat.le_refl _) (Nat.le_refl _)
    rw [Nat.sub_self, Nat.sub_self] at KW2
    rw [lg_entry_eq]
    exact KW2
  · cases hf
def YW (y : MethodName) (bytes : ByteArray) (nL : Nat) (ret : Option FieldType) (hh : List (Nat × Nat × Nat × Nat)) (n : Nat) : Prop := Jvm.Cond.codeWith y bytes nL ret hh ∈ jtbl ∧ Jvm.Cond.initialized y.cls ∈ jtbl ∧ y.cls ≠ "java/lang/invoke/MethodHandle" ∧ y.cls ≠ "java/lang/invoke/VarHandle" ∧ (parseMethodDescriptor y.desc).map (fun d => d.parameters.length) = some n
section WWcallsX
variable {M : jMs} {C : jC} {pc : Nat} {L stk : List Value} {h : jHp}
theorem ww_callsX {y : MethodName} {bytes : ByteArray} {nL n idx D' Λ' : Nat} {f : jF} {r : Option Value} {h' : jHp} {ret : Option FieldType} {vs : List Value} {hh : List (Nat × Nat × Nat × Nat)} (hKx : jKx C.1 C.2.1.2.2.2.2.1) (hG : GOK M C) (hd : decode M.2.1 pc = .ok (.invokestatic idx, 3)) (hyb : YW y bytes nL ret hh n) (hys : YS y) (hl : Jvm.Cond.methodLink M.1 idx y ∈ jtbl) (hm : MOkW C.1 C.2.1.2.1 y bytes nL ret hh D' Λ' f) (hn : vs.length = n) (he : f vs h = some (r, h')) (hD : D' + 1 ≤ M.2.2.2.1) (hΛ : 8 + (nL + 11) + Λ' ≤ M.2.2.2.2.1) (hstk : (stk.map fun v => v.category).sum ≤ 8) (hc : hN h' ≤ hN C.2.2.2.2.1) (hs : hS h' ≤ hS C.2.2.2.2.1)
    (K : WW M C (pc + 3) L (r.toList ++ stk) h') : WW M C pc L (vs.reverse ++ stk) h := by
  obtain ⟨X, ⟨p, l, e, R, s, m, args, below, meth, c, Q⟩, n0, s0, hE, rv⟩ := C
  obtain ⟨hx, hb, hml, hown, hts, hK, hin, hrm, hret⟩ := hG
  simp only at hc hs hm hKx
  obtain ⟨hmono, hM⟩ := hm _ _ _ _ he
  obtain ⟨m1, m2⟩ := hmono ⟨(X, (p, l, e, R, s, m, args, below, meth, c, Q), n0, s0, hE, rv), rfl, rfl⟩
  obtain ⟨y1, y2, y3, y4, y5⟩ := hyb
  intro ls H locs a1 a2 a3 a4 a5
  obtain ⟨z1, z2, z3, z4⟩ := hrm
  have hpre : ∀ U : State, U.heap = H → s.WarmedH U.vm → jPx X (vs) h (List.map (mv X.1) (vs)).toArray U := fun U hU hW => ⟨⟨rfl, by rw [hU]; exact a2, hK.warm hW⟩, hKx.warm hW⟩
  refine j_callW (va_Run.ofC <| vx_runSW (hh := hh) (As := vs.map (mv X.1)) (rest := stk.map (mv X.1)) ⟨hx, hb, hml, hown, hts⟩ hM (vx_cwSW n hts (jgood (by
      intro w hw
      simp only [va_wsS, List.cons_append, List.nil_append, List.mem_cons] at hw
      rcases hw with rfl | rfl | rfl | rfl | hw
      · exact hl
      · exact hys
      · exact y2
      · exact y1
      · exact hw)) rfl rfl rfl ⟨y3, y4, y5⟩ ⟨by show D' + 1 ≤ _; omega, by show _ + Λ' ≤ _; omega⟩) ⟨jPx_blind, hpre⟩ rfl ?_ a1.1 ?_ (lv_room (by rw [j_sum]; exact hstk)) hd ⟨by omega, by omega⟩) fun v st0 t L' hL' hQ => ?_
  · simpa using hn
  · simp [mv]
  · obtain ⟨q1, q2⟩ := hQ
    cases q1
    have K := K ls t.heap (locs ++ L') a1 q2 (fun q hq => (List.mem_append.mp hq).elim (a3 q) (hL' q)) (by omega) (by omega)
    have c1 : hN h' - n0 = hN h - n0 + (hN h' - hN h) := by omega
    have c2 : hS h' - s0 = hS h - s0 + (hS h' - hS h) := by omega
    rw [c1, c2, List.map_append] at K
    have e : List.map (mv X.1) r.toList = (r.map (mv X.1)).toList := by cases r <;> rfl
    rw [e] at K
    exact K
end WWcallsX
section Rules9
variable {M : jMs} {C : jC} {k pc p1 p2 p3 p4 p5 tT tF : Nat} {tg : Nat → Nat}
theorem ei_callsX {y : MethodName} {bytes : ByteArray} {nL n idx D' Λ' : Nat} {ret : Option FieldType} {f : jF} {as : jS → Option (List Value × jS)} {hh : List (Nat × Nat × Nat × Nat)} (hKx : jKx C.1 C.2.1.2.2.2.2.1) (has : LI M C k pc p1 n as) (hd : decode M.2.1 p1 = .ok (.invokestatic idx, 3)) (hyb : YW y bytes nL ret hh n) (hys : YS y) (hl : Jvm.Cond.methodLink M.1 idx y ∈ jtbl) (hm : MOkW C.1 C.2.1.2.1 y bytes nL ret hh D' Λ' f) (hD : D' + 1 ≤ M.2.2.2.1) (hΛ : 8 + (nL + 11) + Λ' ≤ M.2.2.2.2.1) (hk8 : k ≤ 8) : EI M C k pc (p1 + 3) (x_calls f as) := by
  intro L h v L' h' he
  simp only [x_calls] at he
  obtain ⟨vs, ⟨L1, h1⟩, e1, he⟩ := jb_eq he
  obtain ⟨hlen, m1, m2, K1⟩ := has _ _ _ _ _ e1
  cases hf : f vs h1 with
  | none => rw [hf] at he; cases he
  | some q =>
    obtain ⟨r, h2⟩ := q
    rw [hf] at he
    cases r with
    | none => cases he
    | some r =>
      cases he
      obtain ⟨n1, n2⟩ := (hm _ _ _ _ hf).1 ⟨C, rfl, rfl⟩
      exact ⟨Nat.le_trans m1 n1, Nat.le_trans m2 n2, fun hG stk hk c1 c2 K => K1 hG stk hk (Nat.le_trans n1 c1) (Nat.le_trans n2 c2) (ww_callsX (r := some v) hKx hG hd hyb hys hl hm hlen hf hD hΛ (Nat.le_trans hk hk8) c1 c2 K)⟩
end Rules9
abbrev y_L_row : MethodName := ⟨"SealedBondsLaw", "row", "(LSealedBonds;I[J)I"⟩
abbrev hh_L_row : List (Nat × Nat × Nat × Nat) := [(0, 9, 12, 13)]
theorem yb_L_row : YW y_L_row method_3_code 4 (Option.some Jvm.ClassFile.FieldType.int) hh_L_row 3 := ⟨j_mem 1299 (by decide +kernel), j_mem 87 (by decide +kernel), by decide, by decide, by decide +kernel⟩
theorem ys_L_row : YS y_L_row := j_mem 1298 (by decide +kernel)
noncomputable def body_L_row : jSt := s_seq (s_aput 5 (x_aloc 2) (x_c (.int (nI 0))) (x_un o_i2l (x_callv 0 f_S_row (xs_cons (x_aloc 0) (xs_cons (x_iloc 1) xs_nil))))) (s_ret (x_c (.int (nI 0))))
abbrev ms_L_row : jMs := ("SealedBondsLaw", method_3_code, 4, 20, 500, .ireturn, false)
set_option maxRecDepth 100000 in
set_option maxHeartbeats 4000000 in
theorem iw_L_row (X : jX) (l : Launch) : MOkW X l y_L_row method_3_code 4 (Option.some Jvm.ClassFile.FieldType.int) hh_L_row 20 500 (j_meth 1 4 body_L_row) := mokw (tg := fun _ => 0) (pe := 0) (by decide) (Or.inr (Or.inl ⟨rfl, rfl, rfl⟩)) (ini := false) (fun q => by cases q) (fun C _ _ => show SI ms_L_row C (fun _ => 0) 0 0 body_L_row from (si_seq (si_goto (p2 := 15) (si_aput (ei_a2 d_L_row_0) (ei_ic d_L_row_1 rfl) (ei_un (ei_callv (li_cons (ei_a0 d_L_row_2) (li_cons (ei_i1 d_L_row_3) li_nil)) d_L_row_4 yb_S_row yv_S_row cl_L_7 (im_S_row _ _) (by decide) (by decide) (by decide)) (op_i2l d_L_row_7)) (opt_l d_L_row_8)) d_L_row_9 (by decide)) (si_ret (ei_ic d_L_row_15 rfl) d_L_row_16)))
theorem xr_call {p : Program} {l : Launch} {e : Env} {R : Room} {s : State} {m : MethodId} {args : Array Value} {below : List Frame} {meth : Method} {c : Code} {H : Heap} {locs : List Loc} {cells slots mc ms : Nat} {g : JFrame} {rest : List Value} {XC : String → State → State → Prop} {free : Addr → Prop} {Q : State → Prop} (hr : vx_Run p l e R s m args below meth c H locs cells slots mc ms g rest (fun _ _ _ => False) XC free)
    (kx : ∀ (E : String) (ce : Cell) (q : Addr) (st₀ t : State) (L : List Loc), XC E st₀ t → (∀ z ∈ L, free z.base) → t.heap[q]? = some ce → ce.vm = .none → s.vm.findClass E = some ce.cls → vx_W p l e R s m args below meth c t.heap (locs ++ L) (cells + mc) (slots + ms) Q { g with stack := rest } q) : W p l e R s m args below meth c H locs cells slots Q g := by
  intro T hT X
  rcases hr T hT X with ⟨v, st₀, t, T', L, h0, X', hL, e1, e2, hF, st⟩ | ⟨q, st₀, t, T', L, E, ce, h0, X', hL, e1, e2, hXC, hce, hcv, hcl, st⟩
  · exact hF.elim
  · obtain ⟨t2, a1, b1⟩ := kx E ce q st₀ t L hXC hL hce hcv hcl T' e1 X'
    exact ⟨t2, st.trans a1, b1⟩
set_option maxRecDepth 100000 in
set_option maxHeartbeats 4000000 in
theorem ix_L_row (X : jX) (l : Launch) (hl : l.stackTraces = false) (a : Nat) (k : Int32) (o : Nat) (h : jHp) (ht : (hT h a).1 = 10) (hc : cnd_S_row ([.ref a, .int k], h) = some (true, ([.ref a, .int k], h))) :
    Met l y_L_row (Jvm.Cond.codeWith y_L_row method_3_code 4 (Option.some Jvm.ClassFile.FieldType.int) hh_L_row :: jtbl) { frames := 20, cells := 1, slots := 6, locals := 500 } (jPx X [.ref a, .int k, .ref o] h) (jQc X (some (.int 1)) (hNew h 0 6)) 1 6 (fun q => X.1 < q) := by
  refine va_MetW (hh := hh_L_row) (cc := method_3_code) (maxL := 4) (ret := Option.some Jvm.ClassFile.FieldType.int) (by decide) rfl ?_
  intro p e s m args below meth c s₁ B hml hv
  obtain ⟨⟨rfl, hH, hK⟩, hKx⟩ := hv
  generalize hvs : (([.ref a, .int k, .ref o] : List Value).map (mv X.1)).toArray = args at *
  have hts0 := atoms_spec (ws := Jvm.Cond.codeWith y_L_row method_3_code 4 (Option.some Jvm.ClassFile.FieldType.int) hh_L_row :: jtbl) B.pre
  have hts : ∀ w ∈ jtbl, w.before args s = true := fun w hw => hts0 w (List.mem_cons_of_mem _ hw)
  have hown : s.vm.findClass "SealedBondsLaw" = some m.cls := findClass_of_methodNamed B.named
  have hx := B.exec
  have hcb := B.bytes
  have hret := B.returns
  have htab : c.exceptionTable.toList = tableOf hh_L_row := vx_table (x := y_L_row) B (hts0 _ List.mem_cons_self)
  have hent := jLok_entry X.1 [.ref a, .int k, .ref o] (n := 4) (Nat.le_of_ble_eq_true rfl)
  rw [← hvs, lg_entry_eq]
  rw [hvs]
  generalize (lg_sl (([.ref a, .int k, .ref o] : List Value).map (mv X.1)) ++ List.replicate (4 - (lg_sl (([.ref a, .int k, .ref o] : List Value).map (mv X.1))).length) Slot.unset).toArray = ls at *
  have g0 : ls[(2 : Nat)]? = some (Slot.val (.ref (X.1 + o))) := hent.2.2 2 (.ref o) rfl (by simp)
  have g1 : ls[(0 : Nat)]? = some (Slot.val (.ref (X.1 + a))) := hent.2.2 0 (.ref a) rfl (by simp)
  have g2 : ls[(1 : Nat)]? = some (Slot.val (.int k)) := hent.2.2 1 (.int k) rfl (by simp)
  refine lv_aload_n (k := 2) hx hcb d_L_row_0 rfl g0 ?_
  refine lv_iconst (v := 0) hx hcb d_L_row_1 rfl ?_
  refine lv_aload_n (k := 0) hx hcb d_L_row_2 rfl g1 ?_
  refine lv_iload_n (k := 1) hx hcb d_L_row_3 rfl g2 ?_
  obtain ⟨-, cell, c1, c2, c3, -⟩ := hH.obj (ci := 0) ht
  have hcell : ∃ cellB : Cell, s.heap[X.1 + a]? = some cellB ∧ cellB.vm.isStatics = false ∧ s.vm.findClass "SealedBonds" = some cellB.cls := ⟨cell, c1, by rw [c3]; rfl, by rw [c2]; exact (hK.1.1 0 _ (k_at 0 (by decide))).2.1⟩
  obtain ⟨y1, y2, y3, y4, y5⟩ := yb_S_row
  obtain ⟨v1, v2, v3⟩ := yv_S_row
  refine xr_call (vx_runV (C := "SealedBonds") (b := X.1 + a) (As := [.int k]) (rest := [.int 0, .ref (X.1 + o)]) ⟨hx, hcb, hml, hown, hts⟩ (xm_S_row X l hl a k h hc) (cwV 1 hts (jgood (by
      intro w hw
      simp only [wsV, List.cons_append, List.nil_append, List.mem_cons] at hw
      rcases hw with rfl | rfl | rfl | rfl | rfl | hw
      · exact cl_L_7
      · exact v1
      · exact v2
      · exact y2
      · exact y1
      · exact hw)) rfl rfl rfl ⟨rfl, y3, y4, y5⟩ ⟨by decide, by decide⟩) ⟨jPx_blind, hcell, fun U hU hW => ⟨⟨rfl, by rw [hU]; exact hH, hK.warm hW⟩, hKx.warm hW⟩⟩ rfl rfl hent.1 rfl (lv_room (Nat.le_of_ble_eq_true rfl)) d_L_row_4 ⟨by decide, by decide⟩) ?_
  intro E ce q st₀ t L hXC hL hce hcv hcl
  obtain ⟨rfl, hH1⟩ := hXC
  refine vx_catch (own := "SealedBondsLaw") (name := nEx) hown [] ⟨0, 9, 12, 13⟩ [] (by rw [htab]; rfl) (fun z hz => by cases hz) rfl (by decide) (hts _ xw_catch) (va_Nw.use rfl hKx.2.2.2.1) hce hcv hcl ?_
  have hlv : lv_has ls 4 [] := ⟨hent.1, hent.2.1, fun z hz => by cases hz⟩
  refine lv_astore_n (i := 3) (lv' := [(3, .ref q)]) hx hcb d_L_row_12 rfl hlv (by decide) rfl (fun ls' hl' => ?_)
  refine lv_iconst (v := 1) hx hcb d_L_row_13 rfl ?_
  refine W.iret hx hcb hret (fun t' ht' _ => ⟨rfl, by rw [ht']; exact hH1⟩) (fun z hz => ?_) d_L_row_14
  simpa using hL z (by simpa using hz)
theorem im_L_row (X : jX) (l : Launch) (hl : l.stackTraces = false) : MOkW X l y_L_row method_3_code 4 (Option.some Jvm.ClassFile.FieldType.int) hh_L_row 20 500 f_L_row := by
  intro vs h r h' hf
  unfold f_L_row at hf
  split at hf
  · rename_i x p o
    split at hf
    · rename_i ht
      split at hf
      · rename_i st hc
        cases hf
        have e := cnd_pure _ _ _ hc
        subst e
        have hM := ix_L_row X l hl x p o h ht hc
        have e1 : hN (hNew h 0 6) - hN h = 1 := by show hN h + 1 - hN h = 1; omega
        have e2 : hS (hNew h 0 6) - hS h = 6 := by show hS h + 6 - hS h = 6; omega
        rw [e1, e2]
        exact ⟨fun _ => ⟨by show hN h ≤ hN h + 1; omega, by show hS h ≤ hS h + 6; omega⟩, hM⟩
      · split at hf
        · rename_i v h1 hr
          split at hf
          · rename_i h2 hp
            cases hf
            refine iw_L_row X l _ _ _ _ ?_
            have hp' : j_aput h1 5 (.ref o) (.int (nI 0)) (.long v.toInt64) = some h' := hp
            have hb : body_L_row ([.ref x, .int p, .ref o, .null], h) = some (.inr (some (.int 0)), ([.ref x, .int p, .ref o, .null], h')) := by
              simp only [body_L_row, s_seq, s_aput, x_aloc, x_c, x_un, x_callv, xs_cons, xs_nil, x_iloc, jb, List.getElem?_cons_zero, List.getElem?_cons_succ, j_recv, ht, j_ret, hr, o_i2l, hp', s_ret, decide_true, if_true]
              rfl
            show (if (lg_sl [Value.ref x, Value.int p, Value.ref o]).length ≤ 4 then j_out 1 (body_L_row (j_pad [Value.ref x, Value.int p, Value.ref o] 4, h)) else none) = _
            rw [if_pos (Nat.le_of_ble_eq_true rfl)]
            show j_out 1 (body_L_row ([.ref x, .int p, .ref o, .null], h)) = _
            rw [hb]
            rfl
          · cases hf
        · cases hf
    · cases hf
  · cases hf
