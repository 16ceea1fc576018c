/-! the place of a sign in the text "pytkn", as a rule -/
def IXW (own : String) (i i2 : Nat) : Prop := (own = "SealedBonds$Text" ∧ i = 80 ∧ i2 = 82) ∨ (own = "SealedBondsModel" ∧ i = 217 ∧ i2 = 219)
theorem ix_T : IXW "SealedBonds$Text" 80 82 := Or.inl ⟨rfl, rfl, rfl⟩
theorem ix_M : IXW "SealedBondsModel" 217 219 := Or.inr ⟨rfl, rfl, rfl⟩
theorem IXW.str {X : jX} {own : String} {i i2 : Nat} {s : State} (h : IXW own i i2) (hK : jK X s) : jStr X own i s ∧ Jvm.Cond.methodLink own i2 y_st79 ∈ jtbl := by
  rcases h with ⟨rfl, rfl, rfl⟩ | ⟨rfl, rfl, rfl⟩
  · exact ⟨hK.2.2.2.1, wl_Text_82⟩
  · exact ⟨hK.2.2.2.2, wl_SealedBondsModel_219⟩
section RulesIx
variable {M : jMs} {C : jC} {k pc : Nat}
theorem ix_call {X : jX} {p : Program} {l : Launch} {e : Env} {R : Room} {s : State} {m : MethodId} {args : Array Value} {below : List Frame} {meth : Method} {c : Code} {Q : State → Prop} {own : String} {cc : ByteArray} {nL i2 sa va : Nat} {x : Int32} {H : Heap} {locs : List Loc} {cells slots pc : Nat} {ls : Array Slot} {rest : List Value}
    (hx : p.tables.exec = Jvm.exec) (hb : c.code = cc) (hml : c.maxLocals = nL) (hown : s.vm.findClass own = some m.cls) (hts : ∀ w ∈ jtbl, w.before args s = true) (hl : Jvm.Cond.methodLink own i2 y_st79 ∈ jtbl) (hF : jStrF X.1 sa va s H) (hls : ls.size = nL) (hR1 : 5 ≤ R.frames) (hR2 : 181 ≤ R.locals) (hc : cells ≤ R.cells) (hs : slots ≤ R.slots) (hstk : (rest.map fun v => v.category).sum ≤ 8) (hd : decode cc pc = .ok (.invokevirtual i2, 3))
    (kk : W p l e R s m args below meth c H locs cells slots Q (F0 m (pc + 3) ls (.int (j_ix x) :: rest))) : W p l e R s m args below meth c H locs cells slots Q (F0 m pc ls (.int x :: .ref sa :: rest)) := by
  obtain ⟨cell, s1, s2, s3, s4⟩ := hF.1
  refine W.callR (r := j_ix x) (a := (Value.ref sa :: [Value.int x]).toArray) (W.runV (C := "java/lang/String") (b := sa) (As := [.int x]) (rest := rest) ⟨hx, hb, hml, hown, hts⟩ (c_st79 l X.1 sa va x) (cwV 1 hts (jgV wc_st79 hl wv_st79 ws_st79 wS_i1) rfl rfl rfl ⟨rfl, by decide, by decide, by decide +kernel⟩ ⟨by show 4 + 1 ≤ _; omega, by show 8 + (2 + 11) + 160 ≤ _; omega⟩) ⟨sp_blind, ⟨cell, s1, s2, s3⟩, fun U hU hW => ⟨rfl, by rw [hU]; exact hF.moved hW.alike⟩⟩ rfl rfl hls rfl (lv_room hstk) hd ⟨by omega, by omega⟩) kk
theorem ei_ixc {i i2 : Nat} (hd0 : decode M.2.1 pc = .ok (.ldc i, 2)) (hd1 : decode M.2.1 (pc + 2) = .ok (.iload_n 3, 1)) (hd2 : decode M.2.1 (pc + 3) = .ok (.i2c, 1)) (hd3 : decode M.2.1 (pc + 4) = .ok (.invokevirtual i2, 3)) (hix : IXW M.1 i i2) (hD : 5 ≤ M.2.2.2.1) (hΛ : 181 ≤ M.2.2.2.2.1) (hk8 : k ≤ 8) : EI M C k pc (pc + 7) (x_ixof (x_un o_i2c (x_iloc 3))) := by
  intro L h v L' h' he
  simp only [x_ixof, x_un] at he
  obtain ⟨u, st1, e1, he⟩ := jb_eq he
  obtain ⟨u0, st0, e0, e1⟩ := jb_eq e1
  obtain ⟨x, hx0, rfl, rfl⟩ := x_iloc_eq e0
  simp only [o_i2c] at e1
  cases e1
  cases he
  refine ⟨Nat.le_refl _, Nat.le_refl _, fun hG stk hk c1 c2 K => ?_⟩
  obtain ⟨X, ⟨p, l, e, R, s, m, args, below, meth, c, Q⟩, n0, s0, hE, rv⟩ := C
  obtain ⟨hx, hb, hml, hown, hts, hK, hin, hrm, hret⟩ := hG
  intro ls H locs a1 a2 a3 a4 a5
  obtain ⟨z1, z2, z3, z4⟩ := hrm
  obtain ⟨⟨sa, va, hvk, hF⟩, hl⟩ := hix.str hK
  have hFH : jStrF X.1 sa va s H := hF.kept (fun a _ q => a2.2.2.1 a (Nat.not_lt.mp q))
  simp only at c1 c2
  refine va_ldcS hx hb hown hvk hd0 ?_
  refine lv_iload_n hx hb hd1 rfl (a1.2.2 3 _ hx0 (by simp)) ?_
  refine lv_i2c hx hb hd2 rfl ?_
  exact ix_call (X := X) hx hb hml hown hts hl hFH a1.1 (by omega) (by omega) (by omega) (by omega) (by rw [j_sum]; exact Nat.le_trans hk hk8) hd3 (K ls H locs a1 a2 a3 a4 a5)
theorem ei_ixi {i i2 : Nat} (hd0 : decode M.2.1 pc = .ok (.ldc i, 2)) (hd1 : decode M.2.1 (pc + 2) = .ok (.iload_n 2, 1)) (hd3 : decode M.2.1 (pc + 3) = .ok (.invokevirtual i2, 3)) (hix : IXW M.1 i i2) (hD : 5 ≤ M.2.2.2.1) (hΛ : 181 ≤ M.2.2.2.2.1) (hk8 : k ≤ 8) : EI M C k pc (pc + 6) (x_ixof (x_iloc 2)) := by
  intro L h v L' h' he
  simp only [x_ixof] at he
  obtain ⟨u, st1, e1, he⟩ := jb_eq he
  obtain ⟨x, hx0, rfl, rfl⟩ := x_iloc_eq e1
  cases he
  refine ⟨Nat.le_refl _, Nat.le_refl _, fun hG stk hk c1 c2 K => ?_⟩
  obtain ⟨X, ⟨p, l, e, R, s, m, args, below, meth, c, Q⟩, n0, s0, hE, rv⟩ := C
  obtain ⟨hx, hb, hml, hown, hts, hK, hin, hrm, hret⟩ := hG
  intro ls H locs a1 a2 a3 a4 a5
  obtain ⟨z1, z2, z3, z4⟩ := hrm
  obtain ⟨⟨sa, va, hvk, hF⟩, hl⟩ := hix.str hK
  have hFH : jStrF X.1 sa va s H := hF.kept (fun a _ q => a2.2.2.1 a (Nat.not_lt.mp q))
  simp only at c1 c2
  refine va_ldcS hx hb hown hvk hd0 ?_
  refine lv_iload_n hx hb hd1 rfl (a1.2.2 2 _ hx0 (by simp)) ?_
  exact ix_call (X := X) hx hb hml hown hts hl hFH a1.1 (by omega) (by omega) (by omega) (by omega) (by rw [j_sum]; exact Nat.le_trans hk hk8) hd3 (K ls H locs a1 a2 a3 a4 a5)
end RulesIx
