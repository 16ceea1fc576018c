/-! arrays, new cells, calls, over the clean state -/
theorem j_in_ok {i : Int32} {n : Nat} (h : j_in i n = true) : ¬ (i < 0 ∨ n ≤ i.toNatClampNeg) := by
  simp only [j_in, Bool.and_eq_true, decide_eq_true_eq] at h
  intro q
  rcases q with q | q
  · exact absurd h.1 (Int32.not_le.mpr q)
  · omega
theorem j_aget_ok {X : jX} {h : jHp} {H : Heap} {kind a : Nat} {i : Int32} {w : Value} (r : HRel X h H) (h0 : kind ≠ 0) (h7 : kind < 7) (hg : j_aget h kind (.ref a) (.int i) = some w) :
    H[X.1 + a]? = some (arrV (X.2.2.2 kind) (hT h a).2 (jel X h kind a)) ∧ ¬ (i < 0 ∨ (arrV (X.2.2.2 kind) (hT h a).2 (jel X h kind a)).slots.size ≤ i.toNatClampNeg) ∧ (arrV (X.2.2.2 kind) (hT h a).2 (jel X h kind a)).slots[i.toNatClampNeg]? = some (mv X.1 w) := by
  simp only [j_aget] at hg
  split at hg
  · rename_i h1
    have hin := j_in_ok h1.2
    refine ⟨r.arr h1.1 h0 h7, by rw [arrV_size]; exact hin, ?_⟩
    rw [arrV_read _ _ (Nat.not_le.mp fun q => hin (Or.inr q))]
    unfold jel
    split at hg
    · rename_i h2
      cases hg
      simp [h2, mv]
    · rename_i h2
      split at hg
      · rename_i h3
        split at hg
        · cases hg
        · rename_i h4
          cases hg
          simp [h2, h3, jrf, h4, mv]
      · rename_i h3
        cases hg
        simp [h2, h3, mv]
  · cases hg
section WWrows2
variable {M : jMs} {C : jC} {pc : Nat} {L stk : List Value} {h : jHp}
theorem ww_iald {a : Nat} {i : Int32} {w : Value} (hG : GOK M C) (hd : decode M.2.1 pc = .ok (.iaload, 1)) (hg : j_aget h 1 (.ref a) (.int i) = some w) (K : WW M C (pc + 1) L (w :: stk) h) : WW M C pc L (.int i :: .ref a :: stk) h := by
  obtain ⟨X, ⟨p, l, e, R, s, m, args, below, meth, c, Q⟩, n0, s0, hE, rv⟩ := C
  obtain ⟨hx, hb, hml, hown, hts, hK, hin, hrm, hret⟩ := hG
  intro ls H locs a1 a2 a3 a4 a5
  obtain ⟨g1, g2, g3⟩ := j_aget_ok a2 (by decide) (by decide) hg
  exact W.iald hx hb g1 ((hK.1.2 0 _ rfl).1 _ _) (fun q => by cases q) g2 g3 rfl rfl hd (K ls H locs a1 a2 a3 a4 a5)
theorem ww_bald {a : Nat} {i : Int32} {w : Value} (hG : GOK M C) (hd : decode M.2.1 pc = .ok (.baload, 1)) (hg : j_aget h 2 (.ref a) (.int i) = some w) (K : WW M C (pc + 1) L (w :: stk) h) : WW M C pc L (.int i :: .ref a :: stk) h := by
  obtain ⟨X, ⟨p, l, e, R, s, m, args, below, meth, c, Q⟩, n0, s0, hE, rv⟩ := C
  obtain ⟨hx, hb, hml, hown, hts, hK, hin, hrm, hret⟩ := hG
  intro ls H locs a1 a2 a3 a4 a5
  obtain ⟨g1, g2, g3⟩ := j_aget_ok a2 (by decide) (by decide) hg
  exact W.bald hx hb g1 ((hK.1.2 1 _ rfl).1 _ _) (fun q => by cases q) g2 g3 rfl rfl hd (K ls H locs a1 a2 a3 a4 a5)
theorem ww_zald {a : Nat} {i : Int32} {w : Value} (hG : GOK M C) (hd : decode M.2.1 pc = .ok (.baload, 1)) (hg : j_aget h 3 (.ref a) (.int i) = some w) (K : WW M C (pc + 1) L (w :: stk) h) : WW M C pc L (.int i :: .ref a :: stk) h := by
  obtain ⟨X, ⟨p, l, e, R, s, m, args, below, meth, c, Q⟩, n0, s0, hE, rv⟩ := C
  obtain ⟨hx, hb, hml, hown, hts, hK, hin, hrm, hret⟩ := hG
  intro ls H locs a1 a2 a3 a4 a5
  obtain ⟨g1, g2, g3⟩ := j_aget_ok a2 (by decide) (by decide) hg
  exact W.zald hx hb g1 ((hK.1.2 2 _ rfl).1 _ _) (fun q => by cases q) g2 g3 rfl rfl hd (K ls H locs a1 a2 a3 a4 a5)
theorem ww_cald {a : Nat} {i : Int32} {w : Value} (hG : GOK M C) (hd : decode M.2.1 pc = .ok (.caload, 1)) (hg : j_aget h 4 (.ref a) (.int i) = some w) (K : WW M C (pc + 1) L (w :: stk) h) : WW M C pc L (.int i :: .ref a :: stk) h := by
  obtain ⟨X, ⟨p, l, e, R, s, m, args, below, meth, c, Q⟩, n0, s0, hE, rv⟩ := C
  obtain ⟨hx, hb, hml, hown, hts, hK, hin, hrm, hret⟩ := hG
  intro ls H locs a1 a2 a3 a4 a5
  obtain ⟨g1, g2, g3⟩ := j_aget_ok a2 (by decide) (by decide) hg
  exact W.cald hx hb g1 ((hK.1.2 3 _ rfl).1 _ _) (fun q => by cases q) g2 g3 rfl rfl hd (K ls H locs a1 a2 a3 a4 a5)
theorem ww_lald {a : Nat} {i : Int32} {w : Value} (hG : GOK M C) (hd : decode M.2.1 pc = .ok (.laload, 1)) (hg : j_aget h 5 (.ref a) (.int i) = some w) (K : WW M C (pc + 1) L (w :: stk) h) : WW M C pc L (.int i :: .ref a :: stk) h := by
  obtain ⟨X, ⟨p, l, e, R, s, m, args, below, meth, c, Q⟩, n0, s0, hE, rv⟩ := C
  obtain ⟨hx, hb, hml, hown, hts, hK, hin, hrm, hret⟩ := hG
  intro ls H locs a1 a2 a3 a4 a5
  obtain ⟨g1, g2, g3⟩ := j_aget_ok a2 (by decide) (by decide) hg
  exact W.lald hx hb g1 ((hK.1.2 4 _ rfl).1 _ _) (fun q => by cases q) g2 g3 rfl rfl hd (K ls H locs a1 a2 a3 a4 a5)
theorem ww_aald {a : Nat} {i : Int32} {w : Value} (hG : GOK M C) (hd : decode M.2.1 pc = .ok (.aaload, 1)) (hg : j_aget h 6 (.ref a) (.int i) = some w) (K : WW M C (pc + 1) L (w :: stk) h) : WW M C pc L (.int i :: .ref a :: stk) h := by
  obtain ⟨X, ⟨p, l, e, R, s, m, args, below, meth, c, Q⟩, n0, s0, hE, rv⟩ := C
  obtain ⟨hx, hb, hml, hown, hts, hK, hin, hrm, hret⟩ := hG
  intro ls H locs a1 a2 a3 a4 a5
  obtain ⟨g1, g2, g3⟩ := j_aget_ok a2 (by decide) (by decide) hg
  exact W.aald hx hb g1 ((hK.1.2 5 _ rfl).1 _ _) rfl (fun q => by cases q) g2 g3 rfl rfl hd (K ls H locs a1 a2 a3 a4 a5)
theorem ww_alen {kind a : Nat} {w : Value} (hG : GOK M C) (hd : decode M.2.1 pc = .ok (.arraylength, 1)) (h0 : kind ≠ 0) (h7 : kind < 7) (hg : j_alen h kind (.ref a) = some w) (K : WW M C (pc + 1) L (w :: stk) h) : WW M C pc L (.ref a :: stk) h := by
  obtain ⟨X, ⟨p, l, e, R, s, m, args, below, meth, c, Q⟩, n0, s0, hE, rv⟩ := C
  obtain ⟨hx, hb, hml, hown, hts, hK, hin, hrm, hret⟩ := hG
  intro ls H locs a1 a2 a3 a4 a5
  simp only [j_alen] at hg
  split at hg
  · rename_i h1
    cases hg
    have g1 := a2.arr h1 h0 h7
    have K := K ls H locs a1 a2 a3 a4 a5
    have e : (arrV (X.2.2.2 kind) (hT h a).2 (jel X h kind a)).slots.size.toInt32 = nI (hT h a).2 := by rw [arrV_size]; rfl
    match kind, h0, h7, g1, e with
    | 1, _, _, g1, e => exact W.alen hx hb g1 ((hK.1.2 0 _ rfl).1 _ _) e rfl rfl hd K
    | 2, _, _, g1, e => exact W.alen hx hb g1 ((hK.1.2 1 _ rfl).1 _ _) e rfl rfl hd K
    | 3, _, _, g1, e => exact W.alen hx hb g1 ((hK.1.2 2 _ rfl).1 _ _) e rfl rfl hd K
    | 4, _, _, g1, e => exact W.alen hx hb g1 ((hK.1.2 3 _ rfl).1 _ _) e rfl rfl hd K
    | 5, _, _, g1, e => exact W.alen hx hb g1 ((hK.1.2 4 _ rfl).1 _ _) e rfl rfl hd K
    | 6, _, _, g1, e => exact W.alen hx hb g1 ((hK.1.2 5 _ rfl).1 _ _) e rfl rfl hd K
  · cases hg
theorem j_locs {off a i : Nat} {locs : List Loc} (h : ∀ q ∈ locs, off < q.base) (ha : 0 < a) : ∀ q ∈ locs ++ [(⟨off + a, i⟩ : Loc)], off < q.base := by
  intro q hq
  rcases List.mem_append.mp hq with hq | hq
  · exact h q hq
  · simp only [List.mem_singleton] at hq
    subst hq
    show off < off + a
    omega
theorem ww_iast {a : Nat} {i x : Int32} {h' : jHp} (hG : GOK M C) (hd : decode M.2.1 pc = .ok (.iastore, 1)) (hg : j_aput h 1 (.ref a) (.int i) (.int x) = some h') (K : WW M C (pc + 1) L stk h') : WW M C pc L (.int x :: .int i :: .ref a :: stk) h := by
  obtain ⟨X, ⟨p, l, e, R, s, m, args, below, meth, c, Q⟩, n0, s0, hE, rv⟩ := C
  obtain ⟨hx, hb, hml, hown, hts, hK, hin, hrm, hret⟩ := hG
  intro ls H locs a1 a2 a3 a4 a5
  simp only [j_aput] at hg
  split at hg
  · rename_i h1
    have hin := j_in_ok h1.2.1
    cases hg
    refine W.iast hx hb (a2.arr h1.1 (by decide) (by decide)) ((hK.1.2 0 _ rfl).1 _ _) (fun q => by cases q) (by rw [arrV_size]; exact hin) rfl rfl hd fun H' e1 e2 e3 => ?_
    exact K ls H' _ a1 (a2.setI h1.1 (by decide) (by decide) e1 e2 e3) (j_locs a3 (a2.2.2.2 a (by omega)).1) a4 a5
  · cases hg
theorem ww_bast {a : Nat} {i x : Int32} {h' : jHp} (hG : GOK M C) (hd : decode M.2.1 pc = .ok (.bastore, 1)) (hg : j_aput h 2 (.ref a) (.int i) (.int x) = some h') (K : WW M C (pc + 1) L stk h') : WW M C pc L (.int x :: .int i :: .ref a :: stk) h := by
  obtain ⟨X, ⟨p, l, e, R, s, m, args, below, meth, c, Q⟩, n0, s0, hE, rv⟩ := C
  obtain ⟨hx, hb, hml, hown, hts, hK, hin, hrm, hret⟩ := hG
  intro ls H locs a1 a2 a3 a4 a5
  simp only [j_aput] at hg
  split at hg
  · rename_i h1
    have hin := j_in_ok h1.2.1
    cases hg
    refine W.bast hx hb (a2.arr h1.1 (by decide) (by decide)) ((hK.1.2 1 _ rfl).1 _ _) (fun q => by cases q) (by rw [arrV_size]; exact hin) rfl rfl hd fun H' e1 e2 e3 => ?_
    exact K ls H' _ a1 (a2.setI h1.1 (by decide) (by decide) e1 e2 e3) (j_locs a3 (a2.2.2.2 a (by omega)).1) a4 a5
  · cases hg
theorem ww_zast {a : Nat} {i x : Int32} {h' : jHp} (hG : GOK M C) (hd : decode M.2.1 pc = .ok (.bastore, 1)) (hg : j_aput h 3 (.ref a) (.int i) (.int x) = some h') (K : WW M C (pc + 1) L stk h') : WW M C pc L (.int x :: .int i :: .ref a :: stk) h := by
  obtain ⟨X, ⟨p, l, e, R, s, m, args, below, meth, c, Q⟩, n0, s0, hE, rv⟩ := C
  obtain ⟨hx, hb, hml, hown, hts, hK, hin, hrm, hret⟩ := hG
  intro ls H locs a1 a2 a3 a4 a5
  simp only [j_aput] at hg
  split at hg
  · rename_i h1
    have hin := j_in_ok h1.2.1
    cases hg
    refine W.zast hx hb (a2.arr h1.1 (by decide) (by decide)) ((hK.1.2 2 _ rfl).1 _ _) (fun q => by cases q) (by rw [arrV_size]; exact hin) rfl rfl hd fun H' e1 e2 e3 => ?_
    exact K ls H' _ a1 (a2.setI h1.1 (by decide) (by decide) e1 e2 e3) (j_locs a3 (a2.2.2.2 a (by omega)).1) a4 a5
  · cases hg
theorem ww_cast {a : Nat} {i x : Int32} {h' : jHp} (hG : GOK M C) (hd : decode M.2.1 pc = .ok (.castore, 1)) (hg : j_aput h 4 (.ref a) (.int i) (.int x) = some h') (K : WW M C (pc + 1) L stk h') : WW M C pc L (.int x :: .int i :: .ref a :: stk) h := by
  obtain ⟨X, ⟨p, l, e, R, s, m, args, below, meth, c, Q⟩, n0, s0, hE, rv⟩ := C
  obtain ⟨hx, hb, hml, hown, hts, hK, hin, hrm, hret⟩ := hG
  intro ls H locs a1 a2 a3 a4 a5
  simp only [j_aput] at hg
  split at hg
  · rename_i h1
    have hin := j_in_ok h1.2.1
    cases hg
    refine W.cast hx hb (a2.arr h1.1 (by decide) (by decide)) ((hK.1.2 3 _ rfl).1 _ _) (fun q => by cases q) (by rw [arrV_size]; exact hin) rfl rfl hd fun H' e1 e2 e3 => ?_
    exact K ls H' _ a1 (a2.setI h1.1 (by decide) (by decide) e1 e2 e3) (j_locs a3 (a2.2.2.2 a (by omega)).1) a4 a5
  · cases hg
theorem ww_last {a : Nat} {i : Int32} {x : Int64} {h' : jHp} (hG : GOK M C) (hd : decode M.2.1 pc = .ok (.lastore, 1)) (hg : j_aput h 5 (.ref a) (.int i) (.long x) = some h') (K : WW M C (pc + 1) L stk h') : WW M C pc L (.long x :: .int i :: .ref a :: stk) h := by
  obtain ⟨X, ⟨p, l, e, R, s, m, args, below, meth, c, Q⟩, n0, s0, hE, rv⟩ := C
  obtain ⟨hx, hb, hml, hown, hts, hK, hin, hrm, hret⟩ := hG
  intro ls H locs a1 a2 a3 a4 a5
  simp only [j_aput] at hg
  split at hg
  · rename_i h1
    have hin := j_in_ok h1.2.1
    cases hg
    refine W.last hx hb (a2.arr h1.1 (by decide) (by decide)) ((hK.1.2 4 _ rfl).1 _ _) (fun q => by cases q) (by rw [arrV_size]; exact hin) rfl rfl hd fun H' e1 e2 e3 => ?_
    exact K ls H' _ a1 (a2.setJ h1.1 e1 e2 e3) (j_locs a3 (a2.2.2.2 a (by omega)).1) a4 a5
  · cases hg
theorem ww_aast {a x : Nat} {i : Int32} {h' : jHp} (hG : GOK M C) (hd : decode M.2.1 pc = .ok (.aastore, 1)) (hg : j_aput h 6 (.ref a) (.int i) (.ref x) = some h') (K : WW M C (pc + 1) L stk h') : WW M C pc L (.ref x :: .int i :: .ref a :: stk) h := by
  obtain ⟨X, ⟨p, l, e, R, s, m, args, below, meth, c, Q⟩, n0, s0, hE, rv⟩ := C
  obtain ⟨hx, hb, hml, hown, hts, hK, hin, hrm, hret⟩ := hG
  intro ls H locs a1 a2 a3 a4 a5
  simp only [j_aput] at hg
  split at hg
  · rename_i h1
    have hin := j_in_ok h1.2.1
    cases hg
    obtain ⟨hci, cellV, g1, g2, g3, -⟩ := a2.obj (ci := 4) (a := x) h1.2.2.2
    have hcls := (hK.1.1 4 _ (k_at 4 hci)).2
    obtain ⟨kA, comp, k1, k2, k3, -⟩ := (hK.1.2 5 _ rfl).2
    have hcomp : comp = X.2.2.1.1 4 := Option.some.inj (k3.symm.trans hcls.1)
    subst hcomp
    obtain ⟨kC, hkC, -⟩ := hcls.2
    have hx0 := (a2.2.2.2 x (by omega)).1
    refine W.aast hx hb (a2.arr h1.1 (by decide) (by decide)) (fun q h => by cases h) (fun h => by cases h) k1 k2 rfl hkC ⟨fun q => hin (Or.inl q), by rw [arrV_size]; exact Nat.not_le.mp fun q => hin (Or.inr q)⟩ g1 (fun q h => by rw [g3] at h; cases h) (by rw [g2]; exact hkC) (by rw [g2]; exact va_assign hcls) rfl rfl hd fun H' e1 e2 e3 => ?_
    exact K ls H' _ a1 (a2.setR h1.1 (by omega) e1 e2 e3) (j_locs a3 (a2.2.2.2 a (by omega)).1) a4 a5
  · cases hg
theorem ww_new {i ci : Nat} (hG : GOK M C) (hd : decode M.2.1 pc = .ok (.new i, 3)) (hci : ci < 13) (hw : Jvm.Cond.classLink M.1 i (kc ci).1 ∈ jtbl) (hw2 : Jvm.Cond.instantiable (kc ci).1 (kc ci).2.2 ∈ jtbl) (hw3 : Jvm.Cond.initialized (kc ci).1 ∈ jtbl) (hc : hN h + 1 ≤ hN C.2.2.2.2.1) (hs : hS h + (kc ci).2.2 ≤ hS C.2.2.2.2.1)
    (K : WW M C (pc + 3) L (.ref (hN h) :: stk) (hNew h (10 + ci) (kc ci).2.2)) : WW M C pc L stk h := by
  obtain ⟨X, ⟨p, l, e, R, s, m, args, below, meth, c, Q⟩, n0, s0, hE, rv⟩ := C
  obtain ⟨hx, hb, hml, hown, hts, hK, hin, hrm, hret⟩ := hG
  simp only at hc hs
  intro ls H locs a1 a2 a3 a4 a5
  have hKn := hK.1.1 ci _ (k_at ci hci)
  obtain ⟨z1, z2, z3, z4⟩ := hrm
  refine W.newcK hx hb hown (hts _ hw) (hts _ hw2) (hts _ hw3) rfl hd (by omega) (by omega) hKn.2.1 a2.1 fun H1 kC hkC e1 e2 e3 => ?_
  have hr : HRel X (hNew h (10 + ci) (kc ci).2.2) H1 := by
    refine a2.new (by rw [e2, a2.1]) (fun q hq => e3 q (by rw [a2.1] at hq; exact hq)) (Or.inr ⟨ci, by simp [hNew, hT], hci, ?_⟩)
    refine (u_born (kty ci) hts (k_in ci hci) hKn hkC e1 (k_ty ci hci)).to fun k hk => ?_
    simp only [jfv, hNew, hI, hR, if_true, jrf]
    have hgood : kty ci k = .int ∨ kty ci k = .boolean ∨ j_isref (kty ci k) = true := k_kind ci hci k hk
    rcases hgood with q | q | q
    · rw [q]; rfl
    · rw [q]; rfl
    · rw [q]
      revert q
      cases kty ci k <;> simp [j_isref, defaultValue]
  have K := K ls H1 locs a1 hr a3 (by simp [hNew, hN] at a4 ⊢; omega) (by simp [hNew, hS] at a5 ⊢; omega)
  have c1 : hN (hNew h (10 + ci) (kc ci).2.2) - n0 = hN h - n0 + 1 := by simp only [hNew, hN] at a4 ⊢; omega
  have c2 : hS (hNew h (10 + ci) (kc ci).2.2) - s0 = hS h - s0 + (kc ci).2.2 := by simp only [hNew, hS] at a5 ⊢; omega
  rw [c1, c2] at K
  exact K
def j_kindty : Nat → FieldType := fun k => match k with
  | 1 => .int
  | 2 => .byte
  | 3 => .boolean
  | 4 => .char
  | _ => .long
theorem ww_newa {kind : Nat} {at0 : ArrayType} {n : Int32} (hG : GOK M C) (hd : decode M.2.1 pc = .ok (.newarray at0, 2)) (hk0 : kind ≠ 0) (hk6 : kind < 6) (hat : newarray.typeOf at0 = j_kindty kind) (hn : 0 ≤ n ∧ n.toNatClampNeg ≤ 1000000) (hc : hN h + 1 ≤ hN C.2.2.2.2.1) (hs : hS h + n.toNatClampNeg ≤ hS C.2.2.2.2.1)
    (K : WW M C (pc + 2) L (.ref (hN h) :: stk) (hNew h kind n.toNatClampNeg)) : WW M C pc L (.int n :: stk) h := by
  obtain ⟨X, ⟨p, l, e, R, s, m, args, below, meth, c, Q⟩, n0, s0, hE, rv⟩ := C
  obtain ⟨hx, hb, hml, hown, hts, hK, hin, hrm, hret⟩ := hG
  simp only at hc hs
  intro ls H locs a1 a2 a3 a4 a5
  obtain ⟨z1, z2, z3, z4⟩ := hrm
  have hbytes : n.toNatClampNeg * componentBytes (newarray.typeOf at0) ≤ 536870912 := by
    have : componentBytes (newarray.typeOf at0) ≤ 8 := by cases at0 <;> decide
    calc n.toNatClampNeg * componentBytes (newarray.typeOf at0) ≤ 1000000 * 8 := Nat.mul_le_mul hn.2 this
      _ ≤ 536870912 := by decide
  have harr : (Jvm.Cond.arrayClass (newarray.typeOf at0)).before args s = true := by
    rw [hat]
    match kind, hk0, hk6 with
    | 1, _, _ => exact hts _ w_arr1
    | 2, _, _ => exact hts _ w_arr2
    | 3, _, _ => exact hts _ w_arr3
    | 4, _, _ => exact hts _ w_arr4
    | 5, _, _ => exact hts _ w_arr5
  refine va_newaK hx hb harr rfl hd rfl (Int32.not_lt.mpr hn.1) rfl hbytes (by omega) (by omega) a2.1 fun H1 cA e1 e2 e3 hAr hNm => ?_
  have hcA : cA = X.2.2.2 kind ∧ ∀ j, jel X (hNew h kind n.toNatClampNeg) kind (hN h) j = defaultValue (newarray.typeOf at0) := by
    rw [hat] at hNm ⊢
    match kind, hk0, hk6, hNm with
    | 1, _, _, hNm => exact ⟨Option.some.inj (hNm.symm.trans (hK.1.2 0 _ rfl).2), fun j => by simp [jel, hNew, hI, j_kindty, defaultValue]⟩
    | 2, _, _, hNm => exact ⟨Option.some.inj (hNm.symm.trans (hK.1.2 1 _ rfl).2), fun j => by simp [jel, hNew, hI, j_kindty, defaultValue]⟩
    | 3, _, _, hNm => exact ⟨Option.some.inj (hNm.symm.trans (hK.1.2 2 _ rfl).2), fun j => by simp [jel, hNew, hI, j_kindty, defaultValue]⟩
    | 4, _, _, hNm => exact ⟨Option.some.inj (hNm.symm.trans (hK.1.2 3 _ rfl).2), fun j => by simp [jel, hNew, hI, j_kindty, defaultValue]⟩
    | 5, _, _, hNm => exact ⟨Option.some.inj (hNm.symm.trans (hK.1.2 4 _ rfl).2), fun j => by simp [jel, hNew, hJ, j_kindty, defaultValue]⟩
  have hr : HRel X (hNew h kind n.toNatClampNeg) H1 := by
    refine a2.new (by rw [e2, a2.1]) (fun q hq => e3 q (by rw [a2.1] at hq; exact hq)) (Or.inl ?_)
    have et : hT (hNew h kind n.toNatClampNeg) (hN h) = (kind, n.toNatClampNeg) := by simp [hNew, hT]
    rw [et]
    refine ⟨by simp only; omega, ?_⟩
    rw [e1, hcA.1]
    congr 2
    funext j
    exact (hcA.2 j).symm
  have K := K ls H1 locs a1 hr a3 (by simp [hNew, hN] at a4 ⊢; omega) (by simp [hNew, hS] at a5 ⊢; omega)
  have c1 : hN (hNew h kind n.toNatClampNeg) - n0 = hN h - n0 + 1 := by simp only [hNew, hN] at a4 ⊢; omega
  have c2 : hS (hNew h kind n.toNatClampNeg) - s0 = hS h - s0 + n.toNatClampNeg := by simp only [hNew, hS] at a5 ⊢; omega
  rw [c1, c2] at K
  exact K
theorem ww_newd {i : Nat} {n : Int32} (hG : GOK M C) (hd : decode M.2.1 pc = .ok (.anewarray i, 3)) (hw : Jvm.Cond.classLink M.1 i "SealedBonds$Desk" ∈ jtbl) (hn : 0 ≤ n ∧ n.toNatClampNeg ≤ 1000000) (hc : hN h + 1 ≤ hN C.2.2.2.2.1) (hs : hS h + n.toNatClampNeg ≤ hS C.2.2.2.2.1)
    (K : WW M C (pc + 3) L (.ref (hN h) :: stk) (hNew h 6 n.toNatClampNeg)) : WW M C pc L (.int n :: stk) h := by
  obtain ⟨X, ⟨p, l, e, R, s, m, args, below, meth, c, Q⟩, n0, s0, hE, rv⟩ := C
  obtain ⟨hx, hb, hml, hown, hts, hK, hin, hrm, hret⟩ := hG
  simp only at hc hs
  intro ls H locs a1 a2 a3 a4 a5
  obtain ⟨z1, z2, z3, z4⟩ := hrm
  refine W.anew hx hb hown (hts _ hw) (va_AO.use hK.2.2.1) rfl hd rfl (Int32.not_lt.mpr hn.1) (by omega) (by omega) (by omega) fun cA kA comp e1 e2 e3 e4 => ?_
  obtain ⟨kA', comp', g1, g2, g3, g4⟩ := (hK.1.2 5 _ rfl).2
  have hcA : cA = X.2.2.2 6 := Option.some.inj (e1.symm.trans g4)
  have hr : HRel X (hNew h 6 n.toNatClampNeg) (H.push { cls := cA, slots := Array.replicate n.toNatClampNeg .null, vm := .none }) := by
    refine a2.new (by simp) (fun q hq => by rw [Array.getElem?_push, if_neg (Nat.ne_of_lt hq)]) (Or.inl ?_)
    have et : hT (hNew h 6 n.toNatClampNeg) (hN h) = (6, n.toNatClampNeg) := by simp [hNew, hT]
    rw [et, ← a2.1]
    refine ⟨(by decide : 6 < 7), ?_⟩
    rw [arrV_new, hcA]
    simp only [Array.getElem?_push, if_true]
    congr 2
    funext j
    simp [jel, hNew, hR, jrf]
  have K := K ls _ locs a1 hr a3 (by simp [hNew, hN] at a4 ⊢; omega) (by simp [hNew, hS] at a5 ⊢; omega)
  have c1 : hN (hNew h 6 n.toNatClampNeg) - n0 = hN h - n0 + 1 := by simp only [hNew, hN] at a4 ⊢; omega
  have c2 : hS (hNew h 6 n.toNatClampNeg) - s0 = hS h - s0 + n.toNatClampNeg := by simp only [hNew, hS] at a5 ⊢; omega
  rw [c1, c2] at K
  have e : List.map (mv X.1) (.ref (hN h) :: stk) = .ref H.size :: List.map (mv X.1) stk := by rw [a2.1]; rfl
  rw [e] at K
  exact K
theorem ww_objinit {i a : Nat} (hG : GOK M C) (hd : decode M.2.1 pc = .ok (.invokespecial i, 3)) (hw : Jvm.Cond.methodLink M.1 i objectInit ∈ jtbl) (hD : 1 ≤ M.2.2.2.1) (hL : 20 ≤ M.2.2.2.2.1) (hstk : (stk.map fun v => v.category).sum ≤ 8) (K : WW M C (pc + 3) L stk h) : WW M C pc L (.ref a :: stk) h := by
  obtain ⟨X, ⟨p, l, e, R, s, m, args, below, meth, c, Q⟩, n0, s0, hE, rv⟩ := C
  obtain ⟨hx, hb, hml, hown, hts, hK, hin, hrm, hret⟩ := hG
  intro ls H locs a1 a2 a3 a4 a5
  have hst : ((stk.map (mv X.1)).map fun v => v.category).sum ≤ 8 := by
    rw [List.map_map]
    have : (fun v : Value => v.category) ∘ mv X.1 = fun v => v.category := funext fun v => mv_cat X.1 v
    rw [this]
    exact hstk
  refine W.objInit hx hb hown (hts _ hw) (hts _ w_oi1) (hts _ w_oi2) rfl (by rw [hml]; exact a1.1) rfl hd (by omega) ?_ (K ls H locs a1 a2 a3 a4 a5)
  show 2 * 0 + _ + 12 ≤ _
  omega
end WWrows2
