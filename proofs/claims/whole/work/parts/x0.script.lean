/-! THE SCRIPT, outside the clean heap: local 0 of the law is .retAddr b in the clean locals -/
def vSC (C : jC) (b N : Nat) (xs : Nat → Int32) : Prop := va_X b N xs C.2.1.2.2.2.2.1 C.1.2.1 ∧ b ≤ C.1.1 ∧ C.1.2.1.size = C.1.1 + 1
noncomputable def x_sc (b N : Nat) (xs : Nat → Int32) (e : jE) : jE := fun st => if st.1[0]? = some (.retAddr b) then (match e st with
  | some (.int i, st') => if j_in i N then some (.int (xs i.toNatClampNeg), st') else none
  | _ => none) else none
noncomputable def x_scl (b N : Nat) : jE := fun st => if st.1[0]? = some (.retAddr b) then some (.int (Int32.ofNat N), st) else none
theorem HRel.scr {X : jX} {h : jHp} {H : Heap} {locs : List Loc} (r : HRel X h H) (hz : X.2.1.size = X.1 + 1) (hl : ∀ q ∈ locs, X.1 < q.base) : va_S (fun q => X.1 < q) X.2.1 H locs := by
  refine ⟨by rw [hz, r.1]; have := r.2.1; omega, fun q hq hn => r.2.2.1 q (by omega), fun q hq => hl q hq⟩
section Script
variable {M : jMs} {C : jC} {k pc p1 p2 : Nat} {L stk : List Value} {h : jHp} {b N : Nat} {xs : Nat → Int32}
theorem ww_aloadS {j : Fin 4} (hG : GOK M C) (hd : decode M.2.1 pc = .ok (.aload_n j, 1)) (hv : L[(j : Nat)]? = some (.retAddr b)) (K : WW M C (pc + 1) L (.retAddr b :: stk) h) : WW M C pc L (stk) h := by
  obtain ⟨X, ⟨p, l, e, R, s, m, args, below, meth, c, Q⟩, n0, s0, hE, rv⟩ := C
  obtain ⟨hx, hb, hml, hown, hts, hK, hin, hrm, hret⟩ := hG
  exact fun ls H locs a1 a2 a3 a4 a5 => lv_aload_n hx hb hd rfl (a1.2.2 _ _ hv (by simp)) (K ls H locs a1 a2 a3 a4 a5)
theorem ww_scld {i : Int32} (hSC : vSC C b N xs) (hG : GOK M C) (hd : decode M.2.1 pc = .ok (.iaload, 1)) (hi : j_in i N = true) (K : WW M C (pc + 1) L (.int (xs i.toNatClampNeg) :: stk) h) : WW M C pc L (.int i :: .retAddr b :: stk) h := by
  obtain ⟨X, ⟨p, l, e, R, s, m, args, below, meth, c, Q⟩, n0, s0, hE, rv⟩ := C
  obtain ⟨hx, hb, hml, hown, hts, hK, hin, hrm, hret⟩ := hG
  obtain ⟨g1, g2, g3⟩ := hSC
  simp only at g1 g2 g3
  exact fun ls H locs a1 a2 a3 a4 a5 => va_sld hx hb g1 (by omega) (A := fun q => X.1 < q) (by omega) (a2.scr g3 a3) (j_in_ok hi) hd (K ls H locs a1 a2 a3 a4 a5)
theorem ww_scln (hSC : vSC C b N xs) (hG : GOK M C) (hd : decode M.2.1 pc = .ok (.arraylength, 1)) (K : WW M C (pc + 1) L (.int (Int32.ofNat N) :: stk) h) : WW M C pc L (.retAddr b :: stk) h := by
  obtain ⟨X, ⟨p, l, e, R, s, m, args, below, meth, c, Q⟩, n0, s0, hE, rv⟩ := C
  obtain ⟨hx, hb, hml, hown, hts, hK, hin, hrm, hret⟩ := hG
  obtain ⟨g1, g2, g3⟩ := hSC
  simp only at g1 g2 g3
  exact fun ls H locs a1 a2 a3 a4 a5 => va_slen hx hb g1 (by omega) (A := fun q => X.1 < q) (by omega) (a2.scr g3 a3) hd (K ls H locs a1 a2 a3 a4 a5)
theorem ei_sc {e : jE} (hSC : vSC C b N xs) (hd0 : decode M.2.1 pc = .ok (.aload_n 0, 1)) (he0 : EI M C (k + 2) (pc + 1) p2 e) (hd : decode M.2.1 p2 = .ok (.iaload, 1)) : EI M C k pc (p2 + 1) (x_sc b N xs e) := by
  intro L h v L' h' he
  unfold x_sc at he
  split at he
  · rename_i h0
    cases hf : e (L, h) with
    | none => rw [hf] at he; cases he
    | some q =>
      obtain ⟨u, L1, h1⟩ := q
      rw [hf] at he
      cases u <;> simp only [reduceCtorEq] at he
      rename_i i
      split at he
      · rename_i hi
        cases he
        obtain ⟨m1, m2, K1⟩ := he0 _ _ _ _ _ hf
        exact ⟨m1, m2, fun hG stk hk c1 c2 K => ww_aloadS hG hd0 h0 (K1 hG (.retAddr b :: stk) (Nat.le_trans (j_ws_cons _ stk) (by omega)) c1 c2 (ww_scld hSC hG hd hi K))⟩
      · cases he
  · cases he
theorem ei_scl (hSC : vSC C b N xs) (hd0 : decode M.2.1 pc = .ok (.aload_n 0, 1)) (hd : decode M.2.1 (pc + 1) = .ok (.arraylength, 1)) : EI M C k pc (pc + 1 + 1) (x_scl b N) := by
  intro L h v L' h' he
  unfold x_scl at he
  split at he
  · rename_i h0
    cases he
    exact ⟨Nat.le_refl _, Nat.le_refl _, fun hG stk hk c1 c2 K => ww_aloadS hG hd0 h0 (ww_scln hSC hG hd K)⟩
  · cases he
end Script
