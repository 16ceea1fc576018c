def sNr (A : AS) : Option (Nat × Nat) := (genL A (aNp A) 0 0).foldl (nrF A) none
theorem genL_ne (A : AS) : ∀ n p S, genL A n p S ≠ [] := by
  intro n
  induction n with
  | zero => intro p S; simp [genL]
  | succ n ih =>
    intro p S h
    have hgen : genL A (n + 1) p S = genB A n p S (aNb A) := rfl
    have hm := genB_mono A n p S (Nat.zero_le (aNb A))
    rw [hgen] at h
    rw [h] at hm
    have h0 : genB A n p S 0 = genL A n (p + 1) S := rfl
    rw [h0] at hm
    simp only [List.length_nil, Nat.le_zero_eq] at hm
    exact ih (p + 1) S (List.length_eq_zero_iff.mp hm)
/-- a call 'near' answers this, if some set is FREE -/
def vNear (A : AS) : Int32 × List Int32 := match sNr A with
  | some q => (nI q.1, [nI q.2])
  | none => (-1, [])
theorem o_M_near {A : AS} {tx : List Nat} {rw : List Int32} {h : jHp} (r : RMX A tx rw h) (hsome : sNr A ≠ none) : ∃ h', f_M_near [.ref 98] h = some (some (.int (vNear A).1), h') ∧ RMX A tx (vNear A).2 h' ∧ Fr WM h h' := by
  have hs := r.1.1
  have w := r.1.2.1
  have hn := w.1.1
  have r0 := RMX_33 r (nI 0)
  have m0 := op_33 r
  have hs0 := r0.1.1
  generalize hh0 : hSetI h 98 33 (nI 0) = h0 at *
  have f1 : Fr (fun a k => a = 98 ∧ k = 67) h0 (hSetI h0 98 67 (-1)) := Fr_set _ ⟨rfl, rfl⟩
  have m1 : MW Wop A h (hSetI h0 98 67 (-1)) := MW_step m0 f1 (by intro a k hv; unfold Wop cM; omega)
  have hs1 := m1.2.1.1
  have rn1 : RNr none (hSetI h0 98 67 (-1)) := by show hI _ 98 67 = -1; rw [hI_setI, if_pos ⟨rfl, rfl⟩]
  generalize hh1 : hSetI h0 98 67 (-1) = h1 at *
  obtain ⟨h2, e2, m2, rn2⟩ := e_M_goNear (A := A) (h0 := h1) (aNp A) 10 (by omega) 0 0 h1 none (by omega) (by decide) (MW_refl m1.2.1 m1.2.2) rn1
  have hd : (genL A (aNp A) 0 0).foldl (nrF A) none = sNr A := rfl
  rw [hd] at rn2
  have m2' : MW Wop A h h2 := MW_trans m1 (MW_mono m2 (by unfold Wnr Wmk Wop; intro a k; omega))
  have hs2 := m2.2.1.1
  unfold vNear
  cases hq : sNr A with
  | none => exact absurd hq hsome
  | some q =>
    rw [hq] at rn2
    obtain ⟨c67, c68, -, -⟩ : hI h2 98 67 = nI q.1 ∧ hI h2 98 68 = nI q.2 ∧ q.1 ≤ 22 ∧ q.2 < 2 ^ 20 := rn2
    have m3 := MW_rw0 m2'
    obtain ⟨h4, e4, r4, f4⟩ := e_M_tell m3.2.1.1 (RRw_0 (h := h2)) (by decide) (nI q.2)
    have m4 := MW_tell m3 f4
    have hs4 := m4.2.1.1
    have hs3 := m3.2.1.1
    have d68 : hI (hSetI h2 98 32 (nI 0)) 98 68 = nI q.2 := by rw [hI_setI, if_neg (by omega)]; exact c68
    have d67 : hI h4 98 67 = nI q.1 := by rw [Fr_I f4 (by simp [Wrw]), hI_setI, if_neg (by omega)]; exact c67
    refine ⟨h4, ?_, op_fin r m4 r4⟩
    have hh3 : hSetI h2 98 32 0 = hSetI h2 98 32 (nI 0) := by rw [nI_0]
    have hh0' : hSetI h 98 33 0 = h0 := by rw [← hh0, nI_0]
    simp only [nI_0] at e2
    generalize hSetI h2 98 32 (nI 0) = h3 at *
    simp (disch := first | assumption | omega) [f_M_near, body_M_near, j_meth, j_out, j_rok, j_pad, lg_sl, s_seq_w, isN_inl, isN_inr, s_if, jb, x_c, x_iloc, x_aloc, x_lloc, x_bin, x_un, o_add, o_sub, o_mul, o_and, o_or, o_xor, o_shl, o_shr, o_ushr, o_max, o_min, o_i2b, o_i2c, o_i2l, o_l2i, x_fld, j_fget, x_idx, j_aget, x_len, j_alen, x_ofb, x_ite, xs_nil, xs_cons, x_callv, x_calls, s_callv, s_calls, j_recv, j_ret, j_retv, b_cmp, b_and, b_or, b_not, b_ofi, b_ite, b_true, s_skip, s_set, j_ty, j_lset, j_kill, s_inc, s_fput, j_fput, s_fop, s_aput, j_aput, j_nar, s_aop, s_ret, s_retv, s_go, s_pop, x_linc, x_finc, Value.category, if_icmp.holds, List.flatMap_cons, List.flatMap_nil, List.length_cons, List.length_append, List.length_nil, List.set_cons_succ, List.set_cons_zero, List.getElem?_cons_succ, List.getElem?_cons_zero, List.replicate, ite_and', ite_or', ite_int', nI_leI, nI_ltI, nI_eq, nI_add, nI_1, pk_mul, nI_clamp, n_in', nI_pos', nI_pos, n_m1e, n_01, n_10, sT_98, sT_99, sT_100, sT_101, sT_102, sT_103, sT_104, sT_105, sT_106, sT_107, sT_108, sT_109, sT_110, sT_111, sT_112, sT_113, sT_114, sT_115, sT_116, sT_117, sT_118, sT_119, sT_120, sT_121, sT_122, sT_123, sT_124, sT_125, sT_126, sT_127, sT_128, sT_129, sT_130, sT_131, sT_132, sT_133, sT_134, sT_135, sT_136, sT_137, sT_138, sT_139, sT_140, sR_98_1, sR_98_4, sR_98_5, sR_98_6, sR_98_7, sR_98_8, sR_98_9, sR_98_10, sR_98_12, sR_98_13, sR_98_14, sR_98_15, sR_98_16, sR_98_17, sR_98_18, sR_98_19, sR_98_20, sR_98_21, sR_98_22, sR_98_23, sR_98_24, sR_98_25, sR_98_26, sR_98_27, sR_98_28, sR_98_29, sR_98_31, sR_98_34, sR_98_35, sR_98_36, sR_98_42, sR_98_44, sR_98_45, sR_98_47, sR_98_49, sR_98_51, sR_98_56, sR_98_58, sR_98_62, sR_98_65, sR_98_66, sR_98_69, nI_0, hh0', hh1, e2, hh3, d68, e4, d67]
-- places: a CHOICE with more of q
def updC (f : Nat → Option CH) (i : Nat) (v : Option CH) : Nat → Option CH := fun j => if j = i then v else f j
/-- an OFFICE with v places more -/
def aMore (A : AS) (f v : Nat) : AS := match aCh A f with
  | none => A
  | some C => (A.1, A.2.1, A.2.2.1, A.2.2.2.1, A.2.2.2.2.1, updC (aCh A) f (some (cMost C + v, C.2)), A.2.2.2.2.2.2)
theorem aMore_0 (A : AS) (f : Nat) : aMore A f 0 = A := by
  unfold aMore
  cases hC : aCh A f with
  | none => rfl
  | some C =>
    have : updC (aCh A) f (some (cMost C + 0, C.2)) = aCh A := by
      funext j
      unfold updC
      by_cases e : j = f
      · rw [if_pos e, e, hC]; rfl
      · rw [if_neg e]
    simp only [this]
    rfl
theorem aMore_ch (A : AS) (f v g : Nat) : aCh (aMore A f v) g = if g = f then (aCh A f).map (fun C => (cMost C + v, C.2)) else aCh A g := by
  unfold aMore
  cases hC : aCh A f with
  | none =>
    by_cases e : g = f
    · rw [if_pos e, e]; exact hC
    · rw [if_neg e]
  | some C =>
    show updC (aCh A) f (some (cMost C + v, C.2)) g = _
    unfold updC
    by_cases e : g = f
    · rw [if_pos e, if_pos e]; rfl
    · rw [if_neg e, if_neg e]
theorem aMore_id (A : AS) (f v : Nat) : (aMore A f v).1 = A.1 ∧ (aMore A f v).2.1 = A.2.1 ∧ (aMore A f v).2.2.1 = A.2.2.1 ∧ (aMore A f v).2.2.2.1 = A.2.2.2.1 ∧ (aMore A f v).2.2.2.2.1 = A.2.2.2.2.1 ∧ (aMore A f v).2.2.2.2.2.2 = A.2.2.2.2.2.2 := by
  unfold aMore
  cases aCh A f with
  | none => exact ⟨rfl, rfl, rfl, rfl, rfl, rfl⟩
  | some C => exact ⟨rfl, rfl, rfl, rfl, rfl, rfl⟩
theorem WF_ch {A B : AS} (w : WF A) (e1 : B.1 = A.1) (e2 : B.2.1 = A.2.1) (e3 : B.2.2.1 = A.2.2.1) (e4 : B.2.2.2.1 = A.2.2.2.1) (e5 : B.2.2.2.2.1 = A.2.2.2.2.1) (e7 : B.2.2.2.2.2.2 = A.2.2.2.2.2.2) (hch : ∀ f, (aNo B ≤ f → aCh B f = none) ∧ ∀ C, aCh B f = some C → CHok C) : WF B := by
  obtain ⟨a1, a2, a3, a4, a5, c, a7, a8⟩ := A
  obtain ⟨b1, b2, b3, b4, b5, c', b7, b8⟩ := B
  simp only [Prod.mk.injEq] at e1 e2 e3 e4 e5 e7
  obtain ⟨e7, e8⟩ := e7
  subst e1 e2 e3 e4 e5 e7 e8
  obtain ⟨w1, w2, w3, w4, w5, -, w7⟩ := w
  exact ⟨w1, w2, w3, w4, w5, hch, w7⟩
