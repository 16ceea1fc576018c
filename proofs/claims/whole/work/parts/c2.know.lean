/-! Standing.know -/
theorem e_W_every {A : AS} {h0 : jHp} (x0 : MV A (fun _ => 0) h0) (l0 : WLv A h0) (hg7 : hI h0 73 7 = 0) (hg : isG (hR h0 73 11)) (hra : hR h0 77 8 < hN h0) (fi : FI h0 [] h0) :
    ∃ h', f_W_step 30 [.ref 73, .int (nI 0), .int (nI 0), .int (nI 0), .int (nI (slM A (sWt A 0))), .int (nI 0)] h0 = some (some (.int 0), h') ∧ InE A h0 (sAllR A) h' := by
  have w := x0.1.1.2.1
  have hA : aMv A (fun _ => 0) = A := aMv_0 A _ fun _ => rfl
  have hW := wk_std w (fun _ => 0)
  rw [hA] at hW
  have hlen := sAllR_len w
  have := e_W_walk (A := A) (mv := fun _ => 0) (arE A) (InE A h0) (fun s h i => ⟨i.1, i.2.1⟩) (s := [])
    (fun pre S post s' h hWW hv oS i => by
      rw [vst_E] at hv
      have hs' : s' = pre.filter (sStd A) := by
        have := congrArg Prod.snd hv
        simpa using this.symm
      obtain ⟨h', e, i'⟩ := e_W_arrE x0 l0 hg7 hg hra oS i (fun hst => by
        rw [hWW] at hW
        have := congrArg List.length hW
        rw [List.filter_append, List.filter_cons_of_pos hst, List.length_append, List.length_cons, ← hs'] at this
        omega)
      exact ⟨h', e, i'⟩) (h := h0) ⟨x0, l0, hg7, fi⟩
  obtain ⟨h', e, i'⟩ := this
  rw [vst_E, hW] at e i'
  exact ⟨h', e, i'⟩
/-- ALL is known -/
def KNW (A : AS) (h : jHp) : Prop := ∃ fa fl sl ra rl so di qu co, CGr fa fl fa sl ra rl so di qu co h ∧ hI h 77 4 = 1 ∧ CKn A fa fl fa ra rl so h
theorem KNW_St {A : AS} {h : jHp} (k : KNW A h) : CSt A h := by
  obtain ⟨fa, fl, sl, ra, rl, so, di, qu, co, g, -, c⟩ := k
  exact ⟨fa, fl, fa, sl, ra, rl, so, di, qu, co, g, c⟩
noncomputable def kn_0 : jSt := (s_if (b_ofi (x_fld 9 0 4 (x_aloc 0))) s_retv s_skip)
noncomputable def kn_1 : jSt := (s_callv 5 f_Ma_readyWithoutMore (xs_cons (x_fld 9 1 2 (x_aloc 0)) xs_nil))
noncomputable def kn_2 : jSt := (s_callv 11 f_W_prepare (xs_cons (x_fld 9 1 3 (x_aloc 0)) (xs_cons (x_c (.int (nI 0))) xs_nil)))
noncomputable def kn_3 : jSt := (s_pop (x_callv 11 (f_W_step 30) (xs_cons (x_fld 9 1 3 (x_aloc 0)) (xs_cons (x_c (.int (nI 0))) (xs_cons (x_c (.int (nI 0))) (xs_cons (x_c (.int (nI 0))) (xs_cons (x_fld 11 0 8 (x_fld 9 1 3 (x_aloc 0))) (xs_cons (x_c (.int (nI 0))) xs_nil))))))))
noncomputable def kn_4 : jSt := (s_fput 9 1 0 6 (x_aloc 0) (x_fld 11 1 11 (x_fld 9 1 3 (x_aloc 0))))
noncomputable def kn_5 : jSt := (s_fput 9 0 0 7 (x_aloc 0) (x_fld 11 0 12 (x_fld 9 1 3 (x_aloc 0))))
noncomputable def kn_6 : jSt := (s_fput 9 0 1 5 (x_aloc 0) (x_c (.int (nI 0))))
noncomputable def kn_7 : jSt := (s_fput 9 0 1 4 (x_aloc 0) (x_c (.int (nI 1))))
noncomputable def kn_8 : jSt := s_retv
theorem St_know_s : f_St_know = j_meth 0 1 (s_seq kn_0 (s_seq kn_1 (s_seq kn_2 (s_seq kn_3 (s_seq kn_4 (s_seq kn_5 (s_seq kn_6 (s_seq kn_7 kn_8)))))))) := rfl
