/-! the place of a sign in the text "pytkn": the JDK's own methods -/
theorem d_st79_0 : decode prog_21_method_79_code 0 = .ok (.aload_n 0, 1) := by decide +kernel
theorem d_st79_1 : decode prog_21_method_79_code 1 = .ok (.iload_n 1, 1) := by decide +kernel
theorem d_st79_2 : decode prog_21_method_79_code 2 = .ok (.iconst 0, 1) := by decide +kernel
theorem d_st79_3 : decode prog_21_method_79_code 3 = .ok (.invokevirtual 633, 3) := by decide +kernel
theorem d_st79_6 : decode prog_21_method_79_code 6 = .ok (.ireturn, 1) := by decide +kernel
abbrev y_st79 : MethodName := ⟨"java/lang/String", "indexOf", "(I)I"⟩
theorem wc_st79 : Jvm.Cond.code y_st79 prog_21_method_79_code 2 (Option.some Jvm.ClassFile.FieldType.int) ∈ jtbl := j_mem 773 (by decide +kernel)
theorem wv_st79 : Jvm.Cond.instanceMethod y_st79 ∈ jtbl := j_mem 771 (by decide +kernel)
theorem ws_st79 : Jvm.Cond.selects "java/lang/String" y_st79 y_st79 ∈ jtbl := j_mem 772 (by decide +kernel)
theorem d_st80_0 : decode prog_21_method_80_code 0 = .ok (.aload_n 0, 1) := by decide +kernel
theorem d_st80_1 : decode prog_21_method_80_code 1 = .ok (.invokevirtual 492, 3) := by decide +kernel
theorem d_st80_4 : decode prog_21_method_80_code 4 = .ok (.ifCond .eq 19, 3) := by decide +kernel
theorem d_st80_7 : decode prog_21_method_80_code 7 = .ok (.aload_n 0, 1) := by decide +kernel
theorem d_st80_8 : decode prog_21_method_80_code 8 = .ok (.getfield 9, 3) := by decide +kernel
theorem d_st80_11 : decode prog_21_method_80_code 11 = .ok (.iload_n 1, 1) := by decide +kernel
theorem d_st80_12 : decode prog_21_method_80_code 12 = .ok (.iload_n 2, 1) := by decide +kernel
theorem d_st80_13 : decode prog_21_method_80_code 13 = .ok (.aload_n 0, 1) := by decide +kernel
theorem d_st80_14 : decode prog_21_method_80_code 14 = .ok (.invokevirtual 505, 3) := by decide +kernel
theorem d_st80_17 : decode prog_21_method_80_code 17 = .ok (.invokestatic 637, 3) := by decide +kernel
theorem d_st80_20 : decode prog_21_method_80_code 20 = .ok (.goto 16, 3) := by decide +kernel
theorem d_st80_23 : decode prog_21_method_80_code 23 = .ok (.aload_n 0, 1) := by decide +kernel
theorem d_st80_24 : decode prog_21_method_80_code 24 = .ok (.getfield 9, 3) := by decide +kernel
theorem d_st80_27 : decode prog_21_method_80_code 27 = .ok (.iload_n 1, 1) := by decide +kernel
theorem d_st80_28 : decode prog_21_method_80_code 28 = .ok (.iload_n 2, 1) := by decide +kernel
theorem d_st80_29 : decode prog_21_method_80_code 29 = .ok (.aload_n 0, 1) := by decide +kernel
theorem d_st80_30 : decode prog_21_method_80_code 30 = .ok (.invokevirtual 505, 3) := by decide +kernel
theorem d_st80_33 : decode prog_21_method_80_code 33 = .ok (.invokestatic 640, 3) := by decide +kernel
theorem d_st80_36 : decode prog_21_method_80_code 36 = .ok (.ireturn, 1) := by decide +kernel
abbrev y_st80 : MethodName := ⟨"java/lang/String", "indexOf", "(II)I"⟩
theorem wc_st80 : Jvm.Cond.code y_st80 prog_21_method_80_code 3 (Option.some Jvm.ClassFile.FieldType.int) ∈ jtbl := j_mem 777 (by decide +kernel)
theorem wv_st80 : Jvm.Cond.instanceMethod y_st80 ∈ jtbl := j_mem 775 (by decide +kernel)
theorem ws_st80 : Jvm.Cond.selects "java/lang/String" y_st80 y_st80 ∈ jtbl := j_mem 776 (by decide +kernel)
theorem d_lat1_0 : decode prog_21_method_154_code 0 = .ok (.getstatic 38, 3) := by decide +kernel
theorem d_lat1_3 : decode prog_21_method_154_code 3 = .ok (.ifCond .eq 14, 3) := by decide +kernel
theorem d_lat1_6 : decode prog_21_method_154_code 6 = .ok (.aload_n 0, 1) := by decide +kernel
theorem d_lat1_7 : decode prog_21_method_154_code 7 = .ok (.getfield 15, 3) := by decide +kernel
theorem d_lat1_10 : decode prog_21_method_154_code 10 = .ok (.ifCond .ne 7, 3) := by decide +kernel
theorem d_lat1_13 : decode prog_21_method_154_code 13 = .ok (.iconst 1, 1) := by decide +kernel
theorem d_lat1_14 : decode prog_21_method_154_code 14 = .ok (.goto 4, 3) := by decide +kernel
theorem d_lat1_17 : decode prog_21_method_154_code 17 = .ok (.iconst 0, 1) := by decide +kernel
theorem d_lat1_18 : decode prog_21_method_154_code 18 = .ok (.ireturn, 1) := by decide +kernel
abbrev y_lat1 : MethodName := ⟨"java/lang/String", "isLatin1", "()Z"⟩
theorem wc_lat1 : Jvm.Cond.code y_lat1 prog_21_method_154_code 1 (Option.some Jvm.ClassFile.FieldType.boolean) ∈ jtbl := j_mem 781 (by decide +kernel)
theorem wv_lat1 : Jvm.Cond.instanceMethod y_lat1 ∈ jtbl := j_mem 779 (by decide +kernel)
theorem ws_lat1 : Jvm.Cond.selects "java/lang/String" y_lat1 y_lat1 ∈ jtbl := j_mem 780 (by decide +kernel)
theorem d_slen_0 : decode prog_21_method_54_code 0 = .ok (.aload_n 0, 1) := by decide +kernel
theorem d_slen_1 : decode prog_21_method_54_code 1 = .ok (.getfield 9, 3) := by decide +kernel
theorem d_slen_4 : decode prog_21_method_54_code 4 = .ok (.arraylength, 1) := by decide +kernel
theorem d_slen_5 : decode prog_21_method_54_code 5 = .ok (.aload_n 0, 1) := by decide +kernel
theorem d_slen_6 : decode prog_21_method_54_code 6 = .ok (.invokevirtual 335, 3) := by decide +kernel
theorem d_slen_9 : decode prog_21_method_54_code 9 = .ok (.ishr, 1) := by decide +kernel
theorem d_slen_10 : decode prog_21_method_54_code 10 = .ok (.ireturn, 1) := by decide +kernel
abbrev y_slen : MethodName := ⟨"java/lang/String", "length", "()I"⟩
theorem wc_slen : Jvm.Cond.code y_slen prog_21_method_54_code 1 (Option.some Jvm.ClassFile.FieldType.int) ∈ jtbl := j_mem 787 (by decide +kernel)
theorem wv_slen : Jvm.Cond.instanceMethod y_slen ∈ jtbl := j_mem 785 (by decide +kernel)
theorem ws_slen : Jvm.Cond.selects "java/lang/String" y_slen y_slen ∈ jtbl := j_mem 786 (by decide +kernel)
theorem d_scod_0 : decode prog_21_method_152_code 0 = .ok (.getstatic 38, 3) := by decide +kernel
theorem d_scod_3 : decode prog_21_method_152_code 3 = .ok (.ifCond .eq 10, 3) := by decide +kernel
theorem d_scod_6 : decode prog_21_method_152_code 6 = .ok (.aload_n 0, 1) := by decide +kernel
theorem d_scod_7 : decode prog_21_method_152_code 7 = .ok (.getfield 15, 3) := by decide +kernel
theorem d_scod_10 : decode prog_21_method_152_code 10 = .ok (.goto 4, 3) := by decide +kernel
theorem d_scod_13 : decode prog_21_method_152_code 13 = .ok (.iconst 1, 1) := by decide +kernel
theorem d_scod_14 : decode prog_21_method_152_code 14 = .ok (.ireturn, 1) := by decide +kernel
abbrev y_scod : MethodName := ⟨"java/lang/String", "coder", "()B"⟩
theorem wc_scod : Jvm.Cond.code y_scod prog_21_method_152_code 1 (Option.some Jvm.ClassFile.FieldType.byte) ∈ jtbl := j_mem 791 (by decide +kernel)
theorem wv_scod : Jvm.Cond.instanceMethod y_scod ∈ jtbl := j_mem 789 (by decide +kernel)
theorem ws_scod : Jvm.Cond.selects "java/lang/String" y_scod y_scod ∈ jtbl := j_mem 790 (by decide +kernel)
theorem d_l22_0 : decode prog_22_method_22_code 0 = .ok (.iload_n 1, 1) := by decide +kernel
theorem d_l22_1 : decode prog_22_method_22_code 1 = .ok (.invokestatic 88, 3) := by decide +kernel
theorem d_l22_4 : decode prog_22_method_22_code 4 = .ok (.ifCond .ne 5, 3) := by decide +kernel
theorem d_l22_7 : decode prog_22_method_22_code 7 = .ok (.iconst (-1), 1) := by decide +kernel
theorem d_l22_8 : decode prog_22_method_22_code 8 = .ok (.ireturn, 1) := by decide +kernel
theorem d_l22_9 : decode prog_22_method_22_code 9 = .ok (.iload_n 2, 1) := by decide +kernel
theorem d_l22_10 : decode prog_22_method_22_code 10 = .ok (.iconst 0, 1) := by decide +kernel
theorem d_l22_11 : decode prog_22_method_22_code 11 = .ok (.invokestatic 92, 3) := by decide +kernel
theorem d_l22_14 : decode prog_22_method_22_code 14 = .ok (.istore_n 2, 1) := by decide +kernel
theorem d_l22_15 : decode prog_22_method_22_code 15 = .ok (.iload_n 3, 1) := by decide +kernel
theorem d_l22_16 : decode prog_22_method_22_code 16 = .ok (.aload_n 0, 1) := by decide +kernel
theorem d_l22_17 : decode prog_22_method_22_code 17 = .ok (.arraylength, 1) := by decide +kernel
theorem d_l22_18 : decode prog_22_method_22_code 18 = .ok (.invokestatic 38, 3) := by decide +kernel
theorem d_l22_21 : decode prog_22_method_22_code 21 = .ok (.istore_n 3, 1) := by decide +kernel
theorem d_l22_22 : decode prog_22_method_22_code 22 = .ok (.iload_n 2, 1) := by decide +kernel
theorem d_l22_23 : decode prog_22_method_22_code 23 = .ok (.iload_n 3, 1) := by decide +kernel
theorem d_l22_24 : decode prog_22_method_22_code 24 = .ok (.if_icmp .lt 5, 3) := by decide +kernel
theorem d_l22_27 : decode prog_22_method_22_code 27 = .ok (.iconst (-1), 1) := by decide +kernel
theorem d_l22_28 : decode prog_22_method_22_code 28 = .ok (.ireturn, 1) := by decide +kernel
theorem d_l22_29 : decode prog_22_method_22_code 29 = .ok (.aload_n 0, 1) := by decide +kernel
theorem d_l22_30 : decode prog_22_method_22_code 30 = .ok (.iload_n 1, 1) := by decide +kernel
theorem d_l22_31 : decode prog_22_method_22_code 31 = .ok (.iload_n 2, 1) := by decide +kernel
theorem d_l22_32 : decode prog_22_method_22_code 32 = .ok (.iload_n 3, 1) := by decide +kernel
theorem d_l22_33 : decode prog_22_method_22_code 33 = .ok (.invokestatic 95, 3) := by decide +kernel
theorem d_l22_36 : decode prog_22_method_22_code 36 = .ok (.ireturn, 1) := by decide +kernel
abbrev y_l22 : MethodName := ⟨"java/lang/StringLatin1", "indexOf", "([BIII)I"⟩
theorem wc_l22 : Jvm.Cond.code y_l22 prog_22_method_22_code 4 (Option.some Jvm.ClassFile.FieldType.int) ∈ jtbl := j_mem 794 (by decide +kernel)
theorem wt_l22 : Jvm.Cond.static y_l22 ∈ jtbl := j_mem 793 (by decide +kernel)
theorem d_l4_0 : decode prog_22_method_4_code 0 = .ok (.iload_n 0, 1) := by decide +kernel
theorem d_l4_1 : decode prog_22_method_4_code 1 = .ok (.ifCond .lt 14, 3) := by decide +kernel
theorem d_l4_4 : decode prog_22_method_4_code 4 = .ok (.iload_n 0, 1) := by decide +kernel
theorem d_l4_5 : decode prog_22_method_4_code 5 = .ok (.sipush 255, 3) := by decide +kernel
theorem d_l4_8 : decode prog_22_method_4_code 8 = .ok (.if_icmp .gt 7, 3) := by decide +kernel
theorem d_l4_11 : decode prog_22_method_4_code 11 = .ok (.iconst 1, 1) := by decide +kernel
theorem d_l4_12 : decode prog_22_method_4_code 12 = .ok (.goto 4, 3) := by decide +kernel
theorem d_l4_15 : decode prog_22_method_4_code 15 = .ok (.iconst 0, 1) := by decide +kernel
theorem d_l4_16 : decode prog_22_method_4_code 16 = .ok (.ireturn, 1) := by decide +kernel
abbrev y_l4 : MethodName := ⟨"java/lang/StringLatin1", "canEncode", "(I)Z"⟩
theorem wc_l4 : Jvm.Cond.code y_l4 prog_22_method_4_code 1 (Option.some Jvm.ClassFile.FieldType.boolean) ∈ jtbl := j_mem 797 (by decide +kernel)
theorem wt_l4 : Jvm.Cond.static y_l4 ∈ jtbl := j_mem 796 (by decide +kernel)
theorem d_l23_0 : decode prog_22_method_23_code 0 = .ok (.iload_n 1, 1) := by decide +kernel
theorem d_l23_1 : decode prog_22_method_23_code 1 = .ok (.i2b, 1) := by decide +kernel
theorem d_l23_2 : decode prog_22_method_23_code 2 = .ok (.istore 4, 2) := by decide +kernel
theorem d_l23_4 : decode prog_22_method_23_code 4 = .ok (.iload_n 2, 1) := by decide +kernel
theorem d_l23_5 : decode prog_22_method_23_code 5 = .ok (.istore 5, 2) := by decide +kernel
theorem d_l23_7 : decode prog_22_method_23_code 7 = .ok (.iload 5, 2) := by decide +kernel
theorem d_l23_9 : decode prog_22_method_23_code 9 = .ok (.iload_n 3, 1) := by decide +kernel
theorem d_l23_10 : decode prog_22_method_23_code 10 = .ok (.if_icmp .ge 21, 3) := by decide +kernel
theorem d_l23_13 : decode prog_22_method_23_code 13 = .ok (.aload_n 0, 1) := by decide +kernel
theorem d_l23_14 : decode prog_22_method_23_code 14 = .ok (.iload 5, 2) := by decide +kernel
theorem d_l23_16 : decode prog_22_method_23_code 16 = .ok (.baload, 1) := by decide +kernel
theorem d_l23_17 : decode prog_22_method_23_code 17 = .ok (.iload 4, 2) := by decide +kernel
theorem d_l23_19 : decode prog_22_method_23_code 19 = .ok (.if_icmp .ne 6, 3) := by decide +kernel
theorem d_l23_22 : decode prog_22_method_23_code 22 = .ok (.iload 5, 2) := by decide +kernel
theorem d_l23_24 : decode prog_22_method_23_code 24 = .ok (.ireturn, 1) := by decide +kernel
theorem d_l23_25 : decode prog_22_method_23_code 25 = .ok (.iinc 5 1, 3) := by decide +kernel
theorem d_l23_28 : decode prog_22_method_23_code 28 = .ok (.goto (-21), 3) := by decide +kernel
theorem d_l23_31 : decode prog_22_method_23_code 31 = .ok (.iconst (-1), 1) := by decide +kernel
theorem d_l23_32 : decode prog_22_method_23_code 32 = .ok (.ireturn, 1) := by decide +kernel
abbrev y_l23 : MethodName := ⟨"java/lang/StringLatin1", "indexOfChar", "([BIII)I"⟩
theorem wc_l23 : Jvm.Cond.code y_l23 prog_22_method_23_code 6 (Option.some Jvm.ClassFile.FieldType.int) ∈ jtbl := j_mem 806 (by decide +kernel)
theorem wt_l23 : Jvm.Cond.static y_l23 ∈ jtbl := j_mem 805 (by decide +kernel)
theorem wS_i1 : Jvm.Cond.initialized "java/lang/String" ∈ jtbl := j_mem 102 (by decide +kernel)
theorem wS_i2 : Jvm.Cond.initialized "java/lang/StringLatin1" ∈ jtbl := j_mem 103 (by decide +kernel)
theorem wl_Text_82 : Jvm.Cond.methodLink "SealedBonds$Text" 82 y_st79 ∈ jtbl := j_mem 770 (by decide +kernel)
theorem wl_SealedBondsModel_219 : Jvm.Cond.methodLink "SealedBondsModel" 219 y_st79 ∈ jtbl := j_mem 1687 (by decide +kernel)
theorem wl_String_633 : Jvm.Cond.methodLink "java/lang/String" 633 y_st80 ∈ jtbl := j_mem 774 (by decide +kernel)
theorem wl_String_492 : Jvm.Cond.methodLink "java/lang/String" 492 y_lat1 ∈ jtbl := j_mem 778 (by decide +kernel)
theorem wl_String_505 : Jvm.Cond.methodLink "java/lang/String" 505 y_slen ∈ jtbl := j_mem 784 (by decide +kernel)
theorem wl_String_335 : Jvm.Cond.methodLink "java/lang/String" 335 y_scod ∈ jtbl := j_mem 788 (by decide +kernel)
theorem wl_String_637 : Jvm.Cond.methodLink "java/lang/String" 637 y_l22 ∈ jtbl := j_mem 792 (by decide +kernel)
theorem wl_StringLatin1_88 : Jvm.Cond.methodLink "java/lang/StringLatin1" 88 y_l4 ∈ jtbl := j_mem 795 (by decide +kernel)
theorem wl_StringLatin1_95 : Jvm.Cond.methodLink "java/lang/StringLatin1" 95 y_l23 ∈ jtbl := j_mem 804 (by decide +kernel)
theorem wl_mx : Jvm.Cond.methodLink "java/lang/StringLatin1" 92 Lib.Math.max.name ∈ jtbl := j_mem 798 (by decide +kernel)
theorem wl_mn : Jvm.Cond.methodLink "java/lang/StringLatin1" 38 Lib.Math.min.name ∈ jtbl := j_mem 801 (by decide +kernel)
theorem wf_S38 : Jvm.Cond.fieldLink "java/lang/String" 38 "java/lang/String" "COMPACT_STRINGS" "Z" ∈ jtbl := j_mem 782 (by decide +kernel)
theorem wf_S15 : Jvm.Cond.fieldLink "java/lang/String" 15 "java/lang/String" "coder" "B" ∈ jtbl := j_mem 1930 (by decide +kernel)
theorem wf_S9 : Jvm.Cond.fieldLink "java/lang/String" 9 "java/lang/String" "value" "[B" ∈ jtbl := j_mem 1931 (by decide +kernel)
def sp_Pc (off sa va : Nat) (vs : List Value) : Array Value → State → Prop := fun v U => v = vs.toArray ∧ jStrF off sa va U U.heap
theorem sp_blind {off sa va : Nat} {vs : List Value} : FrameBlind (sp_Pc off sa va vs) := by
  intro a U g mk ⟨q1, q2⟩
  exact ⟨q1, q2.moved (u := U) (U := U.calling g mk a) (Vm.Alike.refl U.vm)⟩
theorem sp_pre {off sa va : Nat} {vs : List Value} {s : State} (h : jStrF off sa va s s.heap) : ∀ U : State, U.heap = s.heap → s.WarmedH U.vm → sp_Pc off sa va vs vs.toArray U := fun U hU hW => ⟨rfl, by rw [hU]; exact h.moved hW.alike⟩
theorem jg1 {y : MethodName} {b : ByteArray} {n : Nat} {r : Option FieldType} (h : Jvm.Cond.code y b n r ∈ jtbl) : ∀ w ∈ Jvm.Cond.code y b n r :: jtbl, w ∈ jtbl := fun w hw => (List.mem_cons.mp hw).elim (fun e => e ▸ h) id
theorem jgV {own C : String} {i : Nat} {y : MethodName} {b : ByteArray} {n : Nat} {r : Option FieldType} (h : Jvm.Cond.code y b n r ∈ jtbl) (h1 : Jvm.Cond.methodLink own i y ∈ jtbl) (h2 : Jvm.Cond.instanceMethod y ∈ jtbl) (h3 : Jvm.Cond.selects C y y ∈ jtbl) (h4 : Jvm.Cond.initialized C ∈ jtbl) : GoodIn jtbl (wsV own i C y (Jvm.Cond.code y b n r :: jtbl)) := jgood (by
  intro w hw
  simp only [wsV, List.cons_append, List.nil_append, List.mem_cons] at hw
  rcases hw with rfl | rfl | rfl | rfl | rfl | hw
  · exact h1
  · exact h2
  · exact h3
  · exact h4
  · exact h
  · exact hw)
theorem jgS {own : String} {i : Nat} {y : MethodName} {b : ByteArray} {n : Nat} {r : Option FieldType} (h : Jvm.Cond.code y b n r ∈ jtbl) (h1 : Jvm.Cond.methodLink own i y ∈ jtbl) (h2 : Jvm.Cond.static y ∈ jtbl) (h4 : Jvm.Cond.initialized y.cls ∈ jtbl) : GoodIn jtbl (va_wsS own i y (Jvm.Cond.code y b n r :: jtbl)) := jgood (by
  intro w hw
  simp only [va_wsS, List.cons_append, List.nil_append, List.mem_cons] at hw
  rcases hw with rfl | rfl | rfl | rfl | hw
  · exact h1
  · exact h2
  · exact h4
  · exact h
  · exact hw)
theorem c_scod (l : Launch) (off sa va : Nat) : Met l y_scod (Jvm.Cond.code y_scod prog_21_method_152_code 1 (some .byte) :: jtbl) { frames := 1, cells := 0, slots := 0, locals := 40 } (sp_Pc off sa va [.ref sa]) (QcRead (0)) 0 0 (fun _ => False) := by
  refine Met.ofW (cc := prog_21_method_152_code) (maxL := 1) (ret := some .byte) (by decide) rfl ?_
  intro p e s m args below meth c s₁ B hml hv
  obtain ⟨rfl, hF⟩ := hv
  have hx := B.exec
  have hb := B.bytes
  have hr := B.returns
  have hlocks := B.notSynchronized
  have hts : ∀ w ∈ jtbl, w.before _ s = true := fun w hw => atoms_spec (ws := _ :: jtbl) B.pre w (List.mem_cons_of_mem _ hw)
  have hown := findClass_of_methodNamed B.named
  have hS : va_S (fun q => off < q) s.heap s.heap [] := va_S.rf
  rw [lg_entry_eq]
  have hl := lv_entry ([.ref sa]) (n := 1) (Nat.le_of_ble_eq_true rfl)
  generalize (lg_sl ([.ref sa]) ++ List.replicate (1 - (lg_sl ([.ref sa])).length) Slot.unset).toArray = ls at hl ⊢
  have hl : lv_has ls 1 (lv_args 0 [.ref sa]) := hl
  refine va_gets hx hb hF.2.2.2.2 hS hown (hts _ wf_S38) (fun _ h => h) d_scod_0 ?_
  refine lv_if_eq (tgt := 13) hx hb d_scod_3 (by decide) (fun q => absurd q (by decide)) (fun _ => ?_)
  refine lv_aload_n hx hb d_scod_6 rfl (lv_at hl 0 rfl) ?_
  refine vk_getf hx hb hF.2.1 hS hown (hts _ wf_S15) (fun _ h => h) d_scod_7 ?_
  refine lv_goto (tgt := 14) hx hb d_scod_10 (by decide) ?_
  exact W.zret hx hb hr rfl (fun t ht _ => ⟨rfl, ht⟩) (fun q hq => by cases hq) d_scod_14
theorem c_lat1 (l : Launch) (off sa va : Nat) : Met l y_lat1 (Jvm.Cond.code y_lat1 prog_21_method_154_code 1 (some .boolean) :: jtbl) { frames := 1, cells := 0, slots := 0, locals := 40 } (sp_Pc off sa va [.ref sa]) (QcRead (1)) 0 0 (fun _ => False) := by
  refine Met.ofW (cc := prog_21_method_154_code) (maxL := 1) (ret := some .boolean) (by decide) rfl ?_
  intro p e s m args below meth c s₁ B hml hv
  obtain ⟨rfl, hF⟩ := hv
  have hx := B.exec
  have hb := B.bytes
  have hr := B.returns
  have hlocks := B.notSynchronized
  have hts : ∀ w ∈ jtbl, w.before _ s = true := fun w hw => atoms_spec (ws := _ :: jtbl) B.pre w (List.mem_cons_of_mem _ hw)
  have hown := findClass_of_methodNamed B.named
  have hS : va_S (fun q => off < q) s.heap s.heap [] := va_S.rf
  rw [lg_entry_eq]
  have hl := lv_entry ([.ref sa]) (n := 1) (Nat.le_of_ble_eq_true rfl)
  generalize (lg_sl ([.ref sa]) ++ List.replicate (1 - (lg_sl ([.ref sa])).length) Slot.unset).toArray = ls at hl ⊢
  have hl : lv_has ls 1 (lv_args 0 [.ref sa]) := hl
  refine va_gets hx hb hF.2.2.2.2 hS hown (hts _ wf_S38) (fun _ h => h) d_lat1_0 ?_
  refine lv_if_eq (tgt := 17) hx hb d_lat1_3 (by decide) (fun q => absurd q (by decide)) (fun _ => ?_)
  refine lv_aload_n hx hb d_lat1_6 rfl (lv_at hl 0 rfl) ?_
  refine vk_getf hx hb hF.2.1 hS hown (hts _ wf_S15) (fun _ h => h) d_lat1_7 ?_
  refine lv_if_ne (tgt := 17) hx hb d_lat1_10 (by decide) (fun q => absurd rfl q) (fun _ => ?_)
  refine lv_iconst (v := 1) hx hb d_lat1_13 rfl ?_
  refine lv_goto (tgt := 18) hx hb d_lat1_14 (by decide) ?_
  exact W.zret hx hb hr rfl (fun t ht _ => ⟨rfl, ht⟩) (fun q hq => by cases hq) d_lat1_18
theorem c_slen (l : Launch) (off sa va : Nat) : Met l y_slen (Jvm.Cond.code y_slen prog_21_method_54_code 1 (some .int) :: jtbl) { frames := 2, cells := 0, slots := 0, locals := 80 } (sp_Pc off sa va [.ref sa]) (QcRead (5)) 0 0 (fun _ => False) := by
  refine Met.ofW (cc := prog_21_method_54_code) (maxL := 1) (ret := some .int) (by decide) rfl ?_
  intro p e s m args below meth c s₁ B hml hv
  obtain ⟨rfl, hF⟩ := hv
  have hx := B.exec
  have hb := B.bytes
  have hr := B.returns
  have hlocks := B.notSynchronized
  have hts : ∀ w ∈ jtbl, w.before _ s = true := fun w hw => atoms_spec (ws := _ :: jtbl) B.pre w (List.mem_cons_of_mem _ hw)
  have hown := findClass_of_methodNamed B.named
  have hS : va_S (fun q => off < q) s.heap s.heap [] := va_S.rf
  rw [lg_entry_eq]
  have hl := lv_entry ([.ref sa]) (n := 1) (Nat.le_of_ble_eq_true rfl)
  generalize (lg_sl ([.ref sa]) ++ List.replicate (1 - (lg_sl ([.ref sa])).length) Slot.unset).toArray = ls at hl ⊢
  have hl : lv_has ls 1 (lv_args 0 [.ref sa]) := hl
  obtain ⟨cellv, v1, v2, v3, v4, v5, v6, v7⟩ := hF.2.2.2.1
  obtain ⟨cells, s1, s2, s3, s4⟩ := hF.1
  refine lv_aload_n hx hb d_slen_0 rfl (lv_at hl 0 rfl) ?_
  refine vk_getf hx hb hF.2.2.1 hS hown (hts _ wf_S9) (fun _ h => h) d_slen_1 ?_
  refine W.alen hx hb v1 v2 v5 rfl rfl d_slen_4 ?_
  refine lv_aload_n hx hb d_slen_5 rfl (lv_at hl 0 rfl) ?_
  refine W.callR (W.runV (b := sa) (As := []) (rest := [.int (Int32.ofNat 5)]) ⟨hx, hb, hml, hown, hts⟩ (c_scod l off sa va) (cwV 0 hts (jgV wc_scod wl_String_335 wv_scod ws_scod wS_i1) rfl rfl rfl ⟨rfl, by decide, by decide, by decide +kernel⟩ ⟨Nat.le_of_ble_eq_true rfl, Nat.le_of_ble_eq_true rfl⟩) ⟨sp_blind, ⟨cells, s1, s2, s3⟩, sp_pre hF⟩ rfl rfl hl.1 rfl (lv_room (Nat.le_of_ble_eq_true rfl)) d_slen_6 ⟨Nat.le_of_ble_eq_true rfl, Nat.le_of_ble_eq_true rfl⟩) ?_
  refine lv_ishr hx hb d_slen_9 ?_
  exact W.iret hx hb hr (fun t ht _ => ⟨rfl, ht⟩) (fun q hq => by cases hq) d_slen_10
theorem c_l4 (l : Launch) (off sa va : Nat) (k : Int32) : Met l y_l4 (Jvm.Cond.code y_l4 prog_22_method_4_code 1 (some .boolean) :: jtbl) { frames := 1, cells := 0, slots := 0, locals := 40 } (sp_Pc off sa va [.int k]) (QcRead (if 0 ≤ k ∧ k ≤ 255 then 1 else 0)) 0 0 (fun _ => False) := by
  refine Met.ofW (cc := prog_22_method_4_code) (maxL := 1) (ret := some .boolean) (by decide) rfl ?_
  intro p e s m args below meth c s₁ B hml hv
  obtain ⟨rfl, hF⟩ := hv
  have hx := B.exec
  have hb := B.bytes
  have hr := B.returns
  have hlocks := B.notSynchronized
  have hts : ∀ w ∈ jtbl, w.before _ s = true := fun w hw => atoms_spec (ws := _ :: jtbl) B.pre w (List.mem_cons_of_mem _ hw)
  have hown := findClass_of_methodNamed B.named
  have hS : va_S (fun q => off < q) s.heap s.heap [] := va_S.rf
  rw [lg_entry_eq]
  have hl := lv_entry ([.int k]) (n := 1) (Nat.le_of_ble_eq_true rfl)
  generalize (lg_sl ([.int k]) ++ List.replicate (1 - (lg_sl ([.int k])).length) Slot.unset).toArray = ls at hl ⊢
  have hl : lv_has ls 1 (lv_args 0 [.int k]) := hl
  refine lv_iload_n hx hb d_l4_0 rfl (lv_at hl 0 rfl) ?_
  refine lv_if_lt (tgt := 15) hx hb d_l4_1 (by decide) (fun q => ?_) (fun q => ?_)
  · refine lv_iconst (v := 0) hx hb d_l4_15 rfl ?_
    rw [if_neg (fun z => absurd z.1 (Int32.not_le.mpr q))]
    exact W.zret hx hb hr rfl (fun t ht _ => ⟨rfl, ht⟩) (fun q hq => by cases hq) d_l4_16
  · refine lv_iload_n hx hb d_l4_4 rfl (lv_at hl 0 rfl) ?_
    refine lv_sipush (v := 255) hx hb d_l4_5 rfl ?_
    refine lv_icmp_gt (tgt := 15) hx hb d_l4_8 (by decide) (fun q2 => ?_) (fun q2 => ?_)
    · refine lv_iconst (v := 0) hx hb d_l4_15 rfl ?_
      rw [if_neg (fun z => absurd z.2 (Int32.not_le.mpr q2))]
      exact W.zret hx hb hr rfl (fun t ht _ => ⟨rfl, ht⟩) (fun q hq => by cases hq) d_l4_16
    · refine lv_iconst (v := 1) hx hb d_l4_11 rfl ?_
      refine lv_goto (tgt := 16) hx hb d_l4_12 (by decide) ?_
      rw [if_pos ⟨Int32.not_lt.mp q, Int32.not_lt.mp q2⟩]
      exact W.zret hx hb hr rfl (fun t ht _ => ⟨rfl, ht⟩) (fun q hq => by cases hq) d_l4_16
/-- the place of a byte, from place i on -/
theorem c_l23 (l : Launch) (off sa va : Nat) (k : Int32) : Met l y_l23 (Jvm.Cond.code y_l23 prog_22_method_23_code 6 (some .int) :: jtbl) { frames := 1, cells := 0, slots := 0, locals := 40 } (sp_Pc off sa va [.ref va, .int k, .int 0, .int 5]) (QcRead (j_ixB k.toInt8.toInt32 5 0)) 0 0 (fun _ => False) := by
  refine Met.ofW (cc := prog_22_method_23_code) (maxL := 6) (ret := some .int) (by decide) rfl ?_
  intro p e s m args below meth c s₁ B hml hv
  obtain ⟨rfl, hF⟩ := hv
  have hx := B.exec
  have hb := B.bytes
  have hr := B.returns
  have hlocks := B.notSynchronized
  have hts : ∀ w ∈ jtbl, w.before _ s = true := fun w hw => atoms_spec (ws := _ :: jtbl) B.pre w (List.mem_cons_of_mem _ hw)
  have hown := findClass_of_methodNamed B.named
  have hS : va_S (fun q => off < q) s.heap s.heap [] := va_S.rf
  rw [lg_entry_eq]
  have hl := lv_entry ([.ref va, .int k, .int 0, .int 5]) (n := 6) (Nat.le_of_ble_eq_true rfl)
  generalize (lg_sl ([.ref va, .int k, .int 0, .int 5]) ++ List.replicate (6 - (lg_sl ([.ref va, .int k, .int 0, .int 5])).length) Slot.unset).toArray = ls at hl ⊢
  have hl : lv_has ls 6 (lv_args 0 [.ref va, .int k, .int 0, .int 5]) := hl
  refine lv_iload_n hx hb d_l23_0 rfl (lv_at hl 1 rfl) ?_
  refine lv_i2b hx hb d_l23_1 rfl ?_
  generalize k.toInt8.toInt32 = kb
  refine lv_istore (lv' := [(4, .int kb), (0, .ref va), (1, .int k), (2, .int 0), (3, .int 5)]) hx hb d_l23_2 hl (by decide) rfl (fun ls hl => ?_)
  refine lv_iload_n hx hb d_l23_4 rfl (lv_at hl 3 rfl) ?_
  refine lv_istore (lv' := [(5, .int 0), (4, .int kb), (0, .ref va), (1, .int k), (2, .int 0), (3, .int 5)]) hx hb d_l23_5 hl (by decide) rfl (fun ls hl => ?_)
  have key : ∀ (n i : Nat) (ls : Array Slot), i + n = 5 → lv_has ls 6 [(5, .int (nI i)), (4, .int kb), (0, .ref va), (3, .int 5)] → W p l e { frames := 1, cells := 0, slots := 0, locals := 40 } s m ([.ref va, .int k, .int 0, .int 5] : List Value).toArray below meth c s.heap [] 0 0 (MQ below (QcRead (j_ixB kb n i)) ([.ref va, .int k, .int 0, .int 5] : List Value).toArray s 0 0 (fun _ => False)) (F0 m 7 ls []) := by
    intro n
    induction n with
    | zero =>
      intro i ls hi hl
      have hi : i = 5 := by omega
      subst hi
      refine lv_iload hx hb d_l23_7 (lv_at hl 0 rfl) ?_
      refine lv_iload_n hx hb d_l23_9 rfl (lv_at hl 3 rfl) ?_
      refine lv_icmp_ge (tgt := 31) hx hb d_l23_10 (by decide) (fun _ => ?_) (fun q => absurd (by decide) q)
      refine lv_iconst (v := -1) hx hb d_l23_31 rfl ?_
      exact W.iret hx hb hr (fun t ht _ => ⟨rfl, ht⟩) (fun q hq => by cases hq) d_l23_32
    | succ n ih =>
      intro i ls hi hl
      have hi5 : i < 5 := by omega
      refine lv_iload hx hb d_l23_7 (lv_at hl 0 rfl) ?_
      refine lv_iload_n hx hb d_l23_9 rfl (lv_at hl 3 rfl) ?_
      refine lv_icmp_ge (tgt := 31) hx hb d_l23_10 (by decide) (fun q => absurd q (nI_ge (a := i) (b := 5) hi5 (by decide))) (fun _ => ?_)
      refine lv_aload_n hx hb d_l23_13 rfl (lv_at hl 2 rfl) ?_
      refine lv_iload hx hb d_l23_14 (lv_at hl 0 rfl) ?_
      obtain ⟨bb, hbb⟩ : ∃ bb, jByt i = .int bb := ⟨_, rfl⟩
      refine va_tb hx hb hF.2.2.2.1 hS (vp_in_nI hi5 (by decide)) (v := .int bb) (by rw [nI_clamp (by omega)]; exact hbb) d_l23_16 ?_
      refine lv_iload hx hb d_l23_17 (lv_at hl 1 rfl) ?_
      refine lv_icmp_ne (tgt := 25) hx hb d_l23_19 (by decide) (fun q => ?_) (fun q => ?_)
      · refine lv_iinc (v := nI (i + 1)) (lv' := [(5, .int (nI (i + 1))), (4, .int kb), (0, .ref va), (3, .int 5)]) hx hb d_l23_25 hl (k := 0) rfl (nI_1 i) (by decide) rfl (fun ls hl => ?_)
        refine lv_goto (tgt := 7) hx hb d_l23_28 (by decide) ?_
        have e : j_ixB kb (n + 1) i = j_ixB kb n (i + 1) := by
          show (if jByt i = .int kb then nI i else j_ixB kb n (i + 1)) = _
          rw [if_neg]
          rw [hbb]
          intro z
          exact q (Value.int.inj z)
        rw [e]
        exact ih (i + 1) ls (by omega) hl
      · have q : bb = kb := by first | exact q | exact Classical.not_not.mp q
        have e : j_ixB kb (n + 1) i = nI i := by
          show (if jByt i = .int kb then nI i else j_ixB kb n (i + 1)) = _
          rw [if_pos (by rw [hbb, q])]
        rw [e]
        refine lv_iload hx hb d_l23_22 (lv_at hl 0 rfl) ?_
        exact W.iret hx hb hr (fun t ht _ => ⟨rfl, ht⟩) (fun q hq => by cases hq) d_l23_24
  exact key 5 0 ls rfl (lv_sub hl [0, 1, 2, 5] rfl)
theorem c_l22 (l : Launch) (off sa va : Nat) (k : Int32) : Met l y_l22 (Jvm.Cond.code y_l22 prog_22_method_22_code 4 (some .int) :: jtbl) { frames := 2, cells := 0, slots := 0, locals := 80 } (sp_Pc off sa va [.ref va, .int k, .int 0, .int 5]) (QcRead (if 0 ≤ k ∧ k ≤ 255 then j_ixB k.toInt8.toInt32 5 0 else -1)) 0 0 (fun _ => False) := by
  refine Met.ofW (cc := prog_22_method_22_code) (maxL := 4) (ret := some .int) (by decide) rfl ?_
  intro p e s m args below meth c s₁ B hml hv
  obtain ⟨rfl, hF⟩ := hv
  have hx := B.exec
  have hb := B.bytes
  have hr := B.returns
  have hlocks := B.notSynchronized
  have hts : ∀ w ∈ jtbl, w.before _ s = true := fun w hw => atoms_spec (ws := _ :: jtbl) B.pre w (List.mem_cons_of_mem _ hw)
  have hown := findClass_of_methodNamed B.named
  have hS : va_S (fun q => off < q) s.heap s.heap [] := va_S.rf
  rw [lg_entry_eq]
  have hl := lv_entry ([.ref va, .int k, .int 0, .int 5]) (n := 4) (Nat.le_of_ble_eq_true rfl)
  generalize (lg_sl ([.ref va, .int k, .int 0, .int 5]) ++ List.replicate (4 - (lg_sl ([.ref va, .int k, .int 0, .int 5])).length) Slot.unset).toArray = ls at hl ⊢
  have hl : lv_has ls 4 (lv_args 0 [.ref va, .int k, .int 0, .int 5]) := hl
  obtain ⟨cellv, v1, v2, v3, v4, v5, v6, v7⟩ := hF.2.2.2.1
  refine lv_iload_n hx hb d_l22_0 rfl (lv_at hl 1 rfl) ?_
  refine W.callR (W.runS (As := [.int k]) (rest := []) ⟨hx, hb, hml, hown, hts⟩ (c_l4 l off sa va k) (va_cwS 1 hts (jgS wc_l4 wl_StringLatin1_88 wt_l4 wS_i2) rfl rfl rfl ⟨by decide, by decide, by decide +kernel⟩ ⟨Nat.le_of_ble_eq_true rfl, Nat.le_of_ble_eq_true rfl⟩) ⟨sp_blind, sp_pre hF⟩ rfl rfl hl.1 rfl (lv_room (Nat.le_of_ble_eq_true rfl)) d_l22_1 ⟨Nat.le_of_ble_eq_true rfl, Nat.le_of_ble_eq_true rfl⟩) ?_
  by_cases hk : 0 ≤ k ∧ k ≤ 255
  · rw [if_pos hk, if_pos hk]
    refine lv_if_ne (tgt := 9) hx hb d_l22_4 (by first | decide | rfl) (fun _ => ?_) (fun q => absurd q (by decide))
    refine lv_iload_n hx hb d_l22_9 rfl (lv_at hl 2 rfl) ?_
    refine lv_iconst (v := 0) hx hb d_l22_10 rfl ?_
    refine va_mmax hx hb (by rw [hml]; exact hl.1.symm) hown (hts _ wl_mx) (hts _ w_mx2) (hts _ w_mx3) (hts _ w_mx4) (Nat.le_of_ble_eq_true rfl) (Nat.le_of_ble_eq_true rfl) (Nat.le_refl _) (Nat.le_refl _) d_l22_11 ?_
    refine lv_istore_n (lv' := [(2, .int 0), (0, .ref va), (1, .int k), (3, .int 5)]) hx hb d_l22_14 rfl hl (by decide) rfl (fun ls hl => ?_)
    refine lv_iload_n hx hb d_l22_15 rfl (lv_at hl 3 rfl) ?_
    refine lv_aload_n hx hb d_l22_16 rfl (lv_at hl 1 rfl) ?_
    refine W.alen hx hb v1 v2 v5 rfl rfl d_l22_17 ?_
    refine va_mmin hx hb (by rw [hml]; exact hl.1.symm) hown (hts _ wl_mn) (hts _ w_mn2) (hts _ w_mx3) (hts _ w_mn4) (Nat.le_of_ble_eq_true rfl) (Nat.le_of_ble_eq_true rfl) (Nat.le_refl _) (Nat.le_refl _) d_l22_18 ?_
    refine lv_istore_n (lv' := [(3, .int 5), (2, .int 0), (0, .ref va), (1, .int k)]) hx hb d_l22_21 rfl hl (by decide) rfl (fun ls hl => ?_)
    refine lv_iload_n hx hb d_l22_22 rfl (lv_at hl 1 rfl) ?_
    refine lv_iload_n hx hb d_l22_23 rfl (lv_at hl 0 rfl) ?_
    refine lv_icmp_lt (tgt := 29) hx hb d_l22_24 (by first | decide | rfl) (fun _ => ?_) (fun q => absurd (by decide) q)
    refine lv_aload_n hx hb d_l22_29 rfl (lv_at hl 2 rfl) ?_
    refine lv_iload_n hx hb d_l22_30 rfl (lv_at hl 3 rfl) ?_
    refine lv_iload_n hx hb d_l22_31 rfl (lv_at hl 1 rfl) ?_
    refine lv_iload_n hx hb d_l22_32 rfl (lv_at hl 0 rfl) ?_
    refine W.callR (W.runS (As := [.ref va, .int k, .int 0, .int 5]) (rest := []) ⟨hx, hb, hml, hown, hts⟩ (c_l23 l off sa va k) (va_cwS 4 hts (jgS wc_l23 wl_StringLatin1_95 wt_l23 wS_i2) rfl rfl rfl ⟨by decide, by decide, by decide +kernel⟩ ⟨Nat.le_of_ble_eq_true rfl, Nat.le_of_ble_eq_true rfl⟩) ⟨sp_blind, sp_pre hF⟩ rfl rfl hl.1 rfl (lv_room (Nat.le_of_ble_eq_true rfl)) d_l22_33 ⟨Nat.le_of_ble_eq_true rfl, Nat.le_of_ble_eq_true rfl⟩) ?_
    exact W.iret hx hb hr (fun t ht _ => ⟨rfl, ht⟩) (fun q hq => by cases hq) d_l22_36
  · rw [if_neg hk, if_neg hk]
    refine lv_if_ne (tgt := 9) hx hb d_l22_4 (by first | decide | rfl) (fun q => absurd rfl q) (fun _ => ?_)
    refine lv_iconst (v := -1) hx hb d_l22_7 rfl ?_
    exact W.iret hx hb hr (fun t ht _ => ⟨rfl, ht⟩) (fun q hq => by cases hq) d_l22_8
theorem c_st80 (l : Launch) (off sa va : Nat) (k : Int32) : Met l y_st80 (Jvm.Cond.code y_st80 prog_21_method_80_code 3 (some .int) :: jtbl) { frames := 3, cells := 0, slots := 0, locals := 120 } (sp_Pc off sa va [.ref sa, .int k, .int 0]) (QcRead (if 0 ≤ k ∧ k ≤ 255 then j_ixB k.toInt8.toInt32 5 0 else -1)) 0 0 (fun _ => False) := by
  refine Met.ofW (cc := prog_21_method_80_code) (maxL := 3) (ret := some .int) (by decide) rfl ?_
  intro p e s m args below meth c s₁ B hml hv
  obtain ⟨rfl, hF⟩ := hv
  have hx := B.exec
  have hb := B.bytes
  have hr := B.returns
  have hlocks := B.notSynchronized
  have hts : ∀ w ∈ jtbl, w.before _ s = true := fun w hw => atoms_spec (ws := _ :: jtbl) B.pre w (List.mem_cons_of_mem _ hw)
  have hown := findClass_of_methodNamed B.named
  have hS : va_S (fun q => off < q) s.heap s.heap [] := va_S.rf
  rw [lg_entry_eq]
  have hl := lv_entry ([.ref sa, .int k, .int 0]) (n := 3) (Nat.le_of_ble_eq_true rfl)
  generalize (lg_sl ([.ref sa, .int k, .int 0]) ++ List.replicate (3 - (lg_sl ([.ref sa, .int k, .int 0])).length) Slot.unset).toArray = ls at hl ⊢
  have hl : lv_has ls 3 (lv_args 0 [.ref sa, .int k, .int 0]) := hl
  obtain ⟨cells, s1, s2, s3, s4⟩ := hF.1
  refine lv_aload_n hx hb d_st80_0 rfl (lv_at hl 0 rfl) ?_
  refine W.callR (W.runV (b := sa) (As := []) (rest := []) ⟨hx, hb, hml, hown, hts⟩ (c_lat1 l off sa va) (cwV 0 hts (jgV wc_lat1 wl_String_492 wv_lat1 ws_lat1 wS_i1) rfl rfl rfl ⟨rfl, by decide, by decide, by decide +kernel⟩ ⟨Nat.le_of_ble_eq_true rfl, Nat.le_of_ble_eq_true rfl⟩) ⟨sp_blind, ⟨cells, s1, s2, s3⟩, sp_pre hF⟩ rfl rfl hl.1 rfl (lv_room (Nat.le_of_ble_eq_true rfl)) d_st80_1 ⟨Nat.le_of_ble_eq_true rfl, Nat.le_of_ble_eq_true rfl⟩) ?_
  refine lv_if_eq (tgt := 23) hx hb d_st80_4 (by first | decide | rfl) (fun q => absurd q (by decide)) (fun _ => ?_)
  refine lv_aload_n hx hb d_st80_7 rfl (lv_at hl 0 rfl) ?_
  refine vk_getf hx hb hF.2.2.1 hS hown (hts _ wf_S9) (fun _ h => h) d_st80_8 ?_
  refine lv_iload_n hx hb d_st80_11 rfl (lv_at hl 1 rfl) ?_
  refine lv_iload_n hx hb d_st80_12 rfl (lv_at hl 2 rfl) ?_
  refine lv_aload_n hx hb d_st80_13 rfl (lv_at hl 0 rfl) ?_
  refine W.callR (W.runV (b := sa) (As := []) (rest := [.int 0, .int k, .ref va]) ⟨hx, hb, hml, hown, hts⟩ (c_slen l off sa va) (cwV 0 hts (jgV wc_slen wl_String_505 wv_slen ws_slen wS_i1) rfl rfl rfl ⟨rfl, by decide, by decide, by decide +kernel⟩ ⟨Nat.le_of_ble_eq_true rfl, Nat.le_of_ble_eq_true rfl⟩) ⟨sp_blind, ⟨cells, s1, s2, s3⟩, sp_pre hF⟩ rfl rfl hl.1 rfl (lv_room (Nat.le_of_ble_eq_true rfl)) d_st80_14 ⟨Nat.le_of_ble_eq_true rfl, Nat.le_of_ble_eq_true rfl⟩) ?_
  refine W.callR (W.runS (As := [.ref va, .int k, .int 0, .int 5]) (rest := []) ⟨hx, hb, hml, hown, hts⟩ (c_l22 l off sa va k) (va_cwS 4 hts (jgS wc_l22 wl_String_637 wt_l22 wS_i2) rfl rfl rfl ⟨by decide, by decide, by decide +kernel⟩ ⟨Nat.le_of_ble_eq_true rfl, Nat.le_of_ble_eq_true rfl⟩) ⟨sp_blind, sp_pre hF⟩ rfl rfl hl.1 rfl (lv_room (Nat.le_of_ble_eq_true rfl)) d_st80_17 ⟨Nat.le_of_ble_eq_true rfl, Nat.le_of_ble_eq_true rfl⟩) ?_
  refine lv_goto (tgt := 36) hx hb d_st80_20 (by first | decide | rfl) ?_
  exact W.iret hx hb hr (fun t ht _ => ⟨rfl, ht⟩) (fun q hq => by cases hq) d_st80_36
theorem c_st79 (l : Launch) (off sa va : Nat) (k : Int32) : Met l y_st79 (Jvm.Cond.code y_st79 prog_21_method_79_code 2 (some .int) :: jtbl) { frames := 4, cells := 0, slots := 0, locals := 160 } (sp_Pc off sa va [.ref sa, .int k]) (QcRead (if 0 ≤ k ∧ k ≤ 255 then j_ixB k.toInt8.toInt32 5 0 else -1)) 0 0 (fun _ => False) := by
  refine Met.ofW (cc := prog_21_method_79_code) (maxL := 2) (ret := some .int) (by decide) rfl ?_
  intro p e s m args below meth c s₁ B hml hv
  obtain ⟨rfl, hF⟩ := hv
  have hx := B.exec
  have hb := B.bytes
  have hr := B.returns
  have hlocks := B.notSynchronized
  have hts : ∀ w ∈ jtbl, w.before _ s = true := fun w hw => atoms_spec (ws := _ :: jtbl) B.pre w (List.mem_cons_of_mem _ hw)
  have hown := findClass_of_methodNamed B.named
  have hS : va_S (fun q => off < q) s.heap s.heap [] := va_S.rf
  rw [lg_entry_eq]
  have hl := lv_entry ([.ref sa, .int k]) (n := 2) (Nat.le_of_ble_eq_true rfl)
  generalize (lg_sl ([.ref sa, .int k]) ++ List.replicate (2 - (lg_sl ([.ref sa, .int k])).length) Slot.unset).toArray = ls at hl ⊢
  have hl : lv_has ls 2 (lv_args 0 [.ref sa, .int k]) := hl
  obtain ⟨cells, s1, s2, s3, s4⟩ := hF.1
  refine lv_aload_n hx hb d_st79_0 rfl (lv_at hl 0 rfl) ?_
  refine lv_iload_n hx hb d_st79_1 rfl (lv_at hl 1 rfl) ?_
  refine lv_iconst (v := 0) hx hb d_st79_2 rfl ?_
  refine W.callR (W.runV (b := sa) (As := [.int k, .int 0]) (rest := []) ⟨hx, hb, hml, hown, hts⟩ (c_st80 l off sa va k) (cwV 2 hts (jgV wc_st80 wl_String_633 wv_st80 ws_st80 wS_i1) rfl rfl rfl ⟨rfl, by decide, by decide, by decide +kernel⟩ ⟨Nat.le_of_ble_eq_true rfl, Nat.le_of_ble_eq_true rfl⟩) ⟨sp_blind, ⟨cells, s1, s2, s3⟩, sp_pre hF⟩ rfl rfl hl.1 rfl (lv_room (Nat.le_of_ble_eq_true rfl)) d_st79_3 ⟨Nat.le_of_ble_eq_true rfl, Nat.le_of_ble_eq_true rfl⟩) ?_
  exact W.iret hx hb hr (fun t ht _ => ⟨rfl, ht⟩) (fun q hq => by cases hq) d_st79_6
