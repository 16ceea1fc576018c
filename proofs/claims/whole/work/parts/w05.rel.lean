/-! THE CLEAN HEAP AND THE MACHINE'S -/
def mv (off : Nat) : Value → Value
  | .ref a => .ref (off + a)
  | .retAddr a => .ref a
  | v => v
theorem mv_cat (off : Nat) (v : Value) : (mv off v).category = v.category := by cases v <;> rfl
theorem mv_null {off : Nat} {v : Value} (h : v ≠ .null) : mv off v ≠ .null := by cases v <;> simp_all [mv]
/-- where the clean addresses begin, the heap at the start, the classes' numbers and slots, the array classes' numbers by kind -/
abbrev jX : Type := Nat × Heap × va_G × (Nat → ClassId)
def jtys (X : jX) : List (ClassId × FieldType) := [(X.2.2.2 1, .int), (X.2.2.2 2, .byte), (X.2.2.2 3, .boolean), (X.2.2.2 4, .char), (X.2.2.2 5, .long), (X.2.2.2 6, .object "SealedBonds$Desk")]
/-- the text "pytkn", its bytes -/
def jStrF (off sa va : Nat) (U : State) (H : Heap) : Prop := va_O "java/lang/String" sa (fun q => off < q) U H ∧ va_OF "java/lang/String" "coder" "B" (.int 0) sa (fun q => off < q) U H ∧ va_OF "java/lang/String" "value" "[B" (.ref va) sa (fun q => off < q) U H ∧ va_T .byte va 5 jByt (fun q => off < q) U H ∧ va_Z "java/lang/String" "COMPACT_STRINGS" "Z" (.int 1) (fun q => off < q) U H
theorem jStrF.moved {off sa va : Nat} {u U : State} {H : Heap} (hvm : u.vm.Alike U.vm) (h : jStrF off sa va u H) : jStrF off sa va U H := ⟨h.1.moved hvm, h.2.1.moved hvm, h.2.2.1.moved hvm, h.2.2.2.1.moved hvm, h.2.2.2.2.moved hvm⟩
theorem jStrF.kept {off sa va : Nat} {U : State} {H H1 : Heap} (h : jStrF off sa va U H) (hq : ∀ a : Nat, a < H.size → ¬ off < a → H1[a]? = H[a]?) : jStrF off sa va U H1 := ⟨h.1.kept hq, h.2.1.kept hq, h.2.2.1.kept hq, h.2.2.2.1.kept hq, h.2.2.2.2.kept hq⟩
def jStr (X : jX) (own : String) (k : Nat) (U : State) : Prop := ∃ sa va : Nat, vk_R own k "pytkn" sa U ∧ jStrF X.1 sa va U X.2.1
theorem jStr.warm {X : jX} {own : String} {k : Nat} {s U : State} (h : jStr X own k s) (hW : s.WarmedH U.vm) : jStr X own k U := by
  obtain ⟨sa, va, h1, h2⟩ := h
  exact ⟨sa, va, h1.warm hW, h2.moved hW.alike⟩
theorem jStr.same {X : jX} {own : String} {k : Nat} {s U : State} (h : jStr X own k s) (hv : s.vm = U.vm) : jStr X own k U := by
  obtain ⟨sa, va, h1, h2⟩ := h
  exact ⟨sa, va, h1.same hv.symm, h2.moved (by rw [hv]; exact Vm.Alike.refl _)⟩
def jK (X : jX) (U : State) : Prop := va_K X.2.2.1 kcl (jtys X) U ∧ (∀ w ∈ jnest, va_Nw w U) ∧ va_AO "SealedBonds$Desk" U ∧ jStr X "SealedBonds$Text" 80 U ∧ jStr X "SealedBondsModel" 217 U
theorem jK.warm {X : jX} {s U : State} (h : jK X s) (hW : s.WarmedH U.vm) : jK X U := by
  refine ⟨va_K.moved hW.alike h.1, fun w hw => ?_, va_AO.moved hW.alike h.2.2.1, h.2.2.2.1.warm hW, h.2.2.2.2.warm hW⟩
  obtain ⟨a, i, y, q, rfl⟩ := jnest_ok w hw
  exact va_Nw.warmM hW (h.2.1 _ hw)
theorem jK.same {X : jX} {s U : State} (h : jK X s) (hv : s.vm = U.vm) : jK X U := by
  refine ⟨va_K.moved (by rw [hv]; exact Vm.Alike.refl _) h.1, fun w hw => ?_, va_AO.moved (by rw [hv]; exact Vm.Alike.refl _) h.2.2.1, h.2.2.2.1.same hv, h.2.2.2.2.same hv⟩
  obtain ⟨a, i, y, q, rfl⟩ := jnest_ok w hw
  exact va_Nw.same rfl hv (h.2.1 _ hw)
def jrf (off r : Nat) : Value := if r = 0 then .null else .ref (off + r)
def j_isref : FieldType → Bool
  | .object _ => true
  | .array _ => true
  | _ => false
def jfv (X : jX) (h : jHp) (ci a k : Nat) : Value := if j_isref (kty ci k) then jrf X.1 (hR h a k) else .int (hI h a k)
def jel (X : jX) (h : jHp) (kind a j : Nat) : Value := if kind = 5 then .long (hJ h a j) else if kind = 6 then jrf X.1 (hR h a j) else .int (hI h a j)
def jcell (X : jX) (h : jHp) (H : Heap) (a : Nat) : Prop :=
  ((hT h a).1 < 7 ∧ H[X.1 + a]? = some (arrV (X.2.2.2 (hT h a).1) (hT h a).2 (jel X h (hT h a).1 a))) ∨
  ∃ ci, (hT h a).1 = 10 + ci ∧ ci < 13 ∧ t_OB (X.1 + a) (X.2.2.1.1 ci) (kc ci).2.2 (X.2.2.1.2 ci) H (jfv X h ci a)
def HRel (X : jX) (h : jHp) (H : Heap) : Prop := H.size = X.1 + hN h ∧ 0 < hN h ∧ (∀ q, q ≤ X.1 → H[q]? = X.2.1[q]?) ∧ ∀ a, (hT h a).1 ≠ 0 → 0 < a ∧ a < hN h ∧ jcell X h H a
theorem HRel.arr {X : jX} {h : jHp} {H : Heap} (r : HRel X h H) {a kind : Nat} (ht : (hT h a).1 = kind) (h0 : kind ≠ 0) (h7 : kind < 7) : H[X.1 + a]? = some (arrV (X.2.2.2 kind) (hT h a).2 (jel X h kind a)) := by
  subst ht
  rcases (r.2.2.2 a h0).2.2 with ⟨-, q⟩ | ⟨ci, q, -⟩
  · exact q
  · omega
theorem HRel.obj {X : jX} {h : jHp} {H : Heap} (r : HRel X h H) {a ci : Nat} (ht : (hT h a).1 = 10 + ci) : ci < 13 ∧ t_OB (X.1 + a) (X.2.2.1.1 ci) (kc ci).2.2 (X.2.2.1.2 ci) H (jfv X h ci a) := by
  rcases (r.2.2.2 a (by omega)).2.2 with ⟨q, -⟩ | ⟨cj, q1, q2, q3⟩
  · omega
  · have e : cj = ci := by omega
    subst e
    exact ⟨q2, q3⟩
theorem jcell.to {X : jX} {h h' : jHp} {H H' : Heap} {a : Nat} (c : jcell X h H a) (e0 : hT h' a = hT h a) (e1 : ∀ i, hI h' a i = hI h a i) (e2 : ∀ i, hJ h' a i = hJ h a i) (e3 : ∀ i, hR h' a i = hR h a i) (eH : H'[X.1 + a]? = H[X.1 + a]?) : jcell X h' H' a := by
  have ee : ∀ k, jel X h' k a = jel X h k a := fun k => funext fun j => by simp only [jel, e1, e2, e3]
  have ef : ∀ ci, jfv X h' ci a = jfv X h ci a := fun ci => funext fun j => by simp only [jfv, e1, e3]
  unfold jcell at c ⊢
  rw [e0]
  rcases c with ⟨q1, q2⟩ | ⟨ci, q1, q2, q3⟩
  · left
    refine ⟨q1, ?_⟩
    rw [eH, q2, ee]
  · right
    refine ⟨ci, q1, q2, ?_⟩
    rw [ef]
    exact q3.kept eH
theorem HRel.upd {X : jX} {h h' : jHp} {H H1 : Heap} (r : HRel X h H) (a : Nat) (eT : hT h' = hT h) (eN : hN h' = hN h) (e1 : ∀ b, b ≠ a → ∀ i, hI h' b i = hI h b i) (e2 : ∀ b, b ≠ a → ∀ i, hJ h' b i = hJ h b i) (e3 : ∀ b, b ≠ a → ∀ i, hR h' b i = hR h b i)
    (hz : H1.size = H.size) (ho : ∀ q, q ≠ X.1 + a → H1[q]? = H[q]?) (ha : 0 < a) (hc : jcell X h' H1 a) : HRel X h' H1 := by
  obtain ⟨r1, r2, r3, r4⟩ := r
  refine ⟨by rw [hz, r1, eN], by rw [eN]; exact r2, fun q hq => by rw [ho q (by omega)]; exact r3 q hq, fun b hb => ?_⟩
  rw [eT] at hb
  obtain ⟨q1, q2, q3⟩ := r4 b hb
  refine ⟨q1, by rw [eN]; exact q2, ?_⟩
  by_cases e : b = a
  · subst e; exact hc
  · exact q3.to (by rw [eT]) (e1 b e) (e2 b e) (e3 b e) (ho _ (by omega))
theorem j_up_ne {α : Type} {f : Nat → Nat → α} {a i b j : Nat} {v : α} (h : b ≠ a) : j_up f a i v b j = f b j := by simp [j_up, h]
theorem HRel.setI {X : jX} {h : jHp} {H H1 : Heap} (r : HRel X h H) {a kind i : Nat} {x : Int32} (ht : (hT h a).1 = kind) (h0 : kind ≠ 0) (h5 : kind < 5)
    (hc : H1[X.1 + a]? = some ((arrV (X.2.2.2 kind) (hT h a).2 (jel X h kind a)).setSlot i (.int x))) (hz : H1.size = H.size) (ho : ∀ q, q ≠ X.1 + a → H1[q]? = H[q]?) : HRel X (hSetI h a i x) H1 := by
  refine r.upd a rfl rfl (fun b hb j => j_up_ne hb) (fun _ _ _ => rfl) (fun _ _ _ => rfl) hz ho (r.2.2.2 a (by omega)).1 ?_
  left
  have et : hT (hSetI h a i x) a = hT h a := rfl
  refine ⟨by rw [et]; omega, ?_⟩
  rw [hc, arrV_store, et, ht]
  congr 2
  funext j
  have h5' : kind ≠ 5 := by omega
  have h6' : kind ≠ 6 := by omega
  simp only [updV, jel, h5', h6', if_false, hSetI, hI, j_up, true_and]
  split <;> rfl
theorem HRel.setJ {X : jX} {h : jHp} {H H1 : Heap} (r : HRel X h H) {a i : Nat} {x : Int64} (ht : (hT h a).1 = 5)
    (hc : H1[X.1 + a]? = some ((arrV (X.2.2.2 5) (hT h a).2 (jel X h 5 a)).setSlot i (.long x))) (hz : H1.size = H.size) (ho : ∀ q, q ≠ X.1 + a → H1[q]? = H[q]?) : HRel X (hSetJ h a i x) H1 := by
  refine r.upd a rfl rfl (fun _ _ _ => rfl) (fun b hb j => j_up_ne hb) (fun _ _ _ => rfl) hz ho (r.2.2.2 a (by omega)).1 ?_
  left
  have et : hT (hSetJ h a i x) a = hT h a := rfl
  refine ⟨by rw [et]; omega, ?_⟩
  rw [hc, arrV_store, et, ht]
  congr 2
  funext j
  simp only [updV, jel, if_true, hSetJ, hJ, j_up, true_and]
  split <;> rfl
theorem HRel.setR {X : jX} {h : jHp} {H H1 : Heap} (r : HRel X h H) {a i x : Nat} (ht : (hT h a).1 = 6) (hx : x ≠ 0)
    (hc : H1[X.1 + a]? = some ((arrV (X.2.2.2 6) (hT h a).2 (jel X h 6 a)).setSlot i (.ref (X.1 + x)))) (hz : H1.size = H.size) (ho : ∀ q, q ≠ X.1 + a → H1[q]? = H[q]?) : HRel X (hSetR h a i x) H1 := by
  refine r.upd a rfl rfl (fun _ _ _ => rfl) (fun _ _ _ => rfl) (fun b hb j => j_up_ne hb) hz ho (r.2.2.2 a (by omega)).1 ?_
  left
  have et : hT (hSetR h a i x) a = hT h a := rfl
  refine ⟨by rw [et]; omega, ?_⟩
  rw [hc, arrV_store, et, ht]
  congr 2
  funext j
  simp only [updV, jel, hSetR, hR, j_up, true_and]
  by_cases e : j = i
  · simp [e, jrf, hx]
  · simp [e]
/-- an object's field is written -/
theorem HRel.putI {X : jX} {h : jHp} {H H1 : Heap} (r : HRel X h H) {a ci k : Nat} {x : Int32} (ht : (hT h a).1 = 10 + ci) (hk : j_isref (kty ci k) = false)
    (hc : t_OB (X.1 + a) (X.2.2.1.1 ci) (kc ci).2.2 (X.2.2.1.2 ci) H1 (updV (jfv X h ci a) k (.int x))) (hz : H1.size = H.size) (ho : ∀ q, q ≠ X.1 + a → H1[q]? = H[q]?) : HRel X (hSetI h a k x) H1 := by
  refine r.upd a rfl rfl (fun b hb j => j_up_ne hb) (fun _ _ _ => rfl) (fun _ _ _ => rfl) hz ho (r.2.2.2 a (by omega)).1 ?_
  right
  refine ⟨ci, ht, (r.obj ht).1, hc.to fun j _ => ?_⟩
  simp only [updV, jfv, hSetI, hI, hR, j_up, true_and]
  by_cases e : j = k
  · subst e; simp [hk]
  · simp [e]
theorem HRel.putR {X : jX} {h : jHp} {H H1 : Heap} (r : HRel X h H) {a ci k x : Nat} (ht : (hT h a).1 = 10 + ci) (hk : j_isref (kty ci k) = true) (hx : x ≠ 0)
    (hc : t_OB (X.1 + a) (X.2.2.1.1 ci) (kc ci).2.2 (X.2.2.1.2 ci) H1 (updV (jfv X h ci a) k (.ref (X.1 + x)))) (hz : H1.size = H.size) (ho : ∀ q, q ≠ X.1 + a → H1[q]? = H[q]?) : HRel X (hSetR h a k x) H1 := by
  refine r.upd a rfl rfl (fun _ _ _ => rfl) (fun _ _ _ => rfl) (fun b hb j => j_up_ne hb) hz ho (r.2.2.2 a (by omega)).1 ?_
  right
  refine ⟨ci, ht, (r.obj ht).1, hc.to fun j _ => ?_⟩
  simp only [updV, jfv, hSetR, hI, hR, j_up, true_and]
  by_cases e : j = k
  · subst e; simp [hk, jrf, hx]
  · simp [e]
theorem HRel.new {X : jX} {h : jHp} {H H1 : Heap} (r : HRel X h H) {kind len : Nat} (hz : H1.size = H.size + 1) (ho : ∀ q, q < H.size → H1[q]? = H[q]?) (hc : jcell X (hNew h kind len) H1 (hN h)) : HRel X (hNew h kind len) H1 := by
  obtain ⟨r1, r2, r3, r4⟩ := r
  have eN : hN (hNew h kind len) = hN h + 1 := rfl
  refine ⟨by rw [hz, r1, eN]; omega, by rw [eN]; omega, fun q hq => by rw [ho q (by omega)]; exact r3 q hq, fun b hb => ?_⟩
  by_cases e : b = hN h
  · subst e
    exact ⟨r2, by rw [eN]; omega, hc⟩
  · have et : hT (hNew h kind len) b = hT h b := by simp [hNew, hT, e]
    rw [et] at hb
    obtain ⟨q1, q2, q3⟩ := r4 b hb
    refine ⟨q1, by rw [eN]; omega, ?_⟩
    exact q3.to et (fun i => by simp [hNew, hI, e]) (fun i => by simp [hNew, hJ, e]) (fun i => by simp [hNew, hR, e]) (ho _ (by omega))
-- the locals
def jLok (off : Nat) (ls : Array Slot) (nL : Nat) (L : List Value) : Prop := ls.size = nL ∧ lv_wf ls ∧ ∀ (i : Nat) (v : Value), L[i]? = some v → v ≠ Value.null → ls[i]? = some (Slot.val (mv off v))
def jlp (off : Nat) (L : List Value) : List (Nat × Value) := L.zipIdx.filterMap fun q => if q.1 = .null then none else some (q.2, mv off q.1)
theorem jlp_mem {off : Nat} {L : List Value} {i : Nat} {v : Value} (h : L[i]? = some v) (hv : v ≠ .null) : (i, mv off v) ∈ jlp off L :=
  List.mem_filterMap.mpr ⟨(v, i), List.mem_zipIdx_iff_getElem?.mpr h, by simp [hv]⟩
theorem jLok.has {off nL : Nat} {ls : Array Slot} {L : List Value} (h : jLok off ls nL L) : lv_has ls nL (jlp off L) := by
  refine ⟨h.1, h.2.1, fun q hq => ?_⟩
  obtain ⟨⟨v, i⟩, h1, h2⟩ := List.mem_filterMap.mp hq
  by_cases hv : v = .null
  · simp [hv] at h2
  · simp only [hv, if_false, Option.some.injEq] at h2
    subst h2
    exact h.2.2 i v (List.mem_zipIdx_iff_getElem?.mp h1) hv
theorem j_kill_at {L : List Value} {i j : Nat} {w : Value} (h : (j_kill L i)[j]? = some w) (hw : w ≠ .null) : L[j]? = some w ∧ ¬ (j + 1 = i ∧ w.category = 2) := by
  match i, h with
  | 0, h => exact ⟨h, by omega⟩
  | i + 1, h =>
    simp only [j_kill] at h
    cases hL : L[i]? with
    | none =>
      rw [hL] at h
      simp only at h
      refine ⟨h, fun q => ?_⟩
      have e : j = i := by omega
      subst e
      rw [hL] at h
      cases h
    | some v =>
      rw [hL] at h
      simp only at h
      by_cases hc : v.category = 2
      · rw [if_pos hc, List.getElem?_set] at h
        by_cases e : i = j
        · simp only [e, if_true] at h
          split at h
          · exact absurd (Option.some.inj h).symm hw
          · cases h
        · rw [if_neg e] at h
          exact ⟨h, fun q => e (by omega)⟩
      · rw [if_neg hc] at h
        refine ⟨h, fun q => ?_⟩
        have e : j = i := by omega
        subst e
        rw [hL] at h
        exact hc (by rw [Option.some.inj h]; exact q.2)
theorem j_has1 {off nL i : Nat} {ls : Array Slot} {L : List Value} {x : Value} (hx : x.category = 1) (h : lv_has ls nL ((i, mv off x) :: (jlp off L).filter (fun q => !(q.1 == i) && !(q.1 + 1 == i && q.2.category == 2)))) : jLok off ls nL (j_lset L i x) := by
  refine ⟨h.1, h.2.1, fun j w hj hw => ?_⟩
  have e : j_lset L i x = (j_kill L i).set i x := by
    cases x <;> first | rfl | (exfalso; simp [Value.category] at hx)
  rw [e, List.getElem?_set] at hj
  by_cases hij : i = j
  · subst hij
    simp only [if_true] at hj
    split at hj
    · cases hj
      exact h.2.2 (i, mv off x) List.mem_cons_self
    · cases hj
  · rw [if_neg hij] at hj
    obtain ⟨h1, h2⟩ := j_kill_at hj hw
    refine h.2.2 (j, mv off w) (List.mem_cons_of_mem _ (List.mem_filter.mpr ⟨jlp_mem h1 hw, ?_⟩))
    simp only [mv_cat, Bool.and_eq_true, Bool.not_eq_true', beq_eq_false_iff_ne, ne_eq, Bool.and_eq_false_imp, beq_iff_eq]
    exact ⟨fun q => hij q.symm, fun q1 q2 => h2 ⟨q1, q2⟩⟩
theorem j_has2 {off nL i : Nat} {ls : Array Slot} {L : List Value} {x : Int64} (h : lv_has ls nL ((i, .long x) :: (jlp off L).filter (fun q => !(q.1 == i) && (!(q.1 == i + 1) && !(q.1 + 1 == i && q.2.category == 2))))) : jLok off ls nL (j_lset L i (.long x)) := by
  refine ⟨h.1, h.2.1, fun j w hj hw => ?_⟩
  have e : j_lset L i (.long x) = ((j_kill L i).set i (.long x)).set (i + 1) .null := rfl
  rw [e, List.getElem?_set] at hj
  by_cases h1 : i + 1 = j
  · rw [if_pos h1] at hj
    split at hj
    · exact absurd (Option.some.inj hj).symm hw
    · cases hj
  · rw [if_neg h1, List.getElem?_set] at hj
    by_cases hij : i = j
    · subst hij
      simp only [if_true] at hj
      split at hj
      · cases hj
        exact h.2.2 (i, .long x) List.mem_cons_self
      · cases hj
    · rw [if_neg hij] at hj
      obtain ⟨g1, g2⟩ := j_kill_at hj hw
      refine h.2.2 (j, mv off w) (List.mem_cons_of_mem _ (List.mem_filter.mpr ⟨jlp_mem g1 hw, ?_⟩))
      simp only [mv_cat, Bool.and_eq_true, Bool.not_eq_true', beq_eq_false_iff_ne, ne_eq, Bool.and_eq_false_imp, beq_iff_eq]
      exact ⟨fun q => hij q.symm, fun q => h1 q.symm, fun q1 q2 => g2 ⟨q1, q2⟩⟩
theorem jlp_idx {off : Nat} {L : List Value} {i : Nat} {v : Value} (h : L[i]? = some v) (hv : v ≠ .null) : ∃ k : Nat, (jlp off L)[k]? = some (i, mv off v) := by
  obtain ⟨k, hk, e⟩ := List.mem_iff_getElem.mp (jlp_mem (off := off) h hv)
  exact ⟨k, by rw [List.getElem?_eq_getElem hk, e]⟩
theorem j_pad_at : ∀ (vs : List Value) (n k : Nat), (lg_sl vs).length ≤ n → ∀ (i : Nat) (v : Value), (j_pad vs n)[i]? = some v → v ≠ .null → (k + i, v) ∈ lv_args k vs := by
  intro vs
  induction vs with
  | nil =>
    intro n k hn i v h hv
    simp only [j_pad] at h
    rw [List.getElem?_replicate] at h
    split at h
    · exact absurd (Option.some.inj h).symm hv
    · cases h
  | cons w vs ih =>
    intro n k hn i v h hv
    simp only [j_pad] at h
    simp only [lv_args]
    by_cases hc : w.category = 2
    · rw [if_pos hc] at h ⊢
      match i, h with
      | 0, h => cases h; exact List.mem_cons_self
      | 1, h => exact absurd (Option.some.inj h).symm hv
      | i + 2, h =>
        have := ih (n - 2) (k + 2) (by simp [lg_sl, hc] at hn ⊢; omega) i v (by simpa using h) hv
        rw [show k + (i + 2) = k + 2 + i by omega]
        exact List.mem_cons_of_mem _ this
    · rw [if_neg hc] at h ⊢
      match i, h with
      | 0, h => cases h; exact List.mem_cons_self
      | i + 1, h =>
        have := ih (n - 1) (k + 1) (by simp [lg_sl, hc] at hn ⊢; omega) i v (by simpa using h) hv
        rw [show k + (i + 1) = k + 1 + i by omega]
        exact List.mem_cons_of_mem _ this
theorem lg_sl_mv (off : Nat) : ∀ vs : List Value, (lg_sl (vs.map (mv off))).length = (lg_sl vs).length := by
  intro vs
  induction vs with
  | nil => rfl
  | cons v vs ih =>
    simp only [lg_sl, List.map_cons, List.flatMap_cons, List.length_append, mv_cat] at ih ⊢
    rw [ih]
    split <;> rfl
theorem lv_args_mv (off : Nat) : ∀ (vs : List Value) (k i : Nat) (v : Value), (i, v) ∈ lv_args k vs → (i, mv off v) ∈ lv_args k (vs.map (mv off)) := by
  intro vs
  induction vs with
  | nil => intro k i v h; cases h
  | cons w vs ih =>
    intro k i v h
    simp only [lv_args, List.map_cons, mv_cat] at h ⊢
    rcases List.mem_cons.mp h with h | h
    · cases h; exact List.mem_cons_self
    · exact List.mem_cons_of_mem _ (ih _ _ _ h)
theorem jLok_entry (off : Nat) (vs : List Value) {n : Nat} (h : (lg_sl vs).length ≤ n) : jLok off ((lg_sl (vs.map (mv off)) ++ List.replicate (n - (lg_sl (vs.map (mv off))).length) Slot.unset).toArray) n (j_pad vs n) := by
  have h' := lv_entry (vs.map (mv off)) (n := n) (by rw [lg_sl_mv]; exact h)
  refine ⟨h'.1, h'.2.1, fun i v hi hv => ?_⟩
  have := j_pad_at vs n 0 h i v hi hv
  rw [Nat.zero_add] at this
  exact h'.2.2 _ (lv_args_mv off vs 0 i v this)
