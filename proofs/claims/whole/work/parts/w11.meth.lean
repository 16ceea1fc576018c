/-! METHODS: a body's walk gives the contract; switches; rows copied -/
def jRet (ret : Option FieldType) (ri : Instr) (rt : Nat) : Prop := (ret = none ∧ ri = .return_ ∧ rt = 0) ∨ (ret = some .int ∧ ri = .ireturn ∧ rt = 1) ∨ (ret = some .boolean ∧ ri = .ireturn ∧ rt = 2) ∨ (ret = some .long ∧ ri = .lreturn ∧ rt = 3) ∨ (∃ ty, ret = some (.array ty) ∧ ri = .areturn ∧ rt = 4)
theorem mok {X : jX} {l : Launch} {y : MethodName} {bytes : ByteArray} {nL D Λ rt : Nat} {ret : Option FieldType} {ri : Instr} {ini : Bool} {tg : Nat → Nat} {pe : Nat} {body : jSt} (hp : plainName y.cls = true) (hr : jRet ret ri rt) (hi : ini = true → y.name = "<init>")
    (hb : ∀ C : jC, C.1 = X → C.2.1.2.1 = l → SI (y.cls, bytes, nL, D, Λ, ri, ini) C tg 0 pe body) : MOk X l y bytes nL ret D Λ (j_meth rt nL body) := by
  intro vs h r h' hf
  unfold j_meth at hf
  split at hf
  · rename_i hlen
    obtain ⟨L', hbody, hrok⟩ : ∃ L', body (j_pad vs nL, h) = some (.inr r, (L', h')) ∧ j_rok rt r = true := by
      unfold j_out at hf
      split at hf
      · rename_i v st hq
        split at hf
        · rename_i hk
          cases hf
          exact ⟨st.1, hq, hk⟩
        · cases hf
      · cases hf
    refine ⟨fun ⟨C, c1, c2⟩ => ⟨(hb C c1 c2 _ _ _ _ _ hbody).1, (hb C c1 c2 _ _ _ _ _ hbody).2.1⟩, ?_⟩
    refine Met.ofW (cc := bytes) (maxL := nL) (ret := ret) hp rfl ?_
    intro p e s m args below meth c s₁ B hml hv
    obtain ⟨rfl, hH, hK⟩ := hv
    have hts : ∀ w ∈ jtbl, w.before (vs.map (mv X.1)).toArray s = true := fun w hw => atoms_spec (ws := Jvm.Cond.code y bytes nL ret :: jtbl) B.pre w (List.mem_cons_of_mem _ hw)
    have hown : s.vm.findClass y.cls = some m.cls := findClass_of_methodNamed B.named
    have hin : ini = true → meth.name = "<init>" := fun q => by rw [(name_of_methodNamed B.named B.method).1]; exact hi q
    have hx := B.exec
    have hcb := B.bytes
    have hret := B.returns
    have hlocks := B.notSynchronized
    obtain ⟨m1, m2, K⟩ := hb (X, (p, l, e, { frames := D, cells := hN h' - hN h, slots := hS h' - hS h, locals := Λ }, s, m, (vs.map (mv X.1)).toArray, below, meth, c, MQ below (jQc X r h') (vs.map (mv X.1)).toArray s (hN h' - hN h) (hS h' - hS h) (fun q => X.1 < q)), hN h, hS h, h', r) rfl rfl _ _ _ _ _ hbody
    have hG : GOK (y.cls, bytes, nL, D, Λ, ri, ini) (X, (p, l, e, { frames := D, cells := hN h' - hN h, slots := hS h' - hS h, locals := Λ }, s, m, (vs.map (mv X.1)).toArray, below, meth, c, MQ below (jQc X r h') (vs.map (mv X.1)).toArray s (hN h' - hN h) (hS h' - hS h) (fun q => X.1 < q)), hN h, hS h, h', r) := by
      refine ⟨hx, hcb, hml, hown, hts, hK, hin, ⟨Nat.le_refl _, Nat.le_refl _, Nat.le_refl _, Nat.le_refl _⟩, ?_⟩
      intro pc ls H locs hd hH' hl _ _
      have hq : ∀ t : State, t.heap = H → s.WarmedH t.vm → jQc X r h' (vs.map (mv X.1)).toArray s (.returned (r.map (mv X.1))) t := fun t ht _ => ⟨rfl, by rw [ht]; exact hH'⟩
      rcases hr with ⟨rfl, rfl, rfl⟩ | ⟨rfl, rfl, rfl⟩ | ⟨rfl, rfl, rfl⟩ | ⟨rfl, rfl, rfl⟩ | ⟨ty, rfl, rfl, rfl⟩
      · match r, hrok, hq with
        | none, _, hq => exact W.vret hx hcb hret hq hl hd
        | some (.int x), hrok, hq => simp [j_rok] at hrok
        | some (.long x), hrok, hq => simp [j_rok] at hrok
        | some (.ref x), hrok, hq => simp [j_rok] at hrok
      · match r, hrok, hq with
        | none, hrok, hq => simp [j_rok] at hrok
        | some (.int x), hrok, hq => exact W.iret hx hcb hret hq hl hd
        | some (.long x), hrok, hq => simp [j_rok] at hrok
        | some (.ref x), hrok, hq => simp [j_rok] at hrok
      · match r, hrok, hq with
        | none, hrok, hq => simp [j_rok] at hrok
        | some (.int x), hrok, hq =>
          refine W.zret hx hcb hret ?_ hq hl hd
          simp [j_rok] at hrok
          rcases hrok with rfl | rfl <;> rfl
        | some (.long x), hrok, hq => simp [j_rok] at hrok
        | some (.ref x), hrok, hq => simp [j_rok] at hrok
      · match r, hrok, hq with
        | none, hrok, hq => simp [j_rok] at hrok
        | some (.int x), hrok, hq => simp [j_rok] at hrok
        | some (.long x), hrok, hq => exact W.lret hx hcb hret hq hl hd
        | some (.ref x), hrok, hq => simp [j_rok] at hrok
      · match r, hrok, hq with
        | none, hrok, hq => simp [j_rok] at hrok
        | some (.int x), hrok, hq => simp [j_rok] at hrok
        | some (.long x), hrok, hq => simp [j_rok] at hrok
        | some (.ref x), hrok, hq => exact W.aret hx hcb hret (Or.inr ⟨ty, rfl⟩) (Or.inr ⟨_, rfl⟩) hq hl hd
    have KW := K hG (Nat.le_refl _) (Nat.le_refl _) ⟨rfl, rfl⟩
    have KW2 := KW _ s.heap [] (jLok_entry X.1 vs hlen) hH (fun q hq => by cases hq) (Nat.le_refl _) (Nat.le_refl _)
    rw [Nat.sub_self, Nat.sub_self] at KW2
    rw [lg_entry_eq]
    exact KW2
  · cases hf
section Rules3
variable {M : jMs} {C : jC} {k pc p1 p2 p3 p4 p5 tT tF : Nat} {tg : Nat → Nat}
theorem si_fail : SI M C tg pc p1 s_fail := by
  intro L h v L' h' he
  cases he
/-- the pieces of a switch, each from its own place to the end -/
def SL (M : jMs) (C : jC) (tg : Nat → Nat) (pe : Nat) : List Nat → List jSt → Prop
  | t :: ts, s :: ss => SI M C tg t pe s ∧ SL M C tg pe ts ss
  | [], [] => True
  | _, _ => False
theorem SL.at {pe : Nat} : ∀ {ts : List Nat} {ss : List jSt} (_ : SL M C tg pe ts ss) (i : Nat) (s : jSt), ss[i]? = some s → ∃ t, ts[i]? = some t ∧ SI M C tg t pe s := by
  intro ts
  induction ts with
  | nil =>
    intro ss h i s hs
    match ss, h with
    | [], _ => simp at hs
  | cons t ts ih =>
    intro ss h i s hs
    match ss, h with
    | s0 :: ss, h =>
      match i, hs with
      | 0, hs => cases hs; exact ⟨t, rfl, h.1⟩
      | i + 1, hs => exact ih h.2 i s (by simpa using hs)
theorem SL.len {pe : Nat} : ∀ {ts : List Nat} {ss : List jSt} (_ : SL M C tg pe ts ss), ts.length = ss.length := by
  intro ts
  induction ts with
  | nil =>
    intro ss h
    match ss, h with
    | [], _ => rfl
  | cons t ts ih =>
    intro ss h
    match ss, h with
    | s0 :: ss, h => simp [ih h.2]
theorem si_tsw {e : jE} {lo hi dflt : Int} {offs : Array Int} {len td pe : Nat} {ts : List Nat} {ss : List jSt} {d : jSt} (he0 : EI M C 0 pc p1 e) (hd : decode M.2.1 p1 = .ok (.tableswitch dflt lo hi offs, len)) (hoff : offs.toList.map (fun o => (p1 : Int) + o) = ts.map (fun t : Nat => (t : Int))) (hlen : hi = lo + (ts.length : Int) - 1) (hdf : (p1 : Int) + dflt = (td : Int)) (hs : SL M C tg pe ts ss) (hdd : SI M C tg td pe d) : SI M C tg pc pe (s_sw e (s_tsw lo ss d)) := by
  intro L h v L' h' he
  simp only [s_sw] at he
  obtain ⟨u, ⟨L1, h1⟩, e1, he⟩ := jb_eq he
  obtain ⟨m1, m2, K1⟩ := he0 _ _ _ _ _ e1
  cases u <;> simp only [reduceCtorEq] at he
  rename_i x
  have hl := hs.len
  by_cases hx : x.toInt < lo
  · simp only [s_tsw, hx, if_true] at he
    obtain ⟨n1, n2, K2⟩ := hdd _ _ _ _ _ he
    exact ⟨by omega, by omega, fun hG c1 c2 K => K1 hG [] (Nat.le_refl _) (by omega) (by omega) (ww_tblout hG hd (Or.inl hx) hdf (K2 hG c1 c2 K))⟩
  · simp only [s_tsw, hx, if_false] at he
    cases hss : ss[(x.toInt - lo).toNat]? with
    | none =>
      rw [hss] at he
      simp only [Option.getD_none] at he
      obtain ⟨n1, n2, K2⟩ := hdd _ _ _ _ _ he
      have hout : hi < x.toInt := by
        have := List.getElem?_eq_none_iff.mp hss
        omega
      exact ⟨by omega, by omega, fun hG c1 c2 K => K1 hG [] (Nat.le_refl _) (by omega) (by omega) (ww_tblout hG hd (Or.inr hout) hdf (K2 hG c1 c2 K))⟩
    | some s =>
      rw [hss] at he
      simp only [Option.getD_some] at he
      obtain ⟨t, ht, hst⟩ := hs.at _ _ hss
      obtain ⟨n1, n2, K2⟩ := hst _ _ _ _ _ he
      have hin : ¬ hi < x.toInt := by
        have := (List.getElem?_eq_some_iff.mp ht).1
        omega
      have ho : ∃ o, offs[(x.toInt - lo).toNat]? = some o ∧ (p1 : Int) + o = (t : Int) := by
        have h2 : (offs.toList.map (fun o => (p1 : Int) + o))[(x.toInt - lo).toNat]? = some (t : Int) := by rw [hoff]; simp [ht]
        rw [List.getElem?_map] at h2
        obtain ⟨o, g1, g2⟩ := Option.map_eq_some_iff.mp h2
        exact ⟨o, by rw [← Array.getElem?_toList]; exact g1, g2⟩
      obtain ⟨o, g1, g2⟩ := ho
      exact ⟨by omega, by omega, fun hG c1 c2 K => K1 hG [] (Nat.le_refl _) (by omega) (by omega) (ww_tblin hG hd hx hin g1 g2 (K2 hG c1 c2 K))⟩
def SLL (M : jMs) (C : jC) (tg : Nat → Nat) (pe p1 : Nat) : List (Int × Int) → List (Int × jSt) → Prop
  | (k, o) :: ts, (k', s) :: ss => k = k' ∧ (∃ t : Nat, (p1 : Int) + o = (t : Int) ∧ SI M C tg t pe s) ∧ SLL M C tg pe p1 ts ss
  | [], [] => True
  | _, _ => False
theorem si_lsw {e : jE} {dflt : Int} {ps : Array (Int × Int)} {len td pe : Nat} {ss : List (Int × jSt)} {d : jSt} (he0 : EI M C 0 pc p1 e) (hd : decode M.2.1 p1 = .ok (.lookupswitch dflt ps, len)) (hp : (ps.toList.zip (ps.toList.drop 1)).all (fun (a, next) => a.1 < next.1) = true) (hdf : (p1 : Int) + dflt = (td : Int)) (hs : SLL M C tg pe p1 ps.toList ss) (hdd : SI M C tg td pe d) : SI M C tg pc pe (s_sw e (s_lsw ss d)) := by
  intro L h v L' h' he
  simp only [s_sw] at he
  obtain ⟨u, ⟨L1, h1⟩, e1, he⟩ := jb_eq he
  obtain ⟨m1, m2, K1⟩ := he0 _ _ _ _ _ e1
  cases u <;> simp only [reduceCtorEq] at he
  rename_i x
  have key : ∀ (ts : List (Int × Int)) (ss : List (Int × jSt)), SLL M C tg pe p1 ts ss → s_lsw ss d x (L1, h1) = some (v, (L', h')) → ∃ t : Nat, (p1 : Int) + Op.lookupswitch.offset ts dflt x.toInt = (t : Int) ∧ ∃ s, SI M C tg t pe s ∧ s (L1, h1) = some (v, (L', h')) := by
    intro ts
    induction ts with
    | nil =>
      intro ss hs he
      match ss, hs with
      | [], _ => exact ⟨td, by rw [← hdf]; rfl, d, hdd, he⟩
    | cons q ts ih =>
      intro ss hs he
      match q, ss, hs with
      | (k0, o), (k', s) :: ss, hs =>
        obtain ⟨rfl, ⟨t, ht, hst⟩, hs⟩ := hs
        simp only [s_lsw] at he
        by_cases hk : x.toInt = k0
        · rw [if_pos hk] at he
          exact ⟨t, by rw [Op.lookupswitch.offset_cons, if_pos (by first | exact hk | exact hk.symm)]; exact ht, s, hst, he⟩
        · rw [if_neg hk] at he
          obtain ⟨t2, g1, g2⟩ := ih ss hs he
          exact ⟨t2, by rw [Op.lookupswitch.offset_cons, if_neg (by first | exact hk | exact fun q => hk q.symm)]; exact g1, g2⟩
  obtain ⟨t, g1, s, g2, g3⟩ := key _ _ hs he
  obtain ⟨n1, n2, K2⟩ := g2 _ _ _ _ _ g3
  exact ⟨by omega, by omega, fun hG c1 c2 K => K1 hG [] (Nat.le_refl _) (by omega) (by omega) (ww_lookup hG hd hp rfl g1 (K2 hG c1 c2 K))⟩
end Rules3
