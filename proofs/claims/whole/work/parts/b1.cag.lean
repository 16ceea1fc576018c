/-! when the tables of a Desk stay as they are -/
theorem cg_idx {A B : AS} {f : Nat} (g : TkAg A B f) {b : Nat} (hb : b < aNb A) : sIdx B b = sIdx A b := by
  unfold sIdx
  refine cntN_congr fun c hc => ?_
  rw [(g.2.2.1 c (by omega)).2.1, (g.2.2.1 b hb).2.1]
theorem cg_slot {A B : AS} {f : Nat} (g : TkAg A B f) {b : Nat} (hb : b < aNb A) : sSlot B b = sSlot A b := by
  unfold sSlot
  rw [cg_idx g hb, (g.2.2.1 b hb).2.1]
theorem cntN_ext {p : Nat → Bool} {n m : Nat} (h : n ≤ m) (hp : ∀ i, n ≤ i → i < m → p i = false) : cntN p m = cntN p n := by
  induction m with
  | zero =>
    have : n = 0 := by omega
    rw [this]
  | succ m ih =>
    by_cases e : n = m + 1
    · rw [e]
    · have e2 : cntN p (m + 1) = if p m then cntN p m + 1 else cntN p m := rfl
      rw [e2, hp m (by omega) (by omega), if_neg (by decide)]
      exact ih (by omega) fun i h1 h2 => hp i h1 (by omega)
theorem cg_n {A B : AS} {f : Nat} (g : TkAg A B f) : nOf B f = nOf A f := by
  unfold nOf
  rw [cntN_ext g.1 (fun i h1 h2 => by simpa using g.2.2.2.1 i h1 h2)]
  exact cntN_congr fun b hb => by rw [(g.2.2.1 b hb).2.1]
theorem cg_bAt {A B : AS} {f : Nat} (w : WF A) (wB : WF B) (g : TkAg A B f) {i : Nat} (hi : i < nOf A f) : bAt B f i = bAt A f i := by
  obtain ⟨b1, b2, b3⟩ := bAt_ok w hi
  obtain ⟨c1, c2, c3⟩ := bAt_ok wB (f := f) (i := i) (by rw [cg_n g]; exact hi)
  have hc : bAt B f i < aNb A := by
    cases Nat.lt_or_ge (bAt B f i) (aNb A) with
    | inl q => exact q
    | inr q => exact absurd c2 (g.2.2.2.1 _ q c1)
  refine sSlot_inj w hc b1 ?_
  unfold sSlot
  rw [← cg_idx g hc, c3, ← (g.2.2.1 _ hc).2.1, c2, b2, b3]
theorem cg_plc {A B : AS} {f : Nat} (w : WF A) (wB : WF B) (g : TkAg A B f) {i : Nat} (hi : i < nOf A f) : plc B f i = plc A f i := by
  unfold plc
  rw [ag_ord w g, cg_bAt w wB g hi]
theorem nfo_cg {σ : Type} {f g : Nat → σ → σ} : ∀ n, (∀ i s, i < n → f i s = g i s) → ∀ s, nfo f n s = nfo g n s := by
  intro n
  induction n with
  | zero => intro _ s; rfl
  | succ n ih =>
    intro h s
    simp only [nfo]
    rw [ih (fun i s hi => h i s (by omega)) s, h n _ (by omega)]
theorem cg_wgt {A B : AS} {f : Nat} (w : WF A) (wB : WF B) (g : TkAg A B f) (P : Nat) : wgt B f P = wgt A f P := by
  unfold wgt
  rw [cg_n g]
  exact nfo_cg _ (fun i s hi => by rw [cg_plc w wB g hi]) 0
theorem cg_lv {A B : AS} {f : Nat} (g : TkAg A B f) (l : Nat) : lv B f l = lv A f l := by
  unfold lv chD
  rw [g.2.2.2.2.2]
theorem cg_aLv {A B : AS} {f : Nat} (g : TkAg A B f) (l : Nat) : TkAg (aLv A f l) (aLv B f l) f := by
  obtain ⟨a1, a2, a3, a4, a5, a7⟩ := aMore_id A f (lv A f l)
  obtain ⟨b1, b2, b3, b4, b5, b7⟩ := aMore_id B f (lv A f l)
  unfold aLv
  rw [cg_lv g]
  unfold TkAg aNb aNp aPe aOf aPa aYe aTo aKd
  rw [a1, a3, b1, b3, aMore_ch, aMore_ch, if_pos rfl, if_pos rfl, g.2.2.2.2.2]
  exact ⟨g.1, g.2.1, g.2.2.1, g.2.2.2.1, g.2.2.2.2.1, rfl⟩
theorem cg_pS {A B : AS} {f : Nat} (w : WF A) (wB : WF B) (g : TkAg A B f) {P : Nat} (hP : P < 2 ^ nOf A f) : pSet B f P = pSet A f P := by
  have h8 := nOf_le w f
  have hp8 : 2 ^ nOf A f ≤ 256 := Nat.pow_le_pow_right (n := 2) (by decide) h8
  apply Nat.eq_of_testBit_eq
  intro b
  rw [pSet_bit wB (by omega), pSet_bit w (by omega)]
  by_cases hb : b < aNb A
  · have hbB : b < aNb B := by have := g.1; omega
    rw [(g.2.2.1 b hb).2.1, cg_idx g hb]
    simp [hb, hbB]
  · by_cases hbB : b < aNb B
    · have := g.2.2.2.1 b (by omega) hbB
      simp [hb, hbB, this]
    · simp [hb, hbB]
theorem cg_prt {A B : AS} {f : Nat} (w : WF A) (wB : WF B) (g : TkAg A B f) {T : Nat} (hT : OfS A f T) : prt f (slM B T) = prt f (slM A T) := by
  have hl := prt_slM_lt w f T
  have hl2 := prt_slM_lt wB f T
  rw [cg_n g] at hl2
  rw [← pS_inj w hl2 hl, pS_back w hT, ← cg_pS w wB g hl2]
  exact pS_back wB fun b hb => by
    obtain ⟨b1, b2⟩ := hT b hb
    exact ⟨by have := g.1; omega, by rw [(g.2.2.1 b b1).2.1]; exact b2⟩
theorem cg_tk {A B : AS} {f : Nat} (w : WF A) (g : TkAg A B f) (S : Nat) : sTk B f S = sTk A f S := by
  unfold sTk
  rw [ag_ord w g, ag_tkm w g]
theorem cg_tP {A B : AS} {f l P : Nat} (w : WF A) (wB : WF B) (g : TkAg A B f) (hP : P < 2 ^ nOf A f) : tP B f l P = tP A f l P := by
  have hw := WF_lv w f l
  have ht := cg_tk hw (cg_aLv g l) (pSet A f P)
  have hof := (OfS_lv A f l f _).mp (take_spec hw f (pSet A f P)).1
  unfold tP
  rw [cg_pS w wB g hP, ht]
  exact cg_prt w wB g hof
theorem cg_kOk {A B : AS} {f l P : Nat} (w : WF A) (wB : WF B) (g : TkAg A B f) (hP : P < 2 ^ nOf A f) : kOk B f l P = kOk A f l P := by
  have hPB : P < 2 ^ nOf B f := by rw [cg_n g]; exact hP
  rw [Bool.eq_iff_iff, ← tP_self w hP, ← tP_self wB hPB, cg_tP w wB g hP]
theorem cg_tG {A B : AS} {f l : Nat} (w : WF A) (wB : WF B) (g : TkAg A B f) (P : Nat) : tG B f l P = tG A f l P := by
  unfold tG
  rw [cg_n g, fst1_congr (p := fun Q => P &&& Q == P && kOk B f l Q) (q := fun Q => P &&& Q == P && kOk A f l Q) fun Q hQ => by rw [cg_kOk w wB g hQ]]
theorem CR_ag {A B : AS} {k bl : Nat} {h : jHp} (w : WF A) (wB : WF B) (g : TkAg A B k) (t : CR A k bl h) : CR B k bl h := by
  obtain ⟨t1, t2, t3, t4, t5⟩ := t
  have hn := cg_n g
  refine ⟨?_, t2, t3, t4, fun l hl hb P hP => ?_⟩
  · rcases t1 with q | ⟨q1, q2, q3⟩
    · exact Or.inl q
    · refine Or.inr ⟨q1, fun i hi => ?_, fun P hP => ?_⟩
      · rw [hn] at hi
        rw [cg_plc w wB g hi]; exact q2 i hi
      · rw [hn] at hP
        rw [cg_wgt w wB g]; exact q3 P hP
  · rw [hn] at hP
    unfold tE
    rw [cg_tP w wB g hP, cg_tG w wB g]
    exact t5 l hl hb P hP
theorem CD0_ag {A B : AS} {k a : Nat} {h : jHp} (e : aCh B k = aCh A k) (d : CD0 A k a h) : CD0 B k a h := by
  unfold CD0 chD at *
  rw [e]; exact d
theorem DK_ag {A B : AS} {ca bl : Nat → Nat} {h : jHp} (w : WF A) (wB : WF B) (g : ∀ k, k < 4 → TkAg A B k) (d : DK A ca bl h) : DK B ca bl h := fun k hk => ⟨CD0_ag (g k hk).2.2.2.2.2 (d k hk).1, CR_ag w wB (g k hk) (d k hk).2⟩
/-- a call that changes the state, but no CHOICE: what is left to show -/
def okM (a j : Nat) : Prop := (2 ≤ a ∧ a ≤ 29) ∨ (a = 77 ∧ j = 4) ∨ (a = 1 ∧ j = 11)
theorem RC_new {A B : AS} {tx : List Nat} {rw : List Int32} {ca bl' : Nat → Nat} {W : Nat → Nat → Prop} {h h' : jHp} (r : RC A tx rw h) (sp : CSp ca h) (f : Fr W h h') (hW : ∀ a j, W a j → okM a j ∨ Wds a j) (wB : WF B) (cb : CB B h') (cp : CP B h') (cc : CC B h') (d : DK B ca bl' h') (hno : hI h' 1 11 = nI (aNo B)) (h0 : hI h' 77 4 = 0) : RC B tx rw h' ∧ FC h h' := by
  obtain ⟨r1, -, r3, r4, r5, r6⟩ := r
  have hlt : ∀ a j, W a j → a ≤ 77 ∧ ¬ isG a := fun a j q => by
    unfold isG
    rcases hW a j q with z | z
    · unfold okM at z; omega
    · have := Wds_lt z; omega
  refine ⟨⟨⟨⟨Fr_shape r1.1.1 f, wB, cb, cp⟩, cc⟩, ⟨ca, bl', d, by rw [f.1.2.1]; exact sp.1, sp.2⟩, hno, CTx_fr r4 f fun a j q => by have := hlt a j q; omega, CRw_fr r5 f fun a j q => by have := hlt a j q; omega, CSt_new r6 f h0⟩, FC_Fr f fun a j q => by have := hlt a j q; omega⟩
theorem okM_Wdk {a j k : Nat} (hk : k < 4) (h : okM a j) : ¬ Wdk k a j := fun q => by
  have := Wdk_lt hk q
  unfold okM at h
  omega
theorem DK_fr' {A : AS} {ca bl : Nat → Nat} {W : Nat → Nat → Prop} {h h' : jHp} (d : DK A ca bl h) (f : Fr W h h') (hW : ∀ a j, W a j → okM a j) : DK A ca bl h' := fun k hk => by
  obtain ⟨⟨d0, d1, d2, d3⟩, t⟩ := d k hk
  refine ⟨⟨?_, by rw [f.1.2.1]; exact d1, d2, CHc_eq d3 fun i j hi => Fr_I f fun q => ?_⟩, Fr_CR t f fun a j q => okM_Wdk hk (hW a j q)⟩
  · rw [Fr_I f fun q => ?_]
    · exact d0
    · have := hW _ _ q
      unfold okM dA at this
      omega
  · have := hW _ _ q
    unfold okM at this
    unfold isCA at d2
    omega
theorem CB_eq2 {A : AS} {h h' : jHp} (c : CB A h) (e : ∀ a j, 2 ≤ a → a ≤ 14 → hI h' a j = hI h a j) : CB A h' := by
  have f : ∀ a, 2 ≤ a → a ≤ 14 → hI h' a = hI h a := fun a h1 h2 => funext fun j => e a j h1 h2
  unfold CB
  simp only [f 2 (by decide) (by decide), f 3 (by decide) (by decide), f 4 (by decide) (by decide), f 5 (by decide) (by decide), f 6 (by decide) (by decide), f 7 (by decide) (by decide), f 8 (by decide) (by decide), f 9 (by decide) (by decide), f 10 (by decide) (by decide), f 11 (by decide) (by decide), f 12 (by decide) (by decide), f 13 (by decide) (by decide), f 14 (by decide) (by decide)]
  exact c
theorem CP_eq2 {A : AS} {h h' : jHp} (c : CP A h) (e : ∀ a j, 15 ≤ a → a ≤ 23 → hI h' a j = hI h a j) : CP A h' := by
  have f : ∀ a, 15 ≤ a → a ≤ 23 → hI h' a = hI h a := fun a h1 h2 => funext fun j => e a j h1 h2
  unfold CP
  simp only [f 15 (by decide) (by decide), f 16 (by decide) (by decide), f 17 (by decide) (by decide), f 18 (by decide) (by decide), f 19 (by decide) (by decide), f 20 (by decide) (by decide), f 21 (by decide) (by decide), f 22 (by decide) (by decide), f 23 (by decide) (by decide)]
  exact c
theorem CC_eq2 {A : AS} {h h' : jHp} (c : CC A h) (e : ∀ a j, 24 ≤ a → a ≤ 29 → hI h' a j = hI h a j) : CC A h' := by
  have f : ∀ a, 24 ≤ a → a ≤ 29 → hI h' a = hI h a := fun a h1 h2 => funext fun j => e a j h1 h2
  unfold CC
  simp only [f 24 (by decide) (by decide), f 25 (by decide) (by decide), f 26 (by decide) (by decide), f 27 (by decide) (by decide), f 28 (by decide) (by decide), f 29 (by decide) (by decide)]
  exact c
