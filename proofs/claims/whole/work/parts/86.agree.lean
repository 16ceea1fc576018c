/-! what an OFFICE TAKES depends on its own BONDS alone -/
theorem nfo_congr {σ : Type} {f g : Nat → σ → σ} : ∀ {n} {s : σ}, (∀ i, i < n → ∀ t, f i t = g i t) → nfo f n s = nfo g n s := by
  intro n
  induction n with
  | zero => intro s _; rfl
  | succ n ih => intro s h; simp only [nfo]; rw [ih fun i hi => h i (by omega), h n (by omega)]
theorem nfo_ext {σ : Type} {f : Nat → σ → σ} {n : Nat} {s : σ} : ∀ {m}, n ≤ m → (∀ i, n ≤ i → i < m → ∀ t, f i t = t) → nfo f m s = nfo f n s := by
  intro m
  induction m with
  | zero => intro h _; have : n = 0 := by omega
            subst this; rfl
  | succ m ih =>
    intro h h2
    by_cases e : n = m + 1
    · subst e; rfl
    · simp only [nfo]
      rw [h2 m (by omega) (by omega)]
      exact ih (by omega) fun i a b => h2 i a (by omega)
def TkAg (A B : AS) (f : Nat) : Prop := aNb A ≤ aNb B ∧ aNp A ≤ aNp B ∧ (∀ b, b < aNb A → aPe B b = aPe A b ∧ aOf B b = aOf A b ∧ aPa B b = aPa A b ∧ aYe B b = aYe A b ∧ aTo B b = aTo A b) ∧ (∀ b, aNb A ≤ b → b < aNb B → aOf B b ≠ f) ∧ (∀ p, p < aNp A → aKd B p = aKd A p) ∧ aCh B f = aCh A f
theorem ag_val {A B : AS} {f : Nat} (w : WF A) (g : TkAg A B f) {b : Nat} (hb : b < aNb A) (k : Nat) : sVal B b k = sVal A b k := by
  obtain ⟨e1, e2, e3, e4, e5⟩ := g.2.2.1 b hb
  have hp := (w.2.2.1.2.1 b hb).1
  unfold sVal
  rw [e1, e3, e4, e5, g.2.2.2.2.1 _ hp]
theorem ag_ahd {A B : AS} {f : Nat} (w : WF A) (g : TkAg A B f) {a b : Nat} (ha : a < aNb A) (hb : b < aNb A) : sAhd B f a b = sAhd A f a b := by
  have hk : aKs B f = aKs A f := by unfold aKs; rw [g.2.2.2.2.2]
  unfold sAhd
  rw [hk]
  generalize aKs A f = l
  induction l with
  | nil => rfl
  | cons k r ih => simp only [sAhL]; rw [ih, ag_val w g ha, ag_val w g hb]
theorem insP_congr {p q : Nat → Bool} : ∀ n, (∀ i, i < n → p i = q i) → insP p n = insP q n := by
  intro n
  induction n with
  | zero => intro _; rfl
  | succ n ih => intro h; simp only [insP]; rw [h n (by omega), ih fun i hi => h i (by omega)]
theorem insL_congr {p q : Nat → Bool} {b : Nat} {l : List Nat} (h : ∀ i, i < l.length → p i = q i) : insL p b l = insL q b l := by
  unfold insL
  rw [insP_congr _ h]
theorem ag_ordN {A B : AS} {f : Nat} (w : WF A) (g : TkAg A B f) : ∀ n, n ≤ aNb A → sOrdN B f n = sOrdN A f n := by
  intro n
  induction n with
  | zero => intro _; rfl
  | succ n ih =>
    intro hn
    have h1 : sOrdN A f (n + 1) = if aOf A n == f then insL (fun k => sAhd A f n ((sOrdN A f n).getD k 0)) n (sOrdN A f n) else sOrdN A f n := rfl
    have h2 : sOrdN B f (n + 1) = if aOf B n == f then insL (fun k => sAhd B f n ((sOrdN B f n).getD k 0)) n (sOrdN B f n) else sOrdN B f n := rfl
    rw [h1, h2, ih (by omega), (g.2.2.1 n (by omega)).2.1]
    split
    · refine insL_congr fun i hi => ?_
      have := (sOrdN_mem (getD_mem' (d := 0) hi)).1
      exact ag_ahd w g (by omega) (by omega)
    · rfl
theorem ag_ord {A B : AS} {f : Nat} (w : WF A) (g : TkAg A B f) : sOrd B f = sOrd A f := by
  unfold sOrd
  rw [← ag_ordN w g (aNb A) (Nat.le_refl _)]
  have h2 : ∀ m, aNb A ≤ m → m ≤ aNb B → sOrdN B f m = sOrdN B f (aNb A) := by
    intro m
    induction m with
    | zero => intro h _; have : aNb A = 0 := by omega
              rw [this]
    | succ m ih =>
      intro h h3
      by_cases e : aNb A = m + 1
      · rw [e]
      · have h2 : sOrdN B f (m + 1) = if aOf B m == f then insL (fun k => sAhd B f m ((sOrdN B f m).getD k 0)) m (sOrdN B f m) else sOrdN B f m := rfl
        have := g.2.2.2.1 m (by omega) (by omega)
        rw [h2, if_neg (by simpa using this)]
        exact ih (by omega) (by omega)
  exact h2 _ g.1 (Nat.le_refl _)
theorem tb_false {S n b : Nat} (h : S < 2 ^ n) (hb : n ≤ b) : S.testBit b = false := Nat.testBit_lt_two_pow (Nat.lt_of_lt_of_le h (Nat.pow_le_pow_right (by decide) hb))
theorem ag_ppl {A B : AS} {f : Nat} (g : TkAg A B f) {S : Nat} (hS : S < 2 ^ aNb A) : sPpl B S = sPpl A S := by
  unfold sPpl pplOf
  rw [nfo_ext (n := aNb A) g.1 (fun i hi _ t => by rw [tb_false hS hi]; rfl)]
  exact nfo_congr fun i hi t => by rw [(g.2.2.1 i hi).1]
theorem ag_pay {A B : AS} {f : Nat} (g : TkAg A B f) {S : Nat} (hS : S < 2 ^ aNb A) : sPay B S = sPay A S := by
  unfold sPay
  rw [nfo_ext (n := aNb A) g.1 (fun i hi _ t => by rw [tb_false hS hi]; rfl)]
  exact nfo_congr fun i hi t => by rw [(g.2.2.1 i hi).2.2.1]
theorem sPpl_np {A : AS} (w : WF A) (S : Nat) : sPpl A S < 2 ^ aNp A := by
  unfold sPpl pplOf
  refine nfo_inv (fun _ m => m < 2 ^ aNp A) (aNb A) 0 (Nat.two_pow_pos _) ?_ _ (Nat.le_refl _)
  intro i t hi ht
  split
  · have := (w.2.2.1.2.1 i hi).1
    exact Nat.or_lt_two_pow ht (Nat.pow_lt_pow_right (by decide) this)
  · exact ht
theorem ag_oth {A B : AS} {f : Nat} (g : TkAg A B f) {who : Nat} (hw : who < 2 ^ aNp A) (kd : Nat) : sOth B who kd = sOth A who kd := by
  unfold sOth cntN
  rw [nfo_ext (n := aNp A) g.2.1 (fun i hi _ t => by simp [tb_false hw hi])]
  exact nfo_congr fun i hi t => by simp only [g.2.2.2.2.1 i hi]
theorem ag_br {A B : AS} {f : Nat} (w : WF A) (g : TkAg A B f) (C : CH) {S : Nat} (hS : S < 2 ^ aNb A) : sBr B C S = sBr A C S := by
  unfold sBr
  rw [ag_ppl g hS, ag_pay g hS]
  have : (fun k : Nat × Nat => decide (cMost C - k.2 < sOth B (sPpl A S) k.1)) = (fun k => decide (cMost C - k.2 < sOth A (sPpl A S) k.1)) := by
    funext k
    rw [ag_oth g (sPpl_np w S)]
  rw [this]
theorem ag_alw {A B : AS} {f : Nat} (w : WF A) (g : TkAg A B f) {S : Nat} (hS : S < 2 ^ aNb A) : sAlw B f S = sAlw A f S := by
  unfold sAlw
  rw [g.2.2.2.2.2]
  cases aCh A f with
  | none => rfl
  | some C => simp only; rw [ag_br w g C hS, ag_ppl g hS]
theorem sSpr_nb {l : List Nat} {n : Nat} (hb : ∀ b ∈ l, b < n) (s : Nat) : sSpr l s < 2 ^ n := by
  unfold sSpr
  refine nfo_inv (fun _ m => m < 2 ^ n) l.length 0 (Nat.two_pow_pos _) ?_ _ (Nat.le_refl _)
  intro i t hi ht
  split
  · exact Nat.or_lt_two_pow ht (Nat.pow_lt_pow_right (by decide) (hb _ (getD_mem' hi)))
  · exact ht
theorem ag_tkm {A B : AS} {f : Nat} (w : WF A) (g : TkAg A B f) (s : Nat) : sTkM B f s = sTkM A f s := by
  have hq : sQ B f s = sQ A f s := by
    funext t
    unfold sQ
    rw [ag_ord w g, ag_alw w g (sSpr_nb (fun b hb => ((sOrd_ok w f).2 b hb).1) t)]
  unfold sTkM
  rw [ag_ord w g, hq]
theorem RMT_ag {A B : AS} {h : jHp} (w : WF A) (t : RMT A h) (hno : aNo B = aNo A) (g : ∀ f, f < aNo A → TkAg A B f) : RMT B h := by
  rcases t with t | ⟨t1, t2⟩
  · exact Or.inl t
  · refine Or.inr ⟨t1, fun f hf => ?_⟩
    rw [hno] at hf
    have r := t2 f hf
    unfold RTk at *
    rw [ag_ord w (g f hf)]
    exact ⟨r.1, fun s hs => by rw [ag_tkm w (g f hf)]; exact r.2 s hs⟩
theorem TkAg_refl (A : AS) (f : Nat) : TkAg A A f := ⟨Nat.le_refl _, Nat.le_refl _, fun b _ => ⟨rfl, rfl, rfl, rfl, rfl⟩, fun b h1 h2 => by omega, fun p _ => rfl, rfl⟩
-- the new states
def updN {α : Type} (f : Nat → α) (i : Nat) (v : α) : Nat → α := fun j => if j = i then v else f j
theorem updN_eq {α : Type} (f : Nat → α) (i : Nat) (v : α) : updN f i v i = v := if_pos rfl
theorem updN_ne {α : Type} (f : Nat → α) {i j : Nat} (v : α) (h : j ≠ i) : updN f i v j = f j := if_neg h
def aPers (A : AS) (k : Nat) : AS := ((aNp A + 1, updN (aKd A) (aNp A) k), A.2)
def aOffi (A : AS) : AS := (A.1, aNo A + 1, A.2.2)
def aBond (A : AS) (p f c y t : Nat) : AS := (A.1, A.2.1, (aNb A + 1, updN (aPe A) (aNb A) p, updN (aOf A) (aNb A) f, updN (aPa A) (aNb A) c, updN (aYe A) (aNb A) y, updN (aTo A) (aNb A) t), A.2.2.2)
def aList (A : AS) (p : Nat) (l : List Nat) : AS := (A.1, A.2.1, A.2.2.1, updN (aLl A) p l, A.2.2.2.2)
def aCoup (A : AS) (a b : Nat) : AS := (A.1, A.2.1, A.2.2.1, A.2.2.2.1, (aNc A + 1, updN (aC1 A) (aNc A) a, updN (aC2 A) (aNc A) b, aPl A), A.2.2.2.2.2)
def aPair (A : AS) (c : Nat) (l : List (Option Nat × Option Nat)) : AS := (A.1, A.2.1, A.2.2.1, A.2.2.2.1, (aNc A, aC1 A, aC2 A, updN (aPl A) c l), A.2.2.2.2.2)
def aChoi (A : AS) (f : Nat) (C : CH) : AS := (A.1, A.2.1, A.2.2.1, A.2.2.2.1, A.2.2.2.2.1, updN (aCh A) f (some C), A.2.2.2.2.2.2)
/-- what a call that changes the state in the reference leaves: its frame -/
theorem RMX_new {A B : AS} {tx : List Nat} {rw : List Int32} {h h1 : jHp} {W : Nat → Nat → Prop} (r : RMX A tx rw h) (f : Fr W h h1) (hW : ∀ a k, W a k → ¬ cT a k ∧ 98 ≤ a ∧ a ≤ 140) (k : RMK B h1) (t : RMT B h1) : RMX B tx rw h1 ∧ Fr WM h h1 := by
  have e : ∀ a k, cT a k → hI h1 a k = hI h a k := fun a k q => Fr_I f fun z => (hW a k z).1 q
  exact ⟨⟨k, t, RTx_eq r.2.2.1 (e _ _ (by simp [cT])) (fun k => e _ _ (by simp [cT])), RRw_eq r.2.2.2.1 (e _ _ (by simp [cT])) (fun k => e _ _ (by simp [cT])), ROf0_eq r.2.2.2.2 (fun k hk => e _ _ (by unfold cT; omega))⟩, Fr_mono f fun a k q => (hW a k q).2⟩
