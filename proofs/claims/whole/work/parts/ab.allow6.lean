theorem kAlw_ok {A : AS} (w : WF A) {f P m : Nat} (hP : P < 2 ^ nOf A f) : kAlw A f P m = sAlM A f m (pSet A f P) := by
  have h8 := nOf_le w f
  have h256 : P < 256 := Nat.lt_of_lt_of_le hP (Nat.pow_le_pow_right (by decide) h8)
  have p0 := pSet_0 w hP
  have e1 := ppl_pS w (f := f) h256
  have e2 := pay_pS w (f := f) h256
  have e3 := pop_pS w hP
  have hW := pplP_lt w (f := f) P (nOf A f) (Nat.le_refl _)
  have hY := payP_le w (f := f) P (nOf A f) (Nat.le_refl _)
  have hr := rp_ok w hP
  have hC := chD_ok w f
  have k1 := fun hl => kPlc_ok w hC.2.2.2.2.2.1 (who := pplP A f P (nOf A f)) (lim := m) hW hl
  have k2 := kTog_ok (l := cBoths (chD A f)) hC.2.2.2.2.2.2.2.1 (pplP A f P (nOf A f))
  have k3 := kApt_ok (l := cNevers (chD A f)) hC.2.2.2.2.2.2.2.2.2 (pplP A f P (nOf A f))
  unfold kAlw kAlR sAlM
  rw [hr, k2, k3]
  by_cases z0 : P = 0
  · have := p0.mpr z0
    rw [this, z0]; rfl
  · have z0' : ¬ pSet A f P = 0 := fun h => z0 (p0.mp h)
    have b0 : (P == 0) = false := by simpa using z0
    have b0' : (pSet A f P == 0) = false := by simpa using z0'
    rw [b0, b0']
    cases hc : aCh A f with
    | none => rfl
    | some C =>
      have hcd : chD A f = C := by unfold chD; rw [hc]; rfl
      rw [hcd] at k1 ⊢
      simp only [sBr, sTog, e1, e2, e3]
      have c1 : cMost (m, C.2) = m := rfl
      have c2 : cMoney (m, C.2) = cMoney C := rfl
      have c3 : cKeeps (m, C.2) = cKeeps C := rfl
      have c4 : cNevers (m, C.2) = cNevers C := rfl
      rw [c1, c2, c3, c4]
      generalize ((cKeeps C).any fun k => decide (m - k.2 < sOth A (pplP A f P (nOf A f)) k.1)) = g2 at *
      generalize ((cNevers C).any fun q => pplP A f P (nOf A f) &&& q == q) = g3
      generalize ((cBoths C).any fun q => pplP A f P (nOf A f) &&& q != 0 && pplP A f P (nOf A f) &&& q != q) = g4
      generalize kPlc A (cKeeps C) (pplP A f P (nOf A f)) m = g5 at *
      generalize cMoney C = mo
      have hyy : payP A f P (nOf A f) ≤ 1000000 := by omega
      generalize payP A f P (nOf A f) = Y at *
      generalize popN 32 (pplP A f P (nOf A f)) = x1 at *
      generalize popN 32 P = x2 at *
      by_cases y1 : x1 = x2
      · by_cases y2 : x2 ≤ m
        · have := k1 (by omega)
          subst this
          have y3 : ¬ m < x2 := by omega
          cases mo with
          | none => cases g2 <;> cases g3 <;> cases g4 <;> simp [y1, y2, y3, hyy]
          | some z =>
            by_cases zz : z < Y
            · have zz' : ¬ Y ≤ z := by omega
              simp [y1, y2, y3, zz, zz']
            · have zz' : Y ≤ z := by omega
              cases g2 <;> cases g3 <;> cases g4 <;> simp [y1, y2, y3, zz, zz']
        · have y3 : m < x2 := by omega
          simp [y1, y2, y3]
      · simp [y1]
