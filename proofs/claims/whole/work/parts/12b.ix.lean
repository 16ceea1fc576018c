/-! the place of a sign in the text "pytkn" -/
def IXW (own : String) (i i2 : Nat) : Prop := (own = "SealedBonds$Text" ∧ i = 80 ∧ i2 = 82) ∨ (own = "SealedBondsModel" ∧ i = 217 ∧ i2 = 219)
section RulesIx
variable {M : jMs} {C : jC} {k pc : Nat}
theorem ei_ixc {i i2 : Nat} (hd0 : decode M.2.1 pc = .ok (.ldc i, 2)) (hd1 : decode M.2.1 (pc + 2) = .ok (.iload_n 3, 1)) (hd2 : decode M.2.1 (pc + 3) = .ok (.i2c, 1)) (hd3 : decode M.2.1 (pc + 4) = .ok (.invokevirtual i2, 3)) (hix : IXW M.1 i i2) : EI M C k pc (pc + 7) (x_ixof (x_un o_i2c (x_iloc 3))) := sorry
theorem ei_ixi {i i2 : Nat} (hd0 : decode M.2.1 pc = .ok (.ldc i, 2)) (hd1 : decode M.2.1 (pc + 2) = .ok (.iload_n 2, 1)) (hd3 : decode M.2.1 (pc + 3) = .ok (.invokevirtual i2, 3)) (hix : IXW M.1 i i2) : EI M C k pc (pc + 6) (x_ixof (x_iloc 2)) := sorry
theorem ix_T : IXW "SealedBonds$Text" 80 82 := Or.inl ⟨rfl, rfl, rfl⟩
theorem ix_M : IXW "SealedBondsModel" 217 219 := Or.inr ⟨rfl, rfl, rfl⟩
end RulesIx
