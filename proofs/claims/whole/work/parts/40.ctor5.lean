theorem hS_sh : shC 165 hS12.2.1 hS12.2.2.1 := by
  refine ⟨Nat.le_refl _, ?_, ?_⟩
  · have h : ∀ k, k < 165 → hS12.2.1 k = κ0 k := by decide +kernel
    exact h
  · have h : ∀ k, k < 165 → ∀ j, j < 12 → hS12.2.2.1 k j = ρ0 k j := by decide +kernel
    exact fun k j hk hj => h k hk j hj
