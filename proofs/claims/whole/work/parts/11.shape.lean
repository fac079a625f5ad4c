/-! THE SHAPE: kinds and references as the constructors leave them -/
def kl0 : List jK := [.inl 6, .inl 4, .inr (.char, 200), .inr (.int, 3), .inl 3, .inr (.int, 5), .inr (.int, 5), .inr (.int, 5), .inr (.int, 25), .inl 3, .inr (.int, 5), .inr (.int, 5), .inr (.int, 5), .inr (.int, 25), .inl 5, .inr (.int, 5), .inr (.int, 5), .inr (.int, 5), .inr (.int, 5), .inr (.int, 25), .inl 5, .inr (.int, 5), .inr (.int, 5), .inr (.int, 5), .inr (.int, 5), .inr (.int, 25), .inl 2, .inr (.object RX5, 8), .inl 5, .inr (.int, 5), .inr (.int, 5), .inr (.int, 5), .inr (.int, 5), .inr (.int, 25), .inl 5, .inr (.int, 5), .inr (.int, 5), .inr (.int, 5), .inr (.int, 5), .inr (.int, 25), .inl 5, .inr (.int, 5), .inr (.int, 5), .inr (.int, 5), .inr (.int, 5), .inr (.int, 25), .inl 5, .inr (.int, 5), .inr (.int, 5), .inr (.int, 5), .inr (.int, 5), .inr (.int, 25), .inl 5, .inr (.int, 5), .inr (.int, 5), .inr (.int, 5), .inr (.int, 5), .inr (.int, 25), .inl 5, .inr (.int, 5), .inr (.int, 5), .inr (.int, 5), .inr (.int, 5), .inr (.int, 25), .inl 5, .inr (.int, 5), .inr (.int, 5), .inr (.int, 5), .inr (.int, 5), .inr (.int, 25), .inl 5, .inr (.int, 5), .inr (.int, 5), .inr (.int, 5), .inr (.int, 5), .inr (.int, 25), .inr (.object RX5, 2), .inl 0, .inr (.int, 6), .inr (.int, 6), .inr (.int, 6), .inl 1, .inr (.object RX5, 11), .inr (.int, 10), .inr (.int, 10), .inr (.long, 1024), .inr (.int, 1024), .inl 5, .inr (.int, 5), .inr (.int, 5), .inr (.int, 5), .inr (.int, 5), .inr (.int, 25), .inl 5, .inr (.int, 5), .inr (.int, 5), .inr (.int, 5), .inr (.int, 5), .inr (.int, 25), .inl 5, .inr (.int, 5), .inr (.int, 5), .inr (.int, 5), .inr (.int, 5), .inr (.int, 25), .inl 5, .inr (.int, 5), .inr (.int, 5), .inr (.int, 5), .inr (.int, 5), .inr (.int, 25), .inl 5, .inr (.int, 5), .inr (.int, 5), .inr (.int, 5), .inr (.int, 5), .inr (.int, 25), .inl 5, .inr (.int, 5), .inr (.int, 5), .inr (.int, 5), .inr (.int, 5), .inr (.int, 25), .inl 5, .inr (.int, 5), .inr (.int, 5), .inr (.int, 5), .inr (.int, 5), .inr (.int, 25), .inl 5, .inr (.int, 5), .inr (.int, 5), .inr (.int, 5), .inr (.int, 5), .inr (.int, 25), .inl 5, .inr (.int, 5), .inr (.int, 5), .inr (.int, 5), .inr (.int, 5), .inr (.int, 25), .inl 5, .inr (.int, 5), .inr (.int, 5), .inr (.int, 5), .inr (.int, 5), .inr (.int, 25), .inl 5, .inr (.int, 5), .inr (.int, 5), .inr (.int, 5), .inr (.int, 5), .inr (.int, 25), .inl 5, .inr (.int, 5), .inr (.int, 5), .inr (.int, 5), .inr (.int, 5), .inr (.int, 25), .inl 5, .inr (.int, 5), .inr (.int, 5), .inr (.int, 5), .inr (.int, 5), .inr (.int, 25), .inl 7, .inr (.int, 1196), .inr (.int, 5), .inr (.int, 5), .inr (.int, 5), .inr (.int, 6), .inr (.int, 6), .inr (.int, 6), .inr (.int, 200), .inr (.int, 15), .inr (.int, 25), .inr (.int, 16), .inr (.int, 16), .inr (.int, 11), .inr (.int, 11), .inr (.int, 10)]
def rl0 : List (List (Option Nat)) := [[some 1, some 4, some 9, some 14, some 20, some 26, some 76, none, some 77, some 81], [some 2, some 3], [], [], [none, none, some 5, some 6, some 7, some 8], [], [], [], [], [none, none, some 10, some 11, some 12, some 13], [], [], [], [], [some 9, some 15, some 16, some 17, some 18, some 19], [], [], [], [], [], [some 9, some 21, some 22, some 23, some 24, some 25], [], [], [], [], [], [some 27], [some 28, some 34, some 40, some 46, some 52, some 58, some 64, some 70], [some 9, some 29, some 30, some 31, some 32, some 33], [], [], [], [], [], [some 9, some 35, some 36, some 37, some 38, some 39], [], [], [], [], [], [some 9, some 41, some 42, some 43, some 44, some 45], [], [], [], [], [], [some 9, some 47, some 48, some 49, some 50, some 51], [], [], [], [], [], [some 9, some 53, some 54, some 55, some 56, some 57], [], [], [], [], [], [some 9, some 59, some 60, some 61, some 62, some 63], [], [], [], [], [], [some 9, some 65, some 66, some 67, some 68, some 69], [], [], [], [], [], [some 9, some 71, some 72, some 73, some 74, some 75], [], [], [], [], [], [some 153, some 159], [some 78, some 79, some 80], [], [], [], [some 9, some 82, some 83, some 84, some 85, some 86], [some 87, some 93, some 99, some 105, some 111, some 117, some 123, some 129, some 135, some 141, some 147], [], [], [], [], [some 9, some 88, some 89, some 90, some 91, some 92], [], [], [], [], [], [some 9, some 94, some 95, some 96, some 97, some 98], [], [], [], [], [], [some 9, some 100, some 101, some 102, some 103, some 104], [], [], [], [], [], [some 9, some 106, some 107, some 108, some 109, some 110], [], [], [], [], [], [some 9, some 112, some 113, some 114, some 115, some 116], [], [], [], [], [], [some 9, some 118, some 119, some 120, some 121, some 122], [], [], [], [], [], [some 9, some 124, some 125, some 126, some 127, some 128], [], [], [], [], [], [some 9, some 130, some 131, some 132, some 133, some 134], [], [], [], [], [], [some 9, some 136, some 137, some 138, some 139, some 140], [], [], [], [], [], [some 9, some 142, some 143, some 144, some 145, some 146], [], [], [], [], [], [some 9, some 148, some 149, some 150, some 151, some 152], [], [], [], [], [], [some 9, some 154, some 155, some 156, some 157, some 158], [], [], [], [], [], [some 9, some 160, some 161, some 162, some 163, some 164], [], [], [], [], [], [some 166, none, none, none, some 167, some 168, some 169, none, some 170, some 171, some 172, some 173, none, none, none, none, some 174, some 175, none, some 176, some 177, some 178, some 179, some 180], [], [], [], [], [], [], [], [], [], [], [], [], [], [], []]
def κ0 (k : Nat) : jK := kl0.getD k (.inl 0)
def ρ0 (k j : Nat) : Option Nat := (rl0.getD k []).getD j none
def shC (N : Nat) (κ : Nat → jK) (ρ : Nat → Nat → Option Nat) : Prop := 165 ≤ N ∧ (∀ k, k < 165 → κ k = κ0 k) ∧ ∀ k j, k < 165 → j < 12 → ρ k j = ρ0 k j
def shR (N : Nat) (κ : Nat → jK) (ρ : Nat → Nat → Option Nat) : Prop := 181 ≤ N ∧ (∀ k, 165 ≤ k → k < 181 → κ k = κ0 k) ∧ ∀ k j, 165 ≤ k → k < 181 → j < 25 → ρ k j = ρ0 k j
def twL : List Nat := [14, 20, 28, 34, 40, 46, 52, 58, 64, 70, 87, 93, 99, 105, 111, 117, 123, 129, 135, 141, 147, 153, 159]
/-- a town -/
def tw (a : Nat) : Prop := a ∈ twL
def twF (a : Nat) : Prop := a + 5 < 165 ∧ 14 ≤ a ∧ κ0 a = .inl 5 ∧ (κ0 (a + 1) = .inr (.int, 5) ∧ κ0 (a + 2) = .inr (.int, 5) ∧ κ0 (a + 3) = .inr (.int, 5) ∧ κ0 (a + 4) = .inr (.int, 5) ∧ κ0 (a + 5) = .inr (.int, 25)) ∧ ρ0 a 0 = some 9 ∧ ρ0 a 1 = some (a + 1) ∧ ρ0 a 2 = some (a + 2) ∧ ρ0 a 3 = some (a + 3) ∧ ρ0 a 4 = some (a + 4) ∧ ρ0 a 5 = some (a + 5)
theorem twF_all : ∀ a ∈ twL, twF a := by unfold twF; decide +kernel
section SH
variable {N : Nat} {κ : Nat → jK} {ρ : Nat → Nat → Option Nat} {a : Nat}
theorem tw_lt (ht : tw a) : a + 5 < 165 := (twF_all a ht).1
theorem tw_ge (ht : tw a) : 14 ≤ a := (twF_all a ht).2.1
theorem tO (hs : shC N κ ρ) (ht : tw a) : jO N κ a 5 := ⟨by have := tw_lt ht; have := hs.1; omega, (hs.2.1 a (by have := tw_lt ht; omega)).trans (twF_all a ht).2.2.1⟩
theorem tA1 (hs : shC N κ ρ) (ht : tw a) : jA N κ (a + 1) .int 5 := ⟨by have := tw_lt ht; have := hs.1; omega, (hs.2.1 (a + 1) (by have := tw_lt ht; omega)).trans (twF_all a ht).2.2.2.1.1, by decide⟩
theorem tA2 (hs : shC N κ ρ) (ht : tw a) : jA N κ (a + 2) .int 5 := ⟨by have := tw_lt ht; have := hs.1; omega, (hs.2.1 (a + 2) (by have := tw_lt ht; omega)).trans (twF_all a ht).2.2.2.1.2.1, by decide⟩
theorem tA3 (hs : shC N κ ρ) (ht : tw a) : jA N κ (a + 3) .int 5 := ⟨by have := tw_lt ht; have := hs.1; omega, (hs.2.1 (a + 3) (by have := tw_lt ht; omega)).trans (twF_all a ht).2.2.2.1.2.2.1, by decide⟩
theorem tA4 (hs : shC N κ ρ) (ht : tw a) : jA N κ (a + 4) .int 5 := ⟨by have := tw_lt ht; have := hs.1; omega, (hs.2.1 (a + 4) (by have := tw_lt ht; omega)).trans (twF_all a ht).2.2.2.1.2.2.2.1, by decide⟩
theorem tA5 (hs : shC N κ ρ) (ht : tw a) : jA N κ (a + 5) .int 25 := ⟨by have := tw_lt ht; have := hs.1; omega, (hs.2.1 (a + 5) (by have := tw_lt ht; omega)).trans (twF_all a ht).2.2.2.1.2.2.2.2, by decide⟩
theorem tR0 (hs : shC N κ ρ) (ht : tw a) : ρ a 0 = some 9 := (hs.2.2 a 0 (by have := tw_lt ht; omega) (by decide)).trans (twF_all a ht).2.2.2.2.1
theorem tR1 (hs : shC N κ ρ) (ht : tw a) : ρ a 1 = some (a + 1) := (hs.2.2 a 1 (by have := tw_lt ht; omega) (by decide)).trans (twF_all a ht).2.2.2.2.2.1
theorem tR2 (hs : shC N κ ρ) (ht : tw a) : ρ a 2 = some (a + 2) := (hs.2.2 a 2 (by have := tw_lt ht; omega) (by decide)).trans (twF_all a ht).2.2.2.2.2.2.1
theorem tR3 (hs : shC N κ ρ) (ht : tw a) : ρ a 3 = some (a + 3) := (hs.2.2 a 3 (by have := tw_lt ht; omega) (by decide)).trans (twF_all a ht).2.2.2.2.2.2.2.1
theorem tR4 (hs : shC N κ ρ) (ht : tw a) : ρ a 4 = some (a + 4) := (hs.2.2 a 4 (by have := tw_lt ht; omega) (by decide)).trans (twF_all a ht).2.2.2.2.2.2.2.2.1
theorem tR5 (hs : shC N κ ρ) (ht : tw a) : ρ a 5 = some (a + 5) := (hs.2.2 a 5 (by have := tw_lt ht; omega) (by decide)).trans (twF_all a ht).2.2.2.2.2.2.2.2.2
theorem twn_14 : tw 14 := by unfold tw; decide
theorem twn_20 : tw 20 := by unfold tw; decide
theorem twn_28 : tw 28 := by unfold tw; decide
theorem twn_34 : tw 34 := by unfold tw; decide
theorem twn_40 : tw 40 := by unfold tw; decide
theorem twn_46 : tw 46 := by unfold tw; decide
theorem twn_52 : tw 52 := by unfold tw; decide
theorem twn_58 : tw 58 := by unfold tw; decide
theorem twn_64 : tw 64 := by unfold tw; decide
theorem twn_70 : tw 70 := by unfold tw; decide
theorem twn_87 : tw 87 := by unfold tw; decide
theorem twn_93 : tw 93 := by unfold tw; decide
theorem twn_99 : tw 99 := by unfold tw; decide
theorem twn_105 : tw 105 := by unfold tw; decide
theorem twn_111 : tw 111 := by unfold tw; decide
theorem twn_117 : tw 117 := by unfold tw; decide
theorem twn_123 : tw 123 := by unfold tw; decide
theorem twn_129 : tw 129 := by unfold tw; decide
theorem twn_135 : tw 135 := by unfold tw; decide
theorem twn_141 : tw 141 := by unfold tw; decide
theorem twn_147 : tw 147 := by unfold tw; decide
theorem twn_153 : tw 153 := by unfold tw; decide
theorem twn_159 : tw 159 := by unfold tw; decide
theorem o_0 (hs : shC N κ ρ) : jO N κ 0 6 := ⟨by have := hs.1; omega, (hs.2.1 0 (by decide))⟩
theorem r_0_0 (hs : shC N κ ρ) : ρ 0 0 = some 1 := (hs.2.2 0 0 (by decide) (by decide))
theorem r_0_1 (hs : shC N κ ρ) : ρ 0 1 = some 4 := (hs.2.2 0 1 (by decide) (by decide))
theorem r_0_2 (hs : shC N κ ρ) : ρ 0 2 = some 9 := (hs.2.2 0 2 (by decide) (by decide))
theorem r_0_3 (hs : shC N κ ρ) : ρ 0 3 = some 14 := (hs.2.2 0 3 (by decide) (by decide))
theorem r_0_4 (hs : shC N κ ρ) : ρ 0 4 = some 20 := (hs.2.2 0 4 (by decide) (by decide))
theorem r_0_5 (hs : shC N κ ρ) : ρ 0 5 = some 26 := (hs.2.2 0 5 (by decide) (by decide))
theorem r_0_6 (hs : shC N κ ρ) : ρ 0 6 = some 76 := (hs.2.2 0 6 (by decide) (by decide))
theorem r_0_8 (hs : shC N κ ρ) : ρ 0 8 = some 77 := (hs.2.2 0 8 (by decide) (by decide))
theorem r_0_9 (hs : shC N κ ρ) : ρ 0 9 = some 81 := (hs.2.2 0 9 (by decide) (by decide))
theorem o_1 (hs : shC N κ ρ) : jO N κ 1 4 := ⟨by have := hs.1; omega, (hs.2.1 1 (by decide))⟩
theorem r_1_0 (hs : shC N κ ρ) : ρ 1 0 = some 2 := (hs.2.2 1 0 (by decide) (by decide))
theorem r_1_1 (hs : shC N κ ρ) : ρ 1 1 = some 3 := (hs.2.2 1 1 (by decide) (by decide))
theorem a_2 (hs : shC N κ ρ) : jA N κ 2 .char 200 := ⟨by have := hs.1; omega, (hs.2.1 2 (by decide)), by decide⟩
theorem a_3 (hs : shC N κ ρ) : jA N κ 3 .int 3 := ⟨by have := hs.1; omega, (hs.2.1 3 (by decide)), by decide⟩
theorem o_4 (hs : shC N κ ρ) : jO N κ 4 3 := ⟨by have := hs.1; omega, (hs.2.1 4 (by decide))⟩
theorem r_4_2 (hs : shC N κ ρ) : ρ 4 2 = some 5 := (hs.2.2 4 2 (by decide) (by decide))
theorem r_4_3 (hs : shC N κ ρ) : ρ 4 3 = some 6 := (hs.2.2 4 3 (by decide) (by decide))
theorem r_4_4 (hs : shC N κ ρ) : ρ 4 4 = some 7 := (hs.2.2 4 4 (by decide) (by decide))
theorem r_4_5 (hs : shC N κ ρ) : ρ 4 5 = some 8 := (hs.2.2 4 5 (by decide) (by decide))
theorem a_5 (hs : shC N κ ρ) : jA N κ 5 .int 5 := ⟨by have := hs.1; omega, (hs.2.1 5 (by decide)), by decide⟩
theorem a_6 (hs : shC N κ ρ) : jA N κ 6 .int 5 := ⟨by have := hs.1; omega, (hs.2.1 6 (by decide)), by decide⟩
theorem a_7 (hs : shC N κ ρ) : jA N κ 7 .int 5 := ⟨by have := hs.1; omega, (hs.2.1 7 (by decide)), by decide⟩
theorem a_8 (hs : shC N κ ρ) : jA N κ 8 .int 25 := ⟨by have := hs.1; omega, (hs.2.1 8 (by decide)), by decide⟩
theorem o_9 (hs : shC N κ ρ) : jO N κ 9 3 := ⟨by have := hs.1; omega, (hs.2.1 9 (by decide))⟩
theorem r_9_2 (hs : shC N κ ρ) : ρ 9 2 = some 10 := (hs.2.2 9 2 (by decide) (by decide))
theorem r_9_3 (hs : shC N κ ρ) : ρ 9 3 = some 11 := (hs.2.2 9 3 (by decide) (by decide))
theorem r_9_4 (hs : shC N κ ρ) : ρ 9 4 = some 12 := (hs.2.2 9 4 (by decide) (by decide))
theorem r_9_5 (hs : shC N κ ρ) : ρ 9 5 = some 13 := (hs.2.2 9 5 (by decide) (by decide))
theorem a_10 (hs : shC N κ ρ) : jA N κ 10 .int 5 := ⟨by have := hs.1; omega, (hs.2.1 10 (by decide)), by decide⟩
theorem a_11 (hs : shC N κ ρ) : jA N κ 11 .int 5 := ⟨by have := hs.1; omega, (hs.2.1 11 (by decide)), by decide⟩
theorem a_12 (hs : shC N κ ρ) : jA N κ 12 .int 5 := ⟨by have := hs.1; omega, (hs.2.1 12 (by decide)), by decide⟩
theorem a_13 (hs : shC N κ ρ) : jA N κ 13 .int 25 := ⟨by have := hs.1; omega, (hs.2.1 13 (by decide)), by decide⟩
theorem o_26 (hs : shC N κ ρ) : jO N κ 26 2 := ⟨by have := hs.1; omega, (hs.2.1 26 (by decide))⟩
theorem r_26_0 (hs : shC N κ ρ) : ρ 26 0 = some 27 := (hs.2.2 26 0 (by decide) (by decide))
theorem a_27 (hs : shC N κ ρ) : jA N κ 27 (.object RX5) 8 := ⟨by have := hs.1; omega, (hs.2.1 27 (by decide)), by decide⟩
theorem a_76 (hs : shC N κ ρ) : jA N κ 76 (.object RX5) 2 := ⟨by have := hs.1; omega, (hs.2.1 76 (by decide)), by decide⟩
theorem o_77 (hs : shC N κ ρ) : jO N κ 77 0 := ⟨by have := hs.1; omega, (hs.2.1 77 (by decide))⟩
theorem r_77_0 (hs : shC N κ ρ) : ρ 77 0 = some 78 := (hs.2.2 77 0 (by decide) (by decide))
theorem r_77_1 (hs : shC N κ ρ) : ρ 77 1 = some 79 := (hs.2.2 77 1 (by decide) (by decide))
theorem r_77_2 (hs : shC N κ ρ) : ρ 77 2 = some 80 := (hs.2.2 77 2 (by decide) (by decide))
theorem a_78 (hs : shC N κ ρ) : jA N κ 78 .int 6 := ⟨by have := hs.1; omega, (hs.2.1 78 (by decide)), by decide⟩
theorem a_79 (hs : shC N κ ρ) : jA N κ 79 .int 6 := ⟨by have := hs.1; omega, (hs.2.1 79 (by decide)), by decide⟩
theorem a_80 (hs : shC N κ ρ) : jA N κ 80 .int 6 := ⟨by have := hs.1; omega, (hs.2.1 80 (by decide)), by decide⟩
theorem o_81 (hs : shC N κ ρ) : jO N κ 81 1 := ⟨by have := hs.1; omega, (hs.2.1 81 (by decide))⟩
theorem r_81_0 (hs : shC N κ ρ) : ρ 81 0 = some 9 := (hs.2.2 81 0 (by decide) (by decide))
theorem r_81_1 (hs : shC N κ ρ) : ρ 81 1 = some 82 := (hs.2.2 81 1 (by decide) (by decide))
theorem r_81_2 (hs : shC N κ ρ) : ρ 81 2 = some 83 := (hs.2.2 81 2 (by decide) (by decide))
theorem r_81_3 (hs : shC N κ ρ) : ρ 81 3 = some 84 := (hs.2.2 81 3 (by decide) (by decide))
theorem r_81_4 (hs : shC N κ ρ) : ρ 81 4 = some 85 := (hs.2.2 81 4 (by decide) (by decide))
theorem r_81_5 (hs : shC N κ ρ) : ρ 81 5 = some 86 := (hs.2.2 81 5 (by decide) (by decide))
theorem a_82 (hs : shC N κ ρ) : jA N κ 82 (.object RX5) 11 := ⟨by have := hs.1; omega, (hs.2.1 82 (by decide)), by decide⟩
theorem a_83 (hs : shC N κ ρ) : jA N κ 83 .int 10 := ⟨by have := hs.1; omega, (hs.2.1 83 (by decide)), by decide⟩
theorem a_84 (hs : shC N κ ρ) : jA N κ 84 .int 10 := ⟨by have := hs.1; omega, (hs.2.1 84 (by decide)), by decide⟩
theorem a_85 (hs : shC N κ ρ) : jA N κ 85 .long 1024 := ⟨by have := hs.1; omega, (hs.2.1 85 (by decide)), by decide⟩
theorem a_86 (hs : shC N κ ρ) : jA N κ 86 .int 1024 := ⟨by have := hs.1; omega, (hs.2.1 86 (by decide)), by decide⟩
theorem o_165 (hs : shR N κ ρ) : jO N κ 165 7 := ⟨by have := hs.1; omega, (hs.2.1 165 (by decide) (by decide))⟩
theorem r_165_0 (hs : shR N κ ρ) : ρ 165 0 = some 166 := (hs.2.2 165 0 (by decide) (by decide) (by decide))
theorem r_165_4 (hs : shR N κ ρ) : ρ 165 4 = some 167 := (hs.2.2 165 4 (by decide) (by decide) (by decide))
theorem r_165_5 (hs : shR N κ ρ) : ρ 165 5 = some 168 := (hs.2.2 165 5 (by decide) (by decide) (by decide))
theorem r_165_6 (hs : shR N κ ρ) : ρ 165 6 = some 169 := (hs.2.2 165 6 (by decide) (by decide) (by decide))
theorem r_165_8 (hs : shR N κ ρ) : ρ 165 8 = some 170 := (hs.2.2 165 8 (by decide) (by decide) (by decide))
theorem r_165_9 (hs : shR N κ ρ) : ρ 165 9 = some 171 := (hs.2.2 165 9 (by decide) (by decide) (by decide))
theorem r_165_10 (hs : shR N κ ρ) : ρ 165 10 = some 172 := (hs.2.2 165 10 (by decide) (by decide) (by decide))
theorem r_165_11 (hs : shR N κ ρ) : ρ 165 11 = some 173 := (hs.2.2 165 11 (by decide) (by decide) (by decide))
theorem r_165_16 (hs : shR N κ ρ) : ρ 165 16 = some 174 := (hs.2.2 165 16 (by decide) (by decide) (by decide))
theorem r_165_17 (hs : shR N κ ρ) : ρ 165 17 = some 175 := (hs.2.2 165 17 (by decide) (by decide) (by decide))
theorem r_165_19 (hs : shR N κ ρ) : ρ 165 19 = some 176 := (hs.2.2 165 19 (by decide) (by decide) (by decide))
theorem r_165_20 (hs : shR N κ ρ) : ρ 165 20 = some 177 := (hs.2.2 165 20 (by decide) (by decide) (by decide))
theorem r_165_21 (hs : shR N κ ρ) : ρ 165 21 = some 178 := (hs.2.2 165 21 (by decide) (by decide) (by decide))
theorem r_165_22 (hs : shR N κ ρ) : ρ 165 22 = some 179 := (hs.2.2 165 22 (by decide) (by decide) (by decide))
theorem r_165_23 (hs : shR N κ ρ) : ρ 165 23 = some 180 := (hs.2.2 165 23 (by decide) (by decide) (by decide))
theorem a_166 (hs : shR N κ ρ) : jA N κ 166 .int 1196 := ⟨by have := hs.1; omega, (hs.2.1 166 (by decide) (by decide)), by decide⟩
theorem a_167 (hs : shR N κ ρ) : jA N κ 167 .int 5 := ⟨by have := hs.1; omega, (hs.2.1 167 (by decide) (by decide)), by decide⟩
theorem a_168 (hs : shR N κ ρ) : jA N κ 168 .int 5 := ⟨by have := hs.1; omega, (hs.2.1 168 (by decide) (by decide)), by decide⟩
theorem a_169 (hs : shR N κ ρ) : jA N κ 169 .int 5 := ⟨by have := hs.1; omega, (hs.2.1 169 (by decide) (by decide)), by decide⟩
theorem a_170 (hs : shR N κ ρ) : jA N κ 170 .int 6 := ⟨by have := hs.1; omega, (hs.2.1 170 (by decide) (by decide)), by decide⟩
theorem a_171 (hs : shR N κ ρ) : jA N κ 171 .int 6 := ⟨by have := hs.1; omega, (hs.2.1 171 (by decide) (by decide)), by decide⟩
theorem a_172 (hs : shR N κ ρ) : jA N κ 172 .int 6 := ⟨by have := hs.1; omega, (hs.2.1 172 (by decide) (by decide)), by decide⟩
theorem a_173 (hs : shR N κ ρ) : jA N κ 173 .int 200 := ⟨by have := hs.1; omega, (hs.2.1 173 (by decide) (by decide)), by decide⟩
theorem a_174 (hs : shR N κ ρ) : jA N κ 174 .int 15 := ⟨by have := hs.1; omega, (hs.2.1 174 (by decide) (by decide)), by decide⟩
theorem a_175 (hs : shR N κ ρ) : jA N κ 175 .int 25 := ⟨by have := hs.1; omega, (hs.2.1 175 (by decide) (by decide)), by decide⟩
theorem a_176 (hs : shR N κ ρ) : jA N κ 176 .int 16 := ⟨by have := hs.1; omega, (hs.2.1 176 (by decide) (by decide)), by decide⟩
theorem a_177 (hs : shR N κ ρ) : jA N κ 177 .int 16 := ⟨by have := hs.1; omega, (hs.2.1 177 (by decide) (by decide)), by decide⟩
theorem a_178 (hs : shR N κ ρ) : jA N κ 178 .int 11 := ⟨by have := hs.1; omega, (hs.2.1 178 (by decide) (by decide)), by decide⟩
theorem a_179 (hs : shR N κ ρ) : jA N κ 179 .int 11 := ⟨by have := hs.1; omega, (hs.2.1 179 (by decide) (by decide)), by decide⟩
theorem a_180 (hs : shR N κ ρ) : jA N κ 180 .int 10 := ⟨by have := hs.1; omega, (hs.2.1 180 (by decide) (by decide)), by decide⟩
/-- the towns of an array of towns -/
theorem rp_27 (hs : shC N κ ρ) {i : Nat} (hi : i < 8) : ρ 27 i = some (28 + 6 * i) := (hs.2.2 27 i (by decide) (by omega)).trans (by revert hi; revert i; decide)
theorem rp_76 (hs : shC N κ ρ) {i : Nat} (hi : i < 2) : ρ 76 i = some (153 + 6 * i) := (hs.2.2 76 i (by decide) (by omega)).trans (by revert hi; revert i; decide)
theorem rp_82 (hs : shC N κ ρ) {i : Nat} (hi : i < 11) : ρ 82 i = some (87 + 6 * i) := (hs.2.2 82 i (by decide) (by omega)).trans (by revert hi; revert i; decide)
theorem tw_p {i : Nat} (hi : i < 8) : tw (28 + 6 * i) := by unfold tw; revert hi; revert i; decide
theorem tw_k {i : Nat} (hi : i < 2) : tw (153 + 6 * i) := by unfold tw; revert hi; revert i; decide
theorem tw_s {i : Nat} (hi : i < 11) : tw (87 + 6 * i) := by unfold tw; revert hi; revert i; decide
/-- two towns are one, or far from each other -/
theorem tw_apart {b : Nat} (ha : tw a) (hb : tw b) : a = b ∨ a + 5 < b ∨ b + 5 < a := by
  have : ∀ x ∈ twL, ∀ y ∈ twL, x = y ∨ x + 5 < y ∨ y + 5 < x := by decide +kernel
  exact this a ha b hb
/-- a town's cells are none of the single ones -/
theorem tw_single (ht : tw a) : (a + 5 < 26 ∨ 28 ≤ a) ∧ (a + 5 < 76 ∨ 87 ≤ a) := by
  have : ∀ x ∈ twL, (x + 5 < 26 ∨ 28 ≤ x) ∧ (x + 5 < 76 ∨ 87 ≤ x) := by decide +kernel
  exact this a ht
end SH
