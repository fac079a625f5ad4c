theorem dst_nat : ∀ p : Nat, p < 6 → ∀ b0 b1 b2 b3 b4 : Bool, ∃ d : Fin 32, dst (kB b0 b1 b2 b3 b4) p = nI d.val ∧ rOnes (nI d.val) = cdn (kB b0 b1 b2 b3 b4) p ∧ ∀ k : Nat, k < 5 → d.val.testBit k = (decide (k < p) && !(kB b0 b1 b2 b3 b4 k)) := by decide +kernel
theorem ones_sub : ∀ d e : Nat, d < 32 → e < 32 → e &&& d = e → ∀ i : Nat, i < 5 → e.testBit i = false → rOnes (nI d) - rOnes (nI e) - (if d.testBit i = false then 0 else 1) = rOnes (nI d &&& (nI e ^^^ -1) &&& (((1 : Int32) <<< (nI i &&& 31)) ^^^ -1)) ∧ 0 ≤ (rOnes (nI d &&& (nI e ^^^ -1) &&& (((1 : Int32) <<< (nI i &&& 31)) ^^^ -1))).toInt := by
  have key : ∀ d e : Fin 32, ∀ i : Fin 5, (e.val &&& d.val = e.val ∧ e.val.testBit i.val = false) → (rOnes (nI d.val) - rOnes (nI e.val) - (if d.val.testBit i.val = false then 0 else 1) = rOnes (nI d.val &&& (nI e.val ^^^ -1) &&& (((1 : Int32) <<< (nI i.val &&& 31)) ^^^ -1)) ∧ 0 ≤ (rOnes (nI d.val &&& (nI e.val ^^^ -1) &&& (((1 : Int32) <<< (nI i.val &&& 31)) ^^^ -1))).toInt) := by decide +kernel
  exact fun d e hd he h1 i hi h2 => key ⟨d, hd⟩ ⟨e, he⟩ ⟨i, hi⟩ ⟨h1, h2⟩
theorem kB_at (B : Nat → Bool) {i : Nat} (hi : i < 5) : kB (B 0) (B 1) (B 2) (B 3) (B 4) i = B i := by
  have : i = 0 ∨ i = 1 ∨ i = 2 ∨ i = 3 ∨ i = 4 := by omega
  rcases this with rfl | rfl | rfl | rfl | rfl <;> rfl
theorem key_ones (A B : Nat → Bool) {p i : Nat} (hp : p ≤ 5) (hi : i < p) (h : ∀ k, k < p → B k = true → A k = true) (hA : A i = true) : kOK A B p i := by
  obtain ⟨d, d1, d2, d3⟩ := dst_nat p (by omega) (B 0) (B 1) (B 2) (B 3) (B 4)
  obtain ⟨e, e1, e2, e3⟩ := dst_nat p (by omega) (A 0) (A 1) (A 2) (A 3) (A 4)
  unfold kOK
  rw [cdn_kB A hp, cdn_kB B hp, dst_kB A hp, dst_kB B hp, d1, e1, ← d2, ← e2]
  have hs : e.val &&& d.val = e.val := by
    apply Nat.eq_of_testBit_eq
    intro k
    rw [Nat.testBit_and]
    by_cases z : k < 5
    · rw [d3 k z, e3 k z, kB_at A z, kB_at B z]
      by_cases y : k < p
      · have := h k y
        cases hb : B k with
        | true => rw [this hb]; simp
        | false => simp [y]
      · simp [y]
    · have : e.val.testBit k = false := Nat.testBit_lt_two_pow (by
        have h1 : (2 : Nat) ^ 5 ≤ 2 ^ k := Nat.pow_le_pow_right (by decide) (by omega)
        have h2 := e.isLt
        omega)
      rw [this]; rfl
  have hei : e.val.testBit i = false := by rw [e3 i (by omega), kB_at A (by omega), hA]; simp
  have hdi : d.val.testBit i = !(B i) := by rw [d3 i (by omega), kB_at B (by omega)]; simp [hi]
  have := ones_sub d.val e.val d.isLt e.isLt hs i (by omega) hei
  rw [hdi] at this
  cases hb : B i with
  | true => rw [hb] at this; exact this
  | false => rw [hb] at this; exact this
