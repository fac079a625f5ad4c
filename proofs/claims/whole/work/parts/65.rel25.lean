/-! THE SEARCH ON BOTH SIDES -/
def CFr (dp : Nat) (c c' : jMem) : Prop := ∀ x y, (x < 81 ∨ x = 82 ∨ x = 85 ∨ (x = 81 ∧ y ≠ 6 ∧ y ≠ 7) ∨ (x = 83 ∧ y < dp) ∨ (87 ≤ x ∧ x < 87 + 6 * (dp + 1)) ∨ 153 ≤ x) → c' x y = c x y
def RFr (dp : Nat) (m m' : jMem) : Prop := (∀ x y, x ≠ 166 → x ≠ 176 → x ≠ 177 → x ≠ 180 → (x ≠ 165 ∨ y ≠ 24) → (x ≠ 178 ∨ y < dp) → (x ≠ 179 ∨ y ≤ dp) → m' x y = m x y) ∧ (∀ y, y < 624 + 52 * (dp + 1) → m' 166 y = m 166 y)
theorem GN.cls {p a r : Nat} {c c' m : jMem} (h : GN p a r c m) (hc : ∀ x y, (9 ≤ x ∧ x < 13) ∨ (a ≤ x ∧ x ≤ a + 5) → c' x y = c x y) : GN p a r c' m :=
  ⟨h.1.keep2 (fun x y hx => hc x y (by omega)) (fun _ _ _ => rfl), h.2.1.keep (fun y => hc _ _ (by omega)), h.2.2.1.move h.1.p5 (fun k j z => hc _ _ (by have := tfld_6 z; omega)) (fun j _ => hc _ _ (by omega)) (fun _ _ => rfl), h.2.2.2.1.move h.1.p5 (fun k j z => hc _ _ (by have := tfld_6 z; omega)) (fun j _ => hc _ _ (by omega)), h.2.2.2.2⟩
theorem VD.cls {p a : Nat} {c0 c c' : jMem} (h : VD p c0 c a) (hc : ∀ x y, (9 ≤ x ∧ x < 13) ∨ (a ≤ x ∧ x ≤ a + 5) → c' x y = c x y) : VD p c0 c' a := by
  have h4 : ∀ k, q_fe c' a k = q_fe c a k := fun k => by unfold q_fe; rw [hc _ _ (by omega)]
  refine ⟨fun k hk => ?_, fun i hi => ?_, fun x y h1 h2 => (hc x y (by omega)).trans (h.2.2.1 x y h1 h2), fun k hk => ?_⟩
  · rw [hc _ _ (by omega), h4]; exact h.1 k hk
  · rw [hc _ _ (by omega)]; exact h.2.1 i hi
  · rw [h4]; exact h.2.2.2 k hk
theorem BR.rng {c m : jMem} {B : Int32} (h : BR c B m) : 0 ≤ (c 81 7).toInt ∧ (c 81 7).toInt ≤ 1000 := by
  rcases h with ⟨h1, -⟩ | ⟨h1, h2, h3, -⟩
  · rw [h1, i_n1000.1]; omega
  · rw [h1]; omega
section Kp
variable {p : Nat} {c m : jMem} {B tr : Int32} {dp : Nat}
theorem kp_rd (h : tr < c 81 7) : (oKp c dp tr) 81 7 = tr ∧ (oKp c dp tr) 81 6 = nI dp ∧ (∀ j, j < dp → (oKp c dp tr) 84 j = c 83 j) ∧ (∀ x y, x ≠ 84 → (x ≠ 81 ∨ (y ≠ 6 ∧ y ≠ 7)) → (oKp c dp tr) x y = c x y) := by
  unfold oKp rcp
  rw [if_pos h]
  refine ⟨?_, ?_, fun j hj => ?_, fun x y h1 h2 => ?_⟩
  · rw [jrow_at, if_neg (by decide), jup_oth2 (by decide), jup_self]
  · rw [jrow_at, if_neg (by decide), jup_self]
  · rw [jrow_at, if_pos rfl, if_pos hj, jup_oth (by decide), jup_oth (by decide)]
  · rw [jrow_at, if_neg h1, jup_at, if_neg (by omega), jup_at, if_neg (by omega)]
theorem bol_rd : (rBoL m dp) 165 24 = nI dp ∧ (∀ j, j < dp → (rBoL m dp) 180 j = m 178 j) ∧ (∀ x y, x ≠ 180 → (x ≠ 165 ∨ y ≠ 24) → (rBoL m dp) x y = m x y) := by
  have key : ∀ n, (∀ j, j < n → it rBoC n 0 (jup m 165 24 (nI dp)) 180 j = m 178 j) ∧ (∀ x y, x ≠ 180 → it rBoC n 0 (jup m 165 24 (nI dp)) x y = jup m 165 24 (nI dp) x y) := fun n => by
    induction n with
    | zero => exact ⟨fun j hj => by omega, fun _ _ _ => rfl⟩
    | succ n ih =>
      rw [it_snoc, Nat.zero_add]
      refine ⟨fun j hj => ?_, fun x y hx => ?_⟩
      · unfold rBoC
        by_cases z : j = n
        · rw [z, jup_self]
          show it rBoC n 0 (jup m 165 24 (nI dp)) 178 n = m 178 n
          rw [ih.2 _ _ (by decide), jup_oth (by decide)]
        · rw [jup_oth2 z]; exact ih.1 j (by omega)
      · exact (jup_oth hx).trans (ih.2 x y hx)
  unfold rBoL
  refine ⟨?_, (key dp).1, fun x y h1 h2 => ?_⟩
  · rw [(key dp).2 _ _ (by decide), jup_self]
  · rw [(key dp).2 _ _ h1, jup_at, if_neg (by omega)]
end Kp
