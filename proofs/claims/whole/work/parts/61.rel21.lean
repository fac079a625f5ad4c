/-! THE WHOLE TEXT: fault, lay -/
theorem read_sim {tl q : Nat} (hq : q = 4 ∨ q = 9) : ∀ (n k : Nat) (c m : jMem) (N : Nat), TX tl c m → PL q N c m → m 165 13 = nI k → tl ≤ k + n → k ≤ 300 → (xRdL q n k c).1 = (rFoL (n + 1) k m).1 ∧ ((xRdL q n k c).1 = -4 → ∃ N', PL q N' (xRdL q n k c).2 (rFoL (n + 1) k m).2)
  | 0, k, c, m, N, h, hL, h13, hk, hk2 => by
    have e : ¬ nI k < m 165 12 := by
      rw [h.2.1, nI_ltI (by omega) (by have := h.2.2.1; omega)]
      omega
    rw [xRdL, rFoL, if_neg e]
    exact ⟨rfl, fun _ => ⟨N, hL⟩⟩
  | n + 1, k, c, m, N, h, hL, h13, hk, hk2 => by
    have ht := h.2.2.1
    rw [xRdL, rFoL, h.1, h.2.1]
    by_cases z : k < tl
    · have e : nI k < nI tl := (nI_ltI (by omega) (by omega)).mpr z
      rw [if_pos e, if_pos e]
      rcases item_sim hq h hL h13 (by omega) with ⟨k', c', m', a1, a2, a3, a4, a5, ⟨N', a6⟩, a7⟩ | ⟨a1, a2⟩
      · rw [a1, a2]
        exact read_sim hq n k' c' m' N' a5 a6 a7 (by omega) (by omega)
      · obtain ⟨M, eM⟩ := of_none a1
        obtain ⟨R, eR⟩ := of_none a2
        rw [eM, eR]
        refine ⟨rfl, fun y => ?_⟩
        have y' : nI k = -4 := y
        have e1 : (nI k).toInt = -4 := by rw [y']; decide
        rw [nI_toInt (by omega)] at e1
        omega
    · have e : ¬ nI k < nI tl := fun y => z ((nI_ltI (by omega) (by omega)).mp y)
      rw [if_neg e, if_neg e]
      exact ⟨rfl, fun _ => ⟨N, hL⟩⟩
theorem read0 {tl q : Nat} {c m : jMem} (hq : q = 4 ∨ q = 9) (h : TX tl c m) : (xRead q c).1 = (rFo m).1 ∧ ((xRead q c).1 = -4 → ∃ N, PL q N (xRead q c).2 (rFo m).2) := by
  unfold xRead rFo
  have g0 : ∀ x y, x ≠ 165 ∨ y ≠ 13 → jup (rStart m) 165 13 0 x y = rStart m x y := fun x y hx => by
    rcases hx with w | w
    · exact jup_oth w
    · exact jup_oth2 w
  have s15 : rStart m 165 15 = 0 := by
    unfold rStart
    rw [it_lo (fun i m => jup_oth (by decide)), jup_oth2 (by decide), jup_self]
  have s18 : rStart m 165 18 = 0 := by
    unfold rStart
    rw [it_lo (fun i m => jup_oth (by decide)), jup_self]
  have s175 : ∀ i, i < 25 → rStart m 175 i = 0 := fun i hi => by
    unfold rStart
    rw [fill_row, jrow_at, if_pos rfl, if_pos hi]
  refine read_sim hq 200 0 _ _ 0 (h.keep (fun x y hx => pClr_lo (by omega) c) ((g0 _ _ (by omega)).trans (rStart_lo m (by decide) (by omega))) (fun y => (g0 _ _ (by omega)).trans (rStart_lo m (by decide) (by omega)))) ?_ (jup_self _ _ _ _) (by have := h.2.2.1; omega) (by omega)
  have c0 : pClr c q q 0 = 0 := by
    unfold pClr
    rw [jrow_ne (by omega), jup_oth2 (by decide), jup_self]
  have c1 : pClr c q q 1 = 0 := by
    unfold pClr
    rw [jrow_ne (by omega), jup_self]
  have c4 : ∀ i, i < 25 → pClr c q (q + 4) i = 0 := fun i hi => by
    unfold pClr
    rw [jrow_at, if_pos rfl, if_pos hi]
  refine ⟨c0, (g0 _ _ (by omega)).trans s15, by omega, fun k hk => by omega, fun i hi => ?_, ?_, ?_⟩
  · rw [c4 i hi, g0 _ _ (by omega), s175 i hi]; exact ⟨rfl, by decide, by decide⟩
  · rw [c1, g0 _ _ (by omega), s18]
  · rw [c1]; decide
section Ly
variable {p x u q n tl : Nat} {c m : jMem}
theorem RText.tx (h : RText tl c m) : TX tl c m := ⟨h.1.1, h.2.1, h.1.2.1, h.2.2⟩
theorem s_fault (h : Rel p x u q n tl c m) : OKc c m (cFault c).1 (cFault c).2 (rFo m).1 (rFo m).2 := by
  unfold cFault
  refine OKc.asks h (read0 (Or.inl rfl) h.2.2.2.2.2.2.tx).1 (fun a b ha => xread_fr (by omega) (by omega) c) (fun a b ha => rfo0_fr ?_ m)
  unfold RF
  omega
/-! what begins -/
theorem bg2_it (m : jMem) : ∀ n, n ≤ 5 → (∀ j, j < n → it rBg2 n 0 m 167 j = m 174 (3 * j) ∧ it rBg2 n 0 m 168 j = m 174 (3 * j + 1) ∧ it rBg2 n 0 m 169 j = m 174 (3 * j + 2) ∧ it rBg2 n 0 m 166 (2 + j) = m 174 (3 * j + 1)) ∧ (∀ y, y < 2 ∨ 2 + n ≤ y → it rBg2 n 0 m 166 y = m 166 y) ∧ (∀ x y, x < 166 ∨ 169 < x → it rBg2 n 0 m x y = m x y)
  | 0, _ => ⟨fun j hj => by omega, fun _ _ => rfl, fun _ _ _ => rfl⟩
  | n + 1, hn => by
    obtain ⟨i1, i2, i3⟩ := bg2_it m n (by omega)
    rw [it_snoc, Nat.zero_add]
    generalize it rBg2 n 0 m = s at i1 i2 i3
    unfold rBg2
    have e174 : ∀ y, s 174 y = m 174 y := fun y => i3 174 y (by omega)
    refine ⟨fun j hj => ?_, fun y hy => ?_, fun x y hx => ?_⟩
    · by_cases z : j = n
      · subst z
        refine ⟨?_, ?_, ?_, ?_⟩
        · rw [jup_oth (by decide), jup_oth (by decide), jup_oth (by decide), jup_self, e174]
        · rw [jup_oth (by decide), jup_oth (by decide), jup_self, jup_oth (by decide), e174]
        · rw [jup_oth (by decide), jup_self, jup_oth (by decide), jup_oth (by decide), e174]
        · rw [jup_self, jup_oth (by decide), jup_self, jup_oth (by decide), e174]
      · obtain ⟨k1, k2, k3, k4⟩ := i1 j (by omega)
        refine ⟨?_, ?_, ?_, ?_⟩
        · rw [jup_oth (by decide), jup_oth (by decide), jup_oth (by decide), jup_oth2 z]; exact k1
        · rw [jup_oth (by decide), jup_oth (by decide), jup_oth2 z, jup_oth (by decide)]; exact k2
        · rw [jup_oth (by decide), jup_oth2 z, jup_oth (by decide), jup_oth (by decide)]; exact k3
        · rw [jup_oth2 (by omega), jup_oth (by decide), jup_oth (by decide), jup_oth (by decide)]; exact k4
    · rw [jup_oth2 (by omega), jup_oth (by decide), jup_oth (by decide), jup_oth (by decide)]; exact i2 y (by omega)
    · rw [jup_oth (by omega), jup_oth (by omega), jup_oth (by omega), jup_oth (by omega)]; exact i3 x y hx
theorem bg3_it (m : jMem) : ∀ n, (∀ j, j < n → it (fun k m => jup m 166 (27 + k) (m 175 k)) n 0 m 166 (27 + j) = m 175 j) ∧ (∀ y, y < 27 ∨ 27 + n ≤ y → it (fun k m => jup m 166 (27 + k) (m 175 k)) n 0 m 166 y = m 166 y) ∧ (∀ x y, x ≠ 166 → it (fun k m => jup m 166 (27 + k) (m 175 k)) n 0 m x y = m x y)
  | 0 => ⟨fun j hj => by omega, fun _ _ => rfl, fun _ _ _ => rfl⟩
  | n + 1 => by
    obtain ⟨i1, i2, i3⟩ := bg3_it m n
    rw [it_snoc, Nat.zero_add]
    generalize it (fun k m => jup m 166 (27 + k) (m 175 k)) n 0 m = s at i1 i2 i3
    refine ⟨fun j hj => ?_, fun y hy => ?_, fun x y hx => ?_⟩
    · by_cases z : j = n
      · subst z; rw [jup_self, i3 _ _ (by decide)]
      · rw [jup_oth2 (by omega)]; exact i1 j (by omega)
    · rw [jup_oth2 (by omega)]; exact i2 y (by omega)
    · rw [jup_oth hx]; exact i3 x y hx
theorem bg_rd (m : jMem) {n : Nat} (hn : n ≤ 5) : (∀ j, j < n → rBegin m n 167 j = m 174 (3 * j) ∧ rBegin m n 168 j = m 174 (3 * j + 1) ∧ rBegin m n 169 j = m 174 (3 * j + 2) ∧ rBegin m n 166 (2 + j) = m 174 (3 * j + 1)) ∧ rBegin m n 166 0 = m 165 18 ∧ rBegin m n 166 1 = 0 ∧ (∀ y, 7 ≤ y → y < 27 → rBegin m n 166 y = 0) ∧ (∀ i, i < 25 → rBegin m n 166 (27 + i) = m 175 i) ∧ (∀ y, 52 ≤ y → rBegin m n 166 y = m 166 y) ∧ rBegin m n 165 3 = m 165 15 ∧ rBegin m n 165 1 = 0 ∧ rBegin m n 165 2 = 0 ∧ rBegin m n 165 7 = 0 ∧ (∀ x y, (x < 165 ∨ 169 < x ∨ (x = 165 ∧ y ≠ 1 ∧ y ≠ 2 ∧ y ≠ 3 ∧ y ≠ 7)) → rBegin m n x y = m x y) := by
  unfold rBegin
  rw [fill_row]
  generalize hM0 : jrow (jup m 165 3 (m 165 15)) 166 (fun j => if j < 52 then 0 else jup m 165 3 (m 165 15) 166 j) = M0
  have a1 : ∀ y, y < 52 → M0 166 y = 0 := fun y hy => by rw [← hM0, jrow_at, if_pos rfl, if_pos hy]
  have a2 : ∀ y, 52 ≤ y → M0 166 y = m 166 y := fun y hy => by rw [← hM0, jrow_at, if_pos rfl, if_neg (by omega), jup_oth (by decide)]
  have a3 : ∀ x y, x ≠ 166 → (x ≠ 165 ∨ y ≠ 3) → M0 x y = m x y := fun x y h1 h2 => by
    rw [← hM0, jrow_at, if_neg h1]
    rcases h2 with w | w
    · exact jup_oth w
    · exact jup_oth2 w
  have a4 : M0 165 3 = m 165 15 := by rw [← hM0, jrow_at, if_neg (by decide), jup_self]
  obtain ⟨b1, b2, b3⟩ := bg2_it M0 n hn
  generalize it rBg2 n 0 M0 = M1 at b1 b2 b3
  obtain ⟨d1, d2, d3⟩ := bg3_it M1 25
  generalize it (fun k m => jup m 166 (27 + k) (m 175 k)) 25 0 M1 = M2 at d1 d2 d3
  have e165 : ∀ y, y ≠ 3 → M2 165 y = m 165 y := fun y hy => by rw [d3 _ _ (by decide), b3 _ _ (by omega), a3 _ _ (by decide) (by omega)]
  refine ⟨fun j hj => ?_, ?_, ?_, fun y h1 h2 => ?_, fun i hi => ?_, fun y hy => ?_, ?_, ?_, ?_, ?_, fun x y hx => ?_⟩
  · obtain ⟨k1, k2, k3, k4⟩ := b1 j hj
    have e : ∀ y, M0 174 y = m 174 y := fun y => a3 _ _ (by decide) (by omega)
    rw [e] at k1 k2 k3 k4
    refine ⟨?_, ?_, ?_, ?_⟩
    · rw [jup_oth (by decide), jup_oth (by decide), jup_oth (by decide), jup_oth (by decide), d3 _ _ (by decide)]; exact k1
    · rw [jup_oth (by decide), jup_oth (by decide), jup_oth (by decide), jup_oth (by decide), d3 _ _ (by decide)]; exact k2
    · rw [jup_oth (by decide), jup_oth (by decide), jup_oth (by decide), jup_oth (by decide), d3 _ _ (by decide)]; exact k3
    · rw [jup_oth (by decide), jup_oth (by decide), jup_oth (by decide), jup_oth2 (by omega), d2 _ (by omega)]; exact k4
  · rw [jup_oth (by decide), jup_oth (by decide), jup_oth (by decide), jup_self, e165 _ (by decide)]
  · rw [jup_oth (by decide), jup_oth (by decide), jup_oth (by decide), jup_oth2 (by decide), d2 _ (by omega), b2 _ (by omega), a1 _ (by omega)]
  · rw [jup_oth (by decide), jup_oth (by decide), jup_oth (by decide), jup_oth2 (by omega), d2 _ (by omega), b2 _ (by omega), a1 _ (by omega)]
  · rw [jup_oth (by decide), jup_oth (by decide), jup_oth (by decide), jup_oth2 (by omega), d1 i hi, b3 _ _ (by omega), a3 _ _ (by decide) (by omega)]
  · rw [jup_oth (by decide), jup_oth (by decide), jup_oth (by decide), jup_oth2 (by omega), d2 _ (by omega), b2 _ (by omega), a2 _ hy]
  · rw [jup_oth2 (by decide), jup_oth2 (by decide), jup_oth2 (by decide), jup_oth (by decide), d3 _ _ (by decide), b3 _ _ (by omega), a4]
  · rw [jup_oth2 (by decide), jup_oth2 (by decide), jup_self]
  · rw [jup_oth2 (by decide), jup_self]
  · rw [jup_self]
  · by_cases z : x = 165
    · subst z
      rw [jup_oth2 (by omega), jup_oth2 (by omega), jup_oth2 (by omega), jup_oth (by decide), e165 _ (by omega)]
    · rw [jup_oth z, jup_oth z, jup_oth z, jup_oth (by omega), d3 _ _ (by omega), b3 _ _ (by omega), a3 _ _ (by omega) (by omega)]
theorem ly_rd (c : jMem) {a : Nat} (ha : 14 ≤ a) : (∀ j, j < 5 → tLay c a (a + 1) j = c 11 j) ∧ (∀ j, j < 5 → tLay c a (a + 2) j = 0) ∧ (∀ j, j < 5 → tLay c a (a + 3) j = 0) ∧ (∀ j, j < 5 → tLay c a (a + 4) j = 0) ∧ (∀ j, j < 25 → tLay c a (a + 5) j = c 13 j) ∧ tLay c a a 6 = c 9 1 ∧ tLay c a a 7 = 0 ∧ (∀ x y, x < a ∨ a + 5 < x → tLay c a x y = c x y) := by
  unfold tLay rfl5 rcp
  refine ⟨fun j hj => ?_, fun j hj => ?_, fun j hj => ?_, fun j hj => ?_, fun j hj => ?_, ?_, ?_, fun x y hx => ?_⟩ <;> simp only [jup_at, jrow_at, and_self, and_true, true_and] <;> (repeat (first | rw [if_pos trivial] | rw [if_pos (by omega)] | rw [if_neg (by omega)]))
end Ly
