theorem s_order {p x u q n tl : Nat} {c m : jMem} (h : Rel p x u q n tl c m) (ν : jNu) (k : Int32) : ∃ vm m', rOrder m k p = some (vm, m') ∧ OKc c m (cOrder c ν p k).1 (cOrder c ν p k).2.1 vm m' := by
  have hp := h.1.p5
  unfold cOrder rOrder
  rw [g_in (l := -1) (h := 9) (by decide) (by decide)]
  cases z : xOut k (-1) 9 with
  | true => rw [b_t, b_nt]; exact ⟨_, _, rfl, OKc.same h rfl⟩
  | false =>
    rw [b_f, b_nf]
    unfold oRun rBo
    generalize hc0 : jup (jup c 81 6 0) 81 7 1000 = c0
    have a0 : ∀ x y, (x ≠ 81 ∨ (y ≠ 6 ∧ y ≠ 7)) → c0 x y = c x y := fun x y hx => by rw [← hc0, jup_at, if_neg (by omega), jup_at, if_neg (by omega)]
    have a7 : c0 81 7 = 1000 := by rw [← hc0, jup_self]
    generalize hc1 : tCp c0 (87 + 6 * 0) 14 = c1
    have a1 : ∀ x y, (x < 87 ∨ 92 < x) → c1 x y = c0 x y := fun x y hx => by rw [← hc1]; exact tc_out (by omega)
    have a1i : ∀ k j, tfld k j → c1 (87 + 6 * 0 + k) j = c (14 + k) j := fun k j w => by
      rw [← hc1, tc_in twn_87 twn_14 (by omega) w]
      exact a0 _ _ (by have := tfld_6 w; omega)
    generalize hm0 : rCopy (jup m 165 24 0) 0 624 = m0
    have b0 : ∀ x y, x ≠ 166 → (x ≠ 165 ∨ y ≠ 24) → m0 x y = m x y := fun x y h1 h2 => by rw [← hm0, rCopy_lo _ _ _ h1, jup_at, if_neg (by omega)]
    have b0r : ∀ y, y < 624 → m0 166 y = m 166 y := fun y hy => by rw [← hm0, cp_out (by omega) (by omega), jup_oth (by decide)]
    have b0i : ∀ j, j < 52 → m0 166 (624 + 52 * 0 + j) = m 166 (0 + j) := fun j hj => by
      rw [← hm0]
      exact (cp_in (by omega) hj).trans (jup_oth (by decide))
    generalize hm1 : jup (jup m0 178 0 (-1)) 179 0 0 = m1
    have b1 : ∀ x y, x ≠ 178 → x ≠ 179 → m1 x y = m0 x y := fun x y h1 h2 => by rw [← hm1, jup_oth h2, jup_oth h1]
    have b179 : m1 179 0 = 0 := by rw [← hm1, jup_self]
    generalize hν : jrow ν 85 (fun j => if j < 1024 then 0 else ν 85 j) = ν1
    have n0 : ∀ j, j < 1024 → ν1 85 j = 0 := fun j hj => by rw [← hν, jrow_at, if_pos rfl, if_pos hj]
    have hT := h.2.2.1
    have hpl : ∀ x y, x < 14 → c1 x y = c x y := fun x y hx => (a1 x y (by omega)).trans (a0 x y (by omega))
    have hG : GN p (87 + 6 * 0) (624 + 52 * 0) c1 m1 := by
      refine ⟨h.1.keep2 (fun x y hx => hpl x y (by omega)) (fun x y hx => (b1 x y (by omega) (by omega)).trans (b0 x y (by omega) (by omega))), h.2.1.keep (fun y => hpl _ _ (by omega)), hT.1.weak.move hp a1i (fun j _ => hpl _ _ (by omega)) (fun j hj => (b1 _ _ (by decide) (by decide)).trans (b0i j hj)), hT.2.move hp a1i (fun j _ => hpl _ _ (by omega)), by omega⟩
    have hfe : ∀ k, k < p → q_fe c1 (87 + 6 * 0) k = q_fe c 14 k := fun k hk => by
      unfold q_fe
      rw [a1i 4 k (Or.inl ⟨by omega, by omega, by omega⟩)]
    have hV : VD p c c1 (87 + 6 * 0) := by
      refine ⟨fun k hk => ?_, fun i hi => a1i 5 i (Or.inr (Or.inl ⟨rfl, hi⟩)), fun x y _ h2 => hpl x y (by omega), fun k hk => by rw [hfe k hk]; exact Int.le_refl _⟩
      rw [if_pos (hfe k hk)]
      exact a1i 2 k (Or.inl ⟨by omega, by omega, by omega⟩)
    have c17 : c1 81 7 = 1000 := (a1 _ _ (by omega)).trans a7
    obtain ⟨B', m', e1, e2, e3, e4, -, -, -⟩ := go_sim (c0 := c) 11 0 0 c1 ν1 1000000 m1 (fun _ _ => False) rfl hG hV (q_F10 (c := c1) (a := 87 + 6 * 0) hG.2.2.2.1.1).1 b179 (by decide) (by decide) (fun j hj => by omega) (Or.inl ⟨c17, rfl⟩) (fun j hj hn => absurd (n0 j hj) hn) (fun mk b hO => hO.elim)
    rw [e1]
    refine ⟨_, _, rfl, OKc.asks h ?_ (fun a b ha => ?_) (fun a b ha => ?_)⟩
    · dsimp only
      unfold cOrdV
      generalize (oGo p 11 0 0 (c1, ν1)).1 = s at e4 ⊢
      obtain ⟨kk, k1, k2⟩ : ∃ kk : Int, k.toInt = kk ∧ -1 ≤ kk ∧ kk ≤ 9 := ⟨k.toInt, rfl, by
        have := xo_rng z
        rw [show (-1 : Int32).toInt = -1 by decide, show (9 : Int32).toInt = 9 by decide] at this
        exact this⟩
      rcases e4 with ⟨f1, f2⟩ | ⟨f1, f2, f3, L, f4, f5, f6, f7⟩
      · rw [if_pos f1, f2, if_neg (by decide)]
      · have g1 : ¬ s 81 7 = 1000 := fun w => by
          rw [f1] at w
          rw [w, i_n1000.1] at f3
          omega
        have g2 : B' < 1000000 := by rw [i_lt, i_n1000.2]; omega
        rw [if_neg g1, if_pos g2]
        by_cases y : k = -1
        · have g3 : ¬ (0 : Int32) ≤ k := by rw [y]; decide
          rw [if_pos y, if_neg g3, f1]
        · have g3 : (0 : Int32) ≤ k := by
            rw [i_le, i_n0, k1]
            have : kk ≠ -1 := fun w => y (Int32.toInt_inj.mp (by rw [k1, w]; decide))
            omega
          rw [if_neg y, if_pos g3, f5]
          by_cases v : k < nI L
          · rw [if_pos v, if_pos (show k < m' 165 24 by rw [f6]; exact v)]
            obtain ⟨j, j1, j2⟩ := i_nat (x := k) (by rw [i_le, i_n0] at g3; exact g3)
            rw [i_lt, nI_toInt (by omega)] at v
            rw [j1, nI_clamp (by omega)]
            exact f7 j (by omega)
          · rw [if_neg v, if_neg (show ¬ k < m' 165 24 by rw [f6]; exact v)]
      
    · rw [e2 a b (by omega), a1 a b (by omega), a0 a b (by omega)]
    · by_cases v : a = 166
      · subst v
        exact (e3.2 b (by omega)).trans ((b1 _ _ (by decide) (by decide)).trans (b0r b (by omega)))
      · exact (e3.1 a b v (by omega) (by omega) (by omega) (by omega) (by omega) (by omega)).trans ((b1 a b (by omega) (by omega)).trans (b0 a b v (by omega)))
