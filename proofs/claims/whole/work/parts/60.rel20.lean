/-! AN ITEM ON BOTH SIDES -/
theorem pWM_rd {M : jMem} {q n : Nat} (h0 : M q 0 = nI n) (hn : n < 5) (v0 v1 v2 : Int32) : (∀ j, pWM M q v0 v1 v2 (q + 1) j = if j = n then v0 else M (q + 1) j) ∧ (∀ j, pWM M q v0 v1 v2 (q + 2) j = if j = n then v1 else M (q + 2) j) ∧ (∀ j, pWM M q v0 v1 v2 (q + 3) j = if j = n then v2 else M (q + 3) j) ∧ pWM M q v0 v1 v2 q 0 = nI (n + 1) ∧ pWM M q v0 v1 v2 q 1 = M q 1 ∧ (∀ j, pWM M q v0 v1 v2 (q + 4) j = M (q + 4) j) := by
  have hs : pS M q = n := by unfold pS; rw [h0, nI_clamp (by omega)]
  unfold pWM
  rw [hs]
  refine ⟨fun j => ?_, fun j => ?_, fun j => ?_, ?_, ?_, fun j => ?_⟩
  · rw [jup_oth (by omega), jup_oth (by omega), jup_oth (by omega)]
    by_cases z : j = n
    · rw [if_pos z, z, jup_self]
    · rw [if_neg z, jup_oth2 z]
  · rw [jup_oth (by omega), jup_oth (by omega)]
    by_cases z : j = n
    · rw [if_pos z, z, jup_self]
    · rw [if_neg z, jup_oth2 z, jup_oth (by omega)]
  · rw [jup_oth (by omega)]
    by_cases z : j = n
    · rw [if_pos z, z, jup_self]
    · rw [if_neg z, jup_oth2 z, jup_oth (by omega), jup_oth (by omega)]
  · rw [jup_self, jup_oth (by omega), jup_oth (by omega), jup_oth (by omega), h0, nI_1]
  · rw [jup_oth2 (by decide), jup_oth (by omega), jup_oth (by omega), jup_oth (by omega)]
  · rw [jup_oth (by omega), jup_oth (by omega), jup_oth (by omega), jup_oth (by omega)]
theorem adw_rd (d : jMem) (n : Nat) (v0 v1 v2 : Int32) : (∀ j, j < n → ∀ e, e < 3 → rAddW d n v0 v1 v2 174 (3 * j + e) = d 174 (3 * j + e)) ∧ rAddW d n v0 v1 v2 174 (3 * n) = v0 ∧ rAddW d n v0 v1 v2 174 (3 * n + 1) = v1 ∧ rAddW d n v0 v1 v2 174 (3 * n + 2) = v2 ∧ rAddW d n v0 v1 v2 165 15 = d 165 15 + 1 ∧ (∀ y, y ≠ 15 → rAddW d n v0 v1 v2 165 y = d 165 y) ∧ (∀ x y, x ≠ 174 → x ≠ 165 → rAddW d n v0 v1 v2 x y = d x y) := by
  unfold rAddW
  refine ⟨fun j hj e he => ?_, ?_, ?_, ?_, ?_, fun y hy => ?_, fun x y h1 h2 => ?_⟩
  · rw [jup_oth (by decide), jup_oth2 (by omega), jup_oth2 (by omega), jup_oth2 (by omega)]
  · rw [jup_oth (by decide), jup_oth2 (by omega), jup_oth2 (by omega), jup_self]
  · rw [jup_oth (by decide), jup_oth2 (by omega), jup_self]
  · rw [jup_oth (by decide), jup_self]
  · rw [jup_self, jup_oth (by decide), jup_oth (by decide), jup_oth (by decide)]
  · rw [jup_oth2 hy, jup_oth (by decide), jup_oth (by decide), jup_oth (by decide)]
  · rw [jup_oth h2, jup_oth h1, jup_oth h1, jup_oth h1]
theorem xo_rng {v l h : Int32} (z : xOut v l h = false) : l.toInt ≤ v.toInt ∧ v.toInt ≤ h.toInt := by
  have := of_decide_eq_false z
  rw [i_lt, i_lt] at this
  omega
section It
variable {tl q n k : Nat} {c m : jMem}
theorem item_w (hq : q = 4 ∨ q = 9) (h : TX tl c m) (hL : PL q n c m) (h13 : m 165 13 = nI k) (hk : k < 900) : IT tl q k (xFin q 119 (xItL 3 3 0 k c)) (rTW m k) := by
  obtain ⟨p1, p2, p3, p4, p5, p6, p7⟩ := hL
  have f0 := fs_2 c k
  have f1 := fs_2 c (k + xFs c k + 1)
  have f2 := fs_2 c (k + xFs c k + 1 + xFs c (k + xFs c k + 1) + 1)
  have T := tn3 h h13 hk 0 3 1 60 0 7
  have X := x3_it c k
  generalize xNum c (k + xFs c k + 1 + xFs c (k + xFs c k + 1) + 1) (nI (xFs c (k + xFs c k + 1 + xFs c (k + xFs c k + 1) + 1))) = v2 at T X
  generalize xNum c (k + xFs c k + 1) (nI (xFs c (k + xFs c k + 1))) = v1 at T X
  generalize xNum c k (nI (xFs c k)) = v0 at T X
  generalize xFs c (k + xFs c k + 1 + xFs c (k + xFs c k + 1) + 1) = w2 at T X f2
  generalize xFs c (k + xFs c k + 1) = w1 at T X f1
  generalize xFs c k = w0 at T X f0
  unfold rTW
  rw [p2, nI_clamp (by omega)]
  have e5 : (nI n = 5) ↔ n = 5 := by rw [show (5 : Int32) = nI 5 by decide, nI_eq (by omega) (by omega)]
  have l5 : (nI n < 5) ↔ n < 5 := by rw [show (5 : Int32) = nI 5 by decide, nI_ltI (by omega) (by omega)]
  have refnone : ((∃ a, rTn m 0 3 44 k = (none, a)) ∨ ∃ a, rTn m 0 3 44 k = (some (k + w0 + 1), a) ∧ (∀ x y, x ≠ 165 ∨ (y ≠ 13 ∧ y ≠ 14) → a x y = m x y) ∧ ((∃ b, rTn a 1 60 44 (k + w0 + 1) = (none, b)) ∨ ∃ b, rTn a 1 60 44 (k + w0 + 1) = (some (k + w0 + 1 + w1 + 1), b) ∧ ∃ d, rTn b 0 7 59 (k + w0 + 1 + w1 + 1) = (none, d))) → (rTW1 n (rTn m 0 3 44 k)).1 = none := by
    rintro (⟨a, ea⟩ | ⟨a, ea, -, ⟨b, eb⟩ | ⟨b, eb, d, ed⟩⟩)
    · rw [ea]; rfl
    · rw [ea]; show (rTW2 n (a 165 14) (rTn a 1 60 44 (k + w0 + 1))).1 = none
      rw [eb]; rfl
    · rw [ea]; show (rTW2 n (a 165 14) (rTn a 1 60 44 (k + w0 + 1))).1 = none
      rw [eb]; show (rTW3 n (a 165 14) (b 165 14) (rTn b 0 7 59 (k + w0 + 1 + w1 + 1))).1 = none
      rw [ed]; rfl
  rcases X with ⟨hC, eC⟩ | ⟨hC, eC⟩
  · rw [eC]
    generalize hM : jup (jup (jup c 3 0 v0) 3 1 v1) 3 2 v2 = M
    have M0 : M 3 0 = v0 := by rw [← hM, jup_oth2 (by decide), jup_oth2 (by decide), jup_self]
    have M1 : M 3 1 = v1 := by rw [← hM, jup_oth2 (by decide), jup_self]
    have M2 : M 3 2 = v2 := by rw [← hM, jup_self]
    have Mx : ∀ x y, x ≠ 3 → M x y = c x y := fun x y hx => by rw [← hM, jup_oth hx, jup_oth hx, jup_oth hx]
    have Mq : M q 0 = nI n := (Mx _ _ (by omega)).trans p1
    have eF : xFin q 119 (some (k + w0 + 1 + w1 + 1 + w2 + 1), M) = (if pTB M q 119 v0 v1 v2 = true then some (k + w0 + 1 + w1 + 1 + w2 + 1) else none, pTM M q 119 v0 v1 v2) := by
      unfold xFin; dsimp only; rw [M0, M1, M2]
    have eB : pTB M q 119 v0 v1 v2 = (decide (nI n < 5) && !(xOut v0 0 3) && !(xOut v1 1 60) && !(xOut v2 0 7)) := by
      unfold pTB pWB
      rw [if_pos rfl, Mq]
    rw [eF]
    by_cases n5 : n = 5
    · rw [if_pos (e5.mpr n5)]
      have : pTB M q 119 v0 v1 v2 = false := by rw [eB, decide_eq_false (fun y => by rw [l5] at y; omega)]; rfl
      rw [this]
      exact Or.inr ⟨rfl, rfl⟩
    · rw [if_neg (fun y => n5 (e5.mp y))]
      have n4 : n < 5 := by omega
      rcases T with ⟨⟨-, o0, o1, o2⟩, a, b, d, E0, E1, E2, a14, b14, d14, d13, fr⟩ | ⟨t1, t2⟩
      · have hB : pTB M q 119 v0 v1 v2 = true := by rw [eB, decide_eq_true (l5.mpr n4), o0, o1, o2]; rfl
        have hP : pTM M q 119 v0 v1 v2 = pWM M q v0 v1 v2 := by unfold pTM; rw [if_pos hB, if_pos rfl]
        rw [hB, hP, b_t, E0]
        show IT tl q k _ (rTW2 n (a 165 14) (rTn a 1 60 44 (k + w0 + 1)))
        rw [E1]
        show IT tl q k _ (rTW3 n (a 165 14) (b 165 14) (rTn b 0 7 59 (k + w0 + 1 + w1 + 1)))
        rw [E2, a14, b14]
        show IT tl q k _ (some (k + w0 + 1 + w1 + 1 + w2 + 1), rAddW d n v0 v1 (d 165 14))
        rw [d14]
        obtain ⟨r1, r2, r3, r4, r5, r6⟩ := pWM_rd Mq n4 v0 v1 v2
        obtain ⟨s1, s2, s3, s4, s5, s6, s7⟩ := adw_rd d n v0 v1 v2
        have pf : ∀ x y, x < q ∨ q + 4 < x → pWM M q v0 v1 v2 x y = M x y := fun x y hx => by rw [← hP]; exact pTM_lo hx M 119 v0 v1 v2
        refine Or.inl ⟨_, _, _, rfl, rfl, by omega, by omega, h.keep (fun x y hx => (pf x y (by omega)).trans (Mx x y (by omega))) ((s6 12 (by decide)).trans (fr _ _ (by omega)).2) (fun y => (s7 173 y (by decide) (by decide)).trans (fr _ _ (by omega)).2), ⟨n + 1, r4, ?_, by omega, fun j hj => ?_, fun i hi => ?_, ?_, ?_⟩, (s6 13 (by decide)).trans d13⟩
        · rw [s5, (fr _ _ (by omega)).2, p2, nI_1]
        · rw [r1, r2, r3]
          by_cases z : j = n
          · subst z
            rw [if_pos rfl, if_pos rfl, if_pos rfl, s2, s3, s4]
            have := xo_rng o1
            rw [i_n1, show (60 : Int32).toInt = 60 by decide] at this
            exact ⟨rfl, rfl, rfl, this⟩
          · have s1' : ∀ e, e < 3 → rAddW d n v0 v1 v2 174 (3 * j + e) = m 174 (3 * j + e) := fun e he => (s1 j (by omega) e he).trans (fr _ _ (by omega)).2
            rw [if_neg z, if_neg z, if_neg z, show 3 * j = 3 * j + 0 from rfl, s1' 0 (by omega), s1' 1 (by omega), s1' 2 (by omega), Mx _ _ (by omega), Mx _ _ (by omega), Mx _ _ (by omega)]
            exact p4 j (by omega)
        · rw [r6, Mx _ _ (by omega), s7 175 i (by decide) (by decide), (fr _ _ (by omega)).2]; exact p5 i hi
        · rw [r5, Mx _ _ (by omega), s6 18 (by decide), (fr _ _ (by omega)).2]; exact p6
        · rw [r5, Mx _ _ (by omega)]; exact p7
      · have : pTB M q 119 v0 v1 v2 = false := by
          rw [eB]
          cases o0 : xOut v0 0 3 with
          | true => simp
          | false =>
            cases o1 : xOut v1 1 60 with
            | true => simp
            | false =>
              cases o2 : xOut v2 0 7 with
              | true => simp
              | false => exact absurd ⟨hC, o0, o1, o2⟩ t1
        rw [this]
        exact Or.inr ⟨rfl, refnone t2⟩
  · obtain ⟨M, eM⟩ := of_none eC
    rw [eM]
    refine Or.inr ⟨rfl, ?_⟩
    split
    · rfl
    · rcases T with ⟨⟨t, -⟩, -⟩ | ⟨t1, t2⟩
      · exact absurd t hC
      · exact refnone t2
theorem item_h (hq : q = 4 ∨ q = 9) (h : TX tl c m) (hL : PL q n c m) (h13 : m 165 13 = nI k) (hk : k < 900) : IT tl q k (xFin q 104 (xItL 3 3 0 k c)) (rTP m k) := by
  obtain ⟨p1, p2, p3, p4, p5, p6, p7⟩ := hL
  have f0 := fs_2 c k
  have f1 := fs_2 c (k + xFs c k + 1)
  have f2 := fs_2 c (k + xFs c k + 1 + xFs c (k + xFs c k + 1) + 1)
  have T := tn3 h h13 hk 0 (nI n - 1) 0 (nI n - 1) 1 40
  have X := x3_it c k
  generalize xNum c (k + xFs c k + 1 + xFs c (k + xFs c k + 1) + 1) (nI (xFs c (k + xFs c k + 1 + xFs c (k + xFs c k + 1) + 1))) = v2 at T X
  generalize xNum c (k + xFs c k + 1) (nI (xFs c (k + xFs c k + 1))) = v1 at T X
  generalize xNum c k (nI (xFs c k)) = v0 at T X
  generalize xFs c (k + xFs c k + 1 + xFs c (k + xFs c k + 1) + 1) = w2 at T X f2
  generalize xFs c (k + xFs c k + 1) = w1 at T X f1
  generalize xFs c k = w0 at T X f0
  unfold rTP
  rw [p2]
  have refnone : ((∃ a, rTn m 0 (nI n - 1) 44 k = (none, a)) ∨ ∃ a, rTn m 0 (nI n - 1) 44 k = (some (k + w0 + 1), a) ∧ (∀ x y, x ≠ 165 ∨ (y ≠ 13 ∧ y ≠ 14) → a x y = m x y) ∧ ((∃ b, rTn a 0 (nI n - 1) 44 (k + w0 + 1) = (none, b)) ∨ ∃ b, rTn a 0 (nI n - 1) 44 (k + w0 + 1) = (some (k + w0 + 1 + w1 + 1), b) ∧ ∃ d, rTn b 1 40 59 (k + w0 + 1 + w1 + 1) = (none, d))) → (rTP1 (rTn m 0 (nI n - 1) 44 k)).1 = none := by
    rintro (⟨a, ea⟩ | ⟨a, ea, fa, ⟨b, eb⟩ | ⟨b, eb, d, ed⟩⟩)
    · rw [ea]; rfl
    · rw [ea]; show (rTP2 a (rTn a 0 (a 165 15 - 1) 44 (k + w0 + 1))).1 = none
      rw [fa _ _ (by omega), p2, eb]; rfl
    · rw [ea]; show (rTP2 a (rTn a 0 (a 165 15 - 1) 44 (k + w0 + 1))).1 = none
      rw [fa _ _ (by omega), p2, eb]; show (if b 165 14 = a 165 14 then (none, b) else rTP3 a b (rTn b 1 40 59 (k + w0 + 1 + w1 + 1))).1 = none
      split
      · rfl
      · rw [ed]; rfl
  rcases X with ⟨hC, eC⟩ | ⟨hC, eC⟩
  · rw [eC]
    generalize hM : jup (jup (jup c 3 0 v0) 3 1 v1) 3 2 v2 = M
    have M0 : M 3 0 = v0 := by rw [← hM, jup_oth2 (by decide), jup_oth2 (by decide), jup_self]
    have M1 : M 3 1 = v1 := by rw [← hM, jup_oth2 (by decide), jup_self]
    have M2 : M 3 2 = v2 := by rw [← hM, jup_self]
    have Mx : ∀ x y, x ≠ 3 → M x y = c x y := fun x y hx => by rw [← hM, jup_oth hx, jup_oth hx, jup_oth hx]
    have Mq : M q 0 = nI n := (Mx _ _ (by omega)).trans p1
    have eF : xFin q 104 (some (k + w0 + 1 + w1 + 1 + w2 + 1), M) = (if pTB M q 104 v0 v1 v2 = true then some (k + w0 + 1 + w1 + 1 + w2 + 1) else none, pTM M q 104 v0 v1 v2) := by
      unfold xFin; dsimp only; rw [M0, M1, M2]
    have eB : pTB M q 104 v0 v1 v2 = (!(xOut v0 0 (nI n - 1)) && !(xOut v1 0 (nI n - 1)) && !(decide (v0 = v1)) && !(xOut v2 1 40)) := by
      unfold pTB pPB
      rw [if_neg (by decide), if_pos rfl, Mq]
    rw [eF]
    rcases T with ⟨⟨-, o0, o1, o2⟩, a, b, d, E0, E1, E2, a14, b14, d14, d13, fr⟩ | ⟨t1, t2⟩
    · rw [E0]
      show IT tl q k _ (rTP2 a (rTn a 0 (a 165 15 - 1) 44 (k + w0 + 1)))
      rw [(fr _ _ (by omega)).1, p2, E1]
      show IT tl q k _ (if b 165 14 = a 165 14 then (none, b) else rTP3 a b (rTn b 1 40 59 (k + w0 + 1 + w1 + 1)))
      rw [b14, a14]
      by_cases ev : v1 = v0
      · rw [if_pos ev]
        have : pTB M q 104 v0 v1 v2 = false := by rw [eB, ev]; simp
        rw [this]
        exact Or.inr ⟨rfl, rfl⟩
      · rw [if_neg ev, E2]
        show IT tl q k _ (some (k + w0 + 1 + w1 + 1 + w2 + 1), jup d 175 (5 * a 165 14 + b 165 14).toNatClampNeg (d 165 14))
        have hB : pTB M q 104 v0 v1 v2 = true := by rw [eB, o0, o1, o2, decide_eq_false (fun y => ev y.symm)]; rfl
        have hP : pTM M q 104 v0 v1 v2 = jup M (q + 4) (v0 * 5 + v1).toNatClampNeg v2 := by unfold pTM; rw [if_pos hB, if_neg (by decide), if_pos rfl]; rfl
        rw [hB, hP, b_t, a14, b14, d14]
        obtain ⟨i, i1, i2⟩ := out_in rfl p3 o0
        obtain ⟨j, j1, j2⟩ := out_in rfl p3 o1
        have e1 : v0 * 5 + v1 = nI (i * 5 + j) := by rw [i2, j2, show (5 : Int32) = nI 5 by decide, nI_mulN, nI_add]
        have e2 : 5 * v0 + v1 = nI (i * 5 + j) := by rw [Int32.mul_comm, e1]
        rw [e1, e2, nI_clamp (by omega)]
        have o2' := xo_rng o2
        rw [i_n1, show (40 : Int32).toInt = 40 by decide] at o2'
        refine Or.inl ⟨_, _, _, rfl, rfl, by omega, by omega, h.keep (fun x y hx => (jup_oth (by omega)).trans (Mx x y (by omega))) ((jup_oth (by decide)).trans (fr _ _ (by omega)).2) (fun y => (jup_oth (by decide)).trans (fr _ _ (by omega)).2), ⟨n, ?_, ?_, p3, fun j hj => ?_, fun i' hi => ?_, ?_, ?_⟩, (jup_oth (by decide)).trans d13⟩
        · rw [jup_oth (by omega)]; exact Mq
        · rw [jup_oth (by decide), (fr _ _ (by omega)).2, p2]
        · rw [jup_oth (by omega), jup_oth (by omega), jup_oth (by omega), jup_oth (by omega), jup_oth (by omega), jup_oth (by omega), Mx _ _ (by omega), Mx _ _ (by omega), Mx _ _ (by omega), (fr _ _ (by omega)).2, (fr _ _ (by omega)).2, (fr _ _ (by omega)).2]
          exact p4 j hj
        · by_cases z : i' = i * 5 + j
          · rw [z, jup_self, jup_self]; exact ⟨rfl, by omega, by omega⟩
          · rw [jup_oth2 z, jup_oth2 z, Mx _ _ (by omega), (fr _ _ (by omega)).2]; exact p5 i' hi
        · rw [jup_oth (by omega), Mx _ _ (by omega), jup_oth (by decide), (fr _ _ (by omega)).2]; exact p6
        · rw [jup_oth (by omega), Mx _ _ (by omega)]; exact p7
    · have : pTB M q 104 v0 v1 v2 = false := by
        rw [eB]
        cases o0 : xOut v0 0 (nI n - 1) with
        | true => simp
        | false =>
          cases o1 : xOut v1 0 (nI n - 1) with
          | true => simp
          | false =>
            cases o2 : xOut v2 1 40 with
            | true => simp
            | false => exact absurd ⟨hC, o0, o1, o2⟩ t1
      rw [this]
      exact Or.inr ⟨rfl, refnone t2⟩
  · obtain ⟨M, eM⟩ := of_none eC
    rw [eM]
    refine Or.inr ⟨rfl, ?_⟩
    rcases T with ⟨⟨t, -⟩, -⟩ | ⟨t1, t2⟩
    · exact absurd t hC
    · exact refnone t2
theorem item_s (hq : q = 4 ∨ q = 9) (h : TX tl c m) (hL : PL q n c m) (h13 : m 165 13 = nI k) (hk : k < 900) : IT tl q k (xFin q 115 (xItL 1 1 0 k c)) (rTS m k) := by
  obtain ⟨p1, p2, p3, p4, p5, p6, p7⟩ := hL
  have f0 := fs_2 c k
  obtain ⟨fr, T⟩ := tn_spec h h13 (by omega) (l := 0) (hh := 60) (sg := 59) (by decide) (by decide)
  have X := xit_step 1 0 0 k c
  rw [show xSep 1 0 = 59 by decide] at X
  generalize xNum c k (nI (xFs c k)) = v0 at T X
  generalize xFs c k = w0 at T X f0
  unfold rTS
  rcases X with ⟨hC, eC⟩ | ⟨hC, eC⟩
  · rw [eC]
    show IT tl q k (xFin q 115 (some (k + w0 + 1), jup c 3 0 v0)) _
    generalize hM : jup c 3 0 v0 = M
    have M0 : M 3 0 = v0 := by rw [← hM, jup_self]
    have Mx : ∀ x y, x ≠ 3 → M x y = c x y := fun x y hx => by rw [← hM, jup_oth hx]
    have eB : ∀ y z, pTB M q 115 v0 y z = !(xOut v0 0 60) := fun y z => by
      unfold pTB
      rw [if_neg (by decide), if_neg (by decide)]
    have eF : xFin q 115 (some (k + w0 + 1), M) = (if (!(xOut v0 0 60)) = true then some (k + w0 + 1) else none, pTM M q 115 v0 (M 3 1) (M 3 2)) := by
      unfold xFin; dsimp only; rw [M0, eB]
    rw [eF]
    rcases T with ⟨-, o0, a, E0, a14, a13⟩ | ⟨t1, t2⟩
    · rw [E0] at fr
      rw [E0]
      show IT tl q k _ (some (k + w0 + 1), jup a 165 18 (a 165 14))
      have hP : pTM M q 115 v0 (M 3 1) (M 3 2) = jup M q 1 v0 := by unfold pTM; rw [if_pos (by rw [eB, o0]; rfl), if_neg (by decide), if_neg (by decide)]
      rw [hP, o0, b_nf, a14]
      have fr' : ∀ x y, x ≠ 165 ∨ (y ≠ 13 ∧ y ≠ 14) → a x y = m x y := fr
      have o0' := xo_rng o0
      rw [i_n0, show (60 : Int32).toInt = 60 by decide] at o0'
      refine Or.inl ⟨_, _, _, rfl, rfl, by omega, by omega, h.keep (fun x y hx => (jup_oth (by omega)).trans (Mx x y (by omega))) ((jup_oth2 (by decide)).trans (fr' _ _ (by omega))) (fun y => (jup_oth (by decide)).trans (fr' _ _ (by omega))), ⟨n, ?_, ?_, p3, fun j hj => ?_, fun i' hi => ?_, ?_, ?_⟩, (jup_oth2 (by decide)).trans a13⟩
      · rw [jup_oth2 (by decide), Mx _ _ (by omega)]; exact p1
      · rw [jup_oth2 (by decide), fr' _ _ (by omega), p2]
      · rw [jup_oth (by omega), jup_oth (by omega), jup_oth (by omega), jup_oth (by omega), jup_oth (by omega), jup_oth (by omega), Mx _ _ (by omega), Mx _ _ (by omega), Mx _ _ (by omega), fr' _ _ (by omega), fr' _ _ (by omega), fr' _ _ (by omega)]
        exact p4 j hj
      · rw [jup_oth (by omega), jup_oth (by decide), Mx _ _ (by omega), fr' _ _ (by omega)]; exact p5 i' hi
      · rw [jup_self, jup_self]
      · rw [jup_self]; exact o0'
    · obtain ⟨a, ea⟩ := of_none t2
      rw [ea]
      have o0 : xOut v0 0 60 = true := by
        cases o : xOut v0 0 60 with
        | true => rfl
        | false => exact absurd ⟨hC, o⟩ t1
      rw [o0, b_nt]
      exact Or.inr ⟨rfl, rfl⟩
  · obtain ⟨M, eM⟩ := of_none eC
    rw [eM]
    refine Or.inr ⟨rfl, ?_⟩
    rcases T with ⟨t, -⟩ | ⟨t1, t2⟩
    · exact absurd t hC
    · obtain ⟨a, ea⟩ := of_none t2
      rw [ea]; rfl
theorem item_sim (hq : q = 4 ∨ q = 9) (h : TX tl c m) (hL : PL q n c m) (h13 : m 165 13 = nI k) (hk : k < 800) : IT tl q (k + 1) (xItem q c k) (rItem m k) := by
  have f0 : ∀ x y, x ≠ 165 ∨ y ≠ 13 → jup m 165 13 (m 165 13 + 1) x y = m x y := fun x y hx => by
    rcases hx with w | w
    · exact jup_oth w
    · exact jup_oth2 w
  have h1 : TX tl c (jup m 165 13 (m 165 13 + 1)) := h.keep (fun _ _ _ => rfl) (f0 _ _ (by omega)) (fun y => f0 _ _ (by omega))
  have hL1 : PL q n c (jup m 165 13 (m 165 13 + 1)) := hL.keep (fun _ _ _ => rfl) (fun x y hx => f0 x y (by omega))
  have h14 : jup m 165 13 (m 165 13 + 1) 165 13 = nI (k + 1) := by rw [jup_self, h13, nI_1]
  unfold xItem rItem
  dsimp only
  have i1 := h.is (k := k) (by omega) (ch := 119) (by decide) (by decide)
  have i2 := h.is (k := k) (by omega) (ch := 104) (by decide) (by decide)
  have i3 := h.is (k := k) (by omega) (ch := 115) (by decide) (by decide)
  by_cases z1 : xLt c k = 119
  · rw [if_pos (Or.inl z1), if_pos (i1.mpr z1), z1]
    exact item_w hq h1 hL1 h14 (by omega)
  · rw [if_neg (fun y => z1 (i1.mp y))]
    by_cases z2 : xLt c k = 104
    · rw [if_pos (Or.inr z2), if_pos (i2.mpr z2), z2]
      exact item_h hq h1 hL1 h14 (by omega)
    · rw [if_neg (fun y => y.elim z1 z2), if_neg (fun y => z2 (i2.mp y))]
      by_cases z3 : xLt c k = 115
      · rw [if_pos z3, if_pos (i3.mpr z3), z3]
        exact item_s hq h1 hL1 h14 (by omega)
      · rw [if_neg z3, if_neg (fun y => z3 (i3.mp y))]
        exact Or.inr ⟨rfl, rfl⟩
end It
