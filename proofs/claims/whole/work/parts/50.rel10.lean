/-! NOTED: note, forget, thick -/
theorem s_note {p x u q n tl : Nat} {c m : jMem} (h : Rel p x u q n tl c m) (a b d : Int32) : OKc c m (cNote c a b d).1 (cNote c a b d).2 (rNote m a b d).1 (rNote m a b d).2 := by
  obtain ⟨t1, t2, t3, t4⟩ := h.2.2.2.2.2.1
  unfold cNote rNote
  rw [g_in (l := 1) (h := 9) (by decide) (by decide), g_in (l := 0) (h := 7) (by decide) (by decide), g_in (l := 0) (h := 1) (by decide) (by decide)]
  by_cases z : xOut a 1 9 = true ∨ xOut b 0 7 = true ∨ xOut d 0 1 = true
  · rw [if_pos z, if_neg (fun y => by
      obtain ⟨y1, y2, y3⟩ := y
      rcases z with z | z | z
      · rw [z] at y1; cases y1
      · rw [z] at y2; cases y2
      · rw [z] at y3; cases y3)]
    exact OKc.same h rfl
  · have z1 : xOut a 1 9 = false := Bool.eq_false_iff.mpr (fun y => z (Or.inl y))
    have z2 : xOut b 0 7 = false := Bool.eq_false_iff.mpr (fun y => z (Or.inr (Or.inl y)))
    have z3 : xOut d 0 1 = false := Bool.eq_false_iff.mpr (fun y => z (Or.inr (Or.inr y)))
    rw [if_neg z, z1, z2, z3, if_pos (c := (!false) = true ∧ (!false) = true ∧ (!false) = true) ⟨rfl, rfl, rfl⟩, t1, t2]
    have e6 : (6 : Int32) = nI 6 := by decide
    by_cases y : n = 6
    · subst y
      rw [if_pos (by decide), if_pos (by decide)]
      exact OKc.same h rfl
    · have g6 : ¬ (6 : Int32) ≤ nI n := by rw [e6, nI_leI (by omega) (by omega)]; omega
      have g7 : ¬ nI n = 6 := by rw [e6, nI_eq (by omega) (by omega)]; exact y
      rw [if_neg g6, if_neg g7, nI_clamp (by omega)]
      have en : (nEnd c n = true) ↔ (0 < nI n ∧ m 172 (n - 1) = 1) := by
        unfold nEnd
        rw [decide_eq_true_iff, show (0 : Int32) = nI 0 by decide, nI_ltI (by omega) (by omega)]
        constructor
        · intro w; exact ⟨w.1, by rw [← (t4 (n - 1) (by omega)).2.2.1]; exact w.2⟩
        · intro w; exact ⟨w.1, by rw [(t4 (n - 1) (by omega)).2.2.1]; exact w.2⟩
      by_cases w : nEnd c n = true
      · rw [if_pos w, if_pos (en.mp w)]
        exact OKc.same h rfl
      · rw [if_neg w, if_neg (fun v => w (en.mpr v))]
        obtain ⟨k, k1, k2, k3, -⟩ := g_out (L := 0) (H := 1) (by decide) (by decide) (by decide) (by decide) z3
        dsimp only
        have e1 : nAdd c n a b d 77 3 = nI (n + 1) := by
          unfold nAdd
          rw [jup_self, jup_oth (by decide), jup_oth (by decide), jup_oth (by decide), t1, nI_1]
        have e2 : rNtM m n a b d 165 7 = nI (n + 1) := by
          unfold rNtM
          rw [jup_self, jup_oth (by decide), jup_oth (by decide), jup_oth (by decide), t2, nI_1]
        have f1 : ∀ x y, x < 77 ∨ 80 < x → nAdd c n a b d x y = c x y := fun x y hx => by
          unfold nAdd
          rw [jup_oth (by omega), jup_oth (by omega), jup_oth (by omega), jup_oth (by omega)]
        have f2 : ∀ x y, (x ≠ 165 ∨ y ≠ 7) → (x < 170 ∨ 172 < x) → rNtM m n a b d x y = m x y := fun x y hx hy => by
          unfold rNtM
          rcases hx with w | w
          · rw [jup_oth w, jup_oth (by omega), jup_oth (by omega), jup_oth (by omega)]
          · rw [jup_oth2 w, jup_oth (by omega), jup_oth (by omega), jup_oth (by omega)]
        refine ⟨e1.trans e2.symm, ⟨p, x, u, q, n + 1, tl, h.sNote ⟨e1, e2, by omega, fun i hi => ?_⟩ (fun x y _ z => f1 x y z) (fun x y _ z => f2 x y z.1 z.2)⟩, fun x y hx => f1 x y (by omega), fun x y hx => f2 x y (by omega) (by omega)⟩
        unfold nAdd rNtM
        by_cases v : i = n
        · subst v
          have e4 : ∀ w, jup (jup (jup (jup m 170 i a) 171 i b) 172 i d) 165 7 w 172 i = d := fun w => by rw [jup_oth (by decide), jup_self]
          refine ⟨by simp [jup_at], by simp [jup_at], by simp [jup_at], ?_⟩
          rw [e4]
          have : k = 0 ∨ k = 1 := by omega
          rcases this with rfl | rfl
          · left; rw [k3]; decide
          · right; rw [k3]; decide
        · have := t4 i (by omega)
          simpa [jup_at, v] using this
theorem s_forget {p x u q n tl : Nat} {c m : jMem} (h : Rel p x u q n tl c m) : OKc c m (cForget c).1 (cForget c).2 (rForget m).1 (rForget m).2 := by
  obtain ⟨t1, t2, t3, t4⟩ := h.2.2.2.2.2.1
  show OKc c m (c 77 3) (jup c 77 3 0) (m 165 7) (jup m 165 7 0)
  refine ⟨t1.trans t2.symm, ⟨p, x, u, q, 0, tl, h.sNote ⟨jup_self _ _ _ _, jup_self _ _ _ _, by omega, fun i hi => by omega⟩ (fun x y _ z => jup_oth (by omega)) (fun x y _ z => ?_)⟩, fun x y hx => jup_oth (by omega), fun x y hx => jup_oth (by omega)⟩
  rcases z.1 with w | w
  · exact jup_oth w
  · exact jup_oth2 w
theorem so_cb {n : Nat} {c m : jMem} (h : RNote n c m) : ∀ (k i : Nat) (t : Int32) (b : Bool), i + k ≤ n → (it (rSoF m) k i (t, b)).2 = (b && nCb c k i t)
  | 0, i, t, b, _ => by simp [it, nCb]
  | k + 1, i, t, b, hk => by
    obtain ⟨t1, t2, t3, t4⟩ := h.2.2.2 i (by omega)
    rw [it, nCb]
    have e0 : rSoF m i (t, b) = (if t - m 170 i < 1 then 1 else t - m 170 i, b && (decide (t ≤ m 170 i * (m 171 i + 1)) == decide (m 172 i = 1))) := rfl
    rw [e0, so_cb h k (i + 1) _ _ (by omega)]
    rw [t1, t2, t3]
    have e1 : (jb (decide (t ≤ m 170 i * (m 171 i + 1))) = m 172 i) ↔ (decide (t ≤ m 170 i * (m 171 i + 1)) == decide (m 172 i = 1)) = true := by
      rcases t4 with w | w <;> rw [w] <;> cases decide (t ≤ m 170 i * (m 171 i + 1)) <;> decide
    by_cases z : jb (decide (t ≤ m 170 i * (m 171 i + 1))) = m 172 i
    · rw [if_pos z, e1.mp z, Bool.and_true]
      rfl
    · rw [if_neg z, Bool.eq_false_iff.mpr (fun y => z (e1.mpr y)), Bool.and_false, Bool.false_and]
theorem s_thick {p x u q n tl : Nat} {c m : jMem} (h : Rel p x u q n tl c m) (w : Int32) : OKc c m (cThick c w).1 (cThick c w).2 (rThick m w n).1 (rThick m w n).2 := by
  have hN := h.2.2.2.2.2.1
  have hb : ∀ t, rSo m t n = nCb c n 0 t := fun t => by
    unfold rSo
    rw [so_cb hN n 0 t true (by omega), Bool.true_and]
  have n6 := hN.2.2.1
  have e : it (cThF c n) 60 0 (0, -4) = it (rThF m n) 60 0 (0, -4) := it_congr (p := 60) (fun i s _ => by
    unfold cThF rThF
    rw [hb]
    cases nCb c n 0 (nI (60 - i)) with
    | true => rfl
    | false =>
      rw [b_f, b_f, b_f, Int32.add_zero]) 60 0 _ (by omega)
  unfold cThick rThick
  rw [g_in (l := 0) (h := 1) (by decide) (by decide), hN.1, nI_clamp (by omega), e]
  cases z : xOut w 0 1 with
  | true => rw [b_t, b_nt]; exact OKc.same h rfl
  | false => rw [b_f, b_nf]; exact OKc.same h rfl
/-! KEPT: keep, back -/
theorem Rel.kept_tw {i : Nat} (hi : i < 2) : tw (153 + 6 * i) := tw_k hi
theorem s_keep {p x u q n tl : Nat} {c m : jMem} (h : Rel p x u q n tl c m) : OKc c m (cKeep c).1 (cKeep c).2 (rKeep m q).1 (rKeep m q).2 := by
  obtain ⟨t1, t2, t3, t4⟩ := h.2.2.2.2.1
  have hp := h.1.p5
  unfold cKeep rKeep
  rw [t1, t2]
  by_cases z : q = 2
  · subst z
    rw [if_pos (by decide), if_pos (by decide)]
    exact OKc.same h rfl
  · have e2 : (2 : Int32) = nI 2 := by decide
    rw [if_neg (by rw [e2, nI_leI (by omega) (by omega)]; omega), if_neg (by rw [e2, nI_eq (by omega) (by omega)]; exact z), nI_clamp (by omega)]
    dsimp only
    have hq := tw_k (i := q) (by omega)
    have e1 : cKeepM c q 0 7 = nI (q + 1) := by
      unfold cKeepM
      rw [jup_self, tc_out (by omega), t1, nI_1]
    have f1 : ∀ x y, (x < 153 + 6 * q ∨ 153 + 6 * q + 5 < x) → x ≠ 0 → cKeepM c q x y = c x y := fun x y hx h0 => by
      unfold cKeepM
      rw [jup_oth h0, tc_out hx]
    have f0 : ∀ x y, x ≠ 0 → cKeepM c q x y = tCp c (153 + 6 * q) 14 x y := fun x y h0 => by
      unfold cKeepM
      exact jup_oth h0
    have g1 : ∀ x y, x ≠ 166 → (x ≠ 165 ∨ y ≠ 2) → jup (rCopy m 0 (104 + 52 * q)) 165 2 (nI (q + 1)) x y = m x y := fun x y hx h0 => by
      rcases h0 with w | w
      · rw [jup_oth w, rCopy_lo _ _ _ hx]
      · rw [jup_oth2 w, rCopy_lo _ _ _ hx]
    have g2 : ∀ y, (y < 104 + 52 * q ∨ 104 + 52 * q + 52 ≤ y) → jup (rCopy m 0 (104 + 52 * q)) 165 2 (nI (q + 1)) 166 y = m 166 y := fun y hy => by
      rw [jup_oth (by decide), cp_out (by omega) hy]
    refine ⟨e1.trans (jup_self _ _ _ _).symm, ⟨p, x, u, q + 1, n, tl, h.sKept ⟨e1, jup_self _ _ _ _, by omega, fun i hi => ?_⟩ (fun x y _ z => f1 x y (by omega) z.2) (fun x y hr z => ?_)⟩, fun x y hx => f1 x y (by omega) (by omega), fun x y hx => g1 x y (by omega) (by omega)⟩
    · by_cases w : i = q
      · subst w
        refine h.2.2.1.move hp (fun k j z => ?_) (fun j _ => f1 _ _ (by omega) (by decide)) (fun j hj => ?_)
        · rw [f0 _ _ (by omega)]; exact tc_in hq twn_14 (by omega) z
        · rw [jup_oth (by decide)]; exact cp_in (by omega) hj
      · exact (t4 i (by omega)).keep hp (fun x y hx => f1 x y (by omega) (by omega)) (fun y h1 h2 => g2 y (by omega))
    · by_cases w : x = 166
      · subst w; exact g2 y (by omega)
      · exact g1 x y w z.1
theorem s_back {p x u q n tl : Nat} {c m : jMem} (h : Rel p x u q n tl c m) : OKc c m (cBack c).1 (cBack c).2 (rBack m q).1 (rBack m q).2 := by
  obtain ⟨t1, t2, t3, t4⟩ := h.2.2.2.2.1
  have hp := h.1.p5
  unfold cBack rBack
  rw [t1, t2]
  by_cases z : q = 0
  · subst z
    rw [if_neg (by decide), if_pos (by decide)]
    exact OKc.same h rfl
  · have e2 : (1 : Int32) = nI 1 := by decide
    rw [if_pos (by rw [e2, nI_leI (by omega) (by omega)]; omega), if_neg (by rw [show (0 : Int32) = nI 0 by decide, nI_eq (by omega) (by omega)]; exact z), nI_clamp (by omega)]
    dsimp only
    have hq := tw_k (i := q - 1) (by omega)
    have e1 : cBackM c q 0 7 = nI (q - 1) := by
      unfold cBackM
      rw [jup_oth (by decide), tc_out (by omega), jup_self, t1, nI_predS (by omega)]
    have e3 : rBackM m q 165 2 = nI (q - 1) := by
      unfold rBackM
      rw [jup_oth2 (by decide), rCopy_lo _ _ _ (by decide), jup_self]
    have e4 : cBackM c q 26 2 = 0 := by unfold cBackM; exact jup_self _ _ _ _
    have e5 : rBackM m q 165 1 = 0 := by unfold rBackM; exact jup_self _ _ _ _
    have f1 : ∀ x y, (x < 14 ∨ 19 < x) → (x ≠ 0 ∨ y ≠ 7) → (x ≠ 26 ∨ y ≠ 2) → cBackM c q x y = c x y := fun x y hx h0 h26 => by
      unfold cBackM
      have e1 : jup (tCp (jup c 0 7 (c 0 7 - 1)) 14 (153 + 6 * (q - 1))) 26 2 0 x y = tCp (jup c 0 7 (c 0 7 - 1)) 14 (153 + 6 * (q - 1)) x y := by
        rcases h26 with w | w
        · exact jup_oth w
        · exact jup_oth2 w
      rw [e1, tc_out (by omega)]
      rcases h0 with w | w
      · exact jup_oth w
      · exact jup_oth2 w
    have g1 : ∀ x y, x ≠ 166 → (x ≠ 165 ∨ (y ≠ 2 ∧ y ≠ 1)) → rBackM m q x y = m x y := fun x y hx h0 => by
      unfold rBackM
      rcases h0 with w | w
      · rw [jup_oth w, rCopy_lo _ _ _ hx, jup_oth w]
      · rw [jup_oth2 w.2, rCopy_lo _ _ _ hx, jup_oth2 w.1]
    have g2 : ∀ y, 52 ≤ y → rBackM m q 166 y = m 166 y := fun y hy => by
      unfold rBackM
      rw [jup_oth (by decide), cp_out (by omega) (by omega), jup_oth (by decide)]
    have hT : TT p 14 0 (cBackM c q) (rBackM m q) := by
      refine (t4 (q - 1) (by omega)).move hp (fun k j z => ?_) (fun j _ => f1 _ _ (by omega) (by omega) (by omega)) (fun j hj => ?_)
      · have k6 := tfld_6 z
        unfold cBackM
        rw [jup_oth (by omega), tc_in twn_14 hq (by omega) z]
        exact jup_oth (by omega)
      · unfold rBackM
        rw [jup_oth (by decide), cp_in (by omega) hj]
        exact jup_oth (by decide)
    obtain ⟨r1, r2, r3, r4, r5, r6, r7⟩ := h
    refine ⟨e1.trans e3.symm, ⟨p, x, 0, q - 1, n, tl, ?_, ?_, hT, ?_, ?_, ?_, ?_⟩, fun x y hx => f1 x y (by omega) (by omega) (by omega), fun x y hx => g1 x y (by omega) (by omega)⟩
    · exact r1.keep2 (fun x y hx => f1 x y (by omega) (by omega) (by omega)) (fun x y hx => g1 x y (by omega) (by omega))
    · exact r2.keep (fun y => f1 _ _ (by omega) (by omega) (by omega))
    · exact ⟨(f1 _ _ (by omega) (by omega) (by omega)).trans r4.1, r4.2.1, e4, e5, by omega, fun i hi => by omega⟩
    · exact ⟨e1, e3, by omega, fun i hi => (t4 i (by omega)).keep hp (fun x y hx => f1 x y (by omega) (by omega) (by omega)) (fun y _ _ => g2 y (by omega))⟩
    · exact r6.keep (fun x y hx => f1 x y (by omega) (by omega) (by omega)) (g1 _ _ (by omega) (by omega)) (fun x y hx => g1 x y (by omega) (by omega))
    · exact r7.keep (fun x y hx => f1 x y (by omega) (by omega) (by omega)) (g1 _ _ (by omega) (by omega)) (fun y => g1 _ _ (by omega) (by omega))
