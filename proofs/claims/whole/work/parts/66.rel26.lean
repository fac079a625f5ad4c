/-- one wall of the search: the towns of the child -/
theorem child_cls {p dp w : Nat} {c0 c m : jMem} (hdp : dp ≤ 9) (h : GN p (87 + 6 * dp) (624 + 52 * dp) c m) (hv : VD p c0 c (87 + 6 * dp)) (hw : w < p) (hst : tSt c (87 + 6 * dp) w = true) (hf : ¬ tFew c (87 + 6 * dp) w = -4) :
    ∃ m3, (∀ g : Nat → Int32 × jMem → Option (Int32 × jMem), ∀ B, (rBl (rCopy (jup m 178 dp (nI w)) (624 + 52 * dp) (624 + 52 * dp + 52)) (624 + 52 * dp + 52) w (rCi (jup m 178 dp (nI w)) (624 + 52 * dp) w) p).bind (fun q => g (dp + 1) (B, rBoP q.2 dp q.1 (rCi (jup m 178 dp (nI w)) (624 + 52 * dp) w))) = g (dp + 1) (B, m3)) ∧
      GN p (87 + 6 * (dp + 1)) (624 + 52 * (dp + 1)) (tBlM (tCp (jup c 83 dp (nI w)) (87 + 6 * (dp + 1)) (87 + 6 * dp)) (87 + 6 * (dp + 1)) p w (tFew c (87 + 6 * dp) w)) m3 ∧ VD p c0 (tBlM (tCp (jup c 83 dp (nI w)) (87 + 6 * (dp + 1)) (87 + 6 * dp)) (87 + 6 * (dp + 1)) p w (tFew c (87 + 6 * dp) w)) (87 + 6 * (dp + 1)) ∧
      GN p (87 + 6 * dp) (624 + 52 * (dp + 1)) (tBlM c (87 + 6 * dp) p w (tFew c (87 + 6 * dp) w)) m3 ∧ m3 179 (dp + 1) = m 179 dp + tFew c (87 + 6 * dp) w ∧ m3 178 dp = nI w ∧ (∀ x y, x ≠ 166 → x ≠ 176 → x ≠ 177 → (x ≠ 178 ∨ y < dp) → (x ≠ 179 ∨ y ≤ dp) → m3 x y = m x y) ∧ (∀ y, y < 624 + 52 * (dp + 1) → m3 166 y = m 166 y) ∧
      q_F p (87 + 6 * dp) c + 1 ≤ q_F p (87 + 6 * (dp + 1)) (tBlM (tCp (jup c 83 dp (nI w)) (87 + 6 * (dp + 1)) (87 + 6 * dp)) (87 + 6 * (dp + 1)) p w (tFew c (87 + 6 * dp) w)) ∧
      (∀ x y, (x ≠ 83 ∨ y ≠ dp) → (x < 87 + 6 * (dp + 1) ∨ 87 + 6 * (dp + 1) + 5 < x) → tBlM (tCp (jup c 83 dp (nI w)) (87 + 6 * (dp + 1)) (87 + 6 * dp)) (87 + 6 * (dp + 1)) p w (tFew c (87 + 6 * dp) w) x y = c x y) ∧ tBlM (tCp (jup c 83 dp (nI w)) (87 + 6 * (dp + 1)) (87 + 6 * dp)) (87 + 6 * (dp + 1)) p w (tFew c (87 + 6 * dp) w) 83 dp = nI w := by
  have hp := h.1.p5
  have htw := tw_s (i := dp) (by omega)
  have htw' := tw_s (i := dp + 1) (by omega)
  have hne : 87 + 6 * (dp + 1) ≠ 87 + 6 * dp := by omega
  obtain ⟨m2, b1, b2, b3, b4, b5, b6, b7, b8⟩ := child_ref h hw hst hf
  generalize hc1 : jup c 83 dp (nI w) = c1
  have k1 : ∀ x y, (x ≠ 83 ∨ y ≠ dp) → c1 x y = c x y := fun x y hx => by rw [← hc1, jup_at, if_neg (by omega)]
  have k83 : c1 83 dp = nI w := by rw [← hc1, jup_self]
  generalize hc2 : tCp c1 (87 + 6 * (dp + 1)) (87 + 6 * dp) = c2
  have k2 : ∀ x y, (x < 87 + 6 * (dp + 1) ∨ 87 + 6 * (dp + 1) + 5 < x) → c2 x y = c1 x y := fun x y hx => by rw [← hc2]; exact tc_out hx
  have k2i : ∀ k j, tfld k j → c2 (87 + 6 * (dp + 1) + k) j = c (87 + 6 * dp + k) j := fun k j z => by
    rw [← hc2, tc_in htw' htw hne z]
    exact k1 _ _ (by omega)
  have hG2 : GN p (87 + 6 * (dp + 1)) (624 + 52 * dp) c2 m := by
    refine ⟨h.1.keep2 (fun x y hx => (k2 x y (by omega)).trans (k1 x y (by omega))) (fun _ _ _ => rfl), h.2.1.keep (fun y => (k2 _ _ (by omega)).trans (k1 _ _ (by omega))), h.2.2.1.move hp k2i (fun j _ => (k2 _ _ (by omega)).trans (k1 _ _ (by omega))) (fun _ _ => rfl), h.2.2.2.1.move hp k2i (fun j _ => (k2 _ _ (by omega)).trans (k1 _ _ (by omega))), by omega⟩
  have es : tSt c2 (87 + 6 * (dp + 1)) w = tSt c (87 + 6 * dp) w := (hG2.2.2.1.st hw).trans (h.2.2.1.st hw).symm
  have ef : tFew c2 (87 + 6 * (dp + 1)) w = tFew c (87 + 6 * dp) w := (hG2.2.2.1.calls hw).trans (h.2.2.1.calls hw).symm
  obtain ⟨m2', d1, d2, d3, d4, d5, d6, d7, d8⟩ := child_ref hG2 hw (es.trans hst) (by rw [ef]; exact hf)
  obtain ⟨-, -, -, g4, -, -, -, g7, g8⟩ := gn_blow hG2 hw (es.trans hst) (by rw [ef]; exact hf)
  rw [ef] at d1 d3 d8 g4 g7 g8
  have eq2 := Option.some.inj (b1.symm.trans d1)
  have ew : tWay c (87 + 6 * dp) w = tWay c2 (87 + 6 * (dp + 1)) w := (Prod.mk.inj eq2).1
  have em : m2 = m2' := (Prod.mk.inj eq2).2
  subst em
  rw [← ew] at d3
  have hfe : ∀ k, k < p → q_fe c2 (87 + 6 * (dp + 1)) k = q_fe c (87 + 6 * dp) k := fun k hk => by
    unfold q_fe
    rw [k2i 4 k (Or.inl ⟨by omega, by omega, by omega⟩)]
  have hrou : ∀ k, k < p → c2 (87 + 6 * (dp + 1) + 2) k = c (87 + 6 * dp + 2) k := fun k hk => k2i 2 k (Or.inl ⟨by omega, by omega, by omega⟩)
  refine ⟨rBoP m2 dp (tWay c (87 + 6 * dp) w) (tFew c (87 + 6 * dp) w), fun g B => ?_, d3, ⟨fun k hk => ?_, fun i hi => ?_, fun x y h1 h2 => ?_, fun k hk => ?_⟩, b3, b4, b5, b6, b7, ?_, fun x y h1 h2 => ?_, ?_⟩
  · rw [b2, b1]; rfl
  · rw [g7 k hk, hrou k hk, hv.1 k hk, hfe k hk]
    have a1 := g8 k hk
    have a2 := hv.2.2.2 k hk
    rw [hfe k hk] at a1
    by_cases z : q_fe (tBlM c2 (87 + 6 * (dp + 1)) p w (tFew c (87 + 6 * dp) w)) (87 + 6 * (dp + 1)) k = q_fe c (87 + 6 * dp) k
    · rw [if_pos z, z]
    · rw [if_neg z, if_neg (by omega)]
  · rw [g4 _ _ (by omega), k2i 5 i (Or.inr (Or.inl ⟨rfl, hi⟩))]; exact hv.2.1 i hi
  · rw [g4 x y (by omega), k2 x y (by omega), k1 x y (by omega)]; exact hv.2.2.1 x y h1 h2
  · have a1 := g8 k hk
    have a2 := hv.2.2.2 k hk
    rw [hfe k hk] at a1
    omega
  · have : q_F p (87 + 6 * (dp + 1)) c2 = q_F p (87 + 6 * dp) c := q_Feq (fun k hk => k2i 4 k (Or.inl ⟨by omega, by omega, by omega⟩))
    omega
  · rw [g4 x y (by omega), k2 x y h2, k1 x y h1]
  · rw [g4 _ _ (by omega), k2 _ _ (by omega), k83]
