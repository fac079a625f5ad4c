/-! a blast of the search, on the reference's side -/
theorem tway_pos (c : jMem) (a w : Nat) : ¬ tWay c a w ≤ 0 := by
  unfold tWay
  split <;> decide
section Ch
variable {p a : Nat} {c m : jMem}
theorem GN.ref {r : Nat} {m' : jMem} (h : GN p a r c m) (h1 : m' 165 3 = m 165 3) (h2 : ∀ x y, 167 ≤ x → x ≤ 169 → m' x y = m x y) (h3 : ∀ y, r ≤ y → y < r + 52 → m' 166 y = m 166 y) : GN p a r c m' :=
  ⟨h.1.keep2 (fun _ _ _ => rfl) (fun x y hx => by
    rcases hx with ⟨rfl, rfl⟩ | hx
    · exact h1
    · exact h2 x y hx.1 hx.2), h.2.1, h.2.2.1.oth h.1.p5 (fun j hj => h3 _ (by omega) (by omega)), h.2.2.2⟩
theorem child_ref {dp : Nat} (h : GN p a (624 + 52 * dp) c m) {w : Nat} (hw : w < p) (hst : tSt c a w = true) (hf : ¬ tFew c a w = -4) : ∃ m2, rBl (rCopy (jup m 178 dp (nI w)) (624 + 52 * dp) (624 + 52 * dp + 52)) (624 + 52 * dp + 52) w (tFew c a w) p = some (tWay c a w, m2) ∧ rCi (jup m 178 dp (nI w)) (624 + 52 * dp) w = tFew c a w ∧
    GN p a (624 + 52 * (dp + 1)) (tBlM c a p w (tFew c a w)) (rBoP m2 dp (tWay c a w) (tFew c a w)) ∧ rBoP m2 dp (tWay c a w) (tFew c a w) 179 (dp + 1) = m 179 dp + tFew c a w ∧ rBoP m2 dp (tWay c a w) (tFew c a w) 178 dp = nI w ∧
    (∀ x y, x ≠ 166 → x ≠ 176 → x ≠ 177 → (x ≠ 178 ∨ y < dp) → (x ≠ 179 ∨ y ≤ dp) → rBoP m2 dp (tWay c a w) (tFew c a w) x y = m x y) ∧ (∀ y, y < 624 + 52 * (dp + 1) → rBoP m2 dp (tWay c a w) (tFew c a w) 166 y = m 166 y) ∧ q_F p a c + 1 ≤ q_F p a (tBlM c a p w (tFew c a w)) := by
  have hp := h.1.p5
  generalize hm0 : jup m 178 dp (nI w) = m0
  have f0 : ∀ x y, (x ≠ 178 ∨ y ≠ dp) → m0 x y = m x y := fun x y hx => by
    rw [← hm0, jup_at, if_neg (by omega)]
  have f0d : m0 178 dp = nI w := by rw [← hm0, jup_self]
  have hc : rCi m0 (624 + 52 * dp) w = tFew c a w := ((h.2.2.1.oth hp (fun j _ => f0 _ _ (by omega))).calls hw).symm
  generalize hm1 : rCopy m0 (624 + 52 * dp) (624 + 52 * dp + 52) = m1
  have f1 : ∀ x y, x ≠ 166 → m1 x y = m0 x y := fun x y hx => by rw [← hm1]; exact rCopy_lo _ _ _ hx
  have f1r : ∀ y, y < 624 + 52 * (dp + 1) → m1 166 y = m0 166 y := fun y hy => by rw [← hm1]; exact cp_out (by omega) (by omega)
  have hG1 : GN p a (624 + 52 * dp + 52) c m1 := by
    refine ⟨h.1.keep2 (fun _ _ _ => rfl) (fun x y hx => (f1 x y (by omega)).trans (f0 x y (by omega))), h.2.1, h.2.2.1.move hp (fun _ _ _ => rfl) (fun _ _ => rfl) (fun j hj => ?_), h.2.2.2⟩
    rw [← hm1, cp_in (by omega) hj]; exact f0 _ _ (by omega)
  obtain ⟨m2, b1, g1, -, g3, g4, g5, -⟩ := gn_blow hG1 hw hst hf
  have f3 : ∀ x y, (x ≠ 178 ∨ y ≠ dp + 1) → (x ≠ 179 ∨ y ≠ dp + 1) → rBoP m2 dp (tWay c a w) (tFew c a w) x y = m2 x y := fun x y h1 h2 => by
    unfold rBoP
    rw [jup_at, if_neg (by omega), jup_at, if_neg (by omega)]
  refine ⟨m2, b1, hc, ?_, ?_, ?_, fun x y h1 h2 h3 h4 h5 => ?_, fun y hy => ?_, g5⟩
  · rw [show 624 + 52 * (dp + 1) = 624 + 52 * dp + 52 by omega]
    exact g1.ref (f3 _ _ (by omega) (by omega)) (fun x y h1 h2 => f3 x y (by omega) (by omega)) (fun y _ _ => f3 _ _ (by omega) (by omega))
  · unfold rBoP
    rw [jup_oth (by decide), jup_self, if_neg (tway_pos c a w), g3 _ _ (by decide) (by decide) (by decide), f1 _ _ (by decide), f0 _ _ (by omega)]
  · rw [f3 _ _ (by omega) (by omega), g3 _ _ (by decide) (by decide) (by decide), f1 _ _ (by decide), f0d]
  · rw [f3 x y (by omega) (by omega), g3 x y h1 h2 h3, f1 x y h1, f0 x y (by omega)]
  · rw [f3 _ _ (by omega) (by omega), g4 y (by omega), f1r y hy, f0 _ _ (by omega)]
end Ch
/-- what a search that finds nothing leaves -/
def BF (dp : Nat) (m m' : jMem) : Prop := (∀ x y, x ≠ 166 → x ≠ 176 → x ≠ 177 → (x ≠ 178 ∨ y < dp) → (x ≠ 179 ∨ y ≤ dp) → m' x y = m x y) ∧ (∀ y, y < 624 + 52 * (dp + 1) → m' 166 y = m 166 y)
theorem few_pos {c : jMem} {a w : Nat} (h : ¬ tFew c a w = -4) : 1 ≤ (tFew c a w).toInt ∧ (tFew c a w).toInt ≤ 9 ∧ ((tFew c a w).toNatClampNeg : Int) = (tFew c a w).toInt := by
  obtain ⟨k, k1, k2, k3, -⟩ := few_in h
  rw [k3, nI_toInt (by omega), nI_clamp (by omega)]
  omega
theorem ref_done {p : Nat} : ∀ (f dp : Nat) (c m : jMem) (a : Nat) (B tr : Int32), f + dp = 11 → GN p a (624 + 52 * dp) c m → (dp : Int) ≤ q_F p a c → m 179 dp = tr → 0 ≤ tr.toInt → tr.toInt ≤ 9 * dp → dn p a c tr.toInt B.toInt → ∃ m', rBoF p f dp (B, m) = some (B, m') ∧ BF dp m m'
  | 0, dp, c, m, a, B, tr, hf, hG, hF, ht, h0, h9, hd => by
    have := q_F10 (c := c) (a := a) hG.2.2.2.1.1
    omega
  | f + 1, dp, c, m, a, B, tr, hf, hG, hF, ht, h0, h9, hd => by
    have hp := hG.1.p5
    rw [rBoF, ← hG.2.2.1.cd hp]
    by_cases z : tCD c a p = nI p
    · rw [if_pos z]
      have e : sq p a [] c = some 0 := by rw [sq, if_pos z]
      have := hd [] 0 e
      have hn : ¬ m 179 dp < B := by rw [ht, i_lt]; omega
      dsimp only
      rw [if_neg hn]
      exact ⟨m, rfl, fun _ _ _ _ _ _ _ => rfl, fun _ _ => rfl⟩
    · rw [if_neg z]
      obtain ⟨t, e1, r1, r2, r3⟩ := it_itO (f := fun _ (u : Unit) => u) (g := rBoS p (rBoF p f) dp) (p := p) (fun _ _ t => t.1 = B ∧ BF dp m t.2) (fun i u t hi hr => by
        obtain ⟨r1, r2, r3⟩ := hr
        obtain ⟨B', mi⟩ := t
        dsimp only at r1 r2 r3
        subst r1
        have hGi : GN p a (624 + 52 * dp) c mi := hG.ref (r2 _ _ (by decide) (by decide) (by decide) (by omega) (by omega)) (fun x y h1 h2 => r2 x y (by omega) (by omega) (by omega) (by omega) (by omega)) (fun y _ _ => r3 y (by omega))
        have e179 : mi 179 dp = tr := (r2 _ _ (by decide) (by decide) (by decide) (by omega) (by omega)).trans ht
        unfold rBoS
        dsimp only
        rw [← hGi.2.2.1.st hi, ← hGi.2.2.1.calls hi]
        by_cases y : tSt c a i = true ∧ ¬ tFew c a i = -4 ∧ mi 179 dp + tFew c a i < B'
        · rw [if_pos y]
          obtain ⟨m2, b1, b2, b3, b4, b5, b6, b7, b8⟩ := child_ref hGi hi y.1 y.2.1
          have hfp := few_pos y.2.1
          rw [b2, b1]
          have es : (tr + tFew c a i).toInt = tr.toInt + (tFew c a i).toInt := i_add (by omega) (by omega)
          obtain ⟨m', d1, d2, d3⟩ := ref_done f (dp + 1) _ _ a B' (tr + tFew c a i) (by omega) b3 (by omega) (b4.trans (by rw [e179])) (by omega) (by omega) (fun l k e => by
            have e' : sq p a (i :: l) c = some ((tFew c a i).toNatClampNeg + k) := by rw [sq, if_pos ⟨hi, y.1, y.2.1⟩, e]; rfl
            have := hd _ _ e'
            omega)
          refine ⟨(B', m'), d1, rfl, fun x v h1 h2 h3 h4 h5 => ?_, fun v hv => ?_⟩
          · exact (d2 x v h1 h2 h3 (by omega) (by omega)).trans ((b6 x v h1 h2 h3 h4 h5).trans (r2 x v h1 h2 h3 h4 h5))
          · exact (d3 v (by omega)).trans ((b7 v hv).trans (r3 v hv))
        · rw [if_neg y]
          exact ⟨_, rfl, rfl, r2, r3⟩) p 0 () (B, m) (by omega) ⟨rfl, fun _ _ _ _ _ _ _ => rfl, fun _ _ => rfl⟩
      rw [e1]
      refine ⟨_, by rw [← r1]; rfl, fun x y h1 h2 h3 h4 h5 => ?_, fun y hy => ?_⟩
      · rw [jup_at, if_neg (by omega)]; exact r2 x y h1 h2 h3 h4 h5
      · rw [jup_oth (by decide)]; exact r3 y hy
/-! the table of what was seen -/
theorem osn_spec (mark : Int64) (tr : Int32) : ∀ (n i : Nat) (s : jMem × jNu), ((oSn mark tr n i s).1 = true ∧ (oSn mark tr n i s).2 = s ∧ ∃ j, j < 1024 ∧ s.2 85 j = mark ∧ s.1 86 j ≤ tr) ∨ ((oSn mark tr n i s).1 = false ∧ ((oSn mark tr n i s).2 = s ∨ ∃ j, j < 1024 ∧ (oSn mark tr n i s).2 = (jup s.1 86 j tr, jup s.2 85 j mark)))
  | 0, i, s => Or.inr ⟨rfl, Or.inl rfl⟩
  | n + 1, i, s => by
    have hj : oIx mark i < 1024 := Nat.mod_lt _ (by decide)
    rw [oSn]
    by_cases z : s.2 85 (oIx mark i) = mark ∧ s.1 86 (oIx mark i) ≤ tr
    · rw [if_pos z]; exact Or.inl ⟨rfl, rfl, _, hj, z.1, z.2⟩
    · rw [if_neg z]
      by_cases y : ¬ s.2 85 (oIx mark i) = mark ∧ ¬ s.2 85 (oIx mark i) = 0
      · rw [if_pos y]; exact osn_spec mark tr n (i + 1) s
      · rw [if_neg y]; exact Or.inr ⟨rfl, Or.inr ⟨_, hj, rfl⟩⟩
/-- towns that come of the one that stands now (c0, 14), by blasts that fell walls -/
def VD (p : Nat) (c0 : jMem) (c : jMem) (a : Nat) : Prop := (∀ k, k < p → c (a + 2) k = if q_fe c a k = q_fe c0 14 k then c0 16 k else 0) ∧ (∀ i, i < 25 → c (a + 5) i = c0 19 i) ∧ (∀ x y, 9 ≤ x → x < 13 → c x y = c0 x y) ∧ (∀ k, k < p → q_fe c0 14 k ≤ q_fe c a k)
def VV (p : Nat) (c0 : jMem) (c : jMem) (a : Nat) : Prop := VD p c0 c a ∧ TI p a c ∧ PI p c ∧ 14 ≤ a
theorem vv_gn {p a a' r : Nat} {c0 c c' m : jMem} (h : GN p a r c m) (hv : VD p c0 c a) (h' : VV p c0 c' a') (e : oMk c' a' p = oMk c a p) : GN p a' r c' m ∧ q_F p a' c' = q_F p a c := by
  have hp := h.1.p5
  obtain ⟨hv', hi', hI', ha'⟩ := h'
  have hm := mk_inj hp hi' h.2.2.2.1 e
  have h4 : ∀ k, k < p → q_fe c' a' k = q_fe c a k := fun k hk => by unfold q_fe; rw [(hm k hk).1]
  have hpl : ∀ x y, 9 ≤ x → x < 13 → c' x y = c x y := fun x y h1 h2 => (hv'.2.2.1 x y h1 h2).trans (hv.2.2.1 x y h1 h2).symm
  refine ⟨⟨h.1.keep2 (fun x y hx => hpl x y hx.1 hx.2) (fun _ _ _ => rfl), hI', ⟨fun k hk => ?_, fun k hk => ?_, fun k hk => ?_, fun i hi => ?_, fun z => z.elim⟩, hi', ha'⟩, ?_⟩
  · rw [(hm k hk).2]; exact h.2.2.1.thi k hk
  · rw [hv'.1 k hk, h4 k hk, ← hv.1 k hk]; exact h.2.2.1.rou k hk
  · rw [(hm k hk).1, hpl 10 k (by omega) (by omega)]; exact h.2.2.1.fel k hk
  · rw [hv'.2.1 i hi, ← hv.2.1 i hi]; exact h.2.2.1.pro i hi
  · exact q_Feq (fun k hk => (hm k hk).1)
def MV (p : Nat) (c0 : jMem) (s : jMem × jNu) (B : Int) (O : Int64 → Int → Prop) : Prop := ∀ j, j < 1024 → ¬ s.2 85 j = 0 → O (s.2 85 j) (s.1 86 j).toInt ∨ ∀ c' a', VV p c0 c' a' → oMk c' a' p = s.2 85 j → dn p a' c' (s.1 86 j).toInt B
/-- the best so far -/
def BR (c : jMem) (B : Int32) (m : jMem) : Prop := (c 81 7 = 1000 ∧ B = 1000000) ∨ (c 81 7 = B ∧ 0 ≤ B.toInt ∧ B.toInt < 1000 ∧ ∃ L, L ≤ 10 ∧ c 81 6 = nI L ∧ m 165 24 = nI L ∧ ∀ j, j < L → c 84 j = m 180 j)
theorem i_n1000 : (1000 : Int32).toInt = 1000 ∧ (1000000 : Int32).toInt = 1000000 := by decide
theorem BR.lt {c m : jMem} {B v : Int32} (h : BR c B m) (h9 : v.toInt < 1000) : (v < c 81 7) ↔ (v < B) := by
  rcases h with ⟨h1, h2⟩ | ⟨h1, -⟩
  · rw [h1, h2, i_lt, i_lt, i_n1000.1, i_n1000.2]; omega
  · rw [h1]
theorem BR.keep {c c' m m' : jMem} {B : Int32} (h : BR c B m) (hc : ∀ y, c' 81 y = c 81 y) (h84 : ∀ y, c' 84 y = c 84 y) (h1 : m' 165 24 = m 165 24) (h180 : ∀ y, m' 180 y = m 180 y) : BR c' B m' := by
  rcases h with ⟨a1, a2⟩ | ⟨a1, a2, a3, L, a4, a5, a6, a7⟩
  · exact Or.inl ⟨(hc 7).trans a1, a2⟩
  · exact Or.inr ⟨(hc 7).trans a1, a2, a3, L, a4, (hc 6).trans a5, h1.trans a6, fun j hj => by rw [h84, h180]; exact a7 j hj⟩
