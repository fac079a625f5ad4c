section Sets
variable {p x u q n tl a r : Nat} {c c' m m' : jMem}
theorem Rel.sText {tl' : Nat} (h : Rel p x u q n tl c m) (hT : RText tl' c' m') (hc : ∀ x y, RC x → (x ≠ 1 ∧ x ≠ 2) → c' x y = c x y) (hm : ∀ x y, RM x y → ((x ≠ 165 ∨ y ≠ 12) ∧ x ≠ 173) → m' x y = m x y) : Rel p x u q n tl' c' m' := by
  obtain ⟨h1, h2, h3, h4, h5, h6, h7⟩ := h
  have hp := h1.p5
  unfold RC at hc
  unfold RM at hm
  exact ⟨h1.keep2 (fun x y hx => hc x y (by omega) (by omega)) (fun x y hx => hm x y (by omega) (by omega)), h2.keep (fun y => hc _ _ (by omega) (by omega)), h3.keep hp (fun x y hx => hc x y (by omega) (by omega)) (fun y _ _ => hm _ _ (by omega) (by omega)), h4.keep hp (fun x y hx => hc x y (by omega) (by omega)) (hm _ _ (by omega) (by omega)) (fun y _ _ => hm _ _ (by omega) (by omega)), h5.keep hp (fun x y hx => hc x y (by omega) (by omega)) (hm _ _ (by omega) (by omega)) (fun y _ _ => hm _ _ (by omega) (by omega)), h6.keep (fun x y hx => hc x y (by omega) (by omega)) (hm _ _ (by omega) (by omega)) (fun x y hx => hm _ _ (by omega) (by omega)), hT⟩
theorem Rel.sNote {n' : Nat} (h : Rel p x u q n tl c m) (hT : RNote n' c' m') (hc : ∀ x y, RC x → (x < 77 ∨ 80 < x) → c' x y = c x y) (hm : ∀ x y, RM x y → ((x ≠ 165 ∨ y ≠ 7) ∧ (x < 170 ∨ 172 < x)) → m' x y = m x y) : Rel p x u q n' tl c' m' := by
  obtain ⟨h1, h2, h3, h4, h5, h6, h7⟩ := h
  have hp := h1.p5
  unfold RC at hc
  unfold RM at hm
  exact ⟨h1.keep2 (fun x y hx => hc x y (by omega) (by omega)) (fun x y hx => hm x y (by omega) (by omega)), h2.keep (fun y => hc _ _ (by omega) (by omega)), h3.keep hp (fun x y hx => hc x y (by omega) (by omega)) (fun y _ _ => hm _ _ (by omega) (by omega)), h4.keep hp (fun x y hx => hc x y (by omega) (by omega)) (hm _ _ (by omega) (by omega)) (fun y _ _ => hm _ _ (by omega) (by omega)), h5.keep hp (fun x y hx => hc x y (by omega) (by omega)) (hm _ _ (by omega) (by omega)) (fun y _ _ => hm _ _ (by omega) (by omega)), hT, h7.keep (fun x y hx => hc x y (by omega) (by omega)) (hm _ _ (by omega) (by omega)) (fun y => hm _ _ (by omega) (by omega))⟩
theorem Rel.sKept {q' : Nat} (h : Rel p x u q n tl c m) (hT : RKept p q' c' m') (hc : ∀ x y, RC x → ((x < 153 ∨ 165 ≤ x) ∧ x ≠ 0) → c' x y = c x y) (hm : ∀ x y, RM x y → ((x ≠ 165 ∨ y ≠ 2) ∧ (x ≠ 166 ∨ y < 104 ∨ 208 ≤ y)) → m' x y = m x y) : Rel p x u q' n tl c' m' := by
  obtain ⟨h1, h2, h3, h4, h5, h6, h7⟩ := h
  have hp := h1.p5
  unfold RC at hc
  unfold RM at hm
  exact ⟨h1.keep2 (fun x y hx => hc x y (by omega) (by omega)) (fun x y hx => hm x y (by omega) (by omega)), h2.keep (fun y => hc _ _ (by omega) (by omega)), h3.keep hp (fun x y hx => hc x y (by omega) (by omega)) (fun y _ _ => hm _ _ (by omega) (by omega)), h4.keep hp (fun x y hx => hc x y (by omega) (by omega)) (hm _ _ (by omega) (by omega)) (fun y _ _ => hm _ _ (by omega) (by omega)), hT, h6.keep (fun x y hx => hc x y (by omega) (by omega)) (hm _ _ (by omega) (by omega)) (fun x y hx => hm _ _ (by omega) (by omega)), h7.keep (fun x y hx => hc x y (by omega) (by omega)) (hm _ _ (by omega) (by omega)) (fun y => hm _ _ (by omega) (by omega))⟩
theorem Rel.sPast {x' u' : Nat} (h : Rel p x u q n tl c m) (hT : RPast p x' u' c' m') (hc : ∀ x y, RC x → ((x < 28 ∨ 76 ≤ x) ∧ x ≠ 26) → c' x y = c x y) (hm : ∀ x y, RM x y → ((x ≠ 165 ∨ y ≠ 1) ∧ (x ≠ 166 ∨ y < 208 ∨ 624 ≤ y)) → m' x y = m x y) : Rel p x' u' q n tl c' m' := by
  obtain ⟨h1, h2, h3, h4, h5, h6, h7⟩ := h
  have hp := h1.p5
  unfold RC at hc
  unfold RM at hm
  exact ⟨h1.keep2 (fun x y hx => hc x y (by omega) (by omega)) (fun x y hx => hm x y (by omega) (by omega)), h2.keep (fun y => hc _ _ (by omega) (by omega)), h3.keep hp (fun x y hx => hc x y (by omega) (by omega)) (fun y _ _ => hm _ _ (by omega) (by omega)), hT, h5.keep hp (fun x y hx => hc x y (by omega) (by omega)) (hm _ _ (by omega) (by omega)) (fun y _ _ => hm _ _ (by omega) (by omega)), h6.keep (fun x y hx => hc x y (by omega) (by omega)) (hm _ _ (by omega) (by omega)) (fun x y hx => hm _ _ (by omega) (by omega)), h7.keep (fun x y hx => hc x y (by omega) (by omega)) (hm _ _ (by omega) (by omega)) (fun y => hm _ _ (by omega) (by omega))⟩
end Sets
theorem OKc.same {p x u q n tl : Nat} {c m : jMem} (h : Rel p x u q n tl c m) {v w : Int32} (e : v = w) : OKc c m v c w m := ⟨e, ⟨p, x, u, q, n, tl, h⟩, fun _ _ _ => rfl, fun _ _ _ => rfl⟩
theorem OKc.asks {p x u q n tl : Nat} {c c' m m' : jMem} (h : Rel p x u q n tl c m) {v w : Int32} (e : v = w) (hc : ∀ x y, x < 3 ∨ (9 ≤ x ∧ x < 20) ∨ (26 ≤ x ∧ x < 81) ∨ 153 ≤ x → c' x y = c x y) (hm : ∀ x y, x < 165 ∨ (x = 165 ∧ (y = 1 ∨ y = 2 ∨ y = 3 ∨ y = 7 ∨ y = 12)) ∨ (x = 166 ∧ (y < 52 ∨ (104 ≤ y ∧ y < 624))) ∨ (167 ≤ x ∧ x ≤ 173) → m' x y = m x y) : OKc c m v c' w m' :=
  ⟨e, ⟨p, x, u, q, n, tl, h.keep (fun x y z => hc x y z) (fun x y z => hm x y (Or.inr z))⟩, fun x y z => hc x y (by omega), fun x y z => hm x y (Or.inl z)⟩
theorem b_nf {α : Type} (a b : α) : (if (!false) = true then a else b) = a := rfl
theorem b_nt {α : Type} (a b : α) : (if (!true) = true then a else b) = b := rfl
theorem b_t {α : Type} (a b : α) : (if true = true then a else b) = a := rfl
theorem b_f {α : Type} (a b : α) : (if false = true then a else b) = b := rfl
/-! guards -/
theorem g_in {n l h : Int32} {L H : Int64} (hl : L = l.toInt64) (hh : H = h.toInt64) : rIn n.toInt64 L H = !(xOut n l h) := by
  subst hl hh
  unfold rIn xOut
  have e : (l.toInt64 ≤ n.toInt64 ∧ n.toInt64 ≤ h.toInt64) ↔ ¬ (n < l ∨ h < n) := by
    rw [Int64.le_iff_toInt_le, Int64.le_iff_toInt_le, Int32.toInt_toInt64, Int32.toInt_toInt64, Int32.toInt_toInt64, i_lt, i_lt]
    omega
  rw [decide_eq_decide.mpr e, decide_not]
theorem PR.isw {p : Nat} {c m : jMem} (h : PR p c m) (k : Int32) : rIsW m k = !(xNW c k) := by
  unfold rIsW xNW
  rw [h.cp, h.mp]
  exact g_in (by decide) rfl
theorem PR.inw {p : Nat} {c m : jMem} (h : PR p c m) {w : Int32} (z : xNW c w = false) : ∃ k, k < p ∧ w = nI k ∧ w.toNatClampNeg = k := by
  obtain ⟨k, h1, h2⟩ := out_in h.cp h.p5 z
  have := h.p5
  exact ⟨k, h1, h2, by rw [h2]; exact nI_clamp (by omega)⟩
theorem g_out {x : Int32} {l h : Int32} {L H : Nat} (hl : l = nI L) (hh : h = nI H) (h1 : H < 1000000) (h2 : L ≤ H) (z : xOut x l h = false) : ∃ k, L ≤ k ∧ k ≤ H ∧ x = nI k ∧ x.toNatClampNeg = k := by
  subst hl hh
  obtain ⟨k, a1, a2, a3⟩ := out_lh (by omega) h2 z
  exact ⟨k, a1, a2, a3, by rw [a3]; exact nI_clamp (by omega)⟩

/-! write, wipe -/
theorem ch_all : ∀ k : Nat, k < 127 → ((nI k).toUInt32 % 65536).toInt32 = nI k ∧ (nI k).toUInt32.toUInt16.toUInt32.toInt32 = nI k := by decide +kernel
theorem s_write {p x u q n tl : Nat} {c m : jMem} (h : Rel p x u q n tl c m) (v : Int32) : OKc c m (cWrite c v).1 (cWrite c v).2 (rWrite m v).1 (rWrite m v).2 := by
  obtain ⟨⟨t1, t2, t3⟩, t4, t5⟩ := h.2.2.2.2.2.2
  unfold cWrite rWrite
  rw [g_in (l := 32) (h := 126) (by decide) (by decide)]
  cases z : xOut v 32 126 with
  | true =>
    rw [if_pos (of_decide_eq_true z), b_nt]
    exact OKc.same h rfl
  | false =>
    rw [if_neg (of_decide_eq_false z), b_nf, t1, t4]
    by_cases y : tl = 200
    · subst y
      rw [if_pos (by decide), if_pos (by decide)]
      exact OKc.same h rfl
    · have e200 : (200 : Int32) = nI 200 := by decide
      rw [if_neg (by rw [e200, nI_leI (by omega) (by omega)]; omega), if_neg (by rw [e200, nI_eq (by omega) (by omega)]; exact y), nI_clamp (by omega)]
      obtain ⟨k, k1, k2, k3, -⟩ := g_out (L := 32) (H := 126) (by decide) (by decide) (by decide) (by decide) z
      subst k3
      rw [(ch_all k (by omega)).1]
      have e1 : xAdd c tl (nI k) 1 2 = nI (tl + 1) := by
        unfold xAdd
        rw [jup_self, jup_oth (by decide), t1, nI_1]
      have e2 : rWr m tl (nI k) 165 12 = nI (tl + 1) := by
        unfold rWr
        rw [jup_self, jup_oth (by decide), t4, nI_1]
      have f1 : ∀ x y, x ≠ 1 → x ≠ 2 → xAdd c tl (nI k) x y = c x y := fun x y h1 h2 => by unfold xAdd; rw [jup_oth h1, jup_oth h2]
      have f2 : ∀ x y, x ≠ 173 → (x ≠ 165 ∨ y ≠ 12) → rWr m tl (nI k) x y = m x y := fun x y h1 h2 => by
        unfold rWr
        rcases h2 with h2 | h2
        · rw [jup_oth h2, jup_oth h1]
        · rw [jup_oth2 h2, jup_oth h1]
      have f3 : ∀ y, xAdd c tl (nI k) 2 y = if y = tl then nI k else c 2 y := fun y => by
        unfold xAdd
        rw [jup_oth (by decide)]
        by_cases w : y = tl
        · rw [if_pos w, w, jup_self]
        · rw [if_neg w, jup_oth2 w]
      have f4 : ∀ y, rWr m tl (nI k) 173 y = if y = tl then nI k else m 173 y := fun y => by
        unfold rWr
        rw [jup_oth (by decide)]
        by_cases w : y = tl
        · rw [if_pos w, w, jup_self]
        · rw [if_neg w, jup_oth2 w]
      dsimp only
      refine ⟨e1.trans e2.symm, ⟨p, x, u, q, n, tl + 1, h.sText ⟨⟨e1, by omega, fun j => ?_⟩, e2, fun j hj => ?_⟩ (fun x y _ z => f1 x y z.1 z.2) (fun x y _ z => f2 x y z.2 z.1)⟩, fun x y hx => f1 x y (by omega) (by omega), fun x y hx => f2 x y (by omega) (by omega)⟩
      · rw [f3]
        split
        · show Value.int _ = _
          rw [(ch_all k (by omega)).2]
        · exact t3 j
      · rw [f3, f4]
        by_cases w : j = tl
        · rw [if_pos w, if_pos w]
        · rw [if_neg w, if_neg w]; exact t5 j (by omega)
theorem s_wipe {p x u q n tl : Nat} {c m : jMem} (h : Rel p x u q n tl c m) : OKc c m (cWipe c).1 (cWipe c).2 (rWipe m).1 (rWipe m).2 := by
  obtain ⟨⟨t1, t2, t3⟩, t4, t5⟩ := h.2.2.2.2.2.2
  show OKc c m (c 1 2) (jup c 1 2 0) (m 165 12) (jup m 165 12 0)
  refine ⟨t1.trans t4.symm, ⟨p, x, u, q, n, 0, h.sText ⟨⟨jup_self _ _ _ _, by omega, fun j => ?_⟩, jup_self _ _ _ _, fun j hj => by omega⟩ (fun x y _ z => jup_oth z.1) (fun x y _ z => ?_)⟩, fun x y hx => jup_oth (by omega), fun x y hx => jup_oth (by omega)⟩
  · rw [jup_oth (by decide)]; exact t3 j
  · rcases z.1 with w | w
    · exact jup_oth w
    · exact jup_oth2 w
/-! wall, holds, calls -/
theorem FR.dn {kd f D F : Int32} (h : FR kd f D F) : (if decide (f < if kd = 3 then 2 else 1) = true then (0 : Int32) else 1) = D ∧ (if kd = 3 ∧ 0 < f then (1 : Int32) else 0) = F := by
  rcases h with ⟨h1, h | h | h⟩ | ⟨h1, h0, h | h⟩
  · obtain ⟨h2, h3, h4⟩ := h; subst h1 h2 h3 h4; decide
  · obtain ⟨h2, h3, h4⟩ := h; subst h1 h2 h3 h4; decide
  · obtain ⟨h2, h3, h4⟩ := h; subst h1 h2 h3 h4; decide
  · obtain ⟨h2, h3⟩ := h; subst h2 h3 h0; rw [if_neg h1, if_neg (c := kd = 3 ∧ _) (fun q => h1 q.1)]; decide
  · obtain ⟨h2, h3⟩ := h; subst h2 h3 h0; rw [if_neg h1, if_neg (c := kd = 3 ∧ _) (fun q => h1 q.1)]; decide
theorem s_wall {p x u q n tl : Nat} {c m : jMem} (h : Rel p x u q n tl c m) (w what : Int32) : OKc c m (cWall c w what).1 (cWall c w what).2 (rWall m w what).1 (rWall m w what).2 := by
  have hP := h.1
  have hT := h.2.2.1.1
  unfold cWall rWall
  rw [hP.isw]
  cases z : xNW c w with
  | true => rw [b_t, b_nt]; exact OKc.same h rfl
  | false =>
    rw [b_f, b_nf]
    refine OKc.same h ?_
    obtain ⟨k, k1, -, k3⟩ := hP.inw z
    rw [k3]
    have hd := (hT.fel k k1).dn
    rw [Nat.zero_add, Nat.zero_add] at hd
    have ht := hT.thi k k1
    have hr := hT.rou k k1
    have hh := hT.hur trivial k k1
    rw [Nat.zero_add] at ht hr hh
    have ea : ∀ v : Nat, v < 8 → 3 ≤ v → rWallV m k (nI v) = m 166 (2 + 5 * (v - 3) + k) := fun v h1 h2 => by
      have e3 : rIn (nI v).toInt64 3 7 = true := by
        have key : ∀ v : Nat, v < 8 → 3 ≤ v → rIn (nI v).toInt64 3 7 = true := by decide +kernel
        exact key v h1 h2
      have e4 : ¬ nI v = 0 ∧ ¬ nI v = 1 ∧ ¬ nI v = 2 := by
        have key : ∀ v : Nat, v < 8 → 3 ≤ v → ¬ nI v = 0 ∧ ¬ nI v = 1 ∧ ¬ nI v = 2 := by decide +kernel
        exact key v h1 h2
      unfold rWallV
      rw [if_neg e4.1, if_neg e4.2.1, if_neg e4.2.2, if_pos e3, nI_clamp (by omega)]
    rcases tsw7 what with y | y | y | y | y | y | y | y | y
    · subst y; exact hP.kin k k1
    · subst y; exact hP.lai k k1
    · subst y; exact hP.lea k k1
    · subst y; exact ht.trans (ea 3 (by decide) (by decide)).symm
    · subst y
      refine Eq.trans ?_ (ea 4 (by decide) (by decide)).symm
      exact hd.1
    · subst y; exact hr.trans (ea 5 (by decide) (by decide)).symm
    · subst y; exact hh.trans (ea 6 (by decide) (by decide)).symm
    · subst y
      refine Eq.trans ?_ (ea 7 (by decide) (by decide)).symm
      exact hd.2
    · have o := tswo7 y
      have e3 : rIn what.toInt64 3 7 = false := by
        rw [g_in (l := 3) (h := 7) (by decide) (by decide), Bool.not_eq_false']
        unfold xOut
        have a3 : (3 : Int32).toInt = 3 := by decide
        have a7 : (7 : Int32).toInt = 7 := by decide
        rw [decide_eq_true_iff, i_lt, i_lt, a3, a7]
        omega
      show cWallV c k what = rWallV m k what
      unfold cWallV rWallV
      rw [if_neg o.1, if_neg o.2.1, if_neg o.2.2.1, if_neg o.2.2.2.1, if_neg o.2.2.2.2.1, if_neg o.2.2.2.2.2.1, if_neg o.2.2.2.2.2.2.1, if_neg o.2.2.2.2.2.2.2, if_neg o.1, if_neg o.2.1, if_neg o.2.2.1, e3, if_neg (by decide)]
theorem PR.npr {p : Nat} {c m : jMem} (h : PR p c m) (x y : Int32) : (rIsW m x = true ∧ rIsW m y = true ∧ ¬ x = y) ↔ xNP c x y = false := by
  rw [h.isw, h.isw]
  unfold xNP
  rw [Bool.or_eq_false_iff, Bool.or_eq_false_iff, decide_eq_false_iff_not, Bool.not_eq_true', Bool.not_eq_true']
  exact ⟨fun z => ⟨⟨z.1, z.2.1⟩, z.2.2⟩, fun z => ⟨z.1.1, z.1.2, z.2⟩⟩
theorem s_holds {p x u q n tl : Nat} {c m : jMem} (h : Rel p x u q n tl c m) (v w : Int32) : OKc c m (cHolds c v w).1 (cHolds c v w).2 (rHolds m v w).1 (rHolds m v w).2 := by
  have hP := h.1
  have hT := h.2.2.1.1
  have hp := hP.p5
  unfold cHolds rHolds
  cases z : xNP c v w with
  | true => rw [b_t, if_neg (fun y => by rw [hP.npr, z] at y; cases y)]; exact OKc.same h rfl
  | false =>
    rw [b_f, if_pos ((hP.npr v w).mpr z)]
    obtain ⟨i, j, h1, h2, h3, rfl, rfl⟩ := np_in hP.cp hP.p5 z
    refine OKc.same h ?_
    show tHeld c 14 (nI i).toNatClampNeg (nI j).toNatClampNeg = m 166 (27 + 5 * (nI i).toNatClampNeg + (nI j).toNatClampNeg)
    rw [nI_clamp (by omega), nI_clamp (by omega), hT.held (by omega) (by omega), Nat.zero_add]
theorem s_calls {p x u q n tl : Nat} {c m : jMem} (h : Rel p x u q n tl c m) (w : Int32) : OKc c m (cCalls c w).1 (cCalls c w).2 (rCalls m w).1 (rCalls m w).2 := by
  have hP := h.1
  have hT := h.2.2.1.1
  unfold cCalls rCalls
  rw [hP.isw]
  cases z : xNW c w with
  | true => rw [b_t, b_nt]; exact OKc.same h rfl
  | false =>
    rw [b_f, b_nf]
    obtain ⟨k, k1, -, k3⟩ := hP.inw z
    rw [k3, hT.st k1]
    by_cases y : rSt m 0 k = true
    · rw [if_pos y, if_pos y]
      exact OKc.same h (hT.calls k1)
    · rw [if_neg y, if_neg y]
      exact OKc.same h rfl
