/-! WHAT READING LEAVES ALONE -/
theorem xfin_fr {q x y : Nat} (h3 : x ≠ 3) (hx : x < q ∨ q + 4 < x) (ch : Int32) (r : Option Nat × jMem) : (xFin q ch r).2 x y = r.2 x y := by
  obtain ⟨o, m⟩ := r
  cases o with
  | none => rfl
  | some k => exact pTM_lo hx m ch _ _ _
theorem xitem_fr {q x y : Nat} (h3 : x ≠ 3) (hx : x < q ∨ q + 4 < x) (m : jMem) (k : Nat) : (xItem q m k).2 x y = m x y := by
  unfold xItem
  split
  · rw [xfin_fr h3 hx, xItL_lo h3]
  · split
    · rw [xfin_fr h3 hx, xItL_lo h3]
    · rfl
theorem xrd_fr {q x y : Nat} (h3 : x ≠ 3) (hx : x < q ∨ q + 4 < x) : ∀ (n k : Nat) (m : jMem), (xRdL q n k m).2 x y = m x y
  | 0, k, m => rfl
  | n + 1, k, m => by
    rw [xRdL]
    split
    · have e := xitem_fr (y := y) h3 hx m k
      split
      · rename_i he; rw [he] at e; exact e
      · rename_i he; rw [he] at e; rw [xrd_fr h3 hx n _ _]; exact e
    · rfl
theorem xread_fr {q x y : Nat} (h3 : x ≠ 3) (hx : x < q ∨ q + 4 < x) (m : jMem) : (xRead q m).2 x y = m x y := by
  unfold xRead
  rw [xrd_fr h3 hx, pClr_lo hx]
def RF (x y : Nat) : Prop := x ≠ 174 ∧ x ≠ 175 ∧ (x ≠ 165 ∨ (y ≠ 13 ∧ y ≠ 14 ∧ y ≠ 15 ∧ y ≠ 18))
theorem tnl_fr {x y : Nat} (h : x ≠ 165 ∨ (y ≠ 13 ∧ y ≠ 14)) : ∀ (n k : Nat) (m : jMem), (rTnL n k m).2 x y = m x y
  | 0, _, _ => rfl
  | n + 1, k, m => by
    rw [rTnL]
    split
    · rw [tnl_fr h n, (rts_lo m k).1 x y h]
    · rfl
theorem tn_fr {x y : Nat} (h : x ≠ 165 ∨ (y ≠ 13 ∧ y ≠ 14)) (m : jMem) (l hh sg : Int32) (k : Nat) : (rTn m l hh sg k).2 x y = m x y := by
  have e0 : jup m 165 14 0 x y = m x y := by
    rcases h with h | h
    · exact jup_oth h
    · exact jup_oth2 h.2
  unfold rTn
  dsimp only
  split
  · have e : ∀ v, jup (rTnL 2 k (jup m 165 14 0)).2 165 13 v x y = (rTnL 2 k (jup m 165 14 0)).2 x y := fun v => by
      rcases h with h | h
      · exact jup_oth h
      · exact jup_oth2 h.1
    dsimp only
    rw [e, tnl_fr h, e0]
  · dsimp only
    rw [tnl_fr h, e0]
theorem adw_fr {x y : Nat} (h : RF x y) (m : jMem) (n : Nat) (a b d : Int32) : rAddW m n a b d x y = m x y := rAddW_lo m n a b d h.1 (by have := h.2.2; omega)
theorem tw_fr {x y : Nat} (h : RF x y) (m : jMem) (k : Nat) : (rTW m k).2 x y = m x y := by
  have h2 : x ≠ 165 ∨ (y ≠ 13 ∧ y ≠ 14) := by have := h.2.2; omega
  unfold rTW
  split
  · rfl
  · have e0 := tn_fr h2 m 0 3 44 k
    generalize rTn m 0 3 44 k = A at e0
    obtain ⟨o, a⟩ := A
    cases o with
    | none => exact e0
    | some ka =>
      show (rTW2 _ (a 165 14) (rTn a 1 60 44 ka)).2 x y = m x y
      have e1 := tn_fr h2 a 1 60 44 ka
      generalize rTn a 1 60 44 ka = B at e1
      obtain ⟨o, b⟩ := B
      cases o with
      | none => exact e1.trans e0
      | some kb =>
        show (rTW3 _ (a 165 14) (b 165 14) (rTn b 0 7 59 kb)).2 x y = m x y
        have e2 := tn_fr h2 b 0 7 59 kb
        generalize rTn b 0 7 59 kb = D at e2
        obtain ⟨o, d⟩ := D
        cases o with
        | none => exact e2.trans (e1.trans e0)
        | some kd => exact (adw_fr h d _ _ _ _).trans (e2.trans (e1.trans e0))
theorem tp_fr {x y : Nat} (h : RF x y) (m : jMem) (k : Nat) : (rTP m k).2 x y = m x y := by
  have h2 : x ≠ 165 ∨ (y ≠ 13 ∧ y ≠ 14) := by have := h.2.2; omega
  unfold rTP
  have e0 := tn_fr h2 m 0 (m 165 15 - 1) 44 k
  generalize rTn m 0 (m 165 15 - 1) 44 k = A at e0
  obtain ⟨o, a⟩ := A
  cases o with
  | none => exact e0
  | some ka =>
    show (rTP2 a (rTn a 0 (a 165 15 - 1) 44 ka)).2 x y = m x y
    have e1 := tn_fr h2 a 0 (a 165 15 - 1) 44 ka
    generalize rTn a 0 (a 165 15 - 1) 44 ka = B at e1
    obtain ⟨o, b⟩ := B
    cases o with
    | none => exact e1.trans e0
    | some kb =>
      show (if b 165 14 = a 165 14 then (none, b) else rTP3 a b (rTn b 1 40 59 kb)).2 x y = m x y
      split
      · exact e1.trans e0
      · have e2 := tn_fr h2 b 1 40 59 kb
        generalize rTn b 1 40 59 kb = D at e2
        obtain ⟨o, d⟩ := D
        cases o with
        | none => exact e2.trans (e1.trans e0)
        | some kd => exact (jup_oth h.2.1).trans (e2.trans (e1.trans e0))
theorem ts_fr {x y : Nat} (h : RF x y) (m : jMem) (k : Nat) : (rTS m k).2 x y = m x y := by
  have h2 : x ≠ 165 ∨ (y ≠ 13 ∧ y ≠ 14) := by have := h.2.2; omega
  unfold rTS
  have e0 := tn_fr h2 m 0 60 59 k
  generalize rTn m 0 60 59 k = A at e0
  obtain ⟨o, a⟩ := A
  cases o with
  | none => exact e0
  | some ka =>
    show jup a 165 18 (a 165 14) x y = m x y
    rcases h.2.2 with w | w
    · exact (jup_oth w).trans e0
    · exact (jup_oth2 w.2.2.2).trans e0
theorem ritem_fr {x y : Nat} (h : RF x y) (m : jMem) (k : Nat) : (rItem m k).2 x y = m x y := by
  have e : jup m 165 13 (m 165 13 + 1) x y = m x y := by
    rcases h.2.2 with w | w
    · exact jup_oth w
    · exact jup_oth2 w.1
  unfold rItem
  dsimp only
  split
  · rw [tw_fr h, e]
  · split
    · rw [tp_fr h, e]
    · split
      · rw [ts_fr h, e]
      · exact e
theorem rfo_fr {x y : Nat} (h : RF x y) : ∀ (n k : Nat) (m : jMem), (rFoL n k m).2 x y = m x y
  | 0, _, _ => rfl
  | n + 1, k, m => by
    rw [rFoL]
    split
    · have e := ritem_fr h m k
      generalize rItem m k = A at e
      obtain ⟨o, a⟩ := A
      cases o with
      | none => exact e
      | some k' => exact (rfo_fr h n k' a).trans e
    · rfl
theorem rfo0_fr {x y : Nat} (h : RF x y) (m : jMem) : (rFo m).2 x y = m x y := by
  unfold rFo
  rw [rfo_fr h]
  have e : jup (rStart m) 165 13 0 x y = rStart m x y := by
    rcases h.2.2 with w | w
    · exact jup_oth w
    · exact jup_oth2 w.1
  rw [e]
  exact rStart_lo m h.2.1 (by have := h.2.2; omega)
/-! THE PLAN READ -/
def PL (q n : Nat) (c m : jMem) : Prop := c q 0 = nI n ∧ m 165 15 = nI n ∧ n ≤ 5 ∧ (∀ k, k < n → c (q + 1) k = m 174 (3 * k) ∧ c (q + 2) k = m 174 (3 * k + 1) ∧ c (q + 3) k = m 174 (3 * k + 2) ∧ 1 ≤ (c (q + 2) k).toInt ∧ (c (q + 2) k).toInt ≤ 60) ∧
  (∀ i, i < 25 → c (q + 4) i = m 175 i ∧ 0 ≤ (c (q + 4) i).toInt ∧ (c (q + 4) i).toInt ≤ 40) ∧ c q 1 = m 165 18 ∧ 0 ≤ (c q 1).toInt ∧ (c q 1).toInt ≤ 60
theorem PL.keep {q n : Nat} {c c' m m' : jMem} (h : PL q n c m) (hc : ∀ x y, q ≤ x ∧ x ≤ q + 4 → c' x y = c x y) (hm : ∀ x y, (x = 165 ∧ (y = 15 ∨ y = 18)) ∨ x = 174 ∨ x = 175 → m' x y = m x y) : PL q n c' m' := by
  obtain ⟨h1, h2, h3, h4, h5, h6, h7⟩ := h
  refine ⟨(hc _ _ (by omega)).trans h1, (hm _ _ (by omega)).trans h2, h3, fun k hk => ?_, fun i hi => ?_, ?_, ?_⟩
  · rw [hc (q + 1) k (by omega), hc (q + 2) k (by omega), hc (q + 3) k (by omega), hm 174 _ (by omega), hm 174 _ (by omega), hm 174 _ (by omega)]; exact h4 k hk
  · rw [hc (q + 4) i (by omega), hm 175 i (by omega)]; exact h5 i hi
  · rw [hc q 1 (by omega), hm 165 18 (by omega)]; exact h6
  · rw [hc q 1 (by omega)]; exact h7
/-- an item on both sides: read alike, or faulty on both -/
def IT (tl q k : Nat) (A B : Option Nat × jMem) : Prop := (∃ k' c' m', A = (some k', c') ∧ B = (some k', m') ∧ k < k' ∧ k' ≤ k + 12 ∧ TX tl c' m' ∧ (∃ n, PL q n c' m') ∧ m' 165 13 = nI k') ∨ (A.1 = none ∧ B.1 = none)
theorem of_none {α : Type} {A : Option Nat × α} (h : A.1 = none) : ∃ a, A = (none, a) := ⟨A.2, by rw [← h]⟩
theorem fs_2 (c : jMem) (k : Nat) : xFs c k ≤ 2 := by unfold xFs; split <;> (try split) <;> omega
/-- three numbers as the reference reads them -/
theorem tn3 {tl k : Nat} {c m : jMem} (h : TX tl c m) (h13 : m 165 13 = nI k) (hk : k < 900) (l0 h0 l1 h1 l2 h2 : Int32) :
    ((x3C c k ∧ xOut (xNum c k (nI (xFs c k))) l0 h0 = false ∧ xOut (xNum c (k + xFs c k + 1) (nI (xFs c (k + xFs c k + 1)))) l1 h1 = false ∧ xOut (xNum c (k + xFs c k + 1 + xFs c (k + xFs c k + 1) + 1) (nI (xFs c (k + xFs c k + 1 + xFs c (k + xFs c k + 1) + 1)))) l2 h2 = false) ∧
      ∃ a b d, rTn m l0 h0 44 k = (some (k + xFs c k + 1), a) ∧ rTn a l1 h1 44 (k + xFs c k + 1) = (some (k + xFs c k + 1 + xFs c (k + xFs c k + 1) + 1), b) ∧ rTn b l2 h2 59 (k + xFs c k + 1 + xFs c (k + xFs c k + 1) + 1) = (some (k + xFs c k + 1 + xFs c (k + xFs c k + 1) + 1 + xFs c (k + xFs c k + 1 + xFs c (k + xFs c k + 1) + 1) + 1), d) ∧
        a 165 14 = xNum c k (nI (xFs c k)) ∧ b 165 14 = xNum c (k + xFs c k + 1) (nI (xFs c (k + xFs c k + 1))) ∧ d 165 14 = xNum c (k + xFs c k + 1 + xFs c (k + xFs c k + 1) + 1) (nI (xFs c (k + xFs c k + 1 + xFs c (k + xFs c k + 1) + 1))) ∧ d 165 13 = nI (k + xFs c k + 1 + xFs c (k + xFs c k + 1) + 1 + xFs c (k + xFs c k + 1 + xFs c (k + xFs c k + 1) + 1) + 1) ∧
        (∀ x y, x ≠ 165 ∨ (y ≠ 13 ∧ y ≠ 14) → a x y = m x y ∧ d x y = m x y)) ∨
    (¬ (x3C c k ∧ xOut (xNum c k (nI (xFs c k))) l0 h0 = false ∧ xOut (xNum c (k + xFs c k + 1) (nI (xFs c (k + xFs c k + 1)))) l1 h1 = false ∧ xOut (xNum c (k + xFs c k + 1 + xFs c (k + xFs c k + 1) + 1) (nI (xFs c (k + xFs c k + 1 + xFs c (k + xFs c k + 1) + 1)))) l2 h2 = false) ∧
      ((∃ a, rTn m l0 h0 44 k = (none, a)) ∨ ∃ a, rTn m l0 h0 44 k = (some (k + xFs c k + 1), a) ∧ (∀ x y, x ≠ 165 ∨ (y ≠ 13 ∧ y ≠ 14) → a x y = m x y) ∧ ((∃ b, rTn a l1 h1 44 (k + xFs c k + 1) = (none, b)) ∨ ∃ b, rTn a l1 h1 44 (k + xFs c k + 1) = (some (k + xFs c k + 1 + xFs c (k + xFs c k + 1) + 1), b) ∧ ∃ d, rTn b l2 h2 59 (k + xFs c k + 1 + xFs c (k + xFs c k + 1) + 1) = (none, d)))) := by
  have f0 := fs_2 c k
  have f1 := fs_2 c (k + xFs c k + 1)
  obtain ⟨a0, a1 | a1⟩ := tn_spec h h13 (by omega) (l := l0) (hh := h0) (sg := 44) (by decide) (by decide)
  · obtain ⟨c0, o0, a, e0, e1, e2⟩ := a1
    rw [e0] at a0
    have hTa : TX tl c a := h.keep (fun _ _ _ => rfl) (a0 _ _ (by omega)) (fun y => a0 _ _ (by omega))
    obtain ⟨b0, b1 | b1⟩ := tn_spec hTa e2 (by omega) (l := l1) (hh := h1) (sg := 44) (by decide) (by decide)
    · obtain ⟨c1, o1, b, g0, g1, g2⟩ := b1
      rw [g0] at b0
      have hTb : TX tl c b := hTa.keep (fun _ _ _ => rfl) (b0 _ _ (by omega)) (fun y => b0 _ _ (by omega))
      obtain ⟨d0, d1 | d1⟩ := tn_spec hTb g2 (by omega) (l := l2) (hh := h2) (sg := 59) (by decide) (by decide)
      · obtain ⟨c2, o2, d, i0, i1, i2⟩ := d1
        rw [i0] at d0
        exact Or.inl ⟨⟨⟨c0, c1, c2⟩, o0, o1, o2⟩, a, b, d, e0, g0, i0, e1, g1, i1, i2, fun x y hx => ⟨a0 x y hx, (d0 x y hx).trans ((b0 x y hx).trans (a0 x y hx))⟩⟩
      · exact Or.inr ⟨fun z => d1.1 ⟨z.1.2.2, z.2.2.2⟩, Or.inr ⟨a, e0, a0, Or.inr ⟨b, g0, of_none d1.2⟩⟩⟩
    · exact Or.inr ⟨fun z => b1.1 ⟨z.1.2.1, z.2.2.1⟩, Or.inr ⟨a, e0, a0, Or.inl (of_none b1.2)⟩⟩
  · exact Or.inr ⟨fun z => a1.1 ⟨z.1.1, z.2.1⟩, Or.inl (of_none a1.2)⟩
