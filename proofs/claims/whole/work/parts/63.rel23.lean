/-! ORDER: sequences of blasts, by what the class's town looks like -/
theorem few_spec {c : jMem} {a w : Nat} : ∀ n i, i + n = 10 → tFewL c a w n i = -4 ∨ ∃ k, i ≤ k ∧ k ≤ 9 ∧ tFewL c a w n i = nI k ∧ tWF c a w (nI k) = true
  | 0, i, _ => Or.inl rfl
  | n + 1, i, h => by
    rw [tFewL]
    by_cases z : tWF c a w (nI i) = true
    · rw [if_pos z]; exact Or.inr ⟨i, Nat.le_refl _, by omega, rfl, z⟩
    · rw [if_neg z]
      rcases few_spec n (i + 1) (by omega) with q | ⟨k, k1, k2, k3, k4⟩
      · exact Or.inl q
      · exact Or.inr ⟨k, by omega, k2, k3, k4⟩
theorem few_in {c : jMem} {a w : Nat} (h : ¬ tFew c a w = -4) : ∃ k, 1 ≤ k ∧ k ≤ 9 ∧ tFew c a w = nI k ∧ tWF c a w (nI k) = true := (few_spec 9 1 rfl).resolve_left h
/-- a node of the search: class and reference side by side -/
def GN (p a r : Nat) (c m : jMem) : Prop := PR p c m ∧ PI p c ∧ TR False p a r c m ∧ TI p a c ∧ 14 ≤ a
def sq (p a : Nat) : List Nat → jMem → Option Nat
  | [], c => if tCD c a p = nI p then some 0 else none
  | w :: l, c => if w < p ∧ tSt c a w = true ∧ ¬ tFew c a w = -4 then (sq p a l (tBlM c a p w (tFew c a w))).map (fun t => (tFew c a w).toNatClampNeg + t) else none
section Sq
variable {p a r : Nat} {c m : jMem}
theorem gn_blow (h : GN p a r c m) {w : Nat} (hw : w < p) (hst : tSt c a w = true) (hf : ¬ tFew c a w = -4) : ∃ m', rBl m r w (tFew c a w) p = some (tWay c a w, m') ∧ GN p a r (tBlM c a p w (tFew c a w)) m' ∧ (∀ x y, x < a ∨ a + 4 < x → tBlM c a p w (tFew c a w) x y = c x y) ∧ (∀ x y, x ≠ 166 → x ≠ 176 → x ≠ 177 → m' x y = m x y) ∧ (∀ j, j < r ∨ r + 52 ≤ j → m' 166 j = m 166 j) ∧ q_F p a c + 1 ≤ q_F p a (tBlM c a p w (tFew c a w)) ∧
    (∀ k, k < p → tBlM c a p w (tFew c a w) (a + 2) k = if q_fe (tBlM c a p w (tFew c a w)) a k = q_fe c a k then c (a + 2) k else 0) ∧ (∀ k, k < p → q_fe c a k ≤ q_fe (tBlM c a p w (tFew c a w)) a k) := by
  obtain ⟨hP, hI, hT, hi, ha⟩ := h
  obtain ⟨k, k1, k2, k3, k4⟩ := few_in hf
  obtain ⟨m', b1, b2, b3, b4, b5, b6⟩ := blow_sim ha hP hI hT hi hw hst (n := tFew c a w) (by rw [k3, nI_toInt (by omega)]; omega)
  have hwf : tWF c a w (tFew c a w) = true := by rw [k3]; exact k4
  obtain ⟨q1, q2⟩ := b6 hwf
  have e : tBlR c a w (tFew c a w) = tWay c a w := by unfold tBlR; rw [if_pos hwf]
  rw [e] at b1
  exact ⟨m', b1, ⟨hP.keep (fun x y hx => b5 x y (by omega)) (fun x y hx h2 _ => rBl_lo hx (by omega) (by omega) b1), hI.keep (fun y => b5 _ _ (by omega)), b2, b3, ha⟩, b5, fun x y h1 h2 h3 => rBl_lo h1 h2 h3 b1, b4, q_F_lt hP.p5 (fun k hk => (q1.2.2.1 k hk).1) hw q2, q1.2.2.2.2.2.1, fun k hk => (q1.2.2.1 k hk).1⟩
theorem sq_cong : ∀ (l : List Nat) (c c' : jMem) (a a' r : Nat) (m : jMem), GN p a r c m → GN p a' r c' m → sq p a l c = sq p a' l c'
  | [], c, c', a, a', r, m, h, h' => by
    have e1 := h.2.2.1.cd h.1.p5
    have e2 := h'.2.2.1.cd h'.1.p5
    rw [sq, sq, e1, e2]
  | w :: l, c, c', a, a', r, m, h, h' => by
    rw [sq, sq]
    by_cases hw : w < p
    · have e1 : tSt c a w = tSt c' a' w := (h.2.2.1.st hw).trans (h'.2.2.1.st hw).symm
      have e2 : tFew c a w = tFew c' a' w := (h.2.2.1.calls hw).trans (h'.2.2.1.calls hw).symm
      by_cases z : w < p ∧ tSt c a w = true ∧ ¬ tFew c a w = -4
      · have z' : w < p ∧ tSt c' a' w = true ∧ ¬ tFew c' a' w = -4 := by rw [← e1, ← e2]; exact z
        rw [if_pos z, if_pos z']
        obtain ⟨m1, b1, g1, -⟩ := gn_blow h hw z.2.1 z.2.2
        obtain ⟨m2, b2, g2, -⟩ := gn_blow h' hw z'.2.1 z'.2.2
        rw [← e2] at b2
        have em : m1 = m2 := by
          have := Option.some.inj (b1.symm.trans b2)
          exact (Prod.mk.inj this).2
        subst em
        rw [sq_cong l _ _ _ _ _ _ g1 g2, e2]
      · have z' : ¬ (w < p ∧ tSt c' a' w = true ∧ ¬ tFew c' a' w = -4) := by rw [← e1, ← e2]; exact z
        rw [if_neg z, if_neg z']
    · rw [if_neg (fun y => hw y.1), if_neg (fun y => hw y.1)]
theorem sq_bd : ∀ (l : List Nat) (c m : jMem) (k : Nat), GN p a r c m → sq p a l c = some k → (k : Int) ≤ 9 * (10 - q_F p a c)
  | [], c, m, k, h, e => by
    rw [sq] at e
    have := q_F10 (c := c) (a := a) h.2.2.2.1.1
    split at e
    · cases e; omega
    · cases e
  | w :: l, c, m, k, h, e => by
    rw [sq] at e
    by_cases z : w < p ∧ tSt c a w = true ∧ ¬ tFew c a w = -4
    · rw [if_pos z] at e
      obtain ⟨m1, b1, g1, -, -, -, g2, -⟩ := gn_blow h z.1 z.2.1 z.2.2
      obtain ⟨f, f1, f2, f3, -⟩ := few_in z.2.2
      cases es : sq p a l (tBlM c a p w (tFew c a w)) with
      | none => rw [es] at e; cases e
      | some k' =>
        have ih := sq_bd l _ m1 k' g1 es
        rw [es] at e
        have e' : (tFew c a w).toNatClampNeg + k' = k := Option.some.inj e
        rw [f3, nI_clamp (by omega)] at e'
        omega
    · rw [if_neg z] at e; cases e
/-- from here on nothing is below B -/
def dn (p a : Nat) (c : jMem) (tr B : Int) : Prop := ∀ l k, sq p a l c = some k → B ≤ tr + k
theorem dn_cong {c' : jMem} {a' : Nat} {tr B : Int} (h : GN p a r c m) (h' : GN p a' r c' m) (hd : dn p a c tr B) : dn p a' c' tr B := fun l k e => hd l k ((sq_cong l c c' a a' r m h h').trans e)
theorem dn_le {tr tr' B B' : Int} (hd : dn p a c tr B) (h1 : tr ≤ tr') (h2 : B' ≤ B) : dn p a c tr' B' := fun l k e => by
  have := hd l k e
  omega
theorem all_cd (h : ∀ k, k < p → tSt c a k = false) : tCD c a p = nI p := by
  unfold tCD
  have key : ∀ n i s, i + n ≤ p → it (fun w (d : Int32) => if tSt c a w = true then d else d + 1) n i (nI s) = nI (s + n) := fun n => by
    induction n with
    | zero => intro i s _; rfl
    | succ n ih =>
      intro i s hi
      rw [it, h i (by omega), b_f, nI_1, ih (i + 1) (s + 1) (by omega), show s + 1 + n = s + (n + 1) by omega]
  have := key p 0 0 (by omega)
  rw [Nat.zero_add] at this
  exact this
theorem F_top (h : ∀ k, k < p → 0 ≤ q_fe c a k ∧ q_fe c a k ≤ q_mx c k) (hp : p ≤ 5) {k : Nat} (hk : k < p) (hst : tSt c a k = true) : q_F p a c ≤ 9 := by
  have h0 := q_f2 (k := 0) (h 0)
  have h1 := q_f2 (k := 1) (h 1)
  have h2 := q_f2 (k := 2) (h 2)
  have h3 := q_f2 (k := 3) (h 3)
  have h4 := q_f2 (k := 4) (h 4)
  have hk1 : q_f p a c k ≤ 1 := by
    unfold q_f
    rw [if_pos hk]
    rw [q_st] at hst
    have := q_mx2 c k
    omega
  have k5 : k = 0 ∨ k = 1 ∨ k = 2 ∨ k = 3 ∨ k = 4 := by omega
  unfold q_F
  rcases k5 with rfl | rfl | rfl | rfl | rfl <;> omega
theorem not_all (h : ¬ tCD c a p = nI p) : ∃ k, k < p ∧ tSt c a k = true := by
  apply Classical.byContradiction
  intro z
  exact h (all_cd (fun k hk => Bool.eq_false_iff.mpr (fun y => z ⟨k, hk, y⟩)))
end Sq
/-! marks -/
theorem mk_ft : ∀ F : Fin 3, ∀ T : Fin 100, (nI F.val <<< ((7 : Int32) &&& 31)).toInt64 ||| (nI T.val).toInt64 = lN (F.val * 128 + T.val) := by decide +kernel
theorem mk_or {S X : Nat} (hS : S < 2 ^ 50) (hX : X < 512) : lN S <<< ((9 : Int32).toInt64 &&& 63) ||| lN X = lN (S * 512 + X) := by
  have e9 : (9 : Int32).toInt64 &&& 63 = 9 := by decide
  rw [e9]
  refine Int64.toBitVec_inj.mp ?_
  rw [Int64.toBitVec_or, Int64.toBitVec_shiftLeft]
  have es : (9 : Int64).toBitVec.smod 64 = 9#64 := by decide
  rw [es]
  apply BitVec.eq_of_toNat_eq
  rw [BitVec.toNat_or, BitVec.shiftLeft_eq', BitVec.toNat_shiftLeft]
  show ((S % 2 ^ 64) <<< 9) % 2 ^ 64 ||| X % 2 ^ 64 = (S * 512 + X) % 2 ^ 64
  rw [Nat.mod_eq_of_lt (a := S) (by omega), Nat.mod_eq_of_lt (a := X) (by omega), Nat.mod_eq_of_lt (a := S * 512 + X) (by omega), Nat.shiftLeft_eq, Nat.mod_eq_of_lt (a := S * 2 ^ 9) (by omega)]
  have := Nat.shiftLeft_add_eq_or_of_lt (i := 9) (b := X) (by omega) S
  rw [Nat.shiftLeft_eq] at this
  rw [← this]
def mkX (c : jMem) (a w : Nat) : Nat := (q_fe c a w).toNat * 128 + (q_th c a w).toNat
def mkN (c : jMem) (a p : Nat) : Nat := it (fun w S => S * 512 + mkX c a w) p 0 0
theorem mkX_in {p a : Nat} {c : jMem} (h : TI p a c) {w : Nat} (hw : w < p) : mkX c a w < 512 ∧ 1 ≤ mkX c a w := by
  have h1 := h.1 w hw
  have h2 := h.th hw
  have h3 := q_mx2 c w
  have h4 := h.2.1 w hw
  unfold mkX
  refine ⟨by omega, ?_⟩
  cases z : tSt c a w with
  | true => have := (h4.1 z).1; omega
  | false => rw [q_sf] at z; omega
theorem mk_eq {p a : Nat} {c : jMem} (h : TI p a c) (hp : p ≤ 5) : oMk c a p = lN (mkN c a p) := by
  have key : ∀ n, n ≤ p → it (oMkF c a) n 0 0 = lN (it (fun w S => S * 512 + mkX c a w) n 0 0) ∧ it (fun w S => S * 512 + mkX c a w) n 0 0 < 512 ^ n := fun n => by
    induction n with
    | zero => intro _; exact ⟨rfl, by rw [it]; decide⟩
    | succ n ih =>
      intro hn
      obtain ⟨i1, i2⟩ := ih (by omega)
      have hw : n < p := by omega
      have h1 := h.1 n hw
      have h2 := h.th hw
      have h3 := q_mx2 c n
      have hX := mkX_in h hw
      obtain ⟨F, eF, eF2⟩ := i_nat (x := c (a + 4) n) h1.1
      obtain ⟨T, eT, eT2⟩ := i_nat (x := c (a + 1) n) h2.1
      unfold q_fe at h1
      unfold q_th at h2
      have hb : 512 ^ n ≤ 512 ^ 4 := Nat.pow_le_pow_right (by decide) (by omega)
      have hb2 : (512 : Nat) ^ 4 = 68719476736 := by decide
      have hft := mk_ft ⟨F, by omega⟩ ⟨T, by omega⟩
      dsimp only at hft
      have eX : mkX c a n = F * 128 + T := by
        unfold mkX q_fe q_th
        rw [eF2, eT2]; simp
      rw [it_snoc, it_snoc, Nat.zero_add, i1]
      refine ⟨?_, ?_⟩
      · unfold oMkF
        rw [Int64.or_assoc, eF, eT, hft, mk_or (by omega) (by omega), eX]
      · rw [Nat.pow_succ]; omega
  exact (key p (Nat.le_refl _)).1
theorem mkN_lt {p a : Nat} {c : jMem} (h : TI p a c) : ∀ n, n ≤ p → it (fun w S => S * 512 + mkX c a w) n 0 0 < 512 ^ n
  | 0, _ => by rw [it]; decide
  | n + 1, hn => by
    have ih := mkN_lt h n (by omega)
    have hX := mkX_in h (w := n) (by omega)
    rw [it_snoc, Nat.zero_add, Nat.pow_succ]
    omega
theorem mkN_inj {p a a' : Nat} {c c' : jMem} (h : TI p a c) (h' : TI p a' c') : ∀ n, n ≤ p → it (fun w S => S * 512 + mkX c a w) n 0 0 = it (fun w S => S * 512 + mkX c' a' w) n 0 0 → ∀ w, w < n → mkX c a w = mkX c' a' w
  | 0, _, _, w, hw => by omega
  | n + 1, hn, e, w, hw => by
    rw [it_snoc, it_snoc, Nat.zero_add] at e
    have h1 := mkX_in h (w := n) (by omega)
    have h2 := mkX_in h' (w := n) (by omega)
    by_cases z : w = n
    · subst z; omega
    · exact mkN_inj h h' n (by omega) (by omega) w (by omega)
theorem mk_inj {p a a' : Nat} {c c' : jMem} (hp : p ≤ 5) (h : TI p a c) (h' : TI p a' c') (e : oMk c a p = oMk c' a' p) : ∀ w, w < p → c (a + 4) w = c' (a' + 4) w ∧ c (a + 1) w = c' (a' + 1) w := by
  have b1 := mkN_lt h p (Nat.le_refl _)
  have b2 := mkN_lt h' p (Nat.le_refl _)
  have hb : 512 ^ p ≤ 512 ^ 5 := Nat.pow_le_pow_right (by decide) hp
  have hb2 : (512 : Nat) ^ 5 = 35184372088832 := by decide
  rw [mk_eq h hp, mk_eq h' hp] at e
  unfold mkN at e
  rw [pk_lEQ (by omega) (by omega)] at e
  intro w hw
  have eX := mkN_inj h h' p (Nat.le_refl _) e w hw
  have h1 := h.1 w hw
  have h2 := h.th hw
  have h1' := h'.1 w hw
  have h2' := h'.th hw
  have h3 := q_mx2 c w
  have h3' := q_mx2 c' w
  unfold mkX at eX
  unfold q_fe at h1 h1' eX
  unfold q_th at h2 h2' eX
  exact ⟨Int32.toInt_inj.mp (by omega), Int32.toInt_inj.mp (by omega)⟩
theorem mk_ne0 {p a : Nat} {c : jMem} (hp : p ≤ 5) (h1 : 1 ≤ p) (h : TI p a c) : ¬ oMk c a p = 0 := by
  have b1 := mkN_lt h p (Nat.le_refl _)
  have hb : 512 ^ p ≤ 512 ^ 5 := Nat.pow_le_pow_right (by decide) hp
  have hb2 : (512 : Nat) ^ 5 = 35184372088832 := by decide
  intro e
  rw [mk_eq h hp, show (0 : Int64) = lN 0 by decide] at e
  unfold mkN at e
  rw [pk_lEQ (by omega) (by omega)] at e
  obtain ⟨n, rfl⟩ : ∃ n, p = n + 1 := ⟨p - 1, by omega⟩
  rw [it_snoc, Nat.zero_add] at e
  have := (mkX_in h (w := n) (by omega)).2
  omega
