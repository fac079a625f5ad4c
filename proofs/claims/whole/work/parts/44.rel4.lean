/-! the first step of a fall, on the class's side -/
section FS
variable {p a w : Nat} {c : jMem} {way : Int32}
theorem fa_fe (hM : MI p a c) (hw : w < p) {k : Nat} (hk : k < p) : q_fe (tFA c a w way) a k = if k = w then q_fe c a w + 1 else q_fe c a k := by
  unfold q_fe
  rw [fa_fel]
  by_cases z : k = w
  · rw [if_pos z, if_pos z]
    have a1 := hM.1 w hw
    have a2 := q_mx2 c w
    unfold q_fe at a1
    rw [i_add (by rw [i_n1]; omega) (by rw [i_n1]; omega), i_n1]
  · rw [if_neg z, if_neg z]
theorem fa_fe_le (ha : 14 ≤ a) (hM : MI p a c) (hw : w < p) (hst : tSt c a w = true) {k : Nat} (hk : k < p) : q_fe c a k ≤ q_fe (tFA c a w way) a k ∧ q_fe (tFA c a w way) a k ≤ q_mx c k := by
  rw [fa_fe hM hw hk]
  have a1 := hM.1 k hk
  by_cases z : k = w
  · rw [if_pos z]
    rw [q_st] at hst
    subst z
    omega
  · rw [if_neg z]; omega
theorem fa_mx (ha : 14 ≤ a) (k : Nat) : q_mx (tFA c a w way) k = q_mx c k := by unfold q_mx; rw [fa_fr (by omega)]
theorem fa_st (ha : 14 ≤ a) (hM : MI p a c) (hw : w < p) {k : Nat} (hk : k < p) (z : k ≠ w) : tSt (tFA c a w way) a k = tSt c a k := by
  rw [Bool.eq_iff_iff, q_st, q_st, fa_fe hM hw hk, if_neg z, fa_mx ha]
theorem fa_so {s : jMem} (ha : 14 ≤ a) (hp : p ≤ 5) (hM : MI p a c) (hw : w < p) (hst : tSt c a w = true) (h6 : s a 6 = tFA c a w way a 6) (hf : ∀ k, k < p → q_fe s a k = q_fe (tFA c a w way) a k) : q_so p a c → q_so p a s := by
  intro hs
  have b1 : q_F p a c + 1 ≤ q_F p a s := by
    refine q_F_lt hp (fun k hk => ?_) hw ?_
    · rw [hf k hk]; exact (fa_fe_le ha hM hw hst hk).1
    · rw [hf w hw, fa_fe hM hw hw, if_pos rfl]; omega
  have b2 := q_F10 (c := c) (a := a) hM.1
  have b3 := hM.2.2.2 w hw
  obtain ⟨s1, s2⟩ := hs
  unfold q_so
  rw [h6, fa_sto ha]
  by_cases z : way = 1
  · rw [if_pos z, i_add (by omega) (by omega)]; omega
  · rw [if_neg z]; omega
theorem lay_half {x : Int32} (h1 : 1 ≤ x.toInt) (h2 : x.toInt ≤ 60) : 1 ≤ (x / 2 + 1).toInt ∧ (x / 2 + 1).toInt ≤ 31 := by
  obtain ⟨n, e1, e2⟩ := i_nat (x := x) (by omega)
  have h3 : n ≤ 60 := by omega
  subst e1
  have key : ∀ n : Nat, n ≤ 60 → 1 ≤ (nI n / 2 + 1).toInt ∧ (nI n / 2 + 1).toInt ≤ 31 := by decide +kernel
  exact key n h3
/-- a DOUBLE one stands again -/
theorem fq_again (ha : 14 ≤ a) (hp : p ≤ 5) (hM : MI p a c) (hw : w < p) (hst : tSt c a w = true) (z : tSt (tFA c a w way) a w = true) {v : Int32} (hv : 1 ≤ v.toInt ∧ v.toInt ≤ 99) : FQ p a c (jup (tFA c a w way) (a + 1) w v) (fun k => tSt c a k = true ∧ q_th c a k ≤ 0 ∧ k ≠ w) ∧ q_fe c a w + 1 ≤ q_fe (jup (tFA c a w way) (a + 1) w v) a w := by
  have e4 : ∀ k, q_fe (jup (tFA c a w way) (a + 1) w v) a k = q_fe (tFA c a w way) a k := fun k => by unfold q_fe; rw [jup_oth (by omega)]
  have em : ∀ k, q_mx (jup (tFA c a w way) (a + 1) w v) k = q_mx c k := fun k => by unfold q_mx; rw [jup_oth (by omega), fa_fr (by omega)]
  have et : ∀ k, tSt (jup (tFA c a w way) (a + 1) w v) a k = tSt (tFA c a w way) a k := fun k => by rw [Bool.eq_iff_iff, q_st, q_st, e4, em, fa_mx ha]
  have e1 : ∀ k, k ≠ w → q_th (jup (tFA c a w way) (a + 1) w v) a k = q_th c a k := fun k q => by unfold q_th; rw [jup_oth2 q, fa_thi]
  have e1w : q_th (jup (tFA c a w way) (a + 1) w v) a w = v.toInt := by unfold q_th; rw [jup_self]
  have hle : q_S p a (jup (tFA c a w way) (a + 1) w v) ≤ q_S p a c := q_S_le (fun k hk q => by
    rw [et, q_st, fa_mx ha] at q
    have := (fa_fe_le (way := way) ha hM hw hst hk).1
    rw [q_st]; omega)
  have h5 := q_S5 p a (jup (tFA c a w way) (a + 1) w v)
  refine ⟨⟨fun x y q => ?_, ?_, fun k hk => ?_, fun k hk => ?_, fun k hk q1 q2 => ?_, fun k hk => ?_, fun k hk q => ?_, ?_⟩, ?_⟩
  · rw [jup_oth (by omega), fa_fr q]
  · rw [jup_oth (by omega), fa_day]
  · rw [e4]; exact fa_fe_le ha hM hw hst hk
  · by_cases q : k = w
    · subst q; rw [e1w]; omega
    · rw [e1 k q]
      have := hM.2.1 k hk
      omega
  · have q3 : k ≠ w := fun q => by subst q; rw [e1w] at q2; omega
    rw [et, fa_st ha hM hw hk q3] at q1
    rw [e1 k q3] at q2
    exact ⟨q1, q2, q3⟩
  · rw [jup_oth (by omega), fa_rou, e4, fa_fe hM hw hk]
    by_cases q : k = w
    · rw [if_pos q, if_pos q, if_neg (by subst q; omega)]
    · rw [if_neg q, if_neg q, if_pos rfl]
  · have q3 : k ≠ w := fun y => by subst y; rw [et, z] at q; cases q
    right
    rw [et, fa_st ha hM hw hk q3] at q
    exact ⟨q, e1 k q3⟩
  · exact fa_so ha hp hM hw hst (by rw [jup_oth (by omega)]) (fun k _ => e4 k)
  · rw [e4, fa_fe hM hw hw, if_pos rfl]; omega
/-- it is DOWN, and its props fall away -/
theorem fq_down (ha : 14 ≤ a) (hp : p ≤ 5) (hM : MI p a c) (hw : w < p) (hst : tSt c a w = true) (z : tSt (tFA c a w way) a w = false) : FQ p a c (it (tDec a w) p 0 (jup (tFA c a w way) (a + 1) w 0)) (fun k => (tSt c a k = true ∧ q_th c a k ≤ 0 ∧ k ≠ w) ∨ 0 < tHeld c a w k) ∧
    tSt (it (tDec a w) p 0 (jup (tFA c a w way) (a + 1) w 0)) a w = false ∧ q_fe c a w + 1 ≤ q_fe (it (tDec a w) p 0 (jup (tFA c a w way) (a + 1) w 0)) a w := by
  have eo : ∀ x y, x ≠ a + 1 → it (tDec a w) p 0 (jup (tFA c a w way) (a + 1) w 0) x y = tFA c a w way x y := fun x y q => by rw [ds_fr q, jup_oth q]
  have eD : ∀ k, tSt (jup (tFA c a w way) (a + 1) w 0) a k = tSt (tFA c a w way) a k := fun k => by unfold tSt; rw [jup_oth (by omega), jup_oth (by omega)]
  have eH : ∀ k, tHeld (jup (tFA c a w way) (a + 1) w 0) a w k = tHeld c a w k := fun k => by unfold tHeld; rw [jup_oth (by omega), fa_fr (by omega)]
  have e1 : ∀ k, k < p → k ≠ w → it (tDec a w) p 0 (jup (tFA c a w way) (a + 1) w 0) (a + 1) k = if tSt c a k = true then c (a + 1) k - tHeld c a w k else c (a + 1) k := fun k hk q => by
    rw [ds_thi ha hk p 0 _ (by omega), eD, eH, fa_st ha hM hw hk q, jup_oth2 q, fa_thi]
    by_cases y : tSt c a k = true
    · rw [if_pos ⟨Nat.zero_le _, y⟩, if_pos y]
    · rw [if_neg (fun u => y u.2), if_neg y]
  have e1w : it (tDec a w) p 0 (jup (tFA c a w way) (a + 1) w 0) (a + 1) w = 0 := by
    rw [ds_thi ha hw p 0 _ (by omega), eD, z, if_neg (fun u => absurd u.2 (by decide)), jup_self]
  generalize it (tDec a w) p 0 (jup (tFA c a w way) (a + 1) w 0) = s at eo e1 e1w ⊢
  have e4 : ∀ k, q_fe s a k = q_fe (tFA c a w way) a k := fun k => by unfold q_fe; rw [eo _ _ (by omega)]
  have em : ∀ k, q_mx s k = q_mx c k := fun k => by unfold q_mx; rw [eo _ _ (by omega), fa_fr (by omega)]
  have et : ∀ k, tSt s a k = tSt (tFA c a w way) a k := fun k => by rw [Bool.eq_iff_iff, q_st, q_st, e4, em, fa_mx ha]
  have hsw : tSt s a w = false := by rw [et]; exact z
  have hmono : ∀ k, k < p → tSt s a k = true → tSt c a k = true := fun k hk q => by
    by_cases y : k = w
    · subst y; rw [hsw] at q; cases q
    · rw [et, fa_st ha hM hw hk y] at q; exact q
  have hlt : q_S p a s + 1 ≤ q_S p a c := q_S_lt hp hmono hw hst hsw
  have h5 := q_S5 p a c
  have hheld : ∀ k, k < p → 0 ≤ (tHeld c a w k).toInt ∧ (tHeld c a w k).toInt ≤ 40 := fun k hk => hM.2.2.1 _ (by omega)
  have hth : ∀ k, k < p → k ≠ w → tSt c a k = true → q_th s a k = q_th c a k - (tHeld c a w k).toInt := fun k hk q y => by
    have a1 := hM.2.1 k hk
    have a2 := hheld k hk
    unfold q_th at a1 ⊢
    rw [e1 k hk q, if_pos y, i_sub (by omega) (by omega)]
  have hth2 : ∀ k, k < p → k ≠ w → tSt c a k = false → q_th s a k = q_th c a k := fun k hk q y => by
    unfold q_th
    rw [e1 k hk q, y, if_neg (by decide)]
  have hthw : q_th s a w = 0 := by unfold q_th; rw [e1w]; exact i_n0
  refine ⟨⟨fun x y q => ?_, ?_, fun k hk => ?_, fun k hk => ?_, fun k hk q1 q2 => ?_, fun k hk => ?_, fun k hk q => ?_, ?_⟩, hsw, ?_⟩
  · rw [eo _ _ (by omega), fa_fr q]
  · rw [eo _ _ (by omega), fa_day]
  · rw [e4]; exact fa_fe_le ha hM hw hst hk
  · have a1 := hM.2.1 k hk
    have a2 := hheld k hk
    by_cases q : k = w
    · subst q; rw [hthw]; omega
    · cases y : tSt c a k with
      | true => rw [hth k hk q y]; omega
      | false => rw [hth2 k hk q y]; omega
  · have q3 : k ≠ w := fun q => by subst q; rw [hsw] at q1; cases q1
    have q4 := hmono k hk q1
    rw [hth k hk q3 q4] at q2
    by_cases y : 0 < tHeld c a w k
    · exact Or.inr y
    · left
      rw [i_lt, i_n0] at y
      exact ⟨q4, by omega, q3⟩
  · rw [eo _ _ (by omega), fa_rou, e4, fa_fe hM hw hk]
    by_cases q : k = w
    · rw [if_pos q, if_pos q, if_neg (by subst q; omega)]
    · rw [if_neg q, if_neg q, if_pos rfl]
  · by_cases q3 : k = w
    · left; subst q3; exact hthw
    · right
      rw [et, fa_st ha hM hw hk q3] at q
      exact ⟨q, hth2 k hk q3 q⟩
  · exact fa_so ha hp hM hw hst (by rw [eo _ _ (by omega)]) (fun k _ => e4 k)
  · rw [e4, fa_fe hM hw hw, if_pos rfl]; omega
end FS
