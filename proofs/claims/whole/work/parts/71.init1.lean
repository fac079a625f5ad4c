/-! THE FIRST TOWN on both sides -/
def mI : jMem := rI2 (h7b (165, hS12.2.1, hS12.2.2.1, m0F, hS12.2.2.2.2)).2.2.2.1
theorem mI_lo {x y : Nat} (hx : x < 165) : mI x y = m0F x y := by
  unfold mI rI2
  rw [(bg_rd _ (n := 5) (by omega)).2.2.2.2.2.2.2.2.2.2 x y (by omega)]
  unfold rI1 rI0
  rw [jup_oth (by omega), jup_oth (by omega), jup_oth (by omega), jup_oth (by omega), jup_oth (by omega), jup_oth (by omega), rAddW_lo _ _ _ _ _ (by omega) (by omega), rAddW_lo _ _ _ _ _ (by omega) (by omega), rAddW_lo _ _ _ _ _ (by omega) (by omega), rAddW_lo _ _ _ _ _ (by omega) (by omega), rAddW_lo _ _ _ _ _ (by omega) (by omega), rStart_lo _ (by omega) (by omega)]
  exact (h7b_lo _ _ _ _).2.2.1 x y hx
theorem i_c1 : m0F 9 0 = nI 5 ∧ m0F 26 1 = nI 0 ∧ m0F 26 2 = nI 0 ∧ m0F 0 7 = nI 0 ∧ m0F 77 3 = nI 0 ∧ m0F 1 2 = nI 0 := by decide +kernel
theorem i_r1 : mI 165 3 = nI 5 ∧ mI 165 1 = nI 0 ∧ mI 165 2 = nI 0 ∧ mI 165 7 = nI 0 ∧ mI 165 12 = nI 0 := by decide +kernel
theorem i_pl : ∀ k : Nat, k < 5 → m0F 10 k = mI 167 k ∧ m0F 11 k = mI 168 k ∧ m0F 12 k = mI 169 k ∧ 1 ≤ (m0F 11 k).toInt ∧ (m0F 11 k).toInt ≤ 60 := by decide +kernel
theorem i_tr : ∀ k : Nat, k < 5 → m0F 15 k = mI 166 (2 + k) ∧ m0F 16 k = mI 166 (12 + k) ∧ m0F 17 k = mI 166 (17 + k) ∧ m0F 18 k = 0 ∧ mI 166 (7 + k) = 0 ∧ mI 166 (22 + k) = 0 := by decide +kernel
theorem i_th : ∀ k : Nat, k < 5 → 1 ≤ (m0F 15 k).toInt ∧ (m0F 15 k).toInt ≤ 99 ∧ m0F 16 k = 0 := by decide +kernel
theorem i_he : ∀ i : Nat, i < 25 → m0F 19 i = mI 166 (27 + i) ∧ 0 ≤ (m0F 19 i).toInt ∧ (m0F 19 i).toInt ≤ 40 := by decide +kernel
theorem i_so : m0F 14 6 = mI 166 0 ∧ m0F 14 7 = mI 166 1 ∧ 0 ≤ (m0F 14 6).toInt ∧ (m0F 14 6).toInt ≤ 60 := by decide +kernel
theorem i_TR : TR True 5 14 0 m0F mI := by
  refine ⟨fun k hk => ?_, fun k hk => ?_, fun k hk => ?_, fun i hi => ?_, fun _ => ⟨i_so.1, i_so.2.1, fun k hk => ?_⟩⟩
  · rw [show 0 + 2 + k = 2 + k by omega]; exact (i_tr k hk).1
  · rw [show 0 + 12 + k = 12 + k by omega]; exact (i_tr k hk).2.1
  · rw [show 0 + 7 + k = 7 + k by omega, show 0 + 22 + k = 22 + k by omega]
    obtain ⟨-, -, -, h4, h5, h6⟩ := i_tr k hk
    show FR (m0F 10 k) (m0F 18 k) _ _
    rw [h4, h5, h6]
    by_cases w : m0F 10 k = 3
    · exact Or.inl ⟨w, Or.inl ⟨rfl, rfl, rfl⟩⟩
    · exact Or.inr ⟨w, rfl, Or.inl ⟨rfl, rfl⟩⟩
  · rw [show 0 + 27 + i = 27 + i by omega]; exact (i_he i hi).1
  · rw [show 0 + 17 + k = 17 + k by omega]; exact (i_tr k hk).2.2.1
theorem i_TI : TI 5 14 m0F := by
  have hfe : ∀ k, k < 5 → q_fe m0F 14 k = 0 := fun k hk => by
    show (m0F 18 k).toInt = 0
    rw [(i_tr k hk).2.2.2.1]; exact i_n0
  have hst : ∀ k, k < 5 → tSt m0F 14 k = true := fun k hk => by
    rw [q_st, hfe k hk]
    have := q_mx2 m0F k
    omega
  refine ⟨fun k hk => ?_, fun k hk => ⟨fun _ => ?_, fun w => ?_⟩, fun i hi => (i_he i hi).2, fun k hk => ?_, ?_⟩
  · rw [hfe k hk]
    have := q_mx2 m0F k
    omega
  · exact ⟨(i_th k hk).1, (i_th k hk).2.1⟩
  · rw [hst k hk] at w; cases w
  · show 0 ≤ (m0F 16 k).toInt ∧ (m0F 16 k).toInt ≤ 7
    rw [(i_th k hk).2.2, i_n0]; omega
  · have hF : q_F 5 14 m0F = 0 := by
      have e : ∀ k, q_f 5 14 m0F k = 0 := fun k => by
        unfold q_f
        by_cases w : k < 5
        · rw [if_pos w, hfe k w]
        · rw [if_neg w]
      unfold q_F
      rw [e, e, e, e, e]; rfl
    unfold q_so
    rw [hF]
    have := i_so.2.2
    omega
theorem i_tx (k : Nat) : narrow .char (.int (m0F 2 k)) = .int (m0F 2 k) := by
  have e : m0F 2 k = m0T 2 k := by
    unfold m0F
    rw [jup_oth (by decide), (ly_rd _ (a := 14) (by omega)).2.2.2.2.2.2.2 2 k (by omega), xread_fr (by decide) (by omega)]
  rw [e]; exact m0T_ok.2.2 k
theorem Rel_0 : Rel 5 0 0 0 0 0 mI mI := by
  have hlo : ∀ x y, x < 165 → mI x y = m0F x y := fun x y hx => mI_lo hx
  have hT : TT 5 14 0 m0F mI := ⟨i_TR, i_TI⟩
  refine ⟨⟨?_, i_r1.1, by omega, by omega, fun k hk => ?_, fun k hk => ?_, fun k hk => ?_⟩, fun k hk => ?_, hT.keep (by omega) (fun x y hx => hlo x y (by omega)) (fun _ _ _ => rfl), ⟨?_, by omega, ?_, i_r1.2.1, by omega, fun i hi => by omega⟩, ⟨?_, i_r1.2.2.1, by omega, fun i hi => by omega⟩, ⟨?_, i_r1.2.2.2.1, by omega, fun i hi => by omega⟩, ⟨⟨?_, by omega, fun k => ?_⟩, i_r1.2.2.2.2, fun k hk => by omega⟩⟩
  · rw [hlo _ _ (by omega)]; exact i_c1.1
  · rw [hlo _ _ (by omega)]; exact (i_pl k hk).1
  · rw [hlo _ _ (by omega)]; exact (i_pl k hk).2.1
  · rw [hlo _ _ (by omega)]; exact (i_pl k hk).2.2.1
  · rw [hlo _ _ (by omega)]; exact (i_pl k hk).2.2.2
  · rw [hlo _ _ (by omega)]; exact i_c1.2.1
  · rw [hlo _ _ (by omega)]; exact i_c1.2.2.1
  · rw [hlo _ _ (by omega)]; exact i_c1.2.2.2.1
  · rw [hlo _ _ (by omega)]; exact i_c1.2.2.2.2.1
  · rw [hlo _ _ (by omega)]; exact i_c1.2.2.2.2.2
  · rw [hlo _ _ (by omega)]; exact i_tx k
/-! one memory -/
section OneM
variable {p x u q n tl : Nat} {c c' m m' : jMem}
theorem Rel.keepL (h : Rel p x u q n tl c m) (hc : ∀ x y, x < 165 → c' x y = c x y) (hm : ∀ x y, 165 ≤ x → m' x y = m x y) : Rel p x u q n tl c' m' := by
  obtain ⟨h1, h2, h3, h4, h5, h6, h7⟩ := h
  have hp := h1.p5
  exact ⟨h1.keep2 (fun x y hx => hc x y (by omega)) (fun x y hx => hm x y (by omega)), h2.keep (fun y => hc _ _ (by omega)), h3.keep hp (fun x y hx => hc x y (by omega)) (fun y _ _ => hm _ _ (by omega)),
    h4.keep hp (fun x y hx => hc x y (by omega)) (hm _ _ (by omega)) (fun y _ _ => hm _ _ (by omega)), h5.keep hp (fun x y hx => hc x y (by omega)) (hm _ _ (by omega)) (fun y _ _ => hm _ _ (by omega)),
    h6.keep (fun x y hx => hc x y (by omega)) (hm _ _ (by omega)) (fun x y hx => hm _ _ (by omega)), h7.keep (fun x y hx => hc x y (by omega)) (hm _ _ (by omega)) (fun y => hm _ _ (by omega))⟩
/-- behind the class's call the reference's memory is what it was -/
theorem OKc.mid {v w : Int32} (h : Rel p x u q n tl c c) (hk : OKc c c v c' w m') : Rel p x u q n tl c c' := h.keepL (fun _ _ _ => rfl) (fun x y hx => hk.2.2.1 x y hx)
/-- behind both calls -/
theorem OKc.fin {v w : Int32} (hk : OKc c c' v c' w m') : v = w ∧ ∃ p x u q n tl, Rel p x u q n tl m' m' := by
  obtain ⟨h1, ⟨p, x, u, q, n, tl, h2⟩, h3, h4⟩ := hk
  exact ⟨h1, p, x, u, q, n, tl, h2.keepL (fun x y hx => h4 x y hx) (fun _ _ _ => rfl)⟩
theorem Rel.stones (h : Rel p x u q n tl c m) : ∃ S, c 14 6 = nI S ∧ S < 1000 := by
  have h1 := h.2.2.1.2.2.2.2.2
  have h2 := q_F10 (c := c) (a := 14) h.2.2.1.2.1
  unfold q_so at h1
  obtain ⟨S, e1, e2⟩ := i_nat (x := c 14 6) h1.1
  exact ⟨S, e1, by omega⟩
end OneM
