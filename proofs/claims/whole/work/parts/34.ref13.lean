def rBuR (S i j : Nat) : Int32 := nI (S - 8 * i - 5 * j)
def rBuI (S i : Nat) : Nat → Int32 × Int32 → Int32 × Int32 := fun j q =>
  if rBuR S i j - rBuR S i j / 3 * 3 = 0 then (q.1 + 1, if nI (i + j) + rBuR S i j / 3 < q.2 then nI (i + j) + rBuR S i j / 3 else q.2) else q
def rBuO (S : Nat) : Nat → Int32 × Int32 → Int32 × Int32 := fun i q => it (rBuI S i) ((S - 8 * i) / 5 + 1) 0 q
def rBuilt (m : jMem) (w : Int32) (S : Nat) : Int32 × jMem := if rIn w.toInt64 0 1 = true then
  (if w = 0 then (it (rBuO S) (S / 8 + 1) 0 (0, 1000000)).1 else if (it (rBuO S) (S / 8 + 1) 0 (0, 1000000)).1 = 0 then -4 else (it (rBuO S) (S / 8 + 1) 0 (0, 1000000)).2, m) else (-1, m)
set_option maxRecDepth 20000 in
theorem lr_buI {G : jG} {N : Nat} {κ : Nat → jK} {ρ : Nat → Nat → Option Nat} {ν : Nat → Nat → Int64} {Q : Option Value → jH → Prop} {d : Nat} {h S : Nat} {w : Int32} {μ : jMem} (hr : shR N κ ρ) (hS : S < 100000) (hh : 8 * h ≤ S) {q0 : Int32 × Int32} {x7 : Option Value} {x8 : Option Value} (K : ∀ x7 x8, J G RX7 cX7_built 9 false d Q 0 0 (N, κ, ρ, μ, ν) 112 [some (.ref 165), some (.int w), some (.int (nI S)), some (.int (it (rBuI S h) ((S - 8 * h) / 5 + 1) 0 q0).1), some (.int (it (rBuI S h) ((S - 8 * h) / 5 + 1) 0 q0).2), some (.int (nI h)), some (.int (nI ((S - 8 * h) / 5 + 1))), x7, x8] []) : J G RX7 cX7_built 9 false d Q 0 0 (N, κ, ρ, μ, ν) 40 [some (.ref 165), some (.int w), some (.int (nI S)), some (.int q0.1), some (.int q0.2), some (.int (nI h)), some (.int (nI 0)), x7, x8] [] := by
  refine it_loop (f := rBuI S h) (p := ((S - 8 * h) / 5 + 1)) (fun i s => ∀ x7 x8, J G RX7 cX7_built 9 false d Q 0 0 (N, κ, ρ, μ, ν) 40 [some (.ref 165), some (.int w), some (.int (nI S)), some (.int s.1), some (.int s.2), some (.int (nI h)), some (.int (nI i)), x7, x8] []) (fun s => ∀ x7 x8, J G RX7 cX7_built 9 false d Q 0 0 (N, κ, ρ, μ, ν) 112 [some (.ref 165), some (.int w), some (.int (nI S)), some (.int s.1), some (.int s.2), some (.int (nI h)), some (.int (nI ((S - 8 * h) / 5 + 1))), x7, x8] []) (fun _ _ => True) ?_ ?_ (fun _ _ _ _ => trivial) ((S - 8 * h) / 5 + 1) 0 q0 (by omega) trivial K _ _
  · intro s hI K x7 x8
    refine j_bipush (v := 8) dX7_built_40 (by decide) ?_
    refine j_iload dX7_built_42 rfl ?_
    refine j_imul dX7_built_44 ?_
    refine j_iconst (v := 5) dX7_built_45 (by decide) ?_
    refine j_iload dX7_built_46 rfl ?_
    refine j_imul dX7_built_48 ?_
    refine j_iadd dX7_built_49 ?_
    refine j_iload_n dX7_built_50 rfl ?_
    refine k_icmp_gt (tgt := 112) dX7_built_51 (by decide) (fun c51 c51' => ?_) (fun c51 c51' => ?_)
    · skip
      exact K _ _
    · skip
      exact absurd (by simp only [jl8, jl5, pk_mul, nI_add]; exact nI_lt (by omega) (by omega)) c51
  · intro i s hi hI K x7 x8
    refine j_bipush (v := 8) dX7_built_40 (by decide) ?_
    refine j_iload dX7_built_42 rfl ?_
    refine j_imul dX7_built_44 ?_
    refine j_iconst (v := 5) dX7_built_45 (by decide) ?_
    refine j_iload dX7_built_46 rfl ?_
    refine j_imul dX7_built_48 ?_
    refine j_iadd dX7_built_49 ?_
    refine j_iload_n dX7_built_50 rfl ?_
    refine k_icmp_gt (tgt := 112) dX7_built_51 (by decide) (fun c51 c51' => ?_) (fun c51 c51' => ?_)
    · skip
      exact absurd c51 (by simp only [jl8, jl5, pk_mul, nI_add]; exact nI_nlt (by omega) (by omega))
    · skip
      refine j_iload_n dX7_built_54 rfl ?_
      refine j_bipush (v := 8) dX7_built_55 (by decide) ?_
      refine j_iload dX7_built_57 rfl ?_
      refine j_imul dX7_built_59 ?_
      refine j_isub dX7_built_60 ?_
      refine j_topi (w := nI (S - 8 * h)) (by rw [jl8, pk_mul]; exact pk_sub hh) ?_
      refine j_iconst (v := 5) dX7_built_61 (by decide) ?_
      refine j_iload dX7_built_62 rfl ?_
      refine j_imul dX7_built_64 ?_
      refine j_isub dX7_built_65 ?_
      refine j_topi (w := rBuR S h i) (by rw [jl5, pk_mul]; exact pk_sub (by omega)) ?_
      refine j_istore_7 dX7_built_66 rfl ?_
      refine j_iload dX7_built_68 rfl ?_
      refine j_iconst (v := 3) dX7_built_70 (by decide) ?_
      refine j_irem dX7_built_71 (by decide) ?_
      refine j_if_ne (tgt := 106) dX7_built_72 (by decide) (fun c72 => ?_) (fun c72 => ?_)
      · skip
        refine j_iinc_6 (v := nI (i + 1)) dX7_built_106 (nI_add _ _) rfl ?_
        refine j_goto (tgt := 40) dX7_built_109 (by decide) ?_
        simp only [rBuI, c72, reduceIte, Bool.false_eq_true, Bool.true_eq_false, and_self, and_true, true_and, and_false, false_and, not_true_eq_false, not_false_eq_true, ne_eq, decide_true, decide_false, if_true, if_false, Bool.not_eq_true, Bool.not_eq_false] at K
        exact K _ _
      · skip
        refine j_iload dX7_built_75 rfl ?_
        refine j_iload dX7_built_77 rfl ?_
        refine j_iadd dX7_built_79 ?_
        refine j_topi (w := nI (h + i)) (by rw [nI_add]) ?_
        refine j_iload dX7_built_80 rfl ?_
        refine j_iconst (v := 3) dX7_built_82 (by decide) ?_
        refine j_idiv dX7_built_83 (by decide) ?_
        refine j_iadd dX7_built_84 ?_
        refine j_istore_8 dX7_built_85 rfl ?_
        refine j_iinc_3 dX7_built_87 rfl rfl ?_
        refine j_iload dX7_built_90 rfl ?_
        refine j_iload dX7_built_92 rfl ?_
        refine k_icmp_ge (tgt := 102) dX7_built_94 (by decide) (fun c94 c94' => ?_) (fun c94 c94' => ?_)
        · skip
          refine j_iload dX7_built_102 rfl ?_
          refine j_istore_4 dX7_built_104 rfl ?_
          refine j_iinc_6 (v := nI (i + 1)) dX7_built_106 (nI_add _ _) rfl ?_
          refine j_goto (tgt := 40) dX7_built_109 (by decide) ?_
          simp only [rBuI, eq_true c72, c94, c94', reduceIte, Bool.false_eq_true, Bool.true_eq_false, and_self, and_true, true_and, and_false, false_and, not_true_eq_false, not_false_eq_true, ne_eq, decide_true, decide_false, if_true, if_false, Bool.not_eq_true, Bool.not_eq_false] at K
          exact K _ _
        · skip
          refine j_iload dX7_built_97 rfl ?_
          refine j_goto (tgt := 104) dX7_built_99 (by decide) ?_
          refine j_istore_4 dX7_built_104 rfl ?_
          refine j_iinc_6 (v := nI (i + 1)) dX7_built_106 (nI_add _ _) rfl ?_
          refine j_goto (tgt := 40) dX7_built_109 (by decide) ?_
          simp only [rBuI, eq_true c72, c94, c94', reduceIte, Bool.false_eq_true, Bool.true_eq_false, and_self, and_true, true_and, and_false, false_and, not_true_eq_false, not_false_eq_true, ne_eq, decide_true, decide_false, if_true, if_false, Bool.not_eq_true, Bool.not_eq_false] at K
          exact K _ _

set_option maxRecDepth 20000 in
theorem lr_buO {G : jG} {N : Nat} {κ : Nat → jK} {ρ : Nat → Nat → Option Nat} {ν : Nat → Nat → Int64} {Q : Option Value → jH → Prop} {d : Nat} {S : Nat} {w : Int32} {μ : jMem} (hr : shR N κ ρ) (hS : S < 100000) {q0 : Int32 × Int32} {x6 : Option Value} {x7 : Option Value} {x8 : Option Value} (K : ∀ x6 x7 x8, J G RX7 cX7_built 9 false d Q 0 0 (N, κ, ρ, μ, ν) 118 [some (.ref 165), some (.int w), some (.int (nI S)), some (.int (it (rBuO S) (S / 8 + 1) 0 q0).1), some (.int (it (rBuO S) (S / 8 + 1) 0 q0).2), some (.int (nI (S / 8 + 1))), x6, x7, x8] []) : J G RX7 cX7_built 9 false d Q 0 0 (N, κ, ρ, μ, ν) 28 [some (.ref 165), some (.int w), some (.int (nI S)), some (.int q0.1), some (.int q0.2), some (.int (nI 0)), x6, x7, x8] [] := by
  refine it_loop (f := rBuO S) (p := (S / 8 + 1)) (fun i s => ∀ x6 x7 x8, J G RX7 cX7_built 9 false d Q 0 0 (N, κ, ρ, μ, ν) 28 [some (.ref 165), some (.int w), some (.int (nI S)), some (.int s.1), some (.int s.2), some (.int (nI i)), x6, x7, x8] []) (fun s => ∀ x6 x7 x8, J G RX7 cX7_built 9 false d Q 0 0 (N, κ, ρ, μ, ν) 118 [some (.ref 165), some (.int w), some (.int (nI S)), some (.int s.1), some (.int s.2), some (.int (nI (S / 8 + 1))), x6, x7, x8] []) (fun _ _ => True) ?_ ?_ (fun _ _ _ _ => trivial) (S / 8 + 1) 0 q0 (by omega) trivial K _ _ _
  · intro s hI K x6 x7 x8
    refine j_bipush (v := 8) dX7_built_28 (by decide) ?_
    refine j_iload dX7_built_30 rfl ?_
    refine j_imul dX7_built_32 ?_
    refine j_iload_n dX7_built_33 rfl ?_
    refine k_icmp_gt (tgt := 118) dX7_built_34 (by decide) (fun c34 c34' => ?_) (fun c34 c34' => ?_)
    · skip
      exact K _ _ _
    · skip
      exact absurd (by rw [jl8, pk_mul]; exact nI_lt (by omega) (by omega)) c34
  · intro i s hi hI K x6 x7 x8
    refine j_bipush (v := 8) dX7_built_28 (by decide) ?_
    refine j_iload dX7_built_30 rfl ?_
    refine j_imul dX7_built_32 ?_
    refine j_iload_n dX7_built_33 rfl ?_
    refine k_icmp_gt (tgt := 118) dX7_built_34 (by decide) (fun c34 c34' => ?_) (fun c34 c34' => ?_)
    · skip
      exact absurd c34 (by rw [jl8, pk_mul]; exact nI_nlt (by omega) (by omega))
    · skip
      refine j_iconst (v := 0) dX7_built_37 (by decide) ?_
      refine j_istore_6 dX7_built_38 rfl ?_
      refine lr_buI hr hS (by omega) (fun x7 x8 => ?_)
      refine j_iinc_5 (v := nI (i + 1)) dX7_built_112 (nI_add _ _) rfl ?_
      refine j_goto (tgt := 28) dX7_built_115 (by decide) ?_
      exact K _ _ _

set_option maxRecDepth 20000 in
theorem r_built {G : jG} {N : Nat} {κ : Nat → jK} {ρ : Nat → Nat → Option Nat} {μ : Nat → Nat → Int32} {ν : Nat → Nat → Int64} (hr : shR N κ ρ) {S : Nat} (hS : μ 166 0 = nI S) (hS2 : S < 100000) {w : Int32} : MT G yX7_built cX7_built 9 (some .int) 1 0 0 [.ref 165, .int w] (N, κ, ρ, μ, ν) (some (.int (rBuilt μ w S).1)) (N, κ, ρ, (rBuilt μ w S).2, ν) := by
  refine jMT (ini := false) my_X7_built (fun h => by cases h) (jRv_i _) (Nat.le_of_ble_eq_true rfl) ?_
  show J G RX7 cX7_built 9 false 1 _ 0 0 (N, κ, ρ, μ, ν) 0 [some (.ref 165), some (.int w), none, none, none, none, none, none, none] []
  generalize hQe : (fun (v' : Option Value) (h'' : jH) => v' = (some (.int (rBuilt μ w S).1)) ∧ h'' = (N, κ, ρ, (rBuilt μ w S).2, ν)) = Q
  have hQ : Q (some (.int (rBuilt μ w S).1)) (N, κ, ρ, (rBuilt μ w S).2, ν) := by rw [← hQe]; exact ⟨rfl, rfl⟩
  clear hQe
  refine j_iload_n dX7_built_0 rfl ?_
  refine j_i2l dX7_built_1 ?_
  refine j_lconst (v := 0) dX7_built_2 (by decide) ?_
  refine j_lconst (v := 1) dX7_built_3 (by decide) ?_
  refine j_cS3r dX7_built_4 r_in ml_X7_72 my_X7_in ms_X7_in (by omega) (Nat.le_of_ble_eq_true rfl) (Nat.le_of_ble_eq_true rfl) ?_
  refine j_if_neB (tgt := 12) dX7_built_7 (by decide) (fun c7 => ?_) (fun c7 => ?_)
  · skip
    refine j_aload_n dX7_built_12 rfl ?_
    refine j_getr dX7_built_13 fl_X7_7 rfl (o_165 hr) (r_165_0 hr) ?_
    refine j_iconst (v := 0) dX7_built_16 (by decide) ?_
    refine j_iald (k := 0) dX7_built_17 (a_166 hr) rfl (by omega) ?_
    refine j_topi hS ?_
    refine j_istore_2 dX7_built_18 rfl ?_
    refine j_iconst (v := 0) dX7_built_19 (by decide) ?_
    refine j_istore_3 dX7_built_20 rfl ?_
    refine j_ldc dX7_built_21 ct_X7_192 ?_
    refine j_istore_4 dX7_built_23 rfl ?_
    refine j_iconst (v := 0) dX7_built_25 (by decide) ?_
    refine j_istore_5 dX7_built_26 rfl ?_
    refine lr_buO (q0 := (0, 1000000)) hr hS2 (fun x6 x7 x8 => ?_)
    refine j_iload_n dX7_built_118 rfl ?_
    refine j_if_ne (tgt := 126) dX7_built_119 (by decide) (fun c119 => ?_) (fun c119 => ?_)
    · skip
      refine j_iload_n dX7_built_126 rfl ?_
      refine j_if_ne (tgt := 135) dX7_built_127 (by decide) (fun c127 => ?_) (fun c127 => ?_)
      · skip
        refine j_iload dX7_built_135 rfl ?_
        exact j_iret dX7_built_137 (by simpa only [rBuilt, c7, c119, c127, reduceIte, Bool.false_eq_true, Bool.true_eq_false, and_self, and_true, true_and, and_false, false_and, not_true_eq_false, not_false_eq_true, ne_eq, decide_true, decide_false, if_true, if_false, Bool.not_eq_true, Bool.not_eq_false] using hQ)
      · skip
        refine j_bipush (v := (-4)) dX7_built_130 (by decide) ?_
        refine j_goto (tgt := 137) dX7_built_132 (by decide) ?_
        exact j_iret dX7_built_137 (by simpa only [rBuilt, c7, c119, eq_true c127, reduceIte, Bool.false_eq_true, Bool.true_eq_false, and_self, and_true, true_and, and_false, false_and, not_true_eq_false, not_false_eq_true, ne_eq, decide_true, decide_false, if_true, if_false, Bool.not_eq_true, Bool.not_eq_false] using hQ)
    · skip
      refine j_iload_n dX7_built_122 rfl ?_
      refine j_goto (tgt := 137) dX7_built_123 (by decide) ?_
      exact j_iret dX7_built_137 (by simpa only [rBuilt, c7, eq_true c119, reduceIte, Bool.false_eq_true, Bool.true_eq_false, and_self, and_true, true_and, and_false, false_and, not_true_eq_false, not_false_eq_true, ne_eq, decide_true, decide_false, if_true, if_false, Bool.not_eq_true, Bool.not_eq_false] using hQ)
  · skip
    refine j_iconst (v := (-1)) dX7_built_10 (by decide) ?_
    exact j_iret dX7_built_11 (by simpa only [rBuilt, c7, reduceIte, Bool.false_eq_true, Bool.true_eq_false, and_self, and_true, true_and, and_false, false_and, not_true_eq_false, not_false_eq_true, ne_eq, decide_true, decide_false, if_true, if_false, Bool.not_eq_true, Bool.not_eq_false] using hQ)

def rYrD (m : jMem) (p z k : Nat) : Option jMem :=
  if rSt m 52 (cDr z k / 8 % p) = true then (if cDr z k % 8 < 4 ∧ m 166 (64 + cDr z k / 8 % p) < 7 then some (rRo m 52 (cDr z k / 8 % p)) else if cDr z k % 8 = 4 then (rBl m 52 (cDr z k / 8 % p) (nI (cDr z k / 64 % 9) + 1) p).map (fun q => q.2) else some m) else some m
def rYrF (p z k : Nat) (m : jMem) : Option jMem := (rYrD m p z k).map (fun a => rPs a 52 p)
def rYear (m : jMem) (p : Nat) (z n what : Int32) : Option (Int32 × jMem) := if rIn z.toInt64 0 9999 = true ∧ rIn n.toInt64 1 60 = true ∧ rIn what.toInt64 0 2 = true then
  (itO (rYrF p z.toNatClampNeg) n.toNatClampNeg 0 (rCopy m 0 52)).map (fun a => (if what = 0 then rOnes (rDo a 52 p) else if what = 1 then a 166 52 else rHa a 52 p, a)) else some (-1, m)
theorem rYrD_lo {m m' : jMem} {p z k x y : Nat} (h : x ≠ 166) (h6 : x ≠ 176) (h7 : x ≠ 177) (e : rYrD m p z k = some m') : m' x y = m x y := by
  unfold rYrD at e
  split at e
  · split at e
    · cases e; exact jup_oth h
    · split at e
      · obtain ⟨⟨v, a⟩, ha, rfl⟩ := Option.map_eq_some_iff.mp e
        exact rBl_lo h h6 h7 ha
      · cases e; rfl
  · cases e; rfl
theorem rYrF_lo {m m' : jMem} {p z k x y : Nat} (h : x ≠ 166) (h6 : x ≠ 176) (h7 : x ≠ 177) (e : rYrF p z k m = some m') : m' x y = m x y := by
  obtain ⟨a, ha, rfl⟩ := Option.map_eq_some_iff.mp e
  rw [rPs_lo _ _ _ h, rYrD_lo h h6 h7 ha]
set_option maxRecDepth 20000 in
theorem lr_year {G : jG} {N : Nat} {κ : Nat → jK} {ρ : Nat → Nat → Option Nat} {ν : Nat → Nat → Int64} {Q : Option Value → jH → Prop} {d : Nat} (hd1 : 4 ≤ d) {p z n : Nat} {what : Int32} (hr : shR N κ ρ) (hp5 : p ≤ 5) (hp1 : 1 ≤ p) (hz : z < 10000) (hn : n < 100) {s0 s1 : jMem} (hp : s0 165 3 = nI p) {x5 x6 x7 x8 : Option Value} (zhb : itO (rYrF p z) n 0 s0 = some s1) (K : ∀ x5 x6 x7 x8, J G RX7 cX7_year 9 false d Q 0 0 (N, κ, ρ, s1, ν) 179 [some (.ref 165), some (.int (nI z)), some (.int (nI n)), some (.int what), some (.int (nI n)), x5, x6, x7, x8] []) : J G RX7 cX7_year 9 false d Q 0 0 (N, κ, ρ, s0, ν) 45 [some (.ref 165), some (.int (nI z)), some (.int (nI n)), some (.int what), some (.int (nI 0)), x5, x6, x7, x8] [] := by
  refine itO_loop (f := rYrF p z) (p := n) (fun i s => ∀ x5 x6 x7 x8, J G RX7 cX7_year 9 false d Q 0 0 (N, κ, ρ, s, ν) 45 [some (.ref 165), some (.int (nI z)), some (.int (nI n)), some (.int what), some (.int (nI i)), x5, x6, x7, x8] []) (fun s => ∀ x5 x6 x7 x8, J G RX7 cX7_year 9 false d Q 0 0 (N, κ, ρ, s, ν) 179 [some (.ref 165), some (.int (nI z)), some (.int (nI n)), some (.int what), some (.int (nI n)), x5, x6, x7, x8] []) (fun _ s => s 165 3 = nI p) ?_ ?_ (fun i s s' _ h e => (rYrF_lo (by decide) (by decide) (by decide) e).trans h) n 0 s0 s1 (by omega) hp zhb K _ _ _ _
  · intro s hp K x5 x6 x7 x8
    refine j_iload dX7_year_45 rfl ?_
    refine j_iload_n dX7_year_47 rfl ?_
    refine k_icmp_ge (tgt := 179) dX7_year_48 (by decide) (fun c48 c48' => ?_) (fun c48 c48' => ?_)
    · skip
      exact K _ _ _ _
    · skip
      exact absurd (Int32.le_refl _) c48
  · intro i s s' hi hp e K x5 x6 x7 x8
    obtain ⟨zd, zq, rfl⟩ := Option.map_eq_some_iff.mp e
    have hdr := cDr_lt z i
    have hwp : cDr z i / 8 % p < p := Nat.mod_lt _ hp1
    refine j_iload dX7_year_45 rfl ?_
    refine j_iload_n dX7_year_47 rfl ?_
    refine k_icmp_ge (tgt := 179) dX7_year_48 (by decide) (fun c48 c48' => ?_) (fun c48 c48' => ?_)
    · skip
      exact absurd c48 (nI_ge (by omega) (by omega))
    · skip
      refine j_ldc2 dX7_year_51 ct_X7_213 ?_
      refine j_iload_n dX7_year_54 rfl ?_
      refine j_i2l dX7_year_55 ?_
      refine j_lmul dX7_year_56 ?_
      refine j_ldc2 dX7_year_57 ct_X7_215 ?_
      refine j_iload dX7_year_60 rfl ?_
      refine j_i2l dX7_year_62 ?_
      refine j_lmul dX7_year_63 ?_
      refine j_ladd dX7_year_64 ?_
      refine j_lconst (v := 1) dX7_year_65 (by decide) ?_
      refine j_ladd dX7_year_66 ?_
      refine j_lstore_5 dX7_year_67 rfl ?_
      refine j_lload dX7_year_69 rfl ?_
      refine j_lload dX7_year_71 rfl ?_
      refine j_lmul dX7_year_73 ?_
      refine j_ldc2 dX7_year_74 ct_X7_217 ?_
      refine j_lrem dX7_year_77 (by decide) ?_
      refine j_l2i dX7_year_78 ?_
      refine j_topi (cDr_eq hz (by omega)) ?_
      refine j_istore_7 dX7_year_79 rfl ?_
      refine j_iload dX7_year_81 rfl ?_
      refine j_bipush (v := 8) dX7_year_83 (by decide) ?_
      refine j_idiv dX7_year_85 (by decide) ?_
      refine j_topi (w := nI (cDr z i / 8)) (pk_div (by omega) (by decide) (by decide)) ?_
      refine j_aload_n dX7_year_86 rfl ?_
      refine j_geti dX7_year_87 fl_X7_69 rfl (o_165 hr) ?_
      refine j_irem dX7_year_90 (by rw [hp]; exact nI_ne0 hp1 (by omega)) ?_
      refine j_topi (w := nI (cDr z i / 8 % p)) (by rw [hp]; exact pk_rem (by omega) hp1 (by omega)) ?_
      refine j_istore_8 dX7_year_91 rfl ?_
      refine j_aload_n dX7_year_93 rfl ?_
      refine j_bipush (v := 52) dX7_year_94 (by decide) ?_
      refine j_iload dX7_year_96 rfl ?_
      refine j_cV2r dX7_year_98 (r_stands (r := 52) (k := (cDr z i / 8 % p)) hr (by omega) (by omega)) ml_X7_138 my_X7_stands mi_X7_stands (o_165 hr) rfl (by omega) (Nat.le_of_ble_eq_true rfl) (Nat.le_of_ble_eq_true rfl) ?_
      refine j_if_eqB (tgt := 167) dX7_year_101 (by decide) (fun c101 => ?_) (fun c101 => ?_)
      · skip
        rw [rYrD, if_neg (by rw [c101]; decide)] at zq
        cases zq
        refine j_aload_n dX7_year_167 rfl ?_
        refine j_bipush (v := 52) dX7_year_168 (by decide) ?_
        refine j_cV1v dX7_year_170 (r_ps (r := 52) hr (by omega) (by first | exact hp | exact hpa | exact (jup_oth (by decide)).trans hp) hp5) ml_X7_171 my_X7_passes mi_X7_passes (o_165 hr) rfl (by omega) (Nat.le_of_ble_eq_true rfl) (Nat.le_of_ble_eq_true rfl) ?_
        refine j_iinc_4 (v := nI (i + 1)) dX7_year_173 (nI_add _ _) rfl ?_
        refine j_goto (tgt := 45) dX7_year_176 (by decide) ?_
        exact K _ _ _ _
      · skip
        rw [rYrD, if_pos c101] at zq
        refine j_iload dX7_year_104 rfl ?_
        refine j_bipush (v := 8) dX7_year_106 (by decide) ?_
        refine j_irem dX7_year_108 (by decide) ?_
        refine j_topi (w := nI (cDr z i % 8)) (pk_rem (by omega) (by decide) (by decide)) ?_
        refine j_iconst (v := 4) dX7_year_109 (by decide) ?_
        refine k_icmp_ge (tgt := 139) dX7_year_110 (by decide) (fun c110 c110' => ?_) (fun c110 c110' => ?_)
        · skip
          have h110 : ¬ cDr z i % 8 < 4 := fun q => absurd c110 (by rw [jl4]; exact nI_ge q (by decide))
          rw [if_neg (fun q => h110 q.1)] at zq
          refine j_iload dX7_year_139 rfl ?_
          refine j_bipush (v := 8) dX7_year_141 (by decide) ?_
          refine j_irem dX7_year_143 (by decide) ?_
          refine j_topi (w := nI (cDr z i % 8)) (pk_rem (by omega) (by decide) (by decide)) ?_
          refine j_iconst (v := 4) dX7_year_144 (by decide) ?_
          refine j_icmp_ne (tgt := 167) dX7_year_145 (by decide) (fun c145 => ?_) (fun c145 => ?_)
          · skip
            rw [if_neg (fun q => c145 (by rw [q]; rfl))] at zq
            cases zq
            refine j_aload_n dX7_year_167 rfl ?_
            refine j_bipush (v := 52) dX7_year_168 (by decide) ?_
            refine j_cV1v dX7_year_170 (r_ps (r := 52) hr (by omega) (by first | exact hp | exact hpa | exact (jup_oth (by decide)).trans hp) hp5) ml_X7_171 my_X7_passes mi_X7_passes (o_165 hr) rfl (by omega) (Nat.le_of_ble_eq_true rfl) (Nat.le_of_ble_eq_true rfl) ?_
            refine j_iinc_4 (v := nI (i + 1)) dX7_year_173 (nI_add _ _) rfl ?_
            refine j_goto (tgt := 45) dX7_year_176 (by decide) ?_
            exact K _ _ _ _
          · skip
            have h145 : cDr z i % 8 = 4 := (nI_eq (by omega) (by decide)).mp c145
            rw [if_pos h145] at zq
            obtain ⟨⟨zv, za⟩, zb, rfl⟩ := Option.map_eq_some_iff.mp zq
            have hpa : za 165 3 = nI p := (rBl_lo (by decide) (by decide) (by decide) zb).trans hp
            refine j_aload_n dX7_year_148 rfl ?_
            refine j_bipush (v := 52) dX7_year_149 (by decide) ?_
            refine j_iload dX7_year_151 rfl ?_
            refine j_iload dX7_year_153 rfl ?_
            refine j_bipush (v := 64) dX7_year_155 (by decide) ?_
            refine j_idiv dX7_year_157 (by decide) ?_
            refine j_topi (w := nI (cDr z i / 64)) (pk_div (by omega) (by decide) (by decide)) ?_
            refine j_bipush (v := 9) dX7_year_158 (by decide) ?_
            refine j_irem dX7_year_160 (by decide) ?_
            refine j_topi (w := nI (cDr z i / 64 % 9)) (pk_rem (by omega) (by decide) (by decide)) ?_
            refine j_iconst (v := 1) dX7_year_161 (by decide) ?_
            refine j_iadd dX7_year_162 ?_
            refine j_cV3r dX7_year_163 (r_blasts (r := 52) hr (by omega) hp hp5 (by omega) zb) ml_X7_165 my_X7_blasts mi_X7_blasts (o_165 hr) rfl (by omega) (Nat.le_of_ble_eq_true rfl) (Nat.le_of_ble_eq_true rfl) ?_
            refine j_pop dX7_year_166 rfl ?_
            refine j_aload_n dX7_year_167 rfl ?_
            refine j_bipush (v := 52) dX7_year_168 (by decide) ?_
            refine j_cV1v dX7_year_170 (r_ps (r := 52) hr (by omega) (by first | exact hp | exact hpa | exact (jup_oth (by decide)).trans hp) hp5) ml_X7_171 my_X7_passes mi_X7_passes (o_165 hr) rfl (by omega) (Nat.le_of_ble_eq_true rfl) (Nat.le_of_ble_eq_true rfl) ?_
            refine j_iinc_4 (v := nI (i + 1)) dX7_year_173 (nI_add _ _) rfl ?_
            refine j_goto (tgt := 45) dX7_year_176 (by decide) ?_
            exact K _ _ _ _
        · skip
          have h110 : cDr z i % 8 < 4 := (by rcases Nat.lt_or_ge (cDr z i % 8) 4 with q | q; exact q; exact absurd (by rw [jl4]; exact nI_le q (by omega)) c110)
          refine j_aload_n dX7_year_113 rfl ?_
          refine j_getr dX7_year_114 fl_X7_7 rfl (o_165 hr) (r_165_0 hr) ?_
          refine j_bipush (v := 64) dX7_year_117 (by decide) ?_
          refine j_iload dX7_year_119 rfl ?_
          refine j_iadd dX7_year_121 ?_
          refine j_iald (k := (64 + (cDr z i / 8 % p))) dX7_year_122 (a_166 hr) (by simp only [jl64, nI_add, pk_mul]) (by omega) ?_
          refine j_bipush (v := 7) dX7_year_123 (by decide) ?_
          refine k_icmp_ge (tgt := 139) dX7_year_125 (by decide) (fun c125 c125' => ?_) (fun c125 c125' => ?_)
          · skip
            rw [if_neg (fun q => c125' q.2)] at zq
            refine j_iload dX7_year_139 rfl ?_
            refine j_bipush (v := 8) dX7_year_141 (by decide) ?_
            refine j_irem dX7_year_143 (by decide) ?_
            refine j_topi (w := nI (cDr z i % 8)) (pk_rem (by omega) (by decide) (by decide)) ?_
            refine j_iconst (v := 4) dX7_year_144 (by decide) ?_
            refine j_icmp_ne (tgt := 167) dX7_year_145 (by decide) (fun c145 => ?_) (fun c145 => ?_)
            · skip
              rw [if_neg (fun q => c145 (by rw [q]; rfl))] at zq
              cases zq
              refine j_aload_n dX7_year_167 rfl ?_
              refine j_bipush (v := 52) dX7_year_168 (by decide) ?_
              refine j_cV1v dX7_year_170 (r_ps (r := 52) hr (by omega) (by first | exact hp | exact hpa | exact (jup_oth (by decide)).trans hp) hp5) ml_X7_171 my_X7_passes mi_X7_passes (o_165 hr) rfl (by omega) (Nat.le_of_ble_eq_true rfl) (Nat.le_of_ble_eq_true rfl) ?_
              refine j_iinc_4 (v := nI (i + 1)) dX7_year_173 (nI_add _ _) rfl ?_
              refine j_goto (tgt := 45) dX7_year_176 (by decide) ?_
              exact K _ _ _ _
            · skip
              have h145 : cDr z i % 8 = 4 := (nI_eq (by omega) (by decide)).mp c145
              rw [if_pos h145] at zq
              obtain ⟨⟨zv, za⟩, zb, rfl⟩ := Option.map_eq_some_iff.mp zq
              have hpa : za 165 3 = nI p := (rBl_lo (by decide) (by decide) (by decide) zb).trans hp
              refine j_aload_n dX7_year_148 rfl ?_
              refine j_bipush (v := 52) dX7_year_149 (by decide) ?_
              refine j_iload dX7_year_151 rfl ?_
              refine j_iload dX7_year_153 rfl ?_
              refine j_bipush (v := 64) dX7_year_155 (by decide) ?_
              refine j_idiv dX7_year_157 (by decide) ?_
              refine j_topi (w := nI (cDr z i / 64)) (pk_div (by omega) (by decide) (by decide)) ?_
              refine j_bipush (v := 9) dX7_year_158 (by decide) ?_
              refine j_irem dX7_year_160 (by decide) ?_
              refine j_topi (w := nI (cDr z i / 64 % 9)) (pk_rem (by omega) (by decide) (by decide)) ?_
              refine j_iconst (v := 1) dX7_year_161 (by decide) ?_
              refine j_iadd dX7_year_162 ?_
              refine j_cV3r dX7_year_163 (r_blasts (r := 52) hr (by omega) hp hp5 (by omega) zb) ml_X7_165 my_X7_blasts mi_X7_blasts (o_165 hr) rfl (by omega) (Nat.le_of_ble_eq_true rfl) (Nat.le_of_ble_eq_true rfl) ?_
              refine j_pop dX7_year_166 rfl ?_
              refine j_aload_n dX7_year_167 rfl ?_
              refine j_bipush (v := 52) dX7_year_168 (by decide) ?_
              refine j_cV1v dX7_year_170 (r_ps (r := 52) hr (by omega) (by first | exact hp | exact hpa | exact (jup_oth (by decide)).trans hp) hp5) ml_X7_171 my_X7_passes mi_X7_passes (o_165 hr) rfl (by omega) (Nat.le_of_ble_eq_true rfl) (Nat.le_of_ble_eq_true rfl) ?_
              refine j_iinc_4 (v := nI (i + 1)) dX7_year_173 (nI_add _ _) rfl ?_
              refine j_goto (tgt := 45) dX7_year_176 (by decide) ?_
              exact K _ _ _ _
          · skip
            rw [if_pos ⟨h110, c125'⟩] at zq
            cases zq
            refine j_aload_n dX7_year_128 rfl ?_
            refine j_bipush (v := 52) dX7_year_129 (by decide) ?_
            refine j_iload dX7_year_131 rfl ?_
            refine j_cV2v dX7_year_133 (r_ro (r := 52) (k := (cDr z i / 8 % p)) hr (by omega) (by omega)) ml_X7_160 my_X7_roundsOne mi_X7_roundsOne (o_165 hr) rfl (by omega) (Nat.le_of_ble_eq_true rfl) (Nat.le_of_ble_eq_true rfl) ?_
            refine j_goto (tgt := 167) dX7_year_136 (by decide) ?_
            refine j_aload_n dX7_year_167 rfl ?_
            refine j_bipush (v := 52) dX7_year_168 (by decide) ?_
            refine j_cV1v dX7_year_170 (r_ps (r := 52) hr (by omega) (by first | exact hp | exact hpa | exact (jup_oth (by decide)).trans hp) hp5) ml_X7_171 my_X7_passes mi_X7_passes (o_165 hr) rfl (by omega) (Nat.le_of_ble_eq_true rfl) (Nat.le_of_ble_eq_true rfl) ?_
            refine j_iinc_4 (v := nI (i + 1)) dX7_year_173 (nI_add _ _) rfl ?_
            refine j_goto (tgt := 45) dX7_year_176 (by decide) ?_
            exact K _ _ _ _

set_option maxRecDepth 20000 in
theorem r_year {G : jG} {N : Nat} {κ : Nat → jK} {ρ : Nat → Nat → Option Nat} {μ : Nat → Nat → Int32} {ν : Nat → Nat → Int64} (hr : shR N κ ρ) {p : Nat} (hp : μ 165 3 = nI p) (hp5 : p ≤ 5) (hp1 : 1 ≤ p) {z n what : Int32} {zv : Int32} {zm : jMem} (zhb : rYear μ p z n what = some (zv, zm)) : MT G yX7_year cX7_year 9 (some .int) 5 0 0 [.ref 165, .int z, .int n, .int what] (N, κ, ρ, μ, ν) (some (.int zv)) (N, κ, ρ, zm, ν) := by
  refine jMT (ini := false) my_X7_year (fun h => by cases h) (jRv_i _) (Nat.le_of_ble_eq_true rfl) ?_
  show J G RX7 cX7_year 9 false 5 _ 0 0 (N, κ, ρ, μ, ν) 0 [some (.ref 165), some (.int z), some (.int n), some (.int what), none, none, none, none, none] []
  generalize hQe : (fun (v' : Option Value) (h'' : jH) => v' = (some (.int zv)) ∧ h'' = (N, κ, ρ, zm, ν)) = Q
  have hQ : Q (some (.int zv)) (N, κ, ρ, zm, ν) := by rw [← hQe]; exact ⟨rfl, rfl⟩
  clear hQe
  refine j_iload_n dX7_year_0 rfl ?_
  refine j_i2l dX7_year_1 ?_
  refine j_lconst (v := 0) dX7_year_2 (by decide) ?_
  refine j_ldc2 dX7_year_3 ct_X7_209 ?_
  refine j_cS3r dX7_year_6 r_in ml_X7_72 my_X7_in ms_X7_in (by omega) (Nat.le_of_ble_eq_true rfl) (Nat.le_of_ble_eq_true rfl) ?_
  refine j_if_eqB (tgt := 36) dX7_year_9 (by decide) (fun c9 => ?_) (fun c9 => ?_)
  · skip
    refine j_iconst (v := (-1)) dX7_year_36 (by decide) ?_
    (simp only [rYear, c9, reduceIte, Bool.false_eq_true, Bool.true_eq_false, and_self, and_true, true_and, and_false, false_and, not_true_eq_false, not_false_eq_true, ne_eq, decide_true, decide_false, if_true, if_false, Bool.not_eq_true, Bool.not_eq_false] at zhb; cases zhb; exact j_iret dX7_year_37 hQ)
  · skip
    obtain ⟨kz, hz1, hz2, rfl⟩ := rin_lh (l := 0) (h := 9999) (by decide) (by decide) c9
    have ekz : (nI kz).toNatClampNeg = kz := nI_clamp (by omega)
    refine j_iload_n dX7_year_12 rfl ?_
    refine j_i2l dX7_year_13 ?_
    refine j_lconst (v := 1) dX7_year_14 (by decide) ?_
    refine j_ldc2 dX7_year_15 ct_X7_177 ?_
    refine j_cS3r dX7_year_18 r_in ml_X7_72 my_X7_in ms_X7_in (by omega) (Nat.le_of_ble_eq_true rfl) (Nat.le_of_ble_eq_true rfl) ?_
    refine j_if_eqB (tgt := 36) dX7_year_21 (by decide) (fun c21 => ?_) (fun c21 => ?_)
    · skip
      refine j_iconst (v := (-1)) dX7_year_36 (by decide) ?_
      (simp only [rYear, c9, ekz, c21, reduceIte, Bool.false_eq_true, Bool.true_eq_false, and_self, and_true, true_and, and_false, false_and, not_true_eq_false, not_false_eq_true, ne_eq, decide_true, decide_false, if_true, if_false, Bool.not_eq_true, Bool.not_eq_false] at zhb; cases zhb; exact j_iret dX7_year_37 hQ)
    · skip
      obtain ⟨kn, hn1, hn2, rfl⟩ := rin_lh (l := 1) (h := 60) (by decide) (by decide) c21
      have ekn : (nI kn).toNatClampNeg = kn := nI_clamp (by omega)
      refine j_iload_n dX7_year_24 rfl ?_
      refine j_i2l dX7_year_25 ?_
      refine j_lconst (v := 0) dX7_year_26 (by decide) ?_
      refine j_ldc2 dX7_year_27 ct_X7_211 ?_
      refine j_cS3r dX7_year_30 r_in ml_X7_72 my_X7_in ms_X7_in (by omega) (Nat.le_of_ble_eq_true rfl) (Nat.le_of_ble_eq_true rfl) ?_
      refine j_if_neB (tgt := 38) dX7_year_33 (by decide) (fun c33 => ?_) (fun c33 => ?_)
      · skip
        refine j_aload_n dX7_year_38 rfl ?_
        refine j_cV0v dX7_year_39 (r_tries hr) ml_X7_183 my_X7_tries mi_X7_tries (o_165 hr) rfl (by omega) (Nat.le_of_ble_eq_true rfl) (Nat.le_of_ble_eq_true rfl) ?_
        refine j_iconst (v := 0) dX7_year_42 (by decide) ?_
        refine j_istore_4 dX7_year_43 rfl ?_
        simp only [rYear, c9, ekz, c21, ekn, c33, reduceIte, Bool.false_eq_true, Bool.true_eq_false, and_self, and_true, true_and, and_false, false_and, not_true_eq_false, not_false_eq_true, ne_eq, decide_true, decide_false, if_true, if_false, Bool.not_eq_true, Bool.not_eq_false] at zhb
        obtain ⟨zs, zq, ze⟩ := Option.map_eq_some_iff.mp zhb
        cases ze
        have hpy : zm 165 3 = nI p := (itO_lo (fun i m m' e => rYrF_lo (by decide) (by decide) (by decide) e) _ _ _ _ zq).trans ((rCopy_lo _ _ _ (by decide)).trans hp)
        refine lr_year (by omega) hr hp5 hp1 (by omega) (by omega) ((rCopy_lo _ _ _ (by decide)).trans hp) zq (fun x5 x6 x7 x8 => ?_)
        refine j_iload_n dX7_year_179 rfl ?_
        refine j_if_ne (tgt := 195) dX7_year_180 (by decide) (fun c180 => ?_) (fun c180 => ?_)
        · skip
          refine j_iload_n dX7_year_195 rfl ?_
          refine j_iconst (v := 1) dX7_year_196 (by decide) ?_
          refine j_icmp_ne (tgt := 210) dX7_year_197 (by decide) (fun c197 => ?_) (fun c197 => ?_)
          · skip
            refine j_aload_n dX7_year_210 rfl ?_
            refine j_bipush (v := 52) dX7_year_211 (by decide) ?_
            refine j_cV1r dX7_year_213 (r_ha (r := 52) hr (by omega) hpy hp5) ml_X7_219 my_X7_hurtAll mi_X7_hurtAll (o_165 hr) rfl (by omega) (Nat.le_of_ble_eq_true rfl) (Nat.le_of_ble_eq_true rfl) ?_
            exact j_iret dX7_year_216 (by simpa only [c180, c197, reduceIte, Bool.false_eq_true, Bool.true_eq_false, and_self, and_true, true_and, and_false, false_and, not_true_eq_false, not_false_eq_true, ne_eq, decide_true, decide_false, if_true, if_false, Bool.not_eq_true, Bool.not_eq_false] using hQ)
          · skip
            refine j_aload_n dX7_year_200 rfl ?_
            refine j_getr dX7_year_201 fl_X7_7 rfl (o_165 hr) (r_165_0 hr) ?_
            refine j_bipush (v := 52) dX7_year_204 (by decide) ?_
            refine j_iald (k := 52) dX7_year_206 (a_166 hr) rfl (by omega) ?_
            refine j_goto (tgt := 216) dX7_year_207 (by decide) ?_
            exact j_iret dX7_year_216 (by simpa only [c180, eq_true c197, reduceIte, Bool.false_eq_true, Bool.true_eq_false, and_self, and_true, true_and, and_false, false_and, not_true_eq_false, not_false_eq_true, ne_eq, decide_true, decide_false, if_true, if_false, Bool.not_eq_true, Bool.not_eq_false] using hQ)
        · skip
          refine j_aload_n dX7_year_183 rfl ?_
          refine j_bipush (v := 52) dX7_year_184 (by decide) ?_
          refine j_cV1r dX7_year_186 (r_do (r := 52) hr (by omega) hpy hp5) ml_X7_186 my_X7_downOnes mi_X7_downOnes (o_165 hr) rfl (by omega) (Nat.le_of_ble_eq_true rfl) (Nat.le_of_ble_eq_true rfl) ?_
          refine j_cS1r dX7_year_189 r_ones ml_X7_189 my_X7_ones ms_X7_ones (by omega) (Nat.le_of_ble_eq_true rfl) (Nat.le_of_ble_eq_true rfl) ?_
          refine j_goto (tgt := 216) dX7_year_192 (by decide) ?_
          exact j_iret dX7_year_216 (by simpa only [eq_true c180, reduceIte, Bool.false_eq_true, Bool.true_eq_false, and_self, and_true, true_and, and_false, false_and, not_true_eq_false, not_false_eq_true, ne_eq, decide_true, decide_false, if_true, if_false, Bool.not_eq_true, Bool.not_eq_false] using hQ)
      · skip
        refine j_iconst (v := (-1)) dX7_year_36 (by decide) ?_
        (simp only [rYear, c9, ekz, c21, ekn, c33, reduceIte, Bool.false_eq_true, Bool.true_eq_false, and_self, and_true, true_and, and_false, false_and, not_true_eq_false, not_false_eq_true, ne_eq, decide_true, decide_false, if_true, if_false, Bool.not_eq_true, Bool.not_eq_false] at zhb; cases zhb; exact j_iret dX7_year_37 hQ)

