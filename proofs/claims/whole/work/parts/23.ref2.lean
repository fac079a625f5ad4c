def rTs (m : jMem) (k : Nat) : jMem :=
  let m1 := jup m 165 14 (10 * m 165 14 + rLt m k - 48)
  jup m1 165 13 (m1 165 13 + 1)
def rTnL : Nat → Nat → jMem → Nat × jMem
  | 0, k, m => (k, m)
  | n + 1, k, m => if rIn (rLt m k).toInt64 48 57 = true then rTnL n (k + 1) (rTs m k) else (k, m)
def rTn (m : jMem) (l h sg : Int32) (pl : Nat) : Option Nat × jMem :=
  let q := rTnL 2 pl (jup m 165 14 0)
  if ¬ q.2 165 13 = nI pl ∧ rIn (q.2 165 14).toInt64 l.toInt64 h.toInt64 = true ∧ rLt q.2 q.1 = sg then (some (q.1 + 1), jup q.2 165 13 (q.2 165 13 + 1)) else (none, q.2)
theorem rTs_lo (m : jMem) (k : Nat) {x y : Nat} (h : x ≠ 165 ∨ (y ≠ 13 ∧ y ≠ 14)) : rTs m k x y = m x y := by
  unfold rTs
  rcases h with h | ⟨h1, h2⟩
  · rw [jup_oth h, jup_oth h]
  · rw [jup_oth2 h1, jup_oth2 h2]
theorem rTs_13 (m : jMem) (k : Nat) : rTs m k 165 13 = m 165 13 + 1 := by
  unfold rTs
  rw [jup_self, jup_oth2 (by decide)]
theorem rTnL_ok : ∀ (n k : Nat) (m : jMem), m 165 13 = nI k → (rTnL n k m).2 165 13 = nI (rTnL n k m).1 ∧ k ≤ (rTnL n k m).1 ∧ (rTnL n k m).1 ≤ k + n ∧ ∀ x y, (x ≠ 165 ∨ (y ≠ 13 ∧ y ≠ 14)) → (rTnL n k m).2 x y = m x y
  | 0, k, m, h => ⟨h, Nat.le_refl _, Nat.le_refl _, fun _ _ _ => rfl⟩
  | n + 1, k, m, h => by
    rw [rTnL]
    split
    · obtain ⟨h1, h2, h3, h4⟩ := rTnL_ok n (k + 1) (rTs m k) (by rw [rTs_13, h, nI_1])
      exact ⟨h1, by omega, by omega, fun x y hxy => (h4 x y hxy).trans (rTs_lo m k hxy)⟩
    · exact ⟨h, Nat.le_refl _, by omega, fun _ _ _ => rfl⟩
theorem rTn_lo (m : jMem) (l h sg : Int32) (pl : Nat) (hp : m 165 13 = nI pl) {x y : Nat} (hxy : x ≠ 165 ∨ (y ≠ 13 ∧ y ≠ 14)) : (rTn m l h sg pl).2 x y = m x y := by
  obtain ⟨-, -, -, h4⟩ := rTnL_ok 2 pl (jup m 165 14 0) (by rw [jup_oth2 (by decide)]; exact hp)
  have e0 : jup m 165 14 0 x y = m x y := by rcases hxy with z | z; exact jup_oth z; exact jup_oth2 z.2
  simp only [rTn]
  split
  · show jup _ 165 13 _ x y = _
    rw [← e0, ← h4 x y hxy]
    rcases hxy with z | z; exact jup_oth z; exact jup_oth2 z.1
  · exact (h4 x y hxy).trans e0
theorem rTn_pl {m : jMem} {l h sg : Int32} {pl p : Nat} {m' : jMem} (hp : m 165 13 = nI pl) (hb : rTn m l h sg pl = (some p, m')) : m' 165 13 = nI p ∧ pl < p ∧ p ≤ pl + 3 ∧ rIn (m' 165 14).toInt64 l.toInt64 h.toInt64 = true := by
  obtain ⟨h1, h2, h3, -⟩ := rTnL_ok 2 pl (jup m 165 14 0) (by rw [jup_oth2 (by decide)]; exact hp)
  simp only [rTn] at hb
  split at hb
  · next hc =>
    obtain ⟨e1, e2⟩ := Prod.mk.inj hb
    have e1 := Option.some.inj e1
    subst e2; subst e1
    rw [jup_self, h1, nI_1, jup_oth2 (by decide)]
    exact ⟨rfl, by omega, by omega, hc.2.1⟩
  · cases hb
theorem rTn_keep {m : jMem} {l h sg : Int32} {pl : Nat} {r : Option Nat} {m' : jMem} (hp : m 165 13 = nI pl) (hb : rTn m l h sg pl = (r, m')) {x y : Nat} (hxy : x ≠ 165 ∨ (y ≠ 13 ∧ y ≠ 14)) : m' x y = m x y := by
  have := rTn_lo m l h sg pl hp hxy
  rw [hb] at this
  exact this
set_option maxRecDepth 20000 in
theorem lr_tn {G : jG} {N : Nat} {κ : Nat → jK} {ρ : Nat → Nat → Option Nat} {ν : Nat → Nat → Int64} {Q : Option Value → jH → Prop} {d : Nat} (hd1 : 1 ≤ d) (hr : shR N κ ρ) {tl pl : Nat} {l h sg : Int32} (htl : tl ≤ 200) (hpl : pl < 1000000) : ∀ (n k : Nat) (m : jMem), k + n = pl + 2 → pl ≤ k → m 165 13 = nI k → m 165 12 = nI tl → J G RX7 cX7_takesNumber 5 false d Q 0 0 (N, κ, ρ, (rTnL n k m).2, ν) 79 [some (.ref 165), some (.int l), some (.int h), some (.int sg), some (.int (nI pl))] [] → J G RX7 cX7_takesNumber 5 false d Q 0 0 (N, κ, ρ, m, ν) 11 [some (.ref 165), some (.int l), some (.int h), some (.int sg), some (.int (nI pl))] []
  | 0, k, m, hk, hk2, h13, hl, K => by
    have e2 : m 165 13 - nI pl = 2 := by rw [h13, pk_sub hk2, show k - pl = 2 by omega]; rfl
    refine j_aload_n dX7_takesNumber_11 rfl ?_
    refine j_geti dX7_takesNumber_12 fl_X7_95 rfl (o_165 hr) ?_
    refine j_iload dX7_takesNumber_15 rfl ?_
    refine j_isub dX7_takesNumber_17 ?_
    refine j_topi e2 ?_
    refine j_iconst (v := 2) dX7_takesNumber_18 (by decide) ?_
    refine k_icmp_ge (tgt := 79) dX7_takesNumber_19 (by decide) (fun c19 c19' => ?_) (fun c19 c19' => ?_)
    · skip
      exact K
    · skip
      exact absurd (by decide) c19
  | n + 1, k, m, hk, hk2, h13, hl, K => by
    rw [rTnL] at K
    refine j_aload_n dX7_takesNumber_11 rfl ?_
    refine j_geti dX7_takesNumber_12 fl_X7_95 rfl (o_165 hr) ?_
    refine j_iload dX7_takesNumber_15 rfl ?_
    refine j_isub dX7_takesNumber_17 ?_
    refine j_topi (w := nI (k - pl)) (by rw [h13, pk_sub hk2]) ?_
    refine j_iconst (v := 2) dX7_takesNumber_18 (by decide) ?_
    refine k_icmp_ge (tgt := 79) dX7_takesNumber_19 (by decide) (fun c19 c19' => ?_) (fun c19 c19' => ?_)
    · skip
      exact absurd c19 (by rw [jl2]; exact nI_ge (by omega) (by omega))
    · skip
      refine j_aload_n dX7_takesNumber_22 rfl ?_
      refine j_aload_n dX7_takesNumber_23 rfl ?_
      refine j_geti dX7_takesNumber_24 fl_X7_95 rfl (o_165 hr) ?_
      refine j_topi h13 ?_
      refine j_cV1r dX7_takesNumber_27 (r_letterAt (k := k) hr hl htl (by omega)) ml_X7_101 my_X7_letterAt mi_X7_letterAt (o_165 hr) rfl (by omega) (Nat.le_of_ble_eq_true rfl) (Nat.le_of_ble_eq_true rfl) ?_
      refine j_i2l dX7_takesNumber_30 ?_
      refine j_ldc2 dX7_takesNumber_31 ct_X7_105 ?_
      refine j_ldc2 dX7_takesNumber_34 ct_X7_107 ?_
      refine j_cS3r dX7_takesNumber_37 r_in ml_X7_72 my_X7_in ms_X7_in (by omega) (Nat.le_of_ble_eq_true rfl) (Nat.le_of_ble_eq_true rfl) ?_
      refine j_if_eqB (tgt := 79) dX7_takesNumber_40 (by decide) (fun c40 => ?_) (fun c40 => ?_)
      · skip
        rw [if_neg (by rw [c40]; simp)] at K
        exact K
      · skip
        rw [if_pos c40] at K
        refine j_aload_n dX7_takesNumber_43 rfl ?_
        refine j_bipush (v := 10) dX7_takesNumber_44 (by decide) ?_
        refine j_aload_n dX7_takesNumber_46 rfl ?_
        refine j_geti dX7_takesNumber_47 fl_X7_98 rfl (o_165 hr) ?_
        refine j_imul dX7_takesNumber_50 ?_
        refine j_aload_n dX7_takesNumber_51 rfl ?_
        refine j_aload_n dX7_takesNumber_52 rfl ?_
        refine j_geti dX7_takesNumber_53 fl_X7_95 rfl (o_165 hr) ?_
        refine j_topi h13 ?_
        refine j_cV1r dX7_takesNumber_56 (r_letterAt (k := k) hr hl htl (by omega)) ml_X7_101 my_X7_letterAt mi_X7_letterAt (o_165 hr) rfl (by omega) (Nat.le_of_ble_eq_true rfl) (Nat.le_of_ble_eq_true rfl) ?_
        refine j_iadd dX7_takesNumber_59 ?_
        refine j_bipush (v := 48) dX7_takesNumber_60 (by decide) ?_
        refine j_isub dX7_takesNumber_62 ?_
        refine j_puti dX7_takesNumber_63 fl_X7_98 rfl (o_165 hr) ?_
        refine j_aload_n dX7_takesNumber_66 rfl ?_
        refine j_dup dX7_takesNumber_67 rfl ?_
        refine j_geti dX7_takesNumber_68 fl_X7_95 rfl (o_165 hr) ?_
        refine j_iconst (v := 1) dX7_takesNumber_71 (by decide) ?_
        refine j_iadd dX7_takesNumber_72 ?_
        refine j_puti dX7_takesNumber_73 fl_X7_95 rfl (o_165 hr) ?_
        refine j_goto (tgt := 11) dX7_takesNumber_76 (by decide) ?_
        exact lr_tn hd1 hr htl hpl n (k + 1) (rTs m k) (by omega) (by omega) (by rw [rTs_13, h13, nI_1]) (by rw [rTs_lo m k (Or.inr ⟨by decide, by decide⟩)]; exact hl) K

set_option maxRecDepth 20000 in
theorem r_tn {G : jG} {N : Nat} {κ : Nat → jK} {ρ : Nat → Nat → Option Nat} {μ : Nat → Nat → Int32} {ν : Nat → Nat → Int64} (hr : shR N κ ρ) {tl : Nat} (hl : μ 165 12 = nI tl) (htl : tl ≤ 200) {pl : Nat} (h13 : μ 165 13 = nI pl) (hpl : pl < 1000000) {l h sg : Int32} : MT G yX7_takesNumber cX7_takesNumber 5 (some .boolean) 1 0 0 [.ref 165, .int l, .int h, .int sg] (N, κ, ρ, μ, ν) (some (.int (jb (rTn μ l h sg pl).1.isSome))) (N, κ, ρ, (rTn μ l h sg pl).2, ν) := by
  refine jMT (ini := false) my_X7_takesNumber (fun h => by cases h) (jRv_jb _) (Nat.le_of_ble_eq_true rfl) ?_
  show J G RX7 cX7_takesNumber 5 false 1 _ 0 0 (N, κ, ρ, μ, ν) 0 [some (.ref 165), some (.int l), some (.int h), some (.int sg), none] []
  generalize hQe : (fun (v' : Option Value) (h'' : jH) => v' = (some (.int (jb (rTn μ l h sg pl).1.isSome))) ∧ h'' = (N, κ, ρ, (rTn μ l h sg pl).2, ν)) = Q
  have hQ : Q (some (.int (jb (rTn μ l h sg pl).1.isSome))) (N, κ, ρ, (rTn μ l h sg pl).2, ν) := by rw [← hQe]; exact ⟨rfl, rfl⟩
  clear hQe
  refine j_aload_n dX7_takesNumber_0 rfl ?_
  refine j_geti dX7_takesNumber_1 fl_X7_95 rfl (o_165 hr) ?_
  refine j_topi h13 ?_
  refine j_istore_4 dX7_takesNumber_4 rfl ?_
  refine j_aload_n dX7_takesNumber_6 rfl ?_
  refine j_iconst (v := 0) dX7_takesNumber_7 (by decide) ?_
  refine j_puti dX7_takesNumber_8 fl_X7_98 rfl (o_165 hr) ?_
  refine lr_tn (by omega) hr htl hpl 2 pl (jup μ 165 14 0) rfl (Nat.le_refl _) (by rw [jup_oth2 (by decide)]; exact h13) (by rw [jup_oth2 (by decide)]; exact hl) ?_
  obtain ⟨q1, q2, q3, q4⟩ := rTnL_ok 2 pl (jup μ 165 14 0) (by rw [jup_oth2 (by decide)]; exact h13)
  have hlq := (q4 165 12 (Or.inr ⟨by decide, by decide⟩)).trans ((jup_oth2 (by decide)).trans hl)
  simp only [rTn] at hQ
  refine j_aload_n dX7_takesNumber_79 rfl ?_
  refine j_geti dX7_takesNumber_80 fl_X7_95 rfl (o_165 hr) ?_
  refine j_iload dX7_takesNumber_83 rfl ?_
  refine j_icmp_eq (tgt := 115) dX7_takesNumber_85 (by decide) (fun c85 => ?_) (fun c85 => ?_)
  · skip
    refine j_iconst (v := 0) dX7_takesNumber_115 (by decide) ?_
    exact j_iret dX7_takesNumber_116 (by rw [if_neg (fun z => z.1 c85)] at hQ; exact hQ)
  · skip
    refine j_aload_n dX7_takesNumber_88 rfl ?_
    refine j_geti dX7_takesNumber_89 fl_X7_98 rfl (o_165 hr) ?_
    refine j_i2l dX7_takesNumber_92 ?_
    refine j_iload_n dX7_takesNumber_93 rfl ?_
    refine j_i2l dX7_takesNumber_94 ?_
    refine j_iload_n dX7_takesNumber_95 rfl ?_
    refine j_i2l dX7_takesNumber_96 ?_
    refine j_cS3r dX7_takesNumber_97 r_in ml_X7_72 my_X7_in ms_X7_in (by omega) (Nat.le_of_ble_eq_true rfl) (Nat.le_of_ble_eq_true rfl) ?_
    refine j_if_eqB (tgt := 115) dX7_takesNumber_100 (by decide) (fun c100 => ?_) (fun c100 => ?_)
    · skip
      refine j_iconst (v := 0) dX7_takesNumber_115 (by decide) ?_
      exact j_iret dX7_takesNumber_116 (by rw [if_neg (fun z => by rw [c100] at z; exact absurd z.2.1 (by decide))] at hQ; exact hQ)
    · skip
      refine j_aload_n dX7_takesNumber_103 rfl ?_
      refine j_aload_n dX7_takesNumber_104 rfl ?_
      refine j_geti dX7_takesNumber_105 fl_X7_95 rfl (o_165 hr) ?_
      refine j_topi q1 ?_
      refine j_cV1r dX7_takesNumber_108 (r_letterAt (k := (rTnL 2 pl (jup μ 165 14 0)).1) hr hlq htl (by omega)) ml_X7_101 my_X7_letterAt mi_X7_letterAt (o_165 hr) rfl (by omega) (Nat.le_of_ble_eq_true rfl) (Nat.le_of_ble_eq_true rfl) ?_
      refine j_iload_n dX7_takesNumber_111 rfl ?_
      refine j_icmp_eq (tgt := 117) dX7_takesNumber_112 (by decide) (fun c112 => ?_) (fun c112 => ?_)
      · skip
        refine j_aload_n dX7_takesNumber_117 rfl ?_
        refine j_dup dX7_takesNumber_118 rfl ?_
        refine j_geti dX7_takesNumber_119 fl_X7_95 rfl (o_165 hr) ?_
        refine j_iconst (v := 1) dX7_takesNumber_122 (by decide) ?_
        refine j_iadd dX7_takesNumber_123 ?_
        refine j_puti dX7_takesNumber_124 fl_X7_95 rfl (o_165 hr) ?_
        refine j_iconst (v := 1) dX7_takesNumber_127 (by decide) ?_
        exact j_iret dX7_takesNumber_128 (by rw [if_pos ⟨c85, c100, c112⟩] at hQ; exact hQ)
      · skip
        refine j_iconst (v := 0) dX7_takesNumber_115 (by decide) ?_
        exact j_iret dX7_takesNumber_116 (by rw [if_neg (fun z => c112 z.2.2)] at hQ; exact hQ)

theorem r_tnE {G : jG} {N : Nat} {κ : Nat → jK} {ρ : Nat → Nat → Option Nat} {μ m' : Nat → Nat → Int32} {ν : Nat → Nat → Int64} {r : Option Nat} {l h sg : Int32} {pl tl : Nat} (e : rTn μ l h sg pl = (r, m')) (hr : shR N κ ρ) (hl : μ 165 12 = nI tl) (htl : tl ≤ 200) (h13 : μ 165 13 = nI pl) (hpl : pl < 1000000) : MT G yX7_takesNumber cX7_takesNumber 5 (some .boolean) 1 0 0 [.ref 165, .int l, .int h, .int sg] (N, κ, ρ, μ, ν) (some (.int (jb r.isSome))) (N, κ, ρ, m', ν) := by
  have z := r_tn (G := G) (ν := ν) hr hl htl h13 hpl (l := l) (h := h) (sg := sg)
  rw [e] at z
  exact z
def rTW3 (n : Nat) (x y : Int32) : Option Nat × jMem → Option Nat × jMem
  | (none, c) => (none, c)
  | (some pc, c) => (some pc, rAddW c n x y (c 165 14))
def rTW2 (n : Nat) (x : Int32) : Option Nat × jMem → Option Nat × jMem
  | (none, b) => (none, b)
  | (some pb, b) => rTW3 n x (b 165 14) (rTn b 0 7 59 pb)
def rTW1 (n : Nat) : Option Nat × jMem → Option Nat × jMem
  | (none, a) => (none, a)
  | (some pa, a) => rTW2 n (a 165 14) (rTn a 1 60 44 pa)
def rTW (m : jMem) (pl : Nat) : Option Nat × jMem := if m 165 15 = 5 then (none, m) else rTW1 (m 165 15).toNatClampNeg (rTn m 0 3 44 pl)
theorem ne5_of {m : Int32} {n : Nat} (e : m = nI n) (h : ¬ m = 5) (hn : n ≤ 5) : n < 5 := by
  rcases Nat.lt_or_ge n 5 with q | q
  · exact q
  · exact absurd (by rw [e, show n = 5 by omega]; rfl) h
set_option maxRecDepth 20000 in
theorem r_tw {G : jG} {N : Nat} {κ : Nat → jK} {ρ : Nat → Nat → Option Nat} {μ : Nat → Nat → Int32} {ν : Nat → Nat → Int64} (hr : shR N κ ρ) {tl : Nat} (hl : μ 165 12 = nI tl) (htl : tl ≤ 200) {pl : Nat} (h13 : μ 165 13 = nI pl) (hpl : pl < 900000) {n : Nat} (hn : μ 165 15 = nI n) (hn5 : n ≤ 5) : MT G yX7_takesWall cX7_takesWall 3 (some .boolean) 2 0 0 [.ref 165] (N, κ, ρ, μ, ν) (some (.int (jb (rTW μ pl).1.isSome))) (N, κ, ρ, (rTW μ pl).2, ν) := by
  refine jMT (ini := false) my_X7_takesWall (fun h => by cases h) (jRv_jb _) (Nat.le_of_ble_eq_true rfl) ?_
  show J G RX7 cX7_takesWall 3 false 2 _ 0 0 (N, κ, ρ, μ, ν) 0 [some (.ref 165), none, none] []
  generalize hQe : (fun (v' : Option Value) (h'' : jH) => v' = (some (.int (jb (rTW μ pl).1.isSome))) ∧ h'' = (N, κ, ρ, (rTW μ pl).2, ν)) = Q
  have hQ : Q (some (.int (jb (rTW μ pl).1.isSome))) (N, κ, ρ, (rTW μ pl).2, ν) := by rw [← hQe]; exact ⟨rfl, rfl⟩
  clear hQe
  refine j_aload_n dX7_takesWall_0 rfl ?_
  refine j_geti dX7_takesWall_1 fl_X7_76 rfl (o_165 hr) ?_
  refine j_iconst (v := 5) dX7_takesWall_4 (by decide) ?_
  refine j_icmp_eq (tgt := 19) dX7_takesWall_5 (by decide) (fun c5 => ?_) (fun c5 => ?_)
  · skip
    refine j_iconst (v := 0) dX7_takesWall_19 (by decide) ?_
    exact j_iret dX7_takesWall_20 (by simpa only [rTW, rTW1, rTW2, rTW3, eq_true c5, Option.isSome_none, Option.isSome_some, jb, reduceIte, Bool.false_eq_true, Bool.true_eq_false, and_self, and_true, true_and, and_false, false_and, not_true_eq_false, not_false_eq_true, ne_eq, decide_true, decide_false, if_true, if_false, Bool.not_eq_true, Bool.not_eq_false] using hQ)
  · skip
    have hn4 := ne5_of hn c5 hn5
    have eN : (μ 165 15).toNatClampNeg = n := by rw [hn]; exact nI_clamp (by omega)
    refine j_aload_n dX7_takesWall_8 rfl ?_
    refine j_iconst (v := 0) dX7_takesWall_9 (by decide) ?_
    refine j_iconst (v := 3) dX7_takesWall_10 (by decide) ?_
    refine j_bipush (v := 44) dX7_takesWall_11 (by decide) ?_
    obtain ⟨ra, ma, ea⟩ : ∃ r m, rTn μ 0 3 44 pl = (r, m) := ⟨_, _, rfl⟩
    refine j_cV3r dX7_takesWall_13 (r_tnE ea hr hl htl h13 (by omega)) ml_X7_109 my_X7_takesNumber mi_X7_takesNumber (o_165 hr) rfl (by omega) (Nat.le_of_ble_eq_true rfl) (Nat.le_of_ble_eq_true rfl) ?_
    refine j_if_neB (tgt := 21) dX7_takesWall_16 (by decide) (fun c16 => ?_) (fun c16 => ?_)
    · skip
      obtain ⟨pa, rfl⟩ := Option.isSome_iff_exists.mp c16
      obtain ⟨a13, alt, ale, ain⟩ := rTn_pl h13 ea
      have al := (rTn_keep h13 ea (x := 165) (y := 12) (Or.inr ⟨by decide, by decide⟩)).trans hl
      have an := (rTn_keep h13 ea (x := 165) (y := 15) (Or.inr ⟨by decide, by decide⟩)).trans hn
      refine j_aload_n dX7_takesWall_21 rfl ?_
      refine j_geti dX7_takesWall_22 fl_X7_98 rfl (o_165 hr) ?_
      refine j_istore_1 dX7_takesWall_25 rfl ?_
      refine j_aload_n dX7_takesWall_26 rfl ?_
      refine j_iconst (v := 1) dX7_takesWall_27 (by decide) ?_
      refine j_bipush (v := 60) dX7_takesWall_28 (by decide) ?_
      refine j_bipush (v := 44) dX7_takesWall_30 (by decide) ?_
      obtain ⟨rb, mb, eb⟩ : ∃ r m, rTn ma 1 60 44 pa = (r, m) := ⟨_, _, rfl⟩
      refine j_cV3r dX7_takesWall_32 (r_tnE eb hr al htl a13 (by omega)) ml_X7_109 my_X7_takesNumber mi_X7_takesNumber (o_165 hr) rfl (by omega) (Nat.le_of_ble_eq_true rfl) (Nat.le_of_ble_eq_true rfl) ?_
      refine j_if_neB (tgt := 40) dX7_takesWall_35 (by decide) (fun c35 => ?_) (fun c35 => ?_)
      · skip
        obtain ⟨pb, rfl⟩ := Option.isSome_iff_exists.mp c35
        obtain ⟨b13, blt, ble, bin⟩ := rTn_pl a13 eb
        have bl := (rTn_keep a13 eb (x := 165) (y := 12) (Or.inr ⟨by decide, by decide⟩)).trans al
        have bn := (rTn_keep a13 eb (x := 165) (y := 15) (Or.inr ⟨by decide, by decide⟩)).trans an
        refine j_aload_n dX7_takesWall_40 rfl ?_
        refine j_geti dX7_takesWall_41 fl_X7_98 rfl (o_165 hr) ?_
        refine j_istore_2 dX7_takesWall_44 rfl ?_
        refine j_aload_n dX7_takesWall_45 rfl ?_
        refine j_iconst (v := 0) dX7_takesWall_46 (by decide) ?_
        refine j_bipush (v := 7) dX7_takesWall_47 (by decide) ?_
        refine j_bipush (v := 59) dX7_takesWall_49 (by decide) ?_
        obtain ⟨re, me, ee⟩ : ∃ r m, rTn mb 0 7 59 pb = (r, m) := ⟨_, _, rfl⟩
        refine j_cV3r dX7_takesWall_51 (r_tnE ee hr bl htl b13 (by omega)) ml_X7_109 my_X7_takesNumber mi_X7_takesNumber (o_165 hr) rfl (by omega) (Nat.le_of_ble_eq_true rfl) (Nat.le_of_ble_eq_true rfl) ?_
        refine j_if_neB (tgt := 59) dX7_takesWall_54 (by decide) (fun c54 => ?_) (fun c54 => ?_)
        · skip
          obtain ⟨pe, rfl⟩ := Option.isSome_iff_exists.mp c54
          obtain ⟨e13, elt, ele, ein⟩ := rTn_pl b13 ee
          have el := (rTn_keep b13 ee (x := 165) (y := 12) (Or.inr ⟨by decide, by decide⟩)).trans bl
          have en := (rTn_keep b13 ee (x := 165) (y := 15) (Or.inr ⟨by decide, by decide⟩)).trans bn
          refine j_aload_n dX7_takesWall_59 rfl ?_
          refine j_iload_n dX7_takesWall_60 rfl ?_
          refine j_iload_n dX7_takesWall_61 rfl ?_
          refine j_aload_n dX7_takesWall_62 rfl ?_
          refine j_geti dX7_takesWall_63 fl_X7_98 rfl (o_165 hr) ?_
          refine j_cV3v dX7_takesWall_66 (r_addsWall hr en hn4) ml_X7_58 my_X7_addsWall mi_X7_addsWall (o_165 hr) rfl (by omega) (Nat.le_of_ble_eq_true rfl) (Nat.le_of_ble_eq_true rfl) ?_
          refine j_iconst (v := 1) dX7_takesWall_69 (by decide) ?_
          exact j_iret dX7_takesWall_70 (by simpa only [rTW, rTW1, rTW2, rTW3, ea, eb, ee, c5, eN, Option.isSome_none, Option.isSome_some, jb, reduceIte, Bool.false_eq_true, Bool.true_eq_false, and_self, and_true, true_and, and_false, false_and, not_true_eq_false, not_false_eq_true, ne_eq, decide_true, decide_false, if_true, if_false, Bool.not_eq_true, Bool.not_eq_false] using hQ)
        · skip
          have re0 : re = none := by cases re with | none => rfl | some _ => cases c54
          subst re0
          refine j_iconst (v := 0) dX7_takesWall_57 (by decide) ?_
          exact j_iret dX7_takesWall_58 (by simpa only [rTW, rTW1, rTW2, rTW3, ea, eb, ee, c5, eN, Option.isSome_none, Option.isSome_some, jb, reduceIte, Bool.false_eq_true, Bool.true_eq_false, and_self, and_true, true_and, and_false, false_and, not_true_eq_false, not_false_eq_true, ne_eq, decide_true, decide_false, if_true, if_false, Bool.not_eq_true, Bool.not_eq_false] using hQ)
      · skip
        have rb0 : rb = none := by cases rb with | none => rfl | some _ => cases c35
        subst rb0
        refine j_iconst (v := 0) dX7_takesWall_38 (by decide) ?_
        exact j_iret dX7_takesWall_39 (by simpa only [rTW, rTW1, rTW2, rTW3, ea, eb, c5, eN, Option.isSome_none, Option.isSome_some, jb, reduceIte, Bool.false_eq_true, Bool.true_eq_false, and_self, and_true, true_and, and_false, false_and, not_true_eq_false, not_false_eq_true, ne_eq, decide_true, decide_false, if_true, if_false, Bool.not_eq_true, Bool.not_eq_false] using hQ)
    · skip
      have ra0 : ra = none := by cases ra with | none => rfl | some _ => cases c16
      subst ra0
      refine j_iconst (v := 0) dX7_takesWall_19 (by decide) ?_
      exact j_iret dX7_takesWall_20 (by simpa only [rTW, rTW1, rTW2, rTW3, ea, c5, eN, Option.isSome_none, Option.isSome_some, jb, reduceIte, Bool.false_eq_true, Bool.true_eq_false, and_self, and_true, true_and, and_false, false_and, not_true_eq_false, not_false_eq_true, ne_eq, decide_true, decide_false, if_true, if_false, Bool.not_eq_true, Bool.not_eq_false] using hQ)

def rTP3 (a b : jMem) : Option Nat × jMem → Option Nat × jMem
  | (none, c) => (none, c)
  | (some pc, c) => (some pc, jup c 175 (5 * a 165 14 + b 165 14).toNatClampNeg (c 165 14))
def rTP2 (a : jMem) : Option Nat × jMem → Option Nat × jMem
  | (none, b) => (none, b)
  | (some pb, b) => if b 165 14 = a 165 14 then (none, b) else rTP3 a b (rTn b 1 40 59 pb)
def rTP1 : Option Nat × jMem → Option Nat × jMem
  | (none, a) => (none, a)
  | (some pa, a) => rTP2 a (rTn a 0 (a 165 15 - 1) 44 pa)
def rTP (m : jMem) (pl : Nat) : Option Nat × jMem := rTP1 (rTn m 0 (m 165 15 - 1) 44 pl)
theorem rprop_ix {x y m : Int32} {p : Nat} (e : m = nI p) (hp : p ≤ 5) (hx : rIn x.toInt64 (0 : Int32).toInt64 (m - 1).toInt64 = true) (hy : rIn y.toInt64 (0 : Int32).toInt64 (m - 1).toInt64 = true) : 5 * x + y = nI (5 * x + y).toNatClampNeg ∧ (5 * x + y).toNatClampNeg < 25 := by
  obtain ⟨i, hi, rfl⟩ := in_wall e hp hx
  obtain ⟨j, hj, rfl⟩ := in_wall e hp hy
  have e2 : 5 * nI i + nI j = nI (5 * i + j) := by simp only [jl5, nI_add, pk_mul]
  rw [e2, nI_clamp (by omega)]
  exact ⟨rfl, by omega⟩
set_option maxRecDepth 20000 in
theorem r_tp {G : jG} {N : Nat} {κ : Nat → jK} {ρ : Nat → Nat → Option Nat} {μ : Nat → Nat → Int32} {ν : Nat → Nat → Int64} (hr : shR N κ ρ) {tl : Nat} (hl : μ 165 12 = nI tl) (htl : tl ≤ 200) {pl : Nat} (h13 : μ 165 13 = nI pl) (hpl : pl < 900000) {n : Nat} (hn : μ 165 15 = nI n) (hn5 : n ≤ 5) : MT G yX7_takesProp cX7_takesProp 3 (some .boolean) 2 0 0 [.ref 165] (N, κ, ρ, μ, ν) (some (.int (jb (rTP μ pl).1.isSome))) (N, κ, ρ, (rTP μ pl).2, ν) := by
  refine jMT (ini := false) my_X7_takesProp (fun h => by cases h) (jRv_jb _) (Nat.le_of_ble_eq_true rfl) ?_
  show J G RX7 cX7_takesProp 3 false 2 _ 0 0 (N, κ, ρ, μ, ν) 0 [some (.ref 165), none, none] []
  generalize hQe : (fun (v' : Option Value) (h'' : jH) => v' = (some (.int (jb (rTP μ pl).1.isSome))) ∧ h'' = (N, κ, ρ, (rTP μ pl).2, ν)) = Q
  have hQ : Q (some (.int (jb (rTP μ pl).1.isSome))) (N, κ, ρ, (rTP μ pl).2, ν) := by rw [← hQe]; exact ⟨rfl, rfl⟩
  clear hQe
  refine j_aload_n dX7_takesProp_0 rfl ?_
  refine j_iconst (v := 0) dX7_takesProp_1 (by decide) ?_
  refine j_aload_n dX7_takesProp_2 rfl ?_
  refine j_geti dX7_takesProp_3 fl_X7_76 rfl (o_165 hr) ?_
  refine j_iconst (v := 1) dX7_takesProp_6 (by decide) ?_
  refine j_isub dX7_takesProp_7 ?_
  refine j_bipush (v := 44) dX7_takesProp_8 (by decide) ?_
  obtain ⟨ra, ma, ea⟩ : ∃ r m, rTn μ 0 (μ 165 15 - 1) 44 pl = (r, m) := ⟨_, _, rfl⟩
  refine j_cV3r dX7_takesProp_10 (r_tnE ea hr hl htl h13 (by omega)) ml_X7_109 my_X7_takesNumber mi_X7_takesNumber (o_165 hr) rfl (by omega) (Nat.le_of_ble_eq_true rfl) (Nat.le_of_ble_eq_true rfl) ?_
  refine j_if_neB (tgt := 18) dX7_takesProp_13 (by decide) (fun c13 => ?_) (fun c13 => ?_)
  · skip
    obtain ⟨pa, rfl⟩ := Option.isSome_iff_exists.mp c13
    obtain ⟨a13, alt, ale, ain⟩ := rTn_pl h13 ea
    have al := (rTn_keep h13 ea (x := 165) (y := 12) (Or.inr ⟨by decide, by decide⟩)).trans hl
    have an := (rTn_keep h13 ea (x := 165) (y := 15) (Or.inr ⟨by decide, by decide⟩)).trans hn
    refine j_aload_n dX7_takesProp_18 rfl ?_
    refine j_geti dX7_takesProp_19 fl_X7_98 rfl (o_165 hr) ?_
    refine j_istore_1 dX7_takesProp_22 rfl ?_
    refine j_aload_n dX7_takesProp_23 rfl ?_
    refine j_iconst (v := 0) dX7_takesProp_24 (by decide) ?_
    refine j_aload_n dX7_takesProp_25 rfl ?_
    refine j_geti dX7_takesProp_26 fl_X7_76 rfl (o_165 hr) ?_
    refine j_iconst (v := 1) dX7_takesProp_29 (by decide) ?_
    refine j_isub dX7_takesProp_30 ?_
    refine j_bipush (v := 44) dX7_takesProp_31 (by decide) ?_
    obtain ⟨rb, mb, eb⟩ : ∃ r m, rTn ma 0 (ma 165 15 - 1) 44 pa = (r, m) := ⟨_, _, rfl⟩
    refine j_cV3r dX7_takesProp_33 (r_tnE eb hr al htl a13 (by omega)) ml_X7_109 my_X7_takesNumber mi_X7_takesNumber (o_165 hr) rfl (by omega) (Nat.le_of_ble_eq_true rfl) (Nat.le_of_ble_eq_true rfl) ?_
    refine j_if_eqB (tgt := 47) dX7_takesProp_36 (by decide) (fun c36 => ?_) (fun c36 => ?_)
    · skip
      have rb0 : rb = none := by cases rb with | none => rfl | some _ => cases c36
      subst rb0
      refine j_iconst (v := 0) dX7_takesProp_47 (by decide) ?_
      exact j_iret dX7_takesProp_48 (by simpa only [rTP, rTP1, rTP2, rTP3, ea, eb, Option.isSome_none, Option.isSome_some, jb, reduceIte, Bool.false_eq_true, Bool.true_eq_false, and_self, and_true, true_and, and_false, false_and, not_true_eq_false, not_false_eq_true, ne_eq, decide_true, decide_false, if_true, if_false, Bool.not_eq_true, Bool.not_eq_false] using hQ)
    · skip
      obtain ⟨pb, rfl⟩ := Option.isSome_iff_exists.mp c36
      obtain ⟨b13, blt, ble, bin⟩ := rTn_pl a13 eb
      have bl := (rTn_keep a13 eb (x := 165) (y := 12) (Or.inr ⟨by decide, by decide⟩)).trans al
      have bn := (rTn_keep a13 eb (x := 165) (y := 15) (Or.inr ⟨by decide, by decide⟩)).trans an
      have hix := rprop_ix (m := μ 165 15) hn hn5 ain (by rw [an, ← hn] at bin; exact bin)
      refine j_aload_n dX7_takesProp_39 rfl ?_
      refine j_geti dX7_takesProp_40 fl_X7_98 rfl (o_165 hr) ?_
      refine j_iload_n dX7_takesProp_43 rfl ?_
      refine j_icmp_ne (tgt := 49) dX7_takesProp_44 (by decide) (fun c44 => ?_) (fun c44 => ?_)
      · skip
        refine j_aload_n dX7_takesProp_49 rfl ?_
        refine j_geti dX7_takesProp_50 fl_X7_98 rfl (o_165 hr) ?_
        refine j_istore_2 dX7_takesProp_53 rfl ?_
        refine j_aload_n dX7_takesProp_54 rfl ?_
        refine j_iconst (v := 1) dX7_takesProp_55 (by decide) ?_
        refine j_bipush (v := 40) dX7_takesProp_56 (by decide) ?_
        refine j_bipush (v := 59) dX7_takesProp_58 (by decide) ?_
        obtain ⟨re, me, ee⟩ : ∃ r m, rTn mb 1 40 59 pb = (r, m) := ⟨_, _, rfl⟩
        refine j_cV3r dX7_takesProp_60 (r_tnE ee hr bl htl b13 (by omega)) ml_X7_109 my_X7_takesNumber mi_X7_takesNumber (o_165 hr) rfl (by omega) (Nat.le_of_ble_eq_true rfl) (Nat.le_of_ble_eq_true rfl) ?_
        refine j_if_neB (tgt := 68) dX7_takesProp_63 (by decide) (fun c63 => ?_) (fun c63 => ?_)
        · skip
          obtain ⟨pe, rfl⟩ := Option.isSome_iff_exists.mp c63
          obtain ⟨e13, elt, ele, ein⟩ := rTn_pl b13 ee
          have el := (rTn_keep b13 ee (x := 165) (y := 12) (Or.inr ⟨by decide, by decide⟩)).trans bl
          have en := (rTn_keep b13 ee (x := 165) (y := 15) (Or.inr ⟨by decide, by decide⟩)).trans bn
          refine j_aload_n dX7_takesProp_68 rfl ?_
          refine j_getr dX7_takesProp_69 fl_X7_37 rfl (o_165 hr) (r_165_17 hr) ?_
          refine j_iconst (v := 5) dX7_takesProp_72 (by decide) ?_
          refine j_iload_n dX7_takesProp_73 rfl ?_
          refine j_imul dX7_takesProp_74 ?_
          refine j_iload_n dX7_takesProp_75 rfl ?_
          refine j_iadd dX7_takesProp_76 ?_
          refine j_aload_n dX7_takesProp_77 rfl ?_
          refine j_geti dX7_takesProp_78 fl_X7_98 rfl (o_165 hr) ?_
          refine j_iast (k := (5 * ma 165 14 + mb 165 14).toNatClampNeg) dX7_takesProp_81 (a_175 hr) hix.1 hix.2 ?_
          refine j_iconst (v := 1) dX7_takesProp_82 (by decide) ?_
          exact j_iret dX7_takesProp_83 (by simpa only [rTP, rTP1, rTP2, rTP3, ea, eb, ee, c44, Option.isSome_none, Option.isSome_some, jb, reduceIte, Bool.false_eq_true, Bool.true_eq_false, and_self, and_true, true_and, and_false, false_and, not_true_eq_false, not_false_eq_true, ne_eq, decide_true, decide_false, if_true, if_false, Bool.not_eq_true, Bool.not_eq_false] using hQ)
        · skip
          have re0 : re = none := by cases re with | none => rfl | some _ => cases c63
          subst re0
          refine j_iconst (v := 0) dX7_takesProp_66 (by decide) ?_
          exact j_iret dX7_takesProp_67 (by simpa only [rTP, rTP1, rTP2, rTP3, ea, eb, ee, c44, Option.isSome_none, Option.isSome_some, jb, reduceIte, Bool.false_eq_true, Bool.true_eq_false, and_self, and_true, true_and, and_false, false_and, not_true_eq_false, not_false_eq_true, ne_eq, decide_true, decide_false, if_true, if_false, Bool.not_eq_true, Bool.not_eq_false] using hQ)
      · skip
        refine j_iconst (v := 0) dX7_takesProp_47 (by decide) ?_
        exact j_iret dX7_takesProp_48 (by simpa only [rTP, rTP1, rTP2, rTP3, ea, eb, eq_true c44, Option.isSome_none, Option.isSome_some, jb, reduceIte, Bool.false_eq_true, Bool.true_eq_false, and_self, and_true, true_and, and_false, false_and, not_true_eq_false, not_false_eq_true, ne_eq, decide_true, decide_false, if_true, if_false, Bool.not_eq_true, Bool.not_eq_false] using hQ)
  · skip
    have ra0 : ra = none := by cases ra with | none => rfl | some _ => cases c13
    subst ra0
    refine j_iconst (v := 0) dX7_takesProp_16 (by decide) ?_
    exact j_iret dX7_takesProp_17 (by simpa only [rTP, rTP1, rTP2, rTP3, ea, Option.isSome_none, Option.isSome_some, jb, reduceIte, Bool.false_eq_true, Bool.true_eq_false, and_self, and_true, true_and, and_false, false_and, not_true_eq_false, not_false_eq_true, ne_eq, decide_true, decide_false, if_true, if_false, Bool.not_eq_true, Bool.not_eq_false] using hQ)

def rTS1 : Option Nat × jMem → Option Nat × jMem
  | (none, a) => (none, a)
  | (some pa, a) => (some pa, jup a 165 18 (a 165 14))
def rTS (m : jMem) (pl : Nat) : Option Nat × jMem := rTS1 (rTn m 0 60 59 pl)
set_option maxRecDepth 20000 in
theorem r_ts {G : jG} {N : Nat} {κ : Nat → jK} {ρ : Nat → Nat → Option Nat} {μ : Nat → Nat → Int32} {ν : Nat → Nat → Int64} (hr : shR N κ ρ) {tl : Nat} (hl : μ 165 12 = nI tl) (htl : tl ≤ 200) {pl : Nat} (h13 : μ 165 13 = nI pl) (hpl : pl < 900000) {n : Nat} (hn : μ 165 15 = nI n) (hn5 : n ≤ 5) : MT G yX7_takesStones cX7_takesStones 1 (some .boolean) 2 0 0 [.ref 165] (N, κ, ρ, μ, ν) (some (.int (jb (rTS μ pl).1.isSome))) (N, κ, ρ, (rTS μ pl).2, ν) := by
  refine jMT (ini := false) my_X7_takesStones (fun h => by cases h) (jRv_jb _) (Nat.le_of_ble_eq_true rfl) ?_
  show J G RX7 cX7_takesStones 1 false 2 _ 0 0 (N, κ, ρ, μ, ν) 0 [some (.ref 165)] []
  generalize hQe : (fun (v' : Option Value) (h'' : jH) => v' = (some (.int (jb (rTS μ pl).1.isSome))) ∧ h'' = (N, κ, ρ, (rTS μ pl).2, ν)) = Q
  have hQ : Q (some (.int (jb (rTS μ pl).1.isSome))) (N, κ, ρ, (rTS μ pl).2, ν) := by rw [← hQe]; exact ⟨rfl, rfl⟩
  clear hQe
  refine j_aload_n dX7_takesStones_0 rfl ?_
  refine j_iconst (v := 0) dX7_takesStones_1 (by decide) ?_
  refine j_bipush (v := 60) dX7_takesStones_2 (by decide) ?_
  refine j_bipush (v := 59) dX7_takesStones_4 (by decide) ?_
  obtain ⟨ra, ma, ea⟩ : ∃ r m, rTn μ 0 60 59 pl = (r, m) := ⟨_, _, rfl⟩
  refine j_cV3r dX7_takesStones_6 (r_tnE ea hr hl htl h13 (by omega)) ml_X7_109 my_X7_takesNumber mi_X7_takesNumber (o_165 hr) rfl (by omega) (Nat.le_of_ble_eq_true rfl) (Nat.le_of_ble_eq_true rfl) ?_
  refine j_if_neB (tgt := 14) dX7_takesStones_9 (by decide) (fun c9 => ?_) (fun c9 => ?_)
  · skip
    obtain ⟨pa, rfl⟩ := Option.isSome_iff_exists.mp c9
    obtain ⟨a13, alt, ale, ain⟩ := rTn_pl h13 ea
    have al := (rTn_keep h13 ea (x := 165) (y := 12) (Or.inr ⟨by decide, by decide⟩)).trans hl
    have an := (rTn_keep h13 ea (x := 165) (y := 15) (Or.inr ⟨by decide, by decide⟩)).trans hn
    refine j_aload_n dX7_takesStones_14 rfl ?_
    refine j_aload_n dX7_takesStones_15 rfl ?_
    refine j_geti dX7_takesStones_16 fl_X7_98 rfl (o_165 hr) ?_
    refine j_puti dX7_takesStones_19 fl_X7_62 rfl (o_165 hr) ?_
    refine j_iconst (v := 1) dX7_takesStones_22 (by decide) ?_
    exact j_iret dX7_takesStones_23 (by simpa only [rTS, rTS1, ea, Option.isSome_none, Option.isSome_some, jb, reduceIte, Bool.false_eq_true, Bool.true_eq_false, and_self, and_true, true_and, and_false, false_and, not_true_eq_false, not_false_eq_true, ne_eq, decide_true, decide_false, if_true, if_false, Bool.not_eq_true, Bool.not_eq_false] using hQ)
  · skip
    have ra0 : ra = none := by cases ra with | none => rfl | some _ => cases c9
    subst ra0
    refine j_iconst (v := 0) dX7_takesStones_12 (by decide) ?_
    exact j_iret dX7_takesStones_13 (by simpa only [rTS, rTS1, ea, Option.isSome_none, Option.isSome_some, jb, reduceIte, Bool.false_eq_true, Bool.true_eq_false, and_self, and_true, true_and, and_false, false_and, not_true_eq_false, not_false_eq_true, ne_eq, decide_true, decide_false, if_true, if_false, Bool.not_eq_true, Bool.not_eq_false] using hQ)

def rItem (m : jMem) (pl : Nat) : Option Nat × jMem :=
  let c := rLt m pl
  let m1 := jup m 165 13 (m 165 13 + 1)
  if c = 119 then rTW m1 (pl + 1) else if c = 104 then rTP m1 (pl + 1) else if c = 115 then rTS m1 (pl + 1) else (none, m1)
set_option maxRecDepth 20000 in
theorem r_item {G : jG} {N : Nat} {κ : Nat → jK} {ρ : Nat → Nat → Option Nat} {μ : Nat → Nat → Int32} {ν : Nat → Nat → Int64} (hr : shR N κ ρ) {tl : Nat} (hl : μ 165 12 = nI tl) (htl : tl ≤ 200) {pl : Nat} (h13 : μ 165 13 = nI pl) (hpl : pl < 800000) {n : Nat} (hn : μ 165 15 = nI n) (hn5 : n ≤ 5) : MT G yX7_takesItem cX7_takesItem 2 (some .boolean) 3 0 0 [.ref 165] (N, κ, ρ, μ, ν) (some (.int (jb (rItem μ pl).1.isSome))) (N, κ, ρ, (rItem μ pl).2, ν) := by
  refine jMT (ini := false) my_X7_takesItem (fun h => by cases h) (jRv_jb _) (Nat.le_of_ble_eq_true rfl) ?_
  show J G RX7 cX7_takesItem 2 false 3 _ 0 0 (N, κ, ρ, μ, ν) 0 [some (.ref 165), none] []
  generalize hQe : (fun (v' : Option Value) (h'' : jH) => v' = (some (.int (jb (rItem μ pl).1.isSome))) ∧ h'' = (N, κ, ρ, (rItem μ pl).2, ν)) = Q
  have hQ : Q (some (.int (jb (rItem μ pl).1.isSome))) (N, κ, ρ, (rItem μ pl).2, ν) := by rw [← hQe]; exact ⟨rfl, rfl⟩
  clear hQe
  have h13b : jup μ 165 13 (μ 165 13 + 1) 165 13 = nI (pl + 1) := by rw [jup_self, h13, nI_1]
  have hlb : jup μ 165 13 (μ 165 13 + 1) 165 12 = nI tl := by rw [jup_oth2 (by decide)]; exact hl
  have hnb : jup μ 165 13 (μ 165 13 + 1) 165 15 = nI n := by rw [jup_oth2 (by decide)]; exact hn
  refine j_aload_n dX7_takesItem_0 rfl ?_
  refine j_aload_n dX7_takesItem_1 rfl ?_
  refine j_geti dX7_takesItem_2 fl_X7_95 rfl (o_165 hr) ?_
  refine j_topi h13 ?_
  refine j_cV1r dX7_takesItem_5 (r_letterAt (k := pl) hr hl htl (by omega)) ml_X7_101 my_X7_letterAt mi_X7_letterAt (o_165 hr) rfl (by omega) (Nat.le_of_ble_eq_true rfl) (Nat.le_of_ble_eq_true rfl) ?_
  refine j_istore_1 dX7_takesItem_8 rfl ?_
  refine j_aload_n dX7_takesItem_9 rfl ?_
  refine j_dup dX7_takesItem_10 rfl ?_
  refine j_geti dX7_takesItem_11 fl_X7_95 rfl (o_165 hr) ?_
  refine j_iconst (v := 1) dX7_takesItem_14 (by decide) ?_
  refine j_iadd dX7_takesItem_15 ?_
  refine j_puti dX7_takesItem_16 fl_X7_95 rfl (o_165 hr) ?_
  refine j_iload_n dX7_takesItem_19 rfl ?_
  refine j_bipush (v := 119) dX7_takesItem_20 (by decide) ?_
  refine j_icmp_ne (tgt := 32) dX7_takesItem_22 (by decide) (fun c22 => ?_) (fun c22 => ?_)
  · skip
    refine j_iload_n dX7_takesItem_32 rfl ?_
    refine j_bipush (v := 104) dX7_takesItem_33 (by decide) ?_
    refine j_icmp_ne (tgt := 45) dX7_takesItem_35 (by decide) (fun c35 => ?_) (fun c35 => ?_)
    · skip
      refine j_iload_n dX7_takesItem_45 rfl ?_
      refine j_bipush (v := 115) dX7_takesItem_46 (by decide) ?_
      refine j_icmp_ne (tgt := 62) dX7_takesItem_48 (by decide) (fun c48 => ?_) (fun c48 => ?_)
      · skip
        refine j_iconst (v := 0) dX7_takesItem_62 (by decide) ?_
        exact j_iret dX7_takesItem_63 (by have e : rItem μ pl = (none, jup μ 165 13 (μ 165 13 + 1)) := (by simp [rItem, c22, c35, c48]); rw [e] at hQ; exact hQ)
      · skip
        refine j_aload_n dX7_takesItem_51 rfl ?_
        refine j_cV0r dX7_takesItem_52 (r_ts hr hlb htl h13b (by omega) hnb hn5) ml_X7_120 my_X7_takesStones mi_X7_takesStones (o_165 hr) rfl (by omega) (Nat.le_of_ble_eq_true rfl) (Nat.le_of_ble_eq_true rfl) ?_
        refine j_if_eqB (tgt := 62) dX7_takesItem_55 (by decide) (fun c55 => ?_) (fun c55 => ?_)
        · skip
          refine j_iconst (v := 0) dX7_takesItem_62 (by decide) ?_
          exact j_iret dX7_takesItem_63 (by have e : rItem μ pl = rTS (jup μ 165 13 (μ 165 13 + 1)) (pl + 1) := (by simp [rItem, c48]); rw [e, c55] at hQ; exact hQ)
        · skip
          refine j_iconst (v := 1) dX7_takesItem_58 (by decide) ?_
          refine j_goto (tgt := 63) dX7_takesItem_59 (by decide) ?_
          exact j_iret dX7_takesItem_63 (by have e : rItem μ pl = rTS (jup μ 165 13 (μ 165 13 + 1)) (pl + 1) := (by simp [rItem, c48]); rw [e, c55] at hQ; exact hQ)
    · skip
      refine j_aload_n dX7_takesItem_38 rfl ?_
      refine j_cV0r dX7_takesItem_39 (r_tp hr hlb htl h13b (by omega) hnb hn5) ml_X7_117 my_X7_takesProp mi_X7_takesProp (o_165 hr) rfl (by omega) (Nat.le_of_ble_eq_true rfl) (Nat.le_of_ble_eq_true rfl) ?_
      refine j_goto (tgt := 63) dX7_takesItem_42 (by decide) ?_
      exact j_iret dX7_takesItem_63 (by have e : rItem μ pl = rTP (jup μ 165 13 (μ 165 13 + 1)) (pl + 1) := (by simp [rItem, c35]); rw [e] at hQ; exact hQ)
  · skip
    refine j_aload_n dX7_takesItem_25 rfl ?_
    refine j_cV0r dX7_takesItem_26 (r_tw hr hlb htl h13b (by omega) hnb hn5) ml_X7_113 my_X7_takesWall mi_X7_takesWall (o_165 hr) rfl (by omega) (Nat.le_of_ble_eq_true rfl) (Nat.le_of_ble_eq_true rfl) ?_
    refine j_goto (tgt := 63) dX7_takesItem_29 (by decide) ?_
    exact j_iret dX7_takesItem_63 (by have e : rItem μ pl = rTW (jup μ 165 13 (μ 165 13 + 1)) (pl + 1) := (by simp [rItem, c22]); rw [e] at hQ; exact hQ)

