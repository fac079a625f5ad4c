/-! ISOUTSIDE, NOTES, PAST -/
def xOut (n l m : Int32) : Bool := decide (n < l ∨ m < n)
theorem nI_predS {c : Nat} (h : 0 < c) : nI c - 1 = nI (c - 1) := by
  obtain ⟨k, rfl⟩ : ∃ k, c = k + 1 := ⟨c - 1, by omega⟩
  rw [nI_pred]; rfl
theorem nI_pos_of {c : Nat} (h : ¬ nI c ≤ 0) : 0 < c := by
  rcases Nat.eq_zero_or_pos c with e | e
  · subst e; exact absurd (by decide) h
  · exact e
theorem of_clamp {x : Int32} (h : ¬ x < 0) : x = nI x.toNatClampNeg := by
  obtain ⟨j, hj, e⟩ := nI_of h
  rw [e, nI_clamp hj]
/-- an int that is no less than 0 and less than n -/
theorem in_range {x : Int32} {n : Nat} (h : ¬ x < 0) (h2 : x < nI n) (hn : n < 2 ^ 31) : ∃ k, k < n ∧ x = nI k := by
  obtain ⟨j, hj, e⟩ := nI_of h
  subst e
  exact ⟨j, (nI_ltI hj hn).mp h2, rfl⟩
set_option maxRecDepth 20000 in
theorem t_out {G : jG} {N : Nat} {κ : Nat → jK} {ρ : Nat → Nat → Option Nat} {μ : Nat → Nat → Int32} {ν : Nat → Nat → Int64} {n l m : Int32} : MT G yX6_isOutside cX6_isOutside 3 (some .boolean) 0 0 0 [.int n, .int l, .int m] (N, κ, ρ, μ, ν) (some (.int (jb (xOut n l m)))) (N, κ, ρ, μ, ν) := by
  refine jMT (ini := false) my_X6_isOutside (fun h => by cases h) (jRv_jb _) (Nat.le_of_ble_eq_true rfl) ?_
  show J G RX6 cX6_isOutside 3 false 0 _ 0 0 (N, κ, ρ, μ, ν) 0 [some (.int n), some (.int l), some (.int m)] []
  refine j_iload_n dX6_isOutside_0 rfl ?_
  refine j_iload_n dX6_isOutside_1 rfl ?_
  refine k_icmp_lt (tgt := 10) dX6_isOutside_2 (by decide) (fun c2 c2' => ?_) (fun c2 c2' => ?_)
  · skip
    refine j_iconst (v := 1) dX6_isOutside_10 (by decide) ?_
    refine j_goto (tgt := 15) dX6_isOutside_11 (by decide) ?_
    exact j_iret dX6_isOutside_15 ⟨by simp [xOut, jb, c2, c2'], rfl⟩
  · skip
    refine j_iload_n dX6_isOutside_5 rfl ?_
    refine j_iload_n dX6_isOutside_6 rfl ?_
    refine k_icmp_le (tgt := 14) dX6_isOutside_7 (by decide) (fun c7 c7' => ?_) (fun c7 c7' => ?_)
    · skip
      refine j_iconst (v := 0) dX6_isOutside_14 (by decide) ?_
      exact j_iret dX6_isOutside_15 ⟨by simp [xOut, jb, c2, c2', c7, c7'], rfl⟩
    · skip
      refine j_iconst (v := 1) dX6_isOutside_10 (by decide) ?_
      refine j_goto (tgt := 15) dX6_isOutside_11 (by decide) ?_
      exact j_iret dX6_isOutside_15 ⟨by simp [xOut, jb, c2, c2', c7, c7'], rfl⟩

def xNW (μ : jMem) (w : Int32) : Bool := xOut w 0 (μ 9 0 - 1)
set_option maxRecDepth 20000 in
theorem t_nw {G : jG} {N : Nat} {κ : Nat → jK} {ρ : Nat → Nat → Option Nat} {μ : Nat → Nat → Int32} {ν : Nat → Nat → Int64} (hs : shC N κ ρ) {w : Int32} : MT G yX6_isNoWall cX6_isNoWall 2 (some .boolean) 1 0 0 [.ref 0, .int w] (N, κ, ρ, μ, ν) (some (.int (jb (xNW μ w)))) (N, κ, ρ, μ, ν) := by
  refine jMT (ini := false) my_X6_isNoWall (fun h => by cases h) (jRv_jb _) (Nat.le_of_ble_eq_true rfl) ?_
  show J G RX6 cX6_isNoWall 2 false 1 _ 0 0 (N, κ, ρ, μ, ν) 0 [some (.ref 0), some (.int w)] []
  refine j_iload_n dX6_isNoWall_0 rfl ?_
  refine j_iconst (v := 0) dX6_isNoWall_1 (by decide) ?_
  refine j_aload_n dX6_isNoWall_2 rfl ?_
  refine j_getr dX6_isNoWall_3 fl_X6_23 rfl (o_0 hs) (r_0_2 hs) ?_
  refine j_geti dX6_isNoWall_6 fl_X6_92 rfl (o_9 hs) ?_
  refine j_iconst (v := 1) dX6_isNoWall_9 (by decide) ?_
  refine j_isub dX6_isNoWall_10 ?_
  refine j_cS3r dX6_isNoWall_11 t_out ml_X6_142 my_X6_isOutside ms_X6_isOutside (by omega) (Nat.le_of_ble_eq_true rfl) (Nat.le_of_ble_eq_true rfl) ?_
  exact j_iret dX6_isNoWall_14 ⟨rfl, rfl⟩

def xNP (μ : jMem) (x y : Int32) : Bool := xNW μ x || xNW μ y || decide (x = y)
set_option maxRecDepth 20000 in
theorem t_np {G : jG} {N : Nat} {κ : Nat → jK} {ρ : Nat → Nat → Option Nat} {μ : Nat → Nat → Int32} {ν : Nat → Nat → Int64} (hs : shC N κ ρ) {x y : Int32} : MT G yX6_isNoPair cX6_isNoPair 3 (some .boolean) 2 0 0 [.ref 0, .int x, .int y] (N, κ, ρ, μ, ν) (some (.int (jb (xNP μ x y)))) (N, κ, ρ, μ, ν) := by
  refine jMT (ini := false) my_X6_isNoPair (fun h => by cases h) (jRv_jb _) (Nat.le_of_ble_eq_true rfl) ?_
  show J G RX6 cX6_isNoPair 3 false 2 _ 0 0 (N, κ, ρ, μ, ν) 0 [some (.ref 0), some (.int x), some (.int y)] []
  refine j_aload_n dX6_isNoPair_0 rfl ?_
  refine j_iload_n dX6_isNoPair_1 rfl ?_
  refine j_cV1r dX6_isNoPair_2 (t_nw hs) ml_X6_99 my_X6_isNoWall mi_X6_isNoWall (o_0 hs) rfl (by omega) (Nat.le_of_ble_eq_true rfl) (Nat.le_of_ble_eq_true rfl) ?_
  refine j_if_neB (tgt := 21) dX6_isNoPair_5 (by decide) (fun c5 => ?_) (fun c5 => ?_)
  · skip
    refine j_iconst (v := 1) dX6_isNoPair_21 (by decide) ?_
    refine j_goto (tgt := 26) dX6_isNoPair_22 (by decide) ?_
    exact j_iret dX6_isNoPair_26 ⟨by simp [xNP, jb, c5], rfl⟩
  · skip
    refine j_aload_n dX6_isNoPair_8 rfl ?_
    refine j_iload_n dX6_isNoPair_9 rfl ?_
    refine j_cV1r dX6_isNoPair_10 (t_nw hs) ml_X6_99 my_X6_isNoWall mi_X6_isNoWall (o_0 hs) rfl (by omega) (Nat.le_of_ble_eq_true rfl) (Nat.le_of_ble_eq_true rfl) ?_
    refine j_if_neB (tgt := 21) dX6_isNoPair_13 (by decide) (fun c13 => ?_) (fun c13 => ?_)
    · skip
      refine j_iconst (v := 1) dX6_isNoPair_21 (by decide) ?_
      refine j_goto (tgt := 26) dX6_isNoPair_22 (by decide) ?_
      exact j_iret dX6_isNoPair_26 ⟨by simp [xNP, jb, c5, c13], rfl⟩
    · skip
      refine j_iload_n dX6_isNoPair_16 rfl ?_
      refine j_iload_n dX6_isNoPair_17 rfl ?_
      refine j_icmp_ne (tgt := 25) dX6_isNoPair_18 (by decide) (fun c18 => ?_) (fun c18 => ?_)
      · skip
        refine j_iconst (v := 0) dX6_isNoPair_25 (by decide) ?_
        exact j_iret dX6_isNoPair_26 ⟨by simp [xNP, jb, c5, c13, c18], rfl⟩
      · skip
        refine j_iconst (v := 1) dX6_isNoPair_21 (by decide) ?_
        refine j_goto (tgt := 26) dX6_isNoPair_22 (by decide) ?_
        exact j_iret dX6_isNoPair_26 ⟨by simp [xNP, jb, c5, c13, eq_true c18], rfl⟩

def nEnd (μ : jMem) (c : Nat) : Bool := decide (0 < c ∧ μ 80 (c - 1) = 1)
set_option maxRecDepth 20000 in
theorem t_isEnded {G : jG} {N : Nat} {κ : Nat → jK} {ρ : Nat → Nat → Option Nat} {μ : Nat → Nat → Int32} {ν : Nat → Nat → Int64} (hs : shC N κ ρ) {c : Nat} (hc : μ 77 3 = nI c) (hc6 : c ≤ 6) : MT G yX0_isEnded cX0_isEnded 1 (some .boolean) 0 0 0 [.ref 77] (N, κ, ρ, μ, ν) (some (.int (jb (nEnd μ c)))) (N, κ, ρ, μ, ν) := by
  refine jMT (ini := false) my_X0_isEnded (fun h => by cases h) (jRv_jb _) (Nat.le_of_ble_eq_true rfl) ?_
  show J G RX0 cX0_isEnded 1 false 0 _ 0 0 (N, κ, ρ, μ, ν) 0 [some (.ref 77)] []
  refine j_aload_n dX0_isEnded_0 rfl ?_
  refine j_geti dX0_isEnded_1 fl_X0_21 rfl (o_77 hs) ?_
  refine k_if_le (tgt := 26) dX0_isEnded_4 (by decide) (fun c4 c4' => ?_) (fun c4 c4' => ?_)
  · skip
    refine j_iconst (v := 0) dX0_isEnded_26 (by decide) ?_
    exact j_iret dX0_isEnded_27 ⟨by have q0 : ¬ 0 < c := (fun q => absurd (by rw [← hc]; exact c4) (nI_nle q (by omega))); simp [nEnd, jb, q0], rfl⟩
  · skip
    refine j_aload_n dX0_isEnded_7 rfl ?_
    refine j_getr dX0_isEnded_8 fl_X0_18 rfl (o_77 hs) (r_77_2 hs) ?_
    refine j_aload_n dX0_isEnded_11 rfl ?_
    refine j_geti dX0_isEnded_12 fl_X0_21 rfl (o_77 hs) ?_
    refine j_iconst (v := 1) dX0_isEnded_15 (by decide) ?_
    refine j_isub dX0_isEnded_16 ?_
    refine j_iald (k := (c - 1)) dX0_isEnded_17 (a_80 hs) (by rw [hc]; exact nI_predS (nI_pos_of (by rw [← hc]; exact c4))) (by omega) ?_
    refine j_iconst (v := 1) dX0_isEnded_18 (by decide) ?_
    refine j_icmp_ne (tgt := 26) dX0_isEnded_19 (by decide) (fun c19 => ?_) (fun c19 => ?_)
    · skip
      refine j_iconst (v := 0) dX0_isEnded_26 (by decide) ?_
      exact j_iret dX0_isEnded_27 ⟨by have q0 : 0 < c := nI_pos_of (by rw [← hc]; exact c4); simp [nEnd, jb, q0, c19], rfl⟩
    · skip
      refine j_iconst (v := 1) dX0_isEnded_22 (by decide) ?_
      refine j_goto (tgt := 27) dX0_isEnded_23 (by decide) ?_
      exact j_iret dX0_isEnded_27 ⟨by have q0 : 0 < c := nI_pos_of (by rw [← hc]; exact c4); simp [nEnd, jb, q0, c19], rfl⟩

def nAdd (μ : jMem) (c : Nat) (n r f : Int32) : jMem :=
  let m := jup (jup (jup μ 78 c n) 79 c r) 80 c f
  jup m 77 3 (m 77 3 + 1)
set_option maxRecDepth 20000 in
theorem t_nadd {G : jG} {N : Nat} {κ : Nat → jK} {ρ : Nat → Nat → Option Nat} {μ : Nat → Nat → Int32} {ν : Nat → Nat → Int64} (hs : shC N κ ρ) {c : Nat} {n r f : Int32} (hc : μ 77 3 = nI c) (hc6 : c < 6) : MT G yX0_add cX0_add 4 none 0 0 0 [.ref 77, .int n, .int r, .int f] (N, κ, ρ, μ, ν) none (N, κ, ρ, nAdd μ c n r f, ν) := by
  refine jMT (ini := false) my_X0_add (fun h => by cases h) jRv_v (Nat.le_of_ble_eq_true rfl) ?_
  show J G RX0 cX0_add 4 false 0 _ 0 0 (N, κ, ρ, μ, ν) 0 [some (.ref 77), some (.int n), some (.int r), some (.int f)] []
  refine j_aload_n dX0_add_0 rfl ?_
  refine j_geti dX0_add_1 fl_X0_21 rfl (o_77 hs) ?_
  refine j_bipush (v := 6) dX0_add_4 (by decide) ?_
  refine k_icmp_lt (tgt := 10) dX0_add_6 (by decide) (fun c6 c6' => ?_) (fun c6 c6' => ?_)
  · skip
    refine j_aload_n dX0_add_10 rfl ?_
    refine j_getr dX0_add_11 fl_X0_9 rfl (o_77 hs) (r_77_0 hs) ?_
    refine j_aload_n dX0_add_14 rfl ?_
    refine j_geti dX0_add_15 fl_X0_21 rfl (o_77 hs) ?_
    refine j_iload_n dX0_add_18 rfl ?_
    refine j_iast (k := c) dX0_add_19 (a_78 hs) hc (by omega) ?_
    refine j_aload_n dX0_add_20 rfl ?_
    refine j_getr dX0_add_21 fl_X0_15 rfl (o_77 hs) (r_77_1 hs) ?_
    refine j_aload_n dX0_add_24 rfl ?_
    refine j_geti dX0_add_25 fl_X0_21 rfl (o_77 hs) ?_
    refine j_iload_n dX0_add_28 rfl ?_
    refine j_iast (k := c) dX0_add_29 (a_79 hs) (by simp [jup_at, hc]) (by omega) ?_
    refine j_aload_n dX0_add_30 rfl ?_
    refine j_getr dX0_add_31 fl_X0_18 rfl (o_77 hs) (r_77_2 hs) ?_
    refine j_aload_n dX0_add_34 rfl ?_
    refine j_geti dX0_add_35 fl_X0_21 rfl (o_77 hs) ?_
    refine j_iload_n dX0_add_38 rfl ?_
    refine j_iast (k := c) dX0_add_39 (a_80 hs) (by simp [jup_at, hc]) (by omega) ?_
    refine j_aload_n dX0_add_40 rfl ?_
    refine j_dup dX0_add_41 rfl ?_
    refine j_geti dX0_add_42 fl_X0_21 rfl (o_77 hs) ?_
    refine j_iconst (v := 1) dX0_add_45 (by decide) ?_
    refine j_iadd dX0_add_46 ?_
    refine j_puti dX0_add_47 fl_X0_21 rfl (o_77 hs) ?_
    exact j_vret dX0_add_50 ⟨rfl, rfl⟩
  · skip
    exact absurd (by rw [hc, jl6]; exact nI_lt hc6 (by decide)) c6

def nMax (x y : Int32) : Int32 := if x < y then y else x
def nCb (μ : jMem) : Nat → Nat → Int32 → Bool
  | 0, _, _ => true
  | n + 1, i, t => if jb (decide (t ≤ μ 78 i * (μ 79 i + 1))) = μ 80 i then nCb μ n (i + 1) (nMax (t - μ 78 i) 1) else false
set_option maxRecDepth 20000 in
theorem lp_cb {G : jG} {N : Nat} {κ : Nat → jK} {ρ : Nat → Nat → Option Nat} {ν : Nat → Nat → Int64} {Q : Option Value → jH → Prop} {d : Nat} (hd1 : 1 ≤ d) {μ : jMem} {t0 : Int32} (hs : shC N κ ρ) {c : Nat} (hc : μ 77 3 = nI c) (hc6 : c ≤ 6) : ∀ n i t x4, i + n = c → Q (some (.int (jb (nCb μ n i t)))) (N, κ, ρ, μ, ν) → J G RX0 cX0_couldBe 5 false d Q 0 0 (N, κ, ρ, μ, ν) 4 [some (.ref 77), some (.int t0), some (.int t), some (.int (nI i)), x4] []
  | 0, i, t, x4, hi, hq => by
    refine j_iload_n dX0_couldBe_4 rfl ?_
    refine j_aload_n dX0_couldBe_5 rfl ?_
    refine j_geti dX0_couldBe_6 fl_X0_21 rfl (o_77 hs) ?_
    refine k_icmp_ge (tgt := 70) dX0_couldBe_9 (by decide) (fun c9 c9' => ?_) (fun c9 c9' => ?_)
    · skip
      refine j_iconst (v := 1) dX0_couldBe_70 (by decide) ?_
      exact j_iret dX0_couldBe_71 hq
    · skip
      exact absurd (by rw [hc]; exact nI_le (by omega) (by omega)) c9
  | n + 1, i, t, x4, hi, hq => by
    rw [nCb] at hq
    refine j_iload_n dX0_couldBe_4 rfl ?_
    refine j_aload_n dX0_couldBe_5 rfl ?_
    refine j_geti dX0_couldBe_6 fl_X0_21 rfl (o_77 hs) ?_
    refine k_icmp_ge (tgt := 70) dX0_couldBe_9 (by decide) (fun c9 c9' => ?_) (fun c9 c9' => ?_)
    · skip
      exact absurd c9 (by rw [hc]; exact nI_ge (by omega) (by omega))
    · skip
      refine j_aload_n dX0_couldBe_12 rfl ?_
      refine j_getr dX0_couldBe_13 fl_X0_9 rfl (o_77 hs) (r_77_0 hs) ?_
      refine j_iload_n dX0_couldBe_16 rfl ?_
      refine j_iald (k := i) dX0_couldBe_17 (a_78 hs) rfl (by omega) ?_
      refine j_aload_n dX0_couldBe_18 rfl ?_
      refine j_getr dX0_couldBe_19 fl_X0_15 rfl (o_77 hs) (r_77_1 hs) ?_
      refine j_iload_n dX0_couldBe_22 rfl ?_
      refine j_iald (k := i) dX0_couldBe_23 (a_79 hs) rfl (by omega) ?_
      refine j_iconst (v := 1) dX0_couldBe_24 (by decide) ?_
      refine j_iadd dX0_couldBe_25 ?_
      refine j_imul dX0_couldBe_26 ?_
      refine j_iload_n dX0_couldBe_27 rfl ?_
      refine k_icmp_lt (tgt := 35) dX0_couldBe_28 (by decide) (fun c28 c28' => ?_) (fun c28 c28' => ?_)
      · skip
        refine j_iconst (v := 0) dX0_couldBe_35 (by decide) ?_
        refine j_istore_4 dX0_couldBe_36 rfl ?_
        refine j_iload dX0_couldBe_38 rfl ?_
        refine j_aload_n dX0_couldBe_40 rfl ?_
        refine j_getr dX0_couldBe_41 fl_X0_18 rfl (o_77 hs) (r_77_2 hs) ?_
        refine j_iload_n dX0_couldBe_44 rfl ?_
        refine j_iald (k := i) dX0_couldBe_45 (a_80 hs) rfl (by omega) ?_
        refine j_icmp_eq (tgt := 51) dX0_couldBe_46 (by decide) (fun c46 => ?_) (fun c46 => ?_)
        · skip
          (first | rw [if_pos (by simp [jb, c28, c28']; exact c46)] at hq | rw [if_pos (by simp [jb, c28']; exact c46)] at hq)
          refine j_iload_n dX0_couldBe_51 rfl ?_
          refine j_aload_n dX0_couldBe_52 rfl ?_
          refine j_getr dX0_couldBe_53 fl_X0_9 rfl (o_77 hs) (r_77_0 hs) ?_
          refine j_iload_n dX0_couldBe_56 rfl ?_
          refine j_iald (k := i) dX0_couldBe_57 (a_78 hs) rfl (by omega) ?_
          refine j_isub dX0_couldBe_58 ?_
          refine j_iconst (v := 1) dX0_couldBe_59 (by decide) ?_
          refine j_mmax dX0_couldBe_60 ml_X0_25 (by omega) (Nat.le_of_ble_eq_true rfl) ?_
          refine j_istore_2 dX0_couldBe_63 rfl ?_
          refine j_iinc_3 (v := nI (i + 1)) dX0_couldBe_64 (nI_add _ _) rfl ?_
          refine j_goto (tgt := 4) dX0_couldBe_67 (by decide) ?_
          exact lp_cb hd1 hs hc hc6 n (i + 1) _ _ (by omega) hq
        · skip
          (first | rw [if_neg (by simp [jb, c28, c28']; exact c46)] at hq | rw [if_neg (by simp [jb, c28']; exact c46)] at hq)
          refine j_iconst (v := 0) dX0_couldBe_49 (by decide) ?_
          exact j_iret dX0_couldBe_50 hq
      · skip
        refine j_iconst (v := 1) dX0_couldBe_31 (by decide) ?_
        refine j_goto (tgt := 36) dX0_couldBe_32 (by decide) ?_
        refine j_istore_4 dX0_couldBe_36 rfl ?_
        refine j_iload dX0_couldBe_38 rfl ?_
        refine j_aload_n dX0_couldBe_40 rfl ?_
        refine j_getr dX0_couldBe_41 fl_X0_18 rfl (o_77 hs) (r_77_2 hs) ?_
        refine j_iload_n dX0_couldBe_44 rfl ?_
        refine j_iald (k := i) dX0_couldBe_45 (a_80 hs) rfl (by omega) ?_
        refine j_icmp_eq (tgt := 51) dX0_couldBe_46 (by decide) (fun c46 => ?_) (fun c46 => ?_)
        · skip
          (first | rw [if_pos (by simp [jb, c28, c28']; exact c46)] at hq | rw [if_pos (by simp [jb, c28']; exact c46)] at hq)
          refine j_iload_n dX0_couldBe_51 rfl ?_
          refine j_aload_n dX0_couldBe_52 rfl ?_
          refine j_getr dX0_couldBe_53 fl_X0_9 rfl (o_77 hs) (r_77_0 hs) ?_
          refine j_iload_n dX0_couldBe_56 rfl ?_
          refine j_iald (k := i) dX0_couldBe_57 (a_78 hs) rfl (by omega) ?_
          refine j_isub dX0_couldBe_58 ?_
          refine j_iconst (v := 1) dX0_couldBe_59 (by decide) ?_
          refine j_mmax dX0_couldBe_60 ml_X0_25 (by omega) (Nat.le_of_ble_eq_true rfl) ?_
          refine j_istore_2 dX0_couldBe_63 rfl ?_
          refine j_iinc_3 (v := nI (i + 1)) dX0_couldBe_64 (nI_add _ _) rfl ?_
          refine j_goto (tgt := 4) dX0_couldBe_67 (by decide) ?_
          exact lp_cb hd1 hs hc hc6 n (i + 1) _ _ (by omega) hq
        · skip
          (first | rw [if_neg (by simp [jb, c28, c28']; exact c46)] at hq | rw [if_neg (by simp [jb, c28']; exact c46)] at hq)
          refine j_iconst (v := 0) dX0_couldBe_49 (by decide) ?_
          exact j_iret dX0_couldBe_50 hq

set_option maxRecDepth 20000 in
theorem t_couldBe {G : jG} {N : Nat} {κ : Nat → jK} {ρ : Nat → Nat → Option Nat} {μ : Nat → Nat → Int32} {ν : Nat → Nat → Int64} (hs : shC N κ ρ) {c : Nat} (hc : μ 77 3 = nI c) (hc6 : c ≤ 6) {t0 : Int32} : MT G yX0_couldBe cX0_couldBe 5 (some .boolean) 1 0 0 [.ref 77, .int t0] (N, κ, ρ, μ, ν) (some (.int (jb (nCb μ c 0 t0)))) (N, κ, ρ, μ, ν) := by
  refine jMT (ini := false) my_X0_couldBe (fun h => by cases h) (jRv_jb _) (Nat.le_of_ble_eq_true rfl) ?_
  show J G RX0 cX0_couldBe 5 false 1 _ 0 0 (N, κ, ρ, μ, ν) 0 [some (.ref 77), some (.int t0), none, none, none] []
  refine j_iload_n dX0_couldBe_0 rfl ?_
  refine j_istore_2 dX0_couldBe_1 rfl ?_
  refine j_iconst (v := 0) dX0_couldBe_2 (by decide) ?_
  refine j_istore_3 dX0_couldBe_3 rfl ?_
  exact lp_cb (by omega) hs hc hc6 c 0 t0 none (by omega) ⟨rfl, rfl⟩

def pPush (μ : jMem) (x b : Nat) : jMem :=
  let m := tCp μ (28 + 6 * x) b
  let m := jup m 26 1 (m 26 1 + 1 - (m 26 1 + 1) / 8 * 8)
  jup m 26 2 (if 8 < m 26 2 + 1 then 8 else m 26 2 + 1)
set_option maxRecDepth 20000 in
theorem t_push {G : jG} {N : Nat} {κ : Nat → jK} {ρ : Nat → Nat → Option Nat} {μ : Nat → Nat → Int32} {ν : Nat → Nat → Int64} (hs : shC N κ ρ) {x b : Nat} (hx : μ 26 1 = nI x) (hx8 : x < 8) (hb : tw b) : MT G yX2_push cX2_push 2 none 2 0 0 [.ref 26, .ref b] (N, κ, ρ, μ, ν) none (N, κ, ρ, pPush μ x b, ν) := by
  refine jMT (ini := false) my_X2_push (fun h => by cases h) jRv_v (Nat.le_of_ble_eq_true rfl) ?_
  show J G RX2 cX2_push 2 false 2 _ 0 0 (N, κ, ρ, μ, ν) 0 [some (.ref 26), some (.ref b)] []
  refine j_aload_n dX2_push_0 rfl ?_
  refine j_getr dX2_push_1 fl_X2_11 rfl (o_26 hs) (r_26_0 hs) ?_
  refine j_aload_n dX2_push_4 rfl ?_
  refine j_geti dX2_push_5 fl_X2_17 rfl (o_26 hs) ?_
  refine j_aald (k := x) dX2_push_8 (a_27 hs) hx hx8 (rp_27 hs hx8) ?_
  refine j_aload_n dX2_push_9 rfl ?_
  refine j_cV1v dX2_push_10 (t_copyFrom hs (tw_p hx8) hb) ml_X2_27 my_X5_copyFrom mi_X5_copyFrom (tO hs (tw_p hx8)) rfl (by omega) (Nat.le_of_ble_eq_true rfl) (Nat.le_of_ble_eq_true rfl) ?_
  refine j_aload_n dX2_push_13 rfl ?_
  refine j_aload_n dX2_push_14 rfl ?_
  refine j_geti dX2_push_15 fl_X2_17 rfl (o_26 hs) ?_
  refine j_iconst (v := 1) dX2_push_18 (by decide) ?_
  refine j_iadd dX2_push_19 ?_
  refine j_bipush (v := 8) dX2_push_20 (by decide) ?_
  refine j_irem dX2_push_22 (by decide) ?_
  refine j_puti dX2_push_23 fl_X2_17 rfl (o_26 hs) ?_
  refine j_aload_n dX2_push_26 rfl ?_
  refine j_aload_n dX2_push_27 rfl ?_
  refine j_geti dX2_push_28 fl_X2_21 rfl (o_26 hs) ?_
  refine j_iconst (v := 1) dX2_push_31 (by decide) ?_
  refine j_iadd dX2_push_32 ?_
  refine j_bipush (v := 8) dX2_push_33 (by decide) ?_
  refine j_mmin dX2_push_35 ml_X2_31 (by omega) (Nat.le_of_ble_eq_true rfl) ?_
  refine j_puti dX2_push_38 fl_X2_21 rfl (o_26 hs) ?_
  exact j_vret dX2_push_41 ⟨rfl, rfl⟩

def pPop (μ : jMem) (x b : Nat) : jMem :=
  let m := jup μ 26 1 (μ 26 1 + 8 - 1 - (μ 26 1 + 8 - 1) / 8 * 8)
  let m := jup m 26 2 (m 26 2 - 1)
  tCp m b (28 + 6 * ((x + 7) % 8))
theorem pop_ix {x : Nat} (hx : x < 8) : nI x + 8 - 1 - (nI x + 8 - 1) / 8 * 8 = nI ((x + 7) % 8) := by
  have : ∀ x, x < 8 → nI x + 8 - 1 - (nI x + 8 - 1) / 8 * 8 = nI ((x + 7) % 8) := by decide
  exact this x hx
set_option maxRecDepth 20000 in
theorem t_pop {G : jG} {N : Nat} {κ : Nat → jK} {ρ : Nat → Nat → Option Nat} {μ : Nat → Nat → Int32} {ν : Nat → Nat → Int64} (hs : shC N κ ρ) {x b : Nat} (hx : μ 26 1 = nI x) (hx8 : x < 8) (hb : tw b) : MT G yX2_pop cX2_pop 2 (some .boolean) 2 0 0 [.ref 26, .ref b] (N, κ, ρ, μ, ν) (some (.int (jb (decide (1 ≤ μ 26 2))))) (N, κ, ρ, (if 1 ≤ μ 26 2 then pPop μ x b else μ), ν) := by
  refine jMT (ini := false) my_X2_pop (fun h => by cases h) (jRv_jb _) (Nat.le_of_ble_eq_true rfl) ?_
  show J G RX2 cX2_pop 2 false 2 _ 0 0 (N, κ, ρ, μ, ν) 0 [some (.ref 26), some (.ref b)] []
  refine j_aload_n dX2_pop_0 rfl ?_
  refine j_geti dX2_pop_1 fl_X2_21 rfl (o_26 hs) ?_
  refine j_iconst (v := 1) dX2_pop_4 (by decide) ?_
  refine k_icmp_ge (tgt := 10) dX2_pop_5 (by decide) (fun c5 c5' => ?_) (fun c5 c5' => ?_)
  · skip
    have hk8 : (x + 7) % 8 < 8 := Nat.mod_lt _ (by decide)
    refine j_aload_n dX2_pop_10 rfl ?_
    refine j_aload_n dX2_pop_11 rfl ?_
    refine j_geti dX2_pop_12 fl_X2_17 rfl (o_26 hs) ?_
    refine j_bipush (v := 8) dX2_pop_15 (by decide) ?_
    refine j_iadd dX2_pop_17 ?_
    refine j_iconst (v := 1) dX2_pop_18 (by decide) ?_
    refine j_isub dX2_pop_19 ?_
    refine j_bipush (v := 8) dX2_pop_20 (by decide) ?_
    refine j_irem dX2_pop_22 (by decide) ?_
    refine j_puti dX2_pop_23 fl_X2_17 rfl (o_26 hs) ?_
    refine j_aload_n dX2_pop_26 rfl ?_
    refine j_dup dX2_pop_27 rfl ?_
    refine j_geti dX2_pop_28 fl_X2_21 rfl (o_26 hs) ?_
    refine j_iconst (v := 1) dX2_pop_31 (by decide) ?_
    refine j_isub dX2_pop_32 ?_
    refine j_puti dX2_pop_33 fl_X2_21 rfl (o_26 hs) ?_
    refine j_aload_n dX2_pop_36 rfl ?_
    refine j_aload_n dX2_pop_37 rfl ?_
    refine j_getr dX2_pop_38 fl_X2_11 rfl (o_26 hs) (r_26_0 hs) ?_
    refine j_aload_n dX2_pop_41 rfl ?_
    refine j_geti dX2_pop_42 fl_X2_17 rfl (o_26 hs) ?_
    refine j_aald (k := ((x + 7) % 8)) dX2_pop_45 (a_27 hs) (by rw [jup_oth2 (by decide), jup_self, hx]; exact pop_ix hx8) hk8 (rp_27 hs hk8) ?_
    refine j_cV1v dX2_pop_46 (t_copyFrom hs hb (tw_p hk8)) ml_X2_27 my_X5_copyFrom mi_X5_copyFrom (tO hs hb) rfl (by omega) (Nat.le_of_ble_eq_true rfl) (Nat.le_of_ble_eq_true rfl) ?_
    refine j_iconst (v := 1) dX2_pop_49 (by decide) ?_
    exact j_iret dX2_pop_50 ⟨by simp [jb, c5], by simp only [c5, reduceIte]; rfl⟩
  · skip
    refine j_iconst (v := 0) dX2_pop_8 (by decide) ?_
    exact j_iret dX2_pop_9 ⟨by simp [jb, c5, c5'], by simp only [c5, reduceIte, Bool.false_eq_true, Bool.true_eq_false, and_self, and_true, true_and, and_false, false_and, not_true_eq_false, not_false_eq_true, ne_eq, decide_true, decide_false, if_true, if_false, Bool.not_eq_true, Bool.not_eq_false]⟩

