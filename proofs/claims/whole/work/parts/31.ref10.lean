theorem rin_m1 {i : Int32} (h : rIn i.toInt64 (-1) 9 = true) (h0 : 0 ≤ i) : ∃ k, k ≤ 9 ∧ i = nI k := by
  obtain ⟨k, -, h2, e⟩ := rin_lh (x := i) (l := 0) (h := 9) (by decide) (by decide) (by
    simp only [rIn, decide_eq_true_eq] at h ⊢
    refine ⟨?_, h.2⟩
    rw [Int64.le_iff_toInt_le, Int32.toInt_toInt64, Int32.toInt_toInt64]
    rw [Int32.le_iff_toInt_le] at h0
    exact h0)
  exact ⟨k, h2, e⟩
set_option maxRecDepth 20000 in
theorem r_order {G : jG} {N : Nat} {κ : Nat → jK} {ρ : Nat → Nat → Option Nat} {μ : Nat → Nat → Int32} {ν : Nat → Nat → Int64} (hr : shR N κ ρ) {p : Nat} (hp : μ 165 3 = nI p) (hp5 : p ≤ 5) {i : Int32} {zv : Int32} {zm : jMem} (zhb : rOrder μ i p = some (zv, zm)) : MT G yX7_order cX7_order 3 (some .int) 6 0 0 [.ref 165, .int i] (N, κ, ρ, μ, ν) (some (.int zv)) (N, κ, ρ, zm, ν) := by
  refine jMT (ini := false) my_X7_order (fun h => by cases h) (jRv_i _) (Nat.le_of_ble_eq_true rfl) ?_
  show J G RX7 cX7_order 3 false 6 _ 0 0 (N, κ, ρ, μ, ν) 0 [some (.ref 165), some (.int i), none] []
  generalize hQe : (fun (v' : Option Value) (h'' : jH) => v' = (some (.int zv)) ∧ h'' = (N, κ, ρ, zm, ν)) = Q
  have hQ : Q (some (.int zv)) (N, κ, ρ, zm, ν) := by rw [← hQe]; exact ⟨rfl, rfl⟩
  clear hQe
  refine j_iload_n dX7_order_0 rfl ?_
  refine j_i2l dX7_order_1 ?_
  refine j_ldc2 dX7_order_2 ct_X7_196 ?_
  refine j_ldc2 dX7_order_5 ct_X7_163 ?_
  refine j_cS3r dX7_order_8 r_in ml_X7_72 my_X7_in ms_X7_in (by omega) (Nat.le_of_ble_eq_true rfl) (Nat.le_of_ble_eq_true rfl) ?_
  refine j_if_neB (tgt := 16) dX7_order_11 (by decide) (fun c11 => ?_) (fun c11 => ?_)
  · skip
    rw [rOrder, if_pos c11] at zhb
    obtain ⟨⟨zw, zn⟩, zq, ze⟩ := Option.map_eq_some_iff.mp zhb
    cases ze
    refine j_aload_n dX7_order_16 rfl ?_
    refine j_cV0r dX7_order_17 (r_bo hr hp hp5 zq) ml_X7_198 my_X7_bestOrder mi_X7_bestOrder (o_165 hr) rfl (by omega) (Nat.le_of_ble_eq_true rfl) (Nat.le_of_ble_eq_true rfl) ?_
    refine j_istore_2 dX7_order_20 rfl ?_
    refine j_iload_n dX7_order_21 rfl ?_
    refine j_ldc dX7_order_22 ct_X7_192 ?_
    refine k_icmp_lt (tgt := 30) dX7_order_24 (by decide) (fun c24 c24' => ?_) (fun c24 c24' => ?_)
    · skip
      refine j_iload_n dX7_order_30 rfl ?_
      refine k_if_ge (tgt := 38) dX7_order_31 (by decide) (fun c31 c31' => ?_) (fun c31 c31' => ?_)
      · skip
        obtain ⟨k, hk9, rfl⟩ := rin_m1 c11 c31
        have ek : (nI k).toNatClampNeg = k := nI_clamp (by omega)
        refine j_iload_n dX7_order_38 rfl ?_
        refine j_aload_n dX7_order_39 rfl ?_
        refine j_geti dX7_order_40 fl_X7_193 rfl (o_165 hr) ?_
        refine k_icmp_ge (tgt := 55) dX7_order_43 (by decide) (fun c43 c43' => ?_) (fun c43 c43' => ?_)
        · skip
          refine j_bipush (v := (-4)) dX7_order_55 (by decide) ?_
          exact j_iret dX7_order_57 (by simpa only [c24, c24', c31, c31', c43, c43', ek, reduceIte, Bool.false_eq_true, Bool.true_eq_false, and_self, and_true, true_and, and_false, false_and, not_true_eq_false, not_false_eq_true, ne_eq, decide_true, decide_false, if_true, if_false, Bool.not_eq_true, Bool.not_eq_false] using hQ)
        · skip
          refine j_aload_n dX7_order_46 rfl ?_
          refine j_getr dX7_order_47 fl_X7_52 rfl (o_165 hr) (r_165_23 hr) ?_
          refine j_iload_n dX7_order_50 rfl ?_
          refine j_iald (k := k) dX7_order_51 (a_180 hr) rfl (by omega) ?_
          refine j_goto (tgt := 57) dX7_order_52 (by decide) ?_
          exact j_iret dX7_order_57 (by simpa only [c24, c24', c31, c31', c43, c43', ek, reduceIte, Bool.false_eq_true, Bool.true_eq_false, and_self, and_true, true_and, and_false, false_and, not_true_eq_false, not_false_eq_true, ne_eq, decide_true, decide_false, if_true, if_false, Bool.not_eq_true, Bool.not_eq_false] using hQ)
      · skip
        refine j_iload_n dX7_order_34 rfl ?_
        refine j_goto (tgt := 57) dX7_order_35 (by decide) ?_
        exact j_iret dX7_order_57 (by simpa only [c24, c24', c31, c31', reduceIte, Bool.false_eq_true, Bool.true_eq_false, and_self, and_true, true_and, and_false, false_and, not_true_eq_false, not_false_eq_true, ne_eq, decide_true, decide_false, if_true, if_false, Bool.not_eq_true, Bool.not_eq_false] using hQ)
    · skip
      refine j_bipush (v := (-4)) dX7_order_27 (by decide) ?_
      exact j_iret dX7_order_29 (by simpa only [c24, c24', reduceIte, Bool.false_eq_true, Bool.true_eq_false, and_self, and_true, true_and, and_false, false_and, not_true_eq_false, not_false_eq_true, ne_eq, decide_true, decide_false, if_true, if_false, Bool.not_eq_true, Bool.not_eq_false] using hQ)
  · skip
    rw [rOrder, if_neg (by rw [c11]; decide)] at zhb
    cases zhb
    refine j_iconst (v := (-1)) dX7_order_14 (by decide) ?_
    exact j_iret dX7_order_15 hQ

def rNtM (m : jMem) (n : Nat) (a b c : Int32) : jMem :=
  let m := jup (jup (jup m 170 n a) 171 n b) 172 n c
  jup m 165 7 (m 165 7 + 1)
def rNote (m : jMem) (a b c : Int32) : Int32 × jMem :=
  if rIn a.toInt64 1 9 = true ∧ rIn b.toInt64 0 7 = true ∧ rIn c.toInt64 0 1 = true then (if m 165 7 = 6 then (-3, m) else if 0 < m 165 7 ∧ m 172 ((m 165 7).toNatClampNeg - 1) = 1 then (-2, m) else (rNtM m (m 165 7).toNatClampNeg a b c 165 7, rNtM m (m 165 7).toNatClampNeg a b c)) else (-1, m)
theorem nn6 {m : Int32} {n : Nat} (e : m = nI n) (h : ¬ m = 6) (hn : n ≤ 6) : n < 6 := by
  rcases Nat.lt_or_ge n 6 with q | q
  · exact q
  · exact absurd (by rw [e, show n = 6 by omega]; rfl) h
set_option maxRecDepth 20000 in
theorem r_note {G : jG} {N : Nat} {κ : Nat → jK} {ρ : Nat → Nat → Option Nat} {μ : Nat → Nat → Int32} {ν : Nat → Nat → Int64} (hr : shR N κ ρ) {n7 : Nat} (hn7 : μ 165 7 = nI n7) (hn6 : n7 ≤ 6) {a b c : Int32} : MT G yX7_note cX7_note 4 (some .int) 2 0 0 [.ref 165, .int a, .int b, .int c] (N, κ, ρ, μ, ν) (some (.int (rNote μ a b c).1)) (N, κ, ρ, (rNote μ a b c).2, ν) := by
  refine jMT (ini := false) my_X7_note (fun h => by cases h) (jRv_i _) (Nat.le_of_ble_eq_true rfl) ?_
  show J G RX7 cX7_note 4 false 2 _ 0 0 (N, κ, ρ, μ, ν) 0 [some (.ref 165), some (.int a), some (.int b), some (.int c)] []
  generalize hQe : (fun (v' : Option Value) (h'' : jH) => v' = (some (.int (rNote μ a b c).1)) ∧ h'' = (N, κ, ρ, (rNote μ a b c).2, ν)) = Q
  have hQ : Q (some (.int (rNote μ a b c).1)) (N, κ, ρ, (rNote μ a b c).2, ν) := by rw [← hQe]; exact ⟨rfl, rfl⟩
  clear hQe
  refine j_iload_n dX7_note_0 rfl ?_
  refine j_i2l dX7_note_1 ?_
  refine j_lconst (v := 1) dX7_note_2 (by decide) ?_
  refine j_ldc2 dX7_note_3 ct_X7_163 ?_
  refine j_cS3r dX7_note_6 r_in ml_X7_72 my_X7_in ms_X7_in (by omega) (Nat.le_of_ble_eq_true rfl) (Nat.le_of_ble_eq_true rfl) ?_
  refine j_if_eqB (tgt := 34) dX7_note_9 (by decide) (fun c9 => ?_) (fun c9 => ?_)
  · skip
    refine j_iconst (v := (-1)) dX7_note_34 (by decide) ?_
    exact j_iret dX7_note_35 (by simpa only [rNote, rNtM, c9, reduceIte, Bool.false_eq_true, Bool.true_eq_false, and_self, and_true, true_and, and_false, false_and, not_true_eq_false, not_false_eq_true, ne_eq, decide_true, decide_false, if_true, if_false, Bool.not_eq_true, Bool.not_eq_false] using hQ)
  · skip
    refine j_iload_n dX7_note_12 rfl ?_
    refine j_i2l dX7_note_13 ?_
    refine j_lconst (v := 0) dX7_note_14 (by decide) ?_
    refine j_ldc2 dX7_note_15 ct_X7_136 ?_
    refine j_cS3r dX7_note_18 r_in ml_X7_72 my_X7_in ms_X7_in (by omega) (Nat.le_of_ble_eq_true rfl) (Nat.le_of_ble_eq_true rfl) ?_
    refine j_if_eqB (tgt := 34) dX7_note_21 (by decide) (fun c21 => ?_) (fun c21 => ?_)
    · skip
      refine j_iconst (v := (-1)) dX7_note_34 (by decide) ?_
      exact j_iret dX7_note_35 (by simpa only [rNote, rNtM, c9, c21, reduceIte, Bool.false_eq_true, Bool.true_eq_false, and_self, and_true, true_and, and_false, false_and, not_true_eq_false, not_false_eq_true, ne_eq, decide_true, decide_false, if_true, if_false, Bool.not_eq_true, Bool.not_eq_false] using hQ)
    · skip
      refine j_iload_n dX7_note_24 rfl ?_
      refine j_i2l dX7_note_25 ?_
      refine j_lconst (v := 0) dX7_note_26 (by decide) ?_
      refine j_lconst (v := 1) dX7_note_27 (by decide) ?_
      refine j_cS3r dX7_note_28 r_in ml_X7_72 my_X7_in ms_X7_in (by omega) (Nat.le_of_ble_eq_true rfl) (Nat.le_of_ble_eq_true rfl) ?_
      refine j_if_neB (tgt := 36) dX7_note_31 (by decide) (fun c31 => ?_) (fun c31 => ?_)
      · skip
        refine j_aload_n dX7_note_36 rfl ?_
        refine j_geti dX7_note_37 fl_X7_85 rfl (o_165 hr) ?_
        refine j_bipush (v := 6) dX7_note_40 (by decide) ?_
        refine j_icmp_ne (tgt := 48) dX7_note_42 (by decide) (fun c42 => ?_) (fun c42 => ?_)
        · skip
          have en6 := nn6 hn7 c42 hn6
          have en : (μ 165 7).toNatClampNeg = n7 := by rw [hn7]; exact nI_clamp (by omega)
          refine j_aload_n dX7_note_48 rfl ?_
          refine j_geti dX7_note_49 fl_X7_85 rfl (o_165 hr) ?_
          refine k_if_le (tgt := 73) dX7_note_52 (by decide) (fun c52 c52' => ?_) (fun c52 c52' => ?_)
          · skip
            refine j_aload_n dX7_note_73 rfl ?_
            refine j_getr dX7_note_74 fl_X7_22 rfl (o_165 hr) (r_165_8 hr) ?_
            refine j_aload_n dX7_note_77 rfl ?_
            refine j_geti dX7_note_78 fl_X7_85 rfl (o_165 hr) ?_
            refine j_topi hn7 ?_
            refine j_iload_n dX7_note_81 rfl ?_
            refine j_iast (k := n7) dX7_note_82 (a_170 hr) rfl (by omega) ?_
            refine j_aload_n dX7_note_83 rfl ?_
            refine j_getr dX7_note_84 fl_X7_25 rfl (o_165 hr) (r_165_9 hr) ?_
            refine j_aload_n dX7_note_87 rfl ?_
            refine j_geti dX7_note_88 fl_X7_85 rfl (o_165 hr) ?_
            refine j_topi (w := nI n7) (by rw [jup_oth (by decide)]; exact hn7) ?_
            refine j_iload_n dX7_note_91 rfl ?_
            refine j_iast (k := n7) dX7_note_92 (a_171 hr) rfl (by omega) ?_
            refine j_aload_n dX7_note_93 rfl ?_
            refine j_getr dX7_note_94 fl_X7_28 rfl (o_165 hr) (r_165_10 hr) ?_
            refine j_aload_n dX7_note_97 rfl ?_
            refine j_geti dX7_note_98 fl_X7_85 rfl (o_165 hr) ?_
            refine j_topi (w := nI n7) (by rw [jup_oth (by decide), jup_oth (by decide)]; exact hn7) ?_
            refine j_iload_n dX7_note_101 rfl ?_
            refine j_iast (k := n7) dX7_note_102 (a_172 hr) rfl (by omega) ?_
            refine j_aload_n dX7_note_103 rfl ?_
            refine j_dup dX7_note_104 rfl ?_
            refine j_geti dX7_note_105 fl_X7_85 rfl (o_165 hr) ?_
            refine j_iconst (v := 1) dX7_note_108 (by decide) ?_
            refine j_iadd dX7_note_109 ?_
            refine j_puti dX7_note_110 fl_X7_85 rfl (o_165 hr) ?_
            refine j_aload_n dX7_note_113 rfl ?_
            refine j_geti dX7_note_114 fl_X7_85 rfl (o_165 hr) ?_
            exact j_iret dX7_note_117 (by simpa only [rNote, rNtM, c9, c21, c31, c42, en, c52, c52', reduceIte, Bool.false_eq_true, Bool.true_eq_false, and_self, and_true, true_and, and_false, false_and, not_true_eq_false, not_false_eq_true, ne_eq, decide_true, decide_false, if_true, if_false, Bool.not_eq_true, Bool.not_eq_false] using hQ)
          · skip
            refine j_aload_n dX7_note_55 rfl ?_
            refine j_getr dX7_note_56 fl_X7_28 rfl (o_165 hr) (r_165_10 hr) ?_
            refine j_aload_n dX7_note_59 rfl ?_
            refine j_geti dX7_note_60 fl_X7_85 rfl (o_165 hr) ?_
            refine j_topi hn7 ?_
            refine j_iconst (v := 1) dX7_note_63 (by decide) ?_
            have n0 : 0 < n7 := Nat.pos_of_ne_zero (fun z => absurd c52' (by rw [hn7, z]; decide))
            refine j_isub dX7_note_64 ?_
            refine j_topi (w := nI (n7 - 1)) (nI_predS n0) ?_
            refine j_iald (k := (n7 - 1)) dX7_note_65 (a_172 hr) rfl (by omega) ?_
            refine j_iconst (v := 1) dX7_note_66 (by decide) ?_
            refine j_icmp_ne (tgt := 73) dX7_note_67 (by decide) (fun c67 => ?_) (fun c67 => ?_)
            · skip
              refine j_aload_n dX7_note_73 rfl ?_
              refine j_getr dX7_note_74 fl_X7_22 rfl (o_165 hr) (r_165_8 hr) ?_
              refine j_aload_n dX7_note_77 rfl ?_
              refine j_geti dX7_note_78 fl_X7_85 rfl (o_165 hr) ?_
              refine j_topi hn7 ?_
              refine j_iload_n dX7_note_81 rfl ?_
              refine j_iast (k := n7) dX7_note_82 (a_170 hr) rfl (by omega) ?_
              refine j_aload_n dX7_note_83 rfl ?_
              refine j_getr dX7_note_84 fl_X7_25 rfl (o_165 hr) (r_165_9 hr) ?_
              refine j_aload_n dX7_note_87 rfl ?_
              refine j_geti dX7_note_88 fl_X7_85 rfl (o_165 hr) ?_
              refine j_topi (w := nI n7) (by rw [jup_oth (by decide)]; exact hn7) ?_
              refine j_iload_n dX7_note_91 rfl ?_
              refine j_iast (k := n7) dX7_note_92 (a_171 hr) rfl (by omega) ?_
              refine j_aload_n dX7_note_93 rfl ?_
              refine j_getr dX7_note_94 fl_X7_28 rfl (o_165 hr) (r_165_10 hr) ?_
              refine j_aload_n dX7_note_97 rfl ?_
              refine j_geti dX7_note_98 fl_X7_85 rfl (o_165 hr) ?_
              refine j_topi (w := nI n7) (by rw [jup_oth (by decide), jup_oth (by decide)]; exact hn7) ?_
              refine j_iload_n dX7_note_101 rfl ?_
              refine j_iast (k := n7) dX7_note_102 (a_172 hr) rfl (by omega) ?_
              refine j_aload_n dX7_note_103 rfl ?_
              refine j_dup dX7_note_104 rfl ?_
              refine j_geti dX7_note_105 fl_X7_85 rfl (o_165 hr) ?_
              refine j_iconst (v := 1) dX7_note_108 (by decide) ?_
              refine j_iadd dX7_note_109 ?_
              refine j_puti dX7_note_110 fl_X7_85 rfl (o_165 hr) ?_
              refine j_aload_n dX7_note_113 rfl ?_
              refine j_geti dX7_note_114 fl_X7_85 rfl (o_165 hr) ?_
              exact j_iret dX7_note_117 (by simpa only [rNote, rNtM, c9, c21, c31, c42, en, c52, c52', c67, reduceIte, Bool.false_eq_true, Bool.true_eq_false, and_self, and_true, true_and, and_false, false_and, not_true_eq_false, not_false_eq_true, ne_eq, decide_true, decide_false, if_true, if_false, Bool.not_eq_true, Bool.not_eq_false] using hQ)
            · skip
              refine j_bipush (v := (-2)) dX7_note_70 (by decide) ?_
              exact j_iret dX7_note_72 (by simpa only [rNote, rNtM, c9, c21, c31, c42, en, c52, c52', eq_true c67, reduceIte, Bool.false_eq_true, Bool.true_eq_false, and_self, and_true, true_and, and_false, false_and, not_true_eq_false, not_false_eq_true, ne_eq, decide_true, decide_false, if_true, if_false, Bool.not_eq_true, Bool.not_eq_false] using hQ)
        · skip
          refine j_bipush (v := (-3)) dX7_note_45 (by decide) ?_
          exact j_iret dX7_note_47 (by simpa only [rNote, rNtM, c9, c21, c31, eq_true c42, reduceIte, Bool.false_eq_true, Bool.true_eq_false, and_self, and_true, true_and, and_false, false_and, not_true_eq_false, not_false_eq_true, ne_eq, decide_true, decide_false, if_true, if_false, Bool.not_eq_true, Bool.not_eq_false] using hQ)
      · skip
        refine j_iconst (v := (-1)) dX7_note_34 (by decide) ?_
        exact j_iret dX7_note_35 (by simpa only [rNote, rNtM, c9, c21, c31, reduceIte, Bool.false_eq_true, Bool.true_eq_false, and_self, and_true, true_and, and_false, false_and, not_true_eq_false, not_false_eq_true, ne_eq, decide_true, decide_false, if_true, if_false, Bool.not_eq_true, Bool.not_eq_false] using hQ)

def rForget (m : jMem) : Int32 × jMem := (m 165 7, jup m 165 7 0)
set_option maxRecDepth 20000 in
theorem r_forget {G : jG} {N : Nat} {κ : Nat → jK} {ρ : Nat → Nat → Option Nat} {μ : Nat → Nat → Int32} {ν : Nat → Nat → Int64} (hr : shR N κ ρ) : MT G yX7_forget cX7_forget 2 (some .int) 0 0 0 [.ref 165] (N, κ, ρ, μ, ν) (some (.int (rForget μ).1)) (N, κ, ρ, (rForget μ).2, ν) := by
  refine jMT (ini := false) my_X7_forget (fun h => by cases h) (jRv_i _) (Nat.le_of_ble_eq_true rfl) ?_
  show J G RX7 cX7_forget 2 false 0 _ 0 0 (N, κ, ρ, μ, ν) 0 [some (.ref 165), none] []
  generalize hQe : (fun (v' : Option Value) (h'' : jH) => v' = (some (.int (rForget μ).1)) ∧ h'' = (N, κ, ρ, (rForget μ).2, ν)) = Q
  have hQ : Q (some (.int (rForget μ).1)) (N, κ, ρ, (rForget μ).2, ν) := by rw [← hQe]; exact ⟨rfl, rfl⟩
  clear hQe
  refine j_aload_n dX7_forget_0 rfl ?_
  refine j_geti dX7_forget_1 fl_X7_85 rfl (o_165 hr) ?_
  refine j_istore_1 dX7_forget_4 rfl ?_
  refine j_aload_n dX7_forget_5 rfl ?_
  refine j_iconst (v := 0) dX7_forget_6 (by decide) ?_
  refine j_puti dX7_forget_7 fl_X7_85 rfl (o_165 hr) ?_
  refine j_iload_n dX7_forget_10 rfl ?_
  exact j_iret dX7_forget_11 (by simpa only [rForget, reduceIte, Bool.false_eq_true, Bool.true_eq_false, and_self, and_true, true_and, and_false, false_and, not_true_eq_false, not_false_eq_true, ne_eq, decide_true, decide_false, if_true, if_false, Bool.not_eq_true, Bool.not_eq_false] using hQ)

def rKeep (m : jMem) (q : Nat) : Int32 × jMem := if m 165 2 = 2 then (-3, m) else (jup (rCopy m 0 (104 + 52 * q)) 165 2 (nI (q + 1)) 165 2, jup (rCopy m 0 (104 + 52 * q)) 165 2 (nI (q + 1)))
def rBackM (m : jMem) (q : Nat) : jMem := jup (rCopy (jup m 165 2 (nI (q - 1))) (104 + 52 * (q - 1)) 0) 165 1 0
def rBack (m : jMem) (q : Nat) : Int32 × jMem := if m 165 2 = 0 then (-2, m) else (rBackM m q 165 2, rBackM m q)
theorem nn2 {m : Int32} {n : Nat} (e : m = nI n) (h : ¬ m = 2) (hn : n ≤ 2) : n < 2 := by
  rcases Nat.lt_or_ge n 2 with q | q
  · exact q
  · exact absurd (by rw [e, show n = 2 by omega]; rfl) h
set_option maxRecDepth 20000 in
theorem r_keep {G : jG} {N : Nat} {κ : Nat → jK} {ρ : Nat → Nat → Option Nat} {μ : Nat → Nat → Int32} {ν : Nat → Nat → Int64} (hr : shR N κ ρ) {q : Nat} (hq : μ 165 2 = nI q) (hq2 : q ≤ 2) : MT G yX7_keep cX7_keep 1 (some .int) 1 0 0 [.ref 165] (N, κ, ρ, μ, ν) (some (.int (rKeep μ q).1)) (N, κ, ρ, (rKeep μ q).2, ν) := by
  refine jMT (ini := false) my_X7_keep (fun h => by cases h) (jRv_i _) (Nat.le_of_ble_eq_true rfl) ?_
  show J G RX7 cX7_keep 1 false 1 _ 0 0 (N, κ, ρ, μ, ν) 0 [some (.ref 165)] []
  generalize hQe : (fun (v' : Option Value) (h'' : jH) => v' = (some (.int (rKeep μ q).1)) ∧ h'' = (N, κ, ρ, (rKeep μ q).2, ν)) = Q
  have hQ : Q (some (.int (rKeep μ q).1)) (N, κ, ρ, (rKeep μ q).2, ν) := by rw [← hQe]; exact ⟨rfl, rfl⟩
  clear hQe
  refine j_aload_n dX7_keep_0 rfl ?_
  refine j_geti dX7_keep_1 fl_X7_82 rfl (o_165 hr) ?_
  refine j_iconst (v := 2) dX7_keep_4 (by decide) ?_
  refine j_icmp_ne (tgt := 11) dX7_keep_5 (by decide) (fun c5 => ?_) (fun c5 => ?_)
  · skip
    have eq2 := nn2 hq c5 hq2
    refine j_aload_n dX7_keep_11 rfl ?_
    refine j_iconst (v := 0) dX7_keep_12 (by decide) ?_
    refine j_bipush (v := 104) dX7_keep_13 (by decide) ?_
    refine j_bipush (v := 52) dX7_keep_15 (by decide) ?_
    refine j_aload_n dX7_keep_17 rfl ?_
    refine j_geti dX7_keep_18 fl_X7_82 rfl (o_165 hr) ?_
    refine j_topi hq ?_
    refine j_imul dX7_keep_21 ?_
    refine j_topi (w := nI (52 * q)) (by rw [show (52 : Int32) = nI 52 from rfl, pk_mul]) ?_
    refine j_iadd dX7_keep_22 ?_
    refine j_topi (w := nI (104 + 52 * q)) (by rw [show (104 : Int32) = nI 104 from rfl, nI_add]) ?_
    refine j_cV2v dX7_keep_23 (r_copy (f := 0) (t := (104 + 52 * q)) hr (by omega) (by omega)) ml_X7_153 my_X7_copy mi_X7_copy (o_165 hr) rfl (by omega) (Nat.le_of_ble_eq_true rfl) (Nat.le_of_ble_eq_true rfl) ?_
    refine j_aload_n dX7_keep_26 rfl ?_
    refine j_dup dX7_keep_27 rfl ?_
    refine j_geti dX7_keep_28 fl_X7_82 rfl (o_165 hr) ?_
    refine j_iconst (v := 1) dX7_keep_31 (by decide) ?_
    refine j_iadd dX7_keep_32 ?_
    refine j_topi (w := nI (q + 1)) (by rw [rCopy_lo _ _ _ (by decide), hq, nI_1]) ?_
    refine j_puti dX7_keep_33 fl_X7_82 rfl (o_165 hr) ?_
    refine j_aload_n dX7_keep_36 rfl ?_
    refine j_geti dX7_keep_37 fl_X7_82 rfl (o_165 hr) ?_
    exact j_iret dX7_keep_40 (by simpa only [rKeep, c5, reduceIte, Bool.false_eq_true, Bool.true_eq_false, and_self, and_true, true_and, and_false, false_and, not_true_eq_false, not_false_eq_true, ne_eq, decide_true, decide_false, if_true, if_false, Bool.not_eq_true, Bool.not_eq_false] using hQ)
  · skip
    refine j_bipush (v := (-3)) dX7_keep_8 (by decide) ?_
    exact j_iret dX7_keep_10 (by simpa only [rKeep, eq_true c5, reduceIte, Bool.false_eq_true, Bool.true_eq_false, and_self, and_true, true_and, and_false, false_and, not_true_eq_false, not_false_eq_true, ne_eq, decide_true, decide_false, if_true, if_false, Bool.not_eq_true, Bool.not_eq_false] using hQ)

set_option maxRecDepth 20000 in
theorem r_back {G : jG} {N : Nat} {κ : Nat → jK} {ρ : Nat → Nat → Option Nat} {μ : Nat → Nat → Int32} {ν : Nat → Nat → Int64} (hr : shR N κ ρ) {q : Nat} (hq : μ 165 2 = nI q) (hq2 : q ≤ 2) : MT G yX7_back cX7_back 1 (some .int) 1 0 0 [.ref 165] (N, κ, ρ, μ, ν) (some (.int (rBack μ q).1)) (N, κ, ρ, (rBack μ q).2, ν) := by
  refine jMT (ini := false) my_X7_back (fun h => by cases h) (jRv_i _) (Nat.le_of_ble_eq_true rfl) ?_
  show J G RX7 cX7_back 1 false 1 _ 0 0 (N, κ, ρ, μ, ν) 0 [some (.ref 165)] []
  generalize hQe : (fun (v' : Option Value) (h'' : jH) => v' = (some (.int (rBack μ q).1)) ∧ h'' = (N, κ, ρ, (rBack μ q).2, ν)) = Q
  have hQ : Q (some (.int (rBack μ q).1)) (N, κ, ρ, (rBack μ q).2, ν) := by rw [← hQe]; exact ⟨rfl, rfl⟩
  clear hQe
  refine j_aload_n dX7_back_0 rfl ?_
  refine j_geti dX7_back_1 fl_X7_82 rfl (o_165 hr) ?_
  refine j_if_ne (tgt := 10) dX7_back_4 (by decide) (fun c4 => ?_) (fun c4 => ?_)
  · skip
    have eu : 0 < q := Nat.pos_of_ne_zero (fun z => c4 (by rw [hq, z]; rfl))
    refine j_aload_n dX7_back_10 rfl ?_
    refine j_dup dX7_back_11 rfl ?_
    refine j_geti dX7_back_12 fl_X7_82 rfl (o_165 hr) ?_
    refine j_iconst (v := 1) dX7_back_15 (by decide) ?_
    refine j_isub dX7_back_16 ?_
    refine j_topi (w := nI (q - 1)) (by rw [hq]; exact nI_predS eu) ?_
    refine j_puti dX7_back_17 fl_X7_82 rfl (o_165 hr) ?_
    refine j_aload_n dX7_back_20 rfl ?_
    refine j_bipush (v := 104) dX7_back_21 (by decide) ?_
    refine j_bipush (v := 52) dX7_back_23 (by decide) ?_
    refine j_aload_n dX7_back_25 rfl ?_
    refine j_geti dX7_back_26 fl_X7_82 rfl (o_165 hr) ?_
    refine j_topi (w := nI (q - 1)) (jup_self _ _ _ _) ?_
    refine j_imul dX7_back_29 ?_
    refine j_topi (w := nI (52 * (q - 1))) (by rw [show (52 : Int32) = nI 52 from rfl, pk_mul]) ?_
    refine j_iadd dX7_back_30 ?_
    refine j_topi (w := nI (104 + 52 * (q - 1))) (by rw [show (104 : Int32) = nI 104 from rfl, nI_add]) ?_
    refine j_iconst (v := 0) dX7_back_31 (by decide) ?_
    refine j_cV2v dX7_back_32 (r_copy (f := (104 + 52 * (q - 1))) (t := 0) hr (by omega) (by omega)) ml_X7_153 my_X7_copy mi_X7_copy (o_165 hr) rfl (by omega) (Nat.le_of_ble_eq_true rfl) (Nat.le_of_ble_eq_true rfl) ?_
    refine j_aload_n dX7_back_35 rfl ?_
    refine j_iconst (v := 0) dX7_back_36 (by decide) ?_
    refine j_puti dX7_back_37 fl_X7_79 rfl (o_165 hr) ?_
    refine j_aload_n dX7_back_40 rfl ?_
    refine j_geti dX7_back_41 fl_X7_82 rfl (o_165 hr) ?_
    exact j_iret dX7_back_44 (by simpa only [rBack, rBackM, c4, reduceIte, Bool.false_eq_true, Bool.true_eq_false, and_self, and_true, true_and, and_false, false_and, not_true_eq_false, not_false_eq_true, ne_eq, decide_true, decide_false, if_true, if_false, Bool.not_eq_true, Bool.not_eq_false] using hQ)
  · skip
    refine j_bipush (v := (-2)) dX7_back_7 (by decide) ?_
    exact j_iret dX7_back_9 (by simpa only [rBack, rBackM, eq_true c4, reduceIte, Bool.false_eq_true, Bool.true_eq_false, and_self, and_true, true_and, and_false, false_and, not_true_eq_false, not_false_eq_true, ne_eq, decide_true, decide_false, if_true, if_false, Bool.not_eq_true, Bool.not_eq_false] using hQ)

def rHa (m : jMem) (r p : Nat) : Int32 := it (fun k (s : Int32) => s + m 166 (r + 17 + k)) p 0 0
def rPt (m : jMem) : Int32 := it (fun k (s : Int32) => s + (if 0 < m 166 (27 + k) then (1 : Int32) else 0)) 25 0 0
set_option maxRecDepth 20000 in
theorem lr_ha {G : jG} {N : Nat} {κ : Nat → jK} {ρ : Nat → Nat → Option Nat} {ν : Nat → Nat → Int64} {Q : Option Value → jH → Prop} {d : Nat} {r p : Nat} {μ : jMem} (hr : shR N κ ρ) (hrr : r + 52 ≤ 1196) (hp : μ 165 3 = nI p) (hp5 : p ≤ 5) (K : J G RX7 cX7_hurtAll 4 false d Q 0 0 (N, κ, ρ, μ, ν) 32 [some (.ref 165), some (.int (nI r)), some (.int (it (fun k (s : Int32) => s + μ 166 (r + 17 + k)) p 0 0)), some (.int (nI p))] []) : J G RX7 cX7_hurtAll 4 false d Q 0 0 (N, κ, ρ, μ, ν) 4 [some (.ref 165), some (.int (nI r)), some (.int 0), some (.int (nI 0))] [] := by
  refine it_loop (f := fun k (s : Int32) => s + μ 166 (r + 17 + k)) (p := p) (fun i s => J G RX7 cX7_hurtAll 4 false d Q 0 0 (N, κ, ρ, μ, ν) 4 [some (.ref 165), some (.int (nI r)), some (.int s), some (.int (nI i))] []) (fun s => J G RX7 cX7_hurtAll 4 false d Q 0 0 (N, κ, ρ, μ, ν) 32 [some (.ref 165), some (.int (nI r)), some (.int s), some (.int (nI p))] []) (fun _ _ => True) ?_ ?_ (fun _ _ _ _ => trivial) p 0 0 (by omega) trivial K
  · intro s hI K
    refine j_iload_n dX7_hurtAll_4 rfl ?_
    refine j_aload_n dX7_hurtAll_5 rfl ?_
    refine j_geti dX7_hurtAll_6 fl_X7_69 rfl (o_165 hr) ?_
    refine k_icmp_ge (tgt := 32) dX7_hurtAll_9 (by decide) (fun c9 c9' => ?_) (fun c9 c9' => ?_)
    · skip
      exact K
    · skip
      exact absurd (by rw [hp]; exact Int32.le_refl _) c9
  · intro i s hi hI K
    (try dsimp only at K)
    refine j_iload_n dX7_hurtAll_4 rfl ?_
    refine j_aload_n dX7_hurtAll_5 rfl ?_
    refine j_geti dX7_hurtAll_6 fl_X7_69 rfl (o_165 hr) ?_
    refine k_icmp_ge (tgt := 32) dX7_hurtAll_9 (by decide) (fun c9 c9' => ?_) (fun c9 c9' => ?_)
    · skip
      exact absurd c9 (by rw [hp]; exact nI_ge (by omega) (by omega))
    · skip
      refine j_iload_n dX7_hurtAll_12 rfl ?_
      refine j_aload_n dX7_hurtAll_13 rfl ?_
      refine j_getr dX7_hurtAll_14 fl_X7_7 rfl (o_165 hr) (r_165_0 hr) ?_
      refine j_iload_n dX7_hurtAll_17 rfl ?_
      refine j_bipush (v := 17) dX7_hurtAll_18 (by decide) ?_
      refine j_iadd dX7_hurtAll_20 ?_
      refine j_iload_n dX7_hurtAll_21 rfl ?_
      refine j_iadd dX7_hurtAll_22 ?_
      refine j_iald (k := ((r + 17) + i)) dX7_hurtAll_23 (a_166 hr) (by simp only [jl17, nI_add, pk_mul]) (by omega) ?_
      refine j_iadd dX7_hurtAll_24 ?_
      refine j_istore_2 dX7_hurtAll_25 rfl ?_
      refine j_iinc_3 (v := nI (i + 1)) dX7_hurtAll_26 (nI_add _ _) rfl ?_
      refine j_goto (tgt := 4) dX7_hurtAll_29 (by decide) ?_
      (try simp only [c9, c9', reduceIte, Bool.false_eq_true, Bool.true_eq_false, and_self, and_true, true_and, and_false, false_and, not_true_eq_false, not_false_eq_true, ne_eq, decide_true, decide_false, if_true, if_false, Bool.not_eq_true, Bool.not_eq_false] at K)
      exact K

set_option maxRecDepth 20000 in
theorem r_ha {G : jG} {N : Nat} {κ : Nat → jK} {ρ : Nat → Nat → Option Nat} {μ : Nat → Nat → Int32} {ν : Nat → Nat → Int64} {r p : Nat} (hr : shR N κ ρ) (hrr : r + 52 ≤ 1196) (hp : μ 165 3 = nI p) (hp5 : p ≤ 5) : MT G yX7_hurtAll cX7_hurtAll 4 (some .int) 0 0 0 [.ref 165, .int (nI r)] (N, κ, ρ, μ, ν) (some (.int (rHa μ r p))) (N, κ, ρ, μ, ν) := by
  refine jMT (ini := false) my_X7_hurtAll (fun h => by cases h) (jRv_i _) (Nat.le_of_ble_eq_true rfl) ?_
  show J G RX7 cX7_hurtAll 4 false 0 _ 0 0 (N, κ, ρ, μ, ν) 0 [some (.ref 165), some (.int (nI r)), none, none] []
  refine j_iconst (v := 0) dX7_hurtAll_0 (by decide) ?_
  refine j_istore_2 dX7_hurtAll_1 rfl ?_
  refine j_iconst (v := 0) dX7_hurtAll_2 (by decide) ?_
  refine j_istore_3 dX7_hurtAll_3 rfl ?_
  refine lr_ha hr hrr hp hp5 ?_
  refine j_iload_n dX7_hurtAll_32 rfl ?_
  exact j_iret dX7_hurtAll_33 ⟨rfl, rfl⟩

set_option maxRecDepth 20000 in
theorem lr_pt {G : jG} {N : Nat} {κ : Nat → jK} {ρ : Nat → Nat → Option Nat} {ν : Nat → Nat → Int64} {Q : Option Value → jH → Prop} {d : Nat} {μ : jMem} (hr : shR N κ ρ) (K : J G RX7 cX7_propsThere 3 false d Q 0 0 (N, κ, ρ, μ, ν) 36 [some (.ref 165), some (.int (it (fun k (s : Int32) => s + (if 0 < μ 166 (27 + k) then (1 : Int32) else 0)) 25 0 0)), some (.int (nI 25))] []) : J G RX7 cX7_propsThere 3 false d Q 0 0 (N, κ, ρ, μ, ν) 4 [some (.ref 165), some (.int 0), some (.int (nI 0))] [] := by
  refine it_loop (f := fun k (s : Int32) => s + (if 0 < μ 166 (27 + k) then (1 : Int32) else 0)) (p := 25) (fun i s => J G RX7 cX7_propsThere 3 false d Q 0 0 (N, κ, ρ, μ, ν) 4 [some (.ref 165), some (.int s), some (.int (nI i))] []) (fun s => J G RX7 cX7_propsThere 3 false d Q 0 0 (N, κ, ρ, μ, ν) 36 [some (.ref 165), some (.int s), some (.int (nI 25))] []) (fun _ _ => True) ?_ ?_ (fun _ _ _ _ => trivial) 25 0 0 (by omega) trivial K
  · intro s hI K
    refine j_iload_n dX7_propsThere_4 rfl ?_
    refine j_bipush (v := 25) dX7_propsThere_5 (by decide) ?_
    refine k_icmp_ge (tgt := 36) dX7_propsThere_7 (by decide) (fun c7 c7' => ?_) (fun c7 c7' => ?_)
    · skip
      exact K
    · skip
      exact absurd (by decide) c7
  · intro i s hi hI K
    (try dsimp only at K)
    refine j_iload_n dX7_propsThere_4 rfl ?_
    refine j_bipush (v := 25) dX7_propsThere_5 (by decide) ?_
    refine k_icmp_ge (tgt := 36) dX7_propsThere_7 (by decide) (fun c7 c7' => ?_) (fun c7 c7' => ?_)
    · skip
      exact absurd c7 (by rw [jl25]; exact nI_ge hi (by decide))
    · skip
      refine j_iload_n dX7_propsThere_10 rfl ?_
      refine j_aload_n dX7_propsThere_11 rfl ?_
      refine j_getr dX7_propsThere_12 fl_X7_7 rfl (o_165 hr) (r_165_0 hr) ?_
      refine j_bipush (v := 27) dX7_propsThere_15 (by decide) ?_
      refine j_iload_n dX7_propsThere_17 rfl ?_
      refine j_iadd dX7_propsThere_18 ?_
      refine j_iald (k := (27 + i)) dX7_propsThere_19 (a_166 hr) (by simp only [jl27, nI_add, pk_mul]) (by omega) ?_
      refine k_if_le (tgt := 27) dX7_propsThere_20 (by decide) (fun c20 c20' => ?_) (fun c20 c20' => ?_)
      · skip
        refine j_iconst (v := 0) dX7_propsThere_27 (by decide) ?_
        refine j_iadd dX7_propsThere_28 ?_
        refine j_istore_1 dX7_propsThere_29 rfl ?_
        refine j_iinc_2 (v := nI (i + 1)) dX7_propsThere_30 (nI_add _ _) rfl ?_
        refine j_goto (tgt := 4) dX7_propsThere_33 (by decide) ?_
        (try simp only [c7, c7', c20, c20', reduceIte, Bool.false_eq_true, Bool.true_eq_false, and_self, and_true, true_and, and_false, false_and, not_true_eq_false, not_false_eq_true, ne_eq, decide_true, decide_false, if_true, if_false, Bool.not_eq_true, Bool.not_eq_false] at K)
        exact K
      · skip
        refine j_iconst (v := 1) dX7_propsThere_23 (by decide) ?_
        refine j_goto (tgt := 28) dX7_propsThere_24 (by decide) ?_
        refine j_iadd dX7_propsThere_28 ?_
        refine j_istore_1 dX7_propsThere_29 rfl ?_
        refine j_iinc_2 (v := nI (i + 1)) dX7_propsThere_30 (nI_add _ _) rfl ?_
        refine j_goto (tgt := 4) dX7_propsThere_33 (by decide) ?_
        (try simp only [c7, c7', c20, c20', reduceIte, Bool.false_eq_true, Bool.true_eq_false, and_self, and_true, true_and, and_false, false_and, not_true_eq_false, not_false_eq_true, ne_eq, decide_true, decide_false, if_true, if_false, Bool.not_eq_true, Bool.not_eq_false] at K)
        exact K

set_option maxRecDepth 20000 in
theorem r_pt {G : jG} {N : Nat} {κ : Nat → jK} {ρ : Nat → Nat → Option Nat} {μ : Nat → Nat → Int32} {ν : Nat → Nat → Int64} (hr : shR N κ ρ) : MT G yX7_propsThere cX7_propsThere 3 (some .int) 0 0 0 [.ref 165] (N, κ, ρ, μ, ν) (some (.int (rPt μ))) (N, κ, ρ, μ, ν) := by
  refine jMT (ini := false) my_X7_propsThere (fun h => by cases h) (jRv_i _) (Nat.le_of_ble_eq_true rfl) ?_
  show J G RX7 cX7_propsThere 3 false 0 _ 0 0 (N, κ, ρ, μ, ν) 0 [some (.ref 165), none, none] []
  refine j_iconst (v := 0) dX7_propsThere_0 (by decide) ?_
  refine j_istore_1 dX7_propsThere_1 rfl ?_
  refine j_iconst (v := 0) dX7_propsThere_2 (by decide) ?_
  refine j_istore_2 dX7_propsThere_3 rfl ?_
  refine lr_pt hr ?_
  refine j_iload_n dX7_propsThere_36 rfl ?_
  exact j_iret dX7_propsThere_37 ⟨rfl, rfl⟩

