def rSoF (m : jMem) : Nat → Int32 × Bool → Int32 × Bool := fun i s => (if s.1 - m 170 i < 1 then 1 else s.1 - m 170 i, s.2 && (decide (s.1 ≤ m 170 i * (m 171 i + 1)) == decide (m 172 i = 1)))
def rSo (m : jMem) (x : Int32) (n : Nat) : Bool := (it (rSoF m) n 0 (x, true)).2
set_option maxRecDepth 20000 in
theorem lr_so {G : jG} {N : Nat} {κ : Nat → jK} {ρ : Nat → Nat → Option Nat} {ν : Nat → Nat → Int64} {Q : Option Value → jH → Prop} {d : Nat} {x : Int32} {n7 : Nat} {μ : jMem} (hr : shR N κ ρ) (hn7 : μ 165 7 = nI n7) (hn6 : n7 ≤ 6) {x5 : Option Value} (K : ∀ x5, J G RX7 cX7_isSo 6 false d Q 0 0 (N, κ, ρ, μ, ν) 108 [some (.ref 165), some (.int x), some (.int (it (rSoF μ) n7 0 (x, true)).1), some (.int (jb (it (rSoF μ) n7 0 (x, true)).2)), some (.int (nI n7)), x5] []) : J G RX7 cX7_isSo 6 false d Q 0 0 (N, κ, ρ, μ, ν) 7 [some (.ref 165), some (.int x), some (.int (x, true).1), some (.int (jb (x, true).2)), some (.int (nI 0)), x5] [] := by
  refine it_loop (f := rSoF μ) (p := n7) (fun i s => ∀ x5, J G RX7 cX7_isSo 6 false d Q 0 0 (N, κ, ρ, μ, ν) 7 [some (.ref 165), some (.int x), some (.int s.1), some (.int (jb s.2)), some (.int (nI i)), x5] []) (fun s => ∀ x5, J G RX7 cX7_isSo 6 false d Q 0 0 (N, κ, ρ, μ, ν) 108 [some (.ref 165), some (.int x), some (.int s.1), some (.int (jb s.2)), some (.int (nI n7)), x5] []) (fun _ _ => True) ?_ ?_ (fun _ _ _ _ => trivial) n7 0 (x, true) (by omega) trivial K _
  · intro s hI K x5
    refine j_iload dX7_isSo_7 rfl ?_
    refine j_aload_n dX7_isSo_9 rfl ?_
    refine j_geti dX7_isSo_10 fl_X7_85 rfl (o_165 hr) ?_
    refine k_icmp_ge (tgt := 108) dX7_isSo_13 (by decide) (fun c13 c13' => ?_) (fun c13 c13' => ?_)
    · skip
      exact K _
    · skip
      exact absurd (by rw [hn7]; exact Int32.le_refl _) c13
  · intro i s hi hI K x5
    refine j_iload dX7_isSo_7 rfl ?_
    refine j_aload_n dX7_isSo_9 rfl ?_
    refine j_geti dX7_isSo_10 fl_X7_85 rfl (o_165 hr) ?_
    refine k_icmp_ge (tgt := 108) dX7_isSo_13 (by decide) (fun c13 c13' => ?_) (fun c13 c13' => ?_)
    · skip
      exact absurd c13 (by rw [hn7]; exact nI_ge (by omega) (by omega))
    · skip
      refine j_aload_n dX7_isSo_16 rfl ?_
      refine j_getr dX7_isSo_17 fl_X7_22 rfl (o_165 hr) (r_165_8 hr) ?_
      refine j_iload dX7_isSo_20 rfl ?_
      refine j_iald (k := i) dX7_isSo_22 (a_170 hr) rfl (by omega) ?_
      refine j_aload_n dX7_isSo_23 rfl ?_
      refine j_getr dX7_isSo_24 fl_X7_25 rfl (o_165 hr) (r_165_9 hr) ?_
      refine j_iload dX7_isSo_27 rfl ?_
      refine j_iald (k := i) dX7_isSo_29 (a_171 hr) rfl (by omega) ?_
      refine j_iconst (v := 1) dX7_isSo_30 (by decide) ?_
      refine j_iadd dX7_isSo_31 ?_
      refine j_imul dX7_isSo_32 ?_
      refine j_iload_n dX7_isSo_33 rfl ?_
      refine k_icmp_lt (tgt := 41) dX7_isSo_34 (by decide) (fun c34 c34' => ?_) (fun c34 c34' => ?_)
      · skip
        refine j_iconst (v := 0) dX7_isSo_41 (by decide) ?_
        refine j_istore_5 dX7_isSo_42 rfl ?_
        refine j_iload_n dX7_isSo_44 rfl ?_
        refine j_if_eqB (tgt := 73) dX7_isSo_45 (by decide) (fun c45 => ?_) (fun c45 => ?_)
        · skip
          refine j_iconst (v := 0) dX7_isSo_73 (by decide) ?_
          refine j_istore_3 dX7_isSo_74 rfl ?_
          refine j_iload_n dX7_isSo_75 rfl ?_
          refine j_aload_n dX7_isSo_76 rfl ?_
          refine j_getr dX7_isSo_77 fl_X7_22 rfl (o_165 hr) (r_165_8 hr) ?_
          refine j_iload dX7_isSo_80 rfl ?_
          refine j_iald (k := i) dX7_isSo_82 (a_170 hr) rfl (by omega) ?_
          refine j_isub dX7_isSo_83 ?_
          refine j_iconst (v := 1) dX7_isSo_84 (by decide) ?_
          refine k_icmp_ge (tgt := 92) dX7_isSo_85 (by decide) (fun c85 c85' => ?_) (fun c85 c85' => ?_)
          · skip
            refine j_iload_n dX7_isSo_92 rfl ?_
            refine j_aload_n dX7_isSo_93 rfl ?_
            refine j_getr dX7_isSo_94 fl_X7_22 rfl (o_165 hr) (r_165_8 hr) ?_
            refine j_iload dX7_isSo_97 rfl ?_
            refine j_iald (k := i) dX7_isSo_99 (a_170 hr) rfl (by omega) ?_
            refine j_isub dX7_isSo_100 ?_
            refine j_istore_2 dX7_isSo_101 rfl ?_
            refine j_iinc_4 (v := nI (i + 1)) dX7_isSo_102 (nI_add _ _) rfl ?_
            refine j_goto (tgt := 7) dX7_isSo_105 (by decide) ?_
            (simp only [rSoF, jb, c34, c34', c45, c85, c85', Bool.and_self, Bool.and_false, Bool.and_true, Bool.false_and, Bool.true_and, show (true == false) = false from rfl, show (false == true) = false from rfl, show (true == true) = true from rfl, show (false == false) = true from rfl, reduceIte, Bool.false_eq_true, Bool.true_eq_false, and_self, and_true, true_and, and_false, false_and, not_true_eq_false, not_false_eq_true, ne_eq, decide_true, decide_false, if_true, if_false, Bool.not_eq_true, Bool.not_eq_false] at K; exact K _)
          · skip
            refine j_iconst (v := 1) dX7_isSo_88 (by decide) ?_
            refine j_goto (tgt := 101) dX7_isSo_89 (by decide) ?_
            refine j_istore_2 dX7_isSo_101 rfl ?_
            refine j_iinc_4 (v := nI (i + 1)) dX7_isSo_102 (nI_add _ _) rfl ?_
            refine j_goto (tgt := 7) dX7_isSo_105 (by decide) ?_
            (simp only [rSoF, jb, c34, c34', c45, c85, c85', Bool.and_self, Bool.and_false, Bool.and_true, Bool.false_and, Bool.true_and, show (true == false) = false from rfl, show (false == true) = false from rfl, show (true == true) = true from rfl, show (false == false) = true from rfl, reduceIte, Bool.false_eq_true, Bool.true_eq_false, and_self, and_true, true_and, and_false, false_and, not_true_eq_false, not_false_eq_true, ne_eq, decide_true, decide_false, if_true, if_false, Bool.not_eq_true, Bool.not_eq_false] at K; exact K _)
        · skip
          refine j_iload dX7_isSo_48 rfl ?_
          refine j_aload_n dX7_isSo_50 rfl ?_
          refine j_getr dX7_isSo_51 fl_X7_28 rfl (o_165 hr) (r_165_10 hr) ?_
          refine j_iload dX7_isSo_54 rfl ?_
          refine j_iald (k := i) dX7_isSo_56 (a_172 hr) rfl (by omega) ?_
          refine j_iconst (v := 1) dX7_isSo_57 (by decide) ?_
          refine j_icmp_ne (tgt := 65) dX7_isSo_58 (by decide) (fun c58 => ?_) (fun c58 => ?_)
          · skip
            refine j_iconst (v := 0) dX7_isSo_65 (by decide) ?_
            refine j_icmp_ne (tgt := 73) dX7_isSo_66 (by decide) (fun c66 => ?_) (fun c66 => ?_)
            · skip
              refine j_iconst (v := 0) dX7_isSo_73 (by decide) ?_
              refine j_istore_3 dX7_isSo_74 rfl ?_
              refine j_iload_n dX7_isSo_75 rfl ?_
              refine j_aload_n dX7_isSo_76 rfl ?_
              refine j_getr dX7_isSo_77 fl_X7_22 rfl (o_165 hr) (r_165_8 hr) ?_
              refine j_iload dX7_isSo_80 rfl ?_
              refine j_iald (k := i) dX7_isSo_82 (a_170 hr) rfl (by omega) ?_
              refine j_isub dX7_isSo_83 ?_
              refine j_iconst (v := 1) dX7_isSo_84 (by decide) ?_
              refine k_icmp_ge (tgt := 92) dX7_isSo_85 (by decide) (fun c85 c85' => ?_) (fun c85 c85' => ?_)
              · skip
                refine j_iload_n dX7_isSo_92 rfl ?_
                refine j_aload_n dX7_isSo_93 rfl ?_
                refine j_getr dX7_isSo_94 fl_X7_22 rfl (o_165 hr) (r_165_8 hr) ?_
                refine j_iload dX7_isSo_97 rfl ?_
                refine j_iald (k := i) dX7_isSo_99 (a_170 hr) rfl (by omega) ?_
                refine j_isub dX7_isSo_100 ?_
                refine j_istore_2 dX7_isSo_101 rfl ?_
                refine j_iinc_4 (v := nI (i + 1)) dX7_isSo_102 (nI_add _ _) rfl ?_
                refine j_goto (tgt := 7) dX7_isSo_105 (by decide) ?_
                first | exact absurd rfl c66 | exact absurd c66 (by decide) | (simp only [rSoF, jb, c34, c34', c45, c58, c85, c85', Bool.and_self, Bool.and_false, Bool.and_true, Bool.false_and, Bool.true_and, show (true == false) = false from rfl, show (false == true) = false from rfl, show (true == true) = true from rfl, show (false == false) = true from rfl, reduceIte, Bool.false_eq_true, Bool.true_eq_false, and_self, and_true, true_and, and_false, false_and, not_true_eq_false, not_false_eq_true, ne_eq, decide_true, decide_false, if_true, if_false, Bool.not_eq_true, Bool.not_eq_false] at K; exact K _)
              · skip
                refine j_iconst (v := 1) dX7_isSo_88 (by decide) ?_
                refine j_goto (tgt := 101) dX7_isSo_89 (by decide) ?_
                refine j_istore_2 dX7_isSo_101 rfl ?_
                refine j_iinc_4 (v := nI (i + 1)) dX7_isSo_102 (nI_add _ _) rfl ?_
                refine j_goto (tgt := 7) dX7_isSo_105 (by decide) ?_
                first | exact absurd rfl c66 | exact absurd c66 (by decide) | (simp only [rSoF, jb, c34, c34', c45, c58, c85, c85', Bool.and_self, Bool.and_false, Bool.and_true, Bool.false_and, Bool.true_and, show (true == false) = false from rfl, show (false == true) = false from rfl, show (true == true) = true from rfl, show (false == false) = true from rfl, reduceIte, Bool.false_eq_true, Bool.true_eq_false, and_self, and_true, true_and, and_false, false_and, not_true_eq_false, not_false_eq_true, ne_eq, decide_true, decide_false, if_true, if_false, Bool.not_eq_true, Bool.not_eq_false] at K; exact K _)
            · skip
              refine j_iconst (v := 1) dX7_isSo_69 (by decide) ?_
              refine j_goto (tgt := 74) dX7_isSo_70 (by decide) ?_
              refine j_istore_3 dX7_isSo_74 rfl ?_
              refine j_iload_n dX7_isSo_75 rfl ?_
              refine j_aload_n dX7_isSo_76 rfl ?_
              refine j_getr dX7_isSo_77 fl_X7_22 rfl (o_165 hr) (r_165_8 hr) ?_
              refine j_iload dX7_isSo_80 rfl ?_
              refine j_iald (k := i) dX7_isSo_82 (a_170 hr) rfl (by omega) ?_
              refine j_isub dX7_isSo_83 ?_
              refine j_iconst (v := 1) dX7_isSo_84 (by decide) ?_
              refine k_icmp_ge (tgt := 92) dX7_isSo_85 (by decide) (fun c85 c85' => ?_) (fun c85 c85' => ?_)
              · skip
                refine j_iload_n dX7_isSo_92 rfl ?_
                refine j_aload_n dX7_isSo_93 rfl ?_
                refine j_getr dX7_isSo_94 fl_X7_22 rfl (o_165 hr) (r_165_8 hr) ?_
                refine j_iload dX7_isSo_97 rfl ?_
                refine j_iald (k := i) dX7_isSo_99 (a_170 hr) rfl (by omega) ?_
                refine j_isub dX7_isSo_100 ?_
                refine j_istore_2 dX7_isSo_101 rfl ?_
                refine j_iinc_4 (v := nI (i + 1)) dX7_isSo_102 (nI_add _ _) rfl ?_
                refine j_goto (tgt := 7) dX7_isSo_105 (by decide) ?_
                first | exact absurd rfl c66 | exact absurd c66 (by decide) | (simp only [rSoF, jb, c34, c34', c45, c58, c85, c85', Bool.and_self, Bool.and_false, Bool.and_true, Bool.false_and, Bool.true_and, show (true == false) = false from rfl, show (false == true) = false from rfl, show (true == true) = true from rfl, show (false == false) = true from rfl, reduceIte, Bool.false_eq_true, Bool.true_eq_false, and_self, and_true, true_and, and_false, false_and, not_true_eq_false, not_false_eq_true, ne_eq, decide_true, decide_false, if_true, if_false, Bool.not_eq_true, Bool.not_eq_false] at K; exact K _)
              · skip
                refine j_iconst (v := 1) dX7_isSo_88 (by decide) ?_
                refine j_goto (tgt := 101) dX7_isSo_89 (by decide) ?_
                refine j_istore_2 dX7_isSo_101 rfl ?_
                refine j_iinc_4 (v := nI (i + 1)) dX7_isSo_102 (nI_add _ _) rfl ?_
                refine j_goto (tgt := 7) dX7_isSo_105 (by decide) ?_
                first | exact absurd rfl c66 | exact absurd c66 (by decide) | (simp only [rSoF, jb, c34, c34', c45, c58, c85, c85', Bool.and_self, Bool.and_false, Bool.and_true, Bool.false_and, Bool.true_and, show (true == false) = false from rfl, show (false == true) = false from rfl, show (true == true) = true from rfl, show (false == false) = true from rfl, reduceIte, Bool.false_eq_true, Bool.true_eq_false, and_self, and_true, true_and, and_false, false_and, not_true_eq_false, not_false_eq_true, ne_eq, decide_true, decide_false, if_true, if_false, Bool.not_eq_true, Bool.not_eq_false] at K; exact K _)
          · skip
            refine j_iconst (v := 1) dX7_isSo_61 (by decide) ?_
            refine j_goto (tgt := 66) dX7_isSo_62 (by decide) ?_
            refine j_icmp_ne (tgt := 73) dX7_isSo_66 (by decide) (fun c66 => ?_) (fun c66 => ?_)
            · skip
              refine j_iconst (v := 0) dX7_isSo_73 (by decide) ?_
              refine j_istore_3 dX7_isSo_74 rfl ?_
              refine j_iload_n dX7_isSo_75 rfl ?_
              refine j_aload_n dX7_isSo_76 rfl ?_
              refine j_getr dX7_isSo_77 fl_X7_22 rfl (o_165 hr) (r_165_8 hr) ?_
              refine j_iload dX7_isSo_80 rfl ?_
              refine j_iald (k := i) dX7_isSo_82 (a_170 hr) rfl (by omega) ?_
              refine j_isub dX7_isSo_83 ?_
              refine j_iconst (v := 1) dX7_isSo_84 (by decide) ?_
              refine k_icmp_ge (tgt := 92) dX7_isSo_85 (by decide) (fun c85 c85' => ?_) (fun c85 c85' => ?_)
              · skip
                refine j_iload_n dX7_isSo_92 rfl ?_
                refine j_aload_n dX7_isSo_93 rfl ?_
                refine j_getr dX7_isSo_94 fl_X7_22 rfl (o_165 hr) (r_165_8 hr) ?_
                refine j_iload dX7_isSo_97 rfl ?_
                refine j_iald (k := i) dX7_isSo_99 (a_170 hr) rfl (by omega) ?_
                refine j_isub dX7_isSo_100 ?_
                refine j_istore_2 dX7_isSo_101 rfl ?_
                refine j_iinc_4 (v := nI (i + 1)) dX7_isSo_102 (nI_add _ _) rfl ?_
                refine j_goto (tgt := 7) dX7_isSo_105 (by decide) ?_
                first | exact absurd rfl c66 | exact absurd c66 (by decide) | (simp only [rSoF, jb, c34, c34', c45, eq_true c58, c85, c85', Bool.and_self, Bool.and_false, Bool.and_true, Bool.false_and, Bool.true_and, show (true == false) = false from rfl, show (false == true) = false from rfl, show (true == true) = true from rfl, show (false == false) = true from rfl, reduceIte, Bool.false_eq_true, Bool.true_eq_false, and_self, and_true, true_and, and_false, false_and, not_true_eq_false, not_false_eq_true, ne_eq, decide_true, decide_false, if_true, if_false, Bool.not_eq_true, Bool.not_eq_false] at K; exact K _)
              · skip
                refine j_iconst (v := 1) dX7_isSo_88 (by decide) ?_
                refine j_goto (tgt := 101) dX7_isSo_89 (by decide) ?_
                refine j_istore_2 dX7_isSo_101 rfl ?_
                refine j_iinc_4 (v := nI (i + 1)) dX7_isSo_102 (nI_add _ _) rfl ?_
                refine j_goto (tgt := 7) dX7_isSo_105 (by decide) ?_
                first | exact absurd rfl c66 | exact absurd c66 (by decide) | (simp only [rSoF, jb, c34, c34', c45, eq_true c58, c85, c85', Bool.and_self, Bool.and_false, Bool.and_true, Bool.false_and, Bool.true_and, show (true == false) = false from rfl, show (false == true) = false from rfl, show (true == true) = true from rfl, show (false == false) = true from rfl, reduceIte, Bool.false_eq_true, Bool.true_eq_false, and_self, and_true, true_and, and_false, false_and, not_true_eq_false, not_false_eq_true, ne_eq, decide_true, decide_false, if_true, if_false, Bool.not_eq_true, Bool.not_eq_false] at K; exact K _)
            · skip
              refine j_iconst (v := 1) dX7_isSo_69 (by decide) ?_
              refine j_goto (tgt := 74) dX7_isSo_70 (by decide) ?_
              refine j_istore_3 dX7_isSo_74 rfl ?_
              refine j_iload_n dX7_isSo_75 rfl ?_
              refine j_aload_n dX7_isSo_76 rfl ?_
              refine j_getr dX7_isSo_77 fl_X7_22 rfl (o_165 hr) (r_165_8 hr) ?_
              refine j_iload dX7_isSo_80 rfl ?_
              refine j_iald (k := i) dX7_isSo_82 (a_170 hr) rfl (by omega) ?_
              refine j_isub dX7_isSo_83 ?_
              refine j_iconst (v := 1) dX7_isSo_84 (by decide) ?_
              refine k_icmp_ge (tgt := 92) dX7_isSo_85 (by decide) (fun c85 c85' => ?_) (fun c85 c85' => ?_)
              · skip
                refine j_iload_n dX7_isSo_92 rfl ?_
                refine j_aload_n dX7_isSo_93 rfl ?_
                refine j_getr dX7_isSo_94 fl_X7_22 rfl (o_165 hr) (r_165_8 hr) ?_
                refine j_iload dX7_isSo_97 rfl ?_
                refine j_iald (k := i) dX7_isSo_99 (a_170 hr) rfl (by omega) ?_
                refine j_isub dX7_isSo_100 ?_
                refine j_istore_2 dX7_isSo_101 rfl ?_
                refine j_iinc_4 (v := nI (i + 1)) dX7_isSo_102 (nI_add _ _) rfl ?_
                refine j_goto (tgt := 7) dX7_isSo_105 (by decide) ?_
                first | exact absurd rfl c66 | exact absurd c66 (by decide) | (simp only [rSoF, jb, c34, c34', c45, eq_true c58, c85, c85', Bool.and_self, Bool.and_false, Bool.and_true, Bool.false_and, Bool.true_and, show (true == false) = false from rfl, show (false == true) = false from rfl, show (true == true) = true from rfl, show (false == false) = true from rfl, reduceIte, Bool.false_eq_true, Bool.true_eq_false, and_self, and_true, true_and, and_false, false_and, not_true_eq_false, not_false_eq_true, ne_eq, decide_true, decide_false, if_true, if_false, Bool.not_eq_true, Bool.not_eq_false] at K; exact K _)
              · skip
                refine j_iconst (v := 1) dX7_isSo_88 (by decide) ?_
                refine j_goto (tgt := 101) dX7_isSo_89 (by decide) ?_
                refine j_istore_2 dX7_isSo_101 rfl ?_
                refine j_iinc_4 (v := nI (i + 1)) dX7_isSo_102 (nI_add _ _) rfl ?_
                refine j_goto (tgt := 7) dX7_isSo_105 (by decide) ?_
                first | exact absurd rfl c66 | exact absurd c66 (by decide) | (simp only [rSoF, jb, c34, c34', c45, eq_true c58, c85, c85', Bool.and_self, Bool.and_false, Bool.and_true, Bool.false_and, Bool.true_and, show (true == false) = false from rfl, show (false == true) = false from rfl, show (true == true) = true from rfl, show (false == false) = true from rfl, reduceIte, Bool.false_eq_true, Bool.true_eq_false, and_self, and_true, true_and, and_false, false_and, not_true_eq_false, not_false_eq_true, ne_eq, decide_true, decide_false, if_true, if_false, Bool.not_eq_true, Bool.not_eq_false] at K; exact K _)
      · skip
        refine j_iconst (v := 1) dX7_isSo_37 (by decide) ?_
        refine j_goto (tgt := 42) dX7_isSo_38 (by decide) ?_
        refine j_istore_5 dX7_isSo_42 rfl ?_
        refine j_iload_n dX7_isSo_44 rfl ?_
        refine j_if_eqB (tgt := 73) dX7_isSo_45 (by decide) (fun c45 => ?_) (fun c45 => ?_)
        · skip
          refine j_iconst (v := 0) dX7_isSo_73 (by decide) ?_
          refine j_istore_3 dX7_isSo_74 rfl ?_
          refine j_iload_n dX7_isSo_75 rfl ?_
          refine j_aload_n dX7_isSo_76 rfl ?_
          refine j_getr dX7_isSo_77 fl_X7_22 rfl (o_165 hr) (r_165_8 hr) ?_
          refine j_iload dX7_isSo_80 rfl ?_
          refine j_iald (k := i) dX7_isSo_82 (a_170 hr) rfl (by omega) ?_
          refine j_isub dX7_isSo_83 ?_
          refine j_iconst (v := 1) dX7_isSo_84 (by decide) ?_
          refine k_icmp_ge (tgt := 92) dX7_isSo_85 (by decide) (fun c85 c85' => ?_) (fun c85 c85' => ?_)
          · skip
            refine j_iload_n dX7_isSo_92 rfl ?_
            refine j_aload_n dX7_isSo_93 rfl ?_
            refine j_getr dX7_isSo_94 fl_X7_22 rfl (o_165 hr) (r_165_8 hr) ?_
            refine j_iload dX7_isSo_97 rfl ?_
            refine j_iald (k := i) dX7_isSo_99 (a_170 hr) rfl (by omega) ?_
            refine j_isub dX7_isSo_100 ?_
            refine j_istore_2 dX7_isSo_101 rfl ?_
            refine j_iinc_4 (v := nI (i + 1)) dX7_isSo_102 (nI_add _ _) rfl ?_
            refine j_goto (tgt := 7) dX7_isSo_105 (by decide) ?_
            (simp only [rSoF, jb, c34, c34', c45, c85, c85', Bool.and_self, Bool.and_false, Bool.and_true, Bool.false_and, Bool.true_and, show (true == false) = false from rfl, show (false == true) = false from rfl, show (true == true) = true from rfl, show (false == false) = true from rfl, reduceIte, Bool.false_eq_true, Bool.true_eq_false, and_self, and_true, true_and, and_false, false_and, not_true_eq_false, not_false_eq_true, ne_eq, decide_true, decide_false, if_true, if_false, Bool.not_eq_true, Bool.not_eq_false] at K; exact K _)
          · skip
            refine j_iconst (v := 1) dX7_isSo_88 (by decide) ?_
            refine j_goto (tgt := 101) dX7_isSo_89 (by decide) ?_
            refine j_istore_2 dX7_isSo_101 rfl ?_
            refine j_iinc_4 (v := nI (i + 1)) dX7_isSo_102 (nI_add _ _) rfl ?_
            refine j_goto (tgt := 7) dX7_isSo_105 (by decide) ?_
            (simp only [rSoF, jb, c34, c34', c45, c85, c85', Bool.and_self, Bool.and_false, Bool.and_true, Bool.false_and, Bool.true_and, show (true == false) = false from rfl, show (false == true) = false from rfl, show (true == true) = true from rfl, show (false == false) = true from rfl, reduceIte, Bool.false_eq_true, Bool.true_eq_false, and_self, and_true, true_and, and_false, false_and, not_true_eq_false, not_false_eq_true, ne_eq, decide_true, decide_false, if_true, if_false, Bool.not_eq_true, Bool.not_eq_false] at K; exact K _)
        · skip
          refine j_iload dX7_isSo_48 rfl ?_
          refine j_aload_n dX7_isSo_50 rfl ?_
          refine j_getr dX7_isSo_51 fl_X7_28 rfl (o_165 hr) (r_165_10 hr) ?_
          refine j_iload dX7_isSo_54 rfl ?_
          refine j_iald (k := i) dX7_isSo_56 (a_172 hr) rfl (by omega) ?_
          refine j_iconst (v := 1) dX7_isSo_57 (by decide) ?_
          refine j_icmp_ne (tgt := 65) dX7_isSo_58 (by decide) (fun c58 => ?_) (fun c58 => ?_)
          · skip
            refine j_iconst (v := 0) dX7_isSo_65 (by decide) ?_
            refine j_icmp_ne (tgt := 73) dX7_isSo_66 (by decide) (fun c66 => ?_) (fun c66 => ?_)
            · skip
              refine j_iconst (v := 0) dX7_isSo_73 (by decide) ?_
              refine j_istore_3 dX7_isSo_74 rfl ?_
              refine j_iload_n dX7_isSo_75 rfl ?_
              refine j_aload_n dX7_isSo_76 rfl ?_
              refine j_getr dX7_isSo_77 fl_X7_22 rfl (o_165 hr) (r_165_8 hr) ?_
              refine j_iload dX7_isSo_80 rfl ?_
              refine j_iald (k := i) dX7_isSo_82 (a_170 hr) rfl (by omega) ?_
              refine j_isub dX7_isSo_83 ?_
              refine j_iconst (v := 1) dX7_isSo_84 (by decide) ?_
              refine k_icmp_ge (tgt := 92) dX7_isSo_85 (by decide) (fun c85 c85' => ?_) (fun c85 c85' => ?_)
              · skip
                refine j_iload_n dX7_isSo_92 rfl ?_
                refine j_aload_n dX7_isSo_93 rfl ?_
                refine j_getr dX7_isSo_94 fl_X7_22 rfl (o_165 hr) (r_165_8 hr) ?_
                refine j_iload dX7_isSo_97 rfl ?_
                refine j_iald (k := i) dX7_isSo_99 (a_170 hr) rfl (by omega) ?_
                refine j_isub dX7_isSo_100 ?_
                refine j_istore_2 dX7_isSo_101 rfl ?_
                refine j_iinc_4 (v := nI (i + 1)) dX7_isSo_102 (nI_add _ _) rfl ?_
                refine j_goto (tgt := 7) dX7_isSo_105 (by decide) ?_
                first | exact absurd rfl c66 | exact absurd c66 (by decide) | (simp only [rSoF, jb, c34, c34', c45, c58, c85, c85', Bool.and_self, Bool.and_false, Bool.and_true, Bool.false_and, Bool.true_and, show (true == false) = false from rfl, show (false == true) = false from rfl, show (true == true) = true from rfl, show (false == false) = true from rfl, reduceIte, Bool.false_eq_true, Bool.true_eq_false, and_self, and_true, true_and, and_false, false_and, not_true_eq_false, not_false_eq_true, ne_eq, decide_true, decide_false, if_true, if_false, Bool.not_eq_true, Bool.not_eq_false] at K; exact K _)
              · skip
                refine j_iconst (v := 1) dX7_isSo_88 (by decide) ?_
                refine j_goto (tgt := 101) dX7_isSo_89 (by decide) ?_
                refine j_istore_2 dX7_isSo_101 rfl ?_
                refine j_iinc_4 (v := nI (i + 1)) dX7_isSo_102 (nI_add _ _) rfl ?_
                refine j_goto (tgt := 7) dX7_isSo_105 (by decide) ?_
                first | exact absurd rfl c66 | exact absurd c66 (by decide) | (simp only [rSoF, jb, c34, c34', c45, c58, c85, c85', Bool.and_self, Bool.and_false, Bool.and_true, Bool.false_and, Bool.true_and, show (true == false) = false from rfl, show (false == true) = false from rfl, show (true == true) = true from rfl, show (false == false) = true from rfl, reduceIte, Bool.false_eq_true, Bool.true_eq_false, and_self, and_true, true_and, and_false, false_and, not_true_eq_false, not_false_eq_true, ne_eq, decide_true, decide_false, if_true, if_false, Bool.not_eq_true, Bool.not_eq_false] at K; exact K _)
            · skip
              refine j_iconst (v := 1) dX7_isSo_69 (by decide) ?_
              refine j_goto (tgt := 74) dX7_isSo_70 (by decide) ?_
              refine j_istore_3 dX7_isSo_74 rfl ?_
              refine j_iload_n dX7_isSo_75 rfl ?_
              refine j_aload_n dX7_isSo_76 rfl ?_
              refine j_getr dX7_isSo_77 fl_X7_22 rfl (o_165 hr) (r_165_8 hr) ?_
              refine j_iload dX7_isSo_80 rfl ?_
              refine j_iald (k := i) dX7_isSo_82 (a_170 hr) rfl (by omega) ?_
              refine j_isub dX7_isSo_83 ?_
              refine j_iconst (v := 1) dX7_isSo_84 (by decide) ?_
              refine k_icmp_ge (tgt := 92) dX7_isSo_85 (by decide) (fun c85 c85' => ?_) (fun c85 c85' => ?_)
              · skip
                refine j_iload_n dX7_isSo_92 rfl ?_
                refine j_aload_n dX7_isSo_93 rfl ?_
                refine j_getr dX7_isSo_94 fl_X7_22 rfl (o_165 hr) (r_165_8 hr) ?_
                refine j_iload dX7_isSo_97 rfl ?_
                refine j_iald (k := i) dX7_isSo_99 (a_170 hr) rfl (by omega) ?_
                refine j_isub dX7_isSo_100 ?_
                refine j_istore_2 dX7_isSo_101 rfl ?_
                refine j_iinc_4 (v := nI (i + 1)) dX7_isSo_102 (nI_add _ _) rfl ?_
                refine j_goto (tgt := 7) dX7_isSo_105 (by decide) ?_
                first | exact absurd rfl c66 | exact absurd c66 (by decide) | (simp only [rSoF, jb, c34, c34', c45, c58, c85, c85', Bool.and_self, Bool.and_false, Bool.and_true, Bool.false_and, Bool.true_and, show (true == false) = false from rfl, show (false == true) = false from rfl, show (true == true) = true from rfl, show (false == false) = true from rfl, reduceIte, Bool.false_eq_true, Bool.true_eq_false, and_self, and_true, true_and, and_false, false_and, not_true_eq_false, not_false_eq_true, ne_eq, decide_true, decide_false, if_true, if_false, Bool.not_eq_true, Bool.not_eq_false] at K; exact K _)
              · skip
                refine j_iconst (v := 1) dX7_isSo_88 (by decide) ?_
                refine j_goto (tgt := 101) dX7_isSo_89 (by decide) ?_
                refine j_istore_2 dX7_isSo_101 rfl ?_
                refine j_iinc_4 (v := nI (i + 1)) dX7_isSo_102 (nI_add _ _) rfl ?_
                refine j_goto (tgt := 7) dX7_isSo_105 (by decide) ?_
                first | exact absurd rfl c66 | exact absurd c66 (by decide) | (simp only [rSoF, jb, c34, c34', c45, c58, c85, c85', Bool.and_self, Bool.and_false, Bool.and_true, Bool.false_and, Bool.true_and, show (true == false) = false from rfl, show (false == true) = false from rfl, show (true == true) = true from rfl, show (false == false) = true from rfl, reduceIte, Bool.false_eq_true, Bool.true_eq_false, and_self, and_true, true_and, and_false, false_and, not_true_eq_false, not_false_eq_true, ne_eq, decide_true, decide_false, if_true, if_false, Bool.not_eq_true, Bool.not_eq_false] at K; exact K _)
          · skip
            refine j_iconst (v := 1) dX7_isSo_61 (by decide) ?_
            refine j_goto (tgt := 66) dX7_isSo_62 (by decide) ?_
            refine j_icmp_ne (tgt := 73) dX7_isSo_66 (by decide) (fun c66 => ?_) (fun c66 => ?_)
            · skip
              refine j_iconst (v := 0) dX7_isSo_73 (by decide) ?_
              refine j_istore_3 dX7_isSo_74 rfl ?_
              refine j_iload_n dX7_isSo_75 rfl ?_
              refine j_aload_n dX7_isSo_76 rfl ?_
              refine j_getr dX7_isSo_77 fl_X7_22 rfl (o_165 hr) (r_165_8 hr) ?_
              refine j_iload dX7_isSo_80 rfl ?_
              refine j_iald (k := i) dX7_isSo_82 (a_170 hr) rfl (by omega) ?_
              refine j_isub dX7_isSo_83 ?_
              refine j_iconst (v := 1) dX7_isSo_84 (by decide) ?_
              refine k_icmp_ge (tgt := 92) dX7_isSo_85 (by decide) (fun c85 c85' => ?_) (fun c85 c85' => ?_)
              · skip
                refine j_iload_n dX7_isSo_92 rfl ?_
                refine j_aload_n dX7_isSo_93 rfl ?_
                refine j_getr dX7_isSo_94 fl_X7_22 rfl (o_165 hr) (r_165_8 hr) ?_
                refine j_iload dX7_isSo_97 rfl ?_
                refine j_iald (k := i) dX7_isSo_99 (a_170 hr) rfl (by omega) ?_
                refine j_isub dX7_isSo_100 ?_
                refine j_istore_2 dX7_isSo_101 rfl ?_
                refine j_iinc_4 (v := nI (i + 1)) dX7_isSo_102 (nI_add _ _) rfl ?_
                refine j_goto (tgt := 7) dX7_isSo_105 (by decide) ?_
                first | exact absurd rfl c66 | exact absurd c66 (by decide) | (simp only [rSoF, jb, c34, c34', c45, eq_true c58, c85, c85', Bool.and_self, Bool.and_false, Bool.and_true, Bool.false_and, Bool.true_and, show (true == false) = false from rfl, show (false == true) = false from rfl, show (true == true) = true from rfl, show (false == false) = true from rfl, reduceIte, Bool.false_eq_true, Bool.true_eq_false, and_self, and_true, true_and, and_false, false_and, not_true_eq_false, not_false_eq_true, ne_eq, decide_true, decide_false, if_true, if_false, Bool.not_eq_true, Bool.not_eq_false] at K; exact K _)
              · skip
                refine j_iconst (v := 1) dX7_isSo_88 (by decide) ?_
                refine j_goto (tgt := 101) dX7_isSo_89 (by decide) ?_
                refine j_istore_2 dX7_isSo_101 rfl ?_
                refine j_iinc_4 (v := nI (i + 1)) dX7_isSo_102 (nI_add _ _) rfl ?_
                refine j_goto (tgt := 7) dX7_isSo_105 (by decide) ?_
                first | exact absurd rfl c66 | exact absurd c66 (by decide) | (simp only [rSoF, jb, c34, c34', c45, eq_true c58, c85, c85', Bool.and_self, Bool.and_false, Bool.and_true, Bool.false_and, Bool.true_and, show (true == false) = false from rfl, show (false == true) = false from rfl, show (true == true) = true from rfl, show (false == false) = true from rfl, reduceIte, Bool.false_eq_true, Bool.true_eq_false, and_self, and_true, true_and, and_false, false_and, not_true_eq_false, not_false_eq_true, ne_eq, decide_true, decide_false, if_true, if_false, Bool.not_eq_true, Bool.not_eq_false] at K; exact K _)
            · skip
              refine j_iconst (v := 1) dX7_isSo_69 (by decide) ?_
              refine j_goto (tgt := 74) dX7_isSo_70 (by decide) ?_
              refine j_istore_3 dX7_isSo_74 rfl ?_
              refine j_iload_n dX7_isSo_75 rfl ?_
              refine j_aload_n dX7_isSo_76 rfl ?_
              refine j_getr dX7_isSo_77 fl_X7_22 rfl (o_165 hr) (r_165_8 hr) ?_
              refine j_iload dX7_isSo_80 rfl ?_
              refine j_iald (k := i) dX7_isSo_82 (a_170 hr) rfl (by omega) ?_
              refine j_isub dX7_isSo_83 ?_
              refine j_iconst (v := 1) dX7_isSo_84 (by decide) ?_
              refine k_icmp_ge (tgt := 92) dX7_isSo_85 (by decide) (fun c85 c85' => ?_) (fun c85 c85' => ?_)
              · skip
                refine j_iload_n dX7_isSo_92 rfl ?_
                refine j_aload_n dX7_isSo_93 rfl ?_
                refine j_getr dX7_isSo_94 fl_X7_22 rfl (o_165 hr) (r_165_8 hr) ?_
                refine j_iload dX7_isSo_97 rfl ?_
                refine j_iald (k := i) dX7_isSo_99 (a_170 hr) rfl (by omega) ?_
                refine j_isub dX7_isSo_100 ?_
                refine j_istore_2 dX7_isSo_101 rfl ?_
                refine j_iinc_4 (v := nI (i + 1)) dX7_isSo_102 (nI_add _ _) rfl ?_
                refine j_goto (tgt := 7) dX7_isSo_105 (by decide) ?_
                first | exact absurd rfl c66 | exact absurd c66 (by decide) | (simp only [rSoF, jb, c34, c34', c45, eq_true c58, c85, c85', Bool.and_self, Bool.and_false, Bool.and_true, Bool.false_and, Bool.true_and, show (true == false) = false from rfl, show (false == true) = false from rfl, show (true == true) = true from rfl, show (false == false) = true from rfl, reduceIte, Bool.false_eq_true, Bool.true_eq_false, and_self, and_true, true_and, and_false, false_and, not_true_eq_false, not_false_eq_true, ne_eq, decide_true, decide_false, if_true, if_false, Bool.not_eq_true, Bool.not_eq_false] at K; exact K _)
              · skip
                refine j_iconst (v := 1) dX7_isSo_88 (by decide) ?_
                refine j_goto (tgt := 101) dX7_isSo_89 (by decide) ?_
                refine j_istore_2 dX7_isSo_101 rfl ?_
                refine j_iinc_4 (v := nI (i + 1)) dX7_isSo_102 (nI_add _ _) rfl ?_
                refine j_goto (tgt := 7) dX7_isSo_105 (by decide) ?_
                first | exact absurd rfl c66 | exact absurd c66 (by decide) | (simp only [rSoF, jb, c34, c34', c45, eq_true c58, c85, c85', Bool.and_self, Bool.and_false, Bool.and_true, Bool.false_and, Bool.true_and, show (true == false) = false from rfl, show (false == true) = false from rfl, show (true == true) = true from rfl, show (false == false) = true from rfl, reduceIte, Bool.false_eq_true, Bool.true_eq_false, and_self, and_true, true_and, and_false, false_and, not_true_eq_false, not_false_eq_true, ne_eq, decide_true, decide_false, if_true, if_false, Bool.not_eq_true, Bool.not_eq_false] at K; exact K _)

set_option maxRecDepth 20000 in
theorem r_so {G : jG} {N : Nat} {κ : Nat → jK} {ρ : Nat → Nat → Option Nat} {μ : Nat → Nat → Int32} {ν : Nat → Nat → Int64} (hr : shR N κ ρ) {n7 : Nat} (hn7 : μ 165 7 = nI n7) (hn6 : n7 ≤ 6) {x : Int32} : MT G yX7_isSo cX7_isSo 6 (some .boolean) 0 0 0 [.ref 165, .int x] (N, κ, ρ, μ, ν) (some (.int (jb (rSo μ x n7)))) (N, κ, ρ, μ, ν) := by
  refine jMT (ini := false) my_X7_isSo (fun h => by cases h) (jRv_jb _) (Nat.le_of_ble_eq_true rfl) ?_
  show J G RX7 cX7_isSo 6 false 0 _ 0 0 (N, κ, ρ, μ, ν) 0 [some (.ref 165), some (.int x), none, none, none, none] []
  refine j_iload_n dX7_isSo_0 rfl ?_
  refine j_istore_2 dX7_isSo_1 rfl ?_
  refine j_iconst (v := 1) dX7_isSo_2 (by decide) ?_
  refine j_istore_3 dX7_isSo_3 rfl ?_
  refine j_iconst (v := 0) dX7_isSo_4 (by decide) ?_
  refine j_istore_4 dX7_isSo_5 rfl ?_
  refine lr_so (x := x) hr hn7 hn6 (fun x5 => ?_)
  refine j_iload_n dX7_isSo_108 rfl ?_
  exact j_iret dX7_isSo_109 ⟨rfl, rfl⟩

def rThF (m : jMem) (n : Nat) : Nat → Int32 × Int32 → Int32 × Int32 := fun j s => (s.1 + (if rSo m (nI (60 - j)) n = true then 1 else 0), if rSo m (nI (60 - j)) n = true then nI (60 - j) else s.2)
def rThick (m : jMem) (w : Int32) (n : Nat) : Int32 × jMem := if rIn w.toInt64 0 1 = true then (if w = 0 then (it (rThF m n) 60 0 (0, -4)).1 else (it (rThF m n) 60 0 (0, -4)).2, m) else (-1, m)
set_option maxRecDepth 20000 in
theorem lr_th {G : jG} {N : Nat} {κ : Nat → jK} {ρ : Nat → Nat → Option Nat} {ν : Nat → Nat → Int64} {Q : Option Value → jH → Prop} {d : Nat} (hd1 : 1 ≤ d) {w : Int32} {n7 : Nat} {μ : jMem} (hr : shR N κ ρ) (hn7 : μ 165 7 = nI n7) (hn6 : n7 ≤ 6) {x5 : Option Value} (K : ∀ x5, J G RX7 cX7_thick 6 false d Q 0 0 (N, κ, ρ, μ, ν) 65 [some (.ref 165), some (.int w), some (.int (it (rThF μ n7) 60 0 (0, -4)).1), some (.int (it (rThF μ n7) 60 0 (0, -4)).2), some (.int (nI (60 - 60))), x5] []) : J G RX7 cX7_thick 6 false d Q 0 0 (N, κ, ρ, μ, ν) 21 [some (.ref 165), some (.int w), some (.int (0, -4).1), some (.int (0, -4).2), some (.int (nI (60 - 0))), x5] [] := by
  refine it_loop (f := rThF μ n7) (p := 60) (fun i s => ∀ x5, J G RX7 cX7_thick 6 false d Q 0 0 (N, κ, ρ, μ, ν) 21 [some (.ref 165), some (.int w), some (.int s.1), some (.int s.2), some (.int (nI (60 - i))), x5] []) (fun s => ∀ x5, J G RX7 cX7_thick 6 false d Q 0 0 (N, κ, ρ, μ, ν) 65 [some (.ref 165), some (.int w), some (.int s.1), some (.int s.2), some (.int (nI (60 - 60))), x5] []) (fun _ _ => True) ?_ ?_ (fun _ _ _ _ => trivial) 60 0 (0, -4) (by omega) trivial K _
  · intro s hI K x5
    refine j_iload dX7_thick_21 rfl ?_
    refine k_if_le (tgt := 65) dX7_thick_23 (by decide) (fun c23 c23' => ?_) (fun c23 c23' => ?_)
    · skip
      exact K _
    · skip
      exact absurd (by decide) c23
  · intro i s hi hI K x5
    refine j_iload dX7_thick_21 rfl ?_
    refine k_if_le (tgt := 65) dX7_thick_23 (by decide) (fun c23 c23' => ?_) (fun c23 c23' => ?_)
    · skip
      exact absurd c23 (by rw [show 60 - i = (59 - i) + 1 by omega]; exact nI_pos1 (by omega))
    · skip
      refine j_aload_n dX7_thick_26 rfl ?_
      refine j_iload dX7_thick_27 rfl ?_
      refine j_cV1r dX7_thick_29 (r_so hr hn7 hn6) ml_X7_204 my_X7_isSo mi_X7_isSo (o_165 hr) rfl (by omega) (Nat.le_of_ble_eq_true rfl) (Nat.le_of_ble_eq_true rfl) ?_
      refine j_istore_5 dX7_thick_32 rfl ?_
      refine j_iload_n dX7_thick_34 rfl ?_
      refine j_iload dX7_thick_35 rfl ?_
      refine j_if_eqB (tgt := 44) dX7_thick_37 (by decide) (fun c37 => ?_) (fun c37 => ?_)
      · skip
        refine j_iconst (v := 0) dX7_thick_44 (by decide) ?_
        refine j_iadd dX7_thick_45 ?_
        refine j_istore_2 dX7_thick_46 rfl ?_
        refine j_iload dX7_thick_47 rfl ?_
        refine j_if_eqB (tgt := 57) dX7_thick_49 (by decide) (fun c49 => ?_) (fun c49 => ?_)
        · skip
          refine j_iload_n dX7_thick_57 rfl ?_
          refine j_istore_3 dX7_thick_58 rfl ?_
          refine j_iinc_4 (v := nI (60 - (i + 1))) dX7_thick_59 (by rw [show 60 - i = (60 - (i + 1)) + 1 by omega]; exact nI_m1 _) rfl ?_
          refine j_goto (tgt := 21) dX7_thick_62 (by decide) ?_
          first | (exfalso; revert c37 c49; cases rSo μ (nI (60 - i)) n7 <;> simp; done) | (simp only [rThF, c37, c49, reduceIte, Bool.false_eq_true, Bool.true_eq_false, and_self, and_true, true_and, and_false, false_and, not_true_eq_false, not_false_eq_true, ne_eq, decide_true, decide_false, if_true, if_false, Bool.not_eq_true, Bool.not_eq_false] at K; exact K _)
        · skip
          refine j_iload dX7_thick_52 rfl ?_
          refine j_goto (tgt := 58) dX7_thick_54 (by decide) ?_
          refine j_istore_3 dX7_thick_58 rfl ?_
          refine j_iinc_4 (v := nI (60 - (i + 1))) dX7_thick_59 (by rw [show 60 - i = (60 - (i + 1)) + 1 by omega]; exact nI_m1 _) rfl ?_
          refine j_goto (tgt := 21) dX7_thick_62 (by decide) ?_
          first | (exfalso; revert c37 c49; cases rSo μ (nI (60 - i)) n7 <;> simp; done) | (simp only [rThF, c37, c49, reduceIte, Bool.false_eq_true, Bool.true_eq_false, and_self, and_true, true_and, and_false, false_and, not_true_eq_false, not_false_eq_true, ne_eq, decide_true, decide_false, if_true, if_false, Bool.not_eq_true, Bool.not_eq_false] at K; exact K _)
      · skip
        refine j_iconst (v := 1) dX7_thick_40 (by decide) ?_
        refine j_goto (tgt := 45) dX7_thick_41 (by decide) ?_
        refine j_iadd dX7_thick_45 ?_
        refine j_istore_2 dX7_thick_46 rfl ?_
        refine j_iload dX7_thick_47 rfl ?_
        refine j_if_eqB (tgt := 57) dX7_thick_49 (by decide) (fun c49 => ?_) (fun c49 => ?_)
        · skip
          refine j_iload_n dX7_thick_57 rfl ?_
          refine j_istore_3 dX7_thick_58 rfl ?_
          refine j_iinc_4 (v := nI (60 - (i + 1))) dX7_thick_59 (by rw [show 60 - i = (60 - (i + 1)) + 1 by omega]; exact nI_m1 _) rfl ?_
          refine j_goto (tgt := 21) dX7_thick_62 (by decide) ?_
          first | (exfalso; revert c37 c49; cases rSo μ (nI (60 - i)) n7 <;> simp; done) | (simp only [rThF, c37, c49, reduceIte, Bool.false_eq_true, Bool.true_eq_false, and_self, and_true, true_and, and_false, false_and, not_true_eq_false, not_false_eq_true, ne_eq, decide_true, decide_false, if_true, if_false, Bool.not_eq_true, Bool.not_eq_false] at K; exact K _)
        · skip
          refine j_iload dX7_thick_52 rfl ?_
          refine j_goto (tgt := 58) dX7_thick_54 (by decide) ?_
          refine j_istore_3 dX7_thick_58 rfl ?_
          refine j_iinc_4 (v := nI (60 - (i + 1))) dX7_thick_59 (by rw [show 60 - i = (60 - (i + 1)) + 1 by omega]; exact nI_m1 _) rfl ?_
          refine j_goto (tgt := 21) dX7_thick_62 (by decide) ?_
          first | (exfalso; revert c37 c49; cases rSo μ (nI (60 - i)) n7 <;> simp; done) | (simp only [rThF, c37, c49, reduceIte, Bool.false_eq_true, Bool.true_eq_false, and_self, and_true, true_and, and_false, false_and, not_true_eq_false, not_false_eq_true, ne_eq, decide_true, decide_false, if_true, if_false, Bool.not_eq_true, Bool.not_eq_false] at K; exact K _)

set_option maxRecDepth 20000 in
theorem r_thick {G : jG} {N : Nat} {κ : Nat → jK} {ρ : Nat → Nat → Option Nat} {μ : Nat → Nat → Int32} {ν : Nat → Nat → Int64} (hr : shR N κ ρ) {n7 : Nat} (hn7 : μ 165 7 = nI n7) (hn6 : n7 ≤ 6) {w : Int32} : MT G yX7_thick cX7_thick 6 (some .int) 1 0 0 [.ref 165, .int w] (N, κ, ρ, μ, ν) (some (.int (rThick μ w n7).1)) (N, κ, ρ, (rThick μ w n7).2, ν) := by
  refine jMT (ini := false) my_X7_thick (fun h => by cases h) (jRv_i _) (Nat.le_of_ble_eq_true rfl) ?_
  show J G RX7 cX7_thick 6 false 1 _ 0 0 (N, κ, ρ, μ, ν) 0 [some (.ref 165), some (.int w), none, none, none, none] []
  generalize hQe : (fun (v' : Option Value) (h'' : jH) => v' = (some (.int (rThick μ w n7).1)) ∧ h'' = (N, κ, ρ, (rThick μ w n7).2, ν)) = Q
  have hQ : Q (some (.int (rThick μ w n7).1)) (N, κ, ρ, (rThick μ w n7).2, ν) := by rw [← hQe]; exact ⟨rfl, rfl⟩
  clear hQe
  refine j_iload_n dX7_thick_0 rfl ?_
  refine j_i2l dX7_thick_1 ?_
  refine j_lconst (v := 0) dX7_thick_2 (by decide) ?_
  refine j_lconst (v := 1) dX7_thick_3 (by decide) ?_
  refine j_cS3r dX7_thick_4 r_in ml_X7_72 my_X7_in ms_X7_in (by omega) (Nat.le_of_ble_eq_true rfl) (Nat.le_of_ble_eq_true rfl) ?_
  refine j_if_neB (tgt := 12) dX7_thick_7 (by decide) (fun c7 => ?_) (fun c7 => ?_)
  · skip
    refine j_iconst (v := 0) dX7_thick_12 (by decide) ?_
    refine j_istore_2 dX7_thick_13 rfl ?_
    refine j_bipush (v := (-4)) dX7_thick_14 (by decide) ?_
    refine j_istore_3 dX7_thick_16 rfl ?_
    refine j_bipush (v := 60) dX7_thick_17 (by decide) ?_
    refine j_istore_4 dX7_thick_19 rfl ?_
    refine lr_th (w := w) (by omega) hr hn7 hn6 (fun x5 => ?_)
    refine j_iload_n dX7_thick_65 rfl ?_
    refine j_if_ne (tgt := 73) dX7_thick_66 (by decide) (fun c66 => ?_) (fun c66 => ?_)
    · skip
      refine j_iload_n dX7_thick_73 rfl ?_
      exact j_iret dX7_thick_74 (by simpa only [rThick, c7, c66, reduceIte, Bool.false_eq_true, Bool.true_eq_false, and_self, and_true, true_and, and_false, false_and, not_true_eq_false, not_false_eq_true, ne_eq, decide_true, decide_false, if_true, if_false, Bool.not_eq_true, Bool.not_eq_false] using hQ)
    · skip
      refine j_iload_n dX7_thick_69 rfl ?_
      refine j_goto (tgt := 74) dX7_thick_70 (by decide) ?_
      exact j_iret dX7_thick_74 (by simpa only [rThick, c7, eq_true c66, reduceIte, Bool.false_eq_true, Bool.true_eq_false, and_self, and_true, true_and, and_false, false_and, not_true_eq_false, not_false_eq_true, ne_eq, decide_true, decide_false, if_true, if_false, Bool.not_eq_true, Bool.not_eq_false] using hQ)
  · skip
    refine j_iconst (v := (-1)) dX7_thick_10 (by decide) ?_
    exact j_iret dX7_thick_11 (by simpa only [rThick, c7, reduceIte, Bool.false_eq_true, Bool.true_eq_false, and_self, and_true, true_and, and_false, false_and, not_true_eq_false, not_false_eq_true, ne_eq, decide_true, decide_false, if_true, if_false, Bool.not_eq_true, Bool.not_eq_false] using hQ)

def rCount (m : jMem) (what : Int32) (p : Nat) : Int32 × jMem := (if what = 0 then m 165 3 else if what = 1 then m 166 1 else if what = 2 then rOnes (rDo m 0 p) else if what = 3 then m 166 0 else if what = 4 then rHa m 0 p else if what = 5 then rPt m else if what = 6 then m 165 7 else if what = 7 then m 165 1 else if what = 8 then m 165 2 else if what = 9 then m 165 12 else -1, m)
set_option maxRecDepth 20000 in
theorem r_count {G : jG} {N : Nat} {κ : Nat → jK} {ρ : Nat → Nat → Option Nat} {μ : Nat → Nat → Int32} {ν : Nat → Nat → Int64} (hr : shR N κ ρ) {p : Nat} (hp : μ 165 3 = nI p) (hp5 : p ≤ 5) {what : Int32} : MT G yX7_count cX7_count 2 (some .int) 2 0 0 [.ref 165, .int what] (N, κ, ρ, μ, ν) (some (.int (rCount μ what p).1)) (N, κ, ρ, (rCount μ what p).2, ν) := by
  refine jMT (ini := false) my_X7_count (fun h => by cases h) (jRv_i _) (Nat.le_of_ble_eq_true rfl) ?_
  show J G RX7 cX7_count 2 false 2 _ 0 0 (N, κ, ρ, μ, ν) 0 [some (.ref 165), some (.int what)] []
  generalize hQe : (fun (v' : Option Value) (h'' : jH) => v' = (some (.int (rCount μ what p).1)) ∧ h'' = (N, κ, ρ, (rCount μ what p).2, ν)) = Q
  have hQ : Q (some (.int (rCount μ what p).1)) (N, κ, ρ, (rCount μ what p).2, ν) := by rw [← hQe]; exact ⟨rfl, rfl⟩
  clear hQe
  refine j_iload_n dX7_count_0 rfl ?_
  rcases tsw9 what with rfl | rfl | rfl | rfl | rfl | rfl | rfl | rfl | rfl | rfl | hout
  · refine j_tableIn (off := 55) (tgt := 56) dX7_count_1 (by decide) (by decide) (by decide) (by decide) ?_
    refine j_aload_n dX7_count_56 rfl ?_
    refine j_geti dX7_count_57 fl_X7_69 rfl (o_165 hr) ?_
    exact j_iret dX7_count_60 (by simpa [rCount] using hQ)
  · refine j_tableIn (off := 60) (tgt := 61) dX7_count_1 (by decide) (by decide) (by decide) (by decide) ?_
    refine j_aload_n dX7_count_61 rfl ?_
    refine j_getr dX7_count_62 fl_X7_7 rfl (o_165 hr) (r_165_0 hr) ?_
    refine j_iconst (v := 1) dX7_count_65 (by decide) ?_
    refine j_iald (k := 1) dX7_count_66 (a_166 hr) rfl (by omega) ?_
    exact j_iret dX7_count_67 (by simpa [rCount] using hQ)
  · refine j_tableIn (off := 67) (tgt := 68) dX7_count_1 (by decide) (by decide) (by decide) (by decide) ?_
    refine j_aload_n dX7_count_68 rfl ?_
    refine j_iconst (v := 0) dX7_count_69 (by decide) ?_
    refine j_cV1r dX7_count_70 (r_do (r := 0) hr (by omega) hp hp5) ml_X7_186 my_X7_downOnes mi_X7_downOnes (o_165 hr) rfl (by omega) (Nat.le_of_ble_eq_true rfl) (Nat.le_of_ble_eq_true rfl) ?_
    refine j_cS1r dX7_count_73 r_ones ml_X7_189 my_X7_ones ms_X7_ones (by omega) (Nat.le_of_ble_eq_true rfl) (Nat.le_of_ble_eq_true rfl) ?_
    exact j_iret dX7_count_76 (by simpa [rCount] using hQ)
  · refine j_tableIn (off := 76) (tgt := 77) dX7_count_1 (by decide) (by decide) (by decide) (by decide) ?_
    refine j_aload_n dX7_count_77 rfl ?_
    refine j_getr dX7_count_78 fl_X7_7 rfl (o_165 hr) (r_165_0 hr) ?_
    refine j_iconst (v := 0) dX7_count_81 (by decide) ?_
    refine j_iald (k := 0) dX7_count_82 (a_166 hr) rfl (by omega) ?_
    exact j_iret dX7_count_83 (by simpa [rCount] using hQ)
  · refine j_tableIn (off := 83) (tgt := 84) dX7_count_1 (by decide) (by decide) (by decide) (by decide) ?_
    refine j_aload_n dX7_count_84 rfl ?_
    refine j_iconst (v := 0) dX7_count_85 (by decide) ?_
    refine j_cV1r dX7_count_86 (r_ha (r := 0) hr (by omega) hp hp5) ml_X7_219 my_X7_hurtAll mi_X7_hurtAll (o_165 hr) rfl (by omega) (Nat.le_of_ble_eq_true rfl) (Nat.le_of_ble_eq_true rfl) ?_
    exact j_iret dX7_count_89 (by simpa [rCount] using hQ)
  · refine j_tableIn (off := 89) (tgt := 90) dX7_count_1 (by decide) (by decide) (by decide) (by decide) ?_
    refine j_aload_n dX7_count_90 rfl ?_
    refine j_cV0r dX7_count_91 (r_pt hr) ml_X7_222 my_X7_propsThere mi_X7_propsThere (o_165 hr) rfl (by omega) (Nat.le_of_ble_eq_true rfl) (Nat.le_of_ble_eq_true rfl) ?_
    exact j_iret dX7_count_94 (by simpa [rCount] using hQ)
  · refine j_tableIn (off := 94) (tgt := 95) dX7_count_1 (by decide) (by decide) (by decide) (by decide) ?_
    refine j_aload_n dX7_count_95 rfl ?_
    refine j_geti dX7_count_96 fl_X7_85 rfl (o_165 hr) ?_
    exact j_iret dX7_count_99 (by simpa [rCount] using hQ)
  · refine j_tableIn (off := 99) (tgt := 100) dX7_count_1 (by decide) (by decide) (by decide) (by decide) ?_
    refine j_aload_n dX7_count_100 rfl ?_
    refine j_geti dX7_count_101 fl_X7_79 rfl (o_165 hr) ?_
    exact j_iret dX7_count_104 (by simpa [rCount] using hQ)
  · refine j_tableIn (off := 104) (tgt := 105) dX7_count_1 (by decide) (by decide) (by decide) (by decide) ?_
    refine j_aload_n dX7_count_105 rfl ?_
    refine j_geti dX7_count_106 fl_X7_82 rfl (o_165 hr) ?_
    exact j_iret dX7_count_109 (by simpa [rCount] using hQ)
  · refine j_tableIn (off := 109) (tgt := 110) dX7_count_1 (by decide) (by decide) (by decide) (by decide) ?_
    refine j_aload_n dX7_count_110 rfl ?_
    refine j_geti dX7_count_111 fl_X7_92 rfl (o_165 hr) ?_
    exact j_iret dX7_count_114 (by simpa [rCount] using hQ)
  · refine j_tableOut (tgt := 115) dX7_count_1 hout (by decide) ?_
    have nn := tswo9 hout
    refine j_iconst (v := (-1)) dX7_count_115 (by decide) ?_
    exact j_iret dX7_count_116 (by simpa [rCount, nn] using hQ)

