/-! ORDERSEARCH (81): towns 82, path 83, best 84, seen 85, seenBy 86 -/
abbrev jNu : Type := Nat → Nat → Int64
def oMkF (μ : jMem) (a : Nat) : Nat → Int64 → Int64 := fun w s => s <<< ((9 : Int32).toInt64 &&& 63) ||| (μ (a + 4) w <<< ((7 : Int32) &&& 31)).toInt64 ||| (μ (a + 1) w).toInt64
def oMk (μ : jMem) (a p : Nat) : Int64 := it (oMkF μ a) p 0 0
set_option maxRecDepth 20000 in
theorem lp_mk {G : jG} {N : Nat} {κ : Nat → jK} {ρ : Nat → Nat → Option Nat} {ν : Nat → Nat → Int64} {Q : Option Value → jH → Prop} {d : Nat} {a p : Nat} {μ : jMem} (hs : shC N κ ρ) (ht : tw a) (hp : μ 9 0 = nI p) (hp5 : p ≤ 5) (K : J G RX1 cX1_markOf 5 false d Q 0 0 (N, κ, ρ, μ, ν) 49 [some (.ref 81), some (.ref a), some (.long (it (oMkF μ a) p 0 0)), none, some (.int (nI p))] []) : J G RX1 cX1_markOf 5 false d Q 0 0 (N, κ, ρ, μ, ν) 5 [some (.ref 81), some (.ref a), some (.long 0), none, some (.int (nI 0))] [] := by
  refine it_loop (f := oMkF μ a) (p := p) (fun i s => J G RX1 cX1_markOf 5 false d Q 0 0 (N, κ, ρ, μ, ν) 5 [some (.ref 81), some (.ref a), some (.long s), none, some (.int (nI i))] []) (fun s => J G RX1 cX1_markOf 5 false d Q 0 0 (N, κ, ρ, μ, ν) 49 [some (.ref 81), some (.ref a), some (.long s), none, some (.int (nI p))] []) (fun _ _ => True) ?_ ?_ (fun _ _ _ _ => trivial) p 0 0 (by omega) trivial K
  · intro s hI K
    refine j_iload dX1_markOf_5 rfl ?_
    refine j_aload_n dX1_markOf_7 rfl ?_
    refine j_getr dX1_markOf_8 fl_X1_38 rfl (o_81 hs) (r_81_0 hs) ?_
    refine j_geti dX1_markOf_11 fl_X1_63 rfl (o_9 hs) ?_
    refine k_icmp_ge (tgt := 49) dX1_markOf_14 (by decide) (fun c14 c14' => ?_) (fun c14 c14' => ?_)
    · skip
      exact K
    · skip
      exact absurd (by rw [hp]; exact Int32.le_refl _) c14
  · intro i s hi hI K
    (try dsimp only at K)
    refine j_iload dX1_markOf_5 rfl ?_
    refine j_aload_n dX1_markOf_7 rfl ?_
    refine j_getr dX1_markOf_8 fl_X1_38 rfl (o_81 hs) (r_81_0 hs) ?_
    refine j_geti dX1_markOf_11 fl_X1_63 rfl (o_9 hs) ?_
    refine k_icmp_ge (tgt := 49) dX1_markOf_14 (by decide) (fun c14 c14' => ?_) (fun c14 c14' => ?_)
    · skip
      exact absurd c14 (by rw [hp]; exact nI_ge (by omega) (by omega))
    · skip
      refine j_lload_n dX1_markOf_17 rfl ?_
      refine j_bipush (v := 9) dX1_markOf_18 (by decide) ?_
      refine j_lshl dX1_markOf_20 ?_
      refine j_aload_n dX1_markOf_21 rfl ?_
      refine j_getr dX1_markOf_22 fl_X1_97 rfl (tO hs ht) (tR4 hs ht) ?_
      refine j_iload dX1_markOf_25 rfl ?_
      refine j_iald (k := i) dX1_markOf_27 (tA4 hs ht) rfl (by omega) ?_
      refine j_bipush (v := 7) dX1_markOf_28 (by decide) ?_
      refine j_ishl dX1_markOf_30 ?_
      refine j_i2l dX1_markOf_31 ?_
      refine j_lor dX1_markOf_32 ?_
      refine j_aload_n dX1_markOf_33 rfl ?_
      refine j_getr dX1_markOf_34 fl_X1_100 rfl (tO hs ht) (tR1 hs ht) ?_
      refine j_iload dX1_markOf_37 rfl ?_
      refine j_iald (k := i) dX1_markOf_39 (tA1 hs ht) rfl (by omega) ?_
      refine j_i2l dX1_markOf_40 ?_
      refine j_lor dX1_markOf_41 ?_
      refine j_lstore_2 dX1_markOf_42 rfl ?_
      refine j_iinc_4 (v := nI (i + 1)) dX1_markOf_43 (nI_add _ _) rfl ?_
      refine j_goto (tgt := 5) dX1_markOf_46 (by decide) ?_
      (try simp only [c14, c14', reduceIte, Bool.false_eq_true, Bool.true_eq_false, and_self, and_true, true_and, and_false, false_and, not_true_eq_false, not_false_eq_true, ne_eq, decide_true, decide_false, if_true, if_false, Bool.not_eq_true, Bool.not_eq_false] at K)
      exact K

set_option maxRecDepth 20000 in
theorem t_mark {G : jG} {N : Nat} {κ : Nat → jK} {ρ : Nat → Nat → Option Nat} {μ : Nat → Nat → Int32} {ν : Nat → Nat → Int64} {a p : Nat} (hs : shC N κ ρ) (ht : tw a) (hp : μ 9 0 = nI p) (hp5 : p ≤ 5) : MT G yX1_markOf cX1_markOf 5 (some .long) 0 0 0 [.ref 81, .ref a] (N, κ, ρ, μ, ν) (some (.long (oMk μ a p))) (N, κ, ρ, μ, ν) := by
  refine jMT (ini := false) my_X1_markOf (fun h => by cases h) (jRv_l _) (Nat.le_of_ble_eq_true rfl) ?_
  show J G RX1 cX1_markOf 5 false 0 _ 0 0 (N, κ, ρ, μ, ν) 0 [some (.ref 81), some (.ref a), none, none, none] []
  refine j_lconst (v := 0) dX1_markOf_0 (by decide) ?_
  refine j_lstore_2 dX1_markOf_1 rfl ?_
  refine j_iconst (v := 0) dX1_markOf_2 (by decide) ?_
  refine j_istore_4 dX1_markOf_3 rfl ?_
  refine lp_mk hs ht hp hp5 ?_
  refine j_lload_n dX1_markOf_49 rfl ?_
  exact j_lret dX1_markOf_50 ⟨rfl, rfl⟩

def oSp (mark : Int64) : Int64 := ((mark * (-7046029254386353131)).toUInt64 >>> ((40 : Int32).toInt64.toUInt64 &&& Int64.toUInt64 63)).toInt64
def oSl (mark : Int64) : Nat := (oSp mark).toInt32.toNatClampNeg
theorem oSp_nat (mark : Int64) : ∃ k, k < 2 ^ 24 ∧ oSp mark = lN k := by
  unfold oSp
  generalize (mark * (-7046029254386353131)).toUInt64 = x
  have e : ((40 : Int32).toInt64.toUInt64 &&& Int64.toUInt64 63) = 40 := by decide
  rw [e]
  refine ⟨(x >>> 40).toNat, ?_, ?_⟩
  · rw [UInt64.toNat_shiftRight]
    have h := x.toNat_lt
    have e2 : (40 : UInt64).toNat % 64 = 40 := by decide
    rw [e2, Nat.shiftRight_eq_div_pow]
    omega
  · apply Int64.toBitVec_inj.mp
    show (x >>> 40).toBitVec = BitVec.ofNat 64 (x >>> 40).toBitVec.toNat
    refine BitVec.eq_of_toNat_eq ?_
    rw [BitVec.toNat_ofNat]
    exact (Nat.mod_eq_of_lt (x >>> 40).toBitVec.isLt).symm
theorem oSl_eq (mark : Int64) : (oSp mark).toInt32 = nI (oSl mark) ∧ oSl mark < 2 ^ 24 := by
  obtain ⟨k, hk, e⟩ := oSp_nat mark
  unfold oSl
  rw [e, lN_i, nI_clamp (by omega)]
  exact ⟨rfl, hk⟩
def oIx (mark : Int64) (i : Nat) : Nat := (oSl mark + i) % 1024
theorem oIx_lt (mark : Int64) (i : Nat) : oIx mark i < 1024 := Nat.mod_lt _ (by decide)
theorem oIx_eq (mark : Int64) {i : Nat} (hi : i < 100) : nI (oSl mark) + nI i - (nI (oSl mark) + nI i) / 1024 * 1024 = nI (oIx mark i) := by
  have h := (oSl_eq mark).2
  rw [nI_add, jl1024]
  exact pk_rem (by omega) (by decide) (by decide)
def oSn (mark : Int64) (tr : Int32) : Nat → Nat → jMem × jNu → Bool × (jMem × jNu)
  | 0, _, s => (false, s)
  | n + 1, i, s =>
    if s.2 85 (oIx mark i) = mark ∧ s.1 86 (oIx mark i) ≤ tr then (true, s)
    else if ¬ s.2 85 (oIx mark i) = mark ∧ ¬ s.2 85 (oIx mark i) = 0 then oSn mark tr n (i + 1) s
    else (false, (jup s.1 86 (oIx mark i) tr, jup s.2 85 (oIx mark i) mark))
set_option maxRecDepth 20000 in
theorem lp_seen {G : jG} {N : Nat} {κ : Nat → jK} {ρ : Nat → Nat → Option Nat} {Q : Option Value → jH → Prop} {d : Nat} (hs : shC N κ ρ) {mark : Int64} {tr : Int32} : ∀ (n i : Nat) (s : jMem × jNu) (x6 : Option Value), i + n = 32 → Q (some (.int (jb (oSn mark tr n i s).1))) (N, κ, ρ, (oSn mark tr n i s).2.1, (oSn mark tr n i s).2.2) → J G RX1 cX1_wasSeen 7 false d Q 0 0 (N, κ, ρ, s.1, s.2) 14 [some (.ref 81), some (.long mark), none, some (.int tr), some (.int (nI (oSl mark))), some (.int (nI i)), x6] []
  | 0, i, s, x6, hi, hQ => by
    refine j_iload dX1_wasSeen_14 rfl ?_
    refine j_bipush (v := 32) dX1_wasSeen_16 (by decide) ?_
    refine k_icmp_ge (tgt := 108) dX1_wasSeen_18 (by decide) (fun c18 c18' => ?_) (fun c18 c18' => ?_)
    · skip
      refine j_iconst (v := 0) dX1_wasSeen_108 (by decide) ?_
      exact j_iret dX1_wasSeen_109 hQ
    · skip
      exact absurd (by rw [jl32]; exact nI_le (by omega) (by omega)) c18
  | n + 1, i, s, x6, hi, hQ => by
    have hat := oIx_lt mark i
    rw [oSn] at hQ
    refine j_iload dX1_wasSeen_14 rfl ?_
    refine j_bipush (v := 32) dX1_wasSeen_16 (by decide) ?_
    refine k_icmp_ge (tgt := 108) dX1_wasSeen_18 (by decide) (fun c18 c18' => ?_) (fun c18 c18' => ?_)
    · skip
      exact absurd c18 (by rw [jl32]; exact nI_ge (by omega) (by omega))
    · skip
      refine j_iload dX1_wasSeen_21 rfl ?_
      refine j_iload dX1_wasSeen_23 rfl ?_
      refine j_iadd dX1_wasSeen_25 ?_
      refine j_sipush (v := 1024) dX1_wasSeen_26 (by decide) ?_
      refine j_irem dX1_wasSeen_29 (by decide) ?_
      refine j_topi (oIx_eq mark (by omega)) ?_
      refine j_istore_6 dX1_wasSeen_30 rfl ?_
      refine j_aload_n dX1_wasSeen_32 rfl ?_
      refine j_getr dX1_wasSeen_33 fl_X1_24 rfl (o_81 hs) (r_81_4 hs) ?_
      refine j_iload dX1_wasSeen_36 rfl ?_
      refine j_lald (k := (oIx mark i)) dX1_wasSeen_38 (a_85 hs) rfl (by omega) ?_
      refine j_lload_n dX1_wasSeen_39 rfl ?_
      refine j_lcmp dX1_wasSeen_40 ?_
      refine j_if_ne (tgt := 57) dX1_wasSeen_41 (by decide) (fun c41 => ?_) (fun c41 => ?_)
      · skip
        have e41 : ¬ s.2 85 (oIx mark i) = mark := fun z => c41 ((lg_cmp_eq _ _).mpr z)
        refine j_aload_n dX1_wasSeen_57 rfl ?_
        refine j_getr dX1_wasSeen_58 fl_X1_24 rfl (o_81 hs) (r_81_4 hs) ?_
        refine j_iload dX1_wasSeen_61 rfl ?_
        refine j_lald (k := (oIx mark i)) dX1_wasSeen_63 (a_85 hs) rfl (by omega) ?_
        refine j_lload_n dX1_wasSeen_64 rfl ?_
        refine j_lcmp dX1_wasSeen_65 ?_
        refine j_if_eq (tgt := 84) dX1_wasSeen_66 (by decide) (fun c66 => ?_) (fun c66 => ?_)
        · skip
          have e66 : s.2 85 (oIx mark i) = mark := (lg_cmp_eq _ _).mp c66
          exact absurd ((lg_cmp_eq _ _).mp c66) e41
        · skip
          have e66 : ¬ s.2 85 (oIx mark i) = mark := fun z => c66 ((lg_cmp_eq _ _).mpr z)
          refine j_aload_n dX1_wasSeen_69 rfl ?_
          refine j_getr dX1_wasSeen_70 fl_X1_24 rfl (o_81 hs) (r_81_4 hs) ?_
          refine j_iload dX1_wasSeen_73 rfl ?_
          refine j_lald (k := (oIx mark i)) dX1_wasSeen_75 (a_85 hs) rfl (by omega) ?_
          refine j_lconst (v := 0) dX1_wasSeen_76 (by decide) ?_
          refine j_lcmp dX1_wasSeen_77 ?_
          refine j_if_eq (tgt := 84) dX1_wasSeen_78 (by decide) (fun c78 => ?_) (fun c78 => ?_)
          · skip
            have e78 : s.2 85 (oIx mark i) = 0 := (lg_cmp_eq _ _).mp c78
            refine j_aload_n dX1_wasSeen_84 rfl ?_
            refine j_getr dX1_wasSeen_85 fl_X1_24 rfl (o_81 hs) (r_81_4 hs) ?_
            refine j_iload dX1_wasSeen_88 rfl ?_
            refine j_lload_n dX1_wasSeen_90 rfl ?_
            refine j_last (k := (oIx mark i)) dX1_wasSeen_91 (a_85 hs) rfl (by omega) ?_
            refine j_aload_n dX1_wasSeen_92 rfl ?_
            refine j_getr dX1_wasSeen_93 fl_X1_28 rfl (o_81 hs) (r_81_5 hs) ?_
            refine j_iload dX1_wasSeen_96 rfl ?_
            refine j_iload_n dX1_wasSeen_98 rfl ?_
            refine j_iast (k := (oIx mark i)) dX1_wasSeen_99 (a_86 hs) rfl (by omega) ?_
            refine j_iconst (v := 0) dX1_wasSeen_100 (by decide) ?_
            exact j_iret dX1_wasSeen_101 (by rw [if_neg (fun z => e66 z.1), if_neg (fun z => z.2 e78)] at hQ; exact hQ)
          · skip
            have e78 : ¬ s.2 85 (oIx mark i) = 0 := fun z => c78 ((lg_cmp_eq _ _).mpr z)
            refine j_goto (tgt := 102) dX1_wasSeen_81 (by decide) ?_
            refine j_iinc_5 (v := nI (i + 1)) dX1_wasSeen_102 (nI_add _ _) rfl ?_
            refine j_goto (tgt := 14) dX1_wasSeen_105 (by decide) ?_
            rw [if_neg (fun z => e66 z.1), if_pos ⟨e66, e78⟩] at hQ
            exact lp_seen hs n (i + 1) s _ (by omega) hQ
      · skip
        have e41 : s.2 85 (oIx mark i) = mark := (lg_cmp_eq _ _).mp c41
        refine j_aload_n dX1_wasSeen_44 rfl ?_
        refine j_getr dX1_wasSeen_45 fl_X1_28 rfl (o_81 hs) (r_81_5 hs) ?_
        refine j_iload dX1_wasSeen_48 rfl ?_
        refine j_iald (k := (oIx mark i)) dX1_wasSeen_50 (a_86 hs) rfl (by omega) ?_
        refine j_iload_n dX1_wasSeen_51 rfl ?_
        refine k_icmp_gt (tgt := 57) dX1_wasSeen_52 (by decide) (fun c52 c52' => ?_) (fun c52 c52' => ?_)
        · skip
          refine j_aload_n dX1_wasSeen_57 rfl ?_
          refine j_getr dX1_wasSeen_58 fl_X1_24 rfl (o_81 hs) (r_81_4 hs) ?_
          refine j_iload dX1_wasSeen_61 rfl ?_
          refine j_lald (k := (oIx mark i)) dX1_wasSeen_63 (a_85 hs) rfl (by omega) ?_
          refine j_lload_n dX1_wasSeen_64 rfl ?_
          refine j_lcmp dX1_wasSeen_65 ?_
          refine j_if_eq (tgt := 84) dX1_wasSeen_66 (by decide) (fun c66 => ?_) (fun c66 => ?_)
          · skip
            have e66 : s.2 85 (oIx mark i) = mark := (lg_cmp_eq _ _).mp c66
            refine j_aload_n dX1_wasSeen_84 rfl ?_
            refine j_getr dX1_wasSeen_85 fl_X1_24 rfl (o_81 hs) (r_81_4 hs) ?_
            refine j_iload dX1_wasSeen_88 rfl ?_
            refine j_lload_n dX1_wasSeen_90 rfl ?_
            refine j_last (k := (oIx mark i)) dX1_wasSeen_91 (a_85 hs) rfl (by omega) ?_
            refine j_aload_n dX1_wasSeen_92 rfl ?_
            refine j_getr dX1_wasSeen_93 fl_X1_28 rfl (o_81 hs) (r_81_5 hs) ?_
            refine j_iload dX1_wasSeen_96 rfl ?_
            refine j_iload_n dX1_wasSeen_98 rfl ?_
            refine j_iast (k := (oIx mark i)) dX1_wasSeen_99 (a_86 hs) rfl (by omega) ?_
            refine j_iconst (v := 0) dX1_wasSeen_100 (by decide) ?_
            exact j_iret dX1_wasSeen_101 (by rw [if_neg (fun z => absurd z.2 c52'), if_neg (fun z => z.1 e66)] at hQ; exact hQ)
          · skip
            have e66 : ¬ s.2 85 (oIx mark i) = mark := fun z => c66 ((lg_cmp_eq _ _).mpr z)
            exact absurd ((lg_cmp_eq _ _).mpr e41) c66
        · skip
          refine j_iconst (v := 1) dX1_wasSeen_55 (by decide) ?_
          exact j_iret dX1_wasSeen_56 (by rw [if_pos ⟨e41, c52'⟩] at hQ; exact hQ)

set_option maxRecDepth 20000 in
theorem t_seen {G : jG} {N : Nat} {κ : Nat → jK} {ρ : Nat → Nat → Option Nat} {μ : Nat → Nat → Int32} {ν : Nat → Nat → Int64} (hs : shC N κ ρ) {mark : Int64} {tr : Int32} : MT G yX1_wasSeen cX1_wasSeen 7 (some .boolean) 0 0 0 [.ref 81, .long mark, .int tr] (N, κ, ρ, μ, ν) (some (.int (jb (oSn mark tr 32 0 (μ, ν)).1))) (N, κ, ρ, (oSn mark tr 32 0 (μ, ν)).2.1, (oSn mark tr 32 0 (μ, ν)).2.2) := by
  refine jMT (ini := false) my_X1_wasSeen (fun h => by cases h) (jRv_jb _) (Nat.le_of_ble_eq_true rfl) ?_
  show J G RX1 cX1_wasSeen 7 false 0 _ 0 0 (N, κ, ρ, μ, ν) 0 [some (.ref 81), some (.long mark), none, some (.int tr), none, none, none] []
  refine j_lload_n dX1_wasSeen_0 rfl ?_
  refine j_ldc2 dX1_wasSeen_1 ct_X1_103 ?_
  refine j_lmul dX1_wasSeen_4 ?_
  refine j_bipush (v := 40) dX1_wasSeen_5 (by decide) ?_
  refine j_lushr dX1_wasSeen_7 ?_
  refine j_l2i dX1_wasSeen_8 ?_
  refine j_topi (oSl_eq mark).1 ?_
  refine j_istore_4 dX1_wasSeen_9 rfl ?_
  refine j_iconst (v := 0) dX1_wasSeen_11 (by decide) ?_
  refine j_istore_5 dX1_wasSeen_12 rfl ?_
  exact lp_seen hs 32 0 (μ, ν) none rfl ⟨rfl, rfl⟩

def oKp (m : jMem) (dp : Nat) (tr : Int32) : jMem := if tr < m 81 7 then rcp (jup (jup m 81 7 tr) 81 6 (nI dp)) 83 84 dp else m
set_option maxRecDepth 20000 in
theorem t_kp {G : jG} {N : Nat} {κ : Nat → jK} {ρ : Nat → Nat → Option Nat} {μ : Nat → Nat → Int32} {ν : Nat → Nat → Int64} (hs : shC N κ ρ) {dp : Nat} {tr : Int32} (hdp : dp ≤ 10) : MT G yX1_keepBest cX1_keepBest 3 none 1 0 0 [.ref 81, .int (nI dp), .int tr] (N, κ, ρ, μ, ν) none (N, κ, ρ, oKp μ dp tr, ν) := by
  refine jMT (ini := false) my_X1_keepBest (fun h => by cases h) jRv_v (Nat.le_of_ble_eq_true rfl) ?_
  show J G RX1 cX1_keepBest 3 false 1 _ 0 0 (N, κ, ρ, μ, ν) 0 [some (.ref 81), some (.int (nI dp)), some (.int tr)] []
  refine j_iload_n dX1_keepBest_0 rfl ?_
  refine j_aload_n dX1_keepBest_1 rfl ?_
  refine j_geti dX1_keepBest_2 fl_X1_35 rfl (o_81 hs) ?_
  refine k_icmp_lt (tgt := 9) dX1_keepBest_5 (by decide) (fun c5 c5' => ?_) (fun c5 c5' => ?_)
  · skip
    refine j_aload_n dX1_keepBest_9 rfl ?_
    refine j_iload_n dX1_keepBest_10 rfl ?_
    refine j_puti dX1_keepBest_11 fl_X1_35 rfl (o_81 hs) ?_
    refine j_aload_n dX1_keepBest_14 rfl ?_
    refine j_iload_n dX1_keepBest_15 rfl ?_
    refine j_puti dX1_keepBest_16 fl_X1_31 rfl (o_81 hs) ?_
    refine j_aload_n dX1_keepBest_19 rfl ?_
    refine j_getr dX1_keepBest_20 fl_X1_17 rfl (o_81 hs) (r_81_2 hs) ?_
    refine j_iconst (v := 0) dX1_keepBest_23 (by decide) ?_
    refine j_aload_n dX1_keepBest_24 rfl ?_
    refine j_getr dX1_keepBest_25 fl_X1_21 rfl (o_81 hs) (r_81_3 hs) ?_
    refine j_iconst (v := 0) dX1_keepBest_28 (by decide) ?_
    refine j_iload_n dX1_keepBest_29 rfl ?_
    refine j_copyi (k := dp) dX1_keepBest_30 ml_X1_91 (a_83 hs) (a_84 hs) rfl (by omega) (by omega) (by omega) (Nat.le_of_ble_eq_true rfl) ?_
    exact j_vret dX1_keepBest_33 ⟨rfl, by simp only [oKp, rcp, c5, c5', reduceIte, Bool.false_eq_true, Bool.true_eq_false, and_self, and_true, true_and, and_false, false_and, not_true_eq_false, not_false_eq_true, ne_eq, decide_true, decide_false, if_true, if_false, Bool.not_eq_true, Bool.not_eq_false]⟩
  · skip
    exact j_vret dX1_keepBest_8 ⟨rfl, by simp only [oKp, rcp, c5, c5', reduceIte, Bool.false_eq_true, Bool.true_eq_false, and_self, and_true, true_and, and_false, false_and, not_true_eq_false, not_false_eq_true, ne_eq, decide_true, decide_false, if_true, if_false, Bool.not_eq_true, Bool.not_eq_false]⟩

def oGo (p : Nat) : Nat → Nat → Int32 → jMem × jNu → jMem × jNu
  | 0, _, _, s => s
  | f + 1, dp, tr, s =>
    if tCD s.1 (87 + 6 * dp) p = s.1 9 0 then (oKp s.1 dp tr, s.2)
    else if 10 ≤ dp then s
    else if (oSn (oMk s.1 (87 + 6 * dp) p) tr 32 0 s).1 = true then (oSn (oMk s.1 (87 + 6 * dp) p) tr 32 0 s).2
    else it (fun w s => if tSt s.1 (87 + 6 * dp) w = true ∧ ¬ tFew s.1 (87 + 6 * dp) w = -4 ∧ tr + tFew s.1 (87 + 6 * dp) w < s.1 81 7 then
        oGo p f (dp + 1) (tr + tFew s.1 (87 + 6 * dp) w) (tBlM (tCp (jup s.1 83 dp (nI w)) (87 + 6 * (dp + 1)) (87 + 6 * dp)) (87 + 6 * (dp + 1)) p w (tFew s.1 (87 + 6 * dp) w), s.2) else s)
      p 0 (oSn (oMk s.1 (87 + 6 * dp) p) tr 32 0 s).2
def oBd (p f dp : Nat) (tr : Int32) : Nat → jMem × jNu → jMem × jNu := fun w s => if tSt s.1 (87 + 6 * dp) w = true ∧ ¬ tFew s.1 (87 + 6 * dp) w = -4 ∧ tr + tFew s.1 (87 + 6 * dp) w < s.1 81 7 then
        oGo p f (dp + 1) (tr + tFew s.1 (87 + 6 * dp) w) (tBlM (tCp (jup s.1 83 dp (nI w)) (87 + 6 * (dp + 1)) (87 + 6 * dp)) (87 + 6 * (dp + 1)) p w (tFew s.1 (87 + 6 * dp) w), s.2) else s
theorem oSn_lo (mark : Int64) (tr : Int32) {k j : Nat} (hk : k ≠ 86) : ∀ (n i : Nat) (s : jMem × jNu), (oSn mark tr n i s).2.1 k j = s.1 k j
  | 0, _, _ => rfl
  | n + 1, i, s => by
    rw [oSn]
    split
    · rfl
    · split
      · exact oSn_lo mark tr hk n (i + 1) s
      · exact jup_oth hk
theorem it_lo2 {f : Nat → jMem × jNu → jMem × jNu} {p k j : Nat} (h : ∀ i s, i < p → (f i s).1 k j = s.1 k j) : ∀ n i s, i + n = p → (it f n i s).1 k j = s.1 k j
  | 0, _, _, _ => rfl
  | n + 1, i, s, hp => by rw [it, it_lo2 h n (i + 1) (f i s) (by omega), h i s (by omega)]
theorem oKp_lo (m : jMem) (dp : Nat) (tr : Int32) {k j : Nat} (hk : k < 14) : oKp m dp tr k j = m k j := by
  unfold oKp rcp
  split
  · rw [jrow_at, if_neg (by omega), jup_oth (by omega), jup_oth (by omega)]
  · rfl
theorem oGo_lo (p : Nat) {k j : Nat} (hk : k < 14) : ∀ (f dp : Nat) (tr : Int32) (s : jMem × jNu), f + dp ≤ 11 → (oGo p f dp tr s).1 k j = s.1 k j
  | 0, _, _, _, _ => rfl
  | f + 1, dp, tr, s, hf => by
    rw [oGo]
    split
    · exact oKp_lo _ _ _ hk
    · split
      · rfl
      · split
        · exact oSn_lo _ _ (by omega) _ _ _
        · refine (it_lo2 (p := p) (fun i s hi => ?_) p 0 _ (by omega)).trans (oSn_lo _ _ (by omega) _ _ _)
          split
          · rw [oGo_lo p hk f (dp + 1) _ _ (by omega)]
            show tBlM _ _ _ _ _ k j = _
            rw [tBlM_lo (tw_s (by omega)) _ _ _ _ hk, tCp_lo (tw_s (by omega)) hk, jup_oth (by omega)]
          · rfl
set_option maxRecDepth 20000 in
theorem lp_go {G : jG} {N : Nat} {κ : Nat → jK} {ρ : Nat → Nat → Option Nat} {Q : Option Value → jH → Prop} {d : Nat} {p f dp : Nat} {s0 : jMem × jNu} {tr : Int32} (hs : shC N κ ρ) (hp : s0.1 9 0 = nI p) (hp5 : p ≤ 5) (hdp : dp < 11) (hdp9 : dp < 10) (hfd : f + 13 ≤ d) (hfdp : f + dp ≤ 9) (hG : ∀ (s : jMem × jNu) (tr : Int32), s.1 9 0 = nI p → MT G yX1_goOn cX1_goOn 6 none (f + 12) 0 0 [.ref 81, .int (nI (dp + 1)), .int tr] (N, κ, ρ, s.1, s.2) none (N, κ, ρ, (oGo p (f + 1) (dp + 1) tr s).1, (oGo p (f + 1) (dp + 1) tr s).2)) (K : J G RX1 cX1_goOn 6 false d Q 0 0 (N, κ, ρ, ((it (oBd p (f + 1) dp tr) p 0 s0)).1, ((it (oBd p (f + 1) dp tr) p 0 s0)).2) 157 [some (.ref 81), some (.int (nI dp)), some (.int tr), some (.ref (87 + 6 * dp)), some (.int (nI p)), none] []) : J G RX1 cX1_goOn 6 false d Q 0 0 (N, κ, ρ, (s0).1, (s0).2) 51 [some (.ref 81), some (.int (nI dp)), some (.int tr), some (.ref (87 + 6 * dp)), some (.int (nI 0)), none] [] := by
  refine it_loop (f := oBd p (f + 1) dp tr) (p := p) (fun i s => J G RX1 cX1_goOn 6 false d Q 0 0 (N, κ, ρ, (s).1, (s).2) 51 [some (.ref 81), some (.int (nI dp)), some (.int tr), some (.ref (87 + 6 * dp)), some (.int (nI i)), none] []) (fun s => J G RX1 cX1_goOn 6 false d Q 0 0 (N, κ, ρ, (s).1, (s).2) 157 [some (.ref 81), some (.int (nI dp)), some (.int tr), some (.ref (87 + 6 * dp)), some (.int (nI p)), none] []) (fun _ s => s.1 9 0 = nI p) ?_ ?_ (fun i s _ h => by unfold oBd; split; rw [oGo_lo p (by decide) _ _ _ _ (by omega)]; show tBlM _ _ _ _ _ 9 0 = _; rw [tBlM_lo (tw_s (by omega)) _ _ _ _ (by decide), tCp_lo (tw_s (by omega)) (by decide), jup_oth (by decide)]; exact h; exact h) p 0 s0 (by omega) hp K
  · intro s hI K
    replace hp := hI
    refine j_iload dX1_goOn_51 rfl ?_
    refine j_aload_n dX1_goOn_53 rfl ?_
    refine j_getr dX1_goOn_54 fl_X1_38 rfl (o_81 hs) (r_81_0 hs) ?_
    refine j_geti dX1_goOn_57 fl_X1_63 rfl (o_9 hs) ?_
    refine k_icmp_ge (tgt := 157) dX1_goOn_60 (by decide) (fun c60 c60' => ?_) (fun c60 c60' => ?_)
    · skip
      exact K
    · skip
      exact absurd (by rw [hp]; exact Int32.le_refl _) c60
  · intro i s hi hI K
    (try dsimp only at K)
    replace hp := hI
    unfold oBd at K
    (try dsimp only at K)
    refine j_iload dX1_goOn_51 rfl ?_
    refine j_aload_n dX1_goOn_53 rfl ?_
    refine j_getr dX1_goOn_54 fl_X1_38 rfl (o_81 hs) (r_81_0 hs) ?_
    refine j_geti dX1_goOn_57 fl_X1_63 rfl (o_9 hs) ?_
    refine k_icmp_ge (tgt := 157) dX1_goOn_60 (by decide) (fun c60 c60' => ?_) (fun c60 c60' => ?_)
    · skip
      exact absurd c60 (by rw [hp]; exact nI_ge (by omega) (by omega))
    · skip
      refine j_aload_n dX1_goOn_63 rfl ?_
      refine j_iload dX1_goOn_64 rfl ?_
      refine j_cV1r dX1_goOn_66 (t_stands (w := i) hs (tw_s hdp) (by omega)) ml_X1_79 my_X5_stands mi_X5_stands (tO hs (tw_s hdp)) rfl (by omega) (Nat.le_of_ble_eq_true rfl) (Nat.le_of_ble_eq_true rfl) ?_
      refine j_if_neB (tgt := 75) dX1_goOn_69 (by decide) (fun c69 => ?_) (fun c69 => ?_)
      · skip
        refine j_aload_n dX1_goOn_75 rfl ?_
        refine j_iload dX1_goOn_76 rfl ?_
        refine j_cV1r dX1_goOn_78 (t_few (w := i) hs (tw_s hdp) (by omega)) ml_X1_83 my_X5_fewestTrumpets mi_X5_fewestTrumpets (tO hs (tw_s hdp)) rfl (by omega) (Nat.le_of_ble_eq_true rfl) (Nat.le_of_ble_eq_true rfl) ?_
        refine j_istore_5 dX1_goOn_81 rfl ?_
        refine j_iload dX1_goOn_83 rfl ?_
        refine j_bipush (v := (-4)) dX1_goOn_85 (by decide) ?_
        refine j_icmp_eq (tgt := 151) dX1_goOn_87 (by decide) (fun c87 => ?_) (fun c87 => ?_)
        · skip
          rw [if_neg (fun z => z.2.1 c87)] at K
          refine j_iinc_4 (v := nI (i + 1)) dX1_goOn_151 (nI_add _ _) rfl ?_
          refine j_goto (tgt := 51) dX1_goOn_154 (by decide) ?_
          exact j_forget_5 K
        · skip
          refine j_iload_n dX1_goOn_90 rfl ?_
          refine j_iload dX1_goOn_91 rfl ?_
          refine j_iadd dX1_goOn_93 ?_
          refine j_aload_n dX1_goOn_94 rfl ?_
          refine j_geti dX1_goOn_95 fl_X1_35 rfl (o_81 hs) ?_
          refine k_icmp_lt (tgt := 104) dX1_goOn_98 (by decide) (fun c98 c98' => ?_) (fun c98 c98' => ?_)
          · skip
            rw [if_pos ⟨c69, c87, c98⟩] at K
            refine j_aload_n dX1_goOn_104 rfl ?_
            refine j_getr dX1_goOn_105 fl_X1_17 rfl (o_81 hs) (r_81_2 hs) ?_
            refine j_iload_n dX1_goOn_108 rfl ?_
            refine j_iload dX1_goOn_109 rfl ?_
            refine j_iast (k := dp) dX1_goOn_111 (a_83 hs) rfl (by omega) ?_
            refine j_aload_n dX1_goOn_112 rfl ?_
            refine j_getr dX1_goOn_113 fl_X1_11 rfl (o_81 hs) (r_81_1 hs) ?_
            refine j_iload_n dX1_goOn_116 rfl ?_
            refine j_iconst (v := 1) dX1_goOn_117 (by decide) ?_
            refine j_iadd dX1_goOn_118 ?_
            refine j_topi (nI_1 dp) ?_
            refine j_aald (k := (dp + 1)) dX1_goOn_119 (a_82 hs) rfl (by omega) (rp_82 hs (by omega)) ?_
            refine j_aload_n dX1_goOn_120 rfl ?_
            refine j_cV1v dX1_goOn_121 (t_copyFrom hs (tw_s (by omega)) (tw_s hdp)) ml_X1_51 my_X5_copyFrom mi_X5_copyFrom (tO hs (tw_s (by omega))) rfl (by omega) (Nat.le_of_ble_eq_true rfl) (Nat.le_of_ble_eq_true rfl) ?_
            refine j_aload_n dX1_goOn_124 rfl ?_
            refine j_getr dX1_goOn_125 fl_X1_11 rfl (o_81 hs) (r_81_1 hs) ?_
            refine j_iload_n dX1_goOn_128 rfl ?_
            refine j_iconst (v := 1) dX1_goOn_129 (by decide) ?_
            refine j_iadd dX1_goOn_130 ?_
            refine j_topi (nI_1 dp) ?_
            refine j_aald (k := (dp + 1)) dX1_goOn_131 (a_82 hs) rfl (by omega) (rp_82 hs (by omega)) ?_
            refine j_iload dX1_goOn_132 rfl ?_
            refine j_iload dX1_goOn_134 rfl ?_
            refine j_cV2r dX1_goOn_136 (t_blow (w := i) hs (tw_s (by omega)) (by rw [tCp_lo (tw_s (by omega)) (by decide), jup_oth (by decide)]; exact hp) hp5 (by omega)) ml_X1_87 my_X5_blow mi_X5_blow (tO hs (tw_s (by omega))) rfl (by omega) (Nat.le_of_ble_eq_true rfl) (Nat.le_of_ble_eq_true rfl) ?_
            refine j_pop dX1_goOn_139 rfl ?_
            refine j_aload_n dX1_goOn_140 rfl ?_
            refine j_iload_n dX1_goOn_141 rfl ?_
            refine j_iconst (v := 1) dX1_goOn_142 (by decide) ?_
            refine j_iadd dX1_goOn_143 ?_
            refine j_topi (nI_1 dp) ?_
            refine j_iload_n dX1_goOn_144 rfl ?_
            refine j_iload dX1_goOn_145 rfl ?_
            refine j_iadd dX1_goOn_147 ?_
            refine j_cV2v dX1_goOn_148 (hG (_, _) _ (by show tBlM _ _ _ _ _ 9 0 = _; rw [tBlM_lo (tw_s (by omega)) _ _ _ _ (by decide), tCp_lo (tw_s (by omega)) (by decide), jup_oth (by decide)]; exact hp)) ml_X1_55 my_X1_goOn mi_X1_goOn (o_81 hs) rfl (by omega) (Nat.le_of_ble_eq_true rfl) (Nat.le_of_ble_eq_true rfl) ?_
            refine j_iinc_4 (v := nI (i + 1)) dX1_goOn_151 (nI_add _ _) rfl ?_
            refine j_goto (tgt := 51) dX1_goOn_154 (by decide) ?_
            exact j_forget_5 K
          · skip
            rw [if_neg (fun z => c98 z.2.2)] at K
            refine j_goto (tgt := 151) dX1_goOn_101 (by decide) ?_
            refine j_iinc_4 (v := nI (i + 1)) dX1_goOn_151 (nI_add _ _) rfl ?_
            refine j_goto (tgt := 51) dX1_goOn_154 (by decide) ?_
            exact j_forget_5 K
      · skip
        rw [if_neg (by rw [c69]; simp)] at K
        refine j_goto (tgt := 151) dX1_goOn_72 (by decide) ?_
        refine j_iinc_4 (v := nI (i + 1)) dX1_goOn_151 (nI_add _ _) rfl ?_
        refine j_goto (tgt := 51) dX1_goOn_154 (by decide) ?_
        exact j_forget_5 K

set_option maxRecDepth 20000 in
theorem t_goOn {G : jG} {N : Nat} {κ : Nat → jK} {ρ : Nat → Nat → Option Nat} {p : Nat} (hs : shC N κ ρ) (hp5 : p ≤ 5) : ∀ (f dp : Nat) (tr : Int32) (s : jMem × jNu), f + dp = 10 → s.1 9 0 = nI p → MT G yX1_goOn cX1_goOn 6 none (f + 12) 0 0 [.ref 81, .int (nI dp), .int tr] (N, κ, ρ, s.1, s.2) none (N, κ, ρ, (oGo p (f + 1) dp tr s).1, (oGo p (f + 1) dp tr s).2)
  | 0, dp, tr, s, hfd, hp => by
    have hdp : dp < 11 := by omega
    refine jMT (ini := false) my_X1_goOn (fun h => by cases h) jRv_v (Nat.le_of_ble_eq_true rfl) ?_
    show J G RX1 cX1_goOn 6 false (0 + 12) _ 0 0 (N, κ, ρ, s.1, s.2) 0 [some (.ref 81), some (.int (nI dp)), some (.int tr), none, none, none] []
    generalize hQe : (fun (v' : Option Value) (h'' : jH) => v' = none ∧ h'' = (N, κ, ρ, (oGo p (0 + 1) dp tr s).1, (oGo p (0 + 1) dp tr s).2)) = Q
    have hQ : Q none (N, κ, ρ, (oGo p (0 + 1) dp tr s).1, (oGo p (0 + 1) dp tr s).2) := by rw [← hQe]; exact ⟨rfl, rfl⟩
    clear hQe
    rw [oGo] at hQ
    refine j_aload_n dX1_goOn_0 rfl ?_
    refine j_getr dX1_goOn_1 fl_X1_11 rfl (o_81 hs) (r_81_1 hs) ?_
    refine j_iload_n dX1_goOn_4 rfl ?_
    refine j_aald (k := dp) dX1_goOn_5 (a_82 hs) rfl hdp (rp_82 hs hdp) ?_
    refine j_astore_3 dX1_goOn_6 rfl ?_
    refine j_aload_n dX1_goOn_7 rfl ?_
    refine j_cV0r dX1_goOn_8 (t_countDown hs (tw_s hdp) hp hp5) ml_X1_59 my_X5_countDown mi_X5_countDown (tO hs (tw_s hdp)) rfl (by omega) (Nat.le_of_ble_eq_true rfl) (Nat.le_of_ble_eq_true rfl) ?_
    refine j_aload_n dX1_goOn_11 rfl ?_
    refine j_getr dX1_goOn_12 fl_X1_38 rfl (o_81 hs) (r_81_0 hs) ?_
    refine j_geti dX1_goOn_15 fl_X1_63 rfl (o_9 hs) ?_
    refine j_icmp_ne (tgt := 28) dX1_goOn_18 (by decide) (fun c18 => ?_) (fun c18 => ?_)
    · skip
      rw [if_neg c18] at hQ
      refine j_iload_n dX1_goOn_28 rfl ?_
      refine j_bipush (v := 10) dX1_goOn_29 (by decide) ?_
      refine k_icmp_ge (tgt := 47) dX1_goOn_31 (by decide) (fun c31 c31' => ?_) (fun c31 c31' => ?_)
      · skip
        rw [if_pos (by omega)] at hQ
        exact j_vret dX1_goOn_47 hQ
      · skip
        exact absurd (by rw [show (10 : Int32) = nI 10 from rfl]; exact nI_le (by omega) (by omega)) c31
    · skip
      rw [if_pos c18] at hQ
      refine j_aload_n dX1_goOn_21 rfl ?_
      refine j_iload_n dX1_goOn_22 rfl ?_
      refine j_iload_n dX1_goOn_23 rfl ?_
      refine j_cV2v dX1_goOn_24 (t_kp (dp := dp) hs (by omega)) ml_X1_68 my_X1_keepBest mi_X1_keepBest (o_81 hs) rfl (by omega) (Nat.le_of_ble_eq_true rfl) (Nat.le_of_ble_eq_true rfl) ?_
      exact j_vret dX1_goOn_27 hQ
  | f + 1, dp, tr, s, hfd, hp => by
    have hdp : dp < 11 := by omega
    have hG : ∀ (s : jMem × jNu) (tr : Int32), s.1 9 0 = nI p → MT G yX1_goOn cX1_goOn 6 none (f + 12) 0 0 [.ref 81, .int (nI (dp + 1)), .int tr] (N, κ, ρ, s.1, s.2) none (N, κ, ρ, (oGo p (f + 1) (dp + 1) tr s).1, (oGo p (f + 1) (dp + 1) tr s).2) := fun s tr h => t_goOn hs hp5 f (dp + 1) tr s (by omega) h
    refine jMT (ini := false) my_X1_goOn (fun h => by cases h) jRv_v (Nat.le_of_ble_eq_true rfl) ?_
    show J G RX1 cX1_goOn 6 false (f + 1 + 12) _ 0 0 (N, κ, ρ, s.1, s.2) 0 [some (.ref 81), some (.int (nI dp)), some (.int tr), none, none, none] []
    generalize hQe : (fun (v' : Option Value) (h'' : jH) => v' = none ∧ h'' = (N, κ, ρ, (oGo p (f + 1 + 1) dp tr s).1, (oGo p (f + 1 + 1) dp tr s).2)) = Q
    have hQ : Q none (N, κ, ρ, (oGo p (f + 1 + 1) dp tr s).1, (oGo p (f + 1 + 1) dp tr s).2) := by rw [← hQe]; exact ⟨rfl, rfl⟩
    clear hQe
    rw [oGo] at hQ
    refine j_aload_n dX1_goOn_0 rfl ?_
    refine j_getr dX1_goOn_1 fl_X1_11 rfl (o_81 hs) (r_81_1 hs) ?_
    refine j_iload_n dX1_goOn_4 rfl ?_
    refine j_aald (k := dp) dX1_goOn_5 (a_82 hs) rfl hdp (rp_82 hs hdp) ?_
    refine j_astore_3 dX1_goOn_6 rfl ?_
    refine j_aload_n dX1_goOn_7 rfl ?_
    refine j_cV0r dX1_goOn_8 (t_countDown hs (tw_s hdp) hp hp5) ml_X1_59 my_X5_countDown mi_X5_countDown (tO hs (tw_s hdp)) rfl (by omega) (Nat.le_of_ble_eq_true rfl) (Nat.le_of_ble_eq_true rfl) ?_
    refine j_aload_n dX1_goOn_11 rfl ?_
    refine j_getr dX1_goOn_12 fl_X1_38 rfl (o_81 hs) (r_81_0 hs) ?_
    refine j_geti dX1_goOn_15 fl_X1_63 rfl (o_9 hs) ?_
    refine j_icmp_ne (tgt := 28) dX1_goOn_18 (by decide) (fun c18 => ?_) (fun c18 => ?_)
    · skip
      rw [if_neg c18] at hQ
      refine j_iload_n dX1_goOn_28 rfl ?_
      refine j_bipush (v := 10) dX1_goOn_29 (by decide) ?_
      refine k_icmp_ge (tgt := 47) dX1_goOn_31 (by decide) (fun c31 c31' => ?_) (fun c31 c31' => ?_)
      · skip
        exact absurd c31 (by rw [show (10 : Int32) = nI 10 from rfl]; exact nI_ge (by omega) (by omega))
      · skip
        rw [if_neg (by omega)] at hQ
        refine j_aload_n dX1_goOn_34 rfl ?_
        refine j_aload_n dX1_goOn_35 rfl ?_
        refine j_aload_n dX1_goOn_36 rfl ?_
        refine j_cV1r dX1_goOn_37 (t_mark hs (tw_s hdp) hp hp5) ml_X1_71 my_X1_markOf mi_X1_markOf (o_81 hs) rfl (by omega) (Nat.le_of_ble_eq_true rfl) (Nat.le_of_ble_eq_true rfl) ?_
        refine j_iload_n dX1_goOn_40 rfl ?_
        refine j_cV2r dX1_goOn_41 (t_seen hs) ml_X1_75 my_X1_wasSeen mi_X1_wasSeen (o_81 hs) rfl (by omega) (Nat.le_of_ble_eq_true rfl) (Nat.le_of_ble_eq_true rfl) ?_
        refine j_if_eqB (tgt := 48) dX1_goOn_44 (by decide) (fun c44 => ?_) (fun c44 => ?_)
        · skip
          rw [if_neg (by rw [c44]; simp)] at hQ
          refine j_iconst (v := 0) dX1_goOn_48 (by decide) ?_
          refine j_istore_4 dX1_goOn_49 rfl ?_
          refine lp_go (s0 := (oSn (oMk s.1 (87 + 6 * dp) p) tr 32 0 s).2) hs (by rw [oSn_lo _ _ (by decide)]; exact hp) hp5 hdp (by omega) (by omega) (by omega) hG ?_
          exact j_vret dX1_goOn_157 hQ
        · skip
          rw [if_pos c44] at hQ
          exact j_vret dX1_goOn_47 hQ
    · skip
      rw [if_pos c18] at hQ
      refine j_aload_n dX1_goOn_21 rfl ?_
      refine j_iload_n dX1_goOn_22 rfl ?_
      refine j_iload_n dX1_goOn_23 rfl ?_
      refine j_cV2v dX1_goOn_24 (t_kp (dp := dp) hs (by omega)) ml_X1_68 my_X1_keepBest mi_X1_keepBest (o_81 hs) rfl (by omega) (Nat.le_of_ble_eq_true rfl) (Nat.le_of_ble_eq_true rfl) ?_
      exact j_vret dX1_goOn_27 hQ

def oRun (μ : jMem) (ν : jNu) (p : Nat) : jMem × jNu := oGo p 11 0 0 (tCp (jup (jup μ 81 6 0) 81 7 1000) (87 + 6 * 0) 14, jrow ν 85 (fun j => if j < 1024 then 0 else ν 85 j))
set_option maxRecDepth 20000 in
theorem t_run {G : jG} {N : Nat} {κ : Nat → jK} {ρ : Nat → Nat → Option Nat} {μ : Nat → Nat → Int32} {ν : Nat → Nat → Int64} (hs : shC N κ ρ) {p : Nat} (hp : μ 9 0 = nI p) (hp5 : p ≤ 5) : MT G yX1_run cX1_run 2 none 23 0 0 [.ref 81, .ref 14] (N, κ, ρ, μ, ν) none (N, κ, ρ, (oRun μ ν p).1, (oRun μ ν p).2) := by
  refine jMT (ini := false) my_X1_run (fun h => by cases h) jRv_v (Nat.le_of_ble_eq_true rfl) ?_
  show J G RX1 cX1_run 2 false 23 _ 0 0 (N, κ, ρ, μ, ν) 0 [some (.ref 81), some (.ref 14)] []
  have hpr : (tCp (jup (jup μ 81 6 0) 81 7 1000) (87 + 6 * 0) 14, jrow ν 85 (fun j => if j < 1024 then (0 : Int64) else ν 85 j)).1 9 0 = nI p := by dsimp only; rw [tCp_lo (tw_s (by decide)) (by decide), jup_oth (by decide), jup_oth (by decide)]; exact hp
  refine j_aload_n dX1_run_0 rfl ?_
  refine j_iconst (v := 0) dX1_run_1 (by decide) ?_
  refine j_puti dX1_run_2 fl_X1_31 rfl (o_81 hs) ?_
  refine j_aload_n dX1_run_5 rfl ?_
  refine j_sipush (v := 1000) dX1_run_6 (by decide) ?_
  refine j_puti dX1_run_9 fl_X1_35 rfl (o_81 hs) ?_
  refine j_aload_n dX1_run_12 rfl ?_
  refine j_getr dX1_run_13 fl_X1_24 rfl (o_81 hs) (r_81_4 hs) ?_
  refine j_lconst (v := 0) dX1_run_16 (by decide) ?_
  refine j_cS2v dX1_run_17 (t_fillL (a_85 hs)) ml_X1_45 my_J7_fill_d0a16 ms_J7_fill_d0a16 (by omega) (Nat.le_of_ble_eq_true rfl) (Nat.le_of_ble_eq_true rfl) ?_
  refine j_aload_n dX1_run_20 rfl ?_
  refine j_getr dX1_run_21 fl_X1_11 rfl (o_81 hs) (r_81_1 hs) ?_
  refine j_iconst (v := 0) dX1_run_24 (by decide) ?_
  refine j_aald (k := 0) dX1_run_25 (a_82 hs) rfl (by decide) (rp_82 hs (by decide)) ?_
  refine j_aload_n dX1_run_26 rfl ?_
  refine j_cV1v dX1_run_27 (t_copyFrom hs (tw_s (by decide)) twn_14) ml_X1_51 my_X5_copyFrom mi_X5_copyFrom (tO hs (tw_s (by decide))) rfl (by omega) (Nat.le_of_ble_eq_true rfl) (Nat.le_of_ble_eq_true rfl) ?_
  refine j_aload_n dX1_run_30 rfl ?_
  refine j_iconst (v := 0) dX1_run_31 (by decide) ?_
  refine j_iconst (v := 0) dX1_run_32 (by decide) ?_
  refine j_cV2v dX1_run_33 (t_goOn hs hp5 10 0 0 (_, _) rfl hpr) ml_X1_55 my_X1_goOn mi_X1_goOn (o_81 hs) rfl (by omega) (Nat.le_of_ble_eq_true rfl) (Nat.le_of_ble_eq_true rfl) ?_
  exact j_vret dX1_run_36 ⟨rfl, rfl⟩

def cOrdV (m : jMem) (k : Int32) : Int32 := if m 81 7 = 1000 then -4 else if k = -1 then m 81 7 else if k < m 81 6 then m 84 k.toNatClampNeg else -4
def cOrder (μ : jMem) (ν : jNu) (p : Nat) (k : Int32) : Int32 × (jMem × jNu) := if xOut k (-1) 9 = true then (-1, (μ, ν)) else (cOrdV (oRun μ ν p).1 k, oRun μ ν p)
theorem ord_in {k : Int32} (h : xOut k (-1) 9 = false) (h1 : ¬ k = -1) : ∃ i, i < 10 ∧ k = nI i := by
  simp only [xOut, decide_eq_false_iff_not, not_or] at h
  obtain ⟨h2, h3⟩ := h
  have a1 := Int32.not_lt.mp h2
  have a2 := Int32.not_lt.mp h3
  rw [Int32.le_iff_toInt_le] at a1 a2
  have e1 : (-1 : Int32).toInt = -1 := by decide
  have e2 : (9 : Int32).toInt = 9 := by decide
  have h0 : ¬ k < 0 := by
    intro z
    rw [Int32.lt_iff_toInt_lt] at z
    have e0 : (0 : Int32).toInt = 0 := by decide
    have : k.toInt = (-1 : Int32).toInt := by omega
    exact h1 (Int32.toInt_inj.mp this)
  obtain ⟨i, hi, rfl⟩ := nI_of h0
  rw [nI_toInt hi] at a2
  exact ⟨i, by omega, rfl⟩
set_option maxRecDepth 20000 in
theorem t_order {G : jG} {N : Nat} {κ : Nat → jK} {ρ : Nat → Nat → Option Nat} {μ : Nat → Nat → Int32} {ν : Nat → Nat → Int64} (hs : shC N κ ρ) {p : Nat} (hp : μ 9 0 = nI p) (hp5 : p ≤ 5) {k : Int32} : MT G yX6_order cX6_order 2 (some .int) 24 0 0 [.ref 0, .int k] (N, κ, ρ, μ, ν) (some (.int (cOrder μ ν p k).1)) (N, κ, ρ, (cOrder μ ν p k).2.1, (cOrder μ ν p k).2.2) := by
  refine jMT (ini := false) my_X6_order (fun h => by cases h) (jRv_i _) (Nat.le_of_ble_eq_true rfl) ?_
  show J G RX6 cX6_order 2 false 24 _ 0 0 (N, κ, ρ, μ, ν) 0 [some (.ref 0), some (.int k)] []
  generalize hQe : (fun (v' : Option Value) (h'' : jH) => v' = (some (.int (cOrder μ ν p k).1)) ∧ h'' = (N, κ, ρ, (cOrder μ ν p k).2.1, (cOrder μ ν p k).2.2)) = Q
  have hQ : Q (some (.int (cOrder μ ν p k).1)) (N, κ, ρ, (cOrder μ ν p k).2.1, (cOrder μ ν p k).2.2) := by rw [← hQe]; exact ⟨rfl, rfl⟩
  clear hQe
  refine j_iload_n dX6_order_0 rfl ?_
  refine j_iconst (v := (-1)) dX6_order_1 (by decide) ?_
  refine j_bipush (v := 9) dX6_order_2 (by decide) ?_
  refine j_cS3r dX6_order_4 t_out ml_X6_142 my_X6_isOutside ms_X6_isOutside (by omega) (Nat.le_of_ble_eq_true rfl) (Nat.le_of_ble_eq_true rfl) ?_
  refine j_if_eqB (tgt := 12) dX6_order_7 (by decide) (fun c7 => ?_) (fun c7 => ?_)
  · skip
    refine j_aload_n dX6_order_12 rfl ?_
    refine j_getr dX6_order_13 fl_X6_63 rfl (o_0 hs) (r_0_9 hs) ?_
    refine j_aload_n dX6_order_16 rfl ?_
    refine j_getr dX6_order_17 fl_X6_31 rfl (o_0 hs) (r_0_3 hs) ?_
    refine j_cV1v dX6_order_20 (t_run hs hp hp5) ml_X6_182 my_X1_run mi_X1_run (o_81 hs) rfl (by omega) (Nat.le_of_ble_eq_true rfl) (Nat.le_of_ble_eq_true rfl) ?_
    refine j_aload_n dX6_order_23 rfl ?_
    refine j_getr dX6_order_24 fl_X6_63 rfl (o_0 hs) (r_0_9 hs) ?_
    refine j_geti dX6_order_27 fl_X6_185 rfl (o_81 hs) ?_
    refine j_sipush (v := 1000) dX6_order_30 (by decide) ?_
    refine j_icmp_ne (tgt := 39) dX6_order_33 (by decide) (fun c33 => ?_) (fun c33 => ?_)
    · skip
      refine j_iload_n dX6_order_39 rfl ?_
      refine j_iconst (v := (-1)) dX6_order_40 (by decide) ?_
      refine j_icmp_ne (tgt := 52) dX6_order_41 (by decide) (fun c41 => ?_) (fun c41 => ?_)
      · skip
        obtain ⟨i, hi, rfl⟩ := ord_in c7 c41
        have ei : (nI i).toNatClampNeg = i := nI_clamp (by omega)
        refine j_iload_n dX6_order_52 rfl ?_
        refine j_aload_n dX6_order_53 rfl ?_
        refine j_getr dX6_order_54 fl_X6_63 rfl (o_0 hs) (r_0_9 hs) ?_
        refine j_geti dX6_order_57 fl_X6_188 rfl (o_81 hs) ?_
        refine k_icmp_ge (tgt := 75) dX6_order_60 (by decide) (fun c60 c60' => ?_) (fun c60 c60' => ?_)
        · skip
          refine j_bipush (v := (-4)) dX6_order_75 (by decide) ?_
          exact j_iret dX6_order_77 (by simpa only [cOrder, cOrdV, c7, c33, c41, ei, c60, c60', reduceIte, Bool.false_eq_true, Bool.true_eq_false, and_self, and_true, true_and, and_false, false_and, not_true_eq_false, not_false_eq_true, ne_eq, decide_true, decide_false, if_true, if_false, Bool.not_eq_true, Bool.not_eq_false] using hQ)
        · skip
          refine j_aload_n dX6_order_63 rfl ?_
          refine j_getr dX6_order_64 fl_X6_63 rfl (o_0 hs) (r_0_9 hs) ?_
          refine j_getr dX6_order_67 fl_X6_189 rfl (o_81 hs) (r_81_3 hs) ?_
          refine j_iload_n dX6_order_70 rfl ?_
          refine j_iald (k := i) dX6_order_71 (a_84 hs) rfl (by omega) ?_
          refine j_goto (tgt := 77) dX6_order_72 (by decide) ?_
          exact j_iret dX6_order_77 (by simpa only [cOrder, cOrdV, c7, c33, c41, ei, c60, c60', reduceIte, Bool.false_eq_true, Bool.true_eq_false, and_self, and_true, true_and, and_false, false_and, not_true_eq_false, not_false_eq_true, ne_eq, decide_true, decide_false, if_true, if_false, Bool.not_eq_true, Bool.not_eq_false] using hQ)
      · skip
        refine j_aload_n dX6_order_44 rfl ?_
        refine j_getr dX6_order_45 fl_X6_63 rfl (o_0 hs) (r_0_9 hs) ?_
        refine j_geti dX6_order_48 fl_X6_185 rfl (o_81 hs) ?_
        exact j_iret dX6_order_51 (by simpa only [cOrder, cOrdV, c7, c33, eq_true c41, reduceIte, Bool.false_eq_true, Bool.true_eq_false, and_self, and_true, true_and, and_false, false_and, not_true_eq_false, not_false_eq_true, ne_eq, decide_true, decide_false, if_true, if_false, Bool.not_eq_true, Bool.not_eq_false] using hQ)
    · skip
      refine j_bipush (v := (-4)) dX6_order_36 (by decide) ?_
      exact j_iret dX6_order_38 (by simpa only [cOrder, cOrdV, c7, eq_true c33, reduceIte, Bool.false_eq_true, Bool.true_eq_false, and_self, and_true, true_and, and_false, false_and, not_true_eq_false, not_false_eq_true, ne_eq, decide_true, decide_false, if_true, if_false, Bool.not_eq_true, Bool.not_eq_false] using hQ)
  · skip
    refine j_iconst (v := (-1)) dX6_order_10 (by decide) ?_
    exact j_iret dX6_order_11 (by simpa only [cOrder, cOrdV, c7, reduceIte, Bool.false_eq_true, Bool.true_eq_false, and_self, and_true, true_and, and_false, false_and, not_true_eq_false, not_false_eq_true, ne_eq, decide_true, decide_false, if_true, if_false, Bool.not_eq_true, Bool.not_eq_false] using hQ)

