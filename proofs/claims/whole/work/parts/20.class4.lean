def cBuI (h : Nat) (bh : Int32) : Nat → Int32 × Int32 → Int32 × Int32 := fun s q =>
  if bh - nI s * 5 - (bh - nI s * 5) / 3 * 3 = 0 then (q.1 + 1, if q.2 = -4 ∨ nI h + nI s + (bh - nI s * 5) / 3 < q.2 then nI h + nI s + (bh - nI s * 5) / 3 else q.2) else q
def cBuO (S : Nat) : Nat → Int32 × Int32 → Int32 × Int32 := fun h q => it (cBuI h (nI S - nI h * 8)) ((S - h * 8) / 5 + 1) 0 q
def cBuilt (μ : jMem) (what : Int32) : Int32 × jMem := if xOut what 0 1 = true then (-1, μ) else
  (if what = 0 then (it (cBuO (μ 14 6).toNatClampNeg) ((μ 14 6).toNatClampNeg / 8 + 1) 0 (0, -4)).1 else (it (cBuO (μ 14 6).toNatClampNeg) ((μ 14 6).toNatClampNeg / 8 + 1) 0 (0, -4)).2, μ)
theorem mul_nI (i k : Nat) : nI i * nI k = nI (i * k) := pk_mul i k
theorem blt_in {i S k : Nat} (hk : 0 < k) (hk2 : k < 100) (hS : S < 100000) (hi : i < S / k + 1) : ¬ nI S < nI i * nI k := by
  rw [pk_mul]
  have h1 : i ≤ S / k := by omega
  have h2 : i * k ≤ S := Nat.le_trans (Nat.mul_le_mul_right k h1) (Nat.div_mul_le_self S k)
  exact nI_nlt h2 (by omega)
theorem blt_out {S k : Nat} (hk : 0 < k) (hk2 : k < 100) (hS : S < 100000) : nI S < nI (S / k + 1) * nI k := by
  rw [pk_mul]
  have h2 : S < (S / k + 1) * k := by rw [Nat.add_mul, Nat.one_mul]; have := Nat.mod_lt S hk; have := Nat.div_add_mod S k; rw [Nat.mul_comm] at this; omega
  have h3 : (S / k + 1) * k ≤ S + k := by rw [Nat.add_mul, Nat.one_mul]; have := Nat.div_mul_le_self S k; omega
  exact nI_lt h2 (by omega)
set_option maxRecDepth 20000 in
theorem lp_buI {G : jG} {N : Nat} {κ : Nat → jK} {ρ : Nat → Nat → Option Nat} {ν : Nat → Nat → Int64} {Q : Option Value → jH → Prop} {d : Nat} {h B : Nat} {μ : jMem} {q0 : Int32 × Int32} {what : Int32} (hs : shC N κ ρ) (hB : B < 100000) (K : J G RX6 cX6_built 9 false d Q 0 0 (N, κ, ρ, μ, ν) 116 [some (.ref 0), some (.int what), some (.int ((it (cBuI h (nI B)) (B / 5 + 1) 0 q0)).1), some (.int ((it (cBuI h (nI B)) (B / 5 + 1) 0 q0)).2), some (.int (nI h)), some (.int (nI B)), some (.int (nI (B / 5 + 1))), none, none] []) : J G RX6 cX6_built 9 false d Q 0 0 (N, κ, ρ, μ, ν) 52 [some (.ref 0), some (.int what), some (.int (q0).1), some (.int (q0).2), some (.int (nI h)), some (.int (nI B)), some (.int (nI 0)), none, none] [] := by
  refine it_loop (f := cBuI h (nI B)) (p := (B / 5 + 1)) (fun i s => J G RX6 cX6_built 9 false d Q 0 0 (N, κ, ρ, μ, ν) 52 [some (.ref 0), some (.int what), some (.int (s).1), some (.int (s).2), some (.int (nI h)), some (.int (nI B)), some (.int (nI i)), none, none] []) (fun s => J G RX6 cX6_built 9 false d Q 0 0 (N, κ, ρ, μ, ν) 116 [some (.ref 0), some (.int what), some (.int (s).1), some (.int (s).2), some (.int (nI h)), some (.int (nI B)), some (.int (nI (B / 5 + 1))), none, none] []) (fun _ _ => True) ?_ ?_ (fun _ _ _ _ => trivial) (B / 5 + 1) 0 q0 (by omega) trivial K
  · intro s hI K
    refine j_iload dX6_built_52 rfl ?_
    refine j_iconst (v := 5) dX6_built_54 (by decide) ?_
    refine j_imul dX6_built_55 ?_
    refine j_iload dX6_built_56 rfl ?_
    refine k_icmp_gt (tgt := 116) dX6_built_58 (by decide) (fun c58 c58' => ?_) (fun c58 c58' => ?_)
    · skip
      exact K
    · skip
      exact absurd (blt_out (k := 5) (by decide) (by decide) hB) c58
  · intro i s hi hI K
    (try dsimp only at K)
    unfold cBuI at K
    (try dsimp only at K)
    refine j_iload dX6_built_52 rfl ?_
    refine j_iconst (v := 5) dX6_built_54 (by decide) ?_
    refine j_imul dX6_built_55 ?_
    refine j_iload dX6_built_56 rfl ?_
    refine k_icmp_gt (tgt := 116) dX6_built_58 (by decide) (fun c58 c58' => ?_) (fun c58 c58' => ?_)
    · skip
      exact absurd c58 (blt_in (k := 5) (by decide) (by decide) hB hi)
    · skip
      refine j_iload dX6_built_61 rfl ?_
      refine j_iload dX6_built_63 rfl ?_
      refine j_iconst (v := 5) dX6_built_65 (by decide) ?_
      refine j_imul dX6_built_66 ?_
      refine j_isub dX6_built_67 ?_
      refine j_istore_7 dX6_built_68 rfl ?_
      refine j_iload dX6_built_70 rfl ?_
      refine j_iconst (v := 3) dX6_built_72 (by decide) ?_
      refine j_irem dX6_built_73 (by decide) ?_
      refine j_if_eq (tgt := 80) dX6_built_74 (by decide) (fun c74 => ?_) (fun c74 => ?_)
      · skip
        refine j_iload dX6_built_80 rfl ?_
        refine j_iload dX6_built_82 rfl ?_
        refine j_iadd dX6_built_84 ?_
        refine j_iload dX6_built_85 rfl ?_
        refine j_iconst (v := 3) dX6_built_87 (by decide) ?_
        refine j_idiv dX6_built_88 (by decide) ?_
        refine j_iadd dX6_built_89 ?_
        refine j_istore_8 dX6_built_90 rfl ?_
        refine j_iinc_2 dX6_built_92 rfl rfl ?_
        refine j_iload_n dX6_built_95 rfl ?_
        refine j_bipush (v := (-4)) dX6_built_96 (by decide) ?_
        refine j_icmp_eq (tgt := 107) dX6_built_98 (by decide) (fun c98 => ?_) (fun c98 => ?_)
        · skip
          refine j_iload dX6_built_107 rfl ?_
          refine j_istore_3 dX6_built_109 rfl ?_
          refine j_iinc_6 (v := nI (i + 1)) dX6_built_110 (nI_add _ _) rfl ?_
          refine j_goto (tgt := 52) dX6_built_113 (by decide) ?_
          (try simp only [c58, c58', eq_true c74, eq_true c98, reduceIte, Bool.false_eq_true, Bool.true_eq_false, and_self, and_true, true_and, and_false, false_and, not_true_eq_false, not_false_eq_true, ne_eq, decide_true, decide_false, if_true, if_false, Bool.not_eq_true, Bool.not_eq_false, true_or, or_true, or_self, or_false, false_or] at K)
          exact j_forget_7 (j_forget_8 K)
        · skip
          refine j_iload dX6_built_101 rfl ?_
          refine j_iload_n dX6_built_103 rfl ?_
          refine k_icmp_ge (tgt := 110) dX6_built_104 (by decide) (fun c104 c104' => ?_) (fun c104 c104' => ?_)
          · skip
            refine j_iinc_6 (v := nI (i + 1)) dX6_built_110 (nI_add _ _) rfl ?_
            refine j_goto (tgt := 52) dX6_built_113 (by decide) ?_
            (try simp only [c58, c58', eq_true c74, c98, c104, c104', reduceIte, Bool.false_eq_true, Bool.true_eq_false, and_self, and_true, true_and, and_false, false_and, not_true_eq_false, not_false_eq_true, ne_eq, decide_true, decide_false, if_true, if_false, Bool.not_eq_true, Bool.not_eq_false, true_or, or_true, or_self, or_false, false_or] at K)
            exact j_forget_7 (j_forget_8 K)
          · skip
            refine j_iload dX6_built_107 rfl ?_
            refine j_istore_3 dX6_built_109 rfl ?_
            refine j_iinc_6 (v := nI (i + 1)) dX6_built_110 (nI_add _ _) rfl ?_
            refine j_goto (tgt := 52) dX6_built_113 (by decide) ?_
            (try simp only [c58, c58', eq_true c74, c98, c104, c104', reduceIte, Bool.false_eq_true, Bool.true_eq_false, and_self, and_true, true_and, and_false, false_and, not_true_eq_false, not_false_eq_true, ne_eq, decide_true, decide_false, if_true, if_false, Bool.not_eq_true, Bool.not_eq_false, true_or, or_true, or_self, or_false, false_or] at K)
            exact j_forget_7 (j_forget_8 K)
      · skip
        refine j_goto (tgt := 110) dX6_built_77 (by decide) ?_
        refine j_iinc_6 (v := nI (i + 1)) dX6_built_110 (nI_add _ _) rfl ?_
        refine j_goto (tgt := 52) dX6_built_113 (by decide) ?_
        (try simp only [c58, c58', c74, reduceIte, Bool.false_eq_true, Bool.true_eq_false, and_self, and_true, true_and, and_false, false_and, not_true_eq_false, not_false_eq_true, ne_eq, decide_true, decide_false, if_true, if_false, Bool.not_eq_true, Bool.not_eq_false, true_or, or_true, or_self, or_false, false_or] at K)
        exact j_forget_7 (j_forget_8 K)

set_option maxRecDepth 20000 in
theorem lp_buO {G : jG} {N : Nat} {κ : Nat → jK} {ρ : Nat → Nat → Option Nat} {ν : Nat → Nat → Int64} {Q : Option Value → jH → Prop} {d : Nat} {S : Nat} {μ : jMem} {q0 : Int32 × Int32} {what : Int32} (hs : shC N κ ρ) (hS : μ 14 6 = nI S) (hS2 : S < 100000) (K : J G RX6 cX6_built 9 false d Q 0 0 (N, κ, ρ, μ, ν) 122 [some (.ref 0), some (.int what), some (.int ((it (cBuO S) (S / 8 + 1) 0 q0)).1), some (.int ((it (cBuO S) (S / 8 + 1) 0 q0)).2), some (.int (nI (S / 8 + 1))), none, none, none, none] []) : J G RX6 cX6_built 9 false d Q 0 0 (N, κ, ρ, μ, ν) 19 [some (.ref 0), some (.int what), some (.int (q0).1), some (.int (q0).2), some (.int (nI 0)), none, none, none, none] [] := by
  refine it_loop (f := cBuO S) (p := (S / 8 + 1)) (fun i s => J G RX6 cX6_built 9 false d Q 0 0 (N, κ, ρ, μ, ν) 19 [some (.ref 0), some (.int what), some (.int (s).1), some (.int (s).2), some (.int (nI i)), none, none, none, none] []) (fun s => J G RX6 cX6_built 9 false d Q 0 0 (N, κ, ρ, μ, ν) 122 [some (.ref 0), some (.int what), some (.int (s).1), some (.int (s).2), some (.int (nI (S / 8 + 1))), none, none, none, none] []) (fun _ _ => True) ?_ ?_ (fun _ _ _ _ => trivial) (S / 8 + 1) 0 q0 (by omega) trivial K
  · intro s hI K
    refine j_iload dX6_built_19 rfl ?_
    refine j_bipush (v := 8) dX6_built_21 (by decide) ?_
    refine j_imul dX6_built_23 ?_
    refine j_aload_n dX6_built_24 rfl ?_
    refine j_getr dX6_built_25 fl_X6_31 rfl (o_0 hs) (r_0_3 hs) ?_
    refine j_geti dX6_built_28 fl_X6_159 rfl (tO hs twn_14) ?_
    refine k_icmp_gt (tgt := 122) dX6_built_31 (by decide) (fun c31 c31' => ?_) (fun c31 c31' => ?_)
    · skip
      exact K
    · skip
      exact absurd (by rw [hS]; exact blt_out (k := 8) (by decide) (by decide) hS2) c31
  · intro i s hi hI K
    (try dsimp only at K)
    unfold cBuO at K
    (try dsimp only at K)
    have hle : i * 8 ≤ S := Nat.le_trans (Nat.mul_le_mul_right 8 (by omega)) (Nat.div_mul_le_self S 8)
    refine j_iload dX6_built_19 rfl ?_
    refine j_bipush (v := 8) dX6_built_21 (by decide) ?_
    refine j_imul dX6_built_23 ?_
    refine j_aload_n dX6_built_24 rfl ?_
    refine j_getr dX6_built_25 fl_X6_31 rfl (o_0 hs) (r_0_3 hs) ?_
    refine j_geti dX6_built_28 fl_X6_159 rfl (tO hs twn_14) ?_
    refine k_icmp_gt (tgt := 122) dX6_built_31 (by decide) (fun c31 c31' => ?_) (fun c31 c31' => ?_)
    · skip
      exact absurd c31 (by rw [hS]; exact blt_in (k := 8) (by decide) (by decide) hS2 hi)
    · skip
      refine j_aload_n dX6_built_34 rfl ?_
      refine j_getr dX6_built_35 fl_X6_31 rfl (o_0 hs) (r_0_3 hs) ?_
      refine j_geti dX6_built_38 fl_X6_159 rfl (tO hs twn_14) ?_
      refine j_iload dX6_built_41 rfl ?_
      refine j_bipush (v := 8) dX6_built_43 (by decide) ?_
      refine j_imul dX6_built_45 ?_
      refine j_isub dX6_built_46 ?_
      refine j_topi (w := nI (S - i * 8)) (by rw [hS, jl8, pk_mul]; exact pk_sub hle) ?_
      refine j_istore_5 dX6_built_47 rfl ?_
      refine j_iconst (v := 0) dX6_built_49 (by decide) ?_
      refine j_istore_6 dX6_built_50 rfl ?_
      have hB : S - i * 8 < 100000 := by omega
      have eB : nI S - nI i * 8 = nI (S - i * 8) := by rw [jl8, pk_mul]; exact pk_sub hle
      rw [eB] at K
      refine lp_buI (B := S - i * 8) (q0 := s) hs hB ?_
      refine j_iinc_4 (v := nI (i + 1)) dX6_built_116 (nI_add _ _) rfl ?_
      refine j_goto (tgt := 19) dX6_built_119 (by decide) ?_
      exact j_forget_5 (j_forget_6 K)

set_option maxRecDepth 20000 in
theorem t_built {G : jG} {N : Nat} {κ : Nat → jK} {ρ : Nat → Nat → Option Nat} {μ : Nat → Nat → Int32} {ν : Nat → Nat → Int64} (hs : shC N κ ρ) {S : Nat} (hS : μ 14 6 = nI S) (hS2 : S < 100000) {what : Int32} : MT G yX6_built cX6_built 9 (some .int) 1 0 0 [.ref 0, .int what] (N, κ, ρ, μ, ν) (some (.int (cBuilt μ what).1)) (N, κ, ρ, (cBuilt μ what).2, ν) := by
  refine jMT (ini := false) my_X6_built (fun h => by cases h) (jRv_i _) (Nat.le_of_ble_eq_true rfl) ?_
  show J G RX6 cX6_built 9 false 1 _ 0 0 (N, κ, ρ, μ, ν) 0 [some (.ref 0), some (.int what), none, none, none, none, none, none, none] []
  generalize hQe : (fun (v' : Option Value) (h'' : jH) => v' = (some (.int (cBuilt μ what).1)) ∧ h'' = (N, κ, ρ, (cBuilt μ what).2, ν)) = Q
  have hQ : Q (some (.int (cBuilt μ what).1)) (N, κ, ρ, (cBuilt μ what).2, ν) := by rw [← hQe]; exact ⟨rfl, rfl⟩
  clear hQe
  have eS : (μ 14 6).toNatClampNeg = S := by rw [hS]; exact nI_clamp (by omega)
  refine j_iload_n dX6_built_0 rfl ?_
  refine j_iconst (v := 0) dX6_built_1 (by decide) ?_
  refine j_iconst (v := 1) dX6_built_2 (by decide) ?_
  refine j_cS3r dX6_built_3 t_out ml_X6_142 my_X6_isOutside ms_X6_isOutside (by omega) (Nat.le_of_ble_eq_true rfl) (Nat.le_of_ble_eq_true rfl) ?_
  refine j_if_eqB (tgt := 11) dX6_built_6 (by decide) (fun c6 => ?_) (fun c6 => ?_)
  · skip
    refine j_iconst (v := 0) dX6_built_11 (by decide) ?_
    refine j_istore_2 dX6_built_12 rfl ?_
    refine j_bipush (v := (-4)) dX6_built_13 (by decide) ?_
    refine j_istore_3 dX6_built_15 rfl ?_
    refine j_iconst (v := 0) dX6_built_16 (by decide) ?_
    refine j_istore_4 dX6_built_17 rfl ?_
    refine lp_buO (q0 := (0, -4)) hs hS hS2 ?_
    refine j_iload_n dX6_built_122 rfl ?_
    refine j_if_ne (tgt := 130) dX6_built_123 (by decide) (fun c123 => ?_) (fun c123 => ?_)
    · skip
      refine j_iload_n dX6_built_130 rfl ?_
      exact j_iret dX6_built_131 (by simpa only [cBuilt, eS, c6, c123, reduceIte, Bool.false_eq_true, Bool.true_eq_false, and_self, and_true, true_and, and_false, false_and, not_true_eq_false, not_false_eq_true, ne_eq, decide_true, decide_false, if_true, if_false, Bool.not_eq_true, Bool.not_eq_false] using hQ)
    · skip
      refine j_iload_n dX6_built_126 rfl ?_
      refine j_goto (tgt := 131) dX6_built_127 (by decide) ?_
      exact j_iret dX6_built_131 (by simpa only [cBuilt, eS, c6, eq_true c123, reduceIte, Bool.false_eq_true, Bool.true_eq_false, and_self, and_true, true_and, and_false, false_and, not_true_eq_false, not_false_eq_true, ne_eq, decide_true, decide_false, if_true, if_false, Bool.not_eq_true, Bool.not_eq_false] using hQ)
  · skip
    refine j_iconst (v := (-1)) dX6_built_9 (by decide) ?_
    exact j_iret dX6_built_10 (by simpa only [cBuilt, eS, c6, reduceIte, Bool.false_eq_true, Bool.true_eq_false, and_self, and_true, true_and, and_false, false_and, not_true_eq_false, not_false_eq_true, ne_eq, decide_true, decide_false, if_true, if_false, Bool.not_eq_true, Bool.not_eq_false] using hQ)

def cPow (b : Int32) (t : Nat) : Int64 := it (fun _ s => s * b.toInt64) t 0 1
set_option maxRecDepth 20000 in
theorem lp_pow {G : jG} {N : Nat} {κ : Nat → jK} {ρ : Nat → Nat → Option Nat} {ν : Nat → Nat → Int64} {Q : Option Value → jH → Prop} {d : Nat} {b : Int32} {t : Nat} {μ : jMem} (ht : t < 2 ^ 31) (K : J G RX6 cX6_power 5 false d Q 0 0 (N, κ, ρ, μ, ν) 22 [some (.int b), some (.int (nI t)), some (.long (it (fun _ s => s * b.toInt64) t 0 1)), none, some (.int (nI t))] []) : J G RX6 cX6_power 5 false d Q 0 0 (N, κ, ρ, μ, ν) 5 [some (.int b), some (.int (nI t)), some (.long 1), none, some (.int (nI 0))] [] := by
  refine it_loop (f := fun _ s => s * b.toInt64) (p := t) (fun i s => J G RX6 cX6_power 5 false d Q 0 0 (N, κ, ρ, μ, ν) 5 [some (.int b), some (.int (nI t)), some (.long s), none, some (.int (nI i))] []) (fun s => J G RX6 cX6_power 5 false d Q 0 0 (N, κ, ρ, μ, ν) 22 [some (.int b), some (.int (nI t)), some (.long s), none, some (.int (nI t))] []) (fun _ _ => True) ?_ ?_ (fun _ _ _ _ => trivial) t 0 1 (by omega) trivial K
  · intro s hI K
    refine j_iload dX6_power_5 rfl ?_
    refine j_iload_n dX6_power_7 rfl ?_
    refine k_icmp_ge (tgt := 22) dX6_power_8 (by decide) (fun c8 c8' => ?_) (fun c8 c8' => ?_)
    · skip
      exact K
    · skip
      exact absurd (Int32.le_refl _) c8
  · intro i s hi hI K
    (try dsimp only at K)
    refine j_iload dX6_power_5 rfl ?_
    refine j_iload_n dX6_power_7 rfl ?_
    refine k_icmp_ge (tgt := 22) dX6_power_8 (by decide) (fun c8 c8' => ?_) (fun c8 c8' => ?_)
    · skip
      exact absurd c8 (nI_ge hi ht)
    · skip
      refine j_lload_n dX6_power_11 rfl ?_
      refine j_iload_n dX6_power_12 rfl ?_
      refine j_i2l dX6_power_13 ?_
      refine j_lmul dX6_power_14 ?_
      refine j_lstore_2 dX6_power_15 rfl ?_
      refine j_iinc_4 (v := nI (i + 1)) dX6_power_16 (nI_add _ _) rfl ?_
      refine j_goto (tgt := 5) dX6_power_19 (by decide) ?_
      (try simp only [c8, c8', reduceIte, Bool.false_eq_true, Bool.true_eq_false, and_self, and_true, true_and, and_false, false_and, not_true_eq_false, not_false_eq_true, ne_eq, decide_true, decide_false, if_true, if_false, Bool.not_eq_true, Bool.not_eq_false] at K)
      exact K

set_option maxRecDepth 20000 in
theorem t_pow {G : jG} {N : Nat} {κ : Nat → jK} {ρ : Nat → Nat → Option Nat} {μ : Nat → Nat → Int32} {ν : Nat → Nat → Int64} {b : Int32} {t : Nat} (ht : t < 2 ^ 31) : MT G yX6_power cX6_power 5 (some .long) 0 0 0 [.int b, .int (nI t)] (N, κ, ρ, μ, ν) (some (.long (cPow b t))) (N, κ, ρ, μ, ν) := by
  refine jMT (ini := false) my_X6_power (fun h => by cases h) (jRv_l _) (Nat.le_of_ble_eq_true rfl) ?_
  show J G RX6 cX6_power 5 false 0 _ 0 0 (N, κ, ρ, μ, ν) 0 [some (.int b), some (.int (nI t)), none, none, none] []
  refine j_lconst (v := 1) dX6_power_0 (by decide) ?_
  refine j_lstore_2 dX6_power_1 rfl ?_
  refine j_iconst (v := 0) dX6_power_2 (by decide) ?_
  refine j_istore_4 dX6_power_3 rfl ?_
  refine lp_pow ht ?_
  refine j_lload_n dX6_power_22 rfl ?_
  exact j_lret dX6_power_23 ⟨rfl, rfl⟩

def cGcd : Nat → Int64 → Int64 → Int64
  | 0, a, _ => a
  | n + 1, a, b => if b = 0 then a else cGcd n b (a - a / b * b)
set_option maxRecDepth 20000 in
theorem lp_gcd {G : jG} {N : Nat} {κ : Nat → jK} {ρ : Nat → Nat → Option Nat} {ν : Nat → Nat → Int64} {Q : Option Value → jH → Prop} {d : Nat} {μ : jMem} : ∀ (n i : Nat) (a b : Int64) (x5 x6 : Option Value), i + n = 100 → Q (some (.long (cGcd n a b))) (N, κ, ρ, μ, ν) → J G RX6 cX6_greatestShared 7 false d Q 0 0 (N, κ, ρ, μ, ν) 3 [some (.long a), none, some (.long b), none, some (.int (nI i)), x5, x6] []
  | 0, i, a, b, x5, x6, hi, hQ => by
    refine j_iload dX6_greatestShared_3 rfl ?_
    refine j_bipush (v := 100) dX6_greatestShared_5 (by decide) ?_
    refine k_icmp_ge (tgt := 32) dX6_greatestShared_7 (by decide) (fun c7 c7' => ?_) (fun c7 c7' => ?_)
    · skip
      refine j_lload_n dX6_greatestShared_32 rfl ?_
      exact j_lret dX6_greatestShared_33 hQ
    · skip
      exact absurd (by rw [jl100]; exact nI_le (by omega) (by omega)) c7
  | n + 1, i, a, b, x5, x6, hi, hQ => by
    rw [cGcd] at hQ
    refine j_iload dX6_greatestShared_3 rfl ?_
    refine j_bipush (v := 100) dX6_greatestShared_5 (by decide) ?_
    refine k_icmp_ge (tgt := 32) dX6_greatestShared_7 (by decide) (fun c7 c7' => ?_) (fun c7 c7' => ?_)
    · skip
      exact absurd c7 (by rw [jl100]; exact nI_ge (by omega) (by omega))
    · skip
      refine j_lload_n dX6_greatestShared_10 rfl ?_
      refine j_lconst (v := 0) dX6_greatestShared_11 (by decide) ?_
      refine j_lcmp dX6_greatestShared_12 ?_
      refine j_if_eq (tgt := 32) dX6_greatestShared_13 (by decide) (fun c13 => ?_) (fun c13 => ?_)
      · skip
        rw [if_pos ((lg_cmp_eq _ _).mp c13)] at hQ
        refine j_lload_n dX6_greatestShared_32 rfl ?_
        exact j_lret dX6_greatestShared_33 hQ
      · skip
        have hb0 : ¬ b = 0 := fun z => c13 ((lg_cmp_eq _ _).mpr z)
        rw [if_neg hb0] at hQ
        refine j_lload_n dX6_greatestShared_16 rfl ?_
        refine j_lload_n dX6_greatestShared_17 rfl ?_
        refine j_lrem dX6_greatestShared_18 hb0 ?_
        refine j_lstore_5 dX6_greatestShared_19 rfl ?_
        refine j_lload_n dX6_greatestShared_21 rfl ?_
        refine j_lstore_0 dX6_greatestShared_22 ?_
        refine j_lload dX6_greatestShared_23 rfl ?_
        refine j_lstore_2 dX6_greatestShared_25 rfl ?_
        refine j_iinc_4 (v := nI (i + 1)) dX6_greatestShared_26 (nI_add _ _) rfl ?_
        refine j_goto (tgt := 3) dX6_greatestShared_29 (by decide) ?_
        exact lp_gcd n (i + 1) _ _ _ _ (by omega) hQ

set_option maxRecDepth 20000 in
theorem t_gcd {G : jG} {N : Nat} {κ : Nat → jK} {ρ : Nat → Nat → Option Nat} {μ : Nat → Nat → Int32} {ν : Nat → Nat → Int64} {a b : Int64} : MT G yX6_greatestShared cX6_greatestShared 7 (some .long) 0 0 0 [.long a, .long b] (N, κ, ρ, μ, ν) (some (.long (cGcd 100 a b))) (N, κ, ρ, μ, ν) := by
  refine jMT (ini := false) my_X6_greatestShared (fun h => by cases h) (jRv_l _) (Nat.le_of_ble_eq_true rfl) ?_
  show J G RX6 cX6_greatestShared 7 false 0 _ 0 0 (N, κ, ρ, μ, ν) 0 [some (.long a), none, some (.long b), none, none, none, none] []
  refine j_iconst (v := 0) dX6_greatestShared_0 (by decide) ?_
  refine j_istore_4 dX6_greatestShared_1 rfl ?_
  exact lp_gcd 100 0 a b none none rfl ⟨rfl, rfl⟩

def cFaC (n i : Nat) (ch : Int64) : Int64 := ch * (nI n - nI (i + 1) + 1).toInt64 / (nI (i + 1)).toInt64
def cFaF (μ : jMem) (w n : Nat) (x : Int32) : Nat → Int64 × Int64 → Int64 × Int64 := fun i s =>
  (if tWF μ 14 w (nI (i + 1)) = true then s.1 + cFaC n i s.2 * cPow (10 - x) (i + 1) * cPow x (n - (i + 1)) else s.1, cFaC n i s.2)
def cFaU (μ : jMem) (w n : Nat) (x : Int32) : Int64 := (it (cFaF μ w n x) n 0 (0, 1)).1
def cFaG (μ : jMem) (w n : Nat) (x : Int32) : Int64 := cGcd 100 (cFaU μ w n x) (cPow 10 n)
def cFail (μ : jMem) (w n x part : Int32) : Int32 × jMem := if xNW μ w = true ∨ xOut n 1 9 = true ∨ xOut x 0 10 = true ∨ xOut part 0 1 = true then (-1, μ) else if tSt μ 14 w.toNatClampNeg = true then
  (if cFaG μ w.toNatClampNeg n.toNatClampNeg x < 1 then -4 else ((if part = 0 then cFaU μ w.toNatClampNeg n.toNatClampNeg x else cPow 10 n.toNatClampNeg) / cFaG μ w.toNatClampNeg n.toNatClampNeg x).toInt32, μ) else (-2, μ)
theorem i64_ne0 {i : Nat} (h : i < 100) : ¬ (nI (i + 1)).toInt64 = 0 := by
  rw [nI_l (by omega)]
  intro z
  have : lN (i + 1) = lN 0 := z
  rw [lN_eq (by omega) (by omega)] at this
  omega
set_option maxRecDepth 20000 in
theorem lp_fail {G : jG} {N : Nat} {κ : Nat → jK} {ρ : Nat → Nat → Option Nat} {ν : Nat → Nat → Int64} {Q : Option Value → jH → Prop} {d : Nat} (hd1 : 1 ≤ d) {μ : jMem} (hs : shC N κ ρ) {w n : Nat} {x part : Int32} (hw : w < 5) (hn : n < 10) (K : J G RX6 cX6_fail 14 false d Q 0 0 (N, κ, ρ, μ, ν) 142 [some (.ref 0), some (.int (nI w)), some (.int (nI n)), some (.int x), some (.int part), some (.int 0), some (.long ((it (cFaF μ w n x) n 0 (0, 1))).1), none, some (.long ((it (cFaF μ w n x) n 0 (0, 1))).2), none, some (.int (nI (n + 1))), none, none, none] []) : J G RX6 cX6_fail 14 false d Q 0 0 (N, κ, ρ, μ, ν) 75 [some (.ref 0), some (.int (nI w)), some (.int (nI n)), some (.int x), some (.int part), some (.int 0), some (.long (((0, 1) : Int64 × Int64)).1), none, some (.long (((0, 1) : Int64 × Int64)).2), none, some (.int (nI (0 + 1))), none, none, none] [] := by
  refine it_loop (f := cFaF μ w n x) (p := n) (fun i s => J G RX6 cX6_fail 14 false d Q 0 0 (N, κ, ρ, μ, ν) 75 [some (.ref 0), some (.int (nI w)), some (.int (nI n)), some (.int x), some (.int part), some (.int 0), some (.long (s).1), none, some (.long (s).2), none, some (.int (nI (i + 1))), none, none, none] []) (fun s => J G RX6 cX6_fail 14 false d Q 0 0 (N, κ, ρ, μ, ν) 142 [some (.ref 0), some (.int (nI w)), some (.int (nI n)), some (.int x), some (.int part), some (.int 0), some (.long (s).1), none, some (.long (s).2), none, some (.int (nI (n + 1))), none, none, none] []) (fun _ _ => True) ?_ ?_ (fun _ _ _ _ => trivial) n 0 (0, 1) (by omega) trivial K
  · intro s _ K
    refine j_iload dX6_fail_75 rfl ?_
    refine j_iload_n dX6_fail_77 rfl ?_
    refine k_icmp_gt (tgt := 142) dX6_fail_78 (by decide) (fun c78 c78' => ?_) (fun c78 c78' => ?_)
    · skip
      exact K
    · skip
      exact absurd (nI_lt (by omega) (by omega)) c78
  · intro i s hi _ K
    unfold cFaF at K
    (try dsimp only at K)
    refine j_iload dX6_fail_75 rfl ?_
    refine j_iload_n dX6_fail_77 rfl ?_
    refine k_icmp_gt (tgt := 142) dX6_fail_78 (by decide) (fun c78 c78' => ?_) (fun c78 c78' => ?_)
    · skip
      exact absurd c78 (nI_nlt (by omega) (by omega))
    · skip
      refine j_lload dX6_fail_81 rfl ?_
      refine j_iload_n dX6_fail_83 rfl ?_
      refine j_iload dX6_fail_84 rfl ?_
      refine j_isub dX6_fail_86 ?_
      refine j_iconst (v := 1) dX6_fail_87 (by decide) ?_
      refine j_iadd dX6_fail_88 ?_
      refine j_i2l dX6_fail_89 ?_
      refine j_lmul dX6_fail_90 ?_
      refine j_iload dX6_fail_91 rfl ?_
      refine j_i2l dX6_fail_93 ?_
      refine j_ldiv dX6_fail_94 (i64_ne0 (by omega)) ?_
      refine j_lstore_8 dX6_fail_95 rfl ?_
      refine j_aload_n dX6_fail_97 rfl ?_
      refine j_getr dX6_fail_98 fl_X6_31 rfl (o_0 hs) (r_0_3 hs) ?_
      refine j_iload_n dX6_fail_101 rfl ?_
      refine j_iload dX6_fail_102 rfl ?_
      refine j_cV2r dX6_fail_104 (t_wouldFall (w := w) hs twn_14 (by omega)) ml_X6_173 my_X5_wouldFall mi_X5_wouldFall (tO hs twn_14) rfl (by omega) (Nat.le_of_ble_eq_true rfl) (Nat.le_of_ble_eq_true rfl) ?_
      refine j_if_eqB (tgt := 136) dX6_fail_107 (by decide) (fun c107 => ?_) (fun c107 => ?_)
      · skip
        refine j_iinc_10 (v := nI ((i + 1) + 1)) dX6_fail_136 (nI_add _ _) rfl ?_
        refine j_goto (tgt := 75) dX6_fail_139 (by decide) ?_
        (try simp only [c78, c78', c107, reduceIte, Bool.false_eq_true, Bool.true_eq_false, and_self, and_true, true_and, and_false, false_and, not_true_eq_false, not_false_eq_true, ne_eq, decide_true, decide_false, if_true, if_false, Bool.not_eq_true, Bool.not_eq_false] at K)
        exact K
      · skip
        refine j_lload dX6_fail_110 rfl ?_
        refine j_lload dX6_fail_112 rfl ?_
        refine j_bipush (v := 10) dX6_fail_114 (by decide) ?_
        refine j_iload_n dX6_fail_116 rfl ?_
        refine j_isub dX6_fail_117 ?_
        refine j_iload dX6_fail_118 rfl ?_
        refine j_cS2r dX6_fail_120 (t_pow (t := (i + 1)) (by omega)) ml_X6_212 my_X6_power ms_X6_power (by omega) (Nat.le_of_ble_eq_true rfl) (Nat.le_of_ble_eq_true rfl) ?_
        refine j_lmul dX6_fail_123 ?_
        refine j_iload_n dX6_fail_124 rfl ?_
        refine j_iload_n dX6_fail_125 rfl ?_
        refine j_iload dX6_fail_126 rfl ?_
        refine j_isub dX6_fail_128 ?_
        refine j_topi (w := nI (n - (i + 1))) (pk_sub (by omega)) ?_
        refine j_cS2r dX6_fail_129 (t_pow (t := (n - (i + 1))) (by omega)) ml_X6_212 my_X6_power ms_X6_power (by omega) (Nat.le_of_ble_eq_true rfl) (Nat.le_of_ble_eq_true rfl) ?_
        refine j_lmul dX6_fail_132 ?_
        refine j_ladd dX6_fail_133 ?_
        refine j_lstore_6 dX6_fail_134 rfl ?_
        refine j_iinc_10 (v := nI ((i + 1) + 1)) dX6_fail_136 (nI_add _ _) rfl ?_
        refine j_goto (tgt := 75) dX6_fail_139 (by decide) ?_
        (try simp only [c78, c78', c107, reduceIte, Bool.false_eq_true, Bool.true_eq_false, and_self, and_true, true_and, and_false, false_and, not_true_eq_false, not_false_eq_true, ne_eq, decide_true, decide_false, if_true, if_false, Bool.not_eq_true, Bool.not_eq_false] at K)
        exact K

set_option maxRecDepth 20000 in
theorem t_cfail {G : jG} {N : Nat} {κ : Nat → jK} {ρ : Nat → Nat → Option Nat} {μ : Nat → Nat → Int32} {ν : Nat → Nat → Int64} (hs : shC N κ ρ) {p : Nat} (hp : μ 9 0 = nI p) (hp5 : p ≤ 5) {w n x part : Int32} : MT G yX6_fail cX6_fail 14 (some .int) 2 0 0 [.ref 0, .int w, .int n, .int x, .int part] (N, κ, ρ, μ, ν) (some (.int (cFail μ w n x part).1)) (N, κ, ρ, (cFail μ w n x part).2, ν) := by
  refine jMT (ini := false) my_X6_fail (fun h => by cases h) (jRv_i _) (Nat.le_of_ble_eq_true rfl) ?_
  show J G RX6 cX6_fail 14 false 2 _ 0 0 (N, κ, ρ, μ, ν) 0 [some (.ref 0), some (.int w), some (.int n), some (.int x), some (.int part), none, none, none, none, none, none, none, none, none] []
  generalize hQe : (fun (v' : Option Value) (h'' : jH) => v' = (some (.int (cFail μ w n x part).1)) ∧ h'' = (N, κ, ρ, (cFail μ w n x part).2, ν)) = Q
  have hQ : Q (some (.int (cFail μ w n x part).1)) (N, κ, ρ, (cFail μ w n x part).2, ν) := by rw [← hQe]; exact ⟨rfl, rfl⟩
  clear hQe
  refine j_aload_n dX6_fail_0 rfl ?_
  refine j_iload_n dX6_fail_1 rfl ?_
  refine j_cV1r dX6_fail_2 (t_nw hs) ml_X6_99 my_X6_isNoWall mi_X6_isNoWall (o_0 hs) rfl (by omega) (Nat.le_of_ble_eq_true rfl) (Nat.le_of_ble_eq_true rfl) ?_
  refine j_if_neB (tgt := 18) dX6_fail_5 (by decide) (fun c5 => ?_) (fun c5 => ?_)
  · skip
    refine j_iconst (v := 1) dX6_fail_18 (by decide) ?_
    refine j_goto (tgt := 23) dX6_fail_19 (by decide) ?_
    refine j_istore_5 dX6_fail_23 rfl ?_
    refine j_iload dX6_fail_25 rfl ?_
    refine j_if_ne (tgt := 50) dX6_fail_27 (by decide) (fun c27 => ?_) (fun c27 => ?_)
    · skip
      refine j_iconst (v := (-1)) dX6_fail_50 (by decide) ?_
      exact j_iret dX6_fail_51 (by simpa only [cFail, c5, c27, true_or, or_true, or_self, or_false, false_or, reduceIte, Bool.false_eq_true, Bool.true_eq_false, and_self, and_true, true_and, and_false, false_and, not_true_eq_false, not_false_eq_true, ne_eq, decide_true, decide_false, if_true, if_false, Bool.not_eq_true, Bool.not_eq_false] using hQ)
    · skip
      exact absurd c27 (by decide)
  · skip
    obtain ⟨i, hi, rfl⟩ := out_in hp hp5 c5
    have ei : (nI i).toNatClampNeg = i := nI_clamp (by omega)
    refine j_iload_n dX6_fail_8 rfl ?_
    refine j_iconst (v := 1) dX6_fail_9 (by decide) ?_
    refine j_bipush (v := 9) dX6_fail_10 (by decide) ?_
    refine j_cS3r dX6_fail_12 t_out ml_X6_142 my_X6_isOutside ms_X6_isOutside (by omega) (Nat.le_of_ble_eq_true rfl) (Nat.le_of_ble_eq_true rfl) ?_
    refine j_if_eqB (tgt := 22) dX6_fail_15 (by decide) (fun c15 => ?_) (fun c15 => ?_)
    · skip
      obtain ⟨k, hk1, hk2, rfl⟩ := out_lh (l := 1) (h := 9) (by decide) (by decide) c15
      have ek : (nI k).toNatClampNeg = k := nI_clamp (by omega)
      refine j_iconst (v := 0) dX6_fail_22 (by decide) ?_
      refine j_istore_5 dX6_fail_23 rfl ?_
      refine j_iload dX6_fail_25 rfl ?_
      refine j_if_ne (tgt := 50) dX6_fail_27 (by decide) (fun c27 => ?_) (fun c27 => ?_)
      · skip
        exact absurd rfl c27
      · skip
        refine j_iload_n dX6_fail_30 rfl ?_
        refine j_iconst (v := 0) dX6_fail_31 (by decide) ?_
        refine j_bipush (v := 10) dX6_fail_32 (by decide) ?_
        refine j_cS3r dX6_fail_34 t_out ml_X6_142 my_X6_isOutside ms_X6_isOutside (by omega) (Nat.le_of_ble_eq_true rfl) (Nat.le_of_ble_eq_true rfl) ?_
        refine j_if_neB (tgt := 50) dX6_fail_37 (by decide) (fun c37 => ?_) (fun c37 => ?_)
        · skip
          refine j_iconst (v := (-1)) dX6_fail_50 (by decide) ?_
          exact j_iret dX6_fail_51 (by simpa only [cFail, c5, ei, c15, ek, eq_true c27, c37, true_or, or_true, or_self, or_false, false_or, reduceIte, Bool.false_eq_true, Bool.true_eq_false, and_self, and_true, true_and, and_false, false_and, not_true_eq_false, not_false_eq_true, ne_eq, decide_true, decide_false, if_true, if_false, Bool.not_eq_true, Bool.not_eq_false] using hQ)
        · skip
          refine j_iload dX6_fail_40 rfl ?_
          refine j_iconst (v := 0) dX6_fail_42 (by decide) ?_
          refine j_iconst (v := 1) dX6_fail_43 (by decide) ?_
          refine j_cS3r dX6_fail_44 t_out ml_X6_142 my_X6_isOutside ms_X6_isOutside (by omega) (Nat.le_of_ble_eq_true rfl) (Nat.le_of_ble_eq_true rfl) ?_
          refine j_if_eqB (tgt := 52) dX6_fail_47 (by decide) (fun c47 => ?_) (fun c47 => ?_)
          · skip
            refine j_aload_n dX6_fail_52 rfl ?_
            refine j_getr dX6_fail_53 fl_X6_31 rfl (o_0 hs) (r_0_3 hs) ?_
            refine j_iload_n dX6_fail_56 rfl ?_
            refine j_cV1r dX6_fail_57 (t_stands (w := i) hs twn_14 (by omega)) ml_X6_114 my_X5_stands mi_X5_stands (tO hs twn_14) rfl (by omega) (Nat.le_of_ble_eq_true rfl) (Nat.le_of_ble_eq_true rfl) ?_
            refine j_if_neB (tgt := 66) dX6_fail_60 (by decide) (fun c60 => ?_) (fun c60 => ?_)
            · skip
              refine j_lconst (v := 0) dX6_fail_66 (by decide) ?_
              refine j_lstore_6 dX6_fail_67 rfl ?_
              refine j_lconst (v := 1) dX6_fail_69 (by decide) ?_
              refine j_lstore_8 dX6_fail_70 rfl ?_
              refine j_iconst (v := 1) dX6_fail_72 (by decide) ?_
              refine j_istore_10 dX6_fail_73 rfl ?_
              refine lp_fail (by omega) hs (by omega) (by omega) ?_
              refine j_bipush (v := 10) dX6_fail_142 (by decide) ?_
              refine j_iload_n dX6_fail_144 rfl ?_
              refine j_cS2r dX6_fail_145 (t_pow (t := k) (by omega)) ml_X6_212 my_X6_power ms_X6_power (by omega) (Nat.le_of_ble_eq_true rfl) (Nat.le_of_ble_eq_true rfl) ?_
              refine j_lstore_10 dX6_fail_148 rfl ?_
              refine j_lload dX6_fail_150 rfl ?_
              refine j_lload dX6_fail_152 rfl ?_
              refine j_cS2r dX6_fail_154 t_gcd ml_X6_216 my_X6_greatestShared ms_X6_greatestShared (by omega) (Nat.le_of_ble_eq_true rfl) (Nat.le_of_ble_eq_true rfl) ?_
              refine j_lstore_12 dX6_fail_157 rfl ?_
              refine j_lload dX6_fail_159 rfl ?_
              refine j_lconst (v := 1) dX6_fail_161 (by decide) ?_
              refine j_lcmp dX6_fail_162 ?_
              refine k_if_ge (tgt := 169) dX6_fail_163 (by decide) (fun c163 c163' => ?_) (fun c163 c163' => ?_)
              · skip
                have zz : ¬ cGcd 100 (it (cFaF μ i k x) k 0 (0, 1)).1 (cPow 10 k) < 1 := fun z => absurd ((lg_cmp_ge _ _).mp c163) (Int64.not_le.mpr z)
                have z0 : ¬ cGcd 100 (it (cFaF μ i k x) k 0 (0, 1)).1 (cPow 10 k) = 0 := fun z => zz (by rw [z]; decide)
                refine j_iload dX6_fail_169 rfl ?_
                refine j_if_ne (tgt := 179) dX6_fail_171 (by decide) (fun c171 => ?_) (fun c171 => ?_)
                · skip
                  refine j_lload dX6_fail_179 rfl ?_
                  refine j_lload dX6_fail_181 rfl ?_
                  refine j_ldiv dX6_fail_183 z0 ?_
                  refine j_l2i dX6_fail_184 ?_
                  exact j_iret dX6_fail_185 (by simpa only [cFail, cFaG, cFaU, zz, c5, ei, c15, ek, eq_true c27, c37, c47, c60, c171, true_or, or_true, or_self, or_false, false_or, reduceIte, Bool.false_eq_true, Bool.true_eq_false, and_self, and_true, true_and, and_false, false_and, not_true_eq_false, not_false_eq_true, ne_eq, decide_true, decide_false, if_true, if_false, Bool.not_eq_true, Bool.not_eq_false] using hQ)
                · skip
                  refine j_lload dX6_fail_174 rfl ?_
                  refine j_goto (tgt := 181) dX6_fail_176 (by decide) ?_
                  refine j_lload dX6_fail_181 rfl ?_
                  refine j_ldiv dX6_fail_183 z0 ?_
                  refine j_l2i dX6_fail_184 ?_
                  exact j_iret dX6_fail_185 (by simpa only [cFail, cFaG, cFaU, zz, c5, ei, c15, ek, eq_true c27, c37, c47, c60, eq_true c171, true_or, or_true, or_self, or_false, false_or, reduceIte, Bool.false_eq_true, Bool.true_eq_false, and_self, and_true, true_and, and_false, false_and, not_true_eq_false, not_false_eq_true, ne_eq, decide_true, decide_false, if_true, if_false, Bool.not_eq_true, Bool.not_eq_false] using hQ)
              · skip
                have zz : cGcd 100 (it (cFaF μ i k x) k 0 (0, 1)).1 (cPow 10 k) < 1 := Int64.not_le.mp (fun z => c163 ((lg_cmp_ge _ _).mpr z))
                refine j_bipush (v := (-4)) dX6_fail_166 (by decide) ?_
                exact j_iret dX6_fail_168 (by simpa only [cFail, cFaG, cFaU, zz, c5, ei, c15, ek, eq_true c27, c37, c47, c60, true_or, or_true, or_self, or_false, false_or, reduceIte, Bool.false_eq_true, Bool.true_eq_false, and_self, and_true, true_and, and_false, false_and, not_true_eq_false, not_false_eq_true, ne_eq, decide_true, decide_false, if_true, if_false, Bool.not_eq_true, Bool.not_eq_false] using hQ)
            · skip
              refine j_bipush (v := (-2)) dX6_fail_63 (by decide) ?_
              exact j_iret dX6_fail_65 (by simpa only [cFail, c5, ei, c15, ek, eq_true c27, c37, c47, c60, true_or, or_true, or_self, or_false, false_or, reduceIte, Bool.false_eq_true, Bool.true_eq_false, and_self, and_true, true_and, and_false, false_and, not_true_eq_false, not_false_eq_true, ne_eq, decide_true, decide_false, if_true, if_false, Bool.not_eq_true, Bool.not_eq_false] using hQ)
          · skip
            refine j_iconst (v := (-1)) dX6_fail_50 (by decide) ?_
            exact j_iret dX6_fail_51 (by simpa only [cFail, c5, ei, c15, ek, eq_true c27, c37, c47, true_or, or_true, or_self, or_false, false_or, reduceIte, Bool.false_eq_true, Bool.true_eq_false, and_self, and_true, true_and, and_false, false_and, not_true_eq_false, not_false_eq_true, ne_eq, decide_true, decide_false, if_true, if_false, Bool.not_eq_true, Bool.not_eq_false] using hQ)
    · skip
      refine j_iconst (v := 1) dX6_fail_18 (by decide) ?_
      refine j_goto (tgt := 23) dX6_fail_19 (by decide) ?_
      refine j_istore_5 dX6_fail_23 rfl ?_
      refine j_iload dX6_fail_25 rfl ?_
      refine j_if_ne (tgt := 50) dX6_fail_27 (by decide) (fun c27 => ?_) (fun c27 => ?_)
      · skip
        refine j_iconst (v := (-1)) dX6_fail_50 (by decide) ?_
        exact j_iret dX6_fail_51 (by simpa only [cFail, c5, ei, c15, c27, true_or, or_true, or_self, or_false, false_or, reduceIte, Bool.false_eq_true, Bool.true_eq_false, and_self, and_true, true_and, and_false, false_and, not_true_eq_false, not_false_eq_true, ne_eq, decide_true, decide_false, if_true, if_false, Bool.not_eq_true, Bool.not_eq_false] using hQ)
      · skip
        exact absurd c27 (by decide)

def cDr (z k : Nat) : Nat := (7919 * z + 6151 * k + 1) * (7919 * z + 6151 * k + 1) % 65521
theorem cDr_lt (z k : Nat) : cDr z k < 65521 := Nat.mod_lt _ (by decide)
theorem cDr_eq {z k : Nat} (hz : z < 10000) (hk : k < 100) : ((7919 * (nI z).toInt64 + 6151 * (nI k).toInt64 + 1) * (7919 * (nI z).toInt64 + 6151 * (nI k).toInt64 + 1) - (7919 * (nI z).toInt64 + 6151 * (nI k).toInt64 + 1) * (7919 * (nI z).toInt64 + 6151 * (nI k).toInt64 + 1) / 65521 * 65521).toInt32 = nI (cDr z k) := by
  rw [nI_l (by omega), nI_l (by omega)]
  rw [show (7919 : Int64) = lN 7919 from rfl, show (6151 : Int64) = lN 6151 from rfl, show (65521 : Int64) = lN 65521 from rfl, show (1 : Int64) = lN 1 from rfl, lN_mul, lN_mul, lN_add, lN_add, lN_mul]
  have h1 : 7919 * z + 6151 * k + 1 ≤ 80000000 := by omega
  have h2 : (7919 * z + 6151 * k + 1) * (7919 * z + 6151 * k + 1) ≤ 80000000 * 80000000 := Nat.mul_le_mul h1 h1
  rw [pk_lRem (by omega) (by decide) (by decide), lN_i]
  rfl
def cDaM (m : jMem) (p z k : Nat) : jMem :=
  if tSt m 20 (cDr z k / 8 % p) = true then (if cDr z k % 8 ≤ 3 then tGo m 20 (cDr z k / 8 % p) else if cDr z k % 8 = 4 then tBlM m 20 p (cDr z k / 8 % p) (nI (cDr z k / 64 % 9) + 1) else m) else m
theorem tGo_lo {a : Nat} (ht : tw a) (m : jMem) (w : Nat) {k j : Nat} (hk : k < 14) : tGo m a w k j = m k j := by
  have := tw_ge ht
  unfold tGo
  exact jup_oth (by omega)
theorem tBlM_lo {a : Nat} (ht : tw a) (m : jMem) (p w : Nat) (n : Int32) {k j : Nat} (hk : k < 14) : tBlM m a p w n k j = m k j := by
  have := tw_ge ht
  unfold tBlM
  split
  · exact tFall_lo ht p hk 6 m w _
  · rw [jup_oth (by omega), jup_oth (by omega)]
theorem cDaM_lo (m : jMem) (p z x : Nat) {k j : Nat} (hk : k < 14) : cDaM m p z x k j = m k j := by
  unfold cDaM
  split
  · split
    · exact tGo_lo twn_20 _ _ hk
    · split
      · exact tBlM_lo twn_20 _ _ _ _ hk
      · rfl
  · rfl
/- -/
set_option maxRecDepth 20000 in
theorem t_draw {G : jG} {N : Nat} {κ : Nat → jK} {ρ : Nat → Nat → Option Nat} {μ : Nat → Nat → Int32} {ν : Nat → Nat → Int64} (hs : shC N κ ρ) {p : Nat} (hp : μ 9 0 = nI p) (hp5 : p ≤ 5) (hp1 : 1 ≤ p) {z k : Nat} (hz : z < 10000) (hk : k < 100) : MT G yX6_drawAhead cX6_drawAhead 8 none 10 0 0 [.ref 0, .int (nI z), .int (nI k)] (N, κ, ρ, μ, ν) none (N, κ, ρ, cDaM μ p z k, ν) := by
  refine jMT (ini := false) my_X6_drawAhead (fun h => by cases h) jRv_v (Nat.le_of_ble_eq_true rfl) ?_
  show J G RX6 cX6_drawAhead 8 false 10 _ 0 0 (N, κ, ρ, μ, ν) 0 [some (.ref 0), some (.int (nI z)), some (.int (nI k)), none, none, none, none, none] []
  have hdr := cDr_lt z k
  have hwp : cDr z k / 8 % p < p := Nat.mod_lt _ hp1
  have hpT := hp
  refine j_aload_n dX6_drawAhead_0 rfl ?_
  refine j_getr dX6_drawAhead_1 fl_X6_23 rfl (o_0 hs) (r_0_2 hs) ?_
  refine j_geti dX6_drawAhead_4 fl_X6_92 rfl (o_9 hs) ?_
  refine j_iconst (v := 1) dX6_drawAhead_7 (by decide) ?_
  refine k_icmp_ge (tgt := 12) dX6_drawAhead_8 (by decide) (fun c8 c8' => ?_) (fun c8 c8' => ?_)
  · skip
    refine j_ldc2 dX6_drawAhead_12 ct_X6_236 ?_
    refine j_iload_n dX6_drawAhead_15 rfl ?_
    refine j_i2l dX6_drawAhead_16 ?_
    refine j_lmul dX6_drawAhead_17 ?_
    refine j_ldc2 dX6_drawAhead_18 ct_X6_238 ?_
    refine j_iload_n dX6_drawAhead_21 rfl ?_
    refine j_i2l dX6_drawAhead_22 ?_
    refine j_lmul dX6_drawAhead_23 ?_
    refine j_ladd dX6_drawAhead_24 ?_
    refine j_lconst (v := 1) dX6_drawAhead_25 (by decide) ?_
    refine j_ladd dX6_drawAhead_26 ?_
    refine j_lstore_3 dX6_drawAhead_27 rfl ?_
    refine j_lload_n dX6_drawAhead_28 rfl ?_
    refine j_lload_n dX6_drawAhead_29 rfl ?_
    refine j_lmul dX6_drawAhead_30 ?_
    refine j_ldc2 dX6_drawAhead_31 ct_X6_240 ?_
    refine j_lrem dX6_drawAhead_34 (by decide) ?_
    refine j_l2i dX6_drawAhead_35 ?_
    refine j_topi (cDr_eq hz hk) ?_
    refine j_istore_5 dX6_drawAhead_36 rfl ?_
    refine j_iload dX6_drawAhead_38 rfl ?_
    refine j_bipush (v := 8) dX6_drawAhead_40 (by decide) ?_
    refine j_idiv dX6_drawAhead_42 (by decide) ?_
    refine j_topi (w := nI (cDr z k / 8)) (pk_div (by omega) (by decide) (by decide)) ?_
    refine j_aload_n dX6_drawAhead_43 rfl ?_
    refine j_getr dX6_drawAhead_44 fl_X6_23 rfl (o_0 hs) (r_0_2 hs) ?_
    refine j_geti dX6_drawAhead_47 fl_X6_92 rfl (o_9 hs) ?_
    refine j_irem dX6_drawAhead_50 (by rw [hp]; exact nI_ne0 hp1 (by omega)) ?_
    refine j_topi (w := nI (cDr z k / 8 % p)) (by rw [hp]; exact pk_rem (by omega) hp1 (by omega)) ?_
    refine j_istore_6 dX6_drawAhead_51 rfl ?_
    refine j_aload_n dX6_drawAhead_53 rfl ?_
    refine j_getr dX6_drawAhead_54 fl_X6_35 rfl (o_0 hs) (r_0_4 hs) ?_
    refine j_iload dX6_drawAhead_57 rfl ?_
    refine j_cV1r dX6_drawAhead_59 (t_stands (w := (cDr z k / 8 % p)) hs twn_20 (by omega)) ml_X6_114 my_X5_stands mi_X5_stands (tO hs twn_20) rfl (by omega) (Nat.le_of_ble_eq_true rfl) (Nat.le_of_ble_eq_true rfl) ?_
    refine j_if_neB (tgt := 66) dX6_drawAhead_62 (by decide) (fun c62 => ?_) (fun c62 => ?_)
    · skip
      refine j_iload dX6_drawAhead_66 rfl ?_
      refine j_bipush (v := 8) dX6_drawAhead_68 (by decide) ?_
      refine j_irem dX6_drawAhead_70 (by decide) ?_
      refine j_topi (w := nI (cDr z k % 8)) (pk_rem (by omega) (by decide) (by decide)) ?_
      refine j_istore_7 dX6_drawAhead_71 rfl ?_
      refine j_iload dX6_drawAhead_73 rfl ?_
      refine j_iconst (v := 3) dX6_drawAhead_75 (by decide) ?_
      refine k_icmp_gt (tgt := 88) dX6_drawAhead_76 (by decide) (fun c76 c76' => ?_) (fun c76 c76' => ?_)
      · skip
        have h76 : ¬ cDr z k % 8 ≤ 3 := fun q => absurd c76 (by rw [jl3]; exact nI_nlt q (by decide))
        refine j_iload dX6_drawAhead_88 rfl ?_
        refine j_iconst (v := 4) dX6_drawAhead_90 (by decide) ?_
        refine j_icmp_ne (tgt := 114) dX6_drawAhead_91 (by decide) (fun c91 => ?_) (fun c91 => ?_)
        · skip
          have h91 : ¬ cDr z k % 8 = 4 := fun q => c91 (by rw [q]; rfl)
          exact j_vret dX6_drawAhead_114 ⟨rfl, by unfold cDaM; rw [if_pos c62, if_neg h76, if_neg h91]⟩
        · skip
          have h91 : cDr z k % 8 = 4 := (nI_eq (by omega) (by decide)).mp c91
          refine j_aload_n dX6_drawAhead_94 rfl ?_
          refine j_getr dX6_drawAhead_95 fl_X6_35 rfl (o_0 hs) (r_0_4 hs) ?_
          refine j_iload dX6_drawAhead_98 rfl ?_
          refine j_iload dX6_drawAhead_100 rfl ?_
          refine j_bipush (v := 64) dX6_drawAhead_102 (by decide) ?_
          refine j_idiv dX6_drawAhead_104 (by decide) ?_
          refine j_topi (w := nI (cDr z k / 64)) (pk_div (by omega) (by decide) (by decide)) ?_
          refine j_bipush (v := 9) dX6_drawAhead_105 (by decide) ?_
          refine j_irem dX6_drawAhead_107 (by decide) ?_
          refine j_topi (w := nI (cDr z k / 64 % 9)) (pk_rem (by omega) (by decide) (by decide)) ?_
          refine j_iconst (v := 1) dX6_drawAhead_108 (by decide) ?_
          refine j_iadd dX6_drawAhead_109 ?_
          refine j_cV2r dX6_drawAhead_110 (t_blow (w := cDr z k / 8 % p) hs twn_20 hpT hp5 (by omega)) ml_X6_146 my_X5_blow mi_X5_blow (tO hs twn_20) rfl (by omega) (Nat.le_of_ble_eq_true rfl) (Nat.le_of_ble_eq_true rfl) ?_
          refine j_pop dX6_drawAhead_113 rfl ?_
          exact j_vret dX6_drawAhead_114 ⟨rfl, by unfold cDaM; rw [if_pos c62, if_neg h76, if_pos h91]⟩
      · skip
        have h76 : cDr z k % 8 ≤ 3 := (by rcases Nat.lt_or_ge 3 (cDr z k % 8) with q | q; exact absurd (by rw [jl3]; exact nI_lt q (by omega)) c76; exact q)
        refine j_aload_n dX6_drawAhead_79 rfl ?_
        refine j_getr dX6_drawAhead_80 fl_X6_35 rfl (o_0 hs) (r_0_4 hs) ?_
        refine j_iload dX6_drawAhead_83 rfl ?_
        refine j_cV1v dX6_drawAhead_85 (t_goRound (w := (cDr z k / 8 % p)) hs twn_20 (by omega)) ml_X6_138 my_X5_goRound mi_X5_goRound (tO hs twn_20) rfl (by omega) (Nat.le_of_ble_eq_true rfl) (Nat.le_of_ble_eq_true rfl) ?_
        refine j_iload dX6_drawAhead_88 rfl ?_
        refine j_iconst (v := 4) dX6_drawAhead_90 (by decide) ?_
        refine j_icmp_ne (tgt := 114) dX6_drawAhead_91 (by decide) (fun c91 => ?_) (fun c91 => ?_)
        · skip
          have h91 : ¬ cDr z k % 8 = 4 := fun q => c91 (by rw [q]; rfl)
          exact j_vret dX6_drawAhead_114 ⟨rfl, by unfold cDaM; rw [if_pos c62, if_pos h76]⟩
        · skip
          have h91 : cDr z k % 8 = 4 := (nI_eq (by omega) (by decide)).mp c91
          exact absurd ((nI_eq (by omega) (by decide)).mp c91 : cDr z k % 8 = 4) (by omega)
    · skip
      exact j_vret dX6_drawAhead_65 ⟨rfl, by simp only [cDaM, c62, reduceIte, Bool.false_eq_true, Bool.true_eq_false, and_self, and_true, true_and, and_false, false_and, not_true_eq_false, not_false_eq_true, ne_eq, decide_true, decide_false, if_true, if_false, Bool.not_eq_true, Bool.not_eq_false]⟩
  · skip
    exact absurd (by rw [hp, jl1]; exact nI_le hp1 (by omega)) c8

def cYrF (p z : Nat) : Nat → jMem → jMem := fun k m => tDay (cDaM m p z k) 20 p
theorem cYrF_lo (p z i : Nat) (m : jMem) {k j : Nat} (hk : k < 14) : cYrF p z i m k j = m k j := by
  unfold cYrF
  rw [tDay_lo twn_20 p _ hk, cDaM_lo _ _ _ _ hk]
def cYrM (μ : jMem) (p z n : Nat) : jMem := it (cYrF p z) n 0 (tCp μ 20 14)
def cYear (μ : jMem) (p : Nat) (z n what : Int32) : Int32 × jMem := if xOut z 0 9999 = true ∨ xOut n 1 60 = true ∨ xOut what 0 2 = true then (-1, μ) else
  (if what = 0 then tCD (cYrM μ p z.toNatClampNeg n.toNatClampNeg) 20 p else if what = 1 then cYrM μ p z.toNatClampNeg n.toNatClampNeg 20 6 else tCH (cYrM μ p z.toNatClampNeg n.toNatClampNeg) 20 p, cYrM μ p z.toNatClampNeg n.toNatClampNeg)
set_option maxRecDepth 20000 in
theorem lp_year {G : jG} {N : Nat} {κ : Nat → jK} {ρ : Nat → Nat → Option Nat} {ν : Nat → Nat → Int64} {Q : Option Value → jH → Prop} {d : Nat} (hd1 : 11 ≤ d) {p z n : Nat} {μ : jMem} {what : Int32} (hs : shC N κ ρ) (hp : μ 9 0 = nI p) (hp5 : p ≤ 5) (hp1 : 1 ≤ p) (hz : z < 10000) (hn : n < 100) (K : J G RX6 cX6_year 5 false d Q 0 0 (N, κ, ρ, (it (cYrF p z) n 0 μ), ν) 72 [some (.ref 0), some (.int (nI z)), some (.int (nI n)), some (.int what), some (.int (nI n))] []) : J G RX6 cX6_year 5 false d Q 0 0 (N, κ, ρ, μ, ν) 46 [some (.ref 0), some (.int (nI z)), some (.int (nI n)), some (.int what), some (.int (nI 0))] [] := by
  refine it_loop (f := cYrF p z) (p := n) (fun i s => J G RX6 cX6_year 5 false d Q 0 0 (N, κ, ρ, s, ν) 46 [some (.ref 0), some (.int (nI z)), some (.int (nI n)), some (.int what), some (.int (nI i))] []) (fun s => J G RX6 cX6_year 5 false d Q 0 0 (N, κ, ρ, s, ν) 72 [some (.ref 0), some (.int (nI z)), some (.int (nI n)), some (.int what), some (.int (nI n))] []) (fun _ s => s 9 0 = nI p) ?_ ?_ (fun i s _ h => by rw [cYrF_lo p z i s (by decide)]; exact h) n 0 μ (by omega) hp K
  · intro s hI K
    replace hp := hI
    refine j_iload dX6_year_46 rfl ?_
    refine j_iload_n dX6_year_48 rfl ?_
    refine k_icmp_ge (tgt := 72) dX6_year_49 (by decide) (fun c49 c49' => ?_) (fun c49 c49' => ?_)
    · skip
      exact K
    · skip
      exact absurd (Int32.le_refl _) c49
  · intro i s hi hI K
    (try dsimp only at K)
    replace hp := hI
    refine j_iload dX6_year_46 rfl ?_
    refine j_iload_n dX6_year_48 rfl ?_
    refine k_icmp_ge (tgt := 72) dX6_year_49 (by decide) (fun c49 c49' => ?_) (fun c49 c49' => ?_)
    · skip
      exact absurd c49 (nI_ge hi (by omega))
    · skip
      refine j_aload_n dX6_year_52 rfl ?_
      refine j_iload_n dX6_year_53 rfl ?_
      refine j_iload dX6_year_54 rfl ?_
      refine j_cV2v dX6_year_56 (t_draw (z := z) (k := i) hs hp hp5 hp1 (by omega) (by omega)) ml_X6_220 my_X6_drawAhead mi_X6_drawAhead (o_0 hs) rfl (by omega) (Nat.le_of_ble_eq_true rfl) (Nat.le_of_ble_eq_true rfl) ?_
      refine j_aload_n dX6_year_59 rfl ?_
      refine j_getr dX6_year_60 fl_X6_35 rfl (o_0 hs) (r_0_4 hs) ?_
      refine j_cV0v dX6_year_63 (t_day hs twn_20 (by rw [cDaM_lo _ _ _ _ (by decide)]; exact hp) hp5) ml_X6_149 my_X5_dayGoesBy mi_X5_dayGoesBy (tO hs twn_20) rfl (by omega) (Nat.le_of_ble_eq_true rfl) (Nat.le_of_ble_eq_true rfl) ?_
      refine j_iinc_4 (v := nI (i + 1)) dX6_year_66 (nI_add _ _) rfl ?_
      refine j_goto (tgt := 46) dX6_year_69 (by decide) ?_
      (try simp only [c49, c49', reduceIte, Bool.false_eq_true, Bool.true_eq_false, and_self, and_true, true_and, and_false, false_and, not_true_eq_false, not_false_eq_true, ne_eq, decide_true, decide_false, if_true, if_false, Bool.not_eq_true, Bool.not_eq_false] at K)
      exact K

set_option maxRecDepth 20000 in
theorem t_year {G : jG} {N : Nat} {κ : Nat → jK} {ρ : Nat → Nat → Option Nat} {μ : Nat → Nat → Int32} {ν : Nat → Nat → Int64} (hs : shC N κ ρ) {p : Nat} (hp : μ 9 0 = nI p) (hp5 : p ≤ 5) (hp1 : 1 ≤ p) {z n what : Int32} : MT G yX6_year cX6_year 5 (some .int) 11 0 0 [.ref 0, .int z, .int n, .int what] (N, κ, ρ, μ, ν) (some (.int (cYear μ p z n what).1)) (N, κ, ρ, (cYear μ p z n what).2, ν) := by
  refine jMT (ini := false) my_X6_year (fun h => by cases h) (jRv_i _) (Nat.le_of_ble_eq_true rfl) ?_
  show J G RX6 cX6_year 5 false 11 _ 0 0 (N, κ, ρ, μ, ν) 0 [some (.ref 0), some (.int z), some (.int n), some (.int what), none] []
  generalize hQe : (fun (v' : Option Value) (h'' : jH) => v' = (some (.int (cYear μ p z n what).1)) ∧ h'' = (N, κ, ρ, (cYear μ p z n what).2, ν)) = Q
  have hQ : Q (some (.int (cYear μ p z n what).1)) (N, κ, ρ, (cYear μ p z n what).2, ν) := by rw [← hQe]; exact ⟨rfl, rfl⟩
  clear hQe
  refine j_iload_n dX6_year_0 rfl ?_
  refine j_iconst (v := 0) dX6_year_1 (by decide) ?_
  refine j_sipush (v := 9999) dX6_year_2 (by decide) ?_
  refine j_cS3r dX6_year_5 t_out ml_X6_142 my_X6_isOutside ms_X6_isOutside (by omega) (Nat.le_of_ble_eq_true rfl) (Nat.le_of_ble_eq_true rfl) ?_
  refine j_if_neB (tgt := 30) dX6_year_8 (by decide) (fun c8 => ?_) (fun c8 => ?_)
  · skip
    refine j_iconst (v := (-1)) dX6_year_30 (by decide) ?_
    exact j_iret dX6_year_31 (by simpa only [cYear, cYrM, true_or, or_true, or_self, or_false, false_or, c8, reduceIte, Bool.false_eq_true, Bool.true_eq_false, and_self, and_true, true_and, and_false, false_and, not_true_eq_false, not_false_eq_true, ne_eq, decide_true, decide_false, if_true, if_false, Bool.not_eq_true, Bool.not_eq_false] using hQ)
  · skip
    obtain ⟨kz, hz1, hz2, rfl⟩ := out_lh (l := 0) (h := 9999) (by decide) (by decide) c8
    have ekz : (nI kz).toNatClampNeg = kz := nI_clamp (by omega)
    refine j_iload_n dX6_year_11 rfl ?_
    refine j_iconst (v := 1) dX6_year_12 (by decide) ?_
    refine j_bipush (v := 60) dX6_year_13 (by decide) ?_
    refine j_cS3r dX6_year_15 t_out ml_X6_142 my_X6_isOutside ms_X6_isOutside (by omega) (Nat.le_of_ble_eq_true rfl) (Nat.le_of_ble_eq_true rfl) ?_
    refine j_if_neB (tgt := 30) dX6_year_18 (by decide) (fun c18 => ?_) (fun c18 => ?_)
    · skip
      refine j_iconst (v := (-1)) dX6_year_30 (by decide) ?_
      exact j_iret dX6_year_31 (by simpa only [cYear, cYrM, true_or, or_true, or_self, or_false, false_or, c8, ekz, c18, reduceIte, Bool.false_eq_true, Bool.true_eq_false, and_self, and_true, true_and, and_false, false_and, not_true_eq_false, not_false_eq_true, ne_eq, decide_true, decide_false, if_true, if_false, Bool.not_eq_true, Bool.not_eq_false] using hQ)
    · skip
      obtain ⟨kn, hn1, hn2, rfl⟩ := out_lh (l := 1) (h := 60) (by decide) (by decide) c18
      have ekn : (nI kn).toNatClampNeg = kn := nI_clamp (by omega)
      refine j_iload_n dX6_year_21 rfl ?_
      refine j_iconst (v := 0) dX6_year_22 (by decide) ?_
      refine j_iconst (v := 2) dX6_year_23 (by decide) ?_
      refine j_cS3r dX6_year_24 t_out ml_X6_142 my_X6_isOutside ms_X6_isOutside (by omega) (Nat.le_of_ble_eq_true rfl) (Nat.le_of_ble_eq_true rfl) ?_
      refine j_if_eqB (tgt := 32) dX6_year_27 (by decide) (fun c27 => ?_) (fun c27 => ?_)
      · skip
        refine j_aload_n dX6_year_32 rfl ?_
        refine j_getr dX6_year_33 fl_X6_35 rfl (o_0 hs) (r_0_4 hs) ?_
        refine j_aload_n dX6_year_36 rfl ?_
        refine j_getr dX6_year_37 fl_X6_31 rfl (o_0 hs) (r_0_3 hs) ?_
        refine j_cV1v dX6_year_40 (t_copyFrom hs twn_20 twn_14) ml_X6_170 my_X5_copyFrom mi_X5_copyFrom (tO hs twn_20) rfl (by omega) (Nat.le_of_ble_eq_true rfl) (Nat.le_of_ble_eq_true rfl) ?_
        refine j_iconst (v := 0) dX6_year_43 (by decide) ?_
        refine j_istore_4 dX6_year_44 rfl ?_
        refine lp_year (by omega) hs (by rw [tCp_lo twn_20 (by decide)]; exact hp) hp5 hp1 (by omega) (by omega) ?_
        have hpy : it (cYrF p kz) kn 0 (tCp μ 20 14) 9 0 = nI p := by rw [it_lo (fun i m => cYrF_lo p kz i m (by decide)), tCp_lo twn_20 (by decide)]; exact hp
        refine j_iload_n dX6_year_72 rfl ?_
        refine j_if_ne (tgt := 84) dX6_year_73 (by decide) (fun c73 => ?_) (fun c73 => ?_)
        · skip
          refine j_iload_n dX6_year_84 rfl ?_
          refine j_iconst (v := 1) dX6_year_85 (by decide) ?_
          refine j_icmp_ne (tgt := 99) dX6_year_86 (by decide) (fun c86 => ?_) (fun c86 => ?_)
          · skip
            refine j_aload_n dX6_year_99 rfl ?_
            refine j_getr dX6_year_100 fl_X6_35 rfl (o_0 hs) (r_0_4 hs) ?_
            refine j_cV0r dX6_year_103 (t_countHurt hs twn_20 hpy hp5) ml_X6_227 my_X5_countHurt mi_X5_countHurt (tO hs twn_20) rfl (by omega) (Nat.le_of_ble_eq_true rfl) (Nat.le_of_ble_eq_true rfl) ?_
            exact j_iret dX6_year_106 (by simpa only [cYear, cYrM, true_or, or_true, or_self, or_false, false_or, c8, ekz, c18, ekn, c27, c73, c86, reduceIte, Bool.false_eq_true, Bool.true_eq_false, and_self, and_true, true_and, and_false, false_and, not_true_eq_false, not_false_eq_true, ne_eq, decide_true, decide_false, if_true, if_false, Bool.not_eq_true, Bool.not_eq_false] using hQ)
          · skip
            refine j_aload_n dX6_year_89 rfl ?_
            refine j_getr dX6_year_90 fl_X6_35 rfl (o_0 hs) (r_0_4 hs) ?_
            refine j_geti dX6_year_93 fl_X6_159 rfl (tO hs twn_20) ?_
            refine j_goto (tgt := 106) dX6_year_96 (by decide) ?_
            exact j_iret dX6_year_106 (by simpa only [cYear, cYrM, true_or, or_true, or_self, or_false, false_or, c8, ekz, c18, ekn, c27, c73, eq_true c86, reduceIte, Bool.false_eq_true, Bool.true_eq_false, and_self, and_true, true_and, and_false, false_and, not_true_eq_false, not_false_eq_true, ne_eq, decide_true, decide_false, if_true, if_false, Bool.not_eq_true, Bool.not_eq_false] using hQ)
        · skip
          refine j_aload_n dX6_year_76 rfl ?_
          refine j_getr dX6_year_77 fl_X6_35 rfl (o_0 hs) (r_0_4 hs) ?_
          refine j_cV0r dX6_year_80 (t_countDown hs twn_20 hpy hp5) ml_X6_224 my_X5_countDown mi_X5_countDown (tO hs twn_20) rfl (by omega) (Nat.le_of_ble_eq_true rfl) (Nat.le_of_ble_eq_true rfl) ?_
          exact j_iret dX6_year_83 (by simpa only [cYear, cYrM, true_or, or_true, or_self, or_false, false_or, c8, ekz, c18, ekn, c27, eq_true c73, reduceIte, Bool.false_eq_true, Bool.true_eq_false, and_self, and_true, true_and, and_false, false_and, not_true_eq_false, not_false_eq_true, ne_eq, decide_true, decide_false, if_true, if_false, Bool.not_eq_true, Bool.not_eq_false] using hQ)
      · skip
        refine j_iconst (v := (-1)) dX6_year_30 (by decide) ?_
        exact j_iret dX6_year_31 (by simpa only [cYear, cYrM, true_or, or_true, or_self, or_false, false_or, c8, ekz, c18, ekn, c27, reduceIte, Bool.false_eq_true, Bool.true_eq_false, and_self, and_true, true_and, and_false, false_and, not_true_eq_false, not_false_eq_true, ne_eq, decide_true, decide_false, if_true, if_false, Bool.not_eq_true, Bool.not_eq_false] using hQ)

