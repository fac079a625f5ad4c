def tCD (μ : jMem) (a p : Nat) : Int32 := it (fun w c => if tSt μ a w = true then c else c + 1) p 0 0
set_option maxRecDepth 20000 in
theorem lp_cd {G : jG} {N : Nat} {κ : Nat → jK} {ρ : Nat → Nat → Option Nat} {ν : Nat → Nat → Int64} {Q : Option Value → jH → Prop} {d : Nat} (hd1 : 1 ≤ d) {a p : Nat} {μ : jMem} (hs : shC N κ ρ) (ht : tw a) (hp : μ 9 0 = nI p) (hp5 : p ≤ 5) (K : J G RX5 cX5_countDown 3 false d Q 0 0 (N, κ, ρ, μ, ν) 32 [some (.ref a), some (.int (it (fun w c => if tSt μ a w = true then c else c + 1) p 0 0)), some (.int (nI p))] []) : J G RX5 cX5_countDown 3 false d Q 0 0 (N, κ, ρ, μ, ν) 4 [some (.ref a), some (.int 0), some (.int (nI 0))] [] := by
  refine it_loop (f := fun w c => if tSt μ a w = true then c else c + 1) (p := p) (fun i s => J G RX5 cX5_countDown 3 false d Q 0 0 (N, κ, ρ, μ, ν) 4 [some (.ref a), some (.int s), some (.int (nI i))] []) (fun s => J G RX5 cX5_countDown 3 false d Q 0 0 (N, κ, ρ, μ, ν) 32 [some (.ref a), some (.int s), some (.int (nI p))] []) (fun _ _ => True) ?_ ?_ (fun _ _ _ _ => trivial) p 0 0 (by omega) trivial K
  · intro s hI K
    refine j_iload_n dX5_countDown_4 rfl ?_
    refine j_aload_n dX5_countDown_5 rfl ?_
    refine j_getr dX5_countDown_6 fl_X5_34 rfl (tO hs ht) (tR0 hs ht) ?_
    refine j_geti dX5_countDown_9 fl_X5_58 rfl (o_9 hs) ?_
    refine k_icmp_ge (tgt := 32) dX5_countDown_12 (by decide) (fun c12 c12' => ?_) (fun c12 c12' => ?_)
    · skip
      exact K
    · skip
      exact absurd (by rw [hp]; exact Int32.le_refl _) c12
  · intro i s hi hI K
    (try dsimp only at K)
    refine j_iload_n dX5_countDown_4 rfl ?_
    refine j_aload_n dX5_countDown_5 rfl ?_
    refine j_getr dX5_countDown_6 fl_X5_34 rfl (tO hs ht) (tR0 hs ht) ?_
    refine j_geti dX5_countDown_9 fl_X5_58 rfl (o_9 hs) ?_
    refine k_icmp_ge (tgt := 32) dX5_countDown_12 (by decide) (fun c12 c12' => ?_) (fun c12 c12' => ?_)
    · skip
      exact absurd c12 (by rw [hp]; exact nI_ge (by omega) (by omega))
    · skip
      refine j_aload_n dX5_countDown_15 rfl ?_
      refine j_iload_n dX5_countDown_16 rfl ?_
      refine j_cV1r dX5_countDown_17 (t_stands (w := i) hs ht (by omega)) ml_X5_92 my_X5_stands mi_X5_stands (tO hs ht) rfl (by omega) (Nat.le_of_ble_eq_true rfl) (Nat.le_of_ble_eq_true rfl) ?_
      refine j_if_neB (tgt := 26) dX5_countDown_20 (by decide) (fun c20 => ?_) (fun c20 => ?_)
      · skip
        refine j_iinc_2 (v := nI (i + 1)) dX5_countDown_26 (nI_add _ _) rfl ?_
        refine j_goto (tgt := 4) dX5_countDown_29 (by decide) ?_
        (try simp only [c12, c12', c20, reduceIte, Bool.false_eq_true, Bool.true_eq_false, and_self, and_true, true_and, and_false, false_and, not_true_eq_false, not_false_eq_true, ne_eq, decide_true, decide_false, if_true, if_false, Bool.not_eq_true, Bool.not_eq_false] at K)
        exact K
      · skip
        refine j_iinc_1 dX5_countDown_23 rfl rfl ?_
        refine j_iinc_2 (v := nI (i + 1)) dX5_countDown_26 (nI_add _ _) rfl ?_
        refine j_goto (tgt := 4) dX5_countDown_29 (by decide) ?_
        (try simp only [c12, c12', c20, reduceIte, Bool.false_eq_true, Bool.true_eq_false, and_self, and_true, true_and, and_false, false_and, not_true_eq_false, not_false_eq_true, ne_eq, decide_true, decide_false, if_true, if_false, Bool.not_eq_true, Bool.not_eq_false] at K)
        exact K

set_option maxRecDepth 20000 in
theorem t_countDown {G : jG} {N : Nat} {κ : Nat → jK} {ρ : Nat → Nat → Option Nat} {μ : Nat → Nat → Int32} {ν : Nat → Nat → Int64} {a p : Nat} (hs : shC N κ ρ) (ht : tw a) (hp : μ 9 0 = nI p) (hp5 : p ≤ 5) : MT G yX5_countDown cX5_countDown 3 (some .int) 1 0 0 [.ref a] (N, κ, ρ, μ, ν) (some (.int (tCD μ a p))) (N, κ, ρ, μ, ν) := by
  refine jMT (ini := false) my_X5_countDown (fun h => by cases h) (jRv_i _) (Nat.le_of_ble_eq_true rfl) ?_
  show J G RX5 cX5_countDown 3 false 1 _ 0 0 (N, κ, ρ, μ, ν) 0 [some (.ref a), none, none] []
  refine j_iconst (v := 0) dX5_countDown_0 (by decide) ?_
  refine j_istore_1 dX5_countDown_1 rfl ?_
  refine j_iconst (v := 0) dX5_countDown_2 (by decide) ?_
  refine j_istore_2 dX5_countDown_3 rfl ?_
  refine lp_cd (by omega) hs ht hp hp5 ?_
  refine j_iload_n dX5_countDown_32 rfl ?_
  exact j_iret dX5_countDown_33 ⟨rfl, rfl⟩

def tCH (μ : jMem) (a p : Nat) : Int32 := it (fun w c => c + μ (a + 3) w) p 0 0
set_option maxRecDepth 20000 in
theorem lp_ch {G : jG} {N : Nat} {κ : Nat → jK} {ρ : Nat → Nat → Option Nat} {ν : Nat → Nat → Int64} {Q : Option Value → jH → Prop} {d : Nat} {a p : Nat} {μ : jMem} (hs : shC N κ ρ) (ht : tw a) (hp : μ 9 0 = nI p) (hp5 : p ≤ 5) (K : J G RX5 cX5_countHurt 3 false d Q 0 0 (N, κ, ρ, μ, ν) 30 [some (.ref a), some (.int (it (fun w c => c + μ (a + 3) w) p 0 0)), some (.int (nI p))] []) : J G RX5 cX5_countHurt 3 false d Q 0 0 (N, κ, ρ, μ, ν) 4 [some (.ref a), some (.int 0), some (.int (nI 0))] [] := by
  refine it_loop (f := fun w c => c + μ (a + 3) w) (p := p) (fun i s => J G RX5 cX5_countHurt 3 false d Q 0 0 (N, κ, ρ, μ, ν) 4 [some (.ref a), some (.int s), some (.int (nI i))] []) (fun s => J G RX5 cX5_countHurt 3 false d Q 0 0 (N, κ, ρ, μ, ν) 30 [some (.ref a), some (.int s), some (.int (nI p))] []) (fun _ _ => True) ?_ ?_ (fun _ _ _ _ => trivial) p 0 0 (by omega) trivial K
  · intro s hI K
    refine j_iload_n dX5_countHurt_4 rfl ?_
    refine j_aload_n dX5_countHurt_5 rfl ?_
    refine j_getr dX5_countHurt_6 fl_X5_34 rfl (tO hs ht) (tR0 hs ht) ?_
    refine j_geti dX5_countHurt_9 fl_X5_58 rfl (o_9 hs) ?_
    refine k_icmp_ge (tgt := 30) dX5_countHurt_12 (by decide) (fun c12 c12' => ?_) (fun c12 c12' => ?_)
    · skip
      exact K
    · skip
      exact absurd (by rw [hp]; exact Int32.le_refl _) c12
  · intro i s hi hI K
    (try dsimp only at K)
    refine j_iload_n dX5_countHurt_4 rfl ?_
    refine j_aload_n dX5_countHurt_5 rfl ?_
    refine j_getr dX5_countHurt_6 fl_X5_34 rfl (tO hs ht) (tR0 hs ht) ?_
    refine j_geti dX5_countHurt_9 fl_X5_58 rfl (o_9 hs) ?_
    refine k_icmp_ge (tgt := 30) dX5_countHurt_12 (by decide) (fun c12 c12' => ?_) (fun c12 c12' => ?_)
    · skip
      exact absurd c12 (by rw [hp]; exact nI_ge (by omega) (by omega))
    · skip
      refine j_iload_n dX5_countHurt_15 rfl ?_
      refine j_aload_n dX5_countHurt_16 rfl ?_
      refine j_getr dX5_countHurt_17 fl_X5_18 rfl (tO hs ht) (tR3 hs ht) ?_
      refine j_iload_n dX5_countHurt_20 rfl ?_
      refine j_iald (k := i) dX5_countHurt_21 (tA3 hs ht) rfl (by omega) ?_
      refine j_iadd dX5_countHurt_22 ?_
      refine j_istore_1 dX5_countHurt_23 rfl ?_
      refine j_iinc_2 (v := nI (i + 1)) dX5_countHurt_24 (nI_add _ _) rfl ?_
      refine j_goto (tgt := 4) dX5_countHurt_27 (by decide) ?_
      (try simp only [c12, c12', reduceIte, Bool.false_eq_true, Bool.true_eq_false, and_self, and_true, true_and, and_false, false_and, not_true_eq_false, not_false_eq_true, ne_eq, decide_true, decide_false, if_true, if_false, Bool.not_eq_true, Bool.not_eq_false] at K)
      exact K

set_option maxRecDepth 20000 in
theorem t_countHurt {G : jG} {N : Nat} {κ : Nat → jK} {ρ : Nat → Nat → Option Nat} {μ : Nat → Nat → Int32} {ν : Nat → Nat → Int64} {a p : Nat} (hs : shC N κ ρ) (ht : tw a) (hp : μ 9 0 = nI p) (hp5 : p ≤ 5) : MT G yX5_countHurt cX5_countHurt 3 (some .int) 0 0 0 [.ref a] (N, κ, ρ, μ, ν) (some (.int (tCH μ a p))) (N, κ, ρ, μ, ν) := by
  refine jMT (ini := false) my_X5_countHurt (fun h => by cases h) (jRv_i _) (Nat.le_of_ble_eq_true rfl) ?_
  show J G RX5 cX5_countHurt 3 false 0 _ 0 0 (N, κ, ρ, μ, ν) 0 [some (.ref a), none, none] []
  refine j_iconst (v := 0) dX5_countHurt_0 (by decide) ?_
  refine j_istore_1 dX5_countHurt_1 rfl ?_
  refine j_iconst (v := 0) dX5_countHurt_2 (by decide) ?_
  refine j_istore_2 dX5_countHurt_3 rfl ?_
  refine lp_ch hs ht hp hp5 ?_
  refine j_iload_n dX5_countHurt_30 rfl ?_
  exact j_iret dX5_countHurt_31 ⟨rfl, rfl⟩

def tCPr (μ : jMem) (a : Nat) : Int32 := it (fun i c => if 0 < μ (a + 5) i then c + 1 else c) 25 0 0
set_option maxRecDepth 20000 in
theorem lp_cp {G : jG} {N : Nat} {κ : Nat → jK} {ρ : Nat → Nat → Option Nat} {ν : Nat → Nat → Int64} {Q : Option Value → jH → Prop} {d : Nat} {a : Nat} {μ : jMem} (hs : shC N κ ρ) (ht : tw a) (K : J G RX5 cX5_countProps 6 false d Q 0 0 (N, κ, ρ, μ, ν) 39 [some (.ref a), some (.int (it (fun i c => if 0 < μ (a + 5) i then c + 1 else c) 25 0 0)), some (.ref (a + 5)), some (.int (nI 25)), some (.int (nI 25)), none] []) : J G RX5 cX5_countProps 6 false d Q 0 0 (N, κ, ρ, μ, ν) 13 [some (.ref a), some (.int 0), some (.ref (a + 5)), some (.int (nI 25)), some (.int (nI 0)), none] [] := by
  refine it_loop (f := fun i c => if 0 < μ (a + 5) i then c + 1 else c) (p := 25) (fun i s => J G RX5 cX5_countProps 6 false d Q 0 0 (N, κ, ρ, μ, ν) 13 [some (.ref a), some (.int s), some (.ref (a + 5)), some (.int (nI 25)), some (.int (nI i)), none] []) (fun s => J G RX5 cX5_countProps 6 false d Q 0 0 (N, κ, ρ, μ, ν) 39 [some (.ref a), some (.int s), some (.ref (a + 5)), some (.int (nI 25)), some (.int (nI 25)), none] []) (fun _ _ => True) ?_ ?_ (fun _ _ _ _ => trivial) 25 0 0 (by omega) trivial K
  · intro s hI K
    refine j_iload dX5_countProps_13 rfl ?_
    refine j_iload_n dX5_countProps_15 rfl ?_
    refine k_icmp_ge (tgt := 39) dX5_countProps_16 (by decide) (fun c16 c16' => ?_) (fun c16 c16' => ?_)
    · skip
      exact K
    · skip
      exact absurd (Int32.le_refl _) c16
  · intro i s hi hI K
    (try dsimp only at K)
    refine j_iload dX5_countProps_13 rfl ?_
    refine j_iload_n dX5_countProps_15 rfl ?_
    refine k_icmp_ge (tgt := 39) dX5_countProps_16 (by decide) (fun c16 c16' => ?_) (fun c16 c16' => ?_)
    · skip
      exact absurd c16 (nI_ge hi (by decide))
    · skip
      refine j_aload_n dX5_countProps_19 rfl ?_
      refine j_iload dX5_countProps_20 rfl ?_
      refine j_iald (k := i) dX5_countProps_22 (tA5 hs ht) rfl (by omega) ?_
      refine j_istore_5 dX5_countProps_23 rfl ?_
      refine j_iload dX5_countProps_25 rfl ?_
      refine k_if_le (tgt := 33) dX5_countProps_27 (by decide) (fun c27 c27' => ?_) (fun c27 c27' => ?_)
      · skip
        refine j_iinc_4 (v := nI (i + 1)) dX5_countProps_33 (nI_add _ _) rfl ?_
        refine j_goto (tgt := 13) dX5_countProps_36 (by decide) ?_
        (try simp only [c16, c16', c27, c27', reduceIte, Bool.false_eq_true, Bool.true_eq_false, and_self, and_true, true_and, and_false, false_and, not_true_eq_false, not_false_eq_true, ne_eq, decide_true, decide_false, if_true, if_false, Bool.not_eq_true, Bool.not_eq_false] at K)
        exact j_forget_5 K
      · skip
        refine j_iinc_1 dX5_countProps_30 rfl rfl ?_
        refine j_iinc_4 (v := nI (i + 1)) dX5_countProps_33 (nI_add _ _) rfl ?_
        refine j_goto (tgt := 13) dX5_countProps_36 (by decide) ?_
        (try simp only [c16, c16', c27, c27', reduceIte, Bool.false_eq_true, Bool.true_eq_false, and_self, and_true, true_and, and_false, false_and, not_true_eq_false, not_false_eq_true, ne_eq, decide_true, decide_false, if_true, if_false, Bool.not_eq_true, Bool.not_eq_false] at K)
        exact j_forget_5 K

set_option maxRecDepth 20000 in
theorem t_countProps {G : jG} {N : Nat} {κ : Nat → jK} {ρ : Nat → Nat → Option Nat} {μ : Nat → Nat → Int32} {ν : Nat → Nat → Int64} {a : Nat} (hs : shC N κ ρ) (ht : tw a) : MT G yX5_countProps cX5_countProps 6 (some .int) 0 0 0 [.ref a] (N, κ, ρ, μ, ν) (some (.int (tCPr μ a))) (N, κ, ρ, μ, ν) := by
  refine jMT (ini := false) my_X5_countProps (fun h => by cases h) (jRv_i _) (Nat.le_of_ble_eq_true rfl) ?_
  show J G RX5 cX5_countProps 6 false 0 _ 0 0 (N, κ, ρ, μ, ν) 0 [some (.ref a), none, none, none, none, none] []
  refine j_iconst (v := 0) dX5_countProps_0 (by decide) ?_
  refine j_istore_1 dX5_countProps_1 rfl ?_
  refine j_aload_n dX5_countProps_2 rfl ?_
  refine j_getr dX5_countProps_3 fl_X5_24 rfl (tO hs ht) (tR5 hs ht) ?_
  refine j_astore_2 dX5_countProps_6 rfl ?_
  refine j_aload_n dX5_countProps_7 rfl ?_
  refine j_alen dX5_countProps_8 (tA5 hs ht) ?_
  refine j_istore_3 dX5_countProps_9 rfl ?_
  refine j_iconst (v := 0) dX5_countProps_10 (by decide) ?_
  refine j_istore_4 dX5_countProps_11 rfl ?_
  refine lp_cp hs ht ?_
  refine j_iload_n dX5_countProps_39 rfl ?_
  exact j_iret dX5_countProps_40 ⟨rfl, rfl⟩

def tHo (μ : jMem) (a p w : Nat) : Int32 := it (fun x b => if 0 < tHeld μ a x w then b ||| (1 <<< (nI x &&& 31)) else b) p 0 0
set_option maxRecDepth 20000 in
theorem lp_ho {G : jG} {N : Nat} {κ : Nat → jK} {ρ : Nat → Nat → Option Nat} {ν : Nat → Nat → Int64} {Q : Option Value → jH → Prop} {d : Nat} (hd1 : 1 ≤ d) {a p : Nat} {μ : jMem} (hs : shC N κ ρ) (ht : tw a) (hp : μ 9 0 = nI p) (hp5 : p ≤ 5) {w : Nat} (hw : w < 5) (K : J G RX5 cX5_holdersOf 4 false d Q 0 0 (N, κ, ρ, μ, ν) 36 [some (.ref a), some (.int (nI w)), some (.int (it (fun x b => if 0 < tHeld μ a x w then b ||| (1 <<< (nI x &&& 31)) else b) p 0 0)), some (.int (nI p))] []) : J G RX5 cX5_holdersOf 4 false d Q 0 0 (N, κ, ρ, μ, ν) 4 [some (.ref a), some (.int (nI w)), some (.int 0), some (.int (nI 0))] [] := by
  refine it_loop (f := fun x b => if 0 < tHeld μ a x w then b ||| (1 <<< (nI x &&& 31)) else b) (p := p) (fun i s => J G RX5 cX5_holdersOf 4 false d Q 0 0 (N, κ, ρ, μ, ν) 4 [some (.ref a), some (.int (nI w)), some (.int s), some (.int (nI i))] []) (fun s => J G RX5 cX5_holdersOf 4 false d Q 0 0 (N, κ, ρ, μ, ν) 36 [some (.ref a), some (.int (nI w)), some (.int s), some (.int (nI p))] []) (fun _ _ => True) ?_ ?_ (fun _ _ _ _ => trivial) p 0 0 (by omega) trivial K
  · intro s hI K
    refine j_iload_n dX5_holdersOf_4 rfl ?_
    refine j_aload_n dX5_holdersOf_5 rfl ?_
    refine j_getr dX5_holdersOf_6 fl_X5_34 rfl (tO hs ht) (tR0 hs ht) ?_
    refine j_geti dX5_holdersOf_9 fl_X5_58 rfl (o_9 hs) ?_
    refine k_icmp_ge (tgt := 36) dX5_holdersOf_12 (by decide) (fun c12 c12' => ?_) (fun c12 c12' => ?_)
    · skip
      exact K
    · skip
      exact absurd (by rw [hp]; exact Int32.le_refl _) c12
  · intro i s hi hI K
    (try dsimp only at K)
    refine j_iload_n dX5_holdersOf_4 rfl ?_
    refine j_aload_n dX5_holdersOf_5 rfl ?_
    refine j_getr dX5_holdersOf_6 fl_X5_34 rfl (tO hs ht) (tR0 hs ht) ?_
    refine j_geti dX5_holdersOf_9 fl_X5_58 rfl (o_9 hs) ?_
    refine k_icmp_ge (tgt := 36) dX5_holdersOf_12 (by decide) (fun c12 c12' => ?_) (fun c12 c12' => ?_)
    · skip
      exact absurd c12 (by rw [hp]; exact nI_ge (by omega) (by omega))
    · skip
      refine j_aload_n dX5_holdersOf_15 rfl ?_
      refine j_iload_n dX5_holdersOf_16 rfl ?_
      refine j_iload_n dX5_holdersOf_17 rfl ?_
      refine j_cV2r dX5_holdersOf_18 (t_heldBy (x := i) (y := w) hs ht (by omega) (by omega)) ml_X5_61 my_X5_heldBy mi_X5_heldBy (tO hs ht) rfl (by omega) (Nat.le_of_ble_eq_true rfl) (Nat.le_of_ble_eq_true rfl) ?_
      refine k_if_le (tgt := 30) dX5_holdersOf_21 (by decide) (fun c21 c21' => ?_) (fun c21 c21' => ?_)
      · skip
        refine j_iinc_3 (v := nI (i + 1)) dX5_holdersOf_30 (nI_add _ _) rfl ?_
        refine j_goto (tgt := 4) dX5_holdersOf_33 (by decide) ?_
        (try simp only [c12, c12', c21, c21', reduceIte, Bool.false_eq_true, Bool.true_eq_false, and_self, and_true, true_and, and_false, false_and, not_true_eq_false, not_false_eq_true, ne_eq, decide_true, decide_false, if_true, if_false, Bool.not_eq_true, Bool.not_eq_false] at K)
        exact K
      · skip
        refine j_iload_n dX5_holdersOf_24 rfl ?_
        refine j_iconst (v := 1) dX5_holdersOf_25 (by decide) ?_
        refine j_iload_n dX5_holdersOf_26 rfl ?_
        refine j_ishl dX5_holdersOf_27 ?_
        refine j_ior dX5_holdersOf_28 ?_
        refine j_istore_2 dX5_holdersOf_29 rfl ?_
        refine j_iinc_3 (v := nI (i + 1)) dX5_holdersOf_30 (nI_add _ _) rfl ?_
        refine j_goto (tgt := 4) dX5_holdersOf_33 (by decide) ?_
        (try simp only [c12, c12', c21, c21', reduceIte, Bool.false_eq_true, Bool.true_eq_false, and_self, and_true, true_and, and_false, false_and, not_true_eq_false, not_false_eq_true, ne_eq, decide_true, decide_false, if_true, if_false, Bool.not_eq_true, Bool.not_eq_false] at K)
        exact K

set_option maxRecDepth 20000 in
theorem t_holdersOf {G : jG} {N : Nat} {κ : Nat → jK} {ρ : Nat → Nat → Option Nat} {μ : Nat → Nat → Int32} {ν : Nat → Nat → Int64} {a p : Nat} (hs : shC N κ ρ) (ht : tw a) (hp : μ 9 0 = nI p) (hp5 : p ≤ 5) {w : Nat} (hw : w < 5) : MT G yX5_holdersOf cX5_holdersOf 4 (some .int) 1 0 0 [.ref a, .int (nI w)] (N, κ, ρ, μ, ν) (some (.int (tHo μ a p w))) (N, κ, ρ, μ, ν) := by
  refine jMT (ini := false) my_X5_holdersOf (fun h => by cases h) (jRv_i _) (Nat.le_of_ble_eq_true rfl) ?_
  show J G RX5 cX5_holdersOf 4 false 1 _ 0 0 (N, κ, ρ, μ, ν) 0 [some (.ref a), some (.int (nI w)), none, none] []
  refine j_iconst (v := 0) dX5_holdersOf_0 (by decide) ?_
  refine j_istore_2 dX5_holdersOf_1 rfl ?_
  refine j_iconst (v := 0) dX5_holdersOf_2 (by decide) ?_
  refine j_istore_3 dX5_holdersOf_3 rfl ?_
  refine lp_ho (by omega) hs ht hp hp5 hw ?_
  refine j_iload_n dX5_holdersOf_36 rfl ?_
  exact j_iret dX5_holdersOf_37 ⟨rfl, rfl⟩

def tFewL (μ : jMem) (a w : Nat) : Nat → Nat → Int32
  | 0, _ => -4
  | n + 1, i => if tWF μ a w (nI i) = true then nI i else tFewL μ a w n (i + 1)
def tFew (μ : jMem) (a w : Nat) : Int32 := tFewL μ a w 9 1
set_option maxRecDepth 20000 in
theorem lp_few {G : jG} {N : Nat} {κ : Nat → jK} {ρ : Nat → Nat → Option Nat} {ν : Nat → Nat → Int64} {Q : Option Value → jH → Prop} {d : Nat} (hd1 : 1 ≤ d) {a w : Nat} {μ : jMem} (hs : shC N κ ρ) (ht : tw a) (hw : w < 5) : ∀ n i, i + n = 10 → Q (some (.int (tFewL μ a w n i))) (N, κ, ρ, μ, ν) → J G RX5 cX5_fewestTrumpets 3 false d Q 0 0 (N, κ, ρ, μ, ν) 2 [some (.ref a), some (.int (nI w)), some (.int (nI i))] []
  | 0, i, hi, hq => by
    refine j_iload_n dX5_fewestTrumpets_2 rfl ?_
    refine j_bipush (v := 9) dX5_fewestTrumpets_3 (by decide) ?_
    refine k_icmp_gt (tgt := 25) dX5_fewestTrumpets_5 (by decide) (fun c5 c5' => ?_) (fun c5 c5' => ?_)
    · skip
      refine j_bipush (v := (-4)) dX5_fewestTrumpets_25 (by decide) ?_
      exact j_iret dX5_fewestTrumpets_27 hq
    · skip
      exact absurd (by rw [jl9]; exact nI_lt (by omega) (by omega)) c5
  | n + 1, i, hi, hq => by
    rw [tFewL] at hq
    refine j_iload_n dX5_fewestTrumpets_2 rfl ?_
    refine j_bipush (v := 9) dX5_fewestTrumpets_3 (by decide) ?_
    refine k_icmp_gt (tgt := 25) dX5_fewestTrumpets_5 (by decide) (fun c5 c5' => ?_) (fun c5 c5' => ?_)
    · skip
      exact absurd c5 (by rw [jl9]; exact nI_nlt (by omega) (by omega))
    · skip
      refine j_aload_n dX5_fewestTrumpets_8 rfl ?_
      refine j_iload_n dX5_fewestTrumpets_9 rfl ?_
      refine j_iload_n dX5_fewestTrumpets_10 rfl ?_
      refine j_cV2r dX5_fewestTrumpets_11 (t_wouldFall (w := w) hs ht (by omega)) ml_X5_73 my_X5_wouldFall mi_X5_wouldFall (tO hs ht) rfl (by omega) (Nat.le_of_ble_eq_true rfl) (Nat.le_of_ble_eq_true rfl) ?_
      refine j_if_eqB (tgt := 19) dX5_fewestTrumpets_14 (by decide) (fun c14 => ?_) (fun c14 => ?_)
      · skip
        rw [if_neg (by rw [c14]; decide)] at hq
        refine j_iinc_2 (v := nI (i + 1)) dX5_fewestTrumpets_19 (nI_add _ _) rfl ?_
        refine j_goto (tgt := 2) dX5_fewestTrumpets_22 (by decide) ?_
        exact lp_few hd1 hs ht hw n (i + 1) (by omega) hq
      · skip
        rw [if_pos c14] at hq
        refine j_iload_n dX5_fewestTrumpets_17 rfl ?_
        exact j_iret dX5_fewestTrumpets_18 hq

set_option maxRecDepth 20000 in
theorem t_few {G : jG} {N : Nat} {κ : Nat → jK} {ρ : Nat → Nat → Option Nat} {μ : Nat → Nat → Int32} {ν : Nat → Nat → Int64} {a : Nat} (hs : shC N κ ρ) (ht : tw a) {w : Nat} (hw : w < 5) : MT G yX5_fewestTrumpets cX5_fewestTrumpets 3 (some .int) 1 0 0 [.ref a, .int (nI w)] (N, κ, ρ, μ, ν) (some (.int (tFew μ a w))) (N, κ, ρ, μ, ν) := by
  refine jMT (ini := false) my_X5_fewestTrumpets (fun h => by cases h) (jRv_i _) (Nat.le_of_ble_eq_true rfl) ?_
  show J G RX5 cX5_fewestTrumpets 3 false 1 _ 0 0 (N, κ, ρ, μ, ν) 0 [some (.ref a), some (.int (nI w)), none] []
  refine j_iconst (v := 1) dX5_fewestTrumpets_0 (by decide) ?_
  refine j_istore_2 dX5_fewestTrumpets_1 rfl ?_
  exact lp_few (by omega) hs ht hw 9 1 rfl ⟨rfl, rfl⟩

def tDayL (a : Nat) : Nat → jMem → jMem := fun w (m : jMem) => if m 10 w = 1 ∧ tSt m a w = true then jup m (a + 1) w (if 99 < m (a + 1) w + 1 then 99 else m (a + 1) w + 1) else m
def tDay (μ : jMem) (a p : Nat) : jMem := jup (it (tDayL a) p 0 μ) a 7 (it (tDayL a) p 0 μ a 7 + 1)
theorem tDayL_9 {a : Nat} (ht : tw a) (w : Nat) (m : jMem) {k j : Nat} (hk : k < 14) : tDayL a w m k j = m k j := by
  have := tw_ge ht
  unfold tDayL
  split
  · exact jup_oth (by omega)
  · rfl
set_option maxRecDepth 20000 in
theorem lp_day {G : jG} {N : Nat} {κ : Nat → jK} {ρ : Nat → Nat → Option Nat} {ν : Nat → Nat → Int64} {Q : Option Value → jH → Prop} {d : Nat} (hd1 : 1 ≤ d) {a p : Nat} {μ : jMem} (hs : shC N κ ρ) (ht : tw a) (hp : μ 9 0 = nI p) (hp5 : p ≤ 5) (K : J G RX5 cX5_dayGoesBy 2 false d Q 0 0 (N, κ, ρ, (it (tDayL a) p 0 μ), ν) 59 [some (.ref a), some (.int (nI p))] []) : J G RX5 cX5_dayGoesBy 2 false d Q 0 0 (N, κ, ρ, μ, ν) 2 [some (.ref a), some (.int (nI 0))] [] := by
  refine it_loop (f := tDayL a) (p := p) (fun i s => J G RX5 cX5_dayGoesBy 2 false d Q 0 0 (N, κ, ρ, s, ν) 2 [some (.ref a), some (.int (nI i))] []) (fun s => J G RX5 cX5_dayGoesBy 2 false d Q 0 0 (N, κ, ρ, s, ν) 59 [some (.ref a), some (.int (nI p))] []) (fun _ s => s 9 0 = nI p) ?_ ?_ (fun i s _ h => by rw [tDayL_9 ht i s (by decide)]; exact h) p 0 μ (by omega) hp K
  · intro s hI K
    replace hp := hI
    refine j_iload_n dX5_dayGoesBy_2 rfl ?_
    refine j_aload_n dX5_dayGoesBy_3 rfl ?_
    refine j_getr dX5_dayGoesBy_4 fl_X5_34 rfl (tO hs ht) (tR0 hs ht) ?_
    refine j_geti dX5_dayGoesBy_7 fl_X5_58 rfl (o_9 hs) ?_
    refine k_icmp_ge (tgt := 59) dX5_dayGoesBy_10 (by decide) (fun c10 c10' => ?_) (fun c10 c10' => ?_)
    · skip
      exact K
    · skip
      exact absurd (by rw [hp]; exact Int32.le_refl _) c10
  · intro i s hi hI K
    (try dsimp only at K)
    replace hp := hI
    unfold tDayL at K
    (try dsimp only at K)
    refine j_iload_n dX5_dayGoesBy_2 rfl ?_
    refine j_aload_n dX5_dayGoesBy_3 rfl ?_
    refine j_getr dX5_dayGoesBy_4 fl_X5_34 rfl (tO hs ht) (tR0 hs ht) ?_
    refine j_geti dX5_dayGoesBy_7 fl_X5_58 rfl (o_9 hs) ?_
    refine k_icmp_ge (tgt := 59) dX5_dayGoesBy_10 (by decide) (fun c10 c10' => ?_) (fun c10 c10' => ?_)
    · skip
      exact absurd c10 (by rw [hp]; exact nI_ge (by omega) (by omega))
    · skip
      refine j_aload_n dX5_dayGoesBy_13 rfl ?_
      refine j_getr dX5_dayGoesBy_14 fl_X5_34 rfl (tO hs ht) (tR0 hs ht) ?_
      refine j_getr dX5_dayGoesBy_17 fl_X5_55 rfl (o_9 hs) (r_9_2 hs) ?_
      refine j_iload_n dX5_dayGoesBy_20 rfl ?_
      refine j_iald (k := i) dX5_dayGoesBy_21 (a_10 hs) rfl (by omega) ?_
      refine j_iconst (v := 1) dX5_dayGoesBy_22 (by decide) ?_
      refine j_icmp_ne (tgt := 53) dX5_dayGoesBy_23 (by decide) (fun c23 => ?_) (fun c23 => ?_)
      · skip
        refine j_iinc_1 (v := nI (i + 1)) dX5_dayGoesBy_53 (nI_add _ _) rfl ?_
        refine j_goto (tgt := 2) dX5_dayGoesBy_56 (by decide) ?_
        (try simp only [c10, c10', c23, reduceIte, Bool.false_eq_true, Bool.true_eq_false, and_self, and_true, true_and, and_false, false_and, not_true_eq_false, not_false_eq_true, ne_eq, decide_true, decide_false, if_true, if_false, Bool.not_eq_true, Bool.not_eq_false] at K)
        exact K
      · skip
        refine j_aload_n dX5_dayGoesBy_26 rfl ?_
        refine j_iload_n dX5_dayGoesBy_27 rfl ?_
        refine j_cV1r dX5_dayGoesBy_28 (t_stands (w := i) hs ht (by omega)) ml_X5_92 my_X5_stands mi_X5_stands (tO hs ht) rfl (by omega) (Nat.le_of_ble_eq_true rfl) (Nat.le_of_ble_eq_true rfl) ?_
        refine j_if_eqB (tgt := 53) dX5_dayGoesBy_31 (by decide) (fun c31 => ?_) (fun c31 => ?_)
        · skip
          refine j_iinc_1 (v := nI (i + 1)) dX5_dayGoesBy_53 (nI_add _ _) rfl ?_
          refine j_goto (tgt := 2) dX5_dayGoesBy_56 (by decide) ?_
          (try simp only [c10, c10', eq_true c23, c31, reduceIte, Bool.false_eq_true, Bool.true_eq_false, and_self, and_true, true_and, and_false, false_and, not_true_eq_false, not_false_eq_true, ne_eq, decide_true, decide_false, if_true, if_false, Bool.not_eq_true, Bool.not_eq_false] at K)
          exact K
        · skip
          refine j_aload_n dX5_dayGoesBy_34 rfl ?_
          refine j_getr dX5_dayGoesBy_35 fl_X5_9 rfl (tO hs ht) (tR1 hs ht) ?_
          refine j_iload_n dX5_dayGoesBy_38 rfl ?_
          refine j_aload_n dX5_dayGoesBy_39 rfl ?_
          refine j_getr dX5_dayGoesBy_40 fl_X5_9 rfl (tO hs ht) (tR1 hs ht) ?_
          refine j_iload_n dX5_dayGoesBy_43 rfl ?_
          refine j_iald (k := i) dX5_dayGoesBy_44 (tA1 hs ht) rfl (by omega) ?_
          refine j_iconst (v := 1) dX5_dayGoesBy_45 (by decide) ?_
          refine j_iadd dX5_dayGoesBy_46 ?_
          refine j_bipush (v := 99) dX5_dayGoesBy_47 (by decide) ?_
          refine j_mmin dX5_dayGoesBy_49 ml_X5_65 (by omega) (Nat.le_of_ble_eq_true rfl) ?_
          refine j_iast (k := i) dX5_dayGoesBy_52 (tA1 hs ht) rfl (by omega) ?_
          refine j_iinc_1 (v := nI (i + 1)) dX5_dayGoesBy_53 (nI_add _ _) rfl ?_
          refine j_goto (tgt := 2) dX5_dayGoesBy_56 (by decide) ?_
          (try simp only [c10, c10', eq_true c23, c31, reduceIte, Bool.false_eq_true, Bool.true_eq_false, and_self, and_true, true_and, and_false, false_and, not_true_eq_false, not_false_eq_true, ne_eq, decide_true, decide_false, if_true, if_false, Bool.not_eq_true, Bool.not_eq_false] at K)
          exact K

set_option maxRecDepth 20000 in
theorem t_day {G : jG} {N : Nat} {κ : Nat → jK} {ρ : Nat → Nat → Option Nat} {μ : Nat → Nat → Int32} {ν : Nat → Nat → Int64} {a p : Nat} (hs : shC N κ ρ) (ht : tw a) (hp : μ 9 0 = nI p) (hp5 : p ≤ 5) : MT G yX5_dayGoesBy cX5_dayGoesBy 2 none 1 0 0 [.ref a] (N, κ, ρ, μ, ν) none (N, κ, ρ, tDay μ a p, ν) := by
  refine jMT (ini := false) my_X5_dayGoesBy (fun h => by cases h) jRv_v (Nat.le_of_ble_eq_true rfl) ?_
  show J G RX5 cX5_dayGoesBy 2 false 1 _ 0 0 (N, κ, ρ, μ, ν) 0 [some (.ref a), none] []
  refine j_iconst (v := 0) dX5_dayGoesBy_0 (by decide) ?_
  refine j_istore_1 dX5_dayGoesBy_1 rfl ?_
  refine lp_day (by omega) hs ht hp hp5 ?_
  refine j_aload_n dX5_dayGoesBy_59 rfl ?_
  refine j_dup dX5_dayGoesBy_60 rfl ?_
  refine j_geti dX5_dayGoesBy_61 fl_X5_31 rfl (tO hs ht) ?_
  refine j_iconst (v := 1) dX5_dayGoesBy_64 (by decide) ?_
  refine j_iadd dX5_dayGoesBy_65 ?_
  refine j_puti dX5_dayGoesBy_66 fl_X5_31 rfl (tO hs ht) ?_
  exact j_vret dX5_dayGoesBy_69 ⟨rfl, rfl⟩

theorem w1_lt {w p : Nat} {x : Int32} (h : nI w + 1 < x) (e : x = nI p) (hp5 : p ≤ 5) (hw : w < 5) : w + 1 < 5 := by
  rw [e, nI_1] at h
  rcases Nat.lt_or_ge (w + 1) p with q | q
  · omega
  · exact absurd h (nI_nlt q (by omega))
/-- the first half of a fall: it is counted, rounded no more; stones or one who is hurt -/
def tF1 (μ : jMem) (a w : Nat) : jMem := jup (jup μ (a + 4) w (μ (a + 4) w + 1)) (a + 2) w 0
def tF2 (m : jMem) (a w : Nat) (way : Int32) : jMem := if way = 1 then jup m a 6 (m a 6 + m 11 w) else m
def tF3 (m : jMem) (a w : Nat) (way : Int32) : jMem := if way = 2 ∧ nI w + 1 < m 9 0 then jup m (a + 3) (w + 1) (m (a + 3) (w + 1) + 1) else m
def tFA (μ : jMem) (a w : Nat) (way : Int32) : jMem := tF3 (tF2 (tF1 μ a w) a w way) a w way
def tDec (a w : Nat) : Nat → jMem → jMem := fun b m => if tSt m a b = true then jup m (a + 1) b (m (a + 1) b - tHeld m a w b) else m
def tFall (a p : Nat) : Nat → jMem → Nat → Int32 → jMem
  | 0, μ, _, _ => μ
  | f + 1, μ, w, way =>
    if tSt (tFA μ a w way) a w = true then jup (tFA μ a w way) (a + 1) w (tFA μ a w way 11 w / 2 + 1)
    else it (fun b m => if 0 < tHeld m a w b ∧ tSt m a b = true ∧ m (a + 1) b ≤ 0 then tFall a p f m b 1 else m) p 0 (it (tDec a w) p 0 (jup (tFA μ a w way) (a + 1) w 0))
def tPull (a p f w : Nat) : Nat → jMem → jMem := fun b m => if 0 < tHeld m a w b ∧ tSt m a b = true ∧ m (a + 1) b ≤ 0 then tFall a p f m b 1 else m
theorem tFA_lo {a : Nat} (ht : tw a) (μ : jMem) (w : Nat) (way : Int32) {k j : Nat} (hk : k < 14) : tFA μ a w way k j = μ k j := by
  have := tw_ge ht
  unfold tFA tF3 tF2 tF1
  split <;> split <;> simp only [jup_oth (show k ≠ a + 3 by omega), jup_oth (show k ≠ a by omega), jup_oth (show k ≠ a + 2 by omega), jup_oth (show k ≠ a + 4 by omega)]
theorem it_lo {f : Nat → jMem → jMem} {k j : Nat} (h : ∀ i m, f i m k j = m k j) : ∀ n i m, it f n i m k j = m k j
  | 0, _, _ => rfl
  | n + 1, i, m => by rw [it, it_lo h n (i + 1) (f i m), h]
theorem tDec_lo {a : Nat} (ht : tw a) (w i : Nat) (m : jMem) {k j : Nat} (hk : k < 14) : tDec a w i m k j = m k j := by
  have := tw_ge ht
  unfold tDec
  split
  · exact jup_oth (by omega)
  · rfl
theorem tFall_lo {a : Nat} (ht : tw a) (p : Nat) {k j : Nat} (hk : k < 14) : ∀ (f : Nat) (μ : jMem) (w : Nat) (way : Int32), tFall a p f μ w way k j = μ k j
  | 0, _, _, _ => rfl
  | f + 1, μ, w, way => by
    have := tw_ge ht
    rw [tFall]
    split
    · rw [jup_oth (by omega), tFA_lo ht μ w way hk]
    · rw [it_lo, it_lo (fun i m => tDec_lo ht w i m hk), jup_oth (by omega), tFA_lo ht μ w way hk]
      intro i m
      split
      · exact tFall_lo ht p hk f m i 1
      · rfl
set_option maxRecDepth 20000 in
theorem lp_fall1 {G : jG} {N : Nat} {κ : Nat → jK} {ρ : Nat → Nat → Option Nat} {ν : Nat → Nat → Int64} {Q : Option Value → jH → Prop} {d : Nat} (hd1 : 1 ≤ d) {a p : Nat} {μ : jMem} (hs : shC N κ ρ) (ht : tw a) (hp : μ 9 0 = nI p) (hp5 : p ≤ 5) {w k : Nat} {way : Int32} (hw : w < 5) (K : J G RX5 cX5_fallWithAll 5 false d Q 0 0 (N, κ, ρ, (it (tDec a w) p 0 μ), ν) 158 [some (.ref a), some (.int (nI w)), some (.int way), some (.int (nI k)), some (.int (nI p))] []) : J G RX5 cX5_fallWithAll 5 false d Q 0 0 (N, κ, ρ, μ, ν) 114 [some (.ref a), some (.int (nI w)), some (.int way), some (.int (nI k)), some (.int (nI 0))] [] := by
  refine it_loop (f := tDec a w) (p := p) (fun i s => J G RX5 cX5_fallWithAll 5 false d Q 0 0 (N, κ, ρ, s, ν) 114 [some (.ref a), some (.int (nI w)), some (.int way), some (.int (nI k)), some (.int (nI i))] []) (fun s => J G RX5 cX5_fallWithAll 5 false d Q 0 0 (N, κ, ρ, s, ν) 158 [some (.ref a), some (.int (nI w)), some (.int way), some (.int (nI k)), some (.int (nI p))] []) (fun _ s => s 9 0 = nI p) ?_ ?_ (fun i s _ h => by rw [tDec_lo ht w i s (by decide)]; exact h) p 0 μ (by omega) hp K
  · intro s hI K
    replace hp := hI
    refine j_iload dX5_fallWithAll_114 rfl ?_
    refine j_aload_n dX5_fallWithAll_116 rfl ?_
    refine j_getr dX5_fallWithAll_117 fl_X5_34 rfl (tO hs ht) (tR0 hs ht) ?_
    refine j_geti dX5_fallWithAll_120 fl_X5_58 rfl (o_9 hs) ?_
    refine k_icmp_ge (tgt := 158) dX5_fallWithAll_123 (by decide) (fun c123 c123' => ?_) (fun c123 c123' => ?_)
    · skip
      exact K
    · skip
      exact absurd (by rw [hp]; exact Int32.le_refl _) c123
  · intro i s hi hI K
    (try dsimp only at K)
    replace hp := hI
    unfold tDec at K
    (try dsimp only at K)
    refine j_iload dX5_fallWithAll_114 rfl ?_
    refine j_aload_n dX5_fallWithAll_116 rfl ?_
    refine j_getr dX5_fallWithAll_117 fl_X5_34 rfl (tO hs ht) (tR0 hs ht) ?_
    refine j_geti dX5_fallWithAll_120 fl_X5_58 rfl (o_9 hs) ?_
    refine k_icmp_ge (tgt := 158) dX5_fallWithAll_123 (by decide) (fun c123 c123' => ?_) (fun c123 c123' => ?_)
    · skip
      exact absurd c123 (by rw [hp]; exact nI_ge (by omega) (by omega))
    · skip
      refine j_aload_n dX5_fallWithAll_126 rfl ?_
      refine j_iload dX5_fallWithAll_127 rfl ?_
      refine j_cV1r dX5_fallWithAll_129 (t_stands (w := i) hs ht (by omega)) ml_X5_92 my_X5_stands mi_X5_stands (tO hs ht) rfl (by omega) (Nat.le_of_ble_eq_true rfl) (Nat.le_of_ble_eq_true rfl) ?_
      refine j_if_eqB (tgt := 152) dX5_fallWithAll_132 (by decide) (fun c132 => ?_) (fun c132 => ?_)
      · skip
        refine j_iinc_4 (v := nI (i + 1)) dX5_fallWithAll_152 (nI_add _ _) rfl ?_
        refine j_goto (tgt := 114) dX5_fallWithAll_155 (by decide) ?_
        (try simp only [c123, c123', c132, reduceIte, Bool.false_eq_true, Bool.true_eq_false, and_self, and_true, true_and, and_false, false_and, not_true_eq_false, not_false_eq_true, ne_eq, decide_true, decide_false, if_true, if_false, Bool.not_eq_true, Bool.not_eq_false] at K)
        exact K
      · skip
        refine j_aload_n dX5_fallWithAll_135 rfl ?_
        refine j_getr dX5_fallWithAll_136 fl_X5_9 rfl (tO hs ht) (tR1 hs ht) ?_
        refine j_iload dX5_fallWithAll_139 rfl ?_
        refine j_dup2 dX5_fallWithAll_141 rfl rfl ?_
        refine j_iald (k := i) dX5_fallWithAll_142 (tA1 hs ht) rfl (by omega) ?_
        refine j_aload_n dX5_fallWithAll_143 rfl ?_
        refine j_iload_n dX5_fallWithAll_144 rfl ?_
        refine j_iload dX5_fallWithAll_145 rfl ?_
        refine j_cV2r dX5_fallWithAll_147 (t_heldBy (x := w) (y := i) hs ht (by omega) (by omega)) ml_X5_61 my_X5_heldBy mi_X5_heldBy (tO hs ht) rfl (by omega) (Nat.le_of_ble_eq_true rfl) (Nat.le_of_ble_eq_true rfl) ?_
        refine j_isub dX5_fallWithAll_150 ?_
        refine j_iast (k := i) dX5_fallWithAll_151 (tA1 hs ht) rfl (by omega) ?_
        refine j_iinc_4 (v := nI (i + 1)) dX5_fallWithAll_152 (nI_add _ _) rfl ?_
        refine j_goto (tgt := 114) dX5_fallWithAll_155 (by decide) ?_
        (try simp only [c123, c123', c132, reduceIte, Bool.false_eq_true, Bool.true_eq_false, and_self, and_true, true_and, and_false, false_and, not_true_eq_false, not_false_eq_true, ne_eq, decide_true, decide_false, if_true, if_false, Bool.not_eq_true, Bool.not_eq_false] at K)
        exact K

set_option maxRecDepth 20000 in
theorem lp_fall2 {G : jG} {N : Nat} {κ : Nat → jK} {ρ : Nat → Nat → Option Nat} {ν : Nat → Nat → Int64} {Q : Option Value → jH → Prop} {d : Nat} {a p : Nat} {μ : jMem} (hs : shC N κ ρ) (ht : tw a) (hp : μ 9 0 = nI p) (hp5 : p ≤ 5) {w k f : Nat} {way : Int32} (hw : w < 5) (hfd : f + 2 ≤ d) (hF : ∀ (m : jMem) (b : Nat), m 9 0 = nI p → b < 5 → MT G yX5_fallWithAll cX5_fallWithAll 5 none (f + 1) 0 0 [.ref a, .int (nI b), .int 1, .int (nI k + 1)] (N, κ, ρ, m, ν) none (N, κ, ρ, tFall a p f m b 1, ν)) (K : J G RX5 cX5_fallWithAll 5 false d Q 0 0 (N, κ, ρ, (it (tPull a p f w) p 0 μ), ν) 218 [some (.ref a), some (.int (nI w)), some (.int way), some (.int (nI k)), some (.int (nI p))] []) : J G RX5 cX5_fallWithAll 5 false d Q 0 0 (N, κ, ρ, μ, ν) 161 [some (.ref a), some (.int (nI w)), some (.int way), some (.int (nI k)), some (.int (nI 0))] [] := by
  refine it_loop (f := tPull a p f w) (p := p) (fun i s => J G RX5 cX5_fallWithAll 5 false d Q 0 0 (N, κ, ρ, s, ν) 161 [some (.ref a), some (.int (nI w)), some (.int way), some (.int (nI k)), some (.int (nI i))] []) (fun s => J G RX5 cX5_fallWithAll 5 false d Q 0 0 (N, κ, ρ, s, ν) 218 [some (.ref a), some (.int (nI w)), some (.int way), some (.int (nI k)), some (.int (nI p))] []) (fun _ s => s 9 0 = nI p) ?_ ?_ (fun i s _ h => by unfold tPull; split; rw [tFall_lo ht p (by decide)]; exact h; exact h) p 0 μ (by omega) hp K
  · intro s hI K
    replace hp := hI
    refine j_iload dX5_fallWithAll_161 rfl ?_
    refine j_aload_n dX5_fallWithAll_163 rfl ?_
    refine j_getr dX5_fallWithAll_164 fl_X5_34 rfl (tO hs ht) (tR0 hs ht) ?_
    refine j_geti dX5_fallWithAll_167 fl_X5_58 rfl (o_9 hs) ?_
    refine k_icmp_ge (tgt := 218) dX5_fallWithAll_170 (by decide) (fun c170 c170' => ?_) (fun c170 c170' => ?_)
    · skip
      exact K
    · skip
      exact absurd (by rw [hp]; exact Int32.le_refl _) c170
  · intro i s hi hI K
    (try dsimp only at K)
    replace hp := hI
    unfold tPull at K
    (try dsimp only at K)
    refine j_iload dX5_fallWithAll_161 rfl ?_
    refine j_aload_n dX5_fallWithAll_163 rfl ?_
    refine j_getr dX5_fallWithAll_164 fl_X5_34 rfl (tO hs ht) (tR0 hs ht) ?_
    refine j_geti dX5_fallWithAll_167 fl_X5_58 rfl (o_9 hs) ?_
    refine k_icmp_ge (tgt := 218) dX5_fallWithAll_170 (by decide) (fun c170 c170' => ?_) (fun c170 c170' => ?_)
    · skip
      exact absurd c170 (by rw [hp]; exact nI_ge (by omega) (by omega))
    · skip
      refine j_aload_n dX5_fallWithAll_173 rfl ?_
      refine j_iload_n dX5_fallWithAll_174 rfl ?_
      refine j_iload dX5_fallWithAll_175 rfl ?_
      refine j_cV2r dX5_fallWithAll_177 (t_heldBy (x := w) (y := i) hs ht (by omega) (by omega)) ml_X5_61 my_X5_heldBy mi_X5_heldBy (tO hs ht) rfl (by omega) (Nat.le_of_ble_eq_true rfl) (Nat.le_of_ble_eq_true rfl) ?_
      refine k_if_le (tgt := 212) dX5_fallWithAll_180 (by decide) (fun c180 c180' => ?_) (fun c180 c180' => ?_)
      · skip
        refine j_iinc_4 (v := nI (i + 1)) dX5_fallWithAll_212 (nI_add _ _) rfl ?_
        refine j_goto (tgt := 161) dX5_fallWithAll_215 (by decide) ?_
        (try simp only [c170, c170', c180, c180', reduceIte, Bool.false_eq_true, Bool.true_eq_false, and_self, and_true, true_and, and_false, false_and, not_true_eq_false, not_false_eq_true, ne_eq, decide_true, decide_false, if_true, if_false, Bool.not_eq_true, Bool.not_eq_false] at K)
        exact K
      · skip
        refine j_aload_n dX5_fallWithAll_183 rfl ?_
        refine j_iload dX5_fallWithAll_184 rfl ?_
        refine j_cV1r dX5_fallWithAll_186 (t_stands (w := i) hs ht (by omega)) ml_X5_92 my_X5_stands mi_X5_stands (tO hs ht) rfl (by omega) (Nat.le_of_ble_eq_true rfl) (Nat.le_of_ble_eq_true rfl) ?_
        refine j_if_eqB (tgt := 212) dX5_fallWithAll_189 (by decide) (fun c189 => ?_) (fun c189 => ?_)
        · skip
          refine j_iinc_4 (v := nI (i + 1)) dX5_fallWithAll_212 (nI_add _ _) rfl ?_
          refine j_goto (tgt := 161) dX5_fallWithAll_215 (by decide) ?_
          (try simp only [c170, c170', c180, c180', c189, reduceIte, Bool.false_eq_true, Bool.true_eq_false, and_self, and_true, true_and, and_false, false_and, not_true_eq_false, not_false_eq_true, ne_eq, decide_true, decide_false, if_true, if_false, Bool.not_eq_true, Bool.not_eq_false] at K)
          exact K
        · skip
          refine j_aload_n dX5_fallWithAll_192 rfl ?_
          refine j_getr dX5_fallWithAll_193 fl_X5_9 rfl (tO hs ht) (tR1 hs ht) ?_
          refine j_iload dX5_fallWithAll_196 rfl ?_
          refine j_iald (k := i) dX5_fallWithAll_198 (tA1 hs ht) rfl (by omega) ?_
          refine k_if_gt (tgt := 212) dX5_fallWithAll_199 (by decide) (fun c199 c199' => ?_) (fun c199 c199' => ?_)
          · skip
            refine j_iinc_4 (v := nI (i + 1)) dX5_fallWithAll_212 (nI_add _ _) rfl ?_
            refine j_goto (tgt := 161) dX5_fallWithAll_215 (by decide) ?_
            (try simp only [c170, c170', c180, c180', c189, c199, c199', reduceIte, Bool.false_eq_true, Bool.true_eq_false, and_self, and_true, true_and, and_false, false_and, not_true_eq_false, not_false_eq_true, ne_eq, decide_true, decide_false, if_true, if_false, Bool.not_eq_true, Bool.not_eq_false] at K)
            exact K
          · skip
            refine j_aload_n dX5_fallWithAll_202 rfl ?_
            refine j_iload dX5_fallWithAll_203 rfl ?_
            refine j_iconst (v := 1) dX5_fallWithAll_205 (by decide) ?_
            refine j_iload_n dX5_fallWithAll_206 rfl ?_
            refine j_iconst (v := 1) dX5_fallWithAll_207 (by decide) ?_
            refine j_iadd dX5_fallWithAll_208 ?_
            refine j_cV3v dX5_fallWithAll_209 (hF _ i hp (by omega)) ml_X5_88 my_X5_fallWithAll mi_X5_fallWithAll (tO hs ht) rfl (by omega) (Nat.le_of_ble_eq_true rfl) (Nat.le_of_ble_eq_true rfl) ?_
            refine j_iinc_4 (v := nI (i + 1)) dX5_fallWithAll_212 (nI_add _ _) rfl ?_
            refine j_goto (tgt := 161) dX5_fallWithAll_215 (by decide) ?_
            (try simp only [c170, c170', c180, c180', c189, c199, c199', reduceIte, Bool.false_eq_true, Bool.true_eq_false, and_self, and_true, true_and, and_false, false_and, not_true_eq_false, not_false_eq_true, ne_eq, decide_true, decide_false, if_true, if_false, Bool.not_eq_true, Bool.not_eq_false] at K)
            exact K

set_option maxRecDepth 20000 in
theorem bd_fall {G : jG} {N : Nat} {κ : Nat → jK} {ρ : Nat → Nat → Option Nat} {ν : Nat → Nat → Int64} {Q : Option Value → jH → Prop} {d a p : Nat} {m : jMem} (hs : shC N κ ρ) (ht : tw a) (hp : m 9 0 = nI p) (hp5 : p ≤ 5) {w k f : Nat} {way : Int32} (hw : w < 5) (hfd : f + 2 ≤ d) (hF : ∀ (m : jMem) (b : Nat), m 9 0 = nI p → b < 5 → MT G yX5_fallWithAll cX5_fallWithAll 5 none (f + 1) 0 0 [.ref a, .int (nI b), .int 1, .int (nI k + 1)] (N, κ, ρ, m, ν) none (N, κ, ρ, tFall a p f m b 1, ν))
    (hQ : Q none (N, κ, ρ, (if tSt m a w = true then jup m (a + 1) w (m 11 w / 2 + 1) else it (tPull a p f w) p 0 (it (tDec a w) p 0 (jup m (a + 1) w 0))), ν)) : J G RX5 cX5_fallWithAll 5 false d Q 0 0 (N, κ, ρ, m, ν) 76 [some (.ref a), some (.int (nI w)), some (.int way), some (.int (nI k)), none] [] := by
  have hge := tw_ge ht
  refine j_aload_n dX5_fallWithAll_76 rfl ?_
  refine j_iload_n dX5_fallWithAll_77 rfl ?_
  refine j_cV1r dX5_fallWithAll_78 (t_stands (w := w) hs ht (by omega)) ml_X5_92 my_X5_stands mi_X5_stands (tO hs ht) rfl (by omega) (Nat.le_of_ble_eq_true rfl) (Nat.le_of_ble_eq_true rfl) ?_
  refine j_if_eqB (tgt := 104) dX5_fallWithAll_81 (by decide) (fun c81 => ?_) (fun c81 => ?_)
  · skip
    rw [if_neg (by rw [c81]; decide)] at hQ
    refine j_aload_n dX5_fallWithAll_104 rfl ?_
    refine j_getr dX5_fallWithAll_105 fl_X5_9 rfl (tO hs ht) (tR1 hs ht) ?_
    refine j_iload_n dX5_fallWithAll_108 rfl ?_
    refine j_iconst (v := 0) dX5_fallWithAll_109 (by decide) ?_
    refine j_iast (k := w) dX5_fallWithAll_110 (tA1 hs ht) rfl (by omega) ?_
    refine j_iconst (v := 0) dX5_fallWithAll_111 (by decide) ?_
    refine j_istore_4 dX5_fallWithAll_112 rfl ?_
    refine lp_fall1 (by omega) hs ht (by rw [jup_oth (by omega)]; exact hp) hp5 hw ?_
    refine j_iconst (v := 0) dX5_fallWithAll_158 (by decide) ?_
    refine j_istore_4 dX5_fallWithAll_159 rfl ?_
    refine lp_fall2 hs ht (by rw [it_lo (fun i m => tDec_lo ht w i m (by decide)), jup_oth (by omega)]; exact hp) hp5 hw hfd hF ?_
    exact j_vret dX5_fallWithAll_218 hQ
  · skip
    rw [if_pos c81] at hQ
    refine j_aload_n dX5_fallWithAll_84 rfl ?_
    refine j_getr dX5_fallWithAll_85 fl_X5_9 rfl (tO hs ht) (tR1 hs ht) ?_
    refine j_iload_n dX5_fallWithAll_88 rfl ?_
    refine j_aload_n dX5_fallWithAll_89 rfl ?_
    refine j_getr dX5_fallWithAll_90 fl_X5_34 rfl (tO hs ht) (tR0 hs ht) ?_
    refine j_getr dX5_fallWithAll_93 fl_X5_38 rfl (o_9 hs) (r_9_3 hs) ?_
    refine j_iload_n dX5_fallWithAll_96 rfl ?_
    refine j_iald (k := w) dX5_fallWithAll_97 (a_11 hs) rfl (by omega) ?_
    refine j_iconst (v := 2) dX5_fallWithAll_98 (by decide) ?_
    refine j_idiv dX5_fallWithAll_99 (by decide) ?_
    refine j_iconst (v := 1) dX5_fallWithAll_100 (by decide) ?_
    refine j_iadd dX5_fallWithAll_101 ?_
    refine j_iast (k := w) dX5_fallWithAll_102 (tA1 hs ht) rfl (by omega) ?_
    exact j_vret dX5_fallWithAll_103 hQ

set_option maxRecDepth 20000 in
theorem t_fall {G : jG} {N : Nat} {κ : Nat → jK} {ρ : Nat → Nat → Option Nat} {ν : Nat → Nat → Int64} {a p : Nat} (hs : shC N κ ρ) (ht : tw a) (hp5 : p ≤ 5) : ∀ (f k : Nat) (μ : jMem) (w : Nat) (way : Int32), f + k = 6 → μ 9 0 = nI p → w < 5 → MT G yX5_fallWithAll cX5_fallWithAll 5 none (f + 1) 0 0 [.ref a, .int (nI w), .int way, .int (nI k)] (N, κ, ρ, μ, ν) none (N, κ, ρ, tFall a p f μ w way, ν)
  | 0, k, μ, w, way, hfk, hp, hw => by
    refine jMT (ini := false) my_X5_fallWithAll (fun h => by cases h) jRv_v (Nat.le_of_ble_eq_true rfl) ?_
    show J G RX5 cX5_fallWithAll 5 false (0 + 1) _ 0 0 (N, κ, ρ, μ, ν) 0 [some (.ref a), some (.int (nI w)), some (.int way), some (.int (nI k)), none] []
    refine j_iload_n dX5_fallWithAll_0 rfl ?_
    refine j_iconst (v := 5) dX5_fallWithAll_1 (by decide) ?_
    refine k_icmp_le (tgt := 6) dX5_fallWithAll_2 (by decide) (fun c2 c2' => ?_) (fun c2 c2' => ?_)
    · skip
      exact absurd c2 (by rw [jl5]; exact nI_ge (by omega) (by omega))
    · skip
      exact j_vret dX5_fallWithAll_5 ⟨rfl, rfl⟩
  | f + 1, k, μ, w, way, hfk, hp, hw => by
    have hge := tw_ge ht
    have hF : ∀ (m : jMem) (b : Nat), m 9 0 = nI p → b < 5 → MT G yX5_fallWithAll cX5_fallWithAll 5 none (f + 1) 0 0 [.ref a, .int (nI b), .int 1, .int (nI k + 1)] (N, κ, ρ, m, ν) none (N, κ, ρ, tFall a p f m b 1, ν) := fun m b hm hb => by
      rw [nI_1]
      exact t_fall hs ht hp5 f (k + 1) m b 1 (by omega) hm hb
    refine jMT (ini := false) my_X5_fallWithAll (fun h => by cases h) jRv_v (Nat.le_of_ble_eq_true rfl) ?_
    show J G RX5 cX5_fallWithAll 5 false (f + 1 + 1) _ 0 0 (N, κ, ρ, μ, ν) 0 [some (.ref a), some (.int (nI w)), some (.int way), some (.int (nI k)), none] []
    have hQ : (fun (v' : Option Value) (h'' : jH) => v' = none ∧ h'' = (N, κ, ρ, tFall a p (f + 1) μ w way, ν)) none (N, κ, ρ, (if tSt (tFA μ a w way) a w = true then jup (tFA μ a w way) (a + 1) w (tFA μ a w way 11 w / 2 + 1) else it (tPull a p f w) p 0 (it (tDec a w) p 0 (jup (tFA μ a w way) (a + 1) w 0))), ν) := ⟨rfl, by rw [tFall]; rfl⟩
    have hpA : tFA μ a w way 9 0 = nI p := by rw [tFA_lo ht μ w way (by decide)]; exact hp
    have h9 : tF2 (tF1 μ a w) a w way 9 0 = nI p := by
      unfold tF2 tF1
      split <;> simp only [jup_oth (show (9 : Nat) ≠ a by omega), jup_oth (show (9 : Nat) ≠ a + 2 by omega), jup_oth (show (9 : Nat) ≠ a + 4 by omega)] <;> exact hp
    refine j_iload_n dX5_fallWithAll_0 rfl ?_
    refine j_iconst (v := 5) dX5_fallWithAll_1 (by decide) ?_
    refine k_icmp_le (tgt := 6) dX5_fallWithAll_2 (by decide) (fun c2 c2' => ?_) (fun c2 c2' => ?_)
    · skip
      refine j_aload_n dX5_fallWithAll_6 rfl ?_
      refine j_getr dX5_fallWithAll_7 fl_X5_21 rfl (tO hs ht) (tR4 hs ht) ?_
      refine j_iload_n dX5_fallWithAll_10 rfl ?_
      refine j_dup2 dX5_fallWithAll_11 rfl rfl ?_
      refine j_iald (k := w) dX5_fallWithAll_12 (tA4 hs ht) rfl (by omega) ?_
      refine j_iconst (v := 1) dX5_fallWithAll_13 (by decide) ?_
      refine j_iadd dX5_fallWithAll_14 ?_
      refine j_iast (k := w) dX5_fallWithAll_15 (tA4 hs ht) rfl (by omega) ?_
      refine j_aload_n dX5_fallWithAll_16 rfl ?_
      refine j_getr dX5_fallWithAll_17 fl_X5_15 rfl (tO hs ht) (tR2 hs ht) ?_
      refine j_iload_n dX5_fallWithAll_20 rfl ?_
      refine j_iconst (v := 0) dX5_fallWithAll_21 (by decide) ?_
      refine j_iast (k := w) dX5_fallWithAll_22 (tA2 hs ht) rfl (by omega) ?_
      refine j_iload_n dX5_fallWithAll_23 rfl ?_
      refine j_iconst (v := 1) dX5_fallWithAll_24 (by decide) ?_
      refine j_icmp_ne (tgt := 46) dX5_fallWithAll_25 (by decide) (fun c25 => ?_) (fun c25 => ?_)
      · skip
        refine j_heap (h2 := (N, κ, ρ, tF2 (tF1 μ a w) a w way, ν)) (by simp only [tF2, tF1, c25, reduceIte]) ?_
        refine j_iload_n dX5_fallWithAll_46 rfl ?_
        refine j_iconst (v := 2) dX5_fallWithAll_47 (by decide) ?_
        refine j_icmp_ne (tgt := 76) dX5_fallWithAll_48 (by decide) (fun c48 => ?_) (fun c48 => ?_)
        · skip
          refine j_heap (h2 := (N, κ, ρ, tFA μ a w way, ν)) (by unfold tFA tF3; rw [if_neg (fun h => c48 h.1)]) ?_
          exact bd_fall hs ht hpA hp5 hw (by omega) hF hQ
        · skip
          refine j_iload_n dX5_fallWithAll_51 rfl ?_
          refine j_iconst (v := 1) dX5_fallWithAll_52 (by decide) ?_
          refine j_iadd dX5_fallWithAll_53 ?_
          refine j_aload_n dX5_fallWithAll_54 rfl ?_
          refine j_getr dX5_fallWithAll_55 fl_X5_34 rfl (tO hs ht) (tR0 hs ht) ?_
          refine j_geti dX5_fallWithAll_58 fl_X5_58 rfl (o_9 hs) ?_
          refine k_icmp_ge (tgt := 76) dX5_fallWithAll_61 (by decide) (fun c61 c61' => ?_) (fun c61 c61' => ?_)
          · skip
            refine j_heap (h2 := (N, κ, ρ, tFA μ a w way, ν)) (by unfold tFA tF3; rw [if_neg (fun h => c61' h.2)]) ?_
            exact bd_fall hs ht hpA hp5 hw (by omega) hF hQ
          · skip
            have hw1 : w + 1 < 5 := w1_lt c61' h9 hp5 hw
            refine j_aload_n dX5_fallWithAll_64 rfl ?_
            refine j_getr dX5_fallWithAll_65 fl_X5_18 rfl (tO hs ht) (tR3 hs ht) ?_
            refine j_iload_n dX5_fallWithAll_68 rfl ?_
            refine j_iconst (v := 1) dX5_fallWithAll_69 (by decide) ?_
            refine j_iadd dX5_fallWithAll_70 ?_
            refine j_dup2 dX5_fallWithAll_71 rfl rfl ?_
            refine j_iald (k := (w + 1)) dX5_fallWithAll_72 (tA3 hs ht) (by simp only [jl1, nI_add, pk_mul]) (by omega) ?_
            refine j_iconst (v := 1) dX5_fallWithAll_73 (by decide) ?_
            refine j_iadd dX5_fallWithAll_74 ?_
            refine j_iast (k := (w + 1)) dX5_fallWithAll_75 (tA3 hs ht) (by simp only [jl1, nI_add, pk_mul]) (by omega) ?_
            refine j_heap (h2 := (N, κ, ρ, tFA μ a w way, ν)) (by unfold tFA tF3; rw [if_pos ⟨c48, c61'⟩]) ?_
            exact bd_fall hs ht hpA hp5 hw (by omega) hF hQ
      · skip
        refine j_aload_n dX5_fallWithAll_28 rfl ?_
        refine j_dup dX5_fallWithAll_29 rfl ?_
        refine j_geti dX5_fallWithAll_30 fl_X5_27 rfl (tO hs ht) ?_
        refine j_aload_n dX5_fallWithAll_33 rfl ?_
        refine j_getr dX5_fallWithAll_34 fl_X5_34 rfl (tO hs ht) (tR0 hs ht) ?_
        refine j_getr dX5_fallWithAll_37 fl_X5_38 rfl (o_9 hs) (r_9_3 hs) ?_
        refine j_iload_n dX5_fallWithAll_40 rfl ?_
        refine j_iald (k := w) dX5_fallWithAll_41 (a_11 hs) rfl (by omega) ?_
        refine j_iadd dX5_fallWithAll_42 ?_
        refine j_puti dX5_fallWithAll_43 fl_X5_27 rfl (tO hs ht) ?_
        refine j_heap (h2 := (N, κ, ρ, tF2 (tF1 μ a w) a w way, ν)) (by simp only [tF2, tF1, eq_true c25, reduceIte]) ?_
        refine j_iload_n dX5_fallWithAll_46 rfl ?_
        refine j_iconst (v := 2) dX5_fallWithAll_47 (by decide) ?_
        refine j_icmp_ne (tgt := 76) dX5_fallWithAll_48 (by decide) (fun c48 => ?_) (fun c48 => ?_)
        · skip
          refine j_heap (h2 := (N, κ, ρ, tFA μ a w way, ν)) (by unfold tFA tF3; rw [if_neg (fun h => c48 h.1)]) ?_
          exact bd_fall hs ht hpA hp5 hw (by omega) hF hQ
        · skip
          refine j_iload_n dX5_fallWithAll_51 rfl ?_
          refine j_iconst (v := 1) dX5_fallWithAll_52 (by decide) ?_
          refine j_iadd dX5_fallWithAll_53 ?_
          refine j_aload_n dX5_fallWithAll_54 rfl ?_
          refine j_getr dX5_fallWithAll_55 fl_X5_34 rfl (tO hs ht) (tR0 hs ht) ?_
          refine j_geti dX5_fallWithAll_58 fl_X5_58 rfl (o_9 hs) ?_
          refine k_icmp_ge (tgt := 76) dX5_fallWithAll_61 (by decide) (fun c61 c61' => ?_) (fun c61 c61' => ?_)
          · skip
            refine j_heap (h2 := (N, κ, ρ, tFA μ a w way, ν)) (by unfold tFA tF3; rw [if_neg (fun h => c61' h.2)]) ?_
            exact bd_fall hs ht hpA hp5 hw (by omega) hF hQ
          · skip
            have hw1 : w + 1 < 5 := w1_lt c61' h9 hp5 hw
            refine j_aload_n dX5_fallWithAll_64 rfl ?_
            refine j_getr dX5_fallWithAll_65 fl_X5_18 rfl (tO hs ht) (tR3 hs ht) ?_
            refine j_iload_n dX5_fallWithAll_68 rfl ?_
            refine j_iconst (v := 1) dX5_fallWithAll_69 (by decide) ?_
            refine j_iadd dX5_fallWithAll_70 ?_
            refine j_dup2 dX5_fallWithAll_71 rfl rfl ?_
            refine j_iald (k := (w + 1)) dX5_fallWithAll_72 (tA3 hs ht) (by simp only [jl1, nI_add, pk_mul]) (by omega) ?_
            refine j_iconst (v := 1) dX5_fallWithAll_73 (by decide) ?_
            refine j_iadd dX5_fallWithAll_74 ?_
            refine j_iast (k := (w + 1)) dX5_fallWithAll_75 (tA3 hs ht) (by simp only [jl1, nI_add, pk_mul]) (by omega) ?_
            refine j_heap (h2 := (N, κ, ρ, tFA μ a w way, ν)) (by unfold tFA tF3; rw [if_pos ⟨c48, c61'⟩]) ?_
            exact bd_fall hs ht hpA hp5 hw (by omega) hF hQ
    · skip
      exact absurd (by rw [jl5]; exact nI_le (by omega) (by omega)) c2

set_option maxRecDepth 20000 in
theorem t_comeDown {G : jG} {N : Nat} {κ : Nat → jK} {ρ : Nat → Nat → Option Nat} {μ : Nat → Nat → Int32} {ν : Nat → Nat → Int64} {a p : Nat} (hs : shC N κ ρ) (ht : tw a) (hp : μ 9 0 = nI p) (hp5 : p ≤ 5) {w : Nat} {way : Int32} (hw : w < 5) : MT G yX5_comeDown cX5_comeDown 3 none 8 0 0 [.ref a, .int (nI w), .int way] (N, κ, ρ, μ, ν) none (N, κ, ρ, tFall a p 6 μ w way, ν) := by
  refine jMT (ini := false) my_X5_comeDown (fun h => by cases h) jRv_v (Nat.le_of_ble_eq_true rfl) ?_
  show J G RX5 cX5_comeDown 3 false 8 _ 0 0 (N, κ, ρ, μ, ν) 0 [some (.ref a), some (.int (nI w)), some (.int way)] []
  refine j_aload_n dX5_comeDown_0 rfl ?_
  refine j_iload_n dX5_comeDown_1 rfl ?_
  refine j_iload_n dX5_comeDown_2 rfl ?_
  refine j_iconst (v := 0) dX5_comeDown_3 (by decide) ?_
  refine j_cV3v dX5_comeDown_4 (t_fall hs ht hp5 6 0 μ w way rfl hp hw) ml_X5_88 my_X5_fallWithAll mi_X5_fallWithAll (tO hs ht) rfl (by omega) (Nat.le_of_ble_eq_true rfl) (Nat.le_of_ble_eq_true rfl) ?_
  exact j_vret dX5_comeDown_7 ⟨rfl, rfl⟩

def tWay (μ : jMem) (a w : Nat) : Int32 := if tLI μ a w = true then 1 else 2
def tBlR (μ : jMem) (a w : Nat) (n : Int32) : Int32 := if tWF μ a w n = true then tWay μ a w else 0
def tBlM (μ : jMem) (a p w : Nat) (n : Int32) : jMem := if tWF μ a w n = true then tFall a p 6 μ w (tWay μ a w) else jup (jup μ (a + 1) w (if μ (a + 1) w - n < 1 then 1 else μ (a + 1) w - n)) (a + 2) w 0
set_option maxRecDepth 20000 in
theorem t_blow {G : jG} {N : Nat} {κ : Nat → jK} {ρ : Nat → Nat → Option Nat} {μ : Nat → Nat → Int32} {ν : Nat → Nat → Int64} {a p : Nat} (hs : shC N κ ρ) (ht : tw a) (hp : μ 9 0 = nI p) (hp5 : p ≤ 5) {w : Nat} {n : Int32} (hw : w < 5) : MT G yX5_blow cX5_blow 4 (some .int) 9 0 0 [.ref a, .int (nI w), .int n] (N, κ, ρ, μ, ν) (some (.int (tBlR μ a w n))) (N, κ, ρ, tBlM μ a p w n, ν) := by
  refine jMT (ini := false) my_X5_blow (fun h => by cases h) (jRv_i _) (Nat.le_of_ble_eq_true rfl) ?_
  show J G RX5 cX5_blow 4 false 9 _ 0 0 (N, κ, ρ, μ, ν) 0 [some (.ref a), some (.int (nI w)), some (.int n), none] []
  refine j_aload_n dX5_blow_0 rfl ?_
  refine j_iload_n dX5_blow_1 rfl ?_
  refine j_iload_n dX5_blow_2 rfl ?_
  refine j_cV2r dX5_blow_3 (t_wouldFall (w := w) hs ht (by omega)) ml_X5_73 my_X5_wouldFall mi_X5_wouldFall (tO hs ht) rfl (by omega) (Nat.le_of_ble_eq_true rfl) (Nat.le_of_ble_eq_true rfl) ?_
  refine j_if_eqB (tgt := 31) dX5_blow_6 (by decide) (fun c6 => ?_) (fun c6 => ?_)
  · skip
    refine j_aload_n dX5_blow_31 rfl ?_
    refine j_getr dX5_blow_32 fl_X5_9 rfl (tO hs ht) (tR1 hs ht) ?_
    refine j_iload_n dX5_blow_35 rfl ?_
    refine j_aload_n dX5_blow_36 rfl ?_
    refine j_getr dX5_blow_37 fl_X5_9 rfl (tO hs ht) (tR1 hs ht) ?_
    refine j_iload_n dX5_blow_40 rfl ?_
    refine j_iald (k := w) dX5_blow_41 (tA1 hs ht) rfl (by omega) ?_
    refine j_iload_n dX5_blow_42 rfl ?_
    refine j_isub dX5_blow_43 ?_
    refine j_iconst (v := 1) dX5_blow_44 (by decide) ?_
    refine j_mmax dX5_blow_45 ml_X5_85 (by omega) (Nat.le_of_ble_eq_true rfl) ?_
    refine j_iast (k := w) dX5_blow_48 (tA1 hs ht) rfl (by omega) ?_
    refine j_aload_n dX5_blow_49 rfl ?_
    refine j_getr dX5_blow_50 fl_X5_15 rfl (tO hs ht) (tR2 hs ht) ?_
    refine j_iload_n dX5_blow_53 rfl ?_
    refine j_iconst (v := 0) dX5_blow_54 (by decide) ?_
    refine j_iast (k := w) dX5_blow_55 (tA2 hs ht) rfl (by omega) ?_
    refine j_iconst (v := 0) dX5_blow_56 (by decide) ?_
    exact j_iret dX5_blow_57 ⟨by simp only [tBlR, tWay, c6, reduceIte, Bool.false_eq_true, Bool.true_eq_false, and_self, and_true, true_and, and_false, false_and, not_true_eq_false, not_false_eq_true, ne_eq, decide_true, decide_false, if_true, if_false, Bool.not_eq_true, Bool.not_eq_false], by simp only [tBlM, tWay, c6, reduceIte, Bool.false_eq_true, Bool.true_eq_false, and_self, and_true, true_and, and_false, false_and, not_true_eq_false, not_false_eq_true, ne_eq, decide_true, decide_false, if_true, if_false, Bool.not_eq_true, Bool.not_eq_false]⟩
  · skip
    refine j_aload_n dX5_blow_9 rfl ?_
    refine j_iload_n dX5_blow_10 rfl ?_
    refine j_cV1r dX5_blow_11 (t_leansInward (w := w) hs ht (by omega)) ml_X5_77 my_X5_leansInward mi_X5_leansInward (tO hs ht) rfl (by omega) (Nat.le_of_ble_eq_true rfl) (Nat.le_of_ble_eq_true rfl) ?_
    refine j_if_eqB (tgt := 21) dX5_blow_14 (by decide) (fun c14 => ?_) (fun c14 => ?_)
    · skip
      refine j_iconst (v := 2) dX5_blow_21 (by decide) ?_
      refine j_istore_3 dX5_blow_22 rfl ?_
      refine j_aload_n dX5_blow_23 rfl ?_
      refine j_iload_n dX5_blow_24 rfl ?_
      refine j_iload_n dX5_blow_25 rfl ?_
      refine j_cV2v dX5_blow_26 (t_comeDown (w := w) hs ht hp hp5 (by omega)) ml_X5_81 my_X5_comeDown mi_X5_comeDown (tO hs ht) rfl (by omega) (Nat.le_of_ble_eq_true rfl) (Nat.le_of_ble_eq_true rfl) ?_
      refine j_iload_n dX5_blow_29 rfl ?_
      exact j_iret dX5_blow_30 ⟨by simp only [tBlR, tWay, c6, c14, reduceIte, Bool.false_eq_true, Bool.true_eq_false, and_self, and_true, true_and, and_false, false_and, not_true_eq_false, not_false_eq_true, ne_eq, decide_true, decide_false, if_true, if_false, Bool.not_eq_true, Bool.not_eq_false], by simp only [tBlM, tWay, c6, c14, reduceIte, Bool.false_eq_true, Bool.true_eq_false, and_self, and_true, true_and, and_false, false_and, not_true_eq_false, not_false_eq_true, ne_eq, decide_true, decide_false, if_true, if_false, Bool.not_eq_true, Bool.not_eq_false]⟩
    · skip
      refine j_iconst (v := 1) dX5_blow_17 (by decide) ?_
      refine j_goto (tgt := 22) dX5_blow_18 (by decide) ?_
      refine j_istore_3 dX5_blow_22 rfl ?_
      refine j_aload_n dX5_blow_23 rfl ?_
      refine j_iload_n dX5_blow_24 rfl ?_
      refine j_iload_n dX5_blow_25 rfl ?_
      refine j_cV2v dX5_blow_26 (t_comeDown (w := w) hs ht hp hp5 (by omega)) ml_X5_81 my_X5_comeDown mi_X5_comeDown (tO hs ht) rfl (by omega) (Nat.le_of_ble_eq_true rfl) (Nat.le_of_ble_eq_true rfl) ?_
      refine j_iload_n dX5_blow_29 rfl ?_
      exact j_iret dX5_blow_30 ⟨by simp only [tBlR, tWay, c6, c14, reduceIte, Bool.false_eq_true, Bool.true_eq_false, and_self, and_true, true_and, and_false, false_and, not_true_eq_false, not_false_eq_true, ne_eq, decide_true, decide_false, if_true, if_false, Bool.not_eq_true, Bool.not_eq_false], by simp only [tBlM, tWay, c6, c14, reduceIte, Bool.false_eq_true, Bool.true_eq_false, and_self, and_true, true_and, and_false, false_and, not_true_eq_false, not_false_eq_true, ne_eq, decide_true, decide_false, if_true, if_false, Bool.not_eq_true, Bool.not_eq_false]⟩

