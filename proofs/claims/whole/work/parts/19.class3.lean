def jush (x y : Int32) : Int32 := (x.toUInt32 >>> (y.toUInt32 &&& Int32.toUInt32 31)).toInt32
def bc1 (x : Int32) : Int32 := x - (jush x 1 &&& 1431655765)
def bc2 (x : Int32) : Int32 := (x &&& 858993459) + (jush x 2 &&& 858993459)
def bc3 (x : Int32) : Int32 := (x + jush x 4) &&& 252645135
def bc4 (x : Int32) : Int32 := x + jush x 8
def bc5 (x : Int32) : Int32 := x + jush x 16
def jBC (x : Int32) : Int32 := bc5 (bc4 (bc3 (bc2 (bc1 x)))) &&& 63
set_option maxRecDepth 20000 in
theorem t_bc {G : jG} {N : Nat} {κ : Nat → jK} {ρ : Nat → Nat → Option Nat} {μ : Nat → Nat → Int32} {ν : Nat → Nat → Int64} {x : Int32} : MT G yJ6_bitCount_0f7a4 cJ6_bitCount_0f7a4 1 (some .int) 0 0 0 [.int x] (N, κ, ρ, μ, ν) (some (.int (jBC x))) (N, κ, ρ, μ, ν) := by
  refine jMT (ini := false) my_J6_bitCount_0f7a4 (fun h => by cases h) (jRv_i _) (Nat.le_of_ble_eq_true rfl) ?_
  show J G RJ6 cJ6_bitCount_0f7a4 1 false 0 _ 0 0 (N, κ, ρ, μ, ν) 0 [some (.int x)] []
  refine j_iload_n dJ6_bitCount_0f7a4_0 rfl ?_
  refine j_iload_n dJ6_bitCount_0f7a4_1 rfl ?_
  refine j_iconst (v := 1) dJ6_bitCount_0f7a4_2 (by decide) ?_
  refine j_iushr dJ6_bitCount_0f7a4_3 ?_
  refine j_ldcw dJ6_bitCount_0f7a4_4 ct_J6_265 ?_
  refine j_iand dJ6_bitCount_0f7a4_7 ?_
  refine j_isub dJ6_bitCount_0f7a4_8 ?_
  refine j_istore_0 dJ6_bitCount_0f7a4_9 ?_
  refine j_iload_n dJ6_bitCount_0f7a4_10 rfl ?_
  refine j_ldcw dJ6_bitCount_0f7a4_11 ct_J6_266 ?_
  refine j_iand dJ6_bitCount_0f7a4_14 ?_
  refine j_iload_n dJ6_bitCount_0f7a4_15 rfl ?_
  refine j_iconst (v := 2) dJ6_bitCount_0f7a4_16 (by decide) ?_
  refine j_iushr dJ6_bitCount_0f7a4_17 ?_
  refine j_ldcw dJ6_bitCount_0f7a4_18 ct_J6_266 ?_
  refine j_iand dJ6_bitCount_0f7a4_21 ?_
  refine j_iadd dJ6_bitCount_0f7a4_22 ?_
  refine j_istore_0 dJ6_bitCount_0f7a4_23 ?_
  refine j_iload_n dJ6_bitCount_0f7a4_24 rfl ?_
  refine j_iload_n dJ6_bitCount_0f7a4_25 rfl ?_
  refine j_iconst (v := 4) dJ6_bitCount_0f7a4_26 (by decide) ?_
  refine j_iushr dJ6_bitCount_0f7a4_27 ?_
  refine j_iadd dJ6_bitCount_0f7a4_28 ?_
  refine j_ldcw dJ6_bitCount_0f7a4_29 ct_J6_267 ?_
  refine j_iand dJ6_bitCount_0f7a4_32 ?_
  refine j_istore_0 dJ6_bitCount_0f7a4_33 ?_
  refine j_iload_n dJ6_bitCount_0f7a4_34 rfl ?_
  refine j_iload_n dJ6_bitCount_0f7a4_35 rfl ?_
  refine j_bipush (v := 8) dJ6_bitCount_0f7a4_36 (by decide) ?_
  refine j_iushr dJ6_bitCount_0f7a4_38 ?_
  refine j_iadd dJ6_bitCount_0f7a4_39 ?_
  refine j_istore_0 dJ6_bitCount_0f7a4_40 ?_
  refine j_iload_n dJ6_bitCount_0f7a4_41 rfl ?_
  refine j_iload_n dJ6_bitCount_0f7a4_42 rfl ?_
  refine j_bipush (v := 16) dJ6_bitCount_0f7a4_43 (by decide) ?_
  refine j_iushr dJ6_bitCount_0f7a4_45 ?_
  refine j_iadd dJ6_bitCount_0f7a4_46 ?_
  refine j_istore_0 dJ6_bitCount_0f7a4_47 ?_
  refine j_iload_n dJ6_bitCount_0f7a4_48 rfl ?_
  refine j_bipush (v := 63) dJ6_bitCount_0f7a4_49 (by decide) ?_
  refine j_iand dJ6_bitCount_0f7a4_51 ?_
  exact j_iret dJ6_bitCount_0f7a4_52 ⟨rfl, rfl⟩

def cSwF (set : Int32) (w : Nat) : Nat → jMem → jMem := fun a m => if set >>> (nI a &&& 31) &&& 1 = 1 then tSet m 20 a w 0 else m
def cSwM (μ : jMem) (p : Nat) (set : Int32) (w b : Nat) : jMem := tFall 20 p 6 (it (cSwF set w) p 0 (tCp μ 20 14)) b 1
def cSwB (μ : jMem) (p : Nat) (set : Int32) (w b : Nat) : Bool := tSt (cSwM μ p set w b) 20 w
theorem cSwF_lo (set : Int32) (w i : Nat) (m : jMem) {k j : Nat} (hk : k < 14) : cSwF set w i m k j = m k j := by
  unfold cSwF tSet
  split
  · exact jup_oth (by omega)
  · rfl
theorem cSwM_lo (μ : jMem) (p : Nat) (set : Int32) (w b : Nat) {k j : Nat} (hk : k < 14) : cSwM μ p set w b k j = μ k j := by
  unfold cSwM
  rw [tFall_lo twn_20 p hk, it_lo (fun i m => cSwF_lo set w i m hk), tCp_lo twn_20 hk]
set_option maxRecDepth 20000 in
theorem lp_sw {G : jG} {N : Nat} {κ : Nat → jK} {ρ : Nat → Nat → Option Nat} {ν : Nat → Nat → Int64} {Q : Option Value → jH → Prop} {d : Nat} (hd1 : 1 ≤ d) {p w b : Nat} {μ : jMem} {set : Int32} (hs : shC N κ ρ) (hp : μ 9 0 = nI p) (hp5 : p ≤ 5) (hw : w < 5) (K : J G RX6 cX6_standsWithout 5 false d Q 0 0 (N, κ, ρ, (it (cSwF set w) p 0 μ), ν) 53 [some (.ref 0), some (.int set), some (.int (nI w)), some (.int (nI b)), some (.int (nI p))] []) : J G RX6 cX6_standsWithout 5 false d Q 0 0 (N, κ, ρ, μ, ν) 14 [some (.ref 0), some (.int set), some (.int (nI w)), some (.int (nI b)), some (.int (nI 0))] [] := by
  refine it_loop (f := cSwF set w) (p := p) (fun i s => J G RX6 cX6_standsWithout 5 false d Q 0 0 (N, κ, ρ, s, ν) 14 [some (.ref 0), some (.int set), some (.int (nI w)), some (.int (nI b)), some (.int (nI i))] []) (fun s => J G RX6 cX6_standsWithout 5 false d Q 0 0 (N, κ, ρ, s, ν) 53 [some (.ref 0), some (.int set), some (.int (nI w)), some (.int (nI b)), some (.int (nI p))] []) (fun _ s => s 9 0 = nI p) ?_ ?_ (fun i s _ h => by rw [cSwF_lo set w i s (by decide)]; exact h) p 0 μ (by omega) hp K
  · intro s hI K
    replace hp := hI
    refine j_iload dX6_standsWithout_14 rfl ?_
    refine j_aload_n dX6_standsWithout_16 rfl ?_
    refine j_getr dX6_standsWithout_17 fl_X6_23 rfl (o_0 hs) (r_0_2 hs) ?_
    refine j_geti dX6_standsWithout_20 fl_X6_92 rfl (o_9 hs) ?_
    refine k_icmp_ge (tgt := 53) dX6_standsWithout_23 (by decide) (fun c23 c23' => ?_) (fun c23 c23' => ?_)
    · skip
      exact K
    · skip
      exact absurd (by rw [hp]; exact Int32.le_refl _) c23
  · intro i s hi hI K
    (try dsimp only at K)
    replace hp := hI
    unfold cSwF at K
    (try dsimp only at K)
    refine j_iload dX6_standsWithout_14 rfl ?_
    refine j_aload_n dX6_standsWithout_16 rfl ?_
    refine j_getr dX6_standsWithout_17 fl_X6_23 rfl (o_0 hs) (r_0_2 hs) ?_
    refine j_geti dX6_standsWithout_20 fl_X6_92 rfl (o_9 hs) ?_
    refine k_icmp_ge (tgt := 53) dX6_standsWithout_23 (by decide) (fun c23 c23' => ?_) (fun c23 c23' => ?_)
    · skip
      exact absurd c23 (by rw [hp]; exact nI_ge (by omega) (by omega))
    · skip
      refine j_iload_n dX6_standsWithout_26 rfl ?_
      refine j_iload dX6_standsWithout_27 rfl ?_
      refine j_ishr dX6_standsWithout_29 ?_
      refine j_iconst (v := 1) dX6_standsWithout_30 (by decide) ?_
      refine j_iand dX6_standsWithout_31 ?_
      refine j_iconst (v := 1) dX6_standsWithout_32 (by decide) ?_
      refine j_icmp_ne (tgt := 47) dX6_standsWithout_33 (by decide) (fun c33 => ?_) (fun c33 => ?_)
      · skip
        refine j_iinc_4 (v := nI (i + 1)) dX6_standsWithout_47 (nI_add _ _) rfl ?_
        refine j_goto (tgt := 14) dX6_standsWithout_50 (by decide) ?_
        (try simp only [c23, c23', c33, reduceIte, Bool.false_eq_true, Bool.true_eq_false, and_self, and_true, true_and, and_false, false_and, not_true_eq_false, not_false_eq_true, ne_eq, decide_true, decide_false, if_true, if_false, Bool.not_eq_true, Bool.not_eq_false] at K)
        exact K
      · skip
        refine j_aload_n dX6_standsWithout_36 rfl ?_
        refine j_getr dX6_standsWithout_37 fl_X6_35 rfl (o_0 hs) (r_0_4 hs) ?_
        refine j_iload dX6_standsWithout_40 rfl ?_
        refine j_iload_n dX6_standsWithout_42 rfl ?_
        refine j_iconst (v := 0) dX6_standsWithout_43 (by decide) ?_
        refine j_cV3v dX6_standsWithout_44 (t_setProp (x := i) (y := w) hs twn_20 (by omega) (by omega)) ml_X6_155 my_X5_setProp mi_X5_setProp (tO hs twn_20) rfl (by omega) (Nat.le_of_ble_eq_true rfl) (Nat.le_of_ble_eq_true rfl) ?_
        refine j_iinc_4 (v := nI (i + 1)) dX6_standsWithout_47 (nI_add _ _) rfl ?_
        refine j_goto (tgt := 14) dX6_standsWithout_50 (by decide) ?_
        (try simp only [c23, c23', eq_true c33, reduceIte, Bool.false_eq_true, Bool.true_eq_false, and_self, and_true, true_and, and_false, false_and, not_true_eq_false, not_false_eq_true, ne_eq, decide_true, decide_false, if_true, if_false, Bool.not_eq_true, Bool.not_eq_false] at K)
        exact K

set_option maxRecDepth 20000 in
theorem t_sw {G : jG} {N : Nat} {κ : Nat → jK} {ρ : Nat → Nat → Option Nat} {μ : Nat → Nat → Int32} {ν : Nat → Nat → Int64} (hs : shC N κ ρ) {p : Nat} (hp : μ 9 0 = nI p) (hp5 : p ≤ 5) {set : Int32} {w b : Nat} (hw : w < 5) (hb : b < 5) : MT G yX6_standsWithout cX6_standsWithout 5 (some .boolean) 9 0 0 [.ref 0, .int set, .int (nI w), .int (nI b)] (N, κ, ρ, μ, ν) (some (.int (jb (cSwB μ p set w b)))) (N, κ, ρ, cSwM μ p set w b, ν) := by
  refine jMT (ini := false) my_X6_standsWithout (fun h => by cases h) (jRv_jb _) (Nat.le_of_ble_eq_true rfl) ?_
  show J G RX6 cX6_standsWithout 5 false 9 _ 0 0 (N, κ, ρ, μ, ν) 0 [some (.ref 0), some (.int set), some (.int (nI w)), some (.int (nI b)), none] []
  refine j_aload_n dX6_standsWithout_0 rfl ?_
  refine j_getr dX6_standsWithout_1 fl_X6_35 rfl (o_0 hs) (r_0_4 hs) ?_
  refine j_aload_n dX6_standsWithout_4 rfl ?_
  refine j_getr dX6_standsWithout_5 fl_X6_31 rfl (o_0 hs) (r_0_3 hs) ?_
  refine j_cV1v dX6_standsWithout_8 (t_copyFrom hs twn_20 twn_14) ml_X6_170 my_X5_copyFrom mi_X5_copyFrom (tO hs twn_20) rfl (by omega) (Nat.le_of_ble_eq_true rfl) (Nat.le_of_ble_eq_true rfl) ?_
  refine j_iconst (v := 0) dX6_standsWithout_11 (by decide) ?_
  refine j_istore_4 dX6_standsWithout_12 rfl ?_
  refine lp_sw (by omega) hs (by rw [tCp_lo twn_20 (by decide)]; exact hp) hp5 hw ?_
  refine j_aload_n dX6_standsWithout_53 rfl ?_
  refine j_getr dX6_standsWithout_54 fl_X6_35 rfl (o_0 hs) (r_0_4 hs) ?_
  refine j_iload_n dX6_standsWithout_57 rfl ?_
  refine j_iconst (v := 1) dX6_standsWithout_58 (by decide) ?_
  refine j_cV2v dX6_standsWithout_59 (t_comeDown (w := b) hs twn_20 (by rw [it_lo (fun i m => cSwF_lo set w i m (by decide)), tCp_lo twn_20 (by decide)]; exact hp) hp5 hb) ml_X6_233 my_X5_comeDown mi_X5_comeDown (tO hs twn_20) rfl (by omega) (Nat.le_of_ble_eq_true rfl) (Nat.le_of_ble_eq_true rfl) ?_
  refine j_aload_n dX6_standsWithout_62 rfl ?_
  refine j_getr dX6_standsWithout_63 fl_X6_35 rfl (o_0 hs) (r_0_4 hs) ?_
  refine j_iload_n dX6_standsWithout_66 rfl ?_
  refine j_cV1r dX6_standsWithout_67 (t_stands (w := w) hs twn_20 (by omega)) ml_X6_114 my_X5_stands mi_X5_stands (tO hs twn_20) rfl (by omega) (Nat.le_of_ble_eq_true rfl) (Nat.le_of_ble_eq_true rfl) ?_
  exact j_iret dX6_standsWithout_70 ⟨rfl, rfl⟩

theorem or_bit : ∀ i, i < 5 → ∀ k, k < 2 ^ i → nI k ||| (1 <<< (nI i &&& 31)) = nI (k + 2 ^ i) := by decide
theorem tHo_nat (μ : jMem) (a w : Nat) {p : Nat} (hp5 : p ≤ 5) : ∃ k, k < 2 ^ p ∧ tHo μ a p w = nI k := by
  unfold tHo
  refine it_inv (p := p) (fun i s => ∃ k, k < 2 ^ i ∧ s = nI k) ?_ p 0 0 (by omega) ⟨0, by decide, rfl⟩
  rintro i s hi ⟨k, hk, rfl⟩
  have h2 : 2 ^ (i + 1) = 2 ^ i + 2 ^ i := by rw [Nat.pow_succ]; omega
  (try dsimp only)
  split
  · exact ⟨k + 2 ^ i, by omega, or_bit i (by omega) k hk⟩
  · exact ⟨k, by omega, rfl⟩
def cSvF (p w b : Nat) (ho : Int32) : Nat → Int32 × jMem → Int32 × jMem := fun i s =>
  if jBC (nI i) < jBC s.1 ∧ nI i &&& (ho ^^^ -1) = 0 then (if cSwB s.2 p (nI i) w b = true then (nI i, cSwM s.2 p (nI i) w b) else (s.1, cSwM s.2 p (nI i) w b)) else s
theorem cSvF_lo (p w b : Nat) (ho : Int32) (i : Nat) (s : Int32 × jMem) {k j : Nat} (hk : k < 14) : (cSvF p w b ho i s).2 k j = s.2 k j := by
  unfold cSvF
  split
  · split <;> exact cSwM_lo _ _ _ _ _ hk
  · rfl
def cSave (μ : jMem) (p : Nat) (x y : Int32) : Int32 × jMem := if xNP μ x y = true then (-1, μ) else if tSt μ 14 x.toNatClampNeg = true ∧ tSt μ 14 y.toNatClampNeg = true then
  it (cSvF p x.toNatClampNeg y.toNatClampNeg (tHo μ 14 p x.toNatClampNeg)) (tHo μ 14 p x.toNatClampNeg).toNatClampNeg 0 (tHo μ 14 p x.toNatClampNeg, μ) else (-2, μ)
set_option maxRecDepth 20000 in
theorem lp_save {G : jG} {N : Nat} {κ : Nat → jK} {ρ : Nat → Nat → Option Nat} {ν : Nat → Nat → Int64} {Q : Option Value → jH → Prop} {d : Nat} (hd1 : 10 ≤ d) {p w b hn : Nat} {s0 : Int32 × jMem} (hs : shC N κ ρ) (hp : s0.2 9 0 = nI p) (hp5 : p ≤ 5) (hw : w < 5) (hb : b < 5) (hn5 : hn < 100) (K : J G RX6 cX6_save 7 false d Q 0 0 (N, κ, ρ, ((it (cSvF p w b (nI hn)) hn 0 s0)).2, ν) 112 [some (.ref 0), some (.int (nI w)), some (.int (nI b)), some (.int (nI hn)), some (.int ((it (cSvF p w b (nI hn)) hn 0 s0)).1), some (.int (nI hn)), none] []) : J G RX6 cX6_save 7 false d Q 0 0 (N, κ, ρ, (s0).2, ν) 51 [some (.ref 0), some (.int (nI w)), some (.int (nI b)), some (.int (nI hn)), some (.int (s0).1), some (.int (nI 0)), none] [] := by
  refine it_loop (f := cSvF p w b (nI hn)) (p := hn) (fun i s => J G RX6 cX6_save 7 false d Q 0 0 (N, κ, ρ, (s).2, ν) 51 [some (.ref 0), some (.int (nI w)), some (.int (nI b)), some (.int (nI hn)), some (.int (s).1), some (.int (nI i)), none] []) (fun s => J G RX6 cX6_save 7 false d Q 0 0 (N, κ, ρ, (s).2, ν) 112 [some (.ref 0), some (.int (nI w)), some (.int (nI b)), some (.int (nI hn)), some (.int (s).1), some (.int (nI hn)), none] []) (fun _ s => s.2 9 0 = nI p) ?_ ?_ (fun i s _ h => by rw [cSvF_lo p w b (nI hn) i s (by decide)]; exact h) hn 0 s0 (by omega) hp K
  · intro s hI K
    replace hp := hI
    refine j_iload dX6_save_51 rfl ?_
    refine j_iload_n dX6_save_53 rfl ?_
    refine k_icmp_ge (tgt := 112) dX6_save_54 (by decide) (fun c54 c54' => ?_) (fun c54 c54' => ?_)
    · skip
      exact K
    · skip
      exact absurd (Int32.le_refl _) c54
  · intro i s hi hI K
    (try dsimp only at K)
    replace hp := hI
    unfold cSvF at K
    (try dsimp only at K)
    refine j_iload dX6_save_51 rfl ?_
    refine j_iload_n dX6_save_53 rfl ?_
    refine k_icmp_ge (tgt := 112) dX6_save_54 (by decide) (fun c54 c54' => ?_) (fun c54 c54' => ?_)
    · skip
      exact absurd c54 (nI_ge hi (by omega))
    · skip
      refine j_iload dX6_save_57 rfl ?_
      refine j_cS1r dX6_save_59 t_bc ml_X6_195 my_J6_bitCount_0f7a4 ms_J6_bitCount_0f7a4 (by omega) (Nat.le_of_ble_eq_true rfl) (Nat.le_of_ble_eq_true rfl) ?_
      refine j_iload dX6_save_62 rfl ?_
      refine j_cS1r dX6_save_64 t_bc ml_X6_195 my_J6_bitCount_0f7a4 ms_J6_bitCount_0f7a4 (by omega) (Nat.le_of_ble_eq_true rfl) (Nat.le_of_ble_eq_true rfl) ?_
      refine k_icmp_ge (tgt := 74) dX6_save_67 (by decide) (fun c67 c67' => ?_) (fun c67 c67' => ?_)
      · skip
        refine j_iconst (v := 0) dX6_save_74 (by decide) ?_
        refine j_istore_6 dX6_save_75 rfl ?_
        refine j_iload dX6_save_77 rfl ?_
        refine j_if_eq (tgt := 106) dX6_save_79 (by decide) (fun c79 => ?_) (fun c79 => ?_)
        · skip
          refine j_iinc_5 (v := nI (i + 1)) dX6_save_106 (nI_add _ _) rfl ?_
          refine j_goto (tgt := 51) dX6_save_109 (by decide) ?_
          (try simp only [c54, c54', c67, c67', eq_true c79, reduceIte, Bool.false_eq_true, Bool.true_eq_false, and_self, and_true, true_and, and_false, false_and, not_true_eq_false, not_false_eq_true, ne_eq, decide_true, decide_false, if_true, if_false, Bool.not_eq_true, Bool.not_eq_false] at K)
          exact j_forget_6 K
        · skip
          exact absurd rfl c79
      · skip
        refine j_iconst (v := 1) dX6_save_70 (by decide) ?_
        refine j_goto (tgt := 75) dX6_save_71 (by decide) ?_
        refine j_istore_6 dX6_save_75 rfl ?_
        refine j_iload dX6_save_77 rfl ?_
        refine j_if_eq (tgt := 106) dX6_save_79 (by decide) (fun c79 => ?_) (fun c79 => ?_)
        · skip
          exact absurd c79 (by decide)
        · skip
          refine j_iload dX6_save_82 rfl ?_
          refine j_iload_n dX6_save_84 rfl ?_
          refine j_iconst (v := (-1)) dX6_save_85 (by decide) ?_
          refine j_ixor dX6_save_86 ?_
          refine j_iand dX6_save_87 ?_
          refine j_if_ne (tgt := 106) dX6_save_88 (by decide) (fun c88 => ?_) (fun c88 => ?_)
          · skip
            refine j_iinc_5 (v := nI (i + 1)) dX6_save_106 (nI_add _ _) rfl ?_
            refine j_goto (tgt := 51) dX6_save_109 (by decide) ?_
            (try simp only [c54, c54', c67, c67', c79, c88, reduceIte, Bool.false_eq_true, Bool.true_eq_false, and_self, and_true, true_and, and_false, false_and, not_true_eq_false, not_false_eq_true, ne_eq, decide_true, decide_false, if_true, if_false, Bool.not_eq_true, Bool.not_eq_false] at K)
            exact j_forget_6 K
          · skip
            refine j_aload_n dX6_save_91 rfl ?_
            refine j_iload dX6_save_92 rfl ?_
            refine j_iload_n dX6_save_94 rfl ?_
            refine j_iload_n dX6_save_95 rfl ?_
            refine j_cV3r dX6_save_96 (t_sw (w := w) (b := b) hs hp hp5 (by omega) (by omega)) ml_X6_200 my_X6_standsWithout mi_X6_standsWithout (o_0 hs) rfl (by omega) (Nat.le_of_ble_eq_true rfl) (Nat.le_of_ble_eq_true rfl) ?_
            refine j_if_eqB (tgt := 106) dX6_save_99 (by decide) (fun c99 => ?_) (fun c99 => ?_)
            · skip
              refine j_iinc_5 (v := nI (i + 1)) dX6_save_106 (nI_add _ _) rfl ?_
              refine j_goto (tgt := 51) dX6_save_109 (by decide) ?_
              (try simp only [c54, c54', c67, c67', c79, eq_true c88, c99, reduceIte, Bool.false_eq_true, Bool.true_eq_false, and_self, and_true, true_and, and_false, false_and, not_true_eq_false, not_false_eq_true, ne_eq, decide_true, decide_false, if_true, if_false, Bool.not_eq_true, Bool.not_eq_false] at K)
              exact j_forget_6 K
            · skip
              refine j_iload dX6_save_102 rfl ?_
              refine j_istore_4 dX6_save_104 rfl ?_
              refine j_iinc_5 (v := nI (i + 1)) dX6_save_106 (nI_add _ _) rfl ?_
              refine j_goto (tgt := 51) dX6_save_109 (by decide) ?_
              (try simp only [c54, c54', c67, c67', c79, eq_true c88, c99, reduceIte, Bool.false_eq_true, Bool.true_eq_false, and_self, and_true, true_and, and_false, false_and, not_true_eq_false, not_false_eq_true, ne_eq, decide_true, decide_false, if_true, if_false, Bool.not_eq_true, Bool.not_eq_false] at K)
              exact j_forget_6 K

set_option maxRecDepth 20000 in
theorem t_save {G : jG} {N : Nat} {κ : Nat → jK} {ρ : Nat → Nat → Option Nat} {μ : Nat → Nat → Int32} {ν : Nat → Nat → Int64} (hs : shC N κ ρ) {p : Nat} (hp : μ 9 0 = nI p) (hp5 : p ≤ 5) {x y : Int32} : MT G yX6_save cX6_save 7 (some .int) 10 0 0 [.ref 0, .int x, .int y] (N, κ, ρ, μ, ν) (some (.int (cSave μ p x y).1)) (N, κ, ρ, (cSave μ p x y).2, ν) := by
  refine jMT (ini := false) my_X6_save (fun h => by cases h) (jRv_i _) (Nat.le_of_ble_eq_true rfl) ?_
  show J G RX6 cX6_save 7 false 10 _ 0 0 (N, κ, ρ, μ, ν) 0 [some (.ref 0), some (.int x), some (.int y), none, none, none, none] []
  generalize hQe : (fun (v' : Option Value) (h'' : jH) => v' = (some (.int (cSave μ p x y).1)) ∧ h'' = (N, κ, ρ, (cSave μ p x y).2, ν)) = Q
  have hQ : Q (some (.int (cSave μ p x y).1)) (N, κ, ρ, (cSave μ p x y).2, ν) := by rw [← hQe]; exact ⟨rfl, rfl⟩
  clear hQe
  refine j_aload_n dX6_save_0 rfl ?_
  refine j_iload_n dX6_save_1 rfl ?_
  refine j_iload_n dX6_save_2 rfl ?_
  refine j_cV2r dX6_save_3 (t_np hs) ml_X6_126 my_X6_isNoPair mi_X6_isNoPair (o_0 hs) rfl (by omega) (Nat.le_of_ble_eq_true rfl) (Nat.le_of_ble_eq_true rfl) ?_
  refine j_if_eqB (tgt := 11) dX6_save_6 (by decide) (fun c6 => ?_) (fun c6 => ?_)
  · skip
    obtain ⟨i, j, hi, hj, hij, rfl, rfl⟩ := np_in hp hp5 c6
    have ei : (nI i).toNatClampNeg = i := nI_clamp (by omega)
    have ej : (nI j).toNatClampNeg = j := nI_clamp (by omega)
    refine j_aload_n dX6_save_11 rfl ?_
    refine j_getr dX6_save_12 fl_X6_31 rfl (o_0 hs) (r_0_3 hs) ?_
    refine j_iload_n dX6_save_15 rfl ?_
    refine j_cV1r dX6_save_16 (t_stands (w := i) hs twn_14 (by omega)) ml_X6_114 my_X5_stands mi_X5_stands (tO hs twn_14) rfl (by omega) (Nat.le_of_ble_eq_true rfl) (Nat.le_of_ble_eq_true rfl) ?_
    refine j_if_eqB (tgt := 33) dX6_save_19 (by decide) (fun c19 => ?_) (fun c19 => ?_)
    · skip
      refine j_bipush (v := (-2)) dX6_save_33 (by decide) ?_
      exact j_iret dX6_save_35 (by simpa only [cSave, c6, ei, ej, c19, reduceIte, Bool.false_eq_true, Bool.true_eq_false, and_self, and_true, true_and, and_false, false_and, not_true_eq_false, not_false_eq_true, ne_eq, decide_true, decide_false, if_true, if_false, Bool.not_eq_true, Bool.not_eq_false] using hQ)
    · skip
      refine j_aload_n dX6_save_22 rfl ?_
      refine j_getr dX6_save_23 fl_X6_31 rfl (o_0 hs) (r_0_3 hs) ?_
      refine j_iload_n dX6_save_26 rfl ?_
      refine j_cV1r dX6_save_27 (t_stands (w := j) hs twn_14 (by omega)) ml_X6_114 my_X5_stands mi_X5_stands (tO hs twn_14) rfl (by omega) (Nat.le_of_ble_eq_true rfl) (Nat.le_of_ble_eq_true rfl) ?_
      refine j_if_neB (tgt := 36) dX6_save_30 (by decide) (fun c30 => ?_) (fun c30 => ?_)
      · skip
        refine j_aload_n dX6_save_36 rfl ?_
        refine j_getr dX6_save_37 fl_X6_31 rfl (o_0 hs) (r_0_3 hs) ?_
        refine j_iload_n dX6_save_40 rfl ?_
        refine j_cV1r dX6_save_41 (t_holdersOf (w := i) hs twn_14 hp hp5 (by omega)) ml_X6_192 my_X5_holdersOf mi_X5_holdersOf (tO hs twn_14) rfl (by omega) (Nat.le_of_ble_eq_true rfl) (Nat.le_of_ble_eq_true rfl) ?_
        obtain ⟨hn, hn5, he⟩ := tHo_nat μ 14 i hp5
        have hn32 : hn < 32 := Nat.lt_of_lt_of_le hn5 (Nat.pow_le_pow_right (by decide) hp5)
        have eh : (nI hn).toNatClampNeg = hn := nI_clamp (by omega)
        refine j_topi he ?_
        refine j_istore_3 dX6_save_44 rfl ?_
        refine j_iload_n dX6_save_45 rfl ?_
        refine j_istore_4 dX6_save_46 rfl ?_
        refine j_iconst (v := 0) dX6_save_48 (by decide) ?_
        refine j_istore_5 dX6_save_49 rfl ?_
        refine lp_save (s0 := (nI hn, μ)) (by omega) hs hp hp5 (by omega) (by omega) (by omega) ?_
        refine j_iload dX6_save_112 rfl ?_
        exact j_iret dX6_save_114 (by simpa only [cSave, he, eh, c6, ei, ej, c19, c30, reduceIte, Bool.false_eq_true, Bool.true_eq_false, and_self, and_true, true_and, and_false, false_and, not_true_eq_false, not_false_eq_true, ne_eq, decide_true, decide_false, if_true, if_false, Bool.not_eq_true, Bool.not_eq_false] using hQ)
      · skip
        refine j_bipush (v := (-2)) dX6_save_33 (by decide) ?_
        exact j_iret dX6_save_35 (by simpa only [cSave, c6, ei, ej, c19, c30, reduceIte, Bool.false_eq_true, Bool.true_eq_false, and_self, and_true, true_and, and_false, false_and, not_true_eq_false, not_false_eq_true, ne_eq, decide_true, decide_false, if_true, if_false, Bool.not_eq_true, Bool.not_eq_false] using hQ)
  · skip
    refine j_iconst (v := (-1)) dX6_save_9 (by decide) ?_
    exact j_iret dX6_save_10 (by simpa only [cSave, c6, reduceIte, Bool.false_eq_true, Bool.true_eq_false, and_self, and_true, true_and, and_false, false_and, not_true_eq_false, not_false_eq_true, ne_eq, decide_true, decide_false, if_true, if_false, Bool.not_eq_true, Bool.not_eq_false] using hQ)

def cNote (μ : jMem) (n r f : Int32) : Int32 × jMem := if xOut n 1 9 = true ∨ xOut r 0 7 = true ∨ xOut f 0 1 = true then (-1, μ) else if 6 ≤ μ 77 3 then (-3, μ) else if nEnd μ (μ 77 3).toNatClampNeg = true then (-2, μ)
  else (nAdd μ (μ 77 3).toNatClampNeg n r f 77 3, nAdd μ (μ 77 3).toNatClampNeg n r f)
theorem lt6_of {m : Int32} {n : Nat} (e : m = nI n) (h : m < 6) (hn : n ≤ 6) : n < 6 := by
  subst e
  rw [jl6] at h
  exact (nI_ltI (by omega) (by omega)).mp h
set_option maxRecDepth 20000 in
theorem t_note {G : jG} {N : Nat} {κ : Nat → jK} {ρ : Nat → Nat → Option Nat} {μ : Nat → Nat → Int32} {ν : Nat → Nat → Int64} (hs : shC N κ ρ) {c : Nat} (hc : μ 77 3 = nI c) (hc6 : c ≤ 6) {n r f : Int32} : MT G yX6_note cX6_note 5 (some .int) 1 0 0 [.ref 0, .int n, .int r, .int f] (N, κ, ρ, μ, ν) (some (.int (cNote μ n r f).1)) (N, κ, ρ, (cNote μ n r f).2, ν) := by
  refine jMT (ini := false) my_X6_note (fun h => by cases h) (jRv_i _) (Nat.le_of_ble_eq_true rfl) ?_
  show J G RX6 cX6_note 5 false 1 _ 0 0 (N, κ, ρ, μ, ν) 0 [some (.ref 0), some (.int n), some (.int r), some (.int f), none] []
  generalize hQe : (fun (v' : Option Value) (h'' : jH) => v' = (some (.int (cNote μ n r f).1)) ∧ h'' = (N, κ, ρ, (cNote μ n r f).2, ν)) = Q
  have hQ : Q (some (.int (cNote μ n r f).1)) (N, κ, ρ, (cNote μ n r f).2, ν) := by rw [← hQe]; exact ⟨rfl, rfl⟩
  clear hQe
  have ec : (μ 77 3).toNatClampNeg = c := by rw [hc]; exact nI_clamp (by omega)
  refine j_iload_n dX6_note_0 rfl ?_
  refine j_iconst (v := 1) dX6_note_1 (by decide) ?_
  refine j_bipush (v := 9) dX6_note_2 (by decide) ?_
  refine j_cS3r dX6_note_4 t_out ml_X6_142 my_X6_isOutside ms_X6_isOutside (by omega) (Nat.le_of_ble_eq_true rfl) (Nat.le_of_ble_eq_true rfl) ?_
  refine j_if_neB (tgt := 20) dX6_note_7 (by decide) (fun c7 => ?_) (fun c7 => ?_)
  · skip
    refine j_iconst (v := 1) dX6_note_20 (by decide) ?_
    refine j_goto (tgt := 25) dX6_note_21 (by decide) ?_
    refine j_istore_4 dX6_note_25 rfl ?_
    refine j_iload dX6_note_27 rfl ?_
    refine j_if_ne (tgt := 41) dX6_note_29 (by decide) (fun c29 => ?_) (fun c29 => ?_)
    · skip
      refine j_iconst (v := (-1)) dX6_note_41 (by decide) ?_
      exact j_iret dX6_note_42 (by simpa only [cNote, ec, true_or, or_true, or_self, or_false, false_or, c7, c29, reduceIte, Bool.false_eq_true, Bool.true_eq_false, and_self, and_true, true_and, and_false, false_and, not_true_eq_false, not_false_eq_true, ne_eq, decide_true, decide_false, if_true, if_false, Bool.not_eq_true, Bool.not_eq_false] using hQ)
    · skip
      exact absurd c29 (by decide)
  · skip
    refine j_iload_n dX6_note_10 rfl ?_
    refine j_iconst (v := 0) dX6_note_11 (by decide) ?_
    refine j_bipush (v := 7) dX6_note_12 (by decide) ?_
    refine j_cS3r dX6_note_14 t_out ml_X6_142 my_X6_isOutside ms_X6_isOutside (by omega) (Nat.le_of_ble_eq_true rfl) (Nat.le_of_ble_eq_true rfl) ?_
    refine j_if_eqB (tgt := 24) dX6_note_17 (by decide) (fun c17 => ?_) (fun c17 => ?_)
    · skip
      refine j_iconst (v := 0) dX6_note_24 (by decide) ?_
      refine j_istore_4 dX6_note_25 rfl ?_
      refine j_iload dX6_note_27 rfl ?_
      refine j_if_ne (tgt := 41) dX6_note_29 (by decide) (fun c29 => ?_) (fun c29 => ?_)
      · skip
        exact absurd rfl c29
      · skip
        refine j_iload_n dX6_note_32 rfl ?_
        refine j_iconst (v := 0) dX6_note_33 (by decide) ?_
        refine j_iconst (v := 1) dX6_note_34 (by decide) ?_
        refine j_cS3r dX6_note_35 t_out ml_X6_142 my_X6_isOutside ms_X6_isOutside (by omega) (Nat.le_of_ble_eq_true rfl) (Nat.le_of_ble_eq_true rfl) ?_
        refine j_if_eqB (tgt := 43) dX6_note_38 (by decide) (fun c38 => ?_) (fun c38 => ?_)
        · skip
          refine j_aload_n dX6_note_43 rfl ?_
          refine j_getr dX6_note_44 fl_X6_56 rfl (o_0 hs) (r_0_8 hs) ?_
          refine j_geti dX6_note_47 fl_X6_98 rfl (o_77 hs) ?_
          refine j_bipush (v := 6) dX6_note_50 (by decide) ?_
          refine k_icmp_lt (tgt := 58) dX6_note_52 (by decide) (fun c52 c52' => ?_) (fun c52 c52' => ?_)
          · skip
            have hc7 := lt6_of hc c52 hc6
            refine j_aload_n dX6_note_58 rfl ?_
            refine j_getr dX6_note_59 fl_X6_56 rfl (o_0 hs) (r_0_8 hs) ?_
            refine j_cV0r dX6_note_62 (t_isEnded hs hc hc6) ml_X6_203 my_X0_isEnded mi_X0_isEnded (o_77 hs) rfl (by omega) (Nat.le_of_ble_eq_true rfl) (Nat.le_of_ble_eq_true rfl) ?_
            refine j_if_eqB (tgt := 71) dX6_note_65 (by decide) (fun c65 => ?_) (fun c65 => ?_)
            · skip
              refine j_aload_n dX6_note_71 rfl ?_
              refine j_getr dX6_note_72 fl_X6_56 rfl (o_0 hs) (r_0_8 hs) ?_
              refine j_iload_n dX6_note_75 rfl ?_
              refine j_iload_n dX6_note_76 rfl ?_
              refine j_iload_n dX6_note_77 rfl ?_
              refine j_cV3v dX6_note_78 (t_nadd hs hc hc7) ml_X6_207 my_X0_add mi_X0_add (o_77 hs) rfl (by omega) (Nat.le_of_ble_eq_true rfl) (Nat.le_of_ble_eq_true rfl) ?_
              refine j_aload_n dX6_note_81 rfl ?_
              refine j_getr dX6_note_82 fl_X6_56 rfl (o_0 hs) (r_0_8 hs) ?_
              refine j_geti dX6_note_85 fl_X6_98 rfl (o_77 hs) ?_
              exact j_iret dX6_note_88 (by simpa only [cNote, ec, true_or, or_true, or_self, or_false, false_or, c7, c17, eq_true c29, c38, c52, c52', c65, reduceIte, Bool.false_eq_true, Bool.true_eq_false, and_self, and_true, true_and, and_false, false_and, not_true_eq_false, not_false_eq_true, ne_eq, decide_true, decide_false, if_true, if_false, Bool.not_eq_true, Bool.not_eq_false] using hQ)
            · skip
              refine j_bipush (v := (-2)) dX6_note_68 (by decide) ?_
              exact j_iret dX6_note_70 (by simpa only [cNote, ec, true_or, or_true, or_self, or_false, false_or, c7, c17, eq_true c29, c38, c52, c52', c65, reduceIte, Bool.false_eq_true, Bool.true_eq_false, and_self, and_true, true_and, and_false, false_and, not_true_eq_false, not_false_eq_true, ne_eq, decide_true, decide_false, if_true, if_false, Bool.not_eq_true, Bool.not_eq_false] using hQ)
          · skip
            refine j_bipush (v := (-3)) dX6_note_55 (by decide) ?_
            exact j_iret dX6_note_57 (by simpa only [cNote, ec, true_or, or_true, or_self, or_false, false_or, c7, c17, eq_true c29, c38, c52, c52', reduceIte, Bool.false_eq_true, Bool.true_eq_false, and_self, and_true, true_and, and_false, false_and, not_true_eq_false, not_false_eq_true, ne_eq, decide_true, decide_false, if_true, if_false, Bool.not_eq_true, Bool.not_eq_false] using hQ)
        · skip
          refine j_iconst (v := (-1)) dX6_note_41 (by decide) ?_
          exact j_iret dX6_note_42 (by simpa only [cNote, ec, true_or, or_true, or_self, or_false, false_or, c7, c17, eq_true c29, c38, reduceIte, Bool.false_eq_true, Bool.true_eq_false, and_self, and_true, true_and, and_false, false_and, not_true_eq_false, not_false_eq_true, ne_eq, decide_true, decide_false, if_true, if_false, Bool.not_eq_true, Bool.not_eq_false] using hQ)
    · skip
      refine j_iconst (v := 1) dX6_note_20 (by decide) ?_
      refine j_goto (tgt := 25) dX6_note_21 (by decide) ?_
      refine j_istore_4 dX6_note_25 rfl ?_
      refine j_iload dX6_note_27 rfl ?_
      refine j_if_ne (tgt := 41) dX6_note_29 (by decide) (fun c29 => ?_) (fun c29 => ?_)
      · skip
        refine j_iconst (v := (-1)) dX6_note_41 (by decide) ?_
        exact j_iret dX6_note_42 (by simpa only [cNote, ec, true_or, or_true, or_self, or_false, false_or, c7, c17, c29, reduceIte, Bool.false_eq_true, Bool.true_eq_false, and_self, and_true, true_and, and_false, false_and, not_true_eq_false, not_false_eq_true, ne_eq, decide_true, decide_false, if_true, if_false, Bool.not_eq_true, Bool.not_eq_false] using hQ)
      · skip
        exact absurd c29 (by decide)

def cForget (μ : jMem) : Int32 × jMem := (μ 77 3, jup μ 77 3 0)
set_option maxRecDepth 20000 in
theorem t_forget {G : jG} {N : Nat} {κ : Nat → jK} {ρ : Nat → Nat → Option Nat} {μ : Nat → Nat → Int32} {ν : Nat → Nat → Int64} (hs : shC N κ ρ) : MT G yX6_forget cX6_forget 2 (some .int) 0 0 0 [.ref 0] (N, κ, ρ, μ, ν) (some (.int (cForget μ).1)) (N, κ, ρ, (cForget μ).2, ν) := by
  refine jMT (ini := false) my_X6_forget (fun h => by cases h) (jRv_i _) (Nat.le_of_ble_eq_true rfl) ?_
  show J G RX6 cX6_forget 2 false 0 _ 0 0 (N, κ, ρ, μ, ν) 0 [some (.ref 0), none] []
  generalize hQe : (fun (v' : Option Value) (h'' : jH) => v' = (some (.int (cForget μ).1)) ∧ h'' = (N, κ, ρ, (cForget μ).2, ν)) = Q
  have hQ : Q (some (.int (cForget μ).1)) (N, κ, ρ, (cForget μ).2, ν) := by rw [← hQe]; exact ⟨rfl, rfl⟩
  clear hQe
  refine j_aload_n dX6_forget_0 rfl ?_
  refine j_getr dX6_forget_1 fl_X6_56 rfl (o_0 hs) (r_0_8 hs) ?_
  refine j_geti dX6_forget_4 fl_X6_98 rfl (o_77 hs) ?_
  refine j_istore_1 dX6_forget_7 rfl ?_
  refine j_aload_n dX6_forget_8 rfl ?_
  refine j_getr dX6_forget_9 fl_X6_56 rfl (o_0 hs) (r_0_8 hs) ?_
  refine j_iconst (v := 0) dX6_forget_12 (by decide) ?_
  refine j_puti dX6_forget_13 fl_X6_98 rfl (o_77 hs) ?_
  refine j_iload_n dX6_forget_16 rfl ?_
  exact j_iret dX6_forget_17 (by simpa only [cForget, reduceIte, Bool.false_eq_true, Bool.true_eq_false, and_self, and_true, true_and, and_false, false_and, not_true_eq_false, not_false_eq_true, ne_eq, decide_true, decide_false, if_true, if_false, Bool.not_eq_true, Bool.not_eq_false] using hQ)

def cThF (μ : jMem) (c : Nat) : Nat → Int32 × Int32 → Int32 × Int32 := fun i s => if nCb μ c 0 (nI (60 - i)) = true then (s.1 + 1, nI (60 - i)) else s
def cThick (μ : jMem) (what : Int32) : Int32 × jMem := if xOut what 0 1 = true then (-1, μ) else
  (if what = 0 then (it (cThF μ (μ 77 3).toNatClampNeg) 60 0 (0, -4)).1 else (it (cThF μ (μ 77 3).toNatClampNeg) 60 0 (0, -4)).2, μ)
theorem th_dec {i : Nat} (hi : i < 60) : nI (60 - i) + Int32.ofInt (-1) = nI (60 - (i + 1)) := by
  have z : 60 - i = (60 - (i + 1)) + 1 := by omega
  rw [z]
  exact pk_m1 _
set_option maxRecDepth 20000 in
theorem lp_thick {G : jG} {N : Nat} {κ : Nat → jK} {ρ : Nat → Nat → Option Nat} {ν : Nat → Nat → Int64} {Q : Option Value → jH → Prop} {d : Nat} (hd1 : 2 ≤ d) {μ : jMem} (hs : shC N κ ρ) {c : Nat} (hc : μ 77 3 = nI c) (hc6 : c ≤ 6) {what : Int32} (K : J G RX6 cX6_thick 5 false d Q 0 0 (N, κ, ρ, μ, ν) 53 [some (.ref 0), some (.int what), some (.int ((it (cThF μ c) 60 0 (0, -4))).1), some (.int ((it (cThF μ c) 60 0 (0, -4))).2), some (.int (nI (60 - 60)))] []) : J G RX6 cX6_thick 5 false d Q 0 0 (N, κ, ρ, μ, ν) 20 [some (.ref 0), some (.int what), some (.int (((0, -4) : Int32 × Int32)).1), some (.int (((0, -4) : Int32 × Int32)).2), some (.int (nI (60 - 0)))] [] := by
  refine it_loop (f := cThF μ c) (p := 60) (fun i s => J G RX6 cX6_thick 5 false d Q 0 0 (N, κ, ρ, μ, ν) 20 [some (.ref 0), some (.int what), some (.int (s).1), some (.int (s).2), some (.int (nI (60 - i)))] []) (fun s => J G RX6 cX6_thick 5 false d Q 0 0 (N, κ, ρ, μ, ν) 53 [some (.ref 0), some (.int what), some (.int (s).1), some (.int (s).2), some (.int (nI (60 - 60)))] []) (fun _ _ => True) ?_ ?_ (fun _ _ _ _ => trivial) 60 0 (0, -4) rfl trivial K
  · intro s _ K
    refine j_iload dX6_thick_20 rfl ?_
    refine j_iconst (v := 1) dX6_thick_22 (by decide) ?_
    refine k_icmp_lt (tgt := 53) dX6_thick_23 (by decide) (fun c23 c23' => ?_) (fun c23 c23' => ?_)
    · skip
      exact K
    · skip
      exact absurd (by decide) c23
  · intro i s hi _ K
    unfold cThF at K
    (try dsimp only at K)
    refine j_iload dX6_thick_20 rfl ?_
    refine j_iconst (v := 1) dX6_thick_22 (by decide) ?_
    refine k_icmp_lt (tgt := 53) dX6_thick_23 (by decide) (fun c23 c23' => ?_) (fun c23 c23' => ?_)
    · skip
      exact absurd c23 (by rw [jl1]; exact nI_nlt (by omega) (by omega))
    · skip
      refine j_aload_n dX6_thick_26 rfl ?_
      refine j_getr dX6_thick_27 fl_X6_56 rfl (o_0 hs) (r_0_8 hs) ?_
      refine j_iload dX6_thick_30 rfl ?_
      refine j_cV1r dX6_thick_32 (t_couldBe hs hc hc6) ml_X6_209 my_X0_couldBe mi_X0_couldBe (o_77 hs) rfl (by omega) (Nat.le_of_ble_eq_true rfl) (Nat.le_of_ble_eq_true rfl) ?_
      refine j_if_neB (tgt := 41) dX6_thick_35 (by decide) (fun c35 => ?_) (fun c35 => ?_)
      · skip
        refine j_iinc_2 dX6_thick_41 rfl rfl ?_
        refine j_iload dX6_thick_44 rfl ?_
        refine j_istore_3 dX6_thick_46 rfl ?_
        have e47 := th_dec hi
        refine j_iinc_4 dX6_thick_47 e47 rfl ?_
        refine j_goto (tgt := 20) dX6_thick_50 (by decide) ?_
        (try simp only [c23, c23', c35, reduceIte, Bool.false_eq_true, Bool.true_eq_false, and_self, and_true, true_and, and_false, false_and, not_true_eq_false, not_false_eq_true, ne_eq, decide_true, decide_false, if_true, if_false, Bool.not_eq_true, Bool.not_eq_false] at K)
        exact K
      · skip
        refine j_goto (tgt := 47) dX6_thick_38 (by decide) ?_
        have e47 := th_dec hi
        refine j_iinc_4 dX6_thick_47 e47 rfl ?_
        refine j_goto (tgt := 20) dX6_thick_50 (by decide) ?_
        (try simp only [c23, c23', c35, reduceIte, Bool.false_eq_true, Bool.true_eq_false, and_self, and_true, true_and, and_false, false_and, not_true_eq_false, not_false_eq_true, ne_eq, decide_true, decide_false, if_true, if_false, Bool.not_eq_true, Bool.not_eq_false] at K)
        exact K

set_option maxRecDepth 20000 in
theorem t_thick {G : jG} {N : Nat} {κ : Nat → jK} {ρ : Nat → Nat → Option Nat} {μ : Nat → Nat → Int32} {ν : Nat → Nat → Int64} (hs : shC N κ ρ) {c : Nat} (hc : μ 77 3 = nI c) (hc6 : c ≤ 6) {what : Int32} : MT G yX6_thick cX6_thick 5 (some .int) 2 0 0 [.ref 0, .int what] (N, κ, ρ, μ, ν) (some (.int (cThick μ what).1)) (N, κ, ρ, (cThick μ what).2, ν) := by
  refine jMT (ini := false) my_X6_thick (fun h => by cases h) (jRv_i _) (Nat.le_of_ble_eq_true rfl) ?_
  show J G RX6 cX6_thick 5 false 2 _ 0 0 (N, κ, ρ, μ, ν) 0 [some (.ref 0), some (.int what), none, none, none] []
  generalize hQe : (fun (v' : Option Value) (h'' : jH) => v' = (some (.int (cThick μ what).1)) ∧ h'' = (N, κ, ρ, (cThick μ what).2, ν)) = Q
  have hQ : Q (some (.int (cThick μ what).1)) (N, κ, ρ, (cThick μ what).2, ν) := by rw [← hQe]; exact ⟨rfl, rfl⟩
  clear hQe
  have ec : (μ 77 3).toNatClampNeg = c := by rw [hc]; exact nI_clamp (by omega)
  refine j_iload_n dX6_thick_0 rfl ?_
  refine j_iconst (v := 0) dX6_thick_1 (by decide) ?_
  refine j_iconst (v := 1) dX6_thick_2 (by decide) ?_
  refine j_cS3r dX6_thick_3 t_out ml_X6_142 my_X6_isOutside ms_X6_isOutside (by omega) (Nat.le_of_ble_eq_true rfl) (Nat.le_of_ble_eq_true rfl) ?_
  refine j_if_eqB (tgt := 11) dX6_thick_6 (by decide) (fun c6 => ?_) (fun c6 => ?_)
  · skip
    refine j_iconst (v := 0) dX6_thick_11 (by decide) ?_
    refine j_istore_2 dX6_thick_12 rfl ?_
    refine j_bipush (v := (-4)) dX6_thick_13 (by decide) ?_
    refine j_istore_3 dX6_thick_15 rfl ?_
    refine j_bipush (v := 60) dX6_thick_16 (by decide) ?_
    refine j_istore_4 dX6_thick_18 rfl ?_
    refine lp_thick (by omega) hs hc hc6 ?_
    refine j_iload_n dX6_thick_53 rfl ?_
    refine j_if_ne (tgt := 61) dX6_thick_54 (by decide) (fun c54 => ?_) (fun c54 => ?_)
    · skip
      refine j_iload_n dX6_thick_61 rfl ?_
      exact j_iret dX6_thick_62 (by simpa only [cThick, ec, c6, c54, reduceIte, Bool.false_eq_true, Bool.true_eq_false, and_self, and_true, true_and, and_false, false_and, not_true_eq_false, not_false_eq_true, ne_eq, decide_true, decide_false, if_true, if_false, Bool.not_eq_true, Bool.not_eq_false] using hQ)
    · skip
      refine j_iload_n dX6_thick_57 rfl ?_
      refine j_goto (tgt := 62) dX6_thick_58 (by decide) ?_
      exact j_iret dX6_thick_62 (by simpa only [cThick, ec, c6, eq_true c54, reduceIte, Bool.false_eq_true, Bool.true_eq_false, and_self, and_true, true_and, and_false, false_and, not_true_eq_false, not_false_eq_true, ne_eq, decide_true, decide_false, if_true, if_false, Bool.not_eq_true, Bool.not_eq_false] using hQ)
  · skip
    refine j_iconst (v := (-1)) dX6_thick_9 (by decide) ?_
    exact j_iret dX6_thick_10 (by simpa only [cThick, ec, c6, reduceIte, Bool.false_eq_true, Bool.true_eq_false, and_self, and_true, true_and, and_false, false_and, not_true_eq_false, not_false_eq_true, ne_eq, decide_true, decide_false, if_true, if_false, Bool.not_eq_true, Bool.not_eq_false] using hQ)

def cKeepM (μ : jMem) (kc : Nat) : jMem :=
  let m := tCp μ (153 + 6 * kc) 14
  jup m 0 7 (m 0 7 + 1)
def cKeep (μ : jMem) : Int32 × jMem := if 2 ≤ μ 0 7 then (-3, μ) else (cKeepM μ (μ 0 7).toNatClampNeg 0 7, cKeepM μ (μ 0 7).toNatClampNeg)
theorem lt2_of {m : Int32} {n : Nat} (e : m = nI n) (h : m < 2) (hn : n ≤ 2) : n < 2 := by
  subst e
  rw [jl2] at h
  exact (nI_ltI (by omega) (by omega)).mp h
def cBackM (μ : jMem) (kc : Nat) : jMem :=
  let m := jup μ 0 7 (μ 0 7 - 1)
  let m := tCp m 14 (153 + 6 * (kc - 1))
  jup m 26 2 0
def cBack (μ : jMem) : Int32 × jMem := if 1 ≤ μ 0 7 then (cBackM μ (μ 0 7).toNatClampNeg 0 7, cBackM μ (μ 0 7).toNatClampNeg) else (-2, μ)
theorem pos_of1 {m : Int32} {n : Nat} (e : m = nI n) (h : 1 ≤ m) (hn : n ≤ 2) : 0 < n := by
  subst e
  rw [jl1] at h
  exact (nI_leI (by omega) (by omega)).mp h
set_option maxRecDepth 20000 in
theorem t_keep {G : jG} {N : Nat} {κ : Nat → jK} {ρ : Nat → Nat → Option Nat} {μ : Nat → Nat → Int32} {ν : Nat → Nat → Int64} (hs : shC N κ ρ) {kc : Nat} (hk : μ 0 7 = nI kc) (hk2 : kc ≤ 2) : MT G yX6_keep cX6_keep 1 (some .int) 2 0 0 [.ref 0] (N, κ, ρ, μ, ν) (some (.int (cKeep μ).1)) (N, κ, ρ, (cKeep μ).2, ν) := by
  refine jMT (ini := false) my_X6_keep (fun h => by cases h) (jRv_i _) (Nat.le_of_ble_eq_true rfl) ?_
  show J G RX6 cX6_keep 1 false 2 _ 0 0 (N, κ, ρ, μ, ν) 0 [some (.ref 0)] []
  generalize hQe : (fun (v' : Option Value) (h'' : jH) => v' = (some (.int (cKeep μ).1)) ∧ h'' = (N, κ, ρ, (cKeep μ).2, ν)) = Q
  have hQ : Q (some (.int (cKeep μ).1)) (N, κ, ρ, (cKeep μ).2, ν) := by rw [← hQe]; exact ⟨rfl, rfl⟩
  clear hQe
  have ek : (μ 0 7).toNatClampNeg = kc := by rw [hk]; exact nI_clamp (by omega)
  refine j_aload_n dX6_keep_0 rfl ?_
  refine j_geti dX6_keep_1 fl_X6_49 rfl (o_0 hs) ?_
  refine j_iconst (v := 2) dX6_keep_4 (by decide) ?_
  refine k_icmp_lt (tgt := 11) dX6_keep_5 (by decide) (fun c5 c5' => ?_) (fun c5 c5' => ?_)
  · skip
    have hk1 := lt2_of hk c5 hk2
    refine j_aload_n dX6_keep_11 rfl ?_
    refine j_getr dX6_keep_12 fl_X6_45 rfl (o_0 hs) (r_0_6 hs) ?_
    refine j_aload_n dX6_keep_15 rfl ?_
    refine j_geti dX6_keep_16 fl_X6_49 rfl (o_0 hs) ?_
    refine j_aald (k := kc) dX6_keep_19 (a_76 hs) hk hk1 (rp_76 hs hk1) ?_
    refine j_aload_n dX6_keep_20 rfl ?_
    refine j_getr dX6_keep_21 fl_X6_31 rfl (o_0 hs) (r_0_3 hs) ?_
    refine j_cV1v dX6_keep_24 (t_copyFrom hs (tw_k hk1) twn_14) ml_X6_170 my_X5_copyFrom mi_X5_copyFrom (tO hs (tw_k hk1)) rfl (by omega) (Nat.le_of_ble_eq_true rfl) (Nat.le_of_ble_eq_true rfl) ?_
    refine j_aload_n dX6_keep_27 rfl ?_
    refine j_dup dX6_keep_28 rfl ?_
    refine j_geti dX6_keep_29 fl_X6_49 rfl (o_0 hs) ?_
    refine j_iconst (v := 1) dX6_keep_32 (by decide) ?_
    refine j_iadd dX6_keep_33 ?_
    refine j_puti dX6_keep_34 fl_X6_49 rfl (o_0 hs) ?_
    refine j_aload_n dX6_keep_37 rfl ?_
    refine j_geti dX6_keep_38 fl_X6_49 rfl (o_0 hs) ?_
    exact j_iret dX6_keep_41 (by simpa only [cKeep, cKeepM, ek, c5, c5', reduceIte, Bool.false_eq_true, Bool.true_eq_false, and_self, and_true, true_and, and_false, false_and, not_true_eq_false, not_false_eq_true, ne_eq, decide_true, decide_false, if_true, if_false, Bool.not_eq_true, Bool.not_eq_false] using hQ)
  · skip
    refine j_bipush (v := (-3)) dX6_keep_8 (by decide) ?_
    exact j_iret dX6_keep_10 (by simpa only [cKeep, cKeepM, ek, c5, c5', reduceIte, Bool.false_eq_true, Bool.true_eq_false, and_self, and_true, true_and, and_false, false_and, not_true_eq_false, not_false_eq_true, ne_eq, decide_true, decide_false, if_true, if_false, Bool.not_eq_true, Bool.not_eq_false] using hQ)

set_option maxRecDepth 20000 in
theorem t_back {G : jG} {N : Nat} {κ : Nat → jK} {ρ : Nat → Nat → Option Nat} {μ : Nat → Nat → Int32} {ν : Nat → Nat → Int64} (hs : shC N κ ρ) {kc : Nat} (hk : μ 0 7 = nI kc) (hk2 : kc ≤ 2) : MT G yX6_back cX6_back 1 (some .int) 2 0 0 [.ref 0] (N, κ, ρ, μ, ν) (some (.int (cBack μ).1)) (N, κ, ρ, (cBack μ).2, ν) := by
  refine jMT (ini := false) my_X6_back (fun h => by cases h) (jRv_i _) (Nat.le_of_ble_eq_true rfl) ?_
  show J G RX6 cX6_back 1 false 2 _ 0 0 (N, κ, ρ, μ, ν) 0 [some (.ref 0)] []
  generalize hQe : (fun (v' : Option Value) (h'' : jH) => v' = (some (.int (cBack μ).1)) ∧ h'' = (N, κ, ρ, (cBack μ).2, ν)) = Q
  have hQ : Q (some (.int (cBack μ).1)) (N, κ, ρ, (cBack μ).2, ν) := by rw [← hQe]; exact ⟨rfl, rfl⟩
  clear hQe
  have ek : (μ 0 7).toNatClampNeg = kc := by rw [hk]; exact nI_clamp (by omega)
  refine j_aload_n dX6_back_0 rfl ?_
  refine j_geti dX6_back_1 fl_X6_49 rfl (o_0 hs) ?_
  refine j_iconst (v := 1) dX6_back_4 (by decide) ?_
  refine k_icmp_ge (tgt := 11) dX6_back_5 (by decide) (fun c5 c5' => ?_) (fun c5 c5' => ?_)
  · skip
    have hk0 := pos_of1 hk c5 hk2
    have hkm : kc - 1 < 2 := by omega
    refine j_aload_n dX6_back_11 rfl ?_
    refine j_dup dX6_back_12 rfl ?_
    refine j_geti dX6_back_13 fl_X6_49 rfl (o_0 hs) ?_
    refine j_iconst (v := 1) dX6_back_16 (by decide) ?_
    refine j_isub dX6_back_17 ?_
    refine j_puti dX6_back_18 fl_X6_49 rfl (o_0 hs) ?_
    refine j_aload_n dX6_back_21 rfl ?_
    refine j_getr dX6_back_22 fl_X6_31 rfl (o_0 hs) (r_0_3 hs) ?_
    refine j_aload_n dX6_back_25 rfl ?_
    refine j_getr dX6_back_26 fl_X6_45 rfl (o_0 hs) (r_0_6 hs) ?_
    refine j_aload_n dX6_back_29 rfl ?_
    refine j_geti dX6_back_30 fl_X6_49 rfl (o_0 hs) ?_
    refine j_aald (k := (kc - 1)) dX6_back_33 (a_76 hs) (by rw [jup_self, hk]; exact nI_predS hk0) hkm (rp_76 hs hkm) ?_
    refine j_cV1v dX6_back_34 (t_copyFrom hs twn_14 (tw_k hkm)) ml_X6_170 my_X5_copyFrom mi_X5_copyFrom (tO hs twn_14) rfl (by omega) (Nat.le_of_ble_eq_true rfl) (Nat.le_of_ble_eq_true rfl) ?_
    refine j_aload_n dX6_back_37 rfl ?_
    refine j_getr dX6_back_38 fl_X6_41 rfl (o_0 hs) (r_0_5 hs) ?_
    refine j_iconst (v := 0) dX6_back_41 (by decide) ?_
    refine j_puti dX6_back_42 fl_X6_95 rfl (o_26 hs) ?_
    refine j_aload_n dX6_back_45 rfl ?_
    refine j_geti dX6_back_46 fl_X6_49 rfl (o_0 hs) ?_
    exact j_iret dX6_back_49 (by simpa only [cBack, cBackM, ek, c5, c5', reduceIte, Bool.false_eq_true, Bool.true_eq_false, and_self, and_true, true_and, and_false, false_and, not_true_eq_false, not_false_eq_true, ne_eq, decide_true, decide_false, if_true, if_false, Bool.not_eq_true, Bool.not_eq_false] using hQ)
  · skip
    refine j_bipush (v := (-2)) dX6_back_8 (by decide) ?_
    exact j_iret dX6_back_10 (by simpa only [cBack, cBackM, ek, c5, c5', reduceIte, Bool.false_eq_true, Bool.true_eq_false, and_self, and_true, true_and, and_false, false_and, not_true_eq_false, not_false_eq_true, ne_eq, decide_true, decide_false, if_true, if_false, Bool.not_eq_true, Bool.not_eq_false] using hQ)

def cCount (μ : jMem) (p : Nat) (what : Int32) : Int32 × jMem := (if what = 0 then μ 9 0 else if what = 1 then μ 14 7 else if what = 2 then tCD μ 14 p else if what = 3 then μ 14 6 else if what = 4 then tCH μ 14 p else if what = 5 then tCPr μ 14
  else if what = 6 then μ 77 3 else if what = 7 then μ 26 2 else if what = 8 then μ 0 7 else if what = 9 then μ 1 2 else -1, μ)
set_option maxRecDepth 20000 in
theorem t_count {G : jG} {N : Nat} {κ : Nat → jK} {ρ : Nat → Nat → Option Nat} {μ : Nat → Nat → Int32} {ν : Nat → Nat → Int64} (hs : shC N κ ρ) {p : Nat} (hp : μ 9 0 = nI p) (hp5 : p ≤ 5) {what : Int32} : MT G yX6_count cX6_count 2 (some .int) 2 0 0 [.ref 0, .int what] (N, κ, ρ, μ, ν) (some (.int (cCount μ p what).1)) (N, κ, ρ, (cCount μ p what).2, ν) := by
  refine jMT (ini := false) my_X6_count (fun h => by cases h) (jRv_i _) (Nat.le_of_ble_eq_true rfl) ?_
  show J G RX6 cX6_count 2 false 2 _ 0 0 (N, κ, ρ, μ, ν) 0 [some (.ref 0), some (.int what)] []
  generalize hQe : (fun (v' : Option Value) (h'' : jH) => v' = (some (.int (cCount μ p what).1)) ∧ h'' = (N, κ, ρ, (cCount μ p what).2, ν)) = Q
  have hQ : Q (some (.int (cCount μ p what).1)) (N, κ, ρ, (cCount μ p what).2, ν) := by rw [← hQe]; exact ⟨rfl, rfl⟩
  clear hQe
  refine j_iload_n dX6_count_0 rfl ?_
  rcases tsw9 what with rfl | rfl | rfl | rfl | rfl | rfl | rfl | rfl | rfl | rfl | hout
  · refine j_tableIn (off := 55) (tgt := 56) dX6_count_1 (by decide) (by decide) (by decide) (by decide) ?_
    refine j_aload_n dX6_count_56 rfl ?_
    refine j_getr dX6_count_57 fl_X6_23 rfl (o_0 hs) (r_0_2 hs) ?_
    refine j_geti dX6_count_60 fl_X6_92 rfl (o_9 hs) ?_
    exact j_iret dX6_count_63 (by simpa [cCount] using hQ)
  · refine j_tableIn (off := 63) (tgt := 64) dX6_count_1 (by decide) (by decide) (by decide) (by decide) ?_
    refine j_aload_n dX6_count_64 rfl ?_
    refine j_getr dX6_count_65 fl_X6_31 rfl (o_0 hs) (r_0_3 hs) ?_
    refine j_geti dX6_count_68 fl_X6_152 rfl (tO hs twn_14) ?_
    exact j_iret dX6_count_71 (by simpa [cCount] using hQ)
  · refine j_tableIn (off := 71) (tgt := 72) dX6_count_1 (by decide) (by decide) (by decide) (by decide) ?_
    refine j_aload_n dX6_count_72 rfl ?_
    refine j_getr dX6_count_73 fl_X6_31 rfl (o_0 hs) (r_0_3 hs) ?_
    refine j_cV0r dX6_count_76 (t_countDown hs twn_14 hp hp5) ml_X6_224 my_X5_countDown mi_X5_countDown (tO hs twn_14) rfl (by omega) (Nat.le_of_ble_eq_true rfl) (Nat.le_of_ble_eq_true rfl) ?_
    exact j_iret dX6_count_79 (by simpa [cCount] using hQ)
  · refine j_tableIn (off := 79) (tgt := 80) dX6_count_1 (by decide) (by decide) (by decide) (by decide) ?_
    refine j_aload_n dX6_count_80 rfl ?_
    refine j_getr dX6_count_81 fl_X6_31 rfl (o_0 hs) (r_0_3 hs) ?_
    refine j_geti dX6_count_84 fl_X6_159 rfl (tO hs twn_14) ?_
    exact j_iret dX6_count_87 (by simpa [cCount] using hQ)
  · refine j_tableIn (off := 87) (tgt := 88) dX6_count_1 (by decide) (by decide) (by decide) (by decide) ?_
    refine j_aload_n dX6_count_88 rfl ?_
    refine j_getr dX6_count_89 fl_X6_31 rfl (o_0 hs) (r_0_3 hs) ?_
    refine j_cV0r dX6_count_92 (t_countHurt hs twn_14 hp hp5) ml_X6_227 my_X5_countHurt mi_X5_countHurt (tO hs twn_14) rfl (by omega) (Nat.le_of_ble_eq_true rfl) (Nat.le_of_ble_eq_true rfl) ?_
    exact j_iret dX6_count_95 (by simpa [cCount] using hQ)
  · refine j_tableIn (off := 95) (tgt := 96) dX6_count_1 (by decide) (by decide) (by decide) (by decide) ?_
    refine j_aload_n dX6_count_96 rfl ?_
    refine j_getr dX6_count_97 fl_X6_31 rfl (o_0 hs) (r_0_3 hs) ?_
    refine j_cV0r dX6_count_100 (t_countProps hs twn_14) ml_X6_230 my_X5_countProps mi_X5_countProps (tO hs twn_14) rfl (by omega) (Nat.le_of_ble_eq_true rfl) (Nat.le_of_ble_eq_true rfl) ?_
    exact j_iret dX6_count_103 (by simpa [cCount] using hQ)
  · refine j_tableIn (off := 103) (tgt := 104) dX6_count_1 (by decide) (by decide) (by decide) (by decide) ?_
    refine j_aload_n dX6_count_104 rfl ?_
    refine j_getr dX6_count_105 fl_X6_56 rfl (o_0 hs) (r_0_8 hs) ?_
    refine j_geti dX6_count_108 fl_X6_98 rfl (o_77 hs) ?_
    exact j_iret dX6_count_111 (by simpa [cCount] using hQ)
  · refine j_tableIn (off := 111) (tgt := 112) dX6_count_1 (by decide) (by decide) (by decide) (by decide) ?_
    refine j_aload_n dX6_count_112 rfl ?_
    refine j_getr dX6_count_113 fl_X6_41 rfl (o_0 hs) (r_0_5 hs) ?_
    refine j_geti dX6_count_116 fl_X6_95 rfl (o_26 hs) ?_
    exact j_iret dX6_count_119 (by simpa [cCount] using hQ)
  · refine j_tableIn (off := 119) (tgt := 120) dX6_count_1 (by decide) (by decide) (by decide) (by decide) ?_
    refine j_aload_n dX6_count_120 rfl ?_
    refine j_geti dX6_count_121 fl_X6_49 rfl (o_0 hs) ?_
    exact j_iret dX6_count_124 (by simpa [cCount] using hQ)
  · refine j_tableIn (off := 124) (tgt := 125) dX6_count_1 (by decide) (by decide) (by decide) (by decide) ?_
    refine j_aload_n dX6_count_125 rfl ?_
    refine j_getr dX6_count_126 fl_X6_12 rfl (o_0 hs) (r_0_0 hs) ?_
    refine j_geti dX6_count_129 fl_X6_90 rfl (o_1 hs) ?_
    exact j_iret dX6_count_132 (by simpa [cCount] using hQ)
  · refine j_tableOut (tgt := 133) dX6_count_1 hout (by decide) ?_
    have nn := tswo9 hout
    refine j_iconst (v := (-1)) dX6_count_133 (by decide) ?_
    exact j_iret dX6_count_134 (by simpa [cCount, nn] using hQ)

