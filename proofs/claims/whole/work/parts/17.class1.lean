theorem tsw7 (x : Int32) : x = 0 ∨ x = 1 ∨ x = 2 ∨ x = 3 ∨ x = 4 ∨ x = 5 ∨ x = 6 ∨ x = 7 ∨ (x.toInt < 0 ∨ 7 < x.toInt) := by
  by_cases h : x.toInt < 0 ∨ 7 < x.toInt
  · exact Or.inr (Or.inr (Or.inr (Or.inr (Or.inr (Or.inr (Or.inr (Or.inr (h))))))))
  · have e : x = Int32.ofInt x.toInt := (Int32.ofInt_toInt x).symm
    have : x.toInt = 0 ∨ x.toInt = 1 ∨ x.toInt = 2 ∨ x.toInt = 3 ∨ x.toInt = 4 ∨ x.toInt = 5 ∨ x.toInt = 6 ∨ x.toInt = 7 := by omega
    rcases this with z | z | z | z | z | z | z | z <;> (rw [z] at e; subst e; decide)
theorem tswo7 {x : Int32} (h : x.toInt < 0 ∨ 7 < x.toInt) : ¬ x = 0 ∧ ¬ x = 1 ∧ ¬ x = 2 ∧ ¬ x = 3 ∧ ¬ x = 4 ∧ ¬ x = 5 ∧ ¬ x = 6 ∧ ¬ x = 7 := by
  refine ⟨?_, ?_, ?_, ?_, ?_, ?_, ?_, ?_⟩ <;> (intro z; subst z; revert h; decide)
theorem tsw9 (x : Int32) : x = 0 ∨ x = 1 ∨ x = 2 ∨ x = 3 ∨ x = 4 ∨ x = 5 ∨ x = 6 ∨ x = 7 ∨ x = 8 ∨ x = 9 ∨ (x.toInt < 0 ∨ 9 < x.toInt) := by
  by_cases h : x.toInt < 0 ∨ 9 < x.toInt
  · exact Or.inr (Or.inr (Or.inr (Or.inr (Or.inr (Or.inr (Or.inr (Or.inr (Or.inr (Or.inr (h))))))))))
  · have e : x = Int32.ofInt x.toInt := (Int32.ofInt_toInt x).symm
    have : x.toInt = 0 ∨ x.toInt = 1 ∨ x.toInt = 2 ∨ x.toInt = 3 ∨ x.toInt = 4 ∨ x.toInt = 5 ∨ x.toInt = 6 ∨ x.toInt = 7 ∨ x.toInt = 8 ∨ x.toInt = 9 := by omega
    rcases this with z | z | z | z | z | z | z | z | z | z <;> (rw [z] at e; subst e; decide)
theorem tswo9 {x : Int32} (h : x.toInt < 0 ∨ 9 < x.toInt) : ¬ x = 0 ∧ ¬ x = 1 ∧ ¬ x = 2 ∧ ¬ x = 3 ∧ ¬ x = 4 ∧ ¬ x = 5 ∧ ¬ x = 6 ∧ ¬ x = 7 ∧ ¬ x = 8 ∧ ¬ x = 9 := by
  refine ⟨?_, ?_, ?_, ?_, ?_, ?_, ?_, ?_, ?_, ?_⟩ <;> (intro z; subst z; revert h; decide)
theorem np_in {μ : jMem} {x y : Int32} {p : Nat} (hp : μ 9 0 = nI p) (hp5 : p ≤ 5) (h : xNP μ x y = false) : ∃ i j, i < p ∧ j < p ∧ i ≠ j ∧ x = nI i ∧ y = nI j := by
  simp only [xNP, Bool.or_eq_false_iff, decide_eq_false_iff_not] at h
  obtain ⟨⟨h1, h2⟩, h3⟩ := h
  obtain ⟨i, hi, rfl⟩ := out_in hp hp5 h1
  obtain ⟨j, hj, rfl⟩ := out_in hp hp5 h2
  exact ⟨i, j, hi, hj, fun e => h3 (by rw [e]), rfl, rfl⟩
def cWrite (μ : jMem) (c : Int32) : Int32 × jMem := if c < 32 ∨ 126 < c then (-1, μ) else if 200 ≤ μ 1 2 then (-3, μ)
  else (xAdd μ (μ 1 2).toNatClampNeg ((c.toUInt32 % 65536).toInt32) 1 2, xAdd μ (μ 1 2).toNatClampNeg ((c.toUInt32 % 65536).toInt32))
theorem lt_of_lt200 {m : Int32} {n : Nat} (e : m = nI n) (h : m < 200) (hn : n ≤ 200) : n < 200 := by
  subst e
  rw [jl200] at h
  exact (nI_ltI (by omega) (by omega)).mp h
set_option maxRecDepth 20000 in
theorem t_write {G : jG} {N : Nat} {κ : Nat → jK} {ρ : Nat → Nat → Option Nat} {μ : Nat → Nat → Int32} {ν : Nat → Nat → Int64} (hs : shC N κ ρ) {tl : Nat} (hx : xOK μ tl) {c : Int32} : MT G yX6_write cX6_write 2 (some .int) 1 0 0 [.ref 0, .int c] (N, κ, ρ, μ, ν) (some (.int (cWrite μ c).1)) (N, κ, ρ, (cWrite μ c).2, ν) := by
  refine jMT (ini := false) my_X6_write (fun h => by cases h) (jRv_i _) (Nat.le_of_ble_eq_true rfl) ?_
  show J G RX6 cX6_write 2 false 1 _ 0 0 (N, κ, ρ, μ, ν) 0 [some (.ref 0), some (.int c)] []
  generalize hQe : (fun (v' : Option Value) (h'' : jH) => v' = (some (.int (cWrite μ c).1)) ∧ h'' = (N, κ, ρ, (cWrite μ c).2, ν)) = Q
  have hQ : Q (some (.int (cWrite μ c).1)) (N, κ, ρ, (cWrite μ c).2, ν) := by rw [← hQe]; exact ⟨rfl, rfl⟩
  clear hQe
  refine j_iload_n dX6_write_0 rfl ?_
  refine j_bipush (v := 32) dX6_write_1 (by decide) ?_
  refine k_icmp_lt (tgt := 12) dX6_write_3 (by decide) (fun c3 c3' => ?_) (fun c3 c3' => ?_)
  · skip
    refine j_iconst (v := (-1)) dX6_write_12 (by decide) ?_
    exact j_iret dX6_write_13 (by simpa only [cWrite, true_or, or_true, or_self, or_false, false_or, c3, c3', reduceIte, Bool.false_eq_true, Bool.true_eq_false, and_self, and_true, true_and, and_false, false_and, not_true_eq_false, not_false_eq_true, ne_eq, decide_true, decide_false, if_true, if_false, Bool.not_eq_true, Bool.not_eq_false] using hQ)
  · skip
    refine j_iload_n dX6_write_6 rfl ?_
    refine j_bipush (v := 126) dX6_write_7 (by decide) ?_
    refine k_icmp_le (tgt := 14) dX6_write_9 (by decide) (fun c9 c9' => ?_) (fun c9 c9' => ?_)
    · skip
      refine j_aload_n dX6_write_14 rfl ?_
      refine j_getr dX6_write_15 fl_X6_12 rfl (o_0 hs) (r_0_0 hs) ?_
      refine j_geti dX6_write_18 fl_X6_90 rfl (o_1 hs) ?_
      refine j_sipush (v := 200) dX6_write_21 (by decide) ?_
      refine k_icmp_lt (tgt := 30) dX6_write_24 (by decide) (fun c24 c24' => ?_) (fun c24 c24' => ?_)
      · skip
        have htl := lt_of_lt200 hx.1 c24 hx.2.1
        have et : (μ 1 2).toNatClampNeg = tl := by rw [hx.1]; exact nI_clamp (by omega)
        refine j_aload_n dX6_write_30 rfl ?_
        refine j_getr dX6_write_31 fl_X6_12 rfl (o_0 hs) (r_0_0 hs) ?_
        refine j_iload_n dX6_write_34 rfl ?_
        refine j_i2c dX6_write_35 ?_
        refine j_cV1v dX6_write_36 (t_add hs hx.1 htl (pk_nc _)) ml_X6_79 my_X4_add mi_X4_add (o_1 hs) rfl (by omega) (Nat.le_of_ble_eq_true rfl) (Nat.le_of_ble_eq_true rfl) ?_
        refine j_aload_n dX6_write_39 rfl ?_
        refine j_getr dX6_write_40 fl_X6_12 rfl (o_0 hs) (r_0_0 hs) ?_
        refine j_geti dX6_write_43 fl_X6_90 rfl (o_1 hs) ?_
        exact j_iret dX6_write_46 (by simpa only [cWrite, true_or, or_true, or_self, or_false, false_or, c3, c3', c9, c9', c24, c24', et, reduceIte, Bool.false_eq_true, Bool.true_eq_false, and_self, and_true, true_and, and_false, false_and, not_true_eq_false, not_false_eq_true, ne_eq, decide_true, decide_false, if_true, if_false, Bool.not_eq_true, Bool.not_eq_false] using hQ)
      · skip
        refine j_bipush (v := (-3)) dX6_write_27 (by decide) ?_
        exact j_iret dX6_write_29 (by simpa only [cWrite, true_or, or_true, or_self, or_false, false_or, c3, c3', c9, c9', c24, c24', reduceIte, Bool.false_eq_true, Bool.true_eq_false, and_self, and_true, true_and, and_false, false_and, not_true_eq_false, not_false_eq_true, ne_eq, decide_true, decide_false, if_true, if_false, Bool.not_eq_true, Bool.not_eq_false] using hQ)
    · skip
      refine j_iconst (v := (-1)) dX6_write_12 (by decide) ?_
      exact j_iret dX6_write_13 (by simpa only [cWrite, true_or, or_true, or_self, or_false, false_or, c3, c3', c9, c9', reduceIte, Bool.false_eq_true, Bool.true_eq_false, and_self, and_true, true_and, and_false, false_and, not_true_eq_false, not_false_eq_true, ne_eq, decide_true, decide_false, if_true, if_false, Bool.not_eq_true, Bool.not_eq_false] using hQ)

def cWipe (μ : jMem) : Int32 × jMem := (μ 1 2, jup μ 1 2 0)
set_option maxRecDepth 20000 in
theorem t_wipe {G : jG} {N : Nat} {κ : Nat → jK} {ρ : Nat → Nat → Option Nat} {μ : Nat → Nat → Int32} {ν : Nat → Nat → Int64} (hs : shC N κ ρ) : MT G yX6_wipe cX6_wipe 2 (some .int) 0 0 0 [.ref 0] (N, κ, ρ, μ, ν) (some (.int (cWipe μ).1)) (N, κ, ρ, (cWipe μ).2, ν) := by
  refine jMT (ini := false) my_X6_wipe (fun h => by cases h) (jRv_i _) (Nat.le_of_ble_eq_true rfl) ?_
  show J G RX6 cX6_wipe 2 false 0 _ 0 0 (N, κ, ρ, μ, ν) 0 [some (.ref 0), none] []
  generalize hQe : (fun (v' : Option Value) (h'' : jH) => v' = (some (.int (cWipe μ).1)) ∧ h'' = (N, κ, ρ, (cWipe μ).2, ν)) = Q
  have hQ : Q (some (.int (cWipe μ).1)) (N, κ, ρ, (cWipe μ).2, ν) := by rw [← hQe]; exact ⟨rfl, rfl⟩
  clear hQe
  refine j_aload_n dX6_wipe_0 rfl ?_
  refine j_getr dX6_wipe_1 fl_X6_12 rfl (o_0 hs) (r_0_0 hs) ?_
  refine j_geti dX6_wipe_4 fl_X6_90 rfl (o_1 hs) ?_
  refine j_istore_1 dX6_wipe_7 rfl ?_
  refine j_aload_n dX6_wipe_8 rfl ?_
  refine j_getr dX6_wipe_9 fl_X6_12 rfl (o_0 hs) (r_0_0 hs) ?_
  refine j_iconst (v := 0) dX6_wipe_12 (by decide) ?_
  refine j_puti dX6_wipe_13 fl_X6_90 rfl (o_1 hs) ?_
  refine j_iload_n dX6_wipe_16 rfl ?_
  exact j_iret dX6_wipe_17 (by simpa only [cWipe, reduceIte, Bool.false_eq_true, Bool.true_eq_false, and_self, and_true, true_and, and_false, false_and, not_true_eq_false, not_false_eq_true, ne_eq, decide_true, decide_false, if_true, if_false, Bool.not_eq_true, Bool.not_eq_false] using hQ)

def cFault (μ : jMem) : Int32 × jMem := xRead 4 μ
set_option maxRecDepth 20000 in
theorem t_fault {G : jG} {N : Nat} {κ : Nat → jK} {ρ : Nat → Nat → Option Nat} {μ : Nat → Nat → Int32} {ν : Nat → Nat → Int64} (hs : shC N κ ρ) {tl : Nat} (hx : xOK μ tl) : MT G yX6_fault cX6_fault 1 (some .int) 6 0 0 [.ref 0] (N, κ, ρ, μ, ν) (some (.int (cFault μ).1)) (N, κ, ρ, (cFault μ).2, ν) := by
  refine jMT (ini := false) my_X6_fault (fun h => by cases h) (jRv_i _) (Nat.le_of_ble_eq_true rfl) ?_
  show J G RX6 cX6_fault 1 false 6 _ 0 0 (N, κ, ρ, μ, ν) 0 [some (.ref 0)] []
  generalize hQe : (fun (v' : Option Value) (h'' : jH) => v' = (some (.int (cFault μ).1)) ∧ h'' = (N, κ, ρ, (cFault μ).2, ν)) = Q
  have hQ : Q (some (.int (cFault μ).1)) (N, κ, ρ, (cFault μ).2, ν) := by rw [← hQe]; exact ⟨rfl, rfl⟩
  clear hQe
  refine j_aload_n dX6_fault_0 rfl ?_
  refine j_getr dX6_fault_1 fl_X6_12 rfl (o_0 hs) (r_0_0 hs) ?_
  refine j_aload_n dX6_fault_4 rfl ?_
  refine j_getr dX6_fault_5 fl_X6_19 rfl (o_0 hs) (r_0_1 hs) ?_
  refine j_cV1r dX6_fault_8 (t_readInto hs pl_4 hx) ml_X6_83 my_X4_readInto mi_X4_readInto (o_1 hs) rfl (by omega) (Nat.le_of_ble_eq_true rfl) (Nat.le_of_ble_eq_true rfl) ?_
  exact j_iret dX6_fault_11 hQ

theorem xRdL_ok {q tl : Nat} (hq : pln q) : ∀ (n k : Nat) (m : jMem), m q 0 = nI (pS m q) → pS m q ≤ 5 → xOK m tl → xOK (xRdL q n k m).2 tl ∧ (xRdL q n k m).2 q 0 = nI (pS (xRdL q n k m).2 q) ∧ pS (xRdL q n k m).2 q ≤ 5
  | 0, k, m, h, h5, hx => ⟨hx, h, h5⟩
  | n + 1, k, m, h, h5, hx => by
    rw [xRdL]
    split
    · obtain ⟨hx2, ⟨hps2, hps25⟩, -⟩ := xItem_ok hq h h5 hx k
      cases hr : xItem q m k with
      | mk r m2 =>
        rw [hr] at hx2 hps2 hps25
        cases r with
        | none => exact ⟨hx2, hps2, hps25⟩
        | some k2 => exact xRdL_ok hq n k2 m2 hps2 hps25 hx2
    · exact ⟨hx, h, h5⟩
theorem xRead_ok {q tl : Nat} (hq : pln q) {μ : jMem} (hx : xOK μ tl) : xOK (xRead q μ).2 tl ∧ (xRead q μ).2 q 0 = nI (pS (xRead q μ).2 q) ∧ pS (xRead q μ).2 q ≤ 5 := by
  have hl1 : (1 : Nat) < q ∧ (2 : Nat) < q := by rcases hq with rfl | rfl <;> decide
  exact xRdL_ok hq 200 0 _ (pClr_ps μ q).1 (pClr_ps μ q).2 ⟨by rw [pClr_lo (by omega)]; exact hx.1, hx.2.1, fun k => by rw [pClr_lo (by omega)]; exact hx.2.2 k⟩
def cLayM (m : jMem) : jMem :=
  let m := tLay (xRead 9 m).2 14
  jup (jup (jup m 26 2 0) 0 7 0) 77 3 0
def cLay (μ : jMem) : Int32 × jMem :=
  if (xRead 4 μ).1 = -4 ∧ ¬ (xRead 4 μ).2 4 0 = 0 then (cLayM (xRead 4 μ).2 9 0, cLayM (xRead 4 μ).2) else (-2, (xRead 4 μ).2)
set_option maxRecDepth 20000 in
theorem tc_lay {G : jG} {N : Nat} {κ : Nat → jK} {ρ : Nat → Nat → Option Nat} {μ : Nat → Nat → Int32} {ν : Nat → Nat → Int64} (hs : shC N κ ρ) {tl : Nat} (hx : xOK μ tl) : MT G yX6_lay cX6_lay 1 (some .int) 6 0 0 [.ref 0] (N, κ, ρ, μ, ν) (some (.int (cLay μ).1)) (N, κ, ρ, (cLay μ).2, ν) := by
  refine jMT (ini := false) my_X6_lay (fun h => by cases h) (jRv_i _) (Nat.le_of_ble_eq_true rfl) ?_
  show J G RX6 cX6_lay 1 false 6 _ 0 0 (N, κ, ρ, μ, ν) 0 [some (.ref 0)] []
  generalize hQe : (fun (v' : Option Value) (h'' : jH) => v' = (some (.int (cLay μ).1)) ∧ h'' = (N, κ, ρ, (cLay μ).2, ν)) = Q
  have hQ : Q (some (.int (cLay μ).1)) (N, κ, ρ, (cLay μ).2, ν) := by rw [← hQe]; exact ⟨rfl, rfl⟩
  clear hQe
  refine j_aload_n dX6_lay_0 rfl ?_
  refine j_getr dX6_lay_1 fl_X6_12 rfl (o_0 hs) (r_0_0 hs) ?_
  refine j_aload_n dX6_lay_4 rfl ?_
  refine j_getr dX6_lay_5 fl_X6_19 rfl (o_0 hs) (r_0_1 hs) ?_
  refine j_cV1r dX6_lay_8 (t_readInto hs pl_4 hx) ml_X6_83 my_X4_readInto mi_X4_readInto (o_1 hs) rfl (by omega) (Nat.le_of_ble_eq_true rfl) (Nat.le_of_ble_eq_true rfl) ?_
  refine j_bipush (v := (-4)) dX6_lay_11 (by decide) ?_
  refine j_icmp_ne (tgt := 26) dX6_lay_13 (by decide) (fun c13 => ?_) (fun c13 => ?_)
  · skip
    refine j_bipush (v := (-2)) dX6_lay_26 (by decide) ?_
    exact j_iret dX6_lay_28 (by simpa only [cLay, cLayM, not_true_eq_false, c13, reduceIte, Bool.false_eq_true, Bool.true_eq_false, and_self, and_true, true_and, and_false, false_and, not_true_eq_false, not_false_eq_true, ne_eq, decide_true, decide_false, if_true, if_false, Bool.not_eq_true, Bool.not_eq_false] using hQ)
  · skip
    refine j_aload_n dX6_lay_16 rfl ?_
    refine j_getr dX6_lay_17 fl_X6_19 rfl (o_0 hs) (r_0_1 hs) ?_
    refine j_geti dX6_lay_20 fl_X6_92 rfl (o_4 hs) ?_
    refine j_if_ne (tgt := 29) dX6_lay_23 (by decide) (fun c23 => ?_) (fun c23 => ?_)
    · skip
      refine j_aload_n dX6_lay_29 rfl ?_
      refine j_getr dX6_lay_30 fl_X6_12 rfl (o_0 hs) (r_0_0 hs) ?_
      refine j_aload_n dX6_lay_33 rfl ?_
      refine j_getr dX6_lay_34 fl_X6_23 rfl (o_0 hs) (r_0_2 hs) ?_
      refine j_cV1r dX6_lay_37 (t_readInto hs pl_9 (xRead_ok pl_4 hx).1) ml_X6_83 my_X4_readInto mi_X4_readInto (o_1 hs) rfl (by omega) (Nat.le_of_ble_eq_true rfl) (Nat.le_of_ble_eq_true rfl) ?_
      refine j_pop dX6_lay_40 rfl ?_
      refine j_aload_n dX6_lay_41 rfl ?_
      refine j_getr dX6_lay_42 fl_X6_31 rfl (o_0 hs) (r_0_3 hs) ?_
      refine j_cV0v dX6_lay_45 (t_layOut hs twn_14) ml_X6_87 my_X5_layOut mi_X5_layOut (tO hs twn_14) rfl (by omega) (Nat.le_of_ble_eq_true rfl) (Nat.le_of_ble_eq_true rfl) ?_
      refine j_aload_n dX6_lay_48 rfl ?_
      refine j_getr dX6_lay_49 fl_X6_41 rfl (o_0 hs) (r_0_5 hs) ?_
      refine j_iconst (v := 0) dX6_lay_52 (by decide) ?_
      refine j_puti dX6_lay_53 fl_X6_95 rfl (o_26 hs) ?_
      refine j_aload_n dX6_lay_56 rfl ?_
      refine j_iconst (v := 0) dX6_lay_57 (by decide) ?_
      refine j_puti dX6_lay_58 fl_X6_49 rfl (o_0 hs) ?_
      refine j_aload_n dX6_lay_61 rfl ?_
      refine j_getr dX6_lay_62 fl_X6_56 rfl (o_0 hs) (r_0_8 hs) ?_
      refine j_iconst (v := 0) dX6_lay_65 (by decide) ?_
      refine j_puti dX6_lay_66 fl_X6_98 rfl (o_77 hs) ?_
      refine j_aload_n dX6_lay_69 rfl ?_
      refine j_getr dX6_lay_70 fl_X6_23 rfl (o_0 hs) (r_0_2 hs) ?_
      refine j_geti dX6_lay_73 fl_X6_92 rfl (o_9 hs) ?_
      exact j_iret dX6_lay_76 (by simpa only [cLay, cLayM, not_true_eq_false, eq_true c13, c23, reduceIte, Bool.false_eq_true, Bool.true_eq_false, and_self, and_true, true_and, and_false, false_and, not_true_eq_false, not_false_eq_true, ne_eq, decide_true, decide_false, if_true, if_false, Bool.not_eq_true, Bool.not_eq_false] using hQ)
    · skip
      refine j_bipush (v := (-2)) dX6_lay_26 (by decide) ?_
      exact j_iret dX6_lay_28 (by simpa only [cLay, cLayM, not_true_eq_false, eq_true c13, eq_true c23, reduceIte, Bool.false_eq_true, Bool.true_eq_false, and_self, and_true, true_and, and_false, false_and, not_true_eq_false, not_false_eq_true, ne_eq, decide_true, decide_false, if_true, if_false, Bool.not_eq_true, Bool.not_eq_false] using hQ)

def cWallV (μ : jMem) (i : Nat) (what : Int32) : Int32 :=
  if what = 0 then μ 10 i else if what = 1 then μ 11 i else if what = 2 then μ 12 i else if what = 3 then μ (14 + 1) i else if what = 4 then (if tSt μ 14 i = true then 0 else 1)
  else if what = 5 then μ (14 + 2) i else if what = 6 then μ (14 + 3) i else if what = 7 then (if μ 10 i = 3 ∧ 0 < μ (14 + 4) i then 1 else 0) else -1
def cWall (μ : jMem) (w what : Int32) : Int32 × jMem := if xNW μ w = true then (-1, μ) else (cWallV μ w.toNatClampNeg what, μ)
set_option maxRecDepth 20000 in
theorem t_wall {G : jG} {N : Nat} {κ : Nat → jK} {ρ : Nat → Nat → Option Nat} {μ : Nat → Nat → Int32} {ν : Nat → Nat → Int64} (hs : shC N κ ρ) {p : Nat} (hp : μ 9 0 = nI p) (hp5 : p ≤ 5) {w what : Int32} : MT G yX6_wall cX6_wall 3 (some .int) 2 0 0 [.ref 0, .int w, .int what] (N, κ, ρ, μ, ν) (some (.int (cWall μ w what).1)) (N, κ, ρ, (cWall μ w what).2, ν) := by
  refine jMT (ini := false) my_X6_wall (fun h => by cases h) (jRv_i _) (Nat.le_of_ble_eq_true rfl) ?_
  show J G RX6 cX6_wall 3 false 2 _ 0 0 (N, κ, ρ, μ, ν) 0 [some (.ref 0), some (.int w), some (.int what)] []
  generalize hQe : (fun (v' : Option Value) (h'' : jH) => v' = (some (.int (cWall μ w what).1)) ∧ h'' = (N, κ, ρ, (cWall μ w what).2, ν)) = Q
  have hQ : Q (some (.int (cWall μ w what).1)) (N, κ, ρ, (cWall μ w what).2, ν) := by rw [← hQe]; exact ⟨rfl, rfl⟩
  clear hQe
  refine j_aload_n dX6_wall_0 rfl ?_
  refine j_iload_n dX6_wall_1 rfl ?_
  refine j_cV1r dX6_wall_2 (t_nw hs) ml_X6_99 my_X6_isNoWall mi_X6_isNoWall (o_0 hs) rfl (by omega) (Nat.le_of_ble_eq_true rfl) (Nat.le_of_ble_eq_true rfl) ?_
  refine j_if_eqB (tgt := 10) dX6_wall_5 (by decide) (fun c5 => ?_) (fun c5 => ?_)
  · skip
    obtain ⟨i, hi, rfl⟩ := out_in hp hp5 c5
    have ei : (nI i).toNatClampNeg = i := nI_clamp (by omega)
    refine j_iload_n dX6_wall_10 rfl ?_
    rcases tsw7 what with rfl | rfl | rfl | rfl | rfl | rfl | rfl | rfl | hout
    · refine j_tableIn (off := 45) (tgt := 56) dX6_wall_11 (by decide) (by decide) (by decide) (by decide) ?_
      refine j_aload_n dX6_wall_56 rfl ?_
      refine j_getr dX6_wall_57 fl_X6_23 rfl (o_0 hs) (r_0_2 hs) ?_
      refine j_getr dX6_wall_60 fl_X6_103 rfl (o_9 hs) (r_9_2 hs) ?_
      refine j_iload_n dX6_wall_63 rfl ?_
      refine j_iald (k := i) dX6_wall_64 (a_10 hs) rfl (by omega) ?_
      exact j_iret dX6_wall_65 (by simpa [cWall, cWallV, c5, ei] using hQ)
    · refine j_tableIn (off := 55) (tgt := 66) dX6_wall_11 (by decide) (by decide) (by decide) (by decide) ?_
      refine j_aload_n dX6_wall_66 rfl ?_
      refine j_getr dX6_wall_67 fl_X6_23 rfl (o_0 hs) (r_0_2 hs) ?_
      refine j_getr dX6_wall_70 fl_X6_107 rfl (o_9 hs) (r_9_3 hs) ?_
      refine j_iload_n dX6_wall_73 rfl ?_
      refine j_iald (k := i) dX6_wall_74 (a_11 hs) rfl (by omega) ?_
      exact j_iret dX6_wall_75 (by simpa [cWall, cWallV, c5, ei] using hQ)
    · refine j_tableIn (off := 65) (tgt := 76) dX6_wall_11 (by decide) (by decide) (by decide) (by decide) ?_
      refine j_aload_n dX6_wall_76 rfl ?_
      refine j_getr dX6_wall_77 fl_X6_23 rfl (o_0 hs) (r_0_2 hs) ?_
      refine j_getr dX6_wall_80 fl_X6_110 rfl (o_9 hs) (r_9_4 hs) ?_
      refine j_iload_n dX6_wall_83 rfl ?_
      refine j_iald (k := i) dX6_wall_84 (a_12 hs) rfl (by omega) ?_
      exact j_iret dX6_wall_85 (by simpa [cWall, cWallV, c5, ei] using hQ)
    · refine j_tableIn (off := 75) (tgt := 86) dX6_wall_11 (by decide) (by decide) (by decide) (by decide) ?_
      refine j_aload_n dX6_wall_86 rfl ?_
      refine j_getr dX6_wall_87 fl_X6_31 rfl (o_0 hs) (r_0_3 hs) ?_
      refine j_getr dX6_wall_90 fl_X6_113 rfl (tO hs twn_14) (tR1 hs twn_14) ?_
      refine j_iload_n dX6_wall_93 rfl ?_
      refine j_iald (k := i) dX6_wall_94 (tA1 hs twn_14) rfl (by omega) ?_
      exact j_iret dX6_wall_95 (by simpa [cWall, cWallV, c5, ei] using hQ)
    · refine j_tableIn (off := 85) (tgt := 96) dX6_wall_11 (by decide) (by decide) (by decide) (by decide) ?_
      refine j_aload_n dX6_wall_96 rfl ?_
      refine j_getr dX6_wall_97 fl_X6_31 rfl (o_0 hs) (r_0_3 hs) ?_
      refine j_iload_n dX6_wall_100 rfl ?_
      refine j_cV1r dX6_wall_101 (t_stands (w := i) hs twn_14 (by omega)) ml_X6_114 my_X5_stands mi_X5_stands (tO hs twn_14) rfl (by omega) (Nat.le_of_ble_eq_true rfl) (Nat.le_of_ble_eq_true rfl) ?_
      refine j_if_eqB (tgt := 111) dX6_wall_104 (by decide) (fun c104 => ?_) (fun c104 => ?_)
      · skip
        refine j_iconst (v := 1) dX6_wall_111 (by decide) ?_
        exact j_iret dX6_wall_112 (by simpa [cWall, cWallV, c5, ei, c104] using hQ)
      · skip
        refine j_iconst (v := 0) dX6_wall_107 (by decide) ?_
        refine j_goto (tgt := 112) dX6_wall_108 (by decide) ?_
        exact j_iret dX6_wall_112 (by simpa [cWall, cWallV, c5, ei, c104] using hQ)
    · refine j_tableIn (off := 102) (tgt := 113) dX6_wall_11 (by decide) (by decide) (by decide) (by decide) ?_
      refine j_aload_n dX6_wall_113 rfl ?_
      refine j_getr dX6_wall_114 fl_X6_31 rfl (o_0 hs) (r_0_3 hs) ?_
      refine j_getr dX6_wall_117 fl_X6_117 rfl (tO hs twn_14) (tR2 hs twn_14) ?_
      refine j_iload_n dX6_wall_120 rfl ?_
      refine j_iald (k := i) dX6_wall_121 (tA2 hs twn_14) rfl (by omega) ?_
      exact j_iret dX6_wall_122 (by simpa [cWall, cWallV, c5, ei] using hQ)
    · refine j_tableIn (off := 112) (tgt := 123) dX6_wall_11 (by decide) (by decide) (by decide) (by decide) ?_
      refine j_aload_n dX6_wall_123 rfl ?_
      refine j_getr dX6_wall_124 fl_X6_31 rfl (o_0 hs) (r_0_3 hs) ?_
      refine j_getr dX6_wall_127 fl_X6_120 rfl (tO hs twn_14) (tR3 hs twn_14) ?_
      refine j_iload_n dX6_wall_130 rfl ?_
      refine j_iald (k := i) dX6_wall_131 (tA3 hs twn_14) rfl (by omega) ?_
      exact j_iret dX6_wall_132 (by simpa [cWall, cWallV, c5, ei] using hQ)
    · refine j_tableIn (off := 122) (tgt := 133) dX6_wall_11 (by decide) (by decide) (by decide) (by decide) ?_
      refine j_aload_n dX6_wall_133 rfl ?_
      refine j_getr dX6_wall_134 fl_X6_23 rfl (o_0 hs) (r_0_2 hs) ?_
      refine j_getr dX6_wall_137 fl_X6_103 rfl (o_9 hs) (r_9_2 hs) ?_
      refine j_iload_n dX6_wall_140 rfl ?_
      refine j_iald (k := i) dX6_wall_141 (a_10 hs) rfl (by omega) ?_
      refine j_iconst (v := 3) dX6_wall_142 (by decide) ?_
      refine j_icmp_ne (tgt := 162) dX6_wall_143 (by decide) (fun c143 => ?_) (fun c143 => ?_)
      · skip
        refine j_iconst (v := 0) dX6_wall_162 (by decide) ?_
        exact j_iret dX6_wall_163 (by simpa [cWall, cWallV, c5, ei, c143] using hQ)
      · skip
        refine j_aload_n dX6_wall_146 rfl ?_
        refine j_getr dX6_wall_147 fl_X6_31 rfl (o_0 hs) (r_0_3 hs) ?_
        refine j_getr dX6_wall_150 fl_X6_123 rfl (tO hs twn_14) (tR4 hs twn_14) ?_
        refine j_iload_n dX6_wall_153 rfl ?_
        refine j_iald (k := i) dX6_wall_154 (tA4 hs twn_14) rfl (by omega) ?_
        refine k_if_le (tgt := 162) dX6_wall_155 (by decide) (fun c155 c155' => ?_) (fun c155 c155' => ?_)
        · skip
          refine j_iconst (v := 0) dX6_wall_162 (by decide) ?_
          exact j_iret dX6_wall_163 (by simpa [cWall, cWallV, c5, ei, eq_true c143, c155, c155'] using hQ)
        · skip
          refine j_iconst (v := 1) dX6_wall_158 (by decide) ?_
          refine j_goto (tgt := 163) dX6_wall_159 (by decide) ?_
          exact j_iret dX6_wall_163 (by simpa [cWall, cWallV, c5, ei, eq_true c143, c155, c155'] using hQ)
    · refine j_tableOut (tgt := 164) dX6_wall_11 hout (by decide) ?_
      have nn := tswo7 hout
      refine j_iconst (v := (-1)) dX6_wall_164 (by decide) ?_
      exact j_iret dX6_wall_165 (by simpa [cWall, cWallV, c5, ei, nn] using hQ)
  · skip
    refine j_iconst (v := (-1)) dX6_wall_8 (by decide) ?_
    exact j_iret dX6_wall_9 (by simpa [cWall, cWallV, c5] using hQ)

def cHolds (μ : jMem) (x y : Int32) : Int32 × jMem := if xNP μ x y = true then (-1, μ) else (tHeld μ 14 x.toNatClampNeg y.toNatClampNeg, μ)
set_option maxRecDepth 20000 in
theorem t_holds {G : jG} {N : Nat} {κ : Nat → jK} {ρ : Nat → Nat → Option Nat} {μ : Nat → Nat → Int32} {ν : Nat → Nat → Int64} (hs : shC N κ ρ) {p : Nat} (hp : μ 9 0 = nI p) (hp5 : p ≤ 5) {x y : Int32} : MT G yX6_holds cX6_holds 3 (some .int) 3 0 0 [.ref 0, .int x, .int y] (N, κ, ρ, μ, ν) (some (.int (cHolds μ x y).1)) (N, κ, ρ, (cHolds μ x y).2, ν) := by
  refine jMT (ini := false) my_X6_holds (fun h => by cases h) (jRv_i _) (Nat.le_of_ble_eq_true rfl) ?_
  show J G RX6 cX6_holds 3 false 3 _ 0 0 (N, κ, ρ, μ, ν) 0 [some (.ref 0), some (.int x), some (.int y)] []
  generalize hQe : (fun (v' : Option Value) (h'' : jH) => v' = (some (.int (cHolds μ x y).1)) ∧ h'' = (N, κ, ρ, (cHolds μ x y).2, ν)) = Q
  have hQ : Q (some (.int (cHolds μ x y).1)) (N, κ, ρ, (cHolds μ x y).2, ν) := by rw [← hQe]; exact ⟨rfl, rfl⟩
  clear hQe
  refine j_aload_n dX6_holds_0 rfl ?_
  refine j_iload_n dX6_holds_1 rfl ?_
  refine j_iload_n dX6_holds_2 rfl ?_
  refine j_cV2r dX6_holds_3 (t_np hs) ml_X6_126 my_X6_isNoPair mi_X6_isNoPair (o_0 hs) rfl (by omega) (Nat.le_of_ble_eq_true rfl) (Nat.le_of_ble_eq_true rfl) ?_
  refine j_if_eqB (tgt := 13) dX6_holds_6 (by decide) (fun c6 => ?_) (fun c6 => ?_)
  · skip
    obtain ⟨i, j, hi, hj, hij, rfl, rfl⟩ := np_in hp hp5 c6
    have ei : (nI i).toNatClampNeg = i := nI_clamp (by omega)
    have ej : (nI j).toNatClampNeg = j := nI_clamp (by omega)
    refine j_aload_n dX6_holds_13 rfl ?_
    refine j_getr dX6_holds_14 fl_X6_31 rfl (o_0 hs) (r_0_3 hs) ?_
    refine j_iload_n dX6_holds_17 rfl ?_
    refine j_iload_n dX6_holds_18 rfl ?_
    refine j_cV2r dX6_holds_19 (t_heldBy (x := i) (y := j) hs twn_14 (by omega) (by omega)) ml_X6_130 my_X5_heldBy mi_X5_heldBy (tO hs twn_14) rfl (by omega) (Nat.le_of_ble_eq_true rfl) (Nat.le_of_ble_eq_true rfl) ?_
    exact j_iret dX6_holds_22 (by simpa only [cHolds, c6, ei, ej, reduceIte, Bool.false_eq_true, Bool.true_eq_false, and_self, and_true, true_and, and_false, false_and, not_true_eq_false, not_false_eq_true, ne_eq, decide_true, decide_false, if_true, if_false, Bool.not_eq_true, Bool.not_eq_false] using hQ)
  · skip
    refine j_iconst (v := (-1)) dX6_holds_9 (by decide) ?_
    refine j_goto (tgt := 22) dX6_holds_10 (by decide) ?_
    exact j_iret dX6_holds_22 (by simpa only [cHolds, c6, reduceIte, Bool.false_eq_true, Bool.true_eq_false, and_self, and_true, true_and, and_false, false_and, not_true_eq_false, not_false_eq_true, ne_eq, decide_true, decide_false, if_true, if_false, Bool.not_eq_true, Bool.not_eq_false] using hQ)

def cRound (μ : jMem) (w : Int32) : Int32 × jMem := if xNW μ w = true then (-1, μ) else if tSt μ 14 w.toNatClampNeg = true then (if 7 ≤ μ (14 + 2) w.toNatClampNeg then (-3, μ)
  else (tGo (pPush μ (μ 26 1).toNatClampNeg 14) 14 w.toNatClampNeg (14 + 2) w.toNatClampNeg, tGo (pPush μ (μ 26 1).toNatClampNeg 14) 14 w.toNatClampNeg)) else (-2, μ)
set_option maxRecDepth 20000 in
theorem t_round {G : jG} {N : Nat} {κ : Nat → jK} {ρ : Nat → Nat → Option Nat} {μ : Nat → Nat → Int32} {ν : Nat → Nat → Int64} (hs : shC N κ ρ) {p : Nat} (hp : μ 9 0 = nI p) (hp5 : p ≤ 5) {x : Nat} (hx : μ 26 1 = nI x) (hx8 : x < 8) {w : Int32} : MT G yX6_round cX6_round 2 (some .int) 3 0 0 [.ref 0, .int w] (N, κ, ρ, μ, ν) (some (.int (cRound μ w).1)) (N, κ, ρ, (cRound μ w).2, ν) := by
  refine jMT (ini := false) my_X6_round (fun h => by cases h) (jRv_i _) (Nat.le_of_ble_eq_true rfl) ?_
  show J G RX6 cX6_round 2 false 3 _ 0 0 (N, κ, ρ, μ, ν) 0 [some (.ref 0), some (.int w)] []
  generalize hQe : (fun (v' : Option Value) (h'' : jH) => v' = (some (.int (cRound μ w).1)) ∧ h'' = (N, κ, ρ, (cRound μ w).2, ν)) = Q
  have hQ : Q (some (.int (cRound μ w).1)) (N, κ, ρ, (cRound μ w).2, ν) := by rw [← hQe]; exact ⟨rfl, rfl⟩
  clear hQe
  have ex : (μ 26 1).toNatClampNeg = x := by rw [hx]; exact nI_clamp (by omega)
  refine j_aload_n dX6_round_0 rfl ?_
  refine j_iload_n dX6_round_1 rfl ?_
  refine j_cV1r dX6_round_2 (t_nw hs) ml_X6_99 my_X6_isNoWall mi_X6_isNoWall (o_0 hs) rfl (by omega) (Nat.le_of_ble_eq_true rfl) (Nat.le_of_ble_eq_true rfl) ?_
  refine j_if_eqB (tgt := 10) dX6_round_5 (by decide) (fun c5 => ?_) (fun c5 => ?_)
  · skip
    obtain ⟨i, hi, rfl⟩ := out_in hp hp5 c5
    have ei : (nI i).toNatClampNeg = i := nI_clamp (by omega)
    refine j_aload_n dX6_round_10 rfl ?_
    refine j_getr dX6_round_11 fl_X6_31 rfl (o_0 hs) (r_0_3 hs) ?_
    refine j_iload_n dX6_round_14 rfl ?_
    refine j_cV1r dX6_round_15 (t_stands (w := i) hs twn_14 (by omega)) ml_X6_114 my_X5_stands mi_X5_stands (tO hs twn_14) rfl (by omega) (Nat.le_of_ble_eq_true rfl) (Nat.le_of_ble_eq_true rfl) ?_
    refine j_if_neB (tgt := 24) dX6_round_18 (by decide) (fun c18 => ?_) (fun c18 => ?_)
    · skip
      refine j_aload_n dX6_round_24 rfl ?_
      refine j_getr dX6_round_25 fl_X6_31 rfl (o_0 hs) (r_0_3 hs) ?_
      refine j_getr dX6_round_28 fl_X6_117 rfl (tO hs twn_14) (tR2 hs twn_14) ?_
      refine j_iload_n dX6_round_31 rfl ?_
      refine j_iald (k := i) dX6_round_32 (tA2 hs twn_14) rfl (by omega) ?_
      refine j_bipush (v := 7) dX6_round_33 (by decide) ?_
      refine k_icmp_lt (tgt := 41) dX6_round_35 (by decide) (fun c35 c35' => ?_) (fun c35 c35' => ?_)
      · skip
        refine j_aload_n dX6_round_41 rfl ?_
        refine j_getr dX6_round_42 fl_X6_41 rfl (o_0 hs) (r_0_5 hs) ?_
        refine j_aload_n dX6_round_45 rfl ?_
        refine j_getr dX6_round_46 fl_X6_31 rfl (o_0 hs) (r_0_3 hs) ?_
        refine j_cV1v dX6_round_49 (t_push hs hx hx8 twn_14) ml_X6_134 my_X2_push mi_X2_push (o_26 hs) rfl (by omega) (Nat.le_of_ble_eq_true rfl) (Nat.le_of_ble_eq_true rfl) ?_
        refine j_aload_n dX6_round_52 rfl ?_
        refine j_getr dX6_round_53 fl_X6_31 rfl (o_0 hs) (r_0_3 hs) ?_
        refine j_iload_n dX6_round_56 rfl ?_
        refine j_cV1v dX6_round_57 (t_goRound (w := i) hs twn_14 (by omega)) ml_X6_138 my_X5_goRound mi_X5_goRound (tO hs twn_14) rfl (by omega) (Nat.le_of_ble_eq_true rfl) (Nat.le_of_ble_eq_true rfl) ?_
        refine j_aload_n dX6_round_60 rfl ?_
        refine j_getr dX6_round_61 fl_X6_31 rfl (o_0 hs) (r_0_3 hs) ?_
        refine j_getr dX6_round_64 fl_X6_117 rfl (tO hs twn_14) (tR2 hs twn_14) ?_
        refine j_iload_n dX6_round_67 rfl ?_
        refine j_iald (k := i) dX6_round_68 (tA2 hs twn_14) rfl (by omega) ?_
        exact j_iret dX6_round_69 (by simpa only [cRound, ex, c5, ei, c18, c35, c35', reduceIte, Bool.false_eq_true, Bool.true_eq_false, and_self, and_true, true_and, and_false, false_and, not_true_eq_false, not_false_eq_true, ne_eq, decide_true, decide_false, if_true, if_false, Bool.not_eq_true, Bool.not_eq_false] using hQ)
      · skip
        refine j_bipush (v := (-3)) dX6_round_38 (by decide) ?_
        exact j_iret dX6_round_40 (by simpa only [cRound, ex, c5, ei, c18, c35, c35', reduceIte, Bool.false_eq_true, Bool.true_eq_false, and_self, and_true, true_and, and_false, false_and, not_true_eq_false, not_false_eq_true, ne_eq, decide_true, decide_false, if_true, if_false, Bool.not_eq_true, Bool.not_eq_false] using hQ)
    · skip
      refine j_bipush (v := (-2)) dX6_round_21 (by decide) ?_
      exact j_iret dX6_round_23 (by simpa only [cRound, ex, c5, ei, c18, reduceIte, Bool.false_eq_true, Bool.true_eq_false, and_self, and_true, true_and, and_false, false_and, not_true_eq_false, not_false_eq_true, ne_eq, decide_true, decide_false, if_true, if_false, Bool.not_eq_true, Bool.not_eq_false] using hQ)
  · skip
    refine j_iconst (v := (-1)) dX6_round_8 (by decide) ?_
    exact j_iret dX6_round_9 (by simpa only [cRound, ex, c5, reduceIte, Bool.false_eq_true, Bool.true_eq_false, and_self, and_true, true_and, and_false, false_and, not_true_eq_false, not_false_eq_true, ne_eq, decide_true, decide_false, if_true, if_false, Bool.not_eq_true, Bool.not_eq_false] using hQ)

def cBlast (μ : jMem) (p : Nat) (w n : Int32) : Int32 × jMem := if xNW μ w = true ∨ xOut n 1 9 = true then (-1, μ) else if tSt μ 14 w.toNatClampNeg = true then
  (tBlR (pPush μ (μ 26 1).toNatClampNeg 14) 14 w.toNatClampNeg n, tBlM (pPush μ (μ 26 1).toNatClampNeg 14) 14 p w.toNatClampNeg n) else (-2, μ)
theorem tCp_lo {a b x y : Nat} (ha : tw a) (hx : x < 14) (m : jMem) : tCp m a b x y = m x y := by
  have := tw_ge ha
  simp only [tCp, rcp, jrow_at, jup_oth (show x ≠ a by omega), if_neg (show ¬ x = a + 1 by omega), if_neg (show ¬ x = a + 2 by omega), if_neg (show ¬ x = a + 3 by omega), if_neg (show ¬ x = a + 4 by omega), if_neg (show ¬ x = a + 5 by omega)]
theorem pPush_lo {x b u v : Nat} (hx : x < 8) (hu : u < 14) (m : jMem) : pPush m x b u v = m u v := by
  simp only [pPush, jup_oth (show u ≠ 26 by omega)]
  exact tCp_lo (tw_p hx) hu m
set_option maxRecDepth 20000 in
theorem t_blast {G : jG} {N : Nat} {κ : Nat → jK} {ρ : Nat → Nat → Option Nat} {μ : Nat → Nat → Int32} {ν : Nat → Nat → Int64} (hs : shC N κ ρ) {p : Nat} (hp : μ 9 0 = nI p) (hp5 : p ≤ 5) {x : Nat} (hx : μ 26 1 = nI x) (hx8 : x < 8) {w n : Int32} : MT G yX6_blast cX6_blast 3 (some .int) 10 0 0 [.ref 0, .int w, .int n] (N, κ, ρ, μ, ν) (some (.int (cBlast μ p w n).1)) (N, κ, ρ, (cBlast μ p w n).2, ν) := by
  refine jMT (ini := false) my_X6_blast (fun h => by cases h) (jRv_i _) (Nat.le_of_ble_eq_true rfl) ?_
  show J G RX6 cX6_blast 3 false 10 _ 0 0 (N, κ, ρ, μ, ν) 0 [some (.ref 0), some (.int w), some (.int n)] []
  generalize hQe : (fun (v' : Option Value) (h'' : jH) => v' = (some (.int (cBlast μ p w n).1)) ∧ h'' = (N, κ, ρ, (cBlast μ p w n).2, ν)) = Q
  have hQ : Q (some (.int (cBlast μ p w n).1)) (N, κ, ρ, (cBlast μ p w n).2, ν) := by rw [← hQe]; exact ⟨rfl, rfl⟩
  clear hQe
  have ex : (μ 26 1).toNatClampNeg = x := by rw [hx]; exact nI_clamp (by omega)
  refine j_aload_n dX6_blast_0 rfl ?_
  refine j_iload_n dX6_blast_1 rfl ?_
  refine j_cV1r dX6_blast_2 (t_nw hs) ml_X6_99 my_X6_isNoWall mi_X6_isNoWall (o_0 hs) rfl (by omega) (Nat.le_of_ble_eq_true rfl) (Nat.le_of_ble_eq_true rfl) ?_
  refine j_if_neB (tgt := 18) dX6_blast_5 (by decide) (fun c5 => ?_) (fun c5 => ?_)
  · skip
    refine j_iconst (v := (-1)) dX6_blast_18 (by decide) ?_
    exact j_iret dX6_blast_19 (by simpa only [cBlast, ex, true_or, or_true, or_self, or_false, false_or, c5, reduceIte, Bool.false_eq_true, Bool.true_eq_false, and_self, and_true, true_and, and_false, false_and, not_true_eq_false, not_false_eq_true, ne_eq, decide_true, decide_false, if_true, if_false, Bool.not_eq_true, Bool.not_eq_false] using hQ)
  · skip
    obtain ⟨i, hi, rfl⟩ := out_in hp hp5 c5
    have ei : (nI i).toNatClampNeg = i := nI_clamp (by omega)
    refine j_iload_n dX6_blast_8 rfl ?_
    refine j_iconst (v := 1) dX6_blast_9 (by decide) ?_
    refine j_bipush (v := 9) dX6_blast_10 (by decide) ?_
    refine j_cS3r dX6_blast_12 t_out ml_X6_142 my_X6_isOutside ms_X6_isOutside (by omega) (Nat.le_of_ble_eq_true rfl) (Nat.le_of_ble_eq_true rfl) ?_
    refine j_if_eqB (tgt := 20) dX6_blast_15 (by decide) (fun c15 => ?_) (fun c15 => ?_)
    · skip
      refine j_aload_n dX6_blast_20 rfl ?_
      refine j_getr dX6_blast_21 fl_X6_31 rfl (o_0 hs) (r_0_3 hs) ?_
      refine j_iload_n dX6_blast_24 rfl ?_
      refine j_cV1r dX6_blast_25 (t_stands (w := i) hs twn_14 (by omega)) ml_X6_114 my_X5_stands mi_X5_stands (tO hs twn_14) rfl (by omega) (Nat.le_of_ble_eq_true rfl) (Nat.le_of_ble_eq_true rfl) ?_
      refine j_if_neB (tgt := 34) dX6_blast_28 (by decide) (fun c28 => ?_) (fun c28 => ?_)
      · skip
        refine j_aload_n dX6_blast_34 rfl ?_
        refine j_getr dX6_blast_35 fl_X6_41 rfl (o_0 hs) (r_0_5 hs) ?_
        refine j_aload_n dX6_blast_38 rfl ?_
        refine j_getr dX6_blast_39 fl_X6_31 rfl (o_0 hs) (r_0_3 hs) ?_
        refine j_cV1v dX6_blast_42 (t_push hs hx hx8 twn_14) ml_X6_134 my_X2_push mi_X2_push (o_26 hs) rfl (by omega) (Nat.le_of_ble_eq_true rfl) (Nat.le_of_ble_eq_true rfl) ?_
        refine j_aload_n dX6_blast_45 rfl ?_
        refine j_getr dX6_blast_46 fl_X6_31 rfl (o_0 hs) (r_0_3 hs) ?_
        refine j_iload_n dX6_blast_49 rfl ?_
        refine j_iload_n dX6_blast_50 rfl ?_
        refine j_cV2r dX6_blast_51 (t_blow (w := i) hs twn_14 (by rw [pPush_lo hx8 (by decide)]; exact hp) hp5 (by omega)) ml_X6_146 my_X5_blow mi_X5_blow (tO hs twn_14) rfl (by omega) (Nat.le_of_ble_eq_true rfl) (Nat.le_of_ble_eq_true rfl) ?_
        exact j_iret dX6_blast_54 (by simpa only [cBlast, ex, true_or, or_true, or_self, or_false, false_or, c5, ei, c15, c28, reduceIte, Bool.false_eq_true, Bool.true_eq_false, and_self, and_true, true_and, and_false, false_and, not_true_eq_false, not_false_eq_true, ne_eq, decide_true, decide_false, if_true, if_false, Bool.not_eq_true, Bool.not_eq_false] using hQ)
      · skip
        refine j_bipush (v := (-2)) dX6_blast_31 (by decide) ?_
        exact j_iret dX6_blast_33 (by simpa only [cBlast, ex, true_or, or_true, or_self, or_false, false_or, c5, ei, c15, c28, reduceIte, Bool.false_eq_true, Bool.true_eq_false, and_self, and_true, true_and, and_false, false_and, not_true_eq_false, not_false_eq_true, ne_eq, decide_true, decide_false, if_true, if_false, Bool.not_eq_true, Bool.not_eq_false] using hQ)
    · skip
      refine j_iconst (v := (-1)) dX6_blast_18 (by decide) ?_
      exact j_iret dX6_blast_19 (by simpa only [cBlast, ex, true_or, or_true, or_self, or_false, false_or, c5, ei, c15, reduceIte, Bool.false_eq_true, Bool.true_eq_false, and_self, and_true, true_and, and_false, false_and, not_true_eq_false, not_false_eq_true, ne_eq, decide_true, decide_false, if_true, if_false, Bool.not_eq_true, Bool.not_eq_false] using hQ)

def cPassM (p n : Nat) (m : jMem) : jMem := it (fun _ s => tDay s 14 p) n 0 m
def cPass (μ : jMem) (p : Nat) (n : Int32) : Int32 × jMem := if xOut n 1 24 = true then (-1, μ) else (cPassM p n.toNatClampNeg (pPush μ (μ 26 1).toNatClampNeg 14) 14 7, cPassM p n.toNatClampNeg (pPush μ (μ 26 1).toNatClampNeg 14))
theorem tDay_lo {a : Nat} (ht : tw a) (p : Nat) (m : jMem) {k j : Nat} (hk : k < 14) : tDay m a p k j = m k j := by
  have := tw_ge ht
  unfold tDay
  rw [jup_oth (by omega)]
  exact it_lo (fun i m => tDayL_9 ht i m hk) p 0 m
theorem out_lh {x : Int32} {l h : Nat} (hh : h < 2 ^ 31) (hlh : l ≤ h) (z : xOut x (nI l) (nI h) = false) : ∃ k, l ≤ k ∧ k ≤ h ∧ x = nI k := by
  simp only [xOut, decide_eq_false_iff_not, not_or] at z
  obtain ⟨h1, h2⟩ := z
  have h1' := Int32.not_lt.mp h1
  have h2' := Int32.not_lt.mp h2
  rw [Int32.le_iff_toInt_le, nI_toInt (by omega)] at h1' h2'
  have h0 : ¬ x < 0 := by
    rw [Int32.lt_iff_toInt_lt]
    have : (0 : Int32).toInt = 0 := by decide
    omega
  obtain ⟨k, hk, rfl⟩ := nI_of h0
  rw [nI_toInt hk] at h1' h2'
  exact ⟨k, by omega, by omega, rfl⟩
set_option maxRecDepth 20000 in
theorem lp_pass {G : jG} {N : Nat} {κ : Nat → jK} {ρ : Nat → Nat → Option Nat} {ν : Nat → Nat → Int64} {Q : Option Value → jH → Prop} {d : Nat} (hd1 : 2 ≤ d) {p n : Nat} {μ : jMem} (hs : shC N κ ρ) (hp : μ 9 0 = nI p) (hp5 : p ≤ 5) (hn : n < 100) (K : J G RX6 cX6_pass 3 false d Q 0 0 (N, κ, ρ, (it (fun _ s => tDay s 14 p) n 0 μ), ν) 43 [some (.ref 0), some (.int (nI n)), some (.int (nI n))] []) : J G RX6 cX6_pass 3 false d Q 0 0 (N, κ, ρ, μ, ν) 25 [some (.ref 0), some (.int (nI n)), some (.int (nI 0))] [] := by
  refine it_loop (f := fun _ s => tDay s 14 p) (p := n) (fun i s => J G RX6 cX6_pass 3 false d Q 0 0 (N, κ, ρ, s, ν) 25 [some (.ref 0), some (.int (nI n)), some (.int (nI i))] []) (fun s => J G RX6 cX6_pass 3 false d Q 0 0 (N, κ, ρ, s, ν) 43 [some (.ref 0), some (.int (nI n)), some (.int (nI n))] []) (fun _ s => s 9 0 = nI p) ?_ ?_ (fun i s _ h => by rw [tDay_lo twn_14 p s (by decide)]; exact h) n 0 μ (by omega) hp K
  · intro s hI K
    replace hp := hI
    refine j_iload_n dX6_pass_25 rfl ?_
    refine j_iload_n dX6_pass_26 rfl ?_
    refine k_icmp_ge (tgt := 43) dX6_pass_27 (by decide) (fun c27 c27' => ?_) (fun c27 c27' => ?_)
    · skip
      exact K
    · skip
      exact absurd (Int32.le_refl _) c27
  · intro i s hi hI K
    (try dsimp only at K)
    replace hp := hI
    refine j_iload_n dX6_pass_25 rfl ?_
    refine j_iload_n dX6_pass_26 rfl ?_
    refine k_icmp_ge (tgt := 43) dX6_pass_27 (by decide) (fun c27 c27' => ?_) (fun c27 c27' => ?_)
    · skip
      exact absurd c27 (nI_ge hi (by omega))
    · skip
      refine j_aload_n dX6_pass_30 rfl ?_
      refine j_getr dX6_pass_31 fl_X6_31 rfl (o_0 hs) (r_0_3 hs) ?_
      refine j_cV0v dX6_pass_34 (t_day hs twn_14 hp hp5) ml_X6_149 my_X5_dayGoesBy mi_X5_dayGoesBy (tO hs twn_14) rfl (by omega) (Nat.le_of_ble_eq_true rfl) (Nat.le_of_ble_eq_true rfl) ?_
      refine j_iinc_2 (v := nI (i + 1)) dX6_pass_37 (nI_add _ _) rfl ?_
      refine j_goto (tgt := 25) dX6_pass_40 (by decide) ?_
      (try simp only [c27, c27', reduceIte, Bool.false_eq_true, Bool.true_eq_false, and_self, and_true, true_and, and_false, false_and, not_true_eq_false, not_false_eq_true, ne_eq, decide_true, decide_false, if_true, if_false, Bool.not_eq_true, Bool.not_eq_false] at K)
      exact K

set_option maxRecDepth 20000 in
theorem t_pass {G : jG} {N : Nat} {κ : Nat → jK} {ρ : Nat → Nat → Option Nat} {μ : Nat → Nat → Int32} {ν : Nat → Nat → Int64} (hs : shC N κ ρ) {p : Nat} (hp : μ 9 0 = nI p) (hp5 : p ≤ 5) {x : Nat} (hx : μ 26 1 = nI x) (hx8 : x < 8) {n : Int32} : MT G yX6_pass cX6_pass 3 (some .int) 3 0 0 [.ref 0, .int n] (N, κ, ρ, μ, ν) (some (.int (cPass μ p n).1)) (N, κ, ρ, (cPass μ p n).2, ν) := by
  refine jMT (ini := false) my_X6_pass (fun h => by cases h) (jRv_i _) (Nat.le_of_ble_eq_true rfl) ?_
  show J G RX6 cX6_pass 3 false 3 _ 0 0 (N, κ, ρ, μ, ν) 0 [some (.ref 0), some (.int n), none] []
  generalize hQe : (fun (v' : Option Value) (h'' : jH) => v' = (some (.int (cPass μ p n).1)) ∧ h'' = (N, κ, ρ, (cPass μ p n).2, ν)) = Q
  have hQ : Q (some (.int (cPass μ p n).1)) (N, κ, ρ, (cPass μ p n).2, ν) := by rw [← hQe]; exact ⟨rfl, rfl⟩
  clear hQe
  have ex : (μ 26 1).toNatClampNeg = x := by rw [hx]; exact nI_clamp (by omega)
  refine j_iload_n dX6_pass_0 rfl ?_
  refine j_iconst (v := 1) dX6_pass_1 (by decide) ?_
  refine j_bipush (v := 24) dX6_pass_2 (by decide) ?_
  refine j_cS3r dX6_pass_4 t_out ml_X6_142 my_X6_isOutside ms_X6_isOutside (by omega) (Nat.le_of_ble_eq_true rfl) (Nat.le_of_ble_eq_true rfl) ?_
  refine j_if_eqB (tgt := 12) dX6_pass_7 (by decide) (fun c7 => ?_) (fun c7 => ?_)
  · skip
    obtain ⟨k, hk1, hk2, rfl⟩ := out_lh (l := 1) (h := 24) (by decide) (by decide) c7
    have ek : (nI k).toNatClampNeg = k := nI_clamp (by omega)
    refine j_aload_n dX6_pass_12 rfl ?_
    refine j_getr dX6_pass_13 fl_X6_41 rfl (o_0 hs) (r_0_5 hs) ?_
    refine j_aload_n dX6_pass_16 rfl ?_
    refine j_getr dX6_pass_17 fl_X6_31 rfl (o_0 hs) (r_0_3 hs) ?_
    refine j_cV1v dX6_pass_20 (t_push hs hx hx8 twn_14) ml_X6_134 my_X2_push mi_X2_push (o_26 hs) rfl (by omega) (Nat.le_of_ble_eq_true rfl) (Nat.le_of_ble_eq_true rfl) ?_
    refine j_iconst (v := 0) dX6_pass_23 (by decide) ?_
    refine j_istore_2 dX6_pass_24 rfl ?_
    refine lp_pass (by omega) hs (by rw [pPush_lo hx8 (by decide)]; exact hp) hp5 (by omega) ?_
    refine j_aload_n dX6_pass_43 rfl ?_
    refine j_getr dX6_pass_44 fl_X6_31 rfl (o_0 hs) (r_0_3 hs) ?_
    refine j_geti dX6_pass_47 fl_X6_152 rfl (tO hs twn_14) ?_
    exact j_iret dX6_pass_50 (by simpa only [cPass, cPassM, ex, c7, ek, reduceIte, Bool.false_eq_true, Bool.true_eq_false, and_self, and_true, true_and, and_false, false_and, not_true_eq_false, not_false_eq_true, ne_eq, decide_true, decide_false, if_true, if_false, Bool.not_eq_true, Bool.not_eq_false] using hQ)
  · skip
    refine j_iconst (v := (-1)) dX6_pass_10 (by decide) ?_
    exact j_iret dX6_pass_11 (by simpa only [cPass, cPassM, ex, c7, reduceIte, Bool.false_eq_true, Bool.true_eq_false, and_self, and_true, true_and, and_false, false_and, not_true_eq_false, not_false_eq_true, ne_eq, decide_true, decide_false, if_true, if_false, Bool.not_eq_true, Bool.not_eq_false] using hQ)

def cProp (μ : jMem) (x y s : Int32) : Int32 × jMem := if xNP μ x y = true ∨ xOut s 0 40 = true then (-1, μ) else if tHeld μ 14 x.toNatClampNeg y.toNatClampNeg = s then (-2, μ)
  else (tHeld μ 14 x.toNatClampNeg y.toNatClampNeg, tSet (pPush μ (μ 26 1).toNatClampNeg 14) 14 x.toNatClampNeg y.toNatClampNeg s)
set_option maxRecDepth 20000 in
theorem t_prop {G : jG} {N : Nat} {κ : Nat → jK} {ρ : Nat → Nat → Option Nat} {μ : Nat → Nat → Int32} {ν : Nat → Nat → Int64} (hs : shC N κ ρ) {p : Nat} (hp : μ 9 0 = nI p) (hp5 : p ≤ 5) {z : Nat} (hx : μ 26 1 = nI z) (hx8 : z < 8) {x y s : Int32} : MT G yX6_prop cX6_prop 5 (some .int) 3 0 0 [.ref 0, .int x, .int y, .int s] (N, κ, ρ, μ, ν) (some (.int (cProp μ x y s).1)) (N, κ, ρ, (cProp μ x y s).2, ν) := by
  refine jMT (ini := false) my_X6_prop (fun h => by cases h) (jRv_i _) (Nat.le_of_ble_eq_true rfl) ?_
  show J G RX6 cX6_prop 5 false 3 _ 0 0 (N, κ, ρ, μ, ν) 0 [some (.ref 0), some (.int x), some (.int y), some (.int s), none] []
  generalize hQe : (fun (v' : Option Value) (h'' : jH) => v' = (some (.int (cProp μ x y s).1)) ∧ h'' = (N, κ, ρ, (cProp μ x y s).2, ν)) = Q
  have hQ : Q (some (.int (cProp μ x y s).1)) (N, κ, ρ, (cProp μ x y s).2, ν) := by rw [← hQe]; exact ⟨rfl, rfl⟩
  clear hQe
  have ez : (μ 26 1).toNatClampNeg = z := by rw [hx]; exact nI_clamp (by omega)
  refine j_aload_n dX6_prop_0 rfl ?_
  refine j_iload_n dX6_prop_1 rfl ?_
  refine j_iload_n dX6_prop_2 rfl ?_
  refine j_cV2r dX6_prop_3 (t_np hs) ml_X6_126 my_X6_isNoPair mi_X6_isNoPair (o_0 hs) rfl (by omega) (Nat.le_of_ble_eq_true rfl) (Nat.le_of_ble_eq_true rfl) ?_
  refine j_if_neB (tgt := 19) dX6_prop_6 (by decide) (fun c6 => ?_) (fun c6 => ?_)
  · skip
    refine j_iconst (v := (-1)) dX6_prop_19 (by decide) ?_
    exact j_iret dX6_prop_20 (by simpa only [cProp, ez, true_or, or_true, or_self, or_false, false_or, c6, reduceIte, Bool.false_eq_true, Bool.true_eq_false, and_self, and_true, true_and, and_false, false_and, not_true_eq_false, not_false_eq_true, ne_eq, decide_true, decide_false, if_true, if_false, Bool.not_eq_true, Bool.not_eq_false] using hQ)
  · skip
    obtain ⟨i, j, hi, hj, hij, rfl, rfl⟩ := np_in hp hp5 c6
    have ei : (nI i).toNatClampNeg = i := nI_clamp (by omega)
    have ej : (nI j).toNatClampNeg = j := nI_clamp (by omega)
    refine j_iload_n dX6_prop_9 rfl ?_
    refine j_iconst (v := 0) dX6_prop_10 (by decide) ?_
    refine j_bipush (v := 40) dX6_prop_11 (by decide) ?_
    refine j_cS3r dX6_prop_13 t_out ml_X6_142 my_X6_isOutside ms_X6_isOutside (by omega) (Nat.le_of_ble_eq_true rfl) (Nat.le_of_ble_eq_true rfl) ?_
    refine j_if_eqB (tgt := 21) dX6_prop_16 (by decide) (fun c16 => ?_) (fun c16 => ?_)
    · skip
      refine j_aload_n dX6_prop_21 rfl ?_
      refine j_getr dX6_prop_22 fl_X6_31 rfl (o_0 hs) (r_0_3 hs) ?_
      refine j_iload_n dX6_prop_25 rfl ?_
      refine j_iload_n dX6_prop_26 rfl ?_
      refine j_cV2r dX6_prop_27 (t_heldBy (x := i) (y := j) hs twn_14 (by omega) (by omega)) ml_X6_130 my_X5_heldBy mi_X5_heldBy (tO hs twn_14) rfl (by omega) (Nat.le_of_ble_eq_true rfl) (Nat.le_of_ble_eq_true rfl) ?_
      refine j_istore_4 dX6_prop_30 rfl ?_
      refine j_iload dX6_prop_32 rfl ?_
      refine j_iload_n dX6_prop_34 rfl ?_
      refine j_icmp_ne (tgt := 41) dX6_prop_35 (by decide) (fun c35 => ?_) (fun c35 => ?_)
      · skip
        refine j_aload_n dX6_prop_41 rfl ?_
        refine j_getr dX6_prop_42 fl_X6_41 rfl (o_0 hs) (r_0_5 hs) ?_
        refine j_aload_n dX6_prop_45 rfl ?_
        refine j_getr dX6_prop_46 fl_X6_31 rfl (o_0 hs) (r_0_3 hs) ?_
        refine j_cV1v dX6_prop_49 (t_push hs hx hx8 twn_14) ml_X6_134 my_X2_push mi_X2_push (o_26 hs) rfl (by omega) (Nat.le_of_ble_eq_true rfl) (Nat.le_of_ble_eq_true rfl) ?_
        refine j_aload_n dX6_prop_52 rfl ?_
        refine j_getr dX6_prop_53 fl_X6_31 rfl (o_0 hs) (r_0_3 hs) ?_
        refine j_iload_n dX6_prop_56 rfl ?_
        refine j_iload_n dX6_prop_57 rfl ?_
        refine j_iload_n dX6_prop_58 rfl ?_
        refine j_cV3v dX6_prop_59 (t_setProp (x := i) (y := j) hs twn_14 (by omega) (by omega)) ml_X6_155 my_X5_setProp mi_X5_setProp (tO hs twn_14) rfl (by omega) (Nat.le_of_ble_eq_true rfl) (Nat.le_of_ble_eq_true rfl) ?_
        refine j_iload dX6_prop_62 rfl ?_
        exact j_iret dX6_prop_64 (by simpa only [cProp, ez, true_or, or_true, or_self, or_false, false_or, c6, ei, ej, c16, c35, reduceIte, Bool.false_eq_true, Bool.true_eq_false, and_self, and_true, true_and, and_false, false_and, not_true_eq_false, not_false_eq_true, ne_eq, decide_true, decide_false, if_true, if_false, Bool.not_eq_true, Bool.not_eq_false] using hQ)
      · skip
        refine j_bipush (v := (-2)) dX6_prop_38 (by decide) ?_
        exact j_iret dX6_prop_40 (by simpa only [cProp, ez, true_or, or_true, or_self, or_false, false_or, c6, ei, ej, c16, eq_true c35, reduceIte, Bool.false_eq_true, Bool.true_eq_false, and_self, and_true, true_and, and_false, false_and, not_true_eq_false, not_false_eq_true, ne_eq, decide_true, decide_false, if_true, if_false, Bool.not_eq_true, Bool.not_eq_false] using hQ)
    · skip
      refine j_iconst (v := (-1)) dX6_prop_19 (by decide) ?_
      exact j_iret dX6_prop_20 (by simpa only [cProp, ez, true_or, or_true, or_self, or_false, false_or, c6, ei, ej, c16, reduceIte, Bool.false_eq_true, Bool.true_eq_false, and_self, and_true, true_and, and_false, false_and, not_true_eq_false, not_false_eq_true, ne_eq, decide_true, decide_false, if_true, if_false, Bool.not_eq_true, Bool.not_eq_false] using hQ)

def cUse (μ : jMem) (n : Int32) : Int32 × jMem := if xOut n 1 60 = true then (-1, μ) else if n ≤ μ 14 6 then
  (jup (pPush μ (μ 26 1).toNatClampNeg 14) 14 6 (pPush μ (μ 26 1).toNatClampNeg 14 14 6 - n) 14 6, jup (pPush μ (μ 26 1).toNatClampNeg 14) 14 6 (pPush μ (μ 26 1).toNatClampNeg 14 14 6 - n)) else (-2, μ)
set_option maxRecDepth 20000 in
theorem t_use {G : jG} {N : Nat} {κ : Nat → jK} {ρ : Nat → Nat → Option Nat} {μ : Nat → Nat → Int32} {ν : Nat → Nat → Int64} (hs : shC N κ ρ) {x : Nat} (hx : μ 26 1 = nI x) (hx8 : x < 8) {n : Int32} : MT G yX6_use cX6_use 2 (some .int) 3 0 0 [.ref 0, .int n] (N, κ, ρ, μ, ν) (some (.int (cUse μ n).1)) (N, κ, ρ, (cUse μ n).2, ν) := by
  refine jMT (ini := false) my_X6_use (fun h => by cases h) (jRv_i _) (Nat.le_of_ble_eq_true rfl) ?_
  show J G RX6 cX6_use 2 false 3 _ 0 0 (N, κ, ρ, μ, ν) 0 [some (.ref 0), some (.int n)] []
  generalize hQe : (fun (v' : Option Value) (h'' : jH) => v' = (some (.int (cUse μ n).1)) ∧ h'' = (N, κ, ρ, (cUse μ n).2, ν)) = Q
  have hQ : Q (some (.int (cUse μ n).1)) (N, κ, ρ, (cUse μ n).2, ν) := by rw [← hQe]; exact ⟨rfl, rfl⟩
  clear hQe
  have ex : (μ 26 1).toNatClampNeg = x := by rw [hx]; exact nI_clamp (by omega)
  refine j_iload_n dX6_use_0 rfl ?_
  refine j_iconst (v := 1) dX6_use_1 (by decide) ?_
  refine j_bipush (v := 60) dX6_use_2 (by decide) ?_
  refine j_cS3r dX6_use_4 t_out ml_X6_142 my_X6_isOutside ms_X6_isOutside (by omega) (Nat.le_of_ble_eq_true rfl) (Nat.le_of_ble_eq_true rfl) ?_
  refine j_if_eqB (tgt := 12) dX6_use_7 (by decide) (fun c7 => ?_) (fun c7 => ?_)
  · skip
    refine j_aload_n dX6_use_12 rfl ?_
    refine j_getr dX6_use_13 fl_X6_31 rfl (o_0 hs) (r_0_3 hs) ?_
    refine j_geti dX6_use_16 fl_X6_159 rfl (tO hs twn_14) ?_
    refine j_iload_n dX6_use_19 rfl ?_
    refine k_icmp_ge (tgt := 26) dX6_use_20 (by decide) (fun c20 c20' => ?_) (fun c20 c20' => ?_)
    · skip
      refine j_aload_n dX6_use_26 rfl ?_
      refine j_getr dX6_use_27 fl_X6_41 rfl (o_0 hs) (r_0_5 hs) ?_
      refine j_aload_n dX6_use_30 rfl ?_
      refine j_getr dX6_use_31 fl_X6_31 rfl (o_0 hs) (r_0_3 hs) ?_
      refine j_cV1v dX6_use_34 (t_push hs hx hx8 twn_14) ml_X6_134 my_X2_push mi_X2_push (o_26 hs) rfl (by omega) (Nat.le_of_ble_eq_true rfl) (Nat.le_of_ble_eq_true rfl) ?_
      refine j_aload_n dX6_use_37 rfl ?_
      refine j_getr dX6_use_38 fl_X6_31 rfl (o_0 hs) (r_0_3 hs) ?_
      refine j_dup dX6_use_41 rfl ?_
      refine j_geti dX6_use_42 fl_X6_159 rfl (tO hs twn_14) ?_
      refine j_iload_n dX6_use_45 rfl ?_
      refine j_isub dX6_use_46 ?_
      refine j_puti dX6_use_47 fl_X6_159 rfl (tO hs twn_14) ?_
      refine j_aload_n dX6_use_50 rfl ?_
      refine j_getr dX6_use_51 fl_X6_31 rfl (o_0 hs) (r_0_3 hs) ?_
      refine j_geti dX6_use_54 fl_X6_159 rfl (tO hs twn_14) ?_
      exact j_iret dX6_use_57 (by simpa only [cUse, ex, c7, c20, c20', reduceIte, Bool.false_eq_true, Bool.true_eq_false, and_self, and_true, true_and, and_false, false_and, not_true_eq_false, not_false_eq_true, ne_eq, decide_true, decide_false, if_true, if_false, Bool.not_eq_true, Bool.not_eq_false] using hQ)
    · skip
      refine j_bipush (v := (-2)) dX6_use_23 (by decide) ?_
      exact j_iret dX6_use_25 (by simpa only [cUse, ex, c7, c20, c20', reduceIte, Bool.false_eq_true, Bool.true_eq_false, and_self, and_true, true_and, and_false, false_and, not_true_eq_false, not_false_eq_true, ne_eq, decide_true, decide_false, if_true, if_false, Bool.not_eq_true, Bool.not_eq_false] using hQ)
  · skip
    refine j_iconst (v := (-1)) dX6_use_10 (by decide) ?_
    exact j_iret dX6_use_11 (by simpa only [cUse, ex, c7, reduceIte, Bool.false_eq_true, Bool.true_eq_false, and_self, and_true, true_and, and_false, false_and, not_true_eq_false, not_false_eq_true, ne_eq, decide_true, decide_false, if_true, if_false, Bool.not_eq_true, Bool.not_eq_false] using hQ)

def cUndo (μ : jMem) : Int32 × jMem := if 1 ≤ μ 26 2 then (pPop μ (μ 26 1).toNatClampNeg 14 26 2, pPop μ (μ 26 1).toNatClampNeg 14) else (-2, μ)
set_option maxRecDepth 20000 in
theorem t_undo {G : jG} {N : Nat} {κ : Nat → jK} {ρ : Nat → Nat → Option Nat} {μ : Nat → Nat → Int32} {ν : Nat → Nat → Int64} (hs : shC N κ ρ) {x : Nat} (hx : μ 26 1 = nI x) (hx8 : x < 8) : MT G yX6_undo cX6_undo 1 (some .int) 3 0 0 [.ref 0] (N, κ, ρ, μ, ν) (some (.int (cUndo μ).1)) (N, κ, ρ, (cUndo μ).2, ν) := by
  refine jMT (ini := false) my_X6_undo (fun h => by cases h) (jRv_i _) (Nat.le_of_ble_eq_true rfl) ?_
  show J G RX6 cX6_undo 1 false 3 _ 0 0 (N, κ, ρ, μ, ν) 0 [some (.ref 0)] []
  generalize hQe : (fun (v' : Option Value) (h'' : jH) => v' = (some (.int (cUndo μ).1)) ∧ h'' = (N, κ, ρ, (cUndo μ).2, ν)) = Q
  have hQ : Q (some (.int (cUndo μ).1)) (N, κ, ρ, (cUndo μ).2, ν) := by rw [← hQe]; exact ⟨rfl, rfl⟩
  clear hQe
  have ex : (μ 26 1).toNatClampNeg = x := by rw [hx]; exact nI_clamp (by omega)
  refine j_aload_n dX6_undo_0 rfl ?_
  refine j_getr dX6_undo_1 fl_X6_41 rfl (o_0 hs) (r_0_5 hs) ?_
  refine j_aload_n dX6_undo_4 rfl ?_
  refine j_getr dX6_undo_5 fl_X6_31 rfl (o_0 hs) (r_0_3 hs) ?_
  refine j_cV1r dX6_undo_8 (t_pop hs hx hx8 twn_14) ml_X6_162 my_X2_pop mi_X2_pop (o_26 hs) rfl (by omega) (Nat.le_of_ble_eq_true rfl) (Nat.le_of_ble_eq_true rfl) ?_
  refine j_if_eqB (tgt := 24) dX6_undo_11 (by decide) (fun c11 => ?_) (fun c11 => ?_)
  · skip
    refine j_bipush (v := (-2)) dX6_undo_24 (by decide) ?_
    exact j_iret dX6_undo_26 (by simp only [decide_eq_true_eq, decide_eq_false_iff_not] at c11; simpa only [cUndo, ex, c11, reduceIte, Bool.false_eq_true, Bool.true_eq_false, and_self, and_true, true_and, and_false, false_and, not_true_eq_false, not_false_eq_true, ne_eq, decide_true, decide_false, if_true, if_false, Bool.not_eq_true, Bool.not_eq_false] using hQ)
  · skip
    refine j_aload_n dX6_undo_14 rfl ?_
    refine j_getr dX6_undo_15 fl_X6_41 rfl (o_0 hs) (r_0_5 hs) ?_
    refine j_geti dX6_undo_18 fl_X6_95 rfl (o_26 hs) ?_
    refine j_goto (tgt := 26) dX6_undo_21 (by decide) ?_
    exact j_iret dX6_undo_26 (by simp only [decide_eq_true_eq, decide_eq_false_iff_not] at c11; simpa only [cUndo, ex, c11, reduceIte, Bool.false_eq_true, Bool.true_eq_false, and_self, and_true, true_and, and_false, false_and, not_true_eq_false, not_false_eq_true, ne_eq, decide_true, decide_false, if_true, if_false, Bool.not_eq_true, Bool.not_eq_false] using hQ)

def cCalls (μ : jMem) (w : Int32) : Int32 × jMem := if xNW μ w = true then (-1, μ) else if tSt μ 14 w.toNatClampNeg = true then (tFew μ 14 w.toNatClampNeg, μ) else (-2, μ)
set_option maxRecDepth 20000 in
theorem t_calls {G : jG} {N : Nat} {κ : Nat → jK} {ρ : Nat → Nat → Option Nat} {μ : Nat → Nat → Int32} {ν : Nat → Nat → Int64} (hs : shC N κ ρ) {p : Nat} (hp : μ 9 0 = nI p) (hp5 : p ≤ 5) {w : Int32} : MT G yX6_calls cX6_calls 2 (some .int) 2 0 0 [.ref 0, .int w] (N, κ, ρ, μ, ν) (some (.int (cCalls μ w).1)) (N, κ, ρ, (cCalls μ w).2, ν) := by
  refine jMT (ini := false) my_X6_calls (fun h => by cases h) (jRv_i _) (Nat.le_of_ble_eq_true rfl) ?_
  show J G RX6 cX6_calls 2 false 2 _ 0 0 (N, κ, ρ, μ, ν) 0 [some (.ref 0), some (.int w)] []
  generalize hQe : (fun (v' : Option Value) (h'' : jH) => v' = (some (.int (cCalls μ w).1)) ∧ h'' = (N, κ, ρ, (cCalls μ w).2, ν)) = Q
  have hQ : Q (some (.int (cCalls μ w).1)) (N, κ, ρ, (cCalls μ w).2, ν) := by rw [← hQe]; exact ⟨rfl, rfl⟩
  clear hQe
  refine j_aload_n dX6_calls_0 rfl ?_
  refine j_iload_n dX6_calls_1 rfl ?_
  refine j_cV1r dX6_calls_2 (t_nw hs) ml_X6_99 my_X6_isNoWall mi_X6_isNoWall (o_0 hs) rfl (by omega) (Nat.le_of_ble_eq_true rfl) (Nat.le_of_ble_eq_true rfl) ?_
  refine j_if_eqB (tgt := 10) dX6_calls_5 (by decide) (fun c5 => ?_) (fun c5 => ?_)
  · skip
    obtain ⟨i, hi, rfl⟩ := out_in hp hp5 c5
    have ei : (nI i).toNatClampNeg = i := nI_clamp (by omega)
    refine j_aload_n dX6_calls_10 rfl ?_
    refine j_getr dX6_calls_11 fl_X6_31 rfl (o_0 hs) (r_0_3 hs) ?_
    refine j_iload_n dX6_calls_14 rfl ?_
    refine j_cV1r dX6_calls_15 (t_stands (w := i) hs twn_14 (by omega)) ml_X6_114 my_X5_stands mi_X5_stands (tO hs twn_14) rfl (by omega) (Nat.le_of_ble_eq_true rfl) (Nat.le_of_ble_eq_true rfl) ?_
    refine j_if_neB (tgt := 24) dX6_calls_18 (by decide) (fun c18 => ?_) (fun c18 => ?_)
    · skip
      refine j_aload_n dX6_calls_24 rfl ?_
      refine j_getr dX6_calls_25 fl_X6_31 rfl (o_0 hs) (r_0_3 hs) ?_
      refine j_iload_n dX6_calls_28 rfl ?_
      refine j_cV1r dX6_calls_29 (t_few (w := i) hs twn_14 (by omega)) ml_X6_166 my_X5_fewestTrumpets mi_X5_fewestTrumpets (tO hs twn_14) rfl (by omega) (Nat.le_of_ble_eq_true rfl) (Nat.le_of_ble_eq_true rfl) ?_
      exact j_iret dX6_calls_32 (by simpa only [cCalls, c5, ei, c18, reduceIte, Bool.false_eq_true, Bool.true_eq_false, and_self, and_true, true_and, and_false, false_and, not_true_eq_false, not_false_eq_true, ne_eq, decide_true, decide_false, if_true, if_false, Bool.not_eq_true, Bool.not_eq_false] using hQ)
    · skip
      refine j_bipush (v := (-2)) dX6_calls_21 (by decide) ?_
      exact j_iret dX6_calls_23 (by simpa only [cCalls, c5, ei, c18, reduceIte, Bool.false_eq_true, Bool.true_eq_false, and_self, and_true, true_and, and_false, false_and, not_true_eq_false, not_false_eq_true, ne_eq, decide_true, decide_false, if_true, if_false, Bool.not_eq_true, Bool.not_eq_false] using hQ)
  · skip
    refine j_iconst (v := (-1)) dX6_calls_8 (by decide) ?_
    exact j_iret dX6_calls_9 (by simpa only [cCalls, c5, reduceIte, Bool.false_eq_true, Bool.true_eq_false, and_self, and_true, true_and, and_false, false_and, not_true_eq_false, not_false_eq_true, ne_eq, decide_true, decide_false, if_true, if_false, Bool.not_eq_true, Bool.not_eq_false] using hQ)

def cRdsL (w : Nat) (n : Int32) : Nat → Nat → jMem → Int32 × jMem
  | 0, _, m => (-4, m)
  | k + 1, i, m => if tWF m 20 w n = true ∧ tLI m 20 w = true then (nI i, m) else cRdsL w n k (i + 1) (tGo m 20 w)
def cRounds (μ : jMem) (w n : Int32) : Int32 × jMem := if xNW μ w = true ∨ xOut n 1 9 = true then (-1, μ) else if tSt μ 14 w.toNatClampNeg = true then cRdsL w.toNatClampNeg n 8 0 (tCp μ 20 14) else (-2, μ)
set_option maxRecDepth 20000 in
theorem lp_rds {G : jG} {N : Nat} {κ : Nat → jK} {ρ : Nat → Nat → Option Nat} {ν : Nat → Nat → Int64} {Q : Option Value → jH → Prop} {d : Nat} (hd1 : 2 ≤ d) {w : Nat} {n : Int32} (hs : shC N κ ρ) (hw : w < 5) : ∀ (k i : Nat) (m : jMem), i + k = 8 → Q (some (.int (cRdsL w n k i m).1)) (N, κ, ρ, (cRdsL w n k i m).2, ν) → J G RX6 cX6_rounds 4 false d Q 0 0 (N, κ, ρ, m, ν) 47 [some (.ref 0), some (.int (nI w)), some (.int n), some (.int (nI i))] []
  | 0, i, m, hi, hQ => by
    refine j_iload_n dX6_rounds_47 rfl ?_
    refine j_bipush (v := 7) dX6_rounds_48 (by decide) ?_
    refine k_icmp_gt (tgt := 92) dX6_rounds_50 (by decide) (fun c50 c50' => ?_) (fun c50 c50' => ?_)
    · skip
      refine j_bipush (v := (-4)) dX6_rounds_92 (by decide) ?_
      exact j_iret dX6_rounds_94 hQ
    · skip
      exact absurd (by rw [jl7]; exact nI_lt (by omega) (by omega)) c50
  | k + 1, i, m, hi, hQ => by
    rw [cRdsL] at hQ
    refine j_iload_n dX6_rounds_47 rfl ?_
    refine j_bipush (v := 7) dX6_rounds_48 (by decide) ?_
    refine k_icmp_gt (tgt := 92) dX6_rounds_50 (by decide) (fun c50 c50' => ?_) (fun c50 c50' => ?_)
    · skip
      exact absurd c50 (by rw [jl7]; exact nI_nlt (by omega) (by omega))
    · skip
      refine j_aload_n dX6_rounds_53 rfl ?_
      refine j_getr dX6_rounds_54 fl_X6_35 rfl (o_0 hs) (r_0_4 hs) ?_
      refine j_iload_n dX6_rounds_57 rfl ?_
      refine j_iload_n dX6_rounds_58 rfl ?_
      refine j_cV2r dX6_rounds_59 (t_wouldFall (w := w) hs twn_20 (by omega)) ml_X6_173 my_X5_wouldFall mi_X5_wouldFall (tO hs twn_20) rfl (by omega) (Nat.le_of_ble_eq_true rfl) (Nat.le_of_ble_eq_true rfl) ?_
      refine j_if_eqB (tgt := 78) dX6_rounds_62 (by decide) (fun c62 => ?_) (fun c62 => ?_)
      · skip
        rw [if_neg (by rw [c62]; simp)] at hQ
        refine j_aload_n dX6_rounds_78 rfl ?_
        refine j_getr dX6_rounds_79 fl_X6_35 rfl (o_0 hs) (r_0_4 hs) ?_
        refine j_iload_n dX6_rounds_82 rfl ?_
        refine j_cV1v dX6_rounds_83 (t_goRound (w := w) hs twn_20 (by omega)) ml_X6_138 my_X5_goRound mi_X5_goRound (tO hs twn_20) rfl (by omega) (Nat.le_of_ble_eq_true rfl) (Nat.le_of_ble_eq_true rfl) ?_
        refine j_iinc_3 (v := nI (i + 1)) dX6_rounds_86 (nI_add _ _) rfl ?_
        refine j_goto (tgt := 47) dX6_rounds_89 (by decide) ?_
        exact lp_rds hd1 hs hw k (i + 1) _ (by omega) hQ
      · skip
        refine j_aload_n dX6_rounds_65 rfl ?_
        refine j_getr dX6_rounds_66 fl_X6_35 rfl (o_0 hs) (r_0_4 hs) ?_
        refine j_iload_n dX6_rounds_69 rfl ?_
        refine j_cV1r dX6_rounds_70 (t_leansInward (w := w) hs twn_20 (by omega)) ml_X6_176 my_X5_leansInward mi_X5_leansInward (tO hs twn_20) rfl (by omega) (Nat.le_of_ble_eq_true rfl) (Nat.le_of_ble_eq_true rfl) ?_
        refine j_if_eqB (tgt := 78) dX6_rounds_73 (by decide) (fun c73 => ?_) (fun c73 => ?_)
        · skip
          rw [if_neg (by rw [c73]; simp)] at hQ
          refine j_aload_n dX6_rounds_78 rfl ?_
          refine j_getr dX6_rounds_79 fl_X6_35 rfl (o_0 hs) (r_0_4 hs) ?_
          refine j_iload_n dX6_rounds_82 rfl ?_
          refine j_cV1v dX6_rounds_83 (t_goRound (w := w) hs twn_20 (by omega)) ml_X6_138 my_X5_goRound mi_X5_goRound (tO hs twn_20) rfl (by omega) (Nat.le_of_ble_eq_true rfl) (Nat.le_of_ble_eq_true rfl) ?_
          refine j_iinc_3 (v := nI (i + 1)) dX6_rounds_86 (nI_add _ _) rfl ?_
          refine j_goto (tgt := 47) dX6_rounds_89 (by decide) ?_
          exact lp_rds hd1 hs hw k (i + 1) _ (by omega) hQ
        · skip
          rw [if_pos ⟨c62, c73⟩] at hQ
          refine j_iload_n dX6_rounds_76 rfl ?_
          exact j_iret dX6_rounds_77 hQ

set_option maxRecDepth 20000 in
theorem t_rounds {G : jG} {N : Nat} {κ : Nat → jK} {ρ : Nat → Nat → Option Nat} {μ : Nat → Nat → Int32} {ν : Nat → Nat → Int64} (hs : shC N κ ρ) {p : Nat} (hp : μ 9 0 = nI p) (hp5 : p ≤ 5) {w n : Int32} : MT G yX6_rounds cX6_rounds 4 (some .int) 2 0 0 [.ref 0, .int w, .int n] (N, κ, ρ, μ, ν) (some (.int (cRounds μ w n).1)) (N, κ, ρ, (cRounds μ w n).2, ν) := by
  refine jMT (ini := false) my_X6_rounds (fun h => by cases h) (jRv_i _) (Nat.le_of_ble_eq_true rfl) ?_
  show J G RX6 cX6_rounds 4 false 2 _ 0 0 (N, κ, ρ, μ, ν) 0 [some (.ref 0), some (.int w), some (.int n), none] []
  generalize hQe : (fun (v' : Option Value) (h'' : jH) => v' = (some (.int (cRounds μ w n).1)) ∧ h'' = (N, κ, ρ, (cRounds μ w n).2, ν)) = Q
  have hQ : Q (some (.int (cRounds μ w n).1)) (N, κ, ρ, (cRounds μ w n).2, ν) := by rw [← hQe]; exact ⟨rfl, rfl⟩
  clear hQe
  refine j_aload_n dX6_rounds_0 rfl ?_
  refine j_iload_n dX6_rounds_1 rfl ?_
  refine j_cV1r dX6_rounds_2 (t_nw hs) ml_X6_99 my_X6_isNoWall mi_X6_isNoWall (o_0 hs) rfl (by omega) (Nat.le_of_ble_eq_true rfl) (Nat.le_of_ble_eq_true rfl) ?_
  refine j_if_neB (tgt := 18) dX6_rounds_5 (by decide) (fun c5 => ?_) (fun c5 => ?_)
  · skip
    refine j_iconst (v := (-1)) dX6_rounds_18 (by decide) ?_
    exact j_iret dX6_rounds_19 (by simpa only [cRounds, true_or, or_true, or_self, or_false, false_or, c5, reduceIte, Bool.false_eq_true, Bool.true_eq_false, and_self, and_true, true_and, and_false, false_and, not_true_eq_false, not_false_eq_true, ne_eq, decide_true, decide_false, if_true, if_false, Bool.not_eq_true, Bool.not_eq_false] using hQ)
  · skip
    obtain ⟨i, hi, rfl⟩ := out_in hp hp5 c5
    have ei : (nI i).toNatClampNeg = i := nI_clamp (by omega)
    refine j_iload_n dX6_rounds_8 rfl ?_
    refine j_iconst (v := 1) dX6_rounds_9 (by decide) ?_
    refine j_bipush (v := 9) dX6_rounds_10 (by decide) ?_
    refine j_cS3r dX6_rounds_12 t_out ml_X6_142 my_X6_isOutside ms_X6_isOutside (by omega) (Nat.le_of_ble_eq_true rfl) (Nat.le_of_ble_eq_true rfl) ?_
    refine j_if_eqB (tgt := 20) dX6_rounds_15 (by decide) (fun c15 => ?_) (fun c15 => ?_)
    · skip
      refine j_aload_n dX6_rounds_20 rfl ?_
      refine j_getr dX6_rounds_21 fl_X6_31 rfl (o_0 hs) (r_0_3 hs) ?_
      refine j_iload_n dX6_rounds_24 rfl ?_
      refine j_cV1r dX6_rounds_25 (t_stands (w := i) hs twn_14 (by omega)) ml_X6_114 my_X5_stands mi_X5_stands (tO hs twn_14) rfl (by omega) (Nat.le_of_ble_eq_true rfl) (Nat.le_of_ble_eq_true rfl) ?_
      refine j_if_neB (tgt := 34) dX6_rounds_28 (by decide) (fun c28 => ?_) (fun c28 => ?_)
      · skip
        refine j_aload_n dX6_rounds_34 rfl ?_
        refine j_getr dX6_rounds_35 fl_X6_35 rfl (o_0 hs) (r_0_4 hs) ?_
        refine j_aload_n dX6_rounds_38 rfl ?_
        refine j_getr dX6_rounds_39 fl_X6_31 rfl (o_0 hs) (r_0_3 hs) ?_
        refine j_cV1v dX6_rounds_42 (t_copyFrom hs twn_20 twn_14) ml_X6_170 my_X5_copyFrom mi_X5_copyFrom (tO hs twn_20) rfl (by omega) (Nat.le_of_ble_eq_true rfl) (Nat.le_of_ble_eq_true rfl) ?_
        refine j_iconst (v := 0) dX6_rounds_45 (by decide) ?_
        refine j_istore_3 dX6_rounds_46 rfl ?_
        exact lp_rds (by omega) hs (by omega) 8 0 _ rfl (by simpa only [cRounds, c5, ei, c15, c28, reduceIte, Bool.false_eq_true, Bool.true_eq_false, and_self, and_true, true_and, and_false, false_and, not_true_eq_false, not_false_eq_true, ne_eq, decide_true, decide_false, if_true, if_false, Bool.not_eq_true, Bool.not_eq_false, or_self, or_false, false_or] using hQ)
      · skip
        refine j_bipush (v := (-2)) dX6_rounds_31 (by decide) ?_
        exact j_iret dX6_rounds_33 (by simpa only [cRounds, true_or, or_true, or_self, or_false, false_or, c5, ei, c15, c28, reduceIte, Bool.false_eq_true, Bool.true_eq_false, and_self, and_true, true_and, and_false, false_and, not_true_eq_false, not_false_eq_true, ne_eq, decide_true, decide_false, if_true, if_false, Bool.not_eq_true, Bool.not_eq_false] using hQ)
    · skip
      refine j_iconst (v := (-1)) dX6_rounds_18 (by decide) ?_
      exact j_iret dX6_rounds_19 (by simpa only [cRounds, true_or, or_true, or_self, or_false, false_or, c5, ei, c15, reduceIte, Bool.false_eq_true, Bool.true_eq_false, and_self, and_true, true_and, and_false, false_and, not_true_eq_false, not_false_eq_true, ne_eq, decide_true, decide_false, if_true, if_false, Bool.not_eq_true, Bool.not_eq_false] using hQ)

