/-! PLAN: the draft (4) and the plan (9) -/
def pln (q : Nat) : Prop := q = 4 ∨ q = 9
theorem pl_4 : pln 4 := Or.inl rfl
theorem pl_9 : pln 9 := Or.inr rfl
section PL
variable {N : Nat} {κ : Nat → jK} {ρ : Nat → Nat → Option Nat} {q : Nat}
theorem pO (hs : shC N κ ρ) (hq : pln q) : jO N κ q 3 := by rcases hq with rfl | rfl; exact o_4 hs; exact o_9 hs
theorem pA1 (hs : shC N κ ρ) (hq : pln q) : jA N κ (q + 1) .int 5 := by rcases hq with rfl | rfl; exact a_5 hs; exact a_10 hs
theorem pA2 (hs : shC N κ ρ) (hq : pln q) : jA N κ (q + 2) .int 5 := by rcases hq with rfl | rfl; exact a_6 hs; exact a_11 hs
theorem pA3 (hs : shC N κ ρ) (hq : pln q) : jA N κ (q + 3) .int 5 := by rcases hq with rfl | rfl; exact a_7 hs; exact a_12 hs
theorem pA4 (hs : shC N κ ρ) (hq : pln q) : jA N κ (q + 4) .int 25 := by rcases hq with rfl | rfl; exact a_8 hs; exact a_13 hs
theorem pR2 (hs : shC N κ ρ) (hq : pln q) : ρ q 2 = some (q + 1) := by rcases hq with rfl | rfl; exact r_4_2 hs; exact r_9_2 hs
theorem pR3 (hs : shC N κ ρ) (hq : pln q) : ρ q 3 = some (q + 2) := by rcases hq with rfl | rfl; exact r_4_3 hs; exact r_9_3 hs
theorem pR4 (hs : shC N κ ρ) (hq : pln q) : ρ q 4 = some (q + 3) := by rcases hq with rfl | rfl; exact r_4_4 hs; exact r_9_4 hs
theorem pR5 (hs : shC N κ ρ) (hq : pln q) : ρ q 5 = some (q + 4) := by rcases hq with rfl | rfl; exact r_4_5 hs; exact r_9_5 hs
end PL
/-- how many persons a plan holds -/
def pS (m : jMem) (q : Nat) : Nat := (m q 0).toNatClampNeg
def pClr (μ : jMem) (q : Nat) : jMem :=
  let m := jup (jup μ q 0 0) q 1 0
  jrow m (q + 4) (fun j => if j < 25 then 0 else m (q + 4) j)
set_option maxRecDepth 20000 in
theorem t_clear {G : jG} {N : Nat} {κ : Nat → jK} {ρ : Nat → Nat → Option Nat} {μ : Nat → Nat → Int32} {ν : Nat → Nat → Int64} {q : Nat} (hs : shC N κ ρ) (hq : pln q) : MT G yX3_clear cX3_clear 1 none 1 0 0 [.ref q] (N, κ, ρ, μ, ν) none (N, κ, ρ, pClr μ q, ν) := by
  refine jMT (ini := false) my_X3_clear (fun h => by cases h) jRv_v (Nat.le_of_ble_eq_true rfl) ?_
  show J G RX3 cX3_clear 1 false 1 _ 0 0 (N, κ, ρ, μ, ν) 0 [some (.ref q)] []
  refine j_aload_n dX3_clear_0 rfl ?_
  refine j_iconst (v := 0) dX3_clear_1 (by decide) ?_
  refine j_puti dX3_clear_2 fl_X3_9 rfl (pO hs hq) ?_
  refine j_aload_n dX3_clear_5 rfl ?_
  refine j_iconst (v := 0) dX3_clear_6 (by decide) ?_
  refine j_puti dX3_clear_7 fl_X3_15 rfl (pO hs hq) ?_
  refine j_aload_n dX3_clear_10 rfl ?_
  refine j_getr dX3_clear_11 fl_X3_28 rfl (pO hs hq) (pR5 hs hq) ?_
  refine j_iconst (v := 0) dX3_clear_14 (by decide) ?_
  refine j_cS2v dX3_clear_15 (t_fill (pA4 hs hq)) ml_X3_31 my_J7_fill_53178 ms_J7_fill_53178 (by omega) (Nat.le_of_ble_eq_true rfl) (Nat.le_of_ble_eq_true rfl) ?_
  exact j_vret dX3_clear_18 ⟨rfl, rfl⟩

def pWB (μ : jMem) (q : Nat) (k t l : Int32) : Bool := decide (μ q 0 < 5) && !(xOut k 0 3) && !(xOut t 1 60) && !(xOut l 0 7)
def pWM (μ : jMem) (q : Nat) (k t l : Int32) : jMem :=
  let m := jup (jup (jup μ (q + 1) (pS μ q) k) (q + 2) (pS μ q) t) (q + 3) (pS μ q) l
  jup m q 0 (m q 0 + 1)
theorem lt5_of {m : Int32} {n : Nat} (e : m = nI n) (h : m < 5) (hn : n ≤ 5) : n < 5 := by
  subst e
  rw [jl5] at h
  exact (nI_ltI (by omega) (by omega)).mp h
set_option maxRecDepth 20000 in
theorem t_takeWall {G : jG} {N : Nat} {κ : Nat → jK} {ρ : Nat → Nat → Option Nat} {μ : Nat → Nat → Int32} {ν : Nat → Nat → Int64} {q : Nat} (hs : shC N κ ρ) (hq : pln q) (hps : μ q 0 = nI (pS μ q)) (hps5 : pS μ q ≤ 5) {k t l : Int32} : MT G yX3_takeWall cX3_takeWall 4 (some .boolean) 1 0 0 [.ref q, .int k, .int t, .int l] (N, κ, ρ, μ, ν) (some (.int (jb (pWB μ q k t l)))) (N, κ, ρ, (if pWB μ q k t l = true then pWM μ q k t l else μ), ν) := by
  refine jMT (ini := false) my_X3_takeWall (fun h => by cases h) (jRv_jb _) (Nat.le_of_ble_eq_true rfl) ?_
  show J G RX3 cX3_takeWall 4 false 1 _ 0 0 (N, κ, ρ, μ, ν) 0 [some (.ref q), some (.int k), some (.int t), some (.int l)] []
  refine j_aload_n dX3_takeWall_0 rfl ?_
  refine j_geti dX3_takeWall_1 fl_X3_9 rfl (pO hs hq) ?_
  refine j_iconst (v := 5) dX3_takeWall_4 (by decide) ?_
  refine k_icmp_lt (tgt := 10) dX3_takeWall_5 (by decide) (fun c5 c5' => ?_) (fun c5 c5' => ?_)
  · skip
    have hp4 : pS μ q < 5 := lt5_of hps c5 hps5
    refine j_iload_n dX3_takeWall_10 rfl ?_
    refine j_iconst (v := 0) dX3_takeWall_11 (by decide) ?_
    refine j_iconst (v := 3) dX3_takeWall_12 (by decide) ?_
    refine j_cSN3r dX3_takeWall_13 t_out (fun s hS => hS.2.2.2.2.1.2.2.2) my_X6_isOutside ms_X6_isOutside (by omega) (Nat.le_of_ble_eq_true rfl) (Nat.le_of_ble_eq_true rfl) ?_
    refine j_if_neB (tgt := 39) dX3_takeWall_16 (by decide) (fun c16 => ?_) (fun c16 => ?_)
    · skip
      refine j_iconst (v := 0) dX3_takeWall_39 (by decide) ?_
      exact j_iret dX3_takeWall_40 ⟨by simp [pWB, jb, c5, c5', c16], by simp only [pWB, c5, c5', c16, Bool.not_true, Bool.not_false, Bool.and_true, Bool.and_false, Bool.false_and, Bool.true_and, reduceIte, Bool.false_eq_true, Bool.true_eq_false, and_self, and_true, true_and, and_false, false_and, not_true_eq_false, not_false_eq_true, ne_eq, decide_true, decide_false, if_true, if_false, Bool.not_eq_true, Bool.not_eq_false]⟩
    · skip
      refine j_iload_n dX3_takeWall_19 rfl ?_
      refine j_iconst (v := 1) dX3_takeWall_20 (by decide) ?_
      refine j_bipush (v := 60) dX3_takeWall_21 (by decide) ?_
      refine j_cSN3r dX3_takeWall_23 t_out (fun s hS => hS.2.2.2.2.1.2.2.2) my_X6_isOutside ms_X6_isOutside (by omega) (Nat.le_of_ble_eq_true rfl) (Nat.le_of_ble_eq_true rfl) ?_
      refine j_if_neB (tgt := 39) dX3_takeWall_26 (by decide) (fun c26 => ?_) (fun c26 => ?_)
      · skip
        refine j_iconst (v := 0) dX3_takeWall_39 (by decide) ?_
        exact j_iret dX3_takeWall_40 ⟨by simp [pWB, jb, c5, c5', c16, c26], by simp only [pWB, c5, c5', c16, c26, Bool.not_true, Bool.not_false, Bool.and_true, Bool.and_false, Bool.false_and, Bool.true_and, reduceIte, Bool.false_eq_true, Bool.true_eq_false, and_self, and_true, true_and, and_false, false_and, not_true_eq_false, not_false_eq_true, ne_eq, decide_true, decide_false, if_true, if_false, Bool.not_eq_true, Bool.not_eq_false]⟩
      · skip
        refine j_iload_n dX3_takeWall_29 rfl ?_
        refine j_iconst (v := 0) dX3_takeWall_30 (by decide) ?_
        refine j_bipush (v := 7) dX3_takeWall_31 (by decide) ?_
        refine j_cSN3r dX3_takeWall_33 t_out (fun s hS => hS.2.2.2.2.1.2.2.2) my_X6_isOutside ms_X6_isOutside (by omega) (Nat.le_of_ble_eq_true rfl) (Nat.le_of_ble_eq_true rfl) ?_
        refine j_if_eqB (tgt := 41) dX3_takeWall_36 (by decide) (fun c36 => ?_) (fun c36 => ?_)
        · skip
          refine j_aload_n dX3_takeWall_41 rfl ?_
          refine j_getr dX3_takeWall_42 fl_X3_18 rfl (pO hs hq) (pR2 hs hq) ?_
          refine j_aload_n dX3_takeWall_45 rfl ?_
          refine j_geti dX3_takeWall_46 fl_X3_9 rfl (pO hs hq) ?_
          refine j_iload_n dX3_takeWall_49 rfl ?_
          refine j_iast (k := (pS μ q)) dX3_takeWall_50 (pA1 hs hq) hps hp4 ?_
          refine j_aload_n dX3_takeWall_51 rfl ?_
          refine j_getr dX3_takeWall_52 fl_X3_22 rfl (pO hs hq) (pR3 hs hq) ?_
          refine j_aload_n dX3_takeWall_55 rfl ?_
          refine j_geti dX3_takeWall_56 fl_X3_9 rfl (pO hs hq) ?_
          refine j_iload_n dX3_takeWall_59 rfl ?_
          refine j_iast (k := (pS μ q)) dX3_takeWall_60 (pA2 hs hq) (by simp [jup_at]; exact hps) hp4 ?_
          refine j_aload_n dX3_takeWall_61 rfl ?_
          refine j_getr dX3_takeWall_62 fl_X3_25 rfl (pO hs hq) (pR4 hs hq) ?_
          refine j_aload_n dX3_takeWall_65 rfl ?_
          refine j_geti dX3_takeWall_66 fl_X3_9 rfl (pO hs hq) ?_
          refine j_iload_n dX3_takeWall_69 rfl ?_
          refine j_iast (k := (pS μ q)) dX3_takeWall_70 (pA3 hs hq) (by simp [jup_at]; exact hps) hp4 ?_
          refine j_aload_n dX3_takeWall_71 rfl ?_
          refine j_dup dX3_takeWall_72 rfl ?_
          refine j_geti dX3_takeWall_73 fl_X3_9 rfl (pO hs hq) ?_
          refine j_iconst (v := 1) dX3_takeWall_76 (by decide) ?_
          refine j_iadd dX3_takeWall_77 ?_
          refine j_puti dX3_takeWall_78 fl_X3_9 rfl (pO hs hq) ?_
          refine j_iconst (v := 1) dX3_takeWall_81 (by decide) ?_
          exact j_iret dX3_takeWall_82 ⟨by simp [pWB, jb, c5, c5', c16, c26, c36], by simp only [pWB, c5, c5', c16, c26, c36, Bool.not_true, Bool.not_false, Bool.and_true, Bool.and_false, Bool.false_and, Bool.true_and, reduceIte, Bool.false_eq_true, Bool.true_eq_false, and_self, and_true, true_and, and_false, false_and, not_true_eq_false, not_false_eq_true, ne_eq, decide_true, decide_false, if_true, if_false, Bool.not_eq_true, Bool.not_eq_false]; rfl⟩
        · skip
          refine j_iconst (v := 0) dX3_takeWall_39 (by decide) ?_
          exact j_iret dX3_takeWall_40 ⟨by simp [pWB, jb, c5, c5', c16, c26, c36], by simp only [pWB, c5, c5', c16, c26, c36, Bool.not_true, Bool.not_false, Bool.and_true, Bool.and_false, Bool.false_and, Bool.true_and, reduceIte, Bool.false_eq_true, Bool.true_eq_false, and_self, and_true, true_and, and_false, false_and, not_true_eq_false, not_false_eq_true, ne_eq, decide_true, decide_false, if_true, if_false, Bool.not_eq_true, Bool.not_eq_false]⟩
  · skip
    refine j_iconst (v := 0) dX3_takeWall_8 (by decide) ?_
    exact j_iret dX3_takeWall_9 ⟨by simp [pWB, jb, c5, c5'], by simp only [pWB, c5, c5', Bool.not_true, Bool.not_false, Bool.and_true, Bool.and_false, Bool.false_and, Bool.true_and, reduceIte, Bool.false_eq_true, Bool.true_eq_false, and_self, and_true, true_and, and_false, false_and, not_true_eq_false, not_false_eq_true, ne_eq, decide_true, decide_false, if_true, if_false, Bool.not_eq_true, Bool.not_eq_false]⟩

def pPB (μ : jMem) (q : Nat) (x y s : Int32) : Bool := !(xOut x 0 (μ q 0 - 1)) && !(xOut y 0 (μ q 0 - 1)) && !(decide (x = y)) && !(xOut s 1 40)
def pPM (μ : jMem) (q : Nat) (x y s : Int32) : jMem := jup μ (q + 4) (x * 5 + y).toNatClampNeg s
theorem out_in {x m : Int32} {p : Nat} (e : m = nI p) (hp : p ≤ 5) (h : xOut x 0 (m - 1) = false) : ∃ k, k < p ∧ x = nI k := by
  subst e
  simp only [xOut, decide_eq_false_iff_not, not_or] at h
  obtain ⟨h1, h2⟩ := h
  obtain ⟨k, hk, rfl⟩ := nI_of h1
  refine ⟨k, ?_, rfl⟩
  have e1 : (nI p - 1).toInt = (p : Int) - 1 := by rw [jl1]; exact pk_sub_toInt (by omega) (by omega)
  have e2 : (nI k).toInt = (k : Int) := nI_toInt hk
  have h3 := Int32.not_lt.mp h2
  rw [Int32.le_iff_toInt_le, e1, e2] at h3
  omega
theorem prop_ix {x y m : Int32} {p : Nat} (e : m = nI p) (hp : p ≤ 5) (hx : xOut x 0 (m - 1) = false) (hy : xOut y 0 (m - 1) = false) : x * 5 + y = nI (x * 5 + y).toNatClampNeg ∧ (x * 5 + y).toNatClampNeg < 25 := by
  obtain ⟨i, hi, rfl⟩ := out_in e hp hx
  obtain ⟨j, hj, rfl⟩ := out_in e hp hy
  have e2 : nI i * 5 + nI j = nI (i * 5 + j) := by simp only [jl5, nI_add, pk_mul]
  rw [e2, nI_clamp (by omega)]
  exact ⟨rfl, by omega⟩
set_option maxRecDepth 20000 in
theorem t_takeProp {G : jG} {N : Nat} {κ : Nat → jK} {ρ : Nat → Nat → Option Nat} {μ : Nat → Nat → Int32} {ν : Nat → Nat → Int64} {q : Nat} (hs : shC N κ ρ) (hq : pln q) (hps : μ q 0 = nI (pS μ q)) (hps5 : pS μ q ≤ 5) {x y s : Int32} : MT G yX3_takeProp cX3_takeProp 4 (some .boolean) 1 0 0 [.ref q, .int x, .int y, .int s] (N, κ, ρ, μ, ν) (some (.int (jb (pPB μ q x y s)))) (N, κ, ρ, (if pPB μ q x y s = true then pPM μ q x y s else μ), ν) := by
  refine jMT (ini := false) my_X3_takeProp (fun h => by cases h) (jRv_jb _) (Nat.le_of_ble_eq_true rfl) ?_
  show J G RX3 cX3_takeProp 4 false 1 _ 0 0 (N, κ, ρ, μ, ν) 0 [some (.ref q), some (.int x), some (.int y), some (.int s)] []
  refine j_iload_n dX3_takeProp_0 rfl ?_
  refine j_iconst (v := 0) dX3_takeProp_1 (by decide) ?_
  refine j_aload_n dX3_takeProp_2 rfl ?_
  refine j_geti dX3_takeProp_3 fl_X3_9 rfl (pO hs hq) ?_
  refine j_iconst (v := 1) dX3_takeProp_6 (by decide) ?_
  refine j_isub dX3_takeProp_7 ?_
  refine j_cSN3r dX3_takeProp_8 t_out (fun s hS => hS.2.2.2.2.1.2.2.2) my_X6_isOutside ms_X6_isOutside (by omega) (Nat.le_of_ble_eq_true rfl) (Nat.le_of_ble_eq_true rfl) ?_
  refine j_if_neB (tgt := 33) dX3_takeProp_11 (by decide) (fun c11 => ?_) (fun c11 => ?_)
  · skip
    refine j_iconst (v := 0) dX3_takeProp_33 (by decide) ?_
    exact j_iret dX3_takeProp_34 ⟨by simp [pPB, jb, c11], by simp only [pPB, c11, Bool.not_true, Bool.not_false, Bool.and_true, Bool.and_false, Bool.false_and, Bool.true_and, decide_true, decide_false, reduceIte, Bool.false_eq_true, Bool.true_eq_false, and_self, and_true, true_and, and_false, false_and, not_true_eq_false, not_false_eq_true, ne_eq, decide_true, decide_false, if_true, if_false, Bool.not_eq_true, Bool.not_eq_false]⟩
  · skip
    refine j_iload_n dX3_takeProp_14 rfl ?_
    refine j_iconst (v := 0) dX3_takeProp_15 (by decide) ?_
    refine j_aload_n dX3_takeProp_16 rfl ?_
    refine j_geti dX3_takeProp_17 fl_X3_9 rfl (pO hs hq) ?_
    refine j_iconst (v := 1) dX3_takeProp_20 (by decide) ?_
    refine j_isub dX3_takeProp_21 ?_
    refine j_cSN3r dX3_takeProp_22 t_out (fun s hS => hS.2.2.2.2.1.2.2.2) my_X6_isOutside ms_X6_isOutside (by omega) (Nat.le_of_ble_eq_true rfl) (Nat.le_of_ble_eq_true rfl) ?_
    refine j_if_neB (tgt := 33) dX3_takeProp_25 (by decide) (fun c25 => ?_) (fun c25 => ?_)
    · skip
      refine j_iconst (v := 0) dX3_takeProp_33 (by decide) ?_
      exact j_iret dX3_takeProp_34 ⟨by simp [pPB, jb, c11, c25], by simp only [pPB, c11, c25, Bool.not_true, Bool.not_false, Bool.and_true, Bool.and_false, Bool.false_and, Bool.true_and, decide_true, decide_false, reduceIte, Bool.false_eq_true, Bool.true_eq_false, and_self, and_true, true_and, and_false, false_and, not_true_eq_false, not_false_eq_true, ne_eq, decide_true, decide_false, if_true, if_false, Bool.not_eq_true, Bool.not_eq_false]⟩
    · skip
      refine j_iload_n dX3_takeProp_28 rfl ?_
      refine j_iload_n dX3_takeProp_29 rfl ?_
      refine j_icmp_ne (tgt := 35) dX3_takeProp_30 (by decide) (fun c30 => ?_) (fun c30 => ?_)
      · skip
        refine j_iload_n dX3_takeProp_35 rfl ?_
        refine j_iconst (v := 1) dX3_takeProp_36 (by decide) ?_
        refine j_bipush (v := 40) dX3_takeProp_37 (by decide) ?_
        refine j_cSN3r dX3_takeProp_39 t_out (fun s hS => hS.2.2.2.2.1.2.2.2) my_X6_isOutside ms_X6_isOutside (by omega) (Nat.le_of_ble_eq_true rfl) (Nat.le_of_ble_eq_true rfl) ?_
        refine j_if_eqB (tgt := 47) dX3_takeProp_42 (by decide) (fun c42 => ?_) (fun c42 => ?_)
        · skip
          refine j_aload_n dX3_takeProp_47 rfl ?_
          refine j_getr dX3_takeProp_48 fl_X3_28 rfl (pO hs hq) (pR5 hs hq) ?_
          refine j_iload_n dX3_takeProp_51 rfl ?_
          refine j_iconst (v := 5) dX3_takeProp_52 (by decide) ?_
          refine j_imul dX3_takeProp_53 ?_
          refine j_iload_n dX3_takeProp_54 rfl ?_
          refine j_iadd dX3_takeProp_55 ?_
          refine j_iload_n dX3_takeProp_56 rfl ?_
          refine j_iast (k := (x * 5 + y).toNatClampNeg) dX3_takeProp_57 (pA4 hs hq) (prop_ix hps hps5 c11 c25).1 (prop_ix hps hps5 c11 c25).2 ?_
          refine j_iconst (v := 1) dX3_takeProp_58 (by decide) ?_
          exact j_iret dX3_takeProp_59 ⟨by simp [pPB, jb, c11, c25, c30, c42], by simp only [pPB, c11, c25, c30, c42, Bool.not_true, Bool.not_false, Bool.and_true, Bool.and_false, Bool.false_and, Bool.true_and, decide_true, decide_false, reduceIte, Bool.false_eq_true, Bool.true_eq_false, and_self, and_true, true_and, and_false, false_and, not_true_eq_false, not_false_eq_true, ne_eq, decide_true, decide_false, if_true, if_false, Bool.not_eq_true, Bool.not_eq_false]; rfl⟩
        · skip
          refine j_iconst (v := 0) dX3_takeProp_45 (by decide) ?_
          exact j_iret dX3_takeProp_46 ⟨by simp [pPB, jb, c11, c25, c30, c42], by simp only [pPB, c11, c25, c30, c42, Bool.not_true, Bool.not_false, Bool.and_true, Bool.and_false, Bool.false_and, Bool.true_and, decide_true, decide_false, reduceIte, Bool.false_eq_true, Bool.true_eq_false, and_self, and_true, true_and, and_false, false_and, not_true_eq_false, not_false_eq_true, ne_eq, decide_true, decide_false, if_true, if_false, Bool.not_eq_true, Bool.not_eq_false]⟩
      · skip
        refine j_iconst (v := 0) dX3_takeProp_33 (by decide) ?_
        exact j_iret dX3_takeProp_34 ⟨by simp [pPB, jb, c11, c25, eq_true c30], by simp only [pPB, c11, c25, eq_true c30, Bool.not_true, Bool.not_false, Bool.and_true, Bool.and_false, Bool.false_and, Bool.true_and, decide_true, decide_false, reduceIte, Bool.false_eq_true, Bool.true_eq_false, and_self, and_true, true_and, and_false, false_and, not_true_eq_false, not_false_eq_true, ne_eq, decide_true, decide_false, if_true, if_false, Bool.not_eq_true, Bool.not_eq_false]⟩

def pTB (μ : jMem) (q : Nat) (c x y z : Int32) : Bool := if c = 119 then pWB μ q x y z else if c = 104 then pPB μ q x y z else !(xOut x 0 60)
def pTM (μ : jMem) (q : Nat) (c x y z : Int32) : jMem := if pTB μ q c x y z = true then (if c = 119 then pWM μ q x y z else if c = 104 then pPM μ q x y z else jup μ q 1 x) else μ
set_option maxRecDepth 20000 in
theorem t_take {G : jG} {N : Nat} {κ : Nat → jK} {ρ : Nat → Nat → Option Nat} {μ : Nat → Nat → Int32} {ν : Nat → Nat → Int64} {q : Nat} (hs : shC N κ ρ) (hq : pln q) (hps : μ q 0 = nI (pS μ q)) (hps5 : pS μ q ≤ 5) {c x y z : Int32} : MT G yX3_take cX3_take 5 (some .boolean) 2 0 0 [.ref q, .int c, .int x, .int y, .int z] (N, κ, ρ, μ, ν) (some (.int (jb (pTB μ q c x y z)))) (N, κ, ρ, pTM μ q c x y z, ν) := by
  refine jMT (ini := false) my_X3_take (fun h => by cases h) (jRv_jb _) (Nat.le_of_ble_eq_true rfl) ?_
  show J G RX3 cX3_take 5 false 2 _ 0 0 (N, κ, ρ, μ, ν) 0 [some (.ref q), some (.int c), some (.int x), some (.int y), some (.int z)] []
  refine j_iload_n dX3_take_0 rfl ?_
  refine j_bipush (v := 119) dX3_take_1 (by decide) ?_
  refine j_icmp_ne (tgt := 15) dX3_take_3 (by decide) (fun c3 => ?_) (fun c3 => ?_)
  · skip
    refine j_iload_n dX3_take_15 rfl ?_
    refine j_bipush (v := 104) dX3_take_16 (by decide) ?_
    refine j_icmp_ne (tgt := 30) dX3_take_18 (by decide) (fun c18 => ?_) (fun c18 => ?_)
    · skip
      refine j_iload_n dX3_take_30 rfl ?_
      refine j_iconst (v := 0) dX3_take_31 (by decide) ?_
      refine j_bipush (v := 60) dX3_take_32 (by decide) ?_
      refine j_cSN3r dX3_take_34 t_out (fun s hS => hS.2.2.2.2.1.2.2.2) my_X6_isOutside ms_X6_isOutside (by omega) (Nat.le_of_ble_eq_true rfl) (Nat.le_of_ble_eq_true rfl) ?_
      refine j_if_eqB (tgt := 42) dX3_take_37 (by decide) (fun c37 => ?_) (fun c37 => ?_)
      · skip
        refine j_aload_n dX3_take_42 rfl ?_
        refine j_iload_n dX3_take_43 rfl ?_
        refine j_puti dX3_take_44 fl_X3_15 rfl (pO hs hq) ?_
        refine j_iconst (v := 1) dX3_take_47 (by decide) ?_
        exact j_iret dX3_take_48 ⟨by simp [pTB, jb, c3, c18, c37], by simp [pTM, pTB, c3, c18, c37]⟩
      · skip
        refine j_iconst (v := 0) dX3_take_40 (by decide) ?_
        exact j_iret dX3_take_41 ⟨by simp [pTB, jb, c3, c18, c37], by simp [pTM, pTB, c3, c18, c37]⟩
    · skip
      refine j_aload_n dX3_take_21 rfl ?_
      refine j_iload_n dX3_take_22 rfl ?_
      refine j_iload_n dX3_take_23 rfl ?_
      refine j_iload dX3_take_24 rfl ?_
      refine j_cV3r dX3_take_26 (t_takeProp hs hq hps hps5) ml_X3_41 my_X3_takeProp mi_X3_takeProp (pO hs hq) rfl (by omega) (Nat.le_of_ble_eq_true rfl) (Nat.le_of_ble_eq_true rfl) ?_
      exact j_iret dX3_take_29 ⟨by simp [pTB, jb, c3, eq_true c18], by simp [pTM, pTB, c3, eq_true c18]⟩
  · skip
    refine j_aload_n dX3_take_6 rfl ?_
    refine j_iload_n dX3_take_7 rfl ?_
    refine j_iload_n dX3_take_8 rfl ?_
    refine j_iload dX3_take_9 rfl ?_
    refine j_cV3r dX3_take_11 (t_takeWall hs hq hps hps5) ml_X3_37 my_X3_takeWall mi_X3_takeWall (pO hs hq) rfl (by omega) (Nat.le_of_ble_eq_true rfl) (Nat.le_of_ble_eq_true rfl) ?_
    exact j_iret dX3_take_14 ⟨by simp [pTB, jb, eq_true c3], by simp [pTM, pTB, eq_true c3]⟩

/-! TEXT (1): letters 2, numbers 3 -/
def xOK (m : jMem) (tl : Nat) : Prop := m 1 2 = nI tl ∧ tl ≤ 200 ∧ ∀ k, narrow .char (.int (m 2 k)) = .int (m 2 k)
theorem jRv_c {x : Int32} (h : narrow .char (.int x) = .int x) : jRv (some .char) (some (.int x)) := Or.inr (Or.inr ⟨.char, x, rfl, rfl, h⟩)
def xLt (m : jMem) (k : Nat) : Int32 := if nI k < m 1 2 then m 2 k else 0
theorem xLt_c {m : jMem} {tl : Nat} (h : xOK m tl) (k : Nat) : narrow .char (.int (xLt m k)) = .int (xLt m k) := by
  unfold xLt
  split
  · exact h.2.2 k
  · decide
theorem lt_of_nI {k n : Nat} {x : Int32} (e : x = nI n) (h : nI k < x) (hk : k < 2 ^ 31) (hn : n < 2 ^ 31) : k < n := by
  subst e
  exact (nI_ltI hk hn).mp h
set_option maxRecDepth 20000 in
theorem t_letterAt {G : jG} {N : Nat} {κ : Nat → jK} {ρ : Nat → Nat → Option Nat} {μ : Nat → Nat → Int32} {ν : Nat → Nat → Int64} (hs : shC N κ ρ) {tl k : Nat} (hx : xOK μ tl) (hk : k < 2147483640) : MT G yX4_letterAt cX4_letterAt 2 (some .char) 0 0 0 [.ref 1, .int (nI k)] (N, κ, ρ, μ, ν) (some (.int (xLt μ k))) (N, κ, ρ, μ, ν) := by
  refine jMT (ini := false) my_X4_letterAt (fun h => by cases h) (jRv_c (xLt_c hx k)) (Nat.le_of_ble_eq_true rfl) ?_
  show J G RX4 cX4_letterAt 2 false 0 _ 0 0 (N, κ, ρ, μ, ν) 0 [some (.ref 1), some (.int (nI k))] []
  refine j_iload_n dX4_letterAt_0 rfl ?_
  refine k_if_lt (tgt := 21) dX4_letterAt_1 (by decide) (fun c1 c1' => ?_) (fun c1 c1' => ?_)
  · skip
    exact absurd c1 (nI_pos (by omega))
  · skip
    refine j_iload_n dX4_letterAt_4 rfl ?_
    refine j_aload_n dX4_letterAt_5 rfl ?_
    refine j_geti dX4_letterAt_6 fl_X4_19 rfl (o_1 hs) ?_
    refine k_icmp_ge (tgt := 21) dX4_letterAt_9 (by decide) (fun c9 c9' => ?_) (fun c9 c9' => ?_)
    · skip
      refine j_iconst (v := 0) dX4_letterAt_21 (by decide) ?_
      exact j_iret dX4_letterAt_22 ⟨by simp only [xLt, c9, c9', reduceIte], rfl⟩
    · skip
      refine j_aload_n dX4_letterAt_12 rfl ?_
      refine j_getr dX4_letterAt_13 fl_X4_9 rfl (o_1 hs) (r_1_0 hs) ?_
      refine j_iload_n dX4_letterAt_16 rfl ?_
      refine j_cald (k := k) dX4_letterAt_17 (a_2 hs) rfl (Nat.lt_of_lt_of_le (lt_of_nI hx.1 c9' (by omega) (by have := hx.2.1; omega)) hx.2.1) ?_
      refine j_goto (tgt := 22) dX4_letterAt_18 (by decide) ?_
      exact j_iret dX4_letterAt_22 ⟨by simp only [xLt, c9, c9', reduceIte], rfl⟩

def xFg (m : jMem) (k : Nat) : Bool := decide (48 ≤ xLt m k ∧ xLt m k ≤ 57)
set_option maxRecDepth 20000 in
theorem t_isFigure {G : jG} {N : Nat} {κ : Nat → jK} {ρ : Nat → Nat → Option Nat} {μ : Nat → Nat → Int32} {ν : Nat → Nat → Int64} (hs : shC N κ ρ) {tl k : Nat} (hx : xOK μ tl) (hk : k < 2147483630) : MT G yX4_isFigure cX4_isFigure 2 (some .boolean) 1 0 0 [.ref 1, .int (nI k)] (N, κ, ρ, μ, ν) (some (.int (jb (xFg μ k)))) (N, κ, ρ, μ, ν) := by
  refine jMT (ini := false) my_X4_isFigure (fun h => by cases h) (jRv_jb _) (Nat.le_of_ble_eq_true rfl) ?_
  show J G RX4 cX4_isFigure 2 false 1 _ 0 0 (N, κ, ρ, μ, ν) 0 [some (.ref 1), some (.int (nI k))] []
  refine j_aload_n dX4_isFigure_0 rfl ?_
  refine j_iload_n dX4_isFigure_1 rfl ?_
  refine j_cV1r dX4_isFigure_2 (t_letterAt (k := k) hs hx (by omega)) ml_X4_32 my_X4_letterAt mi_X4_letterAt (o_1 hs) rfl (by omega) (Nat.le_of_ble_eq_true rfl) (Nat.le_of_ble_eq_true rfl) ?_
  refine j_bipush (v := 48) dX4_isFigure_5 (by decide) ?_
  refine k_icmp_lt (tgt := 24) dX4_isFigure_7 (by decide) (fun c7 c7' => ?_) (fun c7 c7' => ?_)
  · skip
    refine j_iconst (v := 0) dX4_isFigure_24 (by decide) ?_
    exact j_iret dX4_isFigure_25 ⟨by simp [xFg, jb, c7, c7'], rfl⟩
  · skip
    refine j_aload_n dX4_isFigure_10 rfl ?_
    refine j_iload_n dX4_isFigure_11 rfl ?_
    refine j_cV1r dX4_isFigure_12 (t_letterAt (k := k) hs hx (by omega)) ml_X4_32 my_X4_letterAt mi_X4_letterAt (o_1 hs) rfl (by omega) (Nat.le_of_ble_eq_true rfl) (Nat.le_of_ble_eq_true rfl) ?_
    refine j_bipush (v := 57) dX4_isFigure_15 (by decide) ?_
    refine k_icmp_gt (tgt := 24) dX4_isFigure_17 (by decide) (fun c17 c17' => ?_) (fun c17 c17' => ?_)
    · skip
      refine j_iconst (v := 0) dX4_isFigure_24 (by decide) ?_
      exact j_iret dX4_isFigure_25 ⟨by simp [xFg, jb, c7, c7', c17, c17'], rfl⟩
    · skip
      refine j_iconst (v := 1) dX4_isFigure_20 (by decide) ?_
      refine j_goto (tgt := 25) dX4_isFigure_21 (by decide) ?_
      exact j_iret dX4_isFigure_25 ⟨by simp [xFg, jb, c7, c7', c17, c17'], rfl⟩

def xFs (m : jMem) (k : Nat) : Nat := if xFg m k = true then (if xFg m (k + 1) = true then 2 else 1) else 0
set_option maxRecDepth 20000 in
theorem t_figuresAt {G : jG} {N : Nat} {κ : Nat → jK} {ρ : Nat → Nat → Option Nat} {μ : Nat → Nat → Int32} {ν : Nat → Nat → Int64} (hs : shC N κ ρ) {tl k : Nat} (hx : xOK μ tl) (hk : k < 2147483620) : MT G yX4_figuresAt cX4_figuresAt 2 (some .int) 2 0 0 [.ref 1, .int (nI k)] (N, κ, ρ, μ, ν) (some (.int (nI (xFs μ k)))) (N, κ, ρ, μ, ν) := by
  refine jMT (ini := false) my_X4_figuresAt (fun h => by cases h) (jRv_i _) (Nat.le_of_ble_eq_true rfl) ?_
  show J G RX4 cX4_figuresAt 2 false 2 _ 0 0 (N, κ, ρ, μ, ν) 0 [some (.ref 1), some (.int (nI k))] []
  refine j_aload_n dX4_figuresAt_0 rfl ?_
  refine j_iload_n dX4_figuresAt_1 rfl ?_
  refine j_cV1r dX4_figuresAt_2 (t_isFigure (k := k) hs hx (by omega)) ml_X4_48 my_X4_isFigure mi_X4_isFigure (o_1 hs) rfl (by omega) (Nat.le_of_ble_eq_true rfl) (Nat.le_of_ble_eq_true rfl) ?_
  refine j_if_neB (tgt := 10) dX4_figuresAt_5 (by decide) (fun c5 => ?_) (fun c5 => ?_)
  · skip
    refine j_aload_n dX4_figuresAt_10 rfl ?_
    refine j_iload_n dX4_figuresAt_11 rfl ?_
    refine j_iconst (v := 1) dX4_figuresAt_12 (by decide) ?_
    refine j_iadd dX4_figuresAt_13 ?_
    refine j_topi (nI_1 k) ?_
    refine j_cV1r dX4_figuresAt_14 (t_isFigure (k := (k + 1)) hs hx (by omega)) ml_X4_48 my_X4_isFigure mi_X4_isFigure (o_1 hs) rfl (by omega) (Nat.le_of_ble_eq_true rfl) (Nat.le_of_ble_eq_true rfl) ?_
    refine j_if_eqB (tgt := 24) dX4_figuresAt_17 (by decide) (fun c17 => ?_) (fun c17 => ?_)
    · skip
      refine j_iconst (v := 1) dX4_figuresAt_24 (by decide) ?_
      exact j_iret dX4_figuresAt_25 ⟨by simp only [xFs, c5, c17, reduceIte, Bool.false_eq_true, Bool.true_eq_false, and_self, and_true, true_and, and_false, false_and, not_true_eq_false, not_false_eq_true, ne_eq, decide_true, decide_false, if_true, if_false, Bool.not_eq_true, Bool.not_eq_false]; rfl, rfl⟩
    · skip
      refine j_iconst (v := 2) dX4_figuresAt_20 (by decide) ?_
      refine j_goto (tgt := 25) dX4_figuresAt_21 (by decide) ?_
      exact j_iret dX4_figuresAt_25 ⟨by simp only [xFs, c5, c17, reduceIte, Bool.false_eq_true, Bool.true_eq_false, and_self, and_true, true_and, and_false, false_and, not_true_eq_false, not_false_eq_true, ne_eq, decide_true, decide_false, if_true, if_false, Bool.not_eq_true, Bool.not_eq_false]; rfl, rfl⟩
  · skip
    refine j_iconst (v := 0) dX4_figuresAt_8 (by decide) ?_
    exact j_iret dX4_figuresAt_9 ⟨by simp only [xFs, c5, reduceIte, Bool.false_eq_true, Bool.true_eq_false, and_self, and_true, true_and, and_false, false_and, not_true_eq_false, not_false_eq_true, ne_eq, decide_true, decide_false, if_true, if_false, Bool.not_eq_true, Bool.not_eq_false]; rfl, rfl⟩

def xNum (m : jMem) (k : Nat) (f : Int32) : Int32 := if f = 1 then xLt m k - 48 else (xLt m k - 48) * 10 + xLt m (k + 1) - 48
set_option maxRecDepth 20000 in
theorem t_numberAt {G : jG} {N : Nat} {κ : Nat → jK} {ρ : Nat → Nat → Option Nat} {μ : Nat → Nat → Int32} {ν : Nat → Nat → Int64} (hs : shC N κ ρ) {tl k : Nat} (hx : xOK μ tl) (hk : k < 2147483620) {f : Int32} : MT G yX4_numberAt cX4_numberAt 4 (some .int) 1 0 0 [.ref 1, .int (nI k), .int f] (N, κ, ρ, μ, ν) (some (.int (xNum μ k f))) (N, κ, ρ, μ, ν) := by
  refine jMT (ini := false) my_X4_numberAt (fun h => by cases h) (jRv_i _) (Nat.le_of_ble_eq_true rfl) ?_
  show J G RX4 cX4_numberAt 4 false 1 _ 0 0 (N, κ, ρ, μ, ν) 0 [some (.ref 1), some (.int (nI k)), some (.int f), none] []
  refine j_aload_n dX4_numberAt_0 rfl ?_
  refine j_iload_n dX4_numberAt_1 rfl ?_
  refine j_cV1r dX4_numberAt_2 (t_letterAt (k := k) hs hx (by omega)) ml_X4_32 my_X4_letterAt mi_X4_letterAt (o_1 hs) rfl (by omega) (Nat.le_of_ble_eq_true rfl) (Nat.le_of_ble_eq_true rfl) ?_
  refine j_bipush (v := 48) dX4_numberAt_5 (by decide) ?_
  refine j_isub dX4_numberAt_7 ?_
  refine j_istore_3 dX4_numberAt_8 rfl ?_
  refine j_iload_n dX4_numberAt_9 rfl ?_
  refine j_iconst (v := 1) dX4_numberAt_10 (by decide) ?_
  refine j_icmp_ne (tgt := 18) dX4_numberAt_11 (by decide) (fun c11 => ?_) (fun c11 => ?_)
  · skip
    refine j_iload_n dX4_numberAt_18 rfl ?_
    refine j_bipush (v := 10) dX4_numberAt_19 (by decide) ?_
    refine j_imul dX4_numberAt_21 ?_
    refine j_aload_n dX4_numberAt_22 rfl ?_
    refine j_iload_n dX4_numberAt_23 rfl ?_
    refine j_iconst (v := 1) dX4_numberAt_24 (by decide) ?_
    refine j_iadd dX4_numberAt_25 ?_
    refine j_topi (nI_1 k) ?_
    refine j_cV1r dX4_numberAt_26 (t_letterAt (k := (k + 1)) hs hx (by omega)) ml_X4_32 my_X4_letterAt mi_X4_letterAt (o_1 hs) rfl (by omega) (Nat.le_of_ble_eq_true rfl) (Nat.le_of_ble_eq_true rfl) ?_
    refine j_iadd dX4_numberAt_29 ?_
    refine j_bipush (v := 48) dX4_numberAt_30 (by decide) ?_
    refine j_isub dX4_numberAt_32 ?_
    exact j_iret dX4_numberAt_33 ⟨by simp only [xNum, c11, reduceIte, Bool.false_eq_true, Bool.true_eq_false, and_self, and_true, true_and, and_false, false_and, not_true_eq_false, not_false_eq_true, ne_eq, decide_true, decide_false, if_true, if_false, Bool.not_eq_true, Bool.not_eq_false], rfl⟩
  · skip
    refine j_iload_n dX4_numberAt_14 rfl ?_
    refine j_goto (tgt := 33) dX4_numberAt_15 (by decide) ?_
    exact j_iret dX4_numberAt_33 ⟨by simp only [xNum, eq_true c11, reduceIte, Bool.false_eq_true, Bool.true_eq_false, and_self, and_true, true_and, and_false, false_and, not_true_eq_false, not_false_eq_true, ne_eq, decide_true, decide_false, if_true, if_false, Bool.not_eq_true, Bool.not_eq_false], rfl⟩

def xAdd (μ : jMem) (k : Nat) (c : Int32) : jMem :=
  let m := jup μ 2 k c
  jup m 1 2 (m 1 2 + 1)
set_option maxRecDepth 20000 in
theorem t_add {G : jG} {N : Nat} {κ : Nat → jK} {ρ : Nat → Nat → Option Nat} {μ : Nat → Nat → Int32} {ν : Nat → Nat → Int64} (hs : shC N κ ρ) {tl : Nat} {c : Int32} (hl : μ 1 2 = nI tl) (htl : tl < 200) (hc : narrow .char (.int c) = .int c) : MT G yX4_add cX4_add 2 none 0 0 0 [.ref 1, .int c] (N, κ, ρ, μ, ν) none (N, κ, ρ, xAdd μ tl c, ν) := by
  refine jMT (ini := false) my_X4_add (fun h => by cases h) jRv_v (Nat.le_of_ble_eq_true rfl) ?_
  show J G RX4 cX4_add 2 false 0 _ 0 0 (N, κ, ρ, μ, ν) 0 [some (.ref 1), some (.int c)] []
  refine j_aload_n dX4_add_0 rfl ?_
  refine j_geti dX4_add_1 fl_X4_19 rfl (o_1 hs) ?_
  refine j_sipush (v := 200) dX4_add_4 (by decide) ?_
  refine k_icmp_lt (tgt := 11) dX4_add_7 (by decide) (fun c7 c7' => ?_) (fun c7 c7' => ?_)
  · skip
    refine j_aload_n dX4_add_11 rfl ?_
    refine j_getr dX4_add_12 fl_X4_9 rfl (o_1 hs) (r_1_0 hs) ?_
    refine j_aload_n dX4_add_15 rfl ?_
    refine j_geti dX4_add_16 fl_X4_19 rfl (o_1 hs) ?_
    refine j_iload_n dX4_add_19 rfl ?_
    refine j_cast (k := tl) dX4_add_20 (a_2 hs) hl htl hc ?_
    refine j_aload_n dX4_add_21 rfl ?_
    refine j_dup dX4_add_22 rfl ?_
    refine j_geti dX4_add_23 fl_X4_19 rfl (o_1 hs) ?_
    refine j_iconst (v := 1) dX4_add_26 (by decide) ?_
    refine j_iadd dX4_add_27 ?_
    refine j_puti dX4_add_28 fl_X4_19 rfl (o_1 hs) ?_
    exact j_vret dX4_add_31 ⟨rfl, rfl⟩
  · skip
    exact absurd (by rw [hl, jl200]; exact nI_lt htl (by decide)) c7

def xSep (due i : Nat) : Int32 := if nI i < nI due - 1 then 44 else 59
/-- the numbers of an item from place k on: the place behind them, and the memory -/
def xItL (due : Nat) : Nat → Nat → Nat → jMem → Option Nat × jMem
  | 0, _, k, m => (some k, m)
  | n + 1, i, k, m =>
    if xFs m k = 0 then (none, m)
    else if xLt (jup m 3 i (xNum m k (nI (xFs m k)))) (k + xFs m k) = xSep due i then xItL due n (i + 1) (k + xFs m k + 1) (jup m 3 i (xNum m k (nI (xFs m k))))
    else (none, jup m 3 i (xNum m k (nI (xFs m k))))
theorem xOK.num {m : jMem} {tl : Nat} (h : xOK m tl) (i : Nat) (v : Int32) : xOK (jup m 3 i v) tl := ⟨by rw [jup_oth (by decide)]; exact h.1, h.2.1, fun k => by rw [jup_oth (by decide)]; exact h.2.2 k⟩
theorem xFs_le (m : jMem) (k : Nat) : xFs m k ≤ 2 := by unfold xFs; split <;> (try split) <;> omega
set_option maxRecDepth 20000 in
theorem lp_item {G : jG} {N : Nat} {κ : Nat → jK} {ρ : Nat → Nat → Option Nat} {ν : Nat → Nat → Int64} {Q : Option Value → jH → Prop} {d : Nat} (hd1 : 3 ≤ d) {q tl due : Nat} {c : Int32} {x1 : Option Value} (hs : shC N κ ρ) (hdue : due ≤ 3) : ∀ (n i k : Nat) (m : jMem) (x7 : Option Value), i + n = due → k + 3 * n < 2147483590 → xOK m tl → (match xItL due n i k m with | (none, m') => Q (some (.int (-1))) (N, κ, ρ, m', ν) | (some k', m') => ∀ x7 : Option Value, J G RX4 cX4_readItem 8 false d Q 0 0 (N, κ, ρ, m', ν) 130 [some (.ref 1), x1, some (.ref q), some (.int c), some (.int (nI due)), some (.int (nI k')), some (.int (nI due)), x7] []) → J G RX4 cX4_readItem 8 false d Q 0 0 (N, κ, ρ, m, ν) 50 [some (.ref 1), x1, some (.ref q), some (.int c), some (.int (nI due)), some (.int (nI k)), some (.int (nI i)), x7] []
  | 0, i, k, m, x7, hi, hk, hx, hq => by
    have hid : i = due := by omega
    subst hid
    refine j_iload dX4_readItem_50 rfl ?_
    refine j_iload dX4_readItem_52 rfl ?_
    refine k_icmp_ge (tgt := 130) dX4_readItem_54 (by decide) (fun c54 c54' => ?_) (fun c54 c54' => ?_)
    · skip
      exact hq x7
    · skip
      exact absurd (Int32.le_refl _) c54
  | n + 1, i, k, m, x7, hi, hk, hx, hq => by
    have hf2 := xFs_le m k
    rw [xItL] at hq
    refine j_iload dX4_readItem_50 rfl ?_
    refine j_iload dX4_readItem_52 rfl ?_
    refine k_icmp_ge (tgt := 130) dX4_readItem_54 (by decide) (fun c54 c54' => ?_) (fun c54 c54' => ?_)
    · skip
      exact absurd c54 (nI_ge (by omega) (by omega))
    · skip
      refine j_aload_n dX4_readItem_57 rfl ?_
      refine j_iload dX4_readItem_58 rfl ?_
      refine j_cV1r dX4_readItem_60 (t_figuresAt (k := k) hs hx (by omega)) ml_X4_36 my_X4_figuresAt mi_X4_figuresAt (o_1 hs) rfl (by omega) (Nat.le_of_ble_eq_true rfl) (Nat.le_of_ble_eq_true rfl) ?_
      refine j_istore_7 dX4_readItem_63 rfl ?_
      refine j_iload dX4_readItem_65 rfl ?_
      refine j_if_ne (tgt := 72) dX4_readItem_67 (by decide) (fun c67 => ?_) (fun c67 => ?_)
      · skip
        have hf0 : ¬ xFs m k = 0 := fun z => c67 (by rw [z]; rfl)
        rw [if_neg hf0] at hq
        have hx2 := hx.num i (xNum m k (nI (xFs m k)))
        refine j_aload_n dX4_readItem_72 rfl ?_
        refine j_getr dX4_readItem_73 fl_X4_15 rfl (o_1 hs) (r_1_1 hs) ?_
        refine j_iload dX4_readItem_76 rfl ?_
        refine j_aload_n dX4_readItem_78 rfl ?_
        refine j_iload dX4_readItem_79 rfl ?_
        refine j_iload dX4_readItem_81 rfl ?_
        refine j_cV2r dX4_readItem_83 (t_numberAt (k := k) hs hx (by omega)) ml_X4_40 my_X4_numberAt mi_X4_numberAt (o_1 hs) rfl (by omega) (Nat.le_of_ble_eq_true rfl) (Nat.le_of_ble_eq_true rfl) ?_
        refine j_iast (k := i) dX4_readItem_86 (a_3 hs) rfl (by omega) ?_
        refine j_iload dX4_readItem_87 rfl ?_
        refine j_iload dX4_readItem_89 rfl ?_
        refine j_iadd dX4_readItem_91 ?_
        refine j_topi (nI_add _ _) ?_
        refine j_istore_5 dX4_readItem_92 rfl ?_
        refine j_aload_n dX4_readItem_94 rfl ?_
        refine j_iload dX4_readItem_95 rfl ?_
        refine j_cV1r dX4_readItem_97 (t_letterAt (k := (k + xFs m k)) hs hx2 (by omega)) ml_X4_32 my_X4_letterAt mi_X4_letterAt (o_1 hs) rfl (by omega) (Nat.le_of_ble_eq_true rfl) (Nat.le_of_ble_eq_true rfl) ?_
        refine j_iload dX4_readItem_100 rfl ?_
        refine j_iload dX4_readItem_102 rfl ?_
        refine j_iconst (v := 1) dX4_readItem_104 (by decide) ?_
        refine j_isub dX4_readItem_105 ?_
        refine k_icmp_ge (tgt := 114) dX4_readItem_106 (by decide) (fun c106 c106' => ?_) (fun c106 c106' => ?_)
        · skip
          refine j_bipush (v := 59) dX4_readItem_114 (by decide) ?_
          refine j_icmp_eq (tgt := 121) dX4_readItem_116 (by decide) (fun c116 => ?_) (fun c116 => ?_)
          · skip
            rw [if_pos (by rw [c116]; simp only [xSep, c106', c106, reduceIte])] at hq
            refine j_iinc_5 (v := nI ((k + xFs m k) + 1)) dX4_readItem_121 (nI_add _ _) rfl ?_
            refine j_iinc_6 (v := nI (i + 1)) dX4_readItem_124 (nI_add _ _) rfl ?_
            refine j_goto (tgt := 50) dX4_readItem_127 (by decide) ?_
            exact lp_item hd1 hs hdue n (i + 1) (k + xFs m k + 1) _ _ (by omega) (by omega) hx2 hq
          · skip
            rw [if_neg (fun z => c116 (by rw [z]; simp only [xSep, c106', c106, reduceIte]))] at hq
            refine j_iconst (v := (-1)) dX4_readItem_119 (by decide) ?_
            exact j_iret dX4_readItem_120 hq
        · skip
          refine j_bipush (v := 44) dX4_readItem_109 (by decide) ?_
          refine j_goto (tgt := 116) dX4_readItem_111 (by decide) ?_
          refine j_icmp_eq (tgt := 121) dX4_readItem_116 (by decide) (fun c116 => ?_) (fun c116 => ?_)
          · skip
            rw [if_pos (by rw [c116]; simp only [xSep, c106', c106, reduceIte])] at hq
            refine j_iinc_5 (v := nI ((k + xFs m k) + 1)) dX4_readItem_121 (nI_add _ _) rfl ?_
            refine j_iinc_6 (v := nI (i + 1)) dX4_readItem_124 (nI_add _ _) rfl ?_
            refine j_goto (tgt := 50) dX4_readItem_127 (by decide) ?_
            exact lp_item hd1 hs hdue n (i + 1) (k + xFs m k + 1) _ _ (by omega) (by omega) hx2 hq
          · skip
            rw [if_neg (fun z => c116 (by rw [z]; simp only [xSep, c106', c106, reduceIte]))] at hq
            refine j_iconst (v := (-1)) dX4_readItem_119 (by decide) ?_
            exact j_iret dX4_readItem_120 hq
      · skip
        have hf0 : xFs m k = 0 := by
          rcases Nat.eq_zero_or_pos (xFs m k) with z | z
          · exact z
          · exact absurd c67 (nI_ne0 z (by omega))
        rw [if_pos hf0] at hq
        refine j_iconst (v := (-1)) dX4_readItem_70 (by decide) ?_
        exact j_iret dX4_readItem_71 hq

/-- behind the numbers -/
def xFin (q : Nat) (c : Int32) (r : Option Nat × jMem) : Option Nat × jMem := match r with
  | (none, m) => (none, m)
  | (some k, m) => (if pTB m q c (m 3 0) (m 3 1) (m 3 2) = true then some k else none, pTM m q c (m 3 0) (m 3 1) (m 3 2))
def xItem (q : Nat) (m : jMem) (k : Nat) : Option Nat × jMem :=
  if xLt m k = 119 ∨ xLt m k = 104 then xFin q (xLt m k) (xItL 3 3 0 (k + 1) m)
  else if xLt m k = 115 then xFin q (xLt m k) (xItL 1 1 0 (k + 1) m) else (none, m)
def xPl (r : Option Nat) : Int32 := match r with
  | none => -1
  | some k => nI k
/-- what the numbers leave as it was -/
theorem xItL_lo {x y : Nat} (hx : x ≠ 3) (due : Nat) : ∀ (n i k : Nat) (m : jMem), (xItL due n i k m).2 x y = m x y
  | 0, _, _, _ => rfl
  | n + 1, i, k, m => by
    rw [xItL]
    split
    · rfl
    · split
      · rw [xItL_lo hx due n]; exact jup_oth hx
      · exact jup_oth hx
set_option maxRecDepth 20000 in
theorem bd_item {G : jG} {N : Nat} {κ : Nat → jK} {ρ : Nat → Nat → Option Nat} {ν : Nat → Nat → Int64} {Q : Option Value → jH → Prop} {d : Nat} (hd1 : 3 ≤ d) {q : Nat} {m : jMem} {c : Int32} {k due : Nat} {x1 x7 : Option Value} (hs : shC N κ ρ) (hq : pln q) (hps : m q 0 = nI (pS m q)) (hps5 : pS m q ≤ 5) (hQ : Q (some (.int (xPl (xFin q c (some k, m)).1))) (N, κ, ρ, (xFin q c (some k, m)).2, ν)) : J G RX4 cX4_readItem 8 false d Q 0 0 (N, κ, ρ, m, ν) 130 [some (.ref 1), x1, some (.ref q), some (.int c), some (.int (nI due)), some (.int (nI k)), some (.int (nI due)), x7] [] := by
  refine j_aload_n dX4_readItem_130 rfl ?_
  refine j_iload_n dX4_readItem_131 rfl ?_
  refine j_aload_n dX4_readItem_132 rfl ?_
  refine j_getr dX4_readItem_133 fl_X4_15 rfl (o_1 hs) (r_1_1 hs) ?_
  refine j_iconst (v := 0) dX4_readItem_136 (by decide) ?_
  refine j_iald (k := 0) dX4_readItem_137 (a_3 hs) rfl (by omega) ?_
  refine j_aload_n dX4_readItem_138 rfl ?_
  refine j_getr dX4_readItem_139 fl_X4_15 rfl (o_1 hs) (r_1_1 hs) ?_
  refine j_iconst (v := 1) dX4_readItem_142 (by decide) ?_
  refine j_iald (k := 1) dX4_readItem_143 (a_3 hs) rfl (by omega) ?_
  refine j_aload_n dX4_readItem_144 rfl ?_
  refine j_getr dX4_readItem_145 fl_X4_15 rfl (o_1 hs) (r_1_1 hs) ?_
  refine j_iconst (v := 2) dX4_readItem_148 (by decide) ?_
  refine j_iald (k := 2) dX4_readItem_149 (a_3 hs) rfl (by omega) ?_
  refine j_cV4r dX4_readItem_150 (t_take hs hq hps hps5) ml_X4_44 my_X3_take mi_X3_take (pO hs hq) rfl (by omega) (Nat.le_of_ble_eq_true rfl) (Nat.le_of_ble_eq_true rfl) ?_
  refine j_if_eqB (tgt := 161) dX4_readItem_153 (by decide) (fun c153 => ?_) (fun c153 => ?_)
  · skip
    refine j_iconst (v := (-1)) dX4_readItem_161 (by decide) ?_
    exact j_iret dX4_readItem_162 (by simpa only [xFin, xPl, c153, reduceIte, Bool.false_eq_true, Bool.true_eq_false, and_self, and_true, true_and, and_false, false_and, not_true_eq_false, not_false_eq_true, ne_eq, decide_true, decide_false, if_true, if_false, Bool.not_eq_true, Bool.not_eq_false] using hQ)
  · skip
    refine j_iload dX4_readItem_156 rfl ?_
    refine j_goto (tgt := 162) dX4_readItem_158 (by decide) ?_
    exact j_iret dX4_readItem_162 (by simpa only [xFin, xPl, c153, reduceIte, Bool.false_eq_true, Bool.true_eq_false, and_self, and_true, true_and, and_false, false_and, not_true_eq_false, not_false_eq_true, ne_eq, decide_true, decide_false, if_true, if_false, Bool.not_eq_true, Bool.not_eq_false] using hQ)

set_option maxRecDepth 20000 in
theorem t_readItem {G : jG} {N : Nat} {κ : Nat → jK} {ρ : Nat → Nat → Option Nat} {μ : Nat → Nat → Int32} {ν : Nat → Nat → Int64} {q tl k : Nat} (hs : shC N κ ρ) (hq : pln q) (hps : μ q 0 = nI (pS μ q)) (hps5 : pS μ q ≤ 5) (hx : xOK μ tl) (hk : k < 2147483500) : MT G yX4_readItem cX4_readItem 8 (some .int) 4 0 0 [.ref 1, .int (nI k), .ref q] (N, κ, ρ, μ, ν) (some (.int (xPl (xItem q μ k).1))) (N, κ, ρ, (xItem q μ k).2, ν) := by
  refine jMT (ini := false) my_X4_readItem (fun h => by cases h) (jRv_i _) (Nat.le_of_ble_eq_true rfl) ?_
  show J G RX4 cX4_readItem 8 false 4 _ 0 0 (N, κ, ρ, μ, ν) 0 [some (.ref 1), some (.int (nI k)), some (.ref q), none, none, none, none, none] []
  have h3 : q ≠ 3 := by rcases hq with rfl | rfl <;> decide
  generalize hQe : (fun (v' : Option Value) (h'' : jH) => v' = some (.int (xPl (xItem q μ k).1)) ∧ h'' = (N, κ, ρ, (xItem q μ k).2, ν)) = Q
  have hQ : Q (some (.int (xPl (xItem q μ k).1))) (N, κ, ρ, (xItem q μ k).2, ν) := by rw [← hQe]; exact ⟨rfl, rfl⟩
  clear hQe
  have go : ∀ (due : Nat) (c : Int32) (x1 x7 : Option Value), due ≤ 3 → xItem q μ k = xFin q c (xItL due due 0 (k + 1) μ) → J G RX4 cX4_readItem 8 false 4 Q 0 0 (N, κ, ρ, μ, ν) 50 [some (.ref 1), x1, some (.ref q), some (.int c), some (.int (nI due)), some (.int (nI (k + 1))), some (.int (nI 0)), x7] [] := by
    intro due c x1 x7 hdue he
    refine lp_item (by omega) hs hdue due 0 (k + 1) μ x7 (by omega) (by omega) hx ?_
    rw [he] at hQ
    have e0 := xItL_lo (y := 0) h3 due due 0 (k + 1) μ
    cases hr : xItL due due 0 (k + 1) μ with
    | mk r m' =>
      rw [hr] at hQ e0
      have hpe : pS m' q = pS μ q := by unfold pS; rw [show m' q 0 = μ q 0 from e0]
      cases r with
      | none => exact hQ
      | some k' => exact fun x7 => bd_item (by omega) hs hq (by rw [hpe, show m' q 0 = μ q 0 from e0]; exact hps) (by rw [hpe]; exact hps5) hQ
  refine j_aload_n dX4_readItem_0 rfl ?_
  refine j_iload_n dX4_readItem_1 rfl ?_
  refine j_cV1r dX4_readItem_2 (t_letterAt (k := k) hs hx (by omega)) ml_X4_32 my_X4_letterAt mi_X4_letterAt (o_1 hs) rfl (by omega) (Nat.le_of_ble_eq_true rfl) (Nat.le_of_ble_eq_true rfl) ?_
  refine j_istore_3 dX4_readItem_5 rfl ?_
  refine j_iload_n dX4_readItem_6 rfl ?_
  refine j_bipush (v := 119) dX4_readItem_7 (by decide) ?_
  refine j_icmp_eq (tgt := 18) dX4_readItem_9 (by decide) (fun c9 => ?_) (fun c9 => ?_)
  · skip
    refine j_iconst (v := 3) dX4_readItem_18 (by decide) ?_
    refine j_goto (tgt := 33) dX4_readItem_19 (by decide) ?_
    refine j_istore_4 dX4_readItem_33 rfl ?_
    refine j_iload dX4_readItem_35 rfl ?_
    refine j_if_ne (tgt := 42) dX4_readItem_37 (by decide) (fun c37 => ?_) (fun c37 => ?_)
    · skip
      refine j_iload_n dX4_readItem_42 rfl ?_
      refine j_iconst (v := 1) dX4_readItem_43 (by decide) ?_
      refine j_iadd dX4_readItem_44 ?_
      refine j_topi (nI_1 k) ?_
      refine j_istore_5 dX4_readItem_45 rfl ?_
      refine j_iconst (v := 0) dX4_readItem_47 (by decide) ?_
      refine j_istore_6 dX4_readItem_48 rfl ?_
      exact go 3 _ _ _ (by decide) (by simp only [xItem, c9, true_or, reduceIte, Bool.false_eq_true, Bool.true_eq_false, and_self, and_true, true_and, and_false, false_and, not_true_eq_false, not_false_eq_true, ne_eq, decide_true, decide_false, if_true, if_false, Bool.not_eq_true, Bool.not_eq_false])
    · skip
      exact absurd c37 (by decide)
  · skip
    refine j_iload_n dX4_readItem_12 rfl ?_
    refine j_bipush (v := 104) dX4_readItem_13 (by decide) ?_
    refine j_icmp_ne (tgt := 22) dX4_readItem_15 (by decide) (fun c15 => ?_) (fun c15 => ?_)
    · skip
      refine j_iload_n dX4_readItem_22 rfl ?_
      refine j_bipush (v := 115) dX4_readItem_23 (by decide) ?_
      refine j_icmp_ne (tgt := 32) dX4_readItem_25 (by decide) (fun c25 => ?_) (fun c25 => ?_)
      · skip
        refine j_iconst (v := 0) dX4_readItem_32 (by decide) ?_
        refine j_istore_4 dX4_readItem_33 rfl ?_
        refine j_iload dX4_readItem_35 rfl ?_
        refine j_if_ne (tgt := 42) dX4_readItem_37 (by decide) (fun c37 => ?_) (fun c37 => ?_)
        · skip
          exact absurd rfl c37
        · skip
          refine j_iconst (v := (-1)) dX4_readItem_40 (by decide) ?_
          exact j_iret dX4_readItem_41 (by rw [show xItem q μ k = (none, μ) from (by simp only [xItem, c9, c15, c25, or_self, reduceIte, Bool.false_eq_true, Bool.true_eq_false, and_self, and_true, true_and, and_false, false_and, not_true_eq_false, not_false_eq_true, ne_eq, decide_true, decide_false, if_true, if_false, Bool.not_eq_true, Bool.not_eq_false])] at hQ; exact hQ)
      · skip
        refine j_iconst (v := 1) dX4_readItem_28 (by decide) ?_
        refine j_goto (tgt := 33) dX4_readItem_29 (by decide) ?_
        refine j_istore_4 dX4_readItem_33 rfl ?_
        refine j_iload dX4_readItem_35 rfl ?_
        refine j_if_ne (tgt := 42) dX4_readItem_37 (by decide) (fun c37 => ?_) (fun c37 => ?_)
        · skip
          refine j_iload_n dX4_readItem_42 rfl ?_
          refine j_iconst (v := 1) dX4_readItem_43 (by decide) ?_
          refine j_iadd dX4_readItem_44 ?_
          refine j_topi (nI_1 k) ?_
          refine j_istore_5 dX4_readItem_45 rfl ?_
          refine j_iconst (v := 0) dX4_readItem_47 (by decide) ?_
          refine j_istore_6 dX4_readItem_48 rfl ?_
          exact go 1 _ _ _ (by decide) (by simp [xItem, c25])
        · skip
          exact absurd c37 (by decide)
    · skip
      refine j_iconst (v := 3) dX4_readItem_18 (by decide) ?_
      refine j_goto (tgt := 33) dX4_readItem_19 (by decide) ?_
      refine j_istore_4 dX4_readItem_33 rfl ?_
      refine j_iload dX4_readItem_35 rfl ?_
      refine j_if_ne (tgt := 42) dX4_readItem_37 (by decide) (fun c37 => ?_) (fun c37 => ?_)
      · skip
        refine j_iload_n dX4_readItem_42 rfl ?_
        refine j_iconst (v := 1) dX4_readItem_43 (by decide) ?_
        refine j_iadd dX4_readItem_44 ?_
        refine j_topi (nI_1 k) ?_
        refine j_istore_5 dX4_readItem_45 rfl ?_
        refine j_iconst (v := 0) dX4_readItem_47 (by decide) ?_
        refine j_istore_6 dX4_readItem_48 rfl ?_
        exact go 3 _ _ _ (by decide) (by simp only [xItem, c15, or_true, reduceIte, Bool.false_eq_true, Bool.true_eq_false, and_self, and_true, true_and, and_false, false_and, not_true_eq_false, not_false_eq_true, ne_eq, decide_true, decide_false, if_true, if_false, Bool.not_eq_true, Bool.not_eq_false])
      · skip
        exact absurd c37 (by decide)

/-- what a plan's own writes leave as it was -/
theorem pTM_lo {q x y : Nat} (hx : x < q ∨ q + 4 < x) (m : jMem) (c u v w : Int32) : pTM m q c u v w x y = m x y := by
  unfold pTM pWM pPM
  split
  · split
    · simp only [jup_oth (show x ≠ q by omega), jup_oth (show x ≠ q + 1 by omega), jup_oth (show x ≠ q + 2 by omega), jup_oth (show x ≠ q + 3 by omega)]
    · split
      · exact jup_oth (by omega)
      · exact jup_oth (by omega)
  · rfl
theorem psk {m : jMem} {q n : Nat} (hn : n ≤ 5) (e : m q 0 = nI n) : m q 0 = nI (pS m q) ∧ pS m q ≤ 5 := by
  have h : pS m q = n := by unfold pS; rw [e]; exact nI_clamp (by omega)
  exact ⟨e.trans (congrArg nI h.symm), h ▸ hn⟩
theorem pWM_0 (m : jMem) (q : Nat) (u v w : Int32) : pWM m q u v w q 0 = m q 0 + 1 := by
  unfold pWM
  simp only [jup_self, jup_oth (show q ≠ q + 1 by omega), jup_oth (show q ≠ q + 2 by omega), jup_oth (show q ≠ q + 3 by omega)]
theorem pPM_0 (m : jMem) (q : Nat) (u v w : Int32) : pPM m q u v w q 0 = m q 0 := by
  unfold pPM
  exact jup_oth (by omega)
theorem pWB_lt {m : jMem} {q : Nat} {u v w : Int32} (h : pWB m q u v w = true) : m q 0 < 5 := by
  unfold pWB at h
  simp only [Bool.and_eq_true, decide_eq_true_eq] at h
  exact h.1.1.1
theorem pTM_ps {q : Nat} {m : jMem} (h : m q 0 = nI (pS m q)) (h5 : pS m q ≤ 5) (c u v w : Int32) : pTM m q c u v w q 0 = nI (pS (pTM m q c u v w) q) ∧ pS (pTM m q c u v w) q ≤ 5 := by
  by_cases hb : pTB m q c u v w = true
  · by_cases hc : c = 119
    · have e : pTM m q c u v w = pWM m q u v w := by unfold pTM; rw [if_pos hb, if_pos hc]
      have hb2 : pWB m q u v w = true := by unfold pTB at hb; rwa [if_pos hc] at hb
      have hl := lt5_of h (pWB_lt hb2) h5
      rw [e]
      exact psk (n := pS m q + 1) (by omega) (by rw [pWM_0, h, nI_1])
    · by_cases hc2 : c = 104
      · have e : pTM m q c u v w = pPM m q u v w := by unfold pTM; rw [if_pos hb, if_neg hc, if_pos hc2]
        rw [e]
        exact psk h5 (by rw [pPM_0]; exact h)
      · have e : pTM m q c u v w = jup m q 1 u := by unfold pTM; rw [if_pos hb, if_neg hc, if_neg hc2]
        rw [e]
        exact psk h5 (by rw [jup_oth2 (by decide)]; exact h)
  · have e : pTM m q c u v w = m := by unfold pTM; rw [if_neg hb]
    rw [e]
    exact ⟨h, h5⟩
theorem xItL_le (due : Nat) : ∀ (n i k k' : Nat) (m m' : jMem), xItL due n i k m = (some k', m') → k' ≤ k + 3 * n
  | 0, i, k, k', m, m', h => by
    rw [xItL] at h
    have : k = k' := Option.some.inj (Prod.mk.inj h).1
    omega
  | n + 1, i, k, k', m, m', h => by
    have hf := xFs_le m k
    rw [xItL] at h
    split at h
    · cases h
    · split at h
      · have := xItL_le due n _ _ _ _ _ h
        omega
      · cases h
/-- an item leaves the text, and no more than five persons -/
theorem xItem_ok {q : Nat} {m : jMem} {tl : Nat} (hq : pln q) (h : m q 0 = nI (pS m q)) (h5 : pS m q ≤ 5) (hx : xOK m tl) (k : Nat) : xOK (xItem q m k).2 tl ∧ ((xItem q m k).2 q 0 = nI (pS (xItem q m k).2 q) ∧ pS (xItem q m k).2 q ≤ 5) ∧ ∀ k', (xItem q m k).1 = some k' → k' ≤ k + 10 := by
  have h3 : q ≠ 3 := by rcases hq with rfl | rfl <;> decide
  have hl1 : (1 : Nat) < q ∧ (2 : Nat) < q := by rcases hq with rfl | rfl <;> decide
  have key : ∀ (due : Nat) (c : Int32), due ≤ 3 → xOK (xFin q c (xItL due due 0 (k + 1) m)).2 tl ∧ ((xFin q c (xItL due due 0 (k + 1) m)).2 q 0 = nI (pS (xFin q c (xItL due due 0 (k + 1) m)).2 q) ∧ pS (xFin q c (xItL due due 0 (k + 1) m)).2 q ≤ 5) ∧ ∀ k', (xFin q c (xItL due due 0 (k + 1) m)).1 = some k' → k' ≤ k + 10 := by
    intro due c hdue
    have e0 := fun (x y : Nat) (hx : x ≠ 3) => xItL_lo (y := y) hx due due 0 (k + 1) m
    have ele := fun k' m' => xItL_le due due 0 (k + 1) k' m m'
    cases hr : xItL due due 0 (k + 1) m with
    | mk r m' =>
      rw [hr] at e0
      have hx' : xOK m' tl := ⟨(e0 1 2 (by decide)).trans hx.1, hx.2.1, fun j => by rw [show m' 2 j = m 2 j from e0 2 j (by decide)]; exact hx.2.2 j⟩
      have hpe : pS m' q = pS m q := by unfold pS; rw [show m' q 0 = m q 0 from e0 q 0 h3]
      have h' : m' q 0 = nI (pS m' q) := by rw [hpe, show m' q 0 = m q 0 from e0 q 0 h3]; exact h
      cases r with
      | none => exact ⟨hx', ⟨h', by show pS m' q ≤ 5; rw [hpe]; exact h5⟩, fun k' hk => by cases hk⟩
      | some k2 =>
        have hle := ele k2 m' hr
        refine ⟨⟨?_, hx.2.1, fun j => ?_⟩, pTM_ps h' (by rw [hpe]; exact h5) _ _ _ _, fun k' hk => ?_⟩
        · show pTM m' q c _ _ _ 1 2 = _
          rw [pTM_lo (by omega)]; exact hx'.1
        · show narrow .char (.int (pTM m' q c _ _ _ 2 j)) = .int (pTM m' q c _ _ _ 2 j)
          rw [pTM_lo (by omega)]; exact hx'.2.2 j
        · have : (if pTB m' q c (m' 3 0) (m' 3 1) (m' 3 2) = true then some k2 else none) = some k' := hk
          split at this
          · have : k2 = k' := Option.some.inj this
            omega
          · cases this
  unfold xItem
  split
  · exact key 3 _ (by decide)
  · split
    · exact key 1 _ (by decide)
    · exact ⟨hx, ⟨h, h5⟩, fun k' hk => by cases hk⟩
def xRdL (q : Nat) : Nat → Nat → jMem → Int32 × jMem
  | 0, _, m => (-4, m)
  | n + 1, k, m => if nI k < m 1 2 then (match xItem q m k with
    | (none, m') => (nI k, m')
    | (some k', m') => xRdL q n k' m') else (-4, m)
def xRead (q : Nat) (μ : jMem) : Int32 × jMem := xRdL q 200 0 (pClr μ q)
theorem pClr_lo {q x y : Nat} (hx : x < q ∨ q + 4 < x) (m : jMem) : pClr m q x y = m x y := by
  unfold pClr
  simp only [jrow_at, if_neg (show ¬ x = q + 4 by omega), jup_oth (show x ≠ q by omega)]
theorem pClr_ps (m : jMem) (q : Nat) : pClr m q q 0 = nI (pS (pClr m q) q) ∧ pS (pClr m q) q ≤ 5 := by
  have e : pClr m q q 0 = 0 := by
    unfold pClr
    simp only [jrow_at, if_neg (show ¬ q = q + 4 by omega)]
    rw [jup_oth2 (by decide), jup_self]
  have e2 : pS (pClr m q) q = 0 := by unfold pS; rw [e]; decide
  rw [e2, e]
  exact ⟨rfl, by decide⟩
set_option maxRecDepth 20000 in
theorem lp_read {G : jG} {N : Nat} {κ : Nat → jK} {ρ : Nat → Nat → Option Nat} {ν : Nat → Nat → Int64} {Q : Option Value → jH → Prop} {d : Nat} (hd1 : 5 ≤ d) {q tl : Nat} (hs : shC N κ ρ) (hq : pln q) : ∀ (n i k : Nat) (m : jMem) (x4 : Option Value), i + n = 200 → k + 10 * n < 2147480000 → m q 0 = nI (pS m q) → pS m q ≤ 5 → xOK m tl → Q (some (.int (xRdL q n k m).1)) (N, κ, ρ, (xRdL q n k m).2, ν) → J G RX4 cX4_readInto 5 false d Q 0 0 (N, κ, ρ, m, ν) 8 [some (.ref 1), some (.ref q), some (.int (nI k)), some (.int (nI i)), x4] []
  | 0, i, k, m, x4, hi, hk, hps, hps5, hx, hQ => by
    refine j_iload_n dX4_readInto_8 rfl ?_
    refine j_sipush (v := 200) dX4_readInto_9 (by decide) ?_
    refine k_icmp_ge (tgt := 47) dX4_readInto_12 (by decide) (fun c12 c12' => ?_) (fun c12 c12' => ?_)
    · skip
      refine j_bipush (v := (-4)) dX4_readInto_47 (by decide) ?_
      exact j_iret dX4_readInto_49 hQ
    · skip
      exact absurd (by rw [jl200]; exact nI_le (by omega) (by omega)) c12
  | n + 1, i, k, m, x4, hi, hk, hps, hps5, hx, hQ => by
    rw [xRdL] at hQ
    refine j_iload_n dX4_readInto_8 rfl ?_
    refine j_sipush (v := 200) dX4_readInto_9 (by decide) ?_
    refine k_icmp_ge (tgt := 47) dX4_readInto_12 (by decide) (fun c12 c12' => ?_) (fun c12 c12' => ?_)
    · skip
      exact absurd c12 (by rw [jl200]; exact nI_ge (by omega) (by omega))
    · skip
      refine j_iload_n dX4_readInto_15 rfl ?_
      refine j_aload_n dX4_readInto_16 rfl ?_
      refine j_geti dX4_readInto_17 fl_X4_19 rfl (o_1 hs) ?_
      refine k_icmp_ge (tgt := 47) dX4_readInto_20 (by decide) (fun c20 c20' => ?_) (fun c20 c20' => ?_)
      · skip
        rw [if_neg c20'] at hQ
        refine j_bipush (v := (-4)) dX4_readInto_47 (by decide) ?_
        exact j_iret dX4_readInto_49 hQ
      · skip
        rw [if_pos c20'] at hQ
        obtain ⟨hx2, ⟨hps2, hps25⟩, hle⟩ := xItem_ok hq hps hps5 hx k
        refine j_aload_n dX4_readInto_23 rfl ?_
        refine j_iload_n dX4_readInto_24 rfl ?_
        refine j_aload_n dX4_readInto_25 rfl ?_
        refine j_cV2r dX4_readInto_26 (t_readItem (k := k) hs hq hps hps5 hx (by omega)) ml_X4_28 my_X4_readItem mi_X4_readItem (o_1 hs) rfl (by omega) (Nat.le_of_ble_eq_true rfl) (Nat.le_of_ble_eq_true rfl) ?_
        refine j_istore_4 dX4_readInto_29 rfl ?_
        cases hr : xItem q m k with
        | mk r m2 =>
        rw [hr] at hQ hx2 hps2 hps25 hle
        cases r with
        | none =>
            refine j_iload (x := -1) dX4_readInto_31 rfl ?_
            refine k_if_ge (tgt := 38) dX4_readInto_33 (by decide) (fun c33 c33' => ?_) (fun c33 c33' => ?_)
            · exact absurd c33 (by decide)
            · skip
              refine j_iload_n dX4_readInto_36 rfl ?_
              exact j_iret dX4_readInto_37 hQ
        | some k2 =>
            have hk2 := hle k2 rfl
            refine j_iload (x := nI k2) dX4_readInto_31 rfl ?_
            refine k_if_ge (tgt := 38) dX4_readInto_33 (by decide) (fun c33 c33' => ?_) (fun c33 c33' => ?_)
            · skip
              refine j_iload (x := nI k2) dX4_readInto_38 rfl ?_
              refine j_istore_2 dX4_readInto_40 rfl ?_
              refine j_iinc_3 (v := nI (i + 1)) dX4_readInto_41 (nI_add _ _) rfl ?_
              refine j_goto (tgt := 8) dX4_readInto_44 (by decide) ?_
              exact lp_read hd1 hs hq n (i + 1) k2 m2 _ (by omega) (by omega) hps2 hps25 hx2 hQ
            · exact absurd c33' (nI_pos (by omega))

set_option maxRecDepth 20000 in
theorem t_readInto {G : jG} {N : Nat} {κ : Nat → jK} {ρ : Nat → Nat → Option Nat} {μ : Nat → Nat → Int32} {ν : Nat → Nat → Int64} {q tl : Nat} (hs : shC N κ ρ) (hq : pln q) (hx : xOK μ tl) : MT G yX4_readInto cX4_readInto 5 (some .int) 5 0 0 [.ref 1, .ref q] (N, κ, ρ, μ, ν) (some (.int (xRead q μ).1)) (N, κ, ρ, (xRead q μ).2, ν) := by
  refine jMT (ini := false) my_X4_readInto (fun h => by cases h) (jRv_i _) (Nat.le_of_ble_eq_true rfl) ?_
  show J G RX4 cX4_readInto 5 false 5 _ 0 0 (N, κ, ρ, μ, ν) 0 [some (.ref 1), some (.ref q), none, none, none] []
  have hl1 : (1 : Nat) < q ∧ (2 : Nat) < q := by rcases hq with rfl | rfl <;> decide
  refine j_aload_n dX4_readInto_0 rfl ?_
  refine j_cV0v dX4_readInto_1 (t_clear hs hq) ml_X4_23 my_X3_clear mi_X3_clear (pO hs hq) rfl (by omega) (Nat.le_of_ble_eq_true rfl) (Nat.le_of_ble_eq_true rfl) ?_
  refine j_iconst (v := 0) dX4_readInto_4 (by decide) ?_
  refine j_istore_2 dX4_readInto_5 rfl ?_
  refine j_iconst (v := 0) dX4_readInto_6 (by decide) ?_
  refine j_istore_3 dX4_readInto_7 rfl ?_
  exact lp_read (by omega) hs hq 200 0 0 _ none (by omega) (by omega) (pClr_ps μ q).1 (pClr_ps μ q).2 ⟨by rw [pClr_lo (by omega)]; exact hx.1, hx.2.1, fun k => by rw [pClr_lo (by omega)]; exact hx.2.2 k⟩ ⟨rfl, rfl⟩

