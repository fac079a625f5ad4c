/-! TOWN: what its methods are, over the memory -/
abbrev jMem : Type := Nat → Nat → Int32
def tSt (μ : jMem) (a w : Nat) : Bool := decide (μ (a + 4) w < if μ 10 w = 3 then 2 else 1)
def tHeld (μ : jMem) (a x y : Nat) : Int32 := μ (a + 5) (x * 5 + y)
def tSet (μ : jMem) (a x y : Nat) (s : Int32) : jMem := jup μ (a + 5) (x * 5 + y) s
def tWF (μ : jMem) (a w : Nat) (n : Int32) : Bool := decide (μ (a + 1) w ≤ n * (μ (a + 2) w + 1))
def tLI (μ : jMem) (a w : Nat) : Bool := decide (μ 12 w ≤ μ (a + 2) w)
def tGo (μ : jMem) (a w : Nat) : jMem := jup μ (a + 2) w (if 7 < μ (a + 2) w + (if μ 10 w = 2 then 2 else 1) then 7 else μ (a + 2) w + (if μ 10 w = 2 then 2 else 1))
def rcp (μ : jMem) (s t n : Nat) : jMem := jrow μ t (fun j => if j < n then μ s j else μ t j)
def tCp (μ : jMem) (a b : Nat) : jMem :=
  let m := rcp (rcp (rcp (rcp (rcp μ (b + 1) (a + 1) 5) (b + 2) (a + 2) 5) (b + 3) (a + 3) 5) (b + 4) (a + 4) 5) (b + 5) (a + 5) 25
  let m := jup m a 6 (m b 6)
  jup m a 7 (m b 7)
def rfl5 (μ : jMem) (t n : Nat) (v : Int32) : jMem := jrow μ t (fun j => if j < n then v else μ t j)
def tLay (μ : jMem) (a : Nat) : jMem :=
  let m := rfl5 (rfl5 (rfl5 (rcp (rcp μ 11 (a + 1) 5) 13 (a + 5) 25) (a + 2) 5 0) (a + 3) 5 0) (a + 4) 5 0
  let m := jup m a 6 (m 9 1)
  jup m a 7 0
theorem five {w : Nat} (h : w < 5) : (w < 5) = True := by simp [h]
set_option maxRecDepth 20000 in
theorem t_stands {G : jG} {N : Nat} {κ : Nat → jK} {ρ : Nat → Nat → Option Nat} {μ : Nat → Nat → Int32} {ν : Nat → Nat → Int64} {a : Nat} (hs : shC N κ ρ) (ht : tw a) {w : Nat} (hw : w < 5) : MT G yX5_stands cX5_stands 2 (some .boolean) 0 0 0 [.ref a, .int (nI w)] (N, κ, ρ, μ, ν) (some (.int (jb (tSt μ a w)))) (N, κ, ρ, μ, ν) := by
  refine jMT (ini := false) my_X5_stands (fun h => by cases h) (jRv_jb _) (Nat.le_of_ble_eq_true rfl) ?_
  show J G RX5 cX5_stands 2 false 0 _ 0 0 (N, κ, ρ, μ, ν) 0 [some (.ref a), some (.int (nI w))] []
  refine j_aload_n dX5_stands_0 rfl ?_
  refine j_getr dX5_stands_1 fl_X5_21 rfl (tO hs ht) (tR4 hs ht) ?_
  refine j_iload_n dX5_stands_4 rfl ?_
  refine j_iald (k := w) dX5_stands_5 (tA4 hs ht) rfl (by omega) ?_
  refine j_aload_n dX5_stands_6 rfl ?_
  refine j_getr dX5_stands_7 fl_X5_34 rfl (tO hs ht) (tR0 hs ht) ?_
  refine j_getr dX5_stands_10 fl_X5_55 rfl (o_9 hs) (r_9_2 hs) ?_
  refine j_iload_n dX5_stands_13 rfl ?_
  refine j_iald (k := w) dX5_stands_14 (a_10 hs) rfl (by omega) ?_
  refine j_iconst (v := 3) dX5_stands_15 (by decide) ?_
  refine j_icmp_ne (tgt := 23) dX5_stands_16 (by decide) (fun c16 => ?_) (fun c16 => ?_)
  · skip
    refine j_iconst (v := 1) dX5_stands_23 (by decide) ?_
    refine k_icmp_ge (tgt := 31) dX5_stands_24 (by decide) (fun c24 c24' => ?_) (fun c24 c24' => ?_)
    · skip
      refine j_iconst (v := 0) dX5_stands_31 (by decide) ?_
      exact j_iret dX5_stands_32 ⟨by simp [tSt, jb, c16, c24, c24'], rfl⟩
    · skip
      refine j_iconst (v := 1) dX5_stands_27 (by decide) ?_
      refine j_goto (tgt := 32) dX5_stands_28 (by decide) ?_
      exact j_iret dX5_stands_32 ⟨by simp [tSt, jb, c16, c24, c24'], rfl⟩
  · skip
    refine j_iconst (v := 2) dX5_stands_19 (by decide) ?_
    refine j_goto (tgt := 24) dX5_stands_20 (by decide) ?_
    refine k_icmp_ge (tgt := 31) dX5_stands_24 (by decide) (fun c24 c24' => ?_) (fun c24 c24' => ?_)
    · skip
      refine j_iconst (v := 0) dX5_stands_31 (by decide) ?_
      exact j_iret dX5_stands_32 ⟨by simp [tSt, jb, eq_true c16, c24, c24'], rfl⟩
    · skip
      refine j_iconst (v := 1) dX5_stands_27 (by decide) ?_
      refine j_goto (tgt := 32) dX5_stands_28 (by decide) ?_
      exact j_iret dX5_stands_32 ⟨by simp [tSt, jb, eq_true c16, c24, c24'], rfl⟩

set_option maxRecDepth 20000 in
theorem t_heldBy {G : jG} {N : Nat} {κ : Nat → jK} {ρ : Nat → Nat → Option Nat} {μ : Nat → Nat → Int32} {ν : Nat → Nat → Int64} {a : Nat} (hs : shC N κ ρ) (ht : tw a) {x y : Nat} (hx : x < 5) (hy : y < 5) : MT G yX5_heldBy cX5_heldBy 3 (some .int) 0 0 0 [.ref a, .int (nI x), .int (nI y)] (N, κ, ρ, μ, ν) (some (.int (tHeld μ a x y))) (N, κ, ρ, μ, ν) := by
  refine jMT (ini := false) my_X5_heldBy (fun h => by cases h) (jRv_i _) (Nat.le_of_ble_eq_true rfl) ?_
  show J G RX5 cX5_heldBy 3 false 0 _ 0 0 (N, κ, ρ, μ, ν) 0 [some (.ref a), some (.int (nI x)), some (.int (nI y))] []
  refine j_aload_n dX5_heldBy_0 rfl ?_
  refine j_getr dX5_heldBy_1 fl_X5_24 rfl (tO hs ht) (tR5 hs ht) ?_
  refine j_iload_n dX5_heldBy_4 rfl ?_
  refine j_iconst (v := 5) dX5_heldBy_5 (by decide) ?_
  refine j_imul dX5_heldBy_6 ?_
  refine j_iload_n dX5_heldBy_7 rfl ?_
  refine j_iadd dX5_heldBy_8 ?_
  refine j_iald (k := ((x * 5) + y)) dX5_heldBy_9 (tA5 hs ht) (by simp only [jl5, nI_add, pk_mul]) (by omega) ?_
  exact j_iret dX5_heldBy_10 ⟨rfl, rfl⟩

set_option maxRecDepth 20000 in
theorem t_setProp {G : jG} {N : Nat} {κ : Nat → jK} {ρ : Nat → Nat → Option Nat} {μ : Nat → Nat → Int32} {ν : Nat → Nat → Int64} {a : Nat} (hs : shC N κ ρ) (ht : tw a) {x y : Nat} {s : Int32} (hx : x < 5) (hy : y < 5) : MT G yX5_setProp cX5_setProp 4 none 0 0 0 [.ref a, .int (nI x), .int (nI y), .int s] (N, κ, ρ, μ, ν) none (N, κ, ρ, tSet μ a x y s, ν) := by
  refine jMT (ini := false) my_X5_setProp (fun h => by cases h) jRv_v (Nat.le_of_ble_eq_true rfl) ?_
  show J G RX5 cX5_setProp 4 false 0 _ 0 0 (N, κ, ρ, μ, ν) 0 [some (.ref a), some (.int (nI x)), some (.int (nI y)), some (.int s)] []
  refine j_aload_n dX5_setProp_0 rfl ?_
  refine j_getr dX5_setProp_1 fl_X5_24 rfl (tO hs ht) (tR5 hs ht) ?_
  refine j_iload_n dX5_setProp_4 rfl ?_
  refine j_iconst (v := 5) dX5_setProp_5 (by decide) ?_
  refine j_imul dX5_setProp_6 ?_
  refine j_iload_n dX5_setProp_7 rfl ?_
  refine j_iadd dX5_setProp_8 ?_
  refine j_iload_n dX5_setProp_9 rfl ?_
  refine j_iast (k := ((x * 5) + y)) dX5_setProp_10 (tA5 hs ht) (by simp only [jl5, nI_add, pk_mul]) (by omega) ?_
  exact j_vret dX5_setProp_11 ⟨rfl, rfl⟩

set_option maxRecDepth 20000 in
theorem t_goRound {G : jG} {N : Nat} {κ : Nat → jK} {ρ : Nat → Nat → Option Nat} {μ : Nat → Nat → Int32} {ν : Nat → Nat → Int64} {a : Nat} (hs : shC N κ ρ) (ht : tw a) {w : Nat} (hw : w < 5) : MT G yX5_goRound cX5_goRound 3 none 1 0 0 [.ref a, .int (nI w)] (N, κ, ρ, μ, ν) none (N, κ, ρ, tGo μ a w, ν) := by
  refine jMT (ini := false) my_X5_goRound (fun h => by cases h) jRv_v (Nat.le_of_ble_eq_true rfl) ?_
  show J G RX5 cX5_goRound 3 false 1 _ 0 0 (N, κ, ρ, μ, ν) 0 [some (.ref a), some (.int (nI w)), none] []
  refine j_aload_n dX5_goRound_0 rfl ?_
  refine j_getr dX5_goRound_1 fl_X5_34 rfl (tO hs ht) (tR0 hs ht) ?_
  refine j_getr dX5_goRound_4 fl_X5_55 rfl (o_9 hs) (r_9_2 hs) ?_
  refine j_iload_n dX5_goRound_7 rfl ?_
  refine j_iald (k := w) dX5_goRound_8 (a_10 hs) rfl (by omega) ?_
  refine j_iconst (v := 2) dX5_goRound_9 (by decide) ?_
  refine j_icmp_ne (tgt := 17) dX5_goRound_10 (by decide) (fun c10 => ?_) (fun c10 => ?_)
  · skip
    refine j_iconst (v := 1) dX5_goRound_17 (by decide) ?_
    refine j_istore_2 dX5_goRound_18 rfl ?_
    refine j_aload_n dX5_goRound_19 rfl ?_
    refine j_getr dX5_goRound_20 fl_X5_15 rfl (tO hs ht) (tR2 hs ht) ?_
    refine j_iload_n dX5_goRound_23 rfl ?_
    refine j_aload_n dX5_goRound_24 rfl ?_
    refine j_getr dX5_goRound_25 fl_X5_15 rfl (tO hs ht) (tR2 hs ht) ?_
    refine j_iload_n dX5_goRound_28 rfl ?_
    refine j_iald (k := w) dX5_goRound_29 (tA2 hs ht) rfl (by omega) ?_
    refine j_iload_n dX5_goRound_30 rfl ?_
    refine j_iadd dX5_goRound_31 ?_
    refine j_bipush (v := 7) dX5_goRound_32 (by decide) ?_
    refine j_mmin dX5_goRound_34 ml_X5_65 (by omega) (Nat.le_of_ble_eq_true rfl) ?_
    refine j_iast (k := w) dX5_goRound_37 (tA2 hs ht) rfl (by omega) ?_
    exact j_vret dX5_goRound_38 ⟨rfl, by simp only [tGo, c10, reduceIte]⟩
  · skip
    refine j_iconst (v := 2) dX5_goRound_13 (by decide) ?_
    refine j_goto (tgt := 18) dX5_goRound_14 (by decide) ?_
    refine j_istore_2 dX5_goRound_18 rfl ?_
    refine j_aload_n dX5_goRound_19 rfl ?_
    refine j_getr dX5_goRound_20 fl_X5_15 rfl (tO hs ht) (tR2 hs ht) ?_
    refine j_iload_n dX5_goRound_23 rfl ?_
    refine j_aload_n dX5_goRound_24 rfl ?_
    refine j_getr dX5_goRound_25 fl_X5_15 rfl (tO hs ht) (tR2 hs ht) ?_
    refine j_iload_n dX5_goRound_28 rfl ?_
    refine j_iald (k := w) dX5_goRound_29 (tA2 hs ht) rfl (by omega) ?_
    refine j_iload_n dX5_goRound_30 rfl ?_
    refine j_iadd dX5_goRound_31 ?_
    refine j_bipush (v := 7) dX5_goRound_32 (by decide) ?_
    refine j_mmin dX5_goRound_34 ml_X5_65 (by omega) (Nat.le_of_ble_eq_true rfl) ?_
    refine j_iast (k := w) dX5_goRound_37 (tA2 hs ht) rfl (by omega) ?_
    exact j_vret dX5_goRound_38 ⟨rfl, by simp only [tGo, eq_true c10, reduceIte]⟩

set_option maxRecDepth 20000 in
theorem t_wouldFall {G : jG} {N : Nat} {κ : Nat → jK} {ρ : Nat → Nat → Option Nat} {μ : Nat → Nat → Int32} {ν : Nat → Nat → Int64} {a : Nat} (hs : shC N κ ρ) (ht : tw a) {w : Nat} {n : Int32} (hw : w < 5) : MT G yX5_wouldFall cX5_wouldFall 3 (some .boolean) 0 0 0 [.ref a, .int (nI w), .int n] (N, κ, ρ, μ, ν) (some (.int (jb (tWF μ a w n)))) (N, κ, ρ, μ, ν) := by
  refine jMT (ini := false) my_X5_wouldFall (fun h => by cases h) (jRv_jb _) (Nat.le_of_ble_eq_true rfl) ?_
  show J G RX5 cX5_wouldFall 3 false 0 _ 0 0 (N, κ, ρ, μ, ν) 0 [some (.ref a), some (.int (nI w)), some (.int n)] []
  refine j_iload_n dX5_wouldFall_0 rfl ?_
  refine j_aload_n dX5_wouldFall_1 rfl ?_
  refine j_getr dX5_wouldFall_2 fl_X5_15 rfl (tO hs ht) (tR2 hs ht) ?_
  refine j_iload_n dX5_wouldFall_5 rfl ?_
  refine j_iald (k := w) dX5_wouldFall_6 (tA2 hs ht) rfl (by omega) ?_
  refine j_iconst (v := 1) dX5_wouldFall_7 (by decide) ?_
  refine j_iadd dX5_wouldFall_8 ?_
  refine j_imul dX5_wouldFall_9 ?_
  refine j_aload_n dX5_wouldFall_10 rfl ?_
  refine j_getr dX5_wouldFall_11 fl_X5_9 rfl (tO hs ht) (tR1 hs ht) ?_
  refine j_iload_n dX5_wouldFall_14 rfl ?_
  refine j_iald (k := w) dX5_wouldFall_15 (tA1 hs ht) rfl (by omega) ?_
  refine k_icmp_lt (tgt := 23) dX5_wouldFall_16 (by decide) (fun c16 c16' => ?_) (fun c16 c16' => ?_)
  · skip
    refine j_iconst (v := 0) dX5_wouldFall_23 (by decide) ?_
    exact j_iret dX5_wouldFall_24 ⟨by simp [tWF, jb, c16, c16'], rfl⟩
  · skip
    refine j_iconst (v := 1) dX5_wouldFall_19 (by decide) ?_
    refine j_goto (tgt := 24) dX5_wouldFall_20 (by decide) ?_
    exact j_iret dX5_wouldFall_24 ⟨by simp [tWF, jb, c16, c16'], rfl⟩

set_option maxRecDepth 20000 in
theorem t_leansInward {G : jG} {N : Nat} {κ : Nat → jK} {ρ : Nat → Nat → Option Nat} {μ : Nat → Nat → Int32} {ν : Nat → Nat → Int64} {a : Nat} (hs : shC N κ ρ) (ht : tw a) {w : Nat} (hw : w < 5) : MT G yX5_leansInward cX5_leansInward 2 (some .boolean) 0 0 0 [.ref a, .int (nI w)] (N, κ, ρ, μ, ν) (some (.int (jb (tLI μ a w)))) (N, κ, ρ, μ, ν) := by
  refine jMT (ini := false) my_X5_leansInward (fun h => by cases h) (jRv_jb _) (Nat.le_of_ble_eq_true rfl) ?_
  show J G RX5 cX5_leansInward 2 false 0 _ 0 0 (N, κ, ρ, μ, ν) 0 [some (.ref a), some (.int (nI w))] []
  refine j_aload_n dX5_leansInward_0 rfl ?_
  refine j_getr dX5_leansInward_1 fl_X5_15 rfl (tO hs ht) (tR2 hs ht) ?_
  refine j_iload_n dX5_leansInward_4 rfl ?_
  refine j_iald (k := w) dX5_leansInward_5 (tA2 hs ht) rfl (by omega) ?_
  refine j_aload_n dX5_leansInward_6 rfl ?_
  refine j_getr dX5_leansInward_7 fl_X5_34 rfl (tO hs ht) (tR0 hs ht) ?_
  refine j_getr dX5_leansInward_10 fl_X5_70 rfl (o_9 hs) (r_9_4 hs) ?_
  refine j_iload_n dX5_leansInward_13 rfl ?_
  refine j_iald (k := w) dX5_leansInward_14 (a_12 hs) rfl (by omega) ?_
  refine k_icmp_lt (tgt := 22) dX5_leansInward_15 (by decide) (fun c15 c15' => ?_) (fun c15 c15' => ?_)
  · skip
    refine j_iconst (v := 0) dX5_leansInward_22 (by decide) ?_
    exact j_iret dX5_leansInward_23 ⟨by simp [tLI, jb, c15, c15'], rfl⟩
  · skip
    refine j_iconst (v := 1) dX5_leansInward_18 (by decide) ?_
    refine j_goto (tgt := 23) dX5_leansInward_19 (by decide) ?_
    exact j_iret dX5_leansInward_23 ⟨by simp [tLI, jb, c15, c15'], rfl⟩

set_option maxRecDepth 20000 in
theorem t_copyFrom {G : jG} {N : Nat} {κ : Nat → jK} {ρ : Nat → Nat → Option Nat} {μ : Nat → Nat → Int32} {ν : Nat → Nat → Int64} {a : Nat} (hs : shC N κ ρ) (ht : tw a) {b : Nat} (hb : tw b) : MT G yX5_copyFrom cX5_copyFrom 2 none 1 0 0 [.ref a, .ref b] (N, κ, ρ, μ, ν) none (N, κ, ρ, tCp μ a b, ν) := by
  refine jMT (ini := false) my_X5_copyFrom (fun h => by cases h) jRv_v (Nat.le_of_ble_eq_true rfl) ?_
  show J G RX5 cX5_copyFrom 2 false 1 _ 0 0 (N, κ, ρ, μ, ν) 0 [some (.ref a), some (.ref b)] []
  refine j_aload_n dX5_copyFrom_0 rfl ?_
  refine j_getr dX5_copyFrom_1 fl_X5_9 rfl (tO hs hb) (tR1 hs hb) ?_
  refine j_iconst (v := 0) dX5_copyFrom_4 (by decide) ?_
  refine j_aload_n dX5_copyFrom_5 rfl ?_
  refine j_getr dX5_copyFrom_6 fl_X5_9 rfl (tO hs ht) (tR1 hs ht) ?_
  refine j_iconst (v := 0) dX5_copyFrom_9 (by decide) ?_
  refine j_iconst (v := 5) dX5_copyFrom_10 (by decide) ?_
  refine j_copyi (k := 5) dX5_copyFrom_11 ml_X5_41 (tA1 hs hb) (tA1 hs ht) rfl (by omega) (by omega) (by omega) (Nat.le_of_ble_eq_true rfl) ?_
  refine j_aload_n dX5_copyFrom_14 rfl ?_
  refine j_getr dX5_copyFrom_15 fl_X5_15 rfl (tO hs hb) (tR2 hs hb) ?_
  refine j_iconst (v := 0) dX5_copyFrom_18 (by decide) ?_
  refine j_aload_n dX5_copyFrom_19 rfl ?_
  refine j_getr dX5_copyFrom_20 fl_X5_15 rfl (tO hs ht) (tR2 hs ht) ?_
  refine j_iconst (v := 0) dX5_copyFrom_23 (by decide) ?_
  refine j_iconst (v := 5) dX5_copyFrom_24 (by decide) ?_
  refine j_copyi (k := 5) dX5_copyFrom_25 ml_X5_41 (tA2 hs hb) (tA2 hs ht) rfl (by omega) (by omega) (by omega) (Nat.le_of_ble_eq_true rfl) ?_
  refine j_aload_n dX5_copyFrom_28 rfl ?_
  refine j_getr dX5_copyFrom_29 fl_X5_18 rfl (tO hs hb) (tR3 hs hb) ?_
  refine j_iconst (v := 0) dX5_copyFrom_32 (by decide) ?_
  refine j_aload_n dX5_copyFrom_33 rfl ?_
  refine j_getr dX5_copyFrom_34 fl_X5_18 rfl (tO hs ht) (tR3 hs ht) ?_
  refine j_iconst (v := 0) dX5_copyFrom_37 (by decide) ?_
  refine j_iconst (v := 5) dX5_copyFrom_38 (by decide) ?_
  refine j_copyi (k := 5) dX5_copyFrom_39 ml_X5_41 (tA3 hs hb) (tA3 hs ht) rfl (by omega) (by omega) (by omega) (Nat.le_of_ble_eq_true rfl) ?_
  refine j_aload_n dX5_copyFrom_42 rfl ?_
  refine j_getr dX5_copyFrom_43 fl_X5_21 rfl (tO hs hb) (tR4 hs hb) ?_
  refine j_iconst (v := 0) dX5_copyFrom_46 (by decide) ?_
  refine j_aload_n dX5_copyFrom_47 rfl ?_
  refine j_getr dX5_copyFrom_48 fl_X5_21 rfl (tO hs ht) (tR4 hs ht) ?_
  refine j_iconst (v := 0) dX5_copyFrom_51 (by decide) ?_
  refine j_iconst (v := 5) dX5_copyFrom_52 (by decide) ?_
  refine j_copyi (k := 5) dX5_copyFrom_53 ml_X5_41 (tA4 hs hb) (tA4 hs ht) rfl (by omega) (by omega) (by omega) (Nat.le_of_ble_eq_true rfl) ?_
  refine j_aload_n dX5_copyFrom_56 rfl ?_
  refine j_getr dX5_copyFrom_57 fl_X5_24 rfl (tO hs hb) (tR5 hs hb) ?_
  refine j_iconst (v := 0) dX5_copyFrom_60 (by decide) ?_
  refine j_aload_n dX5_copyFrom_61 rfl ?_
  refine j_getr dX5_copyFrom_62 fl_X5_24 rfl (tO hs ht) (tR5 hs ht) ?_
  refine j_iconst (v := 0) dX5_copyFrom_65 (by decide) ?_
  refine j_aload_n dX5_copyFrom_66 rfl ?_
  refine j_getr dX5_copyFrom_67 fl_X5_24 rfl (tO hs ht) (tR5 hs ht) ?_
  refine j_alen dX5_copyFrom_70 (tA5 hs ht) ?_
  refine j_copyi (k := 25) dX5_copyFrom_71 ml_X5_41 (tA5 hs hb) (tA5 hs ht) rfl (by omega) (by omega) (by omega) (Nat.le_of_ble_eq_true rfl) ?_
  refine j_aload_n dX5_copyFrom_74 rfl ?_
  refine j_aload_n dX5_copyFrom_75 rfl ?_
  refine j_geti dX5_copyFrom_76 fl_X5_27 rfl (tO hs hb) ?_
  refine j_puti dX5_copyFrom_79 fl_X5_27 rfl (tO hs ht) ?_
  refine j_aload_n dX5_copyFrom_82 rfl ?_
  refine j_aload_n dX5_copyFrom_83 rfl ?_
  refine j_geti dX5_copyFrom_84 fl_X5_31 rfl (tO hs hb) ?_
  refine j_puti dX5_copyFrom_87 fl_X5_31 rfl (tO hs ht) ?_
  exact j_vret dX5_copyFrom_90 ⟨rfl, rfl⟩

set_option maxRecDepth 20000 in
theorem t_layOut {G : jG} {N : Nat} {κ : Nat → jK} {ρ : Nat → Nat → Option Nat} {μ : Nat → Nat → Int32} {ν : Nat → Nat → Int64} {a : Nat} (hs : shC N κ ρ) (ht : tw a) : MT G yX5_layOut cX5_layOut 1 none 1 0 0 [.ref a] (N, κ, ρ, μ, ν) none (N, κ, ρ, tLay μ a, ν) := by
  refine jMT (ini := false) my_X5_layOut (fun h => by cases h) jRv_v (Nat.le_of_ble_eq_true rfl) ?_
  show J G RX5 cX5_layOut 1 false 1 _ 0 0 (N, κ, ρ, μ, ν) 0 [some (.ref a)] []
  refine j_aload_n dX5_layOut_0 rfl ?_
  refine j_getr dX5_layOut_1 fl_X5_34 rfl (tO hs ht) (tR0 hs ht) ?_
  refine j_getr dX5_layOut_4 fl_X5_38 rfl (o_9 hs) (r_9_3 hs) ?_
  refine j_iconst (v := 0) dX5_layOut_7 (by decide) ?_
  refine j_aload_n dX5_layOut_8 rfl ?_
  refine j_getr dX5_layOut_9 fl_X5_9 rfl (tO hs ht) (tR1 hs ht) ?_
  refine j_iconst (v := 0) dX5_layOut_12 (by decide) ?_
  refine j_iconst (v := 5) dX5_layOut_13 (by decide) ?_
  refine j_copyi (k := 5) dX5_layOut_14 ml_X5_41 (a_11 hs) (tA1 hs ht) rfl (by omega) (by omega) (by omega) (Nat.le_of_ble_eq_true rfl) ?_
  refine j_aload_n dX5_layOut_17 rfl ?_
  refine j_getr dX5_layOut_18 fl_X5_34 rfl (tO hs ht) (tR0 hs ht) ?_
  refine j_getr dX5_layOut_21 fl_X5_47 rfl (o_9 hs) (r_9_5 hs) ?_
  refine j_iconst (v := 0) dX5_layOut_24 (by decide) ?_
  refine j_aload_n dX5_layOut_25 rfl ?_
  refine j_getr dX5_layOut_26 fl_X5_24 rfl (tO hs ht) (tR5 hs ht) ?_
  refine j_iconst (v := 0) dX5_layOut_29 (by decide) ?_
  refine j_aload_n dX5_layOut_30 rfl ?_
  refine j_getr dX5_layOut_31 fl_X5_24 rfl (tO hs ht) (tR5 hs ht) ?_
  refine j_alen dX5_layOut_34 (tA5 hs ht) ?_
  refine j_copyi (k := 25) dX5_layOut_35 ml_X5_41 (a_13 hs) (tA5 hs ht) rfl (by omega) (by omega) (by omega) (Nat.le_of_ble_eq_true rfl) ?_
  refine j_aload_n dX5_layOut_38 rfl ?_
  refine j_getr dX5_layOut_39 fl_X5_15 rfl (tO hs ht) (tR2 hs ht) ?_
  refine j_iconst (v := 0) dX5_layOut_42 (by decide) ?_
  refine j_cS2v dX5_layOut_43 (t_fill (tA2 hs ht)) ml_X5_48 my_J7_fill_53178 ms_J7_fill_53178 (by omega) (Nat.le_of_ble_eq_true rfl) (Nat.le_of_ble_eq_true rfl) ?_
  refine j_aload_n dX5_layOut_46 rfl ?_
  refine j_getr dX5_layOut_47 fl_X5_18 rfl (tO hs ht) (tR3 hs ht) ?_
  refine j_iconst (v := 0) dX5_layOut_50 (by decide) ?_
  refine j_cS2v dX5_layOut_51 (t_fill (tA3 hs ht)) ml_X5_48 my_J7_fill_53178 ms_J7_fill_53178 (by omega) (Nat.le_of_ble_eq_true rfl) (Nat.le_of_ble_eq_true rfl) ?_
  refine j_aload_n dX5_layOut_54 rfl ?_
  refine j_getr dX5_layOut_55 fl_X5_21 rfl (tO hs ht) (tR4 hs ht) ?_
  refine j_iconst (v := 0) dX5_layOut_58 (by decide) ?_
  refine j_cS2v dX5_layOut_59 (t_fill (tA4 hs ht)) ml_X5_48 my_J7_fill_53178 ms_J7_fill_53178 (by omega) (Nat.le_of_ble_eq_true rfl) (Nat.le_of_ble_eq_true rfl) ?_
  refine j_aload_n dX5_layOut_62 rfl ?_
  refine j_aload_n dX5_layOut_63 rfl ?_
  refine j_getr dX5_layOut_64 fl_X5_34 rfl (tO hs ht) (tR0 hs ht) ?_
  refine j_geti dX5_layOut_67 fl_X5_54 rfl (o_9 hs) ?_
  refine j_puti dX5_layOut_70 fl_X5_27 rfl (tO hs ht) ?_
  refine j_aload_n dX5_layOut_73 rfl ?_
  refine j_iconst (v := 0) dX5_layOut_74 (by decide) ?_
  refine j_puti dX5_layOut_75 fl_X5_31 rfl (tO hs ht) ?_
  exact j_vret dX5_layOut_78 ⟨rfl, rfl⟩

