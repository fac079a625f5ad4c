/-! WHAT THE CONSTRUCTORS LEAVE -/
def hA (t : FieldType) (n : Nat) (h : jH) : jH := (h.1 + 1, jkd h.2.1 h.1 (.inr (t, n)), jrow h.2.2.1 h.1 (fun _ => none), jrow h.2.2.2.1 h.1 (fun _ => 0), jrow h.2.2.2.2 h.1 (fun _ => 0))
def hO (ci : Nat) (h : jH) : jH := (h.1 + 1, jkd h.2.1 h.1 (.inl ci), jrow h.2.2.1 h.1 (fun _ => none), jrow h.2.2.2.1 h.1 (fun _ => 0), h.2.2.2.2)
def hR (a j b : Nat) (h : jH) : jH := (h.1, h.2.1, jup h.2.2.1 a j (some b), h.2.2.2.1, h.2.2.2.2)
def hV (a j : Nat) (v : Int32) (h : jH) : jH := (h.1, h.2.1, h.2.2.1, jup h.2.2.2.1 a j v, h.2.2.2.2)
def hRA (a j : Nat) (t : FieldType) (n : Nat) (h : jH) : jH := hR a j h.1 (hA t n h)
theorem jO_s {N a ci : Nat} {κ : Nat → jK} {x : jK} (h : jO N κ a ci) : jO (N + 1) (jkd κ N x) a ci := ⟨Nat.lt_succ_of_lt h.1, by unfold jkd; rw [if_neg (Nat.ne_of_lt h.1)]; exact h.2⟩
theorem jA_s {N a n : Nat} {t : FieldType} {κ : Nat → jK} {x : jK} (h : jA N κ a t n) : jA (N + 1) (jkd κ N x) a t n := ⟨Nat.lt_succ_of_lt h.1, by unfold jkd; rw [if_neg (Nat.ne_of_lt h.1)]; exact h.2.1, h.2.2⟩
theorem jO_n {N ci : Nat} {κ : Nat → jK} : jO (N + 1) (jkd κ N (.inl ci)) N ci := ⟨Nat.lt_succ_self N, by unfold jkd; rw [if_pos rfl]⟩
theorem jA_n {N n : Nat} {t : FieldType} {κ : Nat → jK} (hn : n < 2 ^ 31) : jA (N + 1) (jkd κ N (.inr (t, n))) N t n := ⟨Nat.lt_succ_self N, by unfold jkd; rw [if_pos rfl], hn⟩
theorem j_obj {G : jG} {own : String} {cc : ByteArray} {nL : Nat} {ini : Bool} {d : Nat} {Q : Option Value → jH → Prop} {ac sc pc : Nat} {lo : List (Option Value)} {st : List Value} {h : jH} {a idx : Nat} (hd : decode cc pc = .ok (.invokespecial idx, 3)) (hl : Cond.methodLink own idx objectInit ∈ jTs) (hdd : 1 ≤ d) (hst : (st.map fun v => v.category).sum ≤ 8) (k : J G own cc nL ini d Q ac sc h (pc + 3) lo st) : J G own cc nL ini d Q ac sc h pc lo (.ref a :: st) := by
  intro p l e R s m args below meth c Z hM hK H locs cells slots ls hW hL hc hs hls
  obtain ⟨m1, m2, m3, m4, m5, -, m7, m8, -⟩ := id hM
  refine W.objInit (own := own) m1 m2 m4 (m5 _ hl) (m5 _ mk_obj) (m5 _ co_obj) rfl ?_ (rest := st.map (jtr G)) rfl hd (by omega) ?_ (k p l e R s m args below meth c Z hM hK H locs cells slots ls hW hL hc hs hls)
  · rw [m3]; exact hls.2.1
  · rw [jcat]
    have : (F0 m pc ls (jtr G (.ref a) :: st.map (jtr G))).monitorRoom = 0 := rfl
    show 2 * (F0 m pc ls (jtr G (.ref a) :: st.map (jtr G))).monitorRoom + _ + 12 ≤ _
    rw [this]; omega
def h0c (a : Nat) (h : jH) : jH := (hV a 3 0 (hRA a 2 .int 6 (hRA a 1 .int 6 (hRA a 0 .int 6 h))))
set_option maxRecDepth 20000 in
theorem k_X0 {G : jG} {N : Nat} {κ : Nat → jK} {ρ : Nat → Nat → Option Nat} {μ : Nat → Nat → Int32} {ν : Nat → Nat → Int64} {a : Nat} (ho : jO N κ a 0) : MT G yX0_init cX0_init 1 none 1 3 18 [.ref a] (N, κ, ρ, μ, ν) none (h0c a (N, κ, ρ, μ, ν)) := by
  refine jMT (ini := true) my_X0_init (fun _ => rfl) jRv_v (Nat.le_of_ble_eq_true rfl) ?_
  show J G RX0 cX0_init 1 true 1 _ 3 18 (N, κ, ρ, μ, ν) 0 [some (.ref a)] []
  refine j_aload_n dX0_init_0 rfl ?_
  refine j_obj dX0_init_1 ml_X0_3 (by omega) (by decide) ?_
  refine j_aload_n dX0_init_4 rfl ?_
  refine j_bipush (v := 6) dX0_init_5 (by decide) ?_
  refine j_newa (len := 6) (idx := 0) dX0_init_7 ac_int rfl (by decide) (by decide) ?_
  refine j_putF dX0_init_9 fl_X0_9 rfl (jO_s ho) rfl rfl rfl rfl ?_
  refine j_aload_n dX0_init_12 rfl ?_
  refine j_bipush (v := 6) dX0_init_13 (by decide) ?_
  refine j_newa (len := 6) (idx := 0) dX0_init_15 ac_int rfl (by decide) (by decide) ?_
  refine j_putF dX0_init_17 fl_X0_15 rfl (jO_s (jO_s ho)) rfl rfl rfl rfl ?_
  refine j_aload_n dX0_init_20 rfl ?_
  refine j_bipush (v := 6) dX0_init_21 (by decide) ?_
  refine j_newa (len := 6) (idx := 0) dX0_init_23 ac_int rfl (by decide) (by decide) ?_
  refine j_putF dX0_init_25 fl_X0_18 rfl (jO_s (jO_s (jO_s ho))) rfl rfl rfl rfl ?_
  refine j_aload_n dX0_init_28 rfl ?_
  refine j_iconst (v := 0) dX0_init_29 (by decide) ?_
  refine j_puti dX0_init_30 fl_X0_21 rfl (jO_s (jO_s (jO_s ho))) ?_
  exact j_vret dX0_init_33 ⟨rfl, rfl⟩

def h3c (a : Nat) (h : jH) : jH := (hRA a 5 .int 25 (hRA a 4 .int 5 (hRA a 3 .int 5 (hRA a 2 .int 5 (hV a 1 0 (hV a 0 0 h))))))
set_option maxRecDepth 20000 in
theorem k_X3 {G : jG} {N : Nat} {κ : Nat → jK} {ρ : Nat → Nat → Option Nat} {μ : Nat → Nat → Int32} {ν : Nat → Nat → Int64} {a : Nat} (ho : jO N κ a 3) : MT G yX3_init cX3_init 1 none 1 4 40 [.ref a] (N, κ, ρ, μ, ν) none (h3c a (N, κ, ρ, μ, ν)) := by
  refine jMT (ini := true) my_X3_init (fun _ => rfl) jRv_v (Nat.le_of_ble_eq_true rfl) ?_
  show J G RX3 cX3_init 1 true 1 _ 4 40 (N, κ, ρ, μ, ν) 0 [some (.ref a)] []
  refine j_aload_n dX3_init_0 rfl ?_
  refine j_obj dX3_init_1 ml_X3_3 (by omega) (by decide) ?_
  refine j_aload_n dX3_init_4 rfl ?_
  refine j_iconst (v := 0) dX3_init_5 (by decide) ?_
  refine j_puti dX3_init_6 fl_X3_9 rfl ho ?_
  refine j_aload_n dX3_init_9 rfl ?_
  refine j_iconst (v := 0) dX3_init_10 (by decide) ?_
  refine j_puti dX3_init_11 fl_X3_15 rfl ho ?_
  refine j_aload_n dX3_init_14 rfl ?_
  refine j_iconst (v := 5) dX3_init_15 (by decide) ?_
  refine j_newa (len := 5) (idx := 0) dX3_init_16 ac_int rfl (by decide) (by decide) ?_
  refine j_putF dX3_init_18 fl_X3_18 rfl (jO_s ho) rfl rfl rfl rfl ?_
  refine j_aload_n dX3_init_21 rfl ?_
  refine j_iconst (v := 5) dX3_init_22 (by decide) ?_
  refine j_newa (len := 5) (idx := 0) dX3_init_23 ac_int rfl (by decide) (by decide) ?_
  refine j_putF dX3_init_25 fl_X3_22 rfl (jO_s (jO_s ho)) rfl rfl rfl rfl ?_
  refine j_aload_n dX3_init_28 rfl ?_
  refine j_iconst (v := 5) dX3_init_29 (by decide) ?_
  refine j_newa (len := 5) (idx := 0) dX3_init_30 ac_int rfl (by decide) (by decide) ?_
  refine j_putF dX3_init_32 fl_X3_25 rfl (jO_s (jO_s (jO_s ho))) rfl rfl rfl rfl ?_
  refine j_aload_n dX3_init_35 rfl ?_
  refine j_bipush (v := 25) dX3_init_36 (by decide) ?_
  refine j_newa (len := 25) (idx := 0) dX3_init_38 ac_int rfl (by decide) (by decide) ?_
  refine j_putF dX3_init_40 fl_X3_28 rfl (jO_s (jO_s (jO_s (jO_s ho)))) rfl rfl rfl rfl ?_
  exact j_vret dX3_init_43 ⟨rfl, rfl⟩

def h4c (a : Nat) (h : jH) : jH := (hV a 2 0 (hRA a 1 .int 3 (hRA a 0 .char 200 h)))
set_option maxRecDepth 20000 in
theorem k_X4 {G : jG} {N : Nat} {κ : Nat → jK} {ρ : Nat → Nat → Option Nat} {μ : Nat → Nat → Int32} {ν : Nat → Nat → Int64} {a : Nat} (ho : jO N κ a 4) : MT G yX4_init cX4_init 1 none 1 2 203 [.ref a] (N, κ, ρ, μ, ν) none (h4c a (N, κ, ρ, μ, ν)) := by
  refine jMT (ini := true) my_X4_init (fun _ => rfl) jRv_v (Nat.le_of_ble_eq_true rfl) ?_
  show J G RX4 cX4_init 1 true 1 _ 2 203 (N, κ, ρ, μ, ν) 0 [some (.ref a)] []
  refine j_aload_n dX4_init_0 rfl ?_
  refine j_obj dX4_init_1 ml_X4_3 (by omega) (by decide) ?_
  refine j_aload_n dX4_init_4 rfl ?_
  refine j_sipush (v := 200) dX4_init_5 (by decide) ?_
  refine j_newa (len := 200) (idx := 0) dX4_init_8 ac_char rfl (by decide) (by decide) ?_
  refine j_putF dX4_init_10 fl_X4_9 rfl (jO_s ho) rfl rfl rfl rfl ?_
  refine j_aload_n dX4_init_13 rfl ?_
  refine j_iconst (v := 3) dX4_init_14 (by decide) ?_
  refine j_newa (len := 3) (idx := 0) dX4_init_15 ac_int rfl (by decide) (by decide) ?_
  refine j_putF dX4_init_17 fl_X4_15 rfl (jO_s (jO_s ho)) rfl rfl rfl rfl ?_
  refine j_aload_n dX4_init_20 rfl ?_
  refine j_iconst (v := 0) dX4_init_21 (by decide) ?_
  refine j_puti dX4_init_22 fl_X4_19 rfl (jO_s (jO_s ho)) ?_
  exact j_vret dX4_init_25 ⟨rfl, rfl⟩

def h5c (a q : Nat) (h : jH) : jH := (hR a 0 q (hV a 7 0 (hV a 6 0 (hRA a 5 .int 25 (hRA a 4 .int 5 (hRA a 3 .int 5 (hRA a 2 .int 5 (hRA a 1 .int 5 h))))))))
set_option maxRecDepth 20000 in
theorem k_X5 {G : jG} {N : Nat} {κ : Nat → jK} {ρ : Nat → Nat → Option Nat} {μ : Nat → Nat → Int32} {ν : Nat → Nat → Int64} {a q : Nat} (ho : jO N κ a 5) : MT G yX5_init cX5_init 2 none 1 5 45 [.ref a, .ref q] (N, κ, ρ, μ, ν) none (h5c a q (N, κ, ρ, μ, ν)) := by
  refine jMT (ini := true) my_X5_init (fun _ => rfl) jRv_v (Nat.le_of_ble_eq_true rfl) ?_
  show J G RX5 cX5_init 2 true 1 _ 5 45 (N, κ, ρ, μ, ν) 0 [some (.ref a), some (.ref q)] []
  refine j_aload_n dX5_init_0 rfl ?_
  refine j_obj dX5_init_1 ml_X5_3 (by omega) (by decide) ?_
  refine j_aload_n dX5_init_4 rfl ?_
  refine j_iconst (v := 5) dX5_init_5 (by decide) ?_
  refine j_newa (len := 5) (idx := 0) dX5_init_6 ac_int rfl (by decide) (by decide) ?_
  refine j_putF dX5_init_8 fl_X5_9 rfl (jO_s ho) rfl rfl rfl rfl ?_
  refine j_aload_n dX5_init_11 rfl ?_
  refine j_iconst (v := 5) dX5_init_12 (by decide) ?_
  refine j_newa (len := 5) (idx := 0) dX5_init_13 ac_int rfl (by decide) (by decide) ?_
  refine j_putF dX5_init_15 fl_X5_15 rfl (jO_s (jO_s ho)) rfl rfl rfl rfl ?_
  refine j_aload_n dX5_init_18 rfl ?_
  refine j_iconst (v := 5) dX5_init_19 (by decide) ?_
  refine j_newa (len := 5) (idx := 0) dX5_init_20 ac_int rfl (by decide) (by decide) ?_
  refine j_putF dX5_init_22 fl_X5_18 rfl (jO_s (jO_s (jO_s ho))) rfl rfl rfl rfl ?_
  refine j_aload_n dX5_init_25 rfl ?_
  refine j_iconst (v := 5) dX5_init_26 (by decide) ?_
  refine j_newa (len := 5) (idx := 0) dX5_init_27 ac_int rfl (by decide) (by decide) ?_
  refine j_putF dX5_init_29 fl_X5_21 rfl (jO_s (jO_s (jO_s (jO_s ho)))) rfl rfl rfl rfl ?_
  refine j_aload_n dX5_init_32 rfl ?_
  refine j_bipush (v := 25) dX5_init_33 (by decide) ?_
  refine j_newa (len := 25) (idx := 0) dX5_init_35 ac_int rfl (by decide) (by decide) ?_
  refine j_putF dX5_init_37 fl_X5_24 rfl (jO_s (jO_s (jO_s (jO_s (jO_s ho))))) rfl rfl rfl rfl ?_
  refine j_aload_n dX5_init_40 rfl ?_
  refine j_iconst (v := 0) dX5_init_41 (by decide) ?_
  refine j_puti dX5_init_42 fl_X5_27 rfl (jO_s (jO_s (jO_s (jO_s (jO_s ho))))) ?_
  refine j_aload_n dX5_init_45 rfl ?_
  refine j_iconst (v := 0) dX5_init_46 (by decide) ?_
  refine j_puti dX5_init_47 fl_X5_31 rfl (jO_s (jO_s (jO_s (jO_s (jO_s ho))))) ?_
  refine j_aload_n dX5_init_50 rfl ?_
  refine j_aload_n dX5_init_51 rfl ?_
  refine j_putF dX5_init_52 fl_X5_34 rfl (jO_s (jO_s (jO_s (jO_s (jO_s ho))))) rfl rfl rfl rfl ?_
  exact j_vret dX5_init_55 ⟨rfl, rfl⟩

