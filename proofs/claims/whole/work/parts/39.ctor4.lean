def hS0 : jH := hO 6 (0, fun _ => .inl 0, fun _ _ => none, fun _ _ => 0, fun _ _ => 0)
def hS1 : jH := hR 0 0 1 (h4c hS0.1 (hO 4 hS0))
def hS2 : jH := hR 0 1 4 (h3c hS1.1 (hO 3 hS1))
def hS3 : jH := hR 0 2 9 (h3c hS2.1 (hO 3 hS2))
def hS4 : jH := hR 0 3 14 (h5c hS3.1 9 (hO 5 hS3))
def hS5 : jH := hR 0 4 20 (h5c hS4.1 9 (hO 5 hS4))
def hS6 : jH := hR 0 5 26 (h2c hS5.1 9 (hO 2 hS5))
def hS7 : jH := hRA 0 6 (.object RX5) 2 hS6
def hS8 : jH := hV 0 7 0 hS7
def hS9 : jH := hR 0 8 77 (h0c hS8.1 (hO 0 hS8))
def hS10 : jH := hR 0 9 81 (h1c hS9.1 9 (hO 1 hS9))
def hS11 : jH := hR 76 0 153 (h5c hS10.1 9 (hO 5 hS10))
def hS12 : jH := hR 76 1 159 (h5c hS11.1 9 (hO 5 hS11))
set_option maxRecDepth 20000 in
theorem bd_X6a {G : jG} {Q : Option Value → jH → Prop} {d : Nat} (hd1 : 3 ≤ d) {ac sc : Nat} (K : J G RX6 cX6_init 2 true d Q ac sc (165, hS12.2.1, hS12.2.2.1, hS12.2.2.2.1, hS12.2.2.2.2) 151 [some (.ref 0), some (.int 2)] []) : J G RX6 cX6_init 2 true d Q (ac + 164) (sc + 3639) hS0 0 [some (.ref 0), none] [] := by
  refine j_heap (h2 := (1, hS0.2.1, hS0.2.2.1, hS0.2.2.2.1, hS0.2.2.2.2)) rfl ?_
  refine j_aload_n dX6_init_0 rfl ?_
  refine j_obj dX6_init_1 ml_X6_3 (by omega) (by decide) ?_
  refine j_aload_n dX6_init_4 rfl ?_
  refine j_new (ci := 4) (n := 3) dX6_init_5 cl_X6_9 jcf_4 ?_
  refine j_dup dX6_init_8 rfl ?_
  refine j_room (ac' := ac + 161 + 2) (sc' := sc + 3433 + 203) (by omega) (by omega) ?_
  refine j_cIN0v (host := RX6) dX6_init_9 (k_X4 jO_n) (fun s hS => hS.2.2.2.2.1.1) my_X4_init mk_X4_init rfl (by omega) (Nat.le_of_ble_eq_true rfl) (Nat.le_of_ble_eq_true rfl) ?_
  refine j_heap (h2 := (4, (h4c hS0.1 (hO 4 hS0)).2.1, (h4c hS0.1 (hO 4 hS0)).2.2.1, (h4c hS0.1 (hO 4 hS0)).2.2.2.1, (h4c hS0.1 (hO 4 hS0)).2.2.2.2)) rfl ?_
  refine j_putF (a := 0) (b := 1) dX6_init_12 fl_X6_12 rfl ⟨by decide, rfl⟩ rfl rfl rfl rfl ?_
  refine j_heap (h2 := (4, hS1.2.1, hS1.2.2.1, hS1.2.2.2.1, hS1.2.2.2.2)) rfl ?_
  refine j_aload_n dX6_init_15 rfl ?_
  refine j_new (ci := 3) (n := 6) dX6_init_16 cl_X6_16 jcf_3 ?_
  refine j_dup dX6_init_19 rfl ?_
  refine j_room (ac' := ac + 156 + 4) (sc' := sc + 3387 + 40) (by omega) (by omega) ?_
  refine j_cIN0v (host := RX6) dX6_init_20 (k_X3 jO_n) (fun s hS => hS.2.2.2.2.1.2.1) my_X3_init mk_X3_init rfl (by omega) (Nat.le_of_ble_eq_true rfl) (Nat.le_of_ble_eq_true rfl) ?_
  refine j_heap (h2 := (9, (h3c hS1.1 (hO 3 hS1)).2.1, (h3c hS1.1 (hO 3 hS1)).2.2.1, (h3c hS1.1 (hO 3 hS1)).2.2.2.1, (h3c hS1.1 (hO 3 hS1)).2.2.2.2)) rfl ?_
  refine j_putF (a := 0) (b := 4) dX6_init_23 fl_X6_19 rfl ⟨by decide, rfl⟩ rfl rfl rfl rfl ?_
  refine j_heap (h2 := (9, hS2.2.1, hS2.2.2.1, hS2.2.2.2.1, hS2.2.2.2.2)) rfl ?_
  refine j_aload_n dX6_init_26 rfl ?_
  refine j_new (ci := 3) (n := 6) dX6_init_27 cl_X6_16 jcf_3 ?_
  refine j_dup dX6_init_30 rfl ?_
  refine j_room (ac' := ac + 151 + 4) (sc' := sc + 3341 + 40) (by omega) (by omega) ?_
  refine j_cIN0v (host := RX6) dX6_init_31 (k_X3 jO_n) (fun s hS => hS.2.2.2.2.1.2.1) my_X3_init mk_X3_init rfl (by omega) (Nat.le_of_ble_eq_true rfl) (Nat.le_of_ble_eq_true rfl) ?_
  refine j_heap (h2 := (14, (h3c hS2.1 (hO 3 hS2)).2.1, (h3c hS2.1 (hO 3 hS2)).2.2.1, (h3c hS2.1 (hO 3 hS2)).2.2.2.1, (h3c hS2.1 (hO 3 hS2)).2.2.2.2)) rfl ?_
  refine j_putF (a := 0) (b := 9) dX6_init_34 fl_X6_23 rfl ⟨by decide, rfl⟩ rfl rfl rfl rfl ?_
  refine j_heap (h2 := (14, hS3.2.1, hS3.2.2.1, hS3.2.2.2.1, hS3.2.2.2.2)) rfl ?_
  refine j_aload_n dX6_init_37 rfl ?_
  refine j_new (ci := 5) (n := 8) dX6_init_38 cl_X6_26 jcf_5 ?_
  refine j_dup dX6_init_41 rfl ?_
  refine j_aload_n dX6_init_42 rfl ?_
  refine j_getr (a := 0) (b := 9) dX6_init_43 fl_X6_23 rfl (jO_s ⟨by decide, rfl⟩) rfl ?_
  refine j_room (ac' := ac + 145 + 5) (sc' := sc + 3288 + 45) (by omega) (by omega) ?_
  refine j_cI1v dX6_init_46 (k_X5 jO_n) ml_X6_28 my_X5_init mk_X5_init rfl (by omega) (Nat.le_of_ble_eq_true rfl) (Nat.le_of_ble_eq_true rfl) ?_
  refine j_heap (h2 := (20, (h5c hS3.1 9 (hO 5 hS3)).2.1, (h5c hS3.1 9 (hO 5 hS3)).2.2.1, (h5c hS3.1 9 (hO 5 hS3)).2.2.2.1, (h5c hS3.1 9 (hO 5 hS3)).2.2.2.2)) rfl ?_
  refine j_putF (a := 0) (b := 14) dX6_init_49 fl_X6_31 rfl ⟨by decide, rfl⟩ rfl rfl rfl rfl ?_
  refine j_heap (h2 := (20, hS4.2.1, hS4.2.2.1, hS4.2.2.2.1, hS4.2.2.2.2)) rfl ?_
  refine j_aload_n dX6_init_52 rfl ?_
  refine j_new (ci := 5) (n := 8) dX6_init_53 cl_X6_26 jcf_5 ?_
  refine j_dup dX6_init_56 rfl ?_
  refine j_aload_n dX6_init_57 rfl ?_
  refine j_getr (a := 0) (b := 9) dX6_init_58 fl_X6_23 rfl (jO_s ⟨by decide, rfl⟩) rfl ?_
  refine j_room (ac' := ac + 139 + 5) (sc' := sc + 3235 + 45) (by omega) (by omega) ?_
  refine j_cI1v dX6_init_61 (k_X5 jO_n) ml_X6_28 my_X5_init mk_X5_init rfl (by omega) (Nat.le_of_ble_eq_true rfl) (Nat.le_of_ble_eq_true rfl) ?_
  refine j_heap (h2 := (26, (h5c hS4.1 9 (hO 5 hS4)).2.1, (h5c hS4.1 9 (hO 5 hS4)).2.2.1, (h5c hS4.1 9 (hO 5 hS4)).2.2.2.1, (h5c hS4.1 9 (hO 5 hS4)).2.2.2.2)) rfl ?_
  refine j_putF (a := 0) (b := 20) dX6_init_64 fl_X6_35 rfl ⟨by decide, rfl⟩ rfl rfl rfl rfl ?_
  refine j_heap (h2 := (26, hS5.2.1, hS5.2.2.1, hS5.2.2.2.1, hS5.2.2.2.2)) rfl ?_
  refine j_aload_n dX6_init_67 rfl ?_
  refine j_new (ci := 2) (n := 3) dX6_init_68 cl_X6_38 jcf_2 ?_
  refine j_dup dX6_init_71 rfl ?_
  refine j_aload_n dX6_init_72 rfl ?_
  refine j_getr (a := 0) (b := 9) dX6_init_73 fl_X6_23 rfl (jO_s ⟨by decide, rfl⟩) rfl ?_
  refine j_room (ac' := ac + 89 + 49) (sc' := sc + 2800 + 432) (by omega) (by omega) ?_
  refine j_cI1v dX6_init_76 (k_X2 jO_n) ml_X6_40 my_X2_init mk_X2_init rfl (by omega) (Nat.le_of_ble_eq_true rfl) (Nat.le_of_ble_eq_true rfl) ?_
  refine j_heap (h2 := (76, (h2c hS5.1 9 (hO 2 hS5)).2.1, (h2c hS5.1 9 (hO 2 hS5)).2.2.1, (h2c hS5.1 9 (hO 2 hS5)).2.2.2.1, (h2c hS5.1 9 (hO 2 hS5)).2.2.2.2)) rfl ?_
  refine j_putF (a := 0) (b := 26) dX6_init_79 fl_X6_41 rfl ⟨by decide, rfl⟩ rfl rfl rfl rfl ?_
  refine j_heap (h2 := (76, hS6.2.1, hS6.2.2.1, hS6.2.2.2.1, hS6.2.2.2.2)) rfl ?_
  refine j_aload_n dX6_init_82 rfl ?_
  refine j_iconst (v := 2) dX6_init_83 (by decide) ?_
  refine j_anew (len := 2) dX6_init_84 cl_X6_26 rfl (by decide) ?_
  refine j_putF (a := 0) (b := 76) dX6_init_87 fl_X6_45 rfl (jO_s ⟨by decide, rfl⟩) rfl rfl rfl rfl ?_
  refine j_heap (h2 := (77, hS7.2.1, hS7.2.2.1, hS7.2.2.2.1, hS7.2.2.2.2)) rfl ?_
  refine j_aload_n dX6_init_90 rfl ?_
  refine j_iconst (v := 0) dX6_init_91 (by decide) ?_
  refine j_puti (a := 0) dX6_init_92 fl_X6_49 rfl ⟨by decide, rfl⟩ ?_
  refine j_heap (h2 := (77, hS8.2.1, hS8.2.2.1, hS8.2.2.2.1, hS8.2.2.2.2)) rfl ?_
  refine j_aload_n dX6_init_95 rfl ?_
  refine j_new (ci := 0) (n := 4) dX6_init_96 cl_X6_53 jcf_0 ?_
  refine j_dup dX6_init_99 rfl ?_
  refine j_room (ac' := ac + 84 + 3) (sc' := sc + 2776 + 18) (by omega) (by omega) ?_
  refine j_cIN0v (host := RX6) dX6_init_100 (k_X0 jO_n) (fun s hS => hS.2.2.2.2.1.2.2.1) my_X0_init mk_X0_init rfl (by omega) (Nat.le_of_ble_eq_true rfl) (Nat.le_of_ble_eq_true rfl) ?_
  refine j_heap (h2 := (81, (h0c hS8.1 (hO 0 hS8)).2.1, (h0c hS8.1 (hO 0 hS8)).2.2.1, (h0c hS8.1 (hO 0 hS8)).2.2.2.1, (h0c hS8.1 (hO 0 hS8)).2.2.2.2)) rfl ?_
  refine j_putF (a := 0) (b := 77) dX6_init_103 fl_X6_56 rfl ⟨by decide, rfl⟩ rfl rfl rfl rfl ?_
  refine j_heap (h2 := (81, hS9.2.1, hS9.2.2.1, hS9.2.2.2.1, hS9.2.2.2.2)) rfl ?_
  refine j_aload_n dX6_init_106 rfl ?_
  refine j_new (ci := 1) (n := 8) dX6_init_107 cl_X6_60 jcf_1 ?_
  refine j_dup dX6_init_110 rfl ?_
  refine j_aload_n dX6_init_111 rfl ?_
  refine j_getr (a := 0) (b := 9) dX6_init_112 fl_X6_23 rfl (jO_s ⟨by decide, rfl⟩) rfl ?_
  refine j_room (ac' := ac + 12 + 71) (sc' := sc + 106 + 2662) (by omega) (by omega) ?_
  refine j_cI1v dX6_init_115 (k_X1 jO_n) ml_X6_62 my_X1_init mk_X1_init rfl (by omega) (Nat.le_of_ble_eq_true rfl) (Nat.le_of_ble_eq_true rfl) ?_
  refine j_heap (h2 := (153, (h1c hS9.1 9 (hO 1 hS9)).2.1, (h1c hS9.1 9 (hO 1 hS9)).2.2.1, (h1c hS9.1 9 (hO 1 hS9)).2.2.2.1, (h1c hS9.1 9 (hO 1 hS9)).2.2.2.2)) rfl ?_
  refine j_putF (a := 0) (b := 81) dX6_init_118 fl_X6_63 rfl ⟨by decide, rfl⟩ rfl rfl rfl rfl ?_
  refine j_heap (h2 := (153, hS10.2.1, hS10.2.2.1, hS10.2.2.2.1, hS10.2.2.2.2)) rfl ?_
  refine j_iconst (v := 0) dX6_init_121 (by decide) ?_
  refine j_istore_1 dX6_init_122 rfl ?_
  refine j_iload_n dX6_init_123 rfl ?_
  refine j_iconst (v := 2) dX6_init_124 (by decide) ?_
  refine k_icmp_ge (tgt := 151) dX6_init_125 (by decide) (fun c1 c2 => ?_) (fun c1 c2 => ?_)
  · exact absurd c1 (by decide)
  refine j_aload_n dX6_init_128 rfl ?_
  refine j_getr (a := 0) (b := 76) dX6_init_129 fl_X6_45 rfl ⟨by decide, rfl⟩ rfl ?_
  refine j_iload_n dX6_init_132 rfl ?_
  refine j_new (ci := 5) (n := 8) dX6_init_133 cl_X6_26 jcf_5 ?_
  refine j_dup dX6_init_136 rfl ?_
  refine j_aload_n dX6_init_137 rfl ?_
  refine j_getr (a := 0) (b := 9) dX6_init_138 fl_X6_23 rfl (jO_s ⟨by decide, rfl⟩) rfl ?_
  refine j_room (ac' := ac + 6 + 5) (sc' := sc + 53 + 45) (by omega) (by omega) ?_
  refine j_cI1v dX6_init_141 (k_X5 jO_n) ml_X6_28 my_X5_init mk_X5_init rfl (by omega) (Nat.le_of_ble_eq_true rfl) (Nat.le_of_ble_eq_true rfl) ?_
  refine j_heap (h2 := (159, (h5c hS10.1 9 (hO 5 hS10)).2.1, (h5c hS10.1 9 (hO 5 hS10)).2.2.1, (h5c hS10.1 9 (hO 5 hS10)).2.2.2.1, (h5c hS10.1 9 (hO 5 hS10)).2.2.2.2)) rfl ?_
  refine j_aast (k := 0) (b := 153) (ci := 5) dX6_init_144 (a := 76) (n := 2) ⟨by decide, rfl, by decide⟩ rfl (by decide) ⟨by decide, rfl⟩ rfl ?_
  refine j_heap (h2 := (159, hS11.2.1, hS11.2.2.1, hS11.2.2.2.1, hS11.2.2.2.2)) rfl ?_
  refine j_iinc_1 (v := 1) dX6_init_145 (by decide) rfl ?_
  refine j_goto (tgt := 123) dX6_init_148 (by decide) ?_
  refine j_iload_n dX6_init_123 rfl ?_
  refine j_iconst (v := 2) dX6_init_124 (by decide) ?_
  refine k_icmp_ge (tgt := 151) dX6_init_125 (by decide) (fun c1 c2 => ?_) (fun c1 c2 => ?_)
  · exact absurd c1 (by decide)
  refine j_aload_n dX6_init_128 rfl ?_
  refine j_getr (a := 0) (b := 76) dX6_init_129 fl_X6_45 rfl ⟨by decide, rfl⟩ rfl ?_
  refine j_iload_n dX6_init_132 rfl ?_
  refine j_new (ci := 5) (n := 8) dX6_init_133 cl_X6_26 jcf_5 ?_
  refine j_dup dX6_init_136 rfl ?_
  refine j_aload_n dX6_init_137 rfl ?_
  refine j_getr (a := 0) (b := 9) dX6_init_138 fl_X6_23 rfl (jO_s ⟨by decide, rfl⟩) rfl ?_
  refine j_room (ac' := ac + 0 + 5) (sc' := sc + 0 + 45) (by omega) (by omega) ?_
  refine j_cI1v dX6_init_141 (k_X5 jO_n) ml_X6_28 my_X5_init mk_X5_init rfl (by omega) (Nat.le_of_ble_eq_true rfl) (Nat.le_of_ble_eq_true rfl) ?_
  refine j_heap (h2 := (165, (h5c hS11.1 9 (hO 5 hS11)).2.1, (h5c hS11.1 9 (hO 5 hS11)).2.2.1, (h5c hS11.1 9 (hO 5 hS11)).2.2.2.1, (h5c hS11.1 9 (hO 5 hS11)).2.2.2.2)) rfl ?_
  refine j_aast (k := 1) (b := 159) (ci := 5) dX6_init_144 (a := 76) (n := 2) ⟨by decide, rfl, by decide⟩ rfl (by decide) ⟨by decide, rfl⟩ rfl ?_
  refine j_heap (h2 := (165, hS12.2.1, hS12.2.2.1, hS12.2.2.2.1, hS12.2.2.2.2)) rfl ?_
  refine j_iinc_1 (v := 2) dX6_init_145 (by decide) rfl ?_
  refine j_goto (tgt := 123) dX6_init_148 (by decide) ?_
  refine j_iload_n dX6_init_123 rfl ?_
  refine j_iconst (v := 2) dX6_init_124 (by decide) ?_
  refine k_icmp_ge (tgt := 151) dX6_init_125 (by decide) (fun c1 c2 => ?_) (fun c1 c2 => ?_)
  rotate_left
  · exact absurd (by decide) c1
  exact K

