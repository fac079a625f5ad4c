def h7b (h : jH) : jH := (hRA 165 23 .int 10 (hRA 165 22 .int 11 (hRA 165 21 .int 11 (hRA 165 20 .int 16 (hRA 165 19 .int 16 (hRA 165 17 .int 25 (hRA 165 16 .int 15 (hRA 165 11 .int 200 (hRA 165 10 .int 6 (hRA 165 9 .int 6 (hRA 165 8 .int 6 (hRA 165 6 .int 5 (hRA 165 5 .int 5 (hRA 165 4 .int 5 (hRA 165 0 .int 1196 (hO 7 h))))))))))))))))
theorem h7b_N (κ : Nat → jK) (ρ : Nat → Nat → Option Nat) (μ : jMem) (ν : Nat → Nat → Int64) : (h7b (165, κ, ρ, μ, ν)).1 = 181 := rfl
theorem h7b_sh (κ : Nat → jK) (ρ : Nat → Nat → Option Nat) (μ : jMem) (ν : Nat → Nat → Int64) : shR 181 (h7b (165, κ, ρ, μ, ν)).2.1 (h7b (165, κ, ρ, μ, ν)).2.2.1 := by
  refine ⟨Nat.le_refl _, fun k h1 h2 => ?_, fun k j h1 h2 hj => ?_⟩
  · have : k = 165 ∨ k = 166 ∨ k = 167 ∨ k = 168 ∨ k = 169 ∨ k = 170 ∨ k = 171 ∨ k = 172 ∨ k = 173 ∨ k = 174 ∨ k = 175 ∨ k = 176 ∨ k = 177 ∨ k = 178 ∨ k = 179 ∨ k = 180 := by omega
    rcases this with rfl | rfl | rfl | rfl | rfl | rfl | rfl | rfl | rfl | rfl | rfl | rfl | rfl | rfl | rfl | rfl <;> rfl
  · have : k = 165 ∨ k = 166 ∨ k = 167 ∨ k = 168 ∨ k = 169 ∨ k = 170 ∨ k = 171 ∨ k = 172 ∨ k = 173 ∨ k = 174 ∨ k = 175 ∨ k = 176 ∨ k = 177 ∨ k = 178 ∨ k = 179 ∨ k = 180 := by omega
    rcases this with rfl | rfl | rfl | rfl | rfl | rfl | rfl | rfl | rfl | rfl | rfl | rfl | rfl | rfl | rfl | rfl
    · have : j = 0 ∨ j = 1 ∨ j = 2 ∨ j = 3 ∨ j = 4 ∨ j = 5 ∨ j = 6 ∨ j = 7 ∨ j = 8 ∨ j = 9 ∨ j = 10 ∨ j = 11 ∨ j = 12 ∨ j = 13 ∨ j = 14 ∨ j = 15 ∨ j = 16 ∨ j = 17 ∨ j = 18 ∨ j = 19 ∨ j = 20 ∨ j = 21 ∨ j = 22 ∨ j = 23 ∨ j = 24 := by omega
      rcases this with rfl | rfl | rfl | rfl | rfl | rfl | rfl | rfl | rfl | rfl | rfl | rfl | rfl | rfl | rfl | rfl | rfl | rfl | rfl | rfl | rfl | rfl | rfl | rfl | rfl <;> rfl
    · rfl
    · rfl
    · rfl
    · rfl
    · rfl
    · rfl
    · rfl
    · rfl
    · rfl
    · rfl
    · rfl
    · rfl
    · rfl
    · rfl
    · rfl
theorem h7b_lo (κ : Nat → jK) (ρ : Nat → Nat → Option Nat) (μ : jMem) (ν : Nat → Nat → Int64) : (∀ k, k < 165 → (h7b (165, κ, ρ, μ, ν)).2.1 k = κ k) ∧ (∀ k j, k < 165 → (h7b (165, κ, ρ, μ, ν)).2.2.1 k j = ρ k j) ∧ (∀ k j, k < 165 → (h7b (165, κ, ρ, μ, ν)).2.2.2.1 k j = μ k j) ∧ ∀ k j, k < 165 → (h7b (165, κ, ρ, μ, ν)).2.2.2.2 k j = ν k j := by
  refine ⟨fun k hk => ?_, fun k j hk => ?_, fun k j hk => ?_, fun k j hk => ?_⟩
  · simp only [h7b, hRA, hR, hA, hO, jkd]
    repeat rw [if_neg (by omega)]
  · have e : ∀ (f : Nat → Nat → Option Nat) (n : Nat) (g : Nat → Option Nat), k ≠ n → jrow f n g k j = f k j := fun f n g hn => by unfold jrow; rw [if_neg hn]
    simp only [h7b, hRA, hR, hA, hO]
    repeat (first | rw [jup_oth (by omega)] | rw [e _ _ _ (by omega)])
  · have e : ∀ (f : Nat → Nat → Int32) (n : Nat) (g : Nat → Int32), k ≠ n → jrow f n g k j = f k j := fun f n g hn => by unfold jrow; rw [if_neg hn]
    simp only [h7b, hRA, hR, hA, hO]
    repeat rw [e _ _ _ (by omega)]
  · have e : ∀ (f : Nat → Nat → Int64) (n : Nat) (g : Nat → Int64), k ≠ n → jrow f n g k j = f k j := fun f n g hn => by unfold jrow; rw [if_neg hn]
    simp only [h7b, hRA, hR, hA, hO]
    repeat rw [e _ _ _ (by omega)]
def rI0 (m : jMem) : jMem := rAddW (rAddW (rAddW (rAddW (rAddW (rStart m) 0 0 12 1) 1 1 20 0) 2 2 8 3) 3 3 15 2) 4 0 30 4
def rI1 (m : jMem) : jMem := jup (jup (jup (jup (jup (jup (rI0 m) 175 1 9) 175 9 12) 175 22 5) 175 19 10) 175 10 6) 165 18 4
def rI2 (m : jMem) : jMem := rBegin (rI1 m) 5
def h7c (h : jH) : jH := ((h7b h).1, (h7b h).2.1, (h7b h).2.2.1, rI2 (h7b h).2.2.2.1, (h7b h).2.2.2.2)
theorem aw15 {m : jMem} {n i : Nat} {k t l : Int32} (h : m 165 15 = nI i) : rAddW m n k t l 165 15 = nI (i + 1) := by rw [rAddW_15, h, nI_1]
theorem rI1_15 (m : jMem) : rI1 m 165 15 = nI 5 := by
  unfold rI1
  rw [jup_oth2 (by decide), jup_oth (by decide), jup_oth (by decide), jup_oth (by decide), jup_oth (by decide), jup_oth (by decide)]
  exact aw15 (aw15 (aw15 (aw15 (aw15 (rStart_15 _)))))
set_option maxRecDepth 20000 in
theorem k_X7 {G : jG} {N : Nat} {κ : Nat → jK} {ρ : Nat → Nat → Option Nat} {μ : Nat → Nat → Int32} {ν : Nat → Nat → Int64}  : MT G yX7_init cX7_init 1 none 1 15 1533 [.ref 165] (hO 7 (165, κ, ρ, μ, ν)) none (h7c (165, κ, ρ, μ, ν)) := by
  refine jMT (ini := true) my_X7_init (fun _ => rfl) jRv_v (Nat.le_of_ble_eq_true rfl) ?_
  show J G RX7 cX7_init 1 true 1 _ 15 1533 (hO 7 (165, κ, ρ, μ, ν)) 0 [some (.ref 165)] []
  refine j_aload_n dX7_init_0 rfl ?_
  refine j_obj dX7_init_1 ml_X7_1 (by omega) (by decide) ?_
  refine j_aload_n dX7_init_4 rfl ?_
  refine j_sipush (v := 1196) dX7_init_5 (by decide) ?_
  refine j_newa (len := 1196) (idx := 0) dX7_init_8 ac_int rfl (by decide) (by decide) ?_
  refine j_putF dX7_init_10 fl_X7_7 rfl (jO_s jO_n) rfl rfl rfl rfl ?_
  refine j_aload_n dX7_init_13 rfl ?_
  refine j_iconst (v := 5) dX7_init_14 (by decide) ?_
  refine j_newa (len := 5) (idx := 0) dX7_init_15 ac_int rfl (by decide) (by decide) ?_
  refine j_putF dX7_init_17 fl_X7_13 rfl (jO_s (jO_s jO_n)) rfl rfl rfl rfl ?_
  refine j_aload_n dX7_init_20 rfl ?_
  refine j_iconst (v := 5) dX7_init_21 (by decide) ?_
  refine j_newa (len := 5) (idx := 0) dX7_init_22 ac_int rfl (by decide) (by decide) ?_
  refine j_putF dX7_init_24 fl_X7_16 rfl (jO_s (jO_s (jO_s jO_n))) rfl rfl rfl rfl ?_
  refine j_aload_n dX7_init_27 rfl ?_
  refine j_iconst (v := 5) dX7_init_28 (by decide) ?_
  refine j_newa (len := 5) (idx := 0) dX7_init_29 ac_int rfl (by decide) (by decide) ?_
  refine j_putF dX7_init_31 fl_X7_19 rfl (jO_s (jO_s (jO_s (jO_s jO_n)))) rfl rfl rfl rfl ?_
  refine j_aload_n dX7_init_34 rfl ?_
  refine j_bipush (v := 6) dX7_init_35 (by decide) ?_
  refine j_newa (len := 6) (idx := 0) dX7_init_37 ac_int rfl (by decide) (by decide) ?_
  refine j_putF dX7_init_39 fl_X7_22 rfl (jO_s (jO_s (jO_s (jO_s (jO_s jO_n))))) rfl rfl rfl rfl ?_
  refine j_aload_n dX7_init_42 rfl ?_
  refine j_bipush (v := 6) dX7_init_43 (by decide) ?_
  refine j_newa (len := 6) (idx := 0) dX7_init_45 ac_int rfl (by decide) (by decide) ?_
  refine j_putF dX7_init_47 fl_X7_25 rfl (jO_s (jO_s (jO_s (jO_s (jO_s (jO_s jO_n)))))) rfl rfl rfl rfl ?_
  refine j_aload_n dX7_init_50 rfl ?_
  refine j_bipush (v := 6) dX7_init_51 (by decide) ?_
  refine j_newa (len := 6) (idx := 0) dX7_init_53 ac_int rfl (by decide) (by decide) ?_
  refine j_putF dX7_init_55 fl_X7_28 rfl (jO_s (jO_s (jO_s (jO_s (jO_s (jO_s (jO_s jO_n))))))) rfl rfl rfl rfl ?_
  refine j_aload_n dX7_init_58 rfl ?_
  refine j_sipush (v := 200) dX7_init_59 (by decide) ?_
  refine j_newa (len := 200) (idx := 0) dX7_init_62 ac_int rfl (by decide) (by decide) ?_
  refine j_putF dX7_init_64 fl_X7_31 rfl (jO_s (jO_s (jO_s (jO_s (jO_s (jO_s (jO_s (jO_s jO_n)))))))) rfl rfl rfl rfl ?_
  refine j_aload_n dX7_init_67 rfl ?_
  refine j_bipush (v := 15) dX7_init_68 (by decide) ?_
  refine j_newa (len := 15) (idx := 0) dX7_init_70 ac_int rfl (by decide) (by decide) ?_
  refine j_putF dX7_init_72 fl_X7_34 rfl (jO_s (jO_s (jO_s (jO_s (jO_s (jO_s (jO_s (jO_s (jO_s jO_n))))))))) rfl rfl rfl rfl ?_
  refine j_aload_n dX7_init_75 rfl ?_
  refine j_bipush (v := 25) dX7_init_76 (by decide) ?_
  refine j_newa (len := 25) (idx := 0) dX7_init_78 ac_int rfl (by decide) (by decide) ?_
  refine j_putF dX7_init_80 fl_X7_37 rfl (jO_s (jO_s (jO_s (jO_s (jO_s (jO_s (jO_s (jO_s (jO_s (jO_s jO_n)))))))))) rfl rfl rfl rfl ?_
  refine j_aload_n dX7_init_83 rfl ?_
  refine j_bipush (v := 16) dX7_init_84 (by decide) ?_
  refine j_newa (len := 16) (idx := 0) dX7_init_86 ac_int rfl (by decide) (by decide) ?_
  refine j_putF dX7_init_88 fl_X7_40 rfl (jO_s (jO_s (jO_s (jO_s (jO_s (jO_s (jO_s (jO_s (jO_s (jO_s (jO_s jO_n))))))))))) rfl rfl rfl rfl ?_
  refine j_aload_n dX7_init_91 rfl ?_
  refine j_bipush (v := 16) dX7_init_92 (by decide) ?_
  refine j_newa (len := 16) (idx := 0) dX7_init_94 ac_int rfl (by decide) (by decide) ?_
  refine j_putF dX7_init_96 fl_X7_43 rfl (jO_s (jO_s (jO_s (jO_s (jO_s (jO_s (jO_s (jO_s (jO_s (jO_s (jO_s (jO_s jO_n)))))))))))) rfl rfl rfl rfl ?_
  refine j_aload_n dX7_init_99 rfl ?_
  refine j_bipush (v := 11) dX7_init_100 (by decide) ?_
  refine j_newa (len := 11) (idx := 0) dX7_init_102 ac_int rfl (by decide) (by decide) ?_
  refine j_putF dX7_init_104 fl_X7_46 rfl (jO_s (jO_s (jO_s (jO_s (jO_s (jO_s (jO_s (jO_s (jO_s (jO_s (jO_s (jO_s (jO_s jO_n))))))))))))) rfl rfl rfl rfl ?_
  refine j_aload_n dX7_init_107 rfl ?_
  refine j_bipush (v := 11) dX7_init_108 (by decide) ?_
  refine j_newa (len := 11) (idx := 0) dX7_init_110 ac_int rfl (by decide) (by decide) ?_
  refine j_putF dX7_init_112 fl_X7_49 rfl (jO_s (jO_s (jO_s (jO_s (jO_s (jO_s (jO_s (jO_s (jO_s (jO_s (jO_s (jO_s (jO_s (jO_s jO_n)))))))))))))) rfl rfl rfl rfl ?_
  refine j_aload_n dX7_init_115 rfl ?_
  refine j_bipush (v := 10) dX7_init_116 (by decide) ?_
  refine j_newa (len := 10) (idx := 0) dX7_init_118 ac_int rfl (by decide) (by decide) ?_
  refine j_putF dX7_init_120 fl_X7_52 rfl (jO_s (jO_s (jO_s (jO_s (jO_s (jO_s (jO_s (jO_s (jO_s (jO_s (jO_s (jO_s (jO_s (jO_s (jO_s jO_n))))))))))))))) rfl rfl rfl rfl ?_
  have hr := h7b_sh κ ρ μ ν
  refine j_heap (h2 := (181, (h7b (165, κ, ρ, μ, ν)).2.1, (h7b (165, κ, ρ, μ, ν)).2.2.1, (h7b (165, κ, ρ, μ, ν)).2.2.2.1, (h7b (165, κ, ρ, μ, ν)).2.2.2.2)) rfl ?_
  refine j_aload_n dX7_init_123 rfl ?_
  refine j_cV0v dX7_init_124 (r_starts hr) ml_X7_55 my_X7_starts mi_X7_starts (o_165 hr) rfl (by omega) (Nat.le_of_ble_eq_true rfl) (Nat.le_of_ble_eq_true rfl) ?_
  refine j_aload_n dX7_init_127 rfl ?_
  refine j_iconst (v := 0) dX7_init_128 (by decide) ?_
  refine j_bipush (v := 12) dX7_init_129 (by decide) ?_
  refine j_iconst (v := 1) dX7_init_131 (by decide) ?_
  refine j_cV3v dX7_init_132 (r_addsWall (n := 0) hr (rStart_15 _) (by decide)) ml_X7_58 my_X7_addsWall mi_X7_addsWall (o_165 hr) rfl (by omega) (Nat.le_of_ble_eq_true rfl) (Nat.le_of_ble_eq_true rfl) ?_
  refine j_aload_n dX7_init_135 rfl ?_
  refine j_iconst (v := 1) dX7_init_136 (by decide) ?_
  refine j_bipush (v := 20) dX7_init_137 (by decide) ?_
  refine j_iconst (v := 0) dX7_init_139 (by decide) ?_
  refine j_cV3v dX7_init_140 (r_addsWall (n := 1) hr ((aw15 (rStart_15 _))) (by decide)) ml_X7_58 my_X7_addsWall mi_X7_addsWall (o_165 hr) rfl (by omega) (Nat.le_of_ble_eq_true rfl) (Nat.le_of_ble_eq_true rfl) ?_
  refine j_aload_n dX7_init_143 rfl ?_
  refine j_iconst (v := 2) dX7_init_144 (by decide) ?_
  refine j_bipush (v := 8) dX7_init_145 (by decide) ?_
  refine j_iconst (v := 3) dX7_init_147 (by decide) ?_
  refine j_cV3v dX7_init_148 (r_addsWall (n := 2) hr ((aw15 ((aw15 (rStart_15 _))))) (by decide)) ml_X7_58 my_X7_addsWall mi_X7_addsWall (o_165 hr) rfl (by omega) (Nat.le_of_ble_eq_true rfl) (Nat.le_of_ble_eq_true rfl) ?_
  refine j_aload_n dX7_init_151 rfl ?_
  refine j_iconst (v := 3) dX7_init_152 (by decide) ?_
  refine j_bipush (v := 15) dX7_init_153 (by decide) ?_
  refine j_iconst (v := 2) dX7_init_155 (by decide) ?_
  refine j_cV3v dX7_init_156 (r_addsWall (n := 3) hr ((aw15 ((aw15 ((aw15 (rStart_15 _))))))) (by decide)) ml_X7_58 my_X7_addsWall mi_X7_addsWall (o_165 hr) rfl (by omega) (Nat.le_of_ble_eq_true rfl) (Nat.le_of_ble_eq_true rfl) ?_
  refine j_aload_n dX7_init_159 rfl ?_
  refine j_iconst (v := 0) dX7_init_160 (by decide) ?_
  refine j_bipush (v := 30) dX7_init_161 (by decide) ?_
  refine j_iconst (v := 4) dX7_init_163 (by decide) ?_
  refine j_cV3v dX7_init_164 (r_addsWall (n := 4) hr ((aw15 ((aw15 ((aw15 ((aw15 (rStart_15 _))))))))) (by decide)) ml_X7_58 my_X7_addsWall mi_X7_addsWall (o_165 hr) rfl (by omega) (Nat.le_of_ble_eq_true rfl) (Nat.le_of_ble_eq_true rfl) ?_
  refine j_aload_n dX7_init_167 rfl ?_
  refine j_getr dX7_init_168 fl_X7_37 rfl (o_165 hr) (r_165_17 hr) ?_
  refine j_iconst (v := 1) dX7_init_171 (by decide) ?_
  refine j_bipush (v := 9) dX7_init_172 (by decide) ?_
  refine j_iast (k := 1) dX7_init_174 (a_175 hr) rfl (by omega) ?_
  refine j_aload_n dX7_init_175 rfl ?_
  refine j_getr dX7_init_176 fl_X7_37 rfl (o_165 hr) (r_165_17 hr) ?_
  refine j_bipush (v := 9) dX7_init_179 (by decide) ?_
  refine j_bipush (v := 12) dX7_init_181 (by decide) ?_
  refine j_iast (k := 9) dX7_init_183 (a_175 hr) rfl (by omega) ?_
  refine j_aload_n dX7_init_184 rfl ?_
  refine j_getr dX7_init_185 fl_X7_37 rfl (o_165 hr) (r_165_17 hr) ?_
  refine j_bipush (v := 22) dX7_init_188 (by decide) ?_
  refine j_iconst (v := 5) dX7_init_190 (by decide) ?_
  refine j_iast (k := 22) dX7_init_191 (a_175 hr) rfl (by omega) ?_
  refine j_aload_n dX7_init_192 rfl ?_
  refine j_getr dX7_init_193 fl_X7_37 rfl (o_165 hr) (r_165_17 hr) ?_
  refine j_bipush (v := 19) dX7_init_196 (by decide) ?_
  refine j_bipush (v := 10) dX7_init_198 (by decide) ?_
  refine j_iast (k := 19) dX7_init_200 (a_175 hr) rfl (by omega) ?_
  refine j_aload_n dX7_init_201 rfl ?_
  refine j_getr dX7_init_202 fl_X7_37 rfl (o_165 hr) (r_165_17 hr) ?_
  refine j_bipush (v := 10) dX7_init_205 (by decide) ?_
  refine j_bipush (v := 6) dX7_init_207 (by decide) ?_
  refine j_iast (k := 10) dX7_init_209 (a_175 hr) rfl (by omega) ?_
  refine j_aload_n dX7_init_210 rfl ?_
  refine j_iconst (v := 4) dX7_init_211 (by decide) ?_
  refine j_puti dX7_init_212 fl_X7_62 rfl (o_165 hr) ?_
  refine j_aload_n dX7_init_215 rfl ?_
  refine j_heap (h2 := (181, (h7b (165, κ, ρ, μ, ν)).2.1, (h7b (165, κ, ρ, μ, ν)).2.2.1, rI1 (h7b (165, κ, ρ, μ, ν)).2.2.2.1, (h7b (165, κ, ρ, μ, ν)).2.2.2.2)) rfl ?_
  refine j_cV0v dX7_init_216 (r_begins (n := 5) hr (rI1_15 _) (by decide)) ml_X7_66 my_X7_begins mi_X7_begins (o_165 hr) rfl (by omega) (Nat.le_of_ble_eq_true rfl) (Nat.le_of_ble_eq_true rfl) ?_
  exact j_vret dX7_init_219 ⟨rfl, rfl⟩

