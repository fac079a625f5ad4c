/-! THE CLASS'S CONSTRUCTOR, its end: the first text is read and laid -/
def iX : Nat → jMem → jMem := fun i m => xAdd m i (txC i)
def m0T : jMem := it iX 79 0 hS12.2.2.2.1
def m0F : jMem := jup (tLay (xRead 9 m0T).2 14) 1 2 0
theorem ix_len {i : Nat} {m : jMem} (h : m 1 2 = nI i) : iX i m 1 2 = nI (i + 1) := by
  unfold iX xAdd
  rw [jup_self, jup_oth (by decide), h, nI_1]
theorem ix_let (i : Nat) (m : jMem) (k : Nat) : iX i m 2 k = if k = i then txC i else m 2 k := by
  unfold iX xAdd
  rw [jup_oth (by decide)]
  by_cases z : k = i
  · rw [if_pos z, z, jup_self]
  · rw [if_neg z, jup_oth2 z]
theorem hS_12 : hS12.2.2.2.1 1 2 = nI 0 := by decide +kernel
set_option maxRecDepth 20000 in
theorem hS_2 (k : Nat) : hS12.2.2.2.1 2 k = 0 := rfl
theorem m0T_ok : xOK m0T 79 := by
  have h := it_inv (f := iX) (p := 79) (fun i s => i ≤ 79 → s 1 2 = nI i ∧ ∀ k, narrow .char (.int (s 2 k)) = .int (s 2 k)) (fun i s hi hr hi2 => by
    obtain ⟨h1, h2⟩ := hr (by omega)
    refine ⟨ix_len h1, fun k => ?_⟩
    rw [ix_let]
    by_cases z : k = i
    · rw [if_pos z]; exact tx_nar hi
    · rw [if_neg z]; exact h2 k) 79 0 hS12.2.2.2.1 (by omega) (fun _ => ⟨hS_12, fun k => by rw [hS_2]; decide⟩)
  have h2 := h (Nat.le_refl _)
  exact ⟨h2.1, by omega, h2.2⟩
set_option maxRecDepth 20000 in
theorem k_X6 {G : jG} {vf : Value} (hE : ∀ U, jE G U → strE G vf U) (hf : vf = .float 3 ∨ vf = .null) : MT G yX6_init cX6_init 2 none 6 164 3639 [.ref 0] hS0 none (165, hS12.2.1, hS12.2.2.1, m0F, hS12.2.2.2.2) := by
  refine jMT (ini := true) my_X6_init (fun _ => rfl) jRv_v (Nat.le_of_ble_eq_true rfl) ?_
  show J G RX6 cX6_init 2 true 6 _ (0 + 164) (0 + 3639) hS0 0 [some (.ref 0), none] []
  generalize hQe : (fun (v' : Option Value) (h'' : jH) => v' = none ∧ h'' = (165, hS12.2.1, hS12.2.2.1, m0F, hS12.2.2.2.2)) = Q
  have hQ : Q none (165, hS12.2.1, hS12.2.2.1, m0F, hS12.2.2.2.2) := by rw [← hQe]; exact ⟨rfl, rfl⟩
  clear hQe
  have hs := hS_sh
  refine bd_X6a (ac := 0) (sc := 0) (by omega) ?_
  refine j_iconst (v := 0) dX6_init_151 (by decide) ?_
  refine j_istore_1 dX6_init_152 rfl ?_
  refine it_loop (f := iX) (p := 79) (fun i s => J G RX6 cX6_init 2 true 6 Q 0 0 (165, hS12.2.1, hS12.2.2.1, s, hS12.2.2.2.2) 153 [some (.ref 0), some (.int (nI i))] []) (fun s => J G RX6 cX6_init 2 true 6 Q 0 0 (165, hS12.2.1, hS12.2.2.1, s, hS12.2.2.2.2) 181 [some (.ref 0), some (.int (nI 79))] []) (fun i s => s 1 2 = nI i) ?_ ?_ (fun i s _ h => ix_len h) 79 0 hS12.2.2.2.1 rfl hS_12 ?_
  · intro s _ K
    refine j_iload_n dX6_init_153 rfl ?_
    refine j_ldcS hE dX6_init_154 rfl ?_
    refine j_cVS0r hE dX6_init_156 (t_slen hE) tw_197 my_J0_length_8abf5 mi_J0_length_8abf5 rfl (by omega) (Nat.le_of_ble_eq_true rfl) (Nat.le_of_ble_eq_true rfl) ?_
    refine k_icmp_ge (tgt := 181) dX6_init_159 (by decide) (fun _ _ => K) (fun c _ => absurd (Int32.le_refl _) c)
  · intro i s hi hl K
    refine j_iload_n dX6_init_153 rfl ?_
    refine j_ldcS hE dX6_init_154 rfl ?_
    refine j_cVS0r hE dX6_init_156 (t_slen hE) tw_197 my_J0_length_8abf5 mi_J0_length_8abf5 rfl (by omega) (Nat.le_of_ble_eq_true rfl) (Nat.le_of_ble_eq_true rfl) ?_
    refine k_icmp_ge (tgt := 181) dX6_init_159 (by decide) (fun c _ => absurd c (nI_ge hi (by omega))) (fun _ _ => ?_)
    refine j_aload_n dX6_init_162 rfl ?_
    refine j_getr dX6_init_163 fl_X6_12 rfl (o_0 hs) (r_0_0 hs) ?_
    refine j_ldcS hE dX6_init_166 rfl ?_
    refine j_iload_n dX6_init_168 rfl ?_
    refine j_cVS1r hE dX6_init_169 (t_charAt hE hi hf) tw_207 my_J0_charAt_5068e mi_J0_charAt_5068e rfl (by omega) (Nat.le_of_ble_eq_true rfl) (Nat.le_of_ble_eq_true rfl) ?_
    refine j_cV1v dX6_init_172 (t_add hs hl (by omega) (tx_nar hi)) ml_X6_79 my_X4_add mi_X4_add (o_1 hs) rfl (by omega) (Nat.le_of_ble_eq_true rfl) (Nat.le_of_ble_eq_true rfl) ?_
    refine j_iinc_1 (v := nI (i + 1)) dX6_init_175 (nI_1 i) rfl ?_
    exact j_goto (tgt := 153) dX6_init_178 (by decide) K
  show J G RX6 cX6_init 2 true 6 Q 0 0 (165, hS12.2.1, hS12.2.2.1, m0T, hS12.2.2.2.2) 181 [some (.ref 0), some (.int (nI 79))] []
  refine j_aload_n dX6_init_181 rfl ?_
  refine j_getr dX6_init_182 fl_X6_12 rfl (o_0 hs) (r_0_0 hs) ?_
  refine j_aload_n dX6_init_185 rfl ?_
  refine j_getr dX6_init_186 fl_X6_23 rfl (o_0 hs) (r_0_2 hs) ?_
  refine j_cV1r dX6_init_189 (t_readInto hs pl_9 m0T_ok) ml_X6_83 my_X4_readInto mi_X4_readInto (o_1 hs) rfl (by omega) (Nat.le_of_ble_eq_true rfl) (Nat.le_of_ble_eq_true rfl) ?_
  refine j_pop dX6_init_192 rfl ?_
  refine j_aload_n dX6_init_193 rfl ?_
  refine j_getr dX6_init_194 fl_X6_31 rfl (o_0 hs) (r_0_3 hs) ?_
  refine j_cV0v dX6_init_197 (t_layOut hs twn_14) ml_X6_87 my_X5_layOut mi_X5_layOut (tO hs twn_14) rfl (by omega) (Nat.le_of_ble_eq_true rfl) (Nat.le_of_ble_eq_true rfl) ?_
  refine j_aload_n dX6_init_200 rfl ?_
  refine j_getr dX6_init_201 fl_X6_12 rfl (o_0 hs) (r_0_0 hs) ?_
  refine j_iconst (v := 0) dX6_init_204 (by decide) ?_
  refine j_puti dX6_init_205 fl_X6_90 rfl (o_1 hs) ?_
  exact j_vret dX6_init_208 hQ
