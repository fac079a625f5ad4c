/-! MAKING CELLS, COPYING ROWS -/
def jkd (κ : Nat → jK) (N : Nat) (x : jK) : Nat → jK := fun k => if k = N then x else κ k
theorem jkd_ne {κ : Nat → jK} {N k : Nat} {x : jK} (h : k ≠ N) : jkd κ N x k = κ k := if_neg h
theorem jkd_eq (κ : Nat → jK) (N : Nat) (x : jK) : jkd κ N x N = x := if_pos rfl
def jCF (ci : Nat) (C : String) (T : u_T) (n : Nat) : Prop := vwCl[ci]? = some (C, T, n) ∧ (∀ w ∈ u_ws C T n, w ∈ jTs) ∧ Cond.instantiable C n ∈ jTs ∧ Cond.initialized C ∈ jTs ∧ ∃ ty0 : Nat → FieldType, (∀ k, k < n → parseFieldDescriptor (T k).2.2.1 = some (ty0 k)) ∧ ∀ k, k < n → defaultValue (ty0 k) = if jrf ci k = true then .null else .int 0
theorem jcf_0 : jCF 0 RX0 TX0 4 := ⟨rfl, jinX0, is_X0, in_X0, tyX0, tyX0_ok, by decide +kernel⟩
theorem jcf_1 : jCF 1 RX1 TX1 8 := ⟨rfl, jinX1, is_X1, in_X1, tyX1, tyX1_ok, by decide +kernel⟩
theorem jcf_2 : jCF 2 RX2 TX2 3 := ⟨rfl, jinX2, is_X2, in_X2, tyX2, tyX2_ok, by decide +kernel⟩
theorem jcf_3 : jCF 3 RX3 TX3 6 := ⟨rfl, jinX3, is_X3, in_X3, tyX3, tyX3_ok, by decide +kernel⟩
theorem jcf_4 : jCF 4 RX4 TX4 3 := ⟨rfl, jinX4, is_X4, in_X4, tyX4, tyX4_ok, by decide +kernel⟩
theorem jcf_5 : jCF 5 RX5 TX5 8 := ⟨rfl, jinX5, is_X5, in_X5, tyX5, tyX5_ok, by decide +kernel⟩
theorem jcf_6 : jCF 6 RX6 TX6 10 := ⟨rfl, jinX6, is_X6, in_X6, tyX6, tyX6_ok, by decide +kernel⟩
theorem jcf_7 : jCF 7 RX7 TX7 25 := ⟨rfl, jinX7, is_X7, in_X7, tyX7, tyX7_ok, by decide +kernel⟩
section JR4
variable {G : jG} {own : String} {cc : ByteArray} {nL : Nat} {ini : Bool} {d : Nat} {Q : Option Value → jH → Prop} {ac sc : Nat} {pc : Nat} {lo : List (Option Value)} {st : List Value}
variable {N : Nat} {κ : Nat → jK} {ρ : Nat → Nat → Option Nat} {μ : Nat → Nat → Int32} {ν : Nat → Nat → Int64}
theorem j_new {ci idx n : Nat} {C : String} {T : u_T} (hd : decode cc pc = .ok (.new idx, 3)) (hcl : Cond.classLink own idx C ∈ jTs) (hC : jCF ci C T n) (k : J G own cc nL ini d Q ac sc (N + 1, jkd κ N (.inl ci), jrow ρ N (fun _ => none), jrow μ N (fun _ => 0), ν) (pc + 3) lo (.ref N :: st)) : J G own cc nL ini d Q (ac + 1) (sc + n) (N, κ, ρ, μ, ν) pc lo st := by
  intro p l e R s m args below meth c Z hM hK H locs cells slots ls hW hL hc hs hls
  have hM0 := hM
  obtain ⟨hx, hb, hml, hown, hts, hS, -⟩ := hM0
  obtain ⟨hvc, hin, hinst, hini, ty0, hty, hdef⟩ := hC
  have hKn := hS.1.1 ci _ hvc
  refine W.newcK hx hb hown (hts _ hcl) (hts _ hinst) (hts _ hini) rfl hd (by omega) (by omega) hKn.2.1 (h := jB G + N) hW.1 (fun H' kC hkC e1 z1 o1 => ?_)
  have hz : H.size = jB G + N := hW.1
  refine k p l e R s m args below meth c Z hM hK H' locs (cells + 1) (slots + n) ls (hW.push (by rw [z1, hz]) (fun q hq => o1 q (by rw [← hz]; exact hq)) rfl (fun k hk => ⟨jkd_ne (Nat.ne_of_lt hk), jrow_ne (Nat.ne_of_lt hk), jrow_ne (Nat.ne_of_lt hk), rfl⟩) ?_) hL (by omega) (by omega) hls
  show jcell G s N (jkd κ N (.inl ci) N) (jrow ρ N (fun _ => none) N) (jrow μ N (fun _ => 0) N) (ν N) H'
  rw [jkd_eq, jrow_eq, jrow_eq]
  refine ⟨_, hvc, (u_born ty0 hts hin hKn hkC e1 hty).to (fun j hj => ?_)⟩
  rw [hdef j hj]
  rfl
theorem j_newa {idx len : Nat} {x : Int32} {atype : ArrayType} (hd : decode cc pc = .ok (.newarray atype, 2)) (hac : Cond.arrayClass (newarray.typeOf atype) ∈ jTs) (hx : x = nI len) (hl : len ≤ 100000) (hat : atype = .int ∨ atype = .char ∨ atype = .long) (k : J G own cc nL ini d Q ac sc (N + 1, jkd κ N (.inr (newarray.typeOf atype, len)), jrow ρ N (fun _ => none), jrow μ N (fun _ => 0), jrow ν N (fun _ => 0)) (pc + 2) lo (.ref N :: st)) : J G own cc nL ini d Q (ac + 1) (sc + len) (N, κ, ρ, μ, ν) pc lo (.int x :: st) := by
  intro p l e R s m args below meth c Z hM hK H locs cells slots ls hW hL hc hs hls
  have hM0 := hM
  obtain ⟨hx0, hb, hml, hown, hts, hS, -⟩ := hM0
  have hz : H.size = jB G + N := hW.1
  have hb8 : componentBytes (newarray.typeOf atype) ≤ 8 := by rcases hat with rfl | rfl | rfl <;> decide
  have hbm : len * componentBytes (newarray.typeOf atype) ≤ len * 8 := Nat.mul_le_mul_left _ hb8
  refine va_newaK hx0 hb (hts _ hac) rfl hd rfl (by rw [hx]; exact nI_pos (by omega)) (N := len) (by rw [hx]; exact nI_clamp (by omega)) (by omega) (by omega) (by omega) hz (fun H1 cA e1 z1 o1 hAr hNm => ?_)
  refine k p l e R s m args below meth c Z hM hK H1 locs (cells + 1) (slots + len) ls (hW.push (by rw [z1, hz]) (fun q hq => o1 q (by rw [← hz]; exact hq)) rfl (fun k hk => ⟨jkd_ne (Nat.ne_of_lt hk), jrow_ne (Nat.ne_of_lt hk), jrow_ne (Nat.ne_of_lt hk), jrow_ne (Nat.ne_of_lt hk)⟩) ?_) hL (by omega) (by omega) hls
  show jcell G s N (jkd κ N (.inr (newarray.typeOf atype, len)) N) (jrow ρ N (fun _ => none) N) (jrow μ N (fun _ => 0) N) (jrow ν N (fun _ => 0) N) H1
  rw [jkd_eq, jrow_eq, jrow_eq, jrow_eq]
  refine ⟨cA, hAr, by rcases hat with rfl | rfl | rfl <;> exact hNm, ?_⟩
  rw [e1]
  rcases hat with rfl | rfl | rfl <;> rfl
theorem j_anew {idx len : Nat} {x : Int32} (hd : decode cc pc = .ok (.anewarray idx, 3)) (hcl : Cond.classLink own idx RX5 ∈ jTs) (hx : x = nI len) (hl : len ≤ 100000) (k : J G own cc nL ini d Q ac sc (N + 1, jkd κ N (.inr (.object RX5, len)), jrow ρ N (fun _ => none), jrow μ N (fun _ => 0), jrow ν N (fun _ => 0)) (pc + 3) lo (.ref N :: st)) : J G own cc nL ini d Q (ac + 1) (sc + len) (N, κ, ρ, μ, ν) pc lo (.int x :: st) := by
  intro p l e R s m args below meth c Z hM hK H locs cells slots ls hW hL hc hs hls
  have hM0 := hM
  obtain ⟨hx0, hb, hml, hown, hts, hS, -⟩ := hM0
  have hz : H.size = jB G + N := hW.1
  have hlc : x.toNatClampNeg = len := by rw [hx]; exact nI_clamp (by omega)
  refine W.anew hx0 hb hown (hts _ hcl) (va_AO.use hS.2.2.2.1) rfl hd rfl (by rw [hx]; exact nI_pos (by omega)) (by omega) (by omega) (by omega) (fun cA kA comp f1 f2 f3 f4 => ?_)
  rw [hlc, hz]
  generalize hH1 : H.push ({ cls := cA, slots := Array.replicate len .null, vm := .none } : Cell) = H1
  have z1 : H1.size = H.size + 1 := by rw [← hH1, Array.size_push]
  have e1 : H1[H.size]? = some (arrV cA len (fun _ => .null)) := by rw [← hH1, Array.getElem?_push_size, ← arrV_new]
  have o1 : ∀ q : Nat, q < H.size → H1[q]? = H[q]? := fun q hq => by rw [← hH1, Array.getElem?_push, if_neg (Nat.ne_of_lt hq)]
  have hAr : ArrOfT s cA (.object RX5) := fun N z => ⟨(fun k h => by cases h), kA, f2, comp, f3⟩
  refine k p l e R s m args below meth c Z hM hK H1 locs (cells + 1) (slots + len) ls (hW.push z1 o1 rfl (fun k hk => ⟨jkd_ne (Nat.ne_of_lt hk), jrow_ne (Nat.ne_of_lt hk), jrow_ne (Nat.ne_of_lt hk), jrow_ne (Nat.ne_of_lt hk)⟩) ?_) hL (by omega) (by omega) hls
  show jcell G s N (jkd κ N (.inr (.object RX5, len)) N) (jrow ρ N (fun _ => none) N) (jrow μ N (fun _ => 0) N) (jrow ν N (fun _ => 0) N) H1
  rw [jkd_eq, jrow_eq, jrow_eq, jrow_eq]
  refine ⟨cA, hAr, ⟨kA, comp, f2, f3, f4, f1⟩, ?_⟩
  rw [← hz, e1]
  rfl
theorem j_copyi {src dst n0 n1 k idx : Nat} {x : Int32} (hd : decode cc pc = .ok (.invokestatic idx, 3)) (hl : Cond.methodLink own idx arraycopyName ∈ jTs) (hA0 : jA N κ src .int n0) (hA1 : jA N κ dst .int n1) (hx : x = nI k) (h0 : k ≤ n0) (h1 : k ≤ n1) (hdd : 1 ≤ d) (hst : (st.map fun v => v.category).sum ≤ 8) (kk : J G own cc nL ini d Q ac sc (N, κ, ρ, jrow μ dst (fun j => if j < k then μ src j else μ dst j), ν) (pc + 3) lo st) : J G own cc nL ini d Q ac sc (N, κ, ρ, μ, ν) pc lo (.int x :: .int 0 :: .ref dst :: .int 0 :: .ref src :: st) := by
  intro p l e R s m args below meth c Z hM hK H locs cells slots ls hW hL hc hs hls
  have hM0 := hM
  obtain ⟨hx0, hb, hml, hown, hts, hS, hf, hlo, -⟩ := hM0
  obtain ⟨c0, hAr0, -, hH0⟩ := jarr hW hA0
  obtain ⟨c1, hAr1, hRA1, hH1⟩ := jarr hW hA1
  have hk31 : k < 2 ^ 31 := Nat.lt_of_le_of_lt h0 hA0.2.2
  have ek : x.toNatClampNeg = k := by rw [hx]; exact nI_clamp hk31
  have ei : x.toInt = (k : Int) := by rw [hx]; exact nI_toInt hk31
  obtain ⟨-, k0, hk0, cm0, hkk0⟩ := hAr0 n0 (fun j => .int (μ src j))
  obtain ⟨-, k1, hk1, cm1, hkk1⟩ := hAr1 n1 (fun j => .int (μ dst j))
  intro T hT X
  obtain ⟨vm', X', step⟩ := X.arraycopy hx0 hown (hts _ hl) (hts _ an_cpy) (hts _ as_cpy) (hts _ in_sys) (src := jB G + src) (dst := jB G + dst) (cs := arrV c0 n0 (fun j => .int (μ src j))) (cd := arrV c1 n1 (fun j => .int (μ dst j))) (srcPos := 0) (destPos := 0) (n := x) (by rw [hT]; exact hH0) (by rw [hT]; exact hH1)
    (fun _ h => by cases h) (fun _ h => by cases h) (fun h => by cases h) (fun h => by cases h) hk0 hk1 hkk0 hkk1 (by decide) (by decide) (by decide) (by rw [hx]; exact nI_pos hk31)
    (by rw [ei, arrV_size]; simp; omega) (by rw [ei, arrV_size]; simp; omega)
    (fun vm₁ _ i hi => by
      have e1 : (arrV c0 n0 (fun j => .int (μ src j))).slots.getD ((0 : Int32).toNatClampNeg + i) .null = .int (μ src ((0 : Int32).toNatClampNeg + i)) := by
        have z0 : (0 : Int32).toNatClampNeg = 0 := by decide
        rw [Array.getD_eq_getD_getElem?, arrV_read _ _ (by rw [z0]; omega)]
        rfl
      rw [e1]
      exact ⟨rfl, trivial⟩)
    (g := F0 m pc ls (.int x :: .int 0 :: .ref (jB G + dst) :: .int 0 :: .ref (jB G + src) :: st.map (jtr G))) rfl (by rw [hml]; exact hls.2.1) (rest := st.map (jtr G)) rfl (by rw [hb]; exact hd) (by omega) (by
      show 2 * 0 + ((st.map (jtr G)).map fun v => v.category).sum + (nativeFrameWords "java/lang/System" "arraycopy" 5 + 11) ≤ R.locals
      rw [jcat]
      have : nativeFrameWords "java/lang/System" "arraycopy" 5 + 11 ≤ 50 := by decide
      omega)
  have z0 : (0 : Int32).toNatClampNeg = 0 := by decide
  have e1 : copied (arrV c0 n0 (fun j => .int (μ src j))) (arrV c1 n1 (fun j => .int (μ dst j))) 0 0 x = arrV c1 n1 (fun j => .int (va_cpy (μ src) (μ dst) 0 0 k j)) := by
    have := va_copied (fun z => Value.int z) c0 c1 (n0 := n0) (n1 := n1) (sp := 0) (dp := 0) (n := k) (μ src) (μ dst) (by omega)
    rw [← this, ← ek, ← z0]
  rw [e1] at X' step
  have hlt : jB G + dst < H.size := (Array.getElem?_eq_some_iff.mp hH1).1
  have hheap : ((T.setVm vm').setCell (jB G + dst) (arrV c1 n1 (fun j => .int (va_cpy (μ src) (μ dst) 0 0 k j)))).heap = H.setIfInBounds (jB G + dst) (arrV c1 n1 (fun j => .int (va_cpy (μ src) (μ dst) 0 0 k j))) := by rw [← hT]; rfl
  have oq : ∀ q : Nat, q ≠ jB G + dst → (H.setIfInBounds (jB G + dst) (arrV c1 n1 (fun j => .int (va_cpy (μ src) (μ dst) 0 0 k j))))[q]? = H[q]? := fun q hq => by simp [Array.getElem?_setIfInBounds, Ne.symm hq]
  obtain ⟨t, a1, b1⟩ := kk p l e R s m args below meth c Z hM hK _ _ cells slots ls (hW.write (H' := H.setIfInBounds (jB G + dst) (arrV c1 n1 (fun j => .int (va_cpy (μ src) (μ dst) 0 0 k j)))) (h' := (N, κ, ρ, jrow μ dst (fun j => if j < k then μ src j else μ dst j), ν)) (by simp) oq rfl (fun k hk => ⟨rfl, rfl, jrow_ne hk, rfl⟩) (by
      show jcell G s dst (κ dst) (ρ dst) (jrow μ dst (fun j => if j < k then μ src j else μ dst j) dst) (ν dst) _
      rw [show κ dst = .inr (.int, n1) from hA1.2.1, jrow_eq]
      refine ⟨c1, hAr1, hRA1, ?_⟩
      rw [Array.getElem?_setIfInBounds_self_of_lt hlt]
      congr 2
      funext j
      simp [jav, va_cpy])) (fun q hq => by
      rcases List.mem_append.mp hq with z | z
      · exact hL q z
      · obtain ⟨w, -, hw⟩ := List.mem_map.mp z
        rw [← hw]
        exact Nat.le_add_right _ _) hc hs hls _ hheap X'
  exact ⟨t, step t a1, b1⟩
end JR4
