/-! HEAP RULES -/
def jO (N : Nat) (κ : Nat → jK) (a ci : Nat) : Prop := a < N ∧ κ a = .inl ci
def jA (N : Nat) (κ : Nat → jK) (a : Nat) (ty : FieldType) (n : Nat) : Prop := a < N ∧ κ a = .inr (ty, n) ∧ n < 2 ^ 31
theorem jclamp {i : Int32} {k n : Nat} (hi : i = nI k) (hk : k < n) (hn : n < 2 ^ 31) : i.toNatClampNeg = k ∧ ¬ (i < 0 ∨ n ≤ i.toNatClampNeg) := by
  subst hi
  have e := nI_clamp (n := k) (by omega)
  refine ⟨e, ?_⟩
  rw [e]
  rintro (q | q)
  · exact nI_pos (by omega) q
  · omega
section JW
variable {G : jG} {own : String} {cc : ByteArray} {nL : Nat} {ini : Bool} {d : Nat} {h : jH} {pc : Nat}
variable {p : Program} {l : Launch} {e : Env} {R : Room} {s : State} {m : MethodId} {args : Array Value} {below : List Frame} {meth : Method} {c : Code} {H : Heap} {locs : List Loc} {cells slots : Nat} {Z : State → Prop} {ls : Array Slot} {rest : List Value}
theorem jW_get {a ci j idx : Nat} {fin : Bool} {ty : FieldType} (hM : jM G own cc nL ini d p R s m args meth c) (hW : jWD G s h H) (ho : jO h.1 h.2.1 a ci) (hF : jFL own idx ci j fin ty) (hd : decode cc pc = .ok (.getfield idx, 3))
    (kk : W p l e R s m args below meth c H locs cells slots Z (F0 m (pc + 3) ls (jfv G ci (h.2.2.1 a) (h.2.2.2.1 a) j :: rest))) : W p l e R s m args below meth c H locs cells slots Z (F0 m pc ls (.ref (jB G + a) :: rest)) := by
  obtain ⟨hx, hb, hml, hown, hts, hS, -⟩ := hM
  obtain ⟨C, T, N, hc, hin, hj, hlk, hC, -, -⟩ := hF
  have hcl := hW.2.2 a ho.1
  rw [ho.2] at hcl
  obtain ⟨q, hq, cell, q1, q2, q3, q4⟩ := hcl
  have hq' : q = (C, T, N) := Option.some.inj (hq.symm.trans hc)
  subst hq'
  obtain ⟨hSl, hfc, kC, hkC, hkind⟩ := hS.1.1 ci _ hc
  obtain ⟨cf, kf, fi, f, hi, hsl⟩ := hSl j hj
  refine W.getf hx hb hown (hts _ hlk) hi (u_facts hfc hkC (u_lays hts hin hj) hi).1 q1 (by rw [q3]; exact fun h => by cases h) (v := jfv G ci (h.2.2.1 a) (h.2.2.2.1 a) j) ?_ rfl rfl hd kk
  rw [hsl]
  exact q4 j hj
theorem jloc {a : Nat} {k : Nat} (hL : ∀ q ∈ locs, jB G ≤ q.base) : ∀ q ∈ locs ++ [(⟨jB G + a, k⟩ : Loc)], jB G ≤ q.base := by
  intro q hq
  rcases List.mem_append.mp hq with h | h
  · exact hL q h
  · rw [List.mem_singleton.mp h]; exact Nat.le_add_right _ _
/-- a field is put: any of its values, final or not -/
theorem jW_put {a ci j idx : Nat} {fin : Bool} {ty : FieldType} {v : Value} {h' : jH} (hM : jM G own cc nL ini d p R s m args meth c) (hW : jWD G s h H) (ho : jO h.1 h.2.1 a ci) (hF : jFL own idx ci j fin ty) (hfin : fin = true → ini = true ∧ vwCl[ci]?.map (fun q => q.1) = some own) (hnw : narrow ty v = v) (hft : fits ty v = true) (hL : ∀ q ∈ locs, jB G ≤ q.base)
    (hd : decode cc pc = .ok (.putfield idx, 3)) (hn : h'.1 = h.1) (hk : ∀ k, k ≠ a → h'.2.1 k = h.2.1 k ∧ h'.2.2.1 k = h.2.2.1 k ∧ h'.2.2.2.1 k = h.2.2.2.1 k ∧ h'.2.2.2.2 k = h.2.2.2.2 k) (hka : h'.2.1 a = h.2.1 a)
    (hv : ∀ i, updV (jfv G ci (h.2.2.1 a) (h.2.2.2.1 a)) j v i = jfv G ci (h'.2.2.1 a) (h'.2.2.2.1 a) i)
    (kk : ∀ (H1 : Heap) (locs1 : List Loc), jWD G s h' H1 → (∀ q ∈ locs1, jB G ≤ q.base) → W p l e R s m args below meth c H1 locs1 cells slots Z (F0 m (pc + 3) ls rest)) : W p l e R s m args below meth c H locs cells slots Z (F0 m pc ls (v :: .ref (jB G + a) :: rest)) := by
  obtain ⟨hx, hb, hml, hown, hts, hS, -, -, hin2⟩ := hM
  obtain ⟨C, T, N, hc, hin, hj, hlk, hC, hfe, ty0, hty, hty1, hnm⟩ := hF
  have hcl := hW.2.2 a ho.1
  rw [ho.2] at hcl
  obtain ⟨q, hq, cell, q1, q2, q3, q4⟩ := hcl
  have hq' : q = (C, T, N) := Option.some.inj (hq.symm.trans hc)
  subst hq'
  have hap := va_apart (own := own) hts hin ty0 hty hnm hS.1 hc
  obtain ⟨hSl, hfc, kC, hkC, hkind⟩ := hS.1.1 ci _ hc
  obtain ⟨cf, kf, fi, f, hi, hsl⟩ := hSl j hj
  have hst := (u_facts hfc hkC (u_lays hts hin hj) hi).1
  have hd1 : parseFieldDescriptor (T j).2.2.1 = some ty := by rw [hty j hj, hty1]
  have hlay := hts _ (hin _ (u_in_lay hj))
  unfold u_lay at hlay
  have fin' : ∀ H' : Heap, H'[jB G + a]? = some (cell.setSlot f.slot v) → H'.size = H.size → (∀ q, q ≠ jB G + a → H'[q]? = H[q]?) → W p l e R s m args below meth c H' (locs ++ [⟨jB G + a, f.slot⟩]) cells slots Z (F0 m (pc + 3) ls rest) := by
    intro H' e1 e2 e3
    rw [hsl] at e1 ⊢
    refine kk H' _ (hW.write e2 e3 hn hk ?_) (jloc hL)
    rw [hka, ho.2]
    exact ⟨_, hc, t_OB.to (V := updV (jfv G ci (h.2.2.1 a) (h.2.2.2.1 a)) j v) ⟨_, e1, q2, q3, t_set q4 hap hj v⟩ (fun i _ => hv i)⟩
  cases fin with
  | false =>
    rw [if_neg (by rw [hfe]; decide)] at hlay
    have h6 := u_store hfc hkC hkind hlay hi hd1 hnw hft
    exact W.putK hx hb (f := f) ⟨hown, hts _ hlk, ⟨_, _, _, hi⟩, hst⟩ (by rw [q2]; exact h6) q1 q3 (by rw [hsl]; exact k2_hasslot (q4 j hj)) rfl rfl hd fin'
  | true =>
    rw [if_pos hfe] at hlay
    obtain ⟨f1, f2⟩ := hfin rfl
    have hCo : C = own := by rw [hc] at f2; exact Option.some.inj f2
    have hcf : m.cls = cf := by
      obtain ⟨_, _, c', _, _, _, -, -, hf', -, -, -, hown2, -⟩ := Cond.laysFinal_spec hlay
      have e1 : c' = cf := by have := hi.symm.trans hf'; simp at this; exact this.1.symm
      rw [hC, hCo] at hown2
      rw [← e1]; exact Option.some.inj (hown.symm.trans hown2)
    have h6 := u_fits hfc hkC hkind (Or.inr hlay) hi hd1 hnw hft
    exact W.putFinK hx hb hown (hts _ hlk) hi hst hcf (hin2 f1) (by rw [q2]; exact h6) q1 q3 (by rw [hsl]; exact k2_hasslot (q4 j hj)) rfl rfl hd fin'
end JW
section JR2
variable {G : jG} {own : String} {cc : ByteArray} {nL : Nat} {ini : Bool} {d : Nat} {Q : Option Value → jH → Prop} {ac sc : Nat} {pc : Nat} {lo : List (Option Value)} {st : List Value}
variable {N : Nat} {κ : Nat → jK} {ρ : Nat → Nat → Option Nat} {μ : Nat → Nat → Int32} {ν : Nat → Nat → Int64}
theorem j_geti {a ci j idx : Nat} {fin : Bool} {ty : FieldType} (hd : decode cc pc = .ok (.getfield idx, 3)) (hF : jFL own idx ci j fin ty) (hr : jrf ci j = false) (ho : jO N κ a ci) (k : J G own cc nL ini d Q ac sc (N, κ, ρ, μ, ν) (pc + 3) lo (.int (μ a j) :: st)) : J G own cc nL ini d Q ac sc (N, κ, ρ, μ, ν) pc lo (.ref a :: st) := by
  intro p l e R s m args below meth c Z hM hK H locs cells slots ls hW hL hc hs hl
  refine jW_get hM hW ho hF hd ?_
  have := k p l e R s m args below meth c Z hM hK H locs cells slots ls hW hL hc hs hl
  simp only [jfv, hr]
  exact this
theorem j_getr {a b ci j idx : Nat} {fin : Bool} {ty : FieldType} (hd : decode cc pc = .ok (.getfield idx, 3)) (hF : jFL own idx ci j fin ty) (hr : jrf ci j = true) (ho : jO N κ a ci) (hb : ρ a j = some b) (k : J G own cc nL ini d Q ac sc (N, κ, ρ, μ, ν) (pc + 3) lo (.ref b :: st)) : J G own cc nL ini d Q ac sc (N, κ, ρ, μ, ν) pc lo (.ref a :: st) := by
  intro p l e R s m args below meth c Z hM hK H locs cells slots ls hW hL hc hs hl
  refine jW_get hM hW ho hF hd ?_
  have := k p l e R s m args below meth c Z hM hK H locs cells slots ls hW hL hc hs hl
  simp only [jfv, hr, hb]
  exact this
theorem j_puti {a ci j idx : Nat} {v : Int32} (hd : decode cc pc = .ok (.putfield idx, 3)) (hF : jFL own idx ci j false .int) (hr : jrf ci j = false) (ho : jO N κ a ci) (k : J G own cc nL ini d Q ac sc (N, κ, ρ, jup μ a j v, ν) (pc + 3) lo st) : J G own cc nL ini d Q ac sc (N, κ, ρ, μ, ν) pc lo (.int v :: .ref a :: st) := by
  intro p l e R s m args below meth c Z hM hK H locs cells slots ls hW hL hc hs hl
  refine jW_put (h' := (N, κ, ρ, jup μ a j v, ν)) hM hW ho hF (fun h => by cases h) rfl rfl hL hd rfl (fun k hk => ⟨rfl, rfl, jup_ne hk, rfl⟩) rfl (fun i => ?_) (fun H1 locs1 hW1 hL1 => k p l e R s m args below meth c Z hM hK H1 locs1 cells slots ls hW1 hL1 hc hs hl)
  simp only [updV, jfv, jup_eq]
  by_cases hi : i = j
  · subst hi; simp [hr, jtr]
  · simp [hi]
theorem j_putF {a b ci j idx : Nat} {ty : FieldType} (hd : decode cc pc = .ok (.putfield idx, 3)) (hF : jFL own idx ci j true ty) (hr : jrf ci j = true) (ho : jO N κ a ci) (hi : ini = true) (hown : vwCl[ci]?.map (fun q => q.1) = some own) (hnw : narrow ty (.ref (jB G + b)) = .ref (jB G + b)) (hft : fits ty (.ref (jB G + b)) = true) (k : J G own cc nL ini d Q ac sc (N, κ, jup ρ a j (some b), μ, ν) (pc + 3) lo st) : J G own cc nL ini d Q ac sc (N, κ, ρ, μ, ν) pc lo (.ref b :: .ref a :: st) := by
  intro p l e R s m args below meth c Z hM hK H locs cells slots ls hW hL hc hs hl
  refine jW_put (h' := (N, κ, jup ρ a j (some b), μ, ν)) hM hW ho hF (fun _ => ⟨hi, hown⟩) hnw hft hL hd rfl (fun k hk => ⟨rfl, jup_ne hk, rfl, rfl⟩) rfl (fun i => ?_) (fun H1 locs1 hW1 hL1 => k p l e R s m args below meth c Z hM hK H1 locs1 cells slots ls hW1 hL1 hc hs hl)
  simp only [updV, jfv, jup_eq]
  by_cases hi : i = j
  · subst hi; simp [hr, va_rf, jtr]
  · simp [hi]
/-! arrays -/
theorem jarr {s : State} {H : Heap} {h : jH} {a n : Nat} {ty : FieldType} (hW : jWD G s h H) (hA : jA h.1 h.2.1 a ty n) : ∃ cA : ClassId, ArrOfT s cA ty ∧ va_RA s cA ty ∧ H[jB G + a]? = some (arrV cA n (jav G ty (h.2.2.1 a) (h.2.2.2.1 a) (h.2.2.2.2 a))) := by
  have := hW.2.2 a hA.1
  rw [hA.2.1] at this
  exact this
theorem j_iald {a n k : Nat} {i : Int32} (hd : decode cc pc = .ok (.iaload, 1)) (hA : jA N κ a .int n) (hi : i = nI k) (hk : k < n) (kk : J G own cc nL ini d Q ac sc (N, κ, ρ, μ, ν) (pc + 1) lo (.int (μ a k) :: st)) : J G own cc nL ini d Q ac sc (N, κ, ρ, μ, ν) pc lo (.int i :: .ref a :: st) := by
  intro p l e R s m args below meth c Z hM hK H locs cells slots ls hW hL hc hs hl
  obtain ⟨cA, hAr, -, hH⟩ := jarr hW hA
  obtain ⟨e1, e2⟩ := jclamp hi hk hA.2.2
  exact W.iald (v := .int (μ a k)) hM.1 hM.2.1 hH (hAr n _) (fun q => by cases q) (by rw [arrV_size]; exact e2) (by rw [e1, arrV_read _ _ hk]; rfl) rfl rfl hd (kk p l e R s m args below meth c Z hM hK H locs cells slots ls hW hL hc hs hl)
theorem j_cald {a n k : Nat} {i : Int32} (hd : decode cc pc = .ok (.caload, 1)) (hA : jA N κ a .char n) (hi : i = nI k) (hk : k < n) (kk : J G own cc nL ini d Q ac sc (N, κ, ρ, μ, ν) (pc + 1) lo (.int (μ a k) :: st)) : J G own cc nL ini d Q ac sc (N, κ, ρ, μ, ν) pc lo (.int i :: .ref a :: st) := by
  intro p l e R s m args below meth c Z hM hK H locs cells slots ls hW hL hc hs hl
  obtain ⟨cA, hAr, -, hH⟩ := jarr hW hA
  obtain ⟨e1, e2⟩ := jclamp hi hk hA.2.2
  exact W.cald (v := .int (μ a k)) hM.1 hM.2.1 hH (hAr n _) (fun q => by cases q) (by rw [arrV_size]; exact e2) (by rw [e1, arrV_read _ _ hk]; rfl) rfl rfl hd (kk p l e R s m args below meth c Z hM hK H locs cells slots ls hW hL hc hs hl)
theorem j_lald {a n k : Nat} {i : Int32} (hd : decode cc pc = .ok (.laload, 1)) (hA : jA N κ a .long n) (hi : i = nI k) (hk : k < n) (kk : J G own cc nL ini d Q ac sc (N, κ, ρ, μ, ν) (pc + 1) lo (.long (ν a k) :: st)) : J G own cc nL ini d Q ac sc (N, κ, ρ, μ, ν) pc lo (.int i :: .ref a :: st) := by
  intro p l e R s m args below meth c Z hM hK H locs cells slots ls hW hL hc hs hl
  obtain ⟨cA, hAr, -, hH⟩ := jarr hW hA
  obtain ⟨e1, e2⟩ := jclamp hi hk hA.2.2
  exact W.lald (v := .long (ν a k)) hM.1 hM.2.1 hH (hAr n _) (fun q => by cases q) (by rw [arrV_size]; exact e2) (by rw [e1, arrV_read _ _ hk]; rfl) rfl rfl hd (kk p l e R s m args below meth c Z hM hK H locs cells slots ls hW hL hc hs hl)
theorem j_aald {a b n k : Nat} {i : Int32} {C : String} (hd : decode cc pc = .ok (.aaload, 1)) (hA : jA N κ a (.object C) n) (hi : i = nI k) (hk : k < n) (hb : ρ a k = some b) (kk : J G own cc nL ini d Q ac sc (N, κ, ρ, μ, ν) (pc + 1) lo (.ref b :: st)) : J G own cc nL ini d Q ac sc (N, κ, ρ, μ, ν) pc lo (.int i :: .ref a :: st) := by
  intro p l e R s m args below meth c Z hM hK H locs cells slots ls hW hL hc hs hl
  obtain ⟨cA, hAr, -, hH⟩ := jarr hW hA
  obtain ⟨e1, e2⟩ := jclamp hi hk hA.2.2
  exact W.aald (v := .ref (jB G + b)) (ty := .object C) hM.1 hM.2.1 hH (hAr n _) rfl (fun q => by cases q) (by rw [arrV_size]; exact e2) (by rw [e1, arrV_read _ _ hk]; simp only [jav, hb]; rfl) rfl rfl hd (kk p l e R s m args below meth c Z hM hK H locs cells slots ls hW hL hc hs hl)
theorem j_alen {a n : Nat} {ty : FieldType} (hd : decode cc pc = .ok (.arraylength, 1)) (hA : jA N κ a ty n) (kk : J G own cc nL ini d Q ac sc (N, κ, ρ, μ, ν) (pc + 1) lo (.int (nI n) :: st)) : J G own cc nL ini d Q ac sc (N, κ, ρ, μ, ν) pc lo (.ref a :: st) := by
  intro p l e R s m args below meth c Z hM hK H locs cells slots ls hW hL hc hs hl
  obtain ⟨cA, hAr, -, hH⟩ := jarr hW hA
  exact W.alen (n := nI n) hM.1 hM.2.1 hH (hAr n _) (by rw [arrV_size]; rfl) rfl rfl hd (kk p l e R s m args below meth c Z hM hK H locs cells slots ls hW hL hc hs hl)
theorem j_iast {a n k : Nat} {i x : Int32} (hd : decode cc pc = .ok (.iastore, 1)) (hA : jA N κ a .int n) (hi : i = nI k) (hk : k < n) (kk : J G own cc nL ini d Q ac sc (N, κ, ρ, jup μ a k x, ν) (pc + 1) lo st) : J G own cc nL ini d Q ac sc (N, κ, ρ, μ, ν) pc lo (.int x :: .int i :: .ref a :: st) := by
  intro p l e R s m args below meth c Z hM hK H locs cells slots ls hW hL hc hs hl
  obtain ⟨cA, hAr, hRA, hH⟩ := jarr hW hA
  obtain ⟨e1, e2⟩ := jclamp hi hk hA.2.2
  refine W.iast hM.1 hM.2.1 hH (hAr n _) (fun q => by cases q) (by rw [arrV_size]; exact e2) rfl rfl hd (fun H' f1 f2 f3 => ?_)
  refine kk p l e R s m args below meth c Z hM hK H' _ cells slots ls (hW.write f2 f3 rfl (fun k hk => ⟨rfl, rfl, jup_ne hk, rfl⟩) ?_) (jloc hL) hc hs hl
  show jcell G s a (κ a) _ _ _ _
  rw [show κ a = .inr (.int, n) from hA.2.1]
  refine ⟨cA, hAr, hRA, ?_⟩
  rw [f1, arrV_store, e1]
  congr 2
  funext q
  simp only [updV, jav, jup_eq]
  by_cases hq : q = k <;> simp [hq]
theorem j_cast {a n k : Nat} {i x : Int32} (hd : decode cc pc = .ok (.castore, 1)) (hA : jA N κ a .char n) (hi : i = nI k) (hk : k < n) (hx : narrow .char (.int x) = .int x) (kk : J G own cc nL ini d Q ac sc (N, κ, ρ, jup μ a k x, ν) (pc + 1) lo st) : J G own cc nL ini d Q ac sc (N, κ, ρ, μ, ν) pc lo (.int x :: .int i :: .ref a :: st) := by
  intro p l e R s m args below meth c Z hM hK H locs cells slots ls hW hL hc hs hl
  obtain ⟨cA, hAr, hRA, hH⟩ := jarr hW hA
  obtain ⟨e1, e2⟩ := jclamp hi hk hA.2.2
  refine W.cast hM.1 hM.2.1 hH (hAr n _) (fun q => by cases q) (by rw [arrV_size]; exact e2) rfl rfl hd (fun H' f1 f2 f3 => ?_)
  refine kk p l e R s m args below meth c Z hM hK H' _ cells slots ls (hW.write f2 f3 rfl (fun k hk => ⟨rfl, rfl, jup_ne hk, rfl⟩) ?_) (jloc hL) hc hs hl
  show jcell G s a (κ a) _ _ _ _
  rw [show κ a = .inr (.char, n) from hA.2.1]
  refine ⟨cA, hAr, hRA, ?_⟩
  rw [f1, arrV_store, e1, hx]
  congr 2
  funext q
  simp only [updV, jav, jup_eq]
  by_cases hq : q = k <;> simp [hq]
theorem j_last {a n k : Nat} {i : Int32} {x : Int64} (hd : decode cc pc = .ok (.lastore, 1)) (hA : jA N κ a .long n) (hi : i = nI k) (hk : k < n) (kk : J G own cc nL ini d Q ac sc (N, κ, ρ, μ, jup ν a k x) (pc + 1) lo st) : J G own cc nL ini d Q ac sc (N, κ, ρ, μ, ν) pc lo (.long x :: .int i :: .ref a :: st) := by
  intro p l e R s m args below meth c Z hM hK H locs cells slots ls hW hL hc hs hl
  obtain ⟨cA, hAr, hRA, hH⟩ := jarr hW hA
  obtain ⟨e1, e2⟩ := jclamp hi hk hA.2.2
  refine W.last hM.1 hM.2.1 hH (hAr n _) (fun q => by cases q) (by rw [arrV_size]; exact e2) rfl rfl hd (fun H' f1 f2 f3 => ?_)
  refine kk p l e R s m args below meth c Z hM hK H' _ cells slots ls (hW.write f2 f3 rfl (fun k hk => ⟨rfl, rfl, rfl, jup_ne hk⟩) ?_) (jloc hL) hc hs hl
  show jcell G s a (κ a) _ _ _ _
  rw [show κ a = .inr (.long, n) from hA.2.1]
  refine ⟨cA, hAr, hRA, ?_⟩
  rw [f1, arrV_store, e1]
  congr 2
  funext q
  simp only [updV, jav, jup_eq]
  by_cases hq : q = k <;> simp [hq]
theorem j_aast {a b n k ci : Nat} {i : Int32} {C : String} {T : u_T} {nf : Nat} (hd : decode cc pc = .ok (.aastore, 1)) (hA : jA N κ a (.object C) n) (hi : i = nI k) (hk : k < n) (ho : jO N κ b ci) (hc0 : vwCl[ci]? = some (C, T, nf)) (kk : J G own cc nL ini d Q ac sc (N, κ, jup ρ a k (some b), μ, ν) (pc + 1) lo st) : J G own cc nL ini d Q ac sc (N, κ, ρ, μ, ν) pc lo (.ref b :: .int i :: .ref a :: st) := by
  intro p l e R s m args below meth c Z hM hK H locs cells slots ls hW hL hc hs hl
  obtain ⟨cA, hAr, hRA, hH⟩ := jarr hW hA
  obtain ⟨e1, e2⟩ := jclamp hi hk hA.2.2
  have hcl := hW.2.2 b ho.1
  dsimp only at hcl
  rw [ho.2] at hcl
  obtain ⟨q, hq, cellV, g1, g2, g3, -⟩ := hcl
  have hcls := (hM.2.2.2.2.2.1.1.1 ci _ hc0).2
  obtain ⟨kA, comp, k1, k2, k3, -⟩ := id hRA
  have hcomp : comp = G.2.1 ci := Option.some.inj (k3.symm.trans hcls.1)
  subst hcomp
  obtain ⟨kC, hkC, -⟩ := id hcls.2
  refine W.aast hM.1 hM.2.1 hH (fun q h => by cases h) (fun h => by cases h) k1 k2 rfl hkC ⟨fun z => e2 (Or.inl z), by rw [arrV_size, e1]; exact hk⟩ g1 (fun q h => by rw [g3] at h; cases h) (by rw [g2]; exact hkC) (by rw [g2]; exact va_assign hcls) rfl rfl hd (fun H' f1 f2 f3 => ?_)
  refine kk p l e R s m args below meth c Z hM hK H' _ cells slots ls (hW.write f2 f3 rfl (fun k hk => ⟨rfl, jup_ne hk, rfl, rfl⟩) ?_) (jloc hL) hc hs hl
  show jcell G s a (κ a) _ _ _ _
  rw [show κ a = .inr (.object C, n) from hA.2.1]
  refine ⟨cA, hAr, hRA, ?_⟩
  rw [f1, arrV_store, e1]
  congr 2
  funext q
  simp only [updV, jav, jup_eq]
  by_cases hq : q = k <;> simp [hq, va_rf]
/-! the script -/
theorem jscr {s : State} {H : Heap} {h : jH} (hS : jS G s) (hW : jWD G s h H) : va_X (jsc G) (jsL G) (jsx G) s H := hS.2.1.kept (hW.2.1 _ hS.2.2.1)
theorem j_sld {k : Nat} {i : Int32} {h : jH} (hd : decode cc pc = .ok (.iaload, 1)) (hi : i = nI k) (hk : k < jsL G) (hn : jsL G < 2 ^ 31) (kk : J G own cc nL ini d Q ac sc h (pc + 1) lo (.int (jsx G k) :: st)) : J G own cc nL ini d Q ac sc h pc lo (.int i :: .float 0 :: st) := by
  intro p l e R s m args below meth c Z hM hK H locs cells slots ls hW hL hc hs hl
  obtain ⟨scr, h1, h2, h3, h4, h5⟩ := jscr hM.2.2.2.2.2.1 hW
  obtain ⟨e1, e2⟩ := jclamp hi hk hn
  exact W.iald (v := .int (jsx G k)) hM.1 hM.2.1 h1 h2 h3 (by rw [h4]; exact e2) (by rw [e1]; exact h5 k hk) rfl rfl hd (kk p l e R s m args below meth c Z hM hK H locs cells slots ls hW hL hc hs hl)
theorem j_slen {h : jH} (hd : decode cc pc = .ok (.arraylength, 1)) (kk : J G own cc nL ini d Q ac sc h (pc + 1) lo (.int (nI (jsL G)) :: st)) : J G own cc nL ini d Q ac sc h pc lo (.float 0 :: st) := by
  intro p l e R s m args below meth c Z hM hK H locs cells slots ls hW hL hc hs hl
  obtain ⟨scr, h1, h2, h3, h4, h5⟩ := jscr hM.2.2.2.2.2.1 hW
  exact W.alen (n := nI (jsL G)) hM.1 hM.2.1 h1 h2 (by rw [h4]; rfl) rfl rfl hd (kk p l e R s m args below meth c Z hM hK H locs cells slots ls hW hL hc hs hl)
end JR2
