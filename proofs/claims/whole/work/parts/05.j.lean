/-! THE JUDGEMENT -/
/-- what is known of the machine's tables at a state -/
def jS (G : jG) (U : State) : Prop :=
  va_K (jD G) vwCl [] U ∧ va_X (jsc G) (jsL G) (jsx G) U G.1 ∧ jsc G < jB G ∧ va_AO RX5 U ∧
  (va_Nw (.methodLinkNest RX6 11 yX4_init RX6) U ∧ va_Nw (.methodLinkNest RX6 18 yX3_init RX6) U ∧ va_Nw (.methodLinkNest RX6 55 yX0_init RX6) U ∧ va_Nw (.methodLinkNest RX3 44 yX6_isOutside RX6) U) ∧
  (∀ (s U' : State), s.WarmedH U'.vm → jE G s → jE G U') ∧ jE G U
theorem jS.moved {G : jG} {s U : State} (hW : s.WarmedH U.vm) (h : jS G s) : jS G U := by
  obtain ⟨h1, h2, h3, h4, ⟨n1, n2, n3, n4⟩, h6, h7⟩ := h
  exact ⟨va_K.moved hW.alike h1, h2.moved hW.alike, h3, h4.moved hW.alike, ⟨va_Nw.warmM hW n1, va_Nw.warmM hW n2, va_Nw.warmM hW n3, va_Nw.warmM hW n4⟩, h6, h6 s U hW h7⟩
/-- a method's start and end -/
def jPc (G : jG) (av : List Value) (h : jH) : Array Value → State → Prop := fun v U => v = (av.map (jtr G)).toArray ∧ jWD G U h U.heap ∧ jS G U
def jQc (G : jG) (v : Option Value) (h' : jH) : Array Value → State → Outcome → State → Prop := fun _ _ oc t => oc = .returned (v.map (jtr G)) ∧ jWD G t h' t.heap
theorem jPc_blind (G : jG) (av : List Value) (h : jH) : FrameBlind (jPc G av h) := by
  intro a U g mk q
  obtain ⟨q1, q2, q3⟩ := q
  exact ⟨q1, jWD.moved (u := U) (U := U.calling g mk a) (Vm.Alike.refl U.vm) q2, jS.moved (s := U) (U := U.calling g mk a) (State.WarmedH.refl U) q3⟩
/-- A METHOD, called at a heap with arguments: it returns, with that answer and that heap -/
def MT (G : jG) (y : MethodName) (cc : ByteArray) (nL : Nat) (ret : Option FieldType) (d mc ms : Nat) (av : List Value) (h : jH) (v : Option Value) (h' : jH) : Prop :=
  ∀ l : Launch, Met l y (Cond.code y cc nL ret :: jTs) ({ frames := d, cells := mc, slots := ms, locals := 64 * d }) (jPc G av h) (jQc G v h') mc ms (fun q => jB G ≤ q)
def jRet (cc : ByteArray) (pc : Nat) (v : Option Value) : Prop := match v with
  | none => decode cc pc = .ok (.return_, 1)
  | some (.int _) => decode cc pc = .ok (.ireturn, 1)
  | some (.long _) => decode cc pc = .ok (.lreturn, 1)
  | _ => False
/-- what holds in a method's activation -/
def jM (G : jG) (own : String) (cc : ByteArray) (nL : Nat) (ini : Bool) (d : Nat) (p : Program) (R : Room) (s : State) (m : MethodId) (args : Array Value) (meth : Method) (c : Code) : Prop :=
  p.tables.exec = Jvm.exec ∧ c.code = cc ∧ c.maxLocals = nL ∧ s.vm.findClass own = some m.cls ∧ (∀ w ∈ jTs, w.before args s = true) ∧ jS G s ∧ d ≤ R.frames ∧ 64 * d ≤ R.locals ∧ (ini = true → meth.name = "<init>")
def J (G : jG) (own : String) (cc : ByteArray) (nL : Nat) (ini : Bool) (d : Nat) (Q : Option Value → jH → Prop) (ac sc : Nat) (h : jH) (pc : Nat) (lo : List (Option Value)) (st : List Value) : Prop :=
  ∀ (p : Program) (l : Launch) (e : Env) (R : Room) (s : State) (m : MethodId) (args : Array Value) (below : List Frame) (meth : Method) (c : Code) (Z : State → Prop), jM G own cc nL ini d p R s m args meth c →
    (∀ (v : Option Value) (h' : jH) (H' : Heap) (locs' : List Loc) (cells' slots' pc' : Nat) (ls' : Array Slot), Q v h' → jRet cc pc' v → jWD G s h' H' → (∀ q ∈ locs', jB G ≤ q.base) → cells' ≤ R.cells → slots' ≤ R.slots → W p l e R s m args below meth c H' locs' cells' slots' Z (F0 m pc' ls' (v.map (jtr G)).toList)) →
    ∀ (H : Heap) (locs : List Loc) (cells slots : Nat) (ls : Array Slot), jWD G s h H → (∀ q ∈ locs, jB G ≤ q.base) → cells + ac ≤ R.cells → slots + sc ≤ R.slots → jLH G ls nL lo → W p l e R s m args below meth c H locs cells slots Z (F0 m pc ls (st.map (jtr G)))
/-- which answers a return type takes -/
def jRv (ret : Option FieldType) (v : Option Value) : Prop := (ret = none ∧ v = none) ∨ (ret = some .long ∧ ∃ x, v = some (.long x)) ∨ ∃ (ty : FieldType) (x : Int32), ret = some ty ∧ v = some (.int x) ∧ narrow ty (.int x) = .int x
theorem jRv_v : jRv none none := Or.inl ⟨rfl, rfl⟩
theorem jRv_l (x : Int64) : jRv (some .long) (some (.long x)) := Or.inr (Or.inl ⟨rfl, x, rfl⟩)
theorem jRv_i (x : Int32) : jRv (some .int) (some (.int x)) := Or.inr (Or.inr ⟨.int, x, rfl, rfl, rfl⟩)
theorem jRv_z {x : Int32} (h : x = 0 ∨ x = 1) : jRv (some .boolean) (some (.int x)) := Or.inr (Or.inr ⟨.boolean, x, rfl, rfl, by rcases h with rfl | rfl <;> decide⟩)
theorem jRv_b (b : Bool) : jRv (some .boolean) (some (.int (if b then 1 else 0))) := jRv_z (by cases b <;> simp)
theorem jMT {G : jG} {y : MethodName} {cc : ByteArray} {nL : Nat} {ret : Option FieldType} {n d mc ms : Nat} {ini : Bool} {av : List Value} {h h' : jH} {v : Option Value} (hy : jMY y cc nL ret n) (hini : ini = true → y.name = "<init>") (hr : jRv ret v) (hn : (jargs av).length ≤ nL)
    (hJ : J G y.cls cc nL ini d (fun v' h'' => v' = v ∧ h'' = h') mc ms h 0 (jargs av ++ List.replicate (nL - (jargs av).length) none) []) : MT G y cc nL ret d mc ms av h v h' := by
  intro l
  refine Met.ofW (cc := cc) (maxL := nL) (ret := ret) hy.2.2.2 rfl ?_
  intro p e s m args below meth c s₁ B hml hv
  obtain ⟨rfl, hWD, hS⟩ := hv
  have hts := atoms_spec (ws := Cond.code y cc nL ret :: jTs) B.pre
  have hown : s.vm.findClass y.cls = some m.cls := findClass_of_methodNamed B.named
  have hlocks := B.notSynchronized
  have hret := B.returns
  have hE := lv_entry (av.map (jtr G)) (n := nL) (by rw [jargs_len]; exact hn)
  rw [lg_entry_eq]
  refine hJ p l e _ s m _ below meth c _ ⟨B.exec, B.bytes, hml, hown, fun w hw => hts w (List.mem_cons_of_mem _ hw), hS, Nat.le_refl _, Nat.le_refl _, fun hi => by rw [(name_of_methodNamed B.named B.method).1]; exact hini hi⟩ ?_ s.heap [] 0 0 _ hWD (fun _ h => absurd h List.not_mem_nil) (by simp [headSpec]) (by simp [headSpec]) ?_
  · intro v' h'' H' locs' cells' slots' pc' ls' hQ hd hW' hl' hc' hs'
    obtain ⟨rfl, rfl⟩ := hQ
    refine W.widen (k := mc) (n := ms) hc' hs' ?_
    have hq : ∀ t : State, t.heap = H' → s.WarmedH t.vm → jQc G v' h'' (List.map (jtr G) av).toArray s (.returned (v'.map (jtr G))) t := fun t ht hw => ⟨rfl, by rw [ht]; exact hW'.moved hw.alike⟩
    rcases hr with ⟨rfl, rfl⟩ | ⟨rfl, x, rfl⟩ | ⟨ty, x, rfl, rfl, hr'⟩
    · exact W.vret B.exec B.bytes hret hq hl' hd
    · exact W.lret B.exec B.bytes hret hq hl' hd
    · exact W.zret B.exec B.bytes hret hr' hq hl' hd
  · refine ⟨by simp; omega, hE.1, hE.2.1, fun i w hi => ?_⟩
    by_cases hlt : i < (jargs av).length
    · rw [List.getElem?_append_left hlt] at hi
      have := hE.2.2 _ (jargs_mem G av 0 i w hi)
      simpa using this
    · rw [List.getElem?_append_right (by omega)] at hi
      have := List.eq_of_mem_replicate (List.mem_of_getElem? hi)
      cases this
section JR
variable {G : jG} {own : String} {cc : ByteArray} {nL : Nat} {ini : Bool} {d : Nat} {Q : Option Value → jH → Prop} {ac sc : Nat} {h : jH} {pc : Nat} {lo : List (Option Value)} {st : List Value}
/-- a step that touches neither heap nor locals -/
theorem J.go {pc' : Nat} {st' : List Value} (r : ∀ (p : Program) (l : Launch) (e : Env) (R : Room) (s : State) (m : MethodId) (args : Array Value) (below : List Frame) (meth : Method) (c : Code) (Z : State → Prop) (H : Heap) (locs : List Loc) (cells slots : Nat) (ls : Array Slot), jM G own cc nL ini d p R s m args meth c → W p l e R s m args below meth c H locs cells slots Z (F0 m pc' ls (st'.map (jtr G))) → W p l e R s m args below meth c H locs cells slots Z (F0 m pc ls (st.map (jtr G))))
    (k : J G own cc nL ini d Q ac sc h pc' lo st') : J G own cc nL ini d Q ac sc h pc lo st := by
  intro p l e R s m args below meth c Z hM hK H locs cells slots ls hW hL hc hs hl
  exact r p l e R s m args below meth c Z H locs cells slots ls hM (k p l e R s m args below meth c Z hM hK H locs cells slots ls hW hL hc hs hl)
theorem j_iret {v : Int32} (hd : decode cc pc = .ok (.ireturn, 1)) (hq : Q (some (.int v)) h) : J G own cc nL ini d Q ac sc h pc lo [.int v] := by
  intro p l e R s m args below meth c Z hM hK H locs cells slots ls hW hL hc hs hl
  exact hK (some (.int v)) h H locs cells slots pc ls hq hd hW hL (by omega) (by omega)
theorem j_lret {v : Int64} (hd : decode cc pc = .ok (.lreturn, 1)) (hq : Q (some (.long v)) h) : J G own cc nL ini d Q ac sc h pc lo [.long v] := by
  intro p l e R s m args below meth c Z hM hK H locs cells slots ls hW hL hc hs hl
  exact hK (some (.long v)) h H locs cells slots pc ls hq hd hW hL (by omega) (by omega)
theorem j_vret (hd : decode cc pc = .ok (.return_, 1)) (hq : Q none h) : J G own cc nL ini d Q ac sc h pc lo [] := by
  intro p l e R s m args below meth c Z hM hK H locs cells slots ls hW hL hc hs hl
  exact hK none h H locs cells slots pc ls hq hd hW hL (by omega) (by omega)
/-! constants -/
theorem j_iconst {n : Int} {v : Int32} (hd : decode cc pc = .ok (.iconst n, 1)) (hv : Int32.ofInt n = v) (k : J G own cc nL ini d Q ac sc h (pc + 1) lo (.int v :: st)) : J G own cc nL ini d Q ac sc h pc lo st := J.go (fun p l e R s m args below meth c Z H locs cells slots ls hM w => lv_iconst hM.1 hM.2.1 hd hv w) k
theorem j_bipush {n : Int} {v : Int32} (hd : decode cc pc = .ok (.bipush n, 2)) (hv : (Int8.ofInt n).toInt32 = v) (k : J G own cc nL ini d Q ac sc h (pc + 2) lo (.int v :: st)) : J G own cc nL ini d Q ac sc h pc lo st := J.go (fun p l e R s m args below meth c Z H locs cells slots ls hM w => lv_bipush hM.1 hM.2.1 hd hv w) k
theorem j_sipush {n : Int} {v : Int32} (hd : decode cc pc = .ok (.sipush n, 3)) (hv : (Int16.ofInt n).toInt32 = v) (k : J G own cc nL ini d Q ac sc h (pc + 3) lo (.int v :: st)) : J G own cc nL ini d Q ac sc h pc lo st := J.go (fun p l e R s m args below meth c Z H locs cells slots ls hM w => lv_sipush hM.1 hM.2.1 hd hv w) k
theorem j_lconst {n : Fin 2} {v : Int64} (hd : decode cc pc = .ok (.lconst n, 1)) (hv : Int64.ofNat (n : Nat) = v) (k : J G own cc nL ini d Q ac sc h (pc + 1) lo (.long v :: st)) : J G own cc nL ini d Q ac sc h pc lo st := J.go (fun p l e R s m args below meth c Z H locs cells slots ls hM w => lv_lconst hM.1 hM.2.1 hd hv w) k
theorem j_ldc {index : Nat} {v : Int32} (hd : decode cc pc = .ok (.ldc index, 2)) (hw : Cond.constant own index v ∈ jTs) (k : J G own cc nL ini d Q ac sc h (pc + 2) lo (.int v :: st)) : J G own cc nL ini d Q ac sc h pc lo st := J.go (fun p l e R s m args below meth c Z H locs cells slots ls hM w => lv_ldc hM.1 hM.2.1 hM.2.2.2.1 (hM.2.2.2.2.1 _ hw) hd w) k
theorem j_ldcw {index : Nat} {v : Int32} (hd : decode cc pc = .ok (.ldc_w index, 3)) (hw : Cond.constant own index v ∈ jTs) (k : J G own cc nL ini d Q ac sc h (pc + 3) lo (.int v :: st)) : J G own cc nL ini d Q ac sc h pc lo st := J.go (fun p l e R s m args below meth c Z H locs cells slots ls hM w => lv_ldcw hM.1 hM.2.1 hM.2.2.2.1 (hM.2.2.2.2.1 _ hw) hd w) k
theorem j_ldc2 {index : Nat} {v : Int64} (hd : decode cc pc = .ok (.ldc2_w index, 3)) (hw : Cond.constantLong own index v ∈ jTs) (k : J G own cc nL ini d Q ac sc h (pc + 3) lo (.long v :: st)) : J G own cc nL ini d Q ac sc h pc lo st := J.go (fun p l e R s m args below meth c Z H locs cells slots ls hM w => lv_ldc2 hM.1 hM.2.1 hM.2.2.2.1 (hM.2.2.2.2.1 _ hw) hd w) k
theorem j_iadd {x y : Int32} (hd : decode cc pc = .ok (.iadd, 1)) (k : J G own cc nL ini d Q ac sc h (pc + 1) lo (.int (x + y) :: st)) : J G own cc nL ini d Q ac sc h pc lo (.int y :: .int x :: st) := J.go (fun p l e R s m args below meth c Z H locs cells slots ls hM w => lv_iadd hM.1 hM.2.1 hd w) k
theorem j_isub {x y : Int32} (hd : decode cc pc = .ok (.isub, 1)) (k : J G own cc nL ini d Q ac sc h (pc + 1) lo (.int (x - y) :: st)) : J G own cc nL ini d Q ac sc h pc lo (.int y :: .int x :: st) := J.go (fun p l e R s m args below meth c Z H locs cells slots ls hM w => lv_isub hM.1 hM.2.1 hd w) k
theorem j_imul {x y : Int32} (hd : decode cc pc = .ok (.imul, 1)) (k : J G own cc nL ini d Q ac sc h (pc + 1) lo (.int (x * y) :: st)) : J G own cc nL ini d Q ac sc h pc lo (.int y :: .int x :: st) := J.go (fun p l e R s m args below meth c Z H locs cells slots ls hM w => lv_imul hM.1 hM.2.1 hd w) k
theorem j_iand {x y : Int32} (hd : decode cc pc = .ok (.iand, 1)) (k : J G own cc nL ini d Q ac sc h (pc + 1) lo (.int (x &&& y) :: st)) : J G own cc nL ini d Q ac sc h pc lo (.int y :: .int x :: st) := J.go (fun p l e R s m args below meth c Z H locs cells slots ls hM w => lv_iand hM.1 hM.2.1 hd w) k
theorem j_ior {x y : Int32} (hd : decode cc pc = .ok (.ior, 1)) (k : J G own cc nL ini d Q ac sc h (pc + 1) lo (.int (x ||| y) :: st)) : J G own cc nL ini d Q ac sc h pc lo (.int y :: .int x :: st) := J.go (fun p l e R s m args below meth c Z H locs cells slots ls hM w => lv_ior hM.1 hM.2.1 hd w) k
theorem j_ixor {x y : Int32} (hd : decode cc pc = .ok (.ixor, 1)) (k : J G own cc nL ini d Q ac sc h (pc + 1) lo (.int (x ^^^ y) :: st)) : J G own cc nL ini d Q ac sc h pc lo (.int y :: .int x :: st) := J.go (fun p l e R s m args below meth c Z H locs cells slots ls hM w => lv_ixor hM.1 hM.2.1 hd w) k
theorem j_ishl {x y : Int32} (hd : decode cc pc = .ok (.ishl, 1)) (k : J G own cc nL ini d Q ac sc h (pc + 1) lo (.int (x <<< (y &&& 31)) :: st)) : J G own cc nL ini d Q ac sc h pc lo (.int y :: .int x :: st) := J.go (fun p l e R s m args below meth c Z H locs cells slots ls hM w => lv_ishl hM.1 hM.2.1 hd w) k
theorem j_ishr {x y : Int32} (hd : decode cc pc = .ok (.ishr, 1)) (k : J G own cc nL ini d Q ac sc h (pc + 1) lo (.int (x >>> (y &&& 31)) :: st)) : J G own cc nL ini d Q ac sc h pc lo (.int y :: .int x :: st) := J.go (fun p l e R s m args below meth c Z H locs cells slots ls hM w => lv_ishr hM.1 hM.2.1 hd w) k
theorem j_idiv {x y : Int32} (hd : decode cc pc = .ok (.idiv, 1)) (hne : ¬ y = 0) (k : J G own cc nL ini d Q ac sc h (pc + 1) lo (.int (x / y) :: st)) : J G own cc nL ini d Q ac sc h pc lo (.int y :: .int x :: st) := J.go (fun p l e R s m args below meth c Z H locs cells slots ls hM w => lv_idiv hM.1 hM.2.1 hd hne w) k
theorem j_irem {x y : Int32} (hd : decode cc pc = .ok (.irem, 1)) (hne : ¬ y = 0) (k : J G own cc nL ini d Q ac sc h (pc + 1) lo (.int (x - x / y * y) :: st)) : J G own cc nL ini d Q ac sc h pc lo (.int y :: .int x :: st) := J.go (fun p l e R s m args below meth c Z H locs cells slots ls hM w => lv_irem hM.1 hM.2.1 hd hne w) k
theorem j_iushr {x y : Int32} (hd : decode cc pc = .ok (.iushr, 1)) (k : J G own cc nL ini d Q ac sc h (pc + 1) lo (.int ((x.toUInt32 >>> (y.toUInt32 &&& Int32.toUInt32 31)).toInt32) :: st)) : J G own cc nL ini d Q ac sc h pc lo (.int y :: .int x :: st) := J.go (fun p l e R s m args below meth c Z H locs cells slots ls hM w => lv_iushr hM.1 hM.2.1 hd rfl w) k
theorem j_ladd {x y : Int64} (hd : decode cc pc = .ok (.ladd, 1)) (k : J G own cc nL ini d Q ac sc h (pc + 1) lo (.long (x + y) :: st)) : J G own cc nL ini d Q ac sc h pc lo (.long y :: .long x :: st) := J.go (fun p l e R s m args below meth c Z H locs cells slots ls hM w => lv_ladd hM.1 hM.2.1 hd w) k
theorem j_lmul {x y : Int64} (hd : decode cc pc = .ok (.lmul, 1)) (k : J G own cc nL ini d Q ac sc h (pc + 1) lo (.long (x * y) :: st)) : J G own cc nL ini d Q ac sc h pc lo (.long y :: .long x :: st) := J.go (fun p l e R s m args below meth c Z H locs cells slots ls hM w => lv_lmul hM.1 hM.2.1 hd w) k
theorem j_lor {x y : Int64} (hd : decode cc pc = .ok (.lor, 1)) (k : J G own cc nL ini d Q ac sc h (pc + 1) lo (.long (x ||| y) :: st)) : J G own cc nL ini d Q ac sc h pc lo (.long y :: .long x :: st) := J.go (fun p l e R s m args below meth c Z H locs cells slots ls hM w => lv_lor hM.1 hM.2.1 hd w) k
theorem j_lsub {x y : Int64} (hd : decode cc pc = .ok (.lsub, 1)) (k : J G own cc nL ini d Q ac sc h (pc + 1) lo (.long (x - y) :: st)) : J G own cc nL ini d Q ac sc h pc lo (.long y :: .long x :: st) := J.go (fun p l e R s m args below meth c Z H locs cells slots ls hM w => lv_lsub hM.1 hM.2.1 hd w) k
theorem j_ldiv {x y : Int64} (hd : decode cc pc = .ok (.ldiv, 1)) (hne : ¬ y = 0) (k : J G own cc nL ini d Q ac sc h (pc + 1) lo (.long (x / y) :: st)) : J G own cc nL ini d Q ac sc h pc lo (.long y :: .long x :: st) := J.go (fun p l e R s m args below meth c Z H locs cells slots ls hM w => lv_ldiv hM.1 hM.2.1 hd hne w) k
theorem j_lrem {x y : Int64} (hd : decode cc pc = .ok (.lrem, 1)) (hne : ¬ y = 0) (k : J G own cc nL ini d Q ac sc h (pc + 1) lo (.long (x - x / y * y) :: st)) : J G own cc nL ini d Q ac sc h pc lo (.long y :: .long x :: st) := J.go (fun p l e R s m args below meth c Z H locs cells slots ls hM w => lv_lrem hM.1 hM.2.1 hd hne w) k
theorem j_lushr {x : Int64} {y : Int32} (hd : decode cc pc = .ok (.lushr, 1)) (k : J G own cc nL ini d Q ac sc h (pc + 1) lo (.long ((x.toUInt64 >>> (y.toInt64.toUInt64 &&& Int64.toUInt64 63)).toInt64) :: st)) : J G own cc nL ini d Q ac sc h pc lo (.int y :: .long x :: st) := J.go (fun p l e R s m args below meth c Z H locs cells slots ls hM w => lv_lushr hM.1 hM.2.1 hd rfl w) k
theorem j_lshl {x : Int64} {y : Int32} (hd : decode cc pc = .ok (.lshl, 1)) (k : J G own cc nL ini d Q ac sc h (pc + 1) lo (.long (x <<< (y.toInt64 &&& 63)) :: st)) : J G own cc nL ini d Q ac sc h pc lo (.int y :: .long x :: st) := J.go (fun p l e R s m args below meth c Z H locs cells slots ls hM w => lv_lshl hM.1 hM.2.1 hd rfl w) k
theorem j_lcmp {x y : Int64} (hd : decode cc pc = .ok (.lcmp, 1)) (k : J G own cc nL ini d Q ac sc h (pc + 1) lo (.int (lg_cmp x y) :: st)) : J G own cc nL ini d Q ac sc h pc lo (.long y :: .long x :: st) := J.go (fun p l e R s m args below meth c Z H locs cells slots ls hM w => W.lcmp hM.1 hM.2.1 hd w) k
theorem j_i2l {x : Int32} (hd : decode cc pc = .ok (.i2l, 1)) (k : J G own cc nL ini d Q ac sc h (pc + 1) lo (.long (x.toInt64) :: st)) : J G own cc nL ini d Q ac sc h pc lo (.int x :: st) := J.go (fun p l e R s m args below meth c Z H locs cells slots ls hM w => lv_i2l hM.1 hM.2.1 hd rfl w) k
theorem j_l2i {x : Int64} (hd : decode cc pc = .ok (.l2i, 1)) (k : J G own cc nL ini d Q ac sc h (pc + 1) lo (.int (x.toInt32) :: st)) : J G own cc nL ini d Q ac sc h pc lo (.long x :: st) := J.go (fun p l e R s m args below meth c Z H locs cells slots ls hM w => lv_l2i hM.1 hM.2.1 hd rfl w) k
theorem j_i2c {x : Int32} (hd : decode cc pc = .ok (.i2c, 1)) (k : J G own cc nL ini d Q ac sc h (pc + 1) lo (.int ((x.toUInt32 % 65536).toInt32) :: st)) : J G own cc nL ini d Q ac sc h pc lo (.int x :: st) := J.go (fun p l e R s m args below meth c Z H locs cells slots ls hM w => lv_i2c hM.1 hM.2.1 hd rfl w) k
theorem j_dup {v : Value} (hd : decode cc pc = .ok (.dup, 1)) (hv : v.category = 1) (k : J G own cc nL ini d Q ac sc h (pc + 1) lo (v :: v :: st)) : J G own cc nL ini d Q ac sc h pc lo (v :: st) := J.go (fun p l e R s m args below meth c Z H locs cells slots ls hM w => lv_dup hM.1 hM.2.1 hd (by rw [jtr_cat]; exact hv) w) k
theorem j_dup2 {v u : Value} (hd : decode cc pc = .ok (.dup2, 1)) (hv : v.category = 1) (hu : u.category = 1) (k : J G own cc nL ini d Q ac sc h (pc + 1) lo (v :: u :: v :: u :: st)) : J G own cc nL ini d Q ac sc h pc lo (v :: u :: st) := J.go (fun p l e R s m args below meth c Z H locs cells slots ls hM w => lv_dup2_11 hM.1 hM.2.1 hd (by rw [jtr_cat]; exact hv) (by rw [jtr_cat]; exact hu) w) k
theorem j_pop {v : Value} (hd : decode cc pc = .ok (.pop, 1)) (hv : v.category = 1) (k : J G own cc nL ini d Q ac sc h (pc + 1) lo st) : J G own cc nL ini d Q ac sc h pc lo (v :: st) := J.go (fun p l e R s m args below meth c Z H locs cells slots ls hM w => lv_pop hM.1 hM.2.1 hd (by rw [jtr_cat]; exact hv) w) k
theorem j_goto {off : Int} {tgt : Nat} (hd : decode cc pc = .ok (.goto off, 3)) (ht : (pc : Int) + off = (tgt : Int)) (k : J G own cc nL ini d Q ac sc h tgt lo st) : J G own cc nL ini d Q ac sc h pc lo st := J.go (fun p l e R s m args below meth c Z H locs cells slots ls hM w => lv_goto hM.1 hM.2.1 hd ht w) k
theorem j_if_eq {x : Int32} {off : Int} {tgt : Nat} (hd : decode cc pc = .ok (.ifCond .eq off, 3)) (ht : (pc : Int) + off = (tgt : Int)) (kt : x = 0 → J G own cc nL ini d Q ac sc h tgt lo st) (kf : ¬ x = 0 → J G own cc nL ini d Q ac sc h (pc + 3) lo st) : J G own cc nL ini d Q ac sc h pc lo (.int x :: st) := by
  intro p l e R s m args below meth c Z hM hK H locs cells slots ls hW hL hc hs hl
  exact lv_if_eq hM.1 hM.2.1 hd ht (fun z => kt z p l e R s m args below meth c Z hM hK H locs cells slots ls hW hL hc hs hl) (fun z => kf z p l e R s m args below meth c Z hM hK H locs cells slots ls hW hL hc hs hl)
theorem j_icmp_eq {x y : Int32} {off : Int} {tgt : Nat} (hd : decode cc pc = .ok (.if_icmp .eq off, 3)) (ht : (pc : Int) + off = (tgt : Int)) (kt : x = y → J G own cc nL ini d Q ac sc h tgt lo st) (kf : ¬ x = y → J G own cc nL ini d Q ac sc h (pc + 3) lo st) : J G own cc nL ini d Q ac sc h pc lo (.int y :: .int x :: st) := by
  intro p l e R s m args below meth c Z hM hK H locs cells slots ls hW hL hc hs hl
  exact lv_icmp_eq hM.1 hM.2.1 hd ht (fun z => kt z p l e R s m args below meth c Z hM hK H locs cells slots ls hW hL hc hs hl) (fun z => kf z p l e R s m args below meth c Z hM hK H locs cells slots ls hW hL hc hs hl)
theorem j_if_ne {x : Int32} {off : Int} {tgt : Nat} (hd : decode cc pc = .ok (.ifCond .ne off, 3)) (ht : (pc : Int) + off = (tgt : Int)) (kt : ¬ x = 0 → J G own cc nL ini d Q ac sc h tgt lo st) (kf : x = 0 → J G own cc nL ini d Q ac sc h (pc + 3) lo st) : J G own cc nL ini d Q ac sc h pc lo (.int x :: st) := by
  intro p l e R s m args below meth c Z hM hK H locs cells slots ls hW hL hc hs hl
  exact lv_if_ne hM.1 hM.2.1 hd ht (fun z => kt z p l e R s m args below meth c Z hM hK H locs cells slots ls hW hL hc hs hl) (fun z => kf z p l e R s m args below meth c Z hM hK H locs cells slots ls hW hL hc hs hl)
theorem j_icmp_ne {x y : Int32} {off : Int} {tgt : Nat} (hd : decode cc pc = .ok (.if_icmp .ne off, 3)) (ht : (pc : Int) + off = (tgt : Int)) (kt : ¬ x = y → J G own cc nL ini d Q ac sc h tgt lo st) (kf : x = y → J G own cc nL ini d Q ac sc h (pc + 3) lo st) : J G own cc nL ini d Q ac sc h pc lo (.int y :: .int x :: st) := by
  intro p l e R s m args below meth c Z hM hK H locs cells slots ls hW hL hc hs hl
  exact lv_icmp_ne hM.1 hM.2.1 hd ht (fun z => kt z p l e R s m args below meth c Z hM hK H locs cells slots ls hW hL hc hs hl) (fun z => kf z p l e R s m args below meth c Z hM hK H locs cells slots ls hW hL hc hs hl)
theorem j_if_lt {x : Int32} {off : Int} {tgt : Nat} (hd : decode cc pc = .ok (.ifCond .lt off, 3)) (ht : (pc : Int) + off = (tgt : Int)) (kt : x < 0 → J G own cc nL ini d Q ac sc h tgt lo st) (kf : ¬ x < 0 → J G own cc nL ini d Q ac sc h (pc + 3) lo st) : J G own cc nL ini d Q ac sc h pc lo (.int x :: st) := by
  intro p l e R s m args below meth c Z hM hK H locs cells slots ls hW hL hc hs hl
  exact lv_if_lt hM.1 hM.2.1 hd ht (fun z => kt z p l e R s m args below meth c Z hM hK H locs cells slots ls hW hL hc hs hl) (fun z => kf z p l e R s m args below meth c Z hM hK H locs cells slots ls hW hL hc hs hl)
theorem j_icmp_lt {x y : Int32} {off : Int} {tgt : Nat} (hd : decode cc pc = .ok (.if_icmp .lt off, 3)) (ht : (pc : Int) + off = (tgt : Int)) (kt : x < y → J G own cc nL ini d Q ac sc h tgt lo st) (kf : ¬ x < y → J G own cc nL ini d Q ac sc h (pc + 3) lo st) : J G own cc nL ini d Q ac sc h pc lo (.int y :: .int x :: st) := by
  intro p l e R s m args below meth c Z hM hK H locs cells slots ls hW hL hc hs hl
  exact lv_icmp_lt hM.1 hM.2.1 hd ht (fun z => kt z p l e R s m args below meth c Z hM hK H locs cells slots ls hW hL hc hs hl) (fun z => kf z p l e R s m args below meth c Z hM hK H locs cells slots ls hW hL hc hs hl)
theorem j_if_ge {x : Int32} {off : Int} {tgt : Nat} (hd : decode cc pc = .ok (.ifCond .ge off, 3)) (ht : (pc : Int) + off = (tgt : Int)) (kt : 0 ≤ x → J G own cc nL ini d Q ac sc h tgt lo st) (kf : ¬ 0 ≤ x → J G own cc nL ini d Q ac sc h (pc + 3) lo st) : J G own cc nL ini d Q ac sc h pc lo (.int x :: st) := by
  intro p l e R s m args below meth c Z hM hK H locs cells slots ls hW hL hc hs hl
  exact lv_if_ge hM.1 hM.2.1 hd ht (fun z => kt z p l e R s m args below meth c Z hM hK H locs cells slots ls hW hL hc hs hl) (fun z => kf z p l e R s m args below meth c Z hM hK H locs cells slots ls hW hL hc hs hl)
theorem j_icmp_ge {x y : Int32} {off : Int} {tgt : Nat} (hd : decode cc pc = .ok (.if_icmp .ge off, 3)) (ht : (pc : Int) + off = (tgt : Int)) (kt : y ≤ x → J G own cc nL ini d Q ac sc h tgt lo st) (kf : ¬ y ≤ x → J G own cc nL ini d Q ac sc h (pc + 3) lo st) : J G own cc nL ini d Q ac sc h pc lo (.int y :: .int x :: st) := by
  intro p l e R s m args below meth c Z hM hK H locs cells slots ls hW hL hc hs hl
  exact lv_icmp_ge hM.1 hM.2.1 hd ht (fun z => kt z p l e R s m args below meth c Z hM hK H locs cells slots ls hW hL hc hs hl) (fun z => kf z p l e R s m args below meth c Z hM hK H locs cells slots ls hW hL hc hs hl)
theorem j_if_gt {x : Int32} {off : Int} {tgt : Nat} (hd : decode cc pc = .ok (.ifCond .gt off, 3)) (ht : (pc : Int) + off = (tgt : Int)) (kt : 0 < x → J G own cc nL ini d Q ac sc h tgt lo st) (kf : ¬ 0 < x → J G own cc nL ini d Q ac sc h (pc + 3) lo st) : J G own cc nL ini d Q ac sc h pc lo (.int x :: st) := by
  intro p l e R s m args below meth c Z hM hK H locs cells slots ls hW hL hc hs hl
  exact lv_if_gt hM.1 hM.2.1 hd ht (fun z => kt z p l e R s m args below meth c Z hM hK H locs cells slots ls hW hL hc hs hl) (fun z => kf z p l e R s m args below meth c Z hM hK H locs cells slots ls hW hL hc hs hl)
theorem j_icmp_gt {x y : Int32} {off : Int} {tgt : Nat} (hd : decode cc pc = .ok (.if_icmp .gt off, 3)) (ht : (pc : Int) + off = (tgt : Int)) (kt : y < x → J G own cc nL ini d Q ac sc h tgt lo st) (kf : ¬ y < x → J G own cc nL ini d Q ac sc h (pc + 3) lo st) : J G own cc nL ini d Q ac sc h pc lo (.int y :: .int x :: st) := by
  intro p l e R s m args below meth c Z hM hK H locs cells slots ls hW hL hc hs hl
  exact lv_icmp_gt hM.1 hM.2.1 hd ht (fun z => kt z p l e R s m args below meth c Z hM hK H locs cells slots ls hW hL hc hs hl) (fun z => kf z p l e R s m args below meth c Z hM hK H locs cells slots ls hW hL hc hs hl)
theorem j_if_le {x : Int32} {off : Int} {tgt : Nat} (hd : decode cc pc = .ok (.ifCond .le off, 3)) (ht : (pc : Int) + off = (tgt : Int)) (kt : x ≤ 0 → J G own cc nL ini d Q ac sc h tgt lo st) (kf : ¬ x ≤ 0 → J G own cc nL ini d Q ac sc h (pc + 3) lo st) : J G own cc nL ini d Q ac sc h pc lo (.int x :: st) := by
  intro p l e R s m args below meth c Z hM hK H locs cells slots ls hW hL hc hs hl
  exact lv_if_le hM.1 hM.2.1 hd ht (fun z => kt z p l e R s m args below meth c Z hM hK H locs cells slots ls hW hL hc hs hl) (fun z => kf z p l e R s m args below meth c Z hM hK H locs cells slots ls hW hL hc hs hl)
theorem j_icmp_le {x y : Int32} {off : Int} {tgt : Nat} (hd : decode cc pc = .ok (.if_icmp .le off, 3)) (ht : (pc : Int) + off = (tgt : Int)) (kt : x ≤ y → J G own cc nL ini d Q ac sc h tgt lo st) (kf : ¬ x ≤ y → J G own cc nL ini d Q ac sc h (pc + 3) lo st) : J G own cc nL ini d Q ac sc h pc lo (.int y :: .int x :: st) := by
  intro p l e R s m args below meth c Z hM hK H locs cells slots ls hW hL hc hs hl
  exact lv_icmp_le hM.1 hM.2.1 hd ht (fun z => kt z p l e R s m args below meth c Z hM hK H locs cells slots ls hW hL hc hs hl) (fun z => kf z p l e R s m args below meth c Z hM hK H locs cells slots ls hW hL hc hs hl)
theorem j_tableIn {dflt low hi : Int} {offs : Array Int} {len : Nat} {x : Int32} {off : Int} {tgt : Nat} (hd : decode cc pc = .ok (.tableswitch dflt low hi offs, len)) (h1 : ¬ x.toInt < low) (h2 : ¬ hi < x.toInt) (ho : offs[(x.toInt - low).toNat]? = some off) (ht : (pc : Int) + off = (tgt : Int)) (k : J G own cc nL ini d Q ac sc h tgt lo st) : J G own cc nL ini d Q ac sc h pc lo (.int x :: st) := J.go (fun p l e R s m args below meth c Z H locs cells slots ls hM w => lv_tableIn hM.1 hM.2.1 hd h1 h2 ho ht w) k
theorem j_tableOut {dflt low hi : Int} {offs : Array Int} {len : Nat} {x : Int32} {tgt : Nat} (hd : decode cc pc = .ok (.tableswitch dflt low hi offs, len)) (h1 : x.toInt < low ∨ hi < x.toInt) (ht : (pc : Int) + dflt = (tgt : Int)) (k : J G own cc nL ini d Q ac sc h tgt lo st) : J G own cc nL ini d Q ac sc h pc lo (.int x :: st) := J.go (fun p l e R s m args below meth c Z H locs cells slots ls hM w => lv_tableOut hM.1 hM.2.1 hd h1 ht w) k
theorem j_iload_n {i : Fin 4} {x : Int32} (hd : decode cc pc = .ok (.iload_n i, 1)) (hl : lo[(i : Nat)]? = some (some (.int x))) (k : J G own cc nL ini d Q ac sc h (pc + 1) lo (.int x :: st)) : J G own cc nL ini d Q ac sc h pc lo st := by
  intro p l e R s m args below meth c Z hM hK H locs cells slots ls hW hL hc hs hls
  exact lv_iload_n hM.1 hM.2.1 hd rfl (hls.2.2.2 _ _ hl) (k p l e R s m args below meth c Z hM hK H locs cells slots ls hW hL hc hs hls)
theorem j_iload {i : Nat} {x : Int32} (hd : decode cc pc = .ok (.iload i, 2)) (hl : lo[i]? = some (some (.int x))) (k : J G own cc nL ini d Q ac sc h (pc + 2) lo (.int x :: st)) : J G own cc nL ini d Q ac sc h pc lo st := by
  intro p l e R s m args below meth c Z hM hK H locs cells slots ls hW hL hc hs hls
  exact lv_iload hM.1 hM.2.1 hd (hls.2.2.2 _ _ hl) (k p l e R s m args below meth c Z hM hK H locs cells slots ls hW hL hc hs hls)
theorem j_lload_n {i : Fin 4} {x : Int64} (hd : decode cc pc = .ok (.lload_n i, 1)) (hl : lo[(i : Nat)]? = some (some (.long x))) (k : J G own cc nL ini d Q ac sc h (pc + 1) lo (.long x :: st)) : J G own cc nL ini d Q ac sc h pc lo st := by
  intro p l e R s m args below meth c Z hM hK H locs cells slots ls hW hL hc hs hls
  exact lv_lload_n hM.1 hM.2.1 hd rfl (hls.2.2.2 _ _ hl) (k p l e R s m args below meth c Z hM hK H locs cells slots ls hW hL hc hs hls)
theorem j_lload {i : Nat} {x : Int64} (hd : decode cc pc = .ok (.lload i, 2)) (hl : lo[i]? = some (some (.long x))) (k : J G own cc nL ini d Q ac sc h (pc + 2) lo (.long x :: st)) : J G own cc nL ini d Q ac sc h pc lo st := by
  intro p l e R s m args below meth c Z hM hK H locs cells slots ls hW hL hc hs hls
  exact lv_lload hM.1 hM.2.1 hd (hls.2.2.2 _ _ hl) (k p l e R s m args below meth c Z hM hK H locs cells slots ls hW hL hc hs hls)
theorem j_aload_n {i : Fin 4} {a : Nat} (hd : decode cc pc = .ok (.aload_n i, 1)) (hl : lo[(i : Nat)]? = some (some (.ref a))) (k : J G own cc nL ini d Q ac sc h (pc + 1) lo (.ref a :: st)) : J G own cc nL ini d Q ac sc h pc lo st := by
  intro p l e R s m args below meth c Z hM hK H locs cells slots ls hW hL hc hs hls
  exact lv_aload_n hM.1 hM.2.1 hd rfl (hls.2.2.2 _ _ hl) (k p l e R s m args below meth c Z hM hK H locs cells slots ls hW hL hc hs hls)
theorem j_aload {i : Nat} {a : Nat} (hd : decode cc pc = .ok (.aload i, 2)) (hl : lo[i]? = some (some (.ref a))) (k : J G own cc nL ini d Q ac sc h (pc + 2) lo (.ref a :: st)) : J G own cc nL ini d Q ac sc h pc lo st := by
  intro p l e R s m args below meth c Z hM hK H locs cells slots ls hW hL hc hs hls
  exact lv_aload hM.1 hM.2.1 hd (hls.2.2.2 _ _ hl) (k p l e R s m args below meth c Z hM hK H locs cells slots ls hW hL hc hs hls)
theorem j_aload_nF {i : Fin 4} {u : UInt32} (hd : decode cc pc = .ok (.aload_n i, 1)) (hl : lo[(i : Nat)]? = some (some (.float u))) (k : J G own cc nL ini d Q ac sc h (pc + 1) lo (.float u :: st)) : J G own cc nL ini d Q ac sc h pc lo st := by
  intro p l e R s m args below meth c Z hM hK H locs cells slots ls hW hL hc hs hls
  exact lv_aload_n hM.1 hM.2.1 hd rfl (hls.2.2.2 _ _ hl) (k p l e R s m args below meth c Z hM hK H locs cells slots ls hW hL hc hs hls)
theorem jg_istore_n {i : Fin 4} {x : Int32} {lo' : List (Option Value)} (hd : decode cc pc = .ok (.istore_n i, 1)) (hi : (i : Nat) < lo.length) (hp : jput1 lo lo' i (.int x)) (k : J G own cc nL ini d Q ac sc h (pc + 1) lo' st) : J G own cc nL ini d Q ac sc h pc lo (.int x :: st) := by
  intro p l e R s m args below meth c Z hM hK H locs cells slots ls hW hL hc hs hls
  exact lv_istore_n hM.1 hM.2.1 hd rfl hls.has (Nat.lt_of_lt_of_le hi hls.1) rfl (fun ls' h' => k p l e R s m args below meth c Z hM hK H locs cells slots ls' hW hL hc hs (jLH.put1 hls.1 hp h'))
theorem jg_istore {i : Nat} {x : Int32} {lo' : List (Option Value)} (hd : decode cc pc = .ok (.istore i, 2)) (hi : i < lo.length) (hp : jput1 lo lo' i (.int x)) (k : J G own cc nL ini d Q ac sc h (pc + 2) lo' st) : J G own cc nL ini d Q ac sc h pc lo (.int x :: st) := by
  intro p l e R s m args below meth c Z hM hK H locs cells slots ls hW hL hc hs hls
  exact lv_istore hM.1 hM.2.1 hd hls.has (Nat.lt_of_lt_of_le hi hls.1) rfl (fun ls' h' => k p l e R s m args below meth c Z hM hK H locs cells slots ls' hW hL hc hs (jLH.put1 hls.1 hp h'))
theorem jg_lstore_n {i : Fin 4} {x : Int64} {lo' : List (Option Value)} (hd : decode cc pc = .ok (.lstore_n i, 1)) (hi : (i : Nat) + 1 < lo.length) (hp : jput2 lo lo' i (.long x)) (k : J G own cc nL ini d Q ac sc h (pc + 1) lo' st) : J G own cc nL ini d Q ac sc h pc lo (.long x :: st) := by
  intro p l e R s m args below meth c Z hM hK H locs cells slots ls hW hL hc hs hls
  exact lv_lstore_n hM.1 hM.2.1 hd rfl hls.has (Nat.lt_of_lt_of_le hi hls.1) rfl (fun ls' h' => k p l e R s m args below meth c Z hM hK H locs cells slots ls' hW hL hc hs (jLH.put2 hls.1 hp h'))
theorem jg_lstore {i : Nat} {x : Int64} {lo' : List (Option Value)} (hd : decode cc pc = .ok (.lstore i, 2)) (hi : i + 1 < lo.length) (hp : jput2 lo lo' i (.long x)) (k : J G own cc nL ini d Q ac sc h (pc + 2) lo' st) : J G own cc nL ini d Q ac sc h pc lo (.long x :: st) := by
  intro p l e R s m args below meth c Z hM hK H locs cells slots ls hW hL hc hs hls
  exact lv_lstore hM.1 hM.2.1 hd hls.has (Nat.lt_of_lt_of_le hi hls.1) rfl (fun ls' h' => k p l e R s m args below meth c Z hM hK H locs cells slots ls' hW hL hc hs (jLH.put2 hls.1 hp h'))
theorem jg_astore_n {i : Fin 4} {a : Nat} {lo' : List (Option Value)} (hd : decode cc pc = .ok (.astore_n i, 1)) (hi : (i : Nat) < lo.length) (hp : jput1 lo lo' i (.ref a)) (k : J G own cc nL ini d Q ac sc h (pc + 1) lo' st) : J G own cc nL ini d Q ac sc h pc lo (.ref a :: st) := by
  intro p l e R s m args below meth c Z hM hK H locs cells slots ls hW hL hc hs hls
  exact lv_astore_n hM.1 hM.2.1 hd rfl hls.has (Nat.lt_of_lt_of_le hi hls.1) rfl (fun ls' h' => k p l e R s m args below meth c Z hM hK H locs cells slots ls' hW hL hc hs (jLH.put1 (v := .ref a) hls.1 hp h'))
theorem jg_iinc {i : Nat} {n : Int} {x v : Int32} {lo' : List (Option Value)} (hd : decode cc pc = .ok (.iinc i n, 3)) (hl : lo[i]? = some (some (.int x))) (hv : x + Int32.ofInt n = v) (hp : jput1 lo lo' i (.int v)) (k : J G own cc nL ini d Q ac sc h (pc + 3) lo' st) : J G own cc nL ini d Q ac sc h pc lo st := by
  intro p l e R s m args below meth c Z hM hK H locs cells slots ls hW hL hc hs hls
  have hm : (i, jtr G (.int x)) ∈ jlist G 0 lo := (jlist_mem lo 0 _).mpr ⟨i, _, hl, by simp⟩
  obtain ⟨q, hq⟩ := List.getElem?_of_mem hm
  have hi : i < lo.length := (List.getElem?_eq_some_iff.mp hl).1
  exact lv_iinc hM.1 hM.2.1 hd hls.has hq hv (Nat.lt_of_lt_of_le hi hls.1) rfl (fun ls' h' => k p l e R s m args below meth c Z hM hK H locs cells slots ls' hW hL hc hs (jLH.put1 (v := .int v) hls.1 hp h'))
theorem j_forget {lo' : List (Option Value)} (hp : lo'.length = lo.length ∧ ∀ (j : Nat) (w : Value), lo'[j]? = some (some w) → lo[j]? = some (some w)) (k : J G own cc nL ini d Q ac sc h pc lo' st) : J G own cc nL ini d Q ac sc h pc lo st := by
  intro p l e R s m args below meth c Z hM hK H locs cells slots ls hW hL hc hs hls
  exact k p l e R s m args below meth c Z hM hK H locs cells slots ls hW hL hc hs ⟨by rw [hp.1]; exact hls.1, hls.2.1, hls.2.2.1, fun j w hj => hls.2.2.2 j w (hp.2 j w hj)⟩
end JR
