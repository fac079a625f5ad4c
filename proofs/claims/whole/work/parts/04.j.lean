/-! THE ABSTRACT HEAP: how many cells, their kinds (an object of a class by its number, or an array by type and length), references, ints, longs -/
abbrev jK : Type := Nat ⊕ (FieldType × Nat)
abbrev jH : Type := Nat × (Nat → jK) × (Nat → Nat → Option Nat) × (Nat → Nat → Int32) × (Nat → Nat → Int64)
/-- the ground: the heap at the law's entry; class ids and slots; the script (cell, length, values); the text constant's cell; what else is known -/
abbrev jG : Type := Heap × (Nat → ClassId) × (Nat → Nat → Nat) × (Nat × Nat × (Nat → Int32)) × (UInt32 → Nat) × (State → Prop)
abbrev jB (G : jG) : Nat := G.1.size
abbrev jD (G : jG) : va_G := (G.2.1, G.2.2.1)
abbrev jsc (G : jG) : Nat := G.2.2.2.1.1
abbrev jsL (G : jG) : Nat := G.2.2.2.1.2.1
abbrev jsx (G : jG) : Nat → Int32 := G.2.2.2.1.2.2
abbrev jaS (G : jG) : UInt32 → Nat := G.2.2.2.2.1
abbrev jE (G : jG) : State → Prop := G.2.2.2.2.2
/-- an abstract value's own: cells count from the ground on; .float 0 is the script, any other float a cell of the text constant -/
def jtr (G : jG) : Value → Value
  | .ref k => .ref (jB G + k)
  | .float u => .ref (if u = 0 then jsc G else jaS G u)
  | v => v
theorem jtr_cat (G : jG) (v : Value) : (jtr G v).category = v.category := by cases v <;> rfl
/-- which fields of a class are references -/
def jrfl : List (List Bool) := [[true, true, true, false], [true, true, true, true, true, true, false, false], [true, false, false], [false, false, true, true, true, true], [true, true, false], [true, true, true, true, true, true, false, false], [true, true, true, true, true, true, true, false, true, true], [true, false, false, false, true, true, true, false, true, true, true, true, false, false, false, false, true, true, false, true, true, true, true, true, false]]
def jrf (ci j : Nat) : Bool := (jrfl.getD ci []).getD j false
def jfv (G : jG) (ci : Nat) (r : Nat → Option Nat) (mu : Nat → Int32) (j : Nat) : Value := if jrf ci j = true then va_rf ((r j).map (fun x => jB G + x)) else .int (mu j)
def jav (G : jG) (ty : FieldType) (r : Nat → Option Nat) (mu : Nat → Int32) (nu : Nat → Int64) (j : Nat) : Value := match ty with
  | .long => .long (nu j)
  | .object _ => va_rf ((r j).map (fun x => jB G + x))
  | _ => .int (mu j)
/-- a cell of the world -/
def jcell (G : jG) (U : State) (k : Nat) (kd : jK) (r : Nat → Option Nat) (mu : Nat → Int32) (nu : Nat → Int64) (H : Heap) : Prop := match kd with
  | .inl ci => ∃ q : vw_C, vwCl[ci]? = some q ∧ t_OB (jB G + k) (G.2.1 ci) q.2.2 (G.2.2.1 ci) H (jfv G ci r mu)
  | .inr (ty, n) => ∃ cA : ClassId, ArrOfT U cA ty ∧ va_RA U cA ty ∧ H[jB G + k]? = some (arrV cA n (jav G ty r mu nu))
/-- the world: what the heap holds -/
def jWD (G : jG) (U : State) (h : jH) (H : Heap) : Prop :=
  H.size = jB G + h.1 ∧ (∀ q, q < jB G → H[q]? = G.1[q]?) ∧ ∀ k, k < h.1 → jcell G U k (h.2.1 k) (h.2.2.1 k) (h.2.2.2.1 k) (h.2.2.2.2 k) H
theorem jcell.moved {G : jG} {u U : State} (hvm : u.vm.Alike U.vm) {k : Nat} {kd : jK} {r : Nat → Option Nat} {mu : Nat → Int32} {nu : Nat → Int64} {H : Heap} (h : jcell G u k kd r mu nu H) : jcell G U k kd r mu nu H := by
  cases kd with
  | inl ci => exact h
  | inr q =>
    obtain ⟨cA, h1, h2, h3⟩ := h
    exact ⟨cA, arrOfT_moved hvm h1, h2.moved hvm, h3⟩
theorem jcell.kept {G : jG} {U : State} {k : Nat} {kd : jK} {r : Nat → Option Nat} {mu : Nat → Int32} {nu : Nat → Int64} {H H1 : Heap} (h : jcell G U k kd r mu nu H) (hq : H1[jB G + k]? = H[jB G + k]?) : jcell G U k kd r mu nu H1 := by
  cases kd with
  | inl ci =>
    obtain ⟨q, h1, h2⟩ := h
    exact ⟨q, h1, h2.kept hq⟩
  | inr q =>
    obtain ⟨cA, h1, h2, h3⟩ := h
    exact ⟨cA, h1, h2, by rw [hq]; exact h3⟩
theorem jWD.moved {G : jG} {u U : State} (hvm : u.vm.Alike U.vm) {h : jH} {H : Heap} (w : jWD G u h H) : jWD G U h H := ⟨w.1, w.2.1, fun k hk => (w.2.2 k hk).moved hvm⟩
/-- one cell is written -/
theorem jWD.write {G : jG} {U : State} {h h' : jH} {H H' : Heap} {a : Nat} (w : jWD G U h H) (hz : H'.size = H.size) (ho : ∀ q, q ≠ jB G + a → H'[q]? = H[q]?) (hn : h'.1 = h.1)
    (hk : ∀ k, k ≠ a → h'.2.1 k = h.2.1 k ∧ h'.2.2.1 k = h.2.2.1 k ∧ h'.2.2.2.1 k = h.2.2.2.1 k ∧ h'.2.2.2.2 k = h.2.2.2.2 k) (hc : jcell G U a (h'.2.1 a) (h'.2.2.1 a) (h'.2.2.2.1 a) (h'.2.2.2.2 a) H') : jWD G U h' H' := by
  refine ⟨by rw [hz, hn]; exact w.1, fun q hq => by rw [ho q (by omega)]; exact w.2.1 q hq, fun k hkn => ?_⟩
  by_cases e : k = a
  · subst e; exact hc
  · obtain ⟨e1, e2, e3, e4⟩ := hk k e
    rw [e1, e2, e3, e4]
    exact (w.2.2 k (by rw [← hn]; exact hkn)).kept (ho _ (by omega))
/-- one cell is made -/
theorem jWD.push {G : jG} {U : State} {h h' : jH} {H H' : Heap} (w : jWD G U h H) (hz : H'.size = H.size + 1) (ho : ∀ q, q < H.size → H'[q]? = H[q]?) (hn : h'.1 = h.1 + 1)
    (hk : ∀ k, k < h.1 → h'.2.1 k = h.2.1 k ∧ h'.2.2.1 k = h.2.2.1 k ∧ h'.2.2.2.1 k = h.2.2.2.1 k ∧ h'.2.2.2.2 k = h.2.2.2.2 k) (hc : jcell G U h.1 (h'.2.1 h.1) (h'.2.2.1 h.1) (h'.2.2.2.1 h.1) (h'.2.2.2.2 h.1) H') : jWD G U h' H' := by
  have w1 := w.1
  refine ⟨by rw [hz, hn, w1]; omega, fun q hq => by rw [ho q (by omega)]; exact w.2.1 q hq, fun k hkn => ?_⟩
  by_cases e : k = h.1
  · subst e; exact hc
  · have hlt : k < h.1 := by omega
    obtain ⟨e1, e2, e3, e4⟩ := hk k hlt
    rw [e1, e2, e3, e4]
    exact (w.2.2 k hlt).kept (ho _ (by omega))
/-- updates -/
def jup {α : Type} (f : Nat → Nat → α) (a j : Nat) (v : α) : Nat → Nat → α := fun a' => if a' = a then (fun j' => if j' = j then v else f a j') else f a'
/-- a whole row is laid -/
def jrow {α : Type} (f : Nat → Nat → α) (a : Nat) (g : Nat → α) : Nat → Nat → α := fun a' => if a' = a then g else f a'
theorem jup_ne {α : Type} {f : Nat → Nat → α} {a j k : Nat} {v : α} (h : k ≠ a) : jup f a j v k = f k := if_neg h
theorem jrow_ne {α : Type} {f : Nat → Nat → α} {a k : Nat} {g : Nat → α} (h : k ≠ a) : jrow f a g k = f k := if_neg h
theorem jrow_eq {α : Type} (f : Nat → Nat → α) (a : Nat) (g : Nat → α) : jrow f a g a = g := if_pos rfl
theorem jup_eq {α : Type} (f : Nat → Nat → α) (a j : Nat) (v : α) : jup f a j v a = fun j' => if j' = j then v else f a j' := if_pos rfl
/-! the locals -/
def jLH (G : jG) (ls : Array Slot) (nL : Nat) (lo : List (Option Value)) : Prop := lo.length ≤ nL ∧ ls.size = nL ∧ lv_wf ls ∧ ∀ (i : Nat) (v : Value), lo[i]? = some (some v) → ls[i]? = some (.val (jtr G v))
def jlist (G : jG) : Nat → List (Option Value) → List (Nat × Value)
  | _, [] => []
  | i, none :: r => jlist G (i + 1) r
  | i, some v :: r => (i, jtr G v) :: jlist G (i + 1) r
theorem jlist_mem {G : jG} : ∀ (lo : List (Option Value)) (i : Nat) (q : Nat × Value), q ∈ jlist G i lo ↔ ∃ (j : Nat) (v : Value), lo[j]? = some (some v) ∧ q = (i + j, jtr G v)
  | [], i, q => by simp [jlist]
  | none :: r, i, q => by
    rw [jlist, jlist_mem r (i + 1) q]
    constructor
    · rintro ⟨j, v, h1, h2⟩
      exact ⟨j + 1, v, by simpa using h1, by rw [h2]; congr 1; omega⟩
    · rintro ⟨j, v, h1, h2⟩
      cases j with
      | zero => simp at h1
      | succ j => exact ⟨j, v, by simpa using h1, by rw [h2]; congr 1; omega⟩
  | some w :: r, i, q => by
    rw [jlist, List.mem_cons, jlist_mem r (i + 1) q]
    constructor
    · rintro (h | ⟨j, v, h1, h2⟩)
      · exact ⟨0, w, by simp, by rw [h]; simp⟩
      · exact ⟨j + 1, v, by simpa using h1, by rw [h2]; congr 1; omega⟩
    · rintro ⟨j, v, h1, h2⟩
      cases j with
      | zero => left; simp at h1; rw [h2, ← h1]; simp
      | succ j => right; exact ⟨j, v, by simpa using h1, by rw [h2]; congr 1; omega⟩
theorem jLH.has {G : jG} {ls : Array Slot} {nL : Nat} {lo : List (Option Value)} (h : jLH G ls nL lo) : lv_has ls nL (jlist G 0 lo) := by
  refine ⟨h.2.1, h.2.2.1, fun q hq => ?_⟩
  obtain ⟨j, v, h1, h2⟩ := (jlist_mem lo 0 q).mp hq
  rw [h2]
  simpa using h.2.2.2 j v h1
/-- what a store of one slot leaves -/
def jput1 (lo lo' : List (Option Value)) (i : Nat) (v : Value) : Prop := lo'.length = lo.length ∧ ∀ (j : Nat) (w : Value), lo'[j]? = some (some w) → (j = i ∧ w = v) ∨ (j ≠ i ∧ lo[j]? = some (some w) ∧ ¬ (j + 1 = i ∧ w.category = 2))
theorem jLH.put1 {G : jG} {ls' : Array Slot} {nL i : Nat} {lo lo' : List (Option Value)} {v : Value} (hn : lo.length ≤ nL) (hp : jput1 lo lo' i v) (h : lv_has ls' nL ((i, jtr G v) :: (jlist G 0 lo).filter (fun q => !(q.1 == i) && !(q.1 + 1 == i && q.2.category == 2)))) : jLH G ls' nL lo' := by
  refine ⟨by rw [hp.1]; exact hn, h.1, h.2.1, fun j w hj => ?_⟩
  rcases hp.2 j w hj with ⟨e1, e2⟩ | ⟨e1, e2, e3⟩
  · subst e1; subst e2
    exact h.2.2 _ List.mem_cons_self
  · refine h.2.2 (j, jtr G w) (List.mem_cons_of_mem _ (List.mem_filter.mpr ⟨(jlist_mem lo 0 _).mpr ⟨j, w, e2, by simp⟩, ?_⟩))
    simp only [jtr_cat, Bool.and_eq_true, Bool.not_eq_true', Bool.and_eq_false_iff, beq_eq_false_iff_ne, ne_eq]
    refine ⟨e1, ?_⟩
    by_cases c : j + 1 = i
    · right; exact fun z => e3 ⟨c, z⟩
    · left; exact c
/-- what a store of two slots leaves -/
def jput2 (lo lo' : List (Option Value)) (i : Nat) (v : Value) : Prop := lo'.length = lo.length ∧ ∀ (j : Nat) (w : Value), lo'[j]? = some (some w) → (j = i ∧ w = v) ∨ (j ≠ i ∧ j ≠ i + 1 ∧ lo[j]? = some (some w) ∧ ¬ (j + 1 = i ∧ w.category = 2))
theorem jLH.put2 {G : jG} {ls' : Array Slot} {nL i : Nat} {lo lo' : List (Option Value)} {v : Value} (hn : lo.length ≤ nL) (hp : jput2 lo lo' i v) (h : lv_has ls' nL ((i, jtr G v) :: (jlist G 0 lo).filter (fun q => !(q.1 == i) && (!(q.1 == i + 1) && !(q.1 + 1 == i && q.2.category == 2))))) : jLH G ls' nL lo' := by
  refine ⟨by rw [hp.1]; exact hn, h.1, h.2.1, fun j w hj => ?_⟩
  rcases hp.2 j w hj with ⟨e1, e2⟩ | ⟨e1, e1', e2, e3⟩
  · subst e1; subst e2
    exact h.2.2 _ List.mem_cons_self
  · refine h.2.2 (j, jtr G w) (List.mem_cons_of_mem _ (List.mem_filter.mpr ⟨(jlist_mem lo 0 _).mpr ⟨j, w, e2, by simp⟩, ?_⟩))
    simp only [jtr_cat, Bool.and_eq_true, Bool.not_eq_true', Bool.and_eq_false_iff, beq_eq_false_iff_ne, ne_eq]
    refine ⟨e1, e1', ?_⟩
    by_cases c : j + 1 = i
    · right; exact fun z => e3 ⟨c, z⟩
    · left; exact c
/-- the locals at a method's entry -/
def jargs : List Value → List (Option Value)
  | [] => []
  | v :: vs => if v.category = 2 then some v :: none :: jargs vs else some v :: jargs vs
theorem jargs_mem (G : jG) : ∀ (vs : List Value) (i j : Nat) (v : Value), (jargs vs)[j]? = some (some v) → (i + j, jtr G v) ∈ lv_args i (vs.map (jtr G))
  | [], i, j, v, h => by simp [jargs] at h
  | w :: vs, i, j, v, h => by
    rw [jargs] at h
    rw [List.map_cons, lv_args, jtr_cat]
    by_cases c : w.category = 2
    · rw [if_pos c] at h ⊢
      match j, h with
      | 0, h =>
        simp at h
        rw [← h]
        exact List.mem_cons_self
      | 1, h => simp at h
      | j + 2, h =>
        have := jargs_mem G vs (i + 2) j v (by simpa using h)
        rw [show i + (j + 2) = i + 2 + j by omega]
        exact List.mem_cons_of_mem _ this
    · rw [if_neg c] at h ⊢
      match j, h with
      | 0, h =>
        simp at h
        rw [← h]
        exact List.mem_cons_self
      | j + 1, h =>
        have := jargs_mem G vs (i + 1) j v (by simpa using h)
        rw [show i + (j + 1) = i + 1 + j by omega]
        exact List.mem_cons_of_mem _ this
theorem jargs_len (G : jG) : ∀ (vs : List Value), (lg_sl (vs.map (jtr G))).length = (jargs vs).length
  | [] => rfl
  | w :: vs => by
    have ih := jargs_len G vs
    rw [jargs, List.map_cons]
    unfold lg_sl at ih ⊢
    rw [List.flatMap_cons, List.length_append, ih, jtr_cat]
    by_cases c : w.category = 2
    · rw [if_pos c, if_pos c]; simp; omega
    · rw [if_neg c, if_neg c]; simp; omega
