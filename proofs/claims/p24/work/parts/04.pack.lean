/-! THE PACKAGED WORLD: all cells that the law's run makes lie one behind the other from 'pb E' on; the memory is two functions (ints, references) of a cell's number and a place in it. G: the machine's judgement W with this world inside. -/
abbrev EE : Type := va_G × (ClassId × ClassId × ClassId) × Nat
abbrev Mi : Type := Nat → Nat → Int32
abbrev Mr : Type := Nat → Nat → Option Nat
abbrev pb (E : EE) : Nat := E.2.2
abbrev ptys (E : EE) : List (ClassId × FieldType) := [(E.2.1.1, .int), (E.2.1.2.1, .char), (E.2.1.2.2, .object RX0)]
abbrev rf (E : EE) (k : Nat) : Value := .ref (pb E + k)
def up (I : Mi) (k j : Nat) (v : Int32) : Mi := fun x y => if x = k ∧ y = j then v else I x y
def ur (F : Mr) (k j : Nat) (v : Option Nat) : Mr := fun x y => if x = k ∧ y = j then v else F x y
def rr (b : Nat) (o : Option Nat) : Value := va_rf (o.map (fun k => b + k))
def fl (b : Nat) (I : Nat → Int32) (F : Nat → Option Nat) : Nat → List Bool → List Value
  | _, [] => []
  | j, r :: t => (if r then rr b (F j) else .int (I j)) :: fl b I F (j + 1) t
theorem fl_get (b : Nat) (I : Nat → Int32) (F : Nat → Option Nat) : ∀ (bs : List Bool) (j0 j : Nat), (fl b I F j0 bs)[j]? = (bs[j]?).map (fun r => if r then rr b (F (j0 + j)) else .int (I (j0 + j)))
  | [], j0, j => by simp [fl]
  | r :: t, j0, 0 => by simp [fl]
  | r :: t, j0, j + 1 => by
    have h := fl_get b I F t (j0 + 1) j
    simp only [fl, List.getElem?_cons_succ, h]
    rw [show j0 + 1 + j = j0 + (j + 1) by omega]
theorem fl_len (b : Nat) (I : Nat → Int32) (F : Nat → Option Nat) : ∀ (bs : List Bool) (j0 : Nat), (fl b I F j0 bs).length = bs.length
  | [], j0 => rfl
  | r :: t, j0 => by simp [fl, fl_len b I F t (j0 + 1)]
theorem fl_ext {b : Nat} {I I' : Nat → Int32} {F F' : Nat → Option Nat} {bs : List Bool} {j0 j : Nat} {v : Value} (hj : j < bs.length) (hv : v = if bs.getD j false then rr b (F' (j0 + j)) else .int (I' (j0 + j))) (h : ∀ x, x ≠ j0 + j → I' x = I x ∧ F' x = F x) : (fl b I F j0 bs).set j v = fl b I' F' j0 bs := by
  apply List.ext_getElem?
  intro i
  rw [fl_get, List.getElem?_set]
  by_cases hi : j = i
  · subst hi
    rw [if_pos rfl, fl_len, if_pos hj, hv]
    have h1 : bs[j]? = some bs[j] := List.getElem?_eq_getElem hj
    simp [h1]
  · rw [if_neg hi, fl_get]
    obtain ⟨a1, a2⟩ := h (j0 + i) (by omega)
    rw [a1, a2]

def isr : Nat → List Bool
  | 0 => [false, false, false, true, true, true, true, true, true, true, true, true, false, false, false, false, false, false, true]
  | 1 => [true, false, false, false, false, false, false]
  | 2 => [true, false]
  | 3 => [true, false]
  | 4 => [true, true, true, true, true, true, true, false]
  | 5 => [false]
  | _ => []
abbrev gw : List Cond := lw_tbl.filter goodWord
theorem gw_of {w : Cond} (i : Nat) (h : lw_tbl[i]? = some w) (hg : goodWord w = true) : w ∈ gw := List.mem_filter.mpr ⟨List.mem_of_getElem? h, hg⟩
theorem gw_good {w : Cond} (h : w ∈ gw) : (w.onTables && w.keeps) = true ∨ ∃ ty, w = .arrayClass ty := good_of_word (List.mem_filter.mp h).2
def isNest : Cond → Bool
  | .fieldLinkNest .. => true
  | .methodLinkNest .. => true
  | _ => false
/-- the words on nest mates: the tables keep them, but not as the others -/
abbrev nw : List Cond := lw_tbl.filter isNest
theorem nw_of {w : Cond} (i : Nat) (h : lw_tbl[i]? = some w) (hg : isNest w = true) : w ∈ nw := List.mem_filter.mpr ⟨List.mem_of_getElem? h, hg⟩
def NW (U : State) : Prop := (∀ w ∈ nw, va_Nw w U) ∧ va_AO RX0 U
theorem NW.warm {s U : State} (hW : s.WarmedH U.vm) (h : NW s) : NW U := ⟨fun w hw => by
  have h1 := h.1 w hw
  have h2 := (List.mem_filter.mp hw).2
  cases w <;> first | exact va_Nw.warmF hW h1 | exact va_Nw.warmM hW h1 | exact Bool.noConfusion h2, va_AO.moved hW.alike h.2⟩
theorem NW.same {s U : State} (hv : s.vm = U.vm) (h : NW s) : NW U := ⟨fun w hw => by
  have h1 := h.1 w hw
  have h2 := (List.mem_filter.mp hw).2
  cases w <;> first | exact Bool.noConfusion h2 | exact va_Nw.same rfl hv h1, va_AO.moved (by rw [← hv]; exact Vm.Alike.refl _) h.2⟩
theorem NW.at {args : Array Value} {s : State} (h : NW s) {w : Cond} (hw : w ∈ nw) : w.before args s = true := by
  have h1 := h.1 w hw
  have h2 := (List.mem_filter.mp hw).2
  cases w <;> first | exact Bool.noConfusion h2 | exact va_Nw.use rfl h1
theorem gw_in {ws : List Cond} (h : ∀ w ∈ ws, w ∈ gw) : GoodIn gw ws := fun w hw => ⟨h w hw, gw_good (h w hw)⟩
/-- what cell number k is: (class number, fields) for an object; (6, n) chars, (7, n) ints, (8, n) references to chips -/
def KL : List (Nat × Nat) := [(4, 8), (0, 19), (7, 8), (7, 8), (7, 8), (7, 8), (7, 8), (7, 8), (7, 8), (7, 8), (7, 8), (7, 8), (0, 19), (7, 8), (7, 8), (7, 8), (7, 8), (7, 8), (7, 8), (7, 8), (7, 8), (7, 8), (7, 8), (3, 2), (6, 64), (1, 7), (0, 19), (7, 8), (7, 8), (7, 8), (7, 8), (7, 8), (7, 8), (7, 8), (7, 8), (7, 8), (7, 8), (2, 2), (8, 6), (0, 19), (7, 8), (7, 8), (7, 8), (7, 8), (7, 8), (7, 8), (7, 8), (7, 8), (7, 8), (7, 8), (0, 19), (7, 8), (7, 8), (7, 8), (7, 8), (7, 8), (7, 8), (7, 8), (7, 8), (7, 8), (7, 8), (0, 19), (7, 8), (7, 8), (7, 8), (7, 8), (7, 8), (7, 8), (7, 8), (7, 8), (7, 8), (7, 8), (0, 19), (7, 8), (7, 8), (7, 8), (7, 8), (7, 8), (7, 8), (7, 8), (7, 8), (7, 8), (7, 8), (0, 19), (7, 8), (7, 8), (7, 8), (7, 8), (7, 8), (7, 8), (7, 8), (7, 8), (7, 8), (7, 8), (0, 19), (7, 8), (7, 8), (7, 8), (7, 8), (7, 8), (7, 8), (7, 8), (7, 8), (7, 8), (7, 8), (0, 19), (7, 8), (7, 8), (7, 8), (7, 8), (7, 8), (7, 8), (7, 8), (7, 8), (7, 8), (7, 8), (0, 19), (7, 8), (7, 8), (7, 8), (7, 8), (7, 8), (7, 8), (7, 8), (7, 8), (7, 8), (7, 8), (7, 8), (7, 60), (7, 8), (7, 60), (7, 16)]
abbrev NT : Nat := 132
def kd (k : Nat) : Nat × Nat := KL.getD k (9, 0)
def cellOf (E : EE) (I : Mi) (F : Mr) (k : Nat) : va_E :=
  if (kd k).1 = 6 then .inl (E.2.1.2.1, (kd k).2, .inl (I k))
  else if (kd k).1 = 7 then .inl (E.2.1.1, (kd k).2, .inl (I k))
  else if (kd k).1 = 8 then .inl (E.2.1.2.2, (kd k).2, .inr (.inr (.inr (.inr (fun j => (F k j).map (fun x => pb E + x))))))
  else .inr ((kd k).1, fl (pb E) (I k) (F k) 0 (isr (kd k).1))
def wsOf (E : EE) (N : Nat) (I : Mi) (F : Mr) : va_W := (List.range N).map (fun k => (pb E + k, cellOf E I F k))
theorem wsOf_len (E : EE) (N : Nat) (I : Mi) (F : Mr) : (wsOf E N I F).length = N := by simp [wsOf]
theorem wsOf_get {E : EE} {N : Nat} {I : Mi} {F : Mr} {k : Nat} (h : k < N) : (wsOf E N I F)[k]? = some (pb E + k, cellOf E I F k) := by simp [wsOf, h]
theorem wsOf_inv {E : EE} {N : Nat} {I : Mi} {F : Mr} {k : Nat} {q : Nat × va_E} (h : (wsOf E N I F)[k]? = some q) : k < N ∧ q = (pb E + k, cellOf E I F k) := by
  have hk : k < N := by have := (List.getElem?_eq_some_iff.mp h).1; rwa [wsOf_len] at this
  exact ⟨hk, Option.some.inj (h.symm.trans (wsOf_get hk))⟩
theorem wsOf_set {E : EE} {N : Nat} {I I2 : Mi} {F F2 : Mr} {k : Nat} (e : va_E) (hk : k < N) (he : e = cellOf E I2 F2 k) (h : ∀ x, x ≠ k → I2 x = I x ∧ F2 x = F x) : (wsOf E N I F).set k (pb E + k, e) = wsOf E N I2 F2 := by
  apply List.ext_getElem?
  intro i
  rw [List.getElem?_set]
  by_cases hi : k = i
  · subst hi
    rw [if_pos rfl, wsOf_len, if_pos hk, wsOf_get hk, he]
  · rw [if_neg hi]
    by_cases hN : i < N
    · rw [wsOf_get hN, wsOf_get hN]
      obtain ⟨a1, a2⟩ := h i (fun z => hi z.symm)
      simp only [cellOf, a1, a2]
    · rw [List.getElem?_eq_none (by rw [wsOf_len]; omega), List.getElem?_eq_none (by rw [wsOf_len]; omega)]
theorem wsOf_D (E : EE) (N : Nat) (I : Mi) (F : Mr) : va_D (fun q => pb E ≤ q) (wsOf E N I F) := by
  refine ⟨fun i j p q hi hj h => ?_, fun k q hk => ?_⟩
  · obtain ⟨-, rfl⟩ := wsOf_inv hi
    obtain ⟨-, rfl⟩ := wsOf_inv hj
    simp only at h
    omega
  · obtain ⟨-, rfl⟩ := wsOf_inv hk
    exact Nat.le_add_right _ _
theorem wsOf_push {E : EE} {N : Nat} {I : Mi} {F : Mr} (e : va_E) (he : e = cellOf E I F N) : wsOf E N I F ++ [(pb E + N, e)] = wsOf E (N + 1) I F := by
  rw [he]; simp [wsOf, List.range_succ]
/-- the locals as a list: what stands at a place, if it is known -/
def lo : Nat → List (Option Value) → List (Nat × Value)
  | _, [] => []
  | i, none :: t => lo (i + 1) t
  | i, some v :: t => (i, v) :: lo (i + 1) t
theorem lo_mem : ∀ (ls : List (Option Value)) (i0 j : Nat) (v : Value), ((j, v) ∈ lo i0 ls ↔ i0 ≤ j ∧ ls[j - i0]? = some (some v))
  | [], i0, j, v => by simp [lo]
  | none :: t, i0, j, v => by
    simp only [lo]
    rw [lo_mem t (i0 + 1) j v]
    rcases Nat.lt_trichotomy j i0 with h | h | h
    · constructor <;> intro q <;> omega
    · subst h; simp; intro q; omega
    · rw [show j - i0 = (j - (i0 + 1)) + 1 by omega, List.getElem?_cons_succ]
      constructor <;> intro q <;> exact ⟨by omega, q.2⟩
  | some w :: t, i0, j, v => by
    simp only [lo, List.mem_cons]
    rw [lo_mem t (i0 + 1) j v]
    rcases Nat.lt_trichotomy j i0 with h | h | h
    · constructor
      · rintro (q | q)
        · cases q; omega
        · omega
      · intro q; omega
    · subst h
      simp
      constructor
      · rintro (q | q)
        · exact q.symm
        · omega
      · intro q; exact Or.inl q.symm
    · rw [show j - i0 = (j - (i0 + 1)) + 1 by omega, List.getElem?_cons_succ]
      constructor
      · rintro (q | q)
        · cases q; omega
        · exact ⟨by omega, q.2⟩
      · intro q; exact Or.inr ⟨by omega, q.2⟩
theorem lo_at {la : Array Slot} {nL : Nat} {ls : List (Option Value)} (h : lv_has la nL (lo 0 ls)) {i : Nat} {v : Value} (hv : ls[i]? = some (some v)) : la[i]? = some (.val v) := h.2.2 (i, v) ((lo_mem ls 0 i v).mpr ⟨Nat.zero_le _, by simpa using hv⟩)
/-- no long stands just ahead of place i -/
def lok (ls : List (Option Value)) : Nat → Bool
  | 0 => true
  | j + 1 => match ls[j]? with
    | some (some w) => w.category == 1
    | _ => true
theorem lok_at {ls : List (Option Value)} {i j : Nat} {w : Value} (h : lok ls i = true) (hj : j + 1 = i) (hw : ls[j]? = some (some w)) : (w.category == 2) = false := by
  subst hj
  simp only [lok, hw, beq_iff_eq] at h
  simp [h]
theorem lo_set1 {la : Array Slot} {nL i : Nat} {ls : List (Option Value)} {v : Value} (hk : lok ls i = true) (hi : i < ls.length) (h : lv_has la nL ((i, v) :: (lo 0 ls).filter (fun q => !(q.1 == i) && !(q.1 + 1 == i && q.2.category == 2)))) : lv_has la nL (lo 0 (ls.set i (some v))) := by
  refine ⟨h.1, h.2.1, fun q hq => h.2.2 q ?_⟩
  obtain ⟨j, w⟩ := q
  have h1 := ((lo_mem _ 0 j w).mp hq).2
  rw [Nat.sub_zero, List.getElem?_set] at h1
  by_cases hji : i = j
  · subst hji
    rw [if_pos rfl, if_pos hi] at h1
    cases h1
    exact List.mem_cons_self
  · rw [if_neg hji] at h1
    refine List.mem_cons_of_mem _ (List.mem_filter.mpr ⟨(lo_mem ls 0 j w).mpr ⟨Nat.zero_le _, by simpa using h1⟩, ?_⟩)
    by_cases h2 : j + 1 = i
    · simp [Ne.symm hji, lok_at hk h2 h1]
    · simp [Ne.symm hji, h2]
theorem lo_set2 {la : Array Slot} {nL i : Nat} {ls : List (Option Value)} {v : Value} (hk : lok ls i = true) (hi : i < ls.length) (h : lv_has la nL ((i, v) :: (lo 0 ls).filter (fun q => !(q.1 == i) && (!(q.1 == i + 1) && !(q.1 + 1 == i && q.2.category == 2))))) : lv_has la nL (lo 0 ((ls.set i (some v)).set (i + 1) none)) := by
  refine ⟨h.1, h.2.1, fun q hq => h.2.2 q ?_⟩
  obtain ⟨j, w⟩ := q
  have h1 := ((lo_mem _ 0 j w).mp hq).2
  rw [Nat.sub_zero, List.getElem?_set] at h1
  by_cases hj1 : i + 1 = j
  · subst hj1
    rw [if_pos rfl] at h1
    split at h1 <;> cases h1
  · rw [if_neg hj1, List.getElem?_set] at h1
    by_cases hji : i = j
    · subst hji
      rw [if_pos rfl, if_pos hi] at h1
      cases h1
      exact List.mem_cons_self
    · rw [if_neg hji] at h1
      refine List.mem_cons_of_mem _ (List.mem_filter.mpr ⟨(lo_mem ls 0 j w).mpr ⟨Nat.zero_le _, by simpa using h1⟩, ?_⟩)
      by_cases h2 : j + 1 = i
      · simp [Ne.symm hji, Ne.symm hj1, lok_at hk h2 h1]
      · simp [Ne.symm hji, Ne.symm hj1, h2]
section PK
variable {E : EE} {N nL : Nat} {own : String} {cc : ByteArray} {p : Program} {l : Launch} {e : Env} {R : Room} {s : State} {m : MethodId} {args : Array Value} {below : List Frame} {meth : Method} {c : Code} {cells slots : Nat} {Q : State → Prop} {I : Mi} {F : Mr} {pc : Nat} {ls : List (Option Value)} {st : List Value}
def Cx (E : EE) (own : String) (cc : ByteArray) (nL : Nat) (p : Program) (s : State) (m : MethodId) (args : Array Value) (meth : Method) (c : Code) : Prop :=
  p.tables.exec = Jvm.exec ∧ c.code = cc ∧ c.maxLocals = nL ∧ s.vm.findClass own = some m.cls ∧ (∀ w ∈ gw, w.before args s = true) ∧ va_K E.1 vwCl (ptys E) s ∧ meth.locks = false ∧ NW s
def G (E : EE) (N nL : Nat) (p : Program) (l : Launch) (e : Env) (R : Room) (s : State) (m : MethodId) (args : Array Value) (below : List Frame) (meth : Method) (c : Code) (cells slots : Nat) (Q : State → Prop) (I : Mi) (F : Mr) (pc : Nat) (ls : List (Option Value)) (st : List Value) : Prop :=
  s.heap.size + cells = pb E + N → ls.length = nL → ∀ (H : Heap) (locs : List Loc) (la : Array Slot), va_P E.1 vwCl (wsOf E N I F) H → va_S (fun q => pb E ≤ q) s.heap H locs → lv_has la nL (lo 0 ls) → W p l e R s m args below meth c H locs cells slots Q (F0 m pc la st)
theorem W_sz {H : Heap} {locs : List Loc} {g : JFrame} (k : H.size ≤ s.heap.size + cells → W p l e R s m args below meth c H locs cells slots Q g) : W p l e R s m args below meth c H locs cells slots Q g := fun T hT X => k (by rw [← hT]; exact X.heapSize) T hT X
/-- the rows of the straight instructions -/
theorem g_iconst (C : Cx E own cc nL p s m args meth c) {n : Int} {v : Int32} (d : decode cc pc = .ok (.iconst n, 1)) (hv : Int32.ofInt n = v) (k : G E N nL p l e R s m args below meth c cells slots Q I F (pc + 1) ls (.int v :: st)) : G E N nL p l e R s m args below meth c cells slots Q I F pc ls st := fun h hn H locs la hP hS hl => lv_iconst C.1 C.2.1 d hv (k h hn H locs la hP hS hl)
theorem g_bipush (C : Cx E own cc nL p s m args meth c) {n : Int} {v : Int32} (d : decode cc pc = .ok (.bipush n, 2)) (hv : (Int8.ofInt n).toInt32 = v) (k : G E N nL p l e R s m args below meth c cells slots Q I F (pc + 2) ls (.int v :: st)) : G E N nL p l e R s m args below meth c cells slots Q I F pc ls st := fun h hn H locs la hP hS hl => lv_bipush C.1 C.2.1 d hv (k h hn H locs la hP hS hl)
theorem g_sipush (C : Cx E own cc nL p s m args meth c) {n : Int} {v : Int32} (d : decode cc pc = .ok (.sipush n, 3)) (hv : (Int16.ofInt n).toInt32 = v) (k : G E N nL p l e R s m args below meth c cells slots Q I F (pc + 3) ls (.int v :: st)) : G E N nL p l e R s m args below meth c cells slots Q I F pc ls st := fun h hn H locs la hP hS hl => lv_sipush C.1 C.2.1 d hv (k h hn H locs la hP hS hl)
theorem g_lconst (C : Cx E own cc nL p s m args meth c) {n : Fin 2} {v : Int64} (d : decode cc pc = .ok (.lconst n, 1)) (hv : Int64.ofNat (n : Nat) = v) (k : G E N nL p l e R s m args below meth c cells slots Q I F (pc + 1) ls (.long v :: st)) : G E N nL p l e R s m args below meth c cells slots Q I F pc ls st := fun h hn H locs la hP hS hl => lv_lconst C.1 C.2.1 d hv (k h hn H locs la hP hS hl)
theorem g_null (C : Cx E own cc nL p s m args meth c)  (d : decode cc pc = .ok (.aconst_null, 1))  (k : G E N nL p l e R s m args below meth c cells slots Q I F (pc + 1) ls (.null :: st)) : G E N nL p l e R s m args below meth c cells slots Q I F pc ls st := fun h hn H locs la hP hS hl => lv_null C.1 C.2.1 d  (k h hn H locs la hP hS hl)
theorem g_iload_n (C : Cx E own cc nL p s m args meth c) {k9 : Fin 4} {i : Nat} {x : Int32} (d : decode cc pc = .ok (.iload_n k9, 1)) (hi : (k9 : Nat) = i) (hv : ls[i]? = some (some (.int x))) (k : G E N nL p l e R s m args below meth c cells slots Q I F (pc + 1) ls (.int x :: st)) : G E N nL p l e R s m args below meth c cells slots Q I F pc ls st := fun h hn H locs la hP hS hl => lv_iload_n C.1 C.2.1 d hi (lo_at hl hv) (k h hn H locs la hP hS hl)
theorem g_iload (C : Cx E own cc nL p s m args meth c) {i : Nat} {x : Int32} (d : decode cc pc = .ok (.iload i, 2)) (hv : ls[i]? = some (some (.int x))) (k : G E N nL p l e R s m args below meth c cells slots Q I F (pc + 2) ls (.int x :: st)) : G E N nL p l e R s m args below meth c cells slots Q I F pc ls st := fun h hn H locs la hP hS hl => lv_iload C.1 C.2.1 d (lo_at hl hv) (k h hn H locs la hP hS hl)
theorem g_lload_n (C : Cx E own cc nL p s m args meth c) {k9 : Fin 4} {i : Nat} {x : Int64} (d : decode cc pc = .ok (.lload_n k9, 1)) (hi : (k9 : Nat) = i) (hv : ls[i]? = some (some (.long x))) (k : G E N nL p l e R s m args below meth c cells slots Q I F (pc + 1) ls (.long x :: st)) : G E N nL p l e R s m args below meth c cells slots Q I F pc ls st := fun h hn H locs la hP hS hl => lv_lload_n C.1 C.2.1 d hi (lo_at hl hv) (k h hn H locs la hP hS hl)
theorem g_lload (C : Cx E own cc nL p s m args meth c) {i : Nat} {x : Int64} (d : decode cc pc = .ok (.lload i, 2)) (hv : ls[i]? = some (some (.long x))) (k : G E N nL p l e R s m args below meth c cells slots Q I F (pc + 2) ls (.long x :: st)) : G E N nL p l e R s m args below meth c cells slots Q I F pc ls st := fun h hn H locs la hP hS hl => lv_lload C.1 C.2.1 d (lo_at hl hv) (k h hn H locs la hP hS hl)
theorem g_aload_n (C : Cx E own cc nL p s m args meth c) {k9 : Fin 4} {i x : Nat} (d : decode cc pc = .ok (.aload_n k9, 1)) (hi : (k9 : Nat) = i) (hv : ls[i]? = some (some (.ref x))) (k : G E N nL p l e R s m args below meth c cells slots Q I F (pc + 1) ls (.ref x :: st)) : G E N nL p l e R s m args below meth c cells slots Q I F pc ls st := fun h hn H locs la hP hS hl => lv_aload_n C.1 C.2.1 d hi (lo_at hl hv) (k h hn H locs la hP hS hl)
theorem g_aload (C : Cx E own cc nL p s m args meth c) {i x : Nat} (d : decode cc pc = .ok (.aload i, 2)) (hv : ls[i]? = some (some (.ref x))) (k : G E N nL p l e R s m args below meth c cells slots Q I F (pc + 2) ls (.ref x :: st)) : G E N nL p l e R s m args below meth c cells slots Q I F pc ls st := fun h hn H locs la hP hS hl => lv_aload C.1 C.2.1 d (lo_at hl hv) (k h hn H locs la hP hS hl)
theorem g_aload_nN (C : Cx E own cc nL p s m args meth c) {k9 : Fin 4} {i : Nat} (d : decode cc pc = .ok (.aload_n k9, 1)) (hi : (k9 : Nat) = i) (hv : ls[i]? = some (some .null)) (k : G E N nL p l e R s m args below meth c cells slots Q I F (pc + 1) ls (.null :: st)) : G E N nL p l e R s m args below meth c cells slots Q I F pc ls st := fun h hn H locs la hP hS hl => lv_aload_nN C.1 C.2.1 d hi (lo_at hl hv) (k h hn H locs la hP hS hl)
theorem g_istore_n (C : Cx E own cc nL p s m args meth c) {k9 : Fin 4} {x : Int32} {i : Nat} (d : decode cc pc = .ok (.istore_n k9, 1)) (h9 : (k9 : Nat) = i) (hi : (i < nL)) (hk : lok ls i = true) (k : G E N nL p l e R s m args below meth c cells slots Q I F (pc + 1) (ls.set i (some (.int x))) st) : G E N nL p l e R s m args below meth c cells slots Q I F pc ls ((.int x) :: st) := fun h hn H locs la hP hS hl => lv_istore_n C.1 C.2.1 d h9 hl hi rfl (fun la2 h2 => k h (by simp [hn]) H locs la2 hP hS (lo_set1 hk (by omega) h2))
theorem g_istore (C : Cx E own cc nL p s m args meth c) {x : Int32} {i : Nat} (d : decode cc pc = .ok (.istore i, 2))  (hi : (i < nL)) (hk : lok ls i = true) (k : G E N nL p l e R s m args below meth c cells slots Q I F (pc + 2) (ls.set i (some (.int x))) st) : G E N nL p l e R s m args below meth c cells slots Q I F pc ls ((.int x) :: st) := fun h hn H locs la hP hS hl => lv_istore C.1 C.2.1 d  hl hi rfl (fun la2 h2 => k h (by simp [hn]) H locs la2 hP hS (lo_set1 hk (by omega) h2))
theorem g_lstore_n (C : Cx E own cc nL p s m args meth c) {k9 : Fin 4} {x : Int64} {i : Nat} (d : decode cc pc = .ok (.lstore_n k9, 1)) (h9 : (k9 : Nat) = i) (hi : (i + 1 < nL)) (hk : lok ls i = true) (k : G E N nL p l e R s m args below meth c cells slots Q I F (pc + 1) ((ls.set i (some (.long x))).set (i + 1) none) st) : G E N nL p l e R s m args below meth c cells slots Q I F pc ls ((.long x) :: st) := fun h hn H locs la hP hS hl => lv_lstore_n C.1 C.2.1 d h9 hl hi rfl (fun la2 h2 => k h (by simp [hn]) H locs la2 hP hS (lo_set2 hk (by omega) h2))
theorem g_lstore (C : Cx E own cc nL p s m args meth c) {x : Int64} {i : Nat} (d : decode cc pc = .ok (.lstore i, 2))  (hi : (i + 1 < nL)) (hk : lok ls i = true) (k : G E N nL p l e R s m args below meth c cells slots Q I F (pc + 2) ((ls.set i (some (.long x))).set (i + 1) none) st) : G E N nL p l e R s m args below meth c cells slots Q I F pc ls ((.long x) :: st) := fun h hn H locs la hP hS hl => lv_lstore C.1 C.2.1 d  hl hi rfl (fun la2 h2 => k h (by simp [hn]) H locs la2 hP hS (lo_set2 hk (by omega) h2))
theorem g_astore_n (C : Cx E own cc nL p s m args meth c) {k9 : Fin 4} {x : Nat} {i : Nat} (d : decode cc pc = .ok (.astore_n k9, 1)) (h9 : (k9 : Nat) = i) (hi : (i < nL)) (hk : lok ls i = true) (k : G E N nL p l e R s m args below meth c cells slots Q I F (pc + 1) (ls.set i (some (.ref x))) st) : G E N nL p l e R s m args below meth c cells slots Q I F pc ls ((.ref x) :: st) := fun h hn H locs la hP hS hl => lv_astore_n C.1 C.2.1 d h9 hl hi rfl (fun la2 h2 => k h (by simp [hn]) H locs la2 hP hS (lo_set1 hk (by omega) h2))
theorem g_astore (C : Cx E own cc nL p s m args meth c) {x : Nat} {i : Nat} (d : decode cc pc = .ok (.astore i, 2))  (hi : (i < nL)) (hk : lok ls i = true) (k : G E N nL p l e R s m args below meth c cells slots Q I F (pc + 2) (ls.set i (some (.ref x))) st) : G E N nL p l e R s m args below meth c cells slots Q I F pc ls ((.ref x) :: st) := fun h hn H locs la hP hS hl => lv_astore C.1 C.2.1 d  hl hi rfl (fun la2 h2 => k h (by simp [hn]) H locs la2 hP hS (lo_set1 hk (by omega) h2))
theorem g_astore_nN (C : Cx E own cc nL p s m args meth c) {k9 : Fin 4} {i : Nat} (d : decode cc pc = .ok (.astore_n k9, 1)) (h9 : (k9 : Nat) = i) (hi : (i < nL)) (hk : lok ls i = true) (k : G E N nL p l e R s m args below meth c cells slots Q I F (pc + 1) (ls.set i (some .null)) st) : G E N nL p l e R s m args below meth c cells slots Q I F pc ls (.null :: st) := fun h hn H locs la hP hS hl => lv_astore_nN C.1 C.2.1 d h9 hl hi rfl (fun la2 h2 => k h (by simp [hn]) H locs la2 hP hS (lo_set1 hk (by omega) h2))
theorem g_iinc (C : Cx E own cc nL p s m args meth c) {i : Nat} {n : Int} {x v : Int32} (d : decode cc pc = .ok (.iinc i n, 3)) (hv : ls[i]? = some (some (.int x))) (hx : x + Int32.ofInt n = v) (hi : i < nL) (hk : lok ls i = true) (k : G E N nL p l e R s m args below meth c cells slots Q I F (pc + 3) (ls.set i (some (.int v))) st) : G E N nL p l e R s m args below meth c cells slots Q I F pc ls st := fun h hn H locs la hP hS hl => by
  obtain ⟨j, hj⟩ := List.getElem?_of_mem ((lo_mem ls 0 i (.int x)).mpr ⟨Nat.zero_le _, by simpa using hv⟩)
  exact lv_iinc C.1 C.2.1 d hl hj hx hi rfl (fun la2 h2 => k h (by simp [hn]) H locs la2 hP hS (lo_set1 hk (by omega) h2))
theorem g_iadd (C : Cx E own cc nL p s m args meth c) {x y : Int32} (d : decode cc pc = .ok (.iadd, 1))  (k : G E N nL p l e R s m args below meth c cells slots Q I F (pc + 1) ls (.int (x + y) :: st)) : G E N nL p l e R s m args below meth c cells slots Q I F pc ls (.int y :: .int x :: st) := fun h hn H locs la hP hS hl => lv_iadd C.1 C.2.1 d  (k h hn H locs la hP hS hl)
theorem g_isub (C : Cx E own cc nL p s m args meth c) {x y : Int32} (d : decode cc pc = .ok (.isub, 1))  (k : G E N nL p l e R s m args below meth c cells slots Q I F (pc + 1) ls (.int (x - y) :: st)) : G E N nL p l e R s m args below meth c cells slots Q I F pc ls (.int y :: .int x :: st) := fun h hn H locs la hP hS hl => lv_isub C.1 C.2.1 d  (k h hn H locs la hP hS hl)
theorem g_imul (C : Cx E own cc nL p s m args meth c) {x y : Int32} (d : decode cc pc = .ok (.imul, 1))  (k : G E N nL p l e R s m args below meth c cells slots Q I F (pc + 1) ls (.int (x * y) :: st)) : G E N nL p l e R s m args below meth c cells slots Q I F pc ls (.int y :: .int x :: st) := fun h hn H locs la hP hS hl => lv_imul C.1 C.2.1 d  (k h hn H locs la hP hS hl)
theorem g_iand (C : Cx E own cc nL p s m args meth c) {x y : Int32} (d : decode cc pc = .ok (.iand, 1))  (k : G E N nL p l e R s m args below meth c cells slots Q I F (pc + 1) ls (.int (x &&& y) :: st)) : G E N nL p l e R s m args below meth c cells slots Q I F pc ls (.int y :: .int x :: st) := fun h hn H locs la hP hS hl => lv_iand C.1 C.2.1 d  (k h hn H locs la hP hS hl)
theorem g_ior (C : Cx E own cc nL p s m args meth c) {x y : Int32} (d : decode cc pc = .ok (.ior, 1))  (k : G E N nL p l e R s m args below meth c cells slots Q I F (pc + 1) ls (.int (x ||| y) :: st)) : G E N nL p l e R s m args below meth c cells slots Q I F pc ls (.int y :: .int x :: st) := fun h hn H locs la hP hS hl => lv_ior C.1 C.2.1 d  (k h hn H locs la hP hS hl)
theorem g_ixor (C : Cx E own cc nL p s m args meth c) {x y : Int32} (d : decode cc pc = .ok (.ixor, 1))  (k : G E N nL p l e R s m args below meth c cells slots Q I F (pc + 1) ls (.int (x ^^^ y) :: st)) : G E N nL p l e R s m args below meth c cells slots Q I F pc ls (.int y :: .int x :: st) := fun h hn H locs la hP hS hl => lv_ixor C.1 C.2.1 d  (k h hn H locs la hP hS hl)
theorem g_ishl (C : Cx E own cc nL p s m args meth c) {x y : Int32} (d : decode cc pc = .ok (.ishl, 1))  (k : G E N nL p l e R s m args below meth c cells slots Q I F (pc + 1) ls (.int (x <<< (y &&& 31)) :: st)) : G E N nL p l e R s m args below meth c cells slots Q I F pc ls (.int y :: .int x :: st) := fun h hn H locs la hP hS hl => lv_ishl C.1 C.2.1 d  (k h hn H locs la hP hS hl)
theorem g_ishr (C : Cx E own cc nL p s m args meth c) {x y : Int32} (d : decode cc pc = .ok (.ishr, 1))  (k : G E N nL p l e R s m args below meth c cells slots Q I F (pc + 1) ls (.int (x >>> (y &&& 31)) :: st)) : G E N nL p l e R s m args below meth c cells slots Q I F pc ls (.int y :: .int x :: st) := fun h hn H locs la hP hS hl => lv_ishr C.1 C.2.1 d  (k h hn H locs la hP hS hl)
theorem g_irem (C : Cx E own cc nL p s m args meth c) {x y : Int32} (d : decode cc pc = .ok (.irem, 1)) (hne : ¬ y = 0) (k : G E N nL p l e R s m args below meth c cells slots Q I F (pc + 1) ls (.int (x - (x / y) * y) :: st)) : G E N nL p l e R s m args below meth c cells slots Q I F pc ls (.int y :: .int x :: st) := fun h hn H locs la hP hS hl => lv_irem C.1 C.2.1 d hne (k h hn H locs la hP hS hl)
theorem g_land (C : Cx E own cc nL p s m args meth c) {x y : Int64} (d : decode cc pc = .ok (.land, 1))  (k : G E N nL p l e R s m args below meth c cells slots Q I F (pc + 1) ls (.long (x &&& y) :: st)) : G E N nL p l e R s m args below meth c cells slots Q I F pc ls (.long y :: .long x :: st) := fun h hn H locs la hP hS hl => lv_land C.1 C.2.1 d  (k h hn H locs la hP hS hl)
theorem g_lor (C : Cx E own cc nL p s m args meth c) {x y : Int64} (d : decode cc pc = .ok (.lor, 1))  (k : G E N nL p l e R s m args below meth c cells slots Q I F (pc + 1) ls (.long (x ||| y) :: st)) : G E N nL p l e R s m args below meth c cells slots Q I F pc ls (.long y :: .long x :: st) := fun h hn H locs la hP hS hl => lv_lor C.1 C.2.1 d  (k h hn H locs la hP hS hl)
theorem g_i2l (C : Cx E own cc nL p s m args meth c) {x : Int32} {v : Int64} (d : decode cc pc = .ok (.i2l, 1)) (hv : x.toInt64 = v) (k : G E N nL p l e R s m args below meth c cells slots Q I F (pc + 1) ls (.long v :: st)) : G E N nL p l e R s m args below meth c cells slots Q I F pc ls (.int x :: st) := fun h hn H locs la hP hS hl => lv_i2l C.1 C.2.1 d hv (k h hn H locs la hP hS hl)
theorem g_l2i (C : Cx E own cc nL p s m args meth c) {x : Int64} {v : Int32} (d : decode cc pc = .ok (.l2i, 1)) (hv : x.toInt32 = v) (k : G E N nL p l e R s m args below meth c cells slots Q I F (pc + 1) ls (.int v :: st)) : G E N nL p l e R s m args below meth c cells slots Q I F pc ls (.long x :: st) := fun h hn H locs la hP hS hl => lv_l2i C.1 C.2.1 d hv (k h hn H locs la hP hS hl)
theorem g_i2c (C : Cx E own cc nL p s m args meth c) {x v : Int32} (d : decode cc pc = .ok (.i2c, 1)) (hv : (x.toUInt32 % 65536).toInt32 = v) (k : G E N nL p l e R s m args below meth c cells slots Q I F (pc + 1) ls (.int v :: st)) : G E N nL p l e R s m args below meth c cells slots Q I F pc ls (.int x :: st) := fun h hn H locs la hP hS hl => lv_i2c C.1 C.2.1 d hv (k h hn H locs la hP hS hl)
theorem g_iushr (C : Cx E own cc nL p s m args meth c) {x y v : Int32} (d : decode cc pc = .ok (.iushr, 1)) (hv : (x.toUInt32 >>> (y.toUInt32 &&& Int32.toUInt32 31)).toInt32 = v) (k : G E N nL p l e R s m args below meth c cells slots Q I F (pc + 1) ls (.int v :: st)) : G E N nL p l e R s m args below meth c cells slots Q I F pc ls (.int y :: .int x :: st) := fun h hn H locs la hP hS hl => lv_iushr C.1 C.2.1 d hv (k h hn H locs la hP hS hl)
theorem g_lushr (C : Cx E own cc nL p s m args meth c) {x v : Int64} {y : Int32} (d : decode cc pc = .ok (.lushr, 1)) (hv : (x.toUInt64 >>> (y.toInt64.toUInt64 &&& Int64.toUInt64 63)).toInt64 = v) (k : G E N nL p l e R s m args below meth c cells slots Q I F (pc + 1) ls (.long v :: st)) : G E N nL p l e R s m args below meth c cells slots Q I F pc ls (.int y :: .long x :: st) := fun h hn H locs la hP hS hl => lv_lushr C.1 C.2.1 d hv (k h hn H locs la hP hS hl)
theorem g_lshl (C : Cx E own cc nL p s m args meth c) {x v : Int64} {y : Int32} (d : decode cc pc = .ok (.lshl, 1)) (hv : x <<< (y.toInt64 &&& 63) = v) (k : G E N nL p l e R s m args below meth c cells slots Q I F (pc + 1) ls (.long v :: st)) : G E N nL p l e R s m args below meth c cells slots Q I F pc ls (.int y :: .long x :: st) := fun h hn H locs la hP hS hl => lv_lshl C.1 C.2.1 d hv (k h hn H locs la hP hS hl)
theorem g_lcmp (C : Cx E own cc nL p s m args meth c) {x y : Int64} (d : decode cc pc = .ok (.lcmp, 1))  (k : G E N nL p l e R s m args below meth c cells slots Q I F (pc + 1) ls (.int (lg_cmp x y) :: st)) : G E N nL p l e R s m args below meth c cells slots Q I F pc ls (.long y :: .long x :: st) := fun h hn H locs la hP hS hl => W.lcmp C.1 C.2.1 d  (k h hn H locs la hP hS hl)
theorem g_dup (C : Cx E own cc nL p s m args meth c) {v : Value} (d : decode cc pc = .ok (.dup, 1)) (hv : v.category = 1) (k : G E N nL p l e R s m args below meth c cells slots Q I F (pc + 1) ls (v :: v :: st)) : G E N nL p l e R s m args below meth c cells slots Q I F pc ls (v :: st) := fun h hn H locs la hP hS hl => lv_dup C.1 C.2.1 d hv (k h hn H locs la hP hS hl)
theorem g_pop (C : Cx E own cc nL p s m args meth c) {v : Value} (d : decode cc pc = .ok (.pop, 1)) (hv : v.category = 1) (k : G E N nL p l e R s m args below meth c cells slots Q I F (pc + 1) ls st) : G E N nL p l e R s m args below meth c cells slots Q I F pc ls (v :: st) := fun h hn H locs la hP hS hl => lv_pop C.1 C.2.1 d hv (k h hn H locs la hP hS hl)
theorem g_dup2_11 (C : Cx E own cc nL p s m args meth c) {v w : Value} (d : decode cc pc = .ok (.dup2, 1)) (hv : v.category = 1) (hw : w.category = 1) (k : G E N nL p l e R s m args below meth c cells slots Q I F (pc + 1) ls (v :: w :: v :: w :: st)) : G E N nL p l e R s m args below meth c cells slots Q I F pc ls (v :: w :: st) := fun h hn H locs la hP hS hl => lv_dup2_11 C.1 C.2.1 d hv hw (k h hn H locs la hP hS hl)
theorem g_if_eq (C : Cx E own cc nL p s m args meth c) {x : Int32} {off : Int} {tgt : Nat} (d : decode cc pc = .ok (.ifCond .eq off, 3)) (ht : (pc : Int) + off = (tgt : Int)) (kt : x = 0 → G E N nL p l e R s m args below meth c cells slots Q I F tgt ls st) (kf : ¬ x = 0 → G E N nL p l e R s m args below meth c cells slots Q I F (pc + 3) ls st) : G E N nL p l e R s m args below meth c cells slots Q I F pc ls (.int x :: st) := fun h hn H locs la hP hS hl => lv_if_eq C.1 C.2.1 d ht (fun q => kt q h hn H locs la hP hS hl) (fun q => kf q h hn H locs la hP hS hl)
theorem g_if_ne (C : Cx E own cc nL p s m args meth c) {x : Int32} {off : Int} {tgt : Nat} (d : decode cc pc = .ok (.ifCond .ne off, 3)) (ht : (pc : Int) + off = (tgt : Int)) (kt : ¬ x = 0 → G E N nL p l e R s m args below meth c cells slots Q I F tgt ls st) (kf : x = 0 → G E N nL p l e R s m args below meth c cells slots Q I F (pc + 3) ls st) : G E N nL p l e R s m args below meth c cells slots Q I F pc ls (.int x :: st) := fun h hn H locs la hP hS hl => lv_if_ne C.1 C.2.1 d ht (fun q => kt q h hn H locs la hP hS hl) (fun q => kf q h hn H locs la hP hS hl)
theorem g_if_lt (C : Cx E own cc nL p s m args meth c) {x : Int32} {off : Int} {tgt : Nat} (d : decode cc pc = .ok (.ifCond .lt off, 3)) (ht : (pc : Int) + off = (tgt : Int)) (kt : x < 0 → G E N nL p l e R s m args below meth c cells slots Q I F tgt ls st) (kf : ¬ x < 0 → G E N nL p l e R s m args below meth c cells slots Q I F (pc + 3) ls st) : G E N nL p l e R s m args below meth c cells slots Q I F pc ls (.int x :: st) := fun h hn H locs la hP hS hl => lv_if_lt C.1 C.2.1 d ht (fun q => kt q h hn H locs la hP hS hl) (fun q => kf q h hn H locs la hP hS hl)
theorem g_if_ge (C : Cx E own cc nL p s m args meth c) {x : Int32} {off : Int} {tgt : Nat} (d : decode cc pc = .ok (.ifCond .ge off, 3)) (ht : (pc : Int) + off = (tgt : Int)) (kt : 0 ≤ x → G E N nL p l e R s m args below meth c cells slots Q I F tgt ls st) (kf : ¬ 0 ≤ x → G E N nL p l e R s m args below meth c cells slots Q I F (pc + 3) ls st) : G E N nL p l e R s m args below meth c cells slots Q I F pc ls (.int x :: st) := fun h hn H locs la hP hS hl => lv_if_ge C.1 C.2.1 d ht (fun q => kt q h hn H locs la hP hS hl) (fun q => kf q h hn H locs la hP hS hl)
theorem g_if_gt (C : Cx E own cc nL p s m args meth c) {x : Int32} {off : Int} {tgt : Nat} (d : decode cc pc = .ok (.ifCond .gt off, 3)) (ht : (pc : Int) + off = (tgt : Int)) (kt : 0 < x → G E N nL p l e R s m args below meth c cells slots Q I F tgt ls st) (kf : ¬ 0 < x → G E N nL p l e R s m args below meth c cells slots Q I F (pc + 3) ls st) : G E N nL p l e R s m args below meth c cells slots Q I F pc ls (.int x :: st) := fun h hn H locs la hP hS hl => lv_if_gt C.1 C.2.1 d ht (fun q => kt q h hn H locs la hP hS hl) (fun q => kf q h hn H locs la hP hS hl)
theorem g_if_le (C : Cx E own cc nL p s m args meth c) {x : Int32} {off : Int} {tgt : Nat} (d : decode cc pc = .ok (.ifCond .le off, 3)) (ht : (pc : Int) + off = (tgt : Int)) (kt : x ≤ 0 → G E N nL p l e R s m args below meth c cells slots Q I F tgt ls st) (kf : ¬ x ≤ 0 → G E N nL p l e R s m args below meth c cells slots Q I F (pc + 3) ls st) : G E N nL p l e R s m args below meth c cells slots Q I F pc ls (.int x :: st) := fun h hn H locs la hP hS hl => lv_if_le C.1 C.2.1 d ht (fun q => kt q h hn H locs la hP hS hl) (fun q => kf q h hn H locs la hP hS hl)
theorem g_icmp_eq (C : Cx E own cc nL p s m args meth c) {x y : Int32} {off : Int} {tgt : Nat} (d : decode cc pc = .ok (.if_icmp .eq off, 3)) (ht : (pc : Int) + off = (tgt : Int)) (kt : x = y → G E N nL p l e R s m args below meth c cells slots Q I F tgt ls st) (kf : ¬ x = y → G E N nL p l e R s m args below meth c cells slots Q I F (pc + 3) ls st) : G E N nL p l e R s m args below meth c cells slots Q I F pc ls (.int y :: .int x :: st) := fun h hn H locs la hP hS hl => lv_icmp_eq C.1 C.2.1 d ht (fun q => kt q h hn H locs la hP hS hl) (fun q => kf q h hn H locs la hP hS hl)
theorem g_icmp_ne (C : Cx E own cc nL p s m args meth c) {x y : Int32} {off : Int} {tgt : Nat} (d : decode cc pc = .ok (.if_icmp .ne off, 3)) (ht : (pc : Int) + off = (tgt : Int)) (kt : ¬ x = y → G E N nL p l e R s m args below meth c cells slots Q I F tgt ls st) (kf : x = y → G E N nL p l e R s m args below meth c cells slots Q I F (pc + 3) ls st) : G E N nL p l e R s m args below meth c cells slots Q I F pc ls (.int y :: .int x :: st) := fun h hn H locs la hP hS hl => lv_icmp_ne C.1 C.2.1 d ht (fun q => kt q h hn H locs la hP hS hl) (fun q => kf q h hn H locs la hP hS hl)
theorem g_icmp_lt (C : Cx E own cc nL p s m args meth c) {x y : Int32} {off : Int} {tgt : Nat} (d : decode cc pc = .ok (.if_icmp .lt off, 3)) (ht : (pc : Int) + off = (tgt : Int)) (kt : x < y → G E N nL p l e R s m args below meth c cells slots Q I F tgt ls st) (kf : ¬ x < y → G E N nL p l e R s m args below meth c cells slots Q I F (pc + 3) ls st) : G E N nL p l e R s m args below meth c cells slots Q I F pc ls (.int y :: .int x :: st) := fun h hn H locs la hP hS hl => lv_icmp_lt C.1 C.2.1 d ht (fun q => kt q h hn H locs la hP hS hl) (fun q => kf q h hn H locs la hP hS hl)
theorem g_icmp_ge (C : Cx E own cc nL p s m args meth c) {x y : Int32} {off : Int} {tgt : Nat} (d : decode cc pc = .ok (.if_icmp .ge off, 3)) (ht : (pc : Int) + off = (tgt : Int)) (kt : y ≤ x → G E N nL p l e R s m args below meth c cells slots Q I F tgt ls st) (kf : ¬ y ≤ x → G E N nL p l e R s m args below meth c cells slots Q I F (pc + 3) ls st) : G E N nL p l e R s m args below meth c cells slots Q I F pc ls (.int y :: .int x :: st) := fun h hn H locs la hP hS hl => lv_icmp_ge C.1 C.2.1 d ht (fun q => kt q h hn H locs la hP hS hl) (fun q => kf q h hn H locs la hP hS hl)
theorem g_icmp_gt (C : Cx E own cc nL p s m args meth c) {x y : Int32} {off : Int} {tgt : Nat} (d : decode cc pc = .ok (.if_icmp .gt off, 3)) (ht : (pc : Int) + off = (tgt : Int)) (kt : y < x → G E N nL p l e R s m args below meth c cells slots Q I F tgt ls st) (kf : ¬ y < x → G E N nL p l e R s m args below meth c cells slots Q I F (pc + 3) ls st) : G E N nL p l e R s m args below meth c cells slots Q I F pc ls (.int y :: .int x :: st) := fun h hn H locs la hP hS hl => lv_icmp_gt C.1 C.2.1 d ht (fun q => kt q h hn H locs la hP hS hl) (fun q => kf q h hn H locs la hP hS hl)
theorem g_icmp_le (C : Cx E own cc nL p s m args meth c) {x y : Int32} {off : Int} {tgt : Nat} (d : decode cc pc = .ok (.if_icmp .le off, 3)) (ht : (pc : Int) + off = (tgt : Int)) (kt : x ≤ y → G E N nL p l e R s m args below meth c cells slots Q I F tgt ls st) (kf : ¬ x ≤ y → G E N nL p l e R s m args below meth c cells slots Q I F (pc + 3) ls st) : G E N nL p l e R s m args below meth c cells slots Q I F pc ls (.int y :: .int x :: st) := fun h hn H locs la hP hS hl => lv_icmp_le C.1 C.2.1 d ht (fun q => kt q h hn H locs la hP hS hl) (fun q => kf q h hn H locs la hP hS hl)
theorem g_goto (C : Cx E own cc nL p s m args meth c) {off : Int} {tgt : Nat} (d : decode cc pc = .ok (.goto off, 3)) (ht : (pc : Int) + off = (tgt : Int)) (k : G E N nL p l e R s m args below meth c cells slots Q I F tgt ls st) : G E N nL p l e R s m args below meth c cells slots Q I F pc ls st := fun h hn H locs la hP hS hl => lv_goto C.1 C.2.1 d ht (k h hn H locs la hP hS hl)
theorem g_ifnull (C : Cx E own cc nL p s m args meth c) {x : Nat} {off : Int} (d : decode cc pc = .ok (.ifnull off, 3)) (k : G E N nL p l e R s m args below meth c cells slots Q I F (pc + 3) ls st) : G E N nL p l e R s m args below meth c cells slots Q I F pc ls (.ref x :: st) := fun h hn H locs la hP hS hl => lv_ifnull C.1 C.2.1 d (k h hn H locs la hP hS hl)
theorem g_ifnullN (C : Cx E own cc nL p s m args meth c) {off : Int} {tgt : Nat} (d : decode cc pc = .ok (.ifnull off, 3)) (ht : (pc : Int) + off = (tgt : Int)) (k : G E N nL p l e R s m args below meth c cells slots Q I F tgt ls st) : G E N nL p l e R s m args below meth c cells slots Q I F pc ls (.null :: st) := fun h hn H locs la hP hS hl => lv_ifnullN C.1 C.2.1 d ht (k h hn H locs la hP hS hl)
theorem g_tableOut (C : Cx E own cc nL p s m args meth c) {dflt lo9 hi : Int} {offs : Array Int} {len : Nat} {x : Int32} {tgt : Nat} (d : decode cc pc = .ok (.tableswitch dflt lo9 hi offs, len)) (hx : x.toInt < lo9 ∨ hi < x.toInt) (ht : (pc : Int) + dflt = (tgt : Int)) (k : G E N nL p l e R s m args below meth c cells slots Q I F tgt ls st) : G E N nL p l e R s m args below meth c cells slots Q I F pc ls (.int x :: st) := fun h hn H locs la hP hS hl => lv_tableOut C.1 C.2.1 d hx ht (k h hn H locs la hP hS hl)
theorem g_tableIn (C : Cx E own cc nL p s m args meth c) {dflt lo9 hi : Int} {offs : Array Int} {len : Nat} {x : Int32} {off : Int} {tgt : Nat} (d : decode cc pc = .ok (.tableswitch dflt lo9 hi offs, len)) (h1 : ¬ x.toInt < lo9) (h2 : ¬ hi < x.toInt) (ho : offs[(x.toInt - lo9).toNat]? = some off) (ht : (pc : Int) + off = (tgt : Int)) (k : G E N nL p l e R s m args below meth c cells slots Q I F tgt ls st) : G E N nL p l e R s m args below meth c cells slots Q I F pc ls (.int x :: st) := fun h hn H locs la hP hS hl => lv_tableIn C.1 C.2.1 d h1 h2 ho ht (k h hn H locs la hP hS hl)
theorem g_ldcw (C : Cx E own cc nL p s m args meth c) {idx : Nat} {v : Int32} (d : decode cc pc = .ok (.ldc_w idx, 3)) (hw : Jvm.Cond.constant own idx v ∈ gw) (k : G E N nL p l e R s m args below meth c cells slots Q I F (pc + 3) ls (.int v :: st)) : G E N nL p l e R s m args below meth c cells slots Q I F pc ls st := fun h hn H locs la hP hS hl => lv_ldcw C.1 C.2.1 C.2.2.2.1 (C.2.2.2.2.1 _ hw) d (k h hn H locs la hP hS hl)
theorem g_ldc2 (C : Cx E own cc nL p s m args meth c) {idx : Nat} {v : Int64} (d : decode cc pc = .ok (.ldc2_w idx, 3)) (hw : Jvm.Cond.constantLong own idx v ∈ gw) (k : G E N nL p l e R s m args below meth c cells slots Q I F (pc + 3) ls (.long v :: st)) : G E N nL p l e R s m args below meth c cells slots Q I F pc ls st := fun h hn H locs la hP hS hl => lv_ldc2 C.1 C.2.1 C.2.2.2.1 (C.2.2.2.2.1 _ hw) d (k h hn H locs la hP hS hl)
theorem up_ne {I : Mi} {k j : Nat} {v : Int32} {x : Nat} (h : x ≠ k) : up I k j v x = I x := by funext y; simp [up, h]
theorem ur_ne {F : Mr} {k j : Nat} {v : Option Nat} {x : Nat} (h : x ≠ k) : ur F k j v x = F x := by funext y; simp [ur, h]
theorem up_at {I : Mi} {k j : Nat} {v : Int32} : up I k j v k = upd (I k) j v := by funext y; simp [up, upd]
theorem ur_at {F : Mr} {k j : Nat} {v : Option Nat} : ur F k j v k = va_up (F k) j v := by funext y; simp [ur, va_up]
abbrev ix (x : Int32) : Nat := x.toNatClampNeg
abbrev ob (N k q : Nat) : Prop := (kd k).1 = q ∧ k < N
abbrev ar (N k t n : Nat) : Prop := kd k = (t, n) ∧ k < N
theorem cellOf_obj {k q : Nat} (h : (kd k).1 = q) (hq : q < 6) : cellOf E I F k = .inr (q, fl (pb E) (I k) (F k) 0 (isr q)) := by
  subst h
  unfold cellOf
  rw [if_neg (by omega), if_neg (by omega), if_neg (by omega)]
theorem cellOf_chr {k n : Nat} (h : kd k = (6, n)) : cellOf E I F k = .inl (E.2.1.2.1, n, .inl (I k)) := by simp [cellOf, h]
theorem cellOf_int {k n : Nat} (h : kd k = (7, n)) : cellOf E I F k = .inl (E.2.1.1, n, .inl (I k)) := by simp [cellOf, h]
theorem cellOf_ref {k n : Nat} (h : kd k = (8, n)) : cellOf E I F k = .inl (E.2.1.2.2, n, .inr (.inr (.inr (.inr (fun j => (F k j).map (fun x => pb E + x)))))) := by simp [cellOf, h]

theorem g_get0 (C : Cx E own cc nL p s m args meth c) {q nf : Nat} {CN : String} {T : u_T} (hc : vwCl[q]? = some (CN, T, nf)) (hin : ∀ w ∈ u_ws CN T nf, w ∈ gw) {idx : Nat} {ref : String} {j : Nat} (hj : j < nf) (hlink : Cond.fieldLink own idx ref (T j).2.1 (T j).2.2.1 ∈ gw) (href : (T j).1 = ref) {k : Nat} (hk : k < N) (hq : (kd k).1 = q) (hq6 : q < 6) {v : Value} (hv : (fl (pb E) (I k) (F k) 0 (isr q))[j]? = some v) (d : decode cc pc = .ok (.getfield idx, 3)) (kk : G E N nL p l e R s m args below meth c cells slots Q I F (pc + 3) ls (v :: st)) : G E N nL p l e R s m args below meth c cells slots Q I F pc ls (rf E k :: st) := fun h hn H locs la hP hS hl => va_get (D := E.1) (cl := vwCl) C.1 C.2.1 C.2.2.2.2.1 hin C.2.2.2.1 C.2.2.2.2.2.1 hP k (by rw [wsOf_get hk, cellOf_obj hq hq6]) hc j hj (C.2.2.2.2.1 _ hlink) (fun x hx => by subst href; exact hx) hv d (kk h hn H locs la hP hS hl)
theorem g_getN0 (C : Cx E own cc nL p s m args meth c) {q nf : Nat} {CN : String} {T : u_T} (hc : vwCl[q]? = some (CN, T, nf)) (hin : ∀ w ∈ u_ws CN T nf, w ∈ gw) {idx : Nat} {ref host : String} {j : Nat} (hj : j < nf) (hlink : Cond.fieldLinkNest own idx ref (T j).2.1 (T j).2.2.1 host ∈ nw) (href : (T j).1 = ref) {k : Nat} (hk : k < N) (hq : (kd k).1 = q) (hq6 : q < 6) {v : Value} (hv : (fl (pb E) (I k) (F k) 0 (isr q))[j]? = some v) (d : decode cc pc = .ok (.getfield idx, 3)) (kk : G E N nL p l e R s m args below meth c cells slots Q I F (pc + 3) ls (v :: st)) : G E N nL p l e R s m args below meth c cells slots Q I F pc ls (rf E k :: st) := fun h hn H locs la hP hS hl => va_getN (D := E.1) (cl := vwCl) C.1 C.2.1 C.2.2.2.2.1 hin C.2.2.2.1 C.2.2.2.2.2.1 hP k (by rw [wsOf_get hk, cellOf_obj hq hq6]) hc j hj (NW.at C.2.2.2.2.2.2.2 hlink) (fun x hx => by subst href; exact hx) hv d (kk h hn H locs la hP hS hl)
theorem g_put0 (C : Cx E own cc nL p s m args meth c) {q nf : Nat} {CN : String} {T : u_T} (hc : vwCl[q]? = some (CN, T, nf)) (hin : ∀ w ∈ u_ws CN T nf, w ∈ gw) {idx : Nat} {ref : String} {j : Nat} (hj : j < nf) (hlink : Cond.fieldLink own idx ref (T j).2.1 (T j).2.2.1 ∈ gw) (href : (T j).1 = ref) {k : Nat} (hk : k < N) (hq : (kd k).1 = q) (hq6 : q < 6) (hfin : (T j).2.2.2 = false) (ty0 : Nat → FieldType) (hty : ∀ k, k < nf → parseFieldDescriptor (T k).2.2.1 = some (ty0 k)) (hnm : ∀ a, a < nf → ∀ b, b < nf → a ≠ b → (T a).2.1 ≠ (T b).2.1) (hlen : j < (isr q).length) {v : Value} {I2 : Mi} {F2 : Mr} (hnar : narrow (ty0 j) v = v) (hfit : fits (ty0 j) v = true) (hset : (fl (pb E) (I k) (F k) 0 (isr q)).set j v = fl (pb E) (I2 k) (F2 k) 0 (isr q)) (hoth : ∀ x, x ≠ k → I2 x = I x ∧ F2 x = F x) (d : decode cc pc = .ok (.putfield idx, 3)) (kk : G E N nL p l e R s m args below meth c cells slots Q I2 F2 (pc + 3) ls st) : G E N nL p l e R s m args below meth c cells slots Q I F pc ls (v :: rf E k :: st) := fun h hn H locs la hP hS hl => va_put (D := E.1) (cl := vwCl) C.1 C.2.1 C.2.2.2.2.1 hin ty0 hty hnm C.2.2.2.1 C.2.2.2.2.2.1 hP (wsOf_D E N I F) hS k (by rw [wsOf_get hk, cellOf_obj hq hq6]) hc j hj (C.2.2.2.2.1 _ hlink) (fun x hx => by subst href; exact hx) hfin (hty j hj) hnar hfit (by rw [fl_len]; exact hlen) d (fun H1 locs1 hP1 hD1 hS1 => kk h hn H1 locs1 la (by rw [wsOf_set (I2 := I2) (F2 := F2) _ hk (by rw [cellOf_obj hq hq6, hset]) hoth] at hP1; exact hP1) hS1 hl)
theorem g_putN0 (C : Cx E own cc nL p s m args meth c) {q nf : Nat} {CN : String} {T : u_T} (hc : vwCl[q]? = some (CN, T, nf)) (hin : ∀ w ∈ u_ws CN T nf, w ∈ gw) {idx : Nat} {ref host : String} {j : Nat} (hj : j < nf) (hlink : Cond.fieldLinkNest own idx ref (T j).2.1 (T j).2.2.1 host ∈ nw) (href : (T j).1 = ref) {k : Nat} (hk : k < N) (hq : (kd k).1 = q) (hq6 : q < 6) (hfin : (T j).2.2.2 = false) (ty0 : Nat → FieldType) (hty : ∀ k, k < nf → parseFieldDescriptor (T k).2.2.1 = some (ty0 k)) (hnm : ∀ a, a < nf → ∀ b, b < nf → a ≠ b → (T a).2.1 ≠ (T b).2.1) (hlen : j < (isr q).length) {v : Value} {I2 : Mi} {F2 : Mr} (hnar : narrow (ty0 j) v = v) (hfit : fits (ty0 j) v = true) (hset : (fl (pb E) (I k) (F k) 0 (isr q)).set j v = fl (pb E) (I2 k) (F2 k) 0 (isr q)) (hoth : ∀ x, x ≠ k → I2 x = I x ∧ F2 x = F x) (d : decode cc pc = .ok (.putfield idx, 3)) (kk : G E N nL p l e R s m args below meth c cells slots Q I2 F2 (pc + 3) ls st) : G E N nL p l e R s m args below meth c cells slots Q I F pc ls (v :: rf E k :: st) := fun h hn H locs la hP hS hl => va_putN (D := E.1) (cl := vwCl) C.1 C.2.1 C.2.2.2.2.1 hin ty0 hty hnm C.2.2.2.1 C.2.2.2.2.2.1 hP (wsOf_D E N I F) hS k (by rw [wsOf_get hk, cellOf_obj hq hq6]) hc j hj (NW.at C.2.2.2.2.2.2.2 hlink) (fun x hx => by subst href; exact hx) hfin (hty j hj) hnar hfit (by rw [fl_len]; exact hlen) d (fun H1 locs1 hP1 hD1 hS1 => kk h hn H1 locs1 la (by rw [wsOf_set (I2 := I2) (F2 := F2) _ hk (by rw [cellOf_obj hq hq6, hset]) hoth] at hP1; exact hP1) hS1 hl)
theorem g_putF0 (C : Cx E own cc nL p s m args meth c) {q nf : Nat} {CN : String} {T : u_T} (hc : vwCl[q]? = some (CN, T, nf)) (hin : ∀ w ∈ u_ws CN T nf, w ∈ gw) {idx : Nat} {ref : String} {j : Nat} (hj : j < nf) (hlink : Cond.fieldLink own idx ref (T j).2.1 (T j).2.2.1 ∈ gw) (href : (T j).1 = ref) {k : Nat} (hk : k < N) (hq : (kd k).1 = q) (hq6 : q < 6) (hfin : (T j).2.2.2 = true) (hini : meth.name = "<init>") (hdecl : (T j).1 = own) (ty0 : Nat → FieldType) (hty : ∀ k, k < nf → parseFieldDescriptor (T k).2.2.1 = some (ty0 k)) (hnm : ∀ a, a < nf → ∀ b, b < nf → a ≠ b → (T a).2.1 ≠ (T b).2.1) (hlen : j < (isr q).length) {v : Value} {I2 : Mi} {F2 : Mr} (hnar : narrow (ty0 j) v = v) (hfit : fits (ty0 j) v = true) (hset : (fl (pb E) (I k) (F k) 0 (isr q)).set j v = fl (pb E) (I2 k) (F2 k) 0 (isr q)) (hoth : ∀ x, x ≠ k → I2 x = I x ∧ F2 x = F x) (d : decode cc pc = .ok (.putfield idx, 3)) (kk : G E N nL p l e R s m args below meth c cells slots Q I2 F2 (pc + 3) ls st) : G E N nL p l e R s m args below meth c cells slots Q I F pc ls (v :: rf E k :: st) := fun h hn H locs la hP hS hl => va_putF (D := E.1) (cl := vwCl) C.1 C.2.1 C.2.2.2.2.1 hin ty0 hty hnm C.2.2.2.1 C.2.2.2.2.2.1 hP (wsOf_D E N I F) hS k (by rw [wsOf_get hk, cellOf_obj hq hq6]) hc j hj (C.2.2.2.2.1 _ hlink) (fun x hx => by subst href; exact hx) hfin hini hdecl (hty j hj) hnar hfit (by rw [fl_len]; exact hlen) d (fun H1 locs1 hP1 hD1 hS1 => kk h hn H1 locs1 la (by rw [wsOf_set (I2 := I2) (F2 := F2) _ hk (by rw [cellOf_obj hq hq6, hset]) hoth] at hP1; exact hP1) hS1 hl)
theorem fl_up {b k j q : Nat} {I : Mi} {F : Mr} {v : Int32} (h : (isr q)[j]? = some false) : (fl b (I k) (F k) 0 (isr q)).set j (.int v) = fl b (up I k j v k) (F k) 0 (isr q) := by
  obtain ⟨h1, h2⟩ := List.getElem?_eq_some_iff.mp h
  refine fl_ext h1 ?_ (fun x hx => ⟨?_, rfl⟩)
  · simp [h, up]
  · simp only [up]; rw [if_neg (by omega)]
theorem fl_ur {b k j q : Nat} {I : Mi} {F : Mr} {t : Nat} (h : (isr q)[j]? = some true) : (fl b (I k) (F k) 0 (isr q)).set j (.ref (b + t)) = fl b (I k) (ur F k j (some t) k) 0 (isr q) := by
  obtain ⟨h1, h2⟩ := List.getElem?_eq_some_iff.mp h
  refine fl_ext h1 ?_ (fun x hx => ⟨rfl, ?_⟩)
  · simp [h, ur, rr, va_rf]
  · simp only [ur]; rw [if_neg (by omega)]
theorem g_iald (C : Cx E own cc nL p s m args meth c) {k n : Nat} (ha : ar N k 7 n) {x : Int32} (hx : vp_in x n) (d : decode cc pc = .ok (.iaload, 1)) (kk : G E N nL p l e R s m args below meth c cells slots Q I F (pc + 1) ls (.int (I k (ix x)) :: st)) : G E N nL p l e R s m args below meth c cells slots Q I F pc ls (.int x :: rf E k :: st) := fun h hn H locs la hP hS hl => va_iald (D := E.1) (cl := vwCl) C.1 C.2.1 C.2.2.2.2.2.1 hP k 0 (by rw [wsOf_get ha.2, cellOf_int ha.1]) rfl hx d (kk h hn H locs la hP hS hl)
theorem g_cald (C : Cx E own cc nL p s m args meth c) {k n : Nat} (ha : ar N k 6 n) {x : Int32} (hx : vp_in x n) (d : decode cc pc = .ok (.caload, 1)) (kk : G E N nL p l e R s m args below meth c cells slots Q I F (pc + 1) ls (.int (I k (ix x)) :: st)) : G E N nL p l e R s m args below meth c cells slots Q I F pc ls (.int x :: rf E k :: st) := fun h hn H locs la hP hS hl => va_cald (D := E.1) (cl := vwCl) C.1 C.2.1 C.2.2.2.2.2.1 hP k 1 (by rw [wsOf_get ha.2, cellOf_chr ha.1]) rfl hx d (kk h hn H locs la hP hS hl)
theorem g_aald (C : Cx E own cc nL p s m args meth c) {k n : Nat} (ha : ar N k 8 n) {x : Int32} (hx : vp_in x n) {t : Nat} (hF : F k (ix x) = some t) (d : decode cc pc = .ok (.aaload, 1)) (kk : G E N nL p l e R s m args below meth c cells slots Q I F (pc + 1) ls (rf E t :: st)) : G E N nL p l e R s m args below meth c cells slots Q I F pc ls (.int x :: rf E k :: st) := fun h hn H locs la hP hS hl => va_aldq (D := E.1) (cl := vwCl) C.1 C.2.1 C.2.2.2.2.2.1 hP k 2 (by rw [wsOf_get ha.2, cellOf_ref ha.1]) rfl hx d (by rw [hF]; exact kk h hn H locs la hP hS hl)
theorem g_iast (C : Cx E own cc nL p s m args meth c) {k n : Nat} (ha : ar N k 7 n) {x v : Int32} (hx : vp_in x n) (d : decode cc pc = .ok (.iastore, 1)) (kk : G E N nL p l e R s m args below meth c cells slots Q (up I k (ix x) v) F (pc + 1) ls st) : G E N nL p l e R s m args below meth c cells slots Q I F pc ls (.int v :: .int x :: rf E k :: st) := fun h hn H locs la hP hS hl => va_iast (D := E.1) (cl := vwCl) C.1 C.2.1 C.2.2.2.2.2.1 hP (wsOf_D E N I F) hS k 0 (by rw [wsOf_get ha.2, cellOf_int ha.1]) rfl hx d (fun H1 locs1 hP1 hD1 hS1 => kk h hn H1 locs1 la (by rw [wsOf_set (I2 := up I k (ix x) v) (F2 := F) _ ha.2 (by rw [cellOf_int ha.1, up_at]) (fun y hy => ⟨up_ne hy, rfl⟩)] at hP1; exact hP1) hS1 hl)
theorem g_cast (C : Cx E own cc nL p s m args meth c) {k n : Nat} (ha : ar N k 6 n) {x v : Int32} (hx : vp_in x n) (hv : vp_nar .char v = v) (d : decode cc pc = .ok (.castore, 1)) (kk : G E N nL p l e R s m args below meth c cells slots Q (up I k (ix x) v) F (pc + 1) ls st) : G E N nL p l e R s m args below meth c cells slots Q I F pc ls (.int v :: .int x :: rf E k :: st) := fun h hn H locs la hP hS hl => va_cast (D := E.1) (cl := vwCl) C.1 C.2.1 C.2.2.2.2.2.1 hP (wsOf_D E N I F) hS k 1 (by rw [wsOf_get ha.2, cellOf_chr ha.1]) rfl hx d (fun H1 locs1 hP1 hD1 hS1 => kk h hn H1 locs1 la (by rw [hv, wsOf_set (I2 := up I k (ix x) v) (F2 := F) _ ha.2 (by rw [cellOf_chr ha.1, up_at]) (fun y hy => ⟨up_ne hy, rfl⟩)] at hP1; exact hP1) hS1 hl)
theorem g_aast (C : Cx E own cc nL p s m args meth c) {k n t : Nat} (ha : ar N k 8 n) (ht : ob N t 0) {x : Int32} (hx : vp_in x n) (d : decode cc pc = .ok (.aastore, 1)) (kk : G E N nL p l e R s m args below meth c cells slots Q I (ur F k (ix x) (some t)) (pc + 1) ls st) : G E N nL p l e R s m args below meth c cells slots Q I F pc ls (rf E t :: .int x :: rf E k :: st) := fun h hn H locs la hP hS hl => va_astq (D := E.1) (cl := vwCl) C.1 C.2.1 C.2.2.2.2.2.1 hP (wsOf_D E N I F) hS k 2 t 0 (by rw [wsOf_get ha.2, cellOf_ref ha.1]) rfl (by rw [wsOf_get ht.2, cellOf_obj ht.1 (by decide)]) (r := (RX0, TX0, 19)) rfl hx d (fun H1 locs1 hP1 hD1 hS1 => kk h hn H1 locs1 la (by rw [wsOf_set (I2 := I) (F2 := ur F k (ix x) (some t)) _ ha.2 (by rw [cellOf_ref ha.1, ur_at]; congr 7; funext y; simp only [va_up]; split <;> rfl) (fun y hy => ⟨rfl, ur_ne hy⟩)] at hP1; exact hP1) hS1 hl)
/-! contracts and calls -/
abbrev MD : Type := MethodName × ByteArray × Nat × Option FieldType × Room
def QC (E : EE) (N : Nat) (P : Option Value → Mi → Mr → Prop) : Array Value → State → Outcome → State → Prop := fun _ st o t => (∃ (r : Option Value) (I : Mi) (F : Mr), o = .returned r ∧ P r I F ∧ va_P E.1 vwCl (wsOf E N I F) t.heap) ∧ va_F (fun q => pb E ≤ q) st t
abbrev ws_ (M : MD) : List Cond := .code M.1 M.2.1 M.2.2.1 M.2.2.2.1 :: gw
def PC (E : EE) (N : Nat) (I : Mi) (F : Mr) (av : List Value) : Array Value → State → Prop := va_Pc av (fun U => U.heap.size = pb E + N ∧ va_P E.1 vwCl (wsOf E N I F) U.heap ∧ va_K E.1 vwCl (ptys E) U ∧ NW U)
def Ct (l : Launch) (E : EE) (M : MD) (av : List Value) (N : Nat) (I : Mi) (F : Mr) (N2 : Nat) (P : Option Value → Mi → Mr → Prop) : Prop := Met l M.1 (ws_ M) M.2.2.2.2 (PC E N I F av) (QC E N2 P) M.2.2.2.2.cells M.2.2.2.2.slots (fun q => pb E ≤ q)
theorem PC_blind {av : List Value} : FrameBlind (PC E N I F av) := fun a U g mk q => by
  obtain ⟨q0, q1, qP, qK, qN⟩ := q
  exact ⟨q0, q1, qP, va_K.moved (u := U) (U := U.calling g mk a) (Vm.Alike.refl U.vm) qK, NW.same (s := U) (U := U.calling g mk a) rfl qN⟩
/-- behind a call -/
theorem g_run {N2 mc ms : Nat} {P : Option Value → Mi → Mr → Prop} {rest : List Value} {a : Array Value} (hmc : N2 = N + mc)
    (hr : ∀ (H : Heap) (locs : List Loc) (la : Array Slot), H.size = pb E + N → va_P E.1 vwCl (wsOf E N I F) H → va_S (fun q => pb E ≤ q) s.heap H locs → la.size = nL → va_Run p l e R s m args below meth c H locs cells slots mc ms (F0 m pc la st) rest (QC E N2 P a) (fun q => pb E ≤ q))
    (hN : 0 < N ∨ cells = 0)
    (kk : ∀ (r : Option Value) (I2 : Mi) (F2 : Mr), P r I2 F2 → G E N2 nL p l e R s m args below meth c (cells + mc) (slots + ms) Q I2 F2 (pc + 3) ls (r.toList ++ rest)) : G E N nL p l e R s m args below meth c cells slots Q I F pc ls st := by
  intro h hn H locs la hP hS hl
  refine W_sz (fun hz => ?_)
  have hsz : H.size = pb E + N := by
    have h1 : pb E + N ≤ H.size := by
      rcases Nat.eq_zero_or_pos N with h0 | h0
      · have h3 := hS.1
        rcases hN with h2 | h2
        · omega
        · omega
      · have h2 := (hP (N - 1) _ (wsOf_get (by omega))).lt
        simp only at h2
        omega
    omega
  intro T hT X
  obtain ⟨v, st₀, t, T', L, h0, X', hL, e1, e2, ⟨⟨r, I2, F2, hv, hp, hb⟩, hz2, hk⟩, st9⟩ := hr H locs la hsz hP hS hl.1 T hT X
  cases hv
  rw [h0] at hz2 hk
  obtain ⟨t2, a1, b1⟩ := kk v I2 F2 hp (by omega) hn T'.heap (locs ++ L) la (by rw [e1]; exact hb)
    ⟨Nat.le_trans hS.1 (by rw [e1]; exact hz2), fun q h1 h2 => by rw [e1, hk q (Nat.lt_of_lt_of_le h1 hS.1) h2]; exact hS.2.1 q h1 h2, fun q hq => by
      rcases List.mem_append.mp hq with h | h
      · exact hS.2.2 q h
      · exact hL q h⟩ hl T' rfl X'
  exact ⟨t2, st9 t2 a1, b1⟩
/-- what a call needs of the tables: the callee's code, its class, its parameters -/
def VM (M : MD) (n : Nat) : Prop := Cond.code M.1 M.2.1 M.2.2.1 M.2.2.2.1 ∈ gw ∧ Cond.initialized M.1.cls ∈ gw ∧ (M.1.cls ≠ "java/lang/invoke/MethodHandle" ∧ M.1.cls ≠ "java/lang/invoke/VarHandle" ∧ (parseMethodDescriptor M.1.desc).map (fun d => d.parameters.length) = some n)
abbrev Fits (M : MD) (R : Room) (cells slots : Nat) : Prop := (M.2.2.2.2.frames + 1 ≤ R.frames ∧ 8 + (M.2.2.1 + 11) + M.2.2.2.2.locals ≤ R.locals) ∧ (cells + M.2.2.2.2.cells ≤ R.cells ∧ slots + M.2.2.2.2.slots ≤ R.slots)
theorem ws_in {M : MD} {n : Nat} (h : VM M n) : GoodIn gw (ws_ M) := gw_in (fun w hw => by
  rcases List.mem_cons.mp hw with rfl | hw
  · exact h.1
  · exact hw)
theorem cb_of (C : Cx E own cc nL p s m args meth c) {M : MD} {n idx : Nat} (h : VM M n) (hl : Cond.methodLink own idx M.1 ∈ gw) (hR : M.2.2.2.2.frames + 1 ≤ R.frames ∧ 8 + (M.2.2.1 + 11) + M.2.2.2.2.locals ≤ R.locals) : CallB R s args own idx M.1 M.2.1 M.2.2.1 M.2.2.2.1 (ws_ M) M.2.2.2.2 M.2.2.2.2.cells M.2.2.2.2.slots n :=
  callB_of (Ts := gw) n C.2.2.2.2.1 (ws_in h) rfl rfl rfl (C.2.2.2.2.1 _ h.2.1) (C.2.2.2.2.1 _ hl) h.2.2 hR
theorem cn_of (C : Cx E own cc nL p s m args meth c) {M : MD} {n idx : Nat} {host : String} (h : VM M n) (hl : Cond.methodLinkNest own idx M.1 host ∈ nw) (hR : M.2.2.2.2.frames + 1 ≤ R.frames ∧ 8 + (M.2.2.1 + 11) + M.2.2.2.2.locals ≤ R.locals) : va_CN R s args own idx M.1 host M.2.1 M.2.2.1 M.2.2.2.1 (ws_ M) M.2.2.2.2 M.2.2.2.2.cells M.2.2.2.2.slots n :=
  va_cnB (Ts := gw) n C.2.2.2.2.1 (ws_in h) rfl rfl rfl (C.2.2.2.2.2.2.2.1 _ hl) (C.2.2.2.2.1 _ h.2.1) h.2.2 hR
theorem pre_of (C : Cx E own cc nL p s m args meth c) {H : Heap} (hsz : H.size = pb E + N) (hP : va_P E.1 vwCl (wsOf E N I F) H) (av : List Value) : ∀ U : State, U.heap = H → s.WarmedH U.vm → PC E N I F av av.toArray U := fun U hU hW => ⟨rfl, by rw [hU]; exact hsz, by rw [hU]; exact hP, va_K.moved hW.alike C.2.2.2.2.2.1, NW.warm hW C.2.2.2.2.2.2.2⟩
theorem pk_recv (C : Cx E own cc nL p s m args meth c) {H : Heap} (hP : va_P E.1 vwCl (wsOf E N I F) H) {k q nf : Nat} {CN : String} {T : u_T} (hc : vwCl[q]? = some (CN, T, nf)) (hq6 : q < 6) (hob : ob N k q) : ∃ cell : Cell, H[pb E + k]? = some cell ∧ cell.vm.isStatics = false ∧ s.vm.findClass CN = some cell.cls := va_recv (q0 := k) (fs := fl (pb E) (I k) (F k) 0 (isr q)) (ci := q) C.2.2.2.2.2.1 hP hc (by rw [wsOf_get hob.2, cellOf_obj hob.1 hq6])

theorem g_callV (C : Cx E own cc nL p s m args meth c) {M : MD} {idx n k : Nat} {As rest : List Value} {N2 : Nat} {P : Option Value → Mi → Mr → Prop} (hM : Ct l E M (rf E k :: As) N I F N2 P) (hl : Cond.methodLink own idx M.1 ∈ gw) (hv : VM M n) {q nf : Nat} {CN : String} {T : u_T} (hc : vwCl[q]? = some (CN, T, nf)) (hq6 : q < 6) (hcn : M.1.cls = CN) (hob : ob N k q) (hinst : Cond.instanceMethod M.1 ∈ gw) (hsel : Cond.selects CN M.1 M.1 ∈ gw) (hfit : Fits M R cells slots) (hmc : N2 = N + M.2.2.2.2.cells) (hst : st = As.reverse ++ rf E k :: rest) (hlen : As.length = n) (hcat : (rest.map fun v => v.category).sum ≤ 8) (hN : 0 < N ∨ cells = 0) (d : decode cc pc = .ok (.invokevirtual idx, 3)) (kk : ∀ (r : Option Value) (I2 : Mi) (F2 : Mr), P r I2 F2 → G E N2 nL p l e R s m args below meth c (cells + M.2.2.2.2.cells) (slots + M.2.2.2.2.slots) Q I2 F2 (pc + 3) ls (r.toList ++ rest)) : G E N nL p l e R s m args below meth c cells slots Q I F pc ls st := g_run (a := (Value.ref (pb E + k) :: As).toArray) hmc (fun H locs la hz hP hS hsz => va_runV (C := CN) ⟨C.1, C.2.1, C.2.2.1, C.2.2.2.1, C.2.2.2.2.1⟩ hM ⟨cb_of C hv hl hfit.1, C.2.2.2.2.1 _ hinst, C.2.2.2.2.1 _ hsel⟩ ⟨PC_blind, pk_recv C hP hc hq6 hob, pre_of C hz hP _⟩ rfl hlen hsz (by subst hst; rfl) (lv_room hcat) d hfit.2) hN kk
theorem g_callVN {host : String} (C : Cx E own cc nL p s m args meth c) {M : MD} {idx n k : Nat} {As rest : List Value} {N2 : Nat} {P : Option Value → Mi → Mr → Prop} (hM : Ct l E M (rf E k :: As) N I F N2 P) (hl : Cond.methodLinkNest own idx M.1 host ∈ nw) (hv : VM M n) {q nf : Nat} {CN : String} {T : u_T} (hc : vwCl[q]? = some (CN, T, nf)) (hq6 : q < 6) (hcn : M.1.cls = CN) (hob : ob N k q) (hinst : Cond.instanceMethod M.1 ∈ gw) (hsel : Cond.selects CN M.1 M.1 ∈ gw) (hfit : Fits M R cells slots) (hmc : N2 = N + M.2.2.2.2.cells) (hst : st = As.reverse ++ rf E k :: rest) (hlen : As.length = n) (hcat : (rest.map fun v => v.category).sum ≤ 8) (hN : 0 < N ∨ cells = 0) (d : decode cc pc = .ok (.invokevirtual idx, 3)) (kk : ∀ (r : Option Value) (I2 : Mi) (F2 : Mr), P r I2 F2 → G E N2 nL p l e R s m args below meth c (cells + M.2.2.2.2.cells) (slots + M.2.2.2.2.slots) Q I2 F2 (pc + 3) ls (r.toList ++ rest)) : G E N nL p l e R s m args below meth c cells slots Q I F pc ls st := g_run (a := (Value.ref (pb E + k) :: As).toArray) hmc (fun H locs la hz hP hS hsz => va_runVN (C := CN) ⟨C.1, C.2.1, C.2.2.1, C.2.2.2.1, C.2.2.2.2.1⟩ hM ⟨cn_of C hv hl hfit.1, C.2.2.2.2.1 _ hinst, C.2.2.2.2.1 _ hsel⟩ ⟨PC_blind, pk_recv C hP hc hq6 hob, pre_of C hz hP _⟩ rfl hlen hsz (by subst hst; rfl) (lv_room hcat) d hfit.2) hN kk
theorem g_callS (C : Cx E own cc nL p s m args meth c) {M : MD} {idx n : Nat} {As rest : List Value} {N2 : Nat} {P : Option Value → Mi → Mr → Prop} (hM : Ct l E M (As) N I F N2 P) (hl : Cond.methodLink own idx M.1 ∈ gw) (hv : VM M n) (hstat : Cond.static M.1 ∈ gw) (hfit : Fits M R cells slots) (hmc : N2 = N + M.2.2.2.2.cells) (hst : st = As.reverse ++ rest) (hlen : As.length = n) (hcat : (rest.map fun v => v.category).sum ≤ 8) (hN : 0 < N ∨ cells = 0) (d : decode cc pc = .ok (.invokestatic idx, 3)) (kk : ∀ (r : Option Value) (I2 : Mi) (F2 : Mr), P r I2 F2 → G E N2 nL p l e R s m args below meth c (cells + M.2.2.2.2.cells) (slots + M.2.2.2.2.slots) Q I2 F2 (pc + 3) ls (r.toList ++ rest)) : G E N nL p l e R s m args below meth c cells slots Q I F pc ls st := g_run (a := As.toArray) hmc (fun H locs la hz hP hS hsz => va_runS ⟨C.1, C.2.1, C.2.2.1, C.2.2.2.1, C.2.2.2.2.1⟩ hM ⟨cb_of C hv hl hfit.1, C.2.2.2.2.1 _ hstat⟩ ⟨PC_blind, pre_of C hz hP _⟩ rfl hlen hsz (by subst hst; rfl) (lv_room hcat) d hfit.2) hN kk
theorem g_callSN {host : String} (C : Cx E own cc nL p s m args meth c) {M : MD} {idx n : Nat} {As rest : List Value} {N2 : Nat} {P : Option Value → Mi → Mr → Prop} (hM : Ct l E M (As) N I F N2 P) (hl : Cond.methodLinkNest own idx M.1 host ∈ nw) (hv : VM M n) (hstat : Cond.static M.1 ∈ gw) (hfit : Fits M R cells slots) (hmc : N2 = N + M.2.2.2.2.cells) (hst : st = As.reverse ++ rest) (hlen : As.length = n) (hcat : (rest.map fun v => v.category).sum ≤ 8) (hN : 0 < N ∨ cells = 0) (d : decode cc pc = .ok (.invokestatic idx, 3)) (kk : ∀ (r : Option Value) (I2 : Mi) (F2 : Mr), P r I2 F2 → G E N2 nL p l e R s m args below meth c (cells + M.2.2.2.2.cells) (slots + M.2.2.2.2.slots) Q I2 F2 (pc + 3) ls (r.toList ++ rest)) : G E N nL p l e R s m args below meth c cells slots Q I F pc ls st := g_run (a := As.toArray) hmc (fun H locs la hz hP hS hsz => va_runSN ⟨C.1, C.2.1, C.2.2.1, C.2.2.2.1, C.2.2.2.2.1⟩ hM ⟨cn_of C hv hl hfit.1, C.2.2.2.2.1 _ hstat, trivial⟩ ⟨PC_blind, pre_of C hz hP _⟩ rfl hlen hsz (by subst hst; rfl) (lv_room hcat) d hfit.2) hN kk
theorem g_callI (C : Cx E own cc nL p s m args meth c) {M : MD} {idx n k : Nat} {As rest : List Value} {N2 : Nat} {P : Option Value → Mi → Mr → Prop} (hM : Ct l E M (rf E k :: As) N I F N2 P) (hl : Cond.methodLink own idx M.1 ∈ gw) (hv : VM M n) (hret : M.2.2.2.1 = none) (hname : M.1.name = "<init>") (hinst : Cond.instanceMethod M.1 ∈ gw) (hfit : Fits M R cells slots) (hmc : N2 = N + M.2.2.2.2.cells) (hst : st = As.reverse ++ rf E k :: rest) (hlen : As.length = n) (hcat : (rest.map fun v => v.category).sum ≤ 8) (hN : 0 < N ∨ cells = 0) (d : decode cc pc = .ok (.invokespecial idx, 3)) (kk : ∀ (r : Option Value) (I2 : Mi) (F2 : Mr), P r I2 F2 → G E N2 nL p l e R s m args below meth c (cells + M.2.2.2.2.cells) (slots + M.2.2.2.2.slots) Q I2 F2 (pc + 3) ls (r.toList ++ rest)) : G E N nL p l e R s m args below meth c cells slots Q I F pc ls st := g_run (a := (Value.ref (pb E + k) :: As).toArray) hmc (fun H locs la hz hP hS hsz => va_runI ⟨C.1, C.2.1, C.2.2.1, C.2.2.2.1, C.2.2.2.2.1⟩ hM ⟨hret ▸ cb_of C hv hl hfit.1, hname, C.2.2.2.2.1 _ hinst⟩ ⟨PC_blind, pre_of C hz hP _⟩ rfl hlen hsz (by subst hst; rfl) (lv_room hcat) d hfit.2) hN kk
theorem g_callIN {host : String} (C : Cx E own cc nL p s m args meth c) {M : MD} {idx n k : Nat} {As rest : List Value} {N2 : Nat} {P : Option Value → Mi → Mr → Prop} (hM : Ct l E M (rf E k :: As) N I F N2 P) (hl : Cond.methodLinkNest own idx M.1 host ∈ nw) (hv : VM M n) (hret : M.2.2.2.1 = none) (hname : M.1.name = "<init>") (hinst : Cond.instanceMethod M.1 ∈ gw) (hfit : Fits M R cells slots) (hmc : N2 = N + M.2.2.2.2.cells) (hst : st = As.reverse ++ rf E k :: rest) (hlen : As.length = n) (hcat : (rest.map fun v => v.category).sum ≤ 8) (hN : 0 < N ∨ cells = 0) (d : decode cc pc = .ok (.invokespecial idx, 3)) (kk : ∀ (r : Option Value) (I2 : Mi) (F2 : Mr), P r I2 F2 → G E N2 nL p l e R s m args below meth c (cells + M.2.2.2.2.cells) (slots + M.2.2.2.2.slots) Q I2 F2 (pc + 3) ls (r.toList ++ rest)) : G E N nL p l e R s m args below meth c cells slots Q I F pc ls st := g_run (a := (Value.ref (pb E + k) :: As).toArray) hmc (fun H locs la hz hP hS hsz => va_runIN ⟨C.1, C.2.1, C.2.2.1, C.2.2.2.1, C.2.2.2.2.1⟩ hM ⟨hret ▸ cn_of C hv hl hfit.1, hname, C.2.2.2.2.1 _ hinst⟩ ⟨PC_blind, pre_of C hz hP _⟩ rfl hlen hsz (by subst hst; rfl) (lv_room hcat) d hfit.2) hN kk
theorem g_iret (C : Cx E own cc nL p s m args meth c) {P : Option Value → Mi → Mr → Prop} {v : Int32} (hr : meth.sig.returnType = some .int) (d : decode cc pc = .ok (.ireturn, 1)) (hp : P (some (.int v)) I F) : G E N nL p l e R s m args below meth c cells slots (MQ below (QC E N P) args s cells slots (fun q => pb E ≤ q)) I F pc ls  [.int v] := fun h hn H locs la hP hS hl => W.iret C.1 C.2.1 hr (fun t ht hW => ⟨⟨_, I, F, rfl, hp, by rw [ht]; exact hP⟩, hS.F ht⟩) hS.2.2 d C.2.2.2.2.2.2.1
theorem g_zret (C : Cx E own cc nL p s m args meth c) {P : Option Value → Mi → Mr → Prop} {v : Int32} (hr : meth.sig.returnType = some .boolean) (hv : v = 0 ∨ v = 1) (d : decode cc pc = .ok (.ireturn, 1)) (hp : P (some (.int v)) I F) : G E N nL p l e R s m args below meth c cells slots (MQ below (QC E N P) args s cells slots (fun q => pb E ≤ q)) I F pc ls  [.int v] := fun h hn H locs la hP hS hl => W.zret C.1 C.2.1 hr (by rcases hv with rfl | rfl <;> rfl) (fun t ht hW => ⟨⟨_, I, F, rfl, hp, by rw [ht]; exact hP⟩, hS.F ht⟩) hS.2.2 d C.2.2.2.2.2.2.1
theorem g_vret (C : Cx E own cc nL p s m args meth c) {P : Option Value → Mi → Mr → Prop} (hr : meth.sig.returnType = none) (d : decode cc pc = .ok (.return_, 1)) (hp : P none I F) : G E N nL p l e R s m args below meth c cells slots (MQ below (QC E N P) args s cells slots (fun q => pb E ≤ q)) I F pc ls  [] := fun h hn H locs la hP hS hl => W.vret C.1 C.2.1 hr (fun t ht hW => ⟨⟨_, I, F, rfl, hp, by rw [ht]; exact hP⟩, hS.F ht⟩) hS.2.2 d C.2.2.2.2.2.2.1
theorem g_aret (C : Cx E own cc nL p s m args meth c) {P : Option Value → Mi → Mr → Prop} {v : Value} {nm : String} (hr : meth.sig.returnType = some (.object nm)) (hv : v = .null ∨ ∃ a, v = .ref a) (d : decode cc pc = .ok (.areturn, 1)) (hp : P (some v) I F) : G E N nL p l e R s m args below meth c cells slots (MQ below (QC E N P) args s cells slots (fun q => pb E ≤ q)) I F pc ls  [v] := fun h hn H locs la hP hS hl => W.aret C.1 C.2.1 hr (Or.inl ⟨_, rfl⟩) hv (fun t ht hW => ⟨⟨_, I, F, rfl, hp, by rw [ht]; exact hP⟩, hS.F ht⟩) hS.2.2 d C.2.2.2.2.2.2.1
end PK
/-- the locals at a method's entry -/
def la0 : List Value → List (Option Value)
  | [] => []
  | v :: t => if v.category = 2 then some v :: none :: la0 t else some v :: la0 t
theorem la0_lo : ∀ (vs : List Value) (i : Nat), lv_args i vs = lo i (la0 vs)
  | [], i => rfl
  | v :: t, i => by
    by_cases h : v.category = 2
    · simp [lv_args, la0, h, lo, la0_lo t (i + 2)]
    · simp [lv_args, la0, h, lo, la0_lo t (i + 1)]
theorem lo_rep (n : Nat) : ∀ i : Nat, lo i (List.replicate n none) = [] := by
  induction n with
  | zero => intro i; rfl
  | succ n ih => intro i; rw [List.replicate_succ]; exact ih (i + 1)
theorem lo_app : ∀ (a b : List (Option Value)) (i : Nat), lo i (a ++ b) = lo i a ++ lo (i + a.length) b
  | [], b, i => by simp [lo]
  | none :: t, b, i => by simp [lo, lo_app t b (i + 1)]; congr 1; omega
  | some v :: t, b, i => by simp [lo, lo_app t b (i + 1)]; congr 1; omega
theorem la0_len : ∀ vs : List Value, (lg_sl vs).length = (la0 vs).length
  | [] => rfl
  | v :: t => by
    have := la0_len t
    by_cases h : v.category = 2
    · simp [lg_sl, la0, h] at this ⊢; omega
    · simp [lg_sl, la0, h] at this ⊢; omega
set_option maxHeartbeats 1000000 in
/-- a contract out of a walk from the entry -/
theorem Ct_of {l : Launch} {E : EE} {M : MD} {av : List Value} {N : Nat} {I : Mi} {F : Mr} {N2 : Nat} {P : Option Value → Mi → Mr → Prop} (hpl : plainName M.1.cls = true) (hmc : N2 = N + M.2.2.2.2.cells) (hle : (la0 av).length ≤ M.2.2.1)
    (body : ∀ (p : Program) (e : Env) (s : State) (m : MethodId) (args : Array Value) (below : List Frame) (meth : Method) (c : Code), Cx E M.1.cls M.2.1 M.2.2.1 p s m args meth c → meth.sig.returnType = M.2.2.2.1 → meth.name = M.1.name → G E N M.2.2.1 p l e M.2.2.2.2 s m args below meth c 0 0 (MQ below (QC E N2 P) args s M.2.2.2.2.cells M.2.2.2.2.slots (fun q => pb E ≤ q)) I F 0 (la0 av ++ List.replicate (M.2.2.1 - (la0 av).length) none) []) : Ct l E M av N I F N2 P := by
  refine Met.ofW (cc := M.2.1) (maxL := M.2.2.1) (ret := M.2.2.2.1) hpl rfl ?_
  intro p e s m args below meth c s₁ B hml hv
  obtain ⟨rfl, hsz, hP, hK, hNW⟩ := hv
  have hts := atoms_spec (ws := ws_ M) B.pre
  have hown : s.vm.findClass M.1.cls = some m.cls := findClass_of_methodNamed B.named
  have hl := lv_entry av (n := M.2.2.1) (by rw [la0_len]; exact hle)
  rw [lg_entry_eq]
  rw [la0_lo, show lo 0 (la0 av) = lo 0 (la0 av ++ List.replicate (M.2.2.1 - (la0 av).length) none) by rw [lo_app, lo_rep, List.append_nil]] at hl
  exact body p e s m _ below meth c ⟨B.exec, B.bytes, hml, hown, fun w hw => hts w (List.mem_cons_of_mem _ hw), hK, B.notSynchronized, hNW⟩ B.returns (name_of_methodNamed B.named B.method).1 (by omega) (by simp; omega) s.heap [] _ hP va_S.rf hl
