/-! new cells -/
def zI (I : Mi) (N : Nat) : Mi := fun k => if k = N then fun _ => 0 else I k
def zF (F : Mr) (N : Nat) : Mr := fun k => if k = N then fun _ => none else F k
theorem new_at {E : EE} {N : Nat} {I : Mi} {F : Mr} {q : Nat} {e : va_E} (hq : q ≤ pb E + N) (hD : va_D (fun q => pb E ≤ q) (wsOf E N I F ++ [(q, e)])) : q = pb E + N := by
  have hlast : (wsOf E N I F ++ [(q, e)])[N]? = some (q, e) := by
    rw [List.getElem?_append_right (by rw [wsOf_len]; exact Nat.le_refl _), wsOf_len, Nat.sub_self]; rfl
  have h0 : pb E ≤ q := hD.2 N _ hlast
  rcases Nat.lt_or_ge q (pb E + N) with h | h
  · have h1 : (wsOf E N I F ++ [(q, e)])[q - pb E]? = some (pb E + (q - pb E), cellOf E I F (q - pb E)) := by
      rw [List.getElem?_append_left (by rw [wsOf_len]; omega)]
      exact wsOf_get (by omega)
    have := hD.1 (q - pb E) N _ _ h1 hlast (by show pb E + (q - pb E) = q; omega)
    omega
  · omega

theorem wsOf_z (E : EE) (N : Nat) (I : Mi) (F : Mr) : wsOf E N I F = wsOf E N (zI I N) (zF F N) := by
  unfold wsOf
  refine List.map_congr_left fun k hk => ?_
  have hk := List.mem_range.mp hk
  have h1 : zI I N k = I k := if_neg (by omega)
  have h2 : zF F N k = F k := if_neg (by omega)
  unfold cellOf
  rw [h1, h2]
theorem wsOf_new {E : EE} {N : Nat} {I : Mi} {F : Mr} {q : Nat} {e : va_E} (hq : q = pb E + N) (he : e = cellOf E (zI I N) (zF F N) N) : wsOf E N I F ++ [(q, e)] = wsOf E (N + 1) (zI I N) (zF F N) := by
  subst hq
  rw [wsOf_z]
  exact wsOf_push e he
theorem va_P_last {D : va_G} {cl : List vw_C} {ws : va_W} {q : Nat} {e : va_E} {H : Heap} (h : va_P D cl (ws ++ [(q, e)]) H) : q < H.size := by
  have := h ws.length (q, e) (by rw [List.getElem?_append_right (Nat.le_refl _), Nat.sub_self]; rfl)
  exact this.lt
section NEW
variable {E : EE} {N nL : Nat} {own : String} {cc : ByteArray} {p : Program} {l : Launch} {e : Env} {R : Room} {s : State} {m : MethodId} {args : Array Value} {below : List Frame} {meth : Method} {c : Code} {cells slots : Nat} {Q : State → Prop} {I : Mi} {F : Mr} {pc : Nat} {ls : List (Option Value)} {st : List Value}
theorem g_newI (C : Cx E own cc nL p s m args meth c) {n : Nat} {nv : Int32} (hk : kd N = (7, n)) (hn : ¬ nv < 0) (hN : nv.toNatClampNeg = n) (hb : n * 4 ≤ 536870912) (harr : Cond.arrayClass .int ∈ gw) (hcells : cells + 1 ≤ R.cells) (hslots : slots + n ≤ R.slots) (hcN : cells ≤ N) (d : decode cc pc = .ok (.newarray .int, 2))
    (k : G E (N + 1) nL p l e R s m args below meth c (cells + 1) (slots + n) Q (zI I N) (zF F N) (pc + 2) ls (.ref (pb E + N) :: st)) : G E N nL p l e R s m args below meth c cells slots Q I F pc ls (.int nv :: st) := fun h hnl H locs la hP hS hl =>
  va_newa (A := fun q => pb E ≤ q) (a0 := (n, .inl (fun _ => 0))) C.1 C.2.1 (atype := .int) (C.2.2.2.2.1 (.arrayClass .int) harr) (ty := .int) rfl C.2.2.2.2.2.1 hP (wsOf_D E N I F) hS (fun q hq => by show pb E ≤ q; omega) (fun cA => by rfl) hn hN hb hcells hslots d (fun q cA H1 hK1 hP1 hD1 hS1 => W_sz fun hz => by
    have hq : q = pb E + N := new_at (by have := va_P_last hP1; omega) hD1
    have hcA : cA = E.2.1.1 := by
      have h1 := (hK1.2 3 (cA, .int) rfl).2
      have h2 := (hK1.2 0 (E.2.1.1, .int) rfl).2
      exact Option.some.inj (h1.symm.trans h2)
    subst hcA
    rw [wsOf_new hq (by unfold cellOf; rw [hk, show zI I N N = (fun _ => 0) from if_pos rfl]; rfl)] at hP1
    subst hq
    exact k (by omega) hnl H1 locs la hP1 hS1 hl)
theorem g_newC (C : Cx E own cc nL p s m args meth c) {n : Nat} {nv : Int32} (hk : kd N = (6, n)) (hn : ¬ nv < 0) (hN : nv.toNatClampNeg = n) (hb : n * 2 ≤ 536870912) (harr : Cond.arrayClass .char ∈ gw) (hcells : cells + 1 ≤ R.cells) (hslots : slots + n ≤ R.slots) (hcN : cells ≤ N) (d : decode cc pc = .ok (.newarray .char, 2))
    (k : G E (N + 1) nL p l e R s m args below meth c (cells + 1) (slots + n) Q (zI I N) (zF F N) (pc + 2) ls (.ref (pb E + N) :: st)) : G E N nL p l e R s m args below meth c cells slots Q I F pc ls (.int nv :: st) := fun h hnl H locs la hP hS hl =>
  va_newa (A := fun q => pb E ≤ q) (a0 := (n, .inl (fun _ => 0))) C.1 C.2.1 (atype := .char) (C.2.2.2.2.1 (.arrayClass .char) harr) (ty := .char) rfl C.2.2.2.2.2.1 hP (wsOf_D E N I F) hS (fun q hq => by show pb E ≤ q; omega) (fun cA => by rfl) hn hN hb hcells hslots d (fun q cA H1 hK1 hP1 hD1 hS1 => W_sz fun hz => by
    have hq : q = pb E + N := new_at (by have := va_P_last hP1; omega) hD1
    have hcA : cA = E.2.1.2.1 := by
      have h1 := (hK1.2 3 (cA, .char) rfl).2
      have h2 := (hK1.2 1 (E.2.1.2.1, .char) rfl).2
      exact Option.some.inj (h1.symm.trans h2)
    subst hcA
    rw [wsOf_new hq (by unfold cellOf; rw [hk, show zI I N N = (fun _ => 0) from if_pos rfl]; rfl)] at hP1
    subst hq
    exact k (by omega) hnl H1 locs la hP1 hS1 hl)
theorem g_new (C : Cx E own cc nL p s m args meth c) {ci nf index : Nat} {CN : String} {T : u_T} (hc : vwCl[ci]? = some (CN, T, nf)) (hin : ∀ w ∈ u_ws CN T nf, w ∈ gw) (ty : Nat → FieldType) (hty : ∀ k, k < nf → parseFieldDescriptor (T k).2.2.1 = some (ty k)) (hci : ci < 6) (hk : (kd N).1 = ci) (hcl : Cond.classLink own index CN ∈ gw) (hinst : Cond.instantiable CN nf ∈ gw) (hini : Cond.initialized CN ∈ gw) (hfs : ∀ j, j < nf → defaultValue (ty j) = vp_V (fl (pb E) (fun _ => 0) (fun _ => none) 0 (isr ci)) j) (hcells : cells + 1 ≤ R.cells) (hslots : slots + nf ≤ R.slots) (hcN : cells ≤ N) (d : decode cc pc = .ok (.new index, 3))
    (k : G E (N + 1) nL p l e R s m args below meth c (cells + 1) (slots + nf) Q (zI I N) (zF F N) (pc + 3) ls (.ref (pb E + N) :: st)) : G E N nL p l e R s m args below meth c cells slots Q I F pc ls st := fun h hnl H locs la hP hS hl =>
  va_new (A := fun q => pb E ≤ q) C.1 C.2.1 (Ts := gw) C.2.2.2.2.1 hin ty hty C.2.2.2.1 (C.2.2.2.2.1 _ hcl) (C.2.2.2.2.1 _ hinst) (C.2.2.2.2.1 _ hini) C.2.2.2.2.2.1 hP (wsOf_D E N I F) hS (fun q hq => by show pb E ≤ q; omega) hc hfs hcells hslots d (fun q H1 hP1 hD1 hS1 => W_sz fun hz => by
    have hq : q = pb E + N := new_at (by have := va_P_last hP1; omega) hD1
    rw [wsOf_new hq (by rw [cellOf_obj hk hci]; unfold zI zF; rw [if_pos rfl, if_pos rfl])] at hP1
    subst hq
    exact k (by omega) hnl H1 locs la hP1 hS1 hl)
theorem g_newQ (C : Cx E own cc nL p s m args meth c) {n index : Nat} {nv : Int32} (hk : kd N = (8, n)) (hn : ¬ nv < 0) (hN : nv.toNatClampNeg = n) (hb : n * 4 ≤ 536870912) (hcl : Cond.classLink own index RX0 ∈ gw) (hcells : cells + 1 ≤ R.cells) (hslots : slots + n ≤ R.slots) (hcN : cells ≤ N) (d : decode cc pc = .ok (.anewarray index, 3))
    (k : G E (N + 1) nL p l e R s m args below meth c (cells + 1) (slots + n) Q (zI I N) (zF F N) (pc + 3) ls (.ref (pb E + N) :: st)) : G E N nL p l e R s m args below meth c cells slots Q I F pc ls (.int nv :: st) := fun h hnl H locs la hP hS hl =>
  va_newq (A := fun q => pb E ≤ q) (C := RX0) C.1 C.2.1 C.2.2.2.1 (C.2.2.2.2.1 _ hcl) C.2.2.2.2.2.2.2.2 C.2.2.2.2.2.1 hP (wsOf_D E N I F) hS (fun q hq => by show pb E ≤ q; omega) hn hN hb hcells hslots d (fun q cA H1 hK1 hP1 hD1 hS1 => W_sz fun hz => by
    have hq : q = pb E + N := new_at (by have := va_P_last hP1; omega) hD1
    have hcA : cA = E.2.1.2.2 := by
      obtain ⟨_, _, _, _, _, h1⟩ := (hK1.2 3 (cA, .object RX0) rfl).2
      obtain ⟨_, _, _, _, _, h2⟩ := (hK1.2 2 (E.2.1.2.2, .object RX0) rfl).2
      exact Option.some.inj (h1.symm.trans h2)
    subst hcA
    rw [wsOf_new hq (by unfold cellOf; rw [hk, show zF F N N = (fun _ => none) from if_pos rfl]; rfl)] at hP1
    subst hq
    exact k (by omega) hnl H1 locs la hP1 hS1 hl)
theorem g_objI (C : Cx E own cc nL p s m args meth c) {idx a : Nat} (hlink : Cond.methodLink own idx Lib.objectInit ∈ gw) (hinst : Cond.instanceMethod Lib.objectInit ∈ gw) (hcode : Cond.code Lib.objectInit ⟨#[0xb1]⟩ 1 none ∈ gw) (hfr : 1 ≤ R.frames) (hlo : (st.map fun v => v.category).sum + 12 ≤ R.locals) (d : decode cc pc = .ok (.invokespecial idx, 3))
    (k : G E N nL p l e R s m args below meth c cells slots Q I F (pc + 3) ls st) : G E N nL p l e R s m args below meth c cells slots Q I F pc ls (.ref a :: st) := fun h hnl H locs la hP hS hl =>
  W.objInit C.1 C.2.1 C.2.2.2.1 (C.2.2.2.2.1 _ hlink) (C.2.2.2.2.1 _ hinst) (C.2.2.2.2.1 _ hcode) rfl (by rw [C.2.2.1]; exact hl.1) rfl d hfr (by show 2 * 0 + _ + 12 ≤ _; omega) (k h hnl H locs la hP hS hl)
end NEW

