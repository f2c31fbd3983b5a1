/-! THE CLAIM OUT OF ONE WALK OF THE LAW'S BODY. Your part is whole_start (and what it stands on); all else here is the same for every law, but numbers. -/
def R_law : String := "SleepingIslandsLaw"
def lw_P (b : Addr) (xs : List Int32) (args : Array Value) (s : State) : Prop := args = #[.ref b] ∧ s.IntsAt b xs ∧ xs.length ≤ 2560 ∧ (Jvm.Cond.and given_1 narrow_1).before args s = true
def lw_Q (_ : Array Value) (s : State) (o : Outcome) (t : State) : Prop := o = .returned (some (.int 1)) ∧ Framed s o t [] 600000 7302250
def lw_Z (below : List Frame) (a : Array Value) (s : State) : State → Prop := fun t => ∃ o, t.status = .running ∧ Ended t below o ∧ lw_Q a s o t
/-- the law's own end, with 1 on the stack, nothing written that was there before, its room as the claim has it -/
theorem lw_ret {p : Program} {l : Launch} {e : Env} {s : State} {m : MethodId} {below : List Frame} {meth : Method} {c : Code} {b : Nat} (hx : p.tables.exec = Jvm.exec) (hb : c.code = code) (hr : meth.sig.returnType = ret) (hlocks : meth.locks = false) {pc : Nat} {H : Heap} {ls : Array Slot} (hdg : decode code pc = .ok (.ireturn, 1)) : W p l e room_1 s m #[Value.ref b] below meth c H [] 600000 7302250 (lw_Z below #[Value.ref b] s) (F0 m pc ls [.int 1]) := by
  intro T hT X
  obtain ⟨fs, hret, hrun, hended, hW, hframe⟩ := X.leave (v := some (.int 1)) (hlocks := hlocks) (fun h => by rw [hr] at h; cases h)
  have hmeth' : T.vm.method? m = some meth := X.method'
  refine ⟨T.setFrames fs, ?_, .returned (some (.int 1)), hrun, hended, rfl, ⟨_, rfl⟩, hW, hframe⟩
  jvm_step X.here [X.here.top, hx, hb, hdg, hmeth', hr, ret, narrow_b1]
  (try refine ⟨rfl, ?_⟩); (try refine ⟨rfl, ?_⟩)
  first | (intro acts; rw [hret _ acts rfl rfl rfl]) | rw [hret _ _ rfl rfl rfl]
  exact Steps.refl _
/-- what holds at the law's entry: the machine, the code, the tables' words (any of lw_tbl by 'hts w (by decide +kernel)'), the script of L ints xs at the cell b, what the Statement gives of the start (any of its parts by flat_of_before) -/
def lw_At (p : Program) (s : State) (m : MethodId) (meth : Method) (c : Code) (b L : Nat) (xs : Nat → Int32) : Prop :=
  p.tables.exec = Jvm.exec ∧ c.code = code ∧ meth.sig.returnType = ret ∧ c.maxLocals = 4 ∧ s.vm.findClass R_law = some m.cls ∧ (∀ w ∈ lw_tbl, w.before #[Value.ref b] s = true) ∧ va_X b L xs s s.heap ∧ b < s.heap.size ∧ meth.locks = false ∧ (Jvm.Cond.and given_1 narrow_1).before #[Value.ref b] s = true
/-! rows on the law's script; a test of an int made a boolean -/
section SCR
variable {E : EE} {N nL : Nat} {own : String} {cc : ByteArray} {p : Program} {l : Launch} {e : Env} {R : Room} {s : State} {m : MethodId} {args : Array Value} {below : List Frame} {meth : Method} {c : Code} {cells slots : Nat} {Q : State → Prop} {I : Mi} {F : Mr} {pc : Nat} {ls : List (Option Value)} {st : List Value} {b L : Nat} {xs : Nat → Int32}
theorem g_sld (C : Cx E own cc nL p s m args meth c) (hX : va_X b L xs s s.heap) (hbl : b < s.heap.size) (hE : pb E = s.heap.size) {x : Int32} {j : Nat} (hx : x = nI j) (hj : j < L) (hL : L < 2147483648) (d : decode cc pc = .ok (.iaload, 1)) (kk : G E N nL p l e R s m args below meth c cells slots Q I F (pc + 1) ls (.int (xs j) :: st)) : G E N nL p l e R s m args below meth c cells slots Q I F pc ls (.int x :: .ref b :: st) := fun h hn H locs la hP hS hl => by
  subst hx
  have e : (nI j).toNatClampNeg = j := nI_clamp (by omega)
  exact va_sld C.1 C.2.1 hX hbl (fun z => by have z : pb E ≤ b := z; omega) hS (vp_in_nI hj hL) d (by rw [e]; exact kk h hn H locs la hP hS hl)
theorem g_slen (C : Cx E own cc nL p s m args meth c) (hX : va_X b L xs s s.heap) (hbl : b < s.heap.size) (hE : pb E = s.heap.size) (d : decode cc pc = .ok (.arraylength, 1)) (kk : G E N nL p l e R s m args below meth c cells slots Q I F (pc + 1) ls (.int (nI L) :: st)) : G E N nL p l e R s m args below meth c cells slots Q I F pc ls (.ref b :: st) := fun h hn H locs la hP hS hl =>
  va_slen C.1 C.2.1 hX hbl (fun z => by have z : pb E ≤ b := z; omega) hS d (kk h hn H locs la hP hS hl)
theorem g_if_eq_j (C : Cx E own cc nL p s m args meth c) {x : Int32} {off off2 : Int} (d : decode cc pc = .ok (.ifCond .eq off, 3)) (d1 : decode cc (pc + 3) = .ok (.iconst 1, 1)) (d2 : decode cc (pc + 4) = .ok (.goto off2, 3)) (d3 : decode cc (pc + 7) = .ok (.iconst 0, 1)) (kk : G E N nL p l e R s m args below meth c cells slots Q I F (pc + 8) ls (.int (bi (decide (¬ x = 0))) :: st)) (h1 : off = 7 := by decide) (h2 : off2 = 4 := by decide) : G E N nL p l e R s m args below meth c cells slots Q I F pc ls (.int x :: st) := by
  subst h1 h2
  refine g_if_eq C (tgt := pc + 7) d (by omega) (fun q => ?_) (fun q => ?_)
  · refine g_iconst C (v := 0) d3 (by decide) ?_
    exact G_cast kk rfl rfl rfl (by simp [q, bi])
  · refine g_iconst C (v := 1) d1 (by decide) ?_
    refine g_goto C (tgt := pc + 8) d2 (by omega) ?_
    exact G_cast kk rfl rfl rfl (by simp [q, bi])
theorem len_lt {L j : Nat} (hL : L ≤ 2560) (hj : j ≤ 3000) : (nI L - 5 < nI j) ↔ L < j + 5 := by
  rcases Nat.lt_or_ge L 5 with q | q
  · refine ⟨fun _ => by omega, fun _ => ?_⟩
    have h : ∀ L, L < 5 → (nI L - 5).toInt < 0 := by decide
    rw [Int32.lt_iff_toInt_lt, nI_toInt (by omega)]
    have := h L q
    omega
  · obtain ⟨k, rfl⟩ : ∃ k, L = k + 5 := ⟨L - 5, by omega⟩
    have e : nI (k + 5) - 5 = nI k := by
      rw [← nI_add k 5]
      exact Int32.add_sub_cancel (nI k) 5
    rw [e, nI_ltI (by omega) (by omega)]
    omega
end SCR
