/-! rows for the law's own methods -/
section XR
variable {E : EE} {N nL : Nat} {own : String} {cc : ByteArray} {p : Program} {l : Launch} {e : Env} {R : Room} {s : State} {m : MethodId} {args : Array Value} {below : List Frame} {meth : Method} {c : Code} {cells slots : Nat} {Q : State → Prop} {I : Mi} {F : Mr} {pc : Nat} {ls : List (Option Value)} {st : List Value}
theorem g_dupx2 (C : Cx E own cc nL p s m args meth c) {va vb vd : Value} (d : decode cc pc = .ok (.dup_x2, 1)) (ha : va.category = 1) (hb : vb.category = 1) (hd : vd.category = 1) (k : G E N nL p l e R s m args below meth c cells slots Q I F (pc + 1) ls (va :: vb :: vd :: va :: st)) : G E N nL p l e R s m args below meth c cells slots Q I F pc ls (va :: vb :: vd :: st) := fun h hn H locs la hP hS hl => lv_dup_x2 C.1 C.2.1 d ha hb hd (k h hn H locs la hP hS hl)
theorem g_ldc (C : Cx E own cc nL p s m args meth c) {idx : Nat} {v : Int32} (d : decode cc pc = .ok (.ldc idx, 2)) (hw : Jvm.Cond.constant own idx v ∈ gw) (k : G E N nL p l e R s m args below meth c cells slots Q I F (pc + 2) ls (.int v :: st)) : G E N nL p l e R s m args below meth c cells slots Q I F pc ls st := fun h hn H locs la hP hS hl => lv_ldc C.1 C.2.1 C.2.2.2.1 (C.2.2.2.2.1 _ hw) d (k h hn H locs la hP hS hl)
theorem g_sld2 (C : Cx E own cc nL p s m args meth c) {b L : Nat} {xs : Nat → Int32} (hX : va_X b L xs s s.heap) (hbl : b < s.heap.size) (hE : b < pb E) {x : Int32} {j : Nat} (hx : x = nI j) (hj : j < L) (hL : L < 2147483648) (d : decode cc pc = .ok (.iaload, 1)) (kk : G E N nL p l e R s m args below meth c cells slots Q I F (pc + 1) ls (.int (xs j) :: st)) : G E N nL p l e R s m args below meth c cells slots Q I F pc ls (.int x :: .ref b :: st) := fun h hn H locs la hP hS hl => by
  subst hx
  have e : (nI j).toNatClampNeg = j := nI_clamp (by omega)
  exact va_sld C.1 C.2.1 hX hbl (fun z => by have z : pb E ≤ b := z; omega) hS (vp_in_nI hj hL) d (by rw [e]; exact kk h hn H locs la hP hS hl)
theorem g_slen2 (C : Cx E own cc nL p s m args meth c) {b L : Nat} {xs : Nat → Int32} (hX : va_X b L xs s s.heap) (hbl : b < s.heap.size) (hE : b < pb E) (d : decode cc pc = .ok (.arraylength, 1)) (kk : G E N nL p l e R s m args below meth c cells slots Q I F (pc + 1) ls (.int (nI L) :: st)) : G E N nL p l e R s m args below meth c cells slots Q I F pc ls (.ref b :: st) := fun h hn H locs la hP hS hl =>
  va_slen C.1 C.2.1 hX hbl (fun z => by have z : pb E ≤ b := z; omega) hS d (kk h hn H locs la hP hS hl)
def PX (E : EE) (N : Nat) (I : Mi) (F : Mr) (b L : Nat) (xs : Nat → Int32) (av : List Value) : Array Value → State → Prop := va_Pc av (fun U => (U.heap.size = pb E + N ∧ va_P E.1 vwCl (wsOf E N I F) U.heap ∧ va_K E.1 vwCl (ptys E) U ∧ NW U) ∧ va_X b L xs U U.heap)
theorem PX_blind {b L : Nat} {xs : Nat → Int32} {av : List Value} : FrameBlind (PX E N I F b L xs av) := fun a U g mk q => by
  obtain ⟨q0, ⟨q1, qP, qK, qN⟩, qX⟩ := q
  exact ⟨q0, ⟨q1, qP, va_K.moved (u := U) (U := U.calling g mk a) (Vm.Alike.refl U.vm) qK, NW.same (s := U) (U := U.calling g mk a) rfl qN⟩, va_X.moved (u := U) (U := U.calling g mk a) (Vm.Alike.refl U.vm) qX⟩
theorem g_callX (C : Cx E own cc nL p s m args meth c) {M : MD} {idx n : Nat} {As rest : List Value} {N2 b L : Nat} {xs : Nat → Int32} {P : Option Value → Mi → Mr → Prop} (hX : va_X b L xs s s.heap) (hbl : b < s.heap.size) (hE : b < pb E) (hM : Met l M.1 (ws_ M) M.2.2.2.2 (PX E N I F b L xs As) (QC E N2 P) M.2.2.2.2.cells M.2.2.2.2.slots (fun q => pb E ≤ q)) (hl : Cond.methodLink own idx M.1 ∈ gw) (hv : VM M n) (hstat : Cond.static M.1 ∈ gw) (hfit : Fits M R cells slots) (hmc : N2 = N + M.2.2.2.2.cells) (hst : st = As.reverse ++ rest) (hlen : As.length = n) (hcat : (rest.map fun v => v.category).sum ≤ 8) (hN : 0 < N ∨ cells = 0) (d : decode cc pc = .ok (.invokestatic idx, 3)) (kk : ∀ (r : Option Value) (I2 : Mi) (F2 : Mr), P r I2 F2 → G E N2 nL p l e R s m args below meth c (cells + M.2.2.2.2.cells) (slots + M.2.2.2.2.slots) Q I2 F2 (pc + 3) ls (r.toList ++ rest)) : G E N nL p l e R s m args below meth c cells slots Q I F pc ls st := g_run (a := As.toArray) hmc (fun H locs la hz hP hS hsz => va_runS ⟨C.1, C.2.1, C.2.2.1, C.2.2.2.1, C.2.2.2.2.1⟩ hM ⟨cb_of C hv hl hfit.1, C.2.2.2.2.1 _ hstat⟩ ⟨PX_blind, fun U hU hW => by
  obtain ⟨q0, q1, q2, q3, q4⟩ := pre_of C hz hP As U hU hW
  refine ⟨q0, ⟨q1, q2, q3, q4⟩, ?_⟩
  rw [hU]
  exact va_X.moved hW.alike (va_X.kept hX (hS.2.1 b hbl (fun z => by have z : pb E ≤ b := z; omega)))⟩ rfl hlen hsz (by subst hst; rfl) (lv_room hcat) d hfit.2) hN kk
end XR
/-! the law's own numbers: q = row b (0 current, 1 asking, 2 islands, 3 ticks, 4 noise, 5 lost, 6 greatest, 7 orders), islands = row b + 1 (part p of island i at 12 i + p), what is told in row 131 -/
theorem e_ix0 (i : Nat) : (12 : Int32) * nI i = nI (12 * i) := pk_mul 12 i
theorem e_ix (i p : Nat) {y : Int32} (hy : y = nI p) : (12 : Int32) * nI i + y = nI (12 * i + p) := by
  subst hy
  rw [e_ix0, nI_add]
def LB (b : Nat) : Prop := b = 127 ∨ b = 129
theorem LB.q {b : Nat} (h : LB b) : ar NT b 7 8 := by rcases h with rfl | rfl <;> decide
theorem LB.s {b : Nat} (h : LB b) : ar NT (b + 1) 7 60 := by rcases h with rfl | rfl <;> decide
theorem LB.t {b : Nat} (h : LB b) : b + 1 < 131 := by rcases h with rfl | rfl <;> decide
abbrev sL (I : Mi) (b i p : Nat) : Int32 := I (b + 1) (12 * i + p)
def lowE (x y : Int32) : Int32 := (x &&& 2147483647) - ((x &&& 2147483647) / y) * y
def loadL (I : Mi) (b n : Nat) : Int32 := lp (fun k acc => acc + (if sL I b k 7 = 4 then sL I b k 3 else 0)) n 0
def setL (I : Mi) (b n : Nat) (x : Int32) : Int32 := lp (fun k acc => acc ||| (if sL I b k 7 = x then sh1 k else 0)) n 0
def rdsL (I : Mi) (b n : Nat) (x : Int32) : Int32 := lp (fun k acc => acc ||| (((sL I b k 6 >>> (x &&& 31)) &&& 1) <<< (nI k &&& 31))) n 0
def bitW : Nat → Int32 → Int32
  | 0, w => w
  | k + 1, w => bitW k (w &&& (w - 1))
def bitR : Nat → Int32 → Int32 → Int32
  | 0, _, n => n
  | k + 1, w, n => if w = 0 then n else bitR k (w &&& (w - 1)) (n + 1)
def ordL (I : Mi) (b i : Nat) : Mi := up (up (up I (b + 1) (12 * i + 7) 3) b 7 (up I (b + 1) (12 * i + 7) 3 b 7 + 1)) (b + 1) (12 * i + 10) (up I (b + 1) (12 * i + 7) 3 b 7 + 1)
def telL (I : Mi) (b i : Nat) : Int32 := if 2 ≤ sL I b i 7 then (if I (b + 1) (12 * i) = 1 then 0 else 255) else sL I b i 4
def plcL (I : Mi) (b n i : Nat) : Int32 := if sL I b i 7 = 3 then lp (fun k acc => acc + (if sL I b k 7 = 3 then (if sL I b i 10 ≤ sL I b k 10 then 0 else 1) else 0)) n 0 else -6
def cpyL (I : Mi) : Mi := lp (fun k J => up J 130 k (J 128 k)) 60 (lp (fun k J => up J 129 k (J 127 k)) 8 I)
def noL (I : Mi) (b k : Nat) : Int32 := if sL I b k 7 ≤ 1 then 0 else if I (b + 1) (12 * k) = 0 then 1 else 0
def tl1 (b k : Nat) (I : Mi) : Mi := up (up I 131 k (telL I b k)) 131 (8 + k) (noL (up I 131 k (telL I b k)) b k)
def nzL (b k m : Nat) (J : Mi) : Mi := if (sL J b k 6 >>> (nI m &&& 31)) &&& 1 = 0 then J else
  let J1 := up J (b + 1) (12 * k + 4) ((sL J b k 4 + J 131 m) &&& 255)
  let J2 := up J1 (b + 1) (12 * k + 9) (sL J1 b k 9 + J1 131 (8 + m))
  up J2 b 4 (J2 b 4 + J2 131 (8 + m))
def faL (b k : Nat) (I : Mi) : Mi :=
  let J1 := up I (b + 1) (12 * k + 7) 2
  let J2 := if sL J1 b k 1 = 1 then up J1 (b + 1) (12 * k + 5) (sL J1 b k 4) else if sL J1 b k 4 = 0 then J1 else up J1 b 5 (J1 b 5 + 1)
  up J2 (b + 1) (12 * k + 4) 0
def riL (b k : Nat) (I : Mi) : Mi :=
  let J1 := up I (b + 1) (12 * k + 8) (sL I b k 8 - 1)
  if sL I b k 8 - 1 = 0 then
    (let J2 := up J1 (b + 1) (12 * k + 7) 0
     if sL J2 b k 1 = 1 then up J2 (b + 1) (12 * k + 4) (sL J2 b k 5) else J2)
  else J1
def tl2 (b n k : Nat) (I : Mi) : Mi := if sL I b k 7 = 0 then lp (nzL b k) n I else if sL I b k 7 = 1 then faL b k I else if sL I b k 7 = 4 then riL b k I else I
def akB (b n : Nat) (aw : Int32) (k : Nat) (J : Mi) : Mi := if sL J b k 7 = 2 then (if rdsL J b n (nI k) &&& aw = 0 then J else ordL J b k) else J
def akL (I : Mi) (b n : Nat) : Mi := if I b 1 = 1 then lp (akB b n (setL I b n 0)) n I else I
def nxB (J : Mi) (b : Nat) (last : Int32) (k : Nat) (o : Option Nat) : Option Nat := if sL J b k 7 = 3 then (if sL J b k 10 ≤ last then o else match o with
  | none => some k
  | some m => if sL J b m 10 ≤ sL J b k 10 then some m else some k) else o
def nxR (J : Mi) (b n : Nat) (last : Int32) : Option Nat := lp (nxB J b last) n none
def nxI : Option Nat → Int32
  | none => -1
  | some m => nI m
def rsL (J : Mi) (b m : Nat) : Mi := up (up J (b + 1) (12 * m + 7) 4) (b + 1) (12 * m + 8) (sL (up J (b + 1) (12 * m + 7) 4) b m 2)
def brX (J : Mi) (b n m : Nat) : Mi := if loadL J b n ≤ 0 then rsL J b m else if loadL J b n + sL J b m 3 ≤ J b 0 then rsL J b m else J
def brL (b n : Nat) : Nat → Mi → Int32 → Mi
  | 0, J, _ => J
  | f + 1, J, last => match nxR J b n last with
    | none => J
    | some m => brL b n f (brX J b n m) (sL J b m 10)
def brO (b n : Nat) : Nat → Mi → Int32 → Prop
  | 0, _, _ => False
  | f + 1, J, last => match nxR J b n last with
    | none => True
    | some m => brO b n f (brX J b n m) (sL J b m 10)
def enL (Z : Mi) (b n : Nat) : Mi :=
  let Z1 := up Z b 3 (Z b 3 + 1)
  up Z1 b 6 (if loadL Z1 b n ≤ Z1 b 6 then Z1 b 6 else loadL Z1 b n)
def x1L (I : Mi) (b n : Nat) : Mi := lp (tl1 b) n I
def x2L (I : Mi) (b n : Nat) : Mi := lp (tl2 b n) n (x1L I b n)
def x3L (I : Mi) (b n : Nat) : Mi := akL (x2L I b n) b n
def tkL (I : Mi) (b n : Nat) : Mi := enL (brL b n 6 (x3L I b n) 0) b n
def psL (I : Mi) (b n t : Nat) : Mi := lp (fun _ J => tkL J b n) t I
/-- what a tick needs of the state -/
def TKO (I : Mi) (b n : Nat) : Prop := I b 2 = nI n ∧ brO b n 6 (x3L I b n) 0
theorem up_b2 (I : Mi) (b j : Nat) (v : Int32) (x : Nat) (h : x = b → j ≠ 2) : up I x j v b 2 = I b 2 := by
  unfold up
  rw [if_neg (fun z => h z.1.symm z.2.symm)]
theorem lp_keep {α β : Type} {f : Nat → α → α} (g : α → β) (h : ∀ i s, g (f i s) = g s) : ∀ n s, g (lp f n s) = g s
  | 0, s => rfl
  | n + 1, s => (h n _).trans (lp_keep g h n s)
theorem ordL_b2 (I : Mi) (b i : Nat) : ordL I b i b 2 = I b 2 := by
  unfold ordL
  rw [up_b2 _ _ _ _ _ (by omega), up_b2 _ _ _ _ _ (by omega), up_b2 _ _ _ _ _ (by omega)]
theorem ordL_b1 (I : Mi) (b i : Nat) : ordL I b i b 1 = I b 1 := by
  unfold ordL up
  rw [if_neg (by omega), if_neg (by omega), if_neg (by omega)]
theorem tl1_ne {b k : Nat} {I : Mi} {x : Nat} (h : x ≠ 131) : tl1 b k I x = I x := by
  unfold tl1
  rw [up_ne h, up_ne h]
theorem x1L_ne {b n : Nat} {I : Mi} {x : Nat} (h : x ≠ 131) : x1L I b n x = I x := lp_keep (fun J : Mi => J x) (fun _ _ => tl1_ne h) n I
theorem nzL_b2 (b k m : Nat) (J : Mi) : nzL b k m J b 2 = J b 2 := by
  unfold nzL
  split
  · rfl
  · try dsimp only
    rw [up_b2 _ _ _ _ _ (by omega), up_b2 _ _ _ _ _ (by omega), up_b2 _ _ _ _ _ (by omega)]
theorem nzL_s7 (b k m : Nat) (J : Mi) (i : Nat) : sL (nzL b k m J) b i 6 = sL J b i 6 := by
  unfold nzL
  split
  · rfl
  · dsimp only [sL, up]
    rw [if_neg (by omega), if_neg (by omega), if_neg (by omega)]
theorem faL_b2 (b k : Nat) (J : Mi) : faL b k J b 2 = J b 2 := by
  unfold faL
  try dsimp only
  rw [up_b2 _ _ _ _ _ (by omega)]
  split
  · rw [up_b2 _ _ _ _ _ (by omega), up_b2 _ _ _ _ _ (by omega)]
  · split
    · rw [up_b2 _ _ _ _ _ (by omega)]
    · rw [up_b2 _ _ _ _ _ (by omega), up_b2 _ _ _ _ _ (by omega)]
theorem riL_b2 (b k : Nat) (J : Mi) : riL b k J b 2 = J b 2 := by
  unfold riL
  try dsimp only
  split
  · split
    · rw [up_b2 _ _ _ _ _ (by omega), up_b2 _ _ _ _ _ (by omega), up_b2 _ _ _ _ _ (by omega)]
    · rw [up_b2 _ _ _ _ _ (by omega), up_b2 _ _ _ _ _ (by omega)]
  · rw [up_b2 _ _ _ _ _ (by omega)]
theorem tl2_b2 (b n k : Nat) (J : Mi) : tl2 b n k J b 2 = J b 2 := by
  unfold tl2
  split
  · exact lp_keep (fun J : Mi => J b 2) (fun m J => nzL_b2 b k m J) n J
  · split
    · exact faL_b2 b k J
    · split
      · exact riL_b2 b k J
      · rfl
theorem akB_b2 (b n : Nat) (aw : Int32) (k : Nat) (J : Mi) : akB b n aw k J b 2 = J b 2 := by
  unfold akB
  split
  · split
    · rfl
    · exact ordL_b2 J b k
  · rfl
theorem akB_b1 (b n : Nat) (aw : Int32) (k : Nat) (J : Mi) : akB b n aw k J b 1 = J b 1 := by
  unfold akB
  split
  · split
    · rfl
    · exact ordL_b1 J b k
  · rfl
theorem brX_b2 (J : Mi) (b n m : Nat) : brX J b n m b 2 = J b 2 := by
  have h : rsL J b m b 2 = J b 2 := by
    unfold rsL
    rw [up_b2 _ _ _ _ _ (by omega), up_b2 _ _ _ _ _ (by omega)]
  unfold brX
  split
  · exact h
  · split
    · exact h
    · rfl
theorem brL_b2 (b n : Nat) : ∀ (f : Nat) (J : Mi) (last : Int32), brL b n f J last b 2 = J b 2
  | 0, _, _ => rfl
  | f + 1, J, last => by
    rw [brL]
    cases nxR J b n last with
    | none => rfl
    | some m => exact (brL_b2 b n f _ _).trans (brX_b2 J b n m)
theorem x2L_b2 (I : Mi) (b n : Nat) (hb : LB b) : x2L I b n b 2 = I b 2 := by
  have h1 : x2L I b n b 2 = x1L I b n b 2 := lp_keep (fun J : Mi => J b 2) (fun k J => tl2_b2 b n k J) n _
  rw [h1, x1L_ne (by have := hb.t; omega)]
theorem x3L_b2 (I : Mi) (b n : Nat) (hb : LB b) : x3L I b n b 2 = I b 2 := by
  have h : x3L I b n b 2 = x2L I b n b 2 := by
    unfold x3L akL
    split
    · exact lp_keep (fun J : Mi => J b 2) (fun k J => akB_b2 b n _ k J) n _
    · rfl
  rw [h, x2L_b2 I b n hb]
theorem nxR_lt (J : Mi) (b : Nat) (last : Int32) : ∀ n m, nxR J b n last = some m → m < n
  | 0, m, h => by cases h
  | n + 1, m, h => by
    have ih := nxR_lt J b last n
    have h : nxB J b last n (nxR J b n last) = some m := h
    unfold nxB at h
    split at h
    · split at h
      · exact Nat.lt_succ_of_lt (ih m h)
      · split at h
        · cases h; omega
        · rename_i k e
          have := ih k e
          split at h <;> cases h <;> omega
    · exact Nat.lt_succ_of_lt (ih m h)
theorem nx_some {J : Mi} {b n : Nat} {last : Int32} (h : ¬ nxR J b n last = none) : ∃ m, nxR J b n last = some m ∧ m < n := by
  cases e : nxR J b n last with
  | none => exact absurd e h
  | some m => exact ⟨m, rfl, nxR_lt J b last n m e⟩

