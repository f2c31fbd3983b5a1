/-! base of the walks: loops, booleans, small numbers -/
def bi : Bool → Int32
  | true => 1
  | false => 0
theorem bi_01 (b : Bool) : bi b = 0 ∨ bi b = 1 := by cases b <;> simp [bi]
theorem bi_0 (b : Bool) : bi b = 0 ↔ b = false := by cases b <;> simp [bi]
theorem bi_1 (b : Bool) : bi b = 1 ↔ b = true := by cases b <;> simp [bi]
theorem bt_f {b : Bool} (h : b = true) (c : b = false) : False := by rw [h] at c; cases c
theorem nI_inc (i : Nat) : nI i + Int32.ofInt 1 = nI (i + 1) := (nI_succ i).symm ▸ rfl
theorem nI_nge {i n : Nat} {x : Int32} (hx : x = nI n) (h : i < n) (hn : n < 2147483648) : ¬ x ≤ nI i := by subst hx; exact nI_ge h hn
theorem nI_lee {n : Nat} {x : Int32} (hx : x = nI n) : x ≤ nI n := by subst hx; exact Int32.le_refl _
/-- n rounds of a step -/
def lp {α : Type} (f : Nat → α → α) : Nat → α → α
  | 0, s => s
  | n + 1, s => f n (lp f n s)
section BW
variable {E : EE} {N nL : Nat} {own : String} {cc : ByteArray} {p : Program} {l : Launch} {e : Env} {R : Room} {s : State} {m : MethodId} {args : Array Value} {below : List Frame} {meth : Method} {c : Code} {cells slots : Nat} {Q : State → Prop} {I I2 : Mi} {F F2 : Mr} {pc : Nat} {ls ls2 : List (Option Value)} {st st2 : List Value}
theorem G_cast (k : G E N nL p l e R s m args below meth c cells slots Q I2 F2 pc ls2 st2) (hI : I = I2) (hF : F = F2) (hl : ls = ls2) (hs : st = st2) : G E N nL p l e R s m args below meth c cells slots Q I F pc ls st := by subst hI hF hl hs; exact k
theorem G_loop {n : Nat} (LS : Nat → List (Option Value)) (II : Nat → Mi) (FF : Nat → Mr) (hl : ls = LS 0) (hI : I = II 0) (hF : F = FF 0) (step : ∀ i, i < n → G E N nL p l e R s m args below meth c cells slots Q (II (i + 1)) (FF (i + 1)) pc (LS (i + 1)) st → G E N nL p l e R s m args below meth c cells slots Q (II i) (FF i) pc (LS i) st) (exit : G E N nL p l e R s m args below meth c cells slots Q (II n) (FF n) pc (LS n) st) : G E N nL p l e R s m args below meth c cells slots Q I F pc ls st := by
  subst hl hI hF
  have key : ∀ k i, i + k = n → G E N nL p l e R s m args below meth c cells slots Q (II i) (FF i) pc (LS i) st := by
    intro k
    induction k with
    | zero => intro i hi; rw [show i = n by omega]; exact exit
    | succ k ih => intro i hi; exact step i (by omega) (ih (i + 1) (by omega))
  exact key n 0 (by omega)
theorem G_loopI {n : Nat} (LS : Nat → List (Option Value)) (II : Nat → Mi) (FF : Nat → Mr) (Inv : Nat → Prop) (hl : ls = LS 0) (hI : I = II 0) (hF : F = FF 0) (h0 : Inv 0) (step : ∀ i, i < n → Inv i → (Inv (i + 1) → G E N nL p l e R s m args below meth c cells slots Q (II (i + 1)) (FF (i + 1)) pc (LS (i + 1)) st) → G E N nL p l e R s m args below meth c cells slots Q (II i) (FF i) pc (LS i) st) (exit : Inv n → G E N nL p l e R s m args below meth c cells slots Q (II n) (FF n) pc (LS n) st) : G E N nL p l e R s m args below meth c cells slots Q I F pc ls st := by
  subst hl hI hF
  have key : ∀ k i, i + k = n → Inv i → G E N nL p l e R s m args below meth c cells slots Q (II i) (FF i) pc (LS i) st := by
    intro k
    induction k with
    | zero => intro i hi hv; rw [show i = n by omega] at hv ⊢; exact exit hv
    | succ k ih => intro i hi hv; exact step i (by omega) hv (ih (i + 1) (by omega))
  exact key n 0 (by omega) h0
theorem G_forget (i : Nat) (k : G E N nL p l e R s m args below meth c cells slots Q I F pc (ls.set i none) st) : G E N nL p l e R s m args below meth c cells slots Q I F pc ls st := fun h hn H locs la hP hS hl => k h (by simp [hn]) H locs la hP hS ⟨hl.1, hl.2.1, fun q hq => hl.2.2 q (by
  obtain ⟨j, v⟩ := q
  have h1 := ((lo_mem _ 0 j v).mp hq).2
  refine (lo_mem _ 0 j v).mpr ⟨Nat.zero_le _, ?_⟩
  rw [Nat.sub_zero, List.getElem?_set] at h1
  rw [Nat.sub_zero]
  split at h1
  · split at h1 <;> cases h1
  · exact h1)⟩
theorem g_ifeq_b (C : Cx E own cc nL p s m args meth c) {b : Bool} {off : Int} {tgt : Nat} (d : decode cc pc = .ok (.ifCond .eq off, 3)) (ht : (pc : Int) + off = (tgt : Int)) (kt : b = false → G E N nL p l e R s m args below meth c cells slots Q I F tgt ls st) (kf : b = true → G E N nL p l e R s m args below meth c cells slots Q I F (pc + 3) ls st) : G E N nL p l e R s m args below meth c cells slots Q I F pc ls (.int (bi b) :: st) := g_if_eq C d ht (fun h => kt ((bi_0 b).mp h)) (fun h => kf (by cases b <;> simp_all [bi]))
theorem g_ifne_b (C : Cx E own cc nL p s m args meth c) {b : Bool} {off : Int} {tgt : Nat} (d : decode cc pc = .ok (.ifCond .ne off, 3)) (ht : (pc : Int) + off = (tgt : Int)) (kt : b = true → G E N nL p l e R s m args below meth c cells slots Q I F tgt ls st) (kf : b = false → G E N nL p l e R s m args below meth c cells slots Q I F (pc + 3) ls st) : G E N nL p l e R s m args below meth c cells slots Q I F pc ls (.int (bi b) :: st) := g_if_ne C d ht (fun h => kt (by cases b <;> simp_all [bi])) (fun h => kf ((bi_0 b).mp h))
theorem g_zret_b (C : Cx E own cc nL p s m args meth c) {P : Option Value → Mi → Mr → Prop} {b : Bool} (hr : meth.sig.returnType = some .boolean) (d : decode cc pc = .ok (.ireturn, 1)) (hp : P (some (.int (bi b))) I F) : G E N nL p l e R s m args below meth c cells slots (MQ below (QC E N P) args s cells slots (fun q => pb E ≤ q)) I F pc ls  [.int (bi b)] := g_zret C hr (bi_01 b) d hp
theorem g_zret_0 (C : Cx E own cc nL p s m args meth c) {P : Option Value → Mi → Mr → Prop} (hr : meth.sig.returnType = some .boolean) (d : decode cc pc = .ok (.ireturn, 1)) (hp : P (some (.int 0)) I F) : G E N nL p l e R s m args below meth c cells slots (MQ below (QC E N P) args s cells slots (fun q => pb E ≤ q)) I F pc ls  [.int 0] := g_zret C hr (Or.inl rfl) d hp
theorem g_zret_1 (C : Cx E own cc nL p s m args meth c) {P : Option Value → Mi → Mr → Prop} (hr : meth.sig.returnType = some .boolean) (d : decode cc pc = .ok (.ireturn, 1)) (hp : P (some (.int 1)) I F) : G E N nL p l e R s m args below meth c cells slots (MQ below (QC E N P) args s cells slots (fun q => pb E ≤ q)) I F pc ls  [.int 1] := g_zret C hr (Or.inr rfl) d hp
theorem g_iald_j (C : Cx E own cc nL p s m args meth c) {k n : Nat} (ha : ar N k 7 n) (j : Nat) {x : Int32} (hx : x = nI j) (hj : j < n) (hn : n < 2147483648) (d : decode cc pc = .ok (.iaload, 1)) (kk : G E N nL p l e R s m args below meth c cells slots Q I F (pc + 1) ls (.int (I k j) :: st)) : G E N nL p l e R s m args below meth c cells slots Q I F pc ls (.int x :: rf E k :: st) := by
  subst hx
  exact g_iald C ha (vp_in_nI hj hn) d (by rw [show ix (nI j) = j from nI_clamp (by omega)]; exact kk)
theorem g_cald_j (C : Cx E own cc nL p s m args meth c) {k n : Nat} (ha : ar N k 6 n) (j : Nat) {x : Int32} (hx : x = nI j) (hj : j < n) (hn : n < 2147483648) (d : decode cc pc = .ok (.caload, 1)) (kk : G E N nL p l e R s m args below meth c cells slots Q I F (pc + 1) ls (.int (I k j) :: st)) : G E N nL p l e R s m args below meth c cells slots Q I F pc ls (.int x :: rf E k :: st) := by
  subst hx
  exact g_cald C ha (vp_in_nI hj hn) d (by rw [show ix (nI j) = j from nI_clamp (by omega)]; exact kk)
theorem g_iast_j (C : Cx E own cc nL p s m args meth c) {k n : Nat} (ha : ar N k 7 n) (j : Nat) {x v : Int32} (hx : x = nI j) (hj : j < n) (hn : n < 2147483648) (d : decode cc pc = .ok (.iastore, 1)) (kk : G E N nL p l e R s m args below meth c cells slots Q (up I k j v) F (pc + 1) ls st) : G E N nL p l e R s m args below meth c cells slots Q I F pc ls (.int v :: .int x :: rf E k :: st) := by
  subst hx
  exact g_iast C ha (vp_in_nI hj hn) d (by rw [show ix (nI j) = j from nI_clamp (by omega)]; exact kk)
theorem g_cast_j (C : Cx E own cc nL p s m args meth c) {k n : Nat} (ha : ar N k 6 n) (j : Nat) {x v : Int32} (hx : x = nI j) (hj : j < n) (hn : n < 2147483648) (hv : vp_nar .char v = v) (d : decode cc pc = .ok (.castore, 1)) (kk : G E N nL p l e R s m args below meth c cells slots Q (up I k j v) F (pc + 1) ls st) : G E N nL p l e R s m args below meth c cells slots Q I F pc ls (.int v :: .int x :: rf E k :: st) := by
  subst hx
  exact g_cast C ha (vp_in_nI hj hn) hv d (by rw [show ix (nI j) = j from nI_clamp (by omega)]; exact kk)
end BW
/-- a contract with one outcome, out of a walk -/
theorem CtF_of {l : Launch} {E : EE} {M : MD} {av : List Value} {N : Nat} {I : Mi} {F : Mr} {N2 : Nat} {r : Option Value} {I2 : Mi} {F2 : Mr} (L : List (Option Value)) (hpl : plainName M.1.cls = true) (hmc : N2 = N + M.2.2.2.2.cells) (hle : (la0 av).length ≤ M.2.2.1) (hL : la0 av ++ List.replicate (M.2.2.1 - (la0 av).length) none = L)
    (body : ∀ (p : Program) (e : Env) (s : State) (m : MethodId) (args : Array Value) (below : List Frame) (meth : Method) (c : Code), Cx E M.1.cls M.2.1 M.2.2.1 p s m args meth c → meth.sig.returnType = M.2.2.2.1 → meth.name = M.1.name → G E N M.2.2.1 p l e M.2.2.2.2 s m args below meth c 0 0 (MQ below (QC E N2 (fun r9 I9 F9 => r9 = r ∧ I9 = I2 ∧ F9 = F2)) args s M.2.2.2.2.cells M.2.2.2.2.slots (fun q => pb E ≤ q)) I F 0 L []) : CtF l E M av N I F N2 r I2 F2 := Ct_of hpl hmc hle (fun p e s m args below meth c C hr hn => by rw [hL]; exact body p e s m args below meth c C hr hn)
/-- a chip at number a: itself, its ten rows behind it -/
def CH (N : Nat) (F : Mr) (a : Nat) : Prop := ob N a 0 ∧ (∀ j, 1 ≤ j → j ≤ 10 → ar N (a + j) 7 8) ∧ (F a 3 = some (a + 1) ∧ F a 4 = some (a + 2) ∧ F a 5 = some (a + 3) ∧ F a 6 = some (a + 4) ∧ F a 7 = some (a + 5) ∧ F a 8 = some (a + 6) ∧ F a 9 = some (a + 7) ∧ F a 10 = some (a + 8) ∧ F a 11 = some (a + 9) ∧ F a 18 = some (a + 10))
theorem CH.o {N : Nat} {F : Mr} {a : Nat} (h : CH N F a) : ob N a 0 := h.1
theorem CH.r1 {N : Nat} {F : Mr} {a : Nat} (h : CH N F a) : ar N (a + 1) 7 8 := h.2.1 1 (by decide) (by decide)
theorem CH.f3 {N : Nat} {F : Mr} {a : Nat} (h : CH N F a) : F a 3 = some (a + 1) := h.2.2.1
theorem CH.r2 {N : Nat} {F : Mr} {a : Nat} (h : CH N F a) : ar N (a + 2) 7 8 := h.2.1 2 (by decide) (by decide)
theorem CH.f4 {N : Nat} {F : Mr} {a : Nat} (h : CH N F a) : F a 4 = some (a + 2) := h.2.2.2.1
theorem CH.r3 {N : Nat} {F : Mr} {a : Nat} (h : CH N F a) : ar N (a + 3) 7 8 := h.2.1 3 (by decide) (by decide)
theorem CH.f5 {N : Nat} {F : Mr} {a : Nat} (h : CH N F a) : F a 5 = some (a + 3) := h.2.2.2.2.1
theorem CH.r4 {N : Nat} {F : Mr} {a : Nat} (h : CH N F a) : ar N (a + 4) 7 8 := h.2.1 4 (by decide) (by decide)
theorem CH.f6 {N : Nat} {F : Mr} {a : Nat} (h : CH N F a) : F a 6 = some (a + 4) := h.2.2.2.2.2.1
theorem CH.r5 {N : Nat} {F : Mr} {a : Nat} (h : CH N F a) : ar N (a + 5) 7 8 := h.2.1 5 (by decide) (by decide)
theorem CH.f7 {N : Nat} {F : Mr} {a : Nat} (h : CH N F a) : F a 7 = some (a + 5) := h.2.2.2.2.2.2.1
theorem CH.r6 {N : Nat} {F : Mr} {a : Nat} (h : CH N F a) : ar N (a + 6) 7 8 := h.2.1 6 (by decide) (by decide)
theorem CH.f8 {N : Nat} {F : Mr} {a : Nat} (h : CH N F a) : F a 8 = some (a + 6) := h.2.2.2.2.2.2.2.1
theorem CH.r7 {N : Nat} {F : Mr} {a : Nat} (h : CH N F a) : ar N (a + 7) 7 8 := h.2.1 7 (by decide) (by decide)
theorem CH.f9 {N : Nat} {F : Mr} {a : Nat} (h : CH N F a) : F a 9 = some (a + 7) := h.2.2.2.2.2.2.2.2.1
theorem CH.r8 {N : Nat} {F : Mr} {a : Nat} (h : CH N F a) : ar N (a + 8) 7 8 := h.2.1 8 (by decide) (by decide)
theorem CH.f10 {N : Nat} {F : Mr} {a : Nat} (h : CH N F a) : F a 10 = some (a + 8) := h.2.2.2.2.2.2.2.2.2.1
theorem CH.r9 {N : Nat} {F : Mr} {a : Nat} (h : CH N F a) : ar N (a + 9) 7 8 := h.2.1 9 (by decide) (by decide)
theorem CH.f11 {N : Nat} {F : Mr} {a : Nat} (h : CH N F a) : F a 11 = some (a + 9) := h.2.2.2.2.2.2.2.2.2.2.1
theorem CH.r10 {N : Nat} {F : Mr} {a : Nat} (h : CH N F a) : ar N (a + 10) 7 8 := h.2.1 10 (by decide) (by decide)
theorem CH.f18 {N : Nat} {F : Mr} {a : Nat} (h : CH N F a) : F a 18 = some (a + 10) := h.2.2.2.2.2.2.2.2.2.2.2
