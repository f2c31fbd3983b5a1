/-! each call of the law on the class: the answer, and what it leaves -/
def CR (X : Mi) (F : Mr) (J : Mi) (n w : Nat) : Prop := ∃ h k, LY F ∧ HB F h ∧ k ≤ 6 ∧ X 37 1 = nI k ∧ RR X 1 (J 128) n w
theorem CR.up {X Y : Mi} {F : Mr} {J : Mi} {n w : Nat} (h : CR X F J n w) (hY : ∀ x, (x ≤ 11 ∨ (23 ≤ x ∧ x ≤ 104)) → Y x = X x) : CR Y F J n w := by
  obtain ⟨hh, k, hl, hb, k6, e, hR⟩ := h
  exact ⟨hh, k, hl, hb, k6, by rw [hY 37 (by omega)]; exact e, RR_obs (CE.same (fun x x1 x2 => hY x (by omega))) (fun _ _ => rfl) hR⟩
theorem CR.rec {X X2 : Mi} {F : Mr} {h : Nat → Nat} {k n w : Nat} {J : Mi} (hl : LY F) (hb : HB F h) (k6 : k ≤ 6) (h37 : X2 37 1 = recI X h k 1 37 1) (hR : RR X2 1 (J 128) n w) : CR X2 (recF F h k) J n w :=
  ⟨recH h k, if k < 6 then k + 1 else 6, recF_LY hl, recF_HB hb, by split <;> omega, by rw [h37, recI_37 X h k6], hR⟩
theorem RR_recI {X J : Mi} {F : Mr} {h : Nat → Nat} {k n w : Nat} (hb : HB F h) (k6 : k ≤ 6) (hR : RR X 1 (J 128) n w) : RR (recI X h k 1) 1 (J 128) n w :=
  RR_obs (CE.same (fun x x1 x2 => recI_fr hb k6 (by omega))) (fun _ _ => rfl) hR
section CO
variable {l : Launch} {E : EE} {X J : Mi} {F : Mr} {n w : Nat}
theorem c_build (h : CR X F J n w) (hn : n < 8) {iso keep r d : Int32} (g1 : isW r 1 9 = true) (g2 : isW d 1 20 = true) : ∃ (X2 : Mi) (F2 : Mr), CtF l E mX4_build [rf E 0, .int iso, .int keep, .int r, .int d] NT X F NT (some (.int (nI n))) X2 F2 ∧ CR X2 F2 (cmM J n (if iso = 0 then 0 else 1) (if keep = 0 then 0 else 1) r d 0) (n + 1) w ∧ ∀ x, 105 ≤ x → X2 x = X x := by
  obtain ⟨hh, k, hl, hb, k6, e37, hR⟩ := h
  have en : X 1 0 = nI n := hR.1.1.2.1.1
  have c4 := tX4_build (l := l) (E := E) hl hb k6 e37 (show n ≤ 8 by omega) en iso keep r d
  have ex : xBuild X F hh k n iso keep r d = (nI n, addC (recI X hh k 1) 1 n iso keep r d 0, recF F hh k) := by
    unfold xBuild
    rw [if_pos g1, if_pos g2, if_pos (by rw [en]; exact nI_lt (b := 8) hn (by omega)), recI_fr hb k6 (by omega), en]
  rw [ex] at c4
  dsimp only at c4
  have e2 : ∀ x, x = 0 ∨ 12 ≤ x → addC (recI X hh k 1) 1 n iso keep r d 0 x = recI X hh k 1 x := fun x hx => addC_ne (by omega)
  exact ⟨_, _, c4, CR.rec hl hb k6 (by rw [e2 37 (by omega)]) (RR_build (RR_recI hb k6 hR) hn (isW_19 g1)), fun x hx => by rw [e2 x (by omega), recI_fr hb k6 (by omega)]⟩
theorem c_link_eq (h : CR X F J n w) {i : Nat} (hi : i < n) (b : Int32) : CtF l E mX4_link [rf E 0, .int (nI i), .int (nI i), .int b] NT X F NT (some (.int (-2))) X F := by
  obtain ⟨hh, k, hl, hb, k6, e37, hR⟩ := h
  have n8 := hR.1.1.1
  have x1 := hasC_n hR.1 hi
  have c4 := tX4_link (l := l) (E := E) hl hb k6 e37 (show i < 8 by omega) x1 x1 b
  have ex : xLink X F hh k i i b = (-2, X, F) := if_pos rfl
  rw [ex] at c4
  dsimp only at c4
  exact c4
theorem c_link (h : CR X F J n w) {i j : Nat} (hi : i < n) (hj : j < n) (hij : i ≠ j) {b : Int32} (hb2 : ¬ bi (bt (pt J i 6) j) = b) : ∃ (X2 : Mi) (F2 : Mr), CtF l E mX4_link [rf E 0, .int (nI i), .int (nI j), .int b] NT X F NT (some (.int (pt J i 6 ^^^ ((1 : Int32) <<< (nI j &&& 31))))) X2 F2 ∧ CR X2 F2 (sp J i 6 (pt J i 6 ^^^ ((1 : Int32) <<< (nI j &&& 31)))) n w ∧ ∀ x, 105 ≤ x → X2 x = X x := by
  obtain ⟨hh, k, hl, hb, k6, e37, hR⟩ := h
  have n8 := hR.1.1.1
  have c4 := tX4_link (l := l) (E := E) hl hb k6 e37 (show i < 8 by omega) (hasC_n hR.1 hi) (hasC_n hR.1 hj) b
  have e3r : X (1 + 3) i = pt J i 6 := (hR.1.1.2.2.1 i hi).1.2.2.1
  have eis : isI (X (1 + 3) i) (nI j) = bt (pt J i 6) j := by rw [isI_bt _ (by omega), e3r]
  have eX : recI X hh k 1 (1 + 3) i = X (1 + 3) i := by rw [recI_fr hb k6 (by omega)]
  have g1 : ¬ nI i = nI j := fun z => hij ((nI_eq (by omega) (by omega)).mp z)
  have ex : xLink X F hh k i j b = (pt J i 6 ^^^ ((1 : Int32) <<< (nI j &&& 31)), up (recI X hh k 1) (1 + 3) i (pt J i 6 ^^^ ((1 : Int32) <<< (nI j &&& 31))), recF F hh k) := by
    unfold xLink
    rw [if_neg g1, eis, if_neg hb2, eX, e3r, ucs]
  rw [ex] at c4
  dsimp only at c4
  generalize hv : pt J i 6 ^^^ ((1 : Int32) <<< (nI j &&& 31)) = v at c4
  refine ⟨_, _, c4, CR.rec hl hb k6 (by rw [up_ne (show (37 : Nat) ≠ 1 + 3 by omega)]) (RR_rd (RR_recI hb k6 hR) hi (fun z z1 z2 => ?_)), fun x hx => by rw [up_ne (show x ≠ 1 + 3 by omega), recI_fr hb k6 (by omega)]⟩
  have := (hR.1.1.2.2.1 i hi).2.2.2 z z1 z2
  rw [e3r] at this
  rw [← hv, bt_xor, this, show ((1 : Int32) <<< (nI j &&& 31)) = sh1 j from rfl, bt_sh1 (by omega), decide_eq_false (by omega)]
  rfl
theorem c_value (h : CR X F J n w) {i v : Nat} (hi : i < n) (hv : v < 256) : (pt J i 7 = 0 → ∃ (X2 : Mi) (F2 : Mr), CtF l E mX4_value [rf E 0, .int (nI i), .int (nI v)] NT X F NT (some (.int (pt J i 4))) X2 F2 ∧ CR X2 F2 (sp J i 4 (nI v)) n w ∧ ∀ x, 105 ≤ x → X2 x = X x) ∧ (¬ pt J i 7 = 0 → CtF l E mX4_value [rf E 0, .int (nI i), .int (nI v)] NT X F NT (some (.int (-5))) X F) := by
  obtain ⟨hh, k, hl, hb, k6, e37, hR⟩ := h
  have n8 := hR.1.1.1
  have c4 := tX4_value (l := l) (E := E) hl hb k6 e37 (show i < 8 by omega) (hasC_n hR.1 hi) (nI v)
  have e4r : X (1 + 4) i = pt J i 7 := (hR.1.1.2.2.1 i hi).1.2.2.2.1
  have e5r : X (1 + 5) i = pt J i 4 := (hR.2.2.1 i hi).2.1.1
  have g1 : isW (nI v) 0 255 = true := by
    unfold isW
    simp only [Bool.and_eq_true, decide_eq_true_eq]
    exact ⟨nI_pos (by omega), nI_nlt (a := 255) (by omega) (by omega)⟩
  refine ⟨fun c => ?_, fun c => ?_⟩
  · have ex : xValue X F hh k i (nI v) = (pt J i 4, up (recI X hh k 1) (1 + 5) i (nI v), recF F hh k) := by
      unfold xValue
      rw [if_pos g1, if_pos (e4r.trans c), recI_fr hb k6 (by omega), e5r]
    rw [ex] at c4
    dsimp only at c4
    exact ⟨_, _, c4, CR.rec hl hb k6 (by rw [up_ne (show (37 : Nat) ≠ 1 + 5 by omega)]) (RR_val (RR_recI hb k6 hR) hi ⟨v, hv, rfl⟩), fun x hx => by rw [up_ne (show x ≠ 1 + 5 by omega), recI_fr hb k6 (by omega)]⟩
  · have ex : xValue X F hh k i (nI v) = (-5, X, F) := by
      unfold xValue
      rw [if_pos g1, if_neg (fun z => c (e4r.symm.trans z))]
    rw [ex] at c4
    dsimp only at c4
    exact c4
theorem c_sleep (h : CR X F J n w) {i : Nat} (hi : i < n) : (pt J i 7 = 0 → ∃ (X2 : Mi) (F2 : Mr), CtF l E mX4_sleep [rf E 0, .int (nI i)] NT X F NT (some (.int (bitM (arM (sp J i 7 1) n (nI i))))) X2 F2 ∧ CR X2 F2 (sp J i 7 1) n w ∧ ∀ x, 105 ≤ x → X2 x = X x) ∧ (¬ pt J i 7 = 0 → CtF l E mX4_sleep [rf E 0, .int (nI i)] NT X F NT (some (.int (-5))) X F) := by
  obtain ⟨hh, k, hl, hb, k6, e37, hR⟩ := h
  have n8 := hR.1.1.1
  have c4 := tX4_sleep (l := l) (E := E) hl hb k6 e37 (show i < 8 by omega) (hasC_n hR.1 hi)
  have e4r : X (1 + 4) i = pt J i 7 := (hR.1.1.2.2.1 i hi).1.2.2.2.1
  refine ⟨fun c => ?_, fun c => ?_⟩
  · have ex : xSleep X F hh k i = (bcJ (readC (up (recI X hh k 1) (1 + 4) i 1) 1 (nI i) &&& setC (up (recI X hh k 1) (1 + 4) i 1) 1 0), up (recI X hh k 1) (1 + 4) i 1, recF F hh k) := if_pos (e4r.trans c)
    rw [ex] at c4
    dsimp only at c4
    have hop := RR_fall1 1 (RR_recI hb k6 hR) hi (by rw [recI_fr hb k6 (by omega)]; exact e4r.trans c)
    have ea : bcJ (readC (up (recI X hh k 1) (1 + 4) i 1) 1 (nI i) &&& setC (up (recI X hh k 1) (1 + 4) i 1) 1 0) = bitM (arM (sp J i 7 1) n (nI i)) := by
      rw [RS_reads hop.1 (show i < 8 by omega), RS_set hop.1 (by decide)]
      unfold arM
      rw [rdsM_un, setM_un]
      exact bc_and _ _ n n8
    rw [ea] at c4
    exact ⟨_, _, c4, CR.rec hl hb k6 (by rw [up_ne (show (37 : Nat) ≠ 1 + 4 by omega)]) hop, fun x hx => by rw [up_ne (show x ≠ 1 + 4 by omega), recI_fr hb k6 (by omega)]⟩
  · have ex : xSleep X F hh k i = (-5, X, F) := if_neg (fun z => c (e4r.symm.trans z))
    rw [ex] at c4
    dsimp only at c4
    exact c4
theorem c_wake (h : CR X F J n w) {i : Nat} (hi : i < n) : (pt J i 7 = 2 → ∃ (X2 : Mi) (F2 : Mr), CtF l E mX4_wake [rf E 0, .int (nI i)] NT X F NT (some (.int (nI (w + 1)))) X2 F2 ∧ CR X2 F2 (wtM J i w) n (w + 1) ∧ ∀ x, 105 ≤ x → X2 x = X x) ∧ (¬ pt J i 7 = 2 → CtF l E mX4_wake [rf E 0, .int (nI i)] NT X F NT (some (.int (-5))) X F) := by
  obtain ⟨hh, k, hl, hb, k6, e37, hR⟩ := h
  have n8 := hR.1.1.1
  have c4 := tX4_wake (l := l) (E := E) hl hb k6 e37 (show i < 8 by omega) (hasC_n hR.1 hi)
  have e4r : X (1 + 4) i = pt J i 7 := (hR.1.1.2.2.1 i hi).1.2.2.2.1
  refine ⟨fun c => ?_, fun c => ?_⟩
  · have ex : xWake X F hh k i = (otwC (recI X hh k 1) 1 i 1 12, otwC (recI X hh k 1) 1 i, recF F hh k) := if_pos (e4r.trans c)
    rw [ex] at c4
    dsimp only at c4
    obtain ⟨hw, hop⟩ := RR_ord (RR_recI hb k6 hR) hi (by rw [recI_fr hb k6 (by omega)]; exact e4r.trans c)
    rw [hop.1.2.2.1.1] at c4
    exact ⟨_, _, c4, CR.rec hl hb k6 (by rw [otwC_fr (by omega)]) hop, fun x hx => by rw [otwC_fr (by omega), recI_fr hb k6 (by omega)]⟩
  · have ex : xWake X F hh k i = (-5, X, F) := if_neg (fun z => c (e4r.symm.trans z))
    rw [ex] at c4
    dsimp only at c4
    exact c4
theorem c_set0 (h : CR X F J n w) {y : Int32} (g : isW y 1 60 = true) : ∃ (X2 : Mi) (F2 : Mr), CtF l E mX4_set [rf E 0, .int 0, .int y] NT X F NT (some (.int (J 128 0))) X2 F2 ∧ CR X2 F2 (up J 128 0 y) n w ∧ ∀ x, 105 ≤ x → X2 x = X x := by
  obtain ⟨hh, k, hl, hb, k6, e37, hR⟩ := h
  have c4 := tX4_set (l := l) (E := E) hl hb k6 e37 0 y
  have hs := RR_recI hb k6 hR
  have ex : xSet X F hh k 0 y = (J 128 0, up (recI X hh k 1) 1 13 y, recF F hh k) := by
    unfold xSet xSetC
    rw [if_pos rfl, if_pos g, hs.1.1.2.1.2.2.1]
  rw [ex] at c4
  dsimp only at c4
  exact ⟨_, _, c4, CR.rec hl hb k6 (by rw [up_ne (show (37 : Nat) ≠ 1 by omega)]) (RR_set0 hs), fun x hx => by rw [up_ne (show x ≠ 1 by omega), recI_fr hb k6 (by omega)]⟩
theorem c_set1 (h : CR X F J n w) {y : Int32} (g : isW y 0 1 = true) : ∃ (X2 : Mi) (F2 : Mr), CtF l E mX4_set [rf E 0, .int 1, .int y] NT X F NT (some (.int (J 128 1))) X2 F2 ∧ CR X2 F2 (up J 128 1 y) n w ∧ ∀ x, 105 ≤ x → X2 x = X x := by
  obtain ⟨hh, k, hl, hb, k6, e37, hR⟩ := h
  have c4 := tX4_set (l := l) (E := E) hl hb k6 e37 1 y
  have hs := RR_recI hb k6 hR
  have ex : xSet X F hh k 1 y = (J 128 1, up (recI X hh k 1) 1 14 y, recF F hh k) := by
    unfold xSet xSetA
    rw [if_neg (by decide), if_pos rfl, if_pos g, hs.1.1.2.1.2.2.2]
  rw [ex] at c4
  dsimp only at c4
  exact ⟨_, _, c4, CR.rec hl hb k6 (by rw [up_ne (show (37 : Nat) ≠ 1 by omega)]) (RR_set1 hs), fun x hx => by rw [up_ne (show x ≠ 1 by omega), recI_fr hb k6 (by omega)]⟩
theorem c_pass (h : CR X F J n w) {t : Nat} (h1 : 1 ≤ t) (h2 : t ≤ 200) : ∃ (X2 : Mi) (F2 : Mr) (w2 : Nat), CtF l E mX4_pass [rf E 0, .int (nI t)] NT X F NT (some (.int (psM J t 128 4 - J 128 4))) X2 F2 ∧ CR X2 F2 (psM J t) n w2 ∧ ∀ x, 105 ≤ x → X2 x = X x := by
  obtain ⟨hh, k, hl, hb, k6, e37, hR⟩ := h
  have g : isW (nI t) 1 200 = true := by
    unfold isW
    simp only [Bool.and_eq_true, decide_eq_true_eq]
    exact ⟨nI_nlt (b := 1) h1 (by omega), nI_nlt (a := 200) (by omega) (by omega)⟩
  have c4 := tX4_pass (l := l) (E := E) hl hb k6 e37 (show t < 2147483648 by omega) g
  have hs := RR_recI hb k6 hR
  obtain ⟨⟨w2, hop⟩, -⟩ := RR_pass hs t
  have ex : xPass X F hh k t = (psM J t 128 4 - J 128 4, passC (recI X hh k 1) 1 t, recF F hh k) := by
    unfold xPass
    rw [hop.2.1.2.2.2, hs.2.1.2.2.2]
  rw [ex] at c4
  dsimp only at c4
  exact ⟨_, _, w2, c4, CR.rec hl hb k6 (by rw [passC_fr (by omega) t]) hop, fun x hx => by rw [passC_fr (by omega) t, recI_fr hb k6 (by omega)]⟩
end CO
/-- a new island in the law's numbers -/
def bldL (I : Mi) (n : Nat) (x1 x2 x3 x4 : Int32) : Mi := up (up (up (up (lp (fun k J => up J 128 (12 * n + k) 0) 12 I) 128 (12 * n) x1) 128 (12 * n + 1) x2) 128 (12 * n + 2) x3) 128 (12 * n + 3) x4
theorem bldL_at (I : Mi) (n : Nat) (x1 x2 x3 x4 : Int32) : (∀ x, x ≠ 128 → bldL I n x1 x2 x3 x4 x = I x) ∧ (∀ p, p < 12 → bldL I n x1 x2 x3 x4 128 (12 * n + p) = if p = 0 then x1 else if p = 1 then x2 else if p = 2 then x3 else if p = 3 then x4 else 0) ∧ ∀ i p, i < n → p < 12 → bldL I n x1 x2 x3 x4 128 (12 * i + p) = I 128 (12 * i + p) := by
  have h : ∀ m, (∀ x, x ≠ 128 → lp (fun k J => up J 128 (12 * n + k) 0) m I x = I x) ∧ (∀ p, p < m → lp (fun k J => up J 128 (12 * n + k) 0) m I 128 (12 * n + p) = 0) ∧ ∀ y, y < 12 * n → lp (fun k J => up J 128 (12 * n + k) 0) m I 128 y = I 128 y := fun m =>
    lp_ind (fun (m : Nat) (J : Mi) => (∀ x, x ≠ 128 → J x = I x) ∧ (∀ p, p < m → J 128 (12 * n + p) = 0) ∧ ∀ y, y < 12 * n → J 128 y = I 128 y) ⟨fun _ _ => rfl, fun p hp => absurd hp (Nat.not_lt_zero p), fun _ _ => rfl⟩ (fun k J hk ih => by
      obtain ⟨h1, h2, h3⟩ := ih
      refine ⟨fun x hx => (up_ne hx).trans (h1 x hx), fun p hp => ?_, fun y hy => ?_⟩
      · rw [uc4]
        by_cases c : p = k
        · rw [if_pos (by omega)]
        · rw [if_neg (by omega)]; exact h2 p (by omega)
      · rw [uc4, if_neg (by omega)]; exact h3 y hy)
  obtain ⟨h1, h2, h3⟩ := h 12
  unfold bldL
  refine ⟨fun x hx => by rw [up_ne hx, up_ne hx, up_ne hx, up_ne hx]; exact h1 x hx, fun p hp => ?_, fun i p hi hp => ?_⟩
  · rw [uc4, uc4, uc4, uc4]
    by_cases c3 : p = 3
    · subst c3; rw [if_pos rfl]; rfl
    · rw [if_neg (by omega)]
      by_cases c2 : p = 2
      · subst c2; rw [if_pos rfl]; rfl
      · rw [if_neg (by omega)]
        by_cases c1 : p = 1
        · subst c1; rw [if_pos rfl]; rfl
        · rw [if_neg (by omega)]
          by_cases c0 : p = 0
          · subst c0; rw [if_pos (by omega)]; rfl
          · rw [if_neg (by omega), if_neg c0, if_neg c1, if_neg c2, if_neg c3]
            exact h2 p hp
  · rw [uc4, if_neg (by omega), uc4, if_neg (by omega), uc4, if_neg (by omega), uc4, if_neg (by omega)]
    exact h3 _ (by omega)
theorem LG_build {I X J : Mi} {n w O : Nat} {x1 x2 x3 : Int32} {v : Nat} (h : LG I 127 J n w O) (hn : n < 5) (hv : v < 256) (h127 : ∀ y, X 127 y = if y = 2 then nI (n + 1) else I 127 y) (h128 : ∀ y, X 128 y = bldL I n x1 x2 x3 (nI v) 128 y) : LG X 127 (cmM J n x1 x2 x3 (nI v) 0) (n + 1) w O := by
  obtain ⟨c2, clo, cold, cnew⟩ := cmM_f J n x1 x2 x3 (nI v) 0
  obtain ⟨-, bnew, bold⟩ := bldL_at I n x1 x2 x3 (nI v)
  obtain ⟨⟨n5, w8, e2, e7, eO⟩, hr, ⟨q, o, q1, q2, q3, q4⟩, hV⟩ := h
  have sold : ∀ i p, i < n → p < 12 → sL X 127 i p = sL I 127 i p := fun i p hi hp => (h128 _).trans (bold i p hi hp)
  have snew : ∀ p, p < 12 → sL X 127 n p = if p = 0 then x1 else if p = 1 then x2 else if p = 2 then x3 else if p = 3 then nI v else 0 := fun p hp => (h128 _).trans (bnew p hp)
  have pold : ∀ i p, i < n → p < 10 → pt (cmM J n x1 x2 x3 (nI v) 0) i p = pt J i p := fun i p hi hp => cold i p (by omega) hp
  have pnew : ∀ p, p < 10 → pt (cmM J n x1 x2 x3 (nI v) 0) n p = if p = 0 then x1 else if p = 1 then x2 else if p = 2 then x3 else if p = 3 then nI v else 0 := fun p hp => by
    refine (cnew p hp).trans ?_
    by_cases c6 : p = 6
    · subst c6; rfl
    · simp only [if_neg c6]
  refine ⟨⟨by omega, w8, c2, (clo 7 (by omega) (by omega)).trans e7, by rw [h127 7, if_neg (by omega)]; exact eO⟩, ⟨fun y hy => ?_, fun i hi p hp => ?_⟩, ⟨q, o, fun k hk => ?_, q2, q3, fun i hi h3 => ?_⟩, fun i hi => ?_⟩
  · rw [h127 y]
    by_cases c : y = 2
    · subst c; rw [if_pos rfl, c2]
    · rw [if_neg c, clo y (by omega) c]; exact hr.1 y hy
  · by_cases c : i < n
    · rw [sold i p c (by omega), pold i p c hp]; exact hr.2 i c p hp
    · obtain rfl : i = n := by omega
      rw [snew p (by omega), pnew p hp]
  · obtain ⟨a1, a2, a3, a4⟩ := q1 k hk
    exact ⟨(clo _ (by omega) (by omega)).trans a1, by omega, (pold _ 7 a2 (by omega)).trans a3, (sold _ 10 a2 (by omega)).trans a4⟩
  · by_cases c : i < n
    · rw [pold i 7 c (by omega)] at h3
      exact q4 i c h3
    · obtain rfl : i = n := by omega
      rw [pnew 7 (by omega)] at h3
      exact absurd (show (0 : Int32) = 3 from h3) (by decide)
  · by_cases c : i < n
    · rw [pold i 4 c (by omega), pold i 5 c (by omega), pold i 3 c (by omega), pold i 7 c (by omega)]
      exact hV i c
    · obtain rfl : i = n := by omega
      rw [pnew 4 (by omega), pnew 5 (by omega), pnew 3 (by omega), pnew 7 (by omega)]
      exact ⟨⟨0, by omega, rfl⟩, ⟨0, by omega, rfl⟩, ⟨v, hv, rfl⟩, 0, by omega, rfl⟩
/-- what stands between two acts -/
def MI (I : Mi) (F : Mr) (n O : Nat) : Prop := ∃ J w, CR I F J n w ∧ LG I 127 J n w O
theorem MI.of {X : Mi} {F : Mr} {J : Mi} {n w w2 O O2 : Nat} (h : CR X F J n w) (g : LG X 127 J n w2 O) (hO : O ≤ O2) (hw : w = w2 ∨ J 128 7 = nI w) : ∃ O3, O3 ≤ O2 ∧ MI X F n O3 := by
  have e : w = w2 := by
    rcases hw with e | e
    · exact e
    · obtain ⟨_, _, _, _, _, _, hR⟩ := h
      have := hR.1.2.1
      exact (nI_eq (by omega) (by have := g.1.2.1; omega)).mp (e.symm.trans g.1.2.2.2.1)
  subst e
  exact ⟨O, hO, J, w, h, g⟩
theorem MI.rel {X : Mi} {F : Mr} {n O : Nat} (h : MI X F n O) : ∃ J w, LY F ∧ REL X J n w O := by
  obtain ⟨J, w, ⟨hh, k, hl, hb, k6, e, hR⟩, g⟩ := h
  exact ⟨J, w, hl, hR, g⟩
theorem MI.ke {X I : Mi} {F : Mr} {n O : Nat} (h : MI I F n O) (hk : KE X I) : MI X F n O := by
  obtain ⟨J, w, h1, h2⟩ := h
  exact ⟨J, w, h1.up (fun x hx => hk x (by omega)), h2.same (fun y _ => by rw [hk 127 (by omega)]) (fun y _ => by rw [hk 128 (by omega)]) (fun _ _ => rfl)⟩
theorem a01 : ∀ a, a < 2 → ¬ nI a = 1 → (0 : Int32) = nI a := by decide
theorem c_buildN {l : Launch} {E : EE} {X J : Mi} {F : Mr} {n w : Nat} (h : CR X F J n w) (hn : n < 8) {a1 a2 : Nat} (h1 : a1 < 2) (h2 : a2 < 2) {iso keep : Int32} (e1 : iso = nI a1) (e2 : keep = nI a2) {a3 a4 : Nat} (g1 : 1 ≤ a3 ∧ a3 ≤ 9) (g2 : 1 ≤ a4 ∧ a4 ≤ 20) : ∃ (X2 : Mi) (F2 : Mr), CtF l E mX4_build [rf E 0, .int iso, .int keep, .int (nI a3), .int (nI a4)] NT X F NT (some (.int (nI n))) X2 F2 ∧ CR X2 F2 (cmM J n (nI a1) (nI a2) (nI a3) (nI a4) 0) (n + 1) w ∧ ∀ x, 105 ≤ x → X2 x = X x := by
  have q1 : isW (nI a3) 1 9 = true := by
    unfold isW
    simp only [Bool.and_eq_true, decide_eq_true_eq]
    exact ⟨nI_nlt (b := 1) g1.1 (by omega), nI_nlt (a := 9) g1.2 (by omega)⟩
  have q2 : isW (nI a4) 1 20 = true := by
    unfold isW
    simp only [Bool.and_eq_true, decide_eq_true_eq]
    exact ⟨nI_nlt (b := 1) g2.1 (by omega), nI_nlt (a := 20) g2.2 (by omega)⟩
  obtain ⟨X2, F2, c, hc, hf⟩ := c_build (l := l) (E := E) (iso := iso) (keep := keep) h hn q1 q2
  have e : ∀ a, a < 2 → (if nI a = 0 then (0 : Int32) else 1) = nI a := by decide
  rw [e1, e2, e a1 h1, e a2 h2] at hc
  exact ⟨X2, F2, c, hc, hf⟩
/-- what each act leaves -/
theorem m_build {I Y X : Mi} {F2 : Mr} {J : Mi} {n w O : Nat} {x1 x2 x3 : Int32} {v : Nat} (h : LG I 127 J n w O) (hn : n < 5) (hv : v < 256) (hY : Y = bldL I n x1 x2 x3 (nI v)) (hc : CR X F2 (cmM J n x1 x2 x3 (nI v) 0) (n + 1) w) (hf : ∀ x, 105 ≤ x → X x = Y x) : MI (up X 127 2 (nI n + 1)) F2 (n + 1) O := by
  obtain ⟨b1, -, -⟩ := bldL_at I n x1 x2 x3 (nI v)
  refine ⟨_, w, hc.up (fun x hx => up_ne (by omega)), LG_build h hn hv (fun y => ?_) (fun y => ?_)⟩
  · rw [uc4, nI_1]
    by_cases c : y = 2
    · rw [if_pos c, if_pos c]
    · rw [if_neg c, if_neg c, hf 127 (by omega), hY, b1 127 (by omega)]
  · rw [up_ne (show (128 : Nat) ≠ 127 by omega), hf 128 (by omega), hY]
theorem LG.law {I X J : Mi} {n w O : Nat} (h : LG I 127 J n w O) (h1 : X 127 = I 127) (h2 : X 128 = I 128) : LG X 127 J n w O := h.same (fun y _ => by rw [h1]) (fun y _ => by rw [h2]) (fun _ _ => rfl)
theorem has_iff (x : Int32) {j : Nat} (hj : j < 32) : ((x >>> (nI j &&& 31)) &&& 1 = 1) ↔ bt x j = true := by
  rw [and1, bt_shr x hj (by omega), Nat.zero_add]
  cases bt x j <;> simp
theorem up_self (I : Mi) (k y : Nat) : up I k y (I k y) = I := by
  funext a c
  unfold up
  by_cases h : a = k ∧ c = y
  · rw [if_pos h, h.1, h.2]
  · rw [if_neg h]
theorem and_le5 {x : Int32} {m : Nat} (hm : m < 32) : ∃ v, v < 32 ∧ x &&& nI m = nI v := by
  have h : ∀ m, m < 256 → (nI m).toBitVec.toNat = m := by decide +kernel
  have h2 : (x &&& nI m).toBitVec.toNat ≤ m := by
    rw [Int32.toBitVec_and, BitVec.toNat_and, h m (by omega)]
    exact Nat.and_le_right
  refine ⟨(x &&& nI m).toBitVec.toNat, by omega, ?_⟩
  apply Int32.toBitVec_inj.mp
  apply BitVec.eq_of_toNat_eq
  rw [h _ (by omega)]
theorem bits_sleep {X J : Mi} {n w O i : Nat} (g : LG X 127 J n w O) (hi : i < n) : (∃ v, v < 32 ∧ rdsL X 127 n (nI i) &&& setL X 127 n 0 = nI v) ∧ bitM (arM J n (nI i)) = bitR 6 (rdsL X 127 n (nI i) &&& setL X 127 n 0) 0 := by
  have n5 := g.1.1
  obtain ⟨m, hm, em⟩ := setL_lt X 127 n5 0
  obtain ⟨v, hv, ev⟩ := and_le5 (x := rdsL X 127 n (nI i)) hm
  rw [← em] at ev
  refine ⟨⟨v, hv, ev⟩, ?_⟩
  unfold arM
  rw [← rdsL_M (by omega) g.2.1 (show i < 8 by omega), ← setL_M g.2.1, ev, bitR_bc v hv, bc_bit v (by omega)]
