/-! reading texts: the class sign by sign, the reference by its grammar -/
def rg (I : Mi) (s u1 u2 u3 u4 u5 : Int32) : Mi := fun x y => if x = 25 then (if y = 1 then s else if y = 2 then u1 else if y = 3 then u2 else if y = 4 then u3 else if y = 5 then u4 else if y = 6 then u5 else I x y) else I x y
theorem rg_1 (I : Mi) (s u1 u2 u3 u4 u5 v : Int32) : up (rg I s u1 u2 u3 u4 u5) 25 1 v = rg I v u1 u2 u3 u4 u5 := by
  funext x y; unfold up rg; by_cases hx : x = 25 <;> by_cases hy : y = 1 <;> simp [hx, hy]
theorem rg_2 (I : Mi) (s u1 u2 u3 u4 u5 v : Int32) : up (rg I s u1 u2 u3 u4 u5) 25 2 v = rg I s v u2 u3 u4 u5 := by
  funext x y; unfold up rg; by_cases hx : x = 25 <;> by_cases hy : y = 2 <;> simp [hx, hy]
theorem rg_3 (I : Mi) (s u1 u2 u3 u4 u5 v : Int32) : up (rg I s u1 u2 u3 u4 u5) 25 3 v = rg I s u1 v u3 u4 u5 := by
  funext x y; unfold up rg; by_cases hx : x = 25 <;> by_cases hy : y = 3 <;> simp [hx, hy]
theorem rg_4 (I : Mi) (s u1 u2 u3 u4 u5 v : Int32) : up (rg I s u1 u2 u3 u4 u5) 25 4 v = rg I s u1 u2 v u4 u5 := by
  funext x y; unfold up rg; by_cases hx : x = 25 <;> by_cases hy : y = 4 <;> simp [hx, hy]
theorem rg_5 (I : Mi) (s u1 u2 u3 u4 u5 v : Int32) : up (rg I s u1 u2 u3 u4 u5) 25 5 v = rg I s u1 u2 u3 v u5 := by
  funext x y; unfold up rg; by_cases hx : x = 25 <;> by_cases hy : y = 5 <;> simp [hx, hy]
theorem rg_6 (I : Mi) (s u1 u2 u3 u4 u5 v : Int32) : up (rg I s u1 u2 u3 u4 u5) 25 6 v = rg I s u1 u2 u3 u4 v := by
  funext x y; unfold up rg; by_cases hx : x = 25 <;> by_cases hy : y = 6 <;> simp [hx, hy]
theorem rg_ne {I : Mi} {s u1 u2 u3 u4 u5 : Int32} {x : Nat} (h : x ≠ 25) : rg I s u1 u2 u3 u4 u5 x = I x := by funext y; unfold rg; rw [if_neg h]
theorem rg_o {I : Mi} {s u1 u2 u3 u4 u5 v : Int32} {k j : Nat} (h : k ≠ 25) : up (rg I s u1 u2 u3 u4 u5) k j v = rg (up I k j v) s u1 u2 u3 u4 u5 := by
  funext x y; unfold up rg
  by_cases hx : x = 25
  · have : 25 ≠ k := fun e => h e.symm
    simp [hx, this]
  · simp [hx]
theorem rg_r1 (I : Mi) (s u1 u2 u3 u4 u5 : Int32) : rg I s u1 u2 u3 u4 u5 25 1 = s := by simp [rg]
theorem rg_r2 (I : Mi) (s u1 u2 u3 u4 u5 : Int32) : rg I s u1 u2 u3 u4 u5 25 2 = u1 := by simp [rg]
theorem rg_r3 (I : Mi) (s u1 u2 u3 u4 u5 : Int32) : rg I s u1 u2 u3 u4 u5 25 3 = u2 := by simp [rg]
theorem rg_r4 (I : Mi) (s u1 u2 u3 u4 u5 : Int32) : rg I s u1 u2 u3 u4 u5 25 4 = u3 := by simp [rg]
theorem rg_r5 (I : Mi) (s u1 u2 u3 u4 u5 : Int32) : rg I s u1 u2 u3 u4 u5 25 5 = u4 := by simp [rg]
theorem rg_r6 (I : Mi) (s u1 u2 u3 u4 u5 : Int32) : rg I s u1 u2 u3 u4 u5 25 6 = u5 := by simp [rg]
theorem rg_self (I : Mi) (v : Int32) : begI I = rg I 0 0 0 0 0 0 := by
  funext x y; unfold begI up rg
  by_cases hx : x = 25
  · by_cases h1 : y = 1 <;> by_cases h2 : y = 2 <;> by_cases h3 : y = 3 <;> by_cases h4 : y = 4 <;> by_cases h5 : y = 5 <;> by_cases h6 : y = 6 <;> simp [hx, h1, h2, h3, h4, h5, h6]
  · simp [hx]
theorem rg_beg (I : Mi) (s u1 u2 u3 u4 u5 : Int32) : begI (rg I s u1 u2 u3 u4 u5) = rg I 0 0 0 0 0 0 := by
  unfold begI
  rw [rg_1, rg_2, rg_3, rg_4, rg_5, rg_6]
theorem rg_add (I : Mi) (s u1 u2 u3 u4 u5 : Int32) (n : Nat) (iso keep r d m : Int32) : addC (rg I s u1 u2 u3 u4 u5) 26 n iso keep r d m = rg (addC I 26 n iso keep r d m) s u1 u2 u3 u4 u5 := by
  unfold addC
  dsimp only
  rw [rg_ne (show (26 : Nat) ≠ 25 by omega), rg_o (show (26 : Nat) ≠ 25 by omega)]
  by_cases h1 : iso = 0
  · rw [if_pos h1, if_pos h1]
    by_cases h2 : keep = 0
    · rw [if_pos h2, if_pos h2, rg_o (by omega), rg_o (by omega), rg_o (by omega), rg_o (by omega)]
    · rw [if_neg h2, if_neg h2, rg_ne (show (26 : Nat) ≠ 25 by omega), rg_o (by omega), rg_o (by omega), rg_o (by omega), rg_o (by omega), rg_o (by omega)]
  · rw [if_neg h1, if_neg h1, rg_ne (show (26 : Nat) ≠ 25 by omega), rg_o (by omega)]
    by_cases h2 : keep = 0
    · rw [if_pos h2, if_pos h2, rg_o (by omega), rg_o (by omega), rg_o (by omega), rg_o (by omega)]
    · rw [if_neg h2, if_neg h2, rg_ne (show (26 : Nat) ≠ 25 by omega), rg_o (by omega), rg_o (by omega), rg_o (by omega), rg_o (by omega), rg_o (by omega)]
/-! one sign, step by step -/
theorem tkRise_rg (I : Mi) (s u1 u2 u3 u4 u5 x : Int32) : tkRise (rg I s u1 u2 u3 u4 u5) x = if x < 49 then (false, rg I s u1 u2 u3 u4 u5) else if x ≤ 57 then (true, rg I 3 u1 u2 (x - 48) u4 u5) else (false, rg I s u1 u2 u3 u4 u5) := by
  unfold tkRise
  rw [rg_4, rg_1]
theorem tk_0 (I : Mi) (u1 u2 u3 u4 u5 x : Int32) : tk (rg I 0 u1 u2 u3 u4 u5) x = if x = 105 then (true, rg I 1 1 u2 u3 u4 u5) else if x = 107 then (true, rg I 2 u1 1 u3 u4 u5) else tkRise (rg I 0 u1 u2 u3 u4 u5) x := by
  unfold tk tkC
  rw [rg_r1, swf_at (show (0 : Int32) = nI 0 from rfl) (by omega) (by omega)]
  try dsimp only
  unfold orT tkIso tkKeep
  by_cases h1 : x = 105
  · simp only [if_pos h1, if_true]; rw [rg_2, rg_1]
  · simp only [if_neg h1, Bool.false_eq_true, if_false]
    by_cases h2 : x = 107
    · simp only [if_pos h2, if_true]; rw [rg_3, rg_1]
    · simp only [if_neg h2, Bool.false_eq_true, if_false]
theorem tk_1 (I : Mi) (u1 u2 u3 u4 u5 x : Int32) : tk (rg I 1 u1 u2 u3 u4 u5) x = if x = 107 then (true, rg I 2 u1 1 u3 u4 u5) else tkRise (rg I 1 u1 u2 u3 u4 u5) x := by
  unfold tk tkC
  rw [rg_r1, swf_at (show (1 : Int32) = nI 1 from rfl) (by omega) (by omega)]
  try dsimp only
  unfold orT tkKeep
  by_cases h2 : x = 107
  · simp only [if_pos h2, if_true]; rw [rg_3, rg_1]
  · simp only [if_neg h2, Bool.false_eq_true, if_false]
theorem tk_2 (I : Mi) (u1 u2 u3 u4 u5 x : Int32) : tk (rg I 2 u1 u2 u3 u4 u5) x = tkRise (rg I 2 u1 u2 u3 u4 u5) x := by
  unfold tk tkC
  rw [rg_r1, swf_at (show (2 : Int32) = nI 2 from rfl) (by omega) (by omega)]
  try dsimp only
  rfl
theorem tk_3 (I : Mi) (u1 u2 u3 u4 u5 x : Int32) : tk (rg I 3 u1 u2 u3 u4 u5) x = if x = 44 then (true, rg I 4 u1 u2 u3 u4 u5) else (false, rg I 3 u1 u2 u3 u4 u5) := by
  unfold tk tkC
  rw [rg_r1, swf_at (show (3 : Int32) = nI 3 from rfl) (by omega) (by omega)]
  try dsimp only
  show tkComma (rg I 3 u1 u2 u3 u4 u5) x = _
  unfold tkComma
  rw [rg_1]
/-- may a sign go on with a load v -/
def ldo (v x : Int32) : Bool := decide (¬ x < 48) && (decide (x ≤ 57) && isW (v * 10 + (x - 48)) 1 20)
theorem tkLoad_rg (I : Mi) (s u1 u2 u3 u4 u5 x : Int32) : tkLoad (rg I s u1 u2 u3 u4 u5) x = if ldo u4 x = true then (true, rg I 5 u1 u2 u3 (u4 * 10 + (x - 48)) u5) else (false, rg I s u1 u2 u3 u4 u5) := by
  unfold tkLoad ldo
  rw [rg_r5, rg_5, rg_1]
  by_cases h1 : x < 48
  · simp [h1]
  · by_cases h2 : x ≤ 57
    · by_cases h3 : isW (u4 * 10 + (x - 48)) 1 20 = true
      · simp [h1, h2, h3]
      · simp [h1, h2, h3]
    · simp [h1, h2]
theorem tk_4 (I : Mi) (u1 u2 u3 u4 u5 x : Int32) : tk (rg I 4 u1 u2 u3 u4 u5) x = if ldo u4 x = true then (true, rg I 5 u1 u2 u3 (u4 * 10 + (x - 48)) u5) else (false, rg I 4 u1 u2 u3 u4 u5) := by
  unfold tk tkC
  rw [rg_r1, swf_at (show (4 : Int32) = nI 4 from rfl) (by omega) (by omega)]
  try dsimp only
  exact tkLoad_rg I 4 u1 u2 u3 u4 u5 x
/-- the end of an island, or its next reading -/
def tkAE (I : Mi) (n : Nat) (s u1 u2 u3 u4 u5 x : Int32) : Bool × Mi := if x = 62 then (true, rg I 6 u1 u2 u3 u4 u5) else if x = 59 then (if nI (n + 1) < 8 then (true, rg (addC I 26 n u1 u2 u3 u4 u5) 0 0 0 0 0 0) else (false, rg I s u1 u2 u3 u4 u5)) else (false, rg I s u1 u2 u3 u4 u5)
theorem tkAE_e {I : Mi} {n : Nat} (s u1 u2 u3 u4 u5 x : Int32) (h : I 26 0 = nI n) : orT tkArrow (fun I x => tkEnd I n x) (rg I s u1 u2 u3 u4 u5) x = tkAE I n s u1 u2 u3 u4 u5 x := by
  unfold orT tkArrow tkEnd tkAE
  by_cases h1 : x = 62
  · simp only [if_pos h1, if_true]; rw [rg_1]
  · simp only [if_neg h1, Bool.false_eq_true, if_false]
    rw [rg_ne (show (26 : Nat) ≠ 25 by omega), h, nI_1]
    unfold endI
    rw [rg_r2, rg_r3, rg_r4, rg_r5, rg_r6, rg_add, rg_beg]
theorem tk_5 {I : Mi} {n : Nat} (hn : n < 8) (h : I 26 0 = nI n) (u1 u2 u3 u4 u5 x : Int32) : tk (rg I 5 u1 u2 u3 u4 u5) x = if ldo u4 x = true then (true, rg I 5 u1 u2 u3 (u4 * 10 + (x - 48)) u5) else tkAE I n 5 u1 u2 u3 u4 u5 x := by
  unfold tk tkC
  rw [rg_r1, swf_at (show (5 : Int32) = nI 5 from rfl) (by omega) (by omega), rg_ne (show (26 : Nat) ≠ 25 by omega), h, ix_nI (by omega)]
  try dsimp only
  rw [show orT tkLoad (orT tkArrow fun I x => tkEnd I n x) (rg I 5 u1 u2 u3 u4 u5) x = if (tkLoad (rg I 5 u1 u2 u3 u4 u5) x).1 = true then (true, (tkLoad (rg I 5 u1 u2 u3 u4 u5) x).2) else orT tkArrow (fun I x => tkEnd I n x) (tkLoad (rg I 5 u1 u2 u3 u4 u5) x).2 x from rfl, tkLoad_rg]
  by_cases h1 : ldo u4 x = true
  · simp only [if_pos h1, if_true]
  · simp only [if_neg h1, Bool.false_eq_true, if_false]
    exact tkAE_e 5 u1 u2 u3 u4 u5 x h
theorem tk_7 {I : Mi} {n : Nat} (hn : n < 8) (h : I 26 0 = nI n) (u1 u2 u3 u4 u5 x : Int32) : tk (rg I 7 u1 u2 u3 u4 u5) x = tkAE I n 7 u1 u2 u3 u4 u5 x := by
  unfold tk tkC
  rw [rg_r1, swf_out (by decide), rg_ne (show (26 : Nat) ≠ 25 by omega), h, ix_nI (by omega)]
  exact tkAE_e 7 u1 u2 u3 u4 u5 x h
theorem tk_6 {I : Mi} {n : Nat} (h : I 26 0 = nI n) (u1 u2 u3 u4 u5 x : Int32) : tk (rg I 6 u1 u2 u3 u4 u5) x = if isW (x - 48) 0 7 = true then (if x - 48 = nI n then (false, rg I 6 u1 u2 u3 u4 u5) else (true, rg I 7 u1 u2 u3 u4 (u5 ||| ((1 : Int32) <<< ((x - 48) &&& 31))))) else (false, rg I 6 u1 u2 u3 u4 u5) := by
  unfold tk tkC
  rw [rg_r1, swf_at (show (6 : Int32) = nI 6 from rfl) (by omega) (by omega)]
  try dsimp only
  show tkNum (rg I 6 u1 u2 u3 u4 u5) x = _
  unfold tkNum
  rw [rg_r6, rg_6, rg_1, rg_ne (show (26 : Nat) ≠ 25 by omega), h]
/-! running over the signs -/
def RUN (i : Nat) (J : Mi) : Int32 × Mi := ffR (64 - i) i J
/-- the pad as both see it: L signs c -/
def PD (I : Mi) (c : Nat → Int32) (L : Nat) : Prop := I 23 1 = nI L ∧ ∀ j, j < L → I 24 j = c j
theorem RUN_go {J : Mi} {c : Nat → Int32} {L i : Nat} (hL : L ≤ 64) (h : PD J c L) (hi : i < L) : RUN i J = if (tk J (c i)).1 = true then RUN (i + 1) (tk J (c i)).2 else (nI i, (tk J (c i)).2) := by
  unfold RUN
  rw [show 64 - i = (64 - (i + 1)) + 1 by omega]
  rw [show ffR (64 - (i + 1) + 1) i J = if J 23 1 ≤ nI i then ffin J else if (tk J (J 24 i)).1 = true then ffR (64 - (i + 1)) (i + 1) (tk J (J 24 i)).2 else (nI i, (tk J (J 24 i)).2) from rfl, h.1, if_neg (nI_ge hi (by omega)), h.2 i hi]
theorem RUN_end {J : Mi} {c : Nat → Int32} {L : Nat} (hL : L ≤ 64) (h : PD J c L) : RUN L J = ffin J := by
  unfold RUN
  rcases Nat.lt_or_ge L 64 with q | q
  · rw [show 64 - L = (63 - L) + 1 by omega]
    rw [show ffR (63 - L + 1) L J = if J 23 1 ≤ nI L then ffin J else if (tk J (J 24 L)).1 = true then ffR (63 - L) (L + 1) (tk J (J 24 L)).2 else (nI L, (tk J (J 24 L)).2) from rfl, h.1, if_pos (Int32.le_refl _)]
  · rw [show 64 - L = 0 by omega]; rfl
theorem PD_rg {I : Mi} {c : Nat → Int32} {L : Nat} (h : PD I c L) (s u1 u2 u3 u4 u5 : Int32) : PD (rg I s u1 u2 u3 u4 u5) c L := by
  unfold PD
  rw [rg_ne (show (23 : Nat) ≠ 25 by omega), rg_ne (show (24 : Nat) ≠ 25 by omega)]
  exact h
/-- a run that ends at the text's end outside of a whole island -/
theorem RUN_no {I : Mi} {c : Nat → Int32} {L : Nat} (hL : L ≤ 64) (h : PD I c L) {s : Int32} (u1 u2 u3 u4 u5 : Int32) (h5 : s ≠ 5) (h7 : s ≠ 7) : (RUN L (rg I s u1 u2 u3 u4 u5)).1 = nI L := by
  rw [RUN_end hL (PD_rg h _ _ _ _ _ _)]
  unfold ffin
  rw [rg_r1, if_neg h5, if_neg h7, rg_ne (show (23 : Nat) ≠ 25 by omega)]
  exact h.1
/-! the signs are small numbers -/
abbrev SG (c : Nat → Int32) (L : Nat) : Prop := ∀ j, j < L → ∃ v, v < 128 ∧ c j = nI v
theorem dg_rise : ∀ v, v < 128 → isW (nI v - 48) 1 9 = (decide (¬ nI v < 49) && decide (nI v ≤ 57)) := by decide +kernel
theorem dg_ld0 : ∀ v, v < 128 → ldo 0 (nI v) = isW (nI v - 48) 1 9 ∧ (0 : Int32) * 10 + (nI v - 48) = nI v - 48 := by decide +kernel
theorem dg_ld1 : ∀ v, v < 128 → ldo 1 (nI v) = isW (nI v - 48) 0 9 := by decide +kernel
theorem dg_ld2 : ∀ v, v < 128 → ldo 2 (nI v) = isW (nI v - 48) 0 0 := by decide +kernel
theorem dg_ld3 : ∀ d, d < 21 → 3 ≤ d → ∀ v, v < 128 → ldo (nI d) (nI v) = false := by decide +kernel
theorem dg_19 : ∀ v, v < 128 → isW (nI v - 48) 1 9 = true → ∃ d, d < 10 ∧ 1 ≤ d ∧ nI v - 48 = nI d := by decide +kernel
theorem dg_09 : ∀ v, v < 128 → isW (nI v - 48) 0 9 = true → ∃ d, d < 10 ∧ nI v - 48 = nI d := by decide +kernel
theorem dg_00 : ∀ v, v < 128 → isW (nI v - 48) 0 0 = true → nI v - 48 = 0 := by decide +kernel
theorem chP_at {c : Nat → Int32} {L j : Nat} (h : j < L) : chP c L j = c j := if_pos h
theorem out_19 : isW ((-1 : Int32) - 48) 1 9 = false ∧ isW ((-1 : Int32) - 48) 0 9 = false ∧ isW ((-1 : Int32) - 48) 0 0 = false ∧ isW ((-1 : Int32) - 48) 0 7 = false := by decide
theorem tkRise_v (I : Mi) (s u1 u2 u3 u4 u5 : Int32) {v : Nat} (hv : v < 128) : tkRise (rg I s u1 u2 u3 u4 u5) (nI v) = if isW (nI v - 48) 1 9 = true then (true, rg I 3 u1 u2 (nI v - 48) u4 u5) else (false, rg I s u1 u2 u3 u4 u5) := by
  rw [tkRise_rg, dg_rise v hv]
  by_cases h1 : nI v < 49
  · simp [h1]
  · by_cases h2 : nI v ≤ 57
    · simp [h1, h2]
    · simp [h1, h2]
