/-! the whole layout behind the constructors (the system's own cells), reader, pad, history -/
abbrev RF10 (F : Mr) (a : Nat) : Prop := F a 3 = some (a + 1) ∧ F a 4 = some (a + 2) ∧ F a 5 = some (a + 3) ∧ F a 6 = some (a + 4) ∧ F a 7 = some (a + 5) ∧ F a 8 = some (a + 6) ∧ F a 9 = some (a + 7) ∧ F a 10 = some (a + 8) ∧ F a 11 = some (a + 9) ∧ F a 18 = some (a + 10)
def LY (F : Mr) : Prop := F 0 0 = some 1 ∧ F 0 1 = some 12 ∧ F 0 2 = some 23 ∧ F 0 3 = some 25 ∧ F 0 4 = some 37 ∧ F 0 5 = some 105 ∧ F 0 6 = some 116 ∧ F 23 0 = some 24 ∧ F 25 0 = some 26 ∧ F 37 0 = some 38 ∧ F 127 0 = some 128 ∧ F 127 1 = some 129 ∧ F 127 2 = some 130 ∧ F 127 4 = some 131 ∧ F 127 5 = some 132 ∧ F 127 6 = some 133 ∧ F 127 8 = some 134 ∧ F 127 9 = some 135 ∧ RF10 F 1 ∧ RF10 F 12 ∧ RF10 F 26 ∧ RF10 F 105 ∧ RF10 F 116 ∧ RF10 F 39 ∧ RF10 F 50 ∧ RF10 F 61 ∧ RF10 F 72 ∧ RF10 F 83 ∧ RF10 F 94
theorem LY.chip {F : Mr} (h : LY F) : F 0 0 = some 1 := h.1
theorem LY.trial {F : Mr} (h : LY F) : F 0 1 = some 12 := h.2.1
theorem LY.padR {F : Mr} (h : LY F) : F 0 2 = some 23 := h.2.2.1
theorem LY.readerR {F : Mr} (h : LY F) : F 0 3 = some 25 := h.2.2.2.1
theorem LY.histR {F : Mr} (h : LY F) : F 0 4 = some 37 := h.2.2.2.2.1
theorem LY.slot1 {F : Mr} (h : LY F) : F 0 5 = some 105 := h.2.2.2.2.2.1
theorem LY.slot2 {F : Mr} (h : LY F) : F 0 6 = some 116 := h.2.2.2.2.2.2.1
theorem LY.signs {F : Mr} (h : LY F) : F 23 0 = some 24 := h.2.2.2.2.2.2.2.1
theorem LY.rchip {F : Mr} (h : LY F) : F 25 0 = some 26 := h.2.2.2.2.2.2.2.2.1
theorem LY.before {F : Mr} (h : LY F) : F 37 0 = some 38 := h.2.2.2.2.2.2.2.2.2.1
theorem LY.mstate {F : Mr} (h : LY F) : F 127 0 = some 128 := h.2.2.2.2.2.2.2.2.2.2.1
theorem LY.mkept {F : Mr} (h : LY F) : F 127 1 = some 129 := h.2.2.2.2.2.2.2.2.2.2.2.1
theorem LY.mhist {F : Mr} (h : LY F) : F 127 2 = some 130 := h.2.2.2.2.2.2.2.2.2.2.2.2.1
theorem LY.mslots {F : Mr} (h : LY F) : F 127 4 = some 131 := h.2.2.2.2.2.2.2.2.2.2.2.2.2.1
theorem LY.misSaved {F : Mr} (h : LY F) : F 127 5 = some 132 := h.2.2.2.2.2.2.2.2.2.2.2.2.2.2.1
theorem LY.mpad {F : Mr} (h : LY F) : F 127 6 = some 133 := h.2.2.2.2.2.2.2.2.2.2.2.2.2.2.2.1
theorem LY.mtells {F : Mr} (h : LY F) : F 127 8 = some 134 := h.2.2.2.2.2.2.2.2.2.2.2.2.2.2.2.2.1
theorem LY.misNoise {F : Mr} (h : LY F) : F 127 9 = some 135 := h.2.2.2.2.2.2.2.2.2.2.2.2.2.2.2.2.2.1
theorem LY.c1 {F : Mr} (h : LY F) : CH NT F 1 := ⟨by decide +kernel, by intro j h1 h2; rcases (show j = 1 ∨ j = 2 ∨ j = 3 ∨ j = 4 ∨ j = 5 ∨ j = 6 ∨ j = 7 ∨ j = 8 ∨ j = 9 ∨ j = 10 by omega) with rfl | rfl | rfl | rfl | rfl | rfl | rfl | rfl | rfl | rfl <;> decide +kernel, h.2.2.2.2.2.2.2.2.2.2.2.2.2.2.2.2.2.2.1⟩
theorem LY.c12 {F : Mr} (h : LY F) : CH NT F 12 := ⟨by decide +kernel, by intro j h1 h2; rcases (show j = 1 ∨ j = 2 ∨ j = 3 ∨ j = 4 ∨ j = 5 ∨ j = 6 ∨ j = 7 ∨ j = 8 ∨ j = 9 ∨ j = 10 by omega) with rfl | rfl | rfl | rfl | rfl | rfl | rfl | rfl | rfl | rfl <;> decide +kernel, h.2.2.2.2.2.2.2.2.2.2.2.2.2.2.2.2.2.2.2.1⟩
theorem LY.c26 {F : Mr} (h : LY F) : CH NT F 26 := ⟨by decide +kernel, by intro j h1 h2; rcases (show j = 1 ∨ j = 2 ∨ j = 3 ∨ j = 4 ∨ j = 5 ∨ j = 6 ∨ j = 7 ∨ j = 8 ∨ j = 9 ∨ j = 10 by omega) with rfl | rfl | rfl | rfl | rfl | rfl | rfl | rfl | rfl | rfl <;> decide +kernel, h.2.2.2.2.2.2.2.2.2.2.2.2.2.2.2.2.2.2.2.2.1⟩
theorem LY.c105 {F : Mr} (h : LY F) : CH NT F 105 := ⟨by decide +kernel, by intro j h1 h2; rcases (show j = 1 ∨ j = 2 ∨ j = 3 ∨ j = 4 ∨ j = 5 ∨ j = 6 ∨ j = 7 ∨ j = 8 ∨ j = 9 ∨ j = 10 by omega) with rfl | rfl | rfl | rfl | rfl | rfl | rfl | rfl | rfl | rfl <;> decide +kernel, h.2.2.2.2.2.2.2.2.2.2.2.2.2.2.2.2.2.2.2.2.2.1⟩
theorem LY.c116 {F : Mr} (h : LY F) : CH NT F 116 := ⟨by decide +kernel, by intro j h1 h2; rcases (show j = 1 ∨ j = 2 ∨ j = 3 ∨ j = 4 ∨ j = 5 ∨ j = 6 ∨ j = 7 ∨ j = 8 ∨ j = 9 ∨ j = 10 by omega) with rfl | rfl | rfl | rfl | rfl | rfl | rfl | rfl | rfl | rfl <;> decide +kernel, h.2.2.2.2.2.2.2.2.2.2.2.2.2.2.2.2.2.2.2.2.2.2.1⟩
theorem LY.c39 {F : Mr} (h : LY F) : CH NT F 39 := ⟨by decide +kernel, by intro j h1 h2; rcases (show j = 1 ∨ j = 2 ∨ j = 3 ∨ j = 4 ∨ j = 5 ∨ j = 6 ∨ j = 7 ∨ j = 8 ∨ j = 9 ∨ j = 10 by omega) with rfl | rfl | rfl | rfl | rfl | rfl | rfl | rfl | rfl | rfl <;> decide +kernel, h.2.2.2.2.2.2.2.2.2.2.2.2.2.2.2.2.2.2.2.2.2.2.2.1⟩
theorem LY.c50 {F : Mr} (h : LY F) : CH NT F 50 := ⟨by decide +kernel, by intro j h1 h2; rcases (show j = 1 ∨ j = 2 ∨ j = 3 ∨ j = 4 ∨ j = 5 ∨ j = 6 ∨ j = 7 ∨ j = 8 ∨ j = 9 ∨ j = 10 by omega) with rfl | rfl | rfl | rfl | rfl | rfl | rfl | rfl | rfl | rfl <;> decide +kernel, h.2.2.2.2.2.2.2.2.2.2.2.2.2.2.2.2.2.2.2.2.2.2.2.2.1⟩
theorem LY.c61 {F : Mr} (h : LY F) : CH NT F 61 := ⟨by decide +kernel, by intro j h1 h2; rcases (show j = 1 ∨ j = 2 ∨ j = 3 ∨ j = 4 ∨ j = 5 ∨ j = 6 ∨ j = 7 ∨ j = 8 ∨ j = 9 ∨ j = 10 by omega) with rfl | rfl | rfl | rfl | rfl | rfl | rfl | rfl | rfl | rfl <;> decide +kernel, h.2.2.2.2.2.2.2.2.2.2.2.2.2.2.2.2.2.2.2.2.2.2.2.2.2.1⟩
theorem LY.c72 {F : Mr} (h : LY F) : CH NT F 72 := ⟨by decide +kernel, by intro j h1 h2; rcases (show j = 1 ∨ j = 2 ∨ j = 3 ∨ j = 4 ∨ j = 5 ∨ j = 6 ∨ j = 7 ∨ j = 8 ∨ j = 9 ∨ j = 10 by omega) with rfl | rfl | rfl | rfl | rfl | rfl | rfl | rfl | rfl | rfl <;> decide +kernel, h.2.2.2.2.2.2.2.2.2.2.2.2.2.2.2.2.2.2.2.2.2.2.2.2.2.2.1⟩
theorem LY.c83 {F : Mr} (h : LY F) : CH NT F 83 := ⟨by decide +kernel, by intro j h1 h2; rcases (show j = 1 ∨ j = 2 ∨ j = 3 ∨ j = 4 ∨ j = 5 ∨ j = 6 ∨ j = 7 ∨ j = 8 ∨ j = 9 ∨ j = 10 by omega) with rfl | rfl | rfl | rfl | rfl | rfl | rfl | rfl | rfl | rfl <;> decide +kernel, h.2.2.2.2.2.2.2.2.2.2.2.2.2.2.2.2.2.2.2.2.2.2.2.2.2.2.2.1⟩
theorem LY.c94 {F : Mr} (h : LY F) : CH NT F 94 := ⟨by decide +kernel, by intro j h1 h2; rcases (show j = 1 ∨ j = 2 ∨ j = 3 ∨ j = 4 ∨ j = 5 ∨ j = 6 ∨ j = 7 ∨ j = 8 ∨ j = 9 ∨ j = 10 by omega) with rfl | rfl | rfl | rfl | rfl | rfl | rfl | rfl | rfl | rfl <;> decide +kernel, h.2.2.2.2.2.2.2.2.2.2.2.2.2.2.2.2.2.2.2.2.2.2.2.2.2.2.2.2⟩
theorem LY.same {F F2 : Mr} (h : LY F) (hs : ∀ x, x ≠ 38 → F2 x = F x) : LY F2 := by
  unfold LY at h ⊢
  simp only [RF10, hs 0 (by decide), hs 1 (by decide), hs 12 (by decide), hs 23 (by decide), hs 25 (by decide), hs 26 (by decide), hs 37 (by decide), hs 39 (by decide), hs 50 (by decide), hs 61 (by decide), hs 72 (by decide), hs 83 (by decide), hs 94 (by decide), hs 105 (by decide), hs 116 (by decide), hs 127 (by decide)]
  exact h
/-- the history's chips -/
def HB (F : Mr) (h : Nat → Nat) : Prop := ∀ j, j < 6 → F 38 j = some (h j) ∧ (h j = 39 ∨ h j = 50 ∨ h j = 61 ∨ h j = 72 ∨ h j = 83 ∨ h j = 94)
theorem HB.ch {F : Mr} {h : Nat → Nat} (hb : HB F h) (hl : LY F) {j : Nat} (hj : j < 6) : CH NT F (h j) := by
  rcases (hb j hj).2 with e | e | e | e | e | e <;> rw [e]
  · exact hl.c39
  · exact hl.c50
  · exact hl.c61
  · exact hl.c72
  · exact hl.c83
  · exact hl.c94
def drH (h : Nat → Nat) : Nat → Nat := fun j => if j < 5 then h (j + 1) else h 0
def drL (F : Mr) (h : Nat → Nat) (i : Nat) : Mr := fun x y => if x = 38 ∧ y < i then some (h (y + 1)) else F x y
def drF (F : Mr) (h : Nat → Nat) : Mr := fun x y => if x = 38 ∧ y = 5 then some (h 0) else drL F h 5 x y
theorem drF_ne {F : Mr} {h : Nat → Nat} : ∀ x, x ≠ 38 → drF F h x = F x := fun x hx => by funext y; simp [drF, drL, hx]
theorem drF_HB {F : Mr} {h : Nat → Nat} (hb : HB F h) : HB (drF F h) (drH h) := by
  intro j hj
  by_cases h5 : j < 5
  · have h5' : ¬ j = 5 := by omega
    simp only [drF, drL, drH, h5, h5', and_true, if_true]
    exact ⟨by simp, (hb (j + 1) (by omega)).2⟩
  · have e : j = 5 := by omega
    subst e
    simp only [drF, drH]
    exact ⟨by simp, (hb 0 (by omega)).2⟩
theorem drL_s (F : Mr) (h : Nat → Nat) (i : Nat) : ur (drL F h i) 38 i (some (h (i + 1))) = drL F h (i + 1) := by
  funext x y
  simp only [ur, drL]
  by_cases hx : x = 38
  · subst hx
    by_cases hy : y = i
    · subst hy; simp
    · rw [if_neg (by omega)]
      by_cases hl : y < i
      · rw [if_pos ⟨rfl, hl⟩, if_pos ⟨rfl, by omega⟩]
      · rw [if_neg (by omega), if_neg (by omega)]
  · rw [if_neg (by omega), if_neg (by omega), if_neg (by omega)]
theorem drL_0 (F : Mr) (h : Nat → Nat) : drL F h 0 = F := by funext x y; simp [drL]

section MW
variable {E : EE} {N nL : Nat} {own : String} {cc : ByteArray} {p : Program} {l : Launch} {e : Env} {R : Room} {s : State} {m : MethodId} {args : Array Value} {below : List Frame} {meth : Method} {c : Code} {cells slots : Nat} {Q : State → Prop} {I I2 : Mi} {F F2 : Mr} {pc : Nat} {ls ls2 : List (Option Value)} {st st2 : List Value}
theorem g_aald_j (C : Cx E own cc nL p s m args meth c) {k n : Nat} (ha : ar N k 8 n) (j : Nat) {x : Int32} (hx : x = nI j) (hj : j < n) (hn : n < 2147483648) {t : Nat} (hF : F k j = some t) (d : decode cc pc = .ok (.aaload, 1)) (kk : G E N nL p l e R s m args below meth c cells slots Q I F (pc + 1) ls (rf E t :: st)) : G E N nL p l e R s m args below meth c cells slots Q I F pc ls (.int x :: rf E k :: st) := by
  subst hx
  exact g_aald C ha (vp_in_nI hj hn) (by rw [show ix (nI j) = j from nI_clamp (by omega)]; exact hF) d kk
theorem g_aast_j (C : Cx E own cc nL p s m args meth c) {k n t : Nat} (ha : ar N k 8 n) (ht : ob N t 0) (j : Nat) {x : Int32} (hx : x = nI j) (hj : j < n) (hn : n < 2147483648) (d : decode cc pc = .ok (.aastore, 1)) (kk : G E N nL p l e R s m args below meth c cells slots Q I (ur F k j (some t)) (pc + 1) ls st) : G E N nL p l e R s m args below meth c cells slots Q I F pc ls (rf E t :: .int x :: rf E k :: st) := by
  subst hx
  exact g_aast C ha ht (vp_in_nI hj hn) d (by rw [show ix (nI j) = j from nI_clamp (by omega)]; exact kk)
end MW
def isW (x lo9 hi : Int32) : Bool := decide (¬ x < lo9) && decide (¬ hi < x)
def begI (I : Mi) : Mi := up (up (up (up (up (up I 25 1 0) 25 2 0) 25 3 0) 25 4 0) 25 5 0) 25 6 0
def endI (I : Mi) (n : Nat) : Mi := addC I 26 n (I 25 2) (I 25 3) (I 25 4) (I 25 5) (I 25 6)
def tkIso (I : Mi) (x : Int32) : Bool × Mi := if x = 105 then (true, up (up I 25 2 1) 25 1 1) else (false, I)
def tkKeep (I : Mi) (x : Int32) : Bool × Mi := if x = 107 then (true, up (up I 25 3 1) 25 1 2) else (false, I)
def tkRise (I : Mi) (x : Int32) : Bool × Mi := if x < 49 then (false, I) else if x ≤ 57 then (true, up (up I 25 4 (x - 48)) 25 1 3) else (false, I)
def tkComma (I : Mi) (x : Int32) : Bool × Mi := if x = 44 then (true, up I 25 1 4) else (false, I)
def tkLoad (I : Mi) (x : Int32) : Bool × Mi := if x < 48 then (false, I) else if x ≤ 57 then (if isW (I 25 5 * 10 + (x - 48)) 1 20 = true then (true, up (up I 25 5 (I 25 5 * 10 + (x - 48))) 25 1 5) else (false, I)) else (false, I)
def tkArrow (I : Mi) (x : Int32) : Bool × Mi := if x = 62 then (true, up I 25 1 6) else (false, I)
def tkNum (I : Mi) (x : Int32) : Bool × Mi := if isW (x - 48) 0 7 = true then (if x - 48 = I 26 0 then (false, I) else (true, up (up I 25 6 (I 25 6 ||| ((1 : Int32) <<< ((x - 48) &&& 31)))) 25 1 7)) else (false, I)
def tkEnd (I : Mi) (n : Nat) (x : Int32) : Bool × Mi := if x = 59 then (if I 26 0 + 1 < 8 then (true, begI (endI I n)) else (false, I)) else (false, I)
/-- one, or else the next -/
def orT (f g : Mi → Int32 → Bool × Mi) (I : Mi) (x : Int32) : Bool × Mi := if (f I x).1 = true then (true, (f I x).2) else g (f I x).2 x
theorem tkIso26 (I : Mi) (x : Int32) : (tkIso I x).2 26 = I 26 := by
  funext y; unfold tkIso; (try split) <;> (try split) <;> (try split) <;> rfl
theorem tkKeep26 (I : Mi) (x : Int32) : (tkKeep I x).2 26 = I 26 := by
  funext y; unfold tkKeep; (try split) <;> (try split) <;> (try split) <;> rfl
theorem tkRise26 (I : Mi) (x : Int32) : (tkRise I x).2 26 = I 26 := by
  funext y; unfold tkRise; (try split) <;> (try split) <;> (try split) <;> rfl
theorem tkComma26 (I : Mi) (x : Int32) : (tkComma I x).2 26 = I 26 := by
  funext y; unfold tkComma; (try split) <;> (try split) <;> (try split) <;> rfl
theorem tkLoad26 (I : Mi) (x : Int32) : (tkLoad I x).2 26 = I 26 := by
  funext y; unfold tkLoad; (try split) <;> (try split) <;> (try split) <;> rfl
theorem tkArrow26 (I : Mi) (x : Int32) : (tkArrow I x).2 26 = I 26 := by
  funext y; unfold tkArrow; (try split) <;> (try split) <;> (try split) <;> rfl
theorem tkNum26 (I : Mi) (x : Int32) : (tkNum I x).2 26 = I 26 := by
  funext y; unfold tkNum; (try split) <;> (try split) <;> (try split) <;> rfl
/-- a switch over 0 .. n -/
def swf {α : Type} (n : Int) (v : Int32) (f : Nat → α) (d : α) : α := if v.toInt < 0 ∨ n < v.toInt then d else f v.toInt.toNat
theorem swf_out {α : Type} {n : Int} {v : Int32} {f : Nat → α} {d : α} (h : v.toInt < 0 ∨ n < v.toInt) : swf n v f d = d := if_pos h
theorem swf_at {α : Type} {n : Int} {v : Int32} {f : Nat → α} {d : α} {z : Nat} (h : v = nI z) (hz : (z : Int) ≤ n) (h31 : z < 2147483648) : swf n v f d = f z := by
  subst h
  have e : (nI z).toInt = (z : Int) := nI_toInt h31
  unfold swf
  rw [e, if_neg (by omega)]
  rfl
theorem sw_cases3 {x : Int32} (h1 : ¬ x.toInt < 0) (h2 : ¬ 2 < x.toInt) : x = 0 ∨ x = 1 ∨ x = 2 := by
  obtain ⟨j, hj, rfl⟩ : ∃ j : Nat, j < 3 ∧ x = nI j := by
    have h0 : ¬ x < 0 := fun q => h1 (by have := Int32.lt_iff_toInt_lt.mp q; simpa using this)
    obtain ⟨j, hj, rfl⟩ := nI_of h0
    rw [nI_toInt hj] at h2
    exact ⟨j, by omega, rfl⟩
  match j, hj with
  | 0, _ => exact Or.inl rfl
  | 1, _ => exact Or.inr (Or.inl rfl)
  | 2, _ => exact Or.inr (Or.inr rfl)
theorem sw_cases7 {x : Int32} (h1 : ¬ x.toInt < 0) (h2 : ¬ 6 < x.toInt) : x = 0 ∨ x = 1 ∨ x = 2 ∨ x = 3 ∨ x = 4 ∨ x = 5 ∨ x = 6 := by
  obtain ⟨j, hj, rfl⟩ : ∃ j : Nat, j < 7 ∧ x = nI j := by
    have h0 : ¬ x < 0 := fun q => h1 (by have := Int32.lt_iff_toInt_lt.mp q; simpa using this)
    obtain ⟨j, hj, rfl⟩ := nI_of h0
    rw [nI_toInt hj] at h2
    exact ⟨j, by omega, rfl⟩
  match j, hj with
  | 0, _ => exact Or.inl rfl
  | 1, _ => exact Or.inr (Or.inl rfl)
  | 2, _ => exact Or.inr (Or.inr (Or.inl rfl))
  | 3, _ => exact Or.inr (Or.inr (Or.inr (Or.inl rfl)))
  | 4, _ => exact Or.inr (Or.inr (Or.inr (Or.inr (Or.inl rfl))))
  | 5, _ => exact Or.inr (Or.inr (Or.inr (Or.inr (Or.inr (Or.inl rfl)))))
  | 6, _ => exact Or.inr (Or.inr (Or.inr (Or.inr (Or.inr (Or.inr rfl)))))
theorem sw_cases13 {x : Int32} (h1 : ¬ x.toInt < 0) (h2 : ¬ 12 < x.toInt) : x = 0 ∨ x = 1 ∨ x = 2 ∨ x = 3 ∨ x = 4 ∨ x = 5 ∨ x = 6 ∨ x = 7 ∨ x = 8 ∨ x = 9 ∨ x = 10 ∨ x = 11 ∨ x = 12 := by
  obtain ⟨j, hj, rfl⟩ : ∃ j : Nat, j < 13 ∧ x = nI j := by
    have h0 : ¬ x < 0 := fun q => h1 (by have := Int32.lt_iff_toInt_lt.mp q; simpa using this)
    obtain ⟨j, hj, rfl⟩ := nI_of h0
    rw [nI_toInt hj] at h2
    exact ⟨j, by omega, rfl⟩
  match j, hj with
  | 0, _ => exact Or.inl rfl
  | 1, _ => exact Or.inr (Or.inl rfl)
  | 2, _ => exact Or.inr (Or.inr (Or.inl rfl))
  | 3, _ => exact Or.inr (Or.inr (Or.inr (Or.inl rfl)))
  | 4, _ => exact Or.inr (Or.inr (Or.inr (Or.inr (Or.inl rfl))))
  | 5, _ => exact Or.inr (Or.inr (Or.inr (Or.inr (Or.inr (Or.inl rfl)))))
  | 6, _ => exact Or.inr (Or.inr (Or.inr (Or.inr (Or.inr (Or.inr (Or.inl rfl))))))
  | 7, _ => exact Or.inr (Or.inr (Or.inr (Or.inr (Or.inr (Or.inr (Or.inr (Or.inl rfl)))))))
  | 8, _ => exact Or.inr (Or.inr (Or.inr (Or.inr (Or.inr (Or.inr (Or.inr (Or.inr (Or.inl rfl))))))))
  | 9, _ => exact Or.inr (Or.inr (Or.inr (Or.inr (Or.inr (Or.inr (Or.inr (Or.inr (Or.inr (Or.inl rfl)))))))))
  | 10, _ => exact Or.inr (Or.inr (Or.inr (Or.inr (Or.inr (Or.inr (Or.inr (Or.inr (Or.inr (Or.inr (Or.inl rfl))))))))))
  | 11, _ => exact Or.inr (Or.inr (Or.inr (Or.inr (Or.inr (Or.inr (Or.inr (Or.inr (Or.inr (Or.inr (Or.inr (Or.inl rfl)))))))))))
  | 12, _ => exact Or.inr (Or.inr (Or.inr (Or.inr (Or.inr (Or.inr (Or.inr (Or.inr (Or.inr (Or.inr (Or.inr (Or.inr rfl)))))))))))
theorem sw_cases14 {x : Int32} (h1 : ¬ x.toInt < 0) (h2 : ¬ 13 < x.toInt) : x = 0 ∨ x = 1 ∨ x = 2 ∨ x = 3 ∨ x = 4 ∨ x = 5 ∨ x = 6 ∨ x = 7 ∨ x = 8 ∨ x = 9 ∨ x = 10 ∨ x = 11 ∨ x = 12 ∨ x = 13 := by
  obtain ⟨j, hj, rfl⟩ : ∃ j : Nat, j < 14 ∧ x = nI j := by
    have h0 : ¬ x < 0 := fun q => h1 (by have := Int32.lt_iff_toInt_lt.mp q; simpa using this)
    obtain ⟨j, hj, rfl⟩ := nI_of h0
    rw [nI_toInt hj] at h2
    exact ⟨j, by omega, rfl⟩
  match j, hj with
  | 0, _ => exact Or.inl rfl
  | 1, _ => exact Or.inr (Or.inl rfl)
  | 2, _ => exact Or.inr (Or.inr (Or.inl rfl))
  | 3, _ => exact Or.inr (Or.inr (Or.inr (Or.inl rfl)))
  | 4, _ => exact Or.inr (Or.inr (Or.inr (Or.inr (Or.inl rfl))))
  | 5, _ => exact Or.inr (Or.inr (Or.inr (Or.inr (Or.inr (Or.inl rfl)))))
  | 6, _ => exact Or.inr (Or.inr (Or.inr (Or.inr (Or.inr (Or.inr (Or.inl rfl))))))
  | 7, _ => exact Or.inr (Or.inr (Or.inr (Or.inr (Or.inr (Or.inr (Or.inr (Or.inl rfl)))))))
  | 8, _ => exact Or.inr (Or.inr (Or.inr (Or.inr (Or.inr (Or.inr (Or.inr (Or.inr (Or.inl rfl))))))))
  | 9, _ => exact Or.inr (Or.inr (Or.inr (Or.inr (Or.inr (Or.inr (Or.inr (Or.inr (Or.inr (Or.inl rfl)))))))))
  | 10, _ => exact Or.inr (Or.inr (Or.inr (Or.inr (Or.inr (Or.inr (Or.inr (Or.inr (Or.inr (Or.inr (Or.inl rfl))))))))))
  | 11, _ => exact Or.inr (Or.inr (Or.inr (Or.inr (Or.inr (Or.inr (Or.inr (Or.inr (Or.inr (Or.inr (Or.inr (Or.inl rfl)))))))))))
  | 12, _ => exact Or.inr (Or.inr (Or.inr (Or.inr (Or.inr (Or.inr (Or.inr (Or.inr (Or.inr (Or.inr (Or.inr (Or.inr (Or.inl rfl))))))))))))
  | 13, _ => exact Or.inr (Or.inr (Or.inr (Or.inr (Or.inr (Or.inr (Or.inr (Or.inr (Or.inr (Or.inr (Or.inr (Or.inr (Or.inr rfl))))))))))))
theorem sw_cases21 {x : Int32} (h1 : ¬ x.toInt < 0) (h2 : ¬ 20 < x.toInt) : x = 0 ∨ x = 1 ∨ x = 2 ∨ x = 3 ∨ x = 4 ∨ x = 5 ∨ x = 6 ∨ x = 7 ∨ x = 8 ∨ x = 9 ∨ x = 10 ∨ x = 11 ∨ x = 12 ∨ x = 13 ∨ x = 14 ∨ x = 15 ∨ x = 16 ∨ x = 17 ∨ x = 18 ∨ x = 19 ∨ x = 20 := by
  obtain ⟨j, hj, rfl⟩ : ∃ j : Nat, j < 21 ∧ x = nI j := by
    have h0 : ¬ x < 0 := fun q => h1 (by have := Int32.lt_iff_toInt_lt.mp q; simpa using this)
    obtain ⟨j, hj, rfl⟩ := nI_of h0
    rw [nI_toInt hj] at h2
    exact ⟨j, by omega, rfl⟩
  rcases (show j = 0 ∨ j = 1 ∨ j = 2 ∨ j = 3 ∨ j = 4 ∨ j = 5 ∨ j = 6 ∨ j = 7 ∨ j = 8 ∨ j = 9 ∨ j = 10 ∨ j = 11 ∨ j = 12 ∨ j = 13 ∨ j = 14 ∨ j = 15 ∨ j = 16 ∨ j = 17 ∨ j = 18 ∨ j = 19 ∨ j = 20 by omega) with rfl | rfl | rfl | rfl | rfl | rfl | rfl | rfl | rfl | rfl | rfl | rfl | rfl | rfl | rfl | rfl | rfl | rfl | rfl | rfl | rfl
  · exact Or.inl rfl
  · exact Or.inr (Or.inl rfl)
  · exact Or.inr (Or.inr (Or.inl rfl))
  · exact Or.inr (Or.inr (Or.inr (Or.inl rfl)))
  · exact Or.inr (Or.inr (Or.inr (Or.inr (Or.inl rfl))))
  · exact Or.inr (Or.inr (Or.inr (Or.inr (Or.inr (Or.inl rfl)))))
  · exact Or.inr (Or.inr (Or.inr (Or.inr (Or.inr (Or.inr (Or.inl rfl))))))
  · exact Or.inr (Or.inr (Or.inr (Or.inr (Or.inr (Or.inr (Or.inr (Or.inl rfl)))))))
  · exact Or.inr (Or.inr (Or.inr (Or.inr (Or.inr (Or.inr (Or.inr (Or.inr (Or.inl rfl))))))))
  · exact Or.inr (Or.inr (Or.inr (Or.inr (Or.inr (Or.inr (Or.inr (Or.inr (Or.inr (Or.inl rfl)))))))))
  · exact Or.inr (Or.inr (Or.inr (Or.inr (Or.inr (Or.inr (Or.inr (Or.inr (Or.inr (Or.inr (Or.inl rfl))))))))))
  · exact Or.inr (Or.inr (Or.inr (Or.inr (Or.inr (Or.inr (Or.inr (Or.inr (Or.inr (Or.inr (Or.inr (Or.inl rfl)))))))))))
  · exact Or.inr (Or.inr (Or.inr (Or.inr (Or.inr (Or.inr (Or.inr (Or.inr (Or.inr (Or.inr (Or.inr (Or.inr (Or.inl rfl))))))))))))
  · exact Or.inr (Or.inr (Or.inr (Or.inr (Or.inr (Or.inr (Or.inr (Or.inr (Or.inr (Or.inr (Or.inr (Or.inr (Or.inr (Or.inl rfl)))))))))))))
  · exact Or.inr (Or.inr (Or.inr (Or.inr (Or.inr (Or.inr (Or.inr (Or.inr (Or.inr (Or.inr (Or.inr (Or.inr (Or.inr (Or.inr (Or.inl rfl))))))))))))))
  · exact Or.inr (Or.inr (Or.inr (Or.inr (Or.inr (Or.inr (Or.inr (Or.inr (Or.inr (Or.inr (Or.inr (Or.inr (Or.inr (Or.inr (Or.inr (Or.inl rfl)))))))))))))))
  · exact Or.inr (Or.inr (Or.inr (Or.inr (Or.inr (Or.inr (Or.inr (Or.inr (Or.inr (Or.inr (Or.inr (Or.inr (Or.inr (Or.inr (Or.inr (Or.inr (Or.inl rfl))))))))))))))))
  · exact Or.inr (Or.inr (Or.inr (Or.inr (Or.inr (Or.inr (Or.inr (Or.inr (Or.inr (Or.inr (Or.inr (Or.inr (Or.inr (Or.inr (Or.inr (Or.inr (Or.inr (Or.inl rfl)))))))))))))))))
  · exact Or.inr (Or.inr (Or.inr (Or.inr (Or.inr (Or.inr (Or.inr (Or.inr (Or.inr (Or.inr (Or.inr (Or.inr (Or.inr (Or.inr (Or.inr (Or.inr (Or.inr (Or.inr (Or.inl rfl))))))))))))))))))
  · exact Or.inr (Or.inr (Or.inr (Or.inr (Or.inr (Or.inr (Or.inr (Or.inr (Or.inr (Or.inr (Or.inr (Or.inr (Or.inr (Or.inr (Or.inr (Or.inr (Or.inr (Or.inr (Or.inr (Or.inl rfl)))))))))))))))))))
  · exact Or.inr (Or.inr (Or.inr (Or.inr (Or.inr (Or.inr (Or.inr (Or.inr (Or.inr (Or.inr (Or.inr (Or.inr (Or.inr (Or.inr (Or.inr (Or.inr (Or.inr (Or.inr (Or.inr (Or.inr (rfl))))))))))))))))))))
def tkC (I : Mi) (n : Nat) (x : Int32) : Bool × Mi :=
  swf 6 (I 25 1) (fun z => match z with
    | 0 => orT tkIso (orT tkKeep tkRise) I x
    | 1 => orT tkKeep tkRise I x
    | 2 => tkRise I x
    | 3 => tkComma I x
    | 4 => tkLoad I x
    | 5 => orT tkLoad (orT tkArrow (fun I x => tkEnd I n x)) I x
    | _ => tkNum I x) (orT tkArrow (fun I x => tkEnd I n x) I x)

set_option maxRecDepth 100000 in
set_option maxHeartbeats 4000000 in
theorem tX4_isWithin {l : Launch} {E : EE} {N : Nat} {I : Mi} {F : Mr} (x y z : Int32)  : CtF l E mX4_isWithin [.int x, .int y, .int z] N I F N (some (.int (bi (isW x y z)))) I F := by
  refine CtF_of [some (.int x), some (.int y), some (.int z)] (by decide) rfl (Nat.le_of_ble_eq_true rfl) rfl (fun p e s m args below meth c C hr hname => ?_)
  refine g_iload_n C dX4_isWithin_0 rfl rfl ?_
  refine g_iload_n C dX4_isWithin_1 rfl rfl ?_
  refine g_icmp_lt C (tgt := 14) dX4_isWithin_2 (by decide) (fun c2 => ?_) (fun c2 => ?_)
  · skip
    refine g_iconst C (v := 0) dX4_isWithin_14 (by decide) ?_
    exact g_zret_0 C hr dX4_isWithin_15 ⟨by simp [isW, bi, c2], rfl, rfl⟩
  · skip
    refine g_iload_n C dX4_isWithin_5 rfl rfl ?_
    refine g_iload_n C dX4_isWithin_6 rfl rfl ?_
    refine g_icmp_gt C (tgt := 14) dX4_isWithin_7 (by decide) (fun c7 => ?_) (fun c7 => ?_)
    · skip
      refine g_iconst C (v := 0) dX4_isWithin_14 (by decide) ?_
      exact g_zret_0 C hr dX4_isWithin_15 ⟨by simp [isW, bi, c2, c7], rfl, rfl⟩
    · skip
      refine g_iconst C (v := 1) dX4_isWithin_10 (by decide) ?_
      refine g_goto C (tgt := 15) dX4_isWithin_11 (by decide) ?_
      exact g_zret_1 C hr dX4_isWithin_15 ⟨by simp [isW, bi, c2, c7], rfl, rfl⟩

set_option maxRecDepth 100000 in
set_option maxHeartbeats 4000000 in
theorem tX1_beginIsland {l : Launch} {E : EE} {N : Nat} {I : Mi} {F : Mr} (h0 : ob N 25 1)  : CtF l E mX1_beginIsland [rf E 25] N I F N none (begI I) F := by
  refine CtF_of [some (rf E 25)] (by decide) rfl (Nat.le_of_ble_eq_true rfl) rfl (fun p e s m args below meth c C hr hname => ?_)
  refine g_aload_n C dX1_beginIsland_0 rfl rfl ?_
  refine g_iconst C (v := 0) dX1_beginIsland_1 (by decide) ?_
  refine pfX1_38 C h0 dX1_beginIsland_2 ?_
  refine g_aload_n C dX1_beginIsland_5 rfl rfl ?_
  refine g_iconst C (v := 0) dX1_beginIsland_6 (by decide) ?_
  refine pfX1_44 C h0 (by decide) dX1_beginIsland_7 ?_
  refine g_aload_n C dX1_beginIsland_10 rfl rfl ?_
  refine g_iconst C (v := 0) dX1_beginIsland_11 (by decide) ?_
  refine pfX1_48 C h0 (by decide) dX1_beginIsland_12 ?_
  refine g_aload_n C dX1_beginIsland_15 rfl rfl ?_
  refine g_iconst C (v := 0) dX1_beginIsland_16 (by decide) ?_
  refine pfX1_51 C h0 dX1_beginIsland_17 ?_
  refine g_aload_n C dX1_beginIsland_20 rfl rfl ?_
  refine g_iconst C (v := 0) dX1_beginIsland_21 (by decide) ?_
  refine pfX1_54 C h0 dX1_beginIsland_22 ?_
  refine g_aload_n C dX1_beginIsland_25 rfl rfl ?_
  refine g_iconst C (v := 0) dX1_beginIsland_26 (by decide) ?_
  refine pfX1_57 C h0 dX1_beginIsland_27 ?_
  exact g_vret C hr dX1_beginIsland_30 ⟨rfl, rfl, rfl⟩

set_option maxRecDepth 100000 in
set_option maxHeartbeats 4000000 in
theorem tX1_takesIsolator {l : Launch} {E : EE} {I : Mi} {F : Mr} (hl : LY F) (x : Int32)  : CtF l E mX1_takesIsolator [rf E 25, .int x] NT I F NT (some (.int (bi (tkIso I x).1))) ((tkIso I x).2) F := by
  refine CtF_of [some (rf E 25), some (.int x)] (by decide) rfl (Nat.le_of_ble_eq_true rfl) rfl (fun p e s m args below meth c C hr hname => ?_)
  refine g_iload_n C dX1_takesIsolator_0 rfl rfl ?_
  refine g_bipush C (v := 105) dX1_takesIsolator_1 (by decide) ?_
  refine g_icmp_eq C (tgt := 8) dX1_takesIsolator_3 (by decide) (fun c3 => ?_) (fun c3 => ?_)
  · skip
    refine g_aload_n C dX1_takesIsolator_8 rfl rfl ?_
    refine g_iconst C (v := 1) dX1_takesIsolator_9 (by decide) ?_
    refine pfX1_44 C (by decide) (by decide) dX1_takesIsolator_10 ?_
    refine g_aload_n C dX1_takesIsolator_13 rfl rfl ?_
    refine g_iconst C (v := 1) dX1_takesIsolator_14 (by decide) ?_
    refine pfX1_38 C (by decide) dX1_takesIsolator_15 ?_
    refine g_iconst C (v := 1) dX1_takesIsolator_18 (by decide) ?_
    exact g_zret_1 C hr dX1_takesIsolator_19 ⟨by simp only [tkIso, c3, ↓reduceIte, bi], by simp only [tkIso, c3, ↓reduceIte], rfl⟩
  · skip
    refine g_iconst C (v := 0) dX1_takesIsolator_6 (by decide) ?_
    exact g_zret_0 C hr dX1_takesIsolator_7 ⟨by simp only [tkIso, c3, ↓reduceIte, bi], by simp only [tkIso, c3, ↓reduceIte], rfl⟩

set_option maxRecDepth 100000 in
set_option maxHeartbeats 4000000 in
theorem tX1_takesKeeper {l : Launch} {E : EE} {I : Mi} {F : Mr} (hl : LY F) (x : Int32)  : CtF l E mX1_takesKeeper [rf E 25, .int x] NT I F NT (some (.int (bi (tkKeep I x).1))) ((tkKeep I x).2) F := by
  refine CtF_of [some (rf E 25), some (.int x)] (by decide) rfl (Nat.le_of_ble_eq_true rfl) rfl (fun p e s m args below meth c C hr hname => ?_)
  refine g_iload_n C dX1_takesKeeper_0 rfl rfl ?_
  refine g_bipush C (v := 107) dX1_takesKeeper_1 (by decide) ?_
  refine g_icmp_eq C (tgt := 8) dX1_takesKeeper_3 (by decide) (fun c3 => ?_) (fun c3 => ?_)
  · skip
    refine g_aload_n C dX1_takesKeeper_8 rfl rfl ?_
    refine g_iconst C (v := 1) dX1_takesKeeper_9 (by decide) ?_
    refine pfX1_48 C (by decide) (by decide) dX1_takesKeeper_10 ?_
    refine g_aload_n C dX1_takesKeeper_13 rfl rfl ?_
    refine g_iconst C (v := 2) dX1_takesKeeper_14 (by decide) ?_
    refine pfX1_38 C (by decide) dX1_takesKeeper_15 ?_
    refine g_iconst C (v := 1) dX1_takesKeeper_18 (by decide) ?_
    exact g_zret_1 C hr dX1_takesKeeper_19 ⟨by simp only [tkKeep, c3, ↓reduceIte, bi], by simp only [tkKeep, c3, ↓reduceIte], rfl⟩
  · skip
    refine g_iconst C (v := 0) dX1_takesKeeper_6 (by decide) ?_
    exact g_zret_0 C hr dX1_takesKeeper_7 ⟨by simp only [tkKeep, c3, ↓reduceIte, bi], by simp only [tkKeep, c3, ↓reduceIte], rfl⟩

set_option maxRecDepth 100000 in
set_option maxHeartbeats 4000000 in
theorem tX1_takesRise {l : Launch} {E : EE} {I : Mi} {F : Mr} (hl : LY F) (x : Int32)  : CtF l E mX1_takesRise [rf E 25, .int x] NT I F NT (some (.int (bi (tkRise I x).1))) ((tkRise I x).2) F := by
  refine CtF_of [some (rf E 25), some (.int x)] (by decide) rfl (Nat.le_of_ble_eq_true rfl) rfl (fun p e s m args below meth c C hr hname => ?_)
  refine g_iload_n C dX1_takesRise_0 rfl rfl ?_
  refine g_bipush C (v := 49) dX1_takesRise_1 (by decide) ?_
  refine g_icmp_lt C (tgt := 12) dX1_takesRise_3 (by decide) (fun c3 => ?_) (fun c3 => ?_)
  · skip
    refine g_iconst C (v := 0) dX1_takesRise_12 (by decide) ?_
    exact g_zret_0 C hr dX1_takesRise_13 ⟨by simp only [tkRise, c3, ↓reduceIte, bi], by simp only [tkRise, c3, ↓reduceIte], rfl⟩
  · skip
    refine g_iload_n C dX1_takesRise_6 rfl rfl ?_
    refine g_bipush C (v := 57) dX1_takesRise_7 (by decide) ?_
    refine g_icmp_le C (tgt := 14) dX1_takesRise_9 (by decide) (fun c9 => ?_) (fun c9 => ?_)
    · skip
      refine g_aload_n C dX1_takesRise_14 rfl rfl ?_
      refine g_iload_n C dX1_takesRise_15 rfl rfl ?_
      refine g_bipush C (v := 48) dX1_takesRise_16 (by decide) ?_
      refine g_isub C dX1_takesRise_18 ?_
      refine pfX1_51 C (by decide) dX1_takesRise_19 ?_
      refine g_aload_n C dX1_takesRise_22 rfl rfl ?_
      refine g_iconst C (v := 3) dX1_takesRise_23 (by decide) ?_
      refine pfX1_38 C (by decide) dX1_takesRise_24 ?_
      refine g_iconst C (v := 1) dX1_takesRise_27 (by decide) ?_
      exact g_zret_1 C hr dX1_takesRise_28 ⟨by simp only [tkRise, c3, c9, ↓reduceIte, bi], by simp only [tkRise, c3, c9, ↓reduceIte], rfl⟩
    · skip
      refine g_iconst C (v := 0) dX1_takesRise_12 (by decide) ?_
      exact g_zret_0 C hr dX1_takesRise_13 ⟨by simp only [tkRise, c3, c9, ↓reduceIte, bi], by simp only [tkRise, c3, c9, ↓reduceIte], rfl⟩

set_option maxRecDepth 100000 in
set_option maxHeartbeats 4000000 in
theorem tX1_takesComma {l : Launch} {E : EE} {I : Mi} {F : Mr} (hl : LY F) (x : Int32)  : CtF l E mX1_takesComma [rf E 25, .int x] NT I F NT (some (.int (bi (tkComma I x).1))) ((tkComma I x).2) F := by
  refine CtF_of [some (rf E 25), some (.int x)] (by decide) rfl (Nat.le_of_ble_eq_true rfl) rfl (fun p e s m args below meth c C hr hname => ?_)
  refine g_iload_n C dX1_takesComma_0 rfl rfl ?_
  refine g_bipush C (v := 44) dX1_takesComma_1 (by decide) ?_
  refine g_icmp_eq C (tgt := 8) dX1_takesComma_3 (by decide) (fun c3 => ?_) (fun c3 => ?_)
  · skip
    refine g_aload_n C dX1_takesComma_8 rfl rfl ?_
    refine g_iconst C (v := 4) dX1_takesComma_9 (by decide) ?_
    refine pfX1_38 C (by decide) dX1_takesComma_10 ?_
    refine g_iconst C (v := 1) dX1_takesComma_13 (by decide) ?_
    exact g_zret_1 C hr dX1_takesComma_14 ⟨by simp only [tkComma, c3, ↓reduceIte, bi], by simp only [tkComma, c3, ↓reduceIte], rfl⟩
  · skip
    refine g_iconst C (v := 0) dX1_takesComma_6 (by decide) ?_
    exact g_zret_0 C hr dX1_takesComma_7 ⟨by simp only [tkComma, c3, ↓reduceIte, bi], by simp only [tkComma, c3, ↓reduceIte], rfl⟩

set_option maxRecDepth 100000 in
set_option maxHeartbeats 4000000 in
theorem tX1_takesArrow {l : Launch} {E : EE} {I : Mi} {F : Mr} (hl : LY F) (x : Int32)  : CtF l E mX1_takesArrow [rf E 25, .int x] NT I F NT (some (.int (bi (tkArrow I x).1))) ((tkArrow I x).2) F := by
  refine CtF_of [some (rf E 25), some (.int x)] (by decide) rfl (Nat.le_of_ble_eq_true rfl) rfl (fun p e s m args below meth c C hr hname => ?_)
  refine g_iload_n C dX1_takesArrow_0 rfl rfl ?_
  refine g_bipush C (v := 62) dX1_takesArrow_1 (by decide) ?_
  refine g_icmp_eq C (tgt := 8) dX1_takesArrow_3 (by decide) (fun c3 => ?_) (fun c3 => ?_)
  · skip
    refine g_aload_n C dX1_takesArrow_8 rfl rfl ?_
    refine g_bipush C (v := 6) dX1_takesArrow_9 (by decide) ?_
    refine pfX1_38 C (by decide) dX1_takesArrow_11 ?_
    refine g_iconst C (v := 1) dX1_takesArrow_14 (by decide) ?_
    exact g_zret_1 C hr dX1_takesArrow_15 ⟨by simp only [tkArrow, c3, ↓reduceIte, bi], by simp only [tkArrow, c3, ↓reduceIte], rfl⟩
  · skip
    refine g_iconst C (v := 0) dX1_takesArrow_6 (by decide) ?_
    exact g_zret_0 C hr dX1_takesArrow_7 ⟨by simp only [tkArrow, c3, ↓reduceIte, bi], by simp only [tkArrow, c3, ↓reduceIte], rfl⟩

set_option maxRecDepth 100000 in
set_option maxHeartbeats 4000000 in
theorem tX1_takesLoad {l : Launch} {E : EE} {I : Mi} {F : Mr} (hl : LY F) (x : Int32)  : CtF l E mX1_takesLoad [rf E 25, .int x] NT I F NT (some (.int (bi (tkLoad I x).1))) ((tkLoad I x).2) F := by
  refine CtF_of [some (rf E 25), some (.int x), none] (by decide) rfl (Nat.le_of_ble_eq_true rfl) rfl (fun p e s m args below meth c C hr hname => ?_)
  refine g_iload_n C dX1_takesLoad_0 rfl rfl ?_
  refine g_bipush C (v := 48) dX1_takesLoad_1 (by decide) ?_
  refine g_icmp_lt C (tgt := 12) dX1_takesLoad_3 (by decide) (fun c3 => ?_) (fun c3 => ?_)
  · skip
    refine g_iconst C (v := 0) dX1_takesLoad_12 (by decide) ?_
    exact g_zret_0 C hr dX1_takesLoad_13 ⟨by simp only [tkLoad, c3, ↓reduceIte, bi, Bool.false_eq_true], by simp only [tkLoad, c3, ↓reduceIte, Bool.false_eq_true], rfl⟩
  · skip
    refine g_iload_n C dX1_takesLoad_6 rfl rfl ?_
    refine g_bipush C (v := 57) dX1_takesLoad_7 (by decide) ?_
    refine g_icmp_le C (tgt := 14) dX1_takesLoad_9 (by decide) (fun c9 => ?_) (fun c9 => ?_)
    · skip
      refine g_aload_n C dX1_takesLoad_14 rfl rfl ?_
      refine gfX1_54 C (by decide) dX1_takesLoad_15 ?_
      refine g_bipush C (v := 10) dX1_takesLoad_18 (by decide) ?_
      refine g_imul C dX1_takesLoad_20 ?_
      refine g_iload_n C dX1_takesLoad_21 rfl rfl ?_
      refine g_bipush C (v := 48) dX1_takesLoad_22 (by decide) ?_
      refine g_isub C dX1_takesLoad_24 ?_
      refine g_iadd C dX1_takesLoad_25 ?_
      refine g_istore_n C dX1_takesLoad_26 rfl (by decide) rfl ?_
      refine g_iload_n C dX1_takesLoad_27 rfl rfl ?_
      refine g_iconst C (v := 1) dX1_takesLoad_28 (by decide) ?_
      refine g_bipush C (v := 20) dX1_takesLoad_29 (by decide) ?_
      refine kX1_88 C (by decide) (tX4_isWithin _ _ _) ⟨⟨Nat.le_of_ble_eq_true rfl, Nat.le_of_ble_eq_true rfl⟩, Nat.le_of_ble_eq_true rfl, Nat.le_of_ble_eq_true rfl⟩ (Nat.le_of_ble_eq_true rfl) dX1_takesLoad_31 ?_
      refine g_ifne_b C (tgt := 39) dX1_takesLoad_34 (by decide) (fun c34 => ?_) (fun c34 => ?_)
      · skip
        refine g_aload_n C dX1_takesLoad_39 rfl rfl ?_
        refine g_iload_n C dX1_takesLoad_40 rfl rfl ?_
        refine pfX1_54 C (by decide) dX1_takesLoad_41 ?_
        refine g_aload_n C dX1_takesLoad_44 rfl rfl ?_
        refine g_iconst C (v := 5) dX1_takesLoad_45 (by decide) ?_
        refine pfX1_38 C (by decide) dX1_takesLoad_46 ?_
        refine g_iconst C (v := 1) dX1_takesLoad_49 (by decide) ?_
        exact g_zret_1 C hr dX1_takesLoad_50 ⟨by simp only [tkLoad, c3, c9, c34, ↓reduceIte, bi, Bool.false_eq_true], by simp only [tkLoad, c3, c9, c34, ↓reduceIte, Bool.false_eq_true], rfl⟩
      · skip
        refine g_iconst C (v := 0) dX1_takesLoad_37 (by decide) ?_
        exact g_zret_0 C hr dX1_takesLoad_38 ⟨by simp only [tkLoad, c3, c9, c34, ↓reduceIte, bi, Bool.false_eq_true], by simp only [tkLoad, c3, c9, c34, ↓reduceIte, Bool.false_eq_true], rfl⟩
    · skip
      refine g_iconst C (v := 0) dX1_takesLoad_12 (by decide) ?_
      exact g_zret_0 C hr dX1_takesLoad_13 ⟨by simp only [tkLoad, c3, c9, ↓reduceIte, bi, Bool.false_eq_true], by simp only [tkLoad, c3, c9, ↓reduceIte, Bool.false_eq_true], rfl⟩

set_option maxRecDepth 100000 in
set_option maxHeartbeats 4000000 in
theorem tX1_takesNumber {l : Launch} {E : EE} {I : Mi} {F : Mr} (hl : LY F) (x : Int32)  : CtF l E mX1_takesNumber [rf E 25, .int x] NT I F NT (some (.int (bi (tkNum I x).1))) ((tkNum I x).2) F := by
  refine CtF_of [some (rf E 25), some (.int x), none] (by decide) rfl (Nat.le_of_ble_eq_true rfl) rfl (fun p e s m args below meth c C hr hname => ?_)
  refine g_iload_n C dX1_takesNumber_0 rfl rfl ?_
  refine g_bipush C (v := 48) dX1_takesNumber_1 (by decide) ?_
  refine g_isub C dX1_takesNumber_3 ?_
  refine g_istore_n C dX1_takesNumber_4 rfl (by decide) rfl ?_
  refine g_iload_n C dX1_takesNumber_5 rfl rfl ?_
  refine g_iconst C (v := 0) dX1_takesNumber_6 (by decide) ?_
  refine g_bipush C (v := 7) dX1_takesNumber_7 (by decide) ?_
  refine kX1_88 C (by decide) (tX4_isWithin _ _ _) ⟨⟨Nat.le_of_ble_eq_true rfl, Nat.le_of_ble_eq_true rfl⟩, Nat.le_of_ble_eq_true rfl, Nat.le_of_ble_eq_true rfl⟩ (Nat.le_of_ble_eq_true rfl) dX1_takesNumber_9 ?_
  refine g_ifeq_b C (tgt := 26) dX1_takesNumber_12 (by decide) (fun c12 => ?_) (fun c12 => ?_)
  · skip
    refine g_iconst C (v := 0) dX1_takesNumber_26 (by decide) ?_
    exact g_zret_0 C hr dX1_takesNumber_27 ⟨by unfold tkNum; (try first | rw [if_pos c12] | rw [if_neg c12] | rw [if_neg (show ¬ _ = true by rw [c12]; decide)]); try rfl, by unfold tkNum; (try first | rw [if_pos c12] | rw [if_neg c12] | rw [if_neg (show ¬ _ = true by rw [c12]; decide)]); try rfl, rfl⟩
  · skip
    refine g_iload_n C dX1_takesNumber_15 rfl rfl ?_
    refine g_aload_n C dX1_takesNumber_16 rfl rfl ?_
    refine gfX1_12 C (by decide) hl.rchip dX1_takesNumber_17 ?_
    refine gfX1_92 C hl.c26.o dX1_takesNumber_20 ?_
    refine g_icmp_ne C (tgt := 28) dX1_takesNumber_23 (by decide) (fun c23 => ?_) (fun c23 => ?_)
    · skip
      refine g_aload_n C dX1_takesNumber_28 rfl rfl ?_
      refine g_dup C dX1_takesNumber_29 rfl ?_
      refine gfX1_57 C (by decide) dX1_takesNumber_30 ?_
      refine g_iconst C (v := 1) dX1_takesNumber_33 (by decide) ?_
      refine g_iload_n C dX1_takesNumber_34 rfl rfl ?_
      refine g_ishl C dX1_takesNumber_35 ?_
      refine g_ior C dX1_takesNumber_36 ?_
      refine pfX1_57 C (by decide) dX1_takesNumber_37 ?_
      refine g_aload_n C dX1_takesNumber_40 rfl rfl ?_
      refine g_bipush C (v := 7) dX1_takesNumber_41 (by decide) ?_
      refine pfX1_38 C (by decide) dX1_takesNumber_43 ?_
      refine g_iconst C (v := 1) dX1_takesNumber_46 (by decide) ?_
      exact g_zret_1 C hr dX1_takesNumber_47 ⟨by unfold tkNum; (try first | rw [if_pos c12] | rw [if_neg c12] | rw [if_neg (show ¬ _ = true by rw [c12]; decide)]); (try first | rw [if_pos c23] | rw [if_neg c23] | rw [if_neg (show ¬ _ = true by rw [c23]; decide)]); try rfl, by unfold tkNum; (try first | rw [if_pos c12] | rw [if_neg c12] | rw [if_neg (show ¬ _ = true by rw [c12]; decide)]); (try first | rw [if_pos c23] | rw [if_neg c23] | rw [if_neg (show ¬ _ = true by rw [c23]; decide)]); try rfl, rfl⟩
    · skip
      refine g_iconst C (v := 0) dX1_takesNumber_26 (by decide) ?_
      exact g_zret_0 C hr dX1_takesNumber_27 ⟨by unfold tkNum; (try first | rw [if_pos c12] | rw [if_neg c12] | rw [if_neg (show ¬ _ = true by rw [c12]; decide)]); (try first | rw [if_pos c23] | rw [if_neg c23] | rw [if_neg (show ¬ _ = true by rw [c23]; decide)]); try rfl, by unfold tkNum; (try first | rw [if_pos c12] | rw [if_neg c12] | rw [if_neg (show ¬ _ = true by rw [c12]; decide)]); (try first | rw [if_pos c23] | rw [if_neg c23] | rw [if_neg (show ¬ _ = true by rw [c23]; decide)]); try rfl, rfl⟩

set_option maxRecDepth 100000 in
set_option maxHeartbeats 4000000 in
theorem tX1_endIsland {l : Launch} {E : EE} {I : Mi} {F : Mr} (hl : LY F) {n : Nat} (hn8 : n < 8) (hn : I 26 0 = nI n)  : CtF l E mX1_endIsland [rf E 25] NT I F NT none (endI I n) F := by
  refine CtF_of [some (rf E 25)] (by decide) rfl (Nat.le_of_ble_eq_true rfl) rfl (fun p e s m args below meth c C hr hname => ?_)
  refine g_aload_n C dX1_endIsland_0 rfl rfl ?_
  refine gfX1_12 C (by decide) hl.rchip dX1_endIsland_1 ?_
  refine g_aload_n C dX1_endIsland_4 rfl rfl ?_
  refine gfX1_44 C (by decide) dX1_endIsland_5 ?_
  refine g_aload_n C dX1_endIsland_8 rfl rfl ?_
  refine gfX1_48 C (by decide) dX1_endIsland_9 ?_
  refine g_aload_n C dX1_endIsland_12 rfl rfl ?_
  refine gfX1_51 C (by decide) dX1_endIsland_13 ?_
  refine g_aload_n C dX1_endIsland_16 rfl rfl ?_
  refine gfX1_54 C (by decide) dX1_endIsland_17 ?_
  refine g_aload_n C dX1_endIsland_20 rfl rfl ?_
  refine gfX1_57 C (by decide) dX1_endIsland_21 ?_
  refine kX1_60 C hl.c26.o (tX0_addIsland hl.c26 (by decide) hn8 hn _ _ _ _ _) ⟨⟨Nat.le_of_ble_eq_true rfl, Nat.le_of_ble_eq_true rfl⟩, Nat.le_of_ble_eq_true rfl, Nat.le_of_ble_eq_true rfl⟩ (Nat.le_of_ble_eq_true rfl) dX1_endIsland_24 ?_
  exact g_vret C hr dX1_endIsland_27 ⟨rfl, rfl, rfl⟩

set_option maxRecDepth 100000 in
set_option maxHeartbeats 4000000 in
theorem tX1_takesEnd {l : Launch} {E : EE} {I : Mi} {F : Mr} (hl : LY F) {n : Nat} (hn8 : n < 8) (hn : I 26 0 = nI n) (x : Int32)  : CtF l E mX1_takesEnd [rf E 25, .int x] NT I F NT (some (.int (bi (tkEnd I n x).1))) ((tkEnd I n x).2) F := by
  refine CtF_of [some (rf E 25), some (.int x)] (by decide) rfl (Nat.le_of_ble_eq_true rfl) rfl (fun p e s m args below meth c C hr hname => ?_)
  refine g_iload_n C dX1_takesEnd_0 rfl rfl ?_
  refine g_bipush C (v := 59) dX1_takesEnd_1 (by decide) ?_
  refine g_icmp_ne C (tgt := 20) dX1_takesEnd_3 (by decide) (fun c3 => ?_) (fun c3 => ?_)
  · skip
    refine g_iconst C (v := 0) dX1_takesEnd_20 (by decide) ?_
    exact g_zret_0 C hr dX1_takesEnd_21 ⟨by simp only [tkEnd, c3, ↓reduceIte, bi], by simp only [tkEnd, c3, ↓reduceIte], rfl⟩
  · skip
    refine g_aload_n C dX1_takesEnd_6 rfl rfl ?_
    refine gfX1_12 C (by decide) hl.rchip dX1_takesEnd_7 ?_
    refine gfX1_92 C hl.c26.o dX1_takesEnd_10 ?_
    refine g_iconst C (v := 1) dX1_takesEnd_13 (by decide) ?_
    refine g_iadd C dX1_takesEnd_14 ?_
    refine g_bipush C (v := 8) dX1_takesEnd_15 (by decide) ?_
    refine g_icmp_lt C (tgt := 22) dX1_takesEnd_17 (by decide) (fun c17 => ?_) (fun c17 => ?_)
    · skip
      refine g_aload_n C dX1_takesEnd_22 rfl rfl ?_
      refine kX1_41 C (by decide) (tX1_endIsland hl hn8 hn) ⟨⟨Nat.le_of_ble_eq_true rfl, Nat.le_of_ble_eq_true rfl⟩, Nat.le_of_ble_eq_true rfl, Nat.le_of_ble_eq_true rfl⟩ (Nat.le_of_ble_eq_true rfl) dX1_takesEnd_23 ?_
      refine g_aload_n C dX1_takesEnd_26 rfl rfl ?_
      refine kX1_18 C (by decide) (tX1_beginIsland (by decide)) ⟨⟨Nat.le_of_ble_eq_true rfl, Nat.le_of_ble_eq_true rfl⟩, Nat.le_of_ble_eq_true rfl, Nat.le_of_ble_eq_true rfl⟩ (Nat.le_of_ble_eq_true rfl) dX1_takesEnd_27 ?_
      refine g_iconst C (v := 1) dX1_takesEnd_30 (by decide) ?_
      exact g_zret_1 C hr dX1_takesEnd_31 ⟨by simp only [tkEnd, c3, c17, ↓reduceIte, bi], by simp only [tkEnd, c3, c17, ↓reduceIte], rfl⟩
    · skip
      refine g_iconst C (v := 0) dX1_takesEnd_20 (by decide) ?_
      exact g_zret_0 C hr dX1_takesEnd_21 ⟨by simp only [tkEnd, c3, c17, ↓reduceIte, bi], by simp only [tkEnd, c3, c17, ↓reduceIte], rfl⟩

set_option maxRecDepth 100000 in
set_option maxHeartbeats 4000000 in
theorem tX1_takes {l : Launch} {E : EE} {I : Mi} {F : Mr} (hl : LY F) {n : Nat} (hn8 : n < 8) (hn : I 26 0 = nI n) (x : Int32)  : CtF l E mX1_takes [rf E 25, .int x] NT I F NT (some (.int (bi (tkC I n x).1))) ((tkC I n x).2) F := by
  refine CtF_of [some (rf E 25), some (.int x)] (by decide) rfl (Nat.le_of_ble_eq_true rfl) rfl (fun p e s m args below meth c C hr hname => ?_)
  refine g_aload_n C dX1_takes_0 rfl rfl ?_
  refine gfX1_38 C (by decide) dX1_takes_1 ?_
  by_cases csw : (I 25 1).toInt < 0 ∨ 6 < (I 25 1).toInt
  · refine g_tableOut C (tgt := 154) dX1_takes_4 csw (by decide) ?_
    have hsw := fun {α : Type} (f : Nat → α) (d9 : α) => swf_out (f := f) (d := d9) csw
    refine g_aload_n C dX1_takes_154 rfl rfl ?_
    refine g_iload_n C dX1_takes_155 rfl rfl ?_
    refine kX1_79 C (by decide) (tX1_takesArrow hl _) ⟨⟨Nat.le_of_ble_eq_true rfl, Nat.le_of_ble_eq_true rfl⟩, Nat.le_of_ble_eq_true rfl, Nat.le_of_ble_eq_true rfl⟩ (Nat.le_of_ble_eq_true rfl) dX1_takes_156 ?_
    refine g_ifne_b C (tgt := 170) dX1_takes_159 (by decide) (fun c159 => ?_) (fun c159 => ?_)
    · skip
      refine g_iconst C (v := 1) dX1_takes_170 (by decide) ?_
      refine g_goto C (tgt := 175) dX1_takes_171 (by decide) ?_
      exact g_zret_1 C hr dX1_takes_175 ⟨by unfold tkC; rw [hsw]; try simp only [orT, c159, ↓reduceIte, bi, Bool.false_eq_true]; try rfl, by unfold tkC; rw [hsw]; try simp only [orT, c159, ↓reduceIte, Bool.false_eq_true]; try rfl, rfl⟩
    · skip
      refine g_aload_n C dX1_takes_162 rfl rfl ?_
      refine g_iload_n C dX1_takes_163 rfl rfl ?_
      refine kX1_82 C (by decide) (tX1_takesEnd hl hn8 (by first | exact hn | (simp only [tkArrow26, tkLoad26]; exact hn)) _) ⟨⟨Nat.le_of_ble_eq_true rfl, Nat.le_of_ble_eq_true rfl⟩, Nat.le_of_ble_eq_true rfl, Nat.le_of_ble_eq_true rfl⟩ (Nat.le_of_ble_eq_true rfl) dX1_takes_164 ?_
      refine g_ifeq_b C (tgt := 174) dX1_takes_167 (by decide) (fun c167 => ?_) (fun c167 => ?_)
      · skip
        refine g_iconst C (v := 0) dX1_takes_174 (by decide) ?_
        exact g_zret_0 C hr dX1_takes_175 ⟨by unfold tkC; rw [hsw]; try simp only [orT, c159, c167, ↓reduceIte, bi, Bool.false_eq_true]; try rfl, by unfold tkC; rw [hsw]; try simp only [orT, c159, c167, ↓reduceIte, Bool.false_eq_true]; try rfl, rfl⟩
      · skip
        refine g_iconst C (v := 1) dX1_takes_170 (by decide) ?_
        refine g_goto C (tgt := 175) dX1_takes_171 (by decide) ?_
        exact g_zret_1 C hr dX1_takes_175 ⟨by unfold tkC; rw [hsw]; try simp only [orT, c159, c167, ↓reduceIte, bi, Bool.false_eq_true]; try rfl, by unfold tkC; rw [hsw]; try simp only [orT, c159, c167, ↓reduceIte, Bool.false_eq_true]; try rfl, rfl⟩
  · obtain ⟨csw1, csw2⟩ := not_or.mp csw
    have csw3 : (I 25 1) = 0 ∨ (I 25 1) = 1 ∨ (I 25 1) = 2 ∨ (I 25 1) = 3 ∨ (I 25 1) = 4 ∨ (I 25 1) = 5 ∨ (I 25 1) = 6 := sw_cases7 csw1 csw2
    rcases csw3 with c_0 | c_1 | c_2 | c_3 | c_4 | c_5 | c_6
    · refine g_tableIn C (off := 44) (tgt := 48) dX1_takes_4 csw1 csw2 (by rw [c_0]; rfl) (by decide) ?_
      have hsw := fun {α : Type} (f : Nat → α) (d9 : α) => swf_at (n := 6) (f := f) (d := d9) (z := 0) c_0 (by decide) (by decide)
      refine g_aload_n C dX1_takes_48 rfl rfl ?_
      refine g_iload_n C dX1_takes_49 rfl rfl ?_
      refine kX1_64 C (by decide) (tX1_takesIsolator hl _) ⟨⟨Nat.le_of_ble_eq_true rfl, Nat.le_of_ble_eq_true rfl⟩, Nat.le_of_ble_eq_true rfl, Nat.le_of_ble_eq_true rfl⟩ (Nat.le_of_ble_eq_true rfl) dX1_takes_50 ?_
      refine g_ifne_b C (tgt := 72) dX1_takes_53 (by decide) (fun c53 => ?_) (fun c53 => ?_)
      · skip
        refine g_iconst C (v := 1) dX1_takes_72 (by decide) ?_
        refine g_goto C (tgt := 77) dX1_takes_73 (by decide) ?_
        exact g_zret_1 C hr dX1_takes_77 ⟨by unfold tkC; rw [hsw]; try simp only [orT, c53, ↓reduceIte, bi, Bool.false_eq_true]; try rfl, by unfold tkC; rw [hsw]; try simp only [orT, c53, ↓reduceIte, Bool.false_eq_true]; try rfl, rfl⟩
      · skip
        refine g_aload_n C dX1_takes_56 rfl rfl ?_
        refine g_iload_n C dX1_takes_57 rfl rfl ?_
        refine kX1_67 C (by decide) (tX1_takesKeeper hl _) ⟨⟨Nat.le_of_ble_eq_true rfl, Nat.le_of_ble_eq_true rfl⟩, Nat.le_of_ble_eq_true rfl, Nat.le_of_ble_eq_true rfl⟩ (Nat.le_of_ble_eq_true rfl) dX1_takes_58 ?_
        refine g_ifne_b C (tgt := 72) dX1_takes_61 (by decide) (fun c61 => ?_) (fun c61 => ?_)
        · skip
          refine g_iconst C (v := 1) dX1_takes_72 (by decide) ?_
          refine g_goto C (tgt := 77) dX1_takes_73 (by decide) ?_
          exact g_zret_1 C hr dX1_takes_77 ⟨by unfold tkC; rw [hsw]; try simp only [orT, c53, c61, ↓reduceIte, bi, Bool.false_eq_true]; try rfl, by unfold tkC; rw [hsw]; try simp only [orT, c53, c61, ↓reduceIte, Bool.false_eq_true]; try rfl, rfl⟩
        · skip
          refine g_aload_n C dX1_takes_64 rfl rfl ?_
          refine g_iload_n C dX1_takes_65 rfl rfl ?_
          refine kX1_70 C (by decide) (tX1_takesRise hl _) ⟨⟨Nat.le_of_ble_eq_true rfl, Nat.le_of_ble_eq_true rfl⟩, Nat.le_of_ble_eq_true rfl, Nat.le_of_ble_eq_true rfl⟩ (Nat.le_of_ble_eq_true rfl) dX1_takes_66 ?_
          refine g_ifeq_b C (tgt := 76) dX1_takes_69 (by decide) (fun c69 => ?_) (fun c69 => ?_)
          · skip
            refine g_iconst C (v := 0) dX1_takes_76 (by decide) ?_
            exact g_zret_0 C hr dX1_takes_77 ⟨by unfold tkC; rw [hsw]; try simp only [orT, c53, c61, c69, ↓reduceIte, bi, Bool.false_eq_true]; try rfl, by unfold tkC; rw [hsw]; try simp only [orT, c53, c61, c69, ↓reduceIte, Bool.false_eq_true]; try rfl, rfl⟩
          · skip
            refine g_iconst C (v := 1) dX1_takes_72 (by decide) ?_
            refine g_goto C (tgt := 77) dX1_takes_73 (by decide) ?_
            exact g_zret_1 C hr dX1_takes_77 ⟨by unfold tkC; rw [hsw]; try simp only [orT, c53, c61, c69, ↓reduceIte, bi, Bool.false_eq_true]; try rfl, by unfold tkC; rw [hsw]; try simp only [orT, c53, c61, c69, ↓reduceIte, Bool.false_eq_true]; try rfl, rfl⟩
    · refine g_tableIn C (off := 74) (tgt := 78) dX1_takes_4 csw1 csw2 (by rw [c_1]; rfl) (by decide) ?_
      have hsw := fun {α : Type} (f : Nat → α) (d9 : α) => swf_at (n := 6) (f := f) (d := d9) (z := 1) c_1 (by decide) (by decide)
      refine g_aload_n C dX1_takes_78 rfl rfl ?_
      refine g_iload_n C dX1_takes_79 rfl rfl ?_
      refine kX1_67 C (by decide) (tX1_takesKeeper hl _) ⟨⟨Nat.le_of_ble_eq_true rfl, Nat.le_of_ble_eq_true rfl⟩, Nat.le_of_ble_eq_true rfl, Nat.le_of_ble_eq_true rfl⟩ (Nat.le_of_ble_eq_true rfl) dX1_takes_80 ?_
      refine g_ifne_b C (tgt := 94) dX1_takes_83 (by decide) (fun c83 => ?_) (fun c83 => ?_)
      · skip
        refine g_iconst C (v := 1) dX1_takes_94 (by decide) ?_
        refine g_goto C (tgt := 99) dX1_takes_95 (by decide) ?_
        exact g_zret_1 C hr dX1_takes_99 ⟨by unfold tkC; rw [hsw]; try simp only [orT, c83, ↓reduceIte, bi, Bool.false_eq_true]; try rfl, by unfold tkC; rw [hsw]; try simp only [orT, c83, ↓reduceIte, Bool.false_eq_true]; try rfl, rfl⟩
      · skip
        refine g_aload_n C dX1_takes_86 rfl rfl ?_
        refine g_iload_n C dX1_takes_87 rfl rfl ?_
        refine kX1_70 C (by decide) (tX1_takesRise hl _) ⟨⟨Nat.le_of_ble_eq_true rfl, Nat.le_of_ble_eq_true rfl⟩, Nat.le_of_ble_eq_true rfl, Nat.le_of_ble_eq_true rfl⟩ (Nat.le_of_ble_eq_true rfl) dX1_takes_88 ?_
        refine g_ifeq_b C (tgt := 98) dX1_takes_91 (by decide) (fun c91 => ?_) (fun c91 => ?_)
        · skip
          refine g_iconst C (v := 0) dX1_takes_98 (by decide) ?_
          exact g_zret_0 C hr dX1_takes_99 ⟨by unfold tkC; rw [hsw]; try simp only [orT, c83, c91, ↓reduceIte, bi, Bool.false_eq_true]; try rfl, by unfold tkC; rw [hsw]; try simp only [orT, c83, c91, ↓reduceIte, Bool.false_eq_true]; try rfl, rfl⟩
        · skip
          refine g_iconst C (v := 1) dX1_takes_94 (by decide) ?_
          refine g_goto C (tgt := 99) dX1_takes_95 (by decide) ?_
          exact g_zret_1 C hr dX1_takes_99 ⟨by unfold tkC; rw [hsw]; try simp only [orT, c83, c91, ↓reduceIte, bi, Bool.false_eq_true]; try rfl, by unfold tkC; rw [hsw]; try simp only [orT, c83, c91, ↓reduceIte, Bool.false_eq_true]; try rfl, rfl⟩
    · refine g_tableIn C (off := 96) (tgt := 100) dX1_takes_4 csw1 csw2 (by rw [c_2]; rfl) (by decide) ?_
      have hsw := fun {α : Type} (f : Nat → α) (d9 : α) => swf_at (n := 6) (f := f) (d := d9) (z := 2) c_2 (by decide) (by decide)
      refine g_aload_n C dX1_takes_100 rfl rfl ?_
      refine g_iload_n C dX1_takes_101 rfl rfl ?_
      refine kX1_70 C (by decide) (tX1_takesRise hl _) ⟨⟨Nat.le_of_ble_eq_true rfl, Nat.le_of_ble_eq_true rfl⟩, Nat.le_of_ble_eq_true rfl, Nat.le_of_ble_eq_true rfl⟩ (Nat.le_of_ble_eq_true rfl) dX1_takes_102 ?_
      exact g_zret_b C hr dX1_takes_105 ⟨by unfold tkC; rw [hsw]; try simp only [orT, lp, ↓reduceIte, bi, Bool.false_eq_true]; try rfl, by unfold tkC; rw [hsw]; try simp only [orT, lp, ↓reduceIte, Bool.false_eq_true]; try rfl, rfl⟩
    · refine g_tableIn C (off := 102) (tgt := 106) dX1_takes_4 csw1 csw2 (by rw [c_3]; rfl) (by decide) ?_
      have hsw := fun {α : Type} (f : Nat → α) (d9 : α) => swf_at (n := 6) (f := f) (d := d9) (z := 3) c_3 (by decide) (by decide)
      refine g_aload_n C dX1_takes_106 rfl rfl ?_
      refine g_iload_n C dX1_takes_107 rfl rfl ?_
      refine kX1_73 C (by decide) (tX1_takesComma hl _) ⟨⟨Nat.le_of_ble_eq_true rfl, Nat.le_of_ble_eq_true rfl⟩, Nat.le_of_ble_eq_true rfl, Nat.le_of_ble_eq_true rfl⟩ (Nat.le_of_ble_eq_true rfl) dX1_takes_108 ?_
      exact g_zret_b C hr dX1_takes_111 ⟨by unfold tkC; rw [hsw]; try simp only [orT, lp, ↓reduceIte, bi, Bool.false_eq_true]; try rfl, by unfold tkC; rw [hsw]; try simp only [orT, lp, ↓reduceIte, Bool.false_eq_true]; try rfl, rfl⟩
    · refine g_tableIn C (off := 108) (tgt := 112) dX1_takes_4 csw1 csw2 (by rw [c_4]; rfl) (by decide) ?_
      have hsw := fun {α : Type} (f : Nat → α) (d9 : α) => swf_at (n := 6) (f := f) (d := d9) (z := 4) c_4 (by decide) (by decide)
      refine g_aload_n C dX1_takes_112 rfl rfl ?_
      refine g_iload_n C dX1_takes_113 rfl rfl ?_
      refine kX1_76 C (by decide) (tX1_takesLoad hl _) ⟨⟨Nat.le_of_ble_eq_true rfl, Nat.le_of_ble_eq_true rfl⟩, Nat.le_of_ble_eq_true rfl, Nat.le_of_ble_eq_true rfl⟩ (Nat.le_of_ble_eq_true rfl) dX1_takes_114 ?_
      exact g_zret_b C hr dX1_takes_117 ⟨by unfold tkC; rw [hsw]; try simp only [orT, lp, ↓reduceIte, bi, Bool.false_eq_true]; try rfl, by unfold tkC; rw [hsw]; try simp only [orT, lp, ↓reduceIte, Bool.false_eq_true]; try rfl, rfl⟩
    · refine g_tableIn C (off := 114) (tgt := 118) dX1_takes_4 csw1 csw2 (by rw [c_5]; rfl) (by decide) ?_
      have hsw := fun {α : Type} (f : Nat → α) (d9 : α) => swf_at (n := 6) (f := f) (d := d9) (z := 5) c_5 (by decide) (by decide)
      refine g_aload_n C dX1_takes_118 rfl rfl ?_
      refine g_iload_n C dX1_takes_119 rfl rfl ?_
      refine kX1_76 C (by decide) (tX1_takesLoad hl _) ⟨⟨Nat.le_of_ble_eq_true rfl, Nat.le_of_ble_eq_true rfl⟩, Nat.le_of_ble_eq_true rfl, Nat.le_of_ble_eq_true rfl⟩ (Nat.le_of_ble_eq_true rfl) dX1_takes_120 ?_
      refine g_ifne_b C (tgt := 142) dX1_takes_123 (by decide) (fun c123 => ?_) (fun c123 => ?_)
      · skip
        refine g_iconst C (v := 1) dX1_takes_142 (by decide) ?_
        refine g_goto C (tgt := 147) dX1_takes_143 (by decide) ?_
        exact g_zret_1 C hr dX1_takes_147 ⟨by unfold tkC; rw [hsw]; try simp only [orT, c123, ↓reduceIte, bi, Bool.false_eq_true]; try rfl, by unfold tkC; rw [hsw]; try simp only [orT, c123, ↓reduceIte, Bool.false_eq_true]; try rfl, rfl⟩
      · skip
        refine g_aload_n C dX1_takes_126 rfl rfl ?_
        refine g_iload_n C dX1_takes_127 rfl rfl ?_
        refine kX1_79 C (by decide) (tX1_takesArrow hl _) ⟨⟨Nat.le_of_ble_eq_true rfl, Nat.le_of_ble_eq_true rfl⟩, Nat.le_of_ble_eq_true rfl, Nat.le_of_ble_eq_true rfl⟩ (Nat.le_of_ble_eq_true rfl) dX1_takes_128 ?_
        refine g_ifne_b C (tgt := 142) dX1_takes_131 (by decide) (fun c131 => ?_) (fun c131 => ?_)
        · skip
          refine g_iconst C (v := 1) dX1_takes_142 (by decide) ?_
          refine g_goto C (tgt := 147) dX1_takes_143 (by decide) ?_
          exact g_zret_1 C hr dX1_takes_147 ⟨by unfold tkC; rw [hsw]; try simp only [orT, c123, c131, ↓reduceIte, bi, Bool.false_eq_true]; try rfl, by unfold tkC; rw [hsw]; try simp only [orT, c123, c131, ↓reduceIte, Bool.false_eq_true]; try rfl, rfl⟩
        · skip
          refine g_aload_n C dX1_takes_134 rfl rfl ?_
          refine g_iload_n C dX1_takes_135 rfl rfl ?_
          refine kX1_82 C (by decide) (tX1_takesEnd hl hn8 (by first | exact hn | (simp only [tkArrow26, tkLoad26]; exact hn)) _) ⟨⟨Nat.le_of_ble_eq_true rfl, Nat.le_of_ble_eq_true rfl⟩, Nat.le_of_ble_eq_true rfl, Nat.le_of_ble_eq_true rfl⟩ (Nat.le_of_ble_eq_true rfl) dX1_takes_136 ?_
          refine g_ifeq_b C (tgt := 146) dX1_takes_139 (by decide) (fun c139 => ?_) (fun c139 => ?_)
          · skip
            refine g_iconst C (v := 0) dX1_takes_146 (by decide) ?_
            exact g_zret_0 C hr dX1_takes_147 ⟨by unfold tkC; rw [hsw]; try simp only [orT, c123, c131, c139, ↓reduceIte, bi, Bool.false_eq_true]; try rfl, by unfold tkC; rw [hsw]; try simp only [orT, c123, c131, c139, ↓reduceIte, Bool.false_eq_true]; try rfl, rfl⟩
          · skip
            refine g_iconst C (v := 1) dX1_takes_142 (by decide) ?_
            refine g_goto C (tgt := 147) dX1_takes_143 (by decide) ?_
            exact g_zret_1 C hr dX1_takes_147 ⟨by unfold tkC; rw [hsw]; try simp only [orT, c123, c131, c139, ↓reduceIte, bi, Bool.false_eq_true]; try rfl, by unfold tkC; rw [hsw]; try simp only [orT, c123, c131, c139, ↓reduceIte, Bool.false_eq_true]; try rfl, rfl⟩
    · refine g_tableIn C (off := 144) (tgt := 148) dX1_takes_4 csw1 csw2 (by rw [c_6]; rfl) (by decide) ?_
      have hsw := fun {α : Type} (f : Nat → α) (d9 : α) => swf_at (n := 6) (f := f) (d := d9) (z := 6) c_6 (by decide) (by decide)
      refine g_aload_n C dX1_takes_148 rfl rfl ?_
      refine g_iload_n C dX1_takes_149 rfl rfl ?_
      refine kX1_85 C (by decide) (tX1_takesNumber hl _) ⟨⟨Nat.le_of_ble_eq_true rfl, Nat.le_of_ble_eq_true rfl⟩, Nat.le_of_ble_eq_true rfl, Nat.le_of_ble_eq_true rfl⟩ (Nat.le_of_ble_eq_true rfl) dX1_takes_150 ?_
      exact g_zret_b C hr dX1_takes_153 ⟨by unfold tkC; rw [hsw]; try simp only [orT, lp, ↓reduceIte, bi, Bool.false_eq_true]; try rfl, by unfold tkC; rw [hsw]; try simp only [orT, lp, ↓reduceIte, Bool.false_eq_true]; try rfl, rfl⟩

