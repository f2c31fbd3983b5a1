/-! the whole layout behind the constructors (the system's own cells), reader, pad, history -/
abbrev RF10 (F : Mr) (a : Nat) : Prop := F a 3 = some (a + 1) ∧ F a 4 = some (a + 2) ∧ F a 5 = some (a + 3) ∧ F a 6 = some (a + 4) ∧ F a 7 = some (a + 5) ∧ F a 8 = some (a + 6) ∧ F a 9 = some (a + 7) ∧ F a 10 = some (a + 8) ∧ F a 11 = some (a + 9) ∧ F a 18 = some (a + 10)
def LY (F : Mr) : Prop := F 0 0 = some 1 ∧ F 0 1 = some 12 ∧ F 0 2 = some 23 ∧ F 0 3 = some 25 ∧ F 0 4 = some 37 ∧ F 0 5 = some 105 ∧ F 0 6 = some 116 ∧ F 23 0 = some 24 ∧ F 25 0 = some 26 ∧ F 37 0 = some 38 ∧ RF10 F 1 ∧ RF10 F 12 ∧ RF10 F 26 ∧ RF10 F 105 ∧ RF10 F 116 ∧ RF10 F 39 ∧ RF10 F 50 ∧ RF10 F 61 ∧ RF10 F 72 ∧ RF10 F 83 ∧ RF10 F 94
theorem LY.chip {F : Mr} (h : LY F) : F 0 0 = some 1 := h.1
theorem LY.trial {F : Mr} (h : LY F) : F 0 1 = some 12 := h.2.1
theorem LY.padR {F : Mr} (h : LY F) : F 0 2 = some 23 := h.2.2.1
theorem LY.readerR {F : Mr} (h : LY F) : F 0 3 = some 25 := h.2.2.2.1
theorem LY.histR {F : Mr} (h : LY F) : F 0 4 = some 37 := h.2.2.2.2.1
theorem LY.slot1 {F : Mr} (h : LY F) : F 0 5 = some 105 := h.2.2.2.2.2.1
theorem LY.slot2 {F : Mr} (h : LY F) : F 0 6 = some 116 := h.2.2.2.2.2.2.1
theorem LY.signs {F : Mr} (h : LY F) : F 23 0 = some 24 := h.2.2.2.2.2.2.2.1
theorem LY.rchip {F : Mr} (h : LY F) : F 25 0 = some 26 := h.2.2.2.2.2.2.2.2.1
theorem LY.before {F : Mr} (h : LY F) : F 37 0 = some 38 := h.2.2.2.2.2.2.2.2.2.1
theorem LY.c1 {F : Mr} (h : LY F) : CH NT F 1 := ⟨by decide +kernel, by intro j h1 h2; rcases (show j = 1 ∨ j = 2 ∨ j = 3 ∨ j = 4 ∨ j = 5 ∨ j = 6 ∨ j = 7 ∨ j = 8 ∨ j = 9 ∨ j = 10 by omega) with rfl | rfl | rfl | rfl | rfl | rfl | rfl | rfl | rfl | rfl <;> decide +kernel, h.2.2.2.2.2.2.2.2.2.2.1⟩
theorem LY.c12 {F : Mr} (h : LY F) : CH NT F 12 := ⟨by decide +kernel, by intro j h1 h2; rcases (show j = 1 ∨ j = 2 ∨ j = 3 ∨ j = 4 ∨ j = 5 ∨ j = 6 ∨ j = 7 ∨ j = 8 ∨ j = 9 ∨ j = 10 by omega) with rfl | rfl | rfl | rfl | rfl | rfl | rfl | rfl | rfl | rfl <;> decide +kernel, h.2.2.2.2.2.2.2.2.2.2.2.1⟩
theorem LY.c26 {F : Mr} (h : LY F) : CH NT F 26 := ⟨by decide +kernel, by intro j h1 h2; rcases (show j = 1 ∨ j = 2 ∨ j = 3 ∨ j = 4 ∨ j = 5 ∨ j = 6 ∨ j = 7 ∨ j = 8 ∨ j = 9 ∨ j = 10 by omega) with rfl | rfl | rfl | rfl | rfl | rfl | rfl | rfl | rfl | rfl <;> decide +kernel, h.2.2.2.2.2.2.2.2.2.2.2.2.1⟩
theorem LY.c105 {F : Mr} (h : LY F) : CH NT F 105 := ⟨by decide +kernel, by intro j h1 h2; rcases (show j = 1 ∨ j = 2 ∨ j = 3 ∨ j = 4 ∨ j = 5 ∨ j = 6 ∨ j = 7 ∨ j = 8 ∨ j = 9 ∨ j = 10 by omega) with rfl | rfl | rfl | rfl | rfl | rfl | rfl | rfl | rfl | rfl <;> decide +kernel, h.2.2.2.2.2.2.2.2.2.2.2.2.2.1⟩
theorem LY.c116 {F : Mr} (h : LY F) : CH NT F 116 := ⟨by decide +kernel, by intro j h1 h2; rcases (show j = 1 ∨ j = 2 ∨ j = 3 ∨ j = 4 ∨ j = 5 ∨ j = 6 ∨ j = 7 ∨ j = 8 ∨ j = 9 ∨ j = 10 by omega) with rfl | rfl | rfl | rfl | rfl | rfl | rfl | rfl | rfl | rfl <;> decide +kernel, h.2.2.2.2.2.2.2.2.2.2.2.2.2.2.1⟩
theorem LY.c39 {F : Mr} (h : LY F) : CH NT F 39 := ⟨by decide +kernel, by intro j h1 h2; rcases (show j = 1 ∨ j = 2 ∨ j = 3 ∨ j = 4 ∨ j = 5 ∨ j = 6 ∨ j = 7 ∨ j = 8 ∨ j = 9 ∨ j = 10 by omega) with rfl | rfl | rfl | rfl | rfl | rfl | rfl | rfl | rfl | rfl <;> decide +kernel, h.2.2.2.2.2.2.2.2.2.2.2.2.2.2.2.1⟩
theorem LY.c50 {F : Mr} (h : LY F) : CH NT F 50 := ⟨by decide +kernel, by intro j h1 h2; rcases (show j = 1 ∨ j = 2 ∨ j = 3 ∨ j = 4 ∨ j = 5 ∨ j = 6 ∨ j = 7 ∨ j = 8 ∨ j = 9 ∨ j = 10 by omega) with rfl | rfl | rfl | rfl | rfl | rfl | rfl | rfl | rfl | rfl <;> decide +kernel, h.2.2.2.2.2.2.2.2.2.2.2.2.2.2.2.2.1⟩
theorem LY.c61 {F : Mr} (h : LY F) : CH NT F 61 := ⟨by decide +kernel, by intro j h1 h2; rcases (show j = 1 ∨ j = 2 ∨ j = 3 ∨ j = 4 ∨ j = 5 ∨ j = 6 ∨ j = 7 ∨ j = 8 ∨ j = 9 ∨ j = 10 by omega) with rfl | rfl | rfl | rfl | rfl | rfl | rfl | rfl | rfl | rfl <;> decide +kernel, h.2.2.2.2.2.2.2.2.2.2.2.2.2.2.2.2.2.1⟩
theorem LY.c72 {F : Mr} (h : LY F) : CH NT F 72 := ⟨by decide +kernel, by intro j h1 h2; rcases (show j = 1 ∨ j = 2 ∨ j = 3 ∨ j = 4 ∨ j = 5 ∨ j = 6 ∨ j = 7 ∨ j = 8 ∨ j = 9 ∨ j = 10 by omega) with rfl | rfl | rfl | rfl | rfl | rfl | rfl | rfl | rfl | rfl <;> decide +kernel, h.2.2.2.2.2.2.2.2.2.2.2.2.2.2.2.2.2.2.1⟩
theorem LY.c83 {F : Mr} (h : LY F) : CH NT F 83 := ⟨by decide +kernel, by intro j h1 h2; rcases (show j = 1 ∨ j = 2 ∨ j = 3 ∨ j = 4 ∨ j = 5 ∨ j = 6 ∨ j = 7 ∨ j = 8 ∨ j = 9 ∨ j = 10 by omega) with rfl | rfl | rfl | rfl | rfl | rfl | rfl | rfl | rfl | rfl <;> decide +kernel, h.2.2.2.2.2.2.2.2.2.2.2.2.2.2.2.2.2.2.2.1⟩
theorem LY.c94 {F : Mr} (h : LY F) : CH NT F 94 := ⟨by decide +kernel, by intro j h1 h2; rcases (show j = 1 ∨ j = 2 ∨ j = 3 ∨ j = 4 ∨ j = 5 ∨ j = 6 ∨ j = 7 ∨ j = 8 ∨ j = 9 ∨ j = 10 by omega) with rfl | rfl | rfl | rfl | rfl | rfl | rfl | rfl | rfl | rfl <;> decide +kernel, h.2.2.2.2.2.2.2.2.2.2.2.2.2.2.2.2.2.2.2.2⟩
theorem LY.same {F F2 : Mr} (h : LY F) (hs : ∀ x, x ≠ 38 → F2 x = F x) : LY F2 := by
  unfold LY at h ⊢
  simp only [RF10, hs 0 (by decide), hs 1 (by decide), hs 12 (by decide), hs 23 (by decide), hs 25 (by decide), hs 26 (by decide), hs 37 (by decide), hs 39 (by decide), hs 50 (by decide), hs 61 (by decide), hs 72 (by decide), hs 83 (by decide), hs 94 (by decide), hs 105 (by decide), hs 116 (by decide), hs 127 (by decide)]
  exact h
/-- the history's chips -/
def HB (F : Mr) (h : Nat → Nat) : Prop := ∀ j, j < 6 → F 38 j = some (h j) ∧ (h j = 39 ∨ h j = 50 ∨ h j = 61 ∨ h j = 72 ∨ h j = 83 ∨ h j = 94)
theorem HB.ch {F : Mr} {h : Nat → Nat} (hb : HB F h) (hl : LY F) {j : Nat} (hj : j < 6) : CH NT F (h j) := by
  rcases (hb j hj).2 with e | e | e | e | e | e <;> rw [e]
  · exact hl.c39
  · exact hl.c50
  · exact hl.c61
  · exact hl.c72
  · exact hl.c83
  · exact hl.c94
def drH (h : Nat → Nat) : Nat → Nat := fun j => if j < 5 then h (j + 1) else h 0
def drL (F : Mr) (h : Nat → Nat) (i : Nat) : Mr := fun x y => if x = 38 ∧ y < i then some (h (y + 1)) else F x y
def drF (F : Mr) (h : Nat → Nat) : Mr := fun x y => if x = 38 ∧ y = 5 then some (h 0) else drL F h 5 x y
theorem drF_ne {F : Mr} {h : Nat → Nat} : ∀ x, x ≠ 38 → drF F h x = F x := fun x hx => by funext y; simp [drF, drL, hx]
theorem drF_HB {F : Mr} {h : Nat → Nat} (hb : HB F h) : HB (drF F h) (drH h) := by
  intro j hj
  by_cases h5 : j < 5
  · have h5' : ¬ j = 5 := by omega
    simp only [drF, drL, drH, h5, h5', and_true, if_true]
    exact ⟨by simp, (hb (j + 1) (by omega)).2⟩
  · have e : j = 5 := by omega
    subst e
    simp only [drF, drH]
    exact ⟨by simp, (hb 0 (by omega)).2⟩
theorem drL_s (F : Mr) (h : Nat → Nat) (i : Nat) : ur (drL F h i) 38 i (some (h (i + 1))) = drL F h (i + 1) := by
  funext x y
  simp only [ur, drL]
  by_cases hx : x = 38
  · subst hx
    by_cases hy : y = i
    · subst hy; simp
    · rw [if_neg (by omega)]
      by_cases hl : y < i
      · rw [if_pos ⟨rfl, hl⟩, if_pos ⟨rfl, by omega⟩]
      · rw [if_neg (by omega), if_neg (by omega)]
  · rw [if_neg (by omega), if_neg (by omega), if_neg (by omega)]
theorem drL_0 (F : Mr) (h : Nat → Nat) : drL F h 0 = F := by funext x y; simp [drL]

section MW
variable {E : EE} {N nL : Nat} {own : String} {cc : ByteArray} {p : Program} {l : Launch} {e : Env} {R : Room} {s : State} {m : MethodId} {args : Array Value} {below : List Frame} {meth : Method} {c : Code} {cells slots : Nat} {Q : State → Prop} {I I2 : Mi} {F F2 : Mr} {pc : Nat} {ls ls2 : List (Option Value)} {st st2 : List Value}
theorem g_aald_j (C : Cx E own cc nL p s m args meth c) {k n : Nat} (ha : ar N k 8 n) (j : Nat) {x : Int32} (hx : x = nI j) (hj : j < n) (hn : n < 2147483648) {t : Nat} (hF : F k j = some t) (d : decode cc pc = .ok (.aaload, 1)) (kk : G E N nL p l e R s m args below meth c cells slots Q I F (pc + 1) ls (rf E t :: st)) : G E N nL p l e R s m args below meth c cells slots Q I F pc ls (.int x :: rf E k :: st) := by
  subst hx
  exact g_aald C ha (vp_in_nI hj hn) (by rw [show ix (nI j) = j from nI_clamp (by omega)]; exact hF) d kk
theorem g_aast_j (C : Cx E own cc nL p s m args meth c) {k n t : Nat} (ha : ar N k 8 n) (ht : ob N t 0) (j : Nat) {x : Int32} (hx : x = nI j) (hj : j < n) (hn : n < 2147483648) (d : decode cc pc = .ok (.aastore, 1)) (kk : G E N nL p l e R s m args below meth c cells slots Q I (ur F k j (some t)) (pc + 1) ls st) : G E N nL p l e R s m args below meth c cells slots Q I F pc ls (rf E t :: .int x :: rf E k :: st) := by
  subst hx
  exact g_aast C ha ht (vp_in_nI hj hn) d (by rw [show ix (nI j) = j from nI_clamp (by omega)]; exact kk)
end MW
def isW (x lo9 hi : Int32) : Bool := decide (¬ x < lo9) && decide (¬ hi < x)
def begI (I : Mi) : Mi := up (up (up (up (up (up I 25 1 0) 25 2 0) 25 3 0) 25 4 0) 25 5 0) 25 6 0
def endI (I : Mi) (n : Nat) : Mi := addC I 26 n (I 25 2) (I 25 3) (I 25 4) (I 25 5) (I 25 6)
def tkIso (I : Mi) (x : Int32) : Bool × Mi := if x = 105 then (true, up (up I 25 2 1) 25 1 1) else (false, I)
def tkKeep (I : Mi) (x : Int32) : Bool × Mi := if x = 107 then (true, up (up I 25 3 1) 25 1 2) else (false, I)
def tkRise (I : Mi) (x : Int32) : Bool × Mi := if x < 49 then (false, I) else if x ≤ 57 then (true, up (up I 25 4 (x - 48)) 25 1 3) else (false, I)
def tkComma (I : Mi) (x : Int32) : Bool × Mi := if x = 44 then (true, up I 25 1 4) else (false, I)
def tkLoad (I : Mi) (x : Int32) : Bool × Mi := if x < 48 then (false, I) else if x ≤ 57 then (if isW (I 25 5 * 10 + (x - 48)) 1 20 = true then (true, up (up I 25 5 (I 25 5 * 10 + (x - 48))) 25 1 5) else (false, I)) else (false, I)
def tkArrow (I : Mi) (x : Int32) : Bool × Mi := if x = 62 then (true, up I 25 1 6) else (false, I)
def tkNum (I : Mi) (x : Int32) : Bool × Mi := if isW (x - 48) 0 7 = true then (if x - 48 = I 26 0 then (false, I) else (true, up (up I 25 6 (I 25 6 ||| ((1 : Int32) <<< ((x - 48) &&& 31)))) 25 1 7)) else (false, I)
def tkEnd (I : Mi) (n : Nat) (x : Int32) : Bool × Mi := if x = 59 then (if I 26 0 + 1 < 8 then (true, begI (endI I n)) else (false, I)) else (false, I)
/-- one, or else the next -/
def orT (f g : Mi → Int32 → Bool × Mi) (I : Mi) (x : Int32) : Bool × Mi := if (f I x).1 = true then (true, (f I x).2) else g (f I x).2 x
theorem tkIso26 (I : Mi) (x : Int32) : (tkIso I x).2 26 = I 26 := by
  funext y; unfold tkIso; (try split) <;> (try split) <;> (try split) <;> rfl
theorem tkKeep26 (I : Mi) (x : Int32) : (tkKeep I x).2 26 = I 26 := by
  funext y; unfold tkKeep; (try split) <;> (try split) <;> (try split) <;> rfl
theorem tkRise26 (I : Mi) (x : Int32) : (tkRise I x).2 26 = I 26 := by
  funext y; unfold tkRise; (try split) <;> (try split) <;> (try split) <;> rfl
theorem tkComma26 (I : Mi) (x : Int32) : (tkComma I x).2 26 = I 26 := by
  funext y; unfold tkComma; (try split) <;> (try split) <;> (try split) <;> rfl
theorem tkLoad26 (I : Mi) (x : Int32) : (tkLoad I x).2 26 = I 26 := by
  funext y; unfold tkLoad; (try split) <;> (try split) <;> (try split) <;> rfl
theorem tkArrow26 (I : Mi) (x : Int32) : (tkArrow I x).2 26 = I 26 := by
  funext y; unfold tkArrow; (try split) <;> (try split) <;> (try split) <;> rfl
theorem tkNum26 (I : Mi) (x : Int32) : (tkNum I x).2 26 = I 26 := by
  funext y; unfold tkNum; (try split) <;> (try split) <;> (try split) <;> rfl
/-- a switch over 0 .. n -/
def swf {α : Type} (n : Int) (v : Int32) (f : Nat → α) (d : α) : α := if v.toInt < 0 ∨ n < v.toInt then d else f v.toInt.toNat
theorem swf_out {α : Type} {n : Int} {v : Int32} {f : Nat → α} {d : α} (h : v.toInt < 0 ∨ n < v.toInt) : swf n v f d = d := if_pos h
theorem swf_at {α : Type} {n : Int} {v : Int32} {f : Nat → α} {d : α} {z : Nat} (h : v = nI z) (hz : (z : Int) ≤ n) (h31 : z < 2147483648) : swf n v f d = f z := by
  subst h
  have e : (nI z).toInt = (z : Int) := nI_toInt h31
  unfold swf
  rw [e, if_neg (by omega)]
  rfl
theorem sw_cases3 {x : Int32} (h1 : ¬ x.toInt < 0) (h2 : ¬ 2 < x.toInt) : x = 0 ∨ x = 1 ∨ x = 2 := by
  obtain ⟨j, hj, rfl⟩ : ∃ j : Nat, j < 3 ∧ x = nI j := by
    have h0 : ¬ x < 0 := fun q => h1 (by have := Int32.lt_iff_toInt_lt.mp q; simpa using this)
    obtain ⟨j, hj, rfl⟩ := nI_of h0
    rw [nI_toInt hj] at h2
    exact ⟨j, by omega, rfl⟩
  match j, hj with
  | 0, _ => exact Or.inl rfl
  | 1, _ => exact Or.inr (Or.inl rfl)
  | 2, _ => exact Or.inr (Or.inr rfl)
theorem sw_cases7 {x : Int32} (h1 : ¬ x.toInt < 0) (h2 : ¬ 6 < x.toInt) : x = 0 ∨ x = 1 ∨ x = 2 ∨ x = 3 ∨ x = 4 ∨ x = 5 ∨ x = 6 := by
  obtain ⟨j, hj, rfl⟩ : ∃ j : Nat, j < 7 ∧ x = nI j := by
    have h0 : ¬ x < 0 := fun q => h1 (by have := Int32.lt_iff_toInt_lt.mp q; simpa using this)
    obtain ⟨j, hj, rfl⟩ := nI_of h0
    rw [nI_toInt hj] at h2
    exact ⟨j, by omega, rfl⟩
  match j, hj with
  | 0, _ => exact Or.inl rfl
  | 1, _ => exact Or.inr (Or.inl rfl)
  | 2, _ => exact Or.inr (Or.inr (Or.inl rfl))
  | 3, _ => exact Or.inr (Or.inr (Or.inr (Or.inl rfl)))
  | 4, _ => exact Or.inr (Or.inr (Or.inr (Or.inr (Or.inl rfl))))
  | 5, _ => exact Or.inr (Or.inr (Or.inr (Or.inr (Or.inr (Or.inl rfl)))))
  | 6, _ => exact Or.inr (Or.inr (Or.inr (Or.inr (Or.inr (Or.inr rfl)))))
theorem sw_cases13 {x : Int32} (h1 : ¬ x.toInt < 0) (h2 : ¬ 12 < x.toInt) : x = 0 ∨ x = 1 ∨ x = 2 ∨ x = 3 ∨ x = 4 ∨ x = 5 ∨ x = 6 ∨ x = 7 ∨ x = 8 ∨ x = 9 ∨ x = 10 ∨ x = 11 ∨ x = 12 := by
  obtain ⟨j, hj, rfl⟩ : ∃ j : Nat, j < 13 ∧ x = nI j := by
    have h0 : ¬ x < 0 := fun q => h1 (by have := Int32.lt_iff_toInt_lt.mp q; simpa using this)
    obtain ⟨j, hj, rfl⟩ := nI_of h0
    rw [nI_toInt hj] at h2
    exact ⟨j, by omega, rfl⟩
  match j, hj with
  | 0, _ => exact Or.inl rfl
  | 1, _ => exact Or.inr (Or.inl rfl)
  | 2, _ => exact Or.inr (Or.inr (Or.inl rfl))
  | 3, _ => exact Or.inr (Or.inr (Or.inr (Or.inl rfl)))
  | 4, _ => exact Or.inr (Or.inr (Or.inr (Or.inr (Or.inl rfl))))
  | 5, _ => exact Or.inr (Or.inr (Or.inr (Or.inr (Or.inr (Or.inl rfl)))))
  | 6, _ => exact Or.inr (Or.inr (Or.inr (Or.inr (Or.inr (Or.inr (Or.inl rfl))))))
  | 7, _ => exact Or.inr (Or.inr (Or.inr (Or.inr (Or.inr (Or.inr (Or.inr (Or.inl rfl)))))))
  | 8, _ => exact Or.inr (Or.inr (Or.inr (Or.inr (Or.inr (Or.inr (Or.inr (Or.inr (Or.inl rfl))))))))
  | 9, _ => exact Or.inr (Or.inr (Or.inr (Or.inr (Or.inr (Or.inr (Or.inr (Or.inr (Or.inr (Or.inl rfl)))))))))
  | 10, _ => exact Or.inr (Or.inr (Or.inr (Or.inr (Or.inr (Or.inr (Or.inr (Or.inr (Or.inr (Or.inr (Or.inl rfl))))))))))
  | 11, _ => exact Or.inr (Or.inr (Or.inr (Or.inr (Or.inr (Or.inr (Or.inr (Or.inr (Or.inr (Or.inr (Or.inr (Or.inl rfl)))))))))))
  | 12, _ => exact Or.inr (Or.inr (Or.inr (Or.inr (Or.inr (Or.inr (Or.inr (Or.inr (Or.inr (Or.inr (Or.inr (Or.inr rfl)))))))))))
theorem sw_cases14 {x : Int32} (h1 : ¬ x.toInt < 0) (h2 : ¬ 13 < x.toInt) : x = 0 ∨ x = 1 ∨ x = 2 ∨ x = 3 ∨ x = 4 ∨ x = 5 ∨ x = 6 ∨ x = 7 ∨ x = 8 ∨ x = 9 ∨ x = 10 ∨ x = 11 ∨ x = 12 ∨ x = 13 := by
  obtain ⟨j, hj, rfl⟩ : ∃ j : Nat, j < 14 ∧ x = nI j := by
    have h0 : ¬ x < 0 := fun q => h1 (by have := Int32.lt_iff_toInt_lt.mp q; simpa using this)
    obtain ⟨j, hj, rfl⟩ := nI_of h0
    rw [nI_toInt hj] at h2
    exact ⟨j, by omega, rfl⟩
  match j, hj with
  | 0, _ => exact Or.inl rfl
  | 1, _ => exact Or.inr (Or.inl rfl)
  | 2, _ => exact Or.inr (Or.inr (Or.inl rfl))
  | 3, _ => exact Or.inr (Or.inr (Or.inr (Or.inl rfl)))
  | 4, _ => exact Or.inr (Or.inr (Or.inr (Or.inr (Or.inl rfl))))
  | 5, _ => exact Or.inr (Or.inr (Or.inr (Or.inr (Or.inr (Or.inl rfl)))))
  | 6, _ => exact Or.inr (Or.inr (Or.inr (Or.inr (Or.inr (Or.inr (Or.inl rfl))))))
  | 7, _ => exact Or.inr (Or.inr (Or.inr (Or.inr (Or.inr (Or.inr (Or.inr (Or.inl rfl)))))))
  | 8, _ => exact Or.inr (Or.inr (Or.inr (Or.inr (Or.inr (Or.inr (Or.inr (Or.inr (Or.inl rfl))))))))
  | 9, _ => exact Or.inr (Or.inr (Or.inr (Or.inr (Or.inr (Or.inr (Or.inr (Or.inr (Or.inr (Or.inl rfl)))))))))
  | 10, _ => exact Or.inr (Or.inr (Or.inr (Or.inr (Or.inr (Or.inr (Or.inr (Or.inr (Or.inr (Or.inr (Or.inl rfl))))))))))
  | 11, _ => exact Or.inr (Or.inr (Or.inr (Or.inr (Or.inr (Or.inr (Or.inr (Or.inr (Or.inr (Or.inr (Or.inr (Or.inl rfl)))))))))))
  | 12, _ => exact Or.inr (Or.inr (Or.inr (Or.inr (Or.inr (Or.inr (Or.inr (Or.inr (Or.inr (Or.inr (Or.inr (Or.inr (Or.inl rfl))))))))))))
  | 13, _ => exact Or.inr (Or.inr (Or.inr (Or.inr (Or.inr (Or.inr (Or.inr (Or.inr (Or.inr (Or.inr (Or.inr (Or.inr (Or.inr rfl))))))))))))
theorem sw_cases21 {x : Int32} (h1 : ¬ x.toInt < 0) (h2 : ¬ 20 < x.toInt) : x = 0 ∨ x = 1 ∨ x = 2 ∨ x = 3 ∨ x = 4 ∨ x = 5 ∨ x = 6 ∨ x = 7 ∨ x = 8 ∨ x = 9 ∨ x = 10 ∨ x = 11 ∨ x = 12 ∨ x = 13 ∨ x = 14 ∨ x = 15 ∨ x = 16 ∨ x = 17 ∨ x = 18 ∨ x = 19 ∨ x = 20 := by
  obtain ⟨j, hj, rfl⟩ : ∃ j : Nat, j < 21 ∧ x = nI j := by
    have h0 : ¬ x < 0 := fun q => h1 (by have := Int32.lt_iff_toInt_lt.mp q; simpa using this)
    obtain ⟨j, hj, rfl⟩ := nI_of h0
    rw [nI_toInt hj] at h2
    exact ⟨j, by omega, rfl⟩
  rcases (show j = 0 ∨ j = 1 ∨ j = 2 ∨ j = 3 ∨ j = 4 ∨ j = 5 ∨ j = 6 ∨ j = 7 ∨ j = 8 ∨ j = 9 ∨ j = 10 ∨ j = 11 ∨ j = 12 ∨ j = 13 ∨ j = 14 ∨ j = 15 ∨ j = 16 ∨ j = 17 ∨ j = 18 ∨ j = 19 ∨ j = 20 by omega) with rfl | rfl | rfl | rfl | rfl | rfl | rfl | rfl | rfl | rfl | rfl | rfl | rfl | rfl | rfl | rfl | rfl | rfl | rfl | rfl | rfl
  · exact Or.inl rfl
  · exact Or.inr (Or.inl rfl)
  · exact Or.inr (Or.inr (Or.inl rfl))
  · exact Or.inr (Or.inr (Or.inr (Or.inl rfl)))
  · exact Or.inr (Or.inr (Or.inr (Or.inr (Or.inl rfl))))
  · exact Or.inr (Or.inr (Or.inr (Or.inr (Or.inr (Or.inl rfl)))))
  · exact Or.inr (Or.inr (Or.inr (Or.inr (Or.inr (Or.inr (Or.inl rfl))))))
  · exact Or.inr (Or.inr (Or.inr (Or.inr (Or.inr (Or.inr (Or.inr (Or.inl rfl)))))))
  · exact Or.inr (Or.inr (Or.inr (Or.inr (Or.inr (Or.inr (Or.inr (Or.inr (Or.inl rfl))))))))
  · exact Or.inr (Or.inr (Or.inr (Or.inr (Or.inr (Or.inr (Or.inr (Or.inr (Or.inr (Or.inl rfl)))))))))
  · exact Or.inr (Or.inr (Or.inr (Or.inr (Or.inr (Or.inr (Or.inr (Or.inr (Or.inr (Or.inr (Or.inl rfl))))))))))
  · exact Or.inr (Or.inr (Or.inr (Or.inr (Or.inr (Or.inr (Or.inr (Or.inr (Or.inr (Or.inr (Or.inr (Or.inl rfl)))))))))))
  · exact Or.inr (Or.inr (Or.inr (Or.inr (Or.inr (Or.inr (Or.inr (Or.inr (Or.inr (Or.inr (Or.inr (Or.inr (Or.inl rfl))))))))))))
  · exact Or.inr (Or.inr (Or.inr (Or.inr (Or.inr (Or.inr (Or.inr (Or.inr (Or.inr (Or.inr (Or.inr (Or.inr (Or.inr (Or.inl rfl)))))))))))))
  · exact Or.inr (Or.inr (Or.inr (Or.inr (Or.inr (Or.inr (Or.inr (Or.inr (Or.inr (Or.inr (Or.inr (Or.inr (Or.inr (Or.inr (Or.inl rfl))))))))))))))
  · exact Or.inr (Or.inr (Or.inr (Or.inr (Or.inr (Or.inr (Or.inr (Or.inr (Or.inr (Or.inr (Or.inr (Or.inr (Or.inr (Or.inr (Or.inr (Or.inl rfl)))))))))))))))
  · exact Or.inr (Or.inr (Or.inr (Or.inr (Or.inr (Or.inr (Or.inr (Or.inr (Or.inr (Or.inr (Or.inr (Or.inr (Or.inr (Or.inr (Or.inr (Or.inr (Or.inl rfl))))))))))))))))
  · exact Or.inr (Or.inr (Or.inr (Or.inr (Or.inr (Or.inr (Or.inr (Or.inr (Or.inr (Or.inr (Or.inr (Or.inr (Or.inr (Or.inr (Or.inr (Or.inr (Or.inr (Or.inl rfl)))))))))))))))))
  · exact Or.inr (Or.inr (Or.inr (Or.inr (Or.inr (Or.inr (Or.inr (Or.inr (Or.inr (Or.inr (Or.inr (Or.inr (Or.inr (Or.inr (Or.inr (Or.inr (Or.inr (Or.inr (Or.inl rfl))))))))))))))))))
  · exact Or.inr (Or.inr (Or.inr (Or.inr (Or.inr (Or.inr (Or.inr (Or.inr (Or.inr (Or.inr (Or.inr (Or.inr (Or.inr (Or.inr (Or.inr (Or.inr (Or.inr (Or.inr (Or.inr (Or.inl rfl)))))))))))))))))))
  · exact Or.inr (Or.inr (Or.inr (Or.inr (Or.inr (Or.inr (Or.inr (Or.inr (Or.inr (Or.inr (Or.inr (Or.inr (Or.inr (Or.inr (Or.inr (Or.inr (Or.inr (Or.inr (Or.inr (Or.inr (rfl))))))))))))))))))))
def tkC (I : Mi) (n : Nat) (x : Int32) : Bool × Mi :=
  swf 6 (I 25 1) (fun z => match z with
    | 0 => orT tkIso (orT tkKeep tkRise) I x
    | 1 => orT tkKeep tkRise I x
    | 2 => tkRise I x
    | 3 => tkComma I x
    | 4 => tkLoad I x
    | 5 => orT tkLoad (orT tkArrow (fun I x => tkEnd I n x)) I x
    | _ => tkNum I x) (orT tkArrow (fun I x => tkEnd I n x) I x)

set_option maxRecDepth 100000 in
set_option maxHeartbeats 4000000 in
theorem tX4_isWithin {l : Launch} {E : EE} {N : Nat} {I : Mi} {F : Mr} (x y z : Int32)  : CtF l E mX4_isWithin [.int x, .int y, .int z] N I F N (some (.int (bi (isW x y z)))) I F := by
  refine CtF_of [some (.int x), some (.int y), some (.int z)] (by decide) rfl (Nat.le_of_ble_eq_true rfl) rfl (fun p e s m args below meth c C hr hname => ?_)
  refine g_iload_n C dX4_isWithin_0 rfl rfl ?_
  refine g_iload_n C dX4_isWithin_1 rfl rfl ?_
  refine g_icmp_lt C (tgt := 14) dX4_isWithin_2 (by decide) (fun c2 => ?_) (fun c2 => ?_)
  · skip
    refine g_iconst C (v := 0) dX4_isWithin_14 (by decide) ?_
    exact g_zret_0 C hr dX4_isWithin_15 ⟨by simp [isW, bi, c2], rfl, rfl⟩
  · skip
    refine g_iload_n C dX4_isWithin_5 rfl rfl ?_
    refine g_iload_n C dX4_isWithin_6 rfl rfl ?_
    refine g_icmp_gt C (tgt := 14) dX4_isWithin_7 (by decide) (fun c7 => ?_) (fun c7 => ?_)
    · skip
      refine g_iconst C (v := 0) dX4_isWithin_14 (by decide) ?_
      exact g_zret_0 C hr dX4_isWithin_15 ⟨by simp [isW, bi, c2, c7], rfl, rfl⟩
    · skip
      refine g_iconst C (v := 1) dX4_isWithin_10 (by decide) ?_
      refine g_goto C (tgt := 15) dX4_isWithin_11 (by decide) ?_
      exact g_zret_1 C hr dX4_isWithin_15 ⟨by simp [isW, bi, c2, c7], rfl, rfl⟩

set_option maxRecDepth 100000 in
set_option maxHeartbeats 4000000 in
theorem tX1_beginIsland {l : Launch} {E : EE} {N : Nat} {I : Mi} {F : Mr} (h0 : ob N 25 1)  : CtF l E mX1_beginIsland [rf E 25] N I F N none (begI I) F := by
  refine CtF_of [some (rf E 25)] (by decide) rfl (Nat.le_of_ble_eq_true rfl) rfl (fun p e s m args below meth c C hr hname => ?_)
  refine g_aload_n C dX1_beginIsland_0 rfl rfl ?_
  refine g_iconst C (v := 0) dX1_beginIsland_1 (by decide) ?_
  refine pfX1_38 C h0 dX1_beginIsland_2 ?_
  refine g_aload_n C dX1_beginIsland_5 rfl rfl ?_
  refine g_iconst C (v := 0) dX1_beginIsland_6 (by decide) ?_
  refine pfX1_44 C h0 (by decide) dX1_beginIsland_7 ?_
  refine g_aload_n C dX1_beginIsland_10 rfl rfl ?_
  refine g_iconst C (v := 0) dX1_beginIsland_11 (by decide) ?_
  refine pfX1_48 C h0 (by decide) dX1_beginIsland_12 ?_
  refine g_aload_n C dX1_beginIsland_15 rfl rfl ?_
  refine g_iconst C (v := 0) dX1_beginIsland_16 (by decide) ?_
  refine pfX1_51 C h0 dX1_beginIsland_17 ?_
  refine g_aload_n C dX1_beginIsland_20 rfl rfl ?_
  refine g_iconst C (v := 0) dX1_beginIsland_21 (by decide) ?_
  refine pfX1_54 C h0 dX1_beginIsland_22 ?_
  refine g_aload_n C dX1_beginIsland_25 rfl rfl ?_
  refine g_iconst C (v := 0) dX1_beginIsland_26 (by decide) ?_
  refine pfX1_57 C h0 dX1_beginIsland_27 ?_
  exact g_vret C hr dX1_beginIsland_30 ⟨rfl, rfl, rfl⟩
