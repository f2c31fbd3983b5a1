/-! the reference: history, settings, islands, looks -/
theorem mvM_ne {x f y t z : Nat} {I : Mi} (h : z ≠ y) : mvM x f y t I z = I z := lp_fix (fun i J => up_ne h) 96 I
def rshM (I : Mi) : Mi := lp (fun i J => up J 130 i (J 130 (i + 96))) 480 I
theorem rshM_ne {z : Nat} {I : Mi} (h : z ≠ 130) : rshM I z = I z := lp_fix (fun i J => up_ne h) 480 I
def recM (I : Mi) (k : Nat) : Mi := if k = 6 then up (mvM 128 0 130 480 (up (rshM I) 127 3 5)) 127 3 6 else up (mvM 128 0 130 (k * 96) I) 127 3 (nI (k + 1))
theorem recM_128 (I : Mi) (k : Nat) : recM I k 128 = I 128 := by
  unfold recM; split
  · rw [up_ne (by decide), mvM_ne (by decide), up_ne (by decide), rshM_ne (by decide)]
  · rw [up_ne (by decide), mvM_ne (by decide)]
theorem recM_127 (I : Mi) (k y : Nat) (h : y ≠ 3) : recM I k 127 y = I 127 y := by
  unfold recM; split
  · rw [up_j h, mvM_ne (by decide), up_j h, rshM_ne (by decide)]
  · rw [up_j h, mvM_ne (by decide)]
def vlM (x y : Int32) : Bool := if x = 0 then isW y 1 60 else if x = 1 then isW y 0 1 else false
def yLink (I : Mi) (k i j : Nat) (b : Int32) : Int32 × Mi := if nI i = nI j then (-2, I) else if bi (rdM I i (nI j)) = b then (-5, I) else
  (pt (sp (recM I k) i 6 (pt (recM I k) i 6 ^^^ ((1 : Int32) <<< (nI j &&& 31)))) i 6, sp (recM I k) i 6 (pt (recM I k) i 6 ^^^ ((1 : Int32) <<< (nI j &&& 31))))
def yValue (I : Mi) (k i : Nat) (v : Int32) : Int32 × Mi := if isW v 0 255 = true then (if decide (pt I i 7 = 0) = true then (pt (recM I k) i 4, sp (recM I k) i 4 v) else (-5, I)) else (-2, I)
def ySleep (I : Mi) (k n i : Nat) : Int32 × Mi := if decide (pt I i 7 = 0) = true then (bitM (arM (sp (recM I k) i 7 1) n (nI i)), sp (recM I k) i 7 1) else (-5, I)
def yWake (I : Mi) (k w i : Nat) : Int32 × Mi := if decide (pt I i 7 = 2) = true then (wtM (recM I k) i w 128 7, wtM (recM I k) i w) else (-5, I)
def yOf (I : Mi) (n w i : Nat) (v : Int32) : Int32 := swf 12 v (fun z => match z with
  | 0 => pt I i 7
  | 1 => pt I i 4
  | 2 => pt I i 5
  | 3 => pt I i 0
  | 4 => pt I i 1
  | 5 => pt I i 2
  | 6 => pt I i 3
  | 7 => pt I i 6
  | 8 => rdsM I n (nI i)
  | 9 => tellM I i
  | 10 => if decide (pt I i 7 = 4) = true then pt I i 8 else 0
  | 11 => plM I w (nI i)
  | _ => pt I i 9) (-2)
def yCount (I : Mi) (n : Nat) (v : Int32) : Int32 := swf 13 v (fun z => match z with
  | 0 => I 128 2
  | 1 => setM I n 0
  | 2 => setM I n 2
  | 3 => setM I n 3
  | 4 => setM I n 4
  | 5 => rlM I n
  | 6 => I 128 6
  | 7 => I 128 4
  | 8 => I 128 5
  | 9 => I 128 3
  | 10 => I 128 0
  | 11 => I 128 1
  | 12 => I 127 7
  | _ => I 127 3) (-2)
theorem vlM_in {x y : Int32} (h : vlM x y = true) : vp_in x 96 := by
  unfold vlM at h
  by_cases h0 : x = 0
  · subst h0; exact vp_in_nI (n := 0) (by decide) (by decide)
  · rw [if_neg h0] at h
    by_cases h1 : x = 1
    · subst h1; exact vp_in_nI (n := 1) (by decide) (by decide)
    · rw [if_neg h1] at h; cases h
theorem isW_nI {x : Int32} {w : Nat} (hw : w ≤ 8) (h : isW x 0 (nI w - 1) = true) : ∃ j, j < w ∧ x = nI j := by
  simp only [isW, Bool.and_eq_true, decide_eq_true_eq] at h
  obtain ⟨j, hj, rfl⟩ := nI_of h.1
  rcases Nat.eq_zero_or_pos w with h0 | h0
  · subst h0
    exact absurd (Int32.lt_of_lt_of_le (show nI 0 - 1 < 0 by decide) (nI_pos' (by omega))) h.2
  · refine ⟨j, ?_, rfl⟩
    rw [show w = (w - 1) + 1 by omega, nI_pred] at h
    rcases Nat.lt_or_ge j w with q | q
    · exact q
    · exact absurd (nI_lt (a := w - 1) (b := j) (by omega) hj) h.2
def isIM (I : Mi) (x : Int32) : Bool := isW x 0 (I 128 2 - 1)
def cmB (i : Nat) (J : Mi) (k : Nat) : Mi := sp J i k 0
def cmM (I : Mi) (i : Nat) (iso keep r d m : Int32) : Mi := up (sp (sp (sp (sp (sp (lp (fun k J => sp J i k 0) 10 I) i 0 iso) i 1 keep) i 2 r) i 3 d) i 6 m) 128 2 (nI (i + 1))
theorem cmM_2 {I : Mi} {i : Nat} {iso keep r d m : Int32} : cmM I i iso keep r d m 128 2 = nI (i + 1) := by unfold cmM; simp [up]
def yBuild (I : Mi) (k n : Nat) (iso keep r d : Int32) : Int32 × Mi := if isW r 1 9 = true then (if isW d 1 20 = true then (if I 128 2 = 8 then (-4, I) else (nI n, cmM (recM I k) n (if iso = 0 then 0 else 1) (if keep = 0 then 0 else 1) r d 0)) else (-2, I)) else (-2, I)
def ySet (I : Mi) (k : Nat) (x y : Int32) : Int32 × Mi := if vlM x y = true then (recM I k 128 (ix x), up (recM I k) 128 (ix x) y) else (-2, I)
