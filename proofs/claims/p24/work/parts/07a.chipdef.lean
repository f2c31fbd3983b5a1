/-! Chip: what its methods do to the memory (a: the chip's number; a+1 rises, +2 loads, +3 reads, +4 states, +5 values, +6 kept, +7 left, +8 noise, +9 queue, +10 told) -/
def isP (x : Int32) : Bool := decide (¬ x < 0) && decide (¬ (8 : Int32) ≤ x)
theorem isP_in {x : Int32} (h : isP x = true) : vp_in x 8 := by
  simp only [isP, Bool.and_eq_true, decide_eq_true_eq] at h
  intro q
  rcases q with q | q
  · exact h.1 q
  · refine h.2 ?_
    obtain ⟨j, hj, rfl⟩ := nI_of h.1
    rw [nI_clamp hj] at q
    exact nI_le (a := 8) q hj
theorem isP_n {i : Nat} (h : i < 8) : isP (nI i) = true := by
  simp only [isP, Bool.and_eq_true, decide_eq_true_eq]
  exact ⟨nI_pos (by omega), nI_ge (b := 8) h (by decide)⟩
def isI (s i : Int32) : Bool := decide (¬ ((s >>> (i &&& 31)) &&& 1) = 0)
def sh1 (i : Nat) : Int32 := (1 : Int32) <<< (nI i &&& 31)
def clrS (I : Mi) (a : Nat) : Mi := up (up (up (up (up (up (up I a 0 0) a 1 0) a 2 0) a 12 0) a 15 0) a 16 0) a 17 0
def clrB (a i : Nat) (I : Mi) : Mi := up (up (up (up (up (up (up (up (up I (a + 1) i 0) (a + 2) i 0) (a + 3) i 0) (a + 4) i (-1)) (a + 5) i 0) (a + 6) i 0) (a + 7) i 0) (a + 8) i 0) (a + 9) i 0
def clearC (I : Mi) (a : Nat) : Mi := lp (clrB a) 8 (clrS I a)
def setC (I : Mi) (a : Nat) (x : Int32) : Int32 := lp (fun i acc => if I (a + 4) i = x then acc ||| sh1 i else acc) 8 0
def hasC (I : Mi) (a : Nat) (x : Int32) : Bool := isP x && decide (¬ I a 0 ≤ x)
def addC (I : Mi) (a n : Nat) (iso keep : Int32) (r d m : Int32) : Mi :=
  let I1 := up I a 0 (I a 0 + 1)
  let I2 := if iso = 0 then I1 else up I1 a 1 (I1 a 1 ||| sh1 n)
  let I3 := if keep = 0 then I2 else up I2 a 2 (I2 a 2 ||| sh1 n)
  up (up (up (up I3 (a + 1) n r) (a + 2) n d) (a + 3) n m) (a + 4) n 0
def orR (I : Mi) (a : Nat) : Int32 := lp (fun i acc => acc ||| I (a + 3) i) 8 0
def readC (I : Mi) (a : Nat) (x : Int32) : Int32 := lp (fun i acc => if isI (I (a + 3) i) x = true then acc ||| sh1 i else acc) 8 0
def heardC (I : Mi) (a i : Nat) : Bool := decide (I (a + 4) i = 0) || decide (I (a + 4) i = 1)
def tellC (I : Mi) (a i : Nat) : Int32 := if heardC I a i = true then I (a + 5) i else if isI (I a 1) (nI i) = true then 0 else 255
def inqC (I : Mi) (a : Nat) (x : Int32) : Int32 := if isP x = true then if I a 12 ≤ x then -1 else I (a + 9) (ix x) else -1
def pqC (I : Mi) (a : Nat) (x : Int32) : Nat → Nat → Int32
  | 0, _ => -6
  | n + 1, i => if I a 12 ≤ nI i then -6 else if I (a + 9) i = x then nI i else pqC I a x n (i + 1)
def rloadC (I : Mi) (a : Nat) : Int32 := lp (fun i acc => if I (a + 4) i = 4 then acc + I (a + 2) i else acc) 8 0
def sumC (I : Mi) (k : Nat) : Int32 := lp (fun i acc => acc + I k i) 8 0
def bcJ (x : Int32) : Int32 :=
  let us := fun (z : Int32) (k : Int32) => (z.toUInt32 >>> (k.toUInt32 &&& Int32.toUInt32 31)).toInt32
  let x1 := x - (us x 1 &&& 1431655765)
  let x2 := (x1 &&& 858993459) + (us x1 2 &&& 858993459)
  let x3 := (x2 + us x2 4) &&& 252645135
  let x4 := x3 + us x3 8
  let x5 := x4 + us x4 16
  x5 &&& 63
def restC (I : Mi) (a : Nat) : Nat → Nat → Bool
  | 0, _ => true
  | n + 1, i => if I (a + 4) i = 1 then false else if I (a + 4) i = 3 then false else if I (a + 4) i = 4 then false else restC I a n (i + 1)
def otwC (I : Mi) (a i : Nat) : Mi :=
  if isP (I a 12) = true then
    let I1 := up I (a + 4) i 3
    let I2 := up I1 (a + 9) (ix (I1 a 12)) (nI i)
    up I2 a 12 (I2 a 12 + 1)
  else I
def oswC (I : Mi) (a : Nat) : Mi := lp (fun i I => if I (a + 4) i = 2 then otwC I a i else I) 8 I
def sumTC (I : Mi) (a : Nat) (m : Int32) : Int32 := lp (fun i acc => if isI m (nI i) = true then acc + I (a + 10) i else acc) 8 0
def ro1C (a i : Nat) (p : Mi × Int32) : Mi × Int32 :=
  let I1 := up p.1 (a + 10) i (tellC p.1 a i)
  (I1, if heardC I1 a i = true then p.2 else if isI (I1 a 1) (nI i) = true then p.2 else p.2 ||| sh1 i)
def ro2C (a : Nat) (nz : Int32) (i : Nat) (I : Mi) : Mi :=
  if I (a + 4) i = 0 then
    let I1 := up I (a + 5) i ((I (a + 5) i + sumTC I a (I (a + 3) i)) &&& 255)
    up I1 (a + 8) i (I1 (a + 8) i + bcJ (I1 (a + 3) i &&& nz))
  else I
def ro1R (I : Mi) (a : Nat) : Mi × Int32 := lp (ro1C a) 8 (I, 0)
def rdoC (I : Mi) (a : Nat) : Mi := lp (ro2C a (ro1R I a).2) 8 (ro1R I a).1
def keepC (I : Mi) (a i : Nat) : Mi := if isI (I a 2) (nI i) = true then up (up I (a + 6) i (I (a + 5) i)) (a + 5) i 0 else if I (a + 5) i ≤ 0 then up I (a + 5) i 0 else up (up I a 16 (I a 16 + 1)) (a + 5) i 0
def fallC (I : Mi) (a : Nat) : Mi := lp (fun i I => if I (a + 4) i = 1 then keepC (up I (a + 4) i 2) a i else I) 8 I
def endRC (I : Mi) (a i : Nat) : Mi :=
  let I1 := up I (a + 4) i 0
  if isI (I1 a 2) (nI i) = true then up I1 (a + 5) i (I1 (a + 6) i) else I1
def riB (a i : Nat) (I : Mi) : Mi := if I (a + 4) i = 4 then (if 0 < up I (a + 7) i (I (a + 7) i - 1) (a + 7) i then up I (a + 7) i (I (a + 7) i - 1) else endRC (up I (a + 7) i (I (a + 7) i - 1)) a i) else I
def riseC (I : Mi) (a : Nat) : Mi := lp (riB a) 8 I
def rbaC (I : Mi) (a : Nat) : Int32 := lp (fun i acc => if I (a + 4) i = 0 then acc ||| I (a + 3) i else acc) 8 0
def askC (I : Mi) (a : Nat) : Mi := lp (fun i J => if J (a + 4) i = 2 then (if isI (rbaC I a) (nI i) = true then otwC J a i else J) else J) 8 I
def brA (a j : Nat) (p : Mi × Int32 × Int32) : Mi × Int32 × Int32 := (up (up p.1 (a + 4) j 4) (a + 7) j (up p.1 (a + 4) j 4 (a + 1) j), p.2.1 + p.1 (a + 2) j, p.2.2)
def brB (a k : Nat) (p : Mi × Int32 × Int32) : Mi × Int32 × Int32 :=
  if isP (p.1 (a + 9) k) = true then
    if p.2.1 = 0 then brA a (ix (p.1 (a + 9) k)) p
    else if p.1 a 13 < p.2.1 + p.1 (a + 2) (ix (p.1 (a + 9) k)) then
      if isP p.2.2 = true then (up p.1 (a + 9) (ix p.2.2) (p.1 (a + 9) k), p.2.1, p.2.2 + 1) else p
    else brA a (ix (p.1 (a + 9) k)) p
  else p
theorem brB_12 (a : Nat) (p : Mi × Int32 × Int32) : ∀ k, (lp (brB a) k p).1 a 12 = p.1 a 12
  | 0 => rfl
  | k + 1 => by
    have h := brB_12 a p k
    simp only [lp, brB, brA]
    split
    · split
      · simp only [up]; rw [if_neg (by omega), if_neg (by omega)]; exact h
      · split
        · split
          · simp only [up]; rw [if_neg (by omega)]; exact h
          · exact h
        · simp only [up]; rw [if_neg (by omega), if_neg (by omega)]; exact h
    · exact h
def rnd (v : Int32) : Nat := min 8 (ix v)
theorem rnd_lt {v : Int32} {i : Nat} (h : i < rnd v) : ¬ v ≤ nI i := by
  intro q
  have h1 : i < ix v := by unfold rnd at h; omega
  have h8 : i < 8 := by unfold rnd at h; omega
  rcases Int32.lt_or_le v 0 with h0 | h0
  · have h2 : v.toInt < 0 := by have := Int32.lt_iff_toInt_lt.mp h0; simpa using this
    have h3 : ix v = 0 := by show v.toInt.toNat = 0; omega
    omega
  · obtain ⟨j, hj, rfl⟩ := nI_of (Int32.not_lt.mpr h0)
    rw [show ix (nI j) = j from nI_clamp hj] at h1
    exact nI_ge h1 hj q
theorem rnd_ge {v : Int32} (h : ¬ (8 : Int32) ≤ nI (rnd v)) : v ≤ nI (rnd v) := by
  have h8 : rnd v < 8 := by
    rcases Nat.lt_or_ge (rnd v) 8 with q | q
    · exact q
    · exact absurd (nI_le (a := 8) q (by unfold rnd; omega)) h
  have e : rnd v = ix v := by unfold rnd at h8 ⊢; omega
  rw [e]
  rcases Int32.lt_or_le v 0 with h0 | h0
  · exact Int32.le_trans (Int32.le_of_lt h0) (nI_pos' (by unfold rnd at h8; omega))
  · obtain ⟨j, hj, rfl⟩ := nI_of (Int32.not_lt.mpr h0)
    rw [show ix (nI j) = j from nI_clamp hj]
    exact Int32.le_refl _
def begR (I : Mi) (a : Nat) (k : Nat) : Mi × Int32 × Int32 := lp (brB a) k (I, rloadC I a, 0)
theorem begR_s (I : Mi) (a k : Nat) : begR I a (k + 1) = brB a k (begR I a k) := rfl
def begC (I : Mi) (a : Nat) : Mi := up (begR I a (rnd (I a 12))).1 a 12 (begR I a (rnd (I a 12))).2.2
def mvC (I : Mi) (a : Nat) : Mi := if riseC (fallC I a) a a 14 = 1 then begC (askC (riseC (fallC I a) a) a) a else begC (riseC (fallC I a) a) a
def tickC (I : Mi) (a : Nat) : Mi :=
  let I1 := mvC (rdoC I a) a
  let I2 := up I1 a 15 (I1 a 15 + 1)
  up I2 a 17 (if I2 a 17 < rloadC I2 a then rloadC I2 a else I2 a 17)
def passC (I : Mi) (a n : Nat) : Mi := lp (fun _ J => tickC J a) n I
def cpyS (I : Mi) (a b : Nat) : Mi :=
  let I1 := up I a 0 (I b 0)
  let I2 := up I1 a 1 (I1 b 1)
  let I3 := up I2 a 2 (I2 b 2)
  let I4 := up I3 a 12 (I3 b 12)
  let I5 := up I4 a 13 (I4 b 13)
  let I6 := up I5 a 14 (I5 b 14)
  let I7 := up I6 a 15 (I6 b 15)
  let I8 := up I7 a 16 (I7 b 16)
  up I8 a 17 (I8 b 17)
def cpyB (a b i : Nat) (I : Mi) : Mi :=
  let I1 := up I (a + 1) i (I (b + 1) i)
  let I2 := up I1 (a + 2) i (I1 (b + 2) i)
  let I3 := up I2 (a + 3) i (I2 (b + 3) i)
  let I4 := up I3 (a + 4) i (I3 (b + 4) i)
  let I5 := up I4 (a + 5) i (I4 (b + 5) i)
  let I6 := up I5 (a + 6) i (I5 (b + 6) i)
  let I7 := up I6 (a + 7) i (I6 (b + 7) i)
  let I8 := up I7 (a + 8) i (I7 (b + 8) i)
  up I8 (a + 9) i (I8 (b + 9) i)
def copyC (I : Mi) (a b : Nat) : Mi := lp (cpyB a b) 8 (cpyS I a b)

