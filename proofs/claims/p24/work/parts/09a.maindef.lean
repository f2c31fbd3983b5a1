/-! SleepingIslands: each method's answer, and what it does to the memory -/
abbrev Res : Type := Int32 × Mi × Mr
theorem recI_lo {I : Mi} {F : Mr} {h : Nat → Nat} {k a x : Nat} (hb : HB F h) (hx : x < 37) : recI I h k a x = I x := by
  unfold recI
  split
  · rename_i q
    have := hb.lo q
    rw [up_ne (by omega), copyC_ne (by omega)]
  · have := hb.lo (j := 0) (by decide)
    rw [up_ne (by omega), copyC_ne (by omega), up_ne (by omega)]
theorem isW_8 {i : Nat} (h : i < 8) : isW (nI i) 0 7 = true := by
  simp only [isW, Bool.and_eq_true, decide_eq_true_eq]
  exact ⟨nI_pos (by omega), nI_nlt (a := 7) (by omega) (by decide)⟩
theorem hasC_P {I : Mi} {a : Nat} {x : Int32} (h : hasC I a x = true) : isP x = true := by
  simp only [hasC, Bool.and_eq_true] at h
  exact h.1
def xSetC (I : Mi) (F : Mr) (h : Nat → Nat) (k : Nat) (y : Int32) : Res := if isW y 1 60 = true then (recI I h k 1 1 13, up (recI I h k 1) 1 13 y, recF F h k) else (-2, I, F)
def xSetA (I : Mi) (F : Mr) (h : Nat → Nat) (k : Nat) (y : Int32) : Res := if isW y 0 1 = true then (recI I h k 1 1 14, up (recI I h k 1) 1 14 y, recF F h k) else (-2, I, F)
def xSet (I : Mi) (F : Mr) (h : Nat → Nat) (k : Nat) (x y : Int32) : Res := if x = 0 then xSetC I F h k y else if x = 1 then xSetA I F h k y else (-2, I, F)
def xBuild (I : Mi) (F : Mr) (h : Nat → Nat) (k n : Nat) (iso keep r d : Int32) : Res := if isW r 1 9 = true then (if isW d 1 20 = true then (if I 1 0 < 8 then (recI I h k 1 1 0, addC (recI I h k 1) 1 n iso keep r d 0, recF F h k) else (-4, I, F)) else (-2, I, F)) else (-2, I, F)
def rdI (I : Mi) (h : Nat → Nat) (k : Nat) : Mi :=
  let I2 := recI (ffC I).2 h k 1
  let I3 := up I2 26 13 (I2 1 13)
  let I4 := up I3 26 14 (I3 1 14)
  up (copyC I4 1 26) 23 1 0
def xRead (I : Mi) (F : Mr) (h : Nat → Nat) (k : Nat) : Res := if (ffC I).1 = -6 then (if decide (orR (ffC I).2 26 >>> ((ffC I).2 26 0 &&& 31) = 0) = true then (rdI I h k 1 0, rdI I h k, recF F h k) else (-1, (ffC I).2, F)) else (-3, (ffC I).2, F)
def xLink (I : Mi) (F : Mr) (h : Nat → Nat) (k i j : Nat) (b : Int32) : Res := if nI i = nI j then (-2, I, F) else if bi (isI (I (1 + 3) i) (nI j)) = b then (-5, I, F) else
  (up (recI I h k 1) (1 + 3) i (recI I h k 1 (1 + 3) i ^^^ ((1 : Int32) <<< (nI j &&& 31))) (1 + 3) i, up (recI I h k 1) (1 + 3) i (recI I h k 1 (1 + 3) i ^^^ ((1 : Int32) <<< (nI j &&& 31))), recF F h k)
def xValue (I : Mi) (F : Mr) (h : Nat → Nat) (k i : Nat) (v : Int32) : Res := if isW v 0 255 = true then (if I (1 + 4) i = 0 then (recI I h k 1 (1 + 5) i, up (recI I h k 1) (1 + 5) i v, recF F h k) else (-5, I, F)) else (-2, I, F)
def xSleep (I : Mi) (F : Mr) (h : Nat → Nat) (k i : Nat) : Res := if I (1 + 4) i = 0 then (bcJ (readC (up (recI I h k 1) (1 + 4) i 1) 1 (nI i) &&& setC (up (recI I h k 1) (1 + 4) i 1) 1 0), up (recI I h k 1) (1 + 4) i 1, recF F h k) else (-5, I, F)
def xWake (I : Mi) (F : Mr) (h : Nat → Nat) (k i : Nat) : Res := if I (1 + 4) i = 2 then (otwC (recI I h k 1) 1 i 1 12, otwC (recI I h k 1) 1 i, recF F h k) else (-5, I, F)
def xPass (I : Mi) (F : Mr) (h : Nat → Nat) (k n : Nat) : Res := (sumC (passC (recI I h k 1) 1 n) (1 + 8) - sumC (recI I h k 1) (1 + 8), passC (recI I h k 1) 1 n, recF F h k)
def xOf (I : Mi) (i : Nat) (w : Int32) : Int32 := swf 12 w (fun z => match z with
  | 0 => I (1 + 4) i
  | 1 => I (1 + 5) i
  | 2 => I (1 + 6) i
  | 3 => bi (isI (I 1 1) (nI i))
  | 4 => bi (isI (I 1 2) (nI i))
  | 5 => I (1 + 1) i
  | 6 => I (1 + 2) i
  | 7 => I (1 + 3) i
  | 8 => readC I 1 (nI i)
  | 9 => tellC I 1 i
  | 10 => I (1 + 7) i
  | 11 => pqC I 1 (nI i) 8 0
  | _ => I (1 + 8) i) (-2)
def xCount (I : Mi) (w : Int32) : Int32 := swf 13 w (fun z => match z with
  | 0 => I 1 0
  | 1 => setC I 1 0
  | 2 => setC I 1 2
  | 3 => setC I 1 3
  | 4 => setC I 1 4
  | 5 => rloadC I 1
  | 6 => I 1 17
  | 7 => sumC I (1 + 8)
  | 8 => I 1 16
  | 9 => I 1 15
  | 10 => I 1 13
  | 11 => I 1 14
  | 12 => I 23 1
  | _ => I 37 1) (-2)
def ipI (I : Mi) (n : Nat) : Mi := passC (up (copyC I 12 1) 12 17 0) 12 n
def xIfP (I : Mi) (n : Nat) (w : Int32) : Int32 × Mi := if isW w 0 3 = true then (swf 2 w (fun z => match z with
  | 0 => sumC (ipI I n) (12 + 8) - sumC (ipI I n) (1 + 8)
  | 1 => setC (ipI I n) 12 0
  | _ => ipI I n 12 17) (sumC (ipI I n) (12 + 5)), ipI I n) else (-2, I)
def tuR : Nat → Nat → Mi → Int32 × Mi
  | 0, _, J => (-6, J)
  | k + 1, t, J => if decide (bcJ (setC J 12 0) = J 12 0) = true then (nI t, J) else if restC J 12 8 0 = true then (-6, J) else tuR k (t + 1) (mvC J 12)
def tu0 (I : Mi) (cur : Int32) : Mi := oswC (up (copyC I 12 1) 12 13 cur) 12
def tuC (I : Mi) (cur : Int32) (m : Nat) : Int32 × Mi := tuR (m + 1) 0 (tu0 I cur)
def tum (I : Mi) (i : Nat) : Mi := lp (fun _ J => mvC J 12) i I
theorem tum_0 (I : Mi) : tum I 0 = I := rfl
theorem tum_s (I : Mi) (i : Nat) : tum I (i + 1) = mvC (tum I i) 12 := by unfold tum; rw [lp]
def lcR (m : Nat) : Nat → Nat → Mi → Int32 × Mi
  | 0, _, J => (-6, J)
  | k + 1, c, J => if (tuC J (nI (c + 1)) m).1 = -6 then lcR m k (c + 1) (tuC J (nI (c + 1)) m).2 else (nI (c + 1), (tuC J (nI (c + 1)) m).2)
def lcm (m : Nat) (I : Mi) (i : Nat) : Mi := lp (fun c J => (tuC J (nI (c + 1)) m).2) i I
theorem lcm_s (m : Nat) (I : Mi) (i : Nat) : lcm m I (i + 1) = (tuC (lcm m I i) (nI (i + 1)) m).2 := by unfold lcm; rw [lp]
def sqI (I : Mi) (i n : Nat) : Mi := passC (up (copyC I 12 1) (12 + 4) i 1) 12 n
def sqC (I : Mi) (i n : Nat) : Bool := decide (sumC (sqI I i n) (12 + 8) = sumC (sqI I i n) (1 + 8))
def quB (n i : Nat) (p : Int32 × Mi) : Int32 × Mi := if p.2 (1 + 4) i = 0 then (if sqC p.2 i n = true then (p.1 ||| sh1 i, sqI p.2 i n) else (p.1, sqI p.2 i n)) else p
def quR (I : Mi) (n i : Nat) : Int32 × Mi := lp (quB n) i (0, I)
theorem quR_s (I : Mi) (n i : Nat) : quR I n (i + 1) = quB n i (quR I n i) := rfl
def us64 (r : Int64) (k : Int32) : Int64 := (r.toUInt64 >>> (k.toInt64.toUInt64 &&& Int64.toUInt64 63)).toInt64
def sgE (i : Nat) (r : Int64) : Int32 := if lg_cmp r 0 = 0 then nI i else 0
def sgR : Nat → Nat → Int64 → Int32
  | 0, i, r => sgE i r
  | k + 1, i, r => if lg_cmp (r &&& 255) 0 = 0 then sgE i r else if isW (r &&& 255).toInt32 33 126 = true then sgR k (i + 1) (us64 r 8) else 0
def sgm (c : Int64) (i : Nat) : Int64 := lp (fun _ r => us64 r 8) i c
def chrP (c : Int64) (b : Nat) : Int32 := ((us64 c (8 * nI b) &&& 255).toInt32.toUInt32 % 65536).toInt32
def putI (I : Mi) (pl s : Nat) (c : Int64) (i : Nat) : Mi := lp (fun i J => appC J (pl + i) (chrP c (s - i - 1))) i I
theorem inc_m1 (x : Int32) : x + Int32.ofInt (-1) = x - 1 := by rw [Int32.sub_eq_add_neg]; rfl
theorem putI_len {I : Mi} {pl s : Nat} {c : Int64} (h : I 23 1 = nI pl) : ∀ i, putI I pl s c i 23 1 = nI (pl + i)
  | 0 => h
  | i + 1 => by
    show appC (putI I pl s c i) (pl + i) _ 23 1 = _
    unfold appC
    rw [show ∀ (J : Mi) v, up J 23 1 v 23 1 = v from fun J v => by simp [up], up_ne (by decide), putI_len h i, nI_1]
    rfl
def xPut (I : Mi) (c : Int64) (pl s : Nat) : Int32 × Mi := if sgR 8 0 c = 0 then (-2, I) else if I 23 1 + sgR 8 0 c ≤ 64 then (putI I pl s c s 23 1, putI I pl s c s) else (-4, I)
def xUndo (I : Mi) (h : Nat → Nat) (k : Nat) : Int32 × Mi := (tbI I h k 1 37 1, tbI I h k 1)
def xSave (I : Mi) (t : Nat) (sl : Int32) : Int32 × Mi := (up (copyC I t 1) 0 7 (copyC I t 1 0 7 ||| ((1 : Int32) <<< (sl &&& 31))) 1 0, up (copyC I t 1) 0 7 (copyC I t 1 0 7 ||| ((1 : Int32) <<< (sl &&& 31))))
def xRest (I : Mi) (F : Mr) (h : Nat → Nat) (k t : Nat) (sl : Int32) : Res := if isI (I 0 7) sl = true then (copyC (recI I h k 1) 1 t 1 0, copyC (recI I h k 1) 1 t, recF F h k) else (-5, I, F)

