/-! the reference: its state is the row 128: part p of island i at 16 + 10 i + p -/
abbrev pt (I : Mi) (i p : Nat) : Int32 := I 128 (16 + 10 * i + p)
abbrev sp (I : Mi) (i p : Nat) (v : Int32) : Mi := up I 128 (16 + 10 * i + p) v
theorem up_j {I : Mi} {k j y : Nat} {v : Int32} (h : y ≠ j) : up I k j v k y = I k y := by simp [up, h]
theorem sp_lo {I : Mi} {i p : Nat} {v : Int32} {x : Nat} (h : x < 16) : sp I i p v 128 x = I 128 x := by simp only [sp, up]; rw [if_neg (by omega)]
theorem pt_ix (i p : Nat) {y : Int32} (hy : y = nI p) : (16 : Int32) + 10 * nI i + y = nI (16 + 10 * i + p) := by
  subst hy
  show nI 16 + nI 10 * nI i + nI p = _
  rw [pk_mul, nI_add, nI_add]
theorem or_ix (k : Nat) : (8 : Int32) + nI k = nI (8 + k) := by
  show nI 8 + nI k = _
  rw [nI_add]
def mvM (x f y t : Nat) (I : Mi) : Mi := lp (fun k J => up J y (t + k) (J x (f + k))) 96 I
def rdM (I : Mi) (i : Nat) (x : Int32) : Bool := decide (((pt I i 6 >>> (x &&& 31)) &&& 1) = 1)
def sureM (I : Mi) (i : Nat) : Bool := decide (pt I i 7 = 0) || decide (pt I i 7 = 1)
def tellM (I : Mi) (i : Nat) : Int32 := if sureM I i = true then pt I i 4 else if pt I i 0 = 1 then 0 else 255
def setM (I : Mi) (n : Nat) (x : Int32) : Int32 := lp (fun i acc => acc ||| (if decide (pt I i 7 = x) = true then sh1 i else 0)) n 0
def rdsM (I : Mi) (n : Nat) (x : Int32) : Int32 := lp (fun i acc => acc ||| (if rdM I i x = true then sh1 i else 0)) n 0
def bitM (v : Int32) : Int32 := lp (fun k acc => acc + ((v >>> (nI k &&& 31)) &&& 1)) 8 0
def rlM (I : Mi) (n : Nat) : Int32 := lp (fun i acc => acc + (if decide (pt I i 7 = 4) = true then pt I i 3 else 0)) n 0
def plM (I : Mi) (w : Nat) (x : Int32) : Int32 := lp (fun k acc => if I 128 (8 + k) = x then nI k else acc) w (-6)
def wtM (I : Mi) (i w : Nat) : Mi := up (up (sp I i 7 3) 128 (8 + w) (nI i)) 128 7 (nI (w + 1))
def sumM (I : Mi) (n : Nat) : Int32 := lp (fun i acc => acc + pt I i 4) n 0
def nv1 (i : Nat) (J : Mi) : Mi :=
  let J1 := up J 134 i (tellM J i)
  up J1 135 i (if sureM J1 i = true then 0 else if pt J1 i 0 = 0 then 1 else 0)
def nvB (i k : Nat) (p : Mi × Int32) : Mi × Int32 := if rdM p.1 i (nI k) = true then
    (let J1 := up p.1 128 4 (p.1 128 4 + p.1 135 k)
     sp J1 i 9 (pt J1 i 9 + J1 135 k), p.2 + p.1 134 k)
  else p
def nvI (i k : Nat) (J : Mi) : Mi × Int32 := lp (nvB i) k (J, pt J i 4)
theorem nvI_s (i k : Nat) (J : Mi) : nvI i (k + 1) J = nvB i k (nvI i k J) := rfl
def md256 (x : Int32) : Int32 := x - (x / 256) * 256
def nv2 (n i : Nat) (J : Mi) : Mi := if decide (pt J i 7 = 0) = true then sp (nvI i n J).1 i 4 (md256 (nvI i n J).2) else sp J i 4 (md256 (pt J i 4))
def nvM1 (I : Mi) (n : Nat) : Mi := lp nv1 n I
def nvM (I : Mi) (n : Nat) : Mi := lp (nv2 n) n (nvM1 I n)
def fa1 (i : Nat) (I : Mi) : Mi := if decide (pt I i 7 = 1) = true then (if pt I i 1 = 1 then
      sp (up (sp (sp I i 7 2) i 5 (pt (sp I i 7 2) i 4)) 128 5 (sp (sp I i 7 2) i 5 (pt (sp I i 7 2) i 4) 128 5 + 0)) i 4 0
    else sp (up (sp (sp I i 7 2) i 5 (pt (sp I i 7 2) i 5)) 128 5 (sp (sp I i 7 2) i 5 (pt (sp I i 7 2) i 5) 128 5 + (if pt (sp (sp I i 7 2) i 5 (pt (sp I i 7 2) i 5)) i 4 ≤ 0 then 0 else 1))) i 4 0)
  else I
def faM (I : Mi) (n : Nat) : Mi := lp fa1 n I
def ri1 (i : Nat) (I : Mi) : Mi := if decide (pt I i 7 = 4) = true then (if pt (sp I i 8 (pt I i 8 - 1)) i 8 = 0 then
      sp (sp (sp I i 8 (pt I i 8 - 1)) i 7 0) i 4 (if pt (sp (sp I i 8 (pt I i 8 - 1)) i 7 0) i 1 = 1 then pt (sp (sp I i 8 (pt I i 8 - 1)) i 7 0) i 5 else pt (sp (sp I i 8 (pt I i 8 - 1)) i 7 0) i 4)
    else sp I i 8 (pt I i 8 - 1)) else I
def riM (I : Mi) (n : Nat) : Mi := lp ri1 n I
def arM (I : Mi) (n : Nat) (x : Int32) : Int32 := rdsM I n x &&& setM I n 0
def ak1 (n i : Nat) (I : Mi) : Mi := if decide (pt I i 7 = 2) = true then (if arM I n (nI i) = 0 then I else wtM I i (ix (I 128 7))) else I
def akM (I : Mi) (n : Nat) : Mi := if I 128 1 = 1 then lp (ak1 n) n I else I
