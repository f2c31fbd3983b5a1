/-! the reference: undo, slots, what if -/
def yUndo (I : Mi) (k : Nat) : Int32 × Mi := (nI k, mvM 130 (k * 96) 128 0 (up I 127 3 (nI k)))
def ySave (I : Mi) (z : Nat) : Int32 × Mi := (up (mvM 128 0 131 (96 * z) I) 132 z 1 128 2, up (mvM 128 0 131 (96 * z) I) 132 z 1)
def yRest (I : Mi) (k z : Nat) : Int32 × Mi := if I 132 z = 0 then (-5, I) else (mvM 131 (96 * z) 128 0 (recM I k) 128 2, mvM 131 (96 * z) 128 0 (recM I k))
def yPass (I : Mi) (k t : Nat) : Int32 × Mi := (psM (recM I k) t 128 4 - recM I k 128 4, psM (recM I k) t)
def ip0 (I : Mi) : Mi := up (mvM 128 0 129 0 I) 128 6 0
def yIfP (I : Mi) (n t : Nat) (v : Int32) : Int32 × Mi := if isW v 0 3 = true then
    (if v = 0 then (psM (ip0 I) t 128 4 - ip0 I 128 4, mvM 129 0 128 0 (psM (ip0 I) t))
     else if v = 1 then (setM (psM (ip0 I) t) n 0, mvM 129 0 128 0 (psM (ip0 I) t))
     else if v = 2 then (psM (ip0 I) t 128 6, mvM 129 0 128 0 (psM (ip0 I) t))
     else (sumM (psM (ip0 I) t) n, mvM 129 0 128 0 (psM (ip0 I) t)))
  else (-2, I)
def allM (I : Mi) (n : Nat) : Bool := decide (setM I n 0 = ((1 : Int32) <<< (nI n &&& 31)) - 1)
def awB (i : Nat) (J : Mi) : Mi := if decide (pt J i 7 = 2) = true then wtM J i (ix (J 128 7)) else J
def aw1 (I : Mi) (cur : Int32) : Mi := up (mvM 128 0 129 0 I) 128 0 cur
def aw0 (I : Mi) (cur : Int32) (n : Nat) : Mi := lp awB n (aw1 I cur)
def aaR (n : Nat) : Nat → Nat → Mi → Int32 × Mi
  | 0, d, J => if allM J n = true then (nI d, J) else (-6, J)
  | k + 1, d, J => if allM J n = true then (nI d, J) else aaR n k (d + 1) (tkM J)
def yAa (I : Mi) (cur : Int32) (n : Nat) : Int32 × Mi := ((aaR n 200 0 (aw0 I cur n)).1, mvM 129 0 128 0 (aaR n 200 0 (aw0 I cur n)).2)
/-- what the reference's allAwake needs of the state -/
def AWok (I : Mi) (cur : Int32) (n : Nat) : Prop := (∀ k, k < 200 → TI (psM (aw0 I cur n) k)) ∧ ∀ k, k ≤ 200 → psM (aw0 I cur n) k 128 2 = nI n
theorem awB_lo {i : Nat} {J : Mi} {y : Nat} (hy : y < 7) : awB i J 128 y = J 128 y := by
  unfold awB; split
  · exact wtM_lo hy
  · rfl
theorem awB_inv {i w : Nat} {J : Mi} (h : ∃ v, v ≤ w + i ∧ J 128 7 = nI v) (hw : w + i < 2147483648) : ∃ v, v ≤ w + (i + 1) ∧ awB i J 128 7 = nI v := by
  obtain ⟨v, hv, e⟩ := h
  unfold awB
  split
  · refine ⟨v + 1, by omega, ?_⟩
    rw [wtM_7, e, show ix (nI v) = v from nI_clamp (by omega)]
  · exact ⟨v, by omega, e⟩
theorem psM_0 (I : Mi) : psM I 0 = I := rfl
def yLc (m n : Nat) : Nat → Nat → Mi → Int32 × Mi
  | 0, _, J => (-6, J)
  | k + 1, c, J => if (yAa J (nI (c + 1)) n).1 = -6 then yLc m n k (c + 1) (yAa J (nI (c + 1)) n).2
    else if nI m < (yAa J (nI (c + 1)) n).1 then yLc m n k (c + 1) (yAa J (nI (c + 1)) n).2 else (nI (c + 1), (yAa J (nI (c + 1)) n).2)
def lcS (n : Nat) (I : Mi) (i : Nat) : Mi := lp (fun c J => (yAa J (nI (c + 1)) n).2) i I
theorem lcS_s (n : Nat) (I : Mi) (i : Nat) : lcS n I (i + 1) = (yAa (lcS n I i) (nI (i + 1)) n).2 := by unfold lcS; rw [lp]
theorem lcS_0 (n : Nat) (I : Mi) : lcS n I 0 = I := rfl
def q0M (J : Mi) (i : Nat) : Mi := sp (mvM 128 0 129 0 J) i 7 1
def quM (t i : Nat) (p : Int32 × Mi) : Int32 × Mi := if decide (pt p.2 i 7 = 0) = true then (p.1 ||| (if psM (q0M p.2 i) t 128 4 - q0M p.2 i 128 4 = 0 then sh1 i else 0), mvM 129 0 128 0 (psM (q0M p.2 i) t)) else p
def quS (I : Mi) (t i : Nat) : Int32 × Mi := lp (quM t) i (0, I)
theorem quS_s (I : Mi) (t i : Nat) : quS I t (i + 1) = quM t i (quS I t i) := by unfold quS; rw [lp]
theorem quS_0 (I : Mi) (t : Nat) : quS I t 0 = (0, I) := rfl
