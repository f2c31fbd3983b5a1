theorem lp_fix {f : Nat → Mi → Mi} {x : Nat} (h : ∀ i I, f i I x = I x) : ∀ (n : Nat) (I : Mi), lp f n I x = I x
  | 0, I => rfl
  | n + 1, I => (h n _).trans (lp_fix h n I)
theorem cpyS_ne {I : Mi} {a b x : Nat} (h : x ≠ a) : cpyS I a b x = I x := by simp only [cpyS, up_ne h]
theorem cpyB_ne {I : Mi} {a b i x : Nat} (h : x < a + 1 ∨ a + 9 < x) : cpyB a b i I x = I x := by
  simp only [cpyB, up_ne (show x ≠ a + 1 by omega), up_ne (show x ≠ a + 2 by omega), up_ne (show x ≠ a + 3 by omega), up_ne (show x ≠ a + 4 by omega), up_ne (show x ≠ a + 5 by omega), up_ne (show x ≠ a + 6 by omega), up_ne (show x ≠ a + 7 by omega), up_ne (show x ≠ a + 8 by omega), up_ne (show x ≠ a + 9 by omega)]
theorem copyC_ne {I : Mi} {a b x : Nat} (h : x < a ∨ a + 9 < x) : copyC I a b x = I x := by
  unfold copyC
  rw [lp_fix (fun i J => cpyB_ne (by omega)), cpyS_ne (by omega)]
theorem addC_0 (I : Mi) (a n : Nat) (iso keep r d m : Int32) : addC I a n iso keep r d m a 0 = I a 0 + 1 := by
  simp only [addC]
  rw [up_ne (show a ≠ a + 4 by omega), up_ne (show a ≠ a + 3 by omega), up_ne (show a ≠ a + 2 by omega), up_ne (show a ≠ a + 1 by omega)]
  split <;> split <;> simp [up]
def RN (I : Mi) : Prop := ∃ n, n < 8 ∧ I 26 0 = nI n
abbrev nI_ix (I : Mi) : Nat := ix (I 26 0)
def tk (I : Mi) (x : Int32) : Bool × Mi := tkC I (ix (I 26 0)) x
def endI2 (I : Mi) : Mi := endI I (ix (I 26 0))
theorem RN_ix {I : Mi} {n : Nat} (h8 : n < 8) (h : I 26 0 = nI n) : ix (I 26 0) = n := by rw [h]; exact nI_clamp (by omega)
def RNn (n : Nat) (f : Mi → Int32 → Bool × Mi) : Prop := ∀ (I : Mi) (x : Int32), I 26 0 = nI n → ∃ m, m < 8 ∧ (f I x).2 26 0 = nI m
theorem RNn_or {n : Nat} {f g : Mi → Int32 → Bool × Mi} (h8 : n < 8) (hf : ∀ I x, (f I x).2 26 = I 26) (hg : RNn n g) : RNn n (orT f g) := by
  intro I x h
  unfold orT
  split
  · exact ⟨n, h8, by simp only [hf]; exact h⟩
  · exact hg _ _ (by rw [hf]; exact h)
theorem RNn_fix {n : Nat} {f : Mi → Int32 → Bool × Mi} (h8 : n < 8) (hf : ∀ I x, (f I x).2 26 = I 26) : RNn n f := fun I x h => ⟨n, h8, by rw [hf]; exact h⟩
theorem RNn_end {n : Nat} (h8 : n < 8) : RNn n (fun I x => tkEnd I n x) := by
  intro I x h
  show ∃ m, m < 8 ∧ (tkEnd I n x).2 26 0 = nI m
  unfold tkEnd
  split
  · split
    · rename_i q1 q2
      rw [h, nI_1] at q2
      have h7 : n + 1 < 8 := (nI_ltI (b := 8) (by omega) (by decide)).mp q2
      refine ⟨n + 1, h7, ?_⟩
      have e : (begI (endI I n)) 26 0 = I 26 0 + 1 := by
        unfold begI endI
        rw [up_ne (by decide), up_ne (by decide), up_ne (by decide), up_ne (by decide), up_ne (by decide), up_ne (by decide)]
        exact addC_0 _ _ _ _ _ _ _ _
      show (begI (endI I n)) 26 0 = _
      rw [e, h, nI_1]
    · exact ⟨n, h8, h⟩
  · exact ⟨n, h8, h⟩
theorem tk_RN {I : Mi} (x : Int32) (h : RN I) : RN (tk I x).2 := by
  obtain ⟨n, h8, hn⟩ := h
  have e := RN_ix h8 hn
  unfold tk
  rw [e]
  unfold tkC
  by_cases csw : (I 25 1).toInt < 0 ∨ 6 < (I 25 1).toInt
  · rw [swf_out csw]
    exact RNn_or h8 tkArrow26 (RNn_end h8) I x hn
  · obtain ⟨c1, c2⟩ := not_or.mp csw
    rcases sw_cases7 c1 c2 with q | q | q | q | q | q | q
    · rw [swf_at (z := 0) q (by decide) (by decide)]; exact RNn_or h8 tkIso26 (RNn_or h8 tkKeep26 (RNn_fix h8 tkRise26)) I x hn
    · rw [swf_at (z := 1) q (by decide) (by decide)]; exact RNn_or h8 tkKeep26 (RNn_fix h8 tkRise26) I x hn
    · rw [swf_at (z := 2) q (by decide) (by decide)]; exact RNn_fix h8 tkRise26 I x hn
    · rw [swf_at (z := 3) q (by decide) (by decide)]; exact RNn_fix h8 tkComma26 I x hn
    · rw [swf_at (z := 4) q (by decide) (by decide)]; exact RNn_fix h8 tkLoad26 I x hn
    · rw [swf_at (z := 5) q (by decide) (by decide)]; exact RNn_or h8 tkLoad26 (RNn_or h8 tkArrow26 (RNn_end h8)) I x hn
    · rw [swf_at (z := 6) q (by decide) (by decide)]; exact RNn_fix h8 tkNum26 I x hn
def ffin (I : Mi) : Int32 × Mi := if I 25 1 = 5 then (-6, endI2 I) else if I 25 1 = 7 then (-6, endI2 I) else (I 23 1, I)
def ffR : Nat → Nat → Mi → Int32 × Mi
  | 0, _, I => ffin I
  | k + 1, i, I => if I 23 1 ≤ nI i then ffin I else if (tk I (I 24 i)).1 = true then ffR k (i + 1) (tk I (I 24 i)).2 else (nI i, (tk I (I 24 i)).2)
def ffm (I : Mi) (i : Nat) : Mi := lp (fun i J => (tk J (J 24 i)).2) i I
def ff0 (I : Mi) : Mi := begI (clearC I 26)
def ffC (I : Mi) : Int32 × Mi := ffR 64 0 (ff0 I)
theorem ff0_RN (I : Mi) : RN (ff0 I) := ⟨0, by decide, by
  have h : ∀ n J, lp (clrB 26) n J 26 = J 26 := fun n J => lp_fix (fun i K => by simp only [clrB]; rw [up_ne (by decide), up_ne (by decide), up_ne (by decide), up_ne (by decide), up_ne (by decide), up_ne (by decide), up_ne (by decide), up_ne (by decide), up_ne (by decide)]) n J
  unfold ff0 begI clearC
  rw [up_ne (by decide), up_ne (by decide), up_ne (by decide), up_ne (by decide), up_ne (by decide), up_ne (by decide), h]
  rfl⟩
def appC (I : Mi) (n : Nat) (v : Int32) : Mi := up (up I 24 n v) 23 1 (up I 24 n v 23 1 + 1)