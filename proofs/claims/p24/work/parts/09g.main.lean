theorem addC_ne {I : Mi} {a n : Nat} {iso keep r d m : Int32} {x : Nat} (h : x < a ∨ a + 4 < x) : addC I a n iso keep r d m x = I x := by
  simp only [addC]
  rw [up_ne (show x ≠ a + 4 by omega), up_ne (show x ≠ a + 3 by omega), up_ne (show x ≠ a + 2 by omega), up_ne (show x ≠ a + 1 by omega)]
  split <;> split <;> simp only [up_ne (show x ≠ a by omega)]
theorem begI_ne {I : Mi} {x : Nat} (h : x ≠ 25) : begI I x = I x := by simp only [begI, up_ne h]
theorem tk_ne {I : Mi} {c : Int32} {x : Nat} (h : x < 25 ∨ 36 < x) : (tk I c).2 x = I x := by
  have hn : x ≠ 25 := by omega
  have e1 : ∀ (J : Mi) v, (tkIso J v).2 x = J x := fun J v => by unfold tkIso; split <;> simp only [up_ne hn]
  have e2 : ∀ (J : Mi) v, (tkKeep J v).2 x = J x := fun J v => by unfold tkKeep; split <;> simp only [up_ne hn]
  have e3 : ∀ (J : Mi) v, (tkRise J v).2 x = J x := fun J v => by unfold tkRise; (try split) <;> (try split) <;> simp only [up_ne hn]
  have e4 : ∀ (J : Mi) v, (tkComma J v).2 x = J x := fun J v => by unfold tkComma; split <;> simp only [up_ne hn]
  have e5 : ∀ (J : Mi) v, (tkLoad J v).2 x = J x := fun J v => by unfold tkLoad; (try split) <;> (try split) <;> (try split) <;> simp only [up_ne hn]
  have e6 : ∀ (J : Mi) v, (tkArrow J v).2 x = J x := fun J v => by unfold tkArrow; split <;> simp only [up_ne hn]
  have e7 : ∀ (J : Mi) v, (tkNum J v).2 x = J x := fun J v => by unfold tkNum; (try split) <;> (try split) <;> simp only [up_ne hn]
  have e8 : ∀ (J : Mi) n v, (tkEnd J n v).2 x = J x := fun J n v => by
    unfold tkEnd; (try split) <;> (try split) <;> simp only [begI_ne hn, endI, addC_ne (show x < 26 ∨ 26 + 4 < x by omega)]
  have eo : ∀ (f g : Mi → Int32 → Bool × Mi), (∀ J v, (f J v).2 x = J x) → (∀ J v, (g J v).2 x = J x) → ∀ J v, (orT f g J v).2 x = J x := fun f g hf hg J v => by
    unfold orT; split
    · exact hf J v
    · rw [hg, hf]
  unfold tk tkC
  by_cases csw : (I 25 1).toInt < 0 ∨ 6 < (I 25 1).toInt
  · rw [swf_out csw]; exact eo _ _ e6 (fun J v => e8 J _ v) I c
  · obtain ⟨c1, c2⟩ := not_or.mp csw
    rcases sw_cases7 c1 c2 with q | q | q | q | q | q | q
    · rw [swf_at (z := 0) q (by decide) (by decide)]; exact eo _ _ e1 (eo _ _ e2 e3) I c
    · rw [swf_at (z := 1) q (by decide) (by decide)]; exact eo _ _ e2 e3 I c
    · rw [swf_at (z := 2) q (by decide) (by decide)]; exact e3 I c
    · rw [swf_at (z := 3) q (by decide) (by decide)]; exact e4 I c
    · rw [swf_at (z := 4) q (by decide) (by decide)]; exact e5 I c
    · rw [swf_at (z := 5) q (by decide) (by decide)]; exact eo _ _ e5 (eo _ _ e6 (fun J v => e8 J _ v)) I c
    · rw [swf_at (z := 6) q (by decide) (by decide)]; exact e7 I c
theorem ffR_ne {x : Nat} (h : x < 25 ∨ 36 < x) : ∀ (k i : Nat) (I : Mi), (ffR k i I).2 x = I x
  | 0, i, I => by
    unfold ffR ffin endI2 endI; (try split) <;> (try split) <;> simp only [addC_ne (show x < 26 ∨ 26 + 4 < x by omega)]
  | k + 1, i, I => by
    unfold ffR
    split
    · unfold ffin endI2 endI; (try split) <;> (try split) <;> simp only [addC_ne (show x < 26 ∨ 26 + 4 < x by omega)]
    · split
      · rw [ffR_ne h k, tk_ne h]
      · exact tk_ne h
theorem ffC_ne {I : Mi} {x : Nat} (h : x < 25 ∨ 36 < x) : (ffC I).2 x = I x := by
  unfold ffC ff0
  rw [ffR_ne h, begI_ne (by omega)]
  unfold clearC
  rw [lp_fix (fun i J => by
    simp only [clrB, up_ne (show x ≠ 26 + 1 by omega), up_ne (show x ≠ 26 + 2 by omega), up_ne (show x ≠ 26 + 3 by omega), up_ne (show x ≠ 26 + 4 by omega), up_ne (show x ≠ 26 + 5 by omega), up_ne (show x ≠ 26 + 6 by omega), up_ne (show x ≠ 26 + 7 by omega), up_ne (show x ≠ 26 + 8 by omega), up_ne (show x ≠ 26 + 9 by omega)])]
  simp only [clrS, up_ne (show x ≠ 26 by omega)]
