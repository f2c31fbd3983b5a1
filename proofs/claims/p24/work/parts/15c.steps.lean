/-! falling and rising, island by island -/
def fal1 (a i : Nat) (I : Mi) : Mi := if I (a + 4) i = 1 then keepC (up I (a + 4) i 2) a i else I
theorem fallC_lp (I : Mi) (a : Nat) : fallC I a = lp (fal1 a) 8 I := rfl
theorem keepC_S (I : Mi) (a i : Nat) : CSx (keepC (up I (a + 4) i 2) a i) a I i 2 (I (a + 7) i) ∧ CQ (keepC (up I (a + 4) i 2) a i) I a := by
  unfold keepC
  refine ⟨?_, ?_⟩
  · split
    · refine ⟨⟨?_, ?_, ?_⟩, fun j hj => ⟨?_, ?_, ?_⟩, ⟨?_, ?_⟩, fun j hj hji => ⟨?_, ?_⟩⟩ <;> simp only [uc1, uc2, uc3, uc4, Nat.reduceEqDiff, Nat.reduceLT, Nat.reduceLeDiff, reduceIte, and_false, false_and, and_true, true_and, and_self, ne_eq, not_false_eq_true, not_true_eq_false, Nat.zero_lt_succ, *]
    · split
      · refine ⟨⟨?_, ?_, ?_⟩, fun j hj => ⟨?_, ?_, ?_⟩, ⟨?_, ?_⟩, fun j hj hji => ⟨?_, ?_⟩⟩ <;> simp only [uc1, uc2, uc3, uc4, Nat.reduceEqDiff, Nat.reduceLT, Nat.reduceLeDiff, reduceIte, and_false, false_and, and_true, true_and, and_self, ne_eq, not_false_eq_true, not_true_eq_false, Nat.zero_lt_succ, *]
      · refine ⟨⟨?_, ?_, ?_⟩, fun j hj => ⟨?_, ?_, ?_⟩, ⟨?_, ?_⟩, fun j hj hji => ⟨?_, ?_⟩⟩ <;> simp only [uc1, uc2, uc3, uc4, Nat.reduceEqDiff, Nat.reduceLT, Nat.reduceLeDiff, reduceIte, and_false, false_and, and_true, true_and, and_self, ne_eq, not_false_eq_true, not_true_eq_false, Nat.zero_lt_succ, *]
  · split
    · refine ⟨?_, fun j hj => ?_⟩ <;> simp only [uc1, uc2, uc3, uc4, Nat.reduceEqDiff, Nat.reduceLT, Nat.reduceLeDiff, reduceIte, and_false, false_and, and_true, true_and, and_self, ne_eq, not_false_eq_true, not_true_eq_false, Nat.zero_lt_succ, *]
    · split
      · refine ⟨?_, fun j hj => ?_⟩ <;> simp only [uc1, uc2, uc3, uc4, Nat.reduceEqDiff, Nat.reduceLT, Nat.reduceLeDiff, reduceIte, and_false, false_and, and_true, true_and, and_self, ne_eq, not_false_eq_true, not_true_eq_false, Nat.zero_lt_succ, *]
      · refine ⟨?_, fun j hj => ?_⟩ <;> simp only [uc1, uc2, uc3, uc4, Nat.reduceEqDiff, Nat.reduceLT, Nat.reduceLeDiff, reduceIte, and_false, false_and, and_true, true_and, and_self, ne_eq, not_false_eq_true, not_true_eq_false, Nat.zero_lt_succ, *]
theorem fa1_S (J : Mi) (i : Nat) (hi : i < 8) (h : pt J i 7 = 1) : KSx (fa1 i J 128) (J 128) i 2 (pt J i 8) ∧ KQ (fa1 i J 128) (J 128) := by
  unfold fa1
  rw [if_pos (by simp [h])]
  split
  · refine ⟨⟨⟨?_, ?_, ?_⟩, fun j hj => ⟨?_, ?_, ?_⟩, ⟨?_, ?_⟩, fun j hj hji => ⟨?_, ?_⟩⟩, ⟨?_, fun j hj => ?_⟩⟩ <;> simp only [um1, um2, um3, um4, um5, um6, um7, um8, um9, um0, Nat.reduceEqDiff, Nat.reduceLT, Nat.reduceLeDiff, reduceIte, and_false, false_and, and_true, true_and, and_self, ne_eq, not_false_eq_true, not_true_eq_false, *]
  · refine ⟨⟨⟨?_, ?_, ?_⟩, fun j hj => ⟨?_, ?_, ?_⟩, ⟨?_, ?_⟩, fun j hj hji => ⟨?_, ?_⟩⟩, ⟨?_, fun j hj => ?_⟩⟩ <;> simp only [um1, um2, um3, um4, um5, um6, um7, um8, um9, um0, Nat.reduceEqDiff, Nat.reduceLT, Nat.reduceLeDiff, reduceIte, and_false, false_and, and_true, true_and, and_self, ne_eq, not_false_eq_true, not_true_eq_false, *]
theorem SI.left0 {I : Mi} {a n i : Nat} {K : Kr} (h : SI I a K n i) (h4 : I (a + 4) i ≠ 4) : I (a + 7) i = nI 0 := by
  obtain ⟨-, -, ⟨t, -, h1, -, h2⟩, -⟩ := h
  rw [h1, h2 h4]
theorem fa1_no {J : Mi} {i : Nat} (h : pt J i 7 ≠ 1) : fa1 i J = J := by
  unfold fa1
  rw [if_neg (by simp [h])]
theorem RS_fal {I J : Mi} {a n w i : Nat} (h : RS I a (J 128) n w) (hi : i < n) : RS (fal1 a i I) a (fa1 i J 128) n w := by
  have hs := h.1.2.2.1 i hi
  have hi8 : i < 8 := Nat.lt_of_lt_of_le hi h.1.1
  have e4 : I (a + 4) i = pt J i 7 := hs.1.2.2.2.1
  have e7 : I (a + 7) i = pt J i 8 := hs.1.2.2.2.2
  unfold fal1
  by_cases c : I (a + 4) i = 1
  · have l0 := hs.left0 (by rw [c]; decide)
    rw [if_pos c]
    obtain ⟨c1, c2⟩ := keepC_S I a i
    obtain ⟨m1, m2⟩ := fa1_S J i hi8 (by rw [← e4, c])
    rw [l0] at c1
    rw [← e7, l0] at m1
    exact ⟨RB_st c1 m1 h.1 hi (by omega) (fun q => absurd q (by decide)) (fun _ => rfl), RQ_st h.1.1 c2 m2 (fun j hj hji => (c1.2.2.2 j hj hji).1) (by rw [c]; decide) h.2⟩
  · rw [if_neg c, fa1_no (by rw [← e4]; exact c)]
    exact h
theorem keepC_V (I : Mi) (a i : Nat) : CVx (keepC (up I (a + 4) i 2) a i) a I i 0 (if isI (I a 2) (nI i) = true then I (a + 5) i else I (a + 6) i) ∧ keepC (up I (a + 4) i 2) a i a 16 = I a 16 + (if isI (I a 2) (nI i) = true then 0 else if I (a + 5) i ≤ 0 then 0 else 1) := by
  unfold keepC
  rw [uc2 I a 4 i 2 2 (by omega), show up I (a + 4) i 2 (a + 5) i = I (a + 5) i by rw [uc1]; simp]
  by_cases c1 : isI (I a 2) (nI i) = true
  · simp only [if_pos c1]
    refine ⟨⟨⟨?_, ?_, ?_, ?_⟩, fun j hj => ?_, ⟨?_, ?_⟩, fun j hj hji => ⟨?_, ?_⟩⟩, ?_⟩ <;> (try rw [Int32.add_zero]) <;> simp only [uc1, uc2, uc3, uc4, Nat.reduceEqDiff, Nat.reduceLT, Nat.reduceLeDiff, reduceIte, and_false, false_and, and_true, true_and, and_self, ne_eq, not_false_eq_true, not_true_eq_false, Nat.zero_lt_succ, *]
  · simp only [if_neg c1]
    by_cases c2 : I (a + 5) i ≤ 0
    · simp only [if_pos c2]
      refine ⟨⟨⟨?_, ?_, ?_, ?_⟩, fun j hj => ?_, ⟨?_, ?_⟩, fun j hj hji => ⟨?_, ?_⟩⟩, ?_⟩ <;> (try rw [Int32.add_zero]) <;> simp only [uc1, uc2, uc3, uc4, Nat.reduceEqDiff, Nat.reduceLT, Nat.reduceLeDiff, reduceIte, and_false, false_and, and_true, true_and, and_self, ne_eq, not_false_eq_true, not_true_eq_false, Nat.zero_lt_succ, *]
    · simp only [if_neg c2]
      refine ⟨⟨⟨?_, ?_, ?_, ?_⟩, fun j hj => ?_, ⟨?_, ?_⟩, fun j hj hji => ⟨?_, ?_⟩⟩, ?_⟩ <;> simp only [uc1, uc2, uc3, uc4, Nat.reduceEqDiff, Nat.reduceLT, Nat.reduceLeDiff, reduceIte, and_false, false_and, and_true, true_and, and_self, ne_eq, not_false_eq_true, not_true_eq_false, Nat.zero_lt_succ, *]
theorem fa1_V (J : Mi) (i : Nat) (hi : i < 8) (h : pt J i 7 = 1) : KVx (fa1 i J 128) (J 128) i 0 (if pt J i 1 = 1 then pt J i 4 else pt J i 5) ∧ fa1 i J 128 5 = J 128 5 + (if pt J i 1 = 1 then 0 else if pt J i 4 ≤ 0 then 0 else 1) := by
  unfold fa1
  rw [if_pos (by simp [h])]
  by_cases c1 : pt J i 1 = 1
  · simp only [if_pos c1]
    refine ⟨⟨⟨?_, ?_, ?_⟩, fun j hj => ⟨?_, ?_, ?_⟩, ⟨?_, ?_⟩, fun j hj hji => ⟨?_, ?_⟩⟩, ?_⟩ <;> simp only [um1, um2, um3, um4, um5, um6, um7, um8, um9, um0, Nat.reduceEqDiff, Nat.reduceLT, Nat.reduceLeDiff, reduceIte, and_false, false_and, and_true, true_and, and_self, ne_eq, not_false_eq_true, not_true_eq_false, *]
  · simp only [if_neg c1]
    refine ⟨⟨⟨?_, ?_, ?_⟩, fun j hj => ⟨?_, ?_, ?_⟩, ⟨?_, ?_⟩, fun j hj hji => ⟨?_, ?_⟩⟩, ?_⟩ <;> simp only [um1, um2, um3, um4, um5, um6, um7, um8, um9, um0, Nat.reduceEqDiff, Nat.reduceLT, Nat.reduceLeDiff, reduceIte, and_false, false_and, and_true, true_and, and_self, ne_eq, not_false_eq_true, not_true_eq_false, *]
theorem bi_if {α : Type} (b : Bool) (x y : α) : (if bi b = 1 then x else y) = if b = true then x else y := by cases b <;> rfl
theorem RR_fal {I J : Mi} {a n w i : Nat} (h : RR I a (J 128) n w) (hi : i < n) : RR (fal1 a i I) a (fa1 i J 128) n w := by
  refine ⟨RS_fal h.1 hi, ?_⟩
  have hs := h.1.1.2.2.1 i hi
  have h8 := h.1.1.1
  have hi8 : i < 8 := Nat.lt_of_lt_of_le hi h8
  have e4 : I (a + 4) i = pt J i 7 := hs.1.2.2.2.1
  obtain ⟨⟨v1, v2⟩, ⟨v3, v4, v5⟩, v6, v7⟩ := h.2.2.1 i hi
  have v3 : I (a + 5) i = pt J i 4 := v3
  have v4 : I (a + 6) i = pt J i 5 := v4
  have v2 : pt J i 1 = bi (bt (I a 2) i) := v2
  have el : I a 16 = J 128 5 := h.2.1.2.1
  unfold fal1
  by_cases c : I (a + 4) i = 1
  · rw [if_pos c]
    obtain ⟨c1, c2⟩ := keepC_V I a i
    obtain ⟨m1, m2⟩ := fa1_V J i hi8 (by rw [← e4, c])
    simp only [v2, bi_if, ← v3, ← v4] at m1 m2
    rw [isI_bt _ (by omega)] at c1 c2
    refine RV_st h8 c1 m1 (by rw [c2, m2, el]) h.2 hi ⟨0, by omega, rfl⟩ ?_
    split
    · exact v6
    · exact v7
  · rw [if_neg c, fa1_no (by rw [← e4]; exact c)]
    exact h.2
theorem fal1_abs {I : Mi} {a i : Nat} (h : AI I a i) : fal1 a i I = I := if_neg (by rw [h.1]; decide)
/-- a loop of the class over 8 places, of which those behind n are absent, and one of the reference over n -/
theorem loop8 {P : Mi → Mi → Prop} {f g : Nat → Mi → Mi} {n : Nat} (h8 : n ≤ 8) (hs : ∀ i x y, i < n → P x y → P (f i x) (g i y)) (ha : ∀ i x y, n ≤ i → i < 8 → P x y → f i x = x) {I J : Mi} (h : P I J) : P (lp f 8 I) (lp g n J) := by
  have h1 : P (lp f n I) (lp g n J) := lp_ind2 (fun _ => P) h hs
  have h2 : ∀ m, n ≤ m → m ≤ 8 → lp f m I = lp f n I := by
    intro m
    induction m with
    | zero => intro q _; rw [show n = 0 by omega]
    | succ m ih =>
      intro q1 q2
      rcases Nat.lt_or_ge n (m + 1) with q | q
      · show f m (lp f m I) = _
        have e := ih (by omega) (by omega)
        rw [e]
        exact ha m _ _ (by omega) (by omega) h1
      · rw [show n = m + 1 by omega]
  rw [h2 8 h8 (Nat.le_refl _)]
  exact h1
theorem RS_fall {I J : Mi} {a n w : Nat} (h : RS I a (J 128) n w) : RS (fallC I a) a (faM J n 128) n w :=
  show RS (lp (fal1 a) 8 I) a ((lp fa1 n J) 128) n w from loop8 (f := fal1 a) (g := fa1) (P := fun x y => RS x a (y 128) n w) h.1.1 (fun i x y hi q => RS_fal q hi) (fun i x y h1 h2 q => fal1_abs (q.1.2.2.2 i h1 h2)) h
theorem RR_fall {I J : Mi} {a n w : Nat} (h : RR I a (J 128) n w) : RR (fallC I a) a (faM J n 128) n w :=
  show RR (lp (fal1 a) 8 I) a ((lp fa1 n J) 128) n w from loop8 (f := fal1 a) (g := fa1) (P := fun x y => RR x a (y 128) n w) h.1.1.1 (fun i x y hi q => RR_fal q hi) (fun i x y h1 h2 q => fal1_abs (q.1.1.2.2.2 i h1 h2)) h
