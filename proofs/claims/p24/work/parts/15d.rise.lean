/-! rising on -/
theorem ucs (I : Mi) (k i : Nat) (v : Int32) : up I k i v k i = v := by simp [up]
theorem ums (J : Mi) (y : Nat) (v : Int32) : up J 128 y v 128 y = v := by simp [up]
theorem ptp (J : Mi) (i p : Nat) (v : Int32) : pt (sp J i p v) i p = v := by simp [up]
theorem nI_dec {t : Nat} (h : 1 ≤ t) : nI t - 1 = nI (t - 1) := by
  obtain ⟨k, rfl⟩ : ∃ k, t = k + 1 := ⟨t - 1, by omega⟩
  exact nI_pred k
theorem riB_lt {I : Mi} {a i t : Nat} (h4 : I (a + 4) i = 4) (ht : I (a + 7) i = nI (t + 2)) (h9 : t < 9) : riB a i I = up I (a + 7) i (nI (t + 1)) := by
  unfold riB
  rw [if_pos h4, ucs, ht, nI_dec (by omega), if_pos (show (0 : Int32) < nI (t + 2 - 1) by rw [← nI_0]; exact nI_lt (by omega) (by omega))]
  rfl
theorem riB_end {I : Mi} {a i : Nat} (h4 : I (a + 4) i = 4) (ht : I (a + 7) i = nI 1) : riB a i I = endRC (up I (a + 7) i (nI 0)) a i := by
  unfold riB
  rw [if_pos h4, ucs, ht, nI_dec (by omega), if_neg (by rw [← nI_0]; exact nI_nlt (by omega) (by omega))]
theorem riB_no {I : Mi} {a i : Nat} (h4 : I (a + 4) i ≠ 4) : riB a i I = I := if_neg h4
theorem ri1_lt {J : Mi} {i t : Nat} (h4 : pt J i 7 = 4) (ht : pt J i 8 = nI (t + 2)) (h9 : t < 9) : ri1 i J = sp J i 8 (nI (t + 1)) := by
  unfold ri1
  rw [if_pos (by simp [h4]), ptp, ht, nI_dec (by omega), if_neg (nI_ne0 (by omega) (by omega))]
  rfl
theorem ri1_end {J : Mi} {i : Nat} (h4 : pt J i 7 = 4) (ht : pt J i 8 = nI 1) : ri1 i J = sp (sp (sp J i 8 (nI 0)) i 7 0) i 4 (if pt J i 1 = 1 then pt J i 5 else pt J i 4) := by
  unfold ri1
  rw [if_pos (by simp [h4]), ptp, ht, nI_dec (by omega), if_pos (by decide)]
  simp only [um1, um2, um3, um4, um5, um6, um7, um8, um9, um0, Nat.reduceEqDiff, Nat.reduceLT, Nat.reduceLeDiff, reduceIte, and_false, false_and, and_true, true_and, and_self, ne_eq, not_false_eq_true, not_true_eq_false, *]
theorem ri1_no {J : Mi} {i : Nat} (h4 : pt J i 7 ≠ 4) : ri1 i J = J := by
  unfold ri1
  rw [if_neg (by simp [h4])]
theorem endRC_S (I : Mi) (a i : Nat) : CSx (endRC (up I (a + 7) i (nI 0)) a i) a I i 0 (nI 0) ∧ CQ (endRC (up I (a + 7) i (nI 0)) a i) I a := by
  unfold endRC
  dsimp only
  refine ⟨?_, ?_⟩
  · split
    · refine ⟨⟨?_, ?_, ?_⟩, fun j hj => ⟨?_, ?_, ?_⟩, ⟨?_, ?_⟩, fun j hj hji => ⟨?_, ?_⟩⟩ <;> simp only [uc1, uc2, uc3, uc4, Nat.reduceEqDiff, Nat.reduceLT, Nat.reduceLeDiff, reduceIte, and_false, false_and, and_true, true_and, and_self, ne_eq, not_false_eq_true, not_true_eq_false, Nat.zero_lt_succ, *]
    · refine ⟨⟨?_, ?_, ?_⟩, fun j hj => ⟨?_, ?_, ?_⟩, ⟨?_, ?_⟩, fun j hj hji => ⟨?_, ?_⟩⟩ <;> simp only [uc1, uc2, uc3, uc4, Nat.reduceEqDiff, Nat.reduceLT, Nat.reduceLeDiff, reduceIte, and_false, false_and, and_true, true_and, and_self, ne_eq, not_false_eq_true, not_true_eq_false, Nat.zero_lt_succ, *]
  · split
    · refine ⟨?_, fun j hj => ?_⟩ <;> simp only [uc1, uc2, uc3, uc4, Nat.reduceEqDiff, Nat.reduceLT, Nat.reduceLeDiff, reduceIte, and_false, false_and, and_true, true_and, and_self, ne_eq, not_false_eq_true, not_true_eq_false, Nat.zero_lt_succ, *]
    · refine ⟨?_, fun j hj => ?_⟩ <;> simp only [uc1, uc2, uc3, uc4, Nat.reduceEqDiff, Nat.reduceLT, Nat.reduceLeDiff, reduceIte, and_false, false_and, and_true, true_and, and_self, ne_eq, not_false_eq_true, not_true_eq_false, Nat.zero_lt_succ, *]
theorem RS_ri {I J : Mi} {a n w i : Nat} (h : RS I a (J 128) n w) (hi : i < n) : RS (riB a i I) a (ri1 i J 128) n w := by
  have hs := h.1.2.2.1 i hi
  have hi8 : i < 8 := Nat.lt_of_lt_of_le hi h.1.1
  have e4 : I (a + 4) i = pt J i 7 := hs.1.2.2.2.1
  have e7 : I (a + 7) i = pt J i 8 := hs.1.2.2.2.2
  obtain ⟨t, ht9, ht, ht4, -⟩ := hs.2.2.1
  by_cases c : I (a + 4) i = 4
  · have t1 := ht4 c
    have c3 : I (a + 4) i ≠ 3 := by rw [c]; decide
    rcases Nat.lt_or_ge 1 t with q | q
    · obtain ⟨u, rfl⟩ : ∃ u, t = u + 2 := ⟨t - 2, by omega⟩
      rw [riB_lt c ht (by omega), ri1_lt (by rw [← e4, c]) (by rw [← e7, ht]) (by omega)]
      refine ⟨RB_st (i := i) (x := 4) (t := u + 1) ⟨⟨?_, ?_, ?_⟩, fun j hj => ⟨?_, ?_, ?_⟩, ⟨?_, ?_⟩, fun j hj hji => ⟨?_, ?_⟩⟩ ⟨⟨?_, ?_, ?_⟩, fun j hj => ⟨?_, ?_, ?_⟩, ⟨?_, ?_⟩, fun j hj hji => ⟨?_, ?_⟩⟩ h.1 hi (by omega) (fun _ => by omega) (fun z => absurd rfl z), RQ_st (i := i) h.1.1 ⟨?_, fun k hk => ?_⟩ ⟨?_, fun k hk => ?_⟩ (fun j hj hji => ?_) c3 h.2⟩
      all_goals first | (simp only [uc1, uc2, uc3, uc4, Nat.reduceEqDiff, Nat.reduceLT, Nat.reduceLeDiff, reduceIte, and_false, false_and, and_true, true_and, and_self, ne_eq, not_false_eq_true, not_true_eq_false, Nat.zero_lt_succ, *]; done) | (simp only [um1, um2, um3, um4, um5, um6, um7, um8, um9, um0, Nat.reduceEqDiff, Nat.reduceLT, Nat.reduceLeDiff, reduceIte, and_false, false_and, and_true, true_and, and_self, ne_eq, not_false_eq_true, not_true_eq_false, *]; done) | (rw [uc1, if_neg (by omega)]; exact c) | (show up J 128 _ _ 128 _ = _; rw [um1 _ _ _ _ _ _ (by omega) (by omega), if_neg (by omega)]; exact e4.symm.trans c)
    · obtain rfl : t = 1 := by omega
      rw [riB_end c ht, ri1_end (by rw [← e4, c]) (by rw [← e7, ht])]
      obtain ⟨c1, c2⟩ := endRC_S I a i
      refine ⟨RB_st (i := i) (x := 0) (t := 0) c1 ⟨⟨?_, ?_, ?_⟩, fun j hj => ⟨?_, ?_, ?_⟩, ⟨?_, ?_⟩, fun j hj hji => ⟨?_, ?_⟩⟩ h.1 hi (by omega) (fun z => absurd z (by decide)) (fun _ => rfl), RQ_st (i := i) h.1.1 c2 ⟨?_, fun k hk => ?_⟩ (fun j hj hji => (c1.2.2.2 j hj hji).1) c3 h.2⟩
      all_goals simp only [um1, um2, um3, um4, um5, um6, um7, um8, um9, um0, Nat.reduceEqDiff, Nat.reduceLT, Nat.reduceLeDiff, reduceIte, and_false, false_and, and_true, true_and, and_self, ne_eq, not_false_eq_true, not_true_eq_false, *]
  · rw [riB_no c, ri1_no (by rw [← e4]; exact c)]
    exact h
theorem riB_abs {I : Mi} {a i : Nat} (h : AI I a i) : riB a i I = I := riB_no (by rw [h.1]; decide)
theorem endRC_V (I : Mi) (a i : Nat) : CVx (endRC (up I (a + 7) i (nI 0)) a i) a I i (if isI (I a 2) (nI i) = true then I (a + 6) i else I (a + 5) i) (I (a + 6) i) ∧ endRC (up I (a + 7) i (nI 0)) a i a 16 = I a 16 := by
  unfold endRC
  dsimp only
  rw [uc2 _ a 4 i 2 0 (by omega), uc2 _ a 7 i 2 (nI 0) (by omega)]
  by_cases c1 : isI (I a 2) (nI i) = true
  · simp only [if_pos c1]
    refine ⟨⟨⟨?_, ?_, ?_, ?_⟩, fun j hj => ?_, ⟨?_, ?_⟩, fun j hj hji => ⟨?_, ?_⟩⟩, ?_⟩ <;> simp only [uc1, uc2, uc3, uc4, Nat.reduceEqDiff, Nat.reduceLT, Nat.reduceLeDiff, reduceIte, and_false, false_and, and_true, true_and, and_self, ne_eq, not_false_eq_true, not_true_eq_false, Nat.zero_lt_succ, *]
  · simp only [if_neg c1]
    refine ⟨⟨⟨?_, ?_, ?_, ?_⟩, fun j hj => ?_, ⟨?_, ?_⟩, fun j hj hji => ⟨?_, ?_⟩⟩, ?_⟩ <;> simp only [uc1, uc2, uc3, uc4, Nat.reduceEqDiff, Nat.reduceLT, Nat.reduceLeDiff, reduceIte, and_false, false_and, and_true, true_and, and_self, ne_eq, not_false_eq_true, not_true_eq_false, Nat.zero_lt_succ, *]
theorem up_CV (I : Mi) (a i : Nat) (v : Int32) : CVx (up I (a + 7) i v) a I i (I (a + 5) i) (I (a + 6) i) ∧ up I (a + 7) i v a 16 = I a 16 := by
  refine ⟨⟨⟨?_, ?_, ?_, ?_⟩, fun j hj => ?_, ⟨?_, ?_⟩, fun j hj hji => ⟨?_, ?_⟩⟩, ?_⟩ <;> simp only [uc1, uc2, uc3, uc4, Nat.reduceEqDiff, Nat.reduceLT, Nat.reduceLeDiff, reduceIte, and_false, false_and, and_true, true_and, and_self, ne_eq, not_false_eq_true, not_true_eq_false, Nat.zero_lt_succ, *]
theorem sp8_KV (J : Mi) (i : Nat) (v : Int32) : KVx (sp J i 8 v 128) (J 128) i (pt J i 4) (pt J i 5) ∧ sp J i 8 v 128 5 = J 128 5 := by
  refine ⟨⟨⟨?_, ?_, ?_⟩, fun j hj => ⟨?_, ?_, ?_⟩, ⟨?_, ?_⟩, fun j hj hji => ⟨?_, ?_⟩⟩, ?_⟩ <;> simp only [um1, um2, um3, um4, um5, um6, um7, um8, um9, um0, Nat.reduceEqDiff, Nat.reduceLT, Nat.reduceLeDiff, reduceIte, and_false, false_and, and_true, true_and, and_self, ne_eq, not_false_eq_true, not_true_eq_false, *]
theorem RR_ri {I J : Mi} {a n w i : Nat} (h : RR I a (J 128) n w) (hi : i < n) : RR (riB a i I) a (ri1 i J 128) n w := by
  refine ⟨RS_ri h.1 hi, ?_⟩
  have hs := h.1.1.2.2.1 i hi
  have h8 := h.1.1.1
  have hi8 : i < 8 := Nat.lt_of_lt_of_le hi h8
  have e4 : I (a + 4) i = pt J i 7 := hs.1.2.2.2.1
  have e7 : I (a + 7) i = pt J i 8 := hs.1.2.2.2.2
  obtain ⟨t, ht9, ht, ht4, -⟩ := hs.2.2.1
  obtain ⟨⟨v1, v2⟩, ⟨v3, v4, v5⟩, v6, v7⟩ := h.2.2.1 i hi
  have v3 : I (a + 5) i = pt J i 4 := v3
  have v4 : I (a + 6) i = pt J i 5 := v4
  have v2 : pt J i 1 = bi (bt (I a 2) i) := v2
  have el : I a 16 = J 128 5 := h.2.1.2.1
  by_cases c : I (a + 4) i = 4
  · have t1 := ht4 c
    rcases Nat.lt_or_ge 1 t with q | q
    · obtain ⟨u, rfl⟩ : ∃ u, t = u + 2 := ⟨t - 2, by omega⟩
      rw [riB_lt c ht (by omega), ri1_lt (by rw [← e4, c]) (by rw [← e7, ht]) (by omega)]
      obtain ⟨c1, c2⟩ := up_CV I a i (nI (u + 1))
      obtain ⟨m1, m2⟩ := sp8_KV J i (nI (u + 1))
      rw [← v3, ← v4] at m1
      exact RV_st h8 c1 m1 (by rw [c2, m2, el]) h.2 hi v6 v7
    · obtain rfl : t = 1 := by omega
      rw [riB_end c ht, ri1_end (by rw [← e4, c]) (by rw [← e7, ht])]
      obtain ⟨c1, c2⟩ := endRC_V I a i
      rw [isI_bt _ (by omega)] at c1
      rw [v2, bi_if, ← v3, ← v4]
      refine RV_st h8 c1 ⟨⟨?_, ?_, ?_⟩, fun j hj => ⟨?_, ?_, ?_⟩, ⟨?_, ?_⟩, fun j hj hji => ⟨?_, ?_⟩⟩ ?_ h.2 hi (by split; exact v7; exact v6) v7
      all_goals first | (rw [c2, el]; clear e4 e7 v3 v4 v5 v2; simp only [um1, um2, um3, um4, um5, um6, um7, um8, um9, um0, Nat.reduceEqDiff, Nat.reduceLT, Nat.reduceLeDiff, reduceIte, and_false, false_and, and_true, true_and, and_self, ne_eq, not_false_eq_true, not_true_eq_false, *]; done) | (clear e4 e7 v3 v5 v2; simp only [um1, um2, um3, um4, um5, um6, um7, um8, um9, um0, Nat.reduceEqDiff, Nat.reduceLT, Nat.reduceLeDiff, reduceIte, and_false, false_and, and_true, true_and, and_self, ne_eq, not_false_eq_true, not_true_eq_false, *]; done)
  · rw [riB_no c, ri1_no (by rw [← e4]; exact c)]
    exact h.2
theorem RS_rise {I J : Mi} {a n w : Nat} (h : RS I a (J 128) n w) : RS (riseC I a) a (riM J n 128) n w :=
  show RS (lp (riB a) 8 I) a ((lp ri1 n J) 128) n w from loop8 (f := riB a) (g := ri1) (P := fun x y => RS x a (y 128) n w) h.1.1 (fun i x y hi q => RS_ri q hi) (fun i x y h1 h2 q => riB_abs (q.1.2.2.2 i h1 h2)) h
theorem RR_rise {I J : Mi} {a n w : Nat} (h : RR I a (J 128) n w) : RR (riseC I a) a (riM J n 128) n w :=
  show RR (lp (riB a) 8 I) a ((lp ri1 n J) 128) n w from loop8 (f := riB a) (g := ri1) (P := fun x y => RR x a (y 128) n w) h.1.1.1 (fun i x y hi q => RR_ri q hi) (fun i x y h1 h2 q => riB_abs (q.1.1.2.2.2 i h1 h2)) h
