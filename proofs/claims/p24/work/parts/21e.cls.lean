/-! the class and the reference's picture: each call's answer and what it leaves -/
theorem HB.r {F : Mr} {h : Nat → Nat} (hb : HB F h) {j : Nat} (hj : j < 6) : 39 ≤ h j ∧ h j ≤ 94 := by
  rcases (hb j hj).2 with e | e | e | e | e | e <;> omega
theorem recI_fr {I : Mi} {F : Mr} {h : Nat → Nat} {k : Nat} (hb : HB F h) (hk : k ≤ 6) {x : Nat} (hx : x < 37 ∨ 104 < x) : recI I h k 1 x = I x := by
  unfold recI
  split
  · have hr := hb.r (show k < 6 by omega)
    rw [up_ne (by omega), copyC_ne (by omega)]
  · have hr := hb.r (show 0 < 6 by omega)
    rw [up_ne (by omega), copyC_ne (by omega), up_ne (by omega)]
theorem recI_37 (I : Mi) (h : Nat → Nat) {k : Nat} (hk : k ≤ 6) : recI I h k 1 37 1 = nI (if k < 6 then k + 1 else 6) := by
  unfold recI
  split
  · rw [uc4, if_pos rfl]
  · rw [uc4, if_pos rfl]; rfl
theorem NW0_ag {I2 I : Mi} {a n w b : Nat} {K2 K : Kr} (hC : (∀ f, f ≠ 13 → f ≠ 14 → I2 a f = I a f) ∧ ∀ c, 1 ≤ c → c ≤ 9 → ∀ i, i < 8 → I2 (a + c) i = I (a + c) i) (hK : ∀ y, 2 ≤ y → y < 96 → K2 y = K y) (h : NW0 I a K n w b) : NW0 I2 a K2 n w b := by
  obtain ⟨⟨h8, ⟨a0, a1⟩, hS, hA⟩, ⟨hw, ⟨b0, b1⟩, q, q1, q2⟩, ⟨v0, v1, v2, v3⟩, hV, hAV⟩ := h
  obtain ⟨c0, c1⟩ := hC
  refine ⟨⟨h8, ⟨by rw [c0 0 (by omega) (by omega), a0], by rw [hK 2 (by omega) (by omega), a1]⟩, fun i hi => ?_, fun i h1 h2 => ?_⟩, ⟨hw, ⟨by rw [c0 12 (by omega) (by omega), b0], by rw [hK 7 (by omega) (by omega), b1]⟩, q, fun k hk => ?_, q2⟩, ⟨by rw [c0 15 (by omega) (by omega), hK 3 (by omega) (by omega), v0], by rw [c0 16 (by omega) (by omega), hK 5 (by omega) (by omega), v1], by rw [c0 17 (by omega) (by omega), hK 6 (by omega) (by omega), v2], ?_⟩, fun i hi => ?_, fun i h1 h2 => ?_⟩
  · have hi8 : i < 8 := by omega
    have s := hS i hi
    unfold SI at s ⊢
    rw [c1 1 (by omega) (by omega) i hi8, c1 2 (by omega) (by omega) i hi8, c1 3 (by omega) (by omega) i hi8, c1 4 (by omega) (by omega) i hi8, c1 7 (by omega) (by omega) i hi8, hK _ (by omega) (by omega), hK _ (by omega) (by omega), hK _ (by omega) (by omega), hK _ (by omega) (by omega), hK _ (by omega) (by omega)]
    exact s
  · have s := hA i h1 h2
    unfold AI at s ⊢
    rw [c1 4 (by omega) (by omega) i h2, c1 3 (by omega) (by omega) i h2, c1 7 (by omega) (by omega) i h2]
    exact s
  · obtain ⟨z0, z1, z2, z3, z4⟩ := q1 k hk
    exact ⟨z0, z1, by rw [c1 9 (by omega) (by omega) k z0, z2], by rw [hK _ (by omega) (by omega), z3], by rw [c1 4 (by omega) (by omega) _ (by omega), z4]⟩
  · rw [hK 4 (by omega) (by omega), ← v3, sumC_sm, sumC_sm]
    exact sm_congr (fun i hi => c1 8 (by omega) (by omega) i hi)
  · have hi8 : i < 8 := by omega
    have s := hV i hi
    unfold VI at s ⊢
    rw [c1 5 (by omega) (by omega) i hi8, c1 6 (by omega) (by omega) i hi8, c1 8 (by omega) (by omega) i hi8, c0 1 (by omega) (by omega), c0 2 (by omega) (by omega), hK _ (by omega) (by omega), hK _ (by omega) (by omega), hK _ (by omega) (by omega), hK _ (by omega) (by omega), hK _ (by omega) (by omega)]
    exact s
  · have s := hAV i h1 h2
    unfold AV at s ⊢
    rw [c1 5 (by omega) (by omega) i h2, c1 6 (by omega) (by omega) i h2, c1 8 (by omega) (by omega) i h2, c0 1 (by omega) (by omega), c0 2 (by omega) (by omega)]
    exact s
theorem RR_set0 {X Y : Mi} {n w : Nat} {y : Int32} (h : RR X 1 (Y 128) n w) : RR (up X 1 13 y) 1 (up Y 128 0 y 128) n w := by
  refine (NW0_ag ⟨fun f h1 h2 => by rw [uc4, if_neg h1], fun c c1 c9 i hi => by rw [up_ne (by omega)]⟩ (fun z h1 h2 => by rw [uc4, if_neg (by omega)]) (NW0_of h)).to ?_ ?_
  · rw [uc4, if_pos rfl, uc4, if_pos rfl]
  · rw [uc4, if_neg (by omega), uc4, if_neg (by omega)]; exact h.1.1.2.1.2.2.2
theorem RR_set1 {X Y : Mi} {n w : Nat} {y : Int32} (h : RR X 1 (Y 128) n w) : RR (up X 1 14 y) 1 (up Y 128 1 y 128) n w := by
  refine (NW0_ag ⟨fun f h1 h2 => by rw [uc4, if_neg h2], fun c c1 c9 i hi => by rw [up_ne (by omega)]⟩ (fun z h1 h2 => by rw [uc4, if_neg (by omega)]) (NW0_of h)).to ?_ ?_
  · rw [uc4, if_neg (by omega), uc4, if_neg (by omega)]; exact h.1.1.2.1.2.2.1
  · rw [uc4, if_pos rfl, uc4, if_pos rfl]
theorem has_cases {I J : Mi} {n w : Nat} (h : RS I 1 (J 128) n w) (x : Int32) : (∃ i, i < n ∧ x = nI i ∧ hasC I 1 x = true ∧ isIM J x = true) ∨ (hasC I 1 x = false ∧ isIM J x = false) := by
  have h8 := h.1.1
  have e1 : I 1 0 = nI n := h.1.2.1.1
  have e2 : J 128 2 = nI n := h.1.2.1.2.1
  have yes : ∀ i, i < n → hasC I 1 (nI i) = true ∧ isIM J (nI i) = true := fun i hi => by
    unfold hasC isIM isW
    rw [e1, e2, isP_n (by omega)]
    refine ⟨?_, ?_⟩
    · simp only [Bool.true_and, decide_eq_true_eq]
      exact nI_ge hi (by omega)
    · rw [nI_dec (by omega)]
      simp only [Bool.and_eq_true, decide_eq_true_eq]
      exact ⟨nI_pos (by omega), nI_nlt (by omega) (by omega)⟩
  by_cases g : hasC I 1 x = true
  · have g' := g
    unfold hasC isP at g
    simp only [Bool.and_eq_true, decide_eq_true_eq] at g
    obtain ⟨j, hj, rfl⟩ := nI_of g.1.1
    rw [e1] at g
    have hjn : j < n := by
      rcases Nat.lt_or_ge j n with q | q
      · exact q
      · exact absurd (nI_le q hj) g.2
    exact Or.inl ⟨j, hjn, rfl, g', (yes j hjn).2⟩
  · by_cases g2 : isIM J x = true
    · have g3 := g2
      unfold isIM at g3
      rw [e2] at g3
      obtain ⟨j, hj, rfl⟩ := isW_nI h8 g3
      exact absurd (yes j hj).1 g
    · exact Or.inr ⟨by simpa using g, by simpa using g2⟩
theorem isW_19 {r : Int32} (h : isW r 1 9 = true) : ∃ z, 1 ≤ z ∧ z ≤ 9 ∧ r = nI z := by
  unfold isW at h
  simp only [Bool.and_eq_true, decide_eq_true_eq] at h
  have h0 : ¬ r < 0 := fun z => h.1 (Int32.lt_trans z (by decide))
  obtain ⟨j, hj, rfl⟩ := nI_of h0
  refine ⟨j, ?_, ?_, rfl⟩
  · rcases Nat.lt_or_ge j 1 with q | q
    · exact absurd (show nI j < 1 from nI_lt (b := 1) q (by omega)) h.1
    · exact q
  · rcases Nat.lt_or_ge 9 j with q | q
    · exact absurd (show (9 : Int32) < nI j from nI_lt (a := 9) q hj) h.2
    · exact q
theorem RR_rd {X Y : Mi} {n w i : Nat} {v : Int32} (h : RR X 1 (Y 128) n w) (hi : i < n) (hv : ∀ j, n ≤ j → j < 8 → bt v j = false) : RR (up X (1 + 3) i v) 1 (sp Y i 6 v 128) n w := by
  have h8 := h.1.1.1
  obtain ⟨⟨⟨-, ⟨a0, a1, a2, a3⟩, hS, hA⟩, hw, ⟨b0, b1⟩, q, hq⟩, hV⟩ := h
  have ek : ∀ y, y ≠ 16 + 10 * i + 6 → sp Y i 6 v 128 y = Y 128 y := fun y hy => spo hy
  have e0 : up X (1 + 3) i v 1 = X 1 := up_ne (by omega)
  have er : ∀ c, c ≠ 3 → up X (1 + 3) i v (1 + c) = X (1 + c) := fun c hc => up_ne (by omega)
  refine ⟨⟨⟨h8, ⟨by rw [e0, a0], by rw [ek 2 (by omega), a1], by rw [e0, ek 0 (by omega), a2], by rw [e0, ek 1 (by omega), a3]⟩, fun j hj => ?_, fun j h1 h2 => ?_⟩, hw, ⟨by rw [e0, b0], by rw [ek 7 (by omega), b1]⟩, q, fun k hk => ?_, hq.2⟩, RV_same h8 ⟨⟨by rw [e0], by rw [e0], by rw [e0], by rw [e0], by rw [e0]⟩, fun j hj => ⟨by rw [er 5 (by omega)], by rw [er 6 (by omega)], by rw [er 8 (by omega)]⟩⟩ ⟨⟨ek 3 (by omega), ek 4 (by omega), ek 5 (by omega), ek 6 (by omega)⟩, fun j hj => ⟨ek _ (by omega), ek _ (by omega), ek _ (by omega), ek _ (by omega), ek _ (by omega)⟩⟩ hV⟩
  · have s := hS j hj
    unfold SI at s ⊢
    rw [er 1 (by omega), er 2 (by omega), er 4 (by omega), er 7 (by omega), ek (16 + 10 * j + 2) (by omega), ek (16 + 10 * j + 3) (by omega), ek (16 + 10 * j + 7) (by omega), ek (16 + 10 * j + 8) (by omega)]
    by_cases e : j = i
    · subst e
      rw [uc4, if_pos rfl, show sp Y j 6 v 128 (16 + 10 * j + 6) = v from ptp Y j 6 v]
      exact ⟨⟨s.1.1, s.1.2.1, rfl, s.1.2.2.2⟩, s.2.1, s.2.2.1, hv⟩
    · rw [uc4, if_neg e, ek (16 + 10 * j + 6) (by omega)]
      exact s
  · have s := hA j h1 h2
    unfold AI at s ⊢
    rw [er 4 (by omega), er 7 (by omega), uc4, if_neg (by omega)]
    exact s
  · obtain ⟨z0, z1, z2, z3, z4⟩ := hq.1 k hk
    exact ⟨z0, z1, by rw [er 9 (by omega), z2], by rw [ek _ (by omega), z3], by rw [er 4 (by omega), z4]⟩
theorem RR_val {X Y : Mi} {n w i : Nat} {v : Int32} (h : RR X 1 (Y 128) n w) (hi : i < n) (hv : ∃ z, z < 256 ∧ v = nI z) : RR (up X (1 + 5) i v) 1 (sp Y i 4 v 128) n w := by
  have h8 := h.1.1.1
  have ek : ∀ y, y ≠ 16 + 10 * i + 4 → sp Y i 4 v 128 y = Y 128 y := fun y hy => spo hy
  have e0 : up X (1 + 5) i v 1 = X 1 := up_ne (by omega)
  have er : ∀ c, c ≠ 5 → up X (1 + 5) i v (1 + c) = X (1 + c) := fun c hc => up_ne (by omega)
  have s := h.2.2.1 i hi
  have e4 := h.2.1
  refine ⟨RS_q ⟨⟨by rw [e0], by rw [e0], by rw [e0]⟩, fun j hj => ⟨by rw [er 1 (by omega)], by rw [er 2 (by omega)], by rw [er 3 (by omega)], by rw [er 4 (by omega)], by rw [er 7 (by omega)]⟩⟩ ⟨⟨ek 0 (by omega), ek 1 (by omega), ek 2 (by omega)⟩, fun j hj => ⟨ek _ (by omega), ek _ (by omega), ek _ (by omega), ek _ (by omega), ek _ (by omega)⟩⟩ ⟨by rw [e0], fun k hk => by rw [er 9 (by omega)]⟩ ⟨ek 7 (by omega), fun k hk => ek _ (by omega)⟩ h.1, RV_st (i := i) (x := v) (y := X (1 + 6) i) h8 ⟨⟨by rw [e0], by rw [e0], by rw [e0], by rw [e0]⟩, fun j hj => by rw [er 8 (by omega)], ⟨by rw [uc4, if_pos rfl], by rw [er 6 (by omega)]⟩, fun j hj hji => ⟨by rw [uc4, if_neg hji], by rw [er 6 (by omega)]⟩⟩ ⟨⟨ek 3 (by omega), ek 4 (by omega), ek 6 (by omega)⟩, fun j hj => ⟨ek _ (by omega), ek _ (by omega), ek _ (by omega)⟩, ⟨ptp Y i 4 v, by rw [ek _ (by omega)]; exact s.2.1.2.1.symm⟩, fun j hj hji => ⟨ek _ (by omega), ek _ (by omega)⟩⟩ (by rw [e0, ek 5 (by omega)]; exact e4.2.1) h.2 hi hv s.2.2.2⟩
theorem RR_fall1 {X Y : Mi} {n w i : Nat} (a : Nat) (h : RR X a (Y 128) n w) (hi : i < n) (h0 : X (a + 4) i = 0) : RR (up X (a + 4) i 1) a (sp Y i 7 1 128) n w := by
  have h8 := h.1.1.1
  have ek : ∀ y, y ≠ 16 + 10 * i + 7 → sp Y i 7 1 128 y = Y 128 y := fun y hy => spo hy
  have e0 : up X (a + 4) i 1 a = X a := up_ne (by omega)
  have er : ∀ c, c ≠ 4 → up X (a + 4) i 1 (a + c) = X (a + c) := fun c hc => up_ne (by omega)
  have s := h.1.1.2.2.1 i hi
  have l0 := s.left0 (by rw [h0]; decide)
  have l1 : Y 128 (16 + 10 * i + 8) = nI 0 := s.1.2.2.2.2.symm.trans l0
  refine ⟨⟨RB_st (i := i) (x := 1) (t := 0) ⟨⟨by rw [e0], by rw [e0], by rw [e0]⟩, fun j hj => ⟨by rw [er 1 (by omega)], by rw [er 2 (by omega)], by rw [er 3 (by omega)]⟩, ⟨by rw [uc4, if_pos rfl], by rw [er 7 (by omega), l0]⟩, fun j hj hji => ⟨by rw [uc4, if_neg hji], by rw [er 7 (by omega)]⟩⟩ ⟨⟨ek 0 (by omega), ek 1 (by omega), ek 2 (by omega)⟩, fun j hj => ⟨ek _ (by omega), ek _ (by omega), ek _ (by omega)⟩, ⟨ptp Y i 7 1, by rw [ek _ (by omega), l1]⟩, fun j hj hji => ⟨ek _ (by omega), ek _ (by omega)⟩⟩ h.1.1 hi (by omega) (fun z => absurd z (by decide)) (fun _ => rfl), RQ_st (i := i) h8 ⟨by rw [e0], fun k hk => by rw [er 9 (by omega)]⟩ ⟨ek 7 (by omega), fun k hk => ek _ (by omega)⟩ (fun j hj hji => by rw [uc4, if_neg hji]) (by rw [h0]; decide) h.1.2⟩, RV_same h8 ⟨⟨by rw [e0], by rw [e0], by rw [e0], by rw [e0], by rw [e0]⟩, fun j hj => ⟨by rw [er 5 (by omega)], by rw [er 6 (by omega)], by rw [er 8 (by omega)]⟩⟩ ⟨⟨ek 3 (by omega), ek 4 (by omega), ek 5 (by omega), ek 6 (by omega)⟩, fun j hj => ⟨ek _ (by omega), ek _ (by omega), ek _ (by omega), ek _ (by omega), ek _ (by omega)⟩⟩ h.2⟩
theorem RS_set {I J : Mi} {a n w : Nat} (h : RS I a (J 128) n w) {x : Int32} (hx : x ≠ -1) : setC I a x = setM J n x := by
  rw [setC_un, setM_un, un_more h.1.1 (fun i h1 h2 => by rw [(h.1.2.2.2 i h1 h2).1]; exact decide_eq_false (fun z => hx z.symm))]
  exact un_congr (fun i hi => by rw [(h.1.2.2.1 i hi).1.2.2.2.1])
theorem RS_reads {I J : Mi} {a n w i : Nat} (h : RS I a (J 128) n w) (hi : i < 8) : readC I a (nI i) = rdsM J n (nI i) := by
  rw [readC_un, rdsM_un, un_more h.1.1 (fun j h1 h2 => by rw [(h.1.2.2.2 j h1 h2).2.1, isI_bt _ (by omega)]; exact bt_0 i)]
  exact un_congr (fun j hj => by rw [isI_bt _ (by omega), rdM_bt _ _ (by omega), (h.1.2.2.1 j hj).1.2.2.1])
theorem bc_and (c d : Nat → Bool) (n : Nat) (hn : n ≤ 8) : bcJ (un c n &&& un d n) = bitM (un c n &&& un d n) := by
  obtain ⟨m, hm, em⟩ := un_lt d n hn
  have hp : 2 ^ n ≤ 2 ^ 8 := Nat.pow_le_pow_right (by decide) hn
  have hm' : m < 256 := Nat.lt_of_lt_of_le hm hp
  rw [em]
  obtain ⟨v, hv, ev⟩ := and_lt (x := un c n) hm'
  rw [ev]
  exact bc_bit v hv
theorem isW_255 {r : Int32} (h : isW r 0 255 = true) : ∃ z, z < 256 ∧ r = nI z := by
  unfold isW at h
  simp only [Bool.and_eq_true, decide_eq_true_eq] at h
  obtain ⟨j, hj, rfl⟩ := nI_of h.1
  refine ⟨j, ?_, rfl⟩
  rcases Nat.lt_or_ge 255 j with q | q
  · exact absurd (show (255 : Int32) < nI j from nI_lt (a := 255) q hj) h.2
  · omega
theorem isW_200 {r : Int32} {m : Nat} {M : Int32} (hM : M = nI m) (hm : m ≤ 200) {b : Int32} (hb : (0 : Int32) ≤ b) (h : isW r b M = true) : ∃ z, z ≤ m ∧ r = nI z := by
  unfold isW at h
  simp only [Bool.and_eq_true, decide_eq_true_eq] at h
  have h0 : ¬ r < 0 := fun z => h.1 (Int32.lt_of_lt_of_le z hb)
  obtain ⟨j, hj, rfl⟩ := nI_of h0
  refine ⟨j, ?_, rfl⟩
  rcases Nat.lt_or_ge m j with q | q
  · exact absurd (show M < nI j by rw [hM]; exact nI_lt q hj) h.2
  · omega
theorem swf_congr {α : Type} {n : Int} {v : Int32} {f g : Nat → α} {d : α} (h : ∀ z : Nat, (z : Int) ≤ n → f z = g z) : swf n v f d = swf n v g d := by
  unfold swf
  by_cases c : v.toInt < 0 ∨ n < v.toInt
  · rw [if_pos c, if_pos c]
  · rw [if_neg c, if_neg c]
    exact h _ (by omega)
theorem pq_at {I : Mi} {a w : Nat} {x : Int32} {k : Nat} (hw : w ≤ 8) (h12 : I a 12 = nI w) (hk : k < w) (hx : I (a + 9) k = x) (hu : ∀ j, j < k → I (a + 9) j ≠ x) : ∀ n i, i ≤ k → i + n = 8 → pqC I a x n i = nI k
  | 0, i, h1, h2 => by omega
  | n + 1, i, h1, h2 => by
    unfold pqC
    rw [h12, if_neg (nI_ge (show i < w by omega) (by omega))]
    by_cases e : i = k
    · rw [e, if_pos hx]
    · rw [if_neg (hu i (by omega))]
      exact pq_at hw h12 hk hx hu n (i + 1) (by omega) (by omega)
theorem pq_no {I : Mi} {a w : Nat} {x : Int32} (hw : w ≤ 8) (h12 : I a 12 = nI w) (hu : ∀ j, j < w → I (a + 9) j ≠ x) : ∀ n i, i + n = 8 → pqC I a x n i = -6
  | 0, i, h2 => rfl
  | n + 1, i, h2 => by
    unfold pqC
    rw [h12]
    by_cases c : i < w
    · rw [if_neg (nI_ge c (by omega)), if_neg (hu i c)]
      exact pq_no hw h12 hu n (i + 1) (by omega)
    · rw [if_pos (nI_le (by omega) (by omega))]
theorem pl_at {I : Mi} {x : Int32} {k : Nat} (hx : I 128 (8 + k) = x) : ∀ w, (∀ j, j < w → j ≠ k → I 128 (8 + j) ≠ x) → k < w → plM I w x = nI k
  | 0, _, h => by omega
  | w + 1, hu, h => by
    show (if I 128 (8 + w) = x then nI w else plM I w x) = nI k
    by_cases e : w = k
    · rw [e, if_pos hx]
    · rw [if_neg (hu w (by omega) e)]
      exact pl_at hx w (fun j h1 h2 => hu j (by omega) h2) (by omega)
theorem pl_no {I : Mi} {x : Int32} : ∀ w, (∀ j, j < w → I 128 (8 + j) ≠ x) → plM I w x = -6
  | 0, _ => rfl
  | w + 1, hu => by
    show (if I 128 (8 + w) = x then nI w else plM I w x) = -6
    rw [if_neg (hu w (by omega))]
    exact pl_no w (fun j h1 => hu j (by omega))
theorem place_eq {I J : Mi} {a n w i : Nat} (h : RS I a (J 128) n w) (hi : i < n) : pqC I a (nI i) 8 0 = plM J w (nI i) := by
  have h8 := h.1.1
  obtain ⟨-, hw, ⟨b0, b1⟩, q, hq⟩ := h
  have hne : ∀ k j, k < w → q j = i → j < w → k ≠ j → q k ≠ i := fun k j h1 h2 h3 h4 e => h4 (hq.2 k j h1 h3 (e.trans h2.symm))
  have ne : ∀ x y : Nat, x < 8 → y < 8 → x ≠ y → nI x ≠ nI y := fun x y h1 h2 h3 z => h3 ((nI_eq (by omega) (by omega)).mp z)
  by_cases c : ∃ k, k < w ∧ q k = i
  · obtain ⟨k, hk, e⟩ := c
    obtain ⟨z0, z1, z2, z3, z4⟩ := hq.1 k hk
    rw [pq_at hw b0 hk (by rw [z2, e]) (fun j hj => by
      have hjw : j < w := by omega
      obtain ⟨y0, y1, y2, y3, y4⟩ := hq.1 j hjw
      rw [y2]
      exact ne _ _ (by omega) (by omega) (hne j k hjw e hk (by omega))) 8 0 (by omega) (by omega)]
    rw [pl_at (by rw [z3, e]) w (fun j hj hjk => by
      obtain ⟨y0, y1, y2, y3, y4⟩ := hq.1 j hj
      rw [y3]
      exact ne _ _ (by omega) (by omega) (hne j k hj e hk hjk)) hk]
  · have hn : ∀ j, j < w → q j ≠ i := fun j hj e => c ⟨j, hj, e⟩
    rw [pq_no hw b0 (fun j hj => by
      obtain ⟨y0, y1, y2, y3, y4⟩ := hq.1 j hj
      rw [y2]
      exact ne _ _ (by omega) (by omega) (hn j hj)) 8 0 (by omega), pl_no w (fun j hj => by
      obtain ⟨y0, y1, y2, y3, y4⟩ := hq.1 j hj
      rw [y3]
      exact ne _ _ (by omega) (by omega) (hn j hj))]
theorem of_eq {I J : Mi} {n w i : Nat} (h : RR I 1 (J 128) n w) (hi : i < n) (v : Int32) : xOf I i v = yOf J n w i v := by
  have h8 := h.1.1.1
  obtain ⟨⟨s1, s2, s3, s4, s5⟩, -, ⟨t, -, t1, -, t2⟩, -⟩ := h.1.1.2.2.1 i hi
  obtain ⟨⟨v1, v2⟩, ⟨v3, v4, v5⟩, -, -⟩ := h.2.2.1 i hi
  unfold xOf yOf
  refine swf_congr (fun z hz => ?_)
  rcases (show z = 0 ∨ z = 1 ∨ z = 2 ∨ z = 3 ∨ z = 4 ∨ z = 5 ∨ z = 6 ∨ z = 7 ∨ z = 8 ∨ z = 9 ∨ z = 10 ∨ z = 11 ∨ z = 12 by omega) with rfl | rfl | rfl | rfl | rfl | rfl | rfl | rfl | rfl | rfl | rfl | rfl | rfl
  · exact s4
  · exact v3
  · exact v4
  · show bi (isI (I 1 1) (nI i)) = pt J i 0
    rw [isI_bt _ (by omega)]; exact v1.symm
  · show bi (isI (I 1 2) (nI i)) = pt J i 1
    rw [isI_bt _ (by omega)]; exact v2.symm
  · exact s1
  · exact s2
  · exact s3
  · exact RS_reads h.1 (by omega)
  · exact (heard_sure h hi).2.1
  · show I (1 + 7) i = if decide (pt J i 7 = 4) = true then pt J i 8 else 0
    by_cases c : I (1 + 4) i = 4
    · rw [if_pos (decide_eq_true (s4.symm.trans c))]; exact s5
    · rw [if_neg (fun z => c (s4.trans (of_decide_eq_true z))), t1, t2 c]; rfl
  · exact place_eq h.1 hi
  · exact v5
theorem wait_eq {I J : Mi} {n w : Nat} (h : RS I 1 (J 128) n w) (x : Int32) : inqC I 1 x = yWait J x := by
  have h8 := h.1.1
  obtain ⟨-, hw, ⟨b0, b1⟩, q, hq⟩ := h
  unfold inqC yWait
  rw [b0, b1]
  by_cases c : ∃ k, k < w ∧ x = nI k
  · obtain ⟨k, hk, rfl⟩ := c
    obtain ⟨z0, z1, z2, z3, z4⟩ := hq.1 k hk
    rw [if_pos (isP_nI z0), if_neg (nI_ge hk (by omega)), ix_nI (by omega), z2, nI_dec (by omega), if_pos (show isW (nI k) 0 (nI (w - 1)) = true by
      unfold isW
      simp only [Bool.and_eq_true, decide_eq_true_eq]
      exact ⟨nI_pos (by omega), nI_nlt (by omega) (by omega)⟩), z3]
  · rw [if_neg (show ¬ isW x 0 (nI w - 1) = true from fun z => by
      obtain ⟨j, hj, e⟩ := isW_nI hw z
      exact c ⟨j, hj, e⟩)]
    by_cases g : isP x = true
    · rw [if_pos g]
      unfold isP at g
      simp only [Bool.and_eq_true, decide_eq_true_eq] at g
      obtain ⟨j, hj, rfl⟩ := nI_of g.1
      rw [if_pos (nI_le (show w ≤ j by
        rcases Nat.lt_or_ge j w with q | q
        · exact absurd ⟨j, q, rfl⟩ c
        · exact q) hj)]
    · rw [if_neg g]
theorem RR_g0 {X : Mi} {K K2 : Kr} {a n w : Nat} {v : Int32} (h : RR X a K n w) (hK : K2 6 = v ∧ ∀ y, y ≠ 6 → K2 y = K y) : RR (up X a 17 v) a K2 n w := by
  obtain ⟨hS, ⟨v0, v1, v2, v3⟩, hV, hA⟩ := h
  obtain ⟨k6, kk⟩ := hK
  have er : ∀ c, 0 < c → up X a 17 v (a + c) = X (a + c) := fun c hc => up_ne (by omega)
  refine ⟨RS_q ⟨⟨by rw [uc4, if_neg (by omega)], by rw [uc4, if_neg (by omega)], by rw [uc4, if_neg (by omega)]⟩, fun j hj => ⟨by rw [er 1 (by omega)], by rw [er 2 (by omega)], by rw [er 3 (by omega)], by rw [er 4 (by omega)], by rw [er 7 (by omega)]⟩⟩ ⟨⟨kk _ (by omega), kk _ (by omega), kk _ (by omega)⟩, fun j hj => ⟨kk _ (by omega), kk _ (by omega), kk _ (by omega), kk _ (by omega), kk _ (by omega)⟩⟩ ⟨by rw [uc4, if_neg (by omega)], fun k hk => by rw [er 9 (by omega)]⟩ ⟨kk _ (by omega), fun k hk => kk _ (by omega)⟩ hS, ⟨by rw [uc4, if_neg (by omega), kk 3 (by omega), v0], by rw [uc4, if_neg (by omega), kk 5 (by omega), v1], by rw [uc4, if_pos rfl, k6], ?_⟩, fun i hi => ?_, fun i h1 h2 => ?_⟩
  · rw [kk 4 (by omega), ← v3, sumC_sm, sumC_sm, er 8 (by omega)]
  · have s := hV i hi
    unfold VI at s ⊢
    rw [er 5 (by omega), er 6 (by omega), er 8 (by omega), uc4, if_neg (by omega), uc4, if_neg (by omega), kk _ (by omega), kk _ (by omega), kk _ (by omega), kk _ (by omega), kk _ (by omega)]
    exact s
  · have s := hA i h1 h2
    unfold AV at s ⊢
    rw [er 5 (by omega), er 6 (by omega), er 8 (by omega), uc4, if_neg (by omega), uc4, if_neg (by omega)]
    exact s
theorem RR_vals {I J : Mi} {a n w : Nat} (h : RR I a (J 128) n w) : sumC I (a + 5) = sumM J n := by
  show sm (I (a + 5)) 8 = sm (fun i => pt J i 4) n
  rw [sm_more h.1.1.1 (fun i h1 h2 => (h.2.2.2 i h1 h2).1)]
  exact sm_congr (fun i hi => (h.2.2.1 i hi).2.1.1)
theorem tuR_fr {x : Nat} (h : x < 12 ∨ 22 < x) : ∀ k t J, (tuR k t J).2 x = J x
  | 0, _, _ => rfl
  | k + 1, t, J => by
    unfold tuR
    split
    · rfl
    · split
      · rfl
      · rw [tuR_fr h k (t + 1), mvC_fr (by omega)]
theorem tuC_fr {I : Mi} {cur : Int32} {m x : Nat} (h : x < 12 ∨ 22 < x) : (tuC I cur m).2 x = I x := by
  unfold tuC
  rw [tuR_fr h]
  unfold tu0
  rw [oswC_fr (by omega), up_ne (by omega), copyC_ne (by omega)]
theorem aaR_fr {n x : Nat} (h : OM x) : ∀ k d J, (aaR n k d J).2 x = J x
  | 0, d, J => by unfold aaR; split <;> rfl
  | k + 1, d, J => by
    unfold aaR
    split
    · rfl
    · rw [aaR_fr h k (d + 1), tkM_fr h]
theorem aw0_fr {I : Mi} {cur : Int32} {n x : Nat} (h : x ≠ 128) : aw0 I cur n x = mvM 128 0 129 0 I x := by
  unfold aw0
  rw [lp_fr (fun i J => by
    unfold awB
    split
    · exact wtM_fr h
    · rfl) n _]
  unfold aw1
  rw [up_ne h]
/-- what is left of the reference's memory behind allAwakeWith -/
theorem yAa_fr (I : Mi) (cur : Int32) (n : Nat) : (∀ x, OM x → x ≠ 129 → (yAa I cur n).2 x = I x) ∧ ∀ y, y < 96 → (yAa I cur n).2 128 y = I 128 y := by
  have e129 : ∀ y, y < 96 → (aaR n 200 0 (aw0 I cur n)).2 129 y = I 128 y := fun y hy => by
    rw [aaR_fr ⟨by omega, by omega, by omega⟩, aw0_fr (by omega)]
    have := mvM_at 128 0 129 0 I (by omega) y hy
    rw [Nat.zero_add] at this
    exact this
  refine ⟨fun x h1 h2 => ?_, fun y hy => ?_⟩
  · show mvM 129 0 128 0 _ x = I x
    rw [mvM_ne h1.1, aaR_fr h1, aw0_fr h1.1, mvM_ne h2]
  · show mvM 129 0 128 0 _ 128 y = I 128 y
    have := mvM_at 129 0 128 0 (aaR n 200 0 (aw0 I cur n)).2 (by omega) y hy
    rw [Nat.zero_add] at this
    rw [this, e129 y hy]
theorem RS_obs {I2 I : Mi} {a b n w : Nat} {K2 K : Kr} (hC : CE I2 a I b) (hK : ∀ y, y < 96 → K2 y = K y) (h : RS I b K n w) : RS I2 a K2 n w := ⟨RB_obs hC hK h.1, RQ_obs h.1.1 hC hK h.2⟩
/-- memories that look alike where it matters: the class's trial chip and the reference's scratch rows may differ -/
def LK (I2 I : Mi) : Prop := ∀ x, x < 12 ∨ 22 < x → I2 x = I x
def LM (J2 J : Mi) : Prop := (∀ x, OM x → x ≠ 129 → J2 x = J x) ∧ ∀ y, y < 96 → J2 128 y = J 128 y
/-- both look for the least current -/
theorem lc_eq {n w m : Nat} (hm : m ≤ 200) (k : Nat) : ∀ (c : Nat) (X Y : Mi), RS X 1 (Y 128) n w → (lcR m k c X).1 = (yLc m n k c Y).1 ∧ LK (lcR m k c X).2 X ∧ LM (yLc m n k c Y).2 Y := by
  induction k with
  | zero => exact fun c X Y h => ⟨rfl, fun _ _ => rfl, fun _ _ _ => rfl, fun _ _ => rfl⟩
  | succ k ih =>
    intro c X Y h
    have e := tuC_m hm (nI (c + 1)) h
    have hX : LK (tuC X (nI (c + 1)) m).2 X := fun x hx => tuC_fr hx
    have hY : LM (yAa Y (nI (c + 1)) n).2 Y := yAa_fr _ _ _
    have eX : lcR m (k + 1) c X = if (tuC X (nI (c + 1)) m).1 = -6 then lcR m k (c + 1) (tuC X (nI (c + 1)) m).2 else (nI (c + 1), (tuC X (nI (c + 1)) m).2) := rfl
    have eY : yLc m n (k + 1) c Y = if (yAa Y (nI (c + 1)) n).1 = -6 then yLc m n k (c + 1) (yAa Y (nI (c + 1)) n).2
        else if nI m < (yAa Y (nI (c + 1)) n).1 then yLc m n k (c + 1) (yAa Y (nI (c + 1)) n).2 else (nI (c + 1), (yAa Y (nI (c + 1)) n).2) := rfl
    rw [eX, eY]
    generalize yAa Y (nI (c + 1)) n = r at e hY ⊢
    generalize tuC X (nI (c + 1)) m = p at e hX ⊢
    have h' : RS p.2 1 (r.2 128) n w := RS_obs (CE.same (fun x x1 x2 => hX x (by omega))) hY.2 h
    obtain ⟨r1, r2, r3⟩ := ih (c + 1) p.2 r.2 h'
    have r2' : LK (lcR m k (c + 1) p.2).2 X := fun x hx => (r2 x hx).trans (hX x hx)
    have r3' : LM (yLc m n k (c + 1) r.2).2 Y := ⟨fun x x1 x2 => (r3.1 x x1 x2).trans (hY.1 x x1 x2), fun y hy => (r3.2 y hy).trans (hY.2 y hy)⟩
    by_cases g : p.1 = -6
    · rw [if_pos g]
      rcases e.mp g with q | q
      · rw [if_pos q]; exact ⟨r1, r2', r3'⟩
      · by_cases q6 : r.1 = -6
        · rw [if_pos q6]; exact ⟨r1, r2', r3'⟩
        · rw [if_neg q6, if_pos q]; exact ⟨r1, r2', r3'⟩
    · rw [if_neg g, if_neg (fun z => g (e.mpr (Or.inl z))), if_neg (fun z => g (e.mpr (Or.inr z)))]
      exact ⟨rfl, hX, hY⟩
theorem i32_sub0 {x y : Int32} : x - y = 0 ↔ x = y := by
  constructor
  · intro h
    have := congrArg (· + y) h
    simpa using this
  · rintro rfl
    exact Int32.sub_self x
/-- one island tried, both ways -/
theorem qu_step {X Y : Mi} {n w t i : Nat} (h : RR X 1 (Y 128) n w) (hi : i < n) (u : Int32) : (quB t i (u, X)).1 = (quM t i (u, Y)).1 ∧ LK (quB t i (u, X)).2 X ∧ LM (quM t i (u, Y)).2 Y ∧ (decide (pt Y i 7 = 0) = true → ∀ j, j < t → TI (psM (q0M Y i) j)) := by
  have s4 : X (1 + 4) i = pt Y i 7 := (h.1.1.2.2.1 i hi).1.2.2.2.1
  unfold quB quM
  dsimp only
  by_cases g : X (1 + 4) i = 0
  · have hs : RR (up (copyC X 12 1) (12 + 4) i 1) 12 (q0M Y i 128) n w := by
      have h1 : RR (copyC X 12 1) 12 (mvM 128 0 129 0 Y 128) n w := RR_obs (copyC_CE X (by omega)) (fun y _ => by rw [mvM_ne (by omega)]) h
      refine RR_fall1 12 h1 hi ?_
      have := (copyC_CE X (a := 12) (b := 1) (by omega)).2 4 (by omega) (by omega) i (by have := h.1.1.1; omega)
      exact this.trans g
    obtain ⟨⟨w2, hop⟩, hT⟩ := RR_pass hs t
    have hop : RR (sqI X i t) 12 (psM (q0M Y i) t 128) n w2 := hop
    have hk : LK (sqI X i t) X := fun x hx => by
      unfold sqI
      rw [passC_fr (by omega) t, up_ne (by omega), copyC_ne (by omega)]
    have hm : LM (mvM 129 0 128 0 (psM (q0M Y i) t)) Y := by
      refine ⟨fun x h1 h2 => ?_, fun y hy => ?_⟩
      · rw [mvM_ne h1.1, psM_fr h1]
        unfold q0M
        rw [spn h1.1, mvM_ne h2]
      · have e1 := mvM_at 129 0 128 0 (psM (q0M Y i) t) (by omega) y hy
        have e2 := mvM_at 128 0 129 0 Y (by omega) y hy
        rw [Nat.zero_add] at e1 e2
        rw [e1, psM_fr ⟨by omega, by omega, by omega⟩]
        unfold q0M
        rw [spn (by omega)]
        exact e2
    have eq : sqC X i t = decide (psM (q0M Y i) t 128 4 - q0M Y i 128 4 = 0) := by
      unfold sqC
      have e1 : sumC (sqI X i t) (12 + 8) = psM (q0M Y i) t 128 4 := hop.2.1.2.2.2
      have e2 : sumC (sqI X i t) (1 + 8) = q0M Y i 128 4 := by
        rw [show sumC (sqI X i t) (1 + 8) = sumC X (1 + 8) by rw [sumC_sm, sumC_sm, hk (1 + 8) (by omega)], h.2.1.2.2.2]
        unfold q0M
        rw [spo (by omega), mvM_ne (by omega)]
      rw [e1, e2]
      by_cases c : psM (q0M Y i) t 128 4 = q0M Y i 128 4
      · rw [decide_eq_true c, decide_eq_true (i32_sub0.mpr c)]
      · rw [decide_eq_false c, decide_eq_false (fun z => c (i32_sub0.mp z))]
    rw [if_pos g, if_pos (decide_eq_true (s4.symm.trans g)), eq]
    by_cases c : psM (q0M Y i) t 128 4 - q0M Y i 128 4 = 0
    · rw [if_pos (decide_eq_true c), if_pos c]
      exact ⟨rfl, hk, hm, fun _ => hT⟩
    · rw [if_neg (fun z => c (of_decide_eq_true z)), if_neg c]
      exact ⟨(or_0 u).symm, hk, hm, fun _ => hT⟩
  · have g' : ¬ decide (pt Y i 7 = 0) = true := fun z => g (s4.trans (of_decide_eq_true z))
    rw [if_neg g, if_neg g']
    exact ⟨rfl, fun _ _ => rfl, ⟨fun _ _ _ => rfl, fun _ _ => rfl⟩, fun z => absurd z g'⟩
theorem qu_all {I J : Mi} {n w t : Nat} (h : RR I 1 (J 128) n w) : ∀ i, i ≤ n → (quR I t i).1 = (quS J t i).1 ∧ LK (quR I t i).2 I ∧ LM (quS J t i).2 J ∧ RR (quR I t i).2 1 ((quS J t i).2 128) n w
  | 0, _ => ⟨rfl, fun _ _ => rfl, ⟨fun _ _ _ => rfl, fun _ _ => rfl⟩, h⟩
  | i + 1, hi => by
    obtain ⟨h1, h2, h3, h4⟩ := qu_all h i (by omega)
    rw [quR_s, quS_s]
    generalize quR I t i = p at h1 h2 h4 ⊢
    generalize quS J t i = r at h1 h3 h4 ⊢
    obtain ⟨u, X⟩ := p
    obtain ⟨v, Y⟩ := r
    dsimp only at h1 h2 h3 h4
    subst h1
    obtain ⟨g1, g2, g3, -⟩ := qu_step (t := t) h4 (show i < n by omega) u
    have g2' : LK (quB t i (u, X)).2 I := fun x hx => (g2 x hx).trans (h2 x hx)
    have g3' : LM (quM t i (u, Y)).2 J := ⟨fun x x1 x2 => (g3.1 x x1 x2).trans (h3.1 x x1 x2), fun y hy => (g3.2 y hy).trans (h3.2 y hy)⟩
    exact ⟨g1, g2', g3', RR_obs (CE.same (fun x x1 x2 => g2' x (by omega))) g3'.2 h⟩
theorem quR_8 {I J : Mi} {n w t : Nat} (h : RR I 1 (J 128) n w) : quR I t 8 = quR I t n := by
  have key : ∀ m, n ≤ m → m ≤ 8 → quR I t m = quR I t n := by
    intro m
    induction m with
    | zero => intro h1 _; rw [show n = 0 by omega]
    | succ m ih =>
      intro h1 h2
      rcases Nat.lt_or_ge n (m + 1) with q | q
      · rw [quR_s, ih (by omega) (by omega)]
        obtain ⟨-, g2, -, -⟩ := qu_all (t := t) h n (Nat.le_refl _)
        generalize quR I t n = p at g2 ⊢
        obtain ⟨u, X⟩ := p
        dsimp only at g2
        unfold quB
        dsimp only
        rw [if_neg (by rw [g2 (1 + 4) (by omega), (h.1.1.2.2.2 m (by omega) (by omega)).1]; decide)]
      · rw [show n = m + 1 by omega]
  exact key 8 h.1.1.1 (Nat.le_refl _)
