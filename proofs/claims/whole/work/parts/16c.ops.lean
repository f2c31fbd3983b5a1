/-! link, value, sleep, wake, pass -/
theorem RR_rd {X Y : Mi} {n w i : Nat} {v : Int32} (h : RR X 1 (Y 128) n w) (hi : i < n) (hv : ∀ j, n ≤ j → j < 8 → bt v j = false) : RR (up X (1 + 3) i v) 1 (sp Y i 6 v 128) n w := by
  have h8 := h.1.1.1
  obtain ⟨⟨⟨-, ⟨a0, a1, a2, a3⟩, hS, hA⟩, hw, ⟨b0, b1⟩, q, hq⟩, hV⟩ := h
  have ek : ∀ y, y ≠ 16 + 10 * i + 6 → sp Y i 6 v 128 y = Y 128 y := fun y hy => spo hy
  have e0 : up X (1 + 3) i v 1 = X 1 := up_ne (by omega)
  have er : ∀ c, c ≠ 3 → up X (1 + 3) i v (1 + c) = X (1 + c) := fun c hc => up_ne (by omega)
  refine ⟨⟨⟨h8, ⟨by rw [e0, a0], by rw [ek 2 (by omega), a1], by rw [e0, ek 0 (by omega), a2], by rw [e0, ek 1 (by omega), a3]⟩, fun j hj => ?_, fun j h1 h2 => ?_⟩, hw, ⟨by rw [e0, b0], by rw [ek 7 (by omega), b1]⟩, q, fun k hk => ?_, hq.2⟩, RV_same h8 ⟨⟨by rw [e0], by rw [e0], by rw [e0], by rw [e0], by rw [e0]⟩, fun j hj => ⟨by rw [er 5 (by omega)], by rw [er 6 (by omega)], by rw [er 8 (by omega)]⟩⟩ ⟨⟨ek 3 (by omega), ek 4 (by omega), ek 5 (by omega), ek 6 (by omega)⟩, fun j hj => ⟨ek _ (by omega), ek _ (by omega), ek _ (by omega), ek _ (by omega), ek _ (by omega)⟩⟩ hV⟩
  · have s := hS j hj
    unfold SI at s ⊢
    rw [er 1 (by omega), er 2 (by omega), er 4 (by omega), er 7 (by omega), ek (16 + 10 * j + 2) (by omega), ek (16 + 10 * j + 3) (by omega), ek (16 + 10 * j + 7) (by omega), ek (16 + 10 * j + 8) (by omega)]
    by_cases e : j = i
    · subst e
      rw [uc4, if_pos rfl, show sp Y j 6 v 128 (16 + 10 * j + 6) = v from ptp Y j 6 v]
      exact ⟨⟨s.1.1, s.1.2.1, rfl, s.1.2.2.2⟩, s.2.1, s.2.2.1, hv⟩
    · rw [uc4, if_neg e, ek (16 + 10 * j + 6) (by omega)]
      exact s
  · have s := hA j h1 h2
    unfold AI at s ⊢
    rw [er 4 (by omega), er 7 (by omega), uc4, if_neg (by omega)]
    exact s
  · obtain ⟨z0, z1, z2, z3, z4⟩ := hq.1 k hk
    exact ⟨z0, z1, by rw [er 9 (by omega), z2], by rw [ek _ (by omega), z3], by rw [er 4 (by omega), z4]⟩
theorem RR_val {X Y : Mi} {n w i : Nat} {v : Int32} (h : RR X 1 (Y 128) n w) (hi : i < n) (hv : ∃ z, z < 256 ∧ v = nI z) : RR (up X (1 + 5) i v) 1 (sp Y i 4 v 128) n w := by
  have h8 := h.1.1.1
  have ek : ∀ y, y ≠ 16 + 10 * i + 4 → sp Y i 4 v 128 y = Y 128 y := fun y hy => spo hy
  have e0 : up X (1 + 5) i v 1 = X 1 := up_ne (by omega)
  have er : ∀ c, c ≠ 5 → up X (1 + 5) i v (1 + c) = X (1 + c) := fun c hc => up_ne (by omega)
  have s := h.2.2.1 i hi
  have e4 := h.2.1
  refine ⟨RS_q ⟨⟨by rw [e0], by rw [e0], by rw [e0]⟩, fun j hj => ⟨by rw [er 1 (by omega)], by rw [er 2 (by omega)], by rw [er 3 (by omega)], by rw [er 4 (by omega)], by rw [er 7 (by omega)]⟩⟩ ⟨⟨ek 0 (by omega), ek 1 (by omega), ek 2 (by omega)⟩, fun j hj => ⟨ek _ (by omega), ek _ (by omega), ek _ (by omega), ek _ (by omega), ek _ (by omega)⟩⟩ ⟨by rw [e0], fun k hk => by rw [er 9 (by omega)]⟩ ⟨ek 7 (by omega), fun k hk => ek _ (by omega)⟩ h.1, RV_st (i := i) (x := v) (y := X (1 + 6) i) h8 ⟨⟨by rw [e0], by rw [e0], by rw [e0], by rw [e0]⟩, fun j hj => by rw [er 8 (by omega)], ⟨by rw [uc4, if_pos rfl], by rw [er 6 (by omega)]⟩, fun j hj hji => ⟨by rw [uc4, if_neg hji], by rw [er 6 (by omega)]⟩⟩ ⟨⟨ek 3 (by omega), ek 4 (by omega), ek 6 (by omega)⟩, fun j hj => ⟨ek _ (by omega), ek _ (by omega), ek _ (by omega)⟩, ⟨ptp Y i 4 v, by rw [ek _ (by omega)]; exact s.2.1.2.1.symm⟩, fun j hj hji => ⟨ek _ (by omega), ek _ (by omega)⟩⟩ (by rw [e0, ek 5 (by omega)]; exact e4.2.1) h.2 hi hv s.2.2.2⟩
theorem RR_fall1 {X Y : Mi} {n w i : Nat} (a : Nat) (h : RR X a (Y 128) n w) (hi : i < n) (h0 : X (a + 4) i = 0) : RR (up X (a + 4) i 1) a (sp Y i 7 1 128) n w := by
  have h8 := h.1.1.1
  have ek : ∀ y, y ≠ 16 + 10 * i + 7 → sp Y i 7 1 128 y = Y 128 y := fun y hy => spo hy
  have e0 : up X (a + 4) i 1 a = X a := up_ne (by omega)
  have er : ∀ c, c ≠ 4 → up X (a + 4) i 1 (a + c) = X (a + c) := fun c hc => up_ne (by omega)
  have s := h.1.1.2.2.1 i hi
  have l0 := s.left0 (by rw [h0]; decide)
  have l1 : Y 128 (16 + 10 * i + 8) = nI 0 := s.1.2.2.2.2.symm.trans l0
  refine ⟨⟨RB_st (i := i) (x := 1) (t := 0) ⟨⟨by rw [e0], by rw [e0], by rw [e0]⟩, fun j hj => ⟨by rw [er 1 (by omega)], by rw [er 2 (by omega)], by rw [er 3 (by omega)]⟩, ⟨by rw [uc4, if_pos rfl], by rw [er 7 (by omega), l0]⟩, fun j hj hji => ⟨by rw [uc4, if_neg hji], by rw [er 7 (by omega)]⟩⟩ ⟨⟨ek 0 (by omega), ek 1 (by omega), ek 2 (by omega)⟩, fun j hj => ⟨ek _ (by omega), ek _ (by omega), ek _ (by omega)⟩, ⟨ptp Y i 7 1, by rw [ek _ (by omega), l1]⟩, fun j hj hji => ⟨ek _ (by omega), ek _ (by omega)⟩⟩ h.1.1 hi (by omega) (fun z => absurd z (by decide)) (fun _ => rfl), RQ_st (i := i) h8 ⟨by rw [e0], fun k hk => by rw [er 9 (by omega)]⟩ ⟨ek 7 (by omega), fun k hk => ek _ (by omega)⟩ (fun j hj hji => by rw [uc4, if_neg hji]) (by rw [h0]; decide) h.1.2⟩, RV_same h8 ⟨⟨by rw [e0], by rw [e0], by rw [e0], by rw [e0], by rw [e0]⟩, fun j hj => ⟨by rw [er 5 (by omega)], by rw [er 6 (by omega)], by rw [er 8 (by omega)]⟩⟩ ⟨⟨ek 3 (by omega), ek 4 (by omega), ek 5 (by omega), ek 6 (by omega)⟩, fun j hj => ⟨ek _ (by omega), ek _ (by omega), ek _ (by omega), ek _ (by omega), ek _ (by omega)⟩⟩ h.2⟩
theorem RS_set {I J : Mi} {a n w : Nat} (h : RS I a (J 128) n w) {x : Int32} (hx : x ≠ -1) : setC I a x = setM J n x := by
  rw [setC_un, setM_un, un_more h.1.1 (fun i h1 h2 => by rw [(h.1.2.2.2 i h1 h2).1]; exact decide_eq_false (fun z => hx z.symm))]
  exact un_congr (fun i hi => by rw [(h.1.2.2.1 i hi).1.2.2.2.1])
theorem RS_reads {I J : Mi} {a n w i : Nat} (h : RS I a (J 128) n w) (hi : i < 8) : readC I a (nI i) = rdsM J n (nI i) := by
  rw [readC_un, rdsM_un, un_more h.1.1 (fun j h1 h2 => by rw [(h.1.2.2.2 j h1 h2).2.1, isI_bt _ (by omega)]; exact bt_0 i)]
  exact un_congr (fun j hj => by rw [isI_bt _ (by omega), rdM_bt _ _ (by omega), (h.1.2.2.1 j hj).1.2.2.1])
theorem bc_and (c d : Nat → Bool) (n : Nat) (hn : n ≤ 8) : bcJ (un c n &&& un d n) = bitM (un c n &&& un d n) := by
  obtain ⟨m, hm, em⟩ := un_lt d n hn
  have hp : 2 ^ n ≤ 2 ^ 8 := Nat.pow_le_pow_right (by decide) hn
  have hm' : m < 256 := Nat.lt_of_lt_of_le hm hp
  rw [em]
  obtain ⟨v, hv, ev⟩ := and_lt (x := un c n) hm'
  rw [ev]
  exact bc_bit v hv
theorem isW_255 {r : Int32} (h : isW r 0 255 = true) : ∃ z, z < 256 ∧ r = nI z := by
  unfold isW at h
  simp only [Bool.and_eq_true, decide_eq_true_eq] at h
  obtain ⟨j, hj, rfl⟩ := nI_of h.1
  refine ⟨j, ?_, rfl⟩
  rcases Nat.lt_or_ge 255 j with q | q
  · exact absurd (show (255 : Int32) < nI j from nI_lt (a := 255) q hj) h.2
  · omega
theorem isW_200 {r : Int32} {m : Nat} {M : Int32} (hM : M = nI m) (hm : m ≤ 200) {b : Int32} (hb : (0 : Int32) ≤ b) (h : isW r b M = true) : ∃ z, z ≤ m ∧ r = nI z := by
  unfold isW at h
  simp only [Bool.and_eq_true, decide_eq_true_eq] at h
  have h0 : ¬ r < 0 := fun z => h.1 (Int32.lt_of_lt_of_le z hb)
  obtain ⟨j, hj, rfl⟩ := nI_of h0
  refine ⟨j, ?_, rfl⟩
  rcases Nat.lt_or_ge m j with q | q
  · exact absurd (show M < nI j by rw [hM]; exact nI_lt q hj) h.2
  · omega
section OPS
variable {l : Launch} {E : EE} {I : Mi} {F : Mr}
theorem st_link (H : INV I F) (x y b : Int32) : ST l E I F mX4_link mX5_link [.int x, .int y, .int b] := by
  obtain ⟨hl, h, k, n, w, pl, hb, h0, hR, hS, hP, hj⟩ := id H
  have k6 := h0.1.1
  have e37 := h0.1.2.1
  have e127 := h0.1.2.2
  have n8 := hR.1.1.1
  rcases has_cases hR.1 x with ⟨i, hi, rfl, x1, x2⟩ | ⟨x1, x2⟩
  · rcases has_cases hR.1 y with ⟨j, hj2, rfl, y1, y2⟩ | ⟨y1, y2⟩
    · have hi8 : i < 8 := by omega
      have hj8 : j < 8 := by omega
      have c4 := tX4_link (l := l) (E := E) hl hb k6 e37 hi8 x1 y1 b
      have e3r : I (1 + 3) i = pt I i 6 := (hR.1.1.2.2.1 i hi).1.2.2.1
      have eis : isI (I (1 + 3) i) (nI j) = rdM I i (nI j) := by rw [isI_bt _ (by omega), rdM_bt _ _ (by omega), e3r]
      by_cases g1 : nI i = nI j
      · have ex : xLink I F h k i j b = (-2, I, F) := if_pos g1
        have ey : yLink I k i j b = (-2, I) := if_pos g1
        rw [ex] at c4
        have c5 := tX5_link (l := l) (E := E) hl k6 e127 hi8 x2 hj8 y2 b
        rw [ey] at c5
        exact ST_no H c4 c5
      · by_cases g2 : bi (rdM I i (nI j)) = b
        · have ex : xLink I F h k i j b = (-5, I, F) := by
            unfold xLink
            rw [if_neg g1, eis, if_pos g2]
          have ey : yLink I k i j b = (-5, I) := by
            unfold yLink
            rw [if_neg g1, if_pos g2]
          rw [ex] at c4
          have c5 := tX5_link (l := l) (E := E) hl k6 e127 hi8 x2 hj8 y2 b
          rw [ey] at c5
          exact ST_no H c4 c5
        · have eX : recI I h k 1 (1 + 3) i = I (1 + 3) i := by rw [recI_fr hb k6 (by omega)]
          have ex : xLink I F h k i j b = (I (1 + 3) i ^^^ ((1 : Int32) <<< (nI j &&& 31)), up (recI I h k 1) (1 + 3) i (I (1 + 3) i ^^^ ((1 : Int32) <<< (nI j &&& 31))), recF F h k) := by
            unfold xLink
            rw [if_neg g1, eis, if_neg g2, eX, ucs]
          rw [ex] at c4
          generalize hv : I (1 + 3) i ^^^ ((1 : Int32) <<< (nI j &&& 31)) = v at c4
          have e2 : ∀ z, z = 0 ∨ 12 ≤ z → up (recI I h k 1) (1 + 3) i v z = recI I h k 1 z := fun z hz => up_ne (by omega)
          have e3 : up (recI I h k 1) (1 + 3) i v 127 3 = nI k := by rw [e2 127 (by omega), recI_fr hb k6 (by omega), e127]
          have e4 : up (recI I h k 1) (1 + 3) i v 128 = I 128 := by rw [e2 128 (by omega), recI_fr hb k6 (by omega)]
          have hs := RR_start (I2 := up (recI I h k 1) (1 + 3) i v) hb k6 hR e4
          have x2' : isIM (up (recI I h k 1) (1 + 3) i v) (nI i) = true := by unfold isIM at x2 ⊢; rw [e4]; exact x2
          have y2' : isIM (up (recI I h k 1) (1 + 3) i v) (nI j) = true := by unfold isIM at y2 ⊢; rw [e4]; exact y2
          have c5 := tX5_link (l := l) (E := E) (recF_LY (h := h) (k := k) hl) k6 e3 hi8 x2' hj8 y2' b
          have er : rdM (up (recI I h k 1) (1 + 3) i v) i (nI j) = rdM I i (nI j) := by unfold rdM pt; rw [e4]
          have ep : pt (recM (up (recI I h k 1) (1 + 3) i v) k) i 6 = I (1 + 3) i := by
            unfold pt
            rw [recM_128, e4]
            exact e3r.symm
          have ey : yLink (up (recI I h k 1) (1 + 3) i v) k i j b = (v, sp (recM (up (recI I h k 1) (1 + 3) i v) k) i 6 v) := by
            unfold yLink
            rw [if_neg g1, er, if_neg g2, ep, hv, ptp]
          rw [ey] at c5
          refine ST_rec hl hb h0 hR hS hP hj c4 c5 e2 (fun z hz => spn hz.1) (RR_rd hs hi (fun z z1 z2 => ?_))
          have := (hR.1.1.2.2.1 i hi).2.2.2 z z1 z2
          rw [← hv, bt_xor, this, show ((1 : Int32) <<< (nI j &&& 31)) = sh1 j from rfl, bt_sh1 (by omega), decide_eq_false (by omega)]
          rfl
    · exact ST_no H (tX4_link_no2 hl (show i < 8 by omega) x1 y b y1) (tX5_link_no2 hl (show i < 8 by omega) x2 y b y2)
  · exact ST_no H (tX4_link_no1 hl x x1 y b) (tX5_link_no1 hl x x2 y b)
theorem st_value (H : INV I F) (x v : Int32) : ST l E I F mX4_value mX5_value [.int x, .int v] := by
  obtain ⟨hl, h, k, n, w, pl, hb, h0, hR, hS, hP, hj⟩ := id H
  have k6 := h0.1.1
  have e37 := h0.1.2.1
  have e127 := h0.1.2.2
  have n8 := hR.1.1.1
  rcases has_cases hR.1 x with ⟨i, hi, rfl, x1, x2⟩ | ⟨x1, x2⟩
  · have hi8 : i < 8 := by omega
    have c4 := tX4_value (l := l) (E := E) hl hb k6 e37 hi8 x1 v
    have e4r : I (1 + 4) i = pt I i 7 := (hR.1.1.2.2.1 i hi).1.2.2.2.1
    have e5r : I (1 + 5) i = pt I i 4 := (hR.2.2.1 i hi).2.1.1
    by_cases g1 : isW v 0 255 = true
    · by_cases g2 : I (1 + 4) i = 0
      · have ex : xValue I F h k i v = (I (1 + 5) i, up (recI I h k 1) (1 + 5) i v, recF F h k) := by
          unfold xValue
          rw [if_pos g1, if_pos g2, recI_fr hb k6 (by omega)]
        rw [ex] at c4
        have e2 : ∀ z, z = 0 ∨ 12 ≤ z → up (recI I h k 1) (1 + 5) i v z = recI I h k 1 z := fun z hz => up_ne (by omega)
        have e3 : up (recI I h k 1) (1 + 5) i v 127 3 = nI k := by rw [e2 127 (by omega), recI_fr hb k6 (by omega), e127]
        have e4 : up (recI I h k 1) (1 + 5) i v 128 = I 128 := by rw [e2 128 (by omega), recI_fr hb k6 (by omega)]
        have hs := RR_start (I2 := up (recI I h k 1) (1 + 5) i v) hb k6 hR e4
        have x2' : isIM (up (recI I h k 1) (1 + 5) i v) (nI i) = true := by unfold isIM at x2 ⊢; rw [e4]; exact x2
        have c5 := tX5_value (l := l) (E := E) (recF_LY (h := h) (k := k) hl) k6 e3 hi8 x2' v
        have ey : yValue (up (recI I h k 1) (1 + 5) i v) k i v = (I (1 + 5) i, sp (recM (up (recI I h k 1) (1 + 5) i v) k) i 4 v) := by
          unfold yValue
          rw [if_pos g1, if_pos (show decide (pt (up (recI I h k 1) (1 + 5) i v) i 7 = 0) = true by unfold pt; rw [e4]; exact decide_eq_true (e4r.symm.trans g2)), show pt (recM (up (recI I h k 1) (1 + 5) i v) k) i 4 = I (1 + 5) i by unfold pt; rw [recM_128, e4]; exact e5r.symm]
        rw [ey] at c5
        exact ST_rec hl hb h0 hR hS hP hj c4 c5 e2 (fun z hz => spn hz.1) (RR_val hs hi (isW_255 g1))
      · have ex : xValue I F h k i v = (-5, I, F) := by
          unfold xValue
          rw [if_pos g1, if_neg g2]
        have ey : yValue I k i v = (-5, I) := by
          unfold yValue
          rw [if_pos g1, if_neg (show ¬ decide (pt I i 7 = 0) = true from fun z => g2 (e4r.trans (of_decide_eq_true z)))]
        rw [ex] at c4
        have c5 := tX5_value (l := l) (E := E) hl k6 e127 hi8 x2 v
        rw [ey] at c5
        exact ST_no H c4 c5
    · have ex : xValue I F h k i v = (-2, I, F) := if_neg g1
      have ey : yValue I k i v = (-2, I) := if_neg g1
      rw [ex] at c4
      have c5 := tX5_value (l := l) (E := E) hl k6 e127 hi8 x2 v
      rw [ey] at c5
      exact ST_no H c4 c5
  · exact ST_no H (tX4_value_no hl x x1 v) (tX5_value_no hl x x2 v)
theorem st_sleep (H : INV I F) (x : Int32) : ST l E I F mX4_sleep mX5_sleep [.int x] := by
  obtain ⟨hl, h, k, n, w, pl, hb, h0, hR, hS, hP, hj⟩ := id H
  have k6 := h0.1.1
  have e37 := h0.1.2.1
  have e127 := h0.1.2.2
  have n8 := hR.1.1.1
  rcases has_cases hR.1 x with ⟨i, hi, rfl, x1, x2⟩ | ⟨x1, x2⟩
  · have hi8 : i < 8 := by omega
    have c4 := tX4_sleep (l := l) (E := E) hl hb k6 e37 hi8 x1
    have e4r : I (1 + 4) i = pt I i 7 := (hR.1.1.2.2.1 i hi).1.2.2.2.1
    by_cases g2 : I (1 + 4) i = 0
    · have ex : xSleep I F h k i = (bcJ (readC (up (recI I h k 1) (1 + 4) i 1) 1 (nI i) &&& setC (up (recI I h k 1) (1 + 4) i 1) 1 0), up (recI I h k 1) (1 + 4) i 1, recF F h k) := if_pos g2
      rw [ex] at c4
      have e2 : ∀ z, z = 0 ∨ 12 ≤ z → up (recI I h k 1) (1 + 4) i 1 z = recI I h k 1 z := fun z hz => up_ne (by omega)
      have e3 : up (recI I h k 1) (1 + 4) i 1 127 3 = nI k := by rw [e2 127 (by omega), recI_fr hb k6 (by omega), e127]
      have e4 : up (recI I h k 1) (1 + 4) i 1 128 = I 128 := by rw [e2 128 (by omega), recI_fr hb k6 (by omega)]
      have hs := RR_start (I2 := up (recI I h k 1) (1 + 4) i 1) hb k6 hR e4
      have x2' : isIM (up (recI I h k 1) (1 + 4) i 1) (nI i) = true := by unfold isIM at x2 ⊢; rw [e4]; exact x2
      have em : up (recI I h k 1) (1 + 4) i 1 128 2 = nI n := by rw [e4]; exact hR.1.1.2.1.2.1
      have c5 := tX5_sleep (l := l) (E := E) (recF_LY (h := h) (k := k) hl) k6 e3 n8 em hi8 x2'
      have hop := RR_fall1 1 hs hi (by rw [recI_fr hb k6 (by omega)]; exact g2)
      have ea : bcJ (readC (up (recI I h k 1) (1 + 4) i 1) 1 (nI i) &&& setC (up (recI I h k 1) (1 + 4) i 1) 1 0) = bitM (arM (sp (recM (up (recI I h k 1) (1 + 4) i 1) k) i 7 1) n (nI i)) := by
        rw [RS_reads hop.1 hi8, RS_set hop.1 (by decide)]
        unfold arM
        rw [rdsM_un, setM_un]
        exact bc_and _ _ n n8
      have ey : ySleep (up (recI I h k 1) (1 + 4) i 1) k n i = (bitM (arM (sp (recM (up (recI I h k 1) (1 + 4) i 1) k) i 7 1) n (nI i)), sp (recM (up (recI I h k 1) (1 + 4) i 1) k) i 7 1) := by
        unfold ySleep
        rw [if_pos (show decide (pt (up (recI I h k 1) (1 + 4) i 1) i 7 = 0) = true by unfold pt; rw [e4]; exact decide_eq_true (e4r.symm.trans g2))]
      rw [ey] at c5
      rw [ea] at c4
      exact ST_rec hl hb h0 hR hS hP hj c4 c5 e2 (fun z hz => spn hz.1) hop
    · have ex : xSleep I F h k i = (-5, I, F) := if_neg g2
      have ey : ySleep I k n i = (-5, I) := by
        unfold ySleep
        rw [if_neg (show ¬ decide (pt I i 7 = 0) = true from fun z => g2 (e4r.trans (of_decide_eq_true z)))]
      rw [ex] at c4
      have c5 := tX5_sleep (l := l) (E := E) hl k6 e127 n8 hR.1.1.2.1.2.1 hi8 x2
      rw [ey] at c5
      exact ST_no H c4 c5
  · exact ST_no H (tX4_sleep_no hl x x1) (tX5_sleep_no hl x x2)
theorem st_wake (H : INV I F) (x : Int32) : ST l E I F mX4_wake mX5_wake [.int x] := by
  obtain ⟨hl, h, k, n, w, pl, hb, h0, hR, hS, hP, hj⟩ := id H
  have k6 := h0.1.1
  have e37 := h0.1.2.1
  have e127 := h0.1.2.2
  have n8 := hR.1.1.1
  have w8 := hR.1.2.1
  rcases has_cases hR.1 x with ⟨i, hi, rfl, x1, x2⟩ | ⟨x1, x2⟩
  · have hi8 : i < 8 := by omega
    have c4 := tX4_wake (l := l) (E := E) hl hb k6 e37 hi8 x1
    have e4r : I (1 + 4) i = pt I i 7 := (hR.1.1.2.2.1 i hi).1.2.2.2.1
    by_cases g2 : I (1 + 4) i = 2
    · have ex : xWake I F h k i = (otwC (recI I h k 1) 1 i 1 12, otwC (recI I h k 1) 1 i, recF F h k) := if_pos g2
      rw [ex] at c4
      have e2 : ∀ z, z = 0 ∨ 12 ≤ z → otwC (recI I h k 1) 1 i z = recI I h k 1 z := fun z hz => otwC_fr (by omega)
      have e3 : otwC (recI I h k 1) 1 i 127 3 = nI k := by rw [e2 127 (by omega), recI_fr hb k6 (by omega), e127]
      have e4 : otwC (recI I h k 1) 1 i 128 = I 128 := by rw [e2 128 (by omega), recI_fr hb k6 (by omega)]
      have hs := RR_start (I2 := otwC (recI I h k 1) 1 i) hb k6 hR e4
      have x2' : isIM (otwC (recI I h k 1) 1 i) (nI i) = true := by unfold isIM at x2 ⊢; rw [e4]; exact x2
      have ew : otwC (recI I h k 1) 1 i 128 7 = nI w := by rw [e4]; exact hR.1.2.2.1.2
      have c5 := tX5_wake (l := l) (E := E) (recF_LY (h := h) (k := k) hl) k6 e3 w8 ew hi8 x2'
      obtain ⟨hw, hop⟩ := RR_ord hs hi (by rw [recI_fr hb k6 (by omega)]; exact g2)
      have ey : yWake (otwC (recI I h k 1) 1 i) k w i = (otwC (recI I h k 1) 1 i 1 12, wtM (recM (otwC (recI I h k 1) 1 i) k) i w) := by
        unfold yWake
        rw [if_pos (show decide (pt (otwC (recI I h k 1) 1 i) i 7 = 2) = true by unfold pt; rw [e4]; exact decide_eq_true (e4r.symm.trans g2)), wtM_7, hop.1.2.2.1.1]
      rw [ey] at c5
      exact ST_rec hl hb h0 hR hS hP hj c4 c5 e2 (fun z hz => wtM_fr hz.1) hop
    · have ex : xWake I F h k i = (-5, I, F) := if_neg g2
      have ey : yWake I k w i = (-5, I) := by
        unfold yWake
        rw [if_neg (show ¬ decide (pt I i 7 = 2) = true from fun z => g2 (e4r.trans (of_decide_eq_true z)))]
      rw [ex] at c4
      have c5 := tX5_wake (l := l) (E := E) hl k6 e127 w8 hR.1.2.2.1.2 hi8 x2
      rw [ey] at c5
      exact ST_no H c4 c5
  · exact ST_no H (tX4_wake_no hl x x1) (tX5_wake_no hl x x2)
theorem st_pass (H : INV I F) (x : Int32) : ST l E I F mX4_pass mX5_pass [.int x] := by
  obtain ⟨hl, h, k, n, w, pl, hb, h0, hR, hS, hP, hj⟩ := id H
  have k6 := h0.1.1
  have e37 := h0.1.2.1
  have e127 := h0.1.2.2
  by_cases g : isW x 1 200 = true
  · obtain ⟨t, ht, rfl⟩ := isW_200 (m := 200) rfl (by omega) (by decide) g
    have c4 := tX4_pass (l := l) (E := E) hl hb k6 e37 (show t < 2147483648 by omega) g
    have e2 : ∀ z, z = 0 ∨ 12 ≤ z → passC (recI I h k 1) 1 t z = recI I h k 1 z := fun z hz => passC_fr (by omega) t
    have e3 : passC (recI I h k 1) 1 t 127 3 = nI k := by rw [e2 127 (by omega), recI_fr hb k6 (by omega), e127]
    have e4 : passC (recI I h k 1) 1 t 128 = I 128 := by rw [e2 128 (by omega), recI_fr hb k6 (by omega)]
    have hs := RR_start (I2 := passC (recI I h k 1) 1 t) hb k6 hR e4
    obtain ⟨⟨w2, hop⟩, hT⟩ := RR_pass hs t
    have c5 := tX5_pass (l := l) (E := E) (recF_LY (h := h) (k := k) hl) k6 e3 (show t < 2147483648 by omega) g hT
    have ea : (xPass I F h k t).1 = (yPass (passC (recI I h k 1) 1 t) k t).1 := by
      unfold xPass yPass
      dsimp only
      rw [hop.2.1.2.2.2, hs.2.1.2.2.2]
    rw [← ea] at c5
    exact ST_rec hl hb h0 hR hS hP hj c4 c5 e2 (fun z hz => psM_fr hz t) hop
  · have g : isW x 1 200 = false := by simpa using g
    exact ST_no H (tX4_pass_no hl x g) (tX5_pass_no hl x g)
end OPS
