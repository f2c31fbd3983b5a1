/-! a call on both sides: the same answer, the invariant kept -/
def ST (l : Launch) (E : EE) (I : Mi) (F : Mr) (M4 M5 : MD) (A : List Value) : Prop := ∃ (r : Int32) (I2 : Mi) (F2 : Mr) (I3 : Mi), CtF l E M4 (rf E 0 :: A) NT I F NT (some (.int r)) I2 F2 ∧ CtF l E M5 (rf E 127 :: A) NT I2 F2 NT (some (.int r)) I3 F2 ∧ INV I3 F2
theorem ST_no {l : Launch} {E : EE} {I : Mi} {F : Mr} {M4 M5 : MD} {A : List Value} {r : Int32} (H : INV I F) (c4 : CtF l E M4 (rf E 0 :: A) NT I F NT (some (.int r)) I F) (c5 : CtF l E M5 (rf E 127 :: A) NT I F NT (some (.int r)) I F) : ST l E I F M4 M5 A := ⟨r, I, F, I, c4, c5, H⟩
theorem ST_rec {l : Launch} {E : EE} {I I2 I3 : Mi} {F : Mr} {M4 M5 : MD} {A : List Value} {r : Int32} {h : Nat → Nat} {k n w pl n2 w2 : Nat} (hl : LY F) (hb : HB F h) (h0 : IHs I h k) (hR : RR I 1 (I 128) n w) (hS : ISl I) (hP : IPd I pl) (hj : ∃ j, I 127 10 = nI j)
    (c4 : CtF l E M4 (rf E 0 :: A) NT I F NT (some (.int r)) I2 (recF F h k)) (c5 : CtF l E M5 (rf E 127 :: A) NT I2 (recF F h k) NT (some (.int r)) I3 (recF F h k)) (hI2 : ∀ x, x = 0 ∨ 12 ≤ x → I2 x = recI I h k 1 x) (hI3 : ∀ x, OM x → I3 x = recM I2 k x) (hop : RR I2 1 (I3 128) n2 w2) : ST l E I F M4 M5 A := by
  have k6 := h0.1.1
  have e2 : ∀ x, 105 ≤ x → I2 x = I x := fun x hx => (hI2 x (by omega)).trans (recI_fr hb k6 (by omega))
  have e3 : ∀ x, x ≤ 126 → I3 x = I2 x := fun x hx => (hI3 x ⟨by omega, by omega, by omega⟩).trans (recM_fr I2 k (by omega) (by omega))
  have e37 : ∀ y, y ≠ 3 → I3 127 y = I 127 y := fun y hy => by rw [hI3 127 ⟨by omega, by omega, by omega⟩, recM_127 I2 k y hy, e2 127 (by omega)]
  refine ⟨r, I2, recF F h k, I3, c4, c5, INV_rec (I2 := I2) (pl := pl) (pl2 := pl) (n2 := n2) (w2 := w2) hl hb h0 hR hS (fun x hx => ?_) ⟨e2 128 (by omega), e2 130 (by omega), e2 131 (by omega), e2 132 (by omega)⟩ (fun x x1 x2 => hI3 x ⟨by omega, by omega, by omega⟩) (by rw [hI3 127 ⟨by omega, by omega, by omega⟩]) (hP.of ?_ ?_ ?_ ?_) ?_ (RR_obs (CE.same (fun x x1 x2 => e3 x (by omega))) (fun _ _ => rfl) hop)⟩
  · rw [e3 x (by omega), hI2 x (by omega)]
  · rw [e3 23 (by omega), hI2 23 (by omega), recI_fr hb k6 (by omega)]
  · rw [e3 24 (by omega), hI2 24 (by omega), recI_fr hb k6 (by omega)]
  · rw [hI3 133 ⟨by omega, by omega, by omega⟩, recM_fr I2 k (by omega) (by omega), e2 133 (by omega)]
  · exact e37 7 (by omega)
  · rw [e37 10 (by omega)]; exact hj
/-- what both sides run a change on -/
theorem RR_start {I I2 : Mi} {F : Mr} {h : Nat → Nat} {k n w : Nat} (hb : HB F h) (k6 : k ≤ 6) (hR : RR I 1 (I 128) n w) (hI2 : I2 128 = I 128) : RR (recI I h k 1) 1 (recM I2 k 128) n w :=
  RR_obs (CE.same (fun x x1 x2 => recI_fr hb k6 (by omega))) (fun y _ => by rw [recM_128, hI2]) hR
theorem NW0_ag {I2 I : Mi} {a n w b : Nat} {K2 K : Kr} (hC : (∀ f, f ≠ 13 → f ≠ 14 → I2 a f = I a f) ∧ ∀ c, 1 ≤ c → c ≤ 9 → ∀ i, i < 8 → I2 (a + c) i = I (a + c) i) (hK : ∀ y, 2 ≤ y → y < 96 → K2 y = K y) (h : NW0 I a K n w b) : NW0 I2 a K2 n w b := by
  obtain ⟨⟨h8, ⟨a0, a1⟩, hS, hA⟩, ⟨hw, ⟨b0, b1⟩, q, q1, q2⟩, ⟨v0, v1, v2, v3⟩, hV, hAV⟩ := h
  obtain ⟨c0, c1⟩ := hC
  refine ⟨⟨h8, ⟨by rw [c0 0 (by omega) (by omega), a0], by rw [hK 2 (by omega) (by omega), a1]⟩, fun i hi => ?_, fun i h1 h2 => ?_⟩, ⟨hw, ⟨by rw [c0 12 (by omega) (by omega), b0], by rw [hK 7 (by omega) (by omega), b1]⟩, q, fun k hk => ?_, q2⟩, ⟨by rw [c0 15 (by omega) (by omega), hK 3 (by omega) (by omega), v0], by rw [c0 16 (by omega) (by omega), hK 5 (by omega) (by omega), v1], by rw [c0 17 (by omega) (by omega), hK 6 (by omega) (by omega), v2], ?_⟩, fun i hi => ?_, fun i h1 h2 => ?_⟩
  · have hi8 : i < 8 := by omega
    have s := hS i hi
    unfold SI at s ⊢
    rw [c1 1 (by omega) (by omega) i hi8, c1 2 (by omega) (by omega) i hi8, c1 3 (by omega) (by omega) i hi8, c1 4 (by omega) (by omega) i hi8, c1 7 (by omega) (by omega) i hi8, hK _ (by omega) (by omega), hK _ (by omega) (by omega), hK _ (by omega) (by omega), hK _ (by omega) (by omega), hK _ (by omega) (by omega)]
    exact s
  · have s := hA i h1 h2
    unfold AI at s ⊢
    rw [c1 4 (by omega) (by omega) i h2, c1 3 (by omega) (by omega) i h2, c1 7 (by omega) (by omega) i h2]
    exact s
  · obtain ⟨z0, z1, z2, z3, z4⟩ := q1 k hk
    exact ⟨z0, z1, by rw [c1 9 (by omega) (by omega) k z0, z2], by rw [hK _ (by omega) (by omega), z3], by rw [c1 4 (by omega) (by omega) _ (by omega), z4]⟩
  · rw [hK 4 (by omega) (by omega), ← v3, sumC_sm, sumC_sm]
    exact sm_congr (fun i hi => c1 8 (by omega) (by omega) i hi)
  · have hi8 : i < 8 := by omega
    have s := hV i hi
    unfold VI at s ⊢
    rw [c1 5 (by omega) (by omega) i hi8, c1 6 (by omega) (by omega) i hi8, c1 8 (by omega) (by omega) i hi8, c0 1 (by omega) (by omega), c0 2 (by omega) (by omega), hK _ (by omega) (by omega), hK _ (by omega) (by omega), hK _ (by omega) (by omega), hK _ (by omega) (by omega), hK _ (by omega) (by omega)]
    exact s
  · have s := hAV i h1 h2
    unfold AV at s ⊢
    rw [c1 5 (by omega) (by omega) i h2, c1 6 (by omega) (by omega) i h2, c1 8 (by omega) (by omega) i h2, c0 1 (by omega) (by omega), c0 2 (by omega) (by omega)]
    exact s
theorem RR_set0 {X Y : Mi} {n w : Nat} {y : Int32} (h : RR X 1 (Y 128) n w) : RR (up X 1 13 y) 1 (up Y 128 0 y 128) n w := by
  refine (NW0_ag ⟨fun f h1 h2 => by rw [uc4, if_neg h1], fun c c1 c9 i hi => by rw [up_ne (by omega)]⟩ (fun z h1 h2 => by rw [uc4, if_neg (by omega)]) (NW0_of h)).to ?_ ?_
  · rw [uc4, if_pos rfl, uc4, if_pos rfl]
  · rw [uc4, if_neg (by omega), uc4, if_neg (by omega)]; exact h.1.1.2.1.2.2.2
theorem RR_set1 {X Y : Mi} {n w : Nat} {y : Int32} (h : RR X 1 (Y 128) n w) : RR (up X 1 14 y) 1 (up Y 128 1 y 128) n w := by
  refine (NW0_ag ⟨fun f h1 h2 => by rw [uc4, if_neg h2], fun c c1 c9 i hi => by rw [up_ne (by omega)]⟩ (fun z h1 h2 => by rw [uc4, if_neg (by omega)]) (NW0_of h)).to ?_ ?_
  · rw [uc4, if_neg (by omega), uc4, if_neg (by omega)]; exact h.1.1.2.1.2.2.1
  · rw [uc4, if_pos rfl, uc4, if_pos rfl]
theorem has_cases {I J : Mi} {n w : Nat} (h : RS I 1 (J 128) n w) (x : Int32) : (∃ i, i < n ∧ x = nI i ∧ hasC I 1 x = true ∧ isIM J x = true) ∨ (hasC I 1 x = false ∧ isIM J x = false) := by
  have h8 := h.1.1
  have e1 : I 1 0 = nI n := h.1.2.1.1
  have e2 : J 128 2 = nI n := h.1.2.1.2.1
  have yes : ∀ i, i < n → hasC I 1 (nI i) = true ∧ isIM J (nI i) = true := fun i hi => by
    unfold hasC isIM isW
    rw [e1, e2, isP_n (by omega)]
    refine ⟨?_, ?_⟩
    · simp only [Bool.true_and, decide_eq_true_eq]
      exact nI_ge hi (by omega)
    · rw [nI_dec (by omega)]
      simp only [Bool.and_eq_true, decide_eq_true_eq]
      exact ⟨nI_pos (by omega), nI_nlt (by omega) (by omega)⟩
  by_cases g : hasC I 1 x = true
  · have g' := g
    unfold hasC isP at g
    simp only [Bool.and_eq_true, decide_eq_true_eq] at g
    obtain ⟨j, hj, rfl⟩ := nI_of g.1.1
    rw [e1] at g
    have hjn : j < n := by
      rcases Nat.lt_or_ge j n with q | q
      · exact q
      · exact absurd (nI_le q hj) g.2
    exact Or.inl ⟨j, hjn, rfl, g', (yes j hjn).2⟩
  · by_cases g2 : isIM J x = true
    · have g3 := g2
      unfold isIM at g3
      rw [e2] at g3
      obtain ⟨j, hj, rfl⟩ := isW_nI h8 g3
      exact absurd (yes j hj).1 g
    · exact Or.inr ⟨by simpa using g, by simpa using g2⟩
section OPS
variable {l : Launch} {E : EE} {I : Mi} {F : Mr}
theorem st_set (H : INV I F) (x y : Int32) : ST l E I F mX4_set mX5_set [.int x, .int y] := by
  obtain ⟨hl, h, k, n, w, pl, hb, h0, hR, hS, hP, hj⟩ := id H
  have k6 := h0.1.1
  have e37 := h0.1.2.1
  have e127 := h0.1.2.2
  have c4 := tX4_set (l := l) (E := E) hl hb k6 e37 x y
  by_cases x0 : x = 0
  · subst x0
    by_cases g : isW y 1 60 = true
    · have ex : xSet I F h k 0 y = (recI I h k 1 1 13, up (recI I h k 1) 1 13 y, recF F h k) := by
        unfold xSet xSetC
        rw [if_pos rfl, if_pos g]
      rw [ex] at c4
      have e3 : (up (recI I h k 1) 1 13 y) 127 3 = nI k := by rw [up_ne (show (127 : Nat) ≠ 1 by omega), recI_fr hb k6 (by omega), e127]
      have c5 := tX5_set (l := l) (E := E) (recF_LY (h := h) (k := k) hl) k6 e3 0 y
      have hs : RR (recI I h k 1) 1 (recM (up (recI I h k 1) 1 13 y) k 128) n w := RR_start hb k6 hR (by rw [up_ne (show (128 : Nat) ≠ 1 by omega), recI_fr hb k6 (by omega)])
      have ey : ySet (up (recI I h k 1) 1 13 y) k 0 y = (recI I h k 1 1 13, up (recM (up (recI I h k 1) 1 13 y) k) 128 0 y) := by
        unfold ySet vlM
        rw [if_pos rfl, if_pos g, show ix (0 : Int32) = 0 from rfl, hs.1.1.2.1.2.2.1]
      rw [ey] at c5
      exact ST_rec hl hb h0 hR hS hP hj c4 c5 (fun z hz => up_ne (by omega)) (fun z hz => up_ne hz.1) (RR_set0 hs)
    · have ex : xSet I F h k 0 y = (-2, I, F) := by
        unfold xSet xSetC
        rw [if_pos rfl, if_neg g]
      have ey : ySet I k 0 y = (-2, I) := by
        unfold ySet vlM
        rw [if_pos rfl, if_neg g]
      rw [ex] at c4
      have c5 := tX5_set (l := l) (E := E) hl k6 e127 0 y
      rw [ey] at c5
      exact ST_no H c4 c5
  · by_cases x1 : x = 1
    · subst x1
      by_cases g : isW y 0 1 = true
      · have ex : xSet I F h k 1 y = (recI I h k 1 1 14, up (recI I h k 1) 1 14 y, recF F h k) := by
          unfold xSet xSetA
          rw [if_neg x0, if_pos rfl, if_pos g]
        rw [ex] at c4
        have e3 : (up (recI I h k 1) 1 14 y) 127 3 = nI k := by rw [up_ne (show (127 : Nat) ≠ 1 by omega), recI_fr hb k6 (by omega), e127]
        have c5 := tX5_set (l := l) (E := E) (recF_LY (h := h) (k := k) hl) k6 e3 1 y
        have hs : RR (recI I h k 1) 1 (recM (up (recI I h k 1) 1 14 y) k 128) n w := RR_start hb k6 hR (by rw [up_ne (show (128 : Nat) ≠ 1 by omega), recI_fr hb k6 (by omega)])
        have ey : ySet (up (recI I h k 1) 1 14 y) k 1 y = (recI I h k 1 1 14, up (recM (up (recI I h k 1) 1 14 y) k) 128 1 y) := by
          unfold ySet vlM
          rw [if_neg x0, if_pos rfl, if_pos g, show ix (1 : Int32) = 1 from rfl, hs.1.1.2.1.2.2.2]
        rw [ey] at c5
        exact ST_rec hl hb h0 hR hS hP hj c4 c5 (fun z hz => up_ne (by omega)) (fun z hz => up_ne hz.1) (RR_set1 hs)
      · have ex : xSet I F h k 1 y = (-2, I, F) := by
          unfold xSet xSetA
          rw [if_neg x0, if_pos rfl, if_neg g]
        have ey : ySet I k 1 y = (-2, I) := by
          unfold ySet vlM
          rw [if_neg x0, if_pos rfl, if_neg g]
        rw [ex] at c4
        have c5 := tX5_set (l := l) (E := E) hl k6 e127 1 y
        rw [ey] at c5
        exact ST_no H c4 c5
    · have ex : xSet I F h k x y = (-2, I, F) := by
        unfold xSet
        rw [if_neg x0, if_neg x1]
      have ey : ySet I k x y = (-2, I) := by
        unfold ySet vlM
        rw [if_neg x0, if_neg x1, if_neg (by decide)]
      rw [ex] at c4
      have c5 := tX5_set (l := l) (E := E) hl k6 e127 x y
      rw [ey] at c5
      exact ST_no H c4 c5
theorem isW_19 {r : Int32} (h : isW r 1 9 = true) : ∃ z, 1 ≤ z ∧ z ≤ 9 ∧ r = nI z := by
  unfold isW at h
  simp only [Bool.and_eq_true, decide_eq_true_eq] at h
  have h0 : ¬ r < 0 := fun z => h.1 (Int32.lt_trans z (by decide))
  obtain ⟨j, hj, rfl⟩ := nI_of h0
  refine ⟨j, ?_, ?_, rfl⟩
  · rcases Nat.lt_or_ge j 1 with q | q
    · exact absurd (show nI j < 1 from nI_lt (b := 1) q (by omega)) h.1
    · exact q
  · rcases Nat.lt_or_ge 9 j with q | q
    · exact absurd (show (9 : Int32) < nI j from nI_lt (a := 9) q hj) h.2
    · exact q
theorem addC_fr (I : Mi) (a n : Nat) (iso keep r d m : Int32) {x : Nat} (h : x < a ∨ a + 4 < x) : addC I a n iso keep r d m x = I x := addC_ne h
theorem st_build (H : INV I F) (iso keep r d : Int32) : ST l E I F mX4_build mX5_build [.int iso, .int keep, .int r, .int d] := by
  obtain ⟨hl, h, k, n, w, pl, hb, h0, hR, hS, hP, hj⟩ := id H
  have k6 := h0.1.1
  have e37 := h0.1.2.1
  have e127 := h0.1.2.2
  have n8 := hR.1.1.1
  have en : I 1 0 = nI n := hR.1.1.2.1.1
  have em : I 128 2 = nI n := hR.1.1.2.1.2.1
  have c4 := tX4_build (l := l) (E := E) hl hb k6 e37 n8 en iso keep r d
  by_cases g1 : isW r 1 9 = true
  · by_cases g2 : isW d 1 20 = true
    · by_cases g3 : n < 8
      · have ex : xBuild I F h k n iso keep r d = (nI n, addC (recI I h k 1) 1 n iso keep r d 0, recF F h k) := by
          unfold xBuild
          rw [if_pos g1, if_pos g2, if_pos (by rw [en]; exact nI_lt (b := 8) g3 (by omega)), recI_fr hb k6 (by omega), en]
        rw [ex] at c4
        have e2 : ∀ x, x = 0 ∨ 12 ≤ x → addC (recI I h k 1) 1 n iso keep r d 0 x = recI I h k 1 x := fun x hx => addC_ne (by omega)
        have e3 : addC (recI I h k 1) 1 n iso keep r d 0 127 3 = nI k := by rw [e2 127 (by omega), recI_fr hb k6 (by omega), e127]
        have e4 : addC (recI I h k 1) 1 n iso keep r d 0 128 = I 128 := by rw [e2 128 (by omega), recI_fr hb k6 (by omega)]
        have c5 := tX5_build (l := l) (E := E) (recF_LY (h := h) (k := k) hl) k6 e3 n8 (by rw [e4, em]) iso keep r d
        have hs := RR_start (I2 := addC (recI I h k 1) 1 n iso keep r d 0) hb k6 hR e4
        have ey : yBuild (addC (recI I h k 1) 1 n iso keep r d 0) k n iso keep r d = (nI n, cmM (recM (addC (recI I h k 1) 1 n iso keep r d 0) k) n (if iso = 0 then 0 else 1) (if keep = 0 then 0 else 1) r d 0) := by
          unfold yBuild
          rw [if_pos g1, if_pos g2, if_neg (by rw [e4, em]; intro z; have := (nI_eq (b := 8) (by omega) (by omega)).mp z; omega)]
        rw [ey] at c5
        exact ST_rec hl hb h0 hR hS hP hj c4 c5 e2 (fun z hz => cmM_ne hz.1) (RR_build hs g3 (isW_19 g1))
      · obtain rfl : n = 8 := by omega
        have ex : xBuild I F h k 8 iso keep r d = (-4, I, F) := by
          unfold xBuild
          rw [if_pos g1, if_pos g2, if_neg (by rw [en]; decide)]
        have ey : yBuild I k 8 iso keep r d = (-4, I) := by
          unfold yBuild
          rw [if_pos g1, if_pos g2, if_pos (by rw [em]; rfl)]
        rw [ex] at c4
        have c5 := tX5_build (l := l) (E := E) hl k6 e127 n8 em iso keep r d
        rw [ey] at c5
        exact ST_no H c4 c5
    · have ex : xBuild I F h k n iso keep r d = (-2, I, F) := by
        unfold xBuild
        rw [if_pos g1, if_neg g2]
      have ey : yBuild I k n iso keep r d = (-2, I) := by
        unfold yBuild
        rw [if_pos g1, if_neg g2]
      rw [ex] at c4
      have c5 := tX5_build (l := l) (E := E) hl k6 e127 n8 em iso keep r d
      rw [ey] at c5
      exact ST_no H c4 c5
  · have ex : xBuild I F h k n iso keep r d = (-2, I, F) := by
      unfold xBuild
      rw [if_neg g1]
    have ey : yBuild I k n iso keep r d = (-2, I) := by
      unfold yBuild
      rw [if_neg g1]
    rw [ex] at c4
    have c5 := tX5_build (l := l) (E := E) hl k6 e127 n8 em iso keep r d
    rw [ey] at c5
    exact ST_no H c4 c5
end OPS
