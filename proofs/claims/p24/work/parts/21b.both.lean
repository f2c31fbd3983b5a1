/-! all islands, on both sides -/
theorem telL_eq {X I : Mi} {b k : Nat} (h : X (b + 1) = I (b + 1)) : telL X b k = telL I b k := by unfold telL sL; rw [h]
theorem noL_eq {X I : Mi} {b k : Nat} (h : X (b + 1) = I (b + 1)) : noL X b k = noL I b k := by unfold noL sL; rw [h]
theorem x1L_at {I : Mi} {b n : Nat} (hb : LB b) (hn5 : n ≤ 5) : ∀ k, k < n → x1L I b n 131 k = telL I b k ∧ x1L I b n 131 (8 + k) = noL I b k := by
  have ht := hb.t
  have key : (∀ k, k < n → lp (tl1 b) n I 131 k = telL I b k ∧ lp (tl1 b) n I 131 (8 + k) = noL I b k) ∧ lp (tl1 b) n I (b + 1) = I (b + 1) := by
    refine lp_ind (fun (m : Nat) (X : Mi) => (∀ k, k < m → X 131 k = telL I b k ∧ X 131 (8 + k) = noL I b k) ∧ X (b + 1) = I (b + 1)) ⟨fun k hk => absurd hk (Nat.not_lt_zero k), rfl⟩ (fun m X hm ih => ?_)
    obtain ⟨h1, h2⟩ := ih
    have e : up X 131 m (telL X b m) (b + 1) = I (b + 1) := (up_ne (by omega)).trans h2
    rw [tl1, noL_eq e, telL_eq h2]
    refine ⟨fun k hk => ?_, by rw [up_ne (show b + 1 ≠ 131 by omega), up_ne (show b + 1 ≠ 131 by omega), h2]⟩
    by_cases c : k = m
    · subst c
      rw [uc4, if_neg (by omega), uc4, if_pos rfl, uc4, if_pos rfl]
      exact ⟨rfl, rfl⟩
    · rw [uc4, if_neg (by omega), uc4, if_neg c, uc4, if_neg (by omega), uc4, if_neg (by omega)]
      exact h1 k (by omega)
  exact key.1
/-- the new value and the noise heard of island i -/
def vN (A : Nat → Int32) (v : Nat) (tn : Nat → Nat) (n : Nat) : Int32 := nI ((v + sN (bt (A 6)) tn n) % 256)
def nN (A : Nat → Int32) (nv : Nat → Int32) (n : Nat) : Int32 := sm (fun j => if bt (A 6) j = true then nv j else 0) n
theorem x2L_row {I : Mi} {b n : Nat} {v tn : Nat → Nat} {nv : Nat → Int32} (hb : LB b) (hn5 : n ≤ 5) (hv : ∀ i, i < n → v i < 256 ∧ sL I b i 4 = nI (v i)) (ht : ∀ m, m < n → tn m < 256 ∧ telL I b m = nI (tn m) ∧ noL I b m = nv m) :
    (∀ i, i < n → RowT (sL I b i) (sL (x2L I b n) b i) (vN (sL I b i) (v i) tn n) (nN (sL I b i) nv n)) ∧ (∀ i, sL (x2L I b n) b i 10 = sL I b i 10) ∧ x2L I b n b 4 = I b 4 + sm (fun i => if sL I b i 7 = 0 then nN (sL I b i) nv n else 0) n ∧ x2L I b n b 5 = I b 5 + sm (fun i => lostR (sL I b i)) n ∧ ∀ y, y ≠ 4 → y ≠ 5 → x2L I b n b y = I b y := by
  have ht3 := hb.t
  have e0 : x1L I b n (b + 1) = I (b + 1) := x1L_ne (by omega)
  have eb : x1L I b n b = I b := x1L_ne (by omega)
  have hT : ∀ m, m < n → tn m < 256 ∧ x1L I b n 131 m = nI (tn m) ∧ x1L I b n 131 (8 + m) = nv m := fun m hm => by
    obtain ⟨t1, t2, t3⟩ := ht m hm
    obtain ⟨a1, a2⟩ := x1L_at (I := I) hb hn5 m hm
    exact ⟨t1, a1.trans t2, a2.trans t3⟩
  have es : ∀ i p, sL (x1L I b n) b i p = sL I b i p := fun i p => by show x1L I b n (b + 1) _ = _; rw [e0]
  have key : (∀ i, i < n → RowT (sL I b i) (sL (lp (tl2 b n) n (x1L I b n)) b i) (vN (sL I b i) (v i) tn n) (nN (sL I b i) nv n)) ∧ (∀ i p, p < 12 → (n ≤ i ∨ 10 ≤ p) → sL (lp (tl2 b n) n (x1L I b n)) b i p = sL I b i p) ∧ lp (tl2 b n) n (x1L I b n) b 4 = I b 4 + sm (fun i => if sL I b i 7 = 0 then nN (sL I b i) nv n else 0) n ∧ lp (tl2 b n) n (x1L I b n) b 5 = I b 5 + sm (fun i => lostR (sL I b i)) n ∧ (∀ y, y ≠ 4 → y ≠ 5 → lp (tl2 b n) n (x1L I b n) b y = I b y) ∧ lp (tl2 b n) n (x1L I b n) 131 = x1L I b n 131 := by
    refine lp_ind (fun (k : Nat) (R : Mi) => (∀ i, i < k → RowT (sL I b i) (sL R b i) (vN (sL I b i) (v i) tn n) (nN (sL I b i) nv n)) ∧ (∀ i p, p < 12 → (k ≤ i ∨ 10 ≤ p) → sL R b i p = sL I b i p) ∧ R b 4 = I b 4 + sm (fun i => if sL I b i 7 = 0 then nN (sL I b i) nv n else 0) k ∧ R b 5 = I b 5 + sm (fun i => lostR (sL I b i)) k ∧ (∀ y, y ≠ 4 → y ≠ 5 → R b y = I b y) ∧ R 131 = x1L I b n 131) ⟨fun i hi => absurd hi (Nat.not_lt_zero i), fun i p _ _ => es i p, by rw [eb]; exact (Int32.add_zero _).symm, by rw [eb]; exact (Int32.add_zero _).symm, fun y _ _ => by rw [eb], rfl⟩ (fun k R hk ih => ?_)
    obtain ⟨h1, h2, h3, h4, h5, h6⟩ := ih
    have er : ∀ p, p < 12 → sL R b k p = sL I b k p := fun p hp => h2 k p hp (Or.inl (Nat.le_refl _))
    obtain ⟨v1, v2⟩ := hv k hk
    obtain ⟨g1, g2, g3, g4, g5, g6⟩ := tl2_row (I := R) (k := k) (tn := tn) (nv := nv) hb hn5 v1 ((er 4 (by omega)).trans v2) (fun m hm => by rw [h6]; exact hT m hm)
    have eA : ∀ p, p < 10 → sL R b k p = sL I b k p := fun p hp => er p (by omega)
    have l0 : lostR (sL R b k) = lostR (sL I b k) := by unfold lostR; rw [eA 7 (by omega), eA 1 (by omega), eA 4 (by omega)]
    rw [eA 6 (by omega)] at g1 g3
    rw [eA 7 (by omega)] at g3
    rw [l0] at g4
    have gT : RowT (sL I b k) (sL (tl2 b n k R) b k) (vN (sL I b k) (v k) tn n) (nN (sL I b k) nv n) := by
      obtain ⟨q0, q1, q2, q3, q4⟩ := g1
      rw [eA 7 (by omega)] at q1 q2 q3 q4
      rw [eA 1 (by omega), eA 4 (by omega), eA 5 (by omega), eA 8 (by omega), eA 9 (by omega)] at q2
      rw [eA 1 (by omega), eA 4 (by omega), eA 5 (by omega), eA 8 (by omega), eA 9 (by omega)] at q3
      rw [eA 5 (by omega), eA 8 (by omega), eA 9 (by omega)] at q1
      rw [eA 4 (by omega), eA 5 (by omega), eA 8 (by omega), eA 9 (by omega)] at q4
      exact ⟨fun p hp p4 p5 p7 p8 p9 => (q0 p hp p4 p5 p7 p8 p9).trans (eA p hp), q1, q2, q3, q4⟩
    refine ⟨fun i hi => ?_, fun i p hp hip => (g2 i p hp (by omega)).trans (h2 i p hp (by omega)), ?_, ?_, fun y y4 y5 => (g5 y y4 y5).trans (h5 y y4 y5), g6.trans h6⟩
    · by_cases c : i = k
      · subst c; exact gT
      · have hT2 := h1 i (by omega)
        have e2 : ∀ p, p < 10 → sL (tl2 b n k R) b i p = sL R b i p := fun p hp => g2 i p (by omega) (Or.inl c)
        obtain ⟨q0, q1, q2, q3, q4⟩ := hT2
        rw [← e2 4 (by omega), ← e2 5 (by omega), ← e2 7 (by omega), ← e2 8 (by omega), ← e2 9 (by omega)] at q1
        rw [← e2 4 (by omega), ← e2 5 (by omega), ← e2 7 (by omega), ← e2 8 (by omega), ← e2 9 (by omega)] at q2
        rw [← e2 4 (by omega), ← e2 5 (by omega), ← e2 7 (by omega), ← e2 8 (by omega), ← e2 9 (by omega)] at q3
        rw [← e2 4 (by omega), ← e2 5 (by omega), ← e2 7 (by omega), ← e2 8 (by omega), ← e2 9 (by omega)] at q4
        exact ⟨fun p hp p4 p5 p7 p8 p9 => (e2 p hp).trans (q0 p hp p4 p5 p7 p8 p9), q1, q2, q3, q4⟩
    · rw [g3, h3, Int32.add_assoc]
      rfl
    · rw [g4, h4, Int32.add_assoc]
      rfl
  exact ⟨key.1, fun i => key.2.1 i 10 (by omega) (Or.inr (Nat.le_refl _)), key.2.2.1, key.2.2.2.1, key.2.2.2.2.1⟩
/-! the reference's three loops -/
theorem gp1 (J : Mi) (i p j q : Nat) (v : Int32) (hp : p < 10) (hq : q < 10) : pt (sp J i p v) j q = if j = i ∧ q = p then v else pt J j q := um1 J i p j q v hp hq
def RowN (A B : Nat → Int32) (V S : Int32) : Prop := (∀ p, p < 10 → p ≠ 4 → p ≠ 9 → B p = A p) ∧ (A 7 = 0 → B 4 = V ∧ B 9 = A 9 + S) ∧ (¬ A 7 = 0 → B 4 = A 4 ∧ B 9 = A 9)
def RowF (A B : Nat → Int32) : Prop := (∀ p, p < 10 → p ≠ 4 → p ≠ 5 → p ≠ 7 → B p = A p) ∧ (A 7 = 1 → B 7 = 2 ∧ B 4 = 0 ∧ B 5 = if A 1 = 1 then A 4 else A 5) ∧ (¬ A 7 = 1 → B 7 = A 7 ∧ B 4 = A 4 ∧ B 5 = A 5)
def RowI (A B : Nat → Int32) : Prop := (∀ p, p < 10 → p ≠ 4 → p ≠ 7 → p ≠ 8 → B p = A p) ∧ (A 7 = 4 → B 8 = A 8 - 1 ∧ (A 8 - 1 = 0 → B 7 = 0 ∧ B 4 = if A 1 = 1 then A 5 else A 4) ∧ (¬ A 8 - 1 = 0 → B 7 = 4 ∧ B 4 = A 4)) ∧ (¬ A 7 = 4 → B 7 = A 7 ∧ B 4 = A 4 ∧ B 8 = A 8)
theorem RowT_of {A B C D : Nat → Int32} {V S : Int32} (h1 : RowN A B V S) (h2 : RowF B C) (h3 : RowI C D) : RowT A D V S := by
  obtain ⟨n0, n1, n2⟩ := h1
  obtain ⟨f0, f1, f2⟩ := h2
  obtain ⟨i0, i1, i2⟩ := h3
  have b7 : B 7 = A 7 := n0 7 (by omega) (by omega) (by omega)
  have d9 : D 9 = B 9 := (i0 9 (by omega) (by omega) (by omega) (by omega)).trans (f0 9 (by omega) (by omega) (by omega) (by omega))
  have d5 : D 5 = C 5 := i0 5 (by omega) (by omega) (by omega) (by omega)
  have c8 : C 8 = A 8 := (f0 8 (by omega) (by omega) (by omega) (by omega)).trans (n0 8 (by omega) (by omega) (by omega))
  have b5 : B 5 = A 5 := n0 5 (by omega) (by omega) (by omega)
  have b1 : B 1 = A 1 := n0 1 (by omega) (by omega) (by omega)
  have c1 : C 1 = A 1 := (f0 1 (by omega) (by omega) (by omega) (by omega)).trans b1
  refine ⟨fun p hp p4 p5 p7 p8 p9 => (i0 p hp p4 p7 p8).trans ((f0 p hp p4 p5 p7).trans (n0 p hp p4 p9)), fun h => ?_, fun h => ?_, fun h => ?_, fun g0 g1 g4 => ?_⟩
  · obtain ⟨m1, m2⟩ := n1 h
    obtain ⟨c7, c4, c5⟩ := f2 (by rw [b7, h]; decide)
    obtain ⟨k7, k4, k8⟩ := i2 (by rw [c7, b7, h]; decide)
    exact ⟨⟨k4.trans (c4.trans m1), d5.trans (c5.trans b5)⟩, k7.trans (c7.trans (b7.trans h)), k8.trans c8, d9.trans m2⟩
  · obtain ⟨m1, m2⟩ := n2 (by rw [h]; decide)
    obtain ⟨c7, c4, c5⟩ := f1 (b7.trans h)
    obtain ⟨k7, k4, k8⟩ := i2 (by rw [c7]; decide)
    rw [b1, m1, b5] at c5
    exact ⟨⟨k4.trans c4, d5.trans c5⟩, k7.trans c7, k8.trans c8, d9.trans m2⟩
  · obtain ⟨m1, m2⟩ := n2 (by rw [h]; decide)
    obtain ⟨c7, c4, c5⟩ := f2 (by rw [b7, h]; decide)
    obtain ⟨k8, ka, kb⟩ := i1 (c7.trans (b7.trans h))
    rw [c8] at k8 ka kb
    rw [c1, c5, b5, c4, m1] at ka
    rw [c4, m1] at kb
    exact ⟨ka, kb, d5.trans (c5.trans b5), k8, d9.trans m2⟩
  · obtain ⟨m1, m2⟩ := n2 g0
    obtain ⟨c7, c4, c5⟩ := f2 (by rw [b7]; exact g1)
    obtain ⟨k7, k4, k8⟩ := i2 (by rw [c7, b7]; exact g4)
    exact ⟨⟨k4.trans (c4.trans m1), d5.trans (c5.trans b5)⟩, k7.trans (c7.trans b7), k8.trans c8, d9.trans m2⟩
def nzJ (J : Mi) (k : Nat) : Int32 := if sureM J k = true then 0 else if pt J k 0 = 0 then 1 else 0
theorem nv_rows {J : Mi} {n : Nat} {v tn : Nat → Nat} (hn5 : n ≤ 5) (hv : ∀ i, i < n → v i < 256 ∧ pt J i 4 = nI (v i)) (ht : ∀ m, m < n → tn m < 256 ∧ tellM J m = nI (tn m)) :
    (∀ i, i < n → RowN (pt J i) (pt (nvM J n) i) (vN (pt J i) (v i) tn n) (nN (pt J i) (nzJ J) n)) ∧ nvM J n 128 4 = J 128 4 + sm (fun i => if pt J i 7 = 0 then nN (pt J i) (nzJ J) n else 0) n ∧ ∀ y, y < 16 → y ≠ 4 → nvM J n 128 y = J 128 y := by
  obtain ⟨m1, m2⟩ := nvM1_e J n
  have e128 : nvM1 J n 128 = J 128 := m1 128 (by decide) (by decide)
  have key : (∀ i, i < n → RowN (pt J i) (pt (lp (nv2 n) n (nvM1 J n)) i) (vN (pt J i) (v i) tn n) (nN (pt J i) (nzJ J) n)) ∧ (∀ i p, p < 10 → n ≤ i → pt (lp (nv2 n) n (nvM1 J n)) i p = pt J i p) ∧ lp (nv2 n) n (nvM1 J n) 128 4 = J 128 4 + sm (fun i => if pt J i 7 = 0 then nN (pt J i) (nzJ J) n else 0) n ∧ (∀ y, y < 16 → y ≠ 4 → lp (nv2 n) n (nvM1 J n) 128 y = J 128 y) ∧ ∀ x, x ≠ 128 → lp (nv2 n) n (nvM1 J n) x = nvM1 J n x := by
    refine lp_ind (fun (k : Nat) (R : Mi) => (∀ i, i < k → RowN (pt J i) (pt R i) (vN (pt J i) (v i) tn n) (nN (pt J i) (nzJ J) n)) ∧ (∀ i p, p < 10 → k ≤ i → pt R i p = pt J i p) ∧ R 128 4 = J 128 4 + sm (fun i => if pt J i 7 = 0 then nN (pt J i) (nzJ J) n else 0) k ∧ (∀ y, y < 16 → y ≠ 4 → R 128 y = J 128 y) ∧ ∀ x, x ≠ 128 → R x = nvM1 J n x) ⟨fun i hi => absurd hi (Nat.not_lt_zero i), fun i p _ _ => by show nvM1 J n 128 _ = _; rw [e128], by rw [e128]; exact (Int32.add_zero _).symm, fun y _ _ => by rw [e128], fun _ _ => rfl⟩ (fun k R hk ih => ?_)
    obtain ⟨h1, h2, h3, h4, h5⟩ := ih
    obtain ⟨v1, v2⟩ := hv k hk
    have er : ∀ p, p < 10 → pt R k p = pt J k p := fun p hp => h2 k p hp (Nat.le_refl _)
    obtain ⟨e1, e2, e3, e4, e5⟩ := nvI_e k R n
    have hr : ∀ m, m < n → rdM R k (nI m) = bt (pt J k 6) m := fun m hm => by rw [rdM_bt _ _ (by omega), er 6 (by omega)]
    have eS : sm (fun j => if rdM R k (nI j) = true then R 135 j else 0) n = nN (pt J k) (nzJ J) n := sm_congr (fun j hj => by rw [hr j hj, h5 135 (by decide), (m2 j hj).2]; rfl)
    have eT : sm (fun j => if rdM R k (nI j) = true then R 134 j else 0) n = nI (sN (bt (pt J k 6)) tn n) := by
      rw [← sN_sm (c := bt (pt J k 6)) (g := tellM J) (fun j hj => (ht j hj).2)]
      exact sm_congr (fun j hj => by rw [hr j hj, h5 134 (by decide), (m2 j hj).1])
    rw [eS] at e1 e2
    rw [eT, er 4 (by omega), v2, nI_add] at e3
    have hsN := sN_le (c := bt (pt J k 6)) (f := tn) (m := n) (fun j hj => (ht j hj).1)
    have keep : ∀ (Z : Mi) (z : Int32), (∀ i p, p < 10 → i ≠ k → pt Z i p = pt R i p) → ∀ i p, p < 10 → i ≠ k → pt (sp Z k 4 z) i p = pt R i p := fun Z z hZ i p hp hi => by rw [gp1 _ _ _ _ _ _ (by omega) hp, if_neg (by omega)]; exact hZ i p hp hi
    have fin : ∀ W : Mi, RowN (pt J k) (pt W k) (vN (pt J k) (v k) tn n) (nN (pt J k) (nzJ J) n) → (∀ i p, p < 10 → i ≠ k → pt W i p = pt R i p) → W 128 4 = R 128 4 + (if pt J k 7 = 0 then nN (pt J k) (nzJ J) n else 0) → (∀ y, y < 16 → y ≠ 4 → W 128 y = R 128 y) → (∀ x, x ≠ 128 → W x = R x) → ((∀ i, i < k + 1 → RowN (pt J i) (pt W i) (vN (pt J i) (v i) tn n) (nN (pt J i) (nzJ J) n)) ∧ (∀ i p, p < 10 → k + 1 ≤ i → pt W i p = pt J i p) ∧ W 128 4 = J 128 4 + sm (fun i => if pt J i 7 = 0 then nN (pt J i) (nzJ J) n else 0) (k + 1) ∧ (∀ y, y < 16 → y ≠ 4 → W 128 y = J 128 y) ∧ ∀ x, x ≠ 128 → W x = nvM1 J n x) := fun W w1 w2 w3 w4 w5 => by
      refine ⟨fun i hi => ?_, fun i p hp hi => (w2 i p hp (by omega)).trans (h2 i p hp (by omega)), ?_, fun y y1 y2 => (w4 y y1 y2).trans (h4 y y1 y2), fun x hx => (w5 x hx).trans (h5 x hx)⟩
      · by_cases c : i = k
        · subst c; exact w1
        · obtain ⟨q0, q1, q2⟩ := h1 i (by omega)
          have e : ∀ p, p < 10 → pt W i p = pt R i p := fun p hp => w2 i p hp c
          refine ⟨fun p hp p4 p9 => (e p hp).trans (q0 p hp p4 p9), fun h => ?_, fun h => ?_⟩
          · rw [e 4 (by omega), e 9 (by omega)]; exact q1 h
          · rw [e 4 (by omega), e 9 (by omega)]; exact q2 h
      · rw [w3, h3, Int32.add_assoc]
        rfl
    unfold nv2
    by_cases c : pt J k 7 = 0
    · rw [if_pos (show decide (pt R k 7 = 0) = true by rw [er 7 (by omega)]; exact decide_eq_true c)]
      have hZ : ∀ i p, p < 10 → i ≠ k → pt (nvI k n R).1 i p = pt R i p := fun i p hp hi => e5 _ (by omega) (by omega)
      refine fin _ ⟨fun p hp p4 p9 => ?_, fun _ => ⟨?_, ?_⟩, fun h => absurd c h⟩ (keep _ _ hZ) ?_ (fun y y1 y2 => ?_) (fun x hx => ?_)
      · rw [gp1 _ _ _ _ _ _ (by omega) hp, if_neg (by omega)]
        exact (e5 _ (by omega) (by omega)).trans (er p hp)
      · rw [gp1 _ _ _ _ _ _ (by omega) (by omega), if_pos ⟨rfl, rfl⟩, e3]
        exact (md_255 _ (by omega)).1
      · rw [gp1 _ _ _ _ _ _ (by omega) (by omega), if_neg (by omega), e2, er 9 (by omega)]
      · rw [sp_lo (by omega), e1, if_pos c]
      · rw [sp_lo y1]
        exact e5 y y2 (by omega)
      · rw [spn hx]; exact e4 x hx
    · rw [if_neg (show ¬ decide (pt R k 7 = 0) = true by rw [er 7 (by omega)]; simpa using c)]
      refine fin _ ⟨fun p hp p4 p9 => ?_, fun h => absurd h c, fun _ => ⟨?_, ?_⟩⟩ (keep _ _ (fun _ _ _ _ => rfl)) ?_ (fun y y1 y2 => sp_lo y1) (fun x hx => spn hx)
      · rw [gp1 _ _ _ _ _ _ (by omega) hp, if_neg (by omega)]
        exact er p hp
      · rw [gp1 _ _ _ _ _ _ (by omega) (by omega), if_pos ⟨rfl, rfl⟩, er 4 (by omega), v2, (md_255 _ (by omega)).1, Nat.mod_eq_of_lt v1]
      · rw [gp1 _ _ _ _ _ _ (by omega) (by omega), if_neg (by omega)]
        exact er 9 (by omega)
      · rw [sp_lo (by omega), if_neg c, Int32.add_zero]
  exact ⟨key.1, key.2.2.1, key.2.2.2.1⟩
theorem fa_one (J : Mi) (i : Nat) (hi : i < 8) : RowF (pt J i) (pt (fa1 i J) i) ∧ (∀ j p, j < 8 → p < 10 → j ≠ i → pt (fa1 i J) j p = pt J j p) ∧ fa1 i J 128 5 = J 128 5 + (if pt J i 7 = 1 then (if pt J i 1 = 1 then 0 else if pt J i 4 ≤ 0 then 0 else 1) else 0) ∧ ∀ y, y < 16 → y ≠ 5 → fa1 i J 128 y = J 128 y := by
  by_cases c : pt J i 7 = 1
  · obtain ⟨⟨⟨s0, s1, s2⟩, s3, ⟨s4, s5⟩, s6⟩, q7, q8⟩ := fa1_S J i hi c
    obtain ⟨⟨⟨w0, w1, w2⟩, w3, ⟨w4, w5⟩, w6⟩, w7⟩ := fa1_V J i hi c
    refine ⟨⟨fun p hp p4 p5 p7 => ?_, fun _ => ⟨s4, w4, w5⟩, fun h => absurd c h⟩, fun j p hj hp hji => ?_, by rw [w7, if_pos c], fun y y1 y2 => ?_⟩
    · rcases (show p = 0 ∨ p = 1 ∨ p = 2 ∨ p = 3 ∨ p = 6 ∨ p = 8 ∨ p = 9 by omega) with rfl | rfl | rfl | rfl | rfl | rfl | rfl
      · exact (w3 i hi).1
      · exact (w3 i hi).2.1
      · exact (s3 i hi).1
      · exact (s3 i hi).2.1
      · exact (s3 i hi).2.2
      · exact s5
      · exact (w3 i hi).2.2
    · rcases (show p = 0 ∨ p = 1 ∨ p = 2 ∨ p = 3 ∨ p = 4 ∨ p = 5 ∨ p = 6 ∨ p = 7 ∨ p = 8 ∨ p = 9 by omega) with rfl | rfl | rfl | rfl | rfl | rfl | rfl | rfl | rfl | rfl
      · exact (w3 j hj).1
      · exact (w3 j hj).2.1
      · exact (s3 j hj).1
      · exact (s3 j hj).2.1
      · exact (w6 j hj hji).1
      · exact (w6 j hj hji).2
      · exact (s3 j hj).2.2
      · exact (s6 j hj hji).1
      · exact (s6 j hj hji).2
      · exact (w3 j hj).2.2
    · rcases (show y = 0 ∨ y = 1 ∨ y = 2 ∨ y = 3 ∨ y = 4 ∨ y = 6 ∨ y = 7 ∨ 8 ≤ y by omega) with rfl | rfl | rfl | rfl | rfl | rfl | rfl | h8
      · exact s0
      · exact s1
      · exact s2
      · exact w0
      · exact w1
      · exact w2
      · exact q7
      · obtain ⟨k, rfl⟩ : ∃ k, y = 8 + k := ⟨y - 8, by omega⟩
        exact q8 k (by omega)
  · rw [fa1_no c, if_neg c, Int32.add_zero]
    exact ⟨⟨fun _ _ _ _ _ => rfl, fun h => absurd h c, fun _ => ⟨rfl, rfl, rfl⟩⟩, fun _ _ _ _ _ => rfl, rfl, fun _ _ _ => rfl⟩
theorem ri_one (J : Mi) (i : Nat) : RowI (pt J i) (pt (ri1 i J) i) ∧ (∀ j p, p < 10 → j ≠ i → pt (ri1 i J) j p = pt J j p) ∧ ∀ y, y < 16 → ri1 i J 128 y = J 128 y := by
  by_cases c : pt J i 7 = 4
  · unfold ri1
    rw [if_pos (decide_eq_true c), ptp]
    have g : ∀ (Z : Mi) p q v, p < 10 → q < 10 → q ≠ p → pt (sp Z i p v) i q = pt Z i q := fun Z p q v hp hq h => by rw [gp1 _ _ _ _ _ _ hp hq, if_neg (by omega)]
    have g' : ∀ (Z : Mi) p q v j, p < 10 → q < 10 → j ≠ i → pt (sp Z i p v) j q = pt Z j q := fun Z p q v j hp hq h => by rw [gp1 _ _ _ _ _ _ hp hq, if_neg (by omega)]
    by_cases c8 : pt J i 8 - 1 = 0
    · rw [if_pos c8, g _ 7 1 _ (by omega) (by omega) (by omega), g _ 8 1 _ (by omega) (by omega) (by omega), g _ 7 5 _ (by omega) (by omega) (by omega), g _ 8 5 _ (by omega) (by omega) (by omega), g _ 7 4 _ (by omega) (by omega) (by omega), g _ 8 4 _ (by omega) (by omega) (by omega)]
      refine ⟨⟨fun p hp p4 p7 p8 => ?_, fun _ => ⟨?_, fun _ => ⟨?_, ptp _ _ _ _⟩, fun h => absurd c8 h⟩, fun h => absurd c h⟩, fun j p hp hj => ?_, fun y hy => ?_⟩
      · rw [g _ 4 p _ (by omega) hp p4, g _ 7 p _ (by omega) hp p7, g _ 8 p _ (by omega) hp p8]
      · rw [g _ 4 8 _ (by omega) (by omega) (by omega), g _ 7 8 _ (by omega) (by omega) (by omega), ptp]
      · rw [g _ 4 7 _ (by omega) (by omega) (by omega), ptp]
      · rw [g' _ 4 p _ j (by omega) hp hj, g' _ 7 p _ j (by omega) hp hj, g' _ 8 p _ j (by omega) hp hj]
      · rw [sp_lo hy, sp_lo hy, sp_lo hy]
    · rw [if_neg c8]
      refine ⟨⟨fun p hp p4 p7 p8 => ?_, fun _ => ⟨ptp _ _ _ _, fun h => absurd h c8, fun _ => ⟨?_, ?_⟩⟩, fun h => absurd c h⟩, fun j p hp hj => ?_, fun y hy => ?_⟩
      · rw [g _ 8 p _ (by omega) hp p8]
      · rw [g _ 8 7 _ (by omega) (by omega) (by omega), c]
      · rw [g _ 8 4 _ (by omega) (by omega) (by omega)]
      · rw [g' _ 8 p _ j (by omega) hp hj]
      · rw [sp_lo hy]
  · rw [ri1_no c]
    exact ⟨⟨fun _ _ _ _ _ => rfl, fun h => absurd h c, fun _ => ⟨rfl, rfl, rfl⟩⟩, fun _ _ _ _ => rfl, fun _ _ => rfl⟩
theorem fa_rows (J : Mi) {n : Nat} (hn : n ≤ 8) : (∀ i, i < n → RowF (pt J i) (pt (faM J n) i)) ∧ faM J n 128 5 = J 128 5 + sm (fun i => if pt J i 7 = 1 then (if pt J i 1 = 1 then 0 else if pt J i 4 ≤ 0 then 0 else 1) else 0) n ∧ ∀ y, y < 16 → y ≠ 5 → faM J n 128 y = J 128 y := by
  have key : (∀ i, i < n → RowF (pt J i) (pt (lp fa1 n J) i)) ∧ (∀ i p, i < 8 → p < 10 → n ≤ i → pt (lp fa1 n J) i p = pt J i p) ∧ lp fa1 n J 128 5 = J 128 5 + sm (fun i => if pt J i 7 = 1 then (if pt J i 1 = 1 then 0 else if pt J i 4 ≤ 0 then 0 else 1) else 0) n ∧ ∀ y, y < 16 → y ≠ 5 → lp fa1 n J 128 y = J 128 y := by
    refine lp_ind (fun (k : Nat) (R : Mi) => (∀ i, i < k → RowF (pt J i) (pt R i)) ∧ (∀ i p, i < 8 → p < 10 → k ≤ i → pt R i p = pt J i p) ∧ R 128 5 = J 128 5 + sm (fun i => if pt J i 7 = 1 then (if pt J i 1 = 1 then 0 else if pt J i 4 ≤ 0 then 0 else 1) else 0) k ∧ ∀ y, y < 16 → y ≠ 5 → R 128 y = J 128 y) ⟨fun i hi => absurd hi (Nat.not_lt_zero i), fun _ _ _ _ _ => rfl, (Int32.add_zero _).symm, fun _ _ _ => rfl⟩ (fun k R hk ih => ?_)
    obtain ⟨h1, h2, h3, h4⟩ := ih
    obtain ⟨g1, g2, g3, g4⟩ := fa_one R k (by omega)
    have er : ∀ p, p < 10 → pt R k p = pt J k p := fun p hp => h2 k p (by omega) hp (Nat.le_refl _)
    rw [er 7 (by omega), er 1 (by omega), er 4 (by omega)] at g3
    refine ⟨fun i hi => ?_, fun i p i8 hp hi => (g2 i p i8 hp (by omega)).trans (h2 i p i8 hp (by omega)), ?_, fun y y1 y2 => (g4 y y1 y2).trans (h4 y y1 y2)⟩
    · by_cases c : i = k
      · subst c
        obtain ⟨q0, q1, q2⟩ := g1
        rw [er 7 (by omega)] at q1 q2
        rw [er 1 (by omega), er 4 (by omega), er 5 (by omega)] at q1
        rw [er 4 (by omega), er 5 (by omega)] at q2
        exact ⟨fun p hp p4 p5 p7 => (q0 p hp p4 p5 p7).trans (er p hp), q1, q2⟩
      · obtain ⟨q0, q1, q2⟩ := h1 i (by omega)
        have e : ∀ p, p < 10 → pt (fa1 k R) i p = pt R i p := fun p hp => g2 i p (by omega) hp c
        refine ⟨fun p hp p4 p5 p7 => (e p hp).trans (q0 p hp p4 p5 p7), fun h => ?_, fun h => ?_⟩
        · rw [e 7 (by omega), e 4 (by omega), e 5 (by omega)]; exact q1 h
        · rw [e 7 (by omega), e 4 (by omega), e 5 (by omega)]; exact q2 h
    · rw [g3, h3, Int32.add_assoc]
      rfl
  exact ⟨key.1, key.2.2⟩
theorem ri_rows (J : Mi) (n : Nat) : (∀ i, i < n → RowI (pt J i) (pt (riM J n) i)) ∧ ∀ y, y < 16 → riM J n 128 y = J 128 y := by
  have key : (∀ i, i < n → RowI (pt J i) (pt (lp ri1 n J) i)) ∧ (∀ i p, p < 10 → n ≤ i → pt (lp ri1 n J) i p = pt J i p) ∧ ∀ y, y < 16 → lp ri1 n J 128 y = J 128 y := by
    refine lp_ind (fun (k : Nat) (R : Mi) => (∀ i, i < k → RowI (pt J i) (pt R i)) ∧ (∀ i p, p < 10 → k ≤ i → pt R i p = pt J i p) ∧ ∀ y, y < 16 → R 128 y = J 128 y) ⟨fun i hi => absurd hi (Nat.not_lt_zero i), fun _ _ _ _ => rfl, fun _ _ => rfl⟩ (fun k R hk ih => ?_)
    obtain ⟨h1, h2, h4⟩ := ih
    obtain ⟨g1, g2, g4⟩ := ri_one R k
    have er : ∀ p, p < 10 → pt R k p = pt J k p := fun p hp => h2 k p hp (Nat.le_refl _)
    refine ⟨fun i hi => ?_, fun i p hp hi => (g2 i p hp (by omega)).trans (h2 i p hp (by omega)), fun y y1 => (g4 y y1).trans (h4 y y1)⟩
    by_cases c : i = k
    · subst c
      obtain ⟨q0, q1, q2⟩ := g1
      rw [er 7 (by omega)] at q1 q2
      rw [er 1 (by omega), er 4 (by omega), er 5 (by omega), er 8 (by omega)] at q1
      rw [er 4 (by omega), er 8 (by omega)] at q2
      exact ⟨fun p hp p4 p5 p7 => (q0 p hp p4 p5 p7).trans (er p hp), q1, q2⟩
    · obtain ⟨q0, q1, q2⟩ := h1 i (by omega)
      have e : ∀ p, p < 10 → pt (ri1 k R) i p = pt R i p := fun p hp => g2 i p hp c
      refine ⟨fun p hp p4 p5 p7 => (e p hp).trans (q0 p hp p4 p5 p7), fun h => ?_, fun h => ?_⟩
      · rw [e 7 (by omega), e 4 (by omega), e 8 (by omega)]; exact q1 h
      · rw [e 7 (by omega), e 4 (by omega), e 8 (by omega)]; exact q2 h
  exact ⟨key.1, key.2.2⟩
