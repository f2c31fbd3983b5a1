/-! an island is added, both ways; chips without islands -/
theorem clearC_f (I : Mi) (a : Nat) : (∀ f, f = 0 ∨ f = 1 ∨ f = 2 ∨ f = 12 ∨ f = 15 ∨ f = 16 ∨ f = 17 → clearC I a a f = 0) ∧ clearC I a a 13 = I a 13 ∧ clearC I a a 14 = I a 14 ∧ ∀ c, 1 ≤ c → c ≤ 9 → ∀ i, i < 8 → clearC I a (a + c) i = if c = 4 then -1 else 0 := by
  have key : ∀ n, n ≤ 8 → lp (clrB a) n (clrS I a) a = clrS I a a ∧ ∀ c, 1 ≤ c → c ≤ 9 → ∀ i, i < n → lp (clrB a) n (clrS I a) (a + c) i = if c = 4 then -1 else 0 := fun n => by
    induction n with
    | zero => exact fun _ => ⟨rfl, fun c _ _ i hi => absurd hi (Nat.not_lt_zero i)⟩
    | succ n ih =>
      intro hn
      obtain ⟨h1, h2⟩ := ih (by omega)
      refine ⟨?_, fun c c1 c9 i hi => ?_⟩
      · show clrB a n (lp (clrB a) n (clrS I a)) a = _
        unfold clrB
        rw [up_ne (by omega), up_ne (by omega), up_ne (by omega), up_ne (by omega), up_ne (by omega), up_ne (by omega), up_ne (by omega), up_ne (by omega), up_ne (by omega)]
        exact h1
      · show clrB a n (lp (clrB a) n (clrS I a)) (a + c) i = _
        have g : clrB a n (lp (clrB a) n (clrS I a)) (a + c) i = if i = n then (if c = 4 then -1 else 0) else lp (clrB a) n (clrS I a) (a + c) i := by
          generalize lp (clrB a) n (clrS I a) = X
          unfold clrB
          rcases (show c = 1 ∨ c = 2 ∨ c = 3 ∨ c = 4 ∨ c = 5 ∨ c = 6 ∨ c = 7 ∨ c = 8 ∨ c = 9 by omega) with rfl | rfl | rfl | rfl | rfl | rfl | rfl | rfl | rfl <;>
            simp only [uc1, Nat.reduceEqDiff, reduceIte, false_and, true_and]
        rw [g]
        by_cases ci : i = n
        · rw [if_pos ci]
        · rw [if_neg ci]; exact h2 c c1 c9 i (by omega)
  obtain ⟨k1, k2⟩ := key 8 (Nat.le_refl _)
  unfold clearC
  refine ⟨fun f hf => ?_, ?_, ?_, k2⟩
  · rw [k1]
    unfold clrS
    rcases hf with rfl | rfl | rfl | rfl | rfl | rfl | rfl <;> simp only [uc4, Nat.reduceEqDiff, reduceIte]
  · rw [k1]
    unfold clrS
    simp only [uc4, Nat.reduceEqDiff, reduceIte]
  · rw [k1]
    unfold clrS
    simp only [uc4, Nat.reduceEqDiff, reduceIte]
theorem addC_f (I : Mi) (a n : Nat) (iso keep r d m : Int32) : (addC I a n iso keep r d m a 0 = I a 0 + 1 ∧ addC I a n iso keep r d m a 1 = (if iso = 0 then I a 1 else I a 1 ||| sh1 n) ∧ addC I a n iso keep r d m a 2 = (if keep = 0 then I a 2 else I a 2 ||| sh1 n) ∧ ∀ f, 2 < f → addC I a n iso keep r d m a f = I a f) ∧ ∀ j, (addC I a n iso keep r d m (a + 1) j = (if j = n then r else I (a + 1) j) ∧ addC I a n iso keep r d m (a + 2) j = (if j = n then d else I (a + 2) j) ∧ addC I a n iso keep r d m (a + 3) j = (if j = n then m else I (a + 3) j) ∧ addC I a n iso keep r d m (a + 4) j = (if j = n then 0 else I (a + 4) j)) ∧ ∀ c, 5 ≤ c → addC I a n iso keep r d m (a + c) j = I (a + c) j := by
  unfold addC
  try dsimp only
  have e0 : ∀ (X : Mi) (f : Nat), up (up (up (up X (a + 1) n r) (a + 2) n d) (a + 3) n m) (a + 4) n 0 a f = X a f := fun X f => by
    rw [uc2 _ _ _ _ _ _ (by omega), uc2 _ _ _ _ _ _ (by omega), uc2 _ _ _ _ _ _ (by omega), uc2 _ _ _ _ _ _ (by omega)]
  have er : ∀ (X Y : Mi) (j : Nat), (∀ c, 0 < c → X (a + c) j = Y (a + c) j) → (up (up (up (up X (a + 1) n r) (a + 2) n d) (a + 3) n m) (a + 4) n 0 (a + 1) j = (if j = n then r else Y (a + 1) j) ∧ up (up (up (up X (a + 1) n r) (a + 2) n d) (a + 3) n m) (a + 4) n 0 (a + 2) j = (if j = n then d else Y (a + 2) j) ∧ up (up (up (up X (a + 1) n r) (a + 2) n d) (a + 3) n m) (a + 4) n 0 (a + 3) j = (if j = n then m else Y (a + 3) j) ∧ up (up (up (up X (a + 1) n r) (a + 2) n d) (a + 3) n m) (a + 4) n 0 (a + 4) j = (if j = n then 0 else Y (a + 4) j)) ∧ ∀ c, 5 ≤ c → up (up (up (up X (a + 1) n r) (a + 2) n d) (a + 3) n m) (a + 4) n 0 (a + c) j = Y (a + c) j := fun X Y j h => by
    refine ⟨⟨?_, ?_, ?_, ?_⟩, fun c hc => ?_⟩
    · simp only [uc1, Nat.reduceEqDiff, false_and, true_and, reduceIte, h 1 (by omega)]
    · simp only [uc1, Nat.reduceEqDiff, false_and, true_and, reduceIte, h 2 (by omega)]
    · simp only [uc1, Nat.reduceEqDiff, false_and, true_and, reduceIte, h 3 (by omega)]
    · simp only [uc1, Nat.reduceEqDiff, false_and, true_and, reduceIte, h 4 (by omega)]
    · rw [uc1, if_neg (by omega), uc1, if_neg (by omega), uc1, if_neg (by omega), uc1, if_neg (by omega), h c (by omega)]
  by_cases c1 : iso = 0
  · by_cases c2 : keep = 0
    · simp only [if_pos c1, if_pos c2]
      exact ⟨⟨by rw [e0, uc4, if_pos rfl], by rw [e0, uc4, if_neg (by omega)], by rw [e0, uc4, if_neg (by omega)], fun f hf => by rw [e0, uc4, if_neg (by omega)]⟩, fun j => er _ I j (fun c hc => uc3 _ _ _ _ _ _ hc)⟩
    · simp only [if_pos c1, if_neg c2]
      exact ⟨⟨by rw [e0, uc4, if_neg (by omega), uc4, if_pos rfl], by rw [e0, uc4, if_neg (by omega), uc4, if_neg (by omega)], by rw [e0, uc4, if_pos rfl, uc4, if_neg (by omega)], fun f hf => by rw [e0, uc4, if_neg (by omega), uc4, if_neg (by omega)]⟩, fun j => er _ I j (fun c hc => (uc3 _ _ _ _ _ _ hc).trans (uc3 _ _ _ _ _ _ hc))⟩
  · by_cases c2 : keep = 0
    · simp only [if_neg c1, if_pos c2]
      exact ⟨⟨by rw [e0, uc4, if_neg (by omega), uc4, if_pos rfl], by rw [e0, uc4, if_pos rfl, uc4, if_neg (by omega)], by rw [e0, uc4, if_neg (by omega), uc4, if_neg (by omega)], fun f hf => by rw [e0, uc4, if_neg (by omega), uc4, if_neg (by omega)]⟩, fun j => er _ I j (fun c hc => (uc3 _ _ _ _ _ _ hc).trans (uc3 _ _ _ _ _ _ hc))⟩
    · simp only [if_neg c1, if_neg c2]
      exact ⟨⟨by rw [e0, uc4, if_neg (by omega), uc4, if_neg (by omega), uc4, if_pos rfl], by rw [e0, uc4, if_neg (by omega), uc4, if_pos rfl, uc4, if_neg (by omega)], by rw [e0, uc4, if_pos rfl, uc4, if_neg (by omega), uc4, if_neg (by omega)], fun f hf => by rw [e0, uc4, if_neg (by omega), uc4, if_neg (by omega), uc4, if_neg (by omega)]⟩, fun j => er _ I j (fun c hc => (uc3 _ _ _ _ _ _ hc).trans ((uc3 _ _ _ _ _ _ hc).trans (uc3 _ _ _ _ _ _ hc)))⟩
theorem cmM_f (J : Mi) (n : Nat) (iso keep r d m : Int32) : cmM J n iso keep r d m 128 2 = nI (n + 1) ∧ (∀ y, y < 16 → y ≠ 2 → cmM J n iso keep r d m 128 y = J 128 y) ∧ (∀ i p, i ≠ n → p < 10 → cmM J n iso keep r d m 128 (16 + 10 * i + p) = J 128 (16 + 10 * i + p)) ∧ ∀ p, p < 10 → cmM J n iso keep r d m 128 (16 + 10 * n + p) = if p = 0 then iso else if p = 1 then keep else if p = 2 then r else if p = 3 then d else if p = 6 then m else 0 := by
  have hz : (∀ p, p < 10 → lp (fun k J => sp J n k 0) 10 J 128 (16 + 10 * n + p) = 0) ∧ ∀ y, (∀ p, p < 10 → y ≠ 16 + 10 * n + p) → lp (fun k J => sp J n k 0) 10 J 128 y = J 128 y := by
    refine lp_ind (fun (k : Nat) (X : Mi) => (∀ p, p < k → X 128 (16 + 10 * n + p) = 0) ∧ ∀ y, (∀ p, p < 10 → y ≠ 16 + 10 * n + p) → X 128 y = J 128 y) ⟨fun p hp => absurd hp (Nat.not_lt_zero p), fun _ _ => rfl⟩ (fun k X hk ih => ⟨fun p hp => ?_, fun y hy => ?_⟩)
    · by_cases e : p = k
      · rw [e]; exact ptp X n k 0
      · rw [spo (by omega)]; exact ih.1 p (by omega)
    · rw [spo (hy k hk)]; exact ih.2 y hy
  unfold cmM
  generalize lp (fun k J => sp J n k 0) 10 J = X at hz ⊢
  refine ⟨by rw [uc4, if_pos rfl], fun y hy h2 => ?_, fun i p hi hp => ?_, fun p hp => ?_⟩
  · rw [uc4, if_neg h2, sp_lo hy, sp_lo hy, sp_lo hy, sp_lo hy, sp_lo hy]
    exact hz.2 y (fun p hp => by omega)
  · rw [um7 _ _ _ _ _ (by omega), spo (by omega), spo (by omega), spo (by omega), spo (by omega), spo (by omega)]
    exact hz.2 _ (fun p hp => by omega)
  · rw [um7 _ _ _ _ _ (by omega)]
    have hs : ∀ (Y : Mi) (q : Nat) (v : Int32), sp Y n q v 128 (16 + 10 * n + p) = if p = q then v else Y 128 (16 + 10 * n + p) := fun Y q v => by
      by_cases e : p = q
      · rw [if_pos e, e]; exact ptp Y n q v
      · rw [if_neg e, spo (by omega)]
    rw [hs, hs, hs, hs, hs, hz.1 p hp]
    rcases (show p = 0 ∨ p = 1 ∨ p = 2 ∨ p = 3 ∨ p = 4 ∨ p = 5 ∨ p = 6 ∨ p = 7 ∨ p = 8 ∨ p = 9 by omega) with rfl | rfl | rfl | rfl | rfl | rfl | rfl | rfl | rfl | rfl <;> simp only [Nat.reduceEqDiff, reduceIte]
/-- the islands of a chip, the settings left out, readings below b -/
def RB0 (I : Mi) (a : Nat) (K : Kr) (n b : Nat) : Prop := n ≤ 8 ∧ (I a 0 = nI n ∧ K 2 = nI n) ∧ (∀ i, i < n → SI I a K b i) ∧ ∀ i, n ≤ i → i < 8 → AI I a i
def NW0 (I : Mi) (a : Nat) (K : Kr) (n w b : Nat) : Prop := RB0 I a K n b ∧ RQ I a K n w ∧ RV I a K n
theorem bi_ne0 (x : Int32) : (if x = 0 then (0 : Int32) else 1) = bi (decide (¬ x = 0)) := by
  by_cases h : x = 0
  · simp [h, bi]
  · simp [h, bi]
theorem iso_bt {s x : Int32} {n i : Nat} (hn : n < 8) (hi : i < 8) : bt (if x = 0 then s else s ||| sh1 n) i = (bt s i || (decide (i = n) && decide (¬ x = 0))) := by
  by_cases h : x = 0
  · rw [if_pos h]; simp [h]
  · rw [if_neg h, bt_or, bt_sh1 (by omega)]; simp [h]
theorem NW0_add {I J : Mi} {a n w b : Nat} {iso keep r d m : Int32} (h : NW0 I a (J 128) n w b) (hn : n < 8) (hr : ∃ z, 1 ≤ z ∧ z ≤ 9 ∧ r = nI z) (hm : ∀ j, b ≤ j → j < 8 → bt m j = false) : NW0 (addC I a n iso keep r d m) a (cmM J n (if iso = 0 then 0 else 1) (if keep = 0 then 0 else 1) r d m 128) (n + 1) w b := by
  obtain ⟨⟨h8, ⟨a0, a1⟩, hS, hA⟩, ⟨hw, ⟨b0, b1⟩, q, hq⟩, ⟨v0, v1, v2, v3⟩, hV, hAV⟩ := h
  obtain ⟨⟨c0, c1, c2, c3⟩, c4⟩ := addC_f I a n iso keep r d m
  obtain ⟨k0, k1, k2, k3⟩ := cmM_f J n (if iso = 0 then 0 else 1) (if keep = 0 then 0 else 1) r d m
  generalize addC I a n iso keep r d m = X at c0 c1 c2 c3 c4 ⊢
  generalize cmM J n (if iso = 0 then 0 else 1) (if keep = 0 then 0 else 1) r d m 128 = K at k0 k1 k2 k3 ⊢
  refine ⟨⟨by omega, ⟨by rw [c0, a0, nI_1], k0⟩, fun i hi => ?_, fun i h1 h2 => ?_⟩, ⟨hw, ⟨by rw [c3 12 (by omega), b0], by rw [k1 7 (by omega) (by omega), b1]⟩, q, fun k hk => ?_, hq.2⟩, ⟨by rw [c3 15 (by omega), k1 3 (by omega) (by omega), v0], by rw [c3 16 (by omega), k1 5 (by omega) (by omega), v1], by rw [c3 17 (by omega), k1 6 (by omega) (by omega), v2], ?_⟩, fun i hi => ?_, fun i h1 h2 => ?_⟩
  · obtain ⟨⟨d1, d2, d3, d4⟩, d5⟩ := c4 i
    by_cases e : i = n
    · subst e
      obtain ⟨x1, x2, x3⟩ := hA i (Nat.le_refl _) hn
      unfold SI
      rw [d1, d2, d3, d4, d5 7 (by omega), k3 2 (by omega), k3 3 (by omega), k3 6 (by omega), k3 7 (by omega), k3 8 (by omega), x3]
      simp only [reduceIte, Nat.reduceEqDiff]
      exact ⟨⟨trivial, trivial, trivial, trivial, trivial⟩, hr, ⟨0, by omega, rfl, fun z => absurd z (by decide), fun _ => rfl⟩, hm⟩
    · have s := hS i (by omega)
      unfold SI at s ⊢
      rw [d1, d2, d3, d4, d5 7 (by omega), if_neg e, if_neg e, if_neg e, if_neg e, k2 i 2 e (by omega), k2 i 3 e (by omega), k2 i 6 e (by omega), k2 i 7 e (by omega), k2 i 8 e (by omega)]
      exact s
  · obtain ⟨⟨d1, d2, d3, d4⟩, d5⟩ := c4 i
    have e : i ≠ n := by omega
    have s := hA i (by omega) h2
    unfold AI at s ⊢
    rw [d3, d4, d5 7 (by omega), if_neg e, if_neg e]
    exact s
  · obtain ⟨z0, z1, z2, z3, z4⟩ := hq.1 k hk
    obtain ⟨⟨d1, d2, d3, d4⟩, d5⟩ := c4 (q k)
    obtain ⟨-, d6⟩ := c4 k
    exact ⟨z0, by omega, by rw [d6 9 (by omega), z2], by rw [k1 (8 + k) (by omega) (by omega), z3], by rw [d4, if_neg (by omega), z4]⟩
  · rw [k1 4 (by omega) (by omega), ← v3, sumC_sm, sumC_sm]
    exact sm_congr (fun i hi => (c4 i).2 8 (by omega))
  · obtain ⟨-, d5⟩ := c4 i
    by_cases e : i = n
    · subst e
      obtain ⟨x1, x2, x3, x4, x5⟩ := hAV i (Nat.le_refl _) hn
      unfold VI
      rw [d5 5 (by omega), d5 6 (by omega), d5 8 (by omega), k3 0 (by omega), k3 1 (by omega), k3 4 (by omega), k3 5 (by omega), k3 9 (by omega), c1, c2, iso_bt hn hn, iso_bt hn hn, x1, x2, x3, x4, x5]
      refine ⟨⟨?_, ?_⟩, ⟨rfl, rfl, rfl⟩, ⟨0, by omega, rfl⟩, 0, by omega, rfl⟩
      · rw [if_pos rfl, bi_ne0]; simp
      · rw [if_neg (by omega), if_pos rfl, bi_ne0]; simp
    · have s := hV i (by omega)
      unfold VI at s ⊢
      rw [d5 5 (by omega), d5 6 (by omega), d5 8 (by omega), c1, c2, iso_bt hn (by omega), iso_bt hn (by omega), decide_eq_false e, Bool.false_and, Bool.or_false, Bool.false_and, Bool.or_false, k2 i 0 e (by omega), k2 i 1 e (by omega), k2 i 4 e (by omega), k2 i 5 e (by omega), k2 i 9 e (by omega)]
      exact s
  · obtain ⟨-, d5⟩ := c4 i
    have e : i ≠ n := by omega
    have s := hAV i (by omega) h2
    unfold AV at s ⊢
    rw [d5 5 (by omega), d5 6 (by omega), d5 8 (by omega), c1, c2, iso_bt hn h2, iso_bt hn h2, decide_eq_false e, Bool.false_and, Bool.or_false, Bool.false_and, Bool.or_false]
    exact s
theorem NW0_of {I : Mi} {a n w : Nat} {K : Kr} (h : RR I a K n w) : NW0 I a K n w n := ⟨⟨h.1.1.1, ⟨h.1.1.2.1.1, h.1.1.2.1.2.1⟩, h.1.1.2.2.1, h.1.1.2.2.2⟩, h.1.2, h.2⟩
theorem NW0.to {I : Mi} {a n w : Nat} {K : Kr} (h : NW0 I a K n w n) (h13 : I a 13 = K 0) (h14 : I a 14 = K 1) : RR I a K n w := ⟨⟨⟨h.1.1, ⟨h.1.2.1.1, h.1.2.1.2, h13, h14⟩, h.1.2.2.1, h.1.2.2.2⟩, h.2.1⟩, h.2.2⟩
theorem NW0.bits {I : Mi} {a n w b b2 : Nat} {K : Kr} (h : NW0 I a K n w b) (hb : ∀ i, i < n → ∀ j, b2 ≤ j → j < 8 → bt (I (a + 3) i) j = false) : NW0 I a K n w b2 := ⟨⟨h.1.1, h.1.2.1, fun i hi => ⟨(h.1.2.2.1 i hi).1, (h.1.2.2.1 i hi).2.1, (h.1.2.2.1 i hi).2.2.1, hb i hi⟩, h.1.2.2.2⟩, h.2⟩
/-- build, both ways -/
theorem RR_build {I J : Mi} {a n w : Nat} {iso keep r d : Int32} (h : RR I a (J 128) n w) (hn : n < 8) (hr : ∃ z, 1 ≤ z ∧ z ≤ 9 ∧ r = nI z) : RR (addC I a n iso keep r d 0) a (cmM J n (if iso = 0 then 0 else 1) (if keep = 0 then 0 else 1) r d 0 128) (n + 1) w := by
  have h1 := NW0_add (iso := iso) (keep := keep) (r := r) (d := d) (m := 0) (NW0_of h) hn hr (fun j _ _ => bt_0 j)
  obtain ⟨⟨c0, c1, c2, c3⟩, c4⟩ := addC_f I a n iso keep r d 0
  obtain ⟨k0, k1, k2, k3⟩ := cmM_f J n (if iso = 0 then 0 else 1) (if keep = 0 then 0 else 1) r d 0
  refine (h1.bits (b2 := n + 1) (fun i hi j j1 j2 => (h1.1.2.2.1 i hi).2.2.2 j (by omega) j2)).to ?_ ?_
  · rw [c3 13 (by omega), k1 0 (by omega) (by omega)]; exact h.1.1.2.1.2.2.1
  · rw [c3 14 (by omega), k1 1 (by omega) (by omega)]; exact h.1.1.2.1.2.2.2
/-- a cleared chip and a cleared row -/
theorem NW0_clear {I : Mi} {a b : Nat} {K : Kr} (hK : ∀ y, 2 ≤ y → y < 8 → K y = 0) : NW0 (clearC I a) a K 0 0 b := by
  obtain ⟨f1, -, -, f2⟩ := clearC_f I a
  have z : ∀ f, f = 0 ∨ f = 1 ∨ f = 2 ∨ f = 12 ∨ f = 15 ∨ f = 16 ∨ f = 17 → clearC I a a f = 0 := f1
  have e : ∀ c, 1 ≤ c → c ≤ 9 → c ≠ 4 → ∀ i, i < 8 → clearC I a (a + c) i = 0 := fun c c1 c9 c4 i hi => by rw [f2 c c1 c9 i hi, if_neg c4]
  refine ⟨⟨by omega, ⟨z 0 (by simp), hK 2 (by omega) (by omega)⟩, fun i hi => absurd hi (Nat.not_lt_zero i), fun i _ hi => ⟨by rw [f2 4 (by omega) (by omega) i hi]; rfl, e 3 (by omega) (by omega) (by omega) i hi, e 7 (by omega) (by omega) (by omega) i hi⟩⟩, ⟨by omega, ⟨z 12 (by simp), hK 7 (by omega) (by omega)⟩, fun k => k, fun k hk => absurd hk (Nat.not_lt_zero k), fun k _ hk => absurd hk (Nat.not_lt_zero k)⟩, ⟨by rw [z 15 (by simp), hK 3 (by omega) (by omega)], by rw [z 16 (by simp), hK 5 (by omega) (by omega)], by rw [z 17 (by simp), hK 6 (by omega) (by omega)], ?_⟩, fun i hi => absurd hi (Nat.not_lt_zero i), fun i _ hi => ⟨e 5 (by omega) (by omega) (by omega) i hi, e 6 (by omega) (by omega) (by omega) i hi, e 8 (by omega) (by omega) (by omega) i hi, by rw [z 1 (by simp)]; exact bt_0 i, by rw [z 2 (by simp)]; exact bt_0 i⟩⟩
  rw [hK 4 (by omega) (by omega), sumC_sm, sm_congr (w := fun _ => 0) (fun i hi => e 8 (by omega) (by omega) (by omega) i hi)]
  decide
