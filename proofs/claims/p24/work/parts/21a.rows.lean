/-! the law's numbers, island by island: a tick's new values, falling and rising -/
theorem us1 (I : Mi) (b i p j q : Nat) (v : Int32) (hp : p < 12) (hq : q < 12) : sL (up I (b + 1) (12 * i + p) v) b j q = if j = i ∧ q = p then v else sL I b j q := by
  show (if b + 1 = b + 1 ∧ 12 * j + q = 12 * i + p then v else I (b + 1) (12 * j + q)) = _
  by_cases h : j = i ∧ q = p
  · rw [if_pos h, if_pos ⟨rfl, by rw [h.1, h.2]⟩]
  · rw [if_neg h, if_neg (by omega)]
theorem us2 (I : Mi) (b y i p : Nat) (v : Int32) : sL (up I b y v) b i p = sL I b i p := by
  show up I b y v (b + 1) _ = _
  rw [up_ne (by omega)]
theorem us3 (I : Mi) (b x y : Nat) (v : Int32) : up I (b + 1) x v b y = I b y := by rw [up_ne (show b ≠ b + 1 by omega)]
theorem us4 (I : Mi) (b y z : Nat) (v : Int32) : up I b y v b z = if z = y then v else I b z := uc4 I b y z v
theorem us6 (I : Mi) (b x : Nat) (v : Int32) (h : b + 1 < 131) : up I (b + 1) x v 131 = I 131 := up_ne (by omega)
theorem us7 (I : Mi) (b x : Nat) (v : Int32) (h : b + 1 < 131) : up I b x v 131 = I 131 := up_ne (by omega)
/-- a sum of natural numbers over the places where c holds -/
def sN (c : Nat → Bool) (f : Nat → Nat) : Nat → Nat
  | 0 => 0
  | m + 1 => sN c f m + if c m = true then f m else 0
theorem sN_le {c : Nat → Bool} {f : Nat → Nat} : ∀ {m : Nat}, (∀ j, j < m → f j < 256) → sN c f m ≤ 255 * m
  | 0, _ => Nat.le_refl _
  | m + 1, h => by
    have h1 := sN_le (c := c) (f := f) (m := m) (fun j hj => h j (by omega))
    have h2 := h m (by omega)
    unfold sN
    split <;> omega
theorem sN_sm {c : Nat → Bool} {f : Nat → Nat} {g : Nat → Int32} : ∀ {m : Nat}, (∀ j, j < m → g j = nI (f j)) → sm (fun j => if c j = true then g j else 0) m = nI (sN c f m)
  | 0, _ => rfl
  | m + 1, h => by
    show sm (fun j => if c j = true then g j else 0) m + (if c m = true then g m else 0) = nI (sN c f m + if c m = true then f m else 0)
    rw [sN_sm (fun j hj => h j (by omega)), h m (by omega)]
    cases c m
    · exact nI_add (sN c f m) 0
    · exact nI_add (sN c f m) (f m)
theorem tst (x : Int32) {m : Nat} (hm : m < 32) : ((x >>> (nI m &&& 31)) &&& 1 = 0) ↔ bt x m = false := by
  rw [and1, bt_shr x hm (by omega), Nat.zero_add]
  cases bt x m <;> simp
/-- one island's readings -/
theorem nz_lp {I : Mi} {b k n v0 : Nat} {r6 : Int32} {tn : Nat → Nat} {nv : Nat → Int32} (hb : LB b) (hn5 : n ≤ 5) (hv : v0 < 256) (h4 : sL I b k 4 = nI v0) (h6 : sL I b k 6 = r6) (ht : ∀ m, m < n → tn m < 256 ∧ I 131 m = nI (tn m) ∧ I 131 (8 + m) = nv m) :
    sL (lp (nzL b k) n I) b k 4 = nI ((v0 + sN (bt r6) tn n) % 256) ∧ sL (lp (nzL b k) n I) b k 9 = sL I b k 9 + sm (fun j => if bt r6 j = true then nv j else 0) n ∧ lp (nzL b k) n I b 4 = I b 4 + sm (fun j => if bt r6 j = true then nv j else 0) n ∧ (∀ i p, p < 12 → ¬ (i = k ∧ (p = 4 ∨ p = 9)) → sL (lp (nzL b k) n I) b i p = sL I b i p) ∧ (∀ y, y ≠ 4 → lp (nzL b k) n I b y = I b y) ∧ lp (nzL b k) n I 131 = I 131 := by
  have ht3 := hb.t
  refine lp_ind (fun (m : Nat) (R : Mi) => sL R b k 4 = nI ((v0 + sN (bt r6) tn m) % 256) ∧ sL R b k 9 = sL I b k 9 + sm (fun j => if bt r6 j = true then nv j else 0) m ∧ R b 4 = I b 4 + sm (fun j => if bt r6 j = true then nv j else 0) m ∧ (∀ i p, p < 12 → ¬ (i = k ∧ (p = 4 ∨ p = 9)) → sL R b i p = sL I b i p) ∧ (∀ y, y ≠ 4 → R b y = I b y) ∧ R 131 = I 131) ⟨?_, (Int32.add_zero _).symm, (Int32.add_zero _).symm, fun _ _ _ _ => rfl, fun _ _ => rfl, rfl⟩ (fun m X hm ih => ?_)
  · rw [h4]
    show nI v0 = nI ((v0 + 0) % 256)
    rw [Nat.add_zero, Nat.mod_eq_of_lt hv]
  obtain ⟨h1, h2, h3, g4, g5, g6⟩ := ih
  obtain ⟨t1, t2, t3⟩ := ht m hm
  have e6 : sL X b k 6 = r6 := (g4 k 6 (by omega) (by omega)).trans h6
  have hsN := sN_le (c := bt r6) (f := tn) (m := m) (fun j hj => (ht j (by omega)).1)
  by_cases c : bt r6 m = true
  · have c0 : ¬ (sL X b k 6 >>> (nI m &&& 31)) &&& 1 = 0 := by
      rw [e6, tst r6 (by omega), c]; decide
    rw [nzL, if_neg c0]
    dsimp only
    have s1 : sm (fun j => if bt r6 j = true then nv j else 0) (m + 1) = sm (fun j => if bt r6 j = true then nv j else 0) m + nv m := by
      show _ + (if bt r6 m = true then nv m else 0) = _
      rw [if_pos c]
      rfl
    have s2 : sN (bt r6) tn (m + 1) = sN (bt r6) tn m + tn m := by rw [sN, if_pos c]
    rw [s1, s2]
    refine ⟨?_, ?_, ?_, fun i p hp hip => ?_, fun y hy => ?_, ?_⟩
    · rw [us2, us1 _ _ _ _ _ _ _ (by omega) (by omega), if_neg (by omega), us1 _ _ _ _ _ _ _ (by omega) (by omega), if_pos ⟨rfl, rfl⟩, h1, g6, t2, nI_add, (md_255 _ (by omega)).2]
      congr 1
      omega
    · rw [us2, us1 _ _ _ _ _ _ _ (by omega) (by omega), if_pos ⟨rfl, rfl⟩, us1 _ _ _ _ _ _ _ (by omega) (by omega), if_neg (by omega), h2, us6 _ _ _ _ ht3, g6, t3, Int32.add_assoc]
    · rw [us4, if_pos rfl, us3, us3, h3, us6 _ _ _ _ ht3, us6 _ _ _ _ ht3, g6, t3, Int32.add_assoc]
    · rw [us2, us1 _ _ _ _ _ _ _ (by omega) hp, if_neg (by omega), us1 _ _ _ _ _ _ _ (by omega) hp, if_neg (by omega)]
      exact g4 i p hp hip
    · rw [us4, if_neg hy, us3, us3]
      exact g5 y hy
    · rw [us7 _ _ _ _ ht3, us6 _ _ _ _ ht3, us6 _ _ _ _ ht3, g6]
  · have c' : bt r6 m = false := by simpa using c
    have c0 : (sL X b k 6 >>> (nI m &&& 31)) &&& 1 = 0 := by
      rw [e6]; exact (tst r6 (by omega)).mpr c'
    rw [nzL, if_pos c0]
    have s1 : sm (fun j => if bt r6 j = true then nv j else 0) (m + 1) = sm (fun j => if bt r6 j = true then nv j else 0) m := by
      show _ + (if bt r6 m = true then nv m else 0) = _
      rw [if_neg c, Int32.add_zero]
      rfl
    have s2 : sN (bt r6) tn (m + 1) = sN (bt r6) tn m := by rw [sN, if_neg c, Nat.add_zero]
    rw [s1, s2]
    exact ⟨h1, h2, h3, g4, g5, g6⟩
/-- what a tick does to an island's row before the orders: A before, B behind; V the new value, S the noise heard, if awake -/
def RowT (A B : Nat → Int32) (V S : Int32) : Prop := (∀ p, p < 10 → p ≠ 4 → p ≠ 5 → p ≠ 7 → p ≠ 8 → p ≠ 9 → B p = A p) ∧
  (A 7 = 0 → (B 4 = V ∧ B 5 = A 5) ∧ B 7 = 0 ∧ B 8 = A 8 ∧ B 9 = A 9 + S) ∧
  (A 7 = 1 → (B 4 = 0 ∧ B 5 = (if A 1 = 1 then A 4 else A 5)) ∧ B 7 = 2 ∧ B 8 = A 8 ∧ B 9 = A 9) ∧
  (A 7 = 4 → (A 8 - 1 = 0 → B 7 = 0 ∧ B 4 = (if A 1 = 1 then A 5 else A 4)) ∧ (¬ A 8 - 1 = 0 → B 7 = 4 ∧ B 4 = A 4) ∧ B 5 = A 5 ∧ B 8 = A 8 - 1 ∧ B 9 = A 9) ∧
  (¬ A 7 = 0 → ¬ A 7 = 1 → ¬ A 7 = 4 → (B 4 = A 4 ∧ B 5 = A 5) ∧ B 7 = A 7 ∧ B 8 = A 8 ∧ B 9 = A 9)
theorem RowT.eq {A B B2 : Nat → Int32} {V S : Int32} (h : RowT A B V S) (h2 : RowT A B2 V S) : ∀ p, p < 10 → B p = B2 p := by
  obtain ⟨k0, k1, k2, k3, k4⟩ := h
  obtain ⟨l0, l1, l2, l3, l4⟩ := h2
  have key : (B 4 = B2 4 ∧ B 5 = B2 5) ∧ B 7 = B2 7 ∧ B 8 = B2 8 ∧ B 9 = B2 9 := by
    by_cases c0 : A 7 = 0
    · obtain ⟨⟨a1, a2⟩, a3, a4, a5⟩ := k1 c0
      obtain ⟨⟨b1, b2⟩, b3, b4, b5⟩ := l1 c0
      rw [a1, a2, a3, a4, a5, b1, b2, b3, b4, b5]
      exact ⟨⟨rfl, rfl⟩, rfl, rfl, rfl⟩
    · by_cases c1 : A 7 = 1
      · obtain ⟨⟨a1, a2⟩, a3, a4, a5⟩ := k2 c1
        obtain ⟨⟨b1, b2⟩, b3, b4, b5⟩ := l2 c1
        rw [a1, a2, a3, a4, a5, b1, b2, b3, b4, b5]
        exact ⟨⟨rfl, rfl⟩, rfl, rfl, rfl⟩
      · by_cases c4 : A 7 = 4
        · obtain ⟨a1, a2, a3, a4, a5⟩ := k3 c4
          obtain ⟨b1, b2, b3, b4, b5⟩ := l3 c4
          by_cases c8 : A 8 - 1 = 0
          · rw [(a1 c8).1, (a1 c8).2, a3, a4, a5, (b1 c8).1, (b1 c8).2, b3, b4, b5]
            exact ⟨⟨rfl, rfl⟩, rfl, rfl, rfl⟩
          · rw [(a2 c8).1, (a2 c8).2, a3, a4, a5, (b2 c8).1, (b2 c8).2, b3, b4, b5]
            exact ⟨⟨rfl, rfl⟩, rfl, rfl, rfl⟩
        · obtain ⟨⟨a1, a2⟩, a3, a4, a5⟩ := k4 c0 c1 c4
          obtain ⟨⟨b1, b2⟩, b3, b4, b5⟩ := l4 c0 c1 c4
          rw [a1, a2, a3, a4, a5, b1, b2, b3, b4, b5]
          exact ⟨⟨rfl, rfl⟩, rfl, rfl, rfl⟩
  intro p hp
  rcases (show p = 4 ∨ p = 5 ∨ p = 7 ∨ p = 8 ∨ p = 9 ∨ (p ≠ 4 ∧ p ≠ 5 ∧ p ≠ 7 ∧ p ≠ 8 ∧ p ≠ 9) by omega) with rfl | rfl | rfl | rfl | rfl | ⟨p4, p5, p7, p8, p9⟩
  · exact key.1.1
  · exact key.1.2
  · exact key.2.1
  · exact key.2.2.1
  · exact key.2.2.2
  · rw [k0 p hp p4 p5 p7 p8 p9, l0 p hp p4 p5 p7 p8 p9]
def lostR (A : Nat → Int32) : Int32 := if A 7 = 1 then (if A 1 = 1 then 0 else if A 4 = 0 then 0 else 1) else 0
theorem RowT_same {A : Nat → Int32} {V S : Int32} (h0 : ¬ A 7 = 0) (h1 : ¬ A 7 = 1) (h4 : ¬ A 7 = 4) : RowT A A V S :=
  ⟨fun _ _ _ _ _ _ _ => rfl, fun h => absurd h h0, fun h => absurd h h1, fun h => absurd h h4, fun _ _ _ => ⟨⟨rfl, rfl⟩, rfl, rfl, rfl⟩⟩
theorem tl2_row {I : Mi} {b k n v0 : Nat} {tn : Nat → Nat} {nv : Nat → Int32} (hb : LB b) (hn5 : n ≤ 5) (hv : v0 < 256) (h4 : sL I b k 4 = nI v0) (ht : ∀ m, m < n → tn m < 256 ∧ I 131 m = nI (tn m) ∧ I 131 (8 + m) = nv m) :
    RowT (sL I b k) (sL (tl2 b n k I) b k) (nI ((v0 + sN (bt (sL I b k 6)) tn n) % 256)) (sm (fun j => if bt (sL I b k 6) j = true then nv j else 0) n) ∧ (∀ i p, p < 12 → (i ≠ k ∨ 10 ≤ p) → sL (tl2 b n k I) b i p = sL I b i p) ∧ tl2 b n k I b 4 = I b 4 + (if sL I b k 7 = 0 then sm (fun j => if bt (sL I b k 6) j = true then nv j else 0) n else 0) ∧ tl2 b n k I b 5 = I b 5 + lostR (sL I b k) ∧ (∀ y, y ≠ 4 → y ≠ 5 → tl2 b n k I b y = I b y) ∧ tl2 b n k I 131 = I 131 := by
  have ht3 := hb.t
  by_cases c0 : sL I b k 7 = 0
  · rw [tl2, if_pos c0, if_pos c0]
    obtain ⟨g1, g2, g3, g4, g5, g6⟩ := nz_lp hb hn5 hv h4 rfl ht
    refine ⟨⟨fun p hp p4 p5 p7 p8 p9 => g4 k p (by omega) (by omega), fun _ => ⟨⟨g1, g4 k 5 (by omega) (by omega)⟩, (g4 k 7 (by omega) (by omega)).trans c0, g4 k 8 (by omega) (by omega), g2⟩, fun h => absurd (c0.symm.trans h) (by decide), fun h => absurd (c0.symm.trans h) (by decide), fun h => absurd c0 h⟩, fun i p hp hip => g4 i p hp (by omega), g3, ?_, fun y y4 y5 => g5 y y4, g6⟩
    rw [g5 5 (by omega), lostR, if_neg (by rw [c0]; decide), Int32.add_zero]
  · by_cases c1 : sL I b k 7 = 1
    · rw [tl2, if_neg c0, if_pos c1, if_neg c0, Int32.add_zero]
      have e1 : ∀ p, p < 12 → p ≠ 7 → sL (up I (b + 1) (12 * k + 7) 2) b k p = sL I b k p := fun p hp h => by rw [us1 _ _ _ _ _ _ _ (by omega) hp, if_neg (by omega)]
      have e0 : ∀ x i p, p < 12 → x < 12 → (i ≠ k ∨ p ≠ x) → ∀ (J : Mi) v, sL (up J (b + 1) (12 * k + x) v) b i p = sL J b i p := fun x i p hp hx h J v => by rw [us1 _ _ _ _ _ _ _ hx hp, if_neg (by omega)]
      have ev : ∀ x, x < 12 → ∀ (J : Mi) v, sL (up J (b + 1) (12 * k + x) v) b k x = v := fun x hx J v => by rw [us1 _ _ _ _ _ _ _ hx hx, if_pos ⟨rfl, rfl⟩]
      rw [faL]
      try dsimp only
      by_cases k1 : sL I b k 1 = 1
      · rw [if_pos (show sL (up I (b + 1) (12 * k + 7) 2) b k 1 = 1 by rw [e1 1 (by omega) (by omega)]; exact k1), e1 4 (by omega) (by omega)]
        refine ⟨⟨fun p hp p4 p5 p7 p8 p9 => ?_, fun h => absurd h c0, fun _ => ⟨⟨ev 4 (by omega) _ _, ?_⟩, ?_, ?_, ?_⟩, fun h => absurd (c1.symm.trans h) (by decide), fun _ h => absurd c1 h⟩, fun i p hp hip => ?_, ?_, ?_, fun y y4 y5 => ?_, ?_⟩
        · rw [e0 4 k p (by omega) (by omega) (by omega), e0 5 k p (by omega) (by omega) (by omega), e0 7 k p (by omega) (by omega) (by omega)]
        · rw [e0 4 k 5 (by omega) (by omega) (by omega), ev 5 (by omega), if_pos k1]
        · rw [e0 4 k 7 (by omega) (by omega) (by omega), e0 5 k 7 (by omega) (by omega) (by omega), ev 7 (by omega)]
        · rw [e0 4 k 8 (by omega) (by omega) (by omega), e0 5 k 8 (by omega) (by omega) (by omega), e0 7 k 8 (by omega) (by omega) (by omega)]
        · rw [e0 4 k 9 (by omega) (by omega) (by omega), e0 5 k 9 (by omega) (by omega) (by omega), e0 7 k 9 (by omega) (by omega) (by omega)]
        · rw [e0 4 i p hp (by omega) (by omega), e0 5 i p hp (by omega) (by omega), e0 7 i p hp (by omega) (by omega)]
        · rw [us3, us3, us3]
        · rw [us3, us3, us3, lostR, if_pos c1, if_pos k1, Int32.add_zero]
        · rw [us3, us3, us3]
        · rw [us6 _ _ _ _ ht3, us6 _ _ _ _ ht3, us6 _ _ _ _ ht3]
      · rw [if_neg (show ¬ sL (up I (b + 1) (12 * k + 7) 2) b k 1 = 1 by rw [e1 1 (by omega) (by omega)]; exact k1), e1 4 (by omega) (by omega)]
        by_cases k4 : sL I b k 4 = 0
        · rw [if_pos k4]
          refine ⟨⟨fun p hp p4 p5 p7 p8 p9 => ?_, fun h => absurd h c0, fun _ => ⟨⟨ev 4 (by omega) _ _, ?_⟩, ?_, ?_, ?_⟩, fun h => absurd (c1.symm.trans h) (by decide), fun _ h => absurd c1 h⟩, fun i p hp hip => ?_, ?_, ?_, fun y y4 y5 => ?_, ?_⟩
          · rw [e0 4 k p (by omega) (by omega) (by omega), e0 7 k p (by omega) (by omega) (by omega)]
          · rw [e0 4 k 5 (by omega) (by omega) (by omega), e0 7 k 5 (by omega) (by omega) (by omega), if_neg k1]
          · rw [e0 4 k 7 (by omega) (by omega) (by omega), ev 7 (by omega)]
          · rw [e0 4 k 8 (by omega) (by omega) (by omega), e0 7 k 8 (by omega) (by omega) (by omega)]
          · rw [e0 4 k 9 (by omega) (by omega) (by omega), e0 7 k 9 (by omega) (by omega) (by omega)]
          · rw [e0 4 i p hp (by omega) (by omega), e0 7 i p hp (by omega) (by omega)]
          · rw [us3, us3]
          · rw [us3, us3, lostR, if_pos c1, if_neg k1, if_pos k4, Int32.add_zero]
          · rw [us3, us3]
          · rw [us6 _ _ _ _ ht3, us6 _ _ _ _ ht3]
        · rw [if_neg k4]
          refine ⟨⟨fun p hp p4 p5 p7 p8 p9 => ?_, fun h => absurd h c0, fun _ => ⟨⟨ev 4 (by omega) _ _, ?_⟩, ?_, ?_, ?_⟩, fun h => absurd (c1.symm.trans h) (by decide), fun _ h => absurd c1 h⟩, fun i p hp hip => ?_, ?_, ?_, fun y y4 y5 => ?_, ?_⟩
          · rw [e0 4 k p (by omega) (by omega) (by omega), us2, e0 7 k p (by omega) (by omega) (by omega)]
          · rw [e0 4 k 5 (by omega) (by omega) (by omega), us2, e0 7 k 5 (by omega) (by omega) (by omega), if_neg k1]
          · rw [e0 4 k 7 (by omega) (by omega) (by omega), us2, ev 7 (by omega)]
          · rw [e0 4 k 8 (by omega) (by omega) (by omega), us2, e0 7 k 8 (by omega) (by omega) (by omega)]
          · rw [e0 4 k 9 (by omega) (by omega) (by omega), us2, e0 7 k 9 (by omega) (by omega) (by omega)]
          · rw [e0 4 i p hp (by omega) (by omega), us2, e0 7 i p hp (by omega) (by omega)]
          · rw [us3, us4, if_neg (by omega), us3]
          · rw [us3, us4, if_pos rfl, us3, lostR, if_pos c1, if_neg k1, if_neg k4]
          · rw [us3, us4, if_neg y5, us3]
          · rw [us6 _ _ _ _ ht3, us7 _ _ _ _ ht3, us6 _ _ _ _ ht3]
    · have l0 : lostR (sL I b k) = 0 := by rw [lostR, if_neg c1]
      by_cases c4 : sL I b k 7 = 4
      · rw [tl2, if_neg c0, if_neg c1, if_pos c4, if_neg c0, Int32.add_zero, l0, Int32.add_zero]
        have e0 : ∀ x i p, p < 12 → x < 12 → (i ≠ k ∨ p ≠ x) → ∀ (J : Mi) v, sL (up J (b + 1) (12 * k + x) v) b i p = sL J b i p := fun x i p hp hx h J v => by rw [us1 _ _ _ _ _ _ _ hx hp, if_neg (by omega)]
        have ev : ∀ x, x < 12 → ∀ (J : Mi) v, sL (up J (b + 1) (12 * k + x) v) b k x = v := fun x hx J v => by rw [us1 _ _ _ _ _ _ _ hx hx, if_pos ⟨rfl, rfl⟩]
        rw [riL]
        try dsimp only
        by_cases c8 : sL I b k 8 - 1 = 0
        · rw [if_pos c8]
          have f1 : sL (up (up I (b + 1) (12 * k + 8) (sL I b k 8 - 1)) (b + 1) (12 * k + 7) 0) b k 1 = sL I b k 1 := by rw [e0 7 k 1 (by omega) (by omega) (by omega), e0 8 k 1 (by omega) (by omega) (by omega)]
          have f5 : sL (up (up I (b + 1) (12 * k + 8) (sL I b k 8 - 1)) (b + 1) (12 * k + 7) 0) b k 5 = sL I b k 5 := by rw [e0 7 k 5 (by omega) (by omega) (by omega), e0 8 k 5 (by omega) (by omega) (by omega)]
          rw [f1, f5]
          by_cases k1 : sL I b k 1 = 1
          · rw [if_pos k1]
            refine ⟨⟨fun p hp p4 p5 p7 p8 p9 => ?_, fun h => absurd h c0, fun h => absurd h c1, fun _ => ⟨fun _ => ⟨?_, ?_⟩, fun h => absurd c8 h, ?_, ?_, ?_⟩, fun _ _ h => absurd c4 h⟩, fun i p hp hip => ?_, ?_, ?_, fun y y4 y5 => ?_, ?_⟩
            · rw [e0 4 k p (by omega) (by omega) (by omega), e0 7 k p (by omega) (by omega) (by omega), e0 8 k p (by omega) (by omega) (by omega)]
            · rw [e0 4 k 7 (by omega) (by omega) (by omega), ev 7 (by omega)]
            · rw [ev 4 (by omega), if_pos k1]
            · rw [e0 4 k 5 (by omega) (by omega) (by omega), e0 7 k 5 (by omega) (by omega) (by omega), e0 8 k 5 (by omega) (by omega) (by omega)]
            · rw [e0 4 k 8 (by omega) (by omega) (by omega), e0 7 k 8 (by omega) (by omega) (by omega), ev 8 (by omega)]
            · rw [e0 4 k 9 (by omega) (by omega) (by omega), e0 7 k 9 (by omega) (by omega) (by omega), e0 8 k 9 (by omega) (by omega) (by omega)]
            · rw [e0 4 i p hp (by omega) (by omega), e0 7 i p hp (by omega) (by omega), e0 8 i p hp (by omega) (by omega)]
            · rw [us3, us3, us3]
            · rw [us3, us3, us3]
            · rw [us3, us3, us3]
            · rw [us6 _ _ _ _ ht3, us6 _ _ _ _ ht3, us6 _ _ _ _ ht3]
          · rw [if_neg k1]
            refine ⟨⟨fun p hp p4 p5 p7 p8 p9 => ?_, fun h => absurd h c0, fun h => absurd h c1, fun _ => ⟨fun _ => ⟨?_, ?_⟩, fun h => absurd c8 h, ?_, ?_, ?_⟩, fun _ _ h => absurd c4 h⟩, fun i p hp hip => ?_, ?_, ?_, fun y y4 y5 => ?_, ?_⟩
            · rw [e0 7 k p (by omega) (by omega) (by omega), e0 8 k p (by omega) (by omega) (by omega)]
            · rw [ev 7 (by omega)]
            · rw [e0 7 k 4 (by omega) (by omega) (by omega), e0 8 k 4 (by omega) (by omega) (by omega), if_neg k1]
            · rw [e0 7 k 5 (by omega) (by omega) (by omega), e0 8 k 5 (by omega) (by omega) (by omega)]
            · rw [e0 7 k 8 (by omega) (by omega) (by omega), ev 8 (by omega)]
            · rw [e0 7 k 9 (by omega) (by omega) (by omega), e0 8 k 9 (by omega) (by omega) (by omega)]
            · rw [e0 7 i p hp (by omega) (by omega), e0 8 i p hp (by omega) (by omega)]
            · rw [us3, us3]
            · rw [us3, us3]
            · rw [us3, us3]
            · rw [us6 _ _ _ _ ht3, us6 _ _ _ _ ht3]
        · rw [if_neg c8]
          refine ⟨⟨fun p hp p4 p5 p7 p8 p9 => ?_, fun h => absurd h c0, fun h => absurd h c1, fun _ => ⟨fun h => absurd h c8, fun _ => ⟨?_, ?_⟩, ?_, ?_, ?_⟩, fun _ _ h => absurd c4 h⟩, fun i p hp hip => ?_, ?_, ?_, fun y y4 y5 => ?_, ?_⟩
          · rw [e0 8 k p (by omega) (by omega) (by omega)]
          · rw [e0 8 k 7 (by omega) (by omega) (by omega), c4]
          · rw [e0 8 k 4 (by omega) (by omega) (by omega)]
          · rw [e0 8 k 5 (by omega) (by omega) (by omega)]
          · rw [ev 8 (by omega)]
          · rw [e0 8 k 9 (by omega) (by omega) (by omega)]
          · rw [e0 8 i p hp (by omega) (by omega)]
          · rw [us3]
          · rw [us3]
          · rw [us3]
          · rw [us6 _ _ _ _ ht3]
      · rw [tl2, if_neg c0, if_neg c1, if_neg c4, if_neg c0, Int32.add_zero, l0, Int32.add_zero]
        exact ⟨RowT_same c0 c1 c4, fun _ _ _ _ => rfl, rfl, rfl, fun _ _ _ => rfl, rfl⟩
