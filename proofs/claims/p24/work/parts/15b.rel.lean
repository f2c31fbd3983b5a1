/-! what the class's chip at a and a row K of the reference's have in common: orders (RB, RQ) and values (RV) -/
theorem uc1 (I : Mi) (a c d i j : Nat) (v : Int32) : up I (a + c) i v (a + d) j = if d = c ∧ j = i then v else I (a + d) j := by simp [up]
theorem uc2 (I : Mi) (a c i y : Nat) (v : Int32) (hc : 0 < c) : up I (a + c) i v a y = I a y := by unfold up; rw [if_neg (by omega)]
theorem uc3 (I : Mi) (a c f i : Nat) (v : Int32) (hc : 0 < c) : up I a f v (a + c) i = I (a + c) i := by unfold up; rw [if_neg (by omega)]
theorem uc4 (I : Mi) (a f g : Nat) (v : Int32) : up I a f v a g = if g = f then v else I a g := by simp [up]
theorem um1 (J : Mi) (i p i2 p2 : Nat) (v : Int32) (h : p < 10) (h2 : p2 < 10) : up J 128 (16 + 10 * i + p) v 128 (16 + 10 * i2 + p2) = if i2 = i ∧ p2 = p then v else J 128 (16 + 10 * i2 + p2) := by
  unfold up
  by_cases q : i2 = i ∧ p2 = p
  · rw [if_pos q, if_pos ⟨rfl, by rw [q.1, q.2]⟩]
  · rw [if_neg q, if_neg (by omega)]
theorem um2 (J : Mi) (i p k : Nat) (v : Int32) (h : k < 8) : up J 128 (16 + 10 * i + p) v 128 (8 + k) = J 128 (8 + k) := by unfold up; rw [if_neg (by omega)]
theorem um3 (J : Mi) (i p y : Nat) (v : Int32) (h : y < 8) : up J 128 (16 + 10 * i + p) v 128 y = J 128 y := by unfold up; rw [if_neg (by omega)]
theorem um4 (J : Mi) (i p k : Nat) (v : Int32) (h : k < 8) : up J 128 (8 + k) v 128 (16 + 10 * i + p) = J 128 (16 + 10 * i + p) := by unfold up; rw [if_neg (by omega)]
theorem um5 (J : Mi) (k k2 : Nat) (v : Int32) : up J 128 (8 + k) v 128 (8 + k2) = if k2 = k then v else J 128 (8 + k2) := by
  unfold up
  by_cases q : k2 = k
  · rw [if_pos q, if_pos ⟨rfl, by rw [q]⟩]
  · rw [if_neg q, if_neg (by omega)]
theorem um6 (J : Mi) (k y : Nat) (v : Int32) (h : y < 8) : up J 128 (8 + k) v 128 y = J 128 y := by unfold up; rw [if_neg (by omega)]
theorem um7 (J : Mi) (i p y : Nat) (v : Int32) (h : y < 8) : up J 128 y v 128 (16 + 10 * i + p) = J 128 (16 + 10 * i + p) := by unfold up; rw [if_neg (by omega)]
theorem um8 (J : Mi) (k y : Nat) (v : Int32) (h : y < 8) : up J 128 y v 128 (8 + k) = J 128 (8 + k) := by unfold up; rw [if_neg (by omega)]
theorem um9 (J : Mi) (y z : Nat) (v : Int32) (_ : y < 8) (_ : z < 8) : up J 128 y v 128 z = if z = y then v else J 128 z := by simp [up]
theorem um0 (J : Mi) (k y z x : Nat) (v : Int32) (h : x ≠ k) : up J k y v x z = J x z := by unfold up; rw [if_neg (by omega)]
abbrev Kr : Type := Nat → Int32
def SI (I : Mi) (a : Nat) (K : Kr) (n i : Nat) : Prop := (I (a + 1) i = K (16 + 10 * i + 2) ∧ I (a + 2) i = K (16 + 10 * i + 3) ∧ I (a + 3) i = K (16 + 10 * i + 6) ∧ I (a + 4) i = K (16 + 10 * i + 7) ∧ I (a + 7) i = K (16 + 10 * i + 8)) ∧ (∃ r, 1 ≤ r ∧ r ≤ 9 ∧ I (a + 1) i = nI r) ∧ (∃ t, t ≤ 9 ∧ I (a + 7) i = nI t ∧ (I (a + 4) i = 4 → 1 ≤ t) ∧ (I (a + 4) i ≠ 4 → t = 0)) ∧ ∀ j, n ≤ j → j < 8 → bt (I (a + 3) i) j = false
def AI (I : Mi) (a i : Nat) : Prop := I (a + 4) i = -1 ∧ I (a + 3) i = 0 ∧ I (a + 7) i = 0
def RB (I : Mi) (a : Nat) (K : Kr) (n : Nat) : Prop := n ≤ 8 ∧ (I a 0 = nI n ∧ K 2 = nI n ∧ I a 13 = K 0 ∧ I a 14 = K 1) ∧ (∀ i, i < n → SI I a K n i) ∧ ∀ i, n ≤ i → i < 8 → AI I a i
def QI (I : Mi) (a : Nat) (K : Kr) (n : Nat) (q : Nat → Nat) (D : Nat → Prop) : Prop := (∀ k, D k → k < 8 ∧ q k < n ∧ I (a + 9) k = nI (q k) ∧ K (8 + k) = nI (q k) ∧ I (a + 4) (q k) = 3) ∧ ∀ k k2, D k → D k2 → q k = q k2 → k = k2
def RQ (I : Mi) (a : Nat) (K : Kr) (n w : Nat) : Prop := w ≤ 8 ∧ (I a 12 = nI w ∧ K 7 = nI w) ∧ ∃ q, QI I a K n q (fun k => k < w)
def RS (I : Mi) (a : Nat) (K : Kr) (n w : Nat) : Prop := RB I a K n ∧ RQ I a K n w
def VI (I : Mi) (a : Nat) (K : Kr) (i : Nat) : Prop := (K (16 + 10 * i + 0) = bi (bt (I a 1) i) ∧ K (16 + 10 * i + 1) = bi (bt (I a 2) i)) ∧ (I (a + 5) i = K (16 + 10 * i + 4) ∧ I (a + 6) i = K (16 + 10 * i + 5) ∧ I (a + 8) i = K (16 + 10 * i + 9)) ∧ (∃ v, v < 256 ∧ I (a + 5) i = nI v) ∧ ∃ v, v < 256 ∧ I (a + 6) i = nI v
def AV (I : Mi) (a i : Nat) : Prop := I (a + 5) i = 0 ∧ I (a + 6) i = 0 ∧ I (a + 8) i = 0 ∧ bt (I a 1) i = false ∧ bt (I a 2) i = false
def RV (I : Mi) (a : Nat) (K : Kr) (n : Nat) : Prop := (I a 15 = K 3 ∧ I a 16 = K 5 ∧ I a 17 = K 6 ∧ sumC I (a + 8) = K 4) ∧ (∀ i, i < n → VI I a K i) ∧ ∀ i, n ≤ i → i < 8 → AV I a i
def RR (I : Mi) (a : Nat) (K : Kr) (n w : Nat) : Prop := RS I a K n w ∧ RV I a K n
/-- the same chip at another place, the same row -/
def CE (I2 : Mi) (a : Nat) (I : Mi) (b : Nat) : Prop := (∀ f, f = 0 ∨ f = 1 ∨ f = 2 ∨ f = 12 ∨ f = 13 ∨ f = 14 ∨ f = 15 ∨ f = 16 ∨ f = 17 → I2 a f = I b f) ∧ ∀ c, 1 ≤ c → c ≤ 9 → ∀ i, i < 8 → I2 (a + c) i = I (b + c) i
theorem RB_obs {I2 I : Mi} {a b n : Nat} {K2 K : Kr} (hC : CE I2 a I b) (hK : ∀ y, y < 96 → K2 y = K y) (h : RB I b K n) : RB I2 a K2 n := by
  obtain ⟨h8, ⟨a0, a1, a2, a3⟩, hS, hA⟩ := h
  refine ⟨h8, ⟨by rw [hC.1 0 (by simp), a0], by rw [hK 2 (by omega), a1], by rw [hC.1 13 (by simp), hK 0 (by omega), a2], by rw [hC.1 14 (by simp), hK 1 (by omega), a3]⟩, fun i hi => ?_, fun i h1 h2 => ?_⟩
  · have hi8 : i < 8 := by omega
    have s := hS i hi
    unfold SI at s ⊢
    rw [hC.2 1 (by omega) (by omega) i hi8, hC.2 2 (by omega) (by omega) i hi8, hC.2 3 (by omega) (by omega) i hi8, hC.2 4 (by omega) (by omega) i hi8, hC.2 7 (by omega) (by omega) i hi8, hK _ (by omega), hK _ (by omega), hK _ (by omega), hK _ (by omega), hK _ (by omega)]
    exact s
  · have s := hA i h1 h2
    unfold AI at s ⊢
    rw [hC.2 4 (by omega) (by omega) i h2, hC.2 3 (by omega) (by omega) i h2, hC.2 7 (by omega) (by omega) i h2]
    exact s
theorem RQ_obs {I2 I : Mi} {a b n w : Nat} {K2 K : Kr} (h8 : n ≤ 8) (hC : CE I2 a I b) (hK : ∀ y, y < 96 → K2 y = K y) (h : RQ I b K n w) : RQ I2 a K2 n w := by
  obtain ⟨hw, ⟨a0, a1⟩, q, q1, q2⟩ := h
  refine ⟨hw, ⟨by rw [hC.1 12 (by simp), a0], by rw [hK 7 (by omega), a1]⟩, q, fun k hk => ?_, q2⟩
  obtain ⟨z0, z1, z2, z3, z4⟩ := q1 k hk
  exact ⟨z0, z1, by rw [hC.2 9 (by omega) (by omega) k z0, z2], by rw [hK _ (by omega), z3], by rw [hC.2 4 (by omega) (by omega) _ (by omega), z4]⟩
theorem RV_obs {I2 I : Mi} {a b n : Nat} {K2 K : Kr} (h8 : n ≤ 8) (hC : CE I2 a I b) (hK : ∀ y, y < 96 → K2 y = K y) (h : RV I b K n) : RV I2 a K2 n := by
  obtain ⟨⟨a0, a1, a2, a3⟩, hS, hA⟩ := h
  refine ⟨⟨by rw [hC.1 15 (by simp), hK 3 (by omega), a0], by rw [hC.1 16 (by simp), hK 5 (by omega), a1], by rw [hC.1 17 (by simp), hK 6 (by omega), a2], ?_⟩, fun i hi => ?_, fun i h1 h2 => ?_⟩
  · rw [hK 4 (by omega), ← a3, sumC_sm, sumC_sm]
    exact sm_congr (fun i hi => hC.2 8 (by omega) (by omega) i hi)
  · have hi8 : i < 8 := by omega
    have s := hS i hi
    unfold VI at s ⊢
    rw [hC.2 5 (by omega) (by omega) i hi8, hC.2 6 (by omega) (by omega) i hi8, hC.2 8 (by omega) (by omega) i hi8, hC.1 1 (by simp), hC.1 2 (by simp), hK _ (by omega), hK _ (by omega), hK _ (by omega), hK _ (by omega), hK _ (by omega)]
    exact s
  · have s := hA i h1 h2
    unfold AV at s ⊢
    rw [hC.2 5 (by omega) (by omega) i h2, hC.2 6 (by omega) (by omega) i h2, hC.2 8 (by omega) (by omega) i h2, hC.1 1 (by simp), hC.1 2 (by simp)]
    exact s
theorem RR_obs {I2 I : Mi} {a b n w : Nat} {K2 K : Kr} (hC : CE I2 a I b) (hK : ∀ y, y < 96 → K2 y = K y) (h : RR I b K n w) : RR I2 a K2 n w := ⟨⟨RB_obs hC hK h.1.1, RQ_obs h.1.1.1 hC hK h.1.2⟩, RV_obs h.1.1.1 hC hK h.2⟩
theorem CE.same {I2 I : Mi} {a : Nat} (h : ∀ x, a ≤ x → x ≤ a + 9 → I2 x = I x) : CE I2 a I a := ⟨fun f _ => by rw [h a (by omega) (by omega)], fun c h1 h2 i hi => by rw [h (a + c) (by omega) (by omega)]⟩
/-- one island's state and what is left of its rise change -/
def CSx (I2 : Mi) (a : Nat) (I : Mi) (i : Nat) (x y : Int32) : Prop := (I2 a 0 = I a 0 ∧ I2 a 13 = I a 13 ∧ I2 a 14 = I a 14) ∧ (∀ j, j < 8 → I2 (a + 1) j = I (a + 1) j ∧ I2 (a + 2) j = I (a + 2) j ∧ I2 (a + 3) j = I (a + 3) j) ∧ (I2 (a + 4) i = x ∧ I2 (a + 7) i = y) ∧ ∀ j, j < 8 → j ≠ i → I2 (a + 4) j = I (a + 4) j ∧ I2 (a + 7) j = I (a + 7) j
def KSx (K2 K : Kr) (i : Nat) (x y : Int32) : Prop := (K2 0 = K 0 ∧ K2 1 = K 1 ∧ K2 2 = K 2) ∧ (∀ j, j < 8 → K2 (16 + 10 * j + 2) = K (16 + 10 * j + 2) ∧ K2 (16 + 10 * j + 3) = K (16 + 10 * j + 3) ∧ K2 (16 + 10 * j + 6) = K (16 + 10 * j + 6)) ∧ (K2 (16 + 10 * i + 7) = x ∧ K2 (16 + 10 * i + 8) = y) ∧ ∀ j, j < 8 → j ≠ i → K2 (16 + 10 * j + 7) = K (16 + 10 * j + 7) ∧ K2 (16 + 10 * j + 8) = K (16 + 10 * j + 8)
theorem RB_st {I2 I : Mi} {a n i t : Nat} {K2 K : Kr} {x : Int32} (hC : CSx I2 a I i x (nI t)) (hK : KSx K2 K i x (nI t)) (h : RB I a K n) (hi : i < n) (ht : t ≤ 9) (h4 : x = 4 → 1 ≤ t) (h5 : x ≠ 4 → t = 0) : RB I2 a K2 n := by
  obtain ⟨h8, ⟨a0, a1, a2, a3⟩, hS, hA⟩ := h
  obtain ⟨⟨c0, c1, c2⟩, c3, ⟨c4, c5⟩, c6⟩ := hC
  obtain ⟨⟨k0, k1, k2⟩, k3, ⟨k4, k5⟩, k6⟩ := hK
  refine ⟨h8, ⟨by rw [c0, a0], by rw [k2, a1], by rw [c1, k0, a2], by rw [c2, k1, a3]⟩, fun j hj => ?_, fun j h1 h2 => ?_⟩
  · have hj8 : j < 8 := by omega
    obtain ⟨⟨s1, s2, s3, s4, s5⟩, s6, s7, s8⟩ := hS j hj
    obtain ⟨d1, d2, d3⟩ := c3 j hj8
    obtain ⟨e1, e2, e3⟩ := k3 j hj8
    unfold SI
    rw [d1, d2, d3, e1, e2, e3]
    by_cases q : j = i
    · subst q
      rw [c4, c5, k4, k5]
      exact ⟨⟨s1, s2, s3, rfl, rfl⟩, s6, ⟨t, ht, rfl, h4, h5⟩, s8⟩
    · rw [(c6 j hj8 q).1, (c6 j hj8 q).2, (k6 j hj8 q).1, (k6 j hj8 q).2]
      exact ⟨⟨s1, s2, s3, s4, s5⟩, s6, s7, s8⟩
  · obtain ⟨s1, s2, s3⟩ := hA j h1 h2
    have q : j ≠ i := by omega
    unfold AI
    rw [(c6 j h2 q).1, (c6 j h2 q).2, (c3 j h2).2.2]
    exact ⟨s1, s2, s3⟩
def CQ (I2 I : Mi) (a : Nat) : Prop := I2 a 12 = I a 12 ∧ ∀ k, k < 8 → I2 (a + 9) k = I (a + 9) k
def KQ (K2 K : Kr) : Prop := K2 7 = K 7 ∧ ∀ k, k < 8 → K2 (8 + k) = K (8 + k)
theorem RQ_st {I2 I : Mi} {a n w i : Nat} {K2 K : Kr} (h8 : n ≤ 8) (hC : CQ I2 I a) (hK : KQ K2 K) (hs : ∀ j, j < 8 → j ≠ i → I2 (a + 4) j = I (a + 4) j) (h3 : I (a + 4) i ≠ 3) (h : RQ I a K n w) : RQ I2 a K2 n w := by
  obtain ⟨hw, ⟨a0, a1⟩, q, q1, q2⟩ := h
  refine ⟨hw, ⟨by rw [hC.1, a0], by rw [hK.1, a1]⟩, q, fun k hk => ?_, q2⟩
  obtain ⟨z0, z1, z2, z3, z4⟩ := q1 k hk
  exact ⟨z0, z1, by rw [hC.2 k z0, z2], by rw [hK.2 k z0, z3], by rw [hs _ (by omega) (fun e => h3 (by rw [← e, z4])), z4]⟩
/-- one island's value and kept value change -/
def CVx (I2 : Mi) (a : Nat) (I : Mi) (i : Nat) (x y : Int32) : Prop := (I2 a 1 = I a 1 ∧ I2 a 2 = I a 2 ∧ I2 a 15 = I a 15 ∧ I2 a 17 = I a 17) ∧ (∀ j, j < 8 → I2 (a + 8) j = I (a + 8) j) ∧ (I2 (a + 5) i = x ∧ I2 (a + 6) i = y) ∧ ∀ j, j < 8 → j ≠ i → I2 (a + 5) j = I (a + 5) j ∧ I2 (a + 6) j = I (a + 6) j
def KVx (K2 K : Kr) (i : Nat) (x y : Int32) : Prop := (K2 3 = K 3 ∧ K2 4 = K 4 ∧ K2 6 = K 6) ∧ (∀ j, j < 8 → K2 (16 + 10 * j + 0) = K (16 + 10 * j + 0) ∧ K2 (16 + 10 * j + 1) = K (16 + 10 * j + 1) ∧ K2 (16 + 10 * j + 9) = K (16 + 10 * j + 9)) ∧ (K2 (16 + 10 * i + 4) = x ∧ K2 (16 + 10 * i + 5) = y) ∧ ∀ j, j < 8 → j ≠ i → K2 (16 + 10 * j + 4) = K (16 + 10 * j + 4) ∧ K2 (16 + 10 * j + 5) = K (16 + 10 * j + 5)
theorem RV_st {I2 I : Mi} {a n i : Nat} {K2 K : Kr} {x y : Int32} (h8 : n ≤ 8) (hC : CVx I2 a I i x y) (hK : KVx K2 K i x y) (hl : I2 a 16 = K2 5) (h : RV I a K n) (hi : i < n) (hx : ∃ v, v < 256 ∧ x = nI v) (hy : ∃ v, v < 256 ∧ y = nI v) : RV I2 a K2 n := by
  obtain ⟨⟨a0, a1, a2, a3⟩, hS, hA⟩ := h
  obtain ⟨⟨c0, c1, c2, c9⟩, c3, ⟨c4, c5⟩, c6⟩ := hC
  obtain ⟨⟨k0, k1, k2⟩, k3, ⟨k4, k5⟩, k6⟩ := hK
  refine ⟨⟨by rw [c2, k0, a0], hl, by rw [c9, k2, a2], ?_⟩, fun j hj => ?_, fun j h1 h2 => ?_⟩
  · rw [k1, ← a3, sumC_sm, sumC_sm]
    exact sm_congr (fun j hj => c3 j hj)
  · have hj8 : j < 8 := by omega
    obtain ⟨⟨s1, s2⟩, ⟨s3, s4, s5⟩, s6, s7⟩ := hS j hj
    obtain ⟨e1, e2, e3⟩ := k3 j hj8
    unfold VI
    rw [c0, c1, c3 j hj8, e1, e2, e3]
    by_cases q : j = i
    · subst q
      rw [c4, c5, k4, k5]
      exact ⟨⟨s1, s2⟩, ⟨rfl, rfl, s5⟩, hx, hy⟩
    · rw [(c6 j hj8 q).1, (c6 j hj8 q).2, (k6 j hj8 q).1, (k6 j hj8 q).2]
      exact ⟨⟨s1, s2⟩, ⟨s3, s4, s5⟩, s6, s7⟩
  · obtain ⟨s1, s2, s3, s4, s5⟩ := hA j h1 h2
    have q : j ≠ i := by omega
    unfold AV
    rw [(c6 j h2 q).1, (c6 j h2 q).2, c3 j h2, c0, c1]
    exact ⟨s1, s2, s3, s4, s5⟩
