/-! beginning to rise; a tick's orders -/
/-- midway: l are left in the row, those from k on are still to be gone through -/
def BG (a n w k : Nat) (p : Mi × Int32 × Int32) (y : Mi × Nat) : Prop := RB p.1 a (y.1 128) n ∧ (p.2.1 = rlM y.1 n ∧ p.2.2 = nI y.2 ∧ y.2 ≤ k) ∧ ∃ q, QI p.1 a (y.1 128) n q (fun x => x < y.2 ∨ (k ≤ x ∧ x < w))
theorem brA_S (I : Mi) (a j : Nat) (u v : Int32) : CSx (brA a j (I, u, v)).1 a I j 4 (I (a + 1) j) ∧ (∀ x, (brA a j (I, u, v)).1 (a + 9) x = I (a + 9) x) := by
  unfold brA
  dsimp only
  rw [uc1 I a 4 1 j j 4, if_neg (by omega)]
  refine ⟨⟨⟨?_, ?_, ?_⟩, fun j hj => ⟨?_, ?_, ?_⟩, ⟨?_, ?_⟩, fun j hj hji => ⟨?_, ?_⟩⟩, fun x => ?_⟩ <;> simp only [uc1, uc2, uc3, uc4, Nat.reduceEqDiff, Nat.reduceLT, Nat.reduceLeDiff, reduceIte, and_false, false_and, and_true, true_and, and_self, ne_eq, not_false_eq_true, not_true_eq_false, Nat.zero_lt_succ, *]
theorem lrA_S (J : Mi) (j l : Nat) : KSx ((lrA j (J, l)).1 128) (J 128) j 4 (pt J j 2) ∧ (∀ x, x < 8 → (lrA j (J, l)).1 128 (8 + x) = J 128 (8 + x)) := by
  unfold lrA
  dsimp only
  rw [show pt (sp J j 7 4) j 2 = pt J j 2 from (um1 J j 7 j 2 4 (by omega) (by omega)).trans (if_neg (by omega))]
  refine ⟨⟨⟨?_, ?_, ?_⟩, fun j hj => ⟨?_, ?_, ?_⟩, ⟨?_, ?_⟩, fun j hj hji => ⟨?_, ?_⟩⟩, fun x hx => ?_⟩ <;> simp only [um1, um2, um3, um4, um5, um6, um7, um8, um9, um0, Nat.reduceEqDiff, Nat.reduceLT, Nat.reduceLeDiff, reduceIte, and_false, false_and, and_true, true_and, and_self, ne_eq, not_false_eq_true, not_true_eq_false, *]
theorem lrA_rl (J : Mi) (j l n : Nat) (hj : j < n) (h4 : pt J j 7 ≠ 4) : rlM (lrA j (J, l)).1 n = rlM J n + pt J j 3 := by
  rw [rlM_sm, rlM_sm, sm_upd (j := j) (d := pt J j 3) (v := fun i => if pt J i 7 = 4 then pt J i 3 else 0), if_pos hj]
  · unfold lrA
    dsimp only
    rw [if_neg h4, Int32.zero_add]
    rw [if_pos (show pt (sp (sp J j 7 4) j 8 _) j 7 = 4 from (um1 _ j 8 j 7 _ (by omega) (by omega)).trans ((if_neg (by omega)).trans (ptp J j 7 4)))]
    exact (um1 _ j 8 j 3 _ (by omega) (by omega)).trans ((if_neg (by omega)).trans ((um1 _ j 7 j 3 _ (by omega) (by omega)).trans (if_neg (by omega))))
  · intro i hi
    unfold lrA
    dsimp only
    have e : ∀ p, p < 10 → pt (sp (sp J j 7 4) j 8 (pt (sp J j 7 4) j 2)) i p = pt J i p := fun p hp => (um1 _ j 8 i p _ (by omega) hp).trans ((if_neg (by omega)).trans ((um1 _ j 7 i p _ (by omega) hp).trans (if_neg (by omega))))
    rw [e 7 (by omega), e 3 (by omega)]
theorem BG_take {a n w k j : Nat} {I J : Mi} {u v : Int32} {l : Nat} (hk : k < w) (h : BG a n w k (I, u, v) (J, l)) (q : Nat → Nat) (hq : QI I a (J 128) n q (fun x => x < l ∨ (k ≤ x ∧ x < w))) (hj : q k = j) : BG a n w (k + 1) (brA a j (I, u, v)) (lrA j (J, l)) := by
  obtain ⟨hb, ⟨h1, h2, h3⟩, -⟩ := h
  obtain ⟨q1, q2⟩ := hq
  obtain ⟨z0, z1, z2, z3, z4⟩ := q1 k (Or.inr ⟨Nat.le_refl _, hk⟩)
  rw [hj] at z1 z2 z3 z4
  have h8 : n ≤ 8 := hb.1
  obtain ⟨⟨s1, s2, s3, s4, s5⟩, ⟨r, r1, r9, hr⟩, -, -⟩ := hb.2.2.1 j z1
  obtain ⟨c1, c9⟩ := brA_S I a j u v
  obtain ⟨m1, m9⟩ := lrA_S J j l
  have s1 : I (a + 1) j = pt J j 2 := s1
  have s2 : I (a + 2) j = pt J j 3 := s2
  have s4 : I (a + 4) j = pt J j 7 := s4
  have hr : I (a + 1) j = nI r := hr
  rw [hr] at c1
  rw [← s1, hr] at m1
  refine ⟨RB_st c1 m1 hb z1 r9 (fun _ => r1) (fun z => absurd rfl z), ⟨?_, h2, Nat.le_succ_of_le h3⟩, q, fun x hx => ?_, fun x y hx hy => q2 x y ?_ ?_⟩
  · rw [lrA_rl J j l n z1 (by rw [← s4, z4]; decide), ← s2, ← h1]; rfl
  · have hx' : x < l ∨ (k ≤ x ∧ x < w) := by
      have hx : x < l ∨ (k + 1 ≤ x ∧ x < w) := hx
      omega
    have hxk : x ≠ k := by
      have hx : x < l ∨ (k + 1 ≤ x ∧ x < w) := hx
      have h3 : l ≤ k := h3
      omega
    obtain ⟨y0, y1, y2, y3, y4⟩ := q1 x hx'
    have hne : q x ≠ j := fun e => hxk (q2 x k hx' (Or.inr ⟨Nat.le_refl _, hk⟩) (e.trans hj.symm))
    exact ⟨y0, y1, (c9 x).trans y2, (m9 x y0).trans y3, ((c1.2.2.2 (q x) (by omega) hne).1).trans y4⟩
  · have hx : x < l ∨ (k + 1 ≤ x ∧ x < w) := hx
    show x < l ∨ (k ≤ x ∧ x < w)
    omega
  · have hy : y < l ∨ (k + 1 ≤ y ∧ y < w) := hy
    show y < l ∨ (k ≤ y ∧ y < w)
    omega
theorem RB_q {I2 I : Mi} {a n : Nat} {K2 K : Kr} (hC : (I2 a 0 = I a 0 ∧ I2 a 13 = I a 13 ∧ I2 a 14 = I a 14) ∧ ∀ j, j < 8 → I2 (a + 1) j = I (a + 1) j ∧ I2 (a + 2) j = I (a + 2) j ∧ I2 (a + 3) j = I (a + 3) j ∧ I2 (a + 4) j = I (a + 4) j ∧ I2 (a + 7) j = I (a + 7) j)
    (hK : (K2 0 = K 0 ∧ K2 1 = K 1 ∧ K2 2 = K 2) ∧ ∀ j, j < 8 → K2 (16 + 10 * j + 2) = K (16 + 10 * j + 2) ∧ K2 (16 + 10 * j + 3) = K (16 + 10 * j + 3) ∧ K2 (16 + 10 * j + 6) = K (16 + 10 * j + 6) ∧ K2 (16 + 10 * j + 7) = K (16 + 10 * j + 7) ∧ K2 (16 + 10 * j + 8) = K (16 + 10 * j + 8)) (h : RB I a K n) : RB I2 a K2 n := by
  obtain ⟨h8, ⟨a0, a1, a2, a3⟩, hS, hA⟩ := h
  obtain ⟨⟨c0, c1, c2⟩, c3⟩ := hC
  obtain ⟨⟨k0, k1, k2⟩, k3⟩ := hK
  refine ⟨h8, ⟨by rw [c0, a0], by rw [k2, a1], by rw [c1, k0, a2], by rw [c2, k1, a3]⟩, fun i hi => ?_, fun i h1 h2 => ?_⟩
  · have hi8 : i < 8 := by omega
    have s := hS i hi
    obtain ⟨d1, d2, d3, d4, d5⟩ := c3 i hi8
    obtain ⟨e1, e2, e3, e4, e5⟩ := k3 i hi8
    unfold SI at s ⊢
    rw [d1, d2, d3, d4, d5, e1, e2, e3, e4, e5]
    exact s
  · have s := hA i h1 h2
    obtain ⟨d1, d2, d3, d4, d5⟩ := c3 i h2
    unfold AI at s ⊢
    rw [d3, d4, d5]
    exact s
theorem brB_e (a k : Nat) (I : Mi) (u v : Int32) : brB a k (I, u, v) = if isP (I (a + 9) k) = true then
    if u = 0 then brA a (ix (I (a + 9) k)) (I, u, v)
    else if I a 13 < u + I (a + 2) (ix (I (a + 9) k)) then
      if isP v = true then (up I (a + 9) (ix v) (I (a + 9) k), u, v + 1) else (I, u, v)
    else brA a (ix (I (a + 9) k)) (I, u, v)
  else (I, u, v) := rfl
theorem lrB_e (n k : Nat) (J : Mi) (l : Nat) : lrB n k (J, l) = if rlM J n = 0 then lrA (ix (J 128 (8 + k))) (J, l)
  else if J 128 0 < rlM J n + pt J (ix (J 128 (8 + k))) 3 then (up J 128 (8 + l) (J 128 (8 + k)), l + 1)
  else lrA (ix (J 128 (8 + k))) (J, l) := rfl
theorem BG_step {a n w k : Nat} {p : Mi × Int32 × Int32} {y : Mi × Nat} (hw : w ≤ 8) (hk : k < w) (h : BG a n w k p y) : BG a n w (k + 1) (brB a k p) (lrB n k y) := by
  obtain ⟨I, u, v⟩ := p
  obtain ⟨J, l⟩ := y
  obtain ⟨hb, ⟨h1, h2, h3⟩, q, hq⟩ := id h
  have h1 : u = rlM J n := h1
  have h2 : v = nI l := h2
  have h3 : l ≤ k := h3
  obtain ⟨z0, z1, z2, z3, z4⟩ := hq.1 k (Or.inr ⟨Nat.le_refl _, hk⟩)
  have z2 : I (a + 9) k = nI (q k) := z2
  have z3 : J 128 (8 + k) = nI (q k) := z3
  have h8 : n ≤ 8 := hb.1
  have hi : ix (nI (q k)) = q k := ix_nI (by omega)
  obtain ⟨s1, s2, s3, s4, s5⟩ := (hb.2.2.1 (q k) z1).1
  have s2 : I (a + 2) (q k) = pt J (q k) 3 := s2
  have e13 : I a 13 = J 128 0 := hb.2.1.2.2.1
  rw [brB_e, lrB_e, z2, z3, hi, if_pos (isP_nI (show q k < 8 by omega)), h1, s2, e13]
  by_cases c1 : rlM J n = 0
  · rw [if_pos c1, if_pos c1, ← h1]
    exact BG_take hk h q hq rfl
  · rw [if_neg c1, if_neg c1]
    by_cases c2 : J 128 0 < rlM J n + pt J (q k) 3
    · rw [if_pos c2, if_pos c2, h2, if_pos (isP_nI (show l < 8 by omega)), ix_nI (by omega)]
      have hl8 : l < 8 := by omega
      refine ⟨RB_q ⟨⟨?_, ?_, ?_⟩, fun j hj => ⟨?_, ?_, ?_, ?_, ?_⟩⟩ ⟨⟨?_, ?_, ?_⟩, fun j hj => ⟨?_, ?_, ?_, ?_, ?_⟩⟩ hb, ⟨?_, nI_1 l, by show l + 1 ≤ k + 1; omega⟩, fun x => if x = l then q k else q x, fun x hx => ?_, fun x y hx hy e => ?_⟩
      case refine_17 =>
        show rlM J n = _
        rw [rlM_sm, rlM_sm]
        refine sm_congr (fun i hi => ?_)
        rw [show pt (up J 128 (8 + l) (nI (q k))) i 7 = pt J i 7 from um4 _ _ _ _ _ (by omega), show pt (up J 128 (8 + l) (nI (q k))) i 3 = pt J i 3 from um4 _ _ _ _ _ (by omega)]
      case refine_18 =>
        have hx : x < l + 1 ∨ (k + 1 ≤ x ∧ x < w) := hx
        show x < 8 ∧ (if x = l then q k else q x) < n ∧ up I (a + 9) l (nI (q k)) (a + 9) x = nI (if x = l then q k else q x) ∧ up J 128 (8 + l) (nI (q k)) 128 (8 + x) = nI (if x = l then q k else q x) ∧ up I (a + 9) l (nI (q k)) (a + 4) (if x = l then q k else q x) = 3
        rw [uc1 I a 9 9 l x, uc1 I a 9 4 l, um5, if_neg (show ¬ (4 = 9 ∧ (if x = l then q k else q x) = l) by omega)]
        by_cases c3 : x = l
        · rw [if_pos c3, if_pos c3, if_pos ⟨rfl, c3⟩]
          exact ⟨by omega, z1, rfl, rfl, z4⟩
        · rw [if_neg c3, if_neg c3, if_neg (by omega)]
          exact hq.1 x (by show x < l ∨ (k ≤ x ∧ x < w); omega)
      case refine_19 =>
        have hx : x < l + 1 ∨ (k + 1 ≤ x ∧ x < w) := hx
        have hy : y < l + 1 ∨ (k + 1 ≤ y ∧ y < w) := hy
        have e : (if x = l then q k else q x) = if y = l then q k else q y := e
        have g : ∀ b, (b < l + 1 ∨ (k + 1 ≤ b ∧ b < w)) → b ≠ l → (fun x => x < l ∨ (k ≤ x ∧ x < w)) b ∧ q b ≠ q k := fun b hb hbl => by
          have hD : b < l ∨ (k ≤ b ∧ b < w) := by omega
          refine ⟨hD, fun e => ?_⟩
          have := hq.2 b k hD (Or.inr ⟨Nat.le_refl _, hk⟩) e
          omega
        by_cases cx : x = l
        · by_cases cy : y = l
          · omega
          · rw [if_pos cx, if_neg cy] at e
            exact absurd e.symm (g y hy cy).2
        · by_cases cy : y = l
          · rw [if_neg cx, if_pos cy] at e
            exact absurd e (g x hx cx).2
          · rw [if_neg cx, if_neg cy] at e
            exact hq.2 x y (g x hx cx).1 (g y hy cy).1 e
      all_goals clear h1 h2 c1 c2 e13 s2 hi z2 z3 z4 hq hb h
      all_goals first | (simp only [uc1, uc2, uc3, uc4, Nat.reduceEqDiff, Nat.reduceLT, Nat.reduceLeDiff, reduceIte, and_false, false_and, and_true, true_and, and_self, ne_eq, not_false_eq_true, not_true_eq_false, Nat.zero_lt_succ, *]; done) | (simp only [um1, um2, um3, um4, um5, um6, um7, um8, um9, um0, Nat.reduceEqDiff, Nat.reduceLT, Nat.reduceLeDiff, reduceIte, and_false, false_and, and_true, true_and, and_self, ne_eq, not_false_eq_true, not_true_eq_false, *]; done)
    · rw [if_neg c2, if_neg c2, ← h1]
      exact BG_take hk h q hq rfl
theorem rnd_nI {w : Nat} (h : w ≤ 8) : rnd (nI w) = w := by
  unfold rnd
  rw [ix_nI (by omega)]
  omega
theorem RS_beg {I J : Mi} {a n w : Nat} (h : RS I a (J 128) n w) : RS (begC I a) a (letM J n w 128) n (lrI n w J).2 := by
  obtain ⟨hb, hw, ⟨c12, k7⟩, q, hq⟩ := h
  have e : rloadC I a = rlM J n := by
    rw [rloadC_sm, rlM_sm, sm_more hb.1 (fun i h1 h2 => by rw [if_neg (by rw [(hb.2.2.2 i h1 h2).1]; decide)])]
    refine sm_congr (fun i hi => ?_)
    have s := (hb.2.2.1 i hi).1
    rw [s.2.1, s.2.2.2.1]
  have h1 : BG a n w w (lp (brB a) w (I, rloadC I a, 0)) (lp (lrB n) w (J, 0)) := lp_ind2 (fun k p y => k ≤ w → BG a n w k p y) (fun _ => ⟨hb, ⟨e, rfl, Nat.le_refl _⟩, q, fun x hx => hq.1 x (by
    have hx : x < 0 ∨ (0 ≤ x ∧ x < w) := hx
    show x < w
    omega), fun x y hx hy => hq.2 x y (by
    have hx : x < 0 ∨ (0 ≤ x ∧ x < w) := hx
    show x < w
    omega) (by
    have hy : y < 0 ∨ (0 ≤ y ∧ y < w) := hy
    show y < w
    omega)⟩) (fun k p y hk ih _ => BG_step hw hk (ih (by omega))) (Nat.le_refl _)
  unfold begC letM begR
  rw [c12, rnd_nI hw]
  change RS (up (lp (brB a) w (I, rloadC I a, 0)).1 a 12 (lp (brB a) w (I, rloadC I a, 0)).2.2) a (up (lp (lrB n) w (J, 0)).1 128 7 (nI (lp (lrB n) w (J, 0)).2) 128) n (lp (lrB n) w (J, 0)).2
  generalize lp (brB a) w (I, rloadC I a, 0) = p at h1 ⊢
  generalize lp (lrB n) w (J, 0) = y at h1 ⊢
  obtain ⟨I2, u, v⟩ := p
  obtain ⟨J2, l⟩ := y
  obtain ⟨hb2, ⟨-, h2, h3⟩, q2, hq2⟩ := h1
  dsimp only at hb2 h2 h3 hq2 ⊢
  refine ⟨RB_q ⟨⟨?_, ?_, ?_⟩, fun j hj => ⟨?_, ?_, ?_, ?_, ?_⟩⟩ ⟨⟨?_, ?_, ?_⟩, fun j hj => ⟨?_, ?_, ?_, ?_, ?_⟩⟩ hb2, by omega, ⟨?_, ?_⟩, q2, fun x hx => ?_, fun x y hx hy => hq2.2 x y (Or.inl hx) (Or.inl hy)⟩
  case refine_17 => rw [uc4, if_pos rfl, h2]
  case refine_18 => rw [um9 _ _ _ _ (by omega) (by omega), if_pos rfl]
  case refine_19 =>
    obtain ⟨z0, z1, z2, z3, z4⟩ := hq2.1 x (Or.inl hx)
    exact ⟨z0, z1, by rw [uc3 _ _ _ _ _ _ (by omega), z2], by rw [um8 _ _ _ _ (by omega), z3], by rw [uc3 _ _ _ _ _ _ (by omega), z4]⟩
  all_goals clear hq2 h2 h3 hb2 e hq c12 k7 hb
  all_goals first | (simp only [uc1, uc2, uc3, uc4, Nat.reduceEqDiff, Nat.reduceLT, Nat.reduceLeDiff, reduceIte, and_false, false_and, and_true, true_and, and_self, ne_eq, not_false_eq_true, not_true_eq_false, Nat.zero_lt_succ, *]; done) | (simp only [um1, um2, um3, um4, um5, um6, um7, um8, um9, um0, Nat.reduceEqDiff, Nat.reduceLT, Nat.reduceLeDiff, reduceIte, and_false, false_and, and_true, true_and, and_self, ne_eq, not_false_eq_true, not_true_eq_false, *]; done)
/-- the orders of a tick, on both sides (the values may differ) -/
theorem RS_mv {I J : Mi} {a n w : Nat} (h : RS I a (J 128) n w) : ∃ w2 w3, RS (mvC I a) a (letM (akM (riM (faM J n) n) n) n w2 128) n w3 ∧ w2 ≤ 8 ∧ akM (riM (faM J n) n) n 128 7 = nI w2 ∧ QV (akM (riM (faM J n) n) n) w2 := by
  have h1 : RS (riseC (fallC I a) a) a (riM (faM J n) n 128) n w := RS_rise (RS_fall h)
  have e14 := h1.1.2.1.2.2.2
  unfold mvC akM
  rw [e14]
  have qv : ∀ {X Y : Mi} {v : Nat}, RS X a (Y 128) n v → QV Y v := fun hR k hk => by
    obtain ⟨hb, hw, -, q, hq⟩ := hR
    obtain ⟨z0, z1, z2, z3, z4⟩ := hq.1 k hk
    exact ⟨q k, by have := hb.1; omega, z3⟩
  by_cases c : riM (faM J n) n 128 1 = 1
  · rw [if_pos c, if_pos c]
    obtain ⟨w2, h2, -⟩ := RS_ask h1
    exact ⟨w2, _, RS_beg h2, h2.2.1, h2.2.2.1.2, qv h2⟩
  · rw [if_neg c, if_neg c]
    exact ⟨w, _, RS_beg h1, h1.2.1, h1.2.2.1.2, qv h1⟩
