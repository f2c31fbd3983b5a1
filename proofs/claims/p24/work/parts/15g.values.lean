/-! new values -/
theorem RS_q {I2 I : Mi} {a n w : Nat} {K2 K : Kr} (hC : (I2 a 0 = I a 0 ∧ I2 a 13 = I a 13 ∧ I2 a 14 = I a 14) ∧ ∀ j, j < 8 → I2 (a + 1) j = I (a + 1) j ∧ I2 (a + 2) j = I (a + 2) j ∧ I2 (a + 3) j = I (a + 3) j ∧ I2 (a + 4) j = I (a + 4) j ∧ I2 (a + 7) j = I (a + 7) j)
    (hK : (K2 0 = K 0 ∧ K2 1 = K 1 ∧ K2 2 = K 2) ∧ ∀ j, j < 8 → K2 (16 + 10 * j + 2) = K (16 + 10 * j + 2) ∧ K2 (16 + 10 * j + 3) = K (16 + 10 * j + 3) ∧ K2 (16 + 10 * j + 6) = K (16 + 10 * j + 6) ∧ K2 (16 + 10 * j + 7) = K (16 + 10 * j + 7) ∧ K2 (16 + 10 * j + 8) = K (16 + 10 * j + 8)) (hCQ : CQ I2 I a) (hKQ : KQ K2 K) (h : RS I a K n w) : RS I2 a K2 n w := by
  refine ⟨RB_q hC hK h.1, ?_⟩
  obtain ⟨hb, hw, ⟨a0, a1⟩, q, q1, q2⟩ := h
  have h8 := hb.1
  refine ⟨hw, ⟨by rw [hCQ.1, a0], by rw [hKQ.1, a1]⟩, q, fun k hk => ?_, q2⟩
  obtain ⟨z0, z1, z2, z3, z4⟩ := q1 k hk
  exact ⟨z0, z1, by rw [hCQ.2 k z0, z2], by rw [hKQ.2 k z0, z3], by rw [(hC.2 (q k) (by omega)).2.2.2.1, z4]⟩
/-- the class's first pass: what each tells, and of which that is noise -/
theorem ro1R_e (I : Mi) (a : Nat) : (∀ x, x ≠ a + 10 → (ro1R I a).1 x = I x) ∧ (∀ i, i < 8 → (ro1R I a).1 (a + 10) i = tellC I a i) ∧ (ro1R I a).2 = un (fun i => !(heardC I a i) && !(isI (I a 1) (nI i))) 8 := by
  have ht : ∀ (X : Mi) i, (∀ x, x ≠ a + 10 → X x = I x) → heardC X a i = heardC I a i ∧ tellC X a i = tellC I a i ∧ X a 1 = I a 1 := fun X i h => by
    unfold tellC heardC
    rw [h (a + 4) (by omega), h (a + 5) (by omega), h a (by omega)]
    exact ⟨rfl, rfl, rfl⟩
  refine lp_ind (fun (k : Nat) (p : Mi × Int32) => (∀ x, x ≠ a + 10 → p.1 x = I x) ∧ (∀ i, i < k → p.1 (a + 10) i = tellC I a i) ∧ p.2 = un (fun i => !(heardC I a i) && !(isI (I a 1) (nI i))) k) ⟨fun _ _ => rfl, fun i hi => absurd hi (Nat.not_lt_zero i), rfl⟩ (fun k p hk ih => ?_)
  obtain ⟨X, u⟩ := p
  obtain ⟨h1, h2, h3⟩ := ih
  dsimp only at h1 h2 h3
  have h1' : ∀ x, x ≠ a + 10 → up X (a + 10) k (tellC X a k) x = I x := fun x hx => (up_ne hx).trans (h1 x hx)
  obtain ⟨e1, e2, e3⟩ := ht X k h1
  obtain ⟨f1, f2, f3⟩ := ht _ k h1'
  unfold ro1C
  dsimp only
  refine ⟨h1', fun i hi => ?_, ?_⟩
  · rw [uc4, e2]
    by_cases c : i = k
    · rw [if_pos c, c]
    · rw [if_neg c]; exact h2 i (by omega)
  · rw [f1, f3, h3]
    show _ = un _ k ||| (if (!heardC I a k && !isI (I a 1) (nI k)) = true then sh1 k else 0)
    cases heardC I a k
    · cases isI (I a 1) (nI k)
      · rfl
      · exact (or_0 _).symm
    · exact (or_0 _).symm
/-- the reference's first pass -/
theorem nvM1_e (J : Mi) (n : Nat) : (∀ x, x ≠ 134 → x ≠ 135 → nvM1 J n x = J x) ∧ ∀ i, i < n → nvM1 J n 134 i = tellM J i ∧ nvM1 J n 135 i = (if sureM J i = true then 0 else if pt J i 0 = 0 then 1 else 0) := by
  have ht : ∀ (X : Mi) i, X 128 = J 128 → sureM X i = sureM J i ∧ tellM X i = tellM J i ∧ pt X i 0 = pt J i 0 := fun X i h => by
    unfold tellM sureM pt
    rw [h]
    exact ⟨rfl, rfl, rfl⟩
  refine lp_ind (fun (k : Nat) (X : Mi) => (∀ x, x ≠ 134 → x ≠ 135 → X x = J x) ∧ ∀ i, i < k → X 134 i = tellM J i ∧ X 135 i = (if sureM J i = true then 0 else if pt J i 0 = 0 then 1 else 0)) ⟨fun _ _ _ => rfl, fun i hi => absurd hi (Nat.not_lt_zero i)⟩ (fun k X hk ih => ?_)
  obtain ⟨h1, h2⟩ := ih
  obtain ⟨-, e2, -⟩ := ht X k (h1 128 (by omega) (by omega))
  obtain ⟨f1, -, f3⟩ := ht (up X 134 k (tellM X k)) k ((up_ne (by omega)).trans (h1 128 (by omega) (by omega)))
  unfold nv1
  refine ⟨fun x x1 x2 => by rw [up_ne x2, up_ne x1]; exact h1 x x1 x2, fun i hi => ?_⟩
  rw [show ∀ (Y : Mi) v, up Y 135 k v 134 i = Y 134 i from fun Y v => by rw [up_ne (show (134 : Nat) ≠ 135 by omega)], uc4, uc4, f1, f3, e2, show up X 134 k (tellM J k) 135 i = X 135 i by rw [up_ne (show (135 : Nat) ≠ 134 by omega)]]
  by_cases c : i = k
  · rw [if_pos c, if_pos c, c]; exact ⟨rfl, rfl⟩
  · rw [if_neg c, if_neg c]; exact h2 i (by omega)
theorem spn {J : Mi} {i p x : Nat} {v : Int32} (h : x ≠ 128) : sp J i p v x = J x := up_ne h
theorem spo {J : Mi} {i p y : Nat} {v : Int32} (h : y ≠ 16 + 10 * i + p) : sp J i p v 128 y = J 128 y := (uc4 J 128 _ y v).trans (if_neg h)
/-- the reference's sums over one island's readings -/
theorem nvI_e (i : Nat) (J : Mi) (n : Nat) : (nvI i n J).1 128 4 = J 128 4 + sm (fun k => if rdM J i (nI k) = true then J 135 k else 0) n ∧ pt (nvI i n J).1 i 9 = pt J i 9 + sm (fun k => if rdM J i (nI k) = true then J 135 k else 0) n ∧ (nvI i n J).2 = pt J i 4 + sm (fun k => if rdM J i (nI k) = true then J 134 k else 0) n ∧ (∀ x, x ≠ 128 → (nvI i n J).1 x = J x) ∧ ∀ y, y ≠ 4 → y ≠ 16 + 10 * i + 9 → (nvI i n J).1 128 y = J 128 y := by
  refine lp_ind (fun (k : Nat) (p : Mi × Int32) => p.1 128 4 = J 128 4 + sm (fun k => if rdM J i (nI k) = true then J 135 k else 0) k ∧ pt p.1 i 9 = pt J i 9 + sm (fun k => if rdM J i (nI k) = true then J 135 k else 0) k ∧ p.2 = pt J i 4 + sm (fun k => if rdM J i (nI k) = true then J 134 k else 0) k ∧ (∀ x, x ≠ 128 → p.1 x = J x) ∧ ∀ y, y ≠ 4 → y ≠ 16 + 10 * i + 9 → p.1 128 y = J 128 y) ⟨(Int32.add_zero _).symm, (Int32.add_zero _).symm, (Int32.add_zero _).symm, fun _ _ => rfl, fun _ _ _ => rfl⟩ (fun k p hk ih => ?_)
  obtain ⟨X, u⟩ := p
  obtain ⟨h1, h2, h3, h4, h5⟩ := ih
  dsimp only at h1 h2 h3 h4 h5
  have hr : rdM X i (nI k) = rdM J i (nI k) := by unfold rdM pt; rw [h5 _ (by omega) (by omega)]
  unfold nvB
  dsimp only
  rw [hr]
  show _ ∧ _ ∧ _ = pt J i 4 + (sm (fun k => if rdM J i (nI k) = true then J 134 k else 0) k + _) ∧ _ ∧ _
  have e135 : X 135 = J 135 := h4 135 (by omega)
  have e134 : X 134 = J 134 := h4 134 (by omega)
  by_cases c : rdM J i (nI k) = true
  · simp only [if_pos c]
    refine ⟨?_, ?_, ?_, fun x hx => ?_, fun y y1 y2 => ?_⟩
    · show sp _ i 9 _ 128 4 = J 128 4 + (sm _ k + (if rdM J i (nI k) = true then J 135 k else 0))
      rw [sp_lo (by omega), uc4, if_pos rfl, h1, e135, if_pos c, Int32.add_assoc]
    · show pt (sp _ i 9 _) i 9 = pt J i 9 + (sm _ k + (if rdM J i (nI k) = true then J 135 k else 0))
      rw [ptp, show ∀ v, pt (up X 128 4 v) i 9 = pt X i 9 from fun v => um7 X i 9 4 v (by omega), h2, show ∀ v, up X 128 4 v 135 k = X 135 k from fun v => by rw [up_ne (show (135 : Nat) ≠ 128 by omega)], e135, if_pos c, Int32.add_assoc]
    · rw [h3, e134, Int32.add_assoc]
    · rw [spn hx, up_ne hx]; exact h4 x hx
    · rw [spo y2, uc4, if_neg y1]; exact h5 y y1 y2
  · simp only [if_neg c]
    refine ⟨?_, ?_, ?_, h4, h5⟩
    · show _ = J 128 4 + (sm _ k + (if rdM J i (nI k) = true then J 135 k else 0))
      rw [if_neg c, Int32.add_zero, h1]
    · show _ = pt J i 9 + (sm _ k + (if rdM J i (nI k) = true then J 135 k else 0))
      rw [if_neg c, Int32.add_zero, h2]
    · rw [Int32.add_zero, h3]
/-- one island's value and what it has heard change -/
theorem RV_nv {I2 I : Mi} {a n i : Nat} {K2 K : Kr} {x S : Int32} (h8 : n ≤ 8) (hi : i < n)
    (hC : (I2 a 1 = I a 1 ∧ I2 a 2 = I a 2 ∧ I2 a 15 = I a 15 ∧ I2 a 16 = I a 16 ∧ I2 a 17 = I a 17) ∧ (∀ j, j < 8 → I2 (a + 6) j = I (a + 6) j) ∧ (I2 (a + 5) i = x ∧ I2 (a + 8) i = I (a + 8) i + S) ∧ ∀ j, j ≠ i → I2 (a + 5) j = I (a + 5) j ∧ I2 (a + 8) j = I (a + 8) j)
    (hK : (K2 3 = K 3 ∧ K2 4 = K 4 + S ∧ K2 5 = K 5 ∧ K2 6 = K 6) ∧ (∀ j, j < 8 → K2 (16 + 10 * j + 0) = K (16 + 10 * j + 0) ∧ K2 (16 + 10 * j + 1) = K (16 + 10 * j + 1) ∧ K2 (16 + 10 * j + 5) = K (16 + 10 * j + 5)) ∧ (K2 (16 + 10 * i + 4) = x ∧ K2 (16 + 10 * i + 9) = K (16 + 10 * i + 9) + S) ∧ ∀ j, j < 8 → j ≠ i → K2 (16 + 10 * j + 4) = K (16 + 10 * j + 4) ∧ K2 (16 + 10 * j + 9) = K (16 + 10 * j + 9))
    (hx : ∃ v, v < 256 ∧ x = nI v) (h : RV I a K n) : RV I2 a K2 n := by
  obtain ⟨⟨a0, a1, a2, a3⟩, hS, hA⟩ := h
  obtain ⟨⟨c0, c1, c2, c3, c4⟩, c5, ⟨c6, c7⟩, c8⟩ := hC
  obtain ⟨⟨k0, k1, k2, k3⟩, k4, ⟨k5, k6⟩, k7⟩ := hK
  refine ⟨⟨by rw [c2, k0, a0], by rw [c3, k2, a1], by rw [c4, k3, a2], ?_⟩, fun j hj => ?_, fun j h1 h2 => ?_⟩
  · rw [k1, ← a3, sumC_sm, sumC_sm, sm_upd c7 (fun j hj => (c8 j hj).2), if_pos (by omega)]
  · have hj8 : j < 8 := by omega
    have s := hS j hj
    obtain ⟨d1, d2, d3⟩ := k4 j hj8
    unfold VI at s ⊢
    rw [c0, c1, c5 j hj8, d1, d2, d3]
    by_cases e : j = i
    · subst e
      rw [c6, c7, k5, k6]
      exact ⟨s.1, ⟨rfl, s.2.1.2.1, by rw [s.2.1.2.2]⟩, hx, s.2.2.2⟩
    · rw [(c8 j e).1, (c8 j e).2, (k7 j hj8 e).1, (k7 j hj8 e).2]
      exact s
  · have s := hA j h1 h2
    have e : j ≠ i := by omega
    unfold AV at s ⊢
    rw [c0, c1, c5 j h2, (c8 j e).1, (c8 j e).2]
    exact s
theorem sm_nI {f : Nat → Int32} (h : ∀ k, ∃ v, v < 256 ∧ f k = nI v) : ∀ n, ∃ t, t ≤ 255 * n ∧ sm f n = nI t
  | 0 => ⟨0, by omega, rfl⟩
  | n + 1 => by
    obtain ⟨t, h1, h2⟩ := sm_nI h n
    obtain ⟨v, h3, h4⟩ := h n
    exact ⟨t + v, by omega, by show sm f n + f n = _; rw [h2, h4, nI_add]⟩
theorem sm_nIn {f : Nat → Int32} {n : Nat} (h : ∀ k, k < n → ∃ v, v < 256 ∧ f k = nI v) : ∃ t, t ≤ 255 * n ∧ sm f n = nI t := by
  have e : sm f n = sm (fun k => if k < n then f k else 0) n := sm_congr (fun k hk => by rw [if_pos hk])
  rw [e]
  refine sm_nI (fun k => ?_) n
  by_cases c : k < n
  · rw [if_pos c]; exact h k c
  · rw [if_neg c]; exact ⟨0, by omega, rfl⟩
/-- what both first passes found -/
def NV (a n : Nat) (told : Nat → Int32) (nz : Int32) (x y : Mi) : Prop := (∀ k, k < 8 → x (a + 10) k = told k) ∧ (∀ k, k < n → y 134 k = told k ∧ y 135 k = if bt nz k = true then 1 else 0)
theorem nv_step {I J : Mi} {a n w i : Nat} {told : Nat → Int32} {m : Nat} (hm : m < 256) (ht : ∀ k, k < n → ∃ v, v < 256 ∧ told k = nI v) (hi : i < n) (h : RR I a (J 128) n w ∧ NV a n told (nI m) I J) : RR (ro2C a (nI m) i I) a (nv2 n i J 128) n w ∧ NV a n told (nI m) (ro2C a (nI m) i I) (nv2 n i J) := by
  obtain ⟨hR, hT⟩ := h
  have h8 := hR.1.1.1
  have hi8 : i < 8 := by omega
  have hs := hR.1.1.2.2.1 i hi
  obtain ⟨⟨s1, s2, s3, s4, s5⟩, -, -, sb⟩ := hs
  obtain ⟨⟨v1, v2⟩, ⟨v3, v4, v5⟩, ⟨v, hv, ev⟩, v7⟩ := hR.2.2.1 i hi
  have s3 : I (a + 3) i = pt J i 6 := s3
  have s4 : I (a + 4) i = pt J i 7 := s4
  have v3 : I (a + 5) i = pt J i 4 := v3
  unfold ro2C nv2
  by_cases c : I (a + 4) i = 0
  · rw [if_pos c, if_pos (show decide (pt J i 7 = 0) = true by rw [← s4]; simp [c])]
    dsimp only
    obtain ⟨e1, e2, e3, e4, e5⟩ := nvI_e i J n
    generalize nvI i n J = p at e1 e2 e3 e4 e5 ⊢
    obtain ⟨X, u⟩ := p
    dsimp only at e1 e2 e3 e4 e5 ⊢
    have hr : ∀ k, k < 8 → rdM J i (nI k) = bt (I (a + 3) i) k := fun k hk => by rw [rdM_bt _ _ (by omega), s3]
    have eT : sumTC I a (I (a + 3) i) = sm (fun k => if rdM J i (nI k) = true then J 134 k else 0) n := by
      rw [sumTC_sm, sm_more h8 (fun k k1 k2 => by rw [isI_bt _ (by omega), sb k k1 k2]; rfl)]
      exact sm_congr (fun k hk => by rw [isI_bt _ (by omega), hr k (by omega), (hT.2 k hk).1, hT.1 k (by omega)])
    have eS : bcJ (I (a + 3) i &&& nI m) = sm (fun k => if rdM J i (nI k) = true then J 135 k else 0) n := by
      obtain ⟨z, hz, ez⟩ := and_lt (x := I (a + 3) i) hm
      rw [ez, bc_bit z hz, ← ez, bitM_sm, sm_more h8 (fun k k1 k2 => by rw [bt_and, sb k k1 k2]; rfl)]
      exact sm_congr (fun k hk => by
        rw [bt_and, hr k (by omega), (hT.2 k hk).2]
        cases bt (I (a + 3) i) k <;> cases bt (nI m) k <;> rfl)
    obtain ⟨t, ht1, ht2⟩ := sm_nIn (n := n) (f := fun k => if rdM J i (nI k) = true then J 134 k else 0) (fun k hk => by
      by_cases c : rdM J i (nI k) = true
      · simp only [if_pos c]; rw [(hT.2 k hk).1]; exact ht k hk
      · simp only [if_neg c]; exact ⟨0, by omega, rfl⟩)
    have ex : (I (a + 5) i + sumTC I a (I (a + 3) i)) &&& 255 = nI ((v + t) % 256) := by
      rw [eT, ht2, ev, nI_add]
      exact (md_255 (v + t) (by omega)).2
    have ey : md256 u = nI ((v + t) % 256) := by
      rw [e3, ← v3, ht2, ev, nI_add]
      exact (md_255 (v + t) (by omega)).1
    have e9 : up I (a + 5) i ((I (a + 5) i + sumTC I a (I (a + 3) i)) &&& 255) (a + 8) i = I (a + 8) i := by rw [uc1, if_neg (by omega)]
    have e93 : up I (a + 5) i ((I (a + 5) i + sumTC I a (I (a + 3) i)) &&& 255) (a + 3) i = I (a + 3) i := by rw [uc1, if_neg (by omega)]
    rw [e9, e93, ex, ey, eS]
    generalize hS : sm (fun k => if rdM J i (nI k) = true then J 135 k else 0) n = S at e1 e2 ⊢
    have ek : ∀ y, y ≠ 4 → y ≠ 16 + 10 * i + 9 → y ≠ 16 + 10 * i + 4 → sp X i 4 (nI ((v + t) % 256)) 128 y = J 128 y := fun y y1 y2 y3 => by rw [spo y3]; exact e5 y y1 y2
    refine ⟨⟨RS_q ⟨⟨?_, ?_, ?_⟩, fun j hj => ⟨?_, ?_, ?_, ?_, ?_⟩⟩ ⟨⟨?_, ?_, ?_⟩, fun j hj => ⟨?_, ?_, ?_, ?_, ?_⟩⟩ ⟨?_, fun k hk => ?_⟩ ⟨?_, fun k hk => ?_⟩ hR.1, RV_nv (i := i) (x := nI ((v + t) % 256)) (S := S) h8 hi ⟨⟨?_, ?_, ?_, ?_, ?_⟩, fun j hj => ?_, ⟨?_, ?_⟩, fun j hj => ⟨?_, ?_⟩⟩ ⟨⟨?_, ?_, ?_, ?_⟩, fun j hj => ⟨?_, ?_, ?_⟩, ⟨?_, ?_⟩, fun j hj hji => ⟨?_, ?_⟩⟩ ⟨(v + t) % 256, by omega, rfl⟩ hR.2⟩, fun k hk => ?_, fun k hk => ?_⟩
    all_goals first
      | exact ek _ (by omega) (by omega) (by omega)
      | (clear ek e1 e2 e3 e4 e5 e9 e93 ex ey eS eT ev v1 v2 v3 v4 v5 s1 s2 s3 s4 s5 c; simp only [uc1, uc2, uc3, uc4, Nat.reduceEqDiff, Nat.reduceLT, Nat.reduceLeDiff, reduceIte, and_false, false_and, and_true, true_and, and_self, ne_eq, not_false_eq_true, not_true_eq_false, Nat.zero_lt_succ, *]; done)
      | exact (um3 X i 4 4 _ (by omega)).trans e1
      | exact ptp X i 4 _
      | exact ((um1 X i 4 i 9 _ (by omega) (by omega)).trans (if_neg (by omega))).trans e2
      | exact (show _ = I (a + 10) k by rw [uc1, if_neg (by omega), uc1, if_neg (by omega)]).trans (hT.1 k hk)
      | (rw [show ∀ z, z ≠ 128 → sp X i 4 (nI ((v + t) % 256)) z = J z from fun z hz => (up_ne hz).trans (e4 z hz), show ∀ z, z ≠ 128 → sp X i 4 (nI ((v + t) % 256)) z = J z from fun z hz => (up_ne hz).trans (e4 z hz)]; exact hT.2 k hk; all_goals omega)
  · rw [if_neg c, if_neg (show ¬ decide (pt J i 7 = 0) = true by rw [← s4]; simp [c])]
    have e : sp J i 4 (md256 (pt J i 4)) = J := by
      rw [← v3, ev, (md_255 v (by omega)).1, Nat.mod_eq_of_lt hv, ← ev, v3]
      funext x y
      show up J 128 (16 + 10 * i + 4) (pt J i 4) x y = J x y
      unfold up
      by_cases q : x = 128 ∧ y = 16 + 10 * i + 4
      · rw [if_pos q, q.1, q.2]
      · rw [if_neg q]
    rw [e]
    exact ⟨hR, hT⟩
