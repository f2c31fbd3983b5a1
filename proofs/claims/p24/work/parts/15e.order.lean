/-! orders to wake, asking -/
theorem pig : ∀ (n w : Nat) (q : Nat → Nat), (∀ k, k < w → q k < n) → (∀ k k2, k < w → k2 < w → q k = q k2 → k = k2) → w ≤ n
  | 0, w, q, h, _ => by
    rcases Nat.eq_zero_or_pos w with e | e
    · omega
    · exact absurd (h 0 e) (by omega)
  | n + 1, w, q, h, hi => by
    rcases Nat.eq_zero_or_pos w with e | e
    · omega
    · by_cases hx : ∃ k, k < w ∧ q k = n
      · obtain ⟨k, hk, hq⟩ := hx
        have := pig n (w - 1) (fun x => if x = k then q (w - 1) else q x) (fun x hx => by
          have hne : q (if x = k then w - 1 else x) ≠ n := fun z => by
            have := hi _ k (by split <;> omega) hk (z.trans hq.symm)
            split at this <;> omega
          have hlt := h (if x = k then w - 1 else x) (by split <;> omega)
          split
          · rename_i c; rw [if_pos c] at hne hlt; omega
          · rename_i c; rw [if_neg c] at hne hlt; omega) (fun x y hx hy hxy => by
          have e1 : q (if x = k then w - 1 else x) = q (if y = k then w - 1 else y) := by
            have hxy : (if x = k then q (w - 1) else q x) = (if y = k then q (w - 1) else q y) := hxy
            by_cases c1 : x = k <;> by_cases c2 : y = k <;> simp only [c1, c2, if_true, if_false, reduceIte] at hxy ⊢ <;> exact hxy
          have := hi _ _ (by split <;> omega) (by split <;> omega) e1
          split at this <;> split at this <;> omega)
        omega
      · have := pig n w q (fun k hk => by
          have h1 := h k hk
          have h2 : q k ≠ n := fun z => hx ⟨k, hk, z⟩
          omega) hi
        omega
theorem isP_nI {w : Nat} (h : w < 8) : isP (nI w) = true := isP_n h
theorem ix_nI {w : Nat} (h : w < 2147483648) : ix (nI w) = w := nI_clamp h
theorem otwC_eq {I : Mi} {a w : Nat} (i : Nat) (hw : w < 8) (h : I a 12 = nI w) : otwC I a i = up (up (up I (a + 4) i 3) (a + 9) w (nI i)) a 12 (nI (w + 1)) := by
  unfold otwC
  rw [h, if_pos (isP_nI hw)]
  dsimp only
  rw [uc2 I a 4 i 12 3 (by omega), h, ix_nI (by omega), uc2 _ a 9 w 12 _ (by omega), uc2 _ a 4 i 12 _ (by omega), h, nI_1]
theorem RS_ord {I J : Mi} {a n w i : Nat} (h : RS I a (J 128) n w) (hi : i < n) (h2 : I (a + 4) i = 2) : w < 8 ∧ RS (otwC I a i) a (wtM J i w 128) n (w + 1) := by
  obtain ⟨hb, hw8, ⟨c12, k7⟩, q, q1, q2⟩ := h
  have h8 := hb.1
  have hi8 : i < 8 := by omega
  have hne : ∀ k, k < w → q k ≠ i := fun k hk e => by
    have := (q1 k hk).2.2.2.2
    rw [e, h2] at this
    exact absurd this (by decide)
  have hwn : w + 1 ≤ n := pig n (w + 1) (fun k => if k = w then i else q k) (fun k hk => by
    by_cases e : k = w
    · simp only [e, if_true]; exact hi
    · simp only [e, if_false]; exact (q1 k (by omega)).2.1) (fun k k2 hk hk2 e => by
    by_cases e1 : k = w <;> by_cases e2 : k2 = w <;> simp only [e1, e2, if_true, if_false, reduceIte] at e
    · omega
    · exact absurd e.symm (hne k2 (by omega))
    · exact absurd e (hne k (by omega))
    · exact q2 k k2 (by show k < w; omega) (by show k2 < w; omega) e)
  have hw : w < 8 := by omega
  refine ⟨hw, ?_⟩
  have hs := hb.2.2.1 i hi
  have l0 := hs.left0 (by rw [h2]; decide)
  have e7 : I (a + 7) i = J 128 (16 + 10 * i + 8) := hs.1.2.2.2.2
  have m0 : J 128 (16 + 10 * i + 8) = nI 0 := by rw [← e7, l0]
  rw [otwC_eq i hw c12]
  refine ⟨RB_st (i := i) (x := 3) (t := 0) ⟨⟨?_, ?_, ?_⟩, fun j hj => ⟨?_, ?_, ?_⟩, ⟨?_, ?_⟩, fun j hj hji => ⟨?_, ?_⟩⟩ ⟨⟨?_, ?_, ?_⟩, fun j hj => ⟨?_, ?_, ?_⟩, ⟨?_, ?_⟩, fun j hj hji => ⟨?_, ?_⟩⟩ hb hi (by omega) (fun z => absurd z (by decide)) (fun _ => rfl), by omega, ⟨?_, ?_⟩, fun k => if k = w then i else q k, fun k hk => ?_, fun k k2 hk hk2 e => ?_⟩
  case refine_8 => clear e7 m0; simp only [uc1, uc2, uc3, uc4, Nat.reduceEqDiff, Nat.reduceLT, Nat.reduceLeDiff, reduceIte, and_false, false_and, and_true, true_and, and_self, ne_eq, not_false_eq_true, not_true_eq_false, Nat.zero_lt_succ, *]
  case refine_18 => unfold wtM; clear e7 l0; simp only [um1, um2, um3, um4, um5, um6, um7, um8, um9, um0, Nat.reduceEqDiff, Nat.reduceLT, Nat.reduceLeDiff, reduceIte, and_false, false_and, and_true, true_and, and_self, ne_eq, not_false_eq_true, not_true_eq_false, *]
  case refine_23 =>
    have hk : k < w + 1 := hk
    by_cases e : k = w
    · subst e
      simp only [if_true]
      refine ⟨by omega, hi, ?_, ?_, ?_⟩
      · simp only [uc1, uc2, uc3, uc4, Nat.reduceEqDiff, Nat.reduceLT, Nat.reduceLeDiff, reduceIte, and_false, false_and, and_true, true_and, and_self, ne_eq, not_false_eq_true, not_true_eq_false, Nat.zero_lt_succ, *]
      · unfold wtM; clear e7 l0; simp only [um1, um2, um3, um4, um5, um6, um7, um8, um9, um0, Nat.reduceEqDiff, Nat.reduceLT, Nat.reduceLeDiff, reduceIte, and_false, false_and, and_true, true_and, and_self, ne_eq, not_false_eq_true, not_true_eq_false, *]
      · simp only [uc1, uc2, uc3, uc4, Nat.reduceEqDiff, Nat.reduceLT, Nat.reduceLeDiff, reduceIte, and_false, false_and, and_true, true_and, and_self, ne_eq, not_false_eq_true, not_true_eq_false, Nat.zero_lt_succ, *]
    · simp only [e, if_false]
      obtain ⟨z0, z1, z2, z3, z4⟩ := q1 k (by omega)
      have hq := hne k (by omega)
      refine ⟨by omega, z1, ?_, ?_, ?_⟩
      · rw [uc3 _ a 9 12 k _ (by omega), uc1, if_neg (by omega), uc1, if_neg (by omega)]; exact z2
      · unfold wtM; rw [um8 _ _ _ _ (by omega), um5, if_neg e]; exact (um2 J i 7 k 3 z0).trans z3
      · rw [uc3 _ a 4 12 _ _ (by omega), uc1, if_neg (by omega), uc1, if_neg (by omega)]; exact z4
  case refine_24 =>
    have hk : k < w + 1 := hk
    have hk2 : k2 < w + 1 := hk2
    by_cases e1 : k = w <;> by_cases e2 : k2 = w <;> simp only [e1, e2, if_true, if_false, reduceIte] at e
    · omega
    · exact absurd e.symm (hne k2 (by omega))
    · exact absurd e (hne k (by omega))
    · exact q2 k k2 (by show k < w; omega) (by show k2 < w; omega) e
  all_goals clear e7 l0 m0 q1 q2 hne
  all_goals first | (simp only [uc1, uc2, uc3, uc4, Nat.reduceEqDiff, Nat.reduceLT, Nat.reduceLeDiff, reduceIte, and_false, false_and, and_true, true_and, and_self, ne_eq, not_false_eq_true, not_true_eq_false, Nat.zero_lt_succ, *]; done) | (unfold wtM; simp only [um1, um2, um3, um4, um5, um6, um7, um8, um9, um0, Nat.reduceEqDiff, Nat.reduceLT, Nat.reduceLeDiff, reduceIte, and_false, false_and, and_true, true_and, and_self, ne_eq, not_false_eq_true, not_true_eq_false, *]; done)
/-- nothing of the values changes -/
def CV0 (I2 : Mi) (a : Nat) (I : Mi) : Prop := (I2 a 1 = I a 1 ∧ I2 a 2 = I a 2 ∧ I2 a 15 = I a 15 ∧ I2 a 16 = I a 16 ∧ I2 a 17 = I a 17) ∧ ∀ j, j < 8 → I2 (a + 5) j = I (a + 5) j ∧ I2 (a + 6) j = I (a + 6) j ∧ I2 (a + 8) j = I (a + 8) j
def KV0 (K2 K : Kr) : Prop := (K2 3 = K 3 ∧ K2 4 = K 4 ∧ K2 5 = K 5 ∧ K2 6 = K 6) ∧ ∀ j, j < 8 → K2 (16 + 10 * j + 0) = K (16 + 10 * j + 0) ∧ K2 (16 + 10 * j + 1) = K (16 + 10 * j + 1) ∧ K2 (16 + 10 * j + 4) = K (16 + 10 * j + 4) ∧ K2 (16 + 10 * j + 5) = K (16 + 10 * j + 5) ∧ K2 (16 + 10 * j + 9) = K (16 + 10 * j + 9)
theorem RV_same {I2 I : Mi} {a n : Nat} {K2 K : Kr} (h8 : n ≤ 8) (hC : CV0 I2 a I) (hK : KV0 K2 K) (h : RV I a K n) : RV I2 a K2 n := by
  obtain ⟨⟨a0, a1, a2, a3⟩, hS, hA⟩ := h
  obtain ⟨⟨c0, c1, c2, c3, c4⟩, c5⟩ := hC
  obtain ⟨⟨k0, k1, k2, k3⟩, k4⟩ := hK
  refine ⟨⟨by rw [c2, k0, a0], by rw [c3, k2, a1], by rw [c4, k3, a2], ?_⟩, fun i hi => ?_, fun i h1 h2 => ?_⟩
  · rw [k1, ← a3, sumC_sm, sumC_sm]
    exact sm_congr (fun i hi => (c5 i hi).2.2)
  · have hi8 : i < 8 := by omega
    have s := hS i hi
    obtain ⟨d1, d2, d3⟩ := c5 i hi8
    obtain ⟨e1, e2, e3, e4, e5⟩ := k4 i hi8
    unfold VI at s ⊢
    rw [d1, d2, d3, c0, c1, e1, e2, e3, e4, e5]
    exact s
  · have s := hA i h1 h2
    obtain ⟨d1, d2, d3⟩ := c5 i h2
    unfold AV at s ⊢
    rw [d1, d2, d3, c0, c1]
    exact s
theorem otwC_V {I : Mi} {a w : Nat} (i : Nat) (hw : w < 8) (h : I a 12 = nI w) : CV0 (otwC I a i) a I := by
  rw [otwC_eq i hw h]
  refine ⟨⟨?_, ?_, ?_, ?_, ?_⟩, fun j hj => ⟨?_, ?_, ?_⟩⟩ <;> simp only [uc1, uc2, uc3, uc4, Nat.reduceEqDiff, Nat.reduceLT, Nat.reduceLeDiff, reduceIte, and_false, false_and, and_true, true_and, and_self, ne_eq, not_false_eq_true, not_true_eq_false, Nat.zero_lt_succ, *]
theorem wtM_V (J : Mi) (i : Nat) {w : Nat} (hw : w < 8) : KV0 (wtM J i w 128) (J 128) := by
  unfold wtM
  refine ⟨⟨?_, ?_, ?_, ?_⟩, fun j hj => ⟨?_, ?_, ?_, ?_, ?_⟩⟩ <;> simp only [um1, um2, um3, um4, um5, um6, um7, um8, um9, um0, Nat.reduceEqDiff, Nat.reduceLT, Nat.reduceLeDiff, reduceIte, and_false, false_and, and_true, true_and, and_self, ne_eq, not_false_eq_true, not_true_eq_false, *]
theorem RR_ord {I J : Mi} {a n w i : Nat} (h : RR I a (J 128) n w) (hi : i < n) (h2 : I (a + 4) i = 2) : w < 8 ∧ RR (otwC I a i) a (wtM J i w 128) n (w + 1) := by
  obtain ⟨hw, h1⟩ := RS_ord h.1 hi h2
  exact ⟨hw, h1, RV_same h.1.1.1 (otwC_V i hw h.1.2.2.1.1) (wtM_V J i hw) h.2⟩
/-! unions of rows of bits -/
def oru (v : Nat → Int32) (n : Nat) : Int32 := lp (fun i acc => acc ||| v i) n 0
theorem oru_bt (v : Nat → Int32) (k : Nat) : ∀ n, bt (oru v n) k = true ↔ ∃ i, i < n ∧ bt (v i) k = true
  | 0 => by
    show bt 0 k = true ↔ _
    rw [bt_0]
    exact ⟨fun h => (Bool.noConfusion h), fun h => h.elim fun i h => absurd h.1 (Nat.not_lt_zero i)⟩
  | n + 1 => by
    show bt (oru v n ||| v n) k = true ↔ _
    rw [bt_or, Bool.or_eq_true, oru_bt v k n]
    constructor
    · rintro (⟨i, h1, h2⟩ | h)
      · exact ⟨i, by omega, h2⟩
      · exact ⟨n, by omega, h⟩
    · rintro ⟨i, h1, h2⟩
      rcases Nat.lt_or_ge i n with q | q
      · exact Or.inl ⟨i, q, h2⟩
      · rw [show i = n by omega] at h2; exact Or.inr h2
theorem rbaC_oru (I : Mi) (a : Nat) : rbaC I a = oru (fun i => if I (a + 4) i = 0 then I (a + 3) i else 0) 8 := lp_congr (fun i hi s => by
  dsimp only
  by_cases h : I (a + 4) i = 0
  · rw [if_pos h, if_pos h]
  · rw [if_neg h, if_neg h, or_0]) 0
theorem orR_oru (I : Mi) (a : Nat) : orR I a = oru (fun i => I (a + 3) i) 8 := rfl
theorem i32_0 {x : Int32} (h : ∀ k, k < 32 → bt x k = false) : x = 0 := bt_ext (fun k hk => by rw [h k hk, bt_0])
theorem ask_iff {I J : Mi} {a n w i : Nat} (h : RS I a (J 128) n w) (hi : i < n) : (arM J n (nI i) = 0) ↔ ¬ isI (rbaC I a) (nI i) = true := by
  have h8 := h.1.1
  rw [isI_bt _ (by omega), rbaC_oru, oru_bt]
  have ha : ∀ k, k < 32 → bt (arM J n (nI i)) k = (decide (k < n) && (bt (pt J k 6) i && decide (pt J k 7 = 0))) := fun k hk => by
    unfold arM
    rw [bt_and, rdsM_un, setM_un, un_bt _ k n (by omega), un_bt _ k n (by omega), rdM_bt _ _ (by omega)]
    cases decide (k < n) <;> simp
  constructor
  · rintro h0 ⟨j, hj, hb⟩
    rcases Nat.lt_or_ge j n with q | q
    · have hs := (h.1.2.2.1 j q).1
      have e3 : I (a + 3) j = pt J j 6 := hs.2.2.1
      have e4 : I (a + 4) j = pt J j 7 := hs.2.2.2.1
      by_cases c : I (a + 4) j = 0
      · rw [if_pos c, e3] at hb
        have := ha j (by omega)
        rw [h0, bt_0, hb, ← e4, c] at this
        simp [q] at this
      · rw [if_neg c, bt_0] at hb
        cases hb
    · have hs := h.1.2.2.2 j q hj
      rw [if_neg (by rw [hs.1]; decide), bt_0] at hb
      cases hb
  · intro h0
    refine i32_0 (fun k hk => ?_)
    rw [ha k hk]
    by_cases q : k < n
    · have hs := (h.1.2.2.1 k q).1
      have e3 : I (a + 3) k = pt J k 6 := hs.2.2.1
      have e4 : I (a + 4) k = pt J k 7 := hs.2.2.2.1
      by_cases c : pt J k 7 = 0
      · cases hb : bt (pt J k 6) i
        · simp
        · exact absurd ⟨k, by omega, by rw [if_pos (e4.trans c), e3]; exact hb⟩ h0
      · simp [c]
    · simp [q]
def ask1 (I : Mi) (a i : Nat) (J : Mi) : Mi := if J (a + 4) i = 2 then (if isI (rbaC I a) (nI i) = true then otwC J a i else J) else J
theorem rba_ord {I : Mi} {a w i : Nat} (hw : w < 8) (h : I a 12 = nI w) (h2 : I (a + 4) i = 2) : rbaC (otwC I a i) a = rbaC I a := by
  rw [rbaC_oru, rbaC_oru]
  unfold oru
  refine lp_congr (fun j hj s => ?_) 0
  dsimp only
  have e4 : otwC I a i (a + 4) j = if j = i then 3 else I (a + 4) j := by rw [otwC_eq i hw h]; simp only [uc1, uc2, uc3, uc4, Nat.reduceEqDiff, Nat.reduceLT, Nat.reduceLeDiff, reduceIte, and_false, false_and, and_true, true_and, and_self, ne_eq, not_false_eq_true, not_true_eq_false, Nat.zero_lt_succ, *]
  have e3 : otwC I a i (a + 3) j = I (a + 3) j := by rw [otwC_eq i hw h]; simp only [uc1, uc2, uc3, uc4, Nat.reduceEqDiff, Nat.reduceLT, Nat.reduceLeDiff, reduceIte, and_false, false_and, and_true, true_and, and_self, ne_eq, not_false_eq_true, not_true_eq_false, Nat.zero_lt_succ, *]
  rw [e4, e3]
  by_cases e : j = i
  · subst e
    rw [if_pos rfl, h2, if_neg (by decide), if_neg (by decide)]
  · rw [if_neg e]
theorem ask_step {I0 I J : Mi} {a n i : Nat} (P : Mi → Mi → Nat → Prop) (hp : ∀ x y w, P x y w → RS x a (y 128) n w) (ho : ∀ x y w, P x y w → x (a + 4) i = 2 → P (otwC x a i) (wtM y i w) (w + 1)) (hi : i < n) (h : ∃ w, P I J w ∧ rbaC I a = rbaC I0 a) : ∃ w, P (ask1 I0 a i I) (ak1 n i J) w ∧ rbaC (ask1 I0 a i I) a = rbaC I0 a := by
  obtain ⟨w, hP, hr⟩ := h
  have hR := hp _ _ _ hP
  have hs := (hR.1.2.2.1 i hi).1
  have e4 : I (a + 4) i = pt J i 7 := hs.2.2.2.1
  unfold ask1 ak1
  rw [← hr]
  by_cases c : I (a + 4) i = 2
  · rw [if_pos c, if_pos (show decide (pt J i 7 = 2) = true by rw [← e4, c]; rfl)]
    by_cases c2 : isI (rbaC I a) (nI i) = true
    · rw [if_pos c2, if_neg (fun z => (ask_iff hR hi).mp z c2), show ix (J 128 7) = w by rw [hR.2.2.1.2]; exact ix_nI (by have := hR.2.1; omega)]
      refine ⟨w + 1, ho _ _ _ hP c, ?_⟩
      exact rba_ord (RS_ord hR hi c).1 hR.2.2.1.1 c
    · rw [if_neg c2, if_pos ((ask_iff hR hi).mpr c2)]
      exact ⟨w, hP, rfl⟩
  · rw [if_neg c, if_neg (show ¬ decide (pt J i 7 = 2) = true by rw [← e4]; simp [c])]
    exact ⟨w, hP, rfl⟩
theorem ask1_abs {I0 I : Mi} {a i : Nat} (h : AI I a i) : ask1 I0 a i I = I := if_neg (by rw [h.1]; decide)
theorem RS_ask {I J : Mi} {a n w : Nat} (h : RS I a (J 128) n w) : ∃ w2, RS (askC I a) a (lp (ak1 n) n J 128) n w2 ∧ rbaC (askC I a) a = rbaC I a :=
  show ∃ w2, RS (lp (ask1 I a) 8 I) a ((lp (ak1 n) n J) 128) n w2 ∧ rbaC (lp (ask1 I a) 8 I) a = rbaC I a from loop8 (f := ask1 I a) (g := ak1 n) (P := fun x y => ∃ w2, RS x a (y 128) n w2 ∧ rbaC x a = rbaC I a) h.1.1 (fun i x y hi q => ask_step (fun x y w2 => RS x a (y 128) n w2) (fun _ _ _ z => z) (fun x y w2 z c => (RS_ord z hi c).2) hi q) (fun i x y h1 h2 q => by obtain ⟨w2, q, _⟩ := q; exact ask1_abs (q.1.2.2.2 i h1 h2)) ⟨w, h, rfl⟩
theorem RR_ask {I J : Mi} {a n w : Nat} (h : RR I a (J 128) n w) : ∃ w2, RR (askC I a) a (lp (ak1 n) n J 128) n w2 := by
  have h1 : ∃ w2, RR (lp (ask1 I a) 8 I) a ((lp (ak1 n) n J) 128) n w2 ∧ rbaC (lp (ask1 I a) 8 I) a = rbaC I a := loop8 (f := ask1 I a) (g := ak1 n) (P := fun x y => ∃ w2, RR x a (y 128) n w2 ∧ rbaC x a = rbaC I a) h.1.1.1 (fun i x y hi q => ask_step (fun x y w2 => RR x a (y 128) n w2) (fun _ _ _ z => z.1) (fun x y w2 z c => (RR_ord z hi c).2) hi q) (fun i x y h1 h2 q => by obtain ⟨w2, q, _⟩ := q; exact ask1_abs (q.1.1.2.2.2 i h1 h2)) ⟨w, h, rfl⟩
  obtain ⟨w2, q, _⟩ := h1
  exact ⟨w2, q⟩
