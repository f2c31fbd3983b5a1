/-! a whole tick -/
theorem loop8i {P : Nat → Mi → Mi → Prop} {f g : Nat → Mi → Mi} {n : Nat} (h8 : n ≤ 8) (hs : ∀ i x y, i < n → P i x y → P (i + 1) (f i x) (g i y)) (ha : ∀ i x y, n ≤ i → i < 8 → P n x y → f i x = x) {I J : Mi} (h : P 0 I J) : P n (lp f 8 I) (lp g n J) := by
  have h1 : P n (lp f n I) (lp g n J) := lp_ind2 P h hs
  have h2 : ∀ m, n ≤ m → m ≤ 8 → lp f m I = lp f n I := by
    intro m
    induction m with
    | zero => intro q _; rw [show n = 0 by omega]
    | succ m ih =>
      intro q1 q2
      rcases Nat.lt_or_ge n (m + 1) with q | q
      · show f m (lp f m I) = _
        have e := ih (by omega) (by omega)
        rw [e]
        exact ha m _ _ (by omega) (by omega) h1
      · rw [show n = m + 1 by omega]
  rw [h2 8 h8 (Nat.le_refl _)]
  exact h1
theorem heard_sure {I J : Mi} {a n w i : Nat} (h : RR I a (J 128) n w) (hi : i < n) : heardC I a i = sureM J i ∧ tellC I a i = tellM J i ∧ pt J i 0 = bi (isI (I a 1) (nI i)) ∧ ∃ v, v < 256 ∧ tellC I a i = nI v := by
  have h8 := h.1.1.1
  have s4 : I (a + 4) i = pt J i 7 := (h.1.1.2.2.1 i hi).1.2.2.2.1
  obtain ⟨⟨v1, v2⟩, ⟨v3, v4, v5⟩, ⟨v, hv, ev⟩, v7⟩ := h.2.2.1 i hi
  have v1 : pt J i 0 = bi (isI (I a 1) (nI i)) := by rw [isI_bt _ (by omega)]; exact v1
  have v3 : I (a + 5) i = pt J i 4 := v3
  have e1 : heardC I a i = sureM J i := by unfold heardC sureM; rw [s4]
  have e2 : tellC I a i = tellM J i := by
    unfold tellC tellM
    rw [e1, v3, v1, bi_if]
  refine ⟨e1, e2, v1, ?_⟩
  unfold tellC
  split
  · exact ⟨v, hv, ev⟩
  · split
    · exact ⟨0, by omega, rfl⟩
    · exact ⟨255, by omega, rfl⟩
theorem RR_nv {I J : Mi} {a n w : Nat} (h : RR I a (J 128) n w) : RR (rdoC I a) a (nvM J n 128) n w := by
  have h8 := h.1.1.1
  obtain ⟨e1, e2, e3⟩ := ro1R_e I a
  obtain ⟨f1, f2⟩ := nvM1_e J n
  obtain ⟨m, hm, em⟩ := un_lt (fun i => !(heardC I a i) && !(isI (I a 1) (nI i))) 8 (Nat.le_refl _)
  have hR : RR (ro1R I a).1 a (nvM1 J n 128) n w := by
    rw [f1 128 (by omega) (by omega)]
    exact RR_obs (CE.same (fun x _ hx => e1 x (by omega))) (fun _ _ => rfl) h
  have hN : NV a n (fun k => tellC I a k) (nI m) (ro1R I a).1 (nvM1 J n) := by
    refine ⟨e2, fun k hk => ?_⟩
    obtain ⟨g1, g2⟩ := f2 k hk
    obtain ⟨s1, s2, s3, -⟩ := heard_sure h hk
    refine ⟨g1.trans s2.symm, ?_⟩
    rw [g2, ← s1, s3, ← em, un_bt _ k 8 (by omega)]
    have hk8 : k < 8 := by omega
    cases heardC I a k <;> cases isI (I a 1) (nI k) <;> simp [hk8, bi]
  have key : RR (lp (ro2C a (nI m)) 8 (ro1R I a).1) a ((lp (nv2 n) n (nvM1 J n)) 128) n w ∧ NV a n (fun k => tellC I a k) (nI m) (lp (ro2C a (nI m)) 8 (ro1R I a).1) (lp (nv2 n) n (nvM1 J n)) :=
    loop8 (f := ro2C a (nI m)) (g := nv2 n) (P := fun x y => RR x a (y 128) n w ∧ NV a n (fun k => tellC I a k) (nI m) x y) h8 (fun i x y hi q => nv_step hm (fun k hk => (heard_sure h hk).2.2.2) hi q) (fun i x y h1 h2 q => if_neg (by rw [(q.1.1.1.2.2.2 i h1 h2).1]; decide)) ⟨hR, hN⟩
  unfold rdoC nvM
  rw [e3, em]
  exact key.1
theorem nvM_obs (J : Mi) (n : Nat) : ∀ y, y ≠ 4 → (∀ i, i < n → y ≠ 16 + 10 * i + 4 ∧ y ≠ 16 + 10 * i + 9) → nvM J n 128 y = J 128 y := fun y y1 y2 => by
  refine lp_ind (fun (k : Nat) (X : Mi) => X 128 y = J 128 y) (by rw [(nvM1_e J n).1 128 (by omega) (by omega)]) (fun i X hi ih => ?_)
  unfold nv2
  split
  · rw [spo (y2 i hi).1, (nvI_e i X n).2.2.2.2 y y1 (y2 i hi).2]
    exact ih
  · rw [spo (y2 i hi).1]
    exact ih
theorem RS_nv {I J : Mi} {a n w : Nat} (h : RS I a (J 128) n w) : RS I a (nvM J n 128) n w := by
  have h8 := h.1.1
  have e := nvM_obs J n
  refine RS_q ⟨⟨rfl, rfl, rfl⟩, fun _ _ => ⟨rfl, rfl, rfl, rfl, rfl⟩⟩ ⟨⟨?_, ?_, ?_⟩, fun j hj => ⟨?_, ?_, ?_, ?_, ?_⟩⟩ ⟨rfl, fun _ _ => rfl⟩ ⟨?_, fun k hk => ?_⟩ h
  all_goals exact e _ (by omega) (fun i hi => ⟨by omega, by omega⟩)
/-! what beginning to rise leaves alone -/
theorem begC_fr (I : Mi) (a : Nat) : (∀ x, x ≠ a → x ≠ a + 4 → x ≠ a + 7 → x ≠ a + 9 → begC I a x = I x) ∧ ∀ f, f ≠ 12 → begC I a a f = I a f := by
  have key : ∀ k, (∀ x, x ≠ a + 4 → x ≠ a + 7 → x ≠ a + 9 → (begR I a k).1 x = I x) := fun k => by
    refine lp_ind (fun (k : Nat) (p : Mi × Int32 × Int32) => ∀ x, x ≠ a + 4 → x ≠ a + 7 → x ≠ a + 9 → p.1 x = I x) (fun _ _ _ _ => rfl) (fun i p hi ih x x1 x2 x3 => ?_)
    have hA : ∀ j, (brA a j p).1 x = I x := fun j => by
      unfold brA
      dsimp only
      rw [up_ne x2, up_ne x1]
      exact ih x x1 x2 x3
    unfold brB
    split
    · split
      · exact hA _
      · split
        · split
          · dsimp only
            rw [up_ne x3]
            exact ih x x1 x2 x3
          · exact ih x x1 x2 x3
        · exact hA _
    · exact ih x x1 x2 x3
  unfold begC
  refine ⟨fun x x0 x1 x2 x3 => by rw [up_ne x0]; exact key _ x x1 x2 x3, fun f hf => ?_⟩
  rw [uc4, if_neg hf, key _ a (by omega) (by omega) (by omega)]
theorem letM_fr (J : Mi) (n : Nat) {w : Nat} (hw : w ≤ 8) : ∀ i p, p < 10 → p ≠ 7 → p ≠ 8 → letM J n w 128 (16 + 10 * i + p) = J 128 (16 + 10 * i + p) := by
  intro i p hp h7 h8
  have key : (lp (lrB n) w (J, 0)).2 ≤ w ∧ (lp (lrB n) w (J, 0)).1 128 (16 + 10 * i + p) = J 128 (16 + 10 * i + p) := by
    refine lp_ind2 (fun (k : Nat) (p9 : Mi × Nat) (_ : Unit) => p9.2 ≤ k ∧ (k ≤ 8 → p9.1 128 (16 + 10 * i + p) = J 128 (16 + 10 * i + p))) (f := lrB n) (g := fun _ u => u) (t := ()) ⟨Nat.le_refl _, fun _ => rfl⟩ (fun k y _ hk ih => ?_) |> fun q => ⟨q.1, q.2 hw⟩
    obtain ⟨X, l⟩ := y
    obtain ⟨h1, h2⟩ := ih
    dsimp only at h1 h2
    have hA : ∀ j, (lrA j (X, l)).2 ≤ k + 1 ∧ (k + 1 ≤ 8 → (lrA j (X, l)).1 128 (16 + 10 * i + p) = J 128 (16 + 10 * i + p)) := fun j => by
      unfold lrA
      dsimp only
      refine ⟨by omega, fun q => ?_⟩
      rw [spo (by omega), spo (by omega)]
      exact h2 (by omega)
    rw [lrB_e]
    split
    · exact hA _
    · split
      · refine ⟨by dsimp only; omega, fun q => ?_⟩
        dsimp only
        rw [um4 _ _ _ _ _ (by omega)]
        exact h2 (by omega)
      · exact hA _
  unfold letM
  rw [um7 _ _ _ _ _ (by omega)]
  exact key.2
theorem RV_beg {I J : Mi} {a n w : Nat} (h8 : n ≤ 8) (hw : w ≤ 8) (h : RV I a (J 128) n) : RV (begC I a) a (letM J n w 128) n := by
  obtain ⟨e1, e2⟩ := begC_fr I a
  refine RV_same h8 ⟨⟨e2 1 (by omega), e2 2 (by omega), e2 15 (by omega), e2 16 (by omega), e2 17 (by omega)⟩, fun j hj => ⟨?_, ?_, ?_⟩⟩ ⟨⟨letM_lo hw (by omega), letM_lo hw (by omega), letM_lo hw (by omega), letM_lo hw (by omega)⟩, fun j hj => ⟨?_, ?_, ?_, ?_, ?_⟩⟩ h
  · rw [e1 (a + 5) (by omega) (by omega) (by omega) (by omega)]
  · rw [e1 (a + 6) (by omega) (by omega) (by omega) (by omega)]
  · rw [e1 (a + 8) (by omega) (by omega) (by omega) (by omega)]
  all_goals exact letM_fr J n hw j _ (by omega) (by omega) (by omega)
theorem RR_mv {I J : Mi} {a n w : Nat} (h : RR I a (J 128) n w) : ∃ w2 w3, RR (mvC I a) a (letM (akM (riM (faM J n) n) n) n w2 128) n w3 ∧ w2 ≤ 8 ∧ akM (riM (faM J n) n) n 128 7 = nI w2 ∧ QV (akM (riM (faM J n) n) n) w2 := by
  have h1 : RR (riseC (fallC I a) a) a (riM (faM J n) n 128) n w := RR_rise (RR_fall h)
  have e14 := h1.1.1.2.1.2.2.2
  unfold mvC akM
  rw [e14]
  have qv : ∀ {X Y : Mi} {v : Nat}, RS X a (Y 128) n v → QV Y v := fun hR k hk => by
    obtain ⟨hb, hw, -, q, hq⟩ := hR
    obtain ⟨z0, z1, z2, z3, z4⟩ := hq.1 k hk
    exact ⟨q k, by have := hb.1; omega, z3⟩
  by_cases c : riM (faM J n) n 128 1 = 1
  · rw [if_pos c, if_pos c]
    obtain ⟨w2, h2⟩ := RR_ask h1
    exact ⟨w2, _, ⟨RS_beg h2.1, RV_beg h.1.1.1 h2.1.2.1 h2.2⟩, h2.1.2.1, h2.1.2.2.1.2, qv h2.1⟩
  · rw [if_neg c, if_neg c]
    exact ⟨w, _, ⟨RS_beg h1.1, RV_beg h.1.1.1 h1.1.2.1 h1.2⟩, h1.1.2.1, h1.1.2.2.1.2, qv h1.1⟩
theorem RS_rl {I J : Mi} {a n w : Nat} (h : RS I a (J 128) n w) : rloadC I a = rlM J n := by
  obtain ⟨hb, -⟩ := h
  rw [rloadC_sm, rlM_sm, sm_more hb.1 (fun i h1 h2 => by rw [if_neg (by rw [(hb.2.2.2 i h1 h2).1]; decide)])]
  refine sm_congr (fun i hi => ?_)
  have s := (hb.2.2.1 i hi).1
  rw [s.2.1, s.2.2.2.1]
theorem max_eq {x y : Int32} : (if x < y then y else x) = if y ≤ x then x else y := by
  by_cases c : x < y
  · rw [if_pos c, if_neg (Int32.not_le.mpr c)]
  · rw [if_neg c, if_pos (Int32.not_lt.mp c)]
/-- the counters at a tick's end -/
theorem RR_end {I J : Mi} {a n w : Nat} (h : RR I a (J 128) n w) : RR (up (up I a 15 (I a 15 + 1)) a 17 (if up I a 15 (I a 15 + 1) a 17 < rloadC (up I a 15 (I a 15 + 1)) a then rloadC (up I a 15 (I a 15 + 1)) a else up I a 15 (I a 15 + 1) a 17)) a (up (up J 128 3 (J 128 3 + 1)) 128 6 (if rlM (up J 128 3 (J 128 3 + 1)) n ≤ up J 128 3 (J 128 3 + 1) 128 6 then up J 128 3 (J 128 3 + 1) 128 6 else rlM (up J 128 3 (J 128 3 + 1)) n) 128) n w := by
  have h8 := h.1.1.1
  have hS : ∀ u v u2 v2 : Int32, RS (up (up I a 15 u) a 17 v) a (up (up J 128 3 u2) 128 6 v2 128) n w := fun u v u2 v2 => by
    refine RS_q ⟨⟨?_, ?_, ?_⟩, fun j hj => ⟨?_, ?_, ?_, ?_, ?_⟩⟩ ⟨⟨?_, ?_, ?_⟩, fun j hj => ⟨?_, ?_, ?_, ?_, ?_⟩⟩ ⟨?_, fun k hk => ?_⟩ ⟨?_, fun k hk => ?_⟩ h.1
    all_goals first | (simp only [uc1, uc2, uc3, uc4, Nat.reduceEqDiff, Nat.reduceLT, Nat.reduceLeDiff, reduceIte, and_false, false_and, and_true, true_and, and_self, ne_eq, not_false_eq_true, not_true_eq_false, Nat.zero_lt_succ, *]; done) | (simp only [um1, um2, um3, um4, um5, um6, um7, um8, um9, um0, Nat.reduceEqDiff, Nat.reduceLT, Nat.reduceLeDiff, reduceIte, and_false, false_and, and_true, true_and, and_self, ne_eq, not_false_eq_true, not_true_eq_false, *]; done)
  refine ⟨hS _ _ _ _, ?_⟩
  obtain ⟨⟨a0, a1, a2, a3⟩, hV, hA⟩ := h.2
  have eg : up I a 15 (I a 15 + 1) a 17 = I a 17 := by simp only [uc1, uc2, uc3, uc4, Nat.reduceEqDiff, Nat.reduceLT, Nat.reduceLeDiff, reduceIte, and_false, false_and, and_true, true_and, and_self, ne_eq, not_false_eq_true, not_true_eq_false, Nat.zero_lt_succ, *]
  have eh : up J 128 3 (J 128 3 + 1) 128 6 = J 128 6 := by simp only [um1, um2, um3, um4, um5, um6, um7, um8, um9, um0, Nat.reduceEqDiff, Nat.reduceLT, Nat.reduceLeDiff, reduceIte, and_false, false_and, and_true, true_and, and_self, ne_eq, not_false_eq_true, not_true_eq_false, *]
  have er : rloadC (up I a 15 (I a 15 + 1)) a = rlM (up J 128 3 (J 128 3 + 1)) n := by
    have e1 : rloadC (up I a 15 (I a 15 + 1)) a = rloadC I a := by
      rw [rloadC_sm, rloadC_sm]
      exact sm_congr (fun i hi => by rw [uc3 _ a 4 15 _ _ (by omega), uc3 _ a 2 15 _ _ (by omega)])
    have e2 : rlM (up J 128 3 (J 128 3 + 1)) n = rlM J n := by
      rw [rlM_sm, rlM_sm]
      exact sm_congr (fun i hi => by rw [show pt (up J 128 3 (J 128 3 + 1)) i 7 = pt J i 7 from um7 _ _ _ _ _ (by omega), show pt (up J 128 3 (J 128 3 + 1)) i 3 = pt J i 3 from um7 _ _ _ _ _ (by omega)])
    rw [e1, e2, RS_rl h.1]
  rw [eg, eh, er, a2, max_eq]
  generalize (if rlM (up J 128 3 (J 128 3 + 1)) n ≤ J 128 6 then J 128 6 else rlM (up J 128 3 (J 128 3 + 1)) n) = g
  refine ⟨⟨?_, ?_, ?_, ?_⟩, fun i hi => ?_, fun i h1 h2 => ?_⟩
  · clear a1 a2 a3; rw [uc4, if_neg (by omega), uc4, if_pos rfl, um9 _ _ _ _ (by omega) (by omega), if_neg (by omega), um9 _ _ _ _ (by omega) (by omega), if_pos rfl, a0]
  · rw [uc4, if_neg (by omega), uc4, if_neg (by omega), um9 _ _ _ _ (by omega) (by omega), if_neg (by omega), um9 _ _ _ _ (by omega) (by omega), if_neg (by omega), a1]
  · rw [uc4, if_pos rfl, um9 _ _ _ _ (by omega) (by omega), if_pos rfl]
  · rw [um9 _ _ _ _ (by omega) (by omega), if_neg (by omega), um9 _ _ _ _ (by omega) (by omega), if_neg (by omega), ← a3, sumC_sm, sumC_sm]
    exact sm_congr (fun i hi => by rw [uc3 _ a 8 17 _ _ (by omega), uc3 _ a 8 15 _ _ (by omega)])
  · have s := hV i hi
    unfold VI at s ⊢
    simp only [uc3 _ a 5 17 _ _ (by omega), uc3 _ a 5 15 _ _ (by omega), uc3 _ a 6 17 _ _ (by omega), uc3 _ a 6 15 _ _ (by omega), uc3 _ a 8 17 _ _ (by omega), uc3 _ a 8 15 _ _ (by omega), um7 _ i _ 6 _ (by omega), um7 _ i _ 3 _ (by omega)]
    rw [show up (up I a 15 (I a 15 + 1)) a 17 g a 1 = I a 1 by simp only [uc1, uc2, uc3, uc4, Nat.reduceEqDiff, Nat.reduceLT, Nat.reduceLeDiff, reduceIte, and_false, false_and, and_true, true_and, and_self, ne_eq, not_false_eq_true, not_true_eq_false, Nat.zero_lt_succ, *], show up (up I a 15 (I a 15 + 1)) a 17 g a 2 = I a 2 by simp only [uc1, uc2, uc3, uc4, Nat.reduceEqDiff, Nat.reduceLT, Nat.reduceLeDiff, reduceIte, and_false, false_and, and_true, true_and, and_self, ne_eq, not_false_eq_true, not_true_eq_false, Nat.zero_lt_succ, *]]
    exact s
  · have s := hA i h1 h2
    unfold AV at s ⊢
    rw [uc3 _ a 5 17 _ _ (by omega), uc3 _ a 5 15 _ _ (by omega), uc3 _ a 6 17 _ _ (by omega), uc3 _ a 6 15 _ _ (by omega), uc3 _ a 8 17 _ _ (by omega), uc3 _ a 8 15 _ _ (by omega), show up (up I a 15 (I a 15 + 1)) a 17 g a 1 = I a 1 by simp only [uc1, uc2, uc3, uc4, Nat.reduceEqDiff, Nat.reduceLT, Nat.reduceLeDiff, reduceIte, and_false, false_and, and_true, true_and, and_self, ne_eq, not_false_eq_true, not_true_eq_false, Nat.zero_lt_succ, *], show up (up I a 15 (I a 15 + 1)) a 17 g a 2 = I a 2 by simp only [uc1, uc2, uc3, uc4, Nat.reduceEqDiff, Nat.reduceLT, Nat.reduceLeDiff, reduceIte, and_false, false_and, and_true, true_and, and_self, ne_eq, not_false_eq_true, not_true_eq_false, Nat.zero_lt_succ, *]]
    exact s
theorem RS_end {I J : Mi} {a n w : Nat} (u v : Int32) (h : RS I a (J 128) n w) : RS I a (up (up J 128 3 u) 128 6 v 128) n w := by
  refine RS_q ⟨⟨rfl, rfl, rfl⟩, fun j hj => ⟨rfl, rfl, rfl, rfl, rfl⟩⟩ ⟨⟨?_, ?_, ?_⟩, fun j hj => ⟨?_, ?_, ?_, ?_, ?_⟩⟩ ⟨rfl, fun k hk => rfl⟩ ⟨?_, fun k hk => ?_⟩ h
  all_goals simp only [um1, um2, um3, um4, um5, um6, um7, um8, um9, um0, Nat.reduceEqDiff, Nat.reduceLT, Nat.reduceLeDiff, reduceIte, and_false, false_and, and_true, true_and, and_self, ne_eq, not_false_eq_true, not_true_eq_false, *]
theorem RR_tick {I J : Mi} {a n w : Nat} (h : RR I a (J 128) n w) : (∃ w2, RR (tickC I a) a (tkM J 128) n w2) ∧ TI J := by
  have h8 := h.1.1.1
  have e2 : J 128 2 = nI n := h.1.1.2.1.2.1
  obtain ⟨w2, w3, hm, hw2, e7, hQ⟩ := RR_mv (RR_nv h)
  have en : ix (J 128 2) = n := by rw [e2]; exact ix_nI (by omega)
  refine ⟨⟨w3, ?_⟩, n, w, w2, h8, e2, h.1.2.1, h.1.2.2.1.2, hw2, e7, hQ⟩
  unfold tickC tkM
  dsimp only
  rw [en]
  have e7' : ix (preM J n 128 7) = w2 := by rw [show preM J n 128 7 = nI w2 from e7]; exact ix_nI (by omega)
  rw [e7']
  exact RR_end hm
theorem RS_tick {I J : Mi} {a n w : Nat} (h : RS I a (J 128) n w) : (∃ w2, RS (mvC I a) a (tkM J 128) n w2) ∧ TI J := by
  have h8 := h.1.1
  have e2 : J 128 2 = nI n := h.1.2.1.2.1
  obtain ⟨w2, w3, hm, hw2, e7, hQ⟩ := RS_mv (RS_nv h)
  have en : ix (J 128 2) = n := by rw [e2]; exact ix_nI (by omega)
  refine ⟨⟨w3, ?_⟩, n, w, w2, h8, e2, h.2.1, h.2.2.1.2, hw2, e7, hQ⟩
  unfold tkM
  try dsimp only
  rw [en]
  have e7' : ix (preM J n 128 7) = w2 := by rw [show preM J n 128 7 = nI w2 from e7]; exact ix_nI (by omega)
  rw [e7']
  exact RS_end _ _ hm
theorem RR_pass {I J : Mi} {a n w : Nat} (h : RR I a (J 128) n w) : ∀ t, (∃ w2, RR (passC I a t) a (psM J t 128) n w2) ∧ ∀ k, k < t → TI (psM J k)
  | 0 => ⟨⟨w, h⟩, fun k hk => absurd hk (Nat.not_lt_zero k)⟩
  | t + 1 => by
    obtain ⟨⟨w2, h2⟩, h3⟩ := RR_pass h t
    obtain ⟨h4, h5⟩ := RR_tick h2
    refine ⟨h4, fun k hk => ?_⟩
    rcases Nat.lt_or_ge k t with q | q
    · exact h3 k q
    · rw [show k = t by omega]; exact h5
