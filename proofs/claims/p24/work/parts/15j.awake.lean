/-! until all are awake: the class stops where nothing can wake any more -/
def Zr (X : Mi) (a : Nat) : Prop := ∀ i, i < 8 → X (a + 4) i = 2 → X a 14 = 1 → ¬ isI (rbaC X a) (nI i) = true
theorem RS_awake {I J : Mi} {a n w : Nat} (h : RS I a (J 128) n w) : decide (bcJ (setC I a 0) = I a 0) = allM J n := by
  have h8 := h.1.1
  have e : setC I a 0 = setM J n 0 := by
    rw [setC_un, setM_un, un_more h8 (fun i h1 h2 => by rw [(h.1.2.2.2 i h1 h2).1]; decide)]
    exact un_congr (fun i hi => by rw [(h.1.2.2.1 i hi).1.2.2.2.1])
  unfold allM
  rw [e, h.1.2.1.1]
  obtain ⟨v, hv, ev⟩ := un_lt (fun i => decide (pt J i 7 = 0)) n h8
  rw [setM_un, ev]
  have := bc_full n (by omega) v hv
  by_cases c : bcJ (nI v) = nI n
  · rw [decide_eq_true c, decide_eq_true (this.mp c)]
  · rw [decide_eq_false c, decide_eq_false (fun z => c (this.mpr z))]
theorem restC_sp {I : Mi} {a : Nat} : ∀ k i, restC I a k i = true → ∀ j, i ≤ j → j < i + k → I (a + 4) j ≠ 1 ∧ I (a + 4) j ≠ 3 ∧ I (a + 4) j ≠ 4
  | 0, i, _, j, h1, h2 => by omega
  | k + 1, i, h, j, h1, h2 => by
    unfold restC at h
    split at h
    · cases h
    · split at h
      · cases h
      · split at h
        · cases h
        · rename_i c1 c3 c4
          rcases Nat.lt_or_ge i j with q | q
          · exact restC_sp k (i + 1) h j (by omega) (by omega)
          · rw [show j = i by omega]; exact ⟨c1, c3, c4⟩
theorem restC_of {I : Mi} {a : Nat} : ∀ k i, (∀ j, i ≤ j → j < i + k → I (a + 4) j ≠ 1 ∧ I (a + 4) j ≠ 3 ∧ I (a + 4) j ≠ 4) → restC I a k i = true
  | 0, i, _ => rfl
  | k + 1, i, h => by
    obtain ⟨c1, c3, c4⟩ := h i (Nat.le_refl _) (by omega)
    unfold restC
    rw [if_neg c1, if_neg c3, if_neg c4]
    exact restC_of k (i + 1) (fun j h1 h2 => h j (by omega) (by omega))
theorem lp_id {α : Type} {f : Nat → α → α} {s : α} : ∀ {n : Nat}, (∀ i, i < n → f i s = s) → lp f n s = s
  | 0, _ => rfl
  | n + 1, h => by
    show f n (lp f n s) = s
    rw [lp_id (fun i hi => h i (by omega))]
    exact h n (by omega)
/-- at rest a tick changes no state -/
theorem mv_rest {I J : Mi} {a n w : Nat} (h : RS I a (J 128) n w) (hr : restC I a 8 0 = true) (hz : Zr I a) : mvC I a = up I a 12 0 := by
  have sp := restC_sp 8 0 hr
  have e1 : fallC I a = I := lp_id (fun i hi => if_neg (sp i (by omega) (by omega)).1)
  have e2 : riseC I a = I := lp_id (fun i hi => riB_no (sp i (by omega) (by omega)).2.2)
  have hw : w = 0 := by
    obtain ⟨hb, hw8, -, q, hq⟩ := h
    rcases Nat.eq_zero_or_pos w with e | e
    · exact e
    · obtain ⟨z0, z1, z2, z3, z4⟩ := hq.1 0 e
      exact absurd z4 (sp (q 0) (by omega) (by have := hb.1; omega)).2.1
  have e3 : begC I a = up I a 12 0 := by
    unfold begC
    rw [h.2.2.1.1, hw, rnd_nI (by omega)]
    rfl
  unfold mvC
  rw [e1, e2]
  by_cases c : I a 14 = 1
  · rw [if_pos c]
    have e4 : askC I a = I := lp_id (fun i hi => by
      try dsimp only
      by_cases c2 : I (a + 4) i = 2
      · rw [if_pos c2, if_neg (hz i hi c2 c)]
      · rw [if_neg c2])
    rw [e4, e3]
  · rw [if_neg c, e3]
theorem aa_rest {a n : Nat} : ∀ (k t : Nat) (X Y : Mi), (∃ w, RS X a (Y 128) n w) → Zr X a → restC X a 8 0 = true → allM Y n ≠ true → (aaR n k t Y).1 = -6
  | 0, t, X, Y, _, _, _, ha => by unfold aaR; rw [if_neg ha]
  | k + 1, t, X, Y, ⟨w, h⟩, hz, hr, ha => by
    unfold aaR
    rw [if_neg ha]
    obtain ⟨⟨w2, h2⟩, -⟩ := RS_tick h
    have e := mv_rest h hr hz
    have e4 : ∀ j, mvC X a (a + 4) j = X (a + 4) j := fun j => by rw [e, uc3 _ _ _ _ _ _ (by omega)]
    have e3 : ∀ j, mvC X a (a + 3) j = X (a + 3) j := fun j => by rw [e, uc3 _ _ _ _ _ _ (by omega)]
    have e14 : mvC X a a 14 = X a 14 := by rw [e, uc4, if_neg (by omega)]
    refine aa_rest k (t + 1) (mvC X a) (tkM Y) ⟨w2, h2⟩ (fun i hi h2 h14 => ?_) (restC_of 8 0 (fun j h1 h2 => by rw [e4]; exact restC_sp 8 0 hr j h1 h2)) ?_
    · rw [e4] at h2
      rw [e14] at h14
      have := hz i hi h2 h14
      rw [rbaC_oru] at this ⊢
      rw [show (fun i => if mvC X a (a + 4) i = 0 then mvC X a (a + 3) i else 0) = fun i => if X (a + 4) i = 0 then X (a + 3) i else 0 from funext fun j => by rw [e4, e3]]
      exact this
    · rw [← RS_awake h2]
      rw [← RS_awake h] at ha
      have e0 : mvC X a a 0 = X a 0 := by rw [e, uc4, if_neg (by omega)]
      rw [setC_un] at ha ⊢
      rw [show (fun i => decide (mvC X a (a + 4) i = 0)) = fun i => decide (X (a + 4) i = 0) from funext fun j => by rw [e4], e0]
      exact ha
/-- beginning to rise: who waits may rise, no other state changes -/
theorem begC_st {I J : Mi} {a n w : Nat} (h : RS I a (J 128) n w) : ∀ j, j < 8 → begC I a (a + 4) j = I (a + 4) j ∨ (I (a + 4) j = 3 ∧ begC I a (a + 4) j = 4) := by
  obtain ⟨hb, hw, ⟨c12, k7⟩, q, hq⟩ := id h
  have e : rloadC I a = rlM J n := RS_rl h
  have h1 : BG a n w w (lp (brB a) w (I, rloadC I a, 0)) (lp (lrB n) w (J, 0)) ∧ ∀ j, j < 8 → (lp (brB a) w (I, rloadC I a, 0)).1 (a + 4) j = I (a + 4) j ∨ (I (a + 4) j = 3 ∧ (lp (brB a) w (I, rloadC I a, 0)).1 (a + 4) j = 4) := by
    refine lp_ind2 (fun (k : Nat) (p : Mi × Int32 × Int32) (y : Mi × Nat) => k ≤ w → BG a n w k p y ∧ ∀ j, j < 8 → p.1 (a + 4) j = I (a + 4) j ∨ (I (a + 4) j = 3 ∧ p.1 (a + 4) j = 4)) (fun _ => ⟨⟨hb, ⟨e, rfl, Nat.le_refl _⟩, q, fun x hx => hq.1 x (by
      have hx : x < 0 ∨ (0 ≤ x ∧ x < w) := hx
      show x < w
      omega), fun x y hx hy => hq.2 x y (by
      have hx : x < 0 ∨ (0 ≤ x ∧ x < w) := hx
      show x < w
      omega) (by
      have hy : y < 0 ∨ (0 ≤ y ∧ y < w) := hy
      show y < w
      omega)⟩, fun j _ => Or.inl rfl⟩) (fun k p y hk ih hkw => ?_) (Nat.le_refl _)
    obtain ⟨h1, h2⟩ := ih (by omega)
    refine ⟨BG_step hw hk h1, fun j hj => ?_⟩
    obtain ⟨X, u, v⟩ := p
    obtain ⟨-, -, q3, hq3⟩ := h1
    obtain ⟨z0, z1, z2, z3, z4⟩ := hq3.1 k (Or.inr ⟨Nat.le_refl _, hk⟩)
    dsimp only at z2 z4 h2
    have h8 := hb.1
    have hi : ix (nI (q3 k)) = q3 k := ix_nI (by omega)
    have hA : (brA a (q3 k) (X, u, v)).1 (a + 4) j = I (a + 4) j ∨ (I (a + 4) j = 3 ∧ (brA a (q3 k) (X, u, v)).1 (a + 4) j = 4) := by
      obtain ⟨c1, -⟩ := brA_S X a (q3 k) u v
      by_cases cj : j = q3 k
      · subst cj
        rw [c1.2.2.1.1]
        rcases h2 (q3 k) hj with g | g
        · exact Or.inr ⟨g.symm.trans z4, rfl⟩
        · exact Or.inr ⟨g.1, rfl⟩
      · rw [(c1.2.2.2 j hj cj).1]
        exact h2 j hj
    rw [brB_e, z2, hi]
    split
    · split
      · exact hA
      · split
        · split
          · dsimp only
            rw [uc1, if_neg (by omega)]
            exact h2 j hj
          · exact h2 j hj
        · exact hA
    · exact h2 j hj
  intro j hj
  unfold begC begR
  rw [c12, rnd_nI hw, uc3 _ _ _ _ _ _ (by omega)]
  exact h1.2 j hj
theorem ask_done {I J : Mi} {a n w : Nat} (h : RS I a (J 128) n w) : (∃ w2, RS (askC I a) a (lp (ak1 n) n J 128) n w2) ∧ rbaC (askC I a) a = rbaC I a ∧ ∀ i, i < 8 → askC I a (a + 4) i = 2 → ¬ isI (rbaC I a) (nI i) = true := by
  have key : (∃ w2, RS (lp (ask1 I a) 8 I) a ((lp (ak1 n) n J) 128) n w2 ∧ rbaC (lp (ask1 I a) 8 I) a = rbaC I a) ∧ ∀ j, j < n → lp (ask1 I a) 8 I (a + 4) j = 2 → ¬ isI (rbaC I a) (nI j) = true := by
    refine loop8i (f := ask1 I a) (g := ak1 n) (P := fun k x y => (∃ w2, RS x a (y 128) n w2 ∧ rbaC x a = rbaC I a) ∧ ∀ j, j < k → x (a + 4) j = 2 → ¬ isI (rbaC I a) (nI j) = true) h.1.1 (fun i x y hi q => ?_) (fun i x y h1 h2 q => by obtain ⟨⟨w2, q, _⟩, -⟩ := q; exact ask1_abs (q.1.2.2.2 i h1 h2)) ⟨⟨w, h, rfl⟩, fun j hj => absurd hj (Nat.not_lt_zero j)⟩
    refine ⟨ask_step (fun x y w2 => RS x a (y 128) n w2) (fun _ _ _ z => z) (fun x y w2 z c => (RS_ord z hi c).2) hi q.1, fun j hj hs => ?_⟩
    obtain ⟨⟨w2, hR, hb⟩, h2⟩ := q
    have hw8 : ∀ (c : x (a + 4) i = 2), otwC x a i (a + 4) j = if j = i then 3 else x (a + 4) j := fun c => by
      rw [otwC_eq i (RS_ord hR hi c).1 hR.2.2.1.1, uc3 _ _ _ _ _ _ (by omega), uc1, if_neg (by omega), uc1]
      by_cases e : j = i
      · rw [if_pos ⟨rfl, e⟩, if_pos e]
      · rw [if_neg (by omega), if_neg e]
    unfold ask1 at hs
    by_cases c : x (a + 4) i = 2
    · rw [if_pos c] at hs
      by_cases c2 : isI (rbaC I a) (nI i) = true
      · rw [if_pos c2, hw8 c] at hs
        by_cases e : j = i
        · rw [if_pos e] at hs
          exact absurd hs (by decide)
        · rw [if_neg e] at hs
          exact h2 j (by omega) hs
      · rw [if_neg c2] at hs
        by_cases e : j = i
        · rw [e]; exact c2
        · exact h2 j (by omega) hs
    · rw [if_neg c] at hs
      have e : j ≠ i := fun z => c (by rw [← z]; exact hs)
      exact h2 j (by omega) hs
  obtain ⟨⟨w2, k1, k2⟩, k3⟩ := key
  refine ⟨⟨w2, k1⟩, k2, fun i hi h2 => ?_⟩
  rcases Nat.lt_or_ge i n with q | q
  · exact k3 i q h2
  · have := (k1.1.2.2.2 i q hi).1
    exact absurd (this.symm.trans h2) (by decide)
theorem mv_Z {X Y : Mi} {a n w : Nat} (h : RS X a (Y 128) n w) : Zr (mvC X a) a := by
  have h1 : RS (riseC (fallC X a) a) a (riM (faM Y n) n 128) n w := RS_rise (RS_fall h)
  unfold mvC
  by_cases c : riseC (fallC X a) a a 14 = 1
  · rw [if_pos c]
    obtain ⟨⟨w2, k1⟩, k2, k3⟩ := ask_done h1
    have st := begC_st k1
    have e3 : ∀ j, begC (askC (riseC (fallC X a) a) a) a (a + 3) j = askC (riseC (fallC X a) a) a (a + 3) j := fun j => by rw [(begC_fr _ a).1 (a + 3) (by omega) (by omega) (by omega) (by omega)]
    intro i hi h2 _
    have g2 : askC (riseC (fallC X a) a) a (a + 4) i = 2 := by
      rcases st i hi with g | g
      · exact g.symm.trans h2
      · exact absurd (g.2.symm.trans h2) (by decide)
    have := k3 i hi g2
    rw [← k2] at this
    rw [rbaC_oru] at this ⊢
    rw [show oru (fun i => if begC (askC (riseC (fallC X a) a) a) a (a + 4) i = 0 then begC (askC (riseC (fallC X a) a) a) a (a + 3) i else 0) 8 = oru (fun i => if askC (riseC (fallC X a) a) a (a + 4) i = 0 then askC (riseC (fallC X a) a) a (a + 3) i else 0) 8 from lp_congr (fun j hj s => by
      try dsimp only
      rw [e3]
      rcases st j hj with g | g
      · rw [g]
      · rw [g.2, g.1, if_neg (by decide), if_neg (by decide)]) 0]
    exact this
  · rw [if_neg c]
    intro i hi _ h14
    rw [(begC_fr _ a).2 14 (by omega)] at h14
    exact absurd h14 c
theorem tu_aa {n : Nat} : ∀ (k t : Nat) (X Y : Mi), (∃ w, RS X 12 (Y 128) n w) → Zr X 12 → (tuR (k + 1) t X).1 = (aaR n k t Y).1
  | 0, t, X, Y, ⟨w, h⟩, hz => by
    unfold tuR aaR
    rw [RS_awake h]
    by_cases c : allM Y n = true
    · rw [if_pos c, if_pos c]
    · rw [if_neg c, if_neg c]
      split
      · rfl
      · rfl
  | k + 1, t, X, Y, ⟨w, h⟩, hz => by
    rw [show tuR (k + 1 + 1) t X = if decide (bcJ (setC X 12 0) = X 12 0) = true then (nI t, X) else if restC X 12 8 0 = true then (-6, X) else tuR (k + 1) (t + 1) (mvC X 12) from rfl, RS_awake h]
    by_cases c : allM Y n = true
    · unfold aaR
      rw [if_pos c, if_pos c]
    · by_cases cr : restC X 12 8 0 = true
      · rw [if_neg c, if_pos cr, aa_rest (a := 12) (k + 1) t X Y ⟨w, h⟩ hz cr c]
      · rw [if_neg c, if_neg cr]
        unfold aaR
        rw [if_neg c]
        exact tu_aa k (t + 1) (mvC X 12) (tkM Y) (RS_tick h).1 (mv_Z h)
/-- fewer ticks: the same answer, if it comes in them -/
theorem aa_less {n : Nat} : ∀ (k d t : Nat) (Y : Mi), t + k + d < 1000 → ((aaR n k t Y).1 ≠ -6 → (aaR n (k + d) t Y).1 = (aaR n k t Y).1 ∧ ∃ z, z ≤ t + k ∧ (aaR n k t Y).1 = nI z) ∧ ((aaR n k t Y).1 = -6 → (aaR n (k + d) t Y).1 = -6 ∨ ∃ z, t + k < z ∧ z ≤ t + k + d ∧ (aaR n (k + d) t Y).1 = nI z)
  | 0, d, t, Y, hb => by
    by_cases c : allM Y n = true
    · have e1 : (aaR n 0 t Y).1 = nI t := by unfold aaR; rw [if_pos c]
      have e2 : (aaR n (0 + d) t Y).1 = nI t := by
        cases d with
        | zero => exact e1
        | succ d => rw [Nat.zero_add]; unfold aaR; rw [if_pos c]
      refine ⟨fun _ => ⟨e2.trans e1.symm, t, by omega, e1⟩, fun z => ?_⟩
      rw [e1] at z
      exact absurd z (by
        intro z
        have := congrArg Int32.toInt z
        rw [nI_toInt (by omega)] at this
        have h6 : (-6 : Int32).toInt = -6 := by decide
        omega)
    · have e1 : (aaR n 0 t Y).1 = -6 := by unfold aaR; rw [if_neg c]
      refine ⟨fun z => absurd e1 z, fun _ => ?_⟩
      have g : ∀ (d t : Nat) (Y : Mi), (aaR n d t Y).1 = -6 ∨ ∃ z, t ≤ z ∧ z ≤ t + d ∧ (aaR n d t Y).1 = nI z := fun d => by
        induction d with
        | zero =>
          intro t Y
          unfold aaR
          split
          · exact Or.inr ⟨t, by omega, by omega, rfl⟩
          · exact Or.inl rfl
        | succ d ih =>
          intro t Y
          unfold aaR
          split
          · exact Or.inr ⟨t, by omega, by omega, rfl⟩
          · rcases ih (t + 1) (tkM Y) with q | ⟨z, z1, z2, z3⟩
            · exact Or.inl q
            · exact Or.inr ⟨z, by omega, by omega, z3⟩
      rw [Nat.zero_add]
      cases d with
      | zero => exact Or.inl e1
      | succ d =>
        unfold aaR
        rw [if_neg c]
        rcases g d (t + 1) (tkM Y) with q | ⟨z, z1, z2, z3⟩
        · exact Or.inl q
        · exact Or.inr ⟨z, by omega, by omega, z3⟩
  | k + 1, d, t, Y, hb => by
    rw [show k + 1 + d = (k + d) + 1 by omega]
    by_cases c : allM Y n = true
    · have e : ∀ m, (aaR n (m + 1) t Y).1 = nI t := fun m => by unfold aaR; rw [if_pos c]
      refine ⟨fun _ => ⟨(e _).trans (e _).symm, t, by omega, e _⟩, fun z => ?_⟩
      rw [e] at z
      exact absurd z (by
        intro z
        have := congrArg Int32.toInt z
        rw [nI_toInt (by omega)] at this
        have h6 : (-6 : Int32).toInt = -6 := by decide
        omega)
    · have e : ∀ m, aaR n (m + 1) t Y = aaR n m (t + 1) (tkM Y) := fun m => by
        rw [show aaR n (m + 1) t Y = if allM Y n = true then (nI t, Y) else aaR n m (t + 1) (tkM Y) from rfl, if_neg c]
      rw [e, e]
      obtain ⟨h1, h2⟩ := aa_less k d (t + 1) (tkM Y) (by omega)
      refine ⟨fun z => ?_, fun z => ?_⟩
      · obtain ⟨g1, x, g2, g3⟩ := h1 z
        exact ⟨g1, x, by omega, g3⟩
      · rcases h2 z with g | ⟨x, g1, g2, g3⟩
        · exact Or.inl g
        · exact Or.inr ⟨x, by omega, by omega, g3⟩
/-! the start: all that are asleep are ordered -/
theorem osw_RS {X Y : Mi} {a n w : Nat} (h : RS X a (Y 128) n w) : (∃ w2, RS (oswC X a) a (lp awB n Y 128) n w2) ∧ Zr (oswC X a) a := by
  have key : (∃ w2, RS (lp (fun i I => if I (a + 4) i = 2 then otwC I a i else I) 8 X) a ((lp awB n Y) 128) n w2) ∧ ∀ j, j < n → lp (fun i I => if I (a + 4) i = 2 then otwC I a i else I) 8 X (a + 4) j ≠ 2 := by
    refine loop8i (f := fun i I => if I (a + 4) i = 2 then otwC I a i else I) (g := awB) (P := fun k x y => (∃ w2, RS x a (y 128) n w2) ∧ ∀ j, j < k → x (a + 4) j ≠ 2) h.1.1 (fun i x y hi q => ?_) (fun i x y h1 h2 q => by obtain ⟨⟨w2, q⟩, -⟩ := q; exact if_neg (by rw [(q.1.2.2.2 i h1 h2).1]; decide)) ⟨⟨w, h⟩, fun j hj => absurd hj (Nat.not_lt_zero j)⟩
    obtain ⟨⟨w2, hR⟩, h2⟩ := q
    have e4 : x (a + 4) i = pt y i 7 := (hR.1.2.2.1 i hi).1.2.2.2.1
    unfold awB
    try dsimp only
    by_cases c : x (a + 4) i = 2
    · obtain ⟨hw, ho⟩ := RS_ord hR hi c
      rw [if_pos c, if_pos (show decide (pt y i 7 = 2) = true by rw [← e4, c]; rfl), show ix (y 128 7) = w2 by rw [hR.2.2.1.2]; exact ix_nI (by omega)]
      refine ⟨⟨w2 + 1, ho⟩, fun j hj => ?_⟩
      rw [otwC_eq i hw hR.2.2.1.1, uc3 _ _ _ _ _ _ (by omega), uc1, if_neg (by omega), uc1]
      by_cases e : j = i
      · rw [if_pos ⟨rfl, e⟩]; decide
      · rw [if_neg (by omega)]; exact h2 j (by omega)
    · rw [if_neg c, if_neg (show ¬ decide (pt y i 7 = 2) = true by rw [← e4]; simp [c])]
      refine ⟨⟨w2, hR⟩, fun j hj => ?_⟩
      by_cases e : j = i
      · rw [e]; exact c
      · exact h2 j (by omega)
  obtain ⟨⟨w2, k1⟩, k2⟩ := key
  refine ⟨⟨w2, k1⟩, fun i hi h2 => ?_⟩
  rcases Nat.lt_or_ge i n with q | q
  · exact absurd h2 (k2 i q)
  · exact absurd ((k1.1.2.2.2 i q hi).1.symm.trans h2) (by decide)
theorem tu0_RS {I J : Mi} {n w : Nat} (cur : Int32) (h : RS I 1 (J 128) n w) : (∃ w2, RS (tu0 I cur) 12 (aw0 J cur n 128) n w2) ∧ Zr (tu0 I cur) 12 := by
  have h1 : RS (copyC I 12 1) 12 (mvM 128 0 129 0 J 128) n w := by
    rw [show mvM 128 0 129 0 J 128 = J 128 from mvM_ne (by omega)]
    have hC := copyC_CE I (a := 12) (b := 1) (by omega)
    exact ⟨RB_obs hC (fun _ _ => rfl) h.1, RQ_obs h.1.1 hC (fun _ _ => rfl) h.2⟩
  have h2 : RS (up (copyC I 12 1) 12 13 cur) 12 (up (mvM 128 0 129 0 J) 128 0 cur 128) n w := by
    obtain ⟨⟨h8, ⟨a0, a1, a2, a3⟩, hS, hA⟩, hw, ⟨b0, b1⟩, q, hq⟩ := h1
    refine ⟨⟨h8, ⟨by rw [uc4, if_neg (by omega), a0], by rw [um9 _ _ _ _ (by omega) (by omega), if_neg (by omega), a1], by rw [uc4, if_pos rfl, um9 _ _ _ _ (by omega) (by omega), if_pos rfl], by rw [uc4, if_neg (by omega), um9 _ _ _ _ (by omega) (by omega), if_neg (by omega), a3]⟩, fun i hi => ?_, fun i g1 g2 => ?_⟩, hw, ⟨by rw [uc4, if_neg (by omega), b0], by rw [um9 _ _ _ _ (by omega) (by omega), if_neg (by omega), b1]⟩, q, fun k hk => ?_, hq.2⟩
    · have s := hS i hi
      unfold SI at s ⊢
      simp only [uc3 _ 12 _ 13 _ _ (show 0 < 1 by omega), uc3 _ 12 _ 13 _ _ (show 0 < 2 by omega), uc3 _ 12 _ 13 _ _ (show 0 < 3 by omega), uc3 _ 12 _ 13 _ _ (show 0 < 4 by omega), uc3 _ 12 _ 13 _ _ (show 0 < 7 by omega), um7 _ i _ 0 _ (by omega)]
      exact s
    · have s := hA i g1 g2
      unfold AI at s ⊢
      simp only [uc3 _ 12 _ 13 _ _ (show 0 < 3 by omega), uc3 _ 12 _ 13 _ _ (show 0 < 4 by omega), uc3 _ 12 _ 13 _ _ (show 0 < 7 by omega)]
      exact s
    · obtain ⟨z0, z1, z2, z3, z4⟩ := hq.1 k hk
      exact ⟨z0, z1, by rw [uc3 _ _ _ _ _ _ (by omega)]; exact z2, by rw [um8 _ _ _ _ (by omega)]; exact z3, by rw [uc3 _ _ _ _ _ _ (by omega)]; exact z4⟩
  exact osw_RS h2
theorem RS_psM {X Y : Mi} {a n w : Nat} (h : RS X a (Y 128) n w) : ∀ k, (∃ Z w2, RS Z a (psM Y k 128) n w2) ∧ TI (psM Y k)
  | 0 => ⟨⟨X, w, h⟩, (RS_tick h).2⟩
  | k + 1 => by
    obtain ⟨⟨Z, w2, h2⟩, -⟩ := RS_psM h k
    obtain ⟨⟨w3, h3⟩, -⟩ := RS_tick h2
    exact ⟨⟨_, w3, h3⟩, (RS_tick h3).2⟩
theorem AW_ok {I J : Mi} {n w : Nat} (cur : Int32) (h : RS I 1 (J 128) n w) : AWok J cur n := by
  obtain ⟨⟨w2, h2⟩, -⟩ := tu0_RS cur h
  refine ⟨fun k _ => (RS_psM h2 k).2, fun k _ => ?_⟩
  obtain ⟨⟨Z, w3, h3⟩, -⟩ := RS_psM h2 k
  exact h3.1.2.1.2.1
theorem tuC_yAa {I J : Mi} {n w : Nat} (cur : Int32) (h : RS I 1 (J 128) n w) : (tuC I cur 200).1 = (yAa J cur n).1 := by
  obtain ⟨h2, h3⟩ := tu0_RS cur h
  exact tu_aa 200 0 _ _ h2 h3
/-- the class asks for at most m ticks, the reference for 200 and compares -/
theorem tuC_m {I J : Mi} {n w m : Nat} (hm : m ≤ 200) (cur : Int32) (h : RS I 1 (J 128) n w) : (tuC I cur m).1 = -6 ↔ ((yAa J cur n).1 = -6 ∨ nI m < (yAa J cur n).1) := by
  obtain ⟨h2, h3⟩ := tu0_RS cur h
  have e : (tuC I cur m).1 = (aaR n m 0 (aw0 J cur n)).1 := tu_aa m 0 _ _ h2 h3
  have ey : (yAa J cur n).1 = (aaR n (m + (200 - m)) 0 (aw0 J cur n)).1 := by rw [show m + (200 - m) = 200 by omega]; rfl
  obtain ⟨g1, g2⟩ := aa_less (n := n) m (200 - m) 0 (aw0 J cur n) (by omega)
  rw [e, ey]
  constructor
  · intro z
    rcases g2 z with g | ⟨x, x1, x2, x3⟩
    · exact Or.inl g
    · exact Or.inr (by rw [x3]; exact nI_lt (by omega) (by omega))
  · intro z
    refine Classical.byContradiction fun c => ?_
    obtain ⟨k1, x, k2, k3⟩ := g1 c
    rw [k1] at z
    rcases z with z | z
    · exact c z
    · rw [k3] at z
      exact nI_nlt (by omega) (by omega) z
