/-! the law's numbers and the reference's picture agree -/
def LRow (I : Mi) (b : Nat) (J : Mi) (n : Nat) : Prop := (∀ y, y < 7 → I b y = J 128 y) ∧ ∀ i, i < n → ∀ p, p < 10 → sL I b i p = pt J i p
def LQu (I : Mi) (b : Nat) (J : Mi) (n w O : Nat) : Prop := ∃ q o : Nat → Nat, (∀ k, k < w → J 128 (8 + k) = nI (q k) ∧ q k < n ∧ pt J (q k) 7 = 3 ∧ sL I b (q k) 10 = nI (o k)) ∧ (∀ k, k < w → 0 < o k ∧ o k ≤ O) ∧ (∀ j k, j < k → k < w → o j < o k) ∧ ∀ i, i < n → pt J i 7 = 3 → ∃ k, k < w ∧ q k = i
def LVal (J : Mi) (n : Nat) : Prop := ∀ i, i < n → (∃ v, v < 256 ∧ pt J i 4 = nI v) ∧ (∃ v, v < 256 ∧ pt J i 5 = nI v) ∧ (∃ v, v < 256 ∧ pt J i 3 = nI v) ∧ ∃ v, v < 5 ∧ pt J i 7 = nI v
def LG (I : Mi) (b : Nat) (J : Mi) (n w O : Nat) : Prop := (n ≤ 5 ∧ w ≤ 8 ∧ J 128 2 = nI n ∧ J 128 7 = nI w ∧ I b 7 = nI O) ∧ LRow I b J n ∧ LQu I b J n w O ∧ LVal J n
theorem LG.law2 {I J : Mi} {b n w O : Nat} (h : LG I b J n w O) : I b 2 = nI n := (h.2.1.1 2 (by omega)).trans h.1.2.2.1
theorem LG.same {I I2 J J2 : Mi} {b n w O : Nat} (h : LG I b J n w O) (h0 : ∀ y, y < 8 → I2 b y = I b y) (h1 : ∀ y, y < 60 → I2 (b + 1) y = I (b + 1) y) (h2 : ∀ y, y < 96 → J2 128 y = J 128 y) : LG I2 b J2 n w O := by
  obtain ⟨⟨n5, w8, e2, e7, eO⟩, ⟨r1, r2⟩, ⟨q, o, q1, q2, q3, q4⟩, v⟩ := h
  have es : ∀ i, i < n → ∀ p, p < 12 → sL I2 b i p = sL I b i p := fun i hi p hp => h1 _ (by omega)
  have ep : ∀ i, i < n → ∀ p, p < 10 → pt J2 i p = pt J i p := fun i hi p hp => h2 _ (by omega)
  refine ⟨⟨n5, w8, (h2 2 (by omega)).trans e2, (h2 7 (by omega)).trans e7, (h0 7 (by omega)).trans eO⟩, ⟨fun y hy => by rw [h0 y (by omega), h2 y (by omega), r1 y hy], fun i hi p hp => by rw [es i hi p (by omega), ep i hi p hp, r2 i hi p hp]⟩, ⟨q, o, fun k hk => ?_, q2, q3, fun i hi h3 => q4 i hi (by rw [← ep i hi 7 (by omega)]; exact h3)⟩, fun i hi => ?_⟩
  · obtain ⟨a1, a2, a3, a4⟩ := q1 k hk
    exact ⟨(h2 _ (by omega)).trans a1, a2, (ep _ a2 7 (by omega)).trans a3, (es _ a2 10 (by omega)).trans a4⟩
  · have := v i hi
    rw [ep i hi 4 (by omega), ep i hi 5 (by omega), ep i hi 3 (by omega), ep i hi 7 (by omega)]
    exact this
theorem ixv {x : Int32} (h : ∃ v, v < 256 ∧ x = nI v) : ix x < 256 ∧ x = nI (ix x) := by
  obtain ⟨v, hv, rfl⟩ := h
  rw [ix_nI (by omega)]
  exact ⟨hv, rfl⟩
theorem st5 {x : Int32} (h : ∃ v, v < 5 ∧ x = nI v) : x = 0 ∨ x = 1 ∨ x = 2 ∨ x = 3 ∨ x = 4 := by
  obtain ⟨v, hv, rfl⟩ := h
  rcases (show v = 0 ∨ v = 1 ∨ v = 2 ∨ v = 3 ∨ v = 4 by omega) with rfl | rfl | rfl | rfl | rfl
  · exact Or.inl rfl
  · exact Or.inr (Or.inl rfl)
  · exact Or.inr (Or.inr (Or.inl rfl))
  · exact Or.inr (Or.inr (Or.inr (Or.inl rfl)))
  · exact Or.inr (Or.inr (Or.inr (Or.inr rfl)))
theorem tel_eq {I J : Mi} {b n i : Nat} (hr : LRow I b J n) (hv : LVal J n) (hi : i < n) : telL I b i = tellM J i ∧ noL I b i = nzJ J i ∧ ∃ v, v < 256 ∧ tellM J i = nI v := by
  have e7 := hr.2 i hi 7 (by omega)
  have e4 := hr.2 i hi 4 (by omega)
  have e0 : I (b + 1) (12 * i) = pt J i 0 := hr.2 i hi 0 (by omega)
  obtain ⟨v4, -, -, v7⟩ := hv i hi
  have hs := st5 v7
  have hsure : sureM J i = true ↔ (pt J i 7 = 0 ∨ pt J i 7 = 1) := by unfold sureM; simp
  unfold telL noL tellM nzJ
  rw [e7, e4, e0]
  by_cases c : pt J i 7 = 0 ∨ pt J i 7 = 1
  · rw [if_pos (hsure.mpr c), if_pos (hsure.mpr c), if_neg (by rcases c with c | c <;> rw [c] <;> decide), if_pos (by rcases c with c | c <;> rw [c] <;> decide)]
    exact ⟨rfl, rfl, v4⟩
  · have c' : ¬ sureM J i = true := fun z => c (hsure.mp z)
    have h2 : (2 : Int32) ≤ pt J i 7 ∧ ¬ pt J i 7 ≤ 1 := by
      rcases hs with h | h | h | h | h
      · exact absurd (Or.inl h) c
      · exact absurd (Or.inr h) c
      all_goals rw [h]; exact ⟨by decide, by decide⟩
    rw [if_neg c', if_neg c', if_pos h2.1, if_neg h2.2]
    refine ⟨rfl, rfl, ?_⟩
    split
    · exact ⟨0, by omega, rfl⟩
    · exact ⟨255, by omega, rfl⟩
theorem RowT.from {A A2 B : Nat → Int32} {V S : Int32} (hA : ∀ p, p < 10 → A p = A2 p) (h : RowT A B V S) : RowT A2 B V S := by
  obtain ⟨q0, q1, q2, q3, q4⟩ := h
  have e1 := hA 1 (by omega)
  have e4 := hA 4 (by omega)
  have e5 := hA 5 (by omega)
  have e7 := hA 7 (by omega)
  have e8 := hA 8 (by omega)
  have e9 := hA 9 (by omega)
  rw [e5, e7, e8, e9] at q1
  rw [e1, e4, e5, e7, e8, e9] at q2
  rw [e1, e4, e5, e7, e8, e9] at q3
  rw [e4, e5, e7, e8, e9] at q4
  exact ⟨fun p hp p4 p5 p7 p8 p9 => (q0 p hp p4 p5 p7 p8 p9).trans (hA p hp), q1, q2, q3, q4⟩
theorem RowT.st3 {A B : Nat → Int32} {V S : Int32} (h : RowT A B V S) : (A 7 = 3 → B 7 = 3) ∧ (B 7 = 3 → A 7 = 3) := by
  obtain ⟨q0, q1, q2, q3, q4⟩ := h
  refine ⟨fun h => ?_, fun h => ?_⟩
  · rw [(q4 (by rw [h]; decide) (by rw [h]; decide) (by rw [h]; decide)).2.1, h]
  · by_cases c0 : A 7 = 0
    · rw [(q1 c0).2.1] at h; exact absurd h (by decide)
    · by_cases c1 : A 7 = 1
      · rw [(q2 c1).2.1] at h; exact absurd h (by decide)
      · by_cases c4 : A 7 = 4
        · obtain ⟨a1, a2, -⟩ := q3 c4
          by_cases c8 : A 8 - 1 = 0
          · rw [(a1 c8).1] at h; exact absurd h (by decide)
          · rw [(a2 c8).1] at h; exact absurd h (by decide)
        · rw [(q4 c0 c1 c4).2.1] at h; exact h
theorem RowT.val {A B : Nat → Int32} {V S : Int32} (h : RowT A B V S) (hV : ∃ v, v < 256 ∧ V = nI v) (h4 : ∃ v, v < 256 ∧ A 4 = nI v) (h5 : ∃ v, v < 256 ∧ A 5 = nI v) (h7 : ∃ v, v < 5 ∧ A 7 = nI v) : (∃ v, v < 256 ∧ B 4 = nI v) ∧ (∃ v, v < 256 ∧ B 5 = nI v) ∧ ∃ v, v < 5 ∧ B 7 = nI v := by
  obtain ⟨q0, q1, q2, q3, q4⟩ := h
  by_cases c0 : A 7 = 0
  · obtain ⟨⟨a1, a2⟩, a3, -⟩ := q1 c0
    rw [a1, a2, a3]; exact ⟨hV, h5, 0, by omega, rfl⟩
  · by_cases c1 : A 7 = 1
    · obtain ⟨⟨a1, a2⟩, a3, -⟩ := q2 c1
      rw [a1, a2, a3]
      refine ⟨⟨0, by omega, rfl⟩, ?_, 2, by omega, rfl⟩
      split
      · exact h4
      · exact h5
    · by_cases c4 : A 7 = 4
      · obtain ⟨a1, a2, a3, -⟩ := q3 c4
        rw [a3]
        by_cases c8 : A 8 - 1 = 0
        · rw [(a1 c8).1, (a1 c8).2]
          refine ⟨?_, h5, 0, by omega, rfl⟩
          split
          · exact h5
          · exact h4
        · rw [(a2 c8).1, (a2 c8).2]
          exact ⟨h4, h5, 4, by omega, rfl⟩
      · obtain ⟨⟨a1, a2⟩, a3, -⟩ := q4 c0 c1 c4
        rw [a1, a2, a3]; exact ⟨h4, h5, h7⟩
/-- new values, falling, rising -/
theorem LG_x2 {I J : Mi} {b n w O : Nat} (hb : LB b) (h : LG I b J n w O) : LG (x2L I b n) b (riM (faM (nvM J n) n) n) n w O := by
  obtain ⟨⟨n5, w8, e2, e7, eO⟩, hr, ⟨q, o, q1, q2, q3, q4⟩, hv⟩ := h
  have hv4 : ∀ i, i < n → ix (pt J i 4) < 256 ∧ pt J i 4 = nI (ix (pt J i 4)) := fun i hi => ixv (hv i hi).1
  have ht : ∀ m, m < n → ix (tellM J m) < 256 ∧ tellM J m = nI (ix (tellM J m)) := fun m hm => ixv (tel_eq hr hv hm).2.2
  obtain ⟨a1, a2, a3, a4, a5⟩ := x2L_row (I := I) (b := b) (n := n) (v := fun i => ix (pt J i 4)) (tn := fun m => ix (tellM J m)) (nv := nzJ J) hb n5 (fun i hi => ⟨(hv4 i hi).1, (hr.2 i hi 4 (by omega)).trans (hv4 i hi).2⟩) (fun m hm => ⟨(ht m hm).1, (tel_eq hr hv hm).1.trans (ht m hm).2, (tel_eq hr hv hm).2.1⟩)
  obtain ⟨b1, b2, b3⟩ := nv_rows (J := J) (n := n) (v := fun i => ix (pt J i 4)) (tn := fun m => ix (tellM J m)) n5 hv4 ht
  obtain ⟨f1, f2, f3⟩ := fa_rows (nvM J n) (n := n) (by omega)
  obtain ⟨i1, i2⟩ := ri_rows (faM (nvM J n) n) n
  have hG : ∀ i, i < n → RowT (pt J i) (pt (riM (faM (nvM J n) n) n) i) (vN (pt J i) (ix (pt J i 4)) (fun m => ix (tellM J m)) n) (nN (pt J i) (nzJ J) n) := fun i hi => RowT_of (b1 i hi) (f1 i hi) (i1 i hi)
  have hL : ∀ i, i < n → RowT (pt J i) (sL (x2L I b n) b i) (vN (pt J i) (ix (pt J i 4)) (fun m => ix (tellM J m)) n) (nN (pt J i) (nzJ J) n) := fun i hi => by
    have g := (a1 i hi).from (fun p hp => hr.2 i hi p hp)
    have e : vN (sL I b i) (ix (pt J i 4)) (fun m => ix (tellM J m)) n = vN (pt J i) (ix (pt J i 4)) (fun m => ix (tellM J m)) n := by unfold vN; rw [hr.2 i hi 6 (by omega)]
    have e' : nN (sL I b i) (nzJ J) n = nN (pt J i) (nzJ J) n := by unfold nN; rw [hr.2 i hi 6 (by omega)]
    rw [e, e'] at g
    exact g
  have hrow : ∀ i, i < n → ∀ p, p < 10 → sL (x2L I b n) b i p = pt (riM (faM (nvM J n) n) n) i p := fun i hi => (hL i hi).eq (hG i hi)
  have hlo : ∀ y, y < 16 → y ≠ 4 → y ≠ 5 → riM (faM (nvM J n) n) n 128 y = J 128 y := fun y y1 y4 y5 => by rw [i2 y y1, f3 y y1 y5, b3 y y1 y4]
  refine ⟨⟨n5, w8, (hlo 2 (by omega) (by omega) (by omega)).trans e2, (hlo 7 (by omega) (by omega) (by omega)).trans e7, (a5 7 (by omega) (by omega)).trans eO⟩, ⟨fun y hy => ?_, hrow⟩, ⟨q, o, fun k hk => ?_, q2, q3, fun i hi h3 => q4 i hi ((hG i hi).st3.2 h3)⟩, fun i hi => ?_⟩
  · by_cases y4 : y = 4
    · subst y4
      rw [a3, i2 4 (by omega), f3 4 (by omega) (by omega), b2, hr.1 4 (by omega)]
      congr 1
      refine sm_congr (fun i hi => ?_)
      rw [hr.2 i hi 7 (by omega)]
      congr 1
      unfold nN
      rw [hr.2 i hi 6 (by omega)]
    · by_cases y5 : y = 5
      · subst y5
        rw [a4, i2 5 (by omega), f2, b3 5 (by omega) (by omega), hr.1 5 (by omega)]
        congr 1
        refine sm_congr (fun i hi => ?_)
        obtain ⟨r0, r1, r2⟩ := b1 i hi
        rw [r0 7 (by omega) (by omega) (by omega), r0 1 (by omega) (by omega) (by omega)]
        unfold lostR
        rw [hr.2 i hi 7 (by omega), hr.2 i hi 1 (by omega), hr.2 i hi 4 (by omega)]
        by_cases c : pt J i 7 = 1
        · rw [if_pos c, if_pos c, (r2 (by rw [c]; decide)).1]
          by_cases c1 : pt J i 1 = 1
          · rw [if_pos c1, if_pos c1]
          · rw [if_neg c1, if_neg c1]
            obtain ⟨v, hv', ev⟩ := (hv i hi).1
            rw [ev]
            by_cases c0 : v = 0
            · subst c0; rw [if_pos (by decide), if_pos (by decide)]
            · rw [if_neg (nI_ne0 (by omega) (by omega)), if_neg (nI_nle (by omega) (by omega))]
        · rw [if_neg c, if_neg c]
      · rw [a5 y y4 y5, hlo y (by omega) y4 y5]
        exact hr.1 y hy
  · obtain ⟨k1, k2, k3, k4⟩ := q1 k hk
    exact ⟨(hlo _ (by omega) (by omega) (by omega)).trans k1, k2, (hG _ k2).st3.1 k3, (a2 _).trans k4⟩
  · obtain ⟨v4, v5, v3, v7⟩ := hv i hi
    obtain ⟨g4, g5, g7⟩ := (hG i hi).val ⟨_, Nat.mod_lt _ (by decide), rfl⟩ v4 v5 v7
    refine ⟨g4, g5, ?_, g7⟩
    rw [(hG i hi).1 3 (by omega) (by omega) (by omega) (by omega) (by omega) (by omega)]
    exact v3
/-! an order to wake -/
theorem wtM_pt (J : Mi) (i : Nat) {w : Nat} (hw : w < 8) (j p : Nat) (hp : p < 10) : pt (wtM J i w) j p = if j = i ∧ p = 7 then 3 else pt J j p := by
  unfold wtM
  show up (up (sp J i 7 3) 128 (8 + w) (nI i)) 128 7 (nI (w + 1)) 128 (16 + 10 * j + p) = _
  rw [um7 _ _ _ _ _ (by omega), um4 _ _ _ _ _ (by omega)]
  exact gp1 J i 7 j p 3 (by omega) hp
theorem wtM_lo16 (J : Mi) (i : Nat) {w : Nat} (hw : w < 8) (y : Nat) (hy : y < 16) : wtM J i w 128 y = if y = 7 then nI (w + 1) else if y = 8 + w then nI i else J 128 y := by
  unfold wtM
  rw [uc4]
  by_cases c : y = 7
  · rw [if_pos c, if_pos c]
  · rw [if_neg c, if_neg c, uc4]
    by_cases c2 : y = 8 + w
    · rw [if_pos c2, if_pos c2]
    · rw [if_neg c2, if_neg c2, sp_lo hy]
theorem ordL_s {I : Mi} {b i O : Nat} (hO : I b 7 = nI O) (j p : Nat) (hp : p < 12) : sL (ordL I b i) b j p = if j = i ∧ p = 7 then 3 else if j = i ∧ p = 10 then nI (O + 1) else sL I b j p := by
  unfold ordL
  rw [us3, hO, nI_1, us1 _ _ _ _ _ _ _ (by omega) hp, us2, us1 _ _ _ _ _ _ _ (by omega) hp]
  by_cases c7 : j = i ∧ p = 7
  · rw [if_pos c7, if_neg (by omega), if_pos c7]
  · by_cases c10 : j = i ∧ p = 10
    · rw [if_pos c10, if_neg c7, if_pos c10]
    · rw [if_neg c10, if_neg c7, if_neg c7, if_neg c10]
theorem ordL_b {I : Mi} {b i O : Nat} (hO : I b 7 = nI O) (y : Nat) : ordL I b i b y = if y = 7 then nI (O + 1) else I b y := by
  unfold ordL
  rw [us3, us3, hO, nI_1, us4, us3]
theorem LQu.wn {I J : Mi} {b n w O : Nat} (h : LQu I b J n w O) (hO : O < 2147483648) : w ≤ n := by
  obtain ⟨q, o, q1, q2, q3, q4⟩ := h
  refine pig n w q (fun k hk => (q1 k hk).2.1) (fun k k2 h1 h2 e => ?_)
  have e1 := (q1 k h1).2.2.2
  have e2 := (q1 k2 h2).2.2.2
  rw [e, e2] at e1
  have e3 : o k2 = o k := (nI_eq (by have := (q2 k2 h2).2; omega) (by have := (q2 k h1).2; omega)).mp e1
  rcases Nat.lt_trichotomy k k2 with c | c | c
  · have := q3 k k2 c h2; omega
  · exact c
  · have := q3 k2 k c h1; omega
theorem LG_ord {I J : Mi} {b n w O i : Nat} (h : LG I b J n w O) (hO : O < 2000000000) (hi : i < n) (h2 : pt J i 7 = 2) : w ≤ 5 ∧ LG (ordL I b i) b (wtM J i w) n (w + 1) (O + 1) := by
  obtain ⟨⟨n5, w8, e2, e7, eO⟩, hr, hQ, hv⟩ := h
  have hw : w ≤ 5 := by have := hQ.wn (by omega); omega
  obtain ⟨q, o, q1, q2, q3, q4⟩ := hQ
  have hP := wtM_pt J i (show w < 8 by omega)
  have hM := wtM_lo16 J i (show w < 8 by omega)
  refine ⟨hw, ⟨n5, by omega, ?_, ?_, ?_⟩, ⟨fun y hy => ?_, fun j hj p hp => ?_⟩, ⟨fun k => if k = w then i else q k, fun k => if k = w then O + 1 else o k, fun k hk => ?_, fun k hk => ?_, fun j k hjk hk => ?_, fun j hj h3 => ?_⟩, fun j hj => ?_⟩
  · rw [hM 2 (by omega), if_neg (by omega), if_neg (by omega)]; exact e2
  · rw [hM 7 (by omega), if_pos rfl]
  · rw [ordL_b eO, if_pos rfl]
  · rw [ordL_b eO, if_neg (by omega), hM y (by omega), if_neg (by omega), if_neg (by omega)]
    exact hr.1 y hy
  · rw [ordL_s eO j p (by omega), hP j p hp]
    by_cases c : j = i ∧ p = 7
    · rw [if_pos c, if_pos c]
    · rw [if_neg c, if_neg c, if_neg (by omega)]
      exact hr.2 j hj p hp
  · dsimp only
    rw [hM (8 + k) (by omega), if_neg (by omega)]
    by_cases c : k = w
    · subst c
      rw [if_pos rfl, if_pos rfl, if_pos rfl, hP i 7 (by omega), if_pos ⟨rfl, rfl⟩, ordL_s eO i 10 (by omega), if_neg (by omega), if_pos ⟨rfl, rfl⟩]
      exact ⟨rfl, hi, rfl, rfl⟩
    · obtain ⟨k1, k2, k3, k4⟩ := q1 k (by omega)
      have hne : q k ≠ i := fun z => by rw [z, h2] at k3; exact absurd k3 (by decide)
      rw [if_neg (by omega), if_neg c, if_neg c, hP (q k) 7 (by omega), if_neg (by omega), ordL_s eO (q k) 10 (by omega), if_neg (by omega), if_neg (by omega)]
      exact ⟨k1, k2, k3, k4⟩
  · dsimp only
    by_cases c : k = w
    · rw [if_pos c]; omega
    · rw [if_neg c]
      have := q2 k (by omega)
      omega
  · dsimp only
    rw [if_neg (show j ≠ w by omega)]
    by_cases c : k = w
    · rw [if_pos c]
      have := (q2 j (by omega)).2
      omega
    · rw [if_neg c]
      exact q3 j k hjk (by omega)
  · rw [hP j 7 (by omega)] at h3
    by_cases c : j = i
    · exact ⟨w, by omega, by dsimp only; rw [if_pos rfl]; exact c.symm⟩
    · rw [if_neg (by omega)] at h3
      obtain ⟨k, hk, e⟩ := q4 j hj h3
      exact ⟨k, by omega, by dsimp only; rw [if_neg (by omega)]; exact e⟩
  · rw [hP j 4 (by omega), if_neg (by omega), hP j 5 (by omega), if_neg (by omega), hP j 3 (by omega), if_neg (by omega), hP j 7 (by omega)]
    obtain ⟨v4, v5, v3, v7⟩ := hv j hj
    refine ⟨v4, v5, v3, ?_⟩
    split
    · exact ⟨3, by omega, rfl⟩
    · exact v7
/-! asking -/
theorem setL_M {I J : Mi} {b n : Nat} (hr : LRow I b J n) (x : Int32) : setL I b n x = setM J n x := by
  rw [setL_un, setM_un]
  exact un_congr (fun i hi => by rw [hr.2 i hi 7 (by omega)])
theorem sh_0 : ∀ k, k < 32 → (0 : Int32) <<< (nI k &&& 31) = 0 := by decide +kernel
theorem rdsL_M {I J : Mi} {b n : Nat} (hn : n ≤ 8) (hr : LRow I b J n) {i : Nat} (hi : i < 8) : rdsL I b n (nI i) = rdsM J n (nI i) := by
  rw [rdsM_un]
  unfold rdsL un
  refine lp_congr (fun k hk s => ?_) 0
  dsimp only
  have e : rdM J k (nI i) = bt (sL I b k 6) i := by rw [rdM_bt _ _ (by omega), hr.2 k hk 6 (by omega)]
  rw [and1, bt_shr _ (by omega) (by omega), Nat.zero_add]
  cases c : bt (sL I b k 6) i
  · rw [if_neg (show ¬ (false = true) by decide), if_neg (show ¬ rdM J k (nI i) = true by rw [e, c]; decide), sh_0 k (by omega)]
  · rw [if_pos (show true = true from rfl), if_pos (show rdM J k (nI i) = true by rw [e, c])]
    rfl
theorem LG_ask {I J : Mi} {b n w O : Nat} (h : LG I b J n w O) (hO : O < 1000000000) : ∃ w2 O2, O2 ≤ O + n ∧ LG (akL I b n) b (akM J n) n w2 O2 := by
  have n5 := h.1.1
  have e1 : I b 1 = J 128 1 := h.2.1.1 1 (by omega)
  unfold akL akM
  by_cases c : J 128 1 = 1
  · rw [if_pos (by rw [e1]; exact c), if_pos c]
    have key : ∃ w2 O2, O2 ≤ O + n ∧ LG (lp (akB b n (setL I b n 0)) n I) b (lp (ak1 n) n J) n w2 O2 ∧ setM (lp (ak1 n) n J) n 0 = setL I b n 0 := by
      refine lp_ind2 (fun (k : Nat) (X Y : Mi) => ∃ w2 O2, O2 ≤ O + k ∧ LG X b Y n w2 O2 ∧ setM Y n 0 = setL I b n 0) ⟨w, O, Nat.le_refl _, h, (setL_M h.2.1 0).symm⟩ (fun k X Y hk ih => ?_)
      obtain ⟨w2, O2, o1, g, hs⟩ := ih
      have e7 : sL X b k 7 = pt Y k 7 := g.2.1.2 k hk 7 (by omega)
      have e7w : Y 128 7 = nI w2 := g.1.2.2.2.1
      unfold akB ak1 arM
      rw [e7, rdsL_M (by omega) g.2.1 (show k < 8 by omega), hs, e7w, ix_nI (by have := g.1.2.1; omega)]
      by_cases c2 : pt Y k 7 = 2
      · rw [if_pos c2, if_pos (decide_eq_true c2)]
        by_cases c3 : rdsM Y n (nI k) &&& setL I b n 0 = 0
        · rw [if_pos c3, if_pos c3]
          exact ⟨w2, O2, by omega, g, hs⟩
        · rw [if_neg c3, if_neg c3]
          obtain ⟨w5, g2⟩ := LG_ord g (by omega) hk c2
          refine ⟨w2 + 1, O2 + 1, by omega, g2, ?_⟩
          rw [← hs, setM_un, setM_un]
          refine un_congr (fun i hi => ?_)
          rw [wtM_pt Y k (by omega) i 7 (by omega)]
          by_cases c4 : i = k
          · rw [if_pos ⟨c4, rfl⟩, c4, c2]
            decide
          · rw [if_neg (by omega)]
      · rw [if_neg c2, if_neg (show ¬ decide (pt Y k 7 = 2) = true by simpa using c2)]
        exact ⟨w2, O2, by omega, g, hs⟩
    obtain ⟨w2, O2, o1, g, -⟩ := key
    exact ⟨w2, O2, o1, g⟩
  · rw [if_neg (by rw [e1]; exact c), if_neg c]
    exact ⟨w, O, by omega, h⟩
