/-! beginning to rise: the law looks for the next order, the reference goes through its row -/
theorem loadL_M {I J : Mi} {b n : Nat} (hr : LRow I b J n) : loadL I b n = rlM J n := by
  unfold loadL
  rw [rlM_sm]
  exact lp_congr (fun i hi s => by rw [hr.2 i hi 7 (by omega), hr.2 i hi 3 (by omega)]) 0
theorem rlM_0 {J : Mi} {n : Nat} (hn : n ≤ 5) (hv : LVal J n) : rlM J n ≤ 0 ↔ rlM J n = 0 := by
  rw [rlM_sm]
  obtain ⟨t, t1, t2⟩ := sm_nIn (f := fun i => if pt J i 7 = 4 then pt J i 3 else 0) (n := n) (fun k hk => by
    by_cases c : pt J k 7 = 4
    · simp only [if_pos c]; exact (hv k hk).2.2.1
    · simp only [if_neg c]; exact ⟨0, by omega, rfl⟩)
  rw [t2]
  by_cases c : t = 0
  · subst c; exact ⟨fun _ => rfl, fun _ => by decide⟩
  · exact ⟨fun z => absurd z (nI_nle (by omega) (by omega)), fun z => absurd z (nI_ne0 (by omega) (by omega))⟩
/-- the next order behind last -/
theorem nxR_is {J : Mi} {b n m : Nat} {last : Int32} (hm : m < n) (h3 : sL J b m 7 = 3) (hl : ¬ sL J b m 10 ≤ last) (hu : ∀ i, i < n → i ≠ m → sL J b i 7 = 3 → sL J b i 10 ≤ last ∨ (sL J b m 10 ≤ sL J b i 10 ∧ ¬ sL J b i 10 ≤ sL J b m 10)) : nxR J b n last = some m := by
  have key : ∀ k, k ≤ n → (m < k → nxR J b k last = some m) ∧ (k ≤ m → nxR J b k last = none ∨ ∃ j, nxR J b k last = some j ∧ ¬ sL J b j 10 ≤ sL J b m 10) := by
    intro k
    induction k with
    | zero => exact fun _ => ⟨fun h => absurd h (Nat.not_lt_zero m), fun _ => Or.inl rfl⟩
    | succ k ih =>
      intro hk
      obtain ⟨g1, g2⟩ := ih (by omega)
      refine ⟨fun h => ?_, fun h => ?_⟩
      · by_cases c : m = k
        · subst c
          rcases g2 (Nat.le_refl _) with z | ⟨j, z1, z2⟩
          · exact nxR_none h3 hl z
          · exact nxR_new h3 hl z1 z2
        · have g := g1 (by omega)
          by_cases c3 : sL J b k 7 = 3
          · by_cases cl : sL J b k 10 ≤ last
            · rw [nxR_le cl]; exact g
            · rcases hu k (by omega) (fun z => c z.symm) c3 with z | z
              · exact absurd z cl
              · rw [nxR_old c3 cl g z.1]; exact g
          · rw [nxR_skip c3]; exact g
      · have g := g2 (by omega)
        by_cases c3 : sL J b k 7 = 3
        · by_cases cl : sL J b k 10 ≤ last
          · rw [nxR_le cl]; exact g
          · have hku : ¬ sL J b k 10 ≤ sL J b m 10 := by
              rcases hu k (by omega) (by omega) c3 with z | z
              · exact absurd z cl
              · exact z.2
            rcases g with z | ⟨j, z1, z2⟩
            · exact Or.inr ⟨k, nxR_none c3 cl z, hku⟩
            · by_cases cj : sL J b j 10 ≤ sL J b k 10
              · rw [nxR_old c3 cl z1 cj]; exact Or.inr ⟨j, z1, z2⟩
              · exact Or.inr ⟨k, nxR_new c3 cl z1 cj, hku⟩
        · rw [nxR_skip c3]; exact g
  exact (key n (Nat.le_refl _)).1 hm
theorem nxR_no {J : Mi} {b : Nat} {last : Int32} : ∀ n, (∀ i, i < n → sL J b i 7 = 3 → sL J b i 10 ≤ last) → nxR J b n last = none
  | 0, _ => rfl
  | n + 1, h => by
    have ih := nxR_no (J := J) (b := b) (last := last) n (fun i hi => h i (by omega))
    by_cases c3 : sL J b n 7 = 3
    · rw [nxR_le (h n (by omega) c3)]; exact ih
    · rw [nxR_skip c3]; exact ih
/-- midway: l orders are left, those from k on are still to come; t the last order looked at -/
def BL (X : Mi) (b : Nat) (Y : Mi) (n w O k l t : Nat) : Prop := (n ≤ 5 ∧ w ≤ 8 ∧ k ≤ w ∧ l ≤ k ∧ t ≤ O ∧ Y 128 2 = nI n ∧ X b 7 = nI O) ∧ LRow X b Y n ∧ LVal Y n ∧ ∃ q o : Nat → Nat, (∀ x, (x < l ∨ (k ≤ x ∧ x < w)) → Y 128 (8 + x) = nI (q x) ∧ q x < n ∧ pt Y (q x) 7 = 3 ∧ sL X b (q x) 10 = nI (o x)) ∧ (∀ x, (x < l ∨ (k ≤ x ∧ x < w)) → 0 < o x ∧ o x ≤ O) ∧ (∀ x y, x < y → (x < l ∨ (k ≤ x ∧ x < w)) → (y < l ∨ (k ≤ y ∧ y < w)) → o x < o y) ∧ (∀ i, i < n → pt Y i 7 = 3 → ∃ x, (x < l ∨ (k ≤ x ∧ x < w)) ∧ q x = i) ∧ (∀ x, x < l → o x ≤ t) ∧ ∀ x, k ≤ x → x < w → t < o x
theorem BL.inj {X Y : Mi} {b n w O k l : Nat} {q o : Nat → Nat} (hO : O < 1000000000) (q1 : ∀ x, (x < l ∨ (k ≤ x ∧ x < w)) → Y 128 (8 + x) = nI (q x) ∧ q x < n ∧ pt Y (q x) 7 = 3 ∧ sL X b (q x) 10 = nI (o x)) (q2 : ∀ x, (x < l ∨ (k ≤ x ∧ x < w)) → 0 < o x ∧ o x ≤ O) (q3 : ∀ x y, x < y → (x < l ∨ (k ≤ x ∧ x < w)) → (y < l ∨ (k ≤ y ∧ y < w)) → o x < o y) : ∀ x y, (x < l ∨ (k ≤ x ∧ x < w)) → (y < l ∨ (k ≤ y ∧ y < w)) → q x = q y → x = y := by
  intro x y hx hy e
  have e1 := (q1 x hx).2.2.2
  have e2 := (q1 y hy).2.2.2
  rw [e, e2] at e1
  have e3 : o y = o x := (nI_eq (by have := (q2 y hy).2; omega) (by have := (q2 x hx).2; omega)).mp e1
  rcases Nat.lt_trichotomy x y with c | c | c
  · have := q3 x y c hx hy; omega
  · exact c
  · have := q3 y x c hy hx; omega
theorem BL_nx {X Y : Mi} {b n w O k l t : Nat} (hO : O < 1000000000) (h : BL X b Y n w O k l t) : (k = w → nxR X b n (nI t) = none) ∧ (k < w → ∃ m tt, m < n ∧ t < tt ∧ tt ≤ O ∧ Y 128 (8 + k) = nI m ∧ pt Y m 7 = 3 ∧ sL X b m 10 = nI tt ∧ nxR X b n (nI t) = some m) := by
  obtain ⟨⟨n5, w8, kw, lk, tO, e2, eO⟩, hr, hv, q, o, q1, q2, q3, q4, q5, q6⟩ := h
  refine ⟨fun hk => nxR_no n (fun i hi h3 => ?_), fun hk => ?_⟩
  · obtain ⟨x, hx, e⟩ := q4 i hi (by rw [← hr.2 i hi 7 (by omega)]; exact h3)
    have := (q1 x hx).2.2.2
    rw [e] at this
    rw [this]
    exact nI_le (q5 x (by omega)) (by omega)
  · have hD : k < l ∨ (k ≤ k ∧ k < w) := Or.inr ⟨Nat.le_refl _, hk⟩
    obtain ⟨k1, k2, k3, k4⟩ := q1 k hD
    have o1 := q2 k hD
    have o2 := q6 k (Nat.le_refl _) hk
    refine ⟨q k, o k, k2, o2, o1.2, k1, k3, k4, nxR_is k2 ((hr.2 _ k2 7 (by omega)).trans k3) (by rw [k4]; exact nI_ge o2 (by omega)) (fun i hi hne h3 => ?_)⟩
    obtain ⟨x, hx, e⟩ := q4 i hi (by rw [← hr.2 i hi 7 (by omega)]; exact h3)
    have e4 := (q1 x hx).2.2.2
    rw [e] at e4
    have ox := q2 x hx
    rw [e4, k4]
    by_cases c : x < l
    · exact Or.inl (nI_le (q5 x c) (by omega))
    · have hxk : x ≠ k := fun z => hne (by rw [← e, z])
      have hlt := q3 k x (by omega) hD hx
      exact Or.inr ⟨nI_le (by omega) (by omega), nI_ge hlt (by omega)⟩
theorem rsL_s (X : Mi) (b m i p : Nat) (hp : p < 12) : sL (rsL X b m) b i p = if i = m ∧ p = 8 then sL X b m 2 else if i = m ∧ p = 7 then 4 else sL X b i p := by
  unfold rsL
  rw [us1 _ _ _ _ _ _ _ (by omega) hp, us1 _ _ _ _ _ _ _ (by omega) hp, us1 _ _ _ _ _ _ _ (by omega) (by omega), if_neg (show ¬ (m = m ∧ 2 = 7) by omega)]
theorem rsL_b (X : Mi) (b m y : Nat) : rsL X b m b y = X b y := by
  unfold rsL
  rw [us3, us3]
theorem lrA_p (Y : Mi) (l m i p : Nat) (hp : p < 10) : pt (lrA m (Y, l)).1 i p = if i = m ∧ p = 8 then pt Y m 2 else if i = m ∧ p = 7 then 4 else pt Y i p := by
  unfold lrA
  dsimp only
  rw [gp1 _ _ _ _ _ _ (by omega) hp, gp1 _ _ _ _ _ _ (by omega) hp, gp1 _ _ _ _ _ _ (by omega) (by omega), if_neg (show ¬ (m = m ∧ 2 = 7) by omega)]
theorem lrA_lo (Y : Mi) (l m y : Nat) (hy : y < 16) : (lrA m (Y, l)).1 128 y = Y 128 y := by
  unfold lrA
  dsimp only
  rw [sp_lo hy, sp_lo hy]
theorem BL_step {X Y : Mi} {b n w O k l t : Nat} (hO : O < 1000000000) (hk : k < w) (h : BL X b Y n w O k l t) : ∃ m tt, nxR X b n (nI t) = some m ∧ sL X b m 10 = nI tt ∧ BL (brX X b n m) b (lrB n k (Y, l)).1 n w O (k + 1) (lrB n k (Y, l)).2 tt := by
  obtain ⟨m, tt, hm, htt, htO, y8, s3, s10, hnx⟩ := (BL_nx hO h).2 hk
  refine ⟨m, tt, hnx, s10, ?_⟩
  obtain ⟨⟨n5, w8, kw, lk, tO, e2, eO⟩, hr, hv, q, o, q1, q2, q3, q4, q5, q6⟩ := h
  have hinj := BL.inj (X := X) hO q1 q2 q3
  have hD : k < l ∨ (k ≤ k ∧ k < w) := Or.inr ⟨Nat.le_refl _, hk⟩
  obtain ⟨k1, k2, k3, k4⟩ := q1 k hD
  have hqm : q k = m := (nI_eq (by omega) (by omega)).mp (k1.symm.trans y8)
  subst hqm
  have hot : o k = tt := (nI_eq (by have := (q2 k hD).2; omega) (by omega)).mp (k4.symm.trans s10)
  subst hot
  rw [brX, lrB_e, y8, ix_nI (by omega), loadL_M hr, hr.2 (q k) k2 3 (by omega), hr.1 0 (by omega)]
  have take : BL (rsL X b (q k)) b (lrA (q k) (Y, l)).1 n w O (k + 1) (lrA (q k) (Y, l)).2 (o k) := by
    refine ⟨⟨n5, w8, hk, by show l ≤ k + 1; omega, htO, (lrA_lo Y l _ 2 (by omega)).trans e2, (rsL_b X b _ 7).trans eO⟩, ⟨fun y hy => by rw [rsL_b, lrA_lo Y l _ y (by omega)]; exact hr.1 y hy, fun i hi p hp => by rw [rsL_s X b _ i p (by omega), lrA_p Y l _ i p hp, hr.2 i hi p hp, hr.2 _ k2 2 (by omega)]⟩, fun i hi => ?_, q, o, fun x hx => ?_, fun x hx => q2 x ?_, fun x y hxy hx hy => q3 x y hxy ?_ ?_, fun i hi h3 => ?_, fun x hx => ?_, fun x h1 h2 => q3 k x (by omega) hD (Or.inr ⟨by omega, h2⟩)⟩
    · rw [lrA_p Y l _ i 4 (by omega), lrA_p Y l _ i 5 (by omega), lrA_p Y l _ i 3 (by omega), lrA_p Y l _ i 7 (by omega), if_neg (by omega), if_neg (by omega), if_neg (by omega), if_neg (by omega), if_neg (by omega), if_neg (by omega), if_neg (show ¬ (i = q k ∧ 7 = 8) by omega)]
      obtain ⟨v4, v5, v3, v7⟩ := hv i hi
      refine ⟨v4, v5, v3, ?_⟩
      split
      · exact ⟨4, by omega, rfl⟩
      · exact v7
    · have hx : x < l ∨ (k + 1 ≤ x ∧ x < w) := hx
      have hx' : x < l ∨ (k ≤ x ∧ x < w) := by omega
      obtain ⟨a1, a2, a3, a4⟩ := q1 x hx'
      have hne : q x ≠ q k := fun z => by have := hinj x k hx' hD z; omega
      rw [lrA_lo Y l _ _ (by omega), lrA_p Y l _ _ 7 (by omega), if_neg (by omega), if_neg (by omega), rsL_s X b _ _ 10 (by omega), if_neg (by omega), if_neg (by omega)]
      exact ⟨a1, a2, a3, a4⟩
    · have hx : x < l ∨ (k + 1 ≤ x ∧ x < w) := hx
      omega
    · have hx : x < l ∨ (k + 1 ≤ x ∧ x < w) := hx
      omega
    · have hy : y < l ∨ (k + 1 ≤ y ∧ y < w) := hy
      omega
    · rw [lrA_p Y l _ i 7 (by omega), if_neg (by omega)] at h3
      by_cases c : i = q k
      · rw [if_pos ⟨c, rfl⟩] at h3
        exact absurd h3 (by decide)
      · rw [if_neg (by omega)] at h3
        obtain ⟨x, hx, e⟩ := q4 i hi h3
        have : x ≠ k := fun z => c (by rw [← e, z])
        refine ⟨x, ?_, e⟩
        show x < l ∨ (k + 1 ≤ x ∧ x < w)
        omega
    · have := q5 x hx
      omega
  by_cases c1 : rlM Y n = 0
  · rw [if_pos ((rlM_0 n5 hv).mpr c1), if_pos c1]
    exact take
  · rw [if_neg (fun z => c1 ((rlM_0 n5 hv).mp z)), if_neg c1]
    by_cases c2 : Y 128 0 < rlM Y n + pt Y (q k) 3
    · rw [if_neg (Int32.not_le.mpr c2), if_pos c2]
      have hu : ∀ i p, p < 10 → pt (up Y 128 (8 + l) (nI (q k))) i p = pt Y i p := fun i p hp => um4 Y i p l _ (by omega)
      have hu2 : ∀ y, y < 8 → up Y 128 (8 + l) (nI (q k)) 128 y = Y 128 y := fun y hy => um6 Y l y _ hy
      refine ⟨⟨n5, w8, hk, by show l + 1 ≤ k + 1; omega, htO, (hu2 2 (by omega)).trans e2, eO⟩, ⟨fun y hy => (hr.1 y hy).trans (hu2 y (by omega)).symm, fun i hi p hp => (hr.2 i hi p hp).trans (hu i p hp).symm⟩, fun i hi => ?_, fun x => if x = l then q k else q x, fun x => if x = l then o k else o x, fun x hx => ?_, fun x hx => ?_, fun x y hxy hx hy => ?_, fun i hi h3 => ?_, fun x hx => ?_, fun x h1 h2 => ?_⟩
      · show (∃ v, v < 256 ∧ pt (up Y 128 (8 + l) (nI (q k))) i 4 = nI v) ∧ (∃ v, v < 256 ∧ pt (up Y 128 (8 + l) (nI (q k))) i 5 = nI v) ∧ (∃ v, v < 256 ∧ pt (up Y 128 (8 + l) (nI (q k))) i 3 = nI v) ∧ ∃ v, v < 5 ∧ pt (up Y 128 (8 + l) (nI (q k))) i 7 = nI v
        rw [hu i 4 (by omega), hu i 5 (by omega), hu i 3 (by omega), hu i 7 (by omega)]
        exact hv i hi
      · have hx : x < l + 1 ∨ (k + 1 ≤ x ∧ x < w) := hx
        show up Y 128 (8 + l) (nI (q k)) 128 (8 + x) = nI (if x = l then q k else q x) ∧ (if x = l then q k else q x) < n ∧ pt (up Y 128 (8 + l) (nI (q k))) (if x = l then q k else q x) 7 = 3 ∧ sL X b (if x = l then q k else q x) 10 = nI (if x = l then o k else o x)
        rw [um5, hu _ 7 (by omega)]
        by_cases c : x = l
        · rw [if_pos c, if_pos c, if_pos c]
          exact ⟨rfl, k2, k3, k4⟩
        · rw [if_neg c, if_neg c, if_neg c]
          exact q1 x (by omega)
      · have hx : x < l + 1 ∨ (k + 1 ≤ x ∧ x < w) := hx
        dsimp only
        by_cases c : x = l
        · rw [if_pos c]; exact q2 k hD
        · rw [if_neg c]; exact q2 x (by omega)
      · have hx : x < l + 1 ∨ (k + 1 ≤ x ∧ x < w) := hx
        have hy : y < l + 1 ∨ (k + 1 ≤ y ∧ y < w) := hy
        dsimp only
        by_cases cx : x = l
        · rw [if_pos cx, if_neg (by omega)]
          exact q3 k y (by omega) hD (by omega)
        · rw [if_neg cx]
          by_cases cy : y = l
          · rw [if_pos cy]
            have g1 := q5 x (by omega)
            have g2 := q6 k (Nat.le_refl _) hk
            omega
          · rw [if_neg cy]
            exact q3 x y hxy (by omega) (by omega)
      · have h3 : pt (up Y 128 (8 + l) (nI (q k))) i 7 = 3 := h3
        rw [hu i 7 (by omega)] at h3
        obtain ⟨x, hx, e⟩ := q4 i hi h3
        by_cases c : x = k
        · refine ⟨l, ?_, ?_⟩
          · show l < l + 1 ∨ (k + 1 ≤ l ∧ l < w)
            omega
          · dsimp only; rw [if_pos rfl, ← c]; exact e
        · refine ⟨x, ?_, ?_⟩
          · show x < l + 1 ∨ (k + 1 ≤ x ∧ x < w)
            omega
          · dsimp only; rw [if_neg (by omega)]; exact e
      · have hx : x < l + 1 := hx
        dsimp only
        by_cases c : x = l
        · rw [if_pos c]; exact Nat.le_refl _
        · rw [if_neg c]
          have g1 := q5 x (by omega)
          omega
      · dsimp only
        rw [if_neg (by omega)]
        exact q3 k x (by omega) hD (Or.inr ⟨by omega, h2⟩)
    · rw [if_pos (Int32.not_lt.mp c2), if_neg c2]
      exact take
theorem BL_go {J : Mi} {b n w O : Nat} (hO : O < 1000000000) : ∀ (r k f t : Nat) (X : Mi), k + r = w → r < f → BL X b (lrI n k J).1 n w O k (lrI n k J).2 t → brO b n f X (nI t) ∧ ∃ t2, BL (brL b n f X (nI t)) b (lrI n w J).1 n w O w (lrI n w J).2 t2 := by
  intro r
  induction r with
  | zero =>
    intro k f t X hk hf h
    obtain rfl : k = w := by omega
    obtain ⟨f, rfl⟩ : ∃ g, f = g + 1 := ⟨f - 1, by omega⟩
    have hn := (BL_nx hO h).1 rfl
    refine ⟨?_, t, ?_⟩
    · rw [brO, hn]; trivial
    · rw [brL_none hn]; exact h
  | succ r ih =>
    intro k f t X hk hf h
    obtain ⟨f, rfl⟩ : ∃ g, f = g + 1 := ⟨f - 1, by omega⟩
    obtain ⟨m, tt, h1, h2, h3⟩ := BL_step hO (show k < w by omega) h
    have h3 : BL (brX X b n m) b (lrI n (k + 1) J).1 n w O (k + 1) (lrI n (k + 1) J).2 tt := by
      rw [lrI_s]
      exact h3
    rw [brO_some h1, brL_some h1, h2]
    exact ih (k + 1) f tt _ (by omega) (by omega) h3
theorem LG_beg {I J : Mi} {b n w O : Nat} (h : LG I b J n w O) (hO : O < 1000000000) : brO b n 6 I 0 ∧ ∃ w2, LG (brL b n 6 I 0) b (letM J n w) n w2 O := by
  have hw : w ≤ 5 := by
    have h1 := h.2.2.1.wn (by omega)
    have h2 := h.1.1
    omega
  obtain ⟨⟨n5, w8, e2, e7, eO⟩, hr, ⟨q, o, q1, q2, q3, q4⟩, hv⟩ := h
  have h0 : BL I b (lrI n 0 J).1 n w O 0 (lrI n 0 J).2 0 := by
    refine ⟨⟨n5, w8, Nat.zero_le _, Nat.le_refl _, Nat.zero_le _, e2, eO⟩, hr, hv, q, o, fun x hx => q1 x ?_, fun x hx => q2 x ?_, fun x y hxy hx hy => q3 x y hxy ?_, fun i hi h3 => ?_, fun x hx => absurd hx (Nat.not_lt_zero x), fun x _ hx => (q2 x hx).1⟩
    · have hx : x < 0 ∨ (0 ≤ x ∧ x < w) := hx
      omega
    · have hx : x < 0 ∨ (0 ≤ x ∧ x < w) := hx
      omega
    · have hy : y < 0 ∨ (0 ≤ y ∧ y < w) := hy
      omega
    · obtain ⟨k, hk, e⟩ := q4 i hi h3
      exact ⟨k, Or.inr ⟨Nat.zero_le _, hk⟩, e⟩
  obtain ⟨g1, t2, g2⟩ := BL_go hO w 0 6 0 I (by omega) (by omega) h0
  have g1 : brO b n 6 I 0 := g1
  refine ⟨g1, (lrI n w J).2, ?_⟩
  have g2 : BL (brL b n 6 I 0) b (lrI n w J).1 n w O w (lrI n w J).2 t2 := g2
  unfold letM
  generalize lrI n w J = p at g2 ⊢
  obtain ⟨Y, l⟩ := p
  generalize brL b n 6 I 0 = X at g2 ⊢
  dsimp only at g2 ⊢
  obtain ⟨⟨-, -, kw, lk, tO, f2, fO⟩, fr, fv, q, o, q1, q2, q3, q4, q5, q6⟩ := g2
  have hu : ∀ i p, p < 10 → pt (up Y 128 7 (nI l)) i p = pt Y i p := fun i p hp => um7 Y i p 7 _ (by omega)
  have hu2 : ∀ y, y < 7 → up Y 128 7 (nI l) 128 y = Y 128 y := fun y hy => by rw [uc4, if_neg (by omega)]
  refine ⟨⟨n5, by omega, (hu2 2 (by omega)).trans f2, by rw [uc4, if_pos rfl], fO⟩, ⟨fun y hy => (fr.1 y hy).trans (hu2 y hy).symm, fun i hi p hp => (fr.2 i hi p hp).trans (hu i p hp).symm⟩, ⟨q, o, fun k hk => ?_, fun k hk => q2 k (Or.inl hk), fun j k hjk hk => q3 j k hjk (Or.inl (by omega)) (Or.inl hk), fun i hi h3 => ?_⟩, fun i hi => ?_⟩
  · obtain ⟨a1, a2, a3, a4⟩ := q1 k (Or.inl hk)
    exact ⟨(um8 Y k 7 _ (by omega)).trans a1, a2, (hu _ 7 (by omega)).trans a3, a4⟩
  · rw [hu i 7 (by omega)] at h3
    obtain ⟨x, hx, e⟩ := q4 i hi h3
    exact ⟨x, by omega, e⟩
  · rw [hu i 4 (by omega), hu i 5 (by omega), hu i 3 (by omega), hu i 7 (by omega)]
    exact fv i hi
/-- a whole tick, and many -/
theorem LG_end {I J : Mi} {b n w O : Nat} (h : LG I b J n w O) : LG (enL I b n) b (up (up J 128 3 (J 128 3 + 1)) 128 6 (if rlM (up J 128 3 (J 128 3 + 1)) n ≤ up J 128 3 (J 128 3 + 1) 128 6 then up J 128 3 (J 128 3 + 1) 128 6 else rlM (up J 128 3 (J 128 3 + 1)) n)) n w O := by
  have put : ∀ {X Y : Mi} (y : Nat) (v : Int32), y = 3 ∨ y = 6 → LG X b Y n w O → LG (up X b y v) b (up Y 128 y v) n w O := fun {X Y} y v hy g => by
    obtain ⟨⟨n5, w8, e2, e7, eO⟩, hr, ⟨q, o, q1, q2, q3, q4⟩, hv⟩ := g
    have hu : ∀ i p, p < 10 → pt (up Y 128 y v) i p = pt Y i p := fun i p hp => um7 Y i p y _ (by omega)
    refine ⟨⟨n5, w8, by rw [uc4, if_neg (by omega)]; exact e2, by rw [uc4, if_neg (by omega)]; exact e7, by rw [us4, if_neg (by omega)]; exact eO⟩, ⟨fun z hz => by rw [us4, uc4, hr.1 z hz], fun i hi p hp => by rw [us2, hu i p hp]; exact hr.2 i hi p hp⟩, ⟨q, o, fun k hk => ?_, q2, q3, fun i hi h3 => q4 i hi (by rw [← hu i 7 (by omega)]; exact h3)⟩, fun i hi => ?_⟩
    · obtain ⟨a1, a2, a3, a4⟩ := q1 k hk
      exact ⟨by rw [uc4, if_neg (by omega)]; exact a1, a2, (hu _ 7 (by omega)).trans a3, by rw [us2]; exact a4⟩
    · rw [hu i 4 (by omega), hu i 5 (by omega), hu i 3 (by omega), hu i 7 (by omega)]
      exact hv i hi
  have h1 := put 3 (J 128 3 + 1) (Or.inl rfl) h
  unfold enL
  dsimp only
  rw [h.2.1.1 3 (by omega)]
  rw [loadL_M h1.2.1, h1.2.1.1 6 (by omega)]
  exact put 6 _ (Or.inr rfl) h1
theorem LG_tick {I J : Mi} {b n w O : Nat} (hb : LB b) (h : LG I b J n w O) (hO : O < 900000000) : TKO I b n ∧ ∃ w2 O2, O2 ≤ O + n ∧ LG (tkL I b n) b (tkM J) n w2 O2 := by
  have e2 : J 128 2 = nI n := h.1.2.2.1
  have n5 := h.1.1
  obtain ⟨w2, O2, o1, g2⟩ := LG_ask (LG_x2 hb h) (by omega)
  have g2 : LG (x3L I b n) b (preM J n) n w2 O2 := g2
  obtain ⟨g3, w3, g4⟩ := LG_beg g2 (by omega)
  refine ⟨⟨h.law2, g3⟩, w3, O2, o1, ?_⟩
  have e7 : ix (preM J n 128 7) = w2 := by rw [g2.1.2.2.2.1]; exact ix_nI (by have := g2.1.2.1; omega)
  unfold tkL tkM
  dsimp only
  rw [e2, ix_nI (by omega), e7]
  exact LG_end g4
theorem LG_pass {I J : Mi} {b n w O : Nat} (hb : LB b) (h : LG I b J n w O) : ∀ t, O + n * t < 900000000 → (∃ w2 O2, O2 ≤ O + n * t ∧ LG (psL I b n t) b (psM J t) n w2 O2) ∧ ∀ k, k < t → TKO (psL I b n k) b n
  | 0, _ => ⟨⟨w, O, by omega, h⟩, fun k hk => absurd hk (Nat.not_lt_zero k)⟩
  | t + 1, ht => by
    rw [Nat.mul_succ] at ht ⊢
    obtain ⟨⟨w2, O2, o2, h2⟩, h3⟩ := LG_pass hb h t (by omega)
    obtain ⟨g1, w3, O3, o3, g2⟩ := LG_tick hb h2 (by omega)
    refine ⟨⟨w3, O3, by omega, g2⟩, fun k hk => ?_⟩
    rcases Nat.lt_or_ge k t with c | c
    · exact h3 k c
    · rw [show k = t by omega]; exact g1
