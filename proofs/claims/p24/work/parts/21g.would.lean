/-! what some ticks would bring: both sides' answers -/
theorem low31 (x : Int32) : ∃ u, u < 2147483648 ∧ x &&& 2147483647 = nI u := by
  have h : (x &&& 2147483647).toBitVec.toNat ≤ 2147483647 := by
    rw [Int32.toBitVec_and, BitVec.toNat_and]
    exact Nat.and_le_right
  refine ⟨(x &&& 2147483647).toBitVec.toNat, by omega, ?_⟩
  apply Int32.toInt_inj.mp
  rw [nI_toInt (by omega)]
  exact BitVec.toInt_eq_toNat_of_lt (by omega)
theorem lowE_n (x : Int32) {m : Nat} (h0 : 0 < m) (hm : m < 2147483648) : ∃ r, r < m ∧ lowE x (nI m) = nI r := by
  obtain ⟨u, hu, e⟩ := low31 x
  refine ⟨u % m, Nat.mod_lt _ h0, ?_⟩
  unfold lowE
  rw [e]
  exact pk_rem hu h0 hm
/-- only the class's trial chip and the law's second rows differ -/
def KE (X I : Mi) : Prop := ∀ x, (x ≤ 11 ∨ (23 ≤ x ∧ x ≤ 128)) → X x = I x
theorem KE.rfl' {I : Mi} : KE I I := fun _ _ => rfl
theorem KE.trans {X Y I : Mi} (h : KE X Y) (h2 : KE Y I) : KE X I := fun x hx => (h x hx).trans (h2 x hx)
theorem KE_LK {X I : Mi} (h : LK X I) : KE X I := fun x hx => h x (by omega)
theorem REL.ke {X I J : Mi} {n w O : Nat} (h : REL I J n w O) (hk : KE X I) : REL X J n w O :=
  ⟨RR_obs (CE.same (fun x x1 x2 => hk x (by omega))) (fun _ _ => rfl) h.1, h.2.same (fun y _ => by rw [hk 127 (by omega)]) (fun y _ => by rw [hk 128 (by omega)]) (fun _ _ => rfl)⟩
theorem cpyL_KE (I : Mi) : KE (cpyL I) I := fun x hx => (cpyL_at I).2.2 x (by omega) (by omega)
theorem LG_cpy {I J : Mi} {n w O : Nat} (h : LG I 127 J n w O) : LG (cpyL I) 129 J n w O := by
  obtain ⟨h1, h2, -⟩ := cpyL_at I
  obtain ⟨⟨n5, w8, e2, e7, eO⟩, ⟨r1, r2⟩, ⟨q, o, q1, q2, q3, q4⟩, v⟩ := h
  have es : ∀ i, i < n → ∀ p, p < 12 → sL (cpyL I) 129 i p = sL I 127 i p := fun i hi p hp => h2 _ (by omega)
  refine ⟨⟨n5, w8, e2, e7, (h1 7 (by omega)).trans eO⟩, ⟨fun y hy => (h1 y (by omega)).trans (r1 y hy), fun i hi p hp => (es i hi p (by omega)).trans (r2 i hi p hp)⟩, ⟨q, o, fun k hk => ?_, q2, q3, q4⟩, v⟩
  obtain ⟨a1, a2, a3, a4⟩ := q1 k hk
  exact ⟨a1, a2, a3, (es _ a2 10 (by omega)).trans a4⟩
theorem LG_put {X Y : Mi} {b n w O : Nat} {y : Nat} {v : Int32} (hy : y < 7) (h2 : y ≠ 2) (g : LG X b Y n w O) : LG (up X b y v) b (up Y 128 y v) n w O := by
  obtain ⟨⟨n5, w8, e2, e7, eO⟩, hr, ⟨q, o, q1, q2, q3, q4⟩, hv⟩ := g
  have hu : ∀ i p, p < 10 → pt (up Y 128 y v) i p = pt Y i p := fun i p hp => um7 Y i p y _ (by omega)
  refine ⟨⟨n5, w8, by rw [uc4, if_neg (by omega)]; exact e2, by rw [uc4, if_neg (by omega)]; exact e7, by rw [us4, if_neg (by omega)]; exact eO⟩, ⟨fun z hz => by rw [us4, uc4, hr.1 z hz], fun i hi p hp => by rw [us2, hu i p hp]; exact hr.2 i hi p hp⟩, ⟨q, o, fun k hk => ?_, q2, q3, fun i hi h3 => q4 i hi (by rw [← hu i 7 (by omega)]; exact h3)⟩, fun i hi => ?_⟩
  · obtain ⟨a1, a2, a3, a4⟩ := q1 k hk
    exact ⟨by rw [uc4, if_neg (by omega)]; exact a1, a2, (hu _ 7 (by omega)).trans a3, by rw [us2]; exact a4⟩
  · rw [hu i 4 (by omega), hu i 5 (by omega), hu i 3 (by omega), hu i 7 (by omega)]
    exact hv i hi
/-- one part of one island's row changes -/
theorem LG_part {X Y : Mi} {b n w O i p : Nat} {v : Int32} (hp : p < 10) (g : LG X b Y n w O) (hi : i < n) (h7 : p = 7 → v ≠ 3 ∧ pt Y i 7 ≠ 3) (hv : (p = 4 ∨ p = 5 ∨ p = 3 → ∃ z, z < 256 ∧ v = nI z) ∧ (p = 7 → ∃ z, z < 5 ∧ v = nI z)) : LG (up X (b + 1) (12 * i + p) v) b (sp Y i p v) n w O := by
  obtain ⟨⟨n5, w8, e2, e7, eO⟩, hr, ⟨q, o, q1, q2, q3, q4⟩, hV⟩ := g
  have hs : ∀ j z, z < 12 → sL (up X (b + 1) (12 * i + p) v) b j z = if j = i ∧ z = p then v else sL X b j z := fun j z hz => us1 X b i p j z v (by omega) hz
  have ht : ∀ j z, z < 10 → pt (sp Y i p v) j z = if j = i ∧ z = p then v else pt Y j z := fun j z hz => gp1 Y i p j z v hp hz
  refine ⟨⟨n5, w8, (sp_lo (by omega)).trans e2, (sp_lo (by omega)).trans e7, by rw [us3]; exact eO⟩, ⟨fun z hz => by rw [us3, sp_lo (by omega)]; exact hr.1 z hz, fun j hj z hz => by rw [hs j z (by omega), ht j z hz, hr.2 j hj z hz]⟩, ⟨q, o, fun k hk => ?_, q2, q3, fun j hj h3 => ?_⟩, fun j hj => ?_⟩
  · obtain ⟨a1, a2, a3, a4⟩ := q1 k hk
    refine ⟨(sp_lo (by omega)).trans a1, a2, ?_, by rw [hs _ 10 (by omega), if_neg (by omega)]; exact a4⟩
    rw [ht _ 7 (by omega)]
    by_cases c : q k = i ∧ 7 = p
    · exact absurd (by rw [← c.1]; exact a3) (h7 c.2.symm).2
    · rw [if_neg c]; exact a3
  · rw [ht j 7 (by omega)] at h3
    by_cases c : j = i ∧ 7 = p
    · rw [if_pos c] at h3; exact absurd h3 (h7 c.2.symm).1
    · rw [if_neg c] at h3; exact q4 j hj h3
  · obtain ⟨v4, v5, v3, v7⟩ := hV j hj
    rw [ht j 4 (by omega), ht j 5 (by omega), ht j 3 (by omega), ht j 7 (by omega)]
    refine ⟨?_, ?_, ?_, ?_⟩
    · split
      · rename_i c; exact hv.1 (Or.inl c.2.symm)
      · exact v4
    · split
      · rename_i c; exact hv.1 (Or.inr (Or.inl c.2.symm))
      · exact v5
    · split
      · rename_i c; exact hv.1 (Or.inr (Or.inr c.2.symm))
      · exact v3
    · split
      · rename_i c; exact hv.2 c.2.symm
      · exact v7
theorem ip0_LG {I J : Mi} {n w O : Nat} (h : LG I 127 J n w O) : LG (up (cpyL I) 129 6 0) 129 (ip0 J) n w O :=
  (LG_put (y := 6) (v := 0) (by omega) (by omega) (LG_cpy h)).same (fun _ _ => rfl) (fun _ _ => rfl) (fun y _ => by
    unfold ip0
    rw [uc4, uc4, mvM_ne (by omega)])
/-- the class's answers to ifPassed -/
theorem ifp_ans {X J : Mi} {n w : Nat} (hR : RR X 1 (J 128) n w) (t : Nat) : (xIfP X t 0).1 = psM (ip0 J) t 128 4 - J 128 4 ∧ (xIfP X t 1).1 = setM (psM (ip0 J) t) n 0 ∧ (xIfP X t 2).1 = psM (ip0 J) t 128 6 ∧ (xIfP X t 3).1 = sumM (psM (ip0 J) t) n ∧ ∀ v, LK (xIfP X t v).2 X := by
  have efr : ∀ x, x < 12 ∨ 22 < x → ipI X t x = X x := fun x hx => by
    unfold ipI
    rw [passC_fr (by omega) t, up_ne (by omega), copyC_ne (by omega)]
  have h1 : RR (copyC X 12 1) 12 (J 128) n w := RR_obs (copyC_CE X (by omega)) (fun _ _ => rfl) hR
  have hs : RR (up (copyC X 12 1) 12 17 0) 12 (ip0 J 128) n w := RR_g0 h1 (by
    unfold ip0
    exact ⟨by rw [uc4, if_pos rfl], fun y hy => by rw [uc4, if_neg hy, mvM_ne (by omega)]⟩)
  obtain ⟨⟨w2, hop⟩, -⟩ := RR_pass hs t
  have hop : RR (ipI X t) 12 (psM (ip0 J) t 128) n w2 := hop
  have ex : ∀ v, isW v 0 3 = true → (xIfP X t v).1 = swf 2 v (fun z => match z with
          | 0 => sumC (ipI X t) (12 + 8) - sumC (ipI X t) (1 + 8)
          | 1 => setC (ipI X t) 12 0
          | _ => ipI X t 12 17) (sumC (ipI X t) (12 + 5)) := fun v hv => by
    unfold xIfP
    rw [if_pos hv]
    rfl
  refine ⟨?_, ?_, ?_, ?_, fun v x hx => ?_⟩
  · refine (ex 0 (by decide)).trans ((swf_at (z := 0) rfl (by omega) (by omega)).trans ?_)
    show sumC (ipI X t) (12 + 8) - sumC (ipI X t) (1 + 8) = _
    rw [hop.2.1.2.2.2, show sumC (ipI X t) (1 + 8) = sumC X (1 + 8) by rw [sumC_sm, sumC_sm, efr (1 + 8) (by omega)], hR.2.1.2.2.2]
  · exact (ex 1 (by decide)).trans ((swf_at (z := 1) rfl (by omega) (by omega)).trans (RS_set hop.1 (by decide)))
  · exact (ex 2 (by decide)).trans ((swf_at (z := 2) rfl (by omega) (by omega)).trans hop.2.1.2.2.1)
  · exact (ex 3 (by decide)).trans ((swf_out (by decide)).trans (RR_vals hop))
  · unfold xIfP
    split
    · exact efr x hx
    · rfl
/-- quiet islands -/
def quG (J : Mi) (t : Nat) (i : Nat) : Int32 := lp (fun i u => if pt J i 7 = 0 then u ||| (if psM (q0M J i) t 128 4 = J 128 4 then sh1 i else 0) else u) i 0
theorem q0M_4 (J : Mi) (i : Nat) : q0M J i 128 4 = J 128 4 := by
  unfold q0M
  rw [sp_lo (by omega), mvM_ne (by omega)]
theorem quR_G {X J : Mi} {n w t : Nat} (hR : RR X 1 (J 128) n w) : ∀ i, i ≤ n → (quR X t i).1 = quG J t i ∧ LK (quR X t i).2 X
  | 0, _ => ⟨rfl, fun _ _ => rfl⟩
  | i + 1, hi => by
    obtain ⟨h1, h2⟩ := quR_G hR i (by omega)
    have hR2 : RR (quR X t i).2 1 (J 128) n w := RR_obs (CE.same (fun x x1 x2 => h2 x (by omega))) (fun _ _ => rfl) hR
    rw [quR_s]
    show _ = (if pt J i 7 = 0 then quG J t i ||| (if psM (q0M J i) t 128 4 = J 128 4 then sh1 i else 0) else quG J t i) ∧ _
    rw [← h1]
    generalize quR X t i = p at h2 hR2 ⊢
    obtain ⟨u, Y⟩ := p
    dsimp only at h2 hR2 ⊢
    obtain ⟨g1, g2, -, -⟩ := qu_step (t := t) hR2 (show i < n by omega) u
    refine ⟨g1.trans ?_, fun x hx => (g2 x hx).trans (h2 x hx)⟩
    unfold quM
    dsimp only
    by_cases c : pt J i 7 = 0
    · rw [if_pos (decide_eq_true c), if_pos c, q0M_4]
      by_cases c2 : psM (q0M J i) t 128 4 = J 128 4
      · rw [if_pos c2, if_pos (i32_sub0.mpr c2)]
      · rw [if_neg c2, if_neg (fun z => c2 (i32_sub0.mp z))]
    · rw [if_neg (show ¬ decide (pt J i 7 = 0) = true by simpa using c), if_neg c]
theorem qui_ans {X J : Mi} {n w t : Nat} (hR : RR X 1 (J 128) n w) : (quR X t 8).1 = quG J t n ∧ LK (quR X t 8).2 X := by
  rw [quR_8 hR]
  exact quR_G hR n (Nat.le_refl _)
theorem q0_LG {I J : Mi} {n w O i : Nat} (h : LG I 127 J n w O) (hi : i < n) (h0 : pt J i 7 = 0) : LG (up (cpyL I) 130 (12 * i + 7) 1) 129 (q0M J i) n w O :=
  (LG_part (p := 7) (v := 1) (by omega) (LG_cpy h) hi (fun _ => ⟨by decide, by rw [h0]; decide⟩) ⟨fun z => by omega, fun _ => ⟨1, by omega, rfl⟩⟩).same (fun _ _ => rfl) (fun _ _ => rfl) (fun y _ => by
    unfold q0M sp
    unfold up
    by_cases c : (128 : Nat) = 128 ∧ y = 16 + 10 * i + 7
    · rw [if_pos c, if_pos c]
    · rw [if_neg c, if_neg c, mvM_ne (by omega)])
/-- the law's tick over its second rows leaves the rest alone -/
theorem nzL_fr {b k m : Nat} {J : Mi} {x : Nat} (h : x ≠ b) (h1 : x ≠ b + 1) : nzL b k m J x = J x := by
  unfold nzL
  split
  · rfl
  · try dsimp only
    rw [up_ne h, up_ne h1, up_ne h1]
theorem tl2_fr {b n k : Nat} {J : Mi} {x : Nat} (h : x ≠ b) (h1 : x ≠ b + 1) : tl2 b n k J x = J x := by
  unfold tl2
  split
  · exact lp_keep (fun J : Mi => J x) (fun m J => nzL_fr h h1) n J
  · split
    · unfold faL
      try dsimp only
      rw [up_ne h1]
      split
      · rw [up_ne h1, up_ne h1]
      · split
        · rw [up_ne h1]
        · rw [up_ne h, up_ne h1]
    · split
      · unfold riL
        try dsimp only
        split
        · split
          · rw [up_ne h1, up_ne h1, up_ne h1]
          · rw [up_ne h1, up_ne h1]
        · rw [up_ne h1]
      · rfl
theorem ordL_fr {b k : Nat} {J : Mi} {x : Nat} (h : x ≠ b) (h1 : x ≠ b + 1) : ordL J b k x = J x := by
  unfold ordL
  rw [up_ne h1, up_ne h, up_ne h1]
theorem akB_fr {b n k : Nat} {aw : Int32} {J : Mi} {x : Nat} (h : x ≠ b) (h1 : x ≠ b + 1) : akB b n aw k J x = J x := by
  unfold akB
  split
  · split
    · rfl
    · exact ordL_fr h h1
  · rfl
theorem brX_fr {b n m : Nat} {J : Mi} {x : Nat} (h1 : x ≠ b + 1) : brX J b n m x = J x := by
  have e : rsL J b m x = J x := by unfold rsL; rw [up_ne h1, up_ne h1]
  unfold brX
  split
  · exact e
  · split
    · exact e
    · rfl
theorem brL_fr {b n x : Nat} (h1 : x ≠ b + 1) : ∀ (f : Nat) (J : Mi) (last : Int32), brL b n f J last x = J x
  | 0, _, _ => rfl
  | f + 1, J, last => by
    rw [brL]
    cases nxR J b n last with
    | none => rfl
    | some m => exact (brL_fr h1 f _ _).trans (brX_fr h1)
theorem tkL_fr {b n : Nat} {I : Mi} {x : Nat} (h : x ≠ b) (h1 : x ≠ b + 1) (h2 : x ≠ 131) : tkL I b n x = I x := by
  have e3 : x3L I b n x = I x := by
    have e2 : x2L I b n x = I x := (lp_keep (fun J : Mi => J x) (fun k J => tl2_fr h h1) n _).trans (x1L_ne h2)
    unfold x3L akL
    split
    · exact (lp_keep (fun J : Mi => J x) (fun k J => akB_fr h h1) n _).trans e2
    · exact e2
  unfold tkL enL
  try dsimp only
  rw [up_ne h, up_ne h, brL_fr h1, e3]
theorem psL_fr {b n : Nat} {I : Mi} {x : Nat} (h : x ≠ b) (h1 : x ≠ b + 1) (h2 : x ≠ 131) (t : Nat) : psL I b n t x = I x := lp_keep (fun J : Mi => J x) (fun _ _ => tkL_fr h h1 h2) t I
theorem tkL_KE {n : Nat} (X : Mi) : KE (tkL X 129 n) X := fun x hx => tkL_fr (by omega) (by omega) (by omega)
theorem psL_KE {n : Nat} (X : Mi) (t : Nat) : KE (psL X 129 n t) X := fun x hx => psL_fr (by omega) (by omega) (by omega) t
/-! when all are awake -/
theorem bits_all : ∀ n, n < 6 → ∀ v, v < 2 ^ n → (nI n ≤ bitR 6 (nI v) 0 ↔ nI v = ((1 : Int32) <<< (nI n &&& 31)) - 1) := by decide +kernel
theorem all_bits {I J : Mi} {b n w O : Nat} (h : LG I b J n w O) : nI n ≤ bitR 6 (setL I b n 0) 0 ↔ allM J n = true := by
  unfold allM
  rw [← setL_M h.2.1]
  obtain ⟨v, h1, h2⟩ := un_lt (fun k => decide (sL I b k 7 = 0)) n (by have := h.1.1; omega)
  rw [setL_un, h2, decide_eq_true_eq]
  exact bits_all n (by have := h.1.1; omega) v h1
theorem aw1_LG {I J : Mi} {n w O : Nat} (cur : Int32) (h : LG I 127 J n w O) (hO : O < 900000) : ∃ w2 O2, O2 ≤ O + n ∧ LG (aw1L I cur n) 129 (aw0 J cur n) n w2 O2 := by
  have h0 : LG (awS I cur) 129 (aw1 J cur) n w O := (LG_put (y := 0) (v := cur) (by omega) (by omega) (LG_cpy h)).same (fun _ _ => rfl) (fun _ _ => rfl) (fun y _ => by
    unfold aw1
    rw [uc4, uc4, mvM_ne (by omega)])
  unfold aw1L aw0
  refine lp_ind2 (fun (k : Nat) (X Y : Mi) => ∃ w2 O2, O2 ≤ O + k ∧ LG X 129 Y n w2 O2) ⟨w, O, Nat.le_refl _, h0⟩ (fun k X Y hk ih => ?_)
  obtain ⟨w2, O2, o2, g⟩ := ih
  have n5 := g.1.1
  unfold osB awB
  rw [g.2.1.2 k hk 7 (by omega), g.1.2.2.2.1, ix_nI (by have := g.1.2.1; omega)]
  by_cases c : pt Y k 7 = 2
  · rw [if_pos c, if_pos (decide_eq_true c)]
    obtain ⟨-, g2⟩ := LG_ord g (by omega) hk c
    exact ⟨w2 + 1, O2 + 1, by omega, g2⟩
  · rw [if_neg c, if_neg (show ¬ decide (pt Y k 7 = 2) = true by simpa using c)]
    exact ⟨w2, O2, by omega, g⟩
theorem awL_aa {n : Nat} : ∀ (k t : Nat) (X Y : Mi) (w O : Nat), LG X 129 Y n w O → O + n * (k + 1) < 900000000 → t + k = 200 → awA n (awL n (k + 1) t X) = (aaR n k t Y).1 := by
  intro k
  induction k with
  | zero =>
    intro t X Y w O h hO ht
    have e : (aaR n 0 t Y).1 = if allM Y n = true then nI t else -6 := by
      unfold aaR
      split <;> rfl
    rw [e, awL]
    by_cases c : allM Y n = true
    · rw [if_pos c, if_pos ((all_bits h).mpr c)]
      exact if_pos (show t < 201 by omega)
    · rw [if_neg c, if_neg (fun z => c ((all_bits h).mp z))]
      exact if_neg (show ¬ t + 1 < 201 by omega)
  | succ k ih =>
    intro t X Y w O h hO ht
    have e : (aaR n (k + 1) t Y).1 = if allM Y n = true then nI t else (aaR n k (t + 1) (tkM Y)).1 := by
      show (if allM Y n = true then (nI t, Y) else aaR n k (t + 1) (tkM Y)).1 = _
      split <;> rfl
    have e2 : awL n (k + 1 + 1) t X = if nI n ≤ bitR 6 (setL X 129 n 0) 0 then (t, X) else awL n (k + 1) (t + 1) (tkL X 129 n) := rfl
    rw [e, e2]
    by_cases c : allM Y n = true
    · rw [if_pos c, if_pos ((all_bits h).mpr c)]
      exact if_pos (show t < 201 by omega)
    · rw [if_neg c, if_neg (fun z => c ((all_bits h).mp z))]
      rw [Nat.mul_succ] at hO
      obtain ⟨-, w2, O2, o2, g⟩ := LG_tick LB9 h (by omega)
      exact ih (t + 1) _ _ w2 O2 g (by omega) (by omega)
theorem awL_fr {n : Nat} : ∀ (k t : Nat) (X : Mi), KE (awL n k t X).2 X
  | 0, _, _ => KE.rfl'
  | k + 1, t, X => by
    have e2 : awL n (k + 1) t X = if nI n ≤ bitR 6 (setL X 129 n 0) 0 then (t, X) else awL n k (t + 1) (tkL X 129 n) := rfl
    rw [e2]
    split
    · exact KE.rfl'
    · refine (awL_fr k (t + 1) _).trans (tkL_KE X)
theorem aw1_KE (I : Mi) (cur : Int32) (n : Nat) : KE (aw1L I cur n) I := fun x hx => by
  unfold aw1L
  refine (lp_keep (fun J : Mi => J x) (fun k J => ?_) n _).trans ?_
  · show osB k J x = J x
    unfold osB
    split
    · exact ordL_fr (by omega) (by omega)
    · rfl
  · show up (cpyL I) 129 0 cur x = I x
    rw [up_ne (by omega)]
    exact cpyL_KE I x hx
/-- the law's own answer, and what it leaves -/
theorem aw_ans {I J : Mi} {n w O : Nat} (cur : Int32) (h : LG I 127 J n w O) (hO : O < 900000) : AWO n 201 (aw1L I cur n) ∧ awA n (awL n 201 0 (aw1L I cur n)) = (yAa J cur n).1 ∧ KE (awL n 201 0 (aw1L I cur n)).2 I := by
  obtain ⟨w2, O2, o2, g⟩ := aw1_LG cur h hO
  have n5 := g.1.1
  have hb : O2 + n * 202 < 900000000 := by
    have : n * 202 ≤ 5 * 202 := Nat.mul_le_mul_right _ n5
    omega
  refine ⟨fun j hj => (LG_pass LB9 g 202 hb).2 j (by omega), ?_, (awL_fr 201 0 _).trans (aw1_KE I cur n)⟩
  exact awL_aa 200 0 _ _ w2 O2 g (by omega) rfl
/-! the least current -/
def dnG (J : Mi) (n m : Nat) : Nat → Nat → Int32
  | 0, _ => -6
  | k + 1, c => if (yAa J (nI (c + 1)) n).1 = -6 then dnG J n m k (c + 1) else if nI m < (yAa J (nI (c + 1)) n).1 then dnG J n m k (c + 1) else nI (c + 1)
theorem lc_ans {J : Mi} {n w m : Nat} (hm : m ≤ 200) : ∀ (k c : Nat) (X : Mi), RS X 1 (J 128) n w → (lcR m k c X).1 = dnG J n m k c ∧ LK (lcR m k c X).2 X := by
  intro k
  induction k with
  | zero => exact fun c X h => ⟨rfl, fun _ _ => rfl⟩
  | succ k ih =>
    intro c X h
    have e := tuC_m hm (nI (c + 1)) h
    have hX : LK (tuC X (nI (c + 1)) m).2 X := fun x hx => tuC_fr hx
    have eX : lcR m (k + 1) c X = if (tuC X (nI (c + 1)) m).1 = -6 then lcR m k (c + 1) (tuC X (nI (c + 1)) m).2 else (nI (c + 1), (tuC X (nI (c + 1)) m).2) := rfl
    have eY : dnG J n m (k + 1) c = if (yAa J (nI (c + 1)) n).1 = -6 then dnG J n m k (c + 1) else if nI m < (yAa J (nI (c + 1)) n).1 then dnG J n m k (c + 1) else nI (c + 1) := rfl
    rw [eX, eY]
    generalize (yAa J (nI (c + 1)) n).1 = r at e ⊢
    generalize tuC X (nI (c + 1)) m = p at e hX ⊢
    have h' : RS p.2 1 (J 128) n w := RS_obs (CE.same (fun x x1 x2 => hX x (by omega))) (fun _ _ => rfl) h
    obtain ⟨r1, r2⟩ := ih (c + 1) p.2 h'
    have r2' : LK (lcR m k (c + 1) p.2).2 X := fun x hx => (r2 x hx).trans (hX x hx)
    by_cases g : p.1 = -6
    · rw [if_pos g]
      rcases e.mp g with q | q
      · rw [if_pos q]; exact ⟨r1, r2'⟩
      · by_cases q6 : r = -6
        · rw [if_pos q6]; exact ⟨r1, r2'⟩
        · rw [if_neg q6, if_pos q]; exact ⟨r1, r2'⟩
    · rw [if_neg g, if_neg (fun z => g (e.mpr (Or.inl z))), if_neg (fun z => g (e.mpr (Or.inr z)))]
      exact ⟨rfl, hX⟩
theorem aa_sign {n : Nat} : ∀ (k t : Nat) (Y : Mi), t + k < 1000 → (aaR n k t Y).1 = -6 ∨ ∃ z, z < 1000 ∧ (aaR n k t Y).1 = nI z
  | 0, t, Y, h => by
    unfold aaR
    split
    · exact Or.inr ⟨t, by omega, rfl⟩
    · exact Or.inl rfl
  | k + 1, t, Y, h => by
    unfold aaR
    split
    · exact Or.inr ⟨t, by omega, rfl⟩
    · exact aa_sign k (t + 1) _ (by omega)
theorem yAa_sign (J : Mi) (cur : Int32) (n : Nat) : (yAa J cur n).1 = -6 ∨ ∃ z, z < 1000 ∧ (yAa J cur n).1 = nI z := aa_sign 200 0 _ (by omega)
/-- the sum of the values over the law's second rows -/
theorem sumL_M {I J : Mi} {b n : Nat} (hr : LRow I b J n) : lp (fun k acc => acc + sL I b k 4) n 0 = sumM J n := by
  unfold sumM
  exact lp_congr (fun i hi s => by rw [hr.2 i hi 4 (by omega)]) 0
