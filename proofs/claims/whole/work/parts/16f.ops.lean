/-! the pad: put, wipe, fault -/
theorem INV_pd {I I3 : Mi} {F : Mr} {pl2 : Nat} (H : INV I F) (hc : ∀ x, (x ≤ 11 ∨ (37 ≤ x ∧ x ≤ 126) ∨ x = 128 ∨ (130 ≤ x ∧ x ≤ 132)) → I3 x = I x) (h3 : I3 127 3 = I 127 3) (hj : ∃ j, I3 127 10 = nI j) (hP : IPd I3 pl2) : INV I3 F := by
  obtain ⟨hl, hh, k, n, w, pl, hb, p1, p2, p3, p4, -⟩ := H
  exact ⟨hl, hh, k, n, w, pl2, hb, p1.of hb (fun x x1 x2 => hc x (by omega)) (hc 130 (by omega)) h3, RR_obs (CE.same (fun x x1 x2 => hc x (by omega))) (fun y _ => by rw [hc 128 (by omega)]) p2, p3.of (fun x hx => hc x (by omega)) (fun x hx => hc x (by omega)), hP, hj⟩
theorem us_bv {r : Int64} {k : Int32} {n : Nat} (h : ((k.toInt64.toUInt64 &&& Int64.toUInt64 63) % 64).toBitVec.toNat = n) : (us64 r k).toBitVec = r.toBitVec >>> n := by
  have e : (us64 r k).toBitVec = r.toBitVec >>> ((k.toInt64.toUInt64 &&& Int64.toUInt64 63) % 64).toBitVec := rfl
  rw [e, BitVec.ushiftRight_eq', h]
theorem sgm_s (c : Int64) (i : Nat) : sgm c (i + 1) = us64 (sgm c i) 8 := rfl
theorem sgm_bv (c : Int64) : ∀ b, (sgm c b).toBitVec = c.toBitVec >>> (8 * b)
  | 0 => by show c.toBitVec = _; simp
  | b + 1 => by
    rw [sgm_s, us_bv (n := 8) (by decide), sgm_bv c b, ← BitVec.shiftRight_add]
    congr 1
theorem sgm_us (c : Int64) {b : Nat} (hb : b < 8) : us64 c (8 * nI b) = sgm c b := by
  apply Int64.toBitVec_inj.mp
  rw [sgm_bv, us_bv (n := 8 * b)]
  have h : ∀ b, b < 8 → (((8 * nI b).toInt64.toUInt64 &&& Int64.toUInt64 63) % 64).toBitVec.toNat = 8 * b := by decide
  exact h b hb
theorem lo8 (z : Int64) : ∃ v, v < 256 ∧ (z &&& 255).toInt32 = nI v := by
  have h1 : (z &&& 255).toBitVec.toNat ≤ 255 := by
    rw [Int64.toBitVec_and, BitVec.toNat_and]
    exact Nat.and_le_right
  refine ⟨(z &&& 255).toBitVec.toNat, by omega, ?_⟩
  apply Int32.toBitVec_inj.mp
  apply BitVec.eq_of_toNat_eq
  have h : ∀ m, m < 256 → (nI m).toBitVec.toNat = m := by decide +kernel
  rw [h _ (by omega), Int64.toBitVec_toInt32, BitVec.signExtend_eq_setWidth_of_le _ (by omega), BitVec.toNat_setWidth]
  exact Nat.mod_eq_of_lt (by omega)
theorem nar_256 : ∀ v, v < 256 → ((nI v).toUInt32 % 65536).toInt32 = nI v := by decide +kernel
theorem chr_eq (c : Int64) (b : Nat) : chrP c b = chrQ c b := by
  unfold chrP chrQ
  obtain ⟨v, hv, e⟩ := lo8 (us64 c (8 * nI b))
  rw [e]
  exact nar_256 v hv
theorem isW_126 : ∀ v, v < 256 → isW (nI v) 33 126 = true → v < 128 := by decide +kernel
theorem pgG_lt {c : Int64} : ∀ s, pgG c s = true → ∀ b, b < s → isW (sgm c b &&& 255).toInt32 33 126 = true
  | 0, _, b, hb => absurd hb (Nat.not_lt_zero b)
  | s + 1, h, b, hb => by
    rw [pgG_s, Bool.and_eq_true] at h
    rcases Nat.lt_or_ge b s with q | q
    · exact pgG_lt s h.1 b q
    · rw [show b = s by omega]; exact h.2
theorem chr_small {c : Int64} {s b : Nat} (hs : s ≤ 8) (h : pgG c s = true) (hb : b < s) : ∃ v, v < 128 ∧ chrQ c b = nI v := by
  have h1 := pgG_lt s h b hb
  unfold chrQ
  rw [sgm_us c (by omega)]
  obtain ⟨v, hv, e⟩ := lo8 (sgm c b)
  rw [e] at h1 ⊢
  exact ⟨v, isW_126 v hv h1, rfl⟩
theorem pgN_ge (c : Int64) (k : Nat) : ∀ i, i ≤ pgN c k i := by
  induction k with
  | zero => exact fun i => Nat.le_refl _
  | succ k ih =>
    intro i
    unfold pgN
    split
    · exact Nat.le_refl _
    · have := ih (i + 1)
      omega
theorem pgG_no {c : Int64} {i : Nat} (h : pgG c i = false) : ∀ d, pgG c (i + d) = false
  | 0 => h
  | d + 1 => by
    show pgG c (i + d + 1) = false
    rw [pgG_s, pgG_no h d]
    rfl
theorem sgR_e (c : Int64) (k : Nat) : ∀ i, pgG c i = true → sgR k i (sgm c i) = if pgG c (pgN c k i) = true ∧ lg_cmp (sgm c (pgN c k i)) 0 = 0 then nI (pgN c k i) else 0 := by
  induction k with
  | zero =>
    intro i h
    show sgE i (sgm c i) = if pgG c i = true ∧ lg_cmp (sgm c i) 0 = 0 then nI i else 0
    unfold sgE
    by_cases g : lg_cmp (sgm c i) 0 = 0
    · rw [if_pos g, if_pos ⟨h, g⟩]
    · rw [if_neg g, if_neg (fun z => g z.2)]
  | succ k ih =>
    intro i h
    unfold sgR pgN
    by_cases g0 : lg_cmp (sgm c i &&& 255) 0 = 0
    · rw [if_pos g0, if_pos g0]
      unfold sgE
      by_cases g : lg_cmp (sgm c i) 0 = 0
      · rw [if_pos g, if_pos ⟨h, g⟩]
      · rw [if_neg g, if_neg (fun z => g z.2)]
    · rw [if_neg g0, if_neg g0]
      by_cases gw : isW (sgm c i &&& 255).toInt32 33 126 = true
      · rw [if_pos gw, ← sgm_s]
        exact ih (i + 1) (by rw [pgG_s, h, gw]; rfl)
      · have gw' : isW (sgm c i &&& 255).toInt32 33 126 = false := by simpa using gw
        have hf : pgG c (i + 1) = false := by rw [pgG_s, gw', Bool.and_false]
        have hge := pgN_ge c k (i + 1)
        rw [if_neg gw, if_neg]
        rintro ⟨z, -⟩
        have := pgG_no hf (pgN c k (i + 1) - (i + 1))
        rw [show i + 1 + (pgN c k (i + 1) - (i + 1)) = pgN c k (i + 1) by omega, z] at this
        cases this
theorem putI_e {I : Mi} {pl s : Nat} {c : Int64} (h : I 23 1 = nI pl) : ∀ i, (∀ x, x ≠ 23 → x ≠ 24 → putI I pl s c i x = I x) ∧ (∀ j, j < i → putI I pl s c i 24 (pl + j) = chrP c (s - j - 1)) ∧ (∀ x, x < pl → putI I pl s c i 24 x = I 24 x) ∧ putI I pl s c i 23 1 = nI (pl + i) := fun i => by
  refine lp_ind (fun (i : Nat) (X : Mi) => (∀ x, x ≠ 23 → x ≠ 24 → X x = I x) ∧ (∀ j, j < i → X 24 (pl + j) = chrP c (s - j - 1)) ∧ (∀ x, x < pl → X 24 x = I 24 x) ∧ X 23 1 = nI (pl + i)) ⟨fun _ _ _ => rfl, fun j hj => absurd hj (Nat.not_lt_zero j), fun _ _ => rfl, h⟩ (fun i X hi ih => ?_)
  obtain ⟨h1, h2, h3, h4⟩ := ih
  unfold appC
  refine ⟨fun x x1 x2 => by rw [up_ne x1, up_ne x2]; exact h1 x x1 x2, fun j hj => ?_, fun x hx => ?_, ?_⟩
  · rw [up_ne (show (24 : Nat) ≠ 23 by omega), uc4]
    by_cases e : j = i
    · rw [if_pos (by omega), e]
    · rw [if_neg (by omega)]; exact h2 j (by omega)
  · rw [up_ne (show (24 : Nat) ≠ 23 by omega), uc4, if_neg (by omega)]
    exact h3 x hx
  · rw [uc4, if_pos rfl, up_ne (show (23 : Nat) ≠ 24 by omega), h4, nI_1]
    rfl
theorem ppI_e {I : Mi} {pl s : Nat} {c : Int64} (h : I 127 7 = nI pl) : ∀ i, (∀ x, x ≠ 127 → x ≠ 133 → ppI I pl s c i x = I x) ∧ (∀ j, j < i → ppI I pl s c i 133 (pl + j) = chrQ c (s - j - 1)) ∧ (∀ x, x < pl → ppI I pl s c i 133 x = I 133 x) ∧ ppI I pl s c i 127 7 = nI (pl + i) ∧ ∀ y, y ≠ 7 → ppI I pl s c i 127 y = I 127 y := fun i => by
  refine lp_ind (fun (i : Nat) (X : Mi) => (∀ x, x ≠ 127 → x ≠ 133 → X x = I x) ∧ (∀ j, j < i → X 133 (pl + j) = chrQ c (s - j - 1)) ∧ (∀ x, x < pl → X 133 x = I 133 x) ∧ X 127 7 = nI (pl + i) ∧ ∀ y, y ≠ 7 → X 127 y = I 127 y) ⟨fun _ _ _ => rfl, fun j hj => absurd hj (Nat.not_lt_zero j), fun _ _ => rfl, h, fun _ _ => rfl⟩ (fun i X hi ih => ?_)
  obtain ⟨h1, h2, h3, h4, h5⟩ := ih
  refine ⟨fun x x1 x2 => by rw [up_ne x1, up_ne x2]; exact h1 x x1 x2, fun j hj => ?_, fun x hx => ?_, ?_, fun y hy => ?_⟩
  · rw [up_ne (show (133 : Nat) ≠ 127 by omega), uc4]
    by_cases e : j = i
    · rw [if_pos (by omega), e]
    · rw [if_neg (by omega)]; exact h2 j (by omega)
  · rw [up_ne (show (133 : Nat) ≠ 127 by omega), uc4, if_neg (by omega)]
    exact h3 x hx
  · rw [uc4, if_pos rfl]
    rfl
  · rw [uc4, if_neg hy, up_ne (show (127 : Nat) ≠ 133 by omega)]
    exact h5 y hy
section OPS
variable {l : Launch} {E : EE} {I : Mi} {F : Mr}
theorem st_put (H : INV I F) (c9 : Int64) : ST l E I F mX4_put mX5_put [.long c9] := by
  obtain ⟨hl, h, k, n, w, pl, hb, h0, hR, hS, hP, hj⟩ := id H
  obtain ⟨p1, p2, p3, p4⟩ := id hP
  have es := sgR_e c9 8 0 rfl
  have hs8 : pgN c9 8 0 ≤ 8 := by have := pgN_le c9 8 0; omega
  generalize hs : pgN c9 8 0 = s at es hs8
  have es : sgR 8 0 c9 = if pgG c9 s = true ∧ lg_cmp (sgm c9 s) 0 = 0 then nI s else 0 := es
  by_cases g : pgG c9 s = true ∧ lg_cmp (sgm c9 s) 0 = 0
  · rw [if_pos g] at es
    have c4 := tX4_put (l := l) (E := E) (I := I) hl c9 hs8 es p1 p2
    by_cases g0 : s = 0
    · have ex : xPut I c9 pl s = (-2, I) := by
        unfold xPut
        rw [es, if_pos (by rw [g0]; rfl)]
      rw [ex] at c4
      have c5 := tX5_put (l := l) (E := E) (I := I) hl c9 hs.symm p1 p3
      have ey : yPut I c9 pl s = (-2, I) := by
        unfold yPut
        rw [if_pos (by rw [g0]; rfl)]
      rw [ey] at c5
      exact ST_no H c4 c5
    · have gn : ¬ nI s = 0 := nI_ne0 (by omega) (by omega)
      by_cases gf : pl + s ≤ 64
      · have ex : xPut I c9 pl s = (nI (pl + s), putI I pl s c9 s) := by
          unfold xPut
          rw [es, if_neg gn, p2, nI_add, if_pos (show nI (pl + s) ≤ (64 : Int32) from nI_le (b := 64) gf (by omega)), (putI_e p2 s).2.2.2]
        rw [ex] at c4
        obtain ⟨a1, a2, a3, a4⟩ := putI_e (s := s) (c := c9) p2 s
        generalize putI I pl s c9 s = X at a1 a2 a3 a4 c4
        have x7 : X 127 7 = nI pl := by rw [a1 127 (by omega) (by omega), p3]
        have c5 := tX5_put (l := l) (E := E) (I := X) hl c9 hs.symm p1 x7
        obtain ⟨b1, b2, b3, b4, b5⟩ := ppI_e (s := s) (c := c9) x7 s
        have ey : yPut X c9 pl s = (nI (pl + s), ppI X pl s c9 s) := by
          unfold yPut
          rw [if_neg gn, if_pos g.1, if_pos g.2, x7, nI_add, if_pos (show nI (pl + s) ≤ (64 : Int32) from nI_le (b := 64) gf (by omega)), b4]
        rw [ey] at c5
        generalize ppI X pl s c9 s = Y at b1 b2 b3 b4 b5 c5
        refine ⟨nI (pl + s), X, F, Y, c4, c5, INV_pd (pl2 := pl + s) H (fun x hx => by rw [b1 x (by omega) (by omega), a1 x (by omega) (by omega)]) (by rw [b5 3 (by omega), a1 127 (by omega) (by omega)]) (by rw [b5 10 (by omega), a1 127 (by omega) (by omega)]; exact hj) ⟨gf, by rw [b1 23 (by omega) (by omega), a4], b4, fun x hx => ?_⟩⟩
        rw [b1 24 (by omega) (by omega)]
        rcases Nat.lt_or_ge x pl with q | q
        · rw [a3 x q, b3 x q, a1 133 (by omega) (by omega)]
          exact p4 x q
        · obtain ⟨d, rfl⟩ : ∃ d, x = pl + d := ⟨x - pl, by omega⟩
          rw [a2 d (by omega), b2 d (by omega)]
          exact ⟨chr_eq c9 _, chr_small hs8 g.1 (by omega)⟩
      · have ex : xPut I c9 pl s = (-4, I) := by
          unfold xPut
          rw [es, if_neg gn, p2, nI_add, if_neg (show ¬ nI (pl + s) ≤ (64 : Int32) from nI_ge (a := 64) (by omega) (by omega))]
        rw [ex] at c4
        have c5 := tX5_put (l := l) (E := E) (I := I) hl c9 hs.symm p1 p3
        have ey : yPut I c9 pl s = (-4, I) := by
          unfold yPut
          rw [if_neg gn, if_pos g.1, if_pos g.2, p3, nI_add, if_neg (show ¬ nI (pl + s) ≤ (64 : Int32) from nI_ge (a := 64) (by omega) (by omega))]
        rw [ey] at c5
        exact ST_no H c4 c5
  · rw [if_neg g] at es
    have c4 := tX4_put (l := l) (E := E) (I := I) (s9 := 0) hl c9 (by omega) (es.trans rfl) p1 p2
    have ex : xPut I c9 pl 0 = (-2, I) := by
      unfold xPut
      rw [es, if_pos rfl]
    rw [ex] at c4
    have c5 := tX5_put (l := l) (E := E) (I := I) hl c9 hs.symm p1 p3
    have ey : yPut I c9 pl s = (-2, I) := by
      unfold yPut
      by_cases gn : nI s = 0
      · rw [if_pos gn]
      · rw [if_neg gn]
        by_cases g1 : pgG c9 s = true
        · rw [if_pos g1, if_neg (fun z => g ⟨g1, z⟩)]
        · rw [if_neg g1]
    rw [ey] at c5
    exact ST_no H c4 c5
theorem st_wipe (H : INV I F) : ST l E I F mX4_wipe mX5_wipe [] := by
  obtain ⟨hl, h, k, n, w, pl, hb, h0, hR, hS, hP, hj⟩ := id H
  obtain ⟨p1, p2, p3, p4⟩ := id hP
  have c4 := tX4_wipe (l := l) (E := E) (I := I) hl
  have c5 := tX5_wipe (l := l) (E := E) (I := up I 23 1 0) hl
  have e7 : up I 23 1 0 127 7 = I 23 1 := by rw [up_ne (show (127 : Nat) ≠ 23 by omega), p3, p2]
  rw [e7] at c5
  refine ⟨_, _, F, _, c4, c5, INV_pd (pl2 := 0) H (fun x hx => by rw [up_ne (by omega), up_ne (by omega)]) (by rw [uc4, if_neg (by omega), up_ne (show (127 : Nat) ≠ 23 by omega)]) (by rw [uc4, if_neg (by omega), up_ne (show (127 : Nat) ≠ 23 by omega)]; exact hj) ⟨by omega, by rw [up_ne (show (23 : Nat) ≠ 127 by omega), uc4, if_pos rfl]; rfl, by rw [uc4, if_pos rfl]; rfl, fun x hx => absurd hx (Nat.not_lt_zero x)⟩⟩
theorem IPd.pd {pl : Nat} (hP : IPd I pl) : PD I (I 133) pl ∧ SG (I 133) pl := ⟨⟨hP.2.1, fun j hj => (hP.2.2.2 j hj).1⟩, fun j hj => (hP.2.2.2 j hj).2⟩
/-- the reference's reading place and what was told last, as one picture -/
theorem pT_of (I : Mi) (h : ∃ j, I 127 10 = nI j) : ∃ (j : Nat) (t : T5), pT I j t = I := by
  obtain ⟨j, hj⟩ := h
  exact ⟨j, (I 127 11, I 127 12, I 127 13, I 127 14, I 127 15), pT_self hj rfl rfl rfl rfl rfl⟩
theorem st_fault (H : INV I F) : ST l E I F mX4_fault mX5_fault [] := by
  obtain ⟨hl, h, k, n, w, pl, hb, h0, hR, hS, hP, hj⟩ := id H
  obtain ⟨pd, sg⟩ := IPd.pd hP
  have c4 := tX4_fault (l := l) (E := E) (I := I) hl
  have efr : ∀ x, x < 25 ∨ 36 < x → (ffC I).2 x = I x := fun x hx => ffC_ne hx
  obtain ⟨j, t, ej⟩ := pT_of (ffC I).2 (by rw [efr 127 (by omega)]; exact hj)
  have c5 := tX5_fault (l := l) (E := E) (I := (ffC I).2) (j := j) (t9 := t) hl hP.1 (by rw [efr 127 (by omega)]; exact hP.2.2.1)
  rw [ej, efr 133 (by omega), ← (ffC_ffM t hP.1 pd sg).1] at c5
  generalize ffM (I 133) pl 8 0 (0, t) = q at c5
  generalize ffC I = p at c4 c5 efr
  exact ⟨p.1, p.2, F, pT p.2 q.2.1 q.2.2, c4, c5, INV_scr (fun x hx => by rw [pT_ne (by omega), efr x (by omega)]) (fun y _ => by rw [pT_ne (by omega), efr 128 (by omega)]) (by rw [show pT p.2 q.2.1 q.2.2 127 3 = p.2 127 3 from rfl, efr 127 (by omega)]) (by rw [pT_r7, efr 127 (by omega)]) ⟨q.2.1, pT_r10 _ _ _⟩ H⟩
end OPS
