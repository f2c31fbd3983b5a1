/-! what there is: of, count, waiting -/
theorem swf_congr {α : Type} {n : Int} {v : Int32} {f g : Nat → α} {d : α} (h : ∀ z : Nat, (z : Int) ≤ n → f z = g z) : swf n v f d = swf n v g d := by
  unfold swf
  by_cases c : v.toInt < 0 ∨ n < v.toInt
  · rw [if_pos c, if_pos c]
  · rw [if_neg c, if_neg c]
    exact h _ (by omega)
theorem pq_at {I : Mi} {a w : Nat} {x : Int32} {k : Nat} (hw : w ≤ 8) (h12 : I a 12 = nI w) (hk : k < w) (hx : I (a + 9) k = x) (hu : ∀ j, j < k → I (a + 9) j ≠ x) : ∀ n i, i ≤ k → i + n = 8 → pqC I a x n i = nI k
  | 0, i, h1, h2 => by omega
  | n + 1, i, h1, h2 => by
    unfold pqC
    rw [h12, if_neg (nI_ge (show i < w by omega) (by omega))]
    by_cases e : i = k
    · rw [e, if_pos hx]
    · rw [if_neg (hu i (by omega))]
      exact pq_at hw h12 hk hx hu n (i + 1) (by omega) (by omega)
theorem pq_no {I : Mi} {a w : Nat} {x : Int32} (hw : w ≤ 8) (h12 : I a 12 = nI w) (hu : ∀ j, j < w → I (a + 9) j ≠ x) : ∀ n i, i + n = 8 → pqC I a x n i = -6
  | 0, i, h2 => rfl
  | n + 1, i, h2 => by
    unfold pqC
    rw [h12]
    by_cases c : i < w
    · rw [if_neg (nI_ge c (by omega)), if_neg (hu i c)]
      exact pq_no hw h12 hu n (i + 1) (by omega)
    · rw [if_pos (nI_le (by omega) (by omega))]
theorem pl_at {I : Mi} {x : Int32} {k : Nat} (hx : I 128 (8 + k) = x) : ∀ w, (∀ j, j < w → j ≠ k → I 128 (8 + j) ≠ x) → k < w → plM I w x = nI k
  | 0, _, h => by omega
  | w + 1, hu, h => by
    show (if I 128 (8 + w) = x then nI w else plM I w x) = nI k
    by_cases e : w = k
    · rw [e, if_pos hx]
    · rw [if_neg (hu w (by omega) e)]
      exact pl_at hx w (fun j h1 h2 => hu j (by omega) h2) (by omega)
theorem pl_no {I : Mi} {x : Int32} : ∀ w, (∀ j, j < w → I 128 (8 + j) ≠ x) → plM I w x = -6
  | 0, _ => rfl
  | w + 1, hu => by
    show (if I 128 (8 + w) = x then nI w else plM I w x) = -6
    rw [if_neg (hu w (by omega))]
    exact pl_no w (fun j h1 => hu j (by omega))
theorem place_eq {I J : Mi} {a n w i : Nat} (h : RS I a (J 128) n w) (hi : i < n) : pqC I a (nI i) 8 0 = plM J w (nI i) := by
  have h8 := h.1.1
  obtain ⟨-, hw, ⟨b0, b1⟩, q, hq⟩ := h
  have hne : ∀ k j, k < w → q j = i → j < w → k ≠ j → q k ≠ i := fun k j h1 h2 h3 h4 e => h4 (hq.2 k j h1 h3 (e.trans h2.symm))
  have ne : ∀ x y : Nat, x < 8 → y < 8 → x ≠ y → nI x ≠ nI y := fun x y h1 h2 h3 z => h3 ((nI_eq (by omega) (by omega)).mp z)
  by_cases c : ∃ k, k < w ∧ q k = i
  · obtain ⟨k, hk, e⟩ := c
    obtain ⟨z0, z1, z2, z3, z4⟩ := hq.1 k hk
    rw [pq_at hw b0 hk (by rw [z2, e]) (fun j hj => by
      have hjw : j < w := by omega
      obtain ⟨y0, y1, y2, y3, y4⟩ := hq.1 j hjw
      rw [y2]
      exact ne _ _ (by omega) (by omega) (hne j k hjw e hk (by omega))) 8 0 (by omega) (by omega)]
    rw [pl_at (by rw [z3, e]) w (fun j hj hjk => by
      obtain ⟨y0, y1, y2, y3, y4⟩ := hq.1 j hj
      rw [y3]
      exact ne _ _ (by omega) (by omega) (hne j k hj e hk hjk)) hk]
  · have hn : ∀ j, j < w → q j ≠ i := fun j hj e => c ⟨j, hj, e⟩
    rw [pq_no hw b0 (fun j hj => by
      obtain ⟨y0, y1, y2, y3, y4⟩ := hq.1 j hj
      rw [y2]
      exact ne _ _ (by omega) (by omega) (hn j hj)) 8 0 (by omega), pl_no w (fun j hj => by
      obtain ⟨y0, y1, y2, y3, y4⟩ := hq.1 j hj
      rw [y3]
      exact ne _ _ (by omega) (by omega) (hn j hj))]
theorem of_eq {I : Mi} {n w i : Nat} (h : RR I 1 (I 128) n w) (hi : i < n) (v : Int32) : xOf I i v = yOf I n w i v := by
  have h8 := h.1.1.1
  obtain ⟨⟨s1, s2, s3, s4, s5⟩, -, ⟨t, -, t1, -, t2⟩, -⟩ := h.1.1.2.2.1 i hi
  obtain ⟨⟨v1, v2⟩, ⟨v3, v4, v5⟩, -, -⟩ := h.2.2.1 i hi
  unfold xOf yOf
  refine swf_congr (fun z hz => ?_)
  rcases (show z = 0 ∨ z = 1 ∨ z = 2 ∨ z = 3 ∨ z = 4 ∨ z = 5 ∨ z = 6 ∨ z = 7 ∨ z = 8 ∨ z = 9 ∨ z = 10 ∨ z = 11 ∨ z = 12 by omega) with rfl | rfl | rfl | rfl | rfl | rfl | rfl | rfl | rfl | rfl | rfl | rfl | rfl
  · exact s4
  · exact v3
  · exact v4
  · show bi (isI (I 1 1) (nI i)) = pt I i 0
    rw [isI_bt _ (by omega)]; exact v1.symm
  · show bi (isI (I 1 2) (nI i)) = pt I i 1
    rw [isI_bt _ (by omega)]; exact v2.symm
  · exact s1
  · exact s2
  · exact s3
  · exact RS_reads h.1 (by omega)
  · exact (heard_sure h hi).2.1
  · show I (1 + 7) i = if decide (pt I i 7 = 4) = true then pt I i 8 else 0
    by_cases c : I (1 + 4) i = 4
    · rw [if_pos (decide_eq_true (s4.symm.trans c))]; exact s5
    · rw [if_neg (fun z => c (s4.trans (of_decide_eq_true z))), t1, t2 c]; rfl
  · exact place_eq h.1 hi
  · exact v5
theorem count_eq {I : Mi} {n w pl k : Nat} (h : RR I 1 (I 128) n w) (hp : I 23 1 = nI pl ∧ I 127 7 = nI pl) (hk : I 37 1 = nI k ∧ I 127 3 = nI k) (v : Int32) : xCount I v = yCount I n v := by
  obtain ⟨a0, a1, a2, a3⟩ := h.1.1.2.1
  obtain ⟨v0, v1, v2, v3⟩ := h.2.1
  unfold xCount yCount
  refine swf_congr (fun z hz => ?_)
  rcases (show z = 0 ∨ z = 1 ∨ z = 2 ∨ z = 3 ∨ z = 4 ∨ z = 5 ∨ z = 6 ∨ z = 7 ∨ z = 8 ∨ z = 9 ∨ z = 10 ∨ z = 11 ∨ z = 12 ∨ z = 13 by omega) with rfl | rfl | rfl | rfl | rfl | rfl | rfl | rfl | rfl | rfl | rfl | rfl | rfl | rfl
  · exact a0.trans a1.symm
  · exact RS_set h.1 (by decide)
  · exact RS_set h.1 (by decide)
  · exact RS_set h.1 (by decide)
  · exact RS_set h.1 (by decide)
  · exact RS_rl h.1
  · exact v2
  · exact v3
  · exact v1
  · exact v0
  · exact a2
  · exact a3
  · exact hp.1.trans hp.2.symm
  · exact hk.1.trans hk.2.symm
theorem wait_eq {I : Mi} {n w : Nat} (h : RS I 1 (I 128) n w) (x : Int32) : inqC I 1 x = yWait I x := by
  have h8 := h.1.1
  obtain ⟨-, hw, ⟨b0, b1⟩, q, hq⟩ := h
  unfold inqC yWait
  rw [b0, b1]
  by_cases c : ∃ k, k < w ∧ x = nI k
  · obtain ⟨k, hk, rfl⟩ := c
    obtain ⟨z0, z1, z2, z3, z4⟩ := hq.1 k hk
    rw [if_pos (isP_nI z0), if_neg (nI_ge hk (by omega)), ix_nI (by omega), z2, nI_dec (by omega), if_pos (show isW (nI k) 0 (nI (w - 1)) = true by
      unfold isW
      simp only [Bool.and_eq_true, decide_eq_true_eq]
      exact ⟨nI_pos (by omega), nI_nlt (by omega) (by omega)⟩), z3]
  · rw [if_neg (show ¬ isW x 0 (nI w - 1) = true from fun z => by
      obtain ⟨j, hj, e⟩ := isW_nI hw z
      exact c ⟨j, hj, e⟩)]
    by_cases g : isP x = true
    · rw [if_pos g]
      unfold isP at g
      simp only [Bool.and_eq_true, decide_eq_true_eq] at g
      obtain ⟨j, hj, rfl⟩ := nI_of g.1
      rw [if_pos (nI_le (show w ≤ j by
        rcases Nat.lt_or_ge j w with q | q
        · exact absurd ⟨j, q, rfl⟩ c
        · exact q) hj)]
    · rw [if_neg g]
section OPS
variable {l : Launch} {E : EE} {I : Mi} {F : Mr}
theorem st_of (H : INV I F) (x v : Int32) : ST l E I F mX4_of mX5_of [.int x, .int v] := by
  obtain ⟨hl, h, k, n, w, pl, hb, h0, hR, hS, hP, hj⟩ := id H
  have n8 := hR.1.1.1
  rcases has_cases hR.1 x with ⟨i, hi, rfl, x1, x2⟩ | ⟨x1, x2⟩
  · have c4 := tX4_of (l := l) (E := E) hl (show i < 8 by omega) x1 v
    have c5 := tX5_of (l := l) (E := E) hl n8 hR.1.1.2.1.2.1 hR.1.2.1 hR.1.2.2.1.2 (show i < 8 by omega) x2 v
    rw [← of_eq hR hi v] at c5
    exact ST_no H c4 c5
  · exact ST_no H (tX4_of_no hl x x1 v) (tX5_of_no hl x x2 v)
theorem st_count (H : INV I F) (v : Int32) : ST l E I F mX4_count mX5_count [.int v] := by
  obtain ⟨hl, h, k, n, w, pl, hb, h0, hR, hS, hP, hj⟩ := id H
  have c4 := tX4_count (l := l) (E := E) (I := I) hl v
  have c5 := tX5_count (l := l) (E := E) hl hR.1.1.1 hR.1.1.2.1.2.1 v
  rw [← count_eq hR ⟨hP.2.1, hP.2.2.1⟩ ⟨h0.1.2.1, h0.1.2.2⟩ v] at c5
  exact ST_no H c4 c5
theorem st_waiting (H : INV I F) (x : Int32) : ST l E I F mX4_waiting mX5_waiting [.int x] := by
  obtain ⟨hl, h, k, n, w, pl, hb, h0, hR, hS, hP, hj⟩ := id H
  have c4 := tX4_waiting (l := l) (E := E) (I := I) hl x
  have c5 := tX5_waiting (l := l) (E := E) hl hR.1.2.1 hR.1.2.2.1.2 x
  rw [← wait_eq hR.1 x] at c5
  exact ST_no H c4 c5
end OPS
/-! what if -/
theorem RR_g0 {X : Mi} {K K2 : Kr} {a n w : Nat} {v : Int32} (h : RR X a K n w) (hK : K2 6 = v ∧ ∀ y, y ≠ 6 → K2 y = K y) : RR (up X a 17 v) a K2 n w := by
  obtain ⟨hS, ⟨v0, v1, v2, v3⟩, hV, hA⟩ := h
  obtain ⟨k6, kk⟩ := hK
  have er : ∀ c, 0 < c → up X a 17 v (a + c) = X (a + c) := fun c hc => up_ne (by omega)
  refine ⟨RS_q ⟨⟨by rw [uc4, if_neg (by omega)], by rw [uc4, if_neg (by omega)], by rw [uc4, if_neg (by omega)]⟩, fun j hj => ⟨by rw [er 1 (by omega)], by rw [er 2 (by omega)], by rw [er 3 (by omega)], by rw [er 4 (by omega)], by rw [er 7 (by omega)]⟩⟩ ⟨⟨kk _ (by omega), kk _ (by omega), kk _ (by omega)⟩, fun j hj => ⟨kk _ (by omega), kk _ (by omega), kk _ (by omega), kk _ (by omega), kk _ (by omega)⟩⟩ ⟨by rw [uc4, if_neg (by omega)], fun k hk => by rw [er 9 (by omega)]⟩ ⟨kk _ (by omega), fun k hk => kk _ (by omega)⟩ hS, ⟨by rw [uc4, if_neg (by omega), kk 3 (by omega), v0], by rw [uc4, if_neg (by omega), kk 5 (by omega), v1], by rw [uc4, if_pos rfl, k6], ?_⟩, fun i hi => ?_, fun i h1 h2 => ?_⟩
  · rw [kk 4 (by omega), ← v3, sumC_sm, sumC_sm, er 8 (by omega)]
  · have s := hV i hi
    unfold VI at s ⊢
    rw [er 5 (by omega), er 6 (by omega), er 8 (by omega), uc4, if_neg (by omega), uc4, if_neg (by omega), kk _ (by omega), kk _ (by omega), kk _ (by omega), kk _ (by omega), kk _ (by omega)]
    exact s
  · have s := hA i h1 h2
    unfold AV at s ⊢
    rw [er 5 (by omega), er 6 (by omega), er 8 (by omega), uc4, if_neg (by omega), uc4, if_neg (by omega)]
    exact s
theorem RR_vals {I J : Mi} {a n w : Nat} (h : RR I a (J 128) n w) : sumC I (a + 5) = sumM J n := by
  show sm (I (a + 5)) 8 = sm (fun i => pt J i 4) n
  rw [sm_more h.1.1.1 (fun i h1 h2 => (h.2.2.2 i h1 h2).1)]
  exact sm_congr (fun i hi => (h.2.2.1 i hi).2.1.1)
theorem RR_trial {I I2 : Mi} {n w : Nat} (h : RR I 1 (I 128) n w) (h2 : I2 128 = I 128) : RR (copyC I 12 1) 12 (mvM 128 0 129 0 I2 128) n w :=
  RR_obs (copyC_CE I (by omega)) (fun y _ => by rw [mvM_ne (by omega), h2]) h
section OPS
variable {l : Launch} {E : EE} {I : Mi} {F : Mr}
theorem INV_back {I2 Z : Mi} (H : INV I F) (hI2 : ∀ x, x < 12 ∨ 22 < x → I2 x = I x) (hZ : ∀ x, OM x → x ≠ 129 → Z x = I2 x) (h129 : ∀ y, y < 96 → Z 129 y = I2 128 y) : INV (mvM 129 0 128 0 Z) F := by
  obtain ⟨hl, h, k, n, w, pl, hb, h0, hR, hS, hP, hj⟩ := id H
  have e : ∀ x, OM x → x ≠ 129 → (x < 12 ∨ 22 < x) → mvM 129 0 128 0 Z x = I x := fun x h1 h2 h3 => by rw [mvM_ne h1.1, hZ x h1 h2, hI2 x h3]
  have e127 : mvM 129 0 128 0 Z 127 = I 127 := e 127 ⟨by omega, by omega, by omega⟩ (by omega) (by omega)
  refine INV_scr (fun x hx => e x ⟨by omega, by omega, by omega⟩ (by omega) (by omega)) (fun y hy => ?_) (by rw [e127]) (by rw [e127]) (by rw [e127]; exact hj) H
  have := mvM_at 129 0 128 0 Z (by omega) y hy
  rw [Nat.zero_add] at this
  rw [this, h129 y hy, hI2 128 (by omega)]
theorem st_ifPassed (H : INV I F) (x v : Int32) : ST l E I F mX4_ifPassed mX5_ifPassed [.int x, .int v] := by
  obtain ⟨hl, h, k, n, w, pl, hb, h0, hR, hS, hP, hj⟩ := id H
  have n8 := hR.1.1.1
  by_cases g : isW x 1 200 = true
  · obtain ⟨t, ht, rfl⟩ := isW_200 (m := 200) rfl (by omega) (by decide) g
    have c4 := tX4_ifPassed (l := l) (E := E) (I := I) hl (show t < 2147483648 by omega) g v
    by_cases gv : isW v 0 3 = true
    · have efr : ∀ x, x < 12 ∨ 22 < x → ipI I t x = I x := fun x hx => by
        unfold ipI
        rw [passC_fr (by omega) t, up_ne (by omega), copyC_ne (by omega)]
      have e128 : ipI I t 128 = I 128 := efr 128 (by omega)
      have hs : RR (up (copyC I 12 1) 12 17 0) 12 (ip0 (ipI I t) 128) n w := RR_g0 (RR_trial hR e128) (by
        unfold ip0
        exact ⟨by rw [uc4, if_pos rfl], fun y hy => by rw [uc4, if_neg hy]⟩)
      obtain ⟨⟨w2, hop⟩, hT⟩ := RR_pass hs t
      have c5 := tX5_ifPassed (l := l) (E := E) (I := ipI I t) hl (show t < 2147483648 by omega) g n8 hT hop.1.1.2.1.2.1 v
      have hfin : INV (mvM 129 0 128 0 (psM (ip0 (ipI I t)) t)) F := INV_back H efr (fun x h1 h2 => by rw [psM_fr h1]; unfold ip0; rw [up_ne h1.1, mvM_ne h2]) (fun y hy => by
        rw [psM_fr ⟨by omega, by omega, by omega⟩]
        unfold ip0
        rw [up_ne (by omega)]
        have := mvM_at 128 0 129 0 (ipI I t) (by omega) y hy
        rw [Nat.zero_add] at this
        exact this)
      have e3 : v = 0 ∨ v = 1 ∨ v = 2 ∨ v = 3 := by
        obtain ⟨z, hz, rfl⟩ := isW_200 (m := 3) rfl (by omega) (by decide) gv
        rcases (show z = 0 ∨ z = 1 ∨ z = 2 ∨ z = 3 by omega) with rfl | rfl | rfl | rfl
        · exact Or.inl rfl
        · exact Or.inr (Or.inl rfl)
        · exact Or.inr (Or.inr (Or.inl rfl))
        · exact Or.inr (Or.inr (Or.inr rfl))
      have ex : ∀ a, swf 2 v (fun z => match z with
          | 0 => sumC (ipI I t) (12 + 8) - sumC (ipI I t) (1 + 8)
          | 1 => setC (ipI I t) 12 0
          | _ => ipI I t 12 17) (sumC (ipI I t) (12 + 5)) = a → xIfP I t v = (a, ipI I t) := fun a ha => by
        unfold xIfP
        rw [if_pos gv, ← ha]
        rfl
      have ey : ∀ a, (if v = 0 then psM (ip0 (ipI I t)) t 128 4 - ip0 (ipI I t) 128 4 else if v = 1 then setM (psM (ip0 (ipI I t)) t) n 0 else if v = 2 then psM (ip0 (ipI I t)) t 128 6 else sumM (psM (ip0 (ipI I t)) t) n) = a → yIfP (ipI I t) n t v = (a, mvM 129 0 128 0 (psM (ip0 (ipI I t)) t)) := fun a ha => by
        unfold yIfP
        rw [if_pos gv, ← ha]
        split
        · rfl
        · split
          · rfl
          · split <;> rfl
      have hop : RR (ipI I t) 12 (psM (ip0 (ipI I t)) t 128) n w2 := hop
      have close : ∀ a, swf 2 v (fun z => match z with
          | 0 => sumC (ipI I t) (12 + 8) - sumC (ipI I t) (1 + 8)
          | 1 => setC (ipI I t) 12 0
          | _ => ipI I t 12 17) (sumC (ipI I t) (12 + 5)) = a → (if v = 0 then psM (ip0 (ipI I t)) t 128 4 - ip0 (ipI I t) 128 4 else if v = 1 then setM (psM (ip0 (ipI I t)) t) n 0 else if v = 2 then psM (ip0 (ipI I t)) t 128 6 else sumM (psM (ip0 (ipI I t)) t) n) = a → ST l E I F mX4_ifPassed mX5_ifPassed [.int (nI t), .int v] := fun a h1 h2 => by
        rw [ex a h1] at c4
        rw [ey a h2] at c5
        exact ⟨a, ipI I t, F, _, c4, c5, hfin⟩
      rcases e3 with rfl | rfl | rfl | rfl
      · refine close _ (swf_at (show (0 : Int32) = nI 0 from rfl) (by omega) (by omega)) ?_
        rw [if_pos rfl]
        show _ = sumC (ipI I t) (12 + 8) - sumC (ipI I t) (1 + 8)
        have eb : sumC (ipI I t) (1 + 8) = ip0 (ipI I t) 128 4 := by
          rw [show sumC (ipI I t) (1 + 8) = sumC I (1 + 8) by rw [sumC_sm, sumC_sm, efr (1 + 8) (by omega)], hR.2.1.2.2.2]
          unfold ip0
          rw [uc4, if_neg (by omega), mvM_ne (by omega), e128]
        rw [hop.2.1.2.2.2, eb]
      · refine close _ (swf_at (show (1 : Int32) = nI 1 from rfl) (by omega) (by omega)) ?_
        rw [if_neg (by decide), if_pos rfl]
        exact (RS_set hop.1 (by decide)).symm
      · refine close _ (swf_at (show (2 : Int32) = nI 2 from rfl) (by omega) (by omega)) ?_
        rw [if_neg (by decide), if_neg (by decide), if_pos rfl]
        exact hop.2.1.2.2.1.symm
      · refine close _ (swf_out (by decide)) ?_
        rw [if_neg (by decide), if_neg (by decide), if_neg (by decide)]
        exact (RR_vals hop).symm
    · have ex : xIfP I t v = (-2, I) := if_neg gv
      rw [ex] at c4
      have hs : RR (up (copyC I 12 1) 12 17 0) 12 (ip0 I 128) n w := RR_g0 (RR_trial hR rfl) (by
        unfold ip0
        exact ⟨by rw [uc4, if_pos rfl], fun y hy => by rw [uc4, if_neg hy]⟩)
      obtain ⟨⟨w2, hop⟩, hT⟩ := RR_pass hs t
      have c5 := tX5_ifPassed (l := l) (E := E) (I := I) hl (show t < 2147483648 by omega) g n8 hT hop.1.1.2.1.2.1 v
      have ey : yIfP I n t v = (-2, I) := if_neg gv
      rw [ey] at c5
      exact ST_no H c4 c5
  · have g : isW x 1 200 = false := by simpa using g
    exact ST_no H (tX4_ifPassed_no hl x v g) (tX5_ifPassed_no hl x v g)
end OPS
