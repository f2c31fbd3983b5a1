/-! read, both ways -/
theorem rp_rise {c : Nat → Int32} {L n j : Nat} (hc : SG c L) (h : (rpS c L n j).1 = true) : ∃ z, 1 ≤ z ∧ z ≤ 9 ∧ (rpR c L j).1 = nI z := by
  by_cases g1 : isW (chP c L (rpK c L j) - 48) 1 9 = true
  · have hk : rpK c L j < L := by
      rcases Nat.lt_or_ge (rpK c L j) L with q | q
      · exact q
      · rw [chP_out q, out_19.1] at g1
        cases g1
    obtain ⟨v, hv, ev⟩ := hc _ hk
    have ecv : chP c L (rpK c L j) = nI v := by rw [chP_at hk, ev]
    obtain ⟨d, hd, hd1, ed⟩ := dg_19 v hv (by rw [← ecv]; exact g1)
    have eR : rpR c L j = (chP c L (rpK c L j) - 48, rpK c L j + 1) := tdP_y g1
    exact ⟨d, hd1, by omega, by rw [eR, ecv, ed]⟩
  · have g1 : isW (chP c L (rpK c L j) - 48) 1 9 = false := by simpa using g1
    have eR : rpR c L j = (-1, rpK c L j) := tdP_n g1
    have eL : rpL c L j = (-1, rpK c L j) := by
      unfold rpL ldP
      rw [eR]
      rfl
    have eS : rpS c L n j = (false, rpK c L j, 0) := by
      unfold rpS
      rw [eL]
      dsimp only
      rw [show decide (¬ (-1 : Int32) < 0) = false by decide]
      exact rdE_false c L n _ 64
    rw [eS] at h
    cases h
theorem TI5_t (c : Nat → Int32) (L : Nat) (t t2 : T5) (i : Nat) : TI5 c L t i = TI5 c L t2 i := by
  rw [TI5_e, TI5_e, ffS_fst c L t t2 i]
theorem bi_if0 (b : Bool) : (if bi b = 0 then (0 : Int32) else 1) = bi b := by cases b <;> rfl
theorem rdJ_fr {c : Nat → Int32} {L : Nat} {t : T5} {J0 : Mi} {x : Nat} (h1 : x ≠ 127) (h2 : x ≠ 128) : ∀ i, rdJ c L t J0 i x = J0 x
  | 0 => by rw [rdJ_0]
  | i + 1 => by rw [rdJ_s, cmM_ne h2, pT_ne h1]; exact rdJ_fr h1 h2 i
theorem pT_3 (I : Mi) (j : Nat) (t : T5) : pT I j t 127 3 = I 127 3 := rfl
theorem rdJ_3 {c : Nat → Int32} {L : Nat} {t : T5} {J0 : Mi} : ∀ i, rdJ c L t J0 i 127 3 = J0 127 3
  | 0 => by rw [rdJ_0]
  | i + 1 => by rw [rdJ_s, cmM_ne (by omega), pT_3]; exact rdJ_3 i
theorem rdJ_lo {c : Nat → Int32} {L : Nat} {t : T5} {J0 : Mi} {y : Nat} (h1 : y < 16) (h2 : y ≠ 2) : ∀ i, rdJ c L t J0 i 128 y = J0 128 y
  | 0 => by rw [rdJ_0]
  | i + 1 => by rw [rdJ_s, (cmM_f _ _ _ _ _ _ _).2.1 y h1 h2, pT_ne (by omega)]; exact rdJ_lo h1 h2 i
theorem NW0_text {I J0 : Mi} {c : Nat → Int32} {L m : Nat} {t t1 : T5} (hc : SG c L) (hok : ∀ u, u < m → (rpS c L u (ffS c L (0, t) u).1).1 = true) (hm : m ≤ 8) (hJ : ∀ y, 2 ≤ y → y < 8 → J0 128 y = 0) (i : Nat) : i ≤ m → NW0 (acc c L t i (clearC I 26)) 26 (rdJ c L t1 J0 i 128) i 0 8 := by
  induction i with
  | zero =>
    intro _
    rw [rdJ_0]
    exact NW0_clear hJ
  | succ i ih =>
    intro hi
    have h := ih (by omega)
    rw [acc_s, rdJ_s]
    have eT : (ffS c L (0, t1) (i + 1)).2 = TI5 c L t i := TI5_t c L t1 t i
    rw [eT]
    have e5 := TI5_e c L t i
    have h2 : NW0 (acc c L t i (clearC I 26)) 26 (pT (rdJ c L t1 J0 i) (ffS c L (0, t1) (i + 1)).1 (TI5 c L t i) 128) i 0 8 := by rw [pT_ne (by omega)]; exact h
    have h3 := NW0_add (iso := (TI5 c L t i).1) (keep := (TI5 c L t i).2.1) (r := (TI5 c L t i).2.2.1) (d := (TI5 c L t i).2.2.2.1) (m := (TI5 c L t i).2.2.2.2) h2 (by omega) (by rw [e5]; exact rp_rise hc (hok i (by omega))) (fun j j1 j2 => by omega)
    have q1 : (if (TI5 c L t i).1 = 0 then (0 : Int32) else 1) = (TI5 c L t i).1 := by rw [e5]; exact bi_if0 _
    have q2 : (if (TI5 c L t i).2.1 = 0 then (0 : Int32) else 1) = (TI5 c L t i).2.1 := by rw [e5]; exact bi_if0 _
    rw [q1, q2] at h3
    exact h3
theorem acc_29 {I : Mi} {c : Nat → Int32} {L : Nat} {t : T5} (m : Nat) : m ≤ 8 → ∀ i, i < 8 → acc c L t m (clearC I 26) (26 + 3) i = if i < m then (TI5 c L t i).2.2.2.2 else 0 := by
  induction m with
  | zero =>
    intro _ i hi
    rw [if_neg (by omega)]
    have := (clearC_f I 26).2.2.2 3 (by omega) (by omega) i hi
    rw [if_neg (by omega)] at this
    exact this
  | succ m ih =>
    intro hm i hi
    rw [acc_s, ((addC_f _ 26 m _ _ _ _ _).2 i).1.2.2.1]
    by_cases e : i = m
    · rw [if_pos e, if_pos (by omega), e]
    · rw [if_neg e, ih (by omega) i hi]
      by_cases q : i < m
      · rw [if_pos q, if_pos (by omega)]
      · rw [if_neg q, if_neg (by omega)]
theorem oru_more {v : Nat → Int32} {n m : Nat} (h : n ≤ m) (hc : ∀ i, n ≤ i → i < m → v i = 0) : oru v m = oru v n := lp_more h (fun i h1 h2 s => by rw [hc i h1 h2, or_0]) 0
theorem oru_congr {v w : Nat → Int32} {n : Nat} (h : ∀ i, i < n → v i = w i) : oru v n = oru w n := lp_congr (fun i hi s => by rw [h i hi]) 0
theorem all_read {I X : Mi} {c : Nat → Int32} {L m : Nat} {t t0 : T5} (hm : m ≤ 8) (hX : ∀ x, x ≠ 25 → X x = acc c L t m (clearC I 26) x) : orR X 26 = alS c L (0, t0) m := by
  rw [orR_oru]
  show _ = oru (fun i => (ffS c L (0, t0) (i + 1)).2.2.2.2.2) m
  have e : ∀ i, i < 8 → X (26 + 3) i = if i < m then (TI5 c L t i).2.2.2.2 else 0 := fun i hi => by rw [hX _ (by omega)]; exact acc_29 m hm i hi
  rw [oru_more (v := fun i => X (26 + 3) i) (n := m) hm (fun i h1 h2 => by rw [e i h2, if_neg (by omega)])]
  exact oru_congr (fun i hi => by
    rw [e i (by omega), if_pos hi, TI5_t c L t t0 i]
    rfl)
theorem zSt_at (I : Mi) (k : Nat) : (∀ y, y < 2 → zSt I k 128 y = I 128 y) ∧ ∀ y, 2 ≤ y → y < k + 2 → zSt I k 128 y = 0 := by
  induction k with
  | zero => exact ⟨fun _ _ => rfl, fun y h1 h2 => by omega⟩
  | succ k ih =>
    refine ⟨fun y hy => ?_, fun y h1 h2 => ?_⟩
    · rw [zSt_s, uc4, if_neg (by omega)]; exact ih.1 y hy
    · rw [zSt_s, uc4]
      by_cases e : y = k + 2
      · rw [if_pos e]
      · rw [if_neg e]; exact ih.2 y h1 (by omega)
theorem neg1_0 : ¬ (0 : Int32) ≤ -1 := by decide
section OPS
variable {l : Launch} {E : EE} {I : Mi} {F : Mr}
theorem st_read (H : INV I F) : ST l E I F mX4_read mX5_read [] := by
  obtain ⟨hl, h, k, n, w, pl, hb, h0, hR, hS, hP, hj⟩ := id H
  obtain ⟨pd, sg⟩ := IPd.pd hP
  have k6 := h0.1.1
  have e127 := h0.1.2.2
  have p1 := hP.1
  have p3 := hP.2.2.1
  obtain ⟨j, ej⟩ := hj
  have c4 := tX4_read (l := l) (E := E) (I := I) hl hb k6 h0.1.2.1
  have hT := ffC_ffM (I := I) (I 127 11, I 127 12, I 127 13, I 127 14, I 127 15) p1 pd sg
  have hself : ∀ Z : Mi, Z 127 = I 127 → pT Z j (I 127 11, I 127 12, I 127 13, I 127 14, I 127 15) = Z := fun Z hZ => pT_self (by rw [hZ, ej]) (by rw [hZ]) (by rw [hZ]) (by rw [hZ]) (by rw [hZ]) (by rw [hZ])
  generalize (I 127 11, I 127 12, I 127 13, I 127 14, I 127 15) = t at hT hself
  have efr : ∀ x, x < 25 ∨ 36 < x → (ffC I).2 x = I x := fun x hx => ffC_ne hx
  by_cases g : (ffC I).1 = -6
  · have gM : (ffM (I 133) pl 8 0 (0, t)).1 = -6 := hT.1.symm.trans g
    obtain ⟨m, m0, m8, mu, mL, mX⟩ := hT.2 gM
    have x0 : (ffC I).2 26 0 = nI m := by
      rw [mX 26 (by omega)]
      exact acc_0 ((clearC_f I 26).1 0 (by simp)) m
    have hor : ∀ t0, orR (ffC I).2 26 = alS (I 133) pl (0, t0) m := fun t0 => all_read m8 mX
    have hm5 : ∀ Z : Mi, Z 133 = I 133 → (ffM (Z 133) pl 8 0 (0, t)).1 = -6 → m ≤ 8 ∧ (∀ i, i < m → (ffS (Z 133) pl (0, t) i).1 < pl) ∧ (ffS (Z 133) pl (0, t) m).1 = pl := fun Z hZ _ => by
      rw [hZ]
      exact ⟨m8, fun i hi => (mu i hi).1, mL⟩
    by_cases gb : orR (ffC I).2 26 >>> (nI m &&& 31) = 0
    · -- all that are read are there
      have ex : xRead I F h k = (rdI I h k 1 0, rdI I h k, recF F h k) := by
        unfold xRead
        rw [if_pos g, x0, if_pos (decide_eq_true gb)]
      rw [ex] at c4
      generalize hXe : (ffC I).2 = X at efr mX x0 hor gb
      have eX : rdI I h k = up (copyC (up (up (recI X h k 1) 26 13 (recI X h k 1 1 13)) 26 14 (up (recI X h k 1) 26 13 (recI X h k 1 1 13) 1 14)) 1 26) 23 1 0 := by rw [← hXe]; rfl
      rw [eX] at c4
      have h0X : IHs X h k := h0.of hb (fun x x1 x2 => efr x (by omega)) (efr 130 (by omega)) (by rw [efr 127 (by omega)])
      have hRX : RR X 1 (X 128) n w := RR_obs (CE.same (fun x x1 x2 => efr x (by omega))) (fun y _ => by rw [efr 128 (by omega)]) hR
      have hSX : ISl X := hS.of (fun x hx => efr x (by omega)) (fun x hx => efr x (by omega))
      have rfr : ∀ x, x < 37 ∨ 104 < x → recI X h k 1 x = X x := fun x hx => recI_fr hb k6 hx
      generalize hRe : recI X h k 1 = R at c4 rfr
      rw [up_ne (show (1 : Nat) ≠ 26 by omega)] at c4
      have q26 : ∀ f, f ≠ 13 → f ≠ 14 → up (up R 26 13 (R 1 13)) 26 14 (R 1 14) 26 f = X 26 f := fun f f1 f2 => by rw [uc4, if_neg f2, uc4, if_neg f1, rfr 26 (by omega)]
      have q13 : up (up R 26 13 (R 1 13)) 26 14 (R 1 14) 26 13 = I 1 13 := by rw [uc4, if_neg (by omega), uc4, if_pos rfl, rfr 1 (by omega), efr 1 (by omega)]
      have q14 : up (up R 26 13 (R 1 13)) 26 14 (R 1 14) 26 14 = I 1 14 := by rw [uc4, if_pos rfl, rfr 1 (by omega), efr 1 (by omega)]
      have qx : ∀ x, x ≠ 26 → up (up R 26 13 (R 1 13)) 26 14 (R 1 14) x = R x := fun x hx => by rw [up_ne hx, up_ne hx]
      generalize up (up R 26 13 (R 1 13)) 26 14 (R 1 14) = Q at c4 q26 q13 q14 qx
      have hC := copyC_CE Q (a := 1) (b := 26) (by omega)
      have cn : ∀ x, (x < 1 ∨ 11 ≤ x) → copyC Q 1 26 x = Q x := fun x hx => copyC_ne (by omega)
      have z1 : ∀ x, (x < 1 ∨ 11 ≤ x) → x ≠ 23 → x ≠ 26 → up (copyC Q 1 26) 23 1 0 x = R x := fun x h1 h2 h3 => by rw [up_ne h2, cn x h1, qx x h3]
      have z23 : up (copyC Q 1 26) 23 1 0 23 1 = 0 := by rw [uc4, if_pos rfl]
      have zC : CE (up (copyC Q 1 26) 23 1 0) 1 Q 26 := ⟨fun f hf => by rw [up_ne (by omega)]; exact hC.1 f hf, fun a a1 a9 i hi => by rw [up_ne (by omega)]; exact hC.2 a a1 a9 i hi⟩
      generalize up (copyC Q 1 26) 23 1 0 = Z at c4 z1 z23 zC
      have zI : ∀ x, 105 ≤ x → Z x = I x := fun x hx => by rw [z1 x (by omega) (by omega) (by omega), rfr x (by omega), efr x (by omega)]
      have c5 := tX5_read (l := l) (E := E) (I := Z) (j := j) (t9 := t) (m9 := m) (recF_LY (h := h) (k := k) hl) k6 (by rw [zI 127 (by omega), e127]) p1 (by rw [zI 127 (by omega), p3]) (hm5 Z (zI 133 (by omega)))
      rw [hself Z (zI 127 (by omega))] at c5
      have ey : yRead Z k pl m j t = (nI m, up (pT (rdJ (I 133) pl (ffS (I 133) pl (0, (ffM (I 133) pl 8 0 (0, t)).2.2) m).2 (yReadJ Z k pl m (ffM (I 133) pl 8 0 (0, t)).2.2) m) (ffS (I 133) pl (0, (ffS (I 133) pl (0, (ffM (I 133) pl 8 0 (0, t)).2.2) m).2) m).1 (ffS (I 133) pl (0, (ffS (I 133) pl (0, (ffM (I 133) pl 8 0 (0, t)).2.2) m).2) m).2) 127 7 0) := by
        unfold yRead
        rw [zI 133 (by omega), if_pos gM]
        have et : tmR (alS (I 133) pl (0, (ffM (I 133) pl 8 0 (0, t)).2.2) m) m = nI m := by
          unfold tmR
          rw [← hor, if_pos gb]
        rw [et, if_pos (nI_pos' (by omega))]
      rw [ey] at c5
      have eJ : yReadJ Z k pl m (ffM (I 133) pl 8 0 (0, t)).2.2 = zSt (recM (pT Z (ffS (I 133) pl (0, (ffM (I 133) pl 8 0 (0, t)).2.2) m).1 (ffS (I 133) pl (0, (ffM (I 133) pl 8 0 (0, t)).2.2) m).2) k) 94 := by
        unfold yReadJ
        rw [zI 133 (by omega)]
      rw [eJ] at c5
      generalize (ffS (I 133) pl (0, (ffS (I 133) pl (0, (ffM (I 133) pl 8 0 (0, t)).2.2) m).2) m) = b1 at c5
      generalize (ffS (I 133) pl (0, (ffM (I 133) pl 8 0 (0, t)).2.2) m) = b2 at c5
      have w1 : ∀ x, x ≠ 127 → pT Z b2.1 b2.2 x = Z x := fun x hx => pT_ne hx
      generalize pT Z b2.1 b2.2 = W0 at c5 w1
      have j1 : ∀ x, x ≠ 128 → zSt (recM W0 k) 94 x = recM W0 k x := fun x hx => zSt_ne hx
      have j2 := zSt_at (recM W0 k) 94
      generalize zSt (recM W0 k) 94 = J0 at c5 j1 j2
      have hN := NW0_text (I := I) (c := I 133) (L := pl) (t := t) (t1 := b2.2) (J0 := J0) sg (fun u hu => (mu u hu).2) m8 (fun y y1 y2 => j2.2 y y1 (by omega)) m (Nat.le_refl _)
      have v1 : ∀ x, x ≠ 127 → x ≠ 128 → up (pT (rdJ (I 133) pl b2.2 J0 m) b1.1 b1.2) 127 7 0 x = recM W0 k x := fun x h1 h2 => by rw [up_ne h1, pT_ne h1, rdJ_fr h1 h2, j1 x h2]
      have v128 : up (pT (rdJ (I 133) pl b2.2 J0 m) b1.1 b1.2) 127 7 0 128 = rdJ (I 133) pl b2.2 J0 m 128 := by rw [up_ne (by omega), pT_ne (by omega)]
      have v3 : up (pT (rdJ (I 133) pl b2.2 J0 m) b1.1 b1.2) 127 7 0 127 3 = recM W0 k 127 3 := by rw [uc4, if_neg (by omega), pT_3, rdJ_3, j1 127 (by omega)]
      have v7 : up (pT (rdJ (I 133) pl b2.2 J0 m) b1.1 b1.2) 127 7 0 127 7 = 0 := by rw [uc4, if_pos rfl]
      have v10 : up (pT (rdJ (I 133) pl b2.2 J0 m) b1.1 b1.2) 127 7 0 127 10 = nI b1.1 := by rw [uc4, if_neg (by omega)]; exact pT_r10 _ _ _
      have k0 : rdJ (I 133) pl b2.2 J0 m 128 0 = I 128 0 := by rw [rdJ_lo (by omega) (by omega), j2.1 0 (by omega), recM_128, w1 128 (by omega), zI 128 (by omega)]
      have k1 : rdJ (I 133) pl b2.2 J0 m 128 1 = I 128 1 := by rw [rdJ_lo (by omega) (by omega), j2.1 1 (by omega), recM_128, w1 128 (by omega), zI 128 (by omega)]
      generalize up (pT (rdJ (I 133) pl b2.2 J0 m) b1.1 b1.2) 127 7 0 = V at c5 v1 v128 v3 v7 v10
      -- the new chip
      have hrow : ∀ x, x ≠ 26 → x < 37 → x ≠ 25 → Q x = acc (I 133) pl t m (clearC I 26) x := fun x h1 h2 h3 => by rw [qx x h1, rfr x (by omega), mX x h3]
      have hQ8 : NW0 Q 26 (rdJ (I 133) pl b2.2 J0 m 128) m 0 8 := NW0_ag ⟨fun f f1 f2 => by rw [q26 f f1 f2, mX 26 (by omega)], fun a a1 a9 i hi => by rw [hrow (26 + a) (by omega) (by omega) (by omega)]⟩ (fun _ _ _ => rfl) hN
      have hQ : NW0 Q 26 (rdJ (I 133) pl b2.2 J0 m 128) m 0 m := hQ8.bits (fun i hi q q1 q2 => by
        have hz : bt (orR X 26 >>> (nI m &&& 31)) (q - m) = false := by rw [gb]; exact bt_0 _
        rw [bt_shr _ (by omega) (by omega), show q - m + m = q by omega, orR_oru] at hz
        have hnot : ¬ bt (oru (fun i => X (26 + 3) i) 8) q = true := by rw [hz]; decide
        rw [oru_bt] at hnot
        rw [hrow (26 + 3) (by omega) (by omega) (by omega), ← mX (26 + 3) (by omega)]
        cases hb9 : bt (X (26 + 3) i) q
        · rfl
        · exact absurd ⟨i, by omega, hb9⟩ hnot)
      have hRQ : RR Q 26 (rdJ (I 133) pl b2.2 J0 m 128) m 0 := hQ.to (by rw [q13, k0]; exact hR.1.1.2.1.2.2.1) (by rw [q14, k1]; exact hR.1.1.2.1.2.2.2)
      have hRZ : RR Z 1 (rdJ (I 133) pl b2.2 J0 m 128) m 0 := RR_obs zC (fun _ _ => rfl) hRQ
      have vZ : ∀ x, x ≤ 126 → V x = Z x := fun x hx => by rw [v1 x (by omega) (by omega), recM_fr W0 k (by omega) (by omega), w1 x (by omega)]
      have hans : Z 1 0 = nI m := hRZ.1.1.2.1.1
      refine ⟨nI m, Z, recF F h k, V, ?_, c5, INV_rec (I := X) (I2 := W0) (pl := pl) (pl2 := 0) (n2 := m) (w2 := 0) hl hb h0X hRX hSX (fun x hx => ?_) ⟨by rw [w1 128 (by omega), zI 128 (by omega), efr 128 (by omega)], by rw [w1 130 (by omega), zI 130 (by omega), efr 130 (by omega)], by rw [w1 131 (by omega), zI 131 (by omega), efr 131 (by omega)], by rw [w1 132 (by omega), zI 132 (by omega), efr 132 (by omega)]⟩ (fun x x1 x2 => v1 x (by omega) (by omega)) v3 ⟨by omega, by rw [vZ 23 (by omega), z23]; rfl, by rw [v7]; rfl, fun x hx => absurd hx (Nat.not_lt_zero x)⟩ ⟨b1.1, v10⟩ ?_⟩
      · rw [hans] at c4; exact c4
      · rw [hRe, vZ x (by omega), z1 x (by omega) (by omega) (by omega)]
      · rw [v128]
        exact RR_obs (CE.same (fun x x1 x2 => vZ x (by omega))) (fun _ _ => rfl) hRZ
    · -- one reads an island that there is not
      have ex : xRead I F h k = (-1, (ffC I).2, F) := by
        unfold xRead
        rw [if_pos g, x0, if_neg (fun z => gb (of_decide_eq_true z))]
      rw [ex] at c4
      generalize (ffC I).2 = X at c4 efr mX x0 hor gb
      have c5 := tX5_read (l := l) (E := E) (I := X) (j := j) (t9 := t) (m9 := m) hl k6 (by rw [efr 127 (by omega), e127]) p1 (by rw [efr 127 (by omega), p3]) (hm5 X (efr 133 (by omega)))
      rw [hself X (efr 127 (by omega))] at c5
      have ey : yRead X k pl m j t = (-1, pT X (ffS (I 133) pl (0, (ffM (I 133) pl 8 0 (0, t)).2.2) m).1 (ffS (I 133) pl (0, (ffM (I 133) pl 8 0 (0, t)).2.2) m).2) := by
        unfold yRead
        rw [efr 133 (by omega), if_pos gM]
        have et : tmR (alS (I 133) pl (0, (ffM (I 133) pl 8 0 (0, t)).2.2) m) m = -1 := by
          unfold tmR
          rw [← hor, if_neg gb]
        rw [et, if_neg neg1_0]
      rw [ey] at c5
      generalize ffS (I 133) pl (0, (ffM (I 133) pl 8 0 (0, t)).2.2) m = q at c5
      exact ⟨-1, X, F, pT X q.1 q.2, c4, c5, INV_scr (fun x hx => by rw [pT_ne (by omega), efr x (by omega)]) (fun y _ => by rw [pT_ne (by omega), efr 128 (by omega)]) (by rw [pT_3, efr 127 (by omega)]) (by rw [pT_r7, efr 127 (by omega)]) ⟨q.1, pT_r10 _ _ _⟩ H⟩
  · have gM : ¬ (ffM (I 133) pl 8 0 (0, t)).1 = -6 := fun z => g (hT.1.trans z)
    have ex : xRead I F h k = (-3, (ffC I).2, F) := by
      unfold xRead
      rw [if_neg g]
    rw [ex] at c4
    generalize (ffC I).2 = X at c4 efr
    have c5 := tX5_read (l := l) (E := E) (I := X) (j := j) (t9 := t) (m9 := 0) hl k6 (by rw [efr 127 (by omega), e127]) p1 (by rw [efr 127 (by omega), p3]) (fun z => absurd z (by rw [efr 133 (by omega)]; exact gM))
    rw [hself X (efr 127 (by omega))] at c5
    have ey : yRead X k pl 0 j t = (-3, pT X (ffM (I 133) pl 8 0 (0, t)).2.1 (ffM (I 133) pl 8 0 (0, t)).2.2) := by
      unfold yRead
      rw [efr 133 (by omega), if_neg gM]
    rw [ey] at c5
    generalize ffM (I 133) pl 8 0 (0, t) = q at c5
    exact ⟨-3, X, F, pT X q.2.1 q.2.2, c4, c5, INV_scr (fun x hx => by rw [pT_ne (by omega), efr x (by omega)]) (fun y _ => by rw [pT_ne (by omega), efr 128 (by omega)]) (by rw [pT_3, efr 127 (by omega)]) (by rw [pT_r7, efr 127 (by omega)]) ⟨q.2.1, pT_r10 _ _ _⟩ H⟩
end OPS
