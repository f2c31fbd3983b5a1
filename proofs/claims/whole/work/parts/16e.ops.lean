/-! allAwake, leastCurrent, quiet -/
theorem tuR_fr {x : Nat} (h : x < 12 ∨ 22 < x) : ∀ k t J, (tuR k t J).2 x = J x
  | 0, _, _ => rfl
  | k + 1, t, J => by
    unfold tuR
    split
    · rfl
    · split
      · rfl
      · rw [tuR_fr h k (t + 1), mvC_fr (by omega)]
theorem tuC_fr {I : Mi} {cur : Int32} {m x : Nat} (h : x < 12 ∨ 22 < x) : (tuC I cur m).2 x = I x := by
  unfold tuC
  rw [tuR_fr h]
  unfold tu0
  rw [oswC_fr (by omega), up_ne (by omega), copyC_ne (by omega)]
theorem aaR_fr {n x : Nat} (h : OM x) : ∀ k d J, (aaR n k d J).2 x = J x
  | 0, d, J => by unfold aaR; split <;> rfl
  | k + 1, d, J => by
    unfold aaR
    split
    · rfl
    · rw [aaR_fr h k (d + 1), tkM_fr h]
theorem aw0_fr {I : Mi} {cur : Int32} {n x : Nat} (h : x ≠ 128) : aw0 I cur n x = mvM 128 0 129 0 I x := by
  unfold aw0
  rw [lp_fr (fun i J => by
    unfold awB
    split
    · exact wtM_fr h
    · rfl) n _]
  unfold aw1
  rw [up_ne h]
/-- what is left of the reference's memory behind allAwakeWith -/
theorem yAa_fr (I : Mi) (cur : Int32) (n : Nat) : (∀ x, OM x → x ≠ 129 → (yAa I cur n).2 x = I x) ∧ ∀ y, y < 96 → (yAa I cur n).2 128 y = I 128 y := by
  have e129 : ∀ y, y < 96 → (aaR n 200 0 (aw0 I cur n)).2 129 y = I 128 y := fun y hy => by
    rw [aaR_fr ⟨by omega, by omega, by omega⟩, aw0_fr (by omega)]
    have := mvM_at 128 0 129 0 I (by omega) y hy
    rw [Nat.zero_add] at this
    exact this
  refine ⟨fun x h1 h2 => ?_, fun y hy => ?_⟩
  · show mvM 129 0 128 0 _ x = I x
    rw [mvM_ne h1.1, aaR_fr h1, aw0_fr h1.1, mvM_ne h2]
  · show mvM 129 0 128 0 _ 128 y = I 128 y
    have := mvM_at 129 0 128 0 (aaR n 200 0 (aw0 I cur n)).2 (by omega) y hy
    rw [Nat.zero_add] at this
    rw [this, e129 y hy]
theorem RS_obs {I2 I : Mi} {a b n w : Nat} {K2 K : Kr} (hC : CE I2 a I b) (hK : ∀ y, y < 96 → K2 y = K y) (h : RS I b K n w) : RS I2 a K2 n w := ⟨RB_obs hC hK h.1, RQ_obs h.1.1 hC hK h.2⟩
/-- memories that look alike where it matters: the class's trial chip and the reference's scratch rows may differ -/
def LK (I2 I : Mi) : Prop := ∀ x, x < 12 ∨ 22 < x → I2 x = I x
def LM (J2 J : Mi) : Prop := (∀ x, OM x → x ≠ 129 → J2 x = J x) ∧ ∀ y, y < 96 → J2 128 y = J 128 y
section OPS
variable {l : Launch} {E : EE} {I : Mi} {F : Mr}
theorem INV_LM {I2 I3 : Mi} (H : INV I F) (h2 : LK I2 I) (h3 : LM I3 I2) : INV I3 F := by
  obtain ⟨hl, h, k, n, w, pl, hb, h0, hR, hS, hP, hj⟩ := id H
  have e : ∀ x, OM x → x ≠ 129 → (x < 12 ∨ 22 < x) → I3 x = I x := fun x x1 x2 x3 => (h3.1 x x1 x2).trans (h2 x x3)
  have e127 := e 127 ⟨by omega, by omega, by omega⟩ (by omega) (by omega)
  refine INV_scr (fun x hx => e x ⟨by omega, by omega, by omega⟩ (by omega) (by omega)) (fun y hy => ?_) (by rw [e127]) (by rw [e127]) (by rw [e127]; exact hj) H
  rw [h3.2 y hy, h2 128 (by omega)]
theorem st_allAwake (H : INV I F) : ST l E I F mX4_allAwake mX5_allAwake [] := by
  obtain ⟨hl, h, k, n, w, pl, hb, h0, hR, hS, hP, hj⟩ := id H
  have c4 := tX4_allAwake (l := l) (E := E) (I := I) hl
  have hk : LK (tuC I (I 1 13) 200).2 I := fun x hx => tuC_fr hx
  have e128 := hk 128 (by omega)
  have hS2 : RS I 1 ((tuC I (I 1 13) 200).2 128) n w := by rw [e128]; exact hR.1
  have ec : (tuC I (I 1 13) 200).2 128 0 = I 1 13 := by rw [e128]; exact hR.1.1.2.1.2.2.1.symm
  have c5 := tX5_allAwake (l := l) (E := E) (I := (tuC I (I 1 13) 200).2) hl hR.1.1.1 hS2.1.2.1.2.1 hS2.2.1 hS2.2.2.1.2 (AW_ok _ hS2)
  have ea : (tuC I (I 1 13) 200).1 = (yAa (tuC I (I 1 13) 200).2 (I 1 13) n).1 := tuC_yAa (I 1 13) hS2
  have hf := yAa_fr (tuC I (I 1 13) 200).2 (I 1 13) n
  rw [ec] at c5
  generalize yAa (tuC I (I 1 13) 200).2 (I 1 13) n = r at c5 ea hf
  generalize tuC I (I 1 13) 200 = p at c4 c5 ea hf hk
  rw [← ea] at c5
  exact ⟨p.1, p.2, F, r.2, c4, c5, INV_LM H hk hf⟩
/-- both look for the least current -/
theorem lc_eq {n w m : Nat} (hm : m ≤ 200) (k : Nat) : ∀ (c : Nat) (X Y : Mi), RS X 1 (Y 128) n w → (lcR m k c X).1 = (yLc m n k c Y).1 ∧ LK (lcR m k c X).2 X ∧ LM (yLc m n k c Y).2 Y := by
  induction k with
  | zero => exact fun c X Y h => ⟨rfl, fun _ _ => rfl, fun _ _ _ => rfl, fun _ _ => rfl⟩
  | succ k ih =>
    intro c X Y h
    have e := tuC_m hm (nI (c + 1)) h
    have hX : LK (tuC X (nI (c + 1)) m).2 X := fun x hx => tuC_fr hx
    have hY : LM (yAa Y (nI (c + 1)) n).2 Y := yAa_fr _ _ _
    have eX : lcR m (k + 1) c X = if (tuC X (nI (c + 1)) m).1 = -6 then lcR m k (c + 1) (tuC X (nI (c + 1)) m).2 else (nI (c + 1), (tuC X (nI (c + 1)) m).2) := rfl
    have eY : yLc m n (k + 1) c Y = if (yAa Y (nI (c + 1)) n).1 = -6 then yLc m n k (c + 1) (yAa Y (nI (c + 1)) n).2
        else if nI m < (yAa Y (nI (c + 1)) n).1 then yLc m n k (c + 1) (yAa Y (nI (c + 1)) n).2 else (nI (c + 1), (yAa Y (nI (c + 1)) n).2) := rfl
    rw [eX, eY]
    generalize yAa Y (nI (c + 1)) n = r at e hY ⊢
    generalize tuC X (nI (c + 1)) m = p at e hX ⊢
    have h' : RS p.2 1 (r.2 128) n w := RS_obs (CE.same (fun x x1 x2 => hX x (by omega))) hY.2 h
    obtain ⟨r1, r2, r3⟩ := ih (c + 1) p.2 r.2 h'
    have r2' : LK (lcR m k (c + 1) p.2).2 X := fun x hx => (r2 x hx).trans (hX x hx)
    have r3' : LM (yLc m n k (c + 1) r.2).2 Y := ⟨fun x x1 x2 => (r3.1 x x1 x2).trans (hY.1 x x1 x2), fun y hy => (r3.2 y hy).trans (hY.2 y hy)⟩
    by_cases g : p.1 = -6
    · rw [if_pos g]
      rcases e.mp g with q | q
      · rw [if_pos q]; exact ⟨r1, r2', r3'⟩
      · by_cases q6 : r.1 = -6
        · rw [if_pos q6]; exact ⟨r1, r2', r3'⟩
        · rw [if_neg q6, if_pos q]; exact ⟨r1, r2', r3'⟩
    · rw [if_neg g, if_neg (fun z => g (e.mpr (Or.inl z))), if_neg (fun z => g (e.mpr (Or.inr z)))]
      exact ⟨rfl, hX, hY⟩
theorem st_leastCurrent (H : INV I F) (x : Int32) : ST l E I F mX4_leastCurrent mX5_leastCurrent [.int x] := by
  obtain ⟨hl, h, k, n, w, pl, hb, h0, hR, hS, hP, hj⟩ := id H
  by_cases g : isW x 0 200 = true
  · obtain ⟨m, hm, rfl⟩ := isW_200 (m := 200) rfl (by omega) (by decide) g
    have c4 := tX4_leastCurrent (l := l) (E := E) (I := I) hl hm g
    obtain ⟨-, hk, -⟩ := lc_eq hm 60 0 I I hR.1
    have e128 := hk 128 (by omega)
    have hS2 : RS I 1 ((lcR m 60 0 I).2 128) n w := by rw [e128]; exact hR.1
    obtain ⟨r1, -, r3⟩ := lc_eq hm 60 0 I (lcR m 60 0 I).2 hS2
    have hrow : ∀ i, RS I 1 (lcS n (lcR m 60 0 I).2 i 128) n w := fun i => by
      refine RS_obs (CE.same (fun _ _ _ => rfl)) (fun y hy => ?_) hS2
      induction i with
      | zero => rfl
      | succ i ih => rw [lcS_s, (yAa_fr _ _ _).2 y hy]; exact ih
    have c5 := tX5_leastCurrent (l := l) (E := E) (I := (lcR m 60 0 I).2) hl hm g hR.1.1.1 hR.1.2.1 (fun i _ => ⟨AW_ok _ (hrow i), (hrow i).1.2.1.2.1, (hrow i).2.2.1.2⟩)
    generalize yLc m n 60 0 (lcR m 60 0 I).2 = r at c5 r1 r3
    generalize lcR m 60 0 I = p at c4 c5 r1 r3 hk
    rw [← r1] at c5
    exact ⟨p.1, p.2, F, r.2, c4, c5, INV_LM H hk r3⟩
  · have g : isW x 0 200 = false := by simpa using g
    exact ST_no H (tX4_leastCurrent_no hl x g) (tX5_leastCurrent_no hl x g)
theorem i32_sub0 {x y : Int32} : x - y = 0 ↔ x = y := by
  constructor
  · intro h
    have := congrArg (· + y) h
    simpa using this
  · rintro rfl
    exact Int32.sub_self x
/-- one island tried, both ways -/
theorem qu_step {X Y : Mi} {n w t i : Nat} (h : RR X 1 (Y 128) n w) (hi : i < n) (u : Int32) : (quB t i (u, X)).1 = (quM t i (u, Y)).1 ∧ LK (quB t i (u, X)).2 X ∧ LM (quM t i (u, Y)).2 Y ∧ (decide (pt Y i 7 = 0) = true → ∀ j, j < t → TI (psM (q0M Y i) j)) := by
  have s4 : X (1 + 4) i = pt Y i 7 := (h.1.1.2.2.1 i hi).1.2.2.2.1
  unfold quB quM
  dsimp only
  by_cases g : X (1 + 4) i = 0
  · have hs : RR (up (copyC X 12 1) (12 + 4) i 1) 12 (q0M Y i 128) n w := by
      have h1 : RR (copyC X 12 1) 12 (mvM 128 0 129 0 Y 128) n w := RR_obs (copyC_CE X (by omega)) (fun y _ => by rw [mvM_ne (by omega)]) h
      refine RR_fall1 12 h1 hi ?_
      have := (copyC_CE X (a := 12) (b := 1) (by omega)).2 4 (by omega) (by omega) i (by have := h.1.1.1; omega)
      exact this.trans g
    obtain ⟨⟨w2, hop⟩, hT⟩ := RR_pass hs t
    have hop : RR (sqI X i t) 12 (psM (q0M Y i) t 128) n w2 := hop
    have hk : LK (sqI X i t) X := fun x hx => by
      unfold sqI
      rw [passC_fr (by omega) t, up_ne (by omega), copyC_ne (by omega)]
    have hm : LM (mvM 129 0 128 0 (psM (q0M Y i) t)) Y := by
      refine ⟨fun x h1 h2 => ?_, fun y hy => ?_⟩
      · rw [mvM_ne h1.1, psM_fr h1]
        unfold q0M
        rw [spn h1.1, mvM_ne h2]
      · have e1 := mvM_at 129 0 128 0 (psM (q0M Y i) t) (by omega) y hy
        have e2 := mvM_at 128 0 129 0 Y (by omega) y hy
        rw [Nat.zero_add] at e1 e2
        rw [e1, psM_fr ⟨by omega, by omega, by omega⟩]
        unfold q0M
        rw [spn (by omega)]
        exact e2
    have eq : sqC X i t = decide (psM (q0M Y i) t 128 4 - q0M Y i 128 4 = 0) := by
      unfold sqC
      have e1 : sumC (sqI X i t) (12 + 8) = psM (q0M Y i) t 128 4 := hop.2.1.2.2.2
      have e2 : sumC (sqI X i t) (1 + 8) = q0M Y i 128 4 := by
        rw [show sumC (sqI X i t) (1 + 8) = sumC X (1 + 8) by rw [sumC_sm, sumC_sm, hk (1 + 8) (by omega)], h.2.1.2.2.2]
        unfold q0M
        rw [spo (by omega), mvM_ne (by omega)]
      rw [e1, e2]
      by_cases c : psM (q0M Y i) t 128 4 = q0M Y i 128 4
      · rw [decide_eq_true c, decide_eq_true (i32_sub0.mpr c)]
      · rw [decide_eq_false c, decide_eq_false (fun z => c (i32_sub0.mp z))]
    rw [if_pos g, if_pos (decide_eq_true (s4.symm.trans g)), eq]
    by_cases c : psM (q0M Y i) t 128 4 - q0M Y i 128 4 = 0
    · rw [if_pos (decide_eq_true c), if_pos c]
      exact ⟨rfl, hk, hm, fun _ => hT⟩
    · rw [if_neg (fun z => c (of_decide_eq_true z)), if_neg c]
      exact ⟨(or_0 u).symm, hk, hm, fun _ => hT⟩
  · have g' : ¬ decide (pt Y i 7 = 0) = true := fun z => g (s4.trans (of_decide_eq_true z))
    rw [if_neg g, if_neg g']
    exact ⟨rfl, fun _ _ => rfl, ⟨fun _ _ _ => rfl, fun _ _ => rfl⟩, fun z => absurd z g'⟩
theorem qu_all {I J : Mi} {n w t : Nat} (h : RR I 1 (J 128) n w) : ∀ i, i ≤ n → (quR I t i).1 = (quS J t i).1 ∧ LK (quR I t i).2 I ∧ LM (quS J t i).2 J ∧ RR (quR I t i).2 1 ((quS J t i).2 128) n w
  | 0, _ => ⟨rfl, fun _ _ => rfl, ⟨fun _ _ _ => rfl, fun _ _ => rfl⟩, h⟩
  | i + 1, hi => by
    obtain ⟨h1, h2, h3, h4⟩ := qu_all h i (by omega)
    rw [quR_s, quS_s]
    generalize quR I t i = p at h1 h2 h4 ⊢
    generalize quS J t i = r at h1 h3 h4 ⊢
    obtain ⟨u, X⟩ := p
    obtain ⟨v, Y⟩ := r
    dsimp only at h1 h2 h3 h4
    subst h1
    obtain ⟨g1, g2, g3, -⟩ := qu_step (t := t) h4 (show i < n by omega) u
    have g2' : LK (quB t i (u, X)).2 I := fun x hx => (g2 x hx).trans (h2 x hx)
    have g3' : LM (quM t i (u, Y)).2 J := ⟨fun x x1 x2 => (g3.1 x x1 x2).trans (h3.1 x x1 x2), fun y hy => (g3.2 y hy).trans (h3.2 y hy)⟩
    exact ⟨g1, g2', g3', RR_obs (CE.same (fun x x1 x2 => g2' x (by omega))) g3'.2 h⟩
theorem quR_8 {I : Mi} {n w t : Nat} (h : RR I 1 (I 128) n w) : quR I t 8 = quR I t n := by
  have key : ∀ m, n ≤ m → m ≤ 8 → quR I t m = quR I t n := by
    intro m
    induction m with
    | zero => intro h1 _; rw [show n = 0 by omega]
    | succ m ih =>
      intro h1 h2
      rcases Nat.lt_or_ge n (m + 1) with q | q
      · rw [quR_s, ih (by omega) (by omega)]
        obtain ⟨-, g2, -, -⟩ := qu_all (t := t) h n (Nat.le_refl _)
        generalize quR I t n = p at g2 ⊢
        obtain ⟨u, X⟩ := p
        dsimp only at g2
        unfold quB
        dsimp only
        rw [if_neg (by rw [g2 (1 + 4) (by omega), (h.1.1.2.2.2 m (by omega) (by omega)).1]; decide)]
      · rw [show n = m + 1 by omega]
  exact key 8 h.1.1.1 (Nat.le_refl _)
theorem st_quiet (H : INV I F) (x : Int32) : ST l E I F mX4_quiet mX5_quiet [.int x] := by
  obtain ⟨hl, h, k, n, w, pl, hb, h0, hR, hS, hP, hj⟩ := id H
  by_cases g : isW x 1 50 = true
  · obtain ⟨t, ht, rfl⟩ := isW_200 (m := 50) rfl (by omega) (by decide) g
    have c4 := tX4_quiet (l := l) (E := E) (I := I) hl (show t < 2147483648 by omega) g
    rw [quR_8 hR] at c4
    obtain ⟨-, hk, -, -⟩ := qu_all (t := t) hR n (Nat.le_refl _)
    have e128 := hk 128 (by omega)
    have hR2 : RR I 1 ((quR I t n).2 128) n w := by rw [e128]; exact hR
    have hq := qu_all (t := t) hR2
    have c5 := tX5_quiet (l := l) (E := E) (I := (quR I t n).2) hl (show t < 2147483648 by omega) g hR.1.1.1 (fun i hi => (hq i hi).2.2.2.1.1.2.1.2.1) (fun i hi hd => (qu_step (t := t) (hq i (by omega)).2.2.2 hi (quS (quR I t n).2 t i).1).2.2.2 hd)
    obtain ⟨r1, -, r3, -⟩ := hq n (Nat.le_refl _)
    rw [← r1] at c5
    exact ⟨(quR I t n).1, (quR I t n).2, F, (quS (quR I t n).2 t n).2, c4, c5, INV_LM H hk r3⟩
  · have g : isW x 1 50 = false := by simpa using g
    exact ST_no H (tX4_quiet_no hl x g) (tX5_quiet_no hl x g)
end OPS
