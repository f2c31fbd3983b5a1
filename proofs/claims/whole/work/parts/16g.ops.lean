/-! undo, save, restore, read -/
section OPS
variable {l : Launch} {E : EE} {I : Mi} {F : Mr}
theorem st_undo (H : INV I F) : ST l E I F mX4_undo mX5_undo [] := by
  obtain ⟨hl, h, k, n, w, pl, hb, h0, hR, hS, hP, hj⟩ := id H
  obtain ⟨⟨k6, e37, e127⟩, hi, hX⟩ := id h0
  rcases Nat.eq_zero_or_pos k with e | e
  · subst e
    exact ST_no H (tX4_undo_no hl e37) (tX5_undo_no hl e127)
  · obtain ⟨k, rfl⟩ : ∃ m, k = m + 1 := ⟨k - 1, by omega⟩
    have hk9 : k < 6 := by omega
    have hr := hb.r hk9
    have c4 := tX4_undo (l := l) (E := E) (I := I) hl hb hk9 e37
    have efr : ∀ x, x = 0 ∨ (12 ≤ x ∧ x ≠ 37) → tbI I h k 1 x = I x := fun x hx => by
      unfold tbI
      rw [up_ne (by omega), copyC_ne (by omega)]
    have e371 : tbI I h k 1 37 1 = nI k := by
      unfold tbI
      rw [uc4, if_pos rfl]
    have hC : CE (tbI I h k 1) 1 I (h k) := by
      unfold tbI
      have h1 := copyC_CE I (a := 1) (b := h k) (by omega)
      exact ⟨fun f hf => by rw [up_ne (by omega)]; exact h1.1 f hf, fun c c1 c9 i hi => by rw [up_ne (by omega)]; exact h1.2 c c1 c9 i hi⟩
    have ex : xUndo I h k = (nI k, tbI I h k 1) := by
      unfold xUndo
      rw [e371]
    rw [ex] at c4
    generalize tbI I h k 1 = X at c4 efr e371 hC
    have x127 : X 127 = I 127 := efr 127 (by omega)
    have c5 := tX5_undo (l := l) (E := E) (I := X) hl hk9 (by rw [x127, e127])
    have g1 : ∀ y, y < 96 → mvM 130 (k * 96) 128 0 (up X 127 3 (nI k)) 128 y = I 130 (k * 96 + y) := fun y hy => by
      have := mvM_at 130 (k * 96) 128 0 (up X 127 3 (nI k)) (by omega) y hy
      rw [Nat.zero_add] at this
      rw [this, up_ne (by omega), efr 130 (by omega)]
    have g2 : ∀ x, x ≠ 128 → x ≠ 127 → mvM 130 (k * 96) 128 0 (up X 127 3 (nI k)) x = X x := fun x h1 h2 => by rw [mvM_ne h1, up_ne h2]
    have g3 : ∀ y, mvM 130 (k * 96) 128 0 (up X 127 3 (nI k)) 127 y = if y = 3 then nI k else I 127 y := fun y => by rw [mvM_ne (by omega), uc4, x127]
    have ey : yUndo X k = (nI k, mvM 130 (k * 96) 128 0 (up X 127 3 (nI k))) := rfl
    rw [ey] at c5
    generalize mvM 130 (k * 96) 128 0 (up X 127 3 (nI k)) = Y at c5 g1 g2 g3
    obtain ⟨n2, w2, hR2⟩ := hX k (by omega)
    have hh : ∀ x, x = 0 ∨ (12 ≤ x ∧ x ≠ 37 ∧ x ≠ 127 ∧ x ≠ 128) → Y x = I x := fun x hx => by rw [g2 x (by omega) (by omega), efr x (by omega)]
    refine ⟨nI k, X, F, Y, c4, c5, hl, h, k, n2, w2, pl, hb, ⟨⟨by omega, by rw [g2 37 (by omega) (by omega), e371], by rw [g3, if_pos rfl]⟩, hi, fun j hj => ?_⟩, ?_, hS.of (fun x hx => hh x (by omega)) (fun x hx => hh x (by omega)), hP.of (hh 23 (by omega)) (hh 24 (by omega)) (hh 133 (by omega)) (by rw [g3, if_neg (by omega)]), by rw [g3, if_neg (by omega)]; exact hj⟩
    · have hrj := hb.r (show j < 6 by omega)
      exact RX_obs (CE.same (fun x x1 x2 => hh x (by omega))) (fun y _ => by rw [hh 130 (by omega)]) (hX j (by omega))
    · refine RR_obs (a := 1) (b := h k) ?_ (fun y hy => g1 y hy) hR2
      exact ⟨fun f hf => by rw [g2 1 (by omega) (by omega)]; exact hC.1 f hf, fun c c1 c9 i hi => by rw [g2 _ (by omega) (by omega)]; exact hC.2 c c1 c9 i hi⟩
theorem isW_01 {x : Int32} (h : isW x 0 1 = true) : x = 0 ∨ x = 1 := by
  obtain ⟨z, hz, rfl⟩ := isW_200 (m := 1) rfl (by omega) (by decide) h
  rcases (show z = 0 ∨ z = 1 by omega) with rfl | rfl
  · exact Or.inl rfl
  · exact Or.inr rfl
/-- a slot is written, both ways -/
theorem save_INV (H : INV I F) {z : Nat} (hz : z < 2) : (xSave I (105 + 11 * z) (nI z)).1 = (ySave (xSave I (105 + 11 * z) (nI z)).2 z).1 ∧ INV (ySave (xSave I (105 + 11 * z) (nI z)).2 z).2 F := by
  obtain ⟨hl, h, k, n, w, pl, hb, h0, hR, hS, hP, hj⟩ := id H
  have hC := copyC_CE I (a := 105 + 11 * z) (b := 1) (by omega)
  have hcn : ∀ x, x < 105 + 11 * z ∨ 105 + 11 * z + 9 < x → copyC I (105 + 11 * z) 1 x = I x := fun x hx => copyC_ne hx
  have ex : xSave I (105 + 11 * z) (nI z) = (I 1 0, up (copyC I (105 + 11 * z) 1) 0 7 (I 0 7 ||| sh1 z)) := by
    unfold xSave
    rw [hcn 0 (by omega), up_ne (show (1 : Nat) ≠ 0 by omega), hcn 1 (by omega)]
    rfl
  rw [ex]
  have x0 : ∀ x, x ≠ 0 → (x < 105 + 11 * z ∨ 105 + 11 * z + 9 < x) → up (copyC I (105 + 11 * z) 1) 0 7 (I 0 7 ||| sh1 z) x = I x := fun x h1 h2 => by rw [up_ne h1, hcn x h2]
  have x07 : up (copyC I (105 + 11 * z) 1) 0 7 (I 0 7 ||| sh1 z) 0 7 = I 0 7 ||| sh1 z := by rw [uc4, if_pos rfl]
  have hC2 : CE (up (copyC I (105 + 11 * z) 1) 0 7 (I 0 7 ||| sh1 z)) (105 + 11 * z) I 1 := ⟨fun f hf => by rw [up_ne (by omega)]; exact hC.1 f hf, fun c c1 c9 i hi => by rw [up_ne (by omega)]; exact hC.2 c c1 c9 i hi⟩
  dsimp only
  generalize up (copyC I (105 + 11 * z) 1) 0 7 (I 0 7 ||| sh1 z) = X at x0 x07 hC2
  have m1 : ∀ y, y < 96 → mvM 128 0 131 (96 * z) X 131 (96 * z + y) = I 128 y := fun y hy => by
    rw [mvM_at 128 0 131 (96 * z) X (by omega) y hy, Nat.zero_add, x0 128 (by omega) (by omega)]
  have m2 : ∀ y, (y < 96 * z ∨ 96 * z + 96 ≤ y) → mvM 128 0 131 (96 * z) X 131 y = I 131 y := fun y hy => by
    rw [mvM_out 128 0 131 (96 * z) X hy, x0 131 (by omega) (by omega)]
  have m3 : ∀ x, x ≠ 131 → mvM 128 0 131 (96 * z) X x = X x := fun x hx => mvM_ne hx
  unfold ySave
  dsimp only
  generalize mvM 128 0 131 (96 * z) X = Y at m1 m2 m3
  have y0 : ∀ x, x ≠ 131 → x ≠ 132 → up Y 132 z 1 x = X x := fun x h1 h2 => by rw [up_ne h2, m3 x h1]
  have y132 : ∀ q, up Y 132 z 1 132 q = if q = z then 1 else I 132 q := fun q => by rw [uc4, m3 132 (by omega), x0 132 (by omega) (by omega)]
  have y131 : up Y 132 z 1 131 = Y 131 := up_ne (by omega)
  generalize up Y 132 z 1 = Z at y0 y132 y131
  have zI0 : ∀ x, x ≠ 0 → x ≠ 131 → x ≠ 132 → (x < 105 + 11 * z ∨ 105 + 11 * z + 9 < x) → Z x = I x := fun x h1 h2 h3 h4 => (y0 x h2 h3).trans (x0 x h1 h4)
  refine ⟨?_, hl, h, k, n, w, pl, hb, h0.of hb (fun x x1 x2 => zI0 x (by omega) (by omega) (by omega) (by omega)) (zI0 130 (by omega) (by omega) (by omega) (by omega)) (by rw [zI0 127 (by omega) (by omega) (by omega) (by omega)]), RR_obs (CE.same (fun x x1 x2 => zI0 x (by omega) (by omega) (by omega) (by omega))) (fun y _ => by rw [zI0 128 (by omega) (by omega) (by omega) (by omega)]) hR, fun q hq => ?_, hP.of (zI0 23 (by omega) (by omega) (by omega) (by omega)) (zI0 24 (by omega) (by omega) (by omega) (by omega)) (zI0 133 (by omega) (by omega) (by omega) (by omega)) (by rw [zI0 127 (by omega) (by omega) (by omega) (by omega)]), by rw [zI0 127 (by omega) (by omega) (by omega) (by omega)]; exact hj⟩
  · rw [zI0 128 (by omega) (by omega) (by omega) (by omega), hR.1.1.2.1.1, hR.1.1.2.1.2.1]
  · obtain ⟨s1, s2⟩ := hS q hq
    rw [y0 0 (by omega) (by omega), x07, y132, isI_bt _ (by omega), bt_or, bt_sh1 (by omega), ← isI_bt (I 0 7) (show q < 32 by omega)]
    by_cases e : q = z
    · subst e
      refine ⟨by simp, fun _ => ⟨n, w, RR_obs (a := 105 + 11 * q) (b := 1) ?_ (fun y hy => by show Z 131 (96 * q + y) = I 128 y; rw [y131]; exact m1 y hy) hR⟩⟩
      exact ⟨fun f hf => by rw [y0 _ (by omega) (by omega)]; exact hC2.1 f hf, fun c c1 c9 i hi => by rw [y0 _ (by omega) (by omega)]; exact hC2.2 c c1 c9 i hi⟩
    · rw [if_neg e, decide_eq_false e, Bool.or_false]
      refine ⟨s1, fun g => RX_obs (CE.same (fun x x1 x2 => zI0 x (by omega) (by omega) (by omega) (by omega))) (fun y hy => by show Z 131 (96 * q + y) = I 131 (96 * q + y); rw [y131]; exact m2 _ (by omega)) (s2 g)⟩
theorem st_save (H : INV I F) (x : Int32) : ST l E I F mX4_save mX5_save [.int x] := by
  have hl : LY F := H.1
  by_cases g : isW x 0 1 = true
  · rcases isW_01 g with rfl | rfl
    · obtain ⟨e, hf⟩ := save_INV H (z := 0) (by omega)
      have c4 := tX4_save0 (l := l) (E := E) (I := I) hl
      have c5 := tX5_save0 (l := l) (E := E) (I := (xSave I 105 0).2) hl
      rw [← show (xSave I 105 0).1 = (ySave (xSave I 105 0).2 0).1 from e] at c5
      exact ⟨_, _, F, _, c4, c5, hf⟩
    · obtain ⟨e, hf⟩ := save_INV H (z := 1) (by omega)
      have c4 := tX4_save1 (l := l) (E := E) (I := I) hl
      have c5 := tX5_save1 (l := l) (E := E) (I := (xSave I 116 1).2) hl
      rw [← show (xSave I 116 1).1 = (ySave (xSave I 116 1).2 1).1 from e] at c5
      exact ⟨_, _, F, _, c4, c5, hf⟩
  · have g : isW x 0 1 = false := by simpa using g
    exact ST_no H (tX4_save_no hl x g) (tX5_save_no hl x g)
/-- a slot is taken back, both ways -/
theorem rest_ST {z : Nat} {sl : Int32} (H : INV I F) (hz : z < 2) (hsl : sl = nI z) (M4 : ∀ {h : Nat → Nat} {k : Nat}, HB F h → k ≤ 6 → I 37 1 = nI k → CtF l E mX4_restore [rf E 0, .int sl] NT I F NT (some (.int (xRest I F h k (105 + 11 * z) sl).1)) (xRest I F h k (105 + 11 * z) sl).2.1 (xRest I F h k (105 + 11 * z) sl).2.2) (M5 : ∀ {X : Mi} {G : Mr} {k : Nat}, LY G → k ≤ 6 → X 127 3 = nI k → CtF l E mX5_restore [rf E 127, .int sl] NT X G NT (some (.int (yRest X k z).1)) (yRest X k z).2 G) : ST l E I F mX4_restore mX5_restore [.int sl] := by
  obtain ⟨hl, h, k, n, w, pl, hb, h0, hR, hS, hP, hj⟩ := id H
  have k6 := h0.1.1
  have e127 := h0.1.2.2
  have c4 := M4 hb k6 h0.1.2.1
  obtain ⟨s1, s2⟩ := hS z hz
  by_cases g : isI (I 0 7) (nI z) = true
  · have g' : ¬ I 132 z = 0 := by rw [g] at s1; exact of_decide_eq_true s1.symm
    obtain ⟨n2, w2, hR2⟩ := s2 g
    have er : ∀ x, x = 0 ∨ 12 ≤ x → copyC (recI I h k 1) 1 (105 + 11 * z) x = recI I h k 1 x := fun x hx => copyC_ne (by omega)
    have hC := copyC_CE (recI I h k 1) (a := 1) (b := 105 + 11 * z) (by omega)
    have ex : xRest I F h k (105 + 11 * z) sl = (nI n2, copyC (recI I h k 1) 1 (105 + 11 * z), recF F h k) := by
      unfold xRest
      rw [if_pos (by rw [hsl]; exact g), hC.1 0 (by simp), recI_fr hb k6 (by omega), hR2.1.1.2.1.1]
    rw [ex] at c4
    have hCI : CE (copyC (recI I h k 1) 1 (105 + 11 * z)) 1 I (105 + 11 * z) := ⟨fun f hf => by rw [hC.1 f hf, recI_fr hb k6 (by omega)], fun c c1 c9 i hi => by rw [hC.2 c c1 c9 i hi, recI_fr hb k6 (by omega)]⟩
    generalize copyC (recI I h k 1) 1 (105 + 11 * z) = X at c4 er hCI
    have xI : ∀ x, 105 ≤ x → X x = I x := fun x hx => (er x (by omega)).trans (recI_fr hb k6 (by omega))
    have c5 := M5 (X := X) (G := recF F h k) (recF_LY hl) k6 (by rw [xI 127 (by omega), e127])
    have m1 : ∀ y, y < 96 → mvM 131 (96 * z) 128 0 (recM X k) 128 y = I 131 (96 * z + y) := fun y hy => by
      have := mvM_at 131 (96 * z) 128 0 (recM X k) (by omega) y hy
      rw [Nat.zero_add] at this
      rw [this, recM_fr X k (by omega) (by omega), xI 131 (by omega)]
    have ey : yRest X k z = (nI n2, mvM 131 (96 * z) 128 0 (recM X k)) := by
      unfold yRest
      rw [xI 132 (by omega), if_neg g', m1 2 (by omega)]
      exact congrArg (fun q => (q, mvM 131 (96 * z) 128 0 (recM X k))) hR2.1.1.2.1.2.1
    rw [ey] at c5
    exact ST_rec hl hb h0 hR hS hP hj c4 c5 er (fun x hx => mvM_ne hx.1) (RR_obs (a := 1) (b := 105 + 11 * z) hCI m1 hR2)
  · have g2 : isI (I 0 7) (nI z) = false := by simpa using g
    have g' : I 132 z = 0 := by
      rw [g2] at s1
      exact Classical.byContradiction fun c => by rw [decide_eq_true c] at s1; cases s1
    have ex : xRest I F h k (105 + 11 * z) sl = (-5, I, F) := by
      unfold xRest
      rw [if_neg (by rw [hsl]; exact g)]
    rw [ex] at c4
    have c5 := M5 (X := I) (G := F) hl k6 e127
    have ey : yRest I k z = (-5, I) := if_pos g'
    rw [ey] at c5
    exact ST_no H c4 c5
theorem st_restore (H : INV I F) (x : Int32) : ST l E I F mX4_restore mX5_restore [.int x] := by
  have hl : LY F := H.1
  by_cases g : isW x 0 1 = true
  · rcases isW_01 g with rfl | rfl
    · exact rest_ST (z := 0) H (by omega) rfl (fun hb k6 hk => tX4_restore0 hl hb k6 hk) (fun hg k6 hk => tX5_restore0 hg k6 hk)
    · exact rest_ST (z := 1) H (by omega) rfl (fun hb k6 hk => tX4_restore1 hl hb k6 hk) (fun hg k6 hk => tX5_restore1 hg k6 hk)
  · have g : isW x 0 1 = false := by simpa using g
    exact ST_no H (tX4_restore_no hl x g) (tX5_restore_no hl x g)
end OPS
