/-! what stands when the loop begins -/
def I_0 : Mi := nMI (zI (nXI (zI (fun _ _ => 0) 0)) 127)
def F_0 : Mr := nMF (zF (nXF (zF (fun _ _ => none) 0)) 127)
set_option maxRecDepth 100000 in
theorem F_0_LY : LY F_0 := by
  unfold LY RF10
  repeat' apply And.intro
  all_goals decide +kernel
set_option maxRecDepth 100000 in
theorem F_0_HB : HB F_0 (fun j => 39 + 11 * j) := by
  unfold HB
  decide +kernel
theorem I_0_chip (x : Nat) (h1 : 1 ≤ x) (h2 : x ≤ 10) : I_0 x = nCI (zI (zI (fun _ _ => 0) 0) 1) 1 x := by
  unfold I_0 nMI nXI nHI nRI nPI
  rw [up_ne (show x ≠ 128 by omega), zI_ne (show x ≠ 135 by omega), zI_ne (show x ≠ 134 by omega), zI_ne (show x ≠ 133 by omega), zI_ne (show x ≠ 132 by omega), zI_ne (show x ≠ 131 by omega), zI_ne (show x ≠ 130 by omega), zI_ne (show x ≠ 129 by omega), zI_ne (show x ≠ 128 by omega), zI_ne (show x ≠ 127 by omega)]
  rw [up_ne (show x ≠ 0 by omega), nCI_ne (a := 116) (by omega), zI_ne (show x ≠ 116 by omega), nCI_ne (a := 105) (by omega), zI_ne (show x ≠ 105 by omega)]
  rw [nCI_ne (a := 94) (by omega), zI_ne (show x ≠ 94 by omega), nCI_ne (a := 83) (by omega), zI_ne (show x ≠ 83 by omega), nCI_ne (a := 72) (by omega), zI_ne (show x ≠ 72 by omega), nCI_ne (a := 61) (by omega), zI_ne (show x ≠ 61 by omega), nCI_ne (a := 50) (by omega), zI_ne (show x ≠ 50 by omega), nCI_ne (a := 39) (by omega), zI_ne (show x ≠ 39 by omega), up_ne (show x ≠ 37 by omega), zI_ne (show x ≠ 38 by omega)]
  rw [zI_ne (show x ≠ 37 by omega), begI_ne (show x ≠ 25 by omega), nCI_ne (a := 26) (by omega), zI_ne (show x ≠ 26 by omega), zI_ne (show x ≠ 25 by omega), zI_ne (show x ≠ 24 by omega), zI_ne (show x ≠ 23 by omega), nCI_ne (a := 12) (by omega), zI_ne (show x ≠ 12 by omega)]
set_option maxRecDepth 100000 in
theorem I_0_row : (∀ y, y < 8 → 2 ≤ y → I_0 128 y = 0) ∧ I_0 128 0 = 20 ∧ I_0 128 1 = 0 := by
  unfold I_0 nMI nXI nHI nRI nPI
  refine ⟨?_, ?_, ?_⟩ <;> decide +kernel
theorem I_0_RR : RR I_0 1 (I_0 128) 0 0 := by
  obtain ⟨r1, r2, r3⟩ := I_0_row
  have h : NW0 (nCI (zI (zI (fun _ _ => 0) 0) 1) 1) 1 (I_0 128) 0 0 0 := NW0_clear (fun y y1 y2 => r1 y y2 y1)
  have h13 : nCI (zI (zI (fun _ _ => 0) 0) 1) 1 1 13 = 20 := by
    unfold nCI
    rw [(clearC_f _ 1).2.1, uc4, if_neg (by omega), uc4, if_pos rfl]
  have h14 : nCI (zI (zI (fun _ _ => 0) 0) 1) 1 1 14 = 0 := by
    unfold nCI
    rw [(clearC_f _ 1).2.2.1, uc4, if_pos rfl]
  have h2 : RR (nCI (zI (zI (fun _ _ => 0) 0) 1) 1) 1 (I_0 128) 0 0 := h.to (by rw [h13, r2]) (by rw [h14, r3])
  exact RR_obs (CE.same (fun x x1 x2 => I_0_chip x x1 x2)) (fun _ _ => rfl) h2
set_option maxRecDepth 100000 in
theorem I_0_small : I_0 37 1 = 0 ∧ I_0 127 3 = 0 ∧ I_0 0 7 = 0 ∧ I_0 132 0 = 0 ∧ I_0 132 1 = 0 ∧ I_0 23 1 = 0 ∧ I_0 127 7 = 0 ∧ I_0 127 10 = 0 := by
  unfold I_0 nMI nXI nHI nRI nPI
  refine ⟨?_, ?_, ?_, ?_, ?_, ?_, ?_, ?_⟩ <;> decide +kernel
theorem INV_0 : INV I_0 F_0 := by
  obtain ⟨s1, s2, s3, s4, s5, s6, s7, s8⟩ := I_0_small
  refine ⟨F_0_LY, fun j => 39 + 11 * j, 0, 0, 0, 0, F_0_HB, ⟨⟨by omega, s1, s2⟩, fun i j _ _ h => by have h : 39 + 11 * i = 39 + 11 * j := h; omega, fun j hj => absurd hj (Nat.not_lt_zero j)⟩, I_0_RR, fun z hz => ?_, ⟨by omega, s6, s7, fun x hx => absurd hx (Nat.not_lt_zero x)⟩, 0, s8⟩
  rw [s3]
  have e : isI 0 (nI z) = false := by rw [isI_bt _ (by omega)]; exact bt_0 z
  rw [e]
  refine ⟨?_, fun h => Bool.noConfusion h⟩
  rcases (show z = 0 ∨ z = 1 by omega) with rfl | rfl
  · rw [s4]; rfl
  · rw [s5]; rfl
