/-! what stands when the loop begins -/
def I_0 : Mi := up (zI (zI (zI (zI (zI (nXI (zI (fun _ _ => 0) 0)) 127) 128) 129) 130) 131) 127 0 20
def F_0 : Mr := zF (zF (zF (zF (zF (nXF (zF (fun _ _ => none) 0)) 127) 128) 129) 130) 131
def J_0 : Mi := fun x y => if x = 128 ∧ y = 0 then 20 else 0
set_option maxRecDepth 100000 in
theorem F_0_LY : LY F_0 := by
  unfold LY RF10
  repeat' apply And.intro
  all_goals decide +kernel
set_option maxRecDepth 100000 in
theorem F_0_HB : HB F_0 (fun j => 39 + 11 * j) := by
  unfold HB
  decide +kernel
theorem I_0_chip (x : Nat) (h1 : 1 ≤ x) (h2 : x ≤ 10) : I_0 x = nCI (zI (zI (fun _ _ => 0) 0) 1) 1 x := by
  unfold I_0 nXI nHI nRI nPI
  rw [up_ne (show x ≠ 127 by omega), zI_ne (show x ≠ 131 by omega), zI_ne (show x ≠ 130 by omega), zI_ne (show x ≠ 129 by omega), zI_ne (show x ≠ 128 by omega), zI_ne (show x ≠ 127 by omega)]
  rw [up_ne (show x ≠ 0 by omega), nCI_ne (a := 116) (by omega), zI_ne (show x ≠ 116 by omega), nCI_ne (a := 105) (by omega), zI_ne (show x ≠ 105 by omega)]
  rw [nCI_ne (a := 94) (by omega), zI_ne (show x ≠ 94 by omega), nCI_ne (a := 83) (by omega), zI_ne (show x ≠ 83 by omega), nCI_ne (a := 72) (by omega), zI_ne (show x ≠ 72 by omega), nCI_ne (a := 61) (by omega), zI_ne (show x ≠ 61 by omega), nCI_ne (a := 50) (by omega), zI_ne (show x ≠ 50 by omega), nCI_ne (a := 39) (by omega), zI_ne (show x ≠ 39 by omega), up_ne (show x ≠ 37 by omega), zI_ne (show x ≠ 38 by omega)]
  rw [zI_ne (show x ≠ 37 by omega), begI_ne (show x ≠ 25 by omega), nCI_ne (a := 26) (by omega), zI_ne (show x ≠ 26 by omega), zI_ne (show x ≠ 25 by omega), zI_ne (show x ≠ 24 by omega), zI_ne (show x ≠ 23 by omega), nCI_ne (a := 12) (by omega), zI_ne (show x ≠ 12 by omega)]
theorem J_0_row : (∀ y, y < 8 → 2 ≤ y → J_0 128 y = 0) ∧ J_0 128 0 = 20 ∧ J_0 128 1 = 0 := by
  refine ⟨?_, ?_, ?_⟩ <;> decide +kernel
theorem I_0_RR : RR I_0 1 (J_0 128) 0 0 := by
  obtain ⟨r1, r2, r3⟩ := J_0_row
  have h : NW0 (nCI (zI (zI (fun _ _ => 0) 0) 1) 1) 1 (J_0 128) 0 0 0 := NW0_clear (fun y y1 y2 => r1 y y2 y1)
  have h13 : nCI (zI (zI (fun _ _ => 0) 0) 1) 1 1 13 = 20 := by
    unfold nCI
    rw [(clearC_f _ 1).2.1, uc4, if_neg (by omega), uc4, if_pos rfl]
  have h14 : nCI (zI (zI (fun _ _ => 0) 0) 1) 1 1 14 = 0 := by
    unfold nCI
    rw [(clearC_f _ 1).2.2.1, uc4, if_pos rfl]
  have h2 : RR (nCI (zI (zI (fun _ _ => 0) 0) 1) 1) 1 (J_0 128) 0 0 := h.to (by rw [h13, r2]) (by rw [h14, r3])
  exact RR_obs (CE.same (fun x x1 x2 => I_0_chip x x1 x2)) (fun _ _ => rfl) h2
theorem I_0_127 : ∀ y, I_0 127 y = if y = 0 then 20 else 0 := fun y => by
  unfold I_0
  rw [uc4]
  by_cases c : y = 0
  · rw [if_pos c, if_pos c]
  · rw [if_neg c, if_neg c, zI_ne (show 127 ≠ 131 by decide), zI_ne (show 127 ≠ 130 by decide), zI_ne (show 127 ≠ 129 by decide), zI_ne (show 127 ≠ 128 by decide)]
    show zI _ 127 127 y = 0
    unfold zI
    rw [if_pos rfl]
set_option maxRecDepth 100000 in
theorem I_0_37 : I_0 37 1 = 0 := by
  unfold I_0 nXI nHI nRI nPI
  decide +kernel
theorem LI_0 : LI 0 I_0 F_0 := by
  refine ⟨0, 0, ⟨J_0, 0, ⟨fun j => 39 + 11 * j, 0, F_0_LY, F_0_HB, by omega, I_0_37, I_0_RR⟩, ⟨by omega, by omega, J_0_row.1 2 (by omega) (by omega), J_0_row.1 7 (by omega) (by omega), by rw [I_0_127]; rfl⟩, ⟨fun y hy => ?_, fun i hi => absurd hi (Nat.not_lt_zero i)⟩, ⟨fun _ => 0, fun _ => 0, fun k hk => absurd hk (Nat.not_lt_zero k), fun k hk => absurd hk (Nat.not_lt_zero k), fun j k _ hk => absurd hk (Nat.not_lt_zero k), fun i hi => absurd hi (Nat.not_lt_zero i)⟩, fun i hi => absurd hi (Nat.not_lt_zero i)⟩, by omega, fun _ => rfl, fun h => absurd h (by omega)⟩
  rw [I_0_127]
  show _ = if (128 : Nat) = 128 ∧ y = 0 then (20 : Int32) else 0
  by_cases c : y = 0
  · rw [if_pos c, if_pos ⟨rfl, c⟩]
  · rw [if_neg c, if_neg (fun z => c z.2)]
