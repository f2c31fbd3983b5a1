/-! the constructors -/
theorem dfX0 (b : Nat) : ∀ j, j < 19 → defaultValue (tyX0 j) = vp_V (fl b (fun _ => 0) (fun _ => none) 0 (isr 0)) j := by
  intro j hj
  rcases (show j = 0 ∨ j = 1 ∨ j = 2 ∨ j = 3 ∨ j = 4 ∨ j = 5 ∨ j = 6 ∨ j = 7 ∨ j = 8 ∨ j = 9 ∨ j = 10 ∨ j = 11 ∨ j = 12 ∨ j = 13 ∨ j = 14 ∨ j = 15 ∨ j = 16 ∨ j = 17 ∨ j = 18 by omega) with rfl | rfl | rfl | rfl | rfl | rfl | rfl | rfl | rfl | rfl | rfl | rfl | rfl | rfl | rfl | rfl | rfl | rfl | rfl <;> rfl
theorem dfX1 (b : Nat) : ∀ j, j < 7 → defaultValue (tyX1 j) = vp_V (fl b (fun _ => 0) (fun _ => none) 0 (isr 1)) j := by
  intro j hj
  rcases (show j = 0 ∨ j = 1 ∨ j = 2 ∨ j = 3 ∨ j = 4 ∨ j = 5 ∨ j = 6 by omega) with rfl | rfl | rfl | rfl | rfl | rfl | rfl <;> rfl
theorem dfX2 (b : Nat) : ∀ j, j < 2 → defaultValue (tyX2 j) = vp_V (fl b (fun _ => 0) (fun _ => none) 0 (isr 2)) j := by
  intro j hj
  rcases (show j = 0 ∨ j = 1 by omega) with rfl | rfl <;> rfl
theorem dfX3 (b : Nat) : ∀ j, j < 2 → defaultValue (tyX3 j) = vp_V (fl b (fun _ => 0) (fun _ => none) 0 (isr 3)) j := by
  intro j hj
  rcases (show j = 0 ∨ j = 1 by omega) with rfl | rfl <;> rfl
theorem dfX4 (b : Nat) : ∀ j, j < 8 → defaultValue (tyX4 j) = vp_V (fl b (fun _ => 0) (fun _ => none) 0 (isr 4)) j := by
  intro j hj
  rcases (show j = 0 ∨ j = 1 ∨ j = 2 ∨ j = 3 ∨ j = 4 ∨ j = 5 ∨ j = 6 ∨ j = 7 by omega) with rfl | rfl | rfl | rfl | rfl | rfl | rfl | rfl <;> rfl
def nCI (I : Mi) (a : Nat) : Mi := clearC (up (up (zI (zI (zI (zI (zI (zI (zI (zI (zI (zI I (a + 1)) (a + 2)) (a + 3)) (a + 4)) (a + 5)) (a + 6)) (a + 7)) (a + 8)) (a + 9)) (a + 10)) a 13 20) a 14 0) a
def nCF (F : Mr) (a : Nat) : Mr := (ur (zF (ur (zF (ur (zF (ur (zF (ur (zF (ur (zF (ur (zF (ur (zF (ur (zF (ur (zF F (a + 1)) a 3 (some (a + 1))) (a + 2)) a 4 (some (a + 2))) (a + 3)) a 5 (some (a + 3))) (a + 4)) a 6 (some (a + 4))) (a + 5)) a 7 (some (a + 5))) (a + 6)) a 8 (some (a + 6))) (a + 7)) a 9 (some (a + 7))) (a + 8)) a 10 (some (a + 8))) (a + 9)) a 11 (some (a + 9))) (a + 10)) a 18 (some (a + 10)))
theorem zI_ne {I : Mi} {N x : Nat} (h : x ≠ N) : zI I N x = I x := if_neg h
theorem zF_ne {F : Mr} {N x : Nat} (h : x ≠ N) : zF F N x = F x := if_neg h
theorem nCF_ne {F : Mr} {a x : Nat} (h : x < a ∨ a + 10 < x) : nCF F a x = F x := by
  unfold nCF
  simp only [ur_ne (show x ≠ a by omega)]
  iterate 10 first | rw [ur_ne (show x ≠ a by omega), zF_ne (by omega)] | rw [zF_ne (by omega)]
theorem clearC_ne {I : Mi} {a x : Nat} (h : x < a ∨ a + 10 < x) : clearC I a x = I x := by
  unfold clearC
  have hb : ∀ n (J : Mi), lp (clrB a) n J x = J x := fun n => by
    induction n with
    | zero => intro J; rfl
    | succ n ih =>
      intro J
      show clrB a n (lp (clrB a) n J) x = J x
      unfold clrB
      rw [up_ne (by omega), up_ne (by omega), up_ne (by omega), up_ne (by omega), up_ne (by omega), up_ne (by omega), up_ne (by omega), up_ne (by omega), up_ne (by omega)]
      exact ih J
  rw [hb]
  unfold clrS
  rw [up_ne (by omega), up_ne (by omega), up_ne (by omega), up_ne (by omega), up_ne (by omega), up_ne (by omega), up_ne (by omega)]
theorem nCI_ne {I : Mi} {a x : Nat} (h : x < a ∨ a + 10 < x) : nCI I a x = I x := by
  unfold nCI
  rw [clearC_ne h, up_ne (by omega), up_ne (by omega)]
  rw [zI_ne (by omega), zI_ne (by omega), zI_ne (by omega), zI_ne (by omega), zI_ne (by omega), zI_ne (by omega), zI_ne (by omega), zI_ne (by omega), zI_ne (by omega), zI_ne (by omega)]
theorem nCF_at (F : Mr) (a : Nat) : RF10 (nCF F a) a := by
  unfold RF10 nCF
  refine ⟨?_, ?_, ?_, ?_, ?_, ?_, ?_, ?_, ?_, ?_⟩ <;> simp [ur, zF]
set_option maxRecDepth 100000 in
set_option maxHeartbeats 4000000 in
theorem tX0_init {l : Launch} {E : EE} {I : Mi} {F : Mr} {a : Nat} (h0 : (kd a).1 = 0) (hk : ∀ j, 1 ≤ j → j ≤ 10 → kd (a + j) = (7, 8)) : CtF l E mX0_init [rf E a] (a + 1) I F (a + 11) none (nCI I a) (nCF F a) := by
  refine CtF_of [some (rf E a)] (by decide) rfl (Nat.le_of_ble_eq_true rfl) rfl (fun p e s m args below meth c C hr hname => ?_)
  refine g_aload_n C dX0_init_0 rfl rfl ?_
  refine g_objI C wOLX0_3 wOI wOC (Nat.le_of_ble_eq_true rfl) (Nat.le_of_ble_eq_true rfl) dX0_init_1 ?_
  refine g_aload_n C dX0_init_4 rfl rfl ?_
  refine g_bipush C (v := 8) dX0_init_5 (by decide) ?_
  refine g_newI C (n := 8) (hk 1 (by decide) (by decide)) (by decide) (by decide) (by decide) wA_int (Nat.le_of_ble_eq_true rfl) (Nat.le_of_ble_eq_true rfl) (by omega) dX0_init_7 ?_
  refine pfX0_9 C hname ⟨h0, by omega⟩ dX0_init_9 ?_
  refine g_aload_n C dX0_init_12 rfl rfl ?_
  refine g_bipush C (v := 8) dX0_init_13 (by decide) ?_
  refine g_newI C (n := 8) (hk 2 (by decide) (by decide)) (by decide) (by decide) (by decide) wA_int (Nat.le_of_ble_eq_true rfl) (Nat.le_of_ble_eq_true rfl) (by omega) dX0_init_15 ?_
  refine pfX0_15 C hname ⟨h0, by omega⟩ dX0_init_17 ?_
  refine g_aload_n C dX0_init_20 rfl rfl ?_
  refine g_bipush C (v := 8) dX0_init_21 (by decide) ?_
  refine g_newI C (n := 8) (hk 3 (by decide) (by decide)) (by decide) (by decide) (by decide) wA_int (Nat.le_of_ble_eq_true rfl) (Nat.le_of_ble_eq_true rfl) (by omega) dX0_init_23 ?_
  refine pfX0_18 C hname ⟨h0, by omega⟩ dX0_init_25 ?_
  refine g_aload_n C dX0_init_28 rfl rfl ?_
  refine g_bipush C (v := 8) dX0_init_29 (by decide) ?_
  refine g_newI C (n := 8) (hk 4 (by decide) (by decide)) (by decide) (by decide) (by decide) wA_int (Nat.le_of_ble_eq_true rfl) (Nat.le_of_ble_eq_true rfl) (by omega) dX0_init_31 ?_
  refine pfX0_21 C hname ⟨h0, by omega⟩ dX0_init_33 ?_
  refine g_aload_n C dX0_init_36 rfl rfl ?_
  refine g_bipush C (v := 8) dX0_init_37 (by decide) ?_
  refine g_newI C (n := 8) (hk 5 (by decide) (by decide)) (by decide) (by decide) (by decide) wA_int (Nat.le_of_ble_eq_true rfl) (Nat.le_of_ble_eq_true rfl) (by omega) dX0_init_39 ?_
  refine pfX0_24 C hname ⟨h0, by omega⟩ dX0_init_41 ?_
  refine g_aload_n C dX0_init_44 rfl rfl ?_
  refine g_bipush C (v := 8) dX0_init_45 (by decide) ?_
  refine g_newI C (n := 8) (hk 6 (by decide) (by decide)) (by decide) (by decide) (by decide) wA_int (Nat.le_of_ble_eq_true rfl) (Nat.le_of_ble_eq_true rfl) (by omega) dX0_init_47 ?_
  refine pfX0_27 C hname ⟨h0, by omega⟩ dX0_init_49 ?_
  refine g_aload_n C dX0_init_52 rfl rfl ?_
  refine g_bipush C (v := 8) dX0_init_53 (by decide) ?_
  refine g_newI C (n := 8) (hk 7 (by decide) (by decide)) (by decide) (by decide) (by decide) wA_int (Nat.le_of_ble_eq_true rfl) (Nat.le_of_ble_eq_true rfl) (by omega) dX0_init_55 ?_
  refine pfX0_30 C hname ⟨h0, by omega⟩ dX0_init_57 ?_
  refine g_aload_n C dX0_init_60 rfl rfl ?_
  refine g_bipush C (v := 8) dX0_init_61 (by decide) ?_
  refine g_newI C (n := 8) (hk 8 (by decide) (by decide)) (by decide) (by decide) (by decide) wA_int (Nat.le_of_ble_eq_true rfl) (Nat.le_of_ble_eq_true rfl) (by omega) dX0_init_63 ?_
  refine pfX0_33 C hname ⟨h0, by omega⟩ dX0_init_65 ?_
  refine g_aload_n C dX0_init_68 rfl rfl ?_
  refine g_bipush C (v := 8) dX0_init_69 (by decide) ?_
  refine g_newI C (n := 8) (hk 9 (by decide) (by decide)) (by decide) (by decide) (by decide) wA_int (Nat.le_of_ble_eq_true rfl) (Nat.le_of_ble_eq_true rfl) (by omega) dX0_init_71 ?_
  refine pfX0_36 C hname ⟨h0, by omega⟩ dX0_init_73 ?_
  refine g_aload_n C dX0_init_76 rfl rfl ?_
  refine g_bipush C (v := 8) dX0_init_77 (by decide) ?_
  refine g_newI C (n := 8) (hk 10 (by decide) (by decide)) (by decide) (by decide) (by decide) wA_int (Nat.le_of_ble_eq_true rfl) (Nat.le_of_ble_eq_true rfl) (by omega) dX0_init_79 ?_
  refine pfX0_39 C hname ⟨h0, by omega⟩ dX0_init_81 ?_
  refine g_aload_n C dX0_init_84 rfl rfl ?_
  refine g_bipush C (v := 20) dX0_init_85 (by decide) ?_
  refine pfX0_42 C ⟨h0, by omega⟩ dX0_init_87 ?_
  refine g_aload_n C dX0_init_90 rfl rfl ?_
  refine g_iconst C (v := 0) dX0_init_91 (by decide) ?_
  refine pfX0_46 C ⟨h0, by omega⟩ dX0_init_92 ?_
  refine g_aload_n C dX0_init_95 rfl rfl ?_
  refine kX0_49 C ⟨h0, by omega⟩ (tX0_clear (a := a) (F := nCF F a) ⟨⟨h0, by omega⟩, fun j h1 h2 => ⟨hk j h1 h2, by omega⟩, nCF_at F a⟩) ⟨⟨(Nat.le_of_ble_eq_true rfl), (Nat.le_of_ble_eq_true rfl)⟩, (Nat.le_of_ble_eq_true rfl), (Nat.le_of_ble_eq_true rfl)⟩ (Nat.le_of_ble_eq_true rfl) dX0_init_96 ?_
  exact g_vret C hr dX0_init_99 ⟨rfl, rfl, rfl⟩
def nPI (I : Mi) : Mi := zI I 24
def nPF (F : Mr) : Mr := ur (zF F 24) 23 0 (some 24)
set_option maxRecDepth 100000 in
set_option maxHeartbeats 4000000 in
theorem tX3_init {l : Launch} {E : EE} {I : Mi} {F : Mr}  : CtF l E mX3_init [rf E 23] 24 I F 25 none (nPI I) (nPF F) := by
  refine CtF_of [some (rf E 23)] (by decide) rfl (Nat.le_of_ble_eq_true rfl) rfl (fun p e s m args below meth c C hr hname => ?_)
  refine g_aload_n C dX3_init_0 rfl rfl ?_
  refine g_objI C wOLX3_3 wOI wOC (Nat.le_of_ble_eq_true rfl) (Nat.le_of_ble_eq_true rfl) dX3_init_1 ?_
  refine g_aload_n C dX3_init_4 rfl rfl ?_
  refine g_bipush C (v := 64) dX3_init_5 (by decide) ?_
  refine g_newC C (n := 64) (by decide +kernel) (by decide) (by decide) (by decide) wA_char (Nat.le_of_ble_eq_true rfl) (Nat.le_of_ble_eq_true rfl) (by omega) dX3_init_7 ?_
  refine pfX3_9 C hname (by decide +kernel) dX3_init_9 ?_
  exact g_vret C hr dX3_init_12 ⟨rfl, rfl, rfl⟩
def nRI (I : Mi) : Mi := begI (nCI (zI I 26) 26)
def nRF (F : Mr) : Mr := ur (nCF (zF F 26) 26) 25 0 (some 26)
set_option maxRecDepth 100000 in
set_option maxHeartbeats 4000000 in
theorem tX1_init {l : Launch} {E : EE} {I : Mi} {F : Mr}  : CtF l E mX1_init [rf E 25] 26 I F 37 none (nRI I) (nRF F) := by
  refine CtF_of [some (rf E 25)] (by decide) rfl (Nat.le_of_ble_eq_true rfl) rfl (fun p e s m args below meth c C hr hname => ?_)
  refine g_aload_n C dX1_init_0 rfl rfl ?_
  refine g_objI C wOLX1_3 wOI wOC (Nat.le_of_ble_eq_true rfl) (Nat.le_of_ble_eq_true rfl) dX1_init_1 ?_
  refine g_aload_n C dX1_init_4 rfl rfl ?_
  refine g_new C (ci := 0) rfl inX0 tyX0 tyX0_ok (by decide) (by decide +kernel) wCLX1_9 wINX0 wIIX0 (dfX0 _) (Nat.le_of_ble_eq_true rfl) (Nat.le_of_ble_eq_true rfl) (by omega) dX1_init_5 ?_
  refine g_dup C dX1_init_8 rfl ?_
  refine kX1_11 C (by decide +kernel) (tX0_init (a := 26) (by decide +kernel) (by intro j h1 h2; rcases (show j = 1 ∨ j = 2 ∨ j = 3 ∨ j = 4 ∨ j = 5 ∨ j = 6 ∨ j = 7 ∨ j = 8 ∨ j = 9 ∨ j = 10 by omega) with rfl | rfl | rfl | rfl | rfl | rfl | rfl | rfl | rfl | rfl <;> decide +kernel)) ⟨⟨(Nat.le_of_ble_eq_true rfl), (Nat.le_of_ble_eq_true rfl)⟩, (Nat.le_of_ble_eq_true rfl), (Nat.le_of_ble_eq_true rfl)⟩ (Nat.le_of_ble_eq_true rfl) dX1_init_9 ?_
  refine pfX1_12 C hname (by decide +kernel) dX1_init_12 ?_
  refine g_aload_n C dX1_init_15 rfl rfl ?_
  refine kX1_18 C (by decide +kernel) (tX1_beginIsland (by decide +kernel)) ⟨⟨(Nat.le_of_ble_eq_true rfl), (Nat.le_of_ble_eq_true rfl)⟩, (Nat.le_of_ble_eq_true rfl), (Nat.le_of_ble_eq_true rfl)⟩ (Nat.le_of_ble_eq_true rfl) dX1_init_16 ?_
  exact g_vret C hr dX1_init_19 ⟨rfl, rfl, rfl⟩
def nHI (I : Mi) : Mi := (nCI (zI (nCI (zI (nCI (zI (nCI (zI (nCI (zI (nCI (zI (up (zI I 38) 37 1 0) 39) 39) 50) 50) 61) 61) 72) 72) 83) 83) 94) 94)
def nHF (F : Mr) : Mr := (ur (nCF (zF (ur (nCF (zF (ur (nCF (zF (ur (nCF (zF (ur (nCF (zF (ur (nCF (zF (ur (zF F 38) 37 0 (some 38)) 39) 39) 38 0 (some 39)) 50) 50) 38 1 (some 50)) 61) 61) 38 2 (some 61)) 72) 72) 38 3 (some 72)) 83) 83) 38 4 (some 83)) 94) 94) 38 5 (some 94))
set_option maxRecDepth 100000 in
set_option maxHeartbeats 4000000 in
theorem tX2_init {l : Launch} {E : EE} {I : Mi} {F : Mr}  : CtF l E mX2_init [rf E 37] 38 I F 105 none (nHI I) (nHF F) := by
  refine CtF_of [some (rf E 37), none] (by decide) rfl (Nat.le_of_ble_eq_true rfl) rfl (fun p e s m args below meth c C hr hname => ?_)
  refine g_aload_n C dX2_init_0 rfl rfl ?_
  refine g_objI C wOLX2_3 wOI wOC (Nat.le_of_ble_eq_true rfl) (Nat.le_of_ble_eq_true rfl) dX2_init_1 ?_
  refine g_aload_n C dX2_init_4 rfl rfl ?_
  refine g_bipush C (v := 6) dX2_init_5 (by decide) ?_
  refine g_newQ C (n := 6) (by decide +kernel) (by decide) (by decide) (by decide) wCLX2_9 (Nat.le_of_ble_eq_true rfl) (Nat.le_of_ble_eq_true rfl) (by omega) dX2_init_7 ?_
  refine pfX2_11 C hname (by decide +kernel) dX2_init_10 ?_
  refine g_aload_n C dX2_init_13 rfl rfl ?_
  refine g_iconst C (v := 0) dX2_init_14 (by decide) ?_
  refine pfX2_17 C (by decide +kernel) dX2_init_15 ?_
  refine g_iconst C (v := 0) dX2_init_18 (by decide) ?_
  refine g_istore_n C dX2_init_19 rfl (by decide) rfl ?_
  refine g_iload_n C dX2_init_20 rfl rfl ?_
  refine g_bipush C (v := 6) dX2_init_21 (by decide) ?_
  refine g_icmp_ge C (tgt := 45) dX2_init_23 (by decide) (fun c9 => absurd c9 (by decide)) (fun _ => ?_)
  refine g_aload_n C dX2_init_26 rfl rfl ?_
  refine gfX2_11 C (by decide +kernel) (t := 38) (by simp [nCF_ne, ur, zF]) dX2_init_27 ?_
  refine g_iload_n C dX2_init_30 rfl rfl ?_
  refine g_new C (ci := 0) rfl inX0 tyX0 tyX0_ok (by decide) (by decide +kernel) wCLX2_9 wINX0 wIIX0 (dfX0 _) (Nat.le_of_ble_eq_true rfl) (Nat.le_of_ble_eq_true rfl) (by omega) dX2_init_31 ?_
  refine g_dup C dX2_init_34 rfl ?_
  refine kX2_21 C (by decide +kernel) (tX0_init (a := 39) (by decide +kernel) (by intro j h1 h2; rcases (show j = 1 ∨ j = 2 ∨ j = 3 ∨ j = 4 ∨ j = 5 ∨ j = 6 ∨ j = 7 ∨ j = 8 ∨ j = 9 ∨ j = 10 by omega) with rfl | rfl | rfl | rfl | rfl | rfl | rfl | rfl | rfl | rfl <;> decide +kernel)) ⟨⟨(Nat.le_of_ble_eq_true rfl), (Nat.le_of_ble_eq_true rfl)⟩, (Nat.le_of_ble_eq_true rfl), (Nat.le_of_ble_eq_true rfl)⟩ (Nat.le_of_ble_eq_true rfl) dX2_init_35 ?_
  refine g_aast_j C (k := 38) (t := 39) (n := 6) (by decide +kernel) (by decide +kernel) 0 (by decide) (by decide) (by decide) dX2_init_38 ?_
  refine g_iinc C dX2_init_39 rfl (show (0 : Int32) + Int32.ofInt 1 = 1 by decide) (by decide) rfl ?_
  refine g_goto C (tgt := 20) dX2_init_42 (by decide) ?_
  refine g_iload_n C dX2_init_20 rfl rfl ?_
  refine g_bipush C (v := 6) dX2_init_21 (by decide) ?_
  refine g_icmp_ge C (tgt := 45) dX2_init_23 (by decide) (fun c9 => absurd c9 (by decide)) (fun _ => ?_)
  refine g_aload_n C dX2_init_26 rfl rfl ?_
  refine gfX2_11 C (by decide +kernel) (t := 38) (by simp [nCF_ne, ur, zF]) dX2_init_27 ?_
  refine g_iload_n C dX2_init_30 rfl rfl ?_
  refine g_new C (ci := 0) rfl inX0 tyX0 tyX0_ok (by decide) (by decide +kernel) wCLX2_9 wINX0 wIIX0 (dfX0 _) (Nat.le_of_ble_eq_true rfl) (Nat.le_of_ble_eq_true rfl) (by omega) dX2_init_31 ?_
  refine g_dup C dX2_init_34 rfl ?_
  refine kX2_21 C (by decide +kernel) (tX0_init (a := 50) (by decide +kernel) (by intro j h1 h2; rcases (show j = 1 ∨ j = 2 ∨ j = 3 ∨ j = 4 ∨ j = 5 ∨ j = 6 ∨ j = 7 ∨ j = 8 ∨ j = 9 ∨ j = 10 by omega) with rfl | rfl | rfl | rfl | rfl | rfl | rfl | rfl | rfl | rfl <;> decide +kernel)) ⟨⟨(Nat.le_of_ble_eq_true rfl), (Nat.le_of_ble_eq_true rfl)⟩, (Nat.le_of_ble_eq_true rfl), (Nat.le_of_ble_eq_true rfl)⟩ (Nat.le_of_ble_eq_true rfl) dX2_init_35 ?_
  refine g_aast_j C (k := 38) (t := 50) (n := 6) (by decide +kernel) (by decide +kernel) 1 (by decide) (by decide) (by decide) dX2_init_38 ?_
  refine g_iinc C dX2_init_39 rfl (show (1 : Int32) + Int32.ofInt 1 = 2 by decide) (by decide) rfl ?_
  refine g_goto C (tgt := 20) dX2_init_42 (by decide) ?_
  refine g_iload_n C dX2_init_20 rfl rfl ?_
  refine g_bipush C (v := 6) dX2_init_21 (by decide) ?_
  refine g_icmp_ge C (tgt := 45) dX2_init_23 (by decide) (fun c9 => absurd c9 (by decide)) (fun _ => ?_)
  refine g_aload_n C dX2_init_26 rfl rfl ?_
  refine gfX2_11 C (by decide +kernel) (t := 38) (by simp [nCF_ne, ur, zF]) dX2_init_27 ?_
  refine g_iload_n C dX2_init_30 rfl rfl ?_
  refine g_new C (ci := 0) rfl inX0 tyX0 tyX0_ok (by decide) (by decide +kernel) wCLX2_9 wINX0 wIIX0 (dfX0 _) (Nat.le_of_ble_eq_true rfl) (Nat.le_of_ble_eq_true rfl) (by omega) dX2_init_31 ?_
  refine g_dup C dX2_init_34 rfl ?_
  refine kX2_21 C (by decide +kernel) (tX0_init (a := 61) (by decide +kernel) (by intro j h1 h2; rcases (show j = 1 ∨ j = 2 ∨ j = 3 ∨ j = 4 ∨ j = 5 ∨ j = 6 ∨ j = 7 ∨ j = 8 ∨ j = 9 ∨ j = 10 by omega) with rfl | rfl | rfl | rfl | rfl | rfl | rfl | rfl | rfl | rfl <;> decide +kernel)) ⟨⟨(Nat.le_of_ble_eq_true rfl), (Nat.le_of_ble_eq_true rfl)⟩, (Nat.le_of_ble_eq_true rfl), (Nat.le_of_ble_eq_true rfl)⟩ (Nat.le_of_ble_eq_true rfl) dX2_init_35 ?_
  refine g_aast_j C (k := 38) (t := 61) (n := 6) (by decide +kernel) (by decide +kernel) 2 (by decide) (by decide) (by decide) dX2_init_38 ?_
  refine g_iinc C dX2_init_39 rfl (show (2 : Int32) + Int32.ofInt 1 = 3 by decide) (by decide) rfl ?_
  refine g_goto C (tgt := 20) dX2_init_42 (by decide) ?_
  refine g_iload_n C dX2_init_20 rfl rfl ?_
  refine g_bipush C (v := 6) dX2_init_21 (by decide) ?_
  refine g_icmp_ge C (tgt := 45) dX2_init_23 (by decide) (fun c9 => absurd c9 (by decide)) (fun _ => ?_)
  refine g_aload_n C dX2_init_26 rfl rfl ?_
  refine gfX2_11 C (by decide +kernel) (t := 38) (by simp [nCF_ne, ur, zF]) dX2_init_27 ?_
  refine g_iload_n C dX2_init_30 rfl rfl ?_
  refine g_new C (ci := 0) rfl inX0 tyX0 tyX0_ok (by decide) (by decide +kernel) wCLX2_9 wINX0 wIIX0 (dfX0 _) (Nat.le_of_ble_eq_true rfl) (Nat.le_of_ble_eq_true rfl) (by omega) dX2_init_31 ?_
  refine g_dup C dX2_init_34 rfl ?_
  refine kX2_21 C (by decide +kernel) (tX0_init (a := 72) (by decide +kernel) (by intro j h1 h2; rcases (show j = 1 ∨ j = 2 ∨ j = 3 ∨ j = 4 ∨ j = 5 ∨ j = 6 ∨ j = 7 ∨ j = 8 ∨ j = 9 ∨ j = 10 by omega) with rfl | rfl | rfl | rfl | rfl | rfl | rfl | rfl | rfl | rfl <;> decide +kernel)) ⟨⟨(Nat.le_of_ble_eq_true rfl), (Nat.le_of_ble_eq_true rfl)⟩, (Nat.le_of_ble_eq_true rfl), (Nat.le_of_ble_eq_true rfl)⟩ (Nat.le_of_ble_eq_true rfl) dX2_init_35 ?_
  refine g_aast_j C (k := 38) (t := 72) (n := 6) (by decide +kernel) (by decide +kernel) 3 (by decide) (by decide) (by decide) dX2_init_38 ?_
  refine g_iinc C dX2_init_39 rfl (show (3 : Int32) + Int32.ofInt 1 = 4 by decide) (by decide) rfl ?_
  refine g_goto C (tgt := 20) dX2_init_42 (by decide) ?_
  refine g_iload_n C dX2_init_20 rfl rfl ?_
  refine g_bipush C (v := 6) dX2_init_21 (by decide) ?_
  refine g_icmp_ge C (tgt := 45) dX2_init_23 (by decide) (fun c9 => absurd c9 (by decide)) (fun _ => ?_)
  refine g_aload_n C dX2_init_26 rfl rfl ?_
  refine gfX2_11 C (by decide +kernel) (t := 38) (by simp [nCF_ne, ur, zF]) dX2_init_27 ?_
  refine g_iload_n C dX2_init_30 rfl rfl ?_
  refine g_new C (ci := 0) rfl inX0 tyX0 tyX0_ok (by decide) (by decide +kernel) wCLX2_9 wINX0 wIIX0 (dfX0 _) (Nat.le_of_ble_eq_true rfl) (Nat.le_of_ble_eq_true rfl) (by omega) dX2_init_31 ?_
  refine g_dup C dX2_init_34 rfl ?_
  refine kX2_21 C (by decide +kernel) (tX0_init (a := 83) (by decide +kernel) (by intro j h1 h2; rcases (show j = 1 ∨ j = 2 ∨ j = 3 ∨ j = 4 ∨ j = 5 ∨ j = 6 ∨ j = 7 ∨ j = 8 ∨ j = 9 ∨ j = 10 by omega) with rfl | rfl | rfl | rfl | rfl | rfl | rfl | rfl | rfl | rfl <;> decide +kernel)) ⟨⟨(Nat.le_of_ble_eq_true rfl), (Nat.le_of_ble_eq_true rfl)⟩, (Nat.le_of_ble_eq_true rfl), (Nat.le_of_ble_eq_true rfl)⟩ (Nat.le_of_ble_eq_true rfl) dX2_init_35 ?_
  refine g_aast_j C (k := 38) (t := 83) (n := 6) (by decide +kernel) (by decide +kernel) 4 (by decide) (by decide) (by decide) dX2_init_38 ?_
  refine g_iinc C dX2_init_39 rfl (show (4 : Int32) + Int32.ofInt 1 = 5 by decide) (by decide) rfl ?_
  refine g_goto C (tgt := 20) dX2_init_42 (by decide) ?_
  refine g_iload_n C dX2_init_20 rfl rfl ?_
  refine g_bipush C (v := 6) dX2_init_21 (by decide) ?_
  refine g_icmp_ge C (tgt := 45) dX2_init_23 (by decide) (fun c9 => absurd c9 (by decide)) (fun _ => ?_)
  refine g_aload_n C dX2_init_26 rfl rfl ?_
  refine gfX2_11 C (by decide +kernel) (t := 38) (by simp [nCF_ne, ur, zF]) dX2_init_27 ?_
  refine g_iload_n C dX2_init_30 rfl rfl ?_
  refine g_new C (ci := 0) rfl inX0 tyX0 tyX0_ok (by decide) (by decide +kernel) wCLX2_9 wINX0 wIIX0 (dfX0 _) (Nat.le_of_ble_eq_true rfl) (Nat.le_of_ble_eq_true rfl) (by omega) dX2_init_31 ?_
  refine g_dup C dX2_init_34 rfl ?_
  refine kX2_21 C (by decide +kernel) (tX0_init (a := 94) (by decide +kernel) (by intro j h1 h2; rcases (show j = 1 ∨ j = 2 ∨ j = 3 ∨ j = 4 ∨ j = 5 ∨ j = 6 ∨ j = 7 ∨ j = 8 ∨ j = 9 ∨ j = 10 by omega) with rfl | rfl | rfl | rfl | rfl | rfl | rfl | rfl | rfl | rfl <;> decide +kernel)) ⟨⟨(Nat.le_of_ble_eq_true rfl), (Nat.le_of_ble_eq_true rfl)⟩, (Nat.le_of_ble_eq_true rfl), (Nat.le_of_ble_eq_true rfl)⟩ (Nat.le_of_ble_eq_true rfl) dX2_init_35 ?_
  refine g_aast_j C (k := 38) (t := 94) (n := 6) (by decide +kernel) (by decide +kernel) 5 (by decide) (by decide) (by decide) dX2_init_38 ?_
  refine g_iinc C dX2_init_39 rfl (show (5 : Int32) + Int32.ofInt 1 = 6 by decide) (by decide) rfl ?_
  refine g_goto C (tgt := 20) dX2_init_42 (by decide) ?_
  refine g_iload_n C dX2_init_20 rfl rfl ?_
  refine g_bipush C (v := 6) dX2_init_21 (by decide) ?_
  refine g_icmp_ge C (tgt := 45) dX2_init_23 (by decide) (fun _ => ?_) (fun c9 => absurd c9 (by decide))
  exact g_vret C hr dX2_init_45 ⟨rfl, rfl, rfl⟩
def nXI (I : Mi) : Mi := (up (nCI (zI (nCI (zI (nHI (zI (nRI (zI (nPI (zI (nCI (zI (nCI (zI I 1) 1) 12) 12) 23)) 25)) 37)) 105) 105) 116) 116) 0 7 0)
def nXF (F : Mr) : Mr := (ur (nCF (zF (ur (nCF (zF (ur (nHF (zF (ur (nRF (zF (ur (nPF (zF (ur (nCF (zF (ur (nCF (zF F 1) 1) 0 0 (some 1)) 12) 12) 0 1 (some 12)) 23)) 0 2 (some 23)) 25)) 0 3 (some 25)) 37)) 0 4 (some 37)) 105) 105) 0 5 (some 105)) 116) 116) 0 6 (some 116))
set_option maxRecDepth 100000 in
set_option maxHeartbeats 4000000 in
theorem tX4_init {l : Launch} {E : EE} {I : Mi} {F : Mr}  : CtF l E mX4_init [rf E 0] 1 I F 127 none (nXI I) (nXF F) := by
  refine CtF_of [some (rf E 0)] (by decide) rfl (Nat.le_of_ble_eq_true rfl) rfl (fun p e s m args below meth c C hr hname => ?_)
  refine g_aload_n C dX4_init_0 rfl rfl ?_
  refine g_objI C wOLX4_1 wOI wOC (Nat.le_of_ble_eq_true rfl) (Nat.le_of_ble_eq_true rfl) dX4_init_1 ?_
  refine g_aload_n C dX4_init_4 rfl rfl ?_
  refine g_new C (ci := 0) rfl inX0 tyX0 tyX0_ok (by decide) (by decide +kernel) wCLX4_7 wINX0 wIIX0 (dfX0 _) (Nat.le_of_ble_eq_true rfl) (Nat.le_of_ble_eq_true rfl) (by omega) dX4_init_5 ?_
  refine g_dup C dX4_init_8 rfl ?_
  refine kX4_9 C (by decide +kernel) (tX0_init (a := 1) (by decide +kernel) (by intro j h1 h2; rcases (show j = 1 ∨ j = 2 ∨ j = 3 ∨ j = 4 ∨ j = 5 ∨ j = 6 ∨ j = 7 ∨ j = 8 ∨ j = 9 ∨ j = 10 by omega) with rfl | rfl | rfl | rfl | rfl | rfl | rfl | rfl | rfl | rfl <;> decide +kernel)) ⟨⟨(Nat.le_of_ble_eq_true rfl), (Nat.le_of_ble_eq_true rfl)⟩, (Nat.le_of_ble_eq_true rfl), (Nat.le_of_ble_eq_true rfl)⟩ (Nat.le_of_ble_eq_true rfl) dX4_init_9 ?_
  refine pfX4_10 C hname (by decide +kernel) dX4_init_12 ?_
  refine g_aload_n C dX4_init_15 rfl rfl ?_
  refine g_new C (ci := 0) rfl inX0 tyX0 tyX0_ok (by decide) (by decide +kernel) wCLX4_7 wINX0 wIIX0 (dfX0 _) (Nat.le_of_ble_eq_true rfl) (Nat.le_of_ble_eq_true rfl) (by omega) dX4_init_16 ?_
  refine g_dup C dX4_init_19 rfl ?_
  refine kX4_9 C (by decide +kernel) (tX0_init (a := 12) (by decide +kernel) (by intro j h1 h2; rcases (show j = 1 ∨ j = 2 ∨ j = 3 ∨ j = 4 ∨ j = 5 ∨ j = 6 ∨ j = 7 ∨ j = 8 ∨ j = 9 ∨ j = 10 by omega) with rfl | rfl | rfl | rfl | rfl | rfl | rfl | rfl | rfl | rfl <;> decide +kernel)) ⟨⟨(Nat.le_of_ble_eq_true rfl), (Nat.le_of_ble_eq_true rfl)⟩, (Nat.le_of_ble_eq_true rfl), (Nat.le_of_ble_eq_true rfl)⟩ (Nat.le_of_ble_eq_true rfl) dX4_init_20 ?_
  refine pfX4_16 C hname (by decide +kernel) dX4_init_23 ?_
  refine g_aload_n C dX4_init_26 rfl rfl ?_
  refine g_new C (ci := 3) rfl inX3 tyX3 tyX3_ok (by decide) (by decide +kernel) wCLX4_19 wINX3 wIIX3 (dfX3 _) (Nat.le_of_ble_eq_true rfl) (Nat.le_of_ble_eq_true rfl) (by omega) dX4_init_27 ?_
  refine g_dup C dX4_init_30 rfl ?_
  refine kX4_21 C (by decide +kernel) tX3_init ⟨⟨(Nat.le_of_ble_eq_true rfl), (Nat.le_of_ble_eq_true rfl)⟩, (Nat.le_of_ble_eq_true rfl), (Nat.le_of_ble_eq_true rfl)⟩ (Nat.le_of_ble_eq_true rfl) dX4_init_31 ?_
  refine pfX4_22 C hname (by decide +kernel) dX4_init_34 ?_
  refine g_aload_n C dX4_init_37 rfl rfl ?_
  refine g_new C (ci := 1) rfl inX1 tyX1 tyX1_ok (by decide) (by decide +kernel) wCLX4_26 wINX1 wIIX1 (dfX1 _) (Nat.le_of_ble_eq_true rfl) (Nat.le_of_ble_eq_true rfl) (by omega) dX4_init_38 ?_
  refine g_dup C dX4_init_41 rfl ?_
  refine kX4_28 C (by decide +kernel) tX1_init ⟨⟨(Nat.le_of_ble_eq_true rfl), (Nat.le_of_ble_eq_true rfl)⟩, (Nat.le_of_ble_eq_true rfl), (Nat.le_of_ble_eq_true rfl)⟩ (Nat.le_of_ble_eq_true rfl) dX4_init_42 ?_
  refine pfX4_29 C hname (by decide +kernel) dX4_init_45 ?_
  refine g_aload_n C dX4_init_48 rfl rfl ?_
  refine g_new C (ci := 2) rfl inX2 tyX2 tyX2_ok (by decide) (by decide +kernel) wCLX4_33 wINX2 wIIX2 (dfX2 _) (Nat.le_of_ble_eq_true rfl) (Nat.le_of_ble_eq_true rfl) (by omega) dX4_init_49 ?_
  refine g_dup C dX4_init_52 rfl ?_
  refine kX4_35 C (by decide +kernel) tX2_init ⟨⟨(Nat.le_of_ble_eq_true rfl), (Nat.le_of_ble_eq_true rfl)⟩, (Nat.le_of_ble_eq_true rfl), (Nat.le_of_ble_eq_true rfl)⟩ (Nat.le_of_ble_eq_true rfl) dX4_init_53 ?_
  refine pfX4_36 C hname (by decide +kernel) dX4_init_56 ?_
  refine g_aload_n C dX4_init_59 rfl rfl ?_
  refine g_new C (ci := 0) rfl inX0 tyX0 tyX0_ok (by decide) (by decide +kernel) wCLX4_7 wINX0 wIIX0 (dfX0 _) (Nat.le_of_ble_eq_true rfl) (Nat.le_of_ble_eq_true rfl) (by omega) dX4_init_60 ?_
  refine g_dup C dX4_init_63 rfl ?_
  refine kX4_9 C (by decide +kernel) (tX0_init (a := 105) (by decide +kernel) (by intro j h1 h2; rcases (show j = 1 ∨ j = 2 ∨ j = 3 ∨ j = 4 ∨ j = 5 ∨ j = 6 ∨ j = 7 ∨ j = 8 ∨ j = 9 ∨ j = 10 by omega) with rfl | rfl | rfl | rfl | rfl | rfl | rfl | rfl | rfl | rfl <;> decide +kernel)) ⟨⟨(Nat.le_of_ble_eq_true rfl), (Nat.le_of_ble_eq_true rfl)⟩, (Nat.le_of_ble_eq_true rfl), (Nat.le_of_ble_eq_true rfl)⟩ (Nat.le_of_ble_eq_true rfl) dX4_init_64 ?_
  refine pfX4_40 C hname (by decide +kernel) dX4_init_67 ?_
  refine g_aload_n C dX4_init_70 rfl rfl ?_
  refine g_new C (ci := 0) rfl inX0 tyX0 tyX0_ok (by decide) (by decide +kernel) wCLX4_7 wINX0 wIIX0 (dfX0 _) (Nat.le_of_ble_eq_true rfl) (Nat.le_of_ble_eq_true rfl) (by omega) dX4_init_71 ?_
  refine g_dup C dX4_init_74 rfl ?_
  refine kX4_9 C (by decide +kernel) (tX0_init (a := 116) (by decide +kernel) (by intro j h1 h2; rcases (show j = 1 ∨ j = 2 ∨ j = 3 ∨ j = 4 ∨ j = 5 ∨ j = 6 ∨ j = 7 ∨ j = 8 ∨ j = 9 ∨ j = 10 by omega) with rfl | rfl | rfl | rfl | rfl | rfl | rfl | rfl | rfl | rfl <;> decide +kernel)) ⟨⟨(Nat.le_of_ble_eq_true rfl), (Nat.le_of_ble_eq_true rfl)⟩, (Nat.le_of_ble_eq_true rfl), (Nat.le_of_ble_eq_true rfl)⟩ (Nat.le_of_ble_eq_true rfl) dX4_init_75 ?_
  refine pfX4_43 C hname (by decide +kernel) dX4_init_78 ?_
  refine g_aload_n C dX4_init_81 rfl rfl ?_
  refine g_iconst C (v := 0) dX4_init_82 (by decide) ?_
  refine pfX4_46 C (by decide +kernel) dX4_init_83 ?_
  exact g_vret C hr dX4_init_86 ⟨rfl, rfl, rfl⟩
def nMI (I : Mi) : Mi := (up (zI (zI (zI (zI (zI (zI (zI (zI I 128) 129) 130) 131) 132) 133) 134) 135) 128 0 20)
def nMF (F : Mr) : Mr := (ur (zF (ur (zF (ur (zF (ur (zF (ur (zF (ur (zF (ur (zF (ur (zF F 128) 127 0 (some 128)) 129) 127 1 (some 129)) 130) 127 2 (some 130)) 131) 127 4 (some 131)) 132) 127 5 (some 132)) 133) 127 6 (some 133)) 134) 127 8 (some 134)) 135) 127 9 (some 135))