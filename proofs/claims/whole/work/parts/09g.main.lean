set_option maxRecDepth 100000 in
set_option maxHeartbeats 800000 in
theorem tX4_slotOf0 {l : Launch} {E : EE} {I : Mi} {F : Mr} (hl : LY F)  : CtF l E mX4_slotOf [rf E 0, .int 0] NT I F NT (some (rf E 105)) I F := by
  refine CtF_of [some (rf E 0), some (.int 0)] (by decide) rfl (Nat.le_of_ble_eq_true rfl) rfl (fun p e s m args below meth c C hr hname => ?_)
  refine g_iload_n C dX4_slotOf_0 rfl rfl ?_
  refine g_if_ne C (tgt := 11) dX4_slotOf_1 (by decide) (fun c1 => absurd c1 (fun q => q rfl)) (fun _ => ?_)
  refine g_aload_n C dX4_slotOf_4 rfl rfl ?_
  refine gfX4_40 C (by decide) hl.slot1 dX4_slotOf_5 ?_
  refine g_goto C (tgt := 15) dX4_slotOf_8 (by decide) ?_
  exact g_aret C hr (Or.inr ⟨_, rfl⟩) dX4_slotOf_15 ⟨rfl, rfl, rfl⟩

set_option maxRecDepth 100000 in
set_option maxHeartbeats 800000 in
theorem tX4_slotOf1 {l : Launch} {E : EE} {I : Mi} {F : Mr} (hl : LY F)  : CtF l E mX4_slotOf [rf E 0, .int 1] NT I F NT (some (rf E 116)) I F := by
  refine CtF_of [some (rf E 0), some (.int 1)] (by decide) rfl (Nat.le_of_ble_eq_true rfl) rfl (fun p e s m args below meth c C hr hname => ?_)
  refine g_iload_n C dX4_slotOf_0 rfl rfl ?_
  refine g_if_ne C (tgt := 11) dX4_slotOf_1 (by decide) (fun _ => ?_) (fun c1 => absurd c1 (by decide))
  refine g_aload_n C dX4_slotOf_11 rfl rfl ?_
  refine gfX4_43 C (by decide) hl.slot2 dX4_slotOf_12 ?_
  exact g_aret C hr (Or.inr ⟨_, rfl⟩) dX4_slotOf_15 ⟨rfl, rfl, rfl⟩

set_option maxRecDepth 100000 in
set_option maxHeartbeats 800000 in
theorem tX4_save0 {l : Launch} {E : EE} {I : Mi} {F : Mr} (hl : LY F)  : CtF l E mX4_save [rf E 0, .int 0] NT I F NT (some (.int (xSave I 105 0).1)) ((xSave I 105 0).2) F := by
  refine CtF_of [some (rf E 0), some (.int 0)] (by decide) rfl (Nat.le_of_ble_eq_true rfl) rfl (fun p e s m args below meth c C hr hname => ?_)
  refine g_iload_n C dX4_save_0 rfl rfl ?_
  refine g_iconst C (v := 0) dX4_save_1 (by decide) ?_
  refine g_iconst C (v := 1) dX4_save_2 (by decide) ?_
  refine kX4_57 C (by decide) (tX4_isWithin _ _ _) ⟨⟨Nat.le_of_ble_eq_true rfl, Nat.le_of_ble_eq_true rfl⟩, Nat.le_of_ble_eq_true rfl, Nat.le_of_ble_eq_true rfl⟩ (Nat.le_of_ble_eq_true rfl) dX4_save_3 ?_
  refine g_ifne_b C (tgt := 12) dX4_save_6 (by decide) (fun _ => ?_) (fun c6 => (bt_f (by decide) c6).elim)
  refine g_aload_n C dX4_save_12 rfl rfl ?_
  refine g_iload_n C dX4_save_13 rfl rfl ?_
  refine kX4_216 C (by decide) (tX4_slotOf0 hl) ⟨⟨Nat.le_of_ble_eq_true rfl, Nat.le_of_ble_eq_true rfl⟩, Nat.le_of_ble_eq_true rfl, Nat.le_of_ble_eq_true rfl⟩ (Nat.le_of_ble_eq_true rfl) dX4_save_14 ?_
  refine g_aload_n C dX4_save_17 rfl rfl ?_
  refine gfX4_10 C (by decide) hl.chip dX4_save_18 ?_
  refine kX4_87 C hl.c105.o (tX0_copyFrom hl.c105 hl.c1) ⟨⟨Nat.le_of_ble_eq_true rfl, Nat.le_of_ble_eq_true rfl⟩, Nat.le_of_ble_eq_true rfl, Nat.le_of_ble_eq_true rfl⟩ (Nat.le_of_ble_eq_true rfl) dX4_save_21 ?_
  refine g_aload_n C dX4_save_24 rfl rfl ?_
  refine g_dup C dX4_save_25 rfl ?_
  refine gfX4_46 C (by decide) dX4_save_26 ?_
  refine g_iconst C (v := 1) dX4_save_29 (by decide) ?_
  refine g_iload_n C dX4_save_30 rfl rfl ?_
  refine g_ishl C dX4_save_31 ?_
  refine g_ior C dX4_save_32 ?_
  refine pfX4_46 C (by decide) dX4_save_33 ?_
  refine g_aload_n C dX4_save_36 rfl rfl ?_
  refine gfX4_10 C (by decide) hl.chip dX4_save_37 ?_
  refine gfX4_71 C hl.c1.o dX4_save_40 ?_
  exact g_iret C hr dX4_save_43 ⟨by unfold xSave; skip; try rfl, by unfold xSave; skip; try rfl, rfl⟩

set_option maxRecDepth 100000 in
set_option maxHeartbeats 800000 in
theorem tX4_restore0 {l : Launch} {E : EE} {I : Mi} {F : Mr} (hl : LY F) {h : Nat → Nat} (hb : HB F h) {k : Nat} (hk6 : k ≤ 6) (hk : I 37 1 = nI k)  : CtF l E mX4_restore [rf E 0, .int 0] NT I F NT (some (.int (xRest I F h k 105 0).1)) ((xRest I F h k 105 0).2.1) ((xRest I F h k 105 0).2.2) := by
  refine CtF_of [some (rf E 0), some (.int 0)] (by decide) rfl (Nat.le_of_ble_eq_true rfl) rfl (fun p e s m args below meth c C hr hname => ?_)
  refine g_iload_n C dX4_restore_0 rfl rfl ?_
  refine g_iconst C (v := 0) dX4_restore_1 (by decide) ?_
  refine g_iconst C (v := 1) dX4_restore_2 (by decide) ?_
  refine kX4_57 C (by decide) (tX4_isWithin _ _ _) ⟨⟨Nat.le_of_ble_eq_true rfl, Nat.le_of_ble_eq_true rfl⟩, Nat.le_of_ble_eq_true rfl, Nat.le_of_ble_eq_true rfl⟩ (Nat.le_of_ble_eq_true rfl) dX4_restore_3 ?_
  refine g_ifne_b C (tgt := 12) dX4_restore_6 (by decide) (fun _ => ?_) (fun c6 => (bt_f (by decide) c6).elim)
  refine g_aload_n C dX4_restore_12 rfl rfl ?_
  refine gfX4_46 C (by decide) dX4_restore_13 ?_
  refine g_iload_n C dX4_restore_16 rfl rfl ?_
  refine kX4_101 C (by decide) (tX4_isIn _ _) ⟨⟨Nat.le_of_ble_eq_true rfl, Nat.le_of_ble_eq_true rfl⟩, Nat.le_of_ble_eq_true rfl, Nat.le_of_ble_eq_true rfl⟩ (Nat.le_of_ble_eq_true rfl) dX4_restore_17 ?_
  refine g_ifne_b C (tgt := 26) dX4_restore_20 (by decide) (fun c20 => ?_) (fun c20 => ?_)
  · skip
    refine g_aload_n C dX4_restore_26 rfl rfl ?_
    refine gfX4_36 C (by decide) hl.histR dX4_restore_27 ?_
    refine g_aload_n C dX4_restore_30 rfl rfl ?_
    refine gfX4_10 C (by decide) hl.chip dX4_restore_31 ?_
    refine kX4_61 C (by decide) (tX2_record hl hb hl.c1 (by decide) hk6 hk) ⟨⟨Nat.le_of_ble_eq_true rfl, Nat.le_of_ble_eq_true rfl⟩, Nat.le_of_ble_eq_true rfl, Nat.le_of_ble_eq_true rfl⟩ (Nat.le_of_ble_eq_true rfl) dX4_restore_34 ?_
    have hl2 := recF_LY (h := h) (k := k) hl
    refine g_aload_n C dX4_restore_37 rfl rfl ?_
    refine gfX4_10 C (by decide) hl2.chip dX4_restore_38 ?_
    refine g_aload_n C dX4_restore_41 rfl rfl ?_
    refine g_iload_n C dX4_restore_42 rfl rfl ?_
    refine kX4_216 C (by decide) (tX4_slotOf0 hl2) ⟨⟨Nat.le_of_ble_eq_true rfl, Nat.le_of_ble_eq_true rfl⟩, Nat.le_of_ble_eq_true rfl, Nat.le_of_ble_eq_true rfl⟩ (Nat.le_of_ble_eq_true rfl) dX4_restore_43 ?_
    refine kX4_87 C hl2.c1.o (tX0_copyFrom hl2.c1 hl2.c105) ⟨⟨Nat.le_of_ble_eq_true rfl, Nat.le_of_ble_eq_true rfl⟩, Nat.le_of_ble_eq_true rfl, Nat.le_of_ble_eq_true rfl⟩ (Nat.le_of_ble_eq_true rfl) dX4_restore_46 ?_
    refine g_aload_n C dX4_restore_49 rfl rfl ?_
    refine gfX4_10 C (by decide) hl2.chip dX4_restore_50 ?_
    refine gfX4_71 C hl2.c1.o dX4_restore_53 ?_
    exact g_iret C hr dX4_restore_56 ⟨by unfold xRest; (try first | rw [if_pos c20] | rw [if_neg c20] | rw [if_neg (show ¬ _ = true by rw [c20]; decide)]); try rfl, by unfold xRest; (try first | rw [if_pos c20] | rw [if_neg c20] | rw [if_neg (show ¬ _ = true by rw [c20]; decide)]); try rfl, by unfold xRest; (try first | rw [if_pos c20] | rw [if_neg c20] | rw [if_neg (show ¬ _ = true by rw [c20]; decide)]); try rfl⟩
  · skip
    refine g_bipush C (v := (-5)) dX4_restore_23 (by decide) ?_
    exact g_iret C hr dX4_restore_25 ⟨by unfold xRest; (try first | rw [if_pos c20] | rw [if_neg c20] | rw [if_neg (show ¬ _ = true by rw [c20]; decide)]); try rfl, by unfold xRest; (try first | rw [if_pos c20] | rw [if_neg c20] | rw [if_neg (show ¬ _ = true by rw [c20]; decide)]); try rfl, by unfold xRest; (try first | rw [if_pos c20] | rw [if_neg c20] | rw [if_neg (show ¬ _ = true by rw [c20]; decide)]); try rfl⟩

set_option maxRecDepth 100000 in
set_option maxHeartbeats 800000 in
theorem tX4_save1 {l : Launch} {E : EE} {I : Mi} {F : Mr} (hl : LY F)  : CtF l E mX4_save [rf E 0, .int 1] NT I F NT (some (.int (xSave I 116 1).1)) ((xSave I 116 1).2) F := by
  refine CtF_of [some (rf E 0), some (.int 1)] (by decide) rfl (Nat.le_of_ble_eq_true rfl) rfl (fun p e s m args below meth c C hr hname => ?_)
  refine g_iload_n C dX4_save_0 rfl rfl ?_
  refine g_iconst C (v := 0) dX4_save_1 (by decide) ?_
  refine g_iconst C (v := 1) dX4_save_2 (by decide) ?_
  refine kX4_57 C (by decide) (tX4_isWithin _ _ _) ⟨⟨Nat.le_of_ble_eq_true rfl, Nat.le_of_ble_eq_true rfl⟩, Nat.le_of_ble_eq_true rfl, Nat.le_of_ble_eq_true rfl⟩ (Nat.le_of_ble_eq_true rfl) dX4_save_3 ?_
  refine g_ifne_b C (tgt := 12) dX4_save_6 (by decide) (fun _ => ?_) (fun c6 => (bt_f (by decide) c6).elim)
  refine g_aload_n C dX4_save_12 rfl rfl ?_
  refine g_iload_n C dX4_save_13 rfl rfl ?_
  refine kX4_216 C (by decide) (tX4_slotOf1 hl) ⟨⟨Nat.le_of_ble_eq_true rfl, Nat.le_of_ble_eq_true rfl⟩, Nat.le_of_ble_eq_true rfl, Nat.le_of_ble_eq_true rfl⟩ (Nat.le_of_ble_eq_true rfl) dX4_save_14 ?_
  refine g_aload_n C dX4_save_17 rfl rfl ?_
  refine gfX4_10 C (by decide) hl.chip dX4_save_18 ?_
  refine kX4_87 C hl.c116.o (tX0_copyFrom hl.c116 hl.c1) ⟨⟨Nat.le_of_ble_eq_true rfl, Nat.le_of_ble_eq_true rfl⟩, Nat.le_of_ble_eq_true rfl, Nat.le_of_ble_eq_true rfl⟩ (Nat.le_of_ble_eq_true rfl) dX4_save_21 ?_
  refine g_aload_n C dX4_save_24 rfl rfl ?_
  refine g_dup C dX4_save_25 rfl ?_
  refine gfX4_46 C (by decide) dX4_save_26 ?_
  refine g_iconst C (v := 1) dX4_save_29 (by decide) ?_
  refine g_iload_n C dX4_save_30 rfl rfl ?_
  refine g_ishl C dX4_save_31 ?_
  refine g_ior C dX4_save_32 ?_
  refine pfX4_46 C (by decide) dX4_save_33 ?_
  refine g_aload_n C dX4_save_36 rfl rfl ?_
  refine gfX4_10 C (by decide) hl.chip dX4_save_37 ?_
  refine gfX4_71 C hl.c1.o dX4_save_40 ?_
  exact g_iret C hr dX4_save_43 ⟨by unfold xSave; skip; try rfl, by unfold xSave; skip; try rfl, rfl⟩

set_option maxRecDepth 100000 in
set_option maxHeartbeats 800000 in
theorem tX4_restore1 {l : Launch} {E : EE} {I : Mi} {F : Mr} (hl : LY F) {h : Nat → Nat} (hb : HB F h) {k : Nat} (hk6 : k ≤ 6) (hk : I 37 1 = nI k)  : CtF l E mX4_restore [rf E 0, .int 1] NT I F NT (some (.int (xRest I F h k 116 1).1)) ((xRest I F h k 116 1).2.1) ((xRest I F h k 116 1).2.2) := by
  refine CtF_of [some (rf E 0), some (.int 1)] (by decide) rfl (Nat.le_of_ble_eq_true rfl) rfl (fun p e s m args below meth c C hr hname => ?_)
  refine g_iload_n C dX4_restore_0 rfl rfl ?_
  refine g_iconst C (v := 0) dX4_restore_1 (by decide) ?_
  refine g_iconst C (v := 1) dX4_restore_2 (by decide) ?_
  refine kX4_57 C (by decide) (tX4_isWithin _ _ _) ⟨⟨Nat.le_of_ble_eq_true rfl, Nat.le_of_ble_eq_true rfl⟩, Nat.le_of_ble_eq_true rfl, Nat.le_of_ble_eq_true rfl⟩ (Nat.le_of_ble_eq_true rfl) dX4_restore_3 ?_
  refine g_ifne_b C (tgt := 12) dX4_restore_6 (by decide) (fun _ => ?_) (fun c6 => (bt_f (by decide) c6).elim)
  refine g_aload_n C dX4_restore_12 rfl rfl ?_
  refine gfX4_46 C (by decide) dX4_restore_13 ?_
  refine g_iload_n C dX4_restore_16 rfl rfl ?_
  refine kX4_101 C (by decide) (tX4_isIn _ _) ⟨⟨Nat.le_of_ble_eq_true rfl, Nat.le_of_ble_eq_true rfl⟩, Nat.le_of_ble_eq_true rfl, Nat.le_of_ble_eq_true rfl⟩ (Nat.le_of_ble_eq_true rfl) dX4_restore_17 ?_
  refine g_ifne_b C (tgt := 26) dX4_restore_20 (by decide) (fun c20 => ?_) (fun c20 => ?_)
  · skip
    refine g_aload_n C dX4_restore_26 rfl rfl ?_
    refine gfX4_36 C (by decide) hl.histR dX4_restore_27 ?_
    refine g_aload_n C dX4_restore_30 rfl rfl ?_
    refine gfX4_10 C (by decide) hl.chip dX4_restore_31 ?_
    refine kX4_61 C (by decide) (tX2_record hl hb hl.c1 (by decide) hk6 hk) ⟨⟨Nat.le_of_ble_eq_true rfl, Nat.le_of_ble_eq_true rfl⟩, Nat.le_of_ble_eq_true rfl, Nat.le_of_ble_eq_true rfl⟩ (Nat.le_of_ble_eq_true rfl) dX4_restore_34 ?_
    have hl2 := recF_LY (h := h) (k := k) hl
    refine g_aload_n C dX4_restore_37 rfl rfl ?_
    refine gfX4_10 C (by decide) hl2.chip dX4_restore_38 ?_
    refine g_aload_n C dX4_restore_41 rfl rfl ?_
    refine g_iload_n C dX4_restore_42 rfl rfl ?_
    refine kX4_216 C (by decide) (tX4_slotOf1 hl2) ⟨⟨Nat.le_of_ble_eq_true rfl, Nat.le_of_ble_eq_true rfl⟩, Nat.le_of_ble_eq_true rfl, Nat.le_of_ble_eq_true rfl⟩ (Nat.le_of_ble_eq_true rfl) dX4_restore_43 ?_
    refine kX4_87 C hl2.c1.o (tX0_copyFrom hl2.c1 hl2.c116) ⟨⟨Nat.le_of_ble_eq_true rfl, Nat.le_of_ble_eq_true rfl⟩, Nat.le_of_ble_eq_true rfl, Nat.le_of_ble_eq_true rfl⟩ (Nat.le_of_ble_eq_true rfl) dX4_restore_46 ?_
    refine g_aload_n C dX4_restore_49 rfl rfl ?_
    refine gfX4_10 C (by decide) hl2.chip dX4_restore_50 ?_
    refine gfX4_71 C hl2.c1.o dX4_restore_53 ?_
    exact g_iret C hr dX4_restore_56 ⟨by unfold xRest; (try first | rw [if_pos c20] | rw [if_neg c20] | rw [if_neg (show ¬ _ = true by rw [c20]; decide)]); try rfl, by unfold xRest; (try first | rw [if_pos c20] | rw [if_neg c20] | rw [if_neg (show ¬ _ = true by rw [c20]; decide)]); try rfl, by unfold xRest; (try first | rw [if_pos c20] | rw [if_neg c20] | rw [if_neg (show ¬ _ = true by rw [c20]; decide)]); try rfl⟩
  · skip
    refine g_bipush C (v := (-5)) dX4_restore_23 (by decide) ?_
    exact g_iret C hr dX4_restore_25 ⟨by unfold xRest; (try first | rw [if_pos c20] | rw [if_neg c20] | rw [if_neg (show ¬ _ = true by rw [c20]; decide)]); try rfl, by unfold xRest; (try first | rw [if_pos c20] | rw [if_neg c20] | rw [if_neg (show ¬ _ = true by rw [c20]; decide)]); try rfl, by unfold xRest; (try first | rw [if_pos c20] | rw [if_neg c20] | rw [if_neg (show ¬ _ = true by rw [c20]; decide)]); try rfl⟩

set_option maxRecDepth 100000 in
set_option maxHeartbeats 800000 in
theorem tX4_save_no {l : Launch} {E : EE} {I : Mi} {F : Mr} (hl : LY F) (x : Int32) (hx : isW x 0 1 = false)  : CtF l E mX4_save [rf E 0, .int x] NT I F NT (some (.int (-2))) I F := by
  refine CtF_of [some (rf E 0), some (.int x)] (by decide) rfl (Nat.le_of_ble_eq_true rfl) rfl (fun p e s m args below meth c C hr hname => ?_)
  refine g_iload_n C dX4_save_0 rfl rfl ?_
  refine g_iconst C (v := 0) dX4_save_1 (by decide) ?_
  refine g_iconst C (v := 1) dX4_save_2 (by decide) ?_
  refine kX4_57 C (by decide) (tX4_isWithin _ _ _) ⟨⟨Nat.le_of_ble_eq_true rfl, Nat.le_of_ble_eq_true rfl⟩, Nat.le_of_ble_eq_true rfl, Nat.le_of_ble_eq_true rfl⟩ (Nat.le_of_ble_eq_true rfl) dX4_save_3 ?_
  refine g_ifne_b C (tgt := 12) dX4_save_6 (by decide) (fun c6 => absurd c6 (by rw [hx]; decide)) (fun _ => ?_)
  refine g_bipush C (v := (-2)) dX4_save_9 (by decide) ?_
  exact g_iret C hr dX4_save_11 ⟨rfl, rfl, rfl⟩

set_option maxRecDepth 100000 in
set_option maxHeartbeats 800000 in
theorem tX4_restore_no {l : Launch} {E : EE} {I : Mi} {F : Mr} (hl : LY F) (x : Int32) (hx : isW x 0 1 = false)  : CtF l E mX4_restore [rf E 0, .int x] NT I F NT (some (.int (-2))) I F := by
  refine CtF_of [some (rf E 0), some (.int x)] (by decide) rfl (Nat.le_of_ble_eq_true rfl) rfl (fun p e s m args below meth c C hr hname => ?_)
  refine g_iload_n C dX4_restore_0 rfl rfl ?_
  refine g_iconst C (v := 0) dX4_restore_1 (by decide) ?_
  refine g_iconst C (v := 1) dX4_restore_2 (by decide) ?_
  refine kX4_57 C (by decide) (tX4_isWithin _ _ _) ⟨⟨Nat.le_of_ble_eq_true rfl, Nat.le_of_ble_eq_true rfl⟩, Nat.le_of_ble_eq_true rfl, Nat.le_of_ble_eq_true rfl⟩ (Nat.le_of_ble_eq_true rfl) dX4_restore_3 ?_
  refine g_ifne_b C (tgt := 12) dX4_restore_6 (by decide) (fun c6 => absurd c6 (by rw [hx]; decide)) (fun _ => ?_)
  refine g_bipush C (v := (-2)) dX4_restore_9 (by decide) ?_
  exact g_iret C hr dX4_restore_11 ⟨rfl, rfl, rfl⟩

theorem addC_ne {I : Mi} {a n : Nat} {iso keep r d m : Int32} {x : Nat} (h : x < a ∨ a + 4 < x) : addC I a n iso keep r d m x = I x := by
  simp only [addC]
  rw [up_ne (show x ≠ a + 4 by omega), up_ne (show x ≠ a + 3 by omega), up_ne (show x ≠ a + 2 by omega), up_ne (show x ≠ a + 1 by omega)]
  split <;> split <;> simp only [up_ne (show x ≠ a by omega)]
theorem begI_ne {I : Mi} {x : Nat} (h : x ≠ 25) : begI I x = I x := by simp only [begI, up_ne h]
theorem tk_ne {I : Mi} {c : Int32} {x : Nat} (h : x < 25 ∨ 36 < x) : (tk I c).2 x = I x := by
  have hn : x ≠ 25 := by omega
  have e1 : ∀ (J : Mi) v, (tkIso J v).2 x = J x := fun J v => by unfold tkIso; split <;> simp only [up_ne hn]
  have e2 : ∀ (J : Mi) v, (tkKeep J v).2 x = J x := fun J v => by unfold tkKeep; split <;> simp only [up_ne hn]
  have e3 : ∀ (J : Mi) v, (tkRise J v).2 x = J x := fun J v => by unfold tkRise; (try split) <;> (try split) <;> simp only [up_ne hn]
  have e4 : ∀ (J : Mi) v, (tkComma J v).2 x = J x := fun J v => by unfold tkComma; split <;> simp only [up_ne hn]
  have e5 : ∀ (J : Mi) v, (tkLoad J v).2 x = J x := fun J v => by unfold tkLoad; (try split) <;> (try split) <;> (try split) <;> simp only [up_ne hn]
  have e6 : ∀ (J : Mi) v, (tkArrow J v).2 x = J x := fun J v => by unfold tkArrow; split <;> simp only [up_ne hn]
  have e7 : ∀ (J : Mi) v, (tkNum J v).2 x = J x := fun J v => by unfold tkNum; (try split) <;> (try split) <;> simp only [up_ne hn]
  have e8 : ∀ (J : Mi) n v, (tkEnd J n v).2 x = J x := fun J n v => by
    unfold tkEnd; (try split) <;> (try split) <;> simp only [begI_ne hn, endI, addC_ne (show x < 26 ∨ 26 + 4 < x by omega)]
  have eo : ∀ (f g : Mi → Int32 → Bool × Mi), (∀ J v, (f J v).2 x = J x) → (∀ J v, (g J v).2 x = J x) → ∀ J v, (orT f g J v).2 x = J x := fun f g hf hg J v => by
    unfold orT; split
    · exact hf J v
    · rw [hg, hf]
  unfold tk tkC
  by_cases csw : (I 25 1).toInt < 0 ∨ 6 < (I 25 1).toInt
  · rw [swf_out csw]; exact eo _ _ e6 (fun J v => e8 J _ v) I c
  · obtain ⟨c1, c2⟩ := not_or.mp csw
    rcases sw_cases7 c1 c2 with q | q | q | q | q | q | q
    · rw [swf_at (z := 0) q (by decide) (by decide)]; exact eo _ _ e1 (eo _ _ e2 e3) I c
    · rw [swf_at (z := 1) q (by decide) (by decide)]; exact eo _ _ e2 e3 I c
    · rw [swf_at (z := 2) q (by decide) (by decide)]; exact e3 I c
    · rw [swf_at (z := 3) q (by decide) (by decide)]; exact e4 I c
    · rw [swf_at (z := 4) q (by decide) (by decide)]; exact e5 I c
    · rw [swf_at (z := 5) q (by decide) (by decide)]; exact eo _ _ e5 (eo _ _ e6 (fun J v => e8 J _ v)) I c
    · rw [swf_at (z := 6) q (by decide) (by decide)]; exact e7 I c
theorem ffR_ne {x : Nat} (h : x < 25 ∨ 36 < x) : ∀ (k i : Nat) (I : Mi), (ffR k i I).2 x = I x
  | 0, i, I => by
    unfold ffR ffin endI2 endI; (try split) <;> (try split) <;> simp only [addC_ne (show x < 26 ∨ 26 + 4 < x by omega)]
  | k + 1, i, I => by
    unfold ffR
    split
    · unfold ffin endI2 endI; (try split) <;> (try split) <;> simp only [addC_ne (show x < 26 ∨ 26 + 4 < x by omega)]
    · split
      · rw [ffR_ne h k, tk_ne h]
      · exact tk_ne h
theorem ffC_ne {I : Mi} {x : Nat} (h : x < 25 ∨ 36 < x) : (ffC I).2 x = I x := by
  unfold ffC ff0
  rw [ffR_ne h, begI_ne (by omega)]
  unfold clearC
  rw [lp_fix (fun i J => by
    simp only [clrB, up_ne (show x ≠ 26 + 1 by omega), up_ne (show x ≠ 26 + 2 by omega), up_ne (show x ≠ 26 + 3 by omega), up_ne (show x ≠ 26 + 4 by omega), up_ne (show x ≠ 26 + 5 by omega), up_ne (show x ≠ 26 + 6 by omega), up_ne (show x ≠ 26 + 7 by omega), up_ne (show x ≠ 26 + 8 by omega), up_ne (show x ≠ 26 + 9 by omega)])]
  simp only [clrS, up_ne (show x ≠ 26 by omega)]

set_option maxRecDepth 100000 in
set_option maxHeartbeats 800000 in
theorem tX4_read {l : Launch} {E : EE} {I : Mi} {F : Mr} (hl : LY F) {h : Nat → Nat} (hb : HB F h) {k : Nat} (hk6 : k ≤ 6) (hk : I 37 1 = nI k)  : CtF l E mX4_read [rf E 0] NT I F NT (some (.int (xRead I F h k).1)) ((xRead I F h k).2.1) ((xRead I F h k).2.2) := by
  refine CtF_of [some (rf E 0), none] (by decide) rfl (Nat.le_of_ble_eq_true rfl) rfl (fun p e s m args below meth c C hr hname => ?_)
  refine g_aload_n C dX4_read_0 rfl rfl ?_
  refine gfX4_29 C (by decide) hl.readerR dX4_read_1 ?_
  refine g_aload_n C dX4_read_4 rfl rfl ?_
  refine gfX4_22 C (by decide) hl.padR dX4_read_5 ?_
  refine kX4_78 C (by decide) (tX1_findFault hl) ⟨⟨Nat.le_of_ble_eq_true rfl, Nat.le_of_ble_eq_true rfl⟩, Nat.le_of_ble_eq_true rfl, Nat.le_of_ble_eq_true rfl⟩ (Nat.le_of_ble_eq_true rfl) dX4_read_8 ?_
  refine g_bipush C (v := (-6)) dX4_read_11 (by decide) ?_
  refine g_icmp_eq C (tgt := 19) dX4_read_13 (by decide) (fun c13 => ?_) (fun c13 => ?_)
  · skip
    refine g_aload_n C dX4_read_19 rfl rfl ?_
    refine gfX4_29 C (by decide) hl.readerR dX4_read_20 ?_
    refine gfX4_82 C (by decide) hl.rchip dX4_read_23 ?_
    refine g_astore_n C dX4_read_26 rfl (by decide) rfl ?_
    refine g_aload_n C dX4_read_27 rfl rfl ?_
    refine kX4_83 C hl.c26.o (tX0_hasAllThatAreRead hl.c26) ⟨⟨Nat.le_of_ble_eq_true rfl, Nat.le_of_ble_eq_true rfl⟩, Nat.le_of_ble_eq_true rfl, Nat.le_of_ble_eq_true rfl⟩ (Nat.le_of_ble_eq_true rfl) dX4_read_28 ?_
    refine g_ifne_b C (tgt := 36) dX4_read_31 (by decide) (fun c31 => ?_) (fun c31 => ?_)
    · skip
      refine g_aload_n C dX4_read_36 rfl rfl ?_
      refine gfX4_36 C (by decide) hl.histR dX4_read_37 ?_
      refine g_aload_n C dX4_read_40 rfl rfl ?_
      refine gfX4_10 C (by decide) hl.chip dX4_read_41 ?_
      refine kX4_61 C (by decide) (tX2_record hl hb hl.c1 (by decide) hk6 (by rw [ffC_ne (by decide)]; exact hk)) ⟨⟨Nat.le_of_ble_eq_true rfl, Nat.le_of_ble_eq_true rfl⟩, Nat.le_of_ble_eq_true rfl, Nat.le_of_ble_eq_true rfl⟩ (Nat.le_of_ble_eq_true rfl) dX4_read_44 ?_
      have hl2 := recF_LY (h := h) (k := k) hl
      refine g_aload_n C dX4_read_47 rfl rfl ?_
      refine g_aload_n C dX4_read_48 rfl rfl ?_
      refine gfX4_10 C (by decide) hl2.chip dX4_read_49 ?_
      refine gfX4_65 C hl2.c1.o dX4_read_52 ?_
      refine pfX4_65 C hl2.c26.o dX4_read_55 ?_
      refine g_aload_n C dX4_read_58 rfl rfl ?_
      refine g_aload_n C dX4_read_59 rfl rfl ?_
      refine gfX4_10 C (by decide) hl2.chip dX4_read_60 ?_
      refine gfX4_68 C hl2.c1.o dX4_read_63 ?_
      refine pfX4_68 C hl2.c26.o dX4_read_66 ?_
      refine g_aload_n C dX4_read_69 rfl rfl ?_
      refine gfX4_10 C (by decide) hl2.chip dX4_read_70 ?_
      refine g_aload_n C dX4_read_73 rfl rfl ?_
      refine kX4_87 C hl2.c1.o (tX0_copyFrom hl2.c1 hl2.c26) ⟨⟨Nat.le_of_ble_eq_true rfl, Nat.le_of_ble_eq_true rfl⟩, Nat.le_of_ble_eq_true rfl, Nat.le_of_ble_eq_true rfl⟩ (Nat.le_of_ble_eq_true rfl) dX4_read_74 ?_
      refine g_aload_n C dX4_read_77 rfl rfl ?_
      refine gfX4_22 C (by decide) hl2.padR dX4_read_78 ?_
      refine g_iconst C (v := 0) dX4_read_81 (by decide) ?_
      refine pfX4_90 C (by decide) dX4_read_82 ?_
      refine g_aload_n C dX4_read_85 rfl rfl ?_
      refine gfX4_10 C (by decide) hl2.chip dX4_read_86 ?_
      refine gfX4_71 C hl2.c1.o dX4_read_89 ?_
      exact g_iret C hr dX4_read_92 ⟨by unfold xRead; (try first | rw [if_pos c13] | rw [if_neg c13] | rw [if_neg (show ¬ _ = true by rw [c13]; decide)]); (try first | rw [if_pos c31] | rw [if_neg c31] | rw [if_neg (show ¬ _ = true by rw [c31]; decide)]); try rfl, by unfold xRead; (try first | rw [if_pos c13] | rw [if_neg c13] | rw [if_neg (show ¬ _ = true by rw [c13]; decide)]); (try first | rw [if_pos c31] | rw [if_neg c31] | rw [if_neg (show ¬ _ = true by rw [c31]; decide)]); try rfl, by unfold xRead; (try first | rw [if_pos c13] | rw [if_neg c13] | rw [if_neg (show ¬ _ = true by rw [c13]; decide)]); (try first | rw [if_pos c31] | rw [if_neg c31] | rw [if_neg (show ¬ _ = true by rw [c31]; decide)]); try rfl⟩
    · skip
      refine g_iconst C (v := (-1)) dX4_read_34 (by decide) ?_
      exact g_iret C hr dX4_read_35 ⟨by unfold xRead; (try first | rw [if_pos c13] | rw [if_neg c13] | rw [if_neg (show ¬ _ = true by rw [c13]; decide)]); (try first | rw [if_pos c31] | rw [if_neg c31] | rw [if_neg (show ¬ _ = true by rw [c31]; decide)]); try rfl, by unfold xRead; (try first | rw [if_pos c13] | rw [if_neg c13] | rw [if_neg (show ¬ _ = true by rw [c13]; decide)]); (try first | rw [if_pos c31] | rw [if_neg c31] | rw [if_neg (show ¬ _ = true by rw [c31]; decide)]); try rfl, by unfold xRead; (try first | rw [if_pos c13] | rw [if_neg c13] | rw [if_neg (show ¬ _ = true by rw [c13]; decide)]); (try first | rw [if_pos c31] | rw [if_neg c31] | rw [if_neg (show ¬ _ = true by rw [c31]; decide)]); try rfl⟩
  · skip
    refine g_bipush C (v := (-3)) dX4_read_16 (by decide) ?_
    exact g_iret C hr dX4_read_18 ⟨by unfold xRead; (try first | rw [if_pos c13] | rw [if_neg c13] | rw [if_neg (show ¬ _ = true by rw [c13]; decide)]); try rfl, by unfold xRead; (try first | rw [if_pos c13] | rw [if_neg c13] | rw [if_neg (show ¬ _ = true by rw [c13]; decide)]); try rfl, by unfold xRead; (try first | rw [if_pos c13] | rw [if_neg c13] | rw [if_neg (show ¬ _ = true by rw [c13]; decide)]); try rfl⟩

