set_option maxRecDepth 100000 in
set_option maxHeartbeats 800000 in
theorem tX4_signsIn {l : Launch} {E : EE} {I : Mi} {F : Mr} (c9 : Int64)  : CtF l E mX4_signsIn [.long c9] NT I F NT (some (.int (sgR 8 0 c9))) I F := by
  refine CtF_of [some (.long c9), none, none, none, none] (by decide) rfl (Nat.le_of_ble_eq_true rfl) rfl (fun p e s m args below meth c C hr hname => ?_)
  refine g_lload_n C dX4_signsIn_0 rfl rfl ?_
  refine g_lstore_n C dX4_signsIn_1 rfl (by decide) rfl ?_
  refine g_iconst C (v := 0) dX4_signsIn_2 (by decide) ?_
  refine g_istore C dX4_signsIn_3 (by decide) rfl ?_
  refine G_loopI (n := 8) (fun i => [some (.long c9), none, some (.long (sgm c9 i)), none, some (.int (nI i))]) (fun _ => I) (fun _ => F) (fun i => sgR (8 - i) i (sgm c9 i) = sgR 8 0 c9) rfl rfl rfl rfl ?_ ?_
  · intro i5 hi5 hv5 ih5
    rw [show 8 - i5 = (7 - i5) + 1 by omega, sgR] at hv5
    refine g_iload C dX4_signsIn_5 rfl ?_
    refine g_bipush C (v := 8) dX4_signsIn_7 (by decide) ?_
    refine g_icmp_ge C (tgt := 51) dX4_signsIn_9 (by decide) (fun c9 => absurd c9 (nI_nge rfl hi5 (by decide))) (fun _ => ?_)
    refine g_lload_n C dX4_signsIn_12 rfl rfl ?_
    refine g_ldc2 C dX4_signsIn_13 kcX4_207 ?_
    refine g_land C dX4_signsIn_16 ?_
    refine g_lconst C (v := 0) dX4_signsIn_17 (by decide) ?_
    refine g_lcmp C dX4_signsIn_18 ?_
    refine g_if_eq C (tgt := 51) dX4_signsIn_19 (by decide) (fun c19 => ?_) (fun c19 => ?_)
    · skip
      refine g_lload_n C dX4_signsIn_51 rfl rfl ?_
      refine g_lconst C (v := 0) dX4_signsIn_52 (by decide) ?_
      refine g_lcmp C dX4_signsIn_53 ?_
      refine g_if_ne C (tgt := 62) dX4_signsIn_54 (by decide) (fun c54 => ?_) (fun c54 => ?_)
      · skip
        refine g_iconst C (v := 0) dX4_signsIn_62 (by decide) ?_
        exact g_iret C hr dX4_signsIn_63 ⟨by rw [← hv5]; (try first | rw [if_pos c19] | rw [if_neg c19] | rw [if_neg (show ¬ _ = true by rw [c19]; decide)]); (try first | rw [if_pos c54] | rw [if_neg c54] | rw [if_neg (show ¬ _ = true by rw [c54]; decide)]); (try unfold sgE); (try first | rw [if_pos c19] | rw [if_neg c19] | rw [if_neg (show ¬ _ = true by rw [c19]; decide)]); (try first | rw [if_pos c54] | rw [if_neg c54] | rw [if_neg (show ¬ _ = true by rw [c54]; decide)]); try rfl, rfl, rfl⟩
      · skip
        refine g_iload C dX4_signsIn_57 rfl ?_
        refine g_goto C (tgt := 63) dX4_signsIn_59 (by decide) ?_
        exact g_iret C hr dX4_signsIn_63 ⟨by rw [← hv5]; (try first | rw [if_pos c19] | rw [if_neg c19] | rw [if_neg (show ¬ _ = true by rw [c19]; decide)]); (try first | rw [if_pos c54] | rw [if_neg c54] | rw [if_neg (show ¬ _ = true by rw [c54]; decide)]); (try unfold sgE); (try first | rw [if_pos c19] | rw [if_neg c19] | rw [if_neg (show ¬ _ = true by rw [c19]; decide)]); (try first | rw [if_pos c54] | rw [if_neg c54] | rw [if_neg (show ¬ _ = true by rw [c54]; decide)]); try rfl, rfl, rfl⟩
    · skip
      refine g_lload_n C dX4_signsIn_22 rfl rfl ?_
      refine g_ldc2 C dX4_signsIn_23 kcX4_207 ?_
      refine g_land C dX4_signsIn_26 ?_
      refine g_l2i C dX4_signsIn_27 rfl ?_
      refine g_bipush C (v := 33) dX4_signsIn_28 (by decide) ?_
      refine g_bipush C (v := 126) dX4_signsIn_30 (by decide) ?_
      refine kX4_57 C (by decide) (tX4_isWithin _ _ _) ⟨⟨Nat.le_of_ble_eq_true rfl, Nat.le_of_ble_eq_true rfl⟩, Nat.le_of_ble_eq_true rfl, Nat.le_of_ble_eq_true rfl⟩ (Nat.le_of_ble_eq_true rfl) dX4_signsIn_32 ?_
      refine g_ifne_b C (tgt := 40) dX4_signsIn_35 (by decide) (fun c35 => ?_) (fun c35 => ?_)
      · skip
        refine g_lload_n C dX4_signsIn_40 rfl rfl ?_
        refine g_bipush C (v := 8) dX4_signsIn_41 (by decide) ?_
        refine g_lushr C dX4_signsIn_43 rfl ?_
        refine g_lstore_n C dX4_signsIn_44 rfl (by decide) rfl ?_
        refine g_iinc C dX4_signsIn_45 rfl (nI_inc _) (by decide) rfl ?_
        refine g_goto C (tgt := 5) dX4_signsIn_48 (by decide) ?_
        exact ih5 (by rw [show 8 - (i5 + 1) = 7 - i5 by omega, ← hv5]; (try first | rw [if_pos c19] | rw [if_neg c19] | rw [if_neg (show ¬ _ = true by rw [c19]; decide)]); (try first | rw [if_pos c35] | rw [if_neg c35] | rw [if_neg (show ¬ _ = true by rw [c35]; decide)]); rfl)
      · skip
        refine g_iconst C (v := 0) dX4_signsIn_38 (by decide) ?_
        exact g_iret C hr dX4_signsIn_39 ⟨by rw [← hv5]; (try first | rw [if_pos c19] | rw [if_neg c19] | rw [if_neg (show ¬ _ = true by rw [c19]; decide)]); (try first | rw [if_pos c35] | rw [if_neg c35] | rw [if_neg (show ¬ _ = true by rw [c35]; decide)]); (try unfold sgE); (try first | rw [if_pos c19] | rw [if_neg c19] | rw [if_neg (show ¬ _ = true by rw [c19]; decide)]); (try first | rw [if_pos c35] | rw [if_neg c35] | rw [if_neg (show ¬ _ = true by rw [c35]; decide)]); try rfl, rfl, rfl⟩
  · intro hv5
    rw [Nat.sub_self, sgR] at hv5
    refine g_iload C dX4_signsIn_5 rfl ?_
    refine g_bipush C (v := 8) dX4_signsIn_7 (by decide) ?_
    refine g_icmp_ge C (tgt := 51) dX4_signsIn_9 (by decide) (fun _ => ?_) (fun c9 => absurd (nI_lee rfl) c9)
    refine g_lload_n C dX4_signsIn_51 rfl rfl ?_
    refine g_lconst C (v := 0) dX4_signsIn_52 (by decide) ?_
    refine g_lcmp C dX4_signsIn_53 ?_
    refine g_if_ne C (tgt := 62) dX4_signsIn_54 (by decide) (fun c54 => ?_) (fun c54 => ?_)
    · skip
      refine g_iconst C (v := 0) dX4_signsIn_62 (by decide) ?_
      exact g_iret C hr dX4_signsIn_63 ⟨by rw [← hv5]; (try first | rw [if_pos c54] | rw [if_neg c54] | rw [if_neg (show ¬ _ = true by rw [c54]; decide)]); (try unfold sgE); (try first | rw [if_pos c54] | rw [if_neg c54] | rw [if_neg (show ¬ _ = true by rw [c54]; decide)]); try rfl, rfl, rfl⟩
    · skip
      refine g_iload C dX4_signsIn_57 rfl ?_
      refine g_goto C (tgt := 63) dX4_signsIn_59 (by decide) ?_
      exact g_iret C hr dX4_signsIn_63 ⟨by rw [← hv5]; (try first | rw [if_pos c54] | rw [if_neg c54] | rw [if_neg (show ¬ _ = true by rw [c54]; decide)]); (try unfold sgE); (try first | rw [if_pos c54] | rw [if_neg c54] | rw [if_neg (show ¬ _ = true by rw [c54]; decide)]); try rfl, rfl, rfl⟩

set_option maxRecDepth 100000 in
set_option maxHeartbeats 800000 in
theorem tX4_put {l : Launch} {E : EE} {I : Mi} {F : Mr} (hl : LY F) (c9 : Int64) {pl s9 : Nat} (hs8 : s9 ≤ 8) (hs : sgR 8 0 c9 = nI s9) (hpl64 : pl ≤ 64) (hpl : I 23 1 = nI pl)  : CtF l E mX4_put [rf E 0, .long c9] NT I F NT (some (.int (xPut I c9 pl s9).1)) ((xPut I c9 pl s9).2) F := by
  refine CtF_of [some (rf E 0), some (.long c9), none, none, none] (by decide) rfl (Nat.le_of_ble_eq_true rfl) rfl (fun p e s m args below meth c C hr hname => ?_)
  refine g_lload_n C dX4_put_0 rfl rfl ?_
  refine kX4_203 C (by decide) (tX4_signsIn _) ⟨⟨Nat.le_of_ble_eq_true rfl, Nat.le_of_ble_eq_true rfl⟩, Nat.le_of_ble_eq_true rfl, Nat.le_of_ble_eq_true rfl⟩ (Nat.le_of_ble_eq_true rfl) dX4_put_1 ?_
  refine g_istore_n C dX4_put_4 rfl (by decide) rfl ?_
  refine g_iload_n C dX4_put_5 rfl rfl ?_
  refine g_if_ne C (tgt := 12) dX4_put_6 (by decide) (fun c6 => ?_) (fun c6 => ?_)
  · skip
    refine g_aload_n C dX4_put_12 rfl rfl ?_
    refine gfX4_22 C (by decide) hl.padR dX4_put_13 ?_
    refine gfX4_90 C (by decide) dX4_put_16 ?_
    refine g_iload_n C dX4_put_19 rfl rfl ?_
    refine g_iadd C dX4_put_20 ?_
    refine g_bipush C (v := 64) dX4_put_21 (by decide) ?_
    refine g_icmp_le C (tgt := 29) dX4_put_23 (by decide) (fun c23 => ?_) (fun c23 => ?_)
    · skip
      have h64 : pl + s9 ≤ 64 := by rw [hs, hpl, nI_add] at c23; exact (nI_leI (by omega) (by decide)).mp c23
      rw [hs]
      refine g_iload_n C dX4_put_29 rfl rfl ?_
      refine g_iconst C (v := 1) dX4_put_30 (by decide) ?_
      refine g_isub C dX4_put_31 ?_
      refine g_istore C dX4_put_32 (by decide) rfl ?_
      refine G_loop (n := s9) (fun i => [some (rf E 0), some (.long c9), none, some (.int (nI s9)), some (.int (nI (s9 - i) - 1))]) (fun i => putI I pl s9 c9 i) (fun _ => F) rfl rfl rfl ?_ ?_
      · intro i34 hi34 ih34
        have e34 : nI (s9 - i34) - 1 = nI (s9 - i34 - 1) := by rw [show s9 - i34 = (s9 - i34 - 1) + 1 by omega]; exact nI_pred _
        rw [e34]
        refine g_iload C dX4_put_34 rfl ?_
        refine g_if_lt C (tgt := 65) dX4_put_36 (by decide) (fun c36 => absurd c36 (nI_pos (by omega))) (fun _ => ?_)
        refine g_aload_n C dX4_put_39 rfl rfl ?_
        refine gfX4_22 C (by decide) hl.padR dX4_put_40 ?_
        refine g_lload_n C dX4_put_43 rfl rfl ?_
        refine g_bipush C (v := 8) dX4_put_44 (by decide) ?_
        refine g_iload C dX4_put_46 rfl ?_
        refine g_imul C dX4_put_48 ?_
        refine g_lushr C dX4_put_49 rfl ?_
        refine g_ldc2 C dX4_put_50 kcX4_207 ?_
        refine g_land C dX4_put_53 ?_
        refine g_l2i C dX4_put_54 rfl ?_
        refine g_i2c C dX4_put_55 rfl ?_
        refine kX4_209 C (by decide) (tX3_append hl (n := pl + i34) (by omega) (putI_len hpl i34) (pk_vc _)) ⟨⟨Nat.le_of_ble_eq_true rfl, Nat.le_of_ble_eq_true rfl⟩, Nat.le_of_ble_eq_true rfl, Nat.le_of_ble_eq_true rfl⟩ (Nat.le_of_ble_eq_true rfl) dX4_put_56 ?_
        refine g_iinc C dX4_put_59 rfl (inc_m1 _) (by decide) rfl ?_
        refine g_goto C (tgt := 34) dX4_put_62 (by decide) ?_
        exact G_cast ih34 rfl rfl (by rw [show s9 - (i34 + 1) = s9 - i34 - 1 by omega]; rfl) rfl
      · skip
        rw [Nat.sub_self]
        refine g_iload C dX4_put_34 rfl ?_
        refine g_if_lt C (tgt := 65) dX4_put_36 (by decide) (fun _ => ?_) (fun c36 => absurd (by decide) c36)
        refine g_aload_n C dX4_put_65 rfl rfl ?_
        refine gfX4_22 C (by decide) hl.padR dX4_put_66 ?_
        refine gfX4_90 C (by decide) dX4_put_69 ?_
        exact g_iret C hr dX4_put_72 ⟨by unfold xPut; (try first | rw [if_pos c6] | rw [if_neg c6] | rw [if_neg (show ¬ _ = true by rw [c6]; decide)]); (try first | rw [if_pos c23] | rw [if_neg c23] | rw [if_neg (show ¬ _ = true by rw [c23]; decide)]); try rw [if_pos (by assumption)]; try rfl, by unfold xPut; (try first | rw [if_pos c6] | rw [if_neg c6] | rw [if_neg (show ¬ _ = true by rw [c6]; decide)]); (try first | rw [if_pos c23] | rw [if_neg c23] | rw [if_neg (show ¬ _ = true by rw [c23]; decide)]); try rw [if_pos (by assumption)]; try rfl, rfl⟩
    · skip
      refine g_bipush C (v := (-4)) dX4_put_26 (by decide) ?_
      exact g_iret C hr dX4_put_28 ⟨by unfold xPut; (try first | rw [if_pos c6] | rw [if_neg c6] | rw [if_neg (show ¬ _ = true by rw [c6]; decide)]); (try first | rw [if_pos c23] | rw [if_neg c23] | rw [if_neg (show ¬ _ = true by rw [c23]; decide)]); try rw [if_pos (by assumption)]; try rfl, by unfold xPut; (try first | rw [if_pos c6] | rw [if_neg c6] | rw [if_neg (show ¬ _ = true by rw [c6]; decide)]); (try first | rw [if_pos c23] | rw [if_neg c23] | rw [if_neg (show ¬ _ = true by rw [c23]; decide)]); try rw [if_pos (by assumption)]; try rfl, rfl⟩
  · skip
    refine g_bipush C (v := (-2)) dX4_put_9 (by decide) ?_
    exact g_iret C hr dX4_put_11 ⟨by unfold xPut; (try first | rw [if_pos c6] | rw [if_neg c6] | rw [if_neg (show ¬ _ = true by rw [c6]; decide)]); try rw [if_pos (by assumption)]; try rfl, by unfold xPut; (try first | rw [if_pos c6] | rw [if_neg c6] | rw [if_neg (show ¬ _ = true by rw [c6]; decide)]); try rw [if_pos (by assumption)]; try rfl, rfl⟩

set_option maxRecDepth 100000 in
set_option maxHeartbeats 800000 in
theorem tX4_wipe {l : Launch} {E : EE} {I : Mi} {F : Mr} (hl : LY F)  : CtF l E mX4_wipe [rf E 0] NT I F NT (some (.int (I 23 1))) (up I 23 1 0) F := by
  refine CtF_of [some (rf E 0), none] (by decide) rfl (Nat.le_of_ble_eq_true rfl) rfl (fun p e s m args below meth c C hr hname => ?_)
  refine g_aload_n C dX4_wipe_0 rfl rfl ?_
  refine gfX4_22 C (by decide) hl.padR dX4_wipe_1 ?_
  refine gfX4_90 C (by decide) dX4_wipe_4 ?_
  refine g_istore_n C dX4_wipe_7 rfl (by decide) rfl ?_
  refine g_aload_n C dX4_wipe_8 rfl rfl ?_
  refine gfX4_22 C (by decide) hl.padR dX4_wipe_9 ?_
  refine g_iconst C (v := 0) dX4_wipe_12 (by decide) ?_
  refine pfX4_90 C (by decide) dX4_wipe_13 ?_
  refine g_iload_n C dX4_wipe_16 rfl rfl ?_
  exact g_iret C hr dX4_wipe_17 ⟨rfl, rfl, rfl⟩

set_option maxRecDepth 100000 in
set_option maxHeartbeats 800000 in
theorem tX4_fault {l : Launch} {E : EE} {I : Mi} {F : Mr} (hl : LY F)  : CtF l E mX4_fault [rf E 0] NT I F NT (some (.int (ffC I).1)) ((ffC I).2) F := by
  refine CtF_of [some (rf E 0)] (by decide) rfl (Nat.le_of_ble_eq_true rfl) rfl (fun p e s m args below meth c C hr hname => ?_)
  refine g_aload_n C dX4_fault_0 rfl rfl ?_
  refine gfX4_29 C (by decide) hl.readerR dX4_fault_1 ?_
  refine g_aload_n C dX4_fault_4 rfl rfl ?_
  refine gfX4_22 C (by decide) hl.padR dX4_fault_5 ?_
  refine kX4_78 C (by decide) (tX1_findFault hl) ⟨⟨Nat.le_of_ble_eq_true rfl, Nat.le_of_ble_eq_true rfl⟩, Nat.le_of_ble_eq_true rfl, Nat.le_of_ble_eq_true rfl⟩ (Nat.le_of_ble_eq_true rfl) dX4_fault_8 ?_
  exact g_iret C hr dX4_fault_11 ⟨rfl, rfl, rfl⟩

set_option maxRecDepth 100000 in
set_option maxHeartbeats 800000 in
theorem tX4_undo_no {l : Launch} {E : EE} {I : Mi} {F : Mr} (hl : LY F) (hk0 : I 37 1 = 0)  : CtF l E mX4_undo [rf E 0] NT I F NT (some (.int (-5))) I F := by
  refine CtF_of [some (rf E 0)] (by decide) rfl (Nat.le_of_ble_eq_true rfl) rfl (fun p e s m args below meth c C hr hname => ?_)
  refine g_aload_n C dX4_undo_0 rfl rfl ?_
  refine gfX4_36 C (by decide) hl.histR dX4_undo_1 ?_
  refine gfX4_175 C (by decide) dX4_undo_4 ?_
  refine g_if_ne C (tgt := 13) dX4_undo_7 (by decide) (fun c7 => absurd c7 (fun q => q hk0)) (fun _ => ?_)
  refine g_bipush C (v := (-5)) dX4_undo_10 (by decide) ?_
  exact g_iret C hr dX4_undo_12 ⟨rfl, rfl, rfl⟩

set_option maxRecDepth 100000 in
set_option maxHeartbeats 800000 in
theorem tX4_undo {l : Launch} {E : EE} {I : Mi} {F : Mr} (hl : LY F) {h : Nat → Nat} (hb : HB F h) {k : Nat} (hk9 : k < 6) (hk : I 37 1 = nI (k + 1))  : CtF l E mX4_undo [rf E 0] NT I F NT (some (.int (xUndo I h k).1)) ((xUndo I h k).2) F := by
  refine CtF_of [some (rf E 0)] (by decide) rfl (Nat.le_of_ble_eq_true rfl) rfl (fun p e s m args below meth c C hr hname => ?_)
  refine g_aload_n C dX4_undo_0 rfl rfl ?_
  refine gfX4_36 C (by decide) hl.histR dX4_undo_1 ?_
  refine gfX4_175 C (by decide) dX4_undo_4 ?_
  refine g_if_ne C (tgt := 13) dX4_undo_7 (by decide) (fun _ => ?_) (fun c7 => absurd c7 (by rw [hk]; exact nI_ne0 (by omega) (by omega)))
  refine g_aload_n C dX4_undo_13 rfl rfl ?_
  refine gfX4_36 C (by decide) hl.histR dX4_undo_14 ?_
  refine g_aload_n C dX4_undo_17 rfl rfl ?_
  refine gfX4_10 C (by decide) hl.chip dX4_undo_18 ?_
  refine kX4_213 C (by decide) (tX2_takeBack hl hb hl.c1 (by decide) hk9 hk) ⟨⟨Nat.le_of_ble_eq_true rfl, Nat.le_of_ble_eq_true rfl⟩, Nat.le_of_ble_eq_true rfl, Nat.le_of_ble_eq_true rfl⟩ (Nat.le_of_ble_eq_true rfl) dX4_undo_21 ?_
  refine g_aload_n C dX4_undo_24 rfl rfl ?_
  refine gfX4_36 C (by decide) hl.histR dX4_undo_25 ?_
  refine gfX4_175 C (by decide) dX4_undo_28 ?_
  exact g_iret C hr dX4_undo_31 ⟨rfl, rfl, rfl⟩

