set_option maxRecDepth 100000 in
set_option maxHeartbeats 800000 in
theorem tX4_ticksUntilAllAwake {l : Launch} {E : EE} {I : Mi} {F : Mr} (hl : LY F) (cur : Int32) {mm : Nat} (hm : mm ≤ 200)  : CtF l E mX4_ticksUntilAllAwake [rf E 0, .int cur, .int (nI mm)] NT I F NT (some (.int (tuC I cur mm).1)) ((tuC I cur mm).2) F := by
  refine CtF_of [some (rf E 0), some (.int cur), some (.int (nI mm)), none] (by decide) rfl (Nat.le_of_ble_eq_true rfl) rfl (fun p e s m args below meth c C hr hname => ?_)
  refine g_aload_n C dX4_ticksUntilAllAwake_0 rfl rfl ?_
  refine gfX4_16 C (by decide) hl.trial dX4_ticksUntilAllAwake_1 ?_
  refine g_aload_n C dX4_ticksUntilAllAwake_4 rfl rfl ?_
  refine gfX4_10 C (by decide) hl.chip dX4_ticksUntilAllAwake_5 ?_
  refine kX4_87 C hl.c12.o (tX0_copyFrom hl.c12 hl.c1) ⟨⟨Nat.le_of_ble_eq_true rfl, Nat.le_of_ble_eq_true rfl⟩, Nat.le_of_ble_eq_true rfl, Nat.le_of_ble_eq_true rfl⟩ (Nat.le_of_ble_eq_true rfl) dX4_ticksUntilAllAwake_8 ?_
  refine g_aload_n C dX4_ticksUntilAllAwake_11 rfl rfl ?_
  refine gfX4_16 C (by decide) hl.trial dX4_ticksUntilAllAwake_12 ?_
  refine g_iload_n C dX4_ticksUntilAllAwake_15 rfl rfl ?_
  refine pfX4_65 C hl.c12.o dX4_ticksUntilAllAwake_16 ?_
  refine g_aload_n C dX4_ticksUntilAllAwake_19 rfl rfl ?_
  refine gfX4_16 C (by decide) hl.trial dX4_ticksUntilAllAwake_20 ?_
  refine kX4_188 C hl.c12.o (tX0_orderSleepersToWake hl.c12 (by decide)) ⟨⟨Nat.le_of_ble_eq_true rfl, Nat.le_of_ble_eq_true rfl⟩, Nat.le_of_ble_eq_true rfl, Nat.le_of_ble_eq_true rfl⟩ (Nat.le_of_ble_eq_true rfl) dX4_ticksUntilAllAwake_23 ?_
  refine g_iconst C (v := 0) dX4_ticksUntilAllAwake_26 (by decide) ?_
  refine g_istore_n C dX4_ticksUntilAllAwake_27 rfl (by decide) rfl ?_
  refine G_loopI (n := mm + 1) (fun i => [some (rf E 0), some (.int cur), some (.int (nI mm)), some (.int (nI i))]) (fun i => tum (tu0 I cur) i) (fun _ => F) (fun i => tuR (mm + 1 - i) i (tum (tu0 I cur) i) = tuC I cur mm) rfl (tum_0 (tu0 I cur)).symm rfl (by rw [Nat.sub_zero, tum_0]; rfl) ?_ ?_
  · intro i28 hi28 hv28 ih28
    rw [show mm + 1 - i28 = (mm - i28) + 1 by omega, tuR] at hv28
    refine g_iload_n C dX4_ticksUntilAllAwake_28 rfl rfl ?_
    refine g_iload_n C dX4_ticksUntilAllAwake_29 rfl rfl ?_
    refine g_icmp_gt C (tgt := 71) dX4_ticksUntilAllAwake_30 (by decide) (fun c30 => absurd c30 (nI_nlt (by omega) (by omega))) (fun _ => ?_)
    refine g_aload_n C dX4_ticksUntilAllAwake_33 rfl rfl ?_
    refine gfX4_16 C (by decide) hl.trial dX4_ticksUntilAllAwake_34 ?_
    refine kX4_191 C hl.c12.o (tX0_areAllAwake hl.c12 (by decide)) ⟨⟨Nat.le_of_ble_eq_true rfl, Nat.le_of_ble_eq_true rfl⟩, Nat.le_of_ble_eq_true rfl, Nat.le_of_ble_eq_true rfl⟩ (Nat.le_of_ble_eq_true rfl) dX4_ticksUntilAllAwake_37 ?_
    refine g_ifeq_b C (tgt := 45) dX4_ticksUntilAllAwake_40 (by decide) (fun c40 => ?_) (fun c40 => ?_)
    · skip
      refine g_aload_n C dX4_ticksUntilAllAwake_45 rfl rfl ?_
      refine gfX4_16 C (by decide) hl.trial dX4_ticksUntilAllAwake_46 ?_
      refine kX4_194 C hl.c12.o (tX0_isAtRest hl.c12) ⟨⟨Nat.le_of_ble_eq_true rfl, Nat.le_of_ble_eq_true rfl⟩, Nat.le_of_ble_eq_true rfl, Nat.le_of_ble_eq_true rfl⟩ (Nat.le_of_ble_eq_true rfl) dX4_ticksUntilAllAwake_49 ?_
      refine g_ifeq_b C (tgt := 58) dX4_ticksUntilAllAwake_52 (by decide) (fun c52 => ?_) (fun c52 => ?_)
      · skip
        refine g_aload_n C dX4_ticksUntilAllAwake_58 rfl rfl ?_
        refine gfX4_16 C (by decide) hl.trial dX4_ticksUntilAllAwake_59 ?_
        refine kX4_197 C hl.c12.o (tX0_moveOn hl.c12 (by decide)) ⟨⟨Nat.le_of_ble_eq_true rfl, Nat.le_of_ble_eq_true rfl⟩, Nat.le_of_ble_eq_true rfl, Nat.le_of_ble_eq_true rfl⟩ (Nat.le_of_ble_eq_true rfl) dX4_ticksUntilAllAwake_62 ?_
        refine g_iinc C dX4_ticksUntilAllAwake_65 rfl (nI_inc _) (by decide) rfl ?_
        refine g_goto C (tgt := 28) dX4_ticksUntilAllAwake_68 (by decide) ?_
        exact G_cast (ih28 (by rw [show mm + 1 - (i28 + 1) = mm - i28 by omega, tum_s, ← hv28]; (try first | rw [if_pos c40] | rw [if_neg c40] | rw [if_neg (show ¬ _ = true by rw [c40]; decide)]); (try first | rw [if_pos c52] | rw [if_neg c52] | rw [if_neg (show ¬ _ = true by rw [c52]; decide)]))) (tum_s _ _).symm rfl rfl rfl
      · skip
        refine g_bipush C (v := (-6)) dX4_ticksUntilAllAwake_55 (by decide) ?_
        exact g_iret C hr dX4_ticksUntilAllAwake_57 ⟨by rw [← hv28]; (try first | rw [if_pos c40] | rw [if_neg c40] | rw [if_neg (show ¬ _ = true by rw [c40]; decide)]); (try first | rw [if_pos c52] | rw [if_neg c52] | rw [if_neg (show ¬ _ = true by rw [c52]; decide)]); try rfl, by rw [← hv28]; (try first | rw [if_pos c40] | rw [if_neg c40] | rw [if_neg (show ¬ _ = true by rw [c40]; decide)]); (try first | rw [if_pos c52] | rw [if_neg c52] | rw [if_neg (show ¬ _ = true by rw [c52]; decide)]); try rfl, rfl⟩
    · skip
      refine g_iload_n C dX4_ticksUntilAllAwake_43 rfl rfl ?_
      exact g_iret C hr dX4_ticksUntilAllAwake_44 ⟨by rw [← hv28]; (try first | rw [if_pos c40] | rw [if_neg c40] | rw [if_neg (show ¬ _ = true by rw [c40]; decide)]); try rfl, by rw [← hv28]; (try first | rw [if_pos c40] | rw [if_neg c40] | rw [if_neg (show ¬ _ = true by rw [c40]; decide)]); try rfl, rfl⟩
  · intro hv28
    rw [Nat.sub_self, tuR] at hv28
    refine g_iload_n C dX4_ticksUntilAllAwake_28 rfl rfl ?_
    refine g_iload_n C dX4_ticksUntilAllAwake_29 rfl rfl ?_
    refine g_icmp_gt C (tgt := 71) dX4_ticksUntilAllAwake_30 (by decide) (fun _ => ?_) (fun c30 => absurd (nI_lt (by omega) (by omega)) c30)
    refine g_bipush C (v := (-6)) dX4_ticksUntilAllAwake_71 (by decide) ?_
    exact g_iret C hr dX4_ticksUntilAllAwake_73 ⟨by rw [← hv28]; skip; try rfl, by rw [← hv28]; skip; try rfl, rfl⟩

set_option maxRecDepth 100000 in
set_option maxHeartbeats 800000 in
theorem tX4_allAwake {l : Launch} {E : EE} {I : Mi} {F : Mr} (hl : LY F)  : CtF l E mX4_allAwake [rf E 0] NT I F NT (some (.int (tuC I (I 1 13) 200).1)) ((tuC I (I 1 13) 200).2) F := by
  refine CtF_of [some (rf E 0)] (by decide) rfl (Nat.le_of_ble_eq_true rfl) rfl (fun p e s m args below meth c C hr hname => ?_)
  refine g_aload_n C dX4_allAwake_0 rfl rfl ?_
  refine g_aload_n C dX4_allAwake_1 rfl rfl ?_
  refine gfX4_10 C (by decide) hl.chip dX4_allAwake_2 ?_
  refine gfX4_65 C hl.c1.o dX4_allAwake_5 ?_
  refine g_sipush C (v := 200) dX4_allAwake_8 (by decide) ?_
  refine kX4_184 C (by decide) (tX4_ticksUntilAllAwake hl _ (mm := 200) (by decide)) ⟨⟨Nat.le_of_ble_eq_true rfl, Nat.le_of_ble_eq_true rfl⟩, Nat.le_of_ble_eq_true rfl, Nat.le_of_ble_eq_true rfl⟩ (Nat.le_of_ble_eq_true rfl) dX4_allAwake_11 ?_
  exact g_iret C hr dX4_allAwake_14 ⟨rfl, rfl, rfl⟩

set_option maxRecDepth 100000 in
set_option maxHeartbeats 800000 in
theorem tX4_leastCurrent {l : Launch} {E : EE} {I : Mi} {F : Mr} (hl : LY F) {mm : Nat} (hm : mm ≤ 200) (hx : isW (nI mm) 0 200 = true)  : CtF l E mX4_leastCurrent [rf E 0, .int (nI mm)] NT I F NT (some (.int (lcR mm 60 0 I).1)) ((lcR mm 60 0 I).2) F := by
  refine CtF_of [some (rf E 0), some (.int (nI mm)), none] (by decide) rfl (Nat.le_of_ble_eq_true rfl) rfl (fun p e s m args below meth c C hr hname => ?_)
  refine g_iload_n C dX4_leastCurrent_0 rfl rfl ?_
  refine g_iconst C (v := 0) dX4_leastCurrent_1 (by decide) ?_
  refine g_sipush C (v := 200) dX4_leastCurrent_2 (by decide) ?_
  refine kX4_57 C (by decide) (tX4_isWithin _ _ _) ⟨⟨Nat.le_of_ble_eq_true rfl, Nat.le_of_ble_eq_true rfl⟩, Nat.le_of_ble_eq_true rfl, Nat.le_of_ble_eq_true rfl⟩ (Nat.le_of_ble_eq_true rfl) dX4_leastCurrent_5 ?_
  refine g_ifne_b C (tgt := 14) dX4_leastCurrent_8 (by decide) (fun _ => ?_) (fun c8 => (bt_f hx c8).elim)
  refine g_iconst C (v := 1) dX4_leastCurrent_14 (by decide) ?_
  refine g_istore_n C dX4_leastCurrent_15 rfl (by decide) rfl ?_
  refine G_loopI (n := 60) (fun i => [some (rf E 0), some (.int (nI mm)), some (.int (nI (i + 1)))]) (fun i => lcm mm I i) (fun _ => F) (fun i => lcR mm (60 - i) i (lcm mm I i) = lcR mm 60 0 I) rfl rfl rfl (by rw [Nat.sub_zero]; rfl) ?_ ?_
  · intro i16 hi16 hv16 ih16
    rw [show 60 - i16 = (59 - i16) + 1 by omega, lcR] at hv16
    refine g_iload_n C dX4_leastCurrent_16 rfl rfl ?_
    refine g_bipush C (v := 60) dX4_leastCurrent_17 (by decide) ?_
    refine g_icmp_gt C (tgt := 41) dX4_leastCurrent_19 (by decide) (fun c19 => absurd c19 (nI_nlt (b := i16 + 1) (a := 60) (by omega) (by decide))) (fun _ => ?_)
    refine g_aload_n C dX4_leastCurrent_22 rfl rfl ?_
    refine g_iload_n C dX4_leastCurrent_23 rfl rfl ?_
    refine g_iload_n C dX4_leastCurrent_24 rfl rfl ?_
    refine kX4_184 C (by decide) (tX4_ticksUntilAllAwake hl _ (mm := mm) hm) ⟨⟨Nat.le_of_ble_eq_true rfl, Nat.le_of_ble_eq_true rfl⟩, Nat.le_of_ble_eq_true rfl, Nat.le_of_ble_eq_true rfl⟩ (Nat.le_of_ble_eq_true rfl) dX4_leastCurrent_25 ?_
    refine g_bipush C (v := (-6)) dX4_leastCurrent_28 (by decide) ?_
    refine g_icmp_eq C (tgt := 35) dX4_leastCurrent_30 (by decide) (fun c30 => ?_) (fun c30 => ?_)
    · skip
      refine g_iinc C dX4_leastCurrent_35 rfl (nI_inc _) (by decide) rfl ?_
      refine g_goto C (tgt := 16) dX4_leastCurrent_38 (by decide) ?_
      exact G_cast (ih16 (by rw [show 60 - (i16 + 1) = 59 - i16 by omega, lcm_s, ← hv16]; (try first | rw [if_pos c30] | rw [if_neg c30] | rw [if_neg (show ¬ _ = true by rw [c30]; decide)]))) (lcm_s _ _ _).symm rfl rfl rfl
    · skip
      refine g_iload_n C dX4_leastCurrent_33 rfl rfl ?_
      exact g_iret C hr dX4_leastCurrent_34 ⟨by rw [← hv16]; (try first | rw [if_pos c30] | rw [if_neg c30] | rw [if_neg (show ¬ _ = true by rw [c30]; decide)]); try rfl, by rw [← hv16]; (try first | rw [if_pos c30] | rw [if_neg c30] | rw [if_neg (show ¬ _ = true by rw [c30]; decide)]); try rfl, rfl⟩
  · intro hv16
    rw [Nat.sub_self, lcR] at hv16
    refine g_iload_n C dX4_leastCurrent_16 rfl rfl ?_
    refine g_bipush C (v := 60) dX4_leastCurrent_17 (by decide) ?_
    refine g_icmp_gt C (tgt := 41) dX4_leastCurrent_19 (by decide) (fun _ => ?_) (fun c19 => absurd (nI_lt (a := 60) (b := 61) (by decide) (by decide)) c19)
    refine g_bipush C (v := (-6)) dX4_leastCurrent_41 (by decide) ?_
    exact g_iret C hr dX4_leastCurrent_43 ⟨by rw [← hv16]; skip; try rfl, by rw [← hv16]; skip; try rfl, rfl⟩

set_option maxRecDepth 100000 in
set_option maxHeartbeats 800000 in
theorem tX4_sleepsQuietly {l : Launch} {E : EE} {I : Mi} {F : Mr} (hl : LY F) {i : Nat} (hi8 : i < 8) {n : Nat} (hn : n < 2147483648)  : CtF l E mX4_sleepsQuietly [rf E 0, .int (nI i), .int (nI n)] NT I F NT (some (.int (bi (sqC I i n)))) (sqI I i n) F := by
  refine CtF_of [some (rf E 0), some (.int (nI i)), some (.int (nI n))] (by decide) rfl (Nat.le_of_ble_eq_true rfl) rfl (fun p e s m args below meth c C hr hname => ?_)
  refine g_iload_n C dX4_sleepsQuietly_0 rfl rfl ?_
  refine g_iconst C (v := 0) dX4_sleepsQuietly_1 (by decide) ?_
  refine g_bipush C (v := 7) dX4_sleepsQuietly_2 (by decide) ?_
  refine kX4_57 C (by decide) (tX4_isWithin _ _ _) ⟨⟨Nat.le_of_ble_eq_true rfl, Nat.le_of_ble_eq_true rfl⟩, Nat.le_of_ble_eq_true rfl, Nat.le_of_ble_eq_true rfl⟩ (Nat.le_of_ble_eq_true rfl) dX4_sleepsQuietly_4 ?_
  refine g_ifne_b C (tgt := 12) dX4_sleepsQuietly_7 (by decide) (fun _ => ?_) (fun c7 => (bt_f (isW_8 hi8) c7).elim)
  refine g_aload_n C dX4_sleepsQuietly_12 rfl rfl ?_
  refine gfX4_16 C (by decide) hl.trial dX4_sleepsQuietly_13 ?_
  refine g_aload_n C dX4_sleepsQuietly_16 rfl rfl ?_
  refine gfX4_10 C (by decide) hl.chip dX4_sleepsQuietly_17 ?_
  refine kX4_87 C hl.c12.o (tX0_copyFrom hl.c12 hl.c1) ⟨⟨Nat.le_of_ble_eq_true rfl, Nat.le_of_ble_eq_true rfl⟩, Nat.le_of_ble_eq_true rfl, Nat.le_of_ble_eq_true rfl⟩ (Nat.le_of_ble_eq_true rfl) dX4_sleepsQuietly_20 ?_
  refine g_aload_n C dX4_sleepsQuietly_23 rfl rfl ?_
  refine gfX4_16 C (by decide) hl.trial dX4_sleepsQuietly_24 ?_
  refine gfX4_105 C hl.c12.o hl.c12.f6 dX4_sleepsQuietly_27 ?_
  refine g_iload_n C dX4_sleepsQuietly_30 rfl rfl ?_
  refine g_iconst C (v := 1) dX4_sleepsQuietly_31 (by decide) ?_
  refine g_iast_j C hl.c12.r4 (i) rfl hi8 (by decide) dX4_sleepsQuietly_32 ?_
  refine g_aload_n C dX4_sleepsQuietly_33 rfl rfl ?_
  refine gfX4_16 C (by decide) hl.trial dX4_sleepsQuietly_34 ?_
  refine g_iload_n C dX4_sleepsQuietly_37 rfl rfl ?_
  refine kX4_133 C hl.c12.o (tX0_letPass hl.c12 (by decide) hn) ⟨⟨Nat.le_of_ble_eq_true rfl, Nat.le_of_ble_eq_true rfl⟩, Nat.le_of_ble_eq_true rfl, Nat.le_of_ble_eq_true rfl⟩ (Nat.le_of_ble_eq_true rfl) dX4_sleepsQuietly_38 ?_
  refine g_aload_n C dX4_sleepsQuietly_41 rfl rfl ?_
  refine gfX4_16 C (by decide) hl.trial dX4_sleepsQuietly_42 ?_
  refine kX4_129 C hl.c12.o (tX0_noiseSoFar hl.c12) ⟨⟨Nat.le_of_ble_eq_true rfl, Nat.le_of_ble_eq_true rfl⟩, Nat.le_of_ble_eq_true rfl, Nat.le_of_ble_eq_true rfl⟩ (Nat.le_of_ble_eq_true rfl) dX4_sleepsQuietly_45 ?_
  refine g_aload_n C dX4_sleepsQuietly_48 rfl rfl ?_
  refine gfX4_10 C (by decide) hl.chip dX4_sleepsQuietly_49 ?_
  refine kX4_129 C hl.c1.o (tX0_noiseSoFar hl.c1) ⟨⟨Nat.le_of_ble_eq_true rfl, Nat.le_of_ble_eq_true rfl⟩, Nat.le_of_ble_eq_true rfl, Nat.le_of_ble_eq_true rfl⟩ (Nat.le_of_ble_eq_true rfl) dX4_sleepsQuietly_52 ?_
  refine g_icmp_ne C (tgt := 62) dX4_sleepsQuietly_55 (by decide) (fun c55 => ?_) (fun c55 => ?_)
  · skip
    refine g_iconst C (v := 0) dX4_sleepsQuietly_62 (by decide) ?_
    exact g_zret_0 C hr dX4_sleepsQuietly_63 ⟨by simp [sqC, sqI, bi, c55], rfl, rfl⟩
  · skip
    refine g_iconst C (v := 1) dX4_sleepsQuietly_58 (by decide) ?_
    refine g_goto C (tgt := 63) dX4_sleepsQuietly_59 (by decide) ?_
    exact g_zret_1 C hr dX4_sleepsQuietly_63 ⟨by simp [sqC, sqI, bi, c55], rfl, rfl⟩

set_option maxRecDepth 100000 in
set_option maxHeartbeats 800000 in
theorem tX4_quiet {l : Launch} {E : EE} {I : Mi} {F : Mr} (hl : LY F) {n : Nat} (hn : n < 2147483648) (hx : isW (nI n) 1 50 = true)  : CtF l E mX4_quiet [rf E 0, .int (nI n)] NT I F NT (some (.int (quR I n 8).1)) ((quR I n 8).2) F := by
  refine CtF_of [some (rf E 0), some (.int (nI n)), none, none] (by decide) rfl (Nat.le_of_ble_eq_true rfl) rfl (fun p e s m args below meth c C hr hname => ?_)
  refine g_iload_n C dX4_quiet_0 rfl rfl ?_
  refine g_iconst C (v := 1) dX4_quiet_1 (by decide) ?_
  refine g_bipush C (v := 50) dX4_quiet_2 (by decide) ?_
  refine kX4_57 C (by decide) (tX4_isWithin _ _ _) ⟨⟨Nat.le_of_ble_eq_true rfl, Nat.le_of_ble_eq_true rfl⟩, Nat.le_of_ble_eq_true rfl, Nat.le_of_ble_eq_true rfl⟩ (Nat.le_of_ble_eq_true rfl) dX4_quiet_4 ?_
  refine g_ifne_b C (tgt := 13) dX4_quiet_7 (by decide) (fun _ => ?_) (fun c7 => (bt_f hx c7).elim)
  refine g_iconst C (v := 0) dX4_quiet_13 (by decide) ?_
  refine g_istore_n C dX4_quiet_14 rfl (by decide) rfl ?_
  refine g_iconst C (v := 0) dX4_quiet_15 (by decide) ?_
  refine g_istore_n C dX4_quiet_16 rfl (by decide) rfl ?_
  refine G_loop (n := 8) (fun i => [some (rf E 0), some (.int (nI n)), some (.int (quR I n i).1), some (.int (nI i))]) (fun i => (quR I n i).2) (fun _ => F) rfl rfl rfl ?_ ?_
  · intro i17 hi17 ih17
    refine g_iload_n C dX4_quiet_17 rfl rfl ?_
    refine g_bipush C (v := 8) dX4_quiet_18 (by decide) ?_
    refine g_icmp_ge C (tgt := 56) dX4_quiet_20 (by decide) (fun c20 => absurd c20 (nI_nge rfl hi17 (by decide))) (fun _ => ?_)
    refine g_aload_n C dX4_quiet_23 rfl rfl ?_
    refine gfX4_10 C (by decide) hl.chip dX4_quiet_24 ?_
    refine gfX4_105 C hl.c1.o hl.c1.f6 dX4_quiet_27 ?_
    refine g_iload_n C dX4_quiet_30 rfl rfl ?_
    refine g_iald_j C hl.c1.r4 (i17) rfl hi17 (by decide) dX4_quiet_31 ?_
    refine g_if_ne C (tgt := 50) dX4_quiet_32 (by decide) (fun c32 => ?_) (fun c32 => ?_)
    · skip
      refine g_iinc C dX4_quiet_50 rfl (nI_inc _) (by decide) rfl ?_
      refine g_goto C (tgt := 17) dX4_quiet_53 (by decide) ?_
      exact G_cast ih17 (by first | rfl | (simp only [lp, quR_s, quB, c32, ↓reduceIte, Bool.false_eq_true, reduceCtorEq]; first | done | rfl)) rfl (by first | rfl | (simp only [lp, quR_s, quB, c32, ↓reduceIte, Bool.false_eq_true, reduceCtorEq]; first | done | rfl)) rfl
    · skip
      refine g_aload_n C dX4_quiet_35 rfl rfl ?_
      refine g_iload_n C dX4_quiet_36 rfl rfl ?_
      refine g_iload_n C dX4_quiet_37 rfl rfl ?_
      refine kX4_200 C (by decide) (tX4_sleepsQuietly hl hi17 hn) ⟨⟨Nat.le_of_ble_eq_true rfl, Nat.le_of_ble_eq_true rfl⟩, Nat.le_of_ble_eq_true rfl, Nat.le_of_ble_eq_true rfl⟩ (Nat.le_of_ble_eq_true rfl) dX4_quiet_38 ?_
      refine g_ifeq_b C (tgt := 50) dX4_quiet_41 (by decide) (fun c41 => ?_) (fun c41 => ?_)
      · skip
        refine g_iinc C dX4_quiet_50 rfl (nI_inc _) (by decide) rfl ?_
        refine g_goto C (tgt := 17) dX4_quiet_53 (by decide) ?_
        exact G_cast ih17 (by first | rfl | (simp only [lp, quR_s, quB, c32, c41, ↓reduceIte, Bool.false_eq_true, reduceCtorEq]; first | done | rfl)) rfl (by first | rfl | (simp only [lp, quR_s, quB, c32, c41, ↓reduceIte, Bool.false_eq_true, reduceCtorEq]; first | done | rfl)) rfl
      · skip
        refine g_iload_n C dX4_quiet_44 rfl rfl ?_
        refine g_iconst C (v := 1) dX4_quiet_45 (by decide) ?_
        refine g_iload_n C dX4_quiet_46 rfl rfl ?_
        refine g_ishl C dX4_quiet_47 ?_
        refine g_ior C dX4_quiet_48 ?_
        refine g_istore_n C dX4_quiet_49 rfl (by decide) rfl ?_
        refine g_iinc C dX4_quiet_50 rfl (nI_inc _) (by decide) rfl ?_
        refine g_goto C (tgt := 17) dX4_quiet_53 (by decide) ?_
        exact G_cast ih17 (by first | rfl | (simp only [lp, quR_s, quB, c32, c41, ↓reduceIte, Bool.false_eq_true, reduceCtorEq]; first | done | rfl)) rfl (by first | rfl | (simp only [lp, quR_s, quB, c32, c41, ↓reduceIte, Bool.false_eq_true, reduceCtorEq]; first | done | rfl)) rfl
  · skip
    refine g_iload_n C dX4_quiet_17 rfl rfl ?_
    refine g_bipush C (v := 8) dX4_quiet_18 (by decide) ?_
    refine g_icmp_ge C (tgt := 56) dX4_quiet_20 (by decide) (fun _ => ?_) (fun c20 => absurd (nI_lee rfl) c20)
    refine g_iload_n C dX4_quiet_56 rfl rfl ?_
    exact g_iret C hr dX4_quiet_57 ⟨rfl, rfl, rfl⟩

