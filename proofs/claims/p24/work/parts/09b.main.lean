set_option maxRecDepth 100000 in
set_option maxHeartbeats 800000 in
theorem tX4_setCurrent {l : Launch} {E : EE} {I : Mi} {F : Mr} (hl : LY F) {h : Nat → Nat} (hb : HB F h) {k : Nat} (hk6 : k ≤ 6) (hk : I 37 1 = nI k) (y : Int32)  : CtF l E mX4_setCurrent [rf E 0, .int y] NT I F NT (some (.int (xSetC I F h k y).1)) ((xSetC I F h k y).2.1) ((xSetC I F h k y).2.2) := by
  refine CtF_of [some (rf E 0), some (.int y), none] (by decide) rfl (Nat.le_of_ble_eq_true rfl) rfl (fun p e s m args below meth c C hr hname => ?_)
  refine g_iload_n C dX4_setCurrent_0 rfl rfl ?_
  refine g_iconst C (v := 1) dX4_setCurrent_1 (by decide) ?_
  refine g_bipush C (v := 60) dX4_setCurrent_2 (by decide) ?_
  refine kX4_57 C (by decide) (tX4_isWithin _ _ _) ⟨⟨Nat.le_of_ble_eq_true rfl, Nat.le_of_ble_eq_true rfl⟩, Nat.le_of_ble_eq_true rfl, Nat.le_of_ble_eq_true rfl⟩ (Nat.le_of_ble_eq_true rfl) dX4_setCurrent_4 ?_
  refine g_ifne_b C (tgt := 13) dX4_setCurrent_7 (by decide) (fun c7 => ?_) (fun c7 => ?_)
  · skip
    refine g_aload_n C dX4_setCurrent_13 rfl rfl ?_
    refine gfX4_36 C (by decide) hl.histR dX4_setCurrent_14 ?_
    refine g_aload_n C dX4_setCurrent_17 rfl rfl ?_
    refine gfX4_10 C (by decide) hl.chip dX4_setCurrent_18 ?_
    refine kX4_61 C (by decide) (tX2_record hl hb hl.c1 (by decide) hk6 hk) ⟨⟨Nat.le_of_ble_eq_true rfl, Nat.le_of_ble_eq_true rfl⟩, Nat.le_of_ble_eq_true rfl, Nat.le_of_ble_eq_true rfl⟩ (Nat.le_of_ble_eq_true rfl) dX4_setCurrent_21 ?_
    have hl2 := recF_LY (h := h) (k := k) hl
    refine g_aload_n C dX4_setCurrent_24 rfl rfl ?_
    refine gfX4_10 C (by decide) hl2.chip dX4_setCurrent_25 ?_
    refine gfX4_65 C hl2.c1.o dX4_setCurrent_28 ?_
    refine g_istore_n C dX4_setCurrent_31 rfl (by decide) rfl ?_
    refine g_aload_n C dX4_setCurrent_32 rfl rfl ?_
    refine gfX4_10 C (by decide) hl2.chip dX4_setCurrent_33 ?_
    refine g_iload_n C dX4_setCurrent_36 rfl rfl ?_
    refine pfX4_65 C hl2.c1.o dX4_setCurrent_37 ?_
    refine g_iload_n C dX4_setCurrent_40 rfl rfl ?_
    exact g_iret C hr dX4_setCurrent_41 ⟨by unfold xSetC; (try first | rw [if_pos c7] | rw [if_neg c7] | rw [if_neg (show ¬ _ = true by rw [c7]; decide)]); try rfl, by unfold xSetC; (try first | rw [if_pos c7] | rw [if_neg c7] | rw [if_neg (show ¬ _ = true by rw [c7]; decide)]); try rfl, by unfold xSetC; (try first | rw [if_pos c7] | rw [if_neg c7] | rw [if_neg (show ¬ _ = true by rw [c7]; decide)]); try rfl⟩
  · skip
    refine g_bipush C (v := (-2)) dX4_setCurrent_10 (by decide) ?_
    exact g_iret C hr dX4_setCurrent_12 ⟨by unfold xSetC; (try first | rw [if_pos c7] | rw [if_neg c7] | rw [if_neg (show ¬ _ = true by rw [c7]; decide)]); try rfl, by unfold xSetC; (try first | rw [if_pos c7] | rw [if_neg c7] | rw [if_neg (show ¬ _ = true by rw [c7]; decide)]); try rfl, by unfold xSetC; (try first | rw [if_pos c7] | rw [if_neg c7] | rw [if_neg (show ¬ _ = true by rw [c7]; decide)]); try rfl⟩

set_option maxRecDepth 100000 in
set_option maxHeartbeats 800000 in
theorem tX4_setAsking {l : Launch} {E : EE} {I : Mi} {F : Mr} (hl : LY F) {h : Nat → Nat} (hb : HB F h) {k : Nat} (hk6 : k ≤ 6) (hk : I 37 1 = nI k) (y : Int32)  : CtF l E mX4_setAsking [rf E 0, .int y] NT I F NT (some (.int (xSetA I F h k y).1)) ((xSetA I F h k y).2.1) ((xSetA I F h k y).2.2) := by
  refine CtF_of [some (rf E 0), some (.int y), none] (by decide) rfl (Nat.le_of_ble_eq_true rfl) rfl (fun p e s m args below meth c C hr hname => ?_)
  refine g_iload_n C dX4_setAsking_0 rfl rfl ?_
  refine g_iconst C (v := 0) dX4_setAsking_1 (by decide) ?_
  refine g_iconst C (v := 1) dX4_setAsking_2 (by decide) ?_
  refine kX4_57 C (by decide) (tX4_isWithin _ _ _) ⟨⟨Nat.le_of_ble_eq_true rfl, Nat.le_of_ble_eq_true rfl⟩, Nat.le_of_ble_eq_true rfl, Nat.le_of_ble_eq_true rfl⟩ (Nat.le_of_ble_eq_true rfl) dX4_setAsking_3 ?_
  refine g_ifne_b C (tgt := 12) dX4_setAsking_6 (by decide) (fun c6 => ?_) (fun c6 => ?_)
  · skip
    refine g_aload_n C dX4_setAsking_12 rfl rfl ?_
    refine gfX4_36 C (by decide) hl.histR dX4_setAsking_13 ?_
    refine g_aload_n C dX4_setAsking_16 rfl rfl ?_
    refine gfX4_10 C (by decide) hl.chip dX4_setAsking_17 ?_
    refine kX4_61 C (by decide) (tX2_record hl hb hl.c1 (by decide) hk6 hk) ⟨⟨Nat.le_of_ble_eq_true rfl, Nat.le_of_ble_eq_true rfl⟩, Nat.le_of_ble_eq_true rfl, Nat.le_of_ble_eq_true rfl⟩ (Nat.le_of_ble_eq_true rfl) dX4_setAsking_20 ?_
    have hl2 := recF_LY (h := h) (k := k) hl
    refine g_aload_n C dX4_setAsking_23 rfl rfl ?_
    refine gfX4_10 C (by decide) hl2.chip dX4_setAsking_24 ?_
    refine gfX4_68 C hl2.c1.o dX4_setAsking_27 ?_
    refine g_istore_n C dX4_setAsking_30 rfl (by decide) rfl ?_
    refine g_aload_n C dX4_setAsking_31 rfl rfl ?_
    refine gfX4_10 C (by decide) hl2.chip dX4_setAsking_32 ?_
    refine g_iload_n C dX4_setAsking_35 rfl rfl ?_
    refine pfX4_68 C hl2.c1.o dX4_setAsking_36 ?_
    refine g_iload_n C dX4_setAsking_39 rfl rfl ?_
    exact g_iret C hr dX4_setAsking_40 ⟨by unfold xSetA; (try first | rw [if_pos c6] | rw [if_neg c6] | rw [if_neg (show ¬ _ = true by rw [c6]; decide)]); try rfl, by unfold xSetA; (try first | rw [if_pos c6] | rw [if_neg c6] | rw [if_neg (show ¬ _ = true by rw [c6]; decide)]); try rfl, by unfold xSetA; (try first | rw [if_pos c6] | rw [if_neg c6] | rw [if_neg (show ¬ _ = true by rw [c6]; decide)]); try rfl⟩
  · skip
    refine g_bipush C (v := (-2)) dX4_setAsking_9 (by decide) ?_
    exact g_iret C hr dX4_setAsking_11 ⟨by unfold xSetA; (try first | rw [if_pos c6] | rw [if_neg c6] | rw [if_neg (show ¬ _ = true by rw [c6]; decide)]); try rfl, by unfold xSetA; (try first | rw [if_pos c6] | rw [if_neg c6] | rw [if_neg (show ¬ _ = true by rw [c6]; decide)]); try rfl, by unfold xSetA; (try first | rw [if_pos c6] | rw [if_neg c6] | rw [if_neg (show ¬ _ = true by rw [c6]; decide)]); try rfl⟩

set_option maxRecDepth 100000 in
set_option maxHeartbeats 800000 in
theorem tX4_set {l : Launch} {E : EE} {I : Mi} {F : Mr} (hl : LY F) {h : Nat → Nat} (hb : HB F h) {k : Nat} (hk6 : k ≤ 6) (hk : I 37 1 = nI k) (x y : Int32)  : CtF l E mX4_set [rf E 0, .int x, .int y] NT I F NT (some (.int (xSet I F h k x y).1)) ((xSet I F h k x y).2.1) ((xSet I F h k x y).2.2) := by
  refine CtF_of [some (rf E 0), some (.int x), some (.int y)] (by decide) rfl (Nat.le_of_ble_eq_true rfl) rfl (fun p e s m args below meth c C hr hname => ?_)
  refine g_iload_n C dX4_set_0 rfl rfl ?_
  refine g_if_ne C (tgt := 10) dX4_set_1 (by decide) (fun c1 => ?_) (fun c1 => ?_)
  · skip
    refine g_iload_n C dX4_set_10 rfl rfl ?_
    refine g_iconst C (v := 1) dX4_set_11 (by decide) ?_
    refine g_icmp_ne C (tgt := 21) dX4_set_12 (by decide) (fun c12 => ?_) (fun c12 => ?_)
    · skip
      refine g_bipush C (v := (-2)) dX4_set_21 (by decide) ?_
      exact g_iret C hr dX4_set_23 ⟨by unfold xSet; (try first | rw [if_pos c1] | rw [if_neg c1] | rw [if_neg (show ¬ _ = true by rw [c1]; decide)]); (try first | rw [if_pos c12] | rw [if_neg c12] | rw [if_neg (show ¬ _ = true by rw [c12]; decide)]); try rfl, by unfold xSet; (try first | rw [if_pos c1] | rw [if_neg c1] | rw [if_neg (show ¬ _ = true by rw [c1]; decide)]); (try first | rw [if_pos c12] | rw [if_neg c12] | rw [if_neg (show ¬ _ = true by rw [c12]; decide)]); try rfl, by unfold xSet; (try first | rw [if_pos c1] | rw [if_neg c1] | rw [if_neg (show ¬ _ = true by rw [c1]; decide)]); (try first | rw [if_pos c12] | rw [if_neg c12] | rw [if_neg (show ¬ _ = true by rw [c12]; decide)]); try rfl⟩
    · skip
      refine g_aload_n C dX4_set_15 rfl rfl ?_
      refine g_iload_n C dX4_set_16 rfl rfl ?_
      refine kX4_54 C (by decide) (tX4_setAsking hl hb hk6 hk _) ⟨⟨Nat.le_of_ble_eq_true rfl, Nat.le_of_ble_eq_true rfl⟩, Nat.le_of_ble_eq_true rfl, Nat.le_of_ble_eq_true rfl⟩ (Nat.le_of_ble_eq_true rfl) dX4_set_17 ?_
      exact g_iret C hr dX4_set_20 ⟨by unfold xSet; (try first | rw [if_pos c1] | rw [if_neg c1] | rw [if_neg (show ¬ _ = true by rw [c1]; decide)]); (try first | rw [if_pos c12] | rw [if_neg c12] | rw [if_neg (show ¬ _ = true by rw [c12]; decide)]); try rfl, by unfold xSet; (try first | rw [if_pos c1] | rw [if_neg c1] | rw [if_neg (show ¬ _ = true by rw [c1]; decide)]); (try first | rw [if_pos c12] | rw [if_neg c12] | rw [if_neg (show ¬ _ = true by rw [c12]; decide)]); try rfl, by unfold xSet; (try first | rw [if_pos c1] | rw [if_neg c1] | rw [if_neg (show ¬ _ = true by rw [c1]; decide)]); (try first | rw [if_pos c12] | rw [if_neg c12] | rw [if_neg (show ¬ _ = true by rw [c12]; decide)]); try rfl⟩
  · skip
    refine g_aload_n C dX4_set_4 rfl rfl ?_
    refine g_iload_n C dX4_set_5 rfl rfl ?_
    refine kX4_50 C (by decide) (tX4_setCurrent hl hb hk6 hk _) ⟨⟨Nat.le_of_ble_eq_true rfl, Nat.le_of_ble_eq_true rfl⟩, Nat.le_of_ble_eq_true rfl, Nat.le_of_ble_eq_true rfl⟩ (Nat.le_of_ble_eq_true rfl) dX4_set_6 ?_
    exact g_iret C hr dX4_set_9 ⟨by unfold xSet; (try first | rw [if_pos c1] | rw [if_neg c1] | rw [if_neg (show ¬ _ = true by rw [c1]; decide)]); try rfl, by unfold xSet; (try first | rw [if_pos c1] | rw [if_neg c1] | rw [if_neg (show ¬ _ = true by rw [c1]; decide)]); try rfl, by unfold xSet; (try first | rw [if_pos c1] | rw [if_neg c1] | rw [if_neg (show ¬ _ = true by rw [c1]; decide)]); try rfl⟩

set_option maxRecDepth 100000 in
set_option maxHeartbeats 800000 in
theorem tX4_build {l : Launch} {E : EE} {I : Mi} {F : Mr} (hl : LY F) {h : Nat → Nat} (hb : HB F h) {k : Nat} (hk6 : k ≤ 6) (hk : I 37 1 = nI k) {n : Nat} (hn9 : n ≤ 8) (hn : I 1 0 = nI n) (iso keep r d : Int32)  : CtF l E mX4_build [rf E 0, .int iso, .int keep, .int r, .int d] NT I F NT (some (.int (xBuild I F h k n iso keep r d).1)) ((xBuild I F h k n iso keep r d).2.1) ((xBuild I F h k n iso keep r d).2.2) := by
  refine CtF_of [some (rf E 0), some (.int iso), some (.int keep), some (.int r), some (.int d), none] (by decide) rfl (Nat.le_of_ble_eq_true rfl) rfl (fun p e s m args below meth c C hr hname => ?_)
  refine g_iload_n C dX4_build_0 rfl rfl ?_
  refine g_iconst C (v := 1) dX4_build_1 (by decide) ?_
  refine g_bipush C (v := 9) dX4_build_2 (by decide) ?_
  refine kX4_57 C (by decide) (tX4_isWithin _ _ _) ⟨⟨Nat.le_of_ble_eq_true rfl, Nat.le_of_ble_eq_true rfl⟩, Nat.le_of_ble_eq_true rfl, Nat.le_of_ble_eq_true rfl⟩ (Nat.le_of_ble_eq_true rfl) dX4_build_4 ?_
  refine g_ifeq_b C (tgt := 21) dX4_build_7 (by decide) (fun c7 => ?_) (fun c7 => ?_)
  · skip
    refine g_bipush C (v := (-2)) dX4_build_21 (by decide) ?_
    exact g_iret C hr dX4_build_23 ⟨by unfold xBuild; (try first | rw [if_pos c7] | rw [if_neg c7] | rw [if_neg (show ¬ _ = true by rw [c7]; decide)]); try rfl, by unfold xBuild; (try first | rw [if_pos c7] | rw [if_neg c7] | rw [if_neg (show ¬ _ = true by rw [c7]; decide)]); try rfl, by unfold xBuild; (try first | rw [if_pos c7] | rw [if_neg c7] | rw [if_neg (show ¬ _ = true by rw [c7]; decide)]); try rfl⟩
  · skip
    refine g_iload C dX4_build_10 rfl ?_
    refine g_iconst C (v := 1) dX4_build_12 (by decide) ?_
    refine g_bipush C (v := 20) dX4_build_13 (by decide) ?_
    refine kX4_57 C (by decide) (tX4_isWithin _ _ _) ⟨⟨Nat.le_of_ble_eq_true rfl, Nat.le_of_ble_eq_true rfl⟩, Nat.le_of_ble_eq_true rfl, Nat.le_of_ble_eq_true rfl⟩ (Nat.le_of_ble_eq_true rfl) dX4_build_15 ?_
    refine g_ifne_b C (tgt := 24) dX4_build_18 (by decide) (fun c18 => ?_) (fun c18 => ?_)
    · skip
      refine g_aload_n C dX4_build_24 rfl rfl ?_
      refine gfX4_10 C (by decide) hl.chip dX4_build_25 ?_
      refine gfX4_71 C hl.c1.o dX4_build_28 ?_
      refine g_bipush C (v := 8) dX4_build_31 (by decide) ?_
      refine g_icmp_lt C (tgt := 39) dX4_build_33 (by decide) (fun c33 => ?_) (fun c33 => ?_)
      · skip
        have hn8 : n < 8 := by rw [hn] at c33; exact (nI_ltI (by omega) (by decide)).mp c33
        have hn2 : recI I h k 1 1 0 = nI n := by rw [recI_lo hb (by decide)]; exact hn
        refine g_aload_n C dX4_build_39 rfl rfl ?_
        refine gfX4_36 C (by decide) hl.histR dX4_build_40 ?_
        refine g_aload_n C dX4_build_43 rfl rfl ?_
        refine gfX4_10 C (by decide) hl.chip dX4_build_44 ?_
        refine kX4_61 C (by decide) (tX2_record hl hb hl.c1 (by decide) hk6 hk) ⟨⟨Nat.le_of_ble_eq_true rfl, Nat.le_of_ble_eq_true rfl⟩, Nat.le_of_ble_eq_true rfl, Nat.le_of_ble_eq_true rfl⟩ (Nat.le_of_ble_eq_true rfl) dX4_build_47 ?_
        have hl2 := recF_LY (h := h) (k := k) hl
        refine g_aload_n C dX4_build_50 rfl rfl ?_
        refine gfX4_10 C (by decide) hl2.chip dX4_build_51 ?_
        refine gfX4_71 C hl2.c1.o dX4_build_54 ?_
        refine g_istore C dX4_build_57 (by decide) rfl ?_
        refine g_aload_n C dX4_build_59 rfl rfl ?_
        refine gfX4_10 C (by decide) hl2.chip dX4_build_60 ?_
        refine g_iload_n C dX4_build_63 rfl rfl ?_
        refine g_iload_n C dX4_build_64 rfl rfl ?_
        refine g_iload_n C dX4_build_65 rfl rfl ?_
        refine g_iload C dX4_build_66 rfl ?_
        refine g_iconst C (v := 0) dX4_build_68 (by decide) ?_
        refine kX4_74 C hl2.c1.o (tX0_addIsland hl2.c1 (by decide) hn8 hn2 _ _ _ _ _) ⟨⟨Nat.le_of_ble_eq_true rfl, Nat.le_of_ble_eq_true rfl⟩, Nat.le_of_ble_eq_true rfl, Nat.le_of_ble_eq_true rfl⟩ (Nat.le_of_ble_eq_true rfl) dX4_build_69 ?_
        refine g_iload C dX4_build_72 rfl ?_
        exact g_iret C hr dX4_build_74 ⟨by unfold xBuild; (try first | rw [if_pos c7] | rw [if_neg c7] | rw [if_neg (show ¬ _ = true by rw [c7]; decide)]); (try first | rw [if_pos c18] | rw [if_neg c18] | rw [if_neg (show ¬ _ = true by rw [c18]; decide)]); (try first | rw [if_pos c33] | rw [if_neg c33] | rw [if_neg (show ¬ _ = true by rw [c33]; decide)]); try rfl, by unfold xBuild; (try first | rw [if_pos c7] | rw [if_neg c7] | rw [if_neg (show ¬ _ = true by rw [c7]; decide)]); (try first | rw [if_pos c18] | rw [if_neg c18] | rw [if_neg (show ¬ _ = true by rw [c18]; decide)]); (try first | rw [if_pos c33] | rw [if_neg c33] | rw [if_neg (show ¬ _ = true by rw [c33]; decide)]); try rfl, by unfold xBuild; (try first | rw [if_pos c7] | rw [if_neg c7] | rw [if_neg (show ¬ _ = true by rw [c7]; decide)]); (try first | rw [if_pos c18] | rw [if_neg c18] | rw [if_neg (show ¬ _ = true by rw [c18]; decide)]); (try first | rw [if_pos c33] | rw [if_neg c33] | rw [if_neg (show ¬ _ = true by rw [c33]; decide)]); try rfl⟩
      · skip
        refine g_bipush C (v := (-4)) dX4_build_36 (by decide) ?_
        exact g_iret C hr dX4_build_38 ⟨by unfold xBuild; (try first | rw [if_pos c7] | rw [if_neg c7] | rw [if_neg (show ¬ _ = true by rw [c7]; decide)]); (try first | rw [if_pos c18] | rw [if_neg c18] | rw [if_neg (show ¬ _ = true by rw [c18]; decide)]); (try first | rw [if_pos c33] | rw [if_neg c33] | rw [if_neg (show ¬ _ = true by rw [c33]; decide)]); try rfl, by unfold xBuild; (try first | rw [if_pos c7] | rw [if_neg c7] | rw [if_neg (show ¬ _ = true by rw [c7]; decide)]); (try first | rw [if_pos c18] | rw [if_neg c18] | rw [if_neg (show ¬ _ = true by rw [c18]; decide)]); (try first | rw [if_pos c33] | rw [if_neg c33] | rw [if_neg (show ¬ _ = true by rw [c33]; decide)]); try rfl, by unfold xBuild; (try first | rw [if_pos c7] | rw [if_neg c7] | rw [if_neg (show ¬ _ = true by rw [c7]; decide)]); (try first | rw [if_pos c18] | rw [if_neg c18] | rw [if_neg (show ¬ _ = true by rw [c18]; decide)]); (try first | rw [if_pos c33] | rw [if_neg c33] | rw [if_neg (show ¬ _ = true by rw [c33]; decide)]); try rfl⟩
    · skip
      refine g_bipush C (v := (-2)) dX4_build_21 (by decide) ?_
      exact g_iret C hr dX4_build_23 ⟨by unfold xBuild; (try first | rw [if_pos c7] | rw [if_neg c7] | rw [if_neg (show ¬ _ = true by rw [c7]; decide)]); (try first | rw [if_pos c18] | rw [if_neg c18] | rw [if_neg (show ¬ _ = true by rw [c18]; decide)]); try rfl, by unfold xBuild; (try first | rw [if_pos c7] | rw [if_neg c7] | rw [if_neg (show ¬ _ = true by rw [c7]; decide)]); (try first | rw [if_pos c18] | rw [if_neg c18] | rw [if_neg (show ¬ _ = true by rw [c18]; decide)]); try rfl, by unfold xBuild; (try first | rw [if_pos c7] | rw [if_neg c7] | rw [if_neg (show ¬ _ = true by rw [c7]; decide)]); (try first | rw [if_pos c18] | rw [if_neg c18] | rw [if_neg (show ¬ _ = true by rw [c18]; decide)]); try rfl⟩

