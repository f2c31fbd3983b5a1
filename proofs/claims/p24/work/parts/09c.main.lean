set_option maxRecDepth 100000 in
set_option maxHeartbeats 800000 in
theorem tX4_value_no {l : Launch} {E : EE} {I : Mi} {F : Mr} (hl : LY F) (x : Int32) (hx : hasC I 1 x = false) (v : Int32)  : CtF l E mX4_value [rf E 0, .int x, .int v] NT I F NT (some (.int (-1))) I F := by
  refine CtF_of [some (rf E 0), some (.int x), some (.int v), none] (by decide) rfl (Nat.le_of_ble_eq_true rfl) rfl (fun p e s m args below meth c C hr hname => ?_)
  refine g_aload_n C dX4_value_0 rfl rfl ?_
  refine gfX4_10 C (by decide) hl.chip dX4_value_1 ?_
  refine g_iload_n C dX4_value_4 rfl rfl ?_
  refine kX4_93 C hl.c1.o (tX0_has hl.c1 (by decide) _) ⟨⟨Nat.le_of_ble_eq_true rfl, Nat.le_of_ble_eq_true rfl⟩, Nat.le_of_ble_eq_true rfl, Nat.le_of_ble_eq_true rfl⟩ (Nat.le_of_ble_eq_true rfl) dX4_value_5 ?_
  refine g_ifne_b C (tgt := 13) dX4_value_8 (by decide) (fun c8 => absurd c8 (by rw [hx]; decide)) (fun _ => ?_)
  refine g_iconst C (v := (-1)) dX4_value_11 (by decide) ?_
  exact g_iret C hr dX4_value_12 ⟨rfl, rfl, rfl⟩

set_option maxRecDepth 100000 in
set_option maxHeartbeats 800000 in
theorem tX4_sleep_no {l : Launch} {E : EE} {I : Mi} {F : Mr} (hl : LY F) (x : Int32) (hx : hasC I 1 x = false)   : CtF l E mX4_sleep [rf E 0, .int x] NT I F NT (some (.int (-1))) I F := by
  refine CtF_of [some (rf E 0), some (.int x)] (by decide) rfl (Nat.le_of_ble_eq_true rfl) rfl (fun p e s m args below meth c C hr hname => ?_)
  refine g_aload_n C dX4_sleep_0 rfl rfl ?_
  refine gfX4_10 C (by decide) hl.chip dX4_sleep_1 ?_
  refine g_iload_n C dX4_sleep_4 rfl rfl ?_
  refine kX4_93 C hl.c1.o (tX0_has hl.c1 (by decide) _) ⟨⟨Nat.le_of_ble_eq_true rfl, Nat.le_of_ble_eq_true rfl⟩, Nat.le_of_ble_eq_true rfl, Nat.le_of_ble_eq_true rfl⟩ (Nat.le_of_ble_eq_true rfl) dX4_sleep_5 ?_
  refine g_ifne_b C (tgt := 13) dX4_sleep_8 (by decide) (fun c8 => absurd c8 (by rw [hx]; decide)) (fun _ => ?_)
  refine g_iconst C (v := (-1)) dX4_sleep_11 (by decide) ?_
  exact g_iret C hr dX4_sleep_12 ⟨rfl, rfl, rfl⟩

set_option maxRecDepth 100000 in
set_option maxHeartbeats 800000 in
theorem tX4_wake_no {l : Launch} {E : EE} {I : Mi} {F : Mr} (hl : LY F) (x : Int32) (hx : hasC I 1 x = false)   : CtF l E mX4_wake [rf E 0, .int x] NT I F NT (some (.int (-1))) I F := by
  refine CtF_of [some (rf E 0), some (.int x)] (by decide) rfl (Nat.le_of_ble_eq_true rfl) rfl (fun p e s m args below meth c C hr hname => ?_)
  refine g_aload_n C dX4_wake_0 rfl rfl ?_
  refine gfX4_10 C (by decide) hl.chip dX4_wake_1 ?_
  refine g_iload_n C dX4_wake_4 rfl rfl ?_
  refine kX4_93 C hl.c1.o (tX0_has hl.c1 (by decide) _) ⟨⟨Nat.le_of_ble_eq_true rfl, Nat.le_of_ble_eq_true rfl⟩, Nat.le_of_ble_eq_true rfl, Nat.le_of_ble_eq_true rfl⟩ (Nat.le_of_ble_eq_true rfl) dX4_wake_5 ?_
  refine g_ifne_b C (tgt := 13) dX4_wake_8 (by decide) (fun c8 => absurd c8 (by rw [hx]; decide)) (fun _ => ?_)
  refine g_iconst C (v := (-1)) dX4_wake_11 (by decide) ?_
  exact g_iret C hr dX4_wake_12 ⟨rfl, rfl, rfl⟩

set_option maxRecDepth 100000 in
set_option maxHeartbeats 800000 in
theorem tX4_of_no {l : Launch} {E : EE} {I : Mi} {F : Mr} (hl : LY F) (x : Int32) (hx : hasC I 1 x = false) (v : Int32)  : CtF l E mX4_of [rf E 0, .int x, .int v] NT I F NT (some (.int (-1))) I F := by
  refine CtF_of [some (rf E 0), some (.int x), some (.int v)] (by decide) rfl (Nat.le_of_ble_eq_true rfl) rfl (fun p e s m args below meth c C hr hname => ?_)
  refine g_aload_n C dX4_of_0 rfl rfl ?_
  refine gfX4_10 C (by decide) hl.chip dX4_of_1 ?_
  refine g_iload_n C dX4_of_4 rfl rfl ?_
  refine kX4_93 C hl.c1.o (tX0_has hl.c1 (by decide) _) ⟨⟨Nat.le_of_ble_eq_true rfl, Nat.le_of_ble_eq_true rfl⟩, Nat.le_of_ble_eq_true rfl, Nat.le_of_ble_eq_true rfl⟩ (Nat.le_of_ble_eq_true rfl) dX4_of_5 ?_
  refine g_ifne_b C (tgt := 13) dX4_of_8 (by decide) (fun c8 => absurd c8 (by rw [hx]; decide)) (fun _ => ?_)
  refine g_iconst C (v := (-1)) dX4_of_11 (by decide) ?_
  exact g_iret C hr dX4_of_12 ⟨rfl, rfl, rfl⟩

set_option maxRecDepth 100000 in
set_option maxHeartbeats 800000 in
theorem tX4_link_no1 {l : Launch} {E : EE} {I : Mi} {F : Mr} (hl : LY F) (x : Int32) (hx : hasC I 1 x = false) (y b : Int32)  : CtF l E mX4_link [rf E 0, .int x, .int y, .int b] NT I F NT (some (.int (-1))) I F := by
  refine CtF_of [some (rf E 0), some (.int x), some (.int y), some (.int b)] (by decide) rfl (Nat.le_of_ble_eq_true rfl) rfl (fun p e s m args below meth c C hr hname => ?_)
  refine g_aload_n C dX4_link_0 rfl rfl ?_
  refine gfX4_10 C (by decide) hl.chip dX4_link_1 ?_
  refine g_iload_n C dX4_link_4 rfl rfl ?_
  refine kX4_93 C hl.c1.o (tX0_has hl.c1 (by decide) _) ⟨⟨Nat.le_of_ble_eq_true rfl, Nat.le_of_ble_eq_true rfl⟩, Nat.le_of_ble_eq_true rfl, Nat.le_of_ble_eq_true rfl⟩ (Nat.le_of_ble_eq_true rfl) dX4_link_5 ?_
  refine g_ifeq_b C (tgt := 22) dX4_link_8 (by decide) (fun _ => ?_) (fun c8 => absurd c8 (by rw [hx]; decide))
  refine g_iconst C (v := (-1)) dX4_link_22 (by decide) ?_
  exact g_iret C hr dX4_link_23 ⟨rfl, rfl, rfl⟩

set_option maxRecDepth 100000 in
set_option maxHeartbeats 800000 in
theorem tX4_link_no2 {l : Launch} {E : EE} {I : Mi} {F : Mr} (hl : LY F) {i : Nat} (hi8 : i < 8) (hx : hasC I 1 (nI i) = true) (y b : Int32) (hy : hasC I 1 y = false)  : CtF l E mX4_link [rf E 0, .int (nI i), .int y, .int b] NT I F NT (some (.int (-1))) I F := by
  refine CtF_of [some (rf E 0), some (.int (nI i)), some (.int y), some (.int b)] (by decide) rfl (Nat.le_of_ble_eq_true rfl) rfl (fun p e s m args below meth c C hr hname => ?_)
  refine g_aload_n C dX4_link_0 rfl rfl ?_
  refine gfX4_10 C (by decide) hl.chip dX4_link_1 ?_
  refine g_iload_n C dX4_link_4 rfl rfl ?_
  refine kX4_93 C hl.c1.o (tX0_has hl.c1 (by decide) _) ⟨⟨Nat.le_of_ble_eq_true rfl, Nat.le_of_ble_eq_true rfl⟩, Nat.le_of_ble_eq_true rfl, Nat.le_of_ble_eq_true rfl⟩ (Nat.le_of_ble_eq_true rfl) dX4_link_5 ?_
  refine g_ifeq_b C (tgt := 22) dX4_link_8 (by decide) (fun c8 => (bt_f hx c8).elim) (fun _ => ?_)
  refine g_aload_n C dX4_link_11 rfl rfl ?_
  refine gfX4_10 C (by decide) hl.chip dX4_link_12 ?_
  refine g_iload_n C dX4_link_15 rfl rfl ?_
  refine kX4_93 C hl.c1.o (tX0_has hl.c1 (by decide) _) ⟨⟨Nat.le_of_ble_eq_true rfl, Nat.le_of_ble_eq_true rfl⟩, Nat.le_of_ble_eq_true rfl, Nat.le_of_ble_eq_true rfl⟩ (Nat.le_of_ble_eq_true rfl) dX4_link_16 ?_
  refine g_ifne_b C (tgt := 24) dX4_link_19 (by decide) (fun c19 => absurd c19 (by rw [hy]; decide)) (fun _ => ?_)
  refine g_iconst C (v := (-1)) dX4_link_22 (by decide) ?_
  exact g_iret C hr dX4_link_23 ⟨rfl, rfl, rfl⟩

set_option maxRecDepth 100000 in
set_option maxHeartbeats 800000 in
theorem tX4_link {l : Launch} {E : EE} {I : Mi} {F : Mr} (hl : LY F) {h : Nat → Nat} (hb : HB F h) {k : Nat} (hk6 : k ≤ 6) (hk : I 37 1 = nI k) {i : Nat} (hi8 : i < 8) (hx : hasC I 1 (nI i) = true) {j : Nat} (hy : hasC I 1 (nI j) = true) (b : Int32)  : CtF l E mX4_link [rf E 0, .int (nI i), .int (nI j), .int b] NT I F NT (some (.int (xLink I F h k i j b).1)) ((xLink I F h k i j b).2.1) ((xLink I F h k i j b).2.2) := by
  refine CtF_of [some (rf E 0), some (.int (nI i)), some (.int (nI j)), some (.int b)] (by decide) rfl (Nat.le_of_ble_eq_true rfl) rfl (fun p e s m args below meth c C hr hname => ?_)
  refine g_aload_n C dX4_link_0 rfl rfl ?_
  refine gfX4_10 C (by decide) hl.chip dX4_link_1 ?_
  refine g_iload_n C dX4_link_4 rfl rfl ?_
  refine kX4_93 C hl.c1.o (tX0_has hl.c1 (by decide) _) ⟨⟨Nat.le_of_ble_eq_true rfl, Nat.le_of_ble_eq_true rfl⟩, Nat.le_of_ble_eq_true rfl, Nat.le_of_ble_eq_true rfl⟩ (Nat.le_of_ble_eq_true rfl) dX4_link_5 ?_
  refine g_ifeq_b C (tgt := 22) dX4_link_8 (by decide) (fun c8 => (bt_f hx c8).elim) (fun _ => ?_)
  refine g_aload_n C dX4_link_11 rfl rfl ?_
  refine gfX4_10 C (by decide) hl.chip dX4_link_12 ?_
  refine g_iload_n C dX4_link_15 rfl rfl ?_
  refine kX4_93 C hl.c1.o (tX0_has hl.c1 (by decide) _) ⟨⟨Nat.le_of_ble_eq_true rfl, Nat.le_of_ble_eq_true rfl⟩, Nat.le_of_ble_eq_true rfl, Nat.le_of_ble_eq_true rfl⟩ (Nat.le_of_ble_eq_true rfl) dX4_link_16 ?_
  refine g_ifne_b C (tgt := 24) dX4_link_19 (by decide) (fun _ => ?_) (fun c19 => (bt_f hy c19).elim)
  refine g_iload_n C dX4_link_24 rfl rfl ?_
  refine g_iload_n C dX4_link_25 rfl rfl ?_
  refine g_icmp_ne C (tgt := 32) dX4_link_26 (by decide) (fun c26 => ?_) (fun c26 => ?_)
  · skip
    refine g_aload_n C dX4_link_32 rfl rfl ?_
    refine gfX4_10 C (by decide) hl.chip dX4_link_33 ?_
    refine gfX4_97 C hl.c1.o hl.c1.f5 dX4_link_36 ?_
    refine g_iload_n C dX4_link_39 rfl rfl ?_
    refine g_iald_j C hl.c1.r3 (i) rfl hi8 (by decide) dX4_link_40 ?_
    refine g_iload_n C dX4_link_41 rfl rfl ?_
    refine kX4_101 C (by decide) (tX4_isIn _ _) ⟨⟨Nat.le_of_ble_eq_true rfl, Nat.le_of_ble_eq_true rfl⟩, Nat.le_of_ble_eq_true rfl, Nat.le_of_ble_eq_true rfl⟩ (Nat.le_of_ble_eq_true rfl) dX4_link_42 ?_
    refine g_iload_n C dX4_link_45 rfl rfl ?_
    refine g_icmp_ne C (tgt := 52) dX4_link_46 (by decide) (fun c46 => ?_) (fun c46 => ?_)
    · skip
      refine g_aload_n C dX4_link_52 rfl rfl ?_
      refine gfX4_36 C (by decide) hl.histR dX4_link_53 ?_
      refine g_aload_n C dX4_link_56 rfl rfl ?_
      refine gfX4_10 C (by decide) hl.chip dX4_link_57 ?_
      refine kX4_61 C (by decide) (tX2_record hl hb hl.c1 (by decide) hk6 hk) ⟨⟨Nat.le_of_ble_eq_true rfl, Nat.le_of_ble_eq_true rfl⟩, Nat.le_of_ble_eq_true rfl, Nat.le_of_ble_eq_true rfl⟩ (Nat.le_of_ble_eq_true rfl) dX4_link_60 ?_
      have hl2 := recF_LY (h := h) (k := k) hl
      refine g_aload_n C dX4_link_63 rfl rfl ?_
      refine gfX4_10 C (by decide) hl2.chip dX4_link_64 ?_
      refine gfX4_97 C hl2.c1.o hl2.c1.f5 dX4_link_67 ?_
      refine g_iload_n C dX4_link_70 rfl rfl ?_
      refine g_dup2_11 C dX4_link_71 rfl rfl ?_
      refine g_iald_j C hl2.c1.r3 (i) rfl hi8 (by decide) dX4_link_72 ?_
      refine g_iconst C (v := 1) dX4_link_73 (by decide) ?_
      refine g_iload_n C dX4_link_74 rfl rfl ?_
      refine g_ishl C dX4_link_75 ?_
      refine g_ixor C dX4_link_76 ?_
      refine g_iast_j C hl2.c1.r3 (i) rfl hi8 (by decide) dX4_link_77 ?_
      refine g_aload_n C dX4_link_78 rfl rfl ?_
      refine gfX4_10 C (by decide) hl2.chip dX4_link_79 ?_
      refine gfX4_97 C hl2.c1.o hl2.c1.f5 dX4_link_82 ?_
      refine g_iload_n C dX4_link_85 rfl rfl ?_
      refine g_iald_j C hl2.c1.r3 (i) rfl hi8 (by decide) dX4_link_86 ?_
      exact g_iret C hr dX4_link_87 ⟨by unfold xLink; (try first | rw [if_pos c26] | rw [if_neg c26] | rw [if_neg (show ¬ _ = true by rw [c26]; decide)]); (try first | rw [if_pos c46] | rw [if_neg c46] | rw [if_neg (show ¬ _ = true by rw [c46]; decide)]); try rfl, by unfold xLink; (try first | rw [if_pos c26] | rw [if_neg c26] | rw [if_neg (show ¬ _ = true by rw [c26]; decide)]); (try first | rw [if_pos c46] | rw [if_neg c46] | rw [if_neg (show ¬ _ = true by rw [c46]; decide)]); try rfl, by unfold xLink; (try first | rw [if_pos c26] | rw [if_neg c26] | rw [if_neg (show ¬ _ = true by rw [c26]; decide)]); (try first | rw [if_pos c46] | rw [if_neg c46] | rw [if_neg (show ¬ _ = true by rw [c46]; decide)]); try rfl⟩
    · skip
      refine g_bipush C (v := (-5)) dX4_link_49 (by decide) ?_
      exact g_iret C hr dX4_link_51 ⟨by unfold xLink; (try first | rw [if_pos c26] | rw [if_neg c26] | rw [if_neg (show ¬ _ = true by rw [c26]; decide)]); (try first | rw [if_pos c46] | rw [if_neg c46] | rw [if_neg (show ¬ _ = true by rw [c46]; decide)]); try rfl, by unfold xLink; (try first | rw [if_pos c26] | rw [if_neg c26] | rw [if_neg (show ¬ _ = true by rw [c26]; decide)]); (try first | rw [if_pos c46] | rw [if_neg c46] | rw [if_neg (show ¬ _ = true by rw [c46]; decide)]); try rfl, by unfold xLink; (try first | rw [if_pos c26] | rw [if_neg c26] | rw [if_neg (show ¬ _ = true by rw [c26]; decide)]); (try first | rw [if_pos c46] | rw [if_neg c46] | rw [if_neg (show ¬ _ = true by rw [c46]; decide)]); try rfl⟩
  · skip
    refine g_bipush C (v := (-2)) dX4_link_29 (by decide) ?_
    exact g_iret C hr dX4_link_31 ⟨by unfold xLink; (try first | rw [if_pos c26] | rw [if_neg c26] | rw [if_neg (show ¬ _ = true by rw [c26]; decide)]); try rfl, by unfold xLink; (try first | rw [if_pos c26] | rw [if_neg c26] | rw [if_neg (show ¬ _ = true by rw [c26]; decide)]); try rfl, by unfold xLink; (try first | rw [if_pos c26] | rw [if_neg c26] | rw [if_neg (show ¬ _ = true by rw [c26]; decide)]); try rfl⟩

set_option maxRecDepth 100000 in
set_option maxHeartbeats 800000 in
theorem tX4_value {l : Launch} {E : EE} {I : Mi} {F : Mr} (hl : LY F) {h : Nat → Nat} (hb : HB F h) {k : Nat} (hk6 : k ≤ 6) (hk : I 37 1 = nI k) {i : Nat} (hi8 : i < 8) (hx : hasC I 1 (nI i) = true) (v : Int32)  : CtF l E mX4_value [rf E 0, .int (nI i), .int v] NT I F NT (some (.int (xValue I F h k i v).1)) ((xValue I F h k i v).2.1) ((xValue I F h k i v).2.2) := by
  refine CtF_of [some (rf E 0), some (.int (nI i)), some (.int v), none] (by decide) rfl (Nat.le_of_ble_eq_true rfl) rfl (fun p e s m args below meth c C hr hname => ?_)
  refine g_aload_n C dX4_value_0 rfl rfl ?_
  refine gfX4_10 C (by decide) hl.chip dX4_value_1 ?_
  refine g_iload_n C dX4_value_4 rfl rfl ?_
  refine kX4_93 C hl.c1.o (tX0_has hl.c1 (by decide) _) ⟨⟨Nat.le_of_ble_eq_true rfl, Nat.le_of_ble_eq_true rfl⟩, Nat.le_of_ble_eq_true rfl, Nat.le_of_ble_eq_true rfl⟩ (Nat.le_of_ble_eq_true rfl) dX4_value_5 ?_
  refine g_ifne_b C (tgt := 13) dX4_value_8 (by decide) (fun _ => ?_) (fun c8 => (bt_f hx c8).elim)
  refine g_iload_n C dX4_value_13 rfl rfl ?_
  refine g_iconst C (v := 0) dX4_value_14 (by decide) ?_
  refine g_sipush C (v := 255) dX4_value_15 (by decide) ?_
  refine kX4_57 C (by decide) (tX4_isWithin _ _ _) ⟨⟨Nat.le_of_ble_eq_true rfl, Nat.le_of_ble_eq_true rfl⟩, Nat.le_of_ble_eq_true rfl, Nat.le_of_ble_eq_true rfl⟩ (Nat.le_of_ble_eq_true rfl) dX4_value_18 ?_
  refine g_ifne_b C (tgt := 27) dX4_value_21 (by decide) (fun c21 => ?_) (fun c21 => ?_)
  · skip
    refine g_aload_n C dX4_value_27 rfl rfl ?_
    refine gfX4_10 C (by decide) hl.chip dX4_value_28 ?_
    refine gfX4_105 C hl.c1.o hl.c1.f6 dX4_value_31 ?_
    refine g_iload_n C dX4_value_34 rfl rfl ?_
    refine g_iald_j C hl.c1.r4 (i) rfl hi8 (by decide) dX4_value_35 ?_
    refine g_if_eq C (tgt := 42) dX4_value_36 (by decide) (fun c36 => ?_) (fun c36 => ?_)
    · skip
      refine g_aload_n C dX4_value_42 rfl rfl ?_
      refine gfX4_36 C (by decide) hl.histR dX4_value_43 ?_
      refine g_aload_n C dX4_value_46 rfl rfl ?_
      refine gfX4_10 C (by decide) hl.chip dX4_value_47 ?_
      refine kX4_61 C (by decide) (tX2_record hl hb hl.c1 (by decide) hk6 hk) ⟨⟨Nat.le_of_ble_eq_true rfl, Nat.le_of_ble_eq_true rfl⟩, Nat.le_of_ble_eq_true rfl, Nat.le_of_ble_eq_true rfl⟩ (Nat.le_of_ble_eq_true rfl) dX4_value_50 ?_
      have hl2 := recF_LY (h := h) (k := k) hl
      refine g_aload_n C dX4_value_53 rfl rfl ?_
      refine gfX4_10 C (by decide) hl2.chip dX4_value_54 ?_
      refine gfX4_108 C hl2.c1.o hl2.c1.f7 dX4_value_57 ?_
      refine g_iload_n C dX4_value_60 rfl rfl ?_
      refine g_iald_j C hl2.c1.r5 (i) rfl hi8 (by decide) dX4_value_61 ?_
      refine g_istore_n C dX4_value_62 rfl (by decide) rfl ?_
      refine g_aload_n C dX4_value_63 rfl rfl ?_
      refine gfX4_10 C (by decide) hl2.chip dX4_value_64 ?_
      refine gfX4_108 C hl2.c1.o hl2.c1.f7 dX4_value_67 ?_
      refine g_iload_n C dX4_value_70 rfl rfl ?_
      refine g_iload_n C dX4_value_71 rfl rfl ?_
      refine g_iast_j C hl2.c1.r5 (i) rfl hi8 (by decide) dX4_value_72 ?_
      refine g_iload_n C dX4_value_73 rfl rfl ?_
      exact g_iret C hr dX4_value_74 ⟨by unfold xValue; (try first | rw [if_pos c21] | rw [if_neg c21] | rw [if_neg (show ¬ _ = true by rw [c21]; decide)]); (try first | rw [if_pos c36] | rw [if_neg c36] | rw [if_neg (show ¬ _ = true by rw [c36]; decide)]); try rfl, by unfold xValue; (try first | rw [if_pos c21] | rw [if_neg c21] | rw [if_neg (show ¬ _ = true by rw [c21]; decide)]); (try first | rw [if_pos c36] | rw [if_neg c36] | rw [if_neg (show ¬ _ = true by rw [c36]; decide)]); try rfl, by unfold xValue; (try first | rw [if_pos c21] | rw [if_neg c21] | rw [if_neg (show ¬ _ = true by rw [c21]; decide)]); (try first | rw [if_pos c36] | rw [if_neg c36] | rw [if_neg (show ¬ _ = true by rw [c36]; decide)]); try rfl⟩
    · skip
      refine g_bipush C (v := (-5)) dX4_value_39 (by decide) ?_
      exact g_iret C hr dX4_value_41 ⟨by unfold xValue; (try first | rw [if_pos c21] | rw [if_neg c21] | rw [if_neg (show ¬ _ = true by rw [c21]; decide)]); (try first | rw [if_pos c36] | rw [if_neg c36] | rw [if_neg (show ¬ _ = true by rw [c36]; decide)]); try rfl, by unfold xValue; (try first | rw [if_pos c21] | rw [if_neg c21] | rw [if_neg (show ¬ _ = true by rw [c21]; decide)]); (try first | rw [if_pos c36] | rw [if_neg c36] | rw [if_neg (show ¬ _ = true by rw [c36]; decide)]); try rfl, by unfold xValue; (try first | rw [if_pos c21] | rw [if_neg c21] | rw [if_neg (show ¬ _ = true by rw [c21]; decide)]); (try first | rw [if_pos c36] | rw [if_neg c36] | rw [if_neg (show ¬ _ = true by rw [c36]; decide)]); try rfl⟩
  · skip
    refine g_bipush C (v := (-2)) dX4_value_24 (by decide) ?_
    exact g_iret C hr dX4_value_26 ⟨by unfold xValue; (try first | rw [if_pos c21] | rw [if_neg c21] | rw [if_neg (show ¬ _ = true by rw [c21]; decide)]); try rfl, by unfold xValue; (try first | rw [if_pos c21] | rw [if_neg c21] | rw [if_neg (show ¬ _ = true by rw [c21]; decide)]); try rfl, by unfold xValue; (try first | rw [if_pos c21] | rw [if_neg c21] | rw [if_neg (show ¬ _ = true by rw [c21]; decide)]); try rfl⟩

set_option maxRecDepth 100000 in
set_option maxHeartbeats 800000 in
theorem tX4_sleep {l : Launch} {E : EE} {I : Mi} {F : Mr} (hl : LY F) {h : Nat → Nat} (hb : HB F h) {k : Nat} (hk6 : k ≤ 6) (hk : I 37 1 = nI k) {i : Nat} (hi8 : i < 8) (hx : hasC I 1 (nI i) = true)  : CtF l E mX4_sleep [rf E 0, .int (nI i)] NT I F NT (some (.int (xSleep I F h k i).1)) ((xSleep I F h k i).2.1) ((xSleep I F h k i).2.2) := by
  refine CtF_of [some (rf E 0), some (.int (nI i))] (by decide) rfl (Nat.le_of_ble_eq_true rfl) rfl (fun p e s m args below meth c C hr hname => ?_)
  refine g_aload_n C dX4_sleep_0 rfl rfl ?_
  refine gfX4_10 C (by decide) hl.chip dX4_sleep_1 ?_
  refine g_iload_n C dX4_sleep_4 rfl rfl ?_
  refine kX4_93 C hl.c1.o (tX0_has hl.c1 (by decide) _) ⟨⟨Nat.le_of_ble_eq_true rfl, Nat.le_of_ble_eq_true rfl⟩, Nat.le_of_ble_eq_true rfl, Nat.le_of_ble_eq_true rfl⟩ (Nat.le_of_ble_eq_true rfl) dX4_sleep_5 ?_
  refine g_ifne_b C (tgt := 13) dX4_sleep_8 (by decide) (fun _ => ?_) (fun c8 => (bt_f hx c8).elim)
  refine g_aload_n C dX4_sleep_13 rfl rfl ?_
  refine gfX4_10 C (by decide) hl.chip dX4_sleep_14 ?_
  refine gfX4_105 C hl.c1.o hl.c1.f6 dX4_sleep_17 ?_
  refine g_iload_n C dX4_sleep_20 rfl rfl ?_
  refine g_iald_j C hl.c1.r4 (i) rfl hi8 (by decide) dX4_sleep_21 ?_
  refine g_if_eq C (tgt := 28) dX4_sleep_22 (by decide) (fun c22 => ?_) (fun c22 => ?_)
  · skip
    refine g_aload_n C dX4_sleep_28 rfl rfl ?_
    refine gfX4_36 C (by decide) hl.histR dX4_sleep_29 ?_
    refine g_aload_n C dX4_sleep_32 rfl rfl ?_
    refine gfX4_10 C (by decide) hl.chip dX4_sleep_33 ?_
    refine kX4_61 C (by decide) (tX2_record hl hb hl.c1 (by decide) hk6 hk) ⟨⟨Nat.le_of_ble_eq_true rfl, Nat.le_of_ble_eq_true rfl⟩, Nat.le_of_ble_eq_true rfl, Nat.le_of_ble_eq_true rfl⟩ (Nat.le_of_ble_eq_true rfl) dX4_sleep_36 ?_
    have hl2 := recF_LY (h := h) (k := k) hl
    refine g_aload_n C dX4_sleep_39 rfl rfl ?_
    refine gfX4_10 C (by decide) hl2.chip dX4_sleep_40 ?_
    refine gfX4_105 C hl2.c1.o hl2.c1.f6 dX4_sleep_43 ?_
    refine g_iload_n C dX4_sleep_46 rfl rfl ?_
    refine g_iconst C (v := 1) dX4_sleep_47 (by decide) ?_
    refine g_iast_j C hl2.c1.r4 (i) rfl hi8 (by decide) dX4_sleep_48 ?_
    refine g_aload_n C dX4_sleep_49 rfl rfl ?_
    refine gfX4_10 C (by decide) hl2.chip dX4_sleep_50 ?_
    refine g_iload_n C dX4_sleep_53 rfl rfl ?_
    refine kX4_111 C hl2.c1.o (tX0_readersOf hl2.c1 (by decide) _) ⟨⟨Nat.le_of_ble_eq_true rfl, Nat.le_of_ble_eq_true rfl⟩, Nat.le_of_ble_eq_true rfl, Nat.le_of_ble_eq_true rfl⟩ (Nat.le_of_ble_eq_true rfl) dX4_sleep_54 ?_
    refine g_aload_n C dX4_sleep_57 rfl rfl ?_
    refine gfX4_10 C (by decide) hl2.chip dX4_sleep_58 ?_
    refine g_iconst C (v := 0) dX4_sleep_61 (by decide) ?_
    refine kX4_114 C hl2.c1.o (tX0_islandsThatAre hl2.c1 _) ⟨⟨Nat.le_of_ble_eq_true rfl, Nat.le_of_ble_eq_true rfl⟩, Nat.le_of_ble_eq_true rfl, Nat.le_of_ble_eq_true rfl⟩ (Nat.le_of_ble_eq_true rfl) dX4_sleep_62 ?_
    refine g_iand C dX4_sleep_65 ?_
    refine kX4_117 C (by decide) (tbitCount _) ⟨⟨Nat.le_of_ble_eq_true rfl, Nat.le_of_ble_eq_true rfl⟩, Nat.le_of_ble_eq_true rfl, Nat.le_of_ble_eq_true rfl⟩ (Nat.le_of_ble_eq_true rfl) dX4_sleep_66 ?_
    exact g_iret C hr dX4_sleep_69 ⟨by unfold xSleep; (try first | rw [if_pos c22] | rw [if_neg c22] | rw [if_neg (show ¬ _ = true by rw [c22]; decide)]); try rfl, by unfold xSleep; (try first | rw [if_pos c22] | rw [if_neg c22] | rw [if_neg (show ¬ _ = true by rw [c22]; decide)]); try rfl, by unfold xSleep; (try first | rw [if_pos c22] | rw [if_neg c22] | rw [if_neg (show ¬ _ = true by rw [c22]; decide)]); try rfl⟩
  · skip
    refine g_bipush C (v := (-5)) dX4_sleep_25 (by decide) ?_
    exact g_iret C hr dX4_sleep_27 ⟨by unfold xSleep; (try first | rw [if_pos c22] | rw [if_neg c22] | rw [if_neg (show ¬ _ = true by rw [c22]; decide)]); try rfl, by unfold xSleep; (try first | rw [if_pos c22] | rw [if_neg c22] | rw [if_neg (show ¬ _ = true by rw [c22]; decide)]); try rfl, by unfold xSleep; (try first | rw [if_pos c22] | rw [if_neg c22] | rw [if_neg (show ¬ _ = true by rw [c22]; decide)]); try rfl⟩

set_option maxRecDepth 100000 in
set_option maxHeartbeats 800000 in
theorem tX4_wake {l : Launch} {E : EE} {I : Mi} {F : Mr} (hl : LY F) {h : Nat → Nat} (hb : HB F h) {k : Nat} (hk6 : k ≤ 6) (hk : I 37 1 = nI k) {i : Nat} (hi8 : i < 8) (hx : hasC I 1 (nI i) = true)  : CtF l E mX4_wake [rf E 0, .int (nI i)] NT I F NT (some (.int (xWake I F h k i).1)) ((xWake I F h k i).2.1) ((xWake I F h k i).2.2) := by
  refine CtF_of [some (rf E 0), some (.int (nI i))] (by decide) rfl (Nat.le_of_ble_eq_true rfl) rfl (fun p e s m args below meth c C hr hname => ?_)
  refine g_aload_n C dX4_wake_0 rfl rfl ?_
  refine gfX4_10 C (by decide) hl.chip dX4_wake_1 ?_
  refine g_iload_n C dX4_wake_4 rfl rfl ?_
  refine kX4_93 C hl.c1.o (tX0_has hl.c1 (by decide) _) ⟨⟨Nat.le_of_ble_eq_true rfl, Nat.le_of_ble_eq_true rfl⟩, Nat.le_of_ble_eq_true rfl, Nat.le_of_ble_eq_true rfl⟩ (Nat.le_of_ble_eq_true rfl) dX4_wake_5 ?_
  refine g_ifne_b C (tgt := 13) dX4_wake_8 (by decide) (fun _ => ?_) (fun c8 => (bt_f hx c8).elim)
  refine g_aload_n C dX4_wake_13 rfl rfl ?_
  refine gfX4_10 C (by decide) hl.chip dX4_wake_14 ?_
  refine gfX4_105 C hl.c1.o hl.c1.f6 dX4_wake_17 ?_
  refine g_iload_n C dX4_wake_20 rfl rfl ?_
  refine g_iald_j C hl.c1.r4 (i) rfl hi8 (by decide) dX4_wake_21 ?_
  refine g_iconst C (v := 2) dX4_wake_22 (by decide) ?_
  refine g_icmp_eq C (tgt := 29) dX4_wake_23 (by decide) (fun c23 => ?_) (fun c23 => ?_)
  · skip
    refine g_aload_n C dX4_wake_29 rfl rfl ?_
    refine gfX4_36 C (by decide) hl.histR dX4_wake_30 ?_
    refine g_aload_n C dX4_wake_33 rfl rfl ?_
    refine gfX4_10 C (by decide) hl.chip dX4_wake_34 ?_
    refine kX4_61 C (by decide) (tX2_record hl hb hl.c1 (by decide) hk6 hk) ⟨⟨Nat.le_of_ble_eq_true rfl, Nat.le_of_ble_eq_true rfl⟩, Nat.le_of_ble_eq_true rfl, Nat.le_of_ble_eq_true rfl⟩ (Nat.le_of_ble_eq_true rfl) dX4_wake_37 ?_
    have hl2 := recF_LY (h := h) (k := k) hl
    refine g_aload_n C dX4_wake_40 rfl rfl ?_
    refine gfX4_10 C (by decide) hl2.chip dX4_wake_41 ?_
    refine g_iload_n C dX4_wake_44 rfl rfl ?_
    refine kX4_122 C hl2.c1.o (tX0_orderToWake hl2.c1 (by decide) hi8) ⟨⟨Nat.le_of_ble_eq_true rfl, Nat.le_of_ble_eq_true rfl⟩, Nat.le_of_ble_eq_true rfl, Nat.le_of_ble_eq_true rfl⟩ (Nat.le_of_ble_eq_true rfl) dX4_wake_45 ?_
    refine g_aload_n C dX4_wake_48 rfl rfl ?_
    refine gfX4_10 C (by decide) hl2.chip dX4_wake_49 ?_
    refine gfX4_126 C hl2.c1.o dX4_wake_52 ?_
    exact g_iret C hr dX4_wake_55 ⟨by unfold xWake; (try first | rw [if_pos c23] | rw [if_neg c23] | rw [if_neg (show ¬ _ = true by rw [c23]; decide)]); try rfl, by unfold xWake; (try first | rw [if_pos c23] | rw [if_neg c23] | rw [if_neg (show ¬ _ = true by rw [c23]; decide)]); try rfl, by unfold xWake; (try first | rw [if_pos c23] | rw [if_neg c23] | rw [if_neg (show ¬ _ = true by rw [c23]; decide)]); try rfl⟩
  · skip
    refine g_bipush C (v := (-5)) dX4_wake_26 (by decide) ?_
    exact g_iret C hr dX4_wake_28 ⟨by unfold xWake; (try first | rw [if_pos c23] | rw [if_neg c23] | rw [if_neg (show ¬ _ = true by rw [c23]; decide)]); try rfl, by unfold xWake; (try first | rw [if_pos c23] | rw [if_neg c23] | rw [if_neg (show ¬ _ = true by rw [c23]; decide)]); try rfl, by unfold xWake; (try first | rw [if_pos c23] | rw [if_neg c23] | rw [if_neg (show ¬ _ = true by rw [c23]; decide)]); try rfl⟩

set_option maxRecDepth 100000 in
set_option maxHeartbeats 800000 in
theorem tX4_pass_no {l : Launch} {E : EE} {I : Mi} {F : Mr} (hl : LY F) (x : Int32) (hx : isW x 1 200 = false)  : CtF l E mX4_pass [rf E 0, .int x] NT I F NT (some (.int (-2))) I F := by
  refine CtF_of [some (rf E 0), some (.int x), none] (by decide) rfl (Nat.le_of_ble_eq_true rfl) rfl (fun p e s m args below meth c C hr hname => ?_)
  refine g_iload_n C dX4_pass_0 rfl rfl ?_
  refine g_iconst C (v := 1) dX4_pass_1 (by decide) ?_
  refine g_sipush C (v := 200) dX4_pass_2 (by decide) ?_
  refine kX4_57 C (by decide) (tX4_isWithin _ _ _) ⟨⟨Nat.le_of_ble_eq_true rfl, Nat.le_of_ble_eq_true rfl⟩, Nat.le_of_ble_eq_true rfl, Nat.le_of_ble_eq_true rfl⟩ (Nat.le_of_ble_eq_true rfl) dX4_pass_5 ?_
  refine g_ifne_b C (tgt := 14) dX4_pass_8 (by decide) (fun c8 => absurd c8 (by rw [hx]; decide)) (fun _ => ?_)
  refine g_bipush C (v := (-2)) dX4_pass_11 (by decide) ?_
  exact g_iret C hr dX4_pass_13 ⟨rfl, rfl, rfl⟩

set_option maxRecDepth 100000 in
set_option maxHeartbeats 800000 in
theorem tX4_leastCurrent_no {l : Launch} {E : EE} {I : Mi} {F : Mr} (hl : LY F) (x : Int32) (hx : isW x 0 200 = false)  : CtF l E mX4_leastCurrent [rf E 0, .int x] NT I F NT (some (.int (-2))) I F := by
  refine CtF_of [some (rf E 0), some (.int x), none] (by decide) rfl (Nat.le_of_ble_eq_true rfl) rfl (fun p e s m args below meth c C hr hname => ?_)
  refine g_iload_n C dX4_leastCurrent_0 rfl rfl ?_
  refine g_iconst C (v := 0) dX4_leastCurrent_1 (by decide) ?_
  refine g_sipush C (v := 200) dX4_leastCurrent_2 (by decide) ?_
  refine kX4_57 C (by decide) (tX4_isWithin _ _ _) ⟨⟨Nat.le_of_ble_eq_true rfl, Nat.le_of_ble_eq_true rfl⟩, Nat.le_of_ble_eq_true rfl, Nat.le_of_ble_eq_true rfl⟩ (Nat.le_of_ble_eq_true rfl) dX4_leastCurrent_5 ?_
  refine g_ifne_b C (tgt := 14) dX4_leastCurrent_8 (by decide) (fun c8 => absurd c8 (by rw [hx]; decide)) (fun _ => ?_)
  refine g_bipush C (v := (-2)) dX4_leastCurrent_11 (by decide) ?_
  exact g_iret C hr dX4_leastCurrent_13 ⟨rfl, rfl, rfl⟩

set_option maxRecDepth 100000 in
set_option maxHeartbeats 800000 in
theorem tX4_quiet_no {l : Launch} {E : EE} {I : Mi} {F : Mr} (hl : LY F) (x : Int32) (hx : isW x 1 50 = false)  : CtF l E mX4_quiet [rf E 0, .int x] NT I F NT (some (.int (-2))) I F := by
  refine CtF_of [some (rf E 0), some (.int x), none, none] (by decide) rfl (Nat.le_of_ble_eq_true rfl) rfl (fun p e s m args below meth c C hr hname => ?_)
  refine g_iload_n C dX4_quiet_0 rfl rfl ?_
  refine g_iconst C (v := 1) dX4_quiet_1 (by decide) ?_
  refine g_bipush C (v := 50) dX4_quiet_2 (by decide) ?_
  refine kX4_57 C (by decide) (tX4_isWithin _ _ _) ⟨⟨Nat.le_of_ble_eq_true rfl, Nat.le_of_ble_eq_true rfl⟩, Nat.le_of_ble_eq_true rfl, Nat.le_of_ble_eq_true rfl⟩ (Nat.le_of_ble_eq_true rfl) dX4_quiet_4 ?_
  refine g_ifne_b C (tgt := 13) dX4_quiet_7 (by decide) (fun c7 => absurd c7 (by rw [hx]; decide)) (fun _ => ?_)
  refine g_bipush C (v := (-2)) dX4_quiet_10 (by decide) ?_
  exact g_iret C hr dX4_quiet_12 ⟨rfl, rfl, rfl⟩

set_option maxRecDepth 100000 in
set_option maxHeartbeats 800000 in
theorem tX4_ifPassed_no {l : Launch} {E : EE} {I : Mi} {F : Mr} (hl : LY F) (x y : Int32) (hx : isW x 1 200 = false)  : CtF l E mX4_ifPassed [rf E 0, .int x, .int y] NT I F NT (some (.int (-2))) I F := by
  refine CtF_of [some (rf E 0), some (.int x), some (.int y)] (by decide) rfl (Nat.le_of_ble_eq_true rfl) rfl (fun p e s m args below meth c C hr hname => ?_)
  refine g_iload_n C dX4_ifPassed_0 rfl rfl ?_
  refine g_iconst C (v := 1) dX4_ifPassed_1 (by decide) ?_
  refine g_sipush C (v := 200) dX4_ifPassed_2 (by decide) ?_
  refine kX4_57 C (by decide) (tX4_isWithin _ _ _) ⟨⟨Nat.le_of_ble_eq_true rfl, Nat.le_of_ble_eq_true rfl⟩, Nat.le_of_ble_eq_true rfl, Nat.le_of_ble_eq_true rfl⟩ (Nat.le_of_ble_eq_true rfl) dX4_ifPassed_5 ?_
  refine g_ifeq_b C (tgt := 20) dX4_ifPassed_8 (by decide) (fun _ => ?_) (fun c8 => absurd c8 (by rw [hx]; decide))
  refine g_bipush C (v := (-2)) dX4_ifPassed_20 (by decide) ?_
  exact g_iret C hr dX4_ifPassed_22 ⟨rfl, rfl, rfl⟩

set_option maxRecDepth 100000 in
set_option maxHeartbeats 800000 in
theorem tX4_pass {l : Launch} {E : EE} {I : Mi} {F : Mr} (hl : LY F) {h : Nat → Nat} (hb : HB F h) {k : Nat} (hk6 : k ≤ 6) (hk : I 37 1 = nI k) {n : Nat} (hn : n < 2147483648) (hx : isW (nI n) 1 200 = true)  : CtF l E mX4_pass [rf E 0, .int (nI n)] NT I F NT (some (.int (xPass I F h k n).1)) ((xPass I F h k n).2.1) ((xPass I F h k n).2.2) := by
  refine CtF_of [some (rf E 0), some (.int (nI n)), none] (by decide) rfl (Nat.le_of_ble_eq_true rfl) rfl (fun p e s m args below meth c C hr hname => ?_)
  refine g_iload_n C dX4_pass_0 rfl rfl ?_
  refine g_iconst C (v := 1) dX4_pass_1 (by decide) ?_
  refine g_sipush C (v := 200) dX4_pass_2 (by decide) ?_
  refine kX4_57 C (by decide) (tX4_isWithin _ _ _) ⟨⟨Nat.le_of_ble_eq_true rfl, Nat.le_of_ble_eq_true rfl⟩, Nat.le_of_ble_eq_true rfl, Nat.le_of_ble_eq_true rfl⟩ (Nat.le_of_ble_eq_true rfl) dX4_pass_5 ?_
  refine g_ifne_b C (tgt := 14) dX4_pass_8 (by decide) (fun _ => ?_) (fun c8 => (bt_f hx c8).elim)
  refine g_aload_n C dX4_pass_14 rfl rfl ?_
  refine gfX4_36 C (by decide) hl.histR dX4_pass_15 ?_
  refine g_aload_n C dX4_pass_18 rfl rfl ?_
  refine gfX4_10 C (by decide) hl.chip dX4_pass_19 ?_
  refine kX4_61 C (by decide) (tX2_record hl hb hl.c1 (by decide) hk6 hk) ⟨⟨Nat.le_of_ble_eq_true rfl, Nat.le_of_ble_eq_true rfl⟩, Nat.le_of_ble_eq_true rfl, Nat.le_of_ble_eq_true rfl⟩ (Nat.le_of_ble_eq_true rfl) dX4_pass_22 ?_
  have hl2 := recF_LY (h := h) (k := k) hl
  refine g_aload_n C dX4_pass_25 rfl rfl ?_
  refine gfX4_10 C (by decide) hl2.chip dX4_pass_26 ?_
  refine kX4_129 C hl2.c1.o (tX0_noiseSoFar hl2.c1) ⟨⟨Nat.le_of_ble_eq_true rfl, Nat.le_of_ble_eq_true rfl⟩, Nat.le_of_ble_eq_true rfl, Nat.le_of_ble_eq_true rfl⟩ (Nat.le_of_ble_eq_true rfl) dX4_pass_29 ?_
  refine g_istore_n C dX4_pass_32 rfl (by decide) rfl ?_
  refine g_aload_n C dX4_pass_33 rfl rfl ?_
  refine gfX4_10 C (by decide) hl2.chip dX4_pass_34 ?_
  refine g_iload_n C dX4_pass_37 rfl rfl ?_
  refine kX4_133 C hl2.c1.o (tX0_letPass hl2.c1 (by decide) hn) ⟨⟨Nat.le_of_ble_eq_true rfl, Nat.le_of_ble_eq_true rfl⟩, Nat.le_of_ble_eq_true rfl, Nat.le_of_ble_eq_true rfl⟩ (Nat.le_of_ble_eq_true rfl) dX4_pass_38 ?_
  refine g_aload_n C dX4_pass_41 rfl rfl ?_
  refine gfX4_10 C (by decide) hl2.chip dX4_pass_42 ?_
  refine kX4_129 C hl2.c1.o (tX0_noiseSoFar hl2.c1) ⟨⟨Nat.le_of_ble_eq_true rfl, Nat.le_of_ble_eq_true rfl⟩, Nat.le_of_ble_eq_true rfl, Nat.le_of_ble_eq_true rfl⟩ (Nat.le_of_ble_eq_true rfl) dX4_pass_45 ?_
  refine g_iload_n C dX4_pass_48 rfl rfl ?_
  refine g_isub C dX4_pass_49 ?_
  exact g_iret C hr dX4_pass_50 ⟨by unfold xPass; skip; try rfl, by unfold xPass; skip; try rfl, by unfold xPass; skip; try rfl⟩

