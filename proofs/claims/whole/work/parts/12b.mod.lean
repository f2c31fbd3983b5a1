set_option maxRecDepth 100000 in
set_option maxHeartbeats 800000 in
theorem tX5_value_no {l : Launch} {E : EE} {I : Mi} {F : Mr} (hl : LY F) (x : Int32) (hx : isIM I x = false) (v : Int32)  : CtF l E mX5_value [rf E 127, .int x, .int v] NT I F NT (some (.int (-1))) I F := by
  refine CtF_of [some (rf E 127), some (.int x), some (.int v), none] (by decide) rfl (Nat.le_of_ble_eq_true rfl) rfl (fun p e s m args below meth c C hr hname => ?_)
  refine g_aload_n C dX5_value_0 rfl rfl ?_
  refine g_iload_n C dX5_value_1 rfl rfl ?_
  refine kX5_147 C (by decide) (tX5_isIsland hl _) ⟨⟨Nat.le_of_ble_eq_true rfl, Nat.le_of_ble_eq_true rfl⟩, Nat.le_of_ble_eq_true rfl, Nat.le_of_ble_eq_true rfl⟩ (Nat.le_of_ble_eq_true rfl) dX5_value_2 ?_
  refine g_ifne_b C (tgt := 10) dX5_value_5 (by decide) (fun c5 => (bt_f c5 hx).elim) (fun c5 => ?_)
  refine g_iconst C (v := (-1)) dX5_value_8 (by decide) ?_
  exact g_iret C hr dX5_value_9 ⟨rfl, rfl, rfl⟩

set_option maxRecDepth 100000 in
set_option maxHeartbeats 800000 in
theorem tX5_sleep_no {l : Launch} {E : EE} {I : Mi} {F : Mr} (hl : LY F) (x : Int32) (hx : isIM I x = false)  : CtF l E mX5_sleep [rf E 127, .int x] NT I F NT (some (.int (-1))) I F := by
  refine CtF_of [some (rf E 127), some (.int x)] (by decide) rfl (Nat.le_of_ble_eq_true rfl) rfl (fun p e s m args below meth c C hr hname => ?_)
  refine g_aload_n C dX5_sleep_0 rfl rfl ?_
  refine g_iload_n C dX5_sleep_1 rfl rfl ?_
  refine kX5_147 C (by decide) (tX5_isIsland hl _) ⟨⟨Nat.le_of_ble_eq_true rfl, Nat.le_of_ble_eq_true rfl⟩, Nat.le_of_ble_eq_true rfl, Nat.le_of_ble_eq_true rfl⟩ (Nat.le_of_ble_eq_true rfl) dX5_sleep_2 ?_
  refine g_ifne_b C (tgt := 10) dX5_sleep_5 (by decide) (fun c5 => (bt_f c5 hx).elim) (fun c5 => ?_)
  refine g_iconst C (v := (-1)) dX5_sleep_8 (by decide) ?_
  exact g_iret C hr dX5_sleep_9 ⟨rfl, rfl, rfl⟩

set_option maxRecDepth 100000 in
set_option maxHeartbeats 800000 in
theorem tX5_wake_no {l : Launch} {E : EE} {I : Mi} {F : Mr} (hl : LY F) (x : Int32) (hx : isIM I x = false)  : CtF l E mX5_wake [rf E 127, .int x] NT I F NT (some (.int (-1))) I F := by
  refine CtF_of [some (rf E 127), some (.int x)] (by decide) rfl (Nat.le_of_ble_eq_true rfl) rfl (fun p e s m args below meth c C hr hname => ?_)
  refine g_aload_n C dX5_wake_0 rfl rfl ?_
  refine g_iload_n C dX5_wake_1 rfl rfl ?_
  refine kX5_147 C (by decide) (tX5_isIsland hl _) ⟨⟨Nat.le_of_ble_eq_true rfl, Nat.le_of_ble_eq_true rfl⟩, Nat.le_of_ble_eq_true rfl, Nat.le_of_ble_eq_true rfl⟩ (Nat.le_of_ble_eq_true rfl) dX5_wake_2 ?_
  refine g_ifne_b C (tgt := 10) dX5_wake_5 (by decide) (fun c5 => (bt_f c5 hx).elim) (fun c5 => ?_)
  refine g_iconst C (v := (-1)) dX5_wake_8 (by decide) ?_
  exact g_iret C hr dX5_wake_9 ⟨rfl, rfl, rfl⟩

set_option maxRecDepth 100000 in
set_option maxHeartbeats 800000 in
theorem tX5_of_no {l : Launch} {E : EE} {I : Mi} {F : Mr} (hl : LY F) (x : Int32) (hx : isIM I x = false) (v : Int32)  : CtF l E mX5_of [rf E 127, .int x, .int v] NT I F NT (some (.int (-1))) I F := by
  refine CtF_of [some (rf E 127), some (.int x), some (.int v)] (by decide) rfl (Nat.le_of_ble_eq_true rfl) rfl (fun p e s m args below meth c C hr hname => ?_)
  refine g_aload_n C dX5_of_0 rfl rfl ?_
  refine g_iload_n C dX5_of_1 rfl rfl ?_
  refine kX5_147 C (by decide) (tX5_isIsland hl _) ⟨⟨Nat.le_of_ble_eq_true rfl, Nat.le_of_ble_eq_true rfl⟩, Nat.le_of_ble_eq_true rfl, Nat.le_of_ble_eq_true rfl⟩ (Nat.le_of_ble_eq_true rfl) dX5_of_2 ?_
  refine g_ifne_b C (tgt := 10) dX5_of_5 (by decide) (fun c5 => (bt_f c5 hx).elim) (fun c5 => ?_)
  refine g_iconst C (v := (-1)) dX5_of_8 (by decide) ?_
  exact g_iret C hr dX5_of_9 ⟨rfl, rfl, rfl⟩

set_option maxRecDepth 100000 in
set_option maxHeartbeats 800000 in
theorem tX5_link_no1 {l : Launch} {E : EE} {I : Mi} {F : Mr} (hl : LY F) (x : Int32) (hx : isIM I x = false) (y b : Int32)  : CtF l E mX5_link [rf E 127, .int x, .int y, .int b] NT I F NT (some (.int (-1))) I F := by
  refine CtF_of [some (rf E 127), some (.int x), some (.int y), some (.int b)] (by decide) rfl (Nat.le_of_ble_eq_true rfl) rfl (fun p e s m args below meth c C hr hname => ?_)
  refine g_aload_n C dX5_link_0 rfl rfl ?_
  refine g_iload_n C dX5_link_1 rfl rfl ?_
  refine kX5_147 C (by decide) (tX5_isIsland hl _) ⟨⟨Nat.le_of_ble_eq_true rfl, Nat.le_of_ble_eq_true rfl⟩, Nat.le_of_ble_eq_true rfl, Nat.le_of_ble_eq_true rfl⟩ (Nat.le_of_ble_eq_true rfl) dX5_link_2 ?_
  refine g_ifeq_b C (tgt := 16) dX5_link_5 (by decide) (fun c5 => ?_) (fun c5 => (bt_f c5 hx).elim)
  refine g_iconst C (v := (-1)) dX5_link_16 (by decide) ?_
  exact g_iret C hr dX5_link_17 ⟨rfl, rfl, rfl⟩

set_option maxRecDepth 100000 in
set_option maxHeartbeats 800000 in
theorem tX5_link_no2 {l : Launch} {E : EE} {I : Mi} {F : Mr} (hl : LY F) {i : Nat} (hi : i < 8) (hx : isIM I (nI i) = true) (y b : Int32) (hy : isIM I y = false)  : CtF l E mX5_link [rf E 127, .int (nI i), .int y, .int b] NT I F NT (some (.int (-1))) I F := by
  refine CtF_of [some (rf E 127), some (.int (nI i)), some (.int y), some (.int b)] (by decide) rfl (Nat.le_of_ble_eq_true rfl) rfl (fun p e s m args below meth c C hr hname => ?_)
  refine g_aload_n C dX5_link_0 rfl rfl ?_
  refine g_iload_n C dX5_link_1 rfl rfl ?_
  refine kX5_147 C (by decide) (tX5_isIsland hl _) ⟨⟨Nat.le_of_ble_eq_true rfl, Nat.le_of_ble_eq_true rfl⟩, Nat.le_of_ble_eq_true rfl, Nat.le_of_ble_eq_true rfl⟩ (Nat.le_of_ble_eq_true rfl) dX5_link_2 ?_
  refine g_ifeq_b C (tgt := 16) dX5_link_5 (by decide) (fun c5 => (bt_f hx c5).elim) (fun _ => ?_)
  refine g_aload_n C dX5_link_8 rfl rfl ?_
  refine g_iload_n C dX5_link_9 rfl rfl ?_
  refine kX5_147 C (by decide) (tX5_isIsland hl _) ⟨⟨Nat.le_of_ble_eq_true rfl, Nat.le_of_ble_eq_true rfl⟩, Nat.le_of_ble_eq_true rfl, Nat.le_of_ble_eq_true rfl⟩ (Nat.le_of_ble_eq_true rfl) dX5_link_10 ?_
  refine g_ifne_b C (tgt := 18) dX5_link_13 (by decide) (fun c13 => (bt_f c13 hy).elim) (fun c13 => ?_)
  refine g_iconst C (v := (-1)) dX5_link_16 (by decide) ?_
  exact g_iret C hr dX5_link_17 ⟨rfl, rfl, rfl⟩

set_option maxRecDepth 100000 in
set_option maxHeartbeats 800000 in
theorem tX5_link {l : Launch} {E : EE} {I : Mi} {F : Mr} (hl : LY F) {k : Nat} (hk6 : k ≤ 6) (hk : I 127 3 = nI k) {i : Nat} (hi : i < 8) (hx : isIM I (nI i) = true) {j : Nat} (hj : j < 8) (hy : isIM I (nI j) = true) (b : Int32)  : CtF l E mX5_link [rf E 127, .int (nI i), .int (nI j), .int b] NT I F NT (some (.int (yLink I k i j b).1)) ((yLink I k i j b).2) F := by
  refine CtF_of [some (rf E 127), some (.int (nI i)), some (.int (nI j)), some (.int b)] (by decide) rfl (Nat.le_of_ble_eq_true rfl) rfl (fun p e s m args below meth c C hr hname => ?_)
  refine g_aload_n C dX5_link_0 rfl rfl ?_
  refine g_iload_n C dX5_link_1 rfl rfl ?_
  refine kX5_147 C (by decide) (tX5_isIsland hl _) ⟨⟨Nat.le_of_ble_eq_true rfl, Nat.le_of_ble_eq_true rfl⟩, Nat.le_of_ble_eq_true rfl, Nat.le_of_ble_eq_true rfl⟩ (Nat.le_of_ble_eq_true rfl) dX5_link_2 ?_
  refine g_ifeq_b C (tgt := 16) dX5_link_5 (by decide) (fun c5 => (bt_f hx c5).elim) (fun _ => ?_)
  refine g_aload_n C dX5_link_8 rfl rfl ?_
  refine g_iload_n C dX5_link_9 rfl rfl ?_
  refine kX5_147 C (by decide) (tX5_isIsland hl _) ⟨⟨Nat.le_of_ble_eq_true rfl, Nat.le_of_ble_eq_true rfl⟩, Nat.le_of_ble_eq_true rfl, Nat.le_of_ble_eq_true rfl⟩ (Nat.le_of_ble_eq_true rfl) dX5_link_10 ?_
  refine g_ifne_b C (tgt := 18) dX5_link_13 (by decide) (fun _ => ?_) (fun c13 => (bt_f hy c13).elim)
  refine g_iload_n C dX5_link_18 rfl rfl ?_
  refine g_iload_n C dX5_link_19 rfl rfl ?_
  refine g_icmp_ne C (tgt := 26) dX5_link_20 (by decide) (fun c20 => ?_) (fun c20 => ?_)
  · skip
    refine g_aload_n C dX5_link_26 rfl rfl ?_
    refine g_iload_n C dX5_link_27 rfl rfl ?_
    refine g_iload_n C dX5_link_28 rfl rfl ?_
    refine kX5_58 C (by decide) (tX5_reads hl (i := i) hi _) ⟨⟨Nat.le_of_ble_eq_true rfl, Nat.le_of_ble_eq_true rfl⟩, Nat.le_of_ble_eq_true rfl, Nat.le_of_ble_eq_true rfl⟩ (Nat.le_of_ble_eq_true rfl) dX5_link_29 ?_
    refine g_iload_n C dX5_link_32 rfl rfl ?_
    refine g_icmp_ne C (tgt := 39) dX5_link_33 (by decide) (fun c33 => ?_) (fun c33 => ?_)
    · skip
      refine g_aload_n C dX5_link_39 rfl rfl ?_
      refine kX5_107 C (by decide) (tX5_record hl hk6 hk) ⟨⟨Nat.le_of_ble_eq_true rfl, Nat.le_of_ble_eq_true rfl⟩, Nat.le_of_ble_eq_true rfl, Nat.le_of_ble_eq_true rfl⟩ (Nat.le_of_ble_eq_true rfl) dX5_link_40 ?_
      refine g_aload_n C dX5_link_43 rfl rfl ?_
      refine g_iload_n C dX5_link_44 rfl rfl ?_
      refine g_bipush C (v := 6) dX5_link_45 (by decide) ?_
      refine g_aload_n C dX5_link_47 rfl rfl ?_
      refine g_iload_n C dX5_link_48 rfl rfl ?_
      refine g_bipush C (v := 6) dX5_link_49 (by decide) ?_
      refine kX5_46 C (by decide) (tX5_part hl (i := i) hi (q := 6) (by decide) rfl) ⟨⟨Nat.le_of_ble_eq_true rfl, Nat.le_of_ble_eq_true rfl⟩, Nat.le_of_ble_eq_true rfl, Nat.le_of_ble_eq_true rfl⟩ (Nat.le_of_ble_eq_true rfl) dX5_link_51 ?_
      refine g_iconst C (v := 1) dX5_link_54 (by decide) ?_
      refine g_iload_n C dX5_link_55 rfl rfl ?_
      refine g_ishl C dX5_link_56 ?_
      refine g_ixor C dX5_link_57 ?_
      refine kX5_68 C (by decide) (tX5_setPart hl (i := i) hi (q := 6) (by decide) rfl _) ⟨⟨Nat.le_of_ble_eq_true rfl, Nat.le_of_ble_eq_true rfl⟩, Nat.le_of_ble_eq_true rfl, Nat.le_of_ble_eq_true rfl⟩ (Nat.le_of_ble_eq_true rfl) dX5_link_58 ?_
      refine g_aload_n C dX5_link_61 rfl rfl ?_
      refine g_iload_n C dX5_link_62 rfl rfl ?_
      refine g_bipush C (v := 6) dX5_link_63 (by decide) ?_
      refine kX5_46 C (by decide) (tX5_part hl (i := i) hi (q := 6) (by decide) rfl) ⟨⟨Nat.le_of_ble_eq_true rfl, Nat.le_of_ble_eq_true rfl⟩, Nat.le_of_ble_eq_true rfl, Nat.le_of_ble_eq_true rfl⟩ (Nat.le_of_ble_eq_true rfl) dX5_link_65 ?_
      exact g_iret C hr dX5_link_68 ⟨by unfold yLink; (try first | rw [if_pos c20] | rw [if_neg c20] | rw [if_neg (show ¬ _ = true by rw [c20]; decide)]); (try first | rw [if_pos c33] | rw [if_neg c33] | rw [if_neg (show ¬ _ = true by rw [c33]; decide)]); try rfl, by unfold yLink; (try first | rw [if_pos c20] | rw [if_neg c20] | rw [if_neg (show ¬ _ = true by rw [c20]; decide)]); (try first | rw [if_pos c33] | rw [if_neg c33] | rw [if_neg (show ¬ _ = true by rw [c33]; decide)]); try rfl, rfl⟩
    · skip
      refine g_bipush C (v := (-5)) dX5_link_36 (by decide) ?_
      exact g_iret C hr dX5_link_38 ⟨by unfold yLink; (try first | rw [if_pos c20] | rw [if_neg c20] | rw [if_neg (show ¬ _ = true by rw [c20]; decide)]); (try first | rw [if_pos c33] | rw [if_neg c33] | rw [if_neg (show ¬ _ = true by rw [c33]; decide)]); try rfl, by unfold yLink; (try first | rw [if_pos c20] | rw [if_neg c20] | rw [if_neg (show ¬ _ = true by rw [c20]; decide)]); (try first | rw [if_pos c33] | rw [if_neg c33] | rw [if_neg (show ¬ _ = true by rw [c33]; decide)]); try rfl, rfl⟩
  · skip
    refine g_bipush C (v := (-2)) dX5_link_23 (by decide) ?_
    exact g_iret C hr dX5_link_25 ⟨by unfold yLink; (try first | rw [if_pos c20] | rw [if_neg c20] | rw [if_neg (show ¬ _ = true by rw [c20]; decide)]); try rfl, by unfold yLink; (try first | rw [if_pos c20] | rw [if_neg c20] | rw [if_neg (show ¬ _ = true by rw [c20]; decide)]); try rfl, rfl⟩

set_option maxRecDepth 100000 in
set_option maxHeartbeats 800000 in
theorem tX5_value {l : Launch} {E : EE} {I : Mi} {F : Mr} (hl : LY F) {k : Nat} (hk6 : k ≤ 6) (hk : I 127 3 = nI k) {i : Nat} (hi : i < 8) (hx : isIM I (nI i) = true) (v : Int32)  : CtF l E mX5_value [rf E 127, .int (nI i), .int v] NT I F NT (some (.int (yValue I k i v).1)) ((yValue I k i v).2) F := by
  refine CtF_of [some (rf E 127), some (.int (nI i)), some (.int v), none] (by decide) rfl (Nat.le_of_ble_eq_true rfl) rfl (fun p e s m args below meth c C hr hname => ?_)
  refine g_aload_n C dX5_value_0 rfl rfl ?_
  refine g_iload_n C dX5_value_1 rfl rfl ?_
  refine kX5_147 C (by decide) (tX5_isIsland hl _) ⟨⟨Nat.le_of_ble_eq_true rfl, Nat.le_of_ble_eq_true rfl⟩, Nat.le_of_ble_eq_true rfl, Nat.le_of_ble_eq_true rfl⟩ (Nat.le_of_ble_eq_true rfl) dX5_value_2 ?_
  refine g_ifne_b C (tgt := 10) dX5_value_5 (by decide) (fun _ => ?_) (fun c5 => (bt_f hx c5).elim)
  refine g_iload_n C dX5_value_10 rfl rfl ?_
  refine g_iconst C (v := 0) dX5_value_11 (by decide) ?_
  refine g_sipush C (v := 255) dX5_value_12 (by decide) ?_
  refine kX5_42 C (by decide) (tX5_within _ _ _) ⟨⟨Nat.le_of_ble_eq_true rfl, Nat.le_of_ble_eq_true rfl⟩, Nat.le_of_ble_eq_true rfl, Nat.le_of_ble_eq_true rfl⟩ (Nat.le_of_ble_eq_true rfl) dX5_value_15 ?_
  refine g_ifne_b C (tgt := 24) dX5_value_18 (by decide) (fun c18 => ?_) (fun c18 => ?_)
  · skip
    refine g_aload_n C dX5_value_24 rfl rfl ?_
    refine g_iload_n C dX5_value_25 rfl rfl ?_
    refine g_iconst C (v := 0) dX5_value_26 (by decide) ?_
    refine kX5_50 C (by decide) (tX5_is hl (i := i) hi _) ⟨⟨Nat.le_of_ble_eq_true rfl, Nat.le_of_ble_eq_true rfl⟩, Nat.le_of_ble_eq_true rfl, Nat.le_of_ble_eq_true rfl⟩ (Nat.le_of_ble_eq_true rfl) dX5_value_27 ?_
    refine g_ifne_b C (tgt := 36) dX5_value_30 (by decide) (fun c30 => ?_) (fun c30 => ?_)
    · skip
      refine g_aload_n C dX5_value_36 rfl rfl ?_
      refine kX5_107 C (by decide) (tX5_record hl hk6 hk) ⟨⟨Nat.le_of_ble_eq_true rfl, Nat.le_of_ble_eq_true rfl⟩, Nat.le_of_ble_eq_true rfl, Nat.le_of_ble_eq_true rfl⟩ (Nat.le_of_ble_eq_true rfl) dX5_value_37 ?_
      refine g_aload_n C dX5_value_40 rfl rfl ?_
      refine g_iload_n C dX5_value_41 rfl rfl ?_
      refine g_iconst C (v := 4) dX5_value_42 (by decide) ?_
      refine kX5_46 C (by decide) (tX5_part hl (i := i) hi (q := 4) (by decide) rfl) ⟨⟨Nat.le_of_ble_eq_true rfl, Nat.le_of_ble_eq_true rfl⟩, Nat.le_of_ble_eq_true rfl, Nat.le_of_ble_eq_true rfl⟩ (Nat.le_of_ble_eq_true rfl) dX5_value_43 ?_
      refine g_istore_n C dX5_value_46 rfl (by decide) rfl ?_
      refine g_aload_n C dX5_value_47 rfl rfl ?_
      refine g_iload_n C dX5_value_48 rfl rfl ?_
      refine g_iconst C (v := 4) dX5_value_49 (by decide) ?_
      refine g_iload_n C dX5_value_50 rfl rfl ?_
      refine kX5_68 C (by decide) (tX5_setPart hl (i := i) hi (q := 4) (by decide) rfl _) ⟨⟨Nat.le_of_ble_eq_true rfl, Nat.le_of_ble_eq_true rfl⟩, Nat.le_of_ble_eq_true rfl, Nat.le_of_ble_eq_true rfl⟩ (Nat.le_of_ble_eq_true rfl) dX5_value_51 ?_
      refine g_iload_n C dX5_value_54 rfl rfl ?_
      exact g_iret C hr dX5_value_55 ⟨by unfold yValue; (try first | rw [if_pos c18] | rw [if_neg c18] | rw [if_neg (show ¬ _ = true by rw [c18]; decide)]); (try first | rw [if_pos c30] | rw [if_neg c30] | rw [if_neg (show ¬ _ = true by rw [c30]; decide)]); try rfl, by unfold yValue; (try first | rw [if_pos c18] | rw [if_neg c18] | rw [if_neg (show ¬ _ = true by rw [c18]; decide)]); (try first | rw [if_pos c30] | rw [if_neg c30] | rw [if_neg (show ¬ _ = true by rw [c30]; decide)]); try rfl, rfl⟩
    · skip
      refine g_bipush C (v := (-5)) dX5_value_33 (by decide) ?_
      exact g_iret C hr dX5_value_35 ⟨by unfold yValue; (try first | rw [if_pos c18] | rw [if_neg c18] | rw [if_neg (show ¬ _ = true by rw [c18]; decide)]); (try first | rw [if_pos c30] | rw [if_neg c30] | rw [if_neg (show ¬ _ = true by rw [c30]; decide)]); try rfl, by unfold yValue; (try first | rw [if_pos c18] | rw [if_neg c18] | rw [if_neg (show ¬ _ = true by rw [c18]; decide)]); (try first | rw [if_pos c30] | rw [if_neg c30] | rw [if_neg (show ¬ _ = true by rw [c30]; decide)]); try rfl, rfl⟩
  · skip
    refine g_bipush C (v := (-2)) dX5_value_21 (by decide) ?_
    exact g_iret C hr dX5_value_23 ⟨by unfold yValue; (try first | rw [if_pos c18] | rw [if_neg c18] | rw [if_neg (show ¬ _ = true by rw [c18]; decide)]); try rfl, by unfold yValue; (try first | rw [if_pos c18] | rw [if_neg c18] | rw [if_neg (show ¬ _ = true by rw [c18]; decide)]); try rfl, rfl⟩

set_option maxRecDepth 100000 in
set_option maxHeartbeats 800000 in
theorem tX5_sleep {l : Launch} {E : EE} {I : Mi} {F : Mr} (hl : LY F) {k : Nat} (hk6 : k ≤ 6) (hk : I 127 3 = nI k) {n : Nat} (hn8 : n ≤ 8) (hn : I 128 2 = nI n) {i : Nat} (hi : i < 8) (hx : isIM I (nI i) = true)  : CtF l E mX5_sleep [rf E 127, .int (nI i)] NT I F NT (some (.int (ySleep I k n i).1)) ((ySleep I k n i).2) F := by
  have hn2 : sp (recM I k) i 7 1 128 2 = nI n := by rw [sp_lo (by decide), recM_128]; exact hn
  refine CtF_of [some (rf E 127), some (.int (nI i))] (by decide) rfl (Nat.le_of_ble_eq_true rfl) rfl (fun p e s m args below meth c C hr hname => ?_)
  refine g_aload_n C dX5_sleep_0 rfl rfl ?_
  refine g_iload_n C dX5_sleep_1 rfl rfl ?_
  refine kX5_147 C (by decide) (tX5_isIsland hl _) ⟨⟨Nat.le_of_ble_eq_true rfl, Nat.le_of_ble_eq_true rfl⟩, Nat.le_of_ble_eq_true rfl, Nat.le_of_ble_eq_true rfl⟩ (Nat.le_of_ble_eq_true rfl) dX5_sleep_2 ?_
  refine g_ifne_b C (tgt := 10) dX5_sleep_5 (by decide) (fun _ => ?_) (fun c5 => (bt_f hx c5).elim)
  refine g_aload_n C dX5_sleep_10 rfl rfl ?_
  refine g_iload_n C dX5_sleep_11 rfl rfl ?_
  refine g_iconst C (v := 0) dX5_sleep_12 (by decide) ?_
  refine kX5_50 C (by decide) (tX5_is hl (i := i) hi _) ⟨⟨Nat.le_of_ble_eq_true rfl, Nat.le_of_ble_eq_true rfl⟩, Nat.le_of_ble_eq_true rfl, Nat.le_of_ble_eq_true rfl⟩ (Nat.le_of_ble_eq_true rfl) dX5_sleep_13 ?_
  refine g_ifne_b C (tgt := 22) dX5_sleep_16 (by decide) (fun c16 => ?_) (fun c16 => ?_)
  · skip
    refine g_aload_n C dX5_sleep_22 rfl rfl ?_
    refine kX5_107 C (by decide) (tX5_record hl hk6 hk) ⟨⟨Nat.le_of_ble_eq_true rfl, Nat.le_of_ble_eq_true rfl⟩, Nat.le_of_ble_eq_true rfl, Nat.le_of_ble_eq_true rfl⟩ (Nat.le_of_ble_eq_true rfl) dX5_sleep_23 ?_
    refine g_aload_n C dX5_sleep_26 rfl rfl ?_
    refine g_iload_n C dX5_sleep_27 rfl rfl ?_
    refine g_bipush C (v := 7) dX5_sleep_28 (by decide) ?_
    refine g_iconst C (v := 1) dX5_sleep_30 (by decide) ?_
    refine kX5_68 C (by decide) (tX5_setPart hl (i := i) hi (q := 7) (by decide) rfl _) ⟨⟨Nat.le_of_ble_eq_true rfl, Nat.le_of_ble_eq_true rfl⟩, Nat.le_of_ble_eq_true rfl, Nat.le_of_ble_eq_true rfl⟩ (Nat.le_of_ble_eq_true rfl) dX5_sleep_31 ?_
    refine g_aload_n C dX5_sleep_34 rfl rfl ?_
    refine g_iload_n C dX5_sleep_35 rfl rfl ?_
    refine kX5_75 C (by decide) (tX5_awakeReaders hl hn8 hn2 _) ⟨⟨Nat.le_of_ble_eq_true rfl, Nat.le_of_ble_eq_true rfl⟩, Nat.le_of_ble_eq_true rfl, Nat.le_of_ble_eq_true rfl⟩ (Nat.le_of_ble_eq_true rfl) dX5_sleep_36 ?_
    refine kX5_150 C (by decide) (tX5_bits _) ⟨⟨Nat.le_of_ble_eq_true rfl, Nat.le_of_ble_eq_true rfl⟩, Nat.le_of_ble_eq_true rfl, Nat.le_of_ble_eq_true rfl⟩ (Nat.le_of_ble_eq_true rfl) dX5_sleep_39 ?_
    exact g_iret C hr dX5_sleep_42 ⟨by unfold ySleep; (try first | rw [if_pos c16] | rw [if_neg c16] | rw [if_neg (show ¬ _ = true by rw [c16]; decide)]); try rfl, by unfold ySleep; (try first | rw [if_pos c16] | rw [if_neg c16] | rw [if_neg (show ¬ _ = true by rw [c16]; decide)]); try rfl, rfl⟩
  · skip
    refine g_bipush C (v := (-5)) dX5_sleep_19 (by decide) ?_
    exact g_iret C hr dX5_sleep_21 ⟨by unfold ySleep; (try first | rw [if_pos c16] | rw [if_neg c16] | rw [if_neg (show ¬ _ = true by rw [c16]; decide)]); try rfl, by unfold ySleep; (try first | rw [if_pos c16] | rw [if_neg c16] | rw [if_neg (show ¬ _ = true by rw [c16]; decide)]); try rfl, rfl⟩

set_option maxRecDepth 100000 in
set_option maxHeartbeats 800000 in
theorem tX5_wake {l : Launch} {E : EE} {I : Mi} {F : Mr} (hl : LY F) {k : Nat} (hk6 : k ≤ 6) (hk : I 127 3 = nI k) {w : Nat} (hw8 : w ≤ 8) (hw : I 128 7 = nI w) {i : Nat} (hi : i < 8) (hx : isIM I (nI i) = true)  : CtF l E mX5_wake [rf E 127, .int (nI i)] NT I F NT (some (.int (yWake I k w i).1)) ((yWake I k w i).2) F := by
  refine CtF_of [some (rf E 127), some (.int (nI i))] (by decide) rfl (Nat.le_of_ble_eq_true rfl) rfl (fun p e s m args below meth c C hr hname => ?_)
  refine g_aload_n C dX5_wake_0 rfl rfl ?_
  refine g_iload_n C dX5_wake_1 rfl rfl ?_
  refine kX5_147 C (by decide) (tX5_isIsland hl _) ⟨⟨Nat.le_of_ble_eq_true rfl, Nat.le_of_ble_eq_true rfl⟩, Nat.le_of_ble_eq_true rfl, Nat.le_of_ble_eq_true rfl⟩ (Nat.le_of_ble_eq_true rfl) dX5_wake_2 ?_
  refine g_ifne_b C (tgt := 10) dX5_wake_5 (by decide) (fun _ => ?_) (fun c5 => (bt_f hx c5).elim)
  refine g_aload_n C dX5_wake_10 rfl rfl ?_
  refine g_iload_n C dX5_wake_11 rfl rfl ?_
  refine g_iconst C (v := 2) dX5_wake_12 (by decide) ?_
  refine kX5_50 C (by decide) (tX5_is hl (i := i) hi _) ⟨⟨Nat.le_of_ble_eq_true rfl, Nat.le_of_ble_eq_true rfl⟩, Nat.le_of_ble_eq_true rfl, Nat.le_of_ble_eq_true rfl⟩ (Nat.le_of_ble_eq_true rfl) dX5_wake_13 ?_
  refine g_ifne_b C (tgt := 22) dX5_wake_16 (by decide) (fun c16 => ?_) (fun c16 => ?_)
  · skip
    refine g_aload_n C dX5_wake_22 rfl rfl ?_
    refine kX5_107 C (by decide) (tX5_record hl hk6 hk) ⟨⟨Nat.le_of_ble_eq_true rfl, Nat.le_of_ble_eq_true rfl⟩, Nat.le_of_ble_eq_true rfl, Nat.le_of_ble_eq_true rfl⟩ (Nat.le_of_ble_eq_true rfl) dX5_wake_23 ?_
    refine g_aload_n C dX5_wake_26 rfl rfl ?_
    refine g_iload_n C dX5_wake_27 rfl rfl ?_
    refine kX5_78 C (by decide) (tX5_waitsNow hl (i := i) hi (w := w) (by omega) (by rw [recM_128]; exact hw)) ⟨⟨Nat.le_of_ble_eq_true rfl, Nat.le_of_ble_eq_true rfl⟩, Nat.le_of_ble_eq_true rfl, Nat.le_of_ble_eq_true rfl⟩ (Nat.le_of_ble_eq_true rfl) dX5_wake_28 ?_
    refine g_aload_n C dX5_wake_31 rfl rfl ?_
    refine gfX5_7 C (by decide) hl.mstate dX5_wake_32 ?_
    refine g_bipush C (v := 7) dX5_wake_35 (by decide) ?_
    refine g_iald_j C (show ar NT 128 7 96 by decide) 7 rfl (by decide) (by decide) dX5_wake_37 ?_
    exact g_iret C hr dX5_wake_38 ⟨by unfold yWake; (try first | rw [if_pos c16] | rw [if_neg c16] | rw [if_neg (show ¬ _ = true by rw [c16]; decide)]); try rfl, by unfold yWake; (try first | rw [if_pos c16] | rw [if_neg c16] | rw [if_neg (show ¬ _ = true by rw [c16]; decide)]); try rfl, rfl⟩
  · skip
    refine g_bipush C (v := (-5)) dX5_wake_19 (by decide) ?_
    exact g_iret C hr dX5_wake_21 ⟨by unfold yWake; (try first | rw [if_pos c16] | rw [if_neg c16] | rw [if_neg (show ¬ _ = true by rw [c16]; decide)]); try rfl, by unfold yWake; (try first | rw [if_pos c16] | rw [if_neg c16] | rw [if_neg (show ¬ _ = true by rw [c16]; decide)]); try rfl, rfl⟩

set_option maxRecDepth 100000 in
set_option maxHeartbeats 800000 in
theorem tX5_of {l : Launch} {E : EE} {I : Mi} {F : Mr} (hl : LY F) {n : Nat} (hn8 : n ≤ 8) (hn : I 128 2 = nI n) {w : Nat} (hw8 : w ≤ 8) (hw : I 128 7 = nI w) {i : Nat} (hi : i < 8) (hx : isIM I (nI i) = true) (v : Int32)  : CtF l E mX5_of [rf E 127, .int (nI i), .int v] NT I F NT (some (.int (yOf I n w i v))) I F := by
  refine CtF_of [some (rf E 127), some (.int (nI i)), some (.int v)] (by decide) rfl (Nat.le_of_ble_eq_true rfl) rfl (fun p e s m args below meth c C hr hname => ?_)
  refine g_aload_n C dX5_of_0 rfl rfl ?_
  refine g_iload_n C dX5_of_1 rfl rfl ?_
  refine kX5_147 C (by decide) (tX5_isIsland hl _) ⟨⟨Nat.le_of_ble_eq_true rfl, Nat.le_of_ble_eq_true rfl⟩, Nat.le_of_ble_eq_true rfl, Nat.le_of_ble_eq_true rfl⟩ (Nat.le_of_ble_eq_true rfl) dX5_of_2 ?_
  refine g_ifne_b C (tgt := 10) dX5_of_5 (by decide) (fun _ => ?_) (fun c5 => (bt_f hx c5).elim)
  refine g_iload_n C dX5_of_10 rfl rfl ?_
  by_cases csw : v.toInt < 0 ∨ 12 < v.toInt
  · refine g_tableOut C (tgt := 181) dX5_of_11 csw (by decide) ?_
    have hsw := fun {α : Type} (f : Nat → α) (d9 : α) => swf_out (f := f) (d := d9) csw
    refine g_bipush C (v := (-2)) dX5_of_181 (by decide) ?_
    exact g_iret C hr dX5_of_183 ⟨by unfold yOf; rw [hsw]; skip; try rfl, rfl, rfl⟩
  · obtain ⟨csw1, csw2⟩ := not_or.mp csw
    have csw3 : v = 0 ∨ v = 1 ∨ v = 2 ∨ v = 3 ∨ v = 4 ∨ v = 5 ∨ v = 6 ∨ v = 7 ∨ v = 8 ∨ v = 9 ∨ v = 10 ∨ v = 11 ∨ v = 12 := sw_cases13 csw1 csw2
    rcases csw3 with c_0 | c_1 | c_2 | c_3 | c_4 | c_5 | c_6 | c_7 | c_8 | c_9 | c_10 | c_11 | c_12
    · refine g_tableIn C (off := 65) (tgt := 76) dX5_of_11 csw1 csw2 (by rw [c_0]; rfl) (by decide) ?_
      have hsw := fun {α : Type} (f : Nat → α) (d9 : α) => swf_at (n := 12) (f := f) (d := d9) (z := 0) c_0 (by decide) (by decide)
      refine g_aload_n C dX5_of_76 rfl rfl ?_
      refine g_iload_n C dX5_of_77 rfl rfl ?_
      refine g_bipush C (v := 7) dX5_of_78 (by decide) ?_
      refine kX5_46 C (by decide) (tX5_part hl (i := i) hi (q := 7) (by decide) rfl) ⟨⟨Nat.le_of_ble_eq_true rfl, Nat.le_of_ble_eq_true rfl⟩, Nat.le_of_ble_eq_true rfl, Nat.le_of_ble_eq_true rfl⟩ (Nat.le_of_ble_eq_true rfl) dX5_of_80 ?_
      exact g_iret C hr dX5_of_83 ⟨by unfold yOf; rw [hsw]; skip; try rfl, rfl, rfl⟩
    · refine g_tableIn C (off := 73) (tgt := 84) dX5_of_11 csw1 csw2 (by rw [c_1]; rfl) (by decide) ?_
      have hsw := fun {α : Type} (f : Nat → α) (d9 : α) => swf_at (n := 12) (f := f) (d := d9) (z := 1) c_1 (by decide) (by decide)
      refine g_aload_n C dX5_of_84 rfl rfl ?_
      refine g_iload_n C dX5_of_85 rfl rfl ?_
      refine g_iconst C (v := 4) dX5_of_86 (by decide) ?_
      refine kX5_46 C (by decide) (tX5_part hl (i := i) hi (q := 4) (by decide) rfl) ⟨⟨Nat.le_of_ble_eq_true rfl, Nat.le_of_ble_eq_true rfl⟩, Nat.le_of_ble_eq_true rfl, Nat.le_of_ble_eq_true rfl⟩ (Nat.le_of_ble_eq_true rfl) dX5_of_87 ?_
      exact g_iret C hr dX5_of_90 ⟨by unfold yOf; rw [hsw]; skip; try rfl, rfl, rfl⟩
    · refine g_tableIn C (off := 80) (tgt := 91) dX5_of_11 csw1 csw2 (by rw [c_2]; rfl) (by decide) ?_
      have hsw := fun {α : Type} (f : Nat → α) (d9 : α) => swf_at (n := 12) (f := f) (d := d9) (z := 2) c_2 (by decide) (by decide)
      refine g_aload_n C dX5_of_91 rfl rfl ?_
      refine g_iload_n C dX5_of_92 rfl rfl ?_
      refine g_iconst C (v := 5) dX5_of_93 (by decide) ?_
      refine kX5_46 C (by decide) (tX5_part hl (i := i) hi (q := 5) (by decide) rfl) ⟨⟨Nat.le_of_ble_eq_true rfl, Nat.le_of_ble_eq_true rfl⟩, Nat.le_of_ble_eq_true rfl, Nat.le_of_ble_eq_true rfl⟩ (Nat.le_of_ble_eq_true rfl) dX5_of_94 ?_
      exact g_iret C hr dX5_of_97 ⟨by unfold yOf; rw [hsw]; skip; try rfl, rfl, rfl⟩
    · refine g_tableIn C (off := 87) (tgt := 98) dX5_of_11 csw1 csw2 (by rw [c_3]; rfl) (by decide) ?_
      have hsw := fun {α : Type} (f : Nat → α) (d9 : α) => swf_at (n := 12) (f := f) (d := d9) (z := 3) c_3 (by decide) (by decide)
      refine g_aload_n C dX5_of_98 rfl rfl ?_
      refine g_iload_n C dX5_of_99 rfl rfl ?_
      refine g_iconst C (v := 0) dX5_of_100 (by decide) ?_
      refine kX5_46 C (by decide) (tX5_part hl (i := i) hi (q := 0) (by decide) rfl) ⟨⟨Nat.le_of_ble_eq_true rfl, Nat.le_of_ble_eq_true rfl⟩, Nat.le_of_ble_eq_true rfl, Nat.le_of_ble_eq_true rfl⟩ (Nat.le_of_ble_eq_true rfl) dX5_of_101 ?_
      exact g_iret C hr dX5_of_104 ⟨by unfold yOf; rw [hsw]; skip; try rfl, rfl, rfl⟩
    · refine g_tableIn C (off := 94) (tgt := 105) dX5_of_11 csw1 csw2 (by rw [c_4]; rfl) (by decide) ?_
      have hsw := fun {α : Type} (f : Nat → α) (d9 : α) => swf_at (n := 12) (f := f) (d := d9) (z := 4) c_4 (by decide) (by decide)
      refine g_aload_n C dX5_of_105 rfl rfl ?_
      refine g_iload_n C dX5_of_106 rfl rfl ?_
      refine g_iconst C (v := 1) dX5_of_107 (by decide) ?_
      refine kX5_46 C (by decide) (tX5_part hl (i := i) hi (q := 1) (by decide) rfl) ⟨⟨Nat.le_of_ble_eq_true rfl, Nat.le_of_ble_eq_true rfl⟩, Nat.le_of_ble_eq_true rfl, Nat.le_of_ble_eq_true rfl⟩ (Nat.le_of_ble_eq_true rfl) dX5_of_108 ?_
      exact g_iret C hr dX5_of_111 ⟨by unfold yOf; rw [hsw]; skip; try rfl, rfl, rfl⟩
    · refine g_tableIn C (off := 101) (tgt := 112) dX5_of_11 csw1 csw2 (by rw [c_5]; rfl) (by decide) ?_
      have hsw := fun {α : Type} (f : Nat → α) (d9 : α) => swf_at (n := 12) (f := f) (d := d9) (z := 5) c_5 (by decide) (by decide)
      refine g_aload_n C dX5_of_112 rfl rfl ?_
      refine g_iload_n C dX5_of_113 rfl rfl ?_
      refine g_iconst C (v := 2) dX5_of_114 (by decide) ?_
      refine kX5_46 C (by decide) (tX5_part hl (i := i) hi (q := 2) (by decide) rfl) ⟨⟨Nat.le_of_ble_eq_true rfl, Nat.le_of_ble_eq_true rfl⟩, Nat.le_of_ble_eq_true rfl, Nat.le_of_ble_eq_true rfl⟩ (Nat.le_of_ble_eq_true rfl) dX5_of_115 ?_
      exact g_iret C hr dX5_of_118 ⟨by unfold yOf; rw [hsw]; skip; try rfl, rfl, rfl⟩
    · refine g_tableIn C (off := 108) (tgt := 119) dX5_of_11 csw1 csw2 (by rw [c_6]; rfl) (by decide) ?_
      have hsw := fun {α : Type} (f : Nat → α) (d9 : α) => swf_at (n := 12) (f := f) (d := d9) (z := 6) c_6 (by decide) (by decide)
      refine g_aload_n C dX5_of_119 rfl rfl ?_
      refine g_iload_n C dX5_of_120 rfl rfl ?_
      refine g_iconst C (v := 3) dX5_of_121 (by decide) ?_
      refine kX5_46 C (by decide) (tX5_part hl (i := i) hi (q := 3) (by decide) rfl) ⟨⟨Nat.le_of_ble_eq_true rfl, Nat.le_of_ble_eq_true rfl⟩, Nat.le_of_ble_eq_true rfl, Nat.le_of_ble_eq_true rfl⟩ (Nat.le_of_ble_eq_true rfl) dX5_of_122 ?_
      exact g_iret C hr dX5_of_125 ⟨by unfold yOf; rw [hsw]; skip; try rfl, rfl, rfl⟩
    · refine g_tableIn C (off := 115) (tgt := 126) dX5_of_11 csw1 csw2 (by rw [c_7]; rfl) (by decide) ?_
      have hsw := fun {α : Type} (f : Nat → α) (d9 : α) => swf_at (n := 12) (f := f) (d := d9) (z := 7) c_7 (by decide) (by decide)
      refine g_aload_n C dX5_of_126 rfl rfl ?_
      refine g_iload_n C dX5_of_127 rfl rfl ?_
      refine g_bipush C (v := 6) dX5_of_128 (by decide) ?_
      refine kX5_46 C (by decide) (tX5_part hl (i := i) hi (q := 6) (by decide) rfl) ⟨⟨Nat.le_of_ble_eq_true rfl, Nat.le_of_ble_eq_true rfl⟩, Nat.le_of_ble_eq_true rfl, Nat.le_of_ble_eq_true rfl⟩ (Nat.le_of_ble_eq_true rfl) dX5_of_130 ?_
      exact g_iret C hr dX5_of_133 ⟨by unfold yOf; rw [hsw]; skip; try rfl, rfl, rfl⟩
    · refine g_tableIn C (off := 123) (tgt := 134) dX5_of_11 csw1 csw2 (by rw [c_8]; rfl) (by decide) ?_
      have hsw := fun {α : Type} (f : Nat → α) (d9 : α) => swf_at (n := 12) (f := f) (d := d9) (z := 8) c_8 (by decide) (by decide)
      refine g_aload_n C dX5_of_134 rfl rfl ?_
      refine g_iload_n C dX5_of_135 rfl rfl ?_
      refine kX5_61 C (by decide) (tX5_readersOf hl hn8 hn _) ⟨⟨Nat.le_of_ble_eq_true rfl, Nat.le_of_ble_eq_true rfl⟩, Nat.le_of_ble_eq_true rfl, Nat.le_of_ble_eq_true rfl⟩ (Nat.le_of_ble_eq_true rfl) dX5_of_136 ?_
      exact g_iret C hr dX5_of_139 ⟨by unfold yOf; rw [hsw]; skip; try rfl, rfl, rfl⟩
    · refine g_tableIn C (off := 129) (tgt := 140) dX5_of_11 csw1 csw2 (by rw [c_9]; rfl) (by decide) ?_
      have hsw := fun {α : Type} (f : Nat → α) (d9 : α) => swf_at (n := 12) (f := f) (d := d9) (z := 9) c_9 (by decide) (by decide)
      refine g_aload_n C dX5_of_140 rfl rfl ?_
      refine g_iload_n C dX5_of_141 rfl rfl ?_
      refine kX5_72 C (by decide) (tX5_tellsNow hl (i := i) hi) ⟨⟨Nat.le_of_ble_eq_true rfl, Nat.le_of_ble_eq_true rfl⟩, Nat.le_of_ble_eq_true rfl, Nat.le_of_ble_eq_true rfl⟩ (Nat.le_of_ble_eq_true rfl) dX5_of_142 ?_
      exact g_iret C hr dX5_of_145 ⟨by unfold yOf; rw [hsw]; skip; try rfl, rfl, rfl⟩
    · refine g_tableIn C (off := 135) (tgt := 146) dX5_of_11 csw1 csw2 (by rw [c_10]; rfl) (by decide) ?_
      have hsw := fun {α : Type} (f : Nat → α) (d9 : α) => swf_at (n := 12) (f := f) (d := d9) (z := 10) c_10 (by decide) (by decide)
      refine g_aload_n C dX5_of_146 rfl rfl ?_
      refine g_iload_n C dX5_of_147 rfl rfl ?_
      refine g_iconst C (v := 4) dX5_of_148 (by decide) ?_
      refine kX5_50 C (by decide) (tX5_is hl (i := i) hi _) ⟨⟨Nat.le_of_ble_eq_true rfl, Nat.le_of_ble_eq_true rfl⟩, Nat.le_of_ble_eq_true rfl, Nat.le_of_ble_eq_true rfl⟩ (Nat.le_of_ble_eq_true rfl) dX5_of_149 ?_
      refine g_ifeq_b C (tgt := 165) dX5_of_152 (by decide) (fun c152 => ?_) (fun c152 => ?_)
      · skip
        refine g_iconst C (v := 0) dX5_of_165 (by decide) ?_
        exact g_iret C hr dX5_of_166 ⟨by unfold yOf; rw [hsw]; (try first | rw [if_pos c152] | rw [if_neg c152] | rw [if_neg (show ¬ _ = true by rw [c152]; decide)]); try rfl, rfl, rfl⟩
      · skip
        refine g_aload_n C dX5_of_155 rfl rfl ?_
        refine g_iload_n C dX5_of_156 rfl rfl ?_
        refine g_bipush C (v := 8) dX5_of_157 (by decide) ?_
        refine kX5_46 C (by decide) (tX5_part hl (i := i) hi (q := 8) (by decide) rfl) ⟨⟨Nat.le_of_ble_eq_true rfl, Nat.le_of_ble_eq_true rfl⟩, Nat.le_of_ble_eq_true rfl, Nat.le_of_ble_eq_true rfl⟩ (Nat.le_of_ble_eq_true rfl) dX5_of_159 ?_
        refine g_goto C (tgt := 166) dX5_of_162 (by decide) ?_
        exact g_iret C hr dX5_of_166 ⟨by unfold yOf; rw [hsw]; (try first | rw [if_pos c152] | rw [if_neg c152] | rw [if_neg (show ¬ _ = true by rw [c152]; decide)]); try rfl, rfl, rfl⟩
    · refine g_tableIn C (off := 156) (tgt := 167) dX5_of_11 csw1 csw2 (by rw [c_11]; rfl) (by decide) ?_
      have hsw := fun {α : Type} (f : Nat → α) (d9 : α) => swf_at (n := 12) (f := f) (d := d9) (z := 11) c_11 (by decide) (by decide)
      refine g_aload_n C dX5_of_167 rfl rfl ?_
      refine g_iload_n C dX5_of_168 rfl rfl ?_
      refine kX5_156 C (by decide) (tX5_placeOf hl hw8 hw _) ⟨⟨Nat.le_of_ble_eq_true rfl, Nat.le_of_ble_eq_true rfl⟩, Nat.le_of_ble_eq_true rfl, Nat.le_of_ble_eq_true rfl⟩ (Nat.le_of_ble_eq_true rfl) dX5_of_169 ?_
      exact g_iret C hr dX5_of_172 ⟨by unfold yOf; rw [hsw]; skip; try rfl, rfl, rfl⟩
    · refine g_tableIn C (off := 162) (tgt := 173) dX5_of_11 csw1 csw2 (by rw [c_12]; rfl) (by decide) ?_
      have hsw := fun {α : Type} (f : Nat → α) (d9 : α) => swf_at (n := 12) (f := f) (d := d9) (z := 12) c_12 (by decide) (by decide)
      refine g_aload_n C dX5_of_173 rfl rfl ?_
      refine g_iload_n C dX5_of_174 rfl rfl ?_
      refine g_bipush C (v := 9) dX5_of_175 (by decide) ?_
      refine kX5_46 C (by decide) (tX5_part hl (i := i) hi (q := 9) (by decide) rfl) ⟨⟨Nat.le_of_ble_eq_true rfl, Nat.le_of_ble_eq_true rfl⟩, Nat.le_of_ble_eq_true rfl, Nat.le_of_ble_eq_true rfl⟩ (Nat.le_of_ble_eq_true rfl) dX5_of_177 ?_
      exact g_iret C hr dX5_of_180 ⟨by unfold yOf; rw [hsw]; skip; try rfl, rfl, rfl⟩

set_option maxRecDepth 100000 in
set_option maxHeartbeats 800000 in
theorem tX5_count {l : Launch} {E : EE} {I : Mi} {F : Mr} (hl : LY F) {n : Nat} (hn8 : n ≤ 8) (hn : I 128 2 = nI n) (v : Int32)  : CtF l E mX5_count [rf E 127, .int v] NT I F NT (some (.int (yCount I n v))) I F := by
  refine CtF_of [some (rf E 127), some (.int v)] (by decide) rfl (Nat.le_of_ble_eq_true rfl) rfl (fun p e s m args below meth c C hr hname => ?_)
  refine g_iload_n C dX5_count_0 rfl rfl ?_
  by_cases csw : v.toInt < 0 ∨ 13 < v.toInt
  · refine g_tableOut C (tgt := 157) dX5_count_1 csw (by decide) ?_
    have hsw := fun {α : Type} (f : Nat → α) (d9 : α) => swf_out (f := f) (d := d9) csw
    refine g_bipush C (v := (-2)) dX5_count_157 (by decide) ?_
    exact g_iret C hr dX5_count_159 ⟨by unfold yCount; rw [hsw]; try rfl, rfl, rfl⟩
  · obtain ⟨csw1, csw2⟩ := not_or.mp csw
    have csw3 : v = 0 ∨ v = 1 ∨ v = 2 ∨ v = 3 ∨ v = 4 ∨ v = 5 ∨ v = 6 ∨ v = 7 ∨ v = 8 ∨ v = 9 ∨ v = 10 ∨ v = 11 ∨ v = 12 ∨ v = 13 := sw_cases14 csw1 csw2
    rcases csw3 with c_0 | c_1 | c_2 | c_3 | c_4 | c_5 | c_6 | c_7 | c_8 | c_9 | c_10 | c_11 | c_12 | c_13
    · refine g_tableIn C (off := 71) (tgt := 72) dX5_count_1 csw1 csw2 (by rw [c_0]; rfl) (by decide) ?_
      have hsw := fun {α : Type} (f : Nat → α) (d9 : α) => swf_at (n := 13) (f := f) (d := d9) (z := 0) c_0 (by decide) (by decide)
      refine g_aload_n C dX5_count_72 rfl rfl ?_
      refine gfX5_7 C (by decide) hl.mstate dX5_count_73 ?_
      refine g_iconst C (v := 2) dX5_count_76 (by decide) ?_
      refine g_iald_j C (show ar NT 128 7 96 by decide) 2 rfl (by decide) (by decide) dX5_count_77 ?_
      exact g_iret C hr dX5_count_78 ⟨by unfold yCount; rw [hsw]; try rfl, rfl, rfl⟩
    · refine g_tableIn C (off := 78) (tgt := 79) dX5_count_1 csw1 csw2 (by rw [c_1]; rfl) (by decide) ?_
      have hsw := fun {α : Type} (f : Nat → α) (d9 : α) => swf_at (n := 13) (f := f) (d := d9) (z := 1) c_1 (by decide) (by decide)
      refine g_aload_n C dX5_count_79 rfl rfl ?_
      refine g_iconst C (v := 0) dX5_count_80 (by decide) ?_
      refine kX5_65 C (by decide) (tX5_setOf hl hn8 hn _) ⟨⟨Nat.le_of_ble_eq_true rfl, Nat.le_of_ble_eq_true rfl⟩, Nat.le_of_ble_eq_true rfl, Nat.le_of_ble_eq_true rfl⟩ (Nat.le_of_ble_eq_true rfl) dX5_count_81 ?_
      exact g_iret C hr dX5_count_84 ⟨by unfold yCount; rw [hsw]; try rfl, rfl, rfl⟩
    · refine g_tableIn C (off := 84) (tgt := 85) dX5_count_1 csw1 csw2 (by rw [c_2]; rfl) (by decide) ?_
      have hsw := fun {α : Type} (f : Nat → α) (d9 : α) => swf_at (n := 13) (f := f) (d := d9) (z := 2) c_2 (by decide) (by decide)
      refine g_aload_n C dX5_count_85 rfl rfl ?_
      refine g_iconst C (v := 2) dX5_count_86 (by decide) ?_
      refine kX5_65 C (by decide) (tX5_setOf hl hn8 hn _) ⟨⟨Nat.le_of_ble_eq_true rfl, Nat.le_of_ble_eq_true rfl⟩, Nat.le_of_ble_eq_true rfl, Nat.le_of_ble_eq_true rfl⟩ (Nat.le_of_ble_eq_true rfl) dX5_count_87 ?_
      exact g_iret C hr dX5_count_90 ⟨by unfold yCount; rw [hsw]; try rfl, rfl, rfl⟩
    · refine g_tableIn C (off := 90) (tgt := 91) dX5_count_1 csw1 csw2 (by rw [c_3]; rfl) (by decide) ?_
      have hsw := fun {α : Type} (f : Nat → α) (d9 : α) => swf_at (n := 13) (f := f) (d := d9) (z := 3) c_3 (by decide) (by decide)
      refine g_aload_n C dX5_count_91 rfl rfl ?_
      refine g_iconst C (v := 3) dX5_count_92 (by decide) ?_
      refine kX5_65 C (by decide) (tX5_setOf hl hn8 hn _) ⟨⟨Nat.le_of_ble_eq_true rfl, Nat.le_of_ble_eq_true rfl⟩, Nat.le_of_ble_eq_true rfl, Nat.le_of_ble_eq_true rfl⟩ (Nat.le_of_ble_eq_true rfl) dX5_count_93 ?_
      exact g_iret C hr dX5_count_96 ⟨by unfold yCount; rw [hsw]; try rfl, rfl, rfl⟩
    · refine g_tableIn C (off := 96) (tgt := 97) dX5_count_1 csw1 csw2 (by rw [c_4]; rfl) (by decide) ?_
      have hsw := fun {α : Type} (f : Nat → α) (d9 : α) => swf_at (n := 13) (f := f) (d := d9) (z := 4) c_4 (by decide) (by decide)
      refine g_aload_n C dX5_count_97 rfl rfl ?_
      refine g_iconst C (v := 4) dX5_count_98 (by decide) ?_
      refine kX5_65 C (by decide) (tX5_setOf hl hn8 hn _) ⟨⟨Nat.le_of_ble_eq_true rfl, Nat.le_of_ble_eq_true rfl⟩, Nat.le_of_ble_eq_true rfl, Nat.le_of_ble_eq_true rfl⟩ (Nat.le_of_ble_eq_true rfl) dX5_count_99 ?_
      exact g_iret C hr dX5_count_102 ⟨by unfold yCount; rw [hsw]; try rfl, rfl, rfl⟩
    · refine g_tableIn C (off := 102) (tgt := 103) dX5_count_1 csw1 csw2 (by rw [c_5]; rfl) (by decide) ?_
      have hsw := fun {α : Type} (f : Nat → α) (d9 : α) => swf_at (n := 13) (f := f) (d := d9) (z := 5) c_5 (by decide) (by decide)
      refine g_aload_n C dX5_count_103 rfl rfl ?_
      refine kX5_82 C (by decide) (tX5_risingLoad hl hn8 hn) ⟨⟨Nat.le_of_ble_eq_true rfl, Nat.le_of_ble_eq_true rfl⟩, Nat.le_of_ble_eq_true rfl, Nat.le_of_ble_eq_true rfl⟩ (Nat.le_of_ble_eq_true rfl) dX5_count_104 ?_
      exact g_iret C hr dX5_count_107 ⟨by unfold yCount; rw [hsw]; try rfl, rfl, rfl⟩
    · refine g_tableIn C (off := 107) (tgt := 108) dX5_count_1 csw1 csw2 (by rw [c_6]; rfl) (by decide) ?_
      have hsw := fun {α : Type} (f : Nat → α) (d9 : α) => swf_at (n := 13) (f := f) (d := d9) (z := 6) c_6 (by decide) (by decide)
      refine g_aload_n C dX5_count_108 rfl rfl ?_
      refine gfX5_7 C (by decide) hl.mstate dX5_count_109 ?_
      refine g_bipush C (v := 6) dX5_count_112 (by decide) ?_
      refine g_iald_j C (show ar NT 128 7 96 by decide) 6 rfl (by decide) (by decide) dX5_count_114 ?_
      exact g_iret C hr dX5_count_115 ⟨by unfold yCount; rw [hsw]; try rfl, rfl, rfl⟩
    · refine g_tableIn C (off := 115) (tgt := 116) dX5_count_1 csw1 csw2 (by rw [c_7]; rfl) (by decide) ?_
      have hsw := fun {α : Type} (f : Nat → α) (d9 : α) => swf_at (n := 13) (f := f) (d := d9) (z := 7) c_7 (by decide) (by decide)
      refine g_aload_n C dX5_count_116 rfl rfl ?_
      refine gfX5_7 C (by decide) hl.mstate dX5_count_117 ?_
      refine g_iconst C (v := 4) dX5_count_120 (by decide) ?_
      refine g_iald_j C (show ar NT 128 7 96 by decide) 4 rfl (by decide) (by decide) dX5_count_121 ?_
      exact g_iret C hr dX5_count_122 ⟨by unfold yCount; rw [hsw]; try rfl, rfl, rfl⟩
    · refine g_tableIn C (off := 122) (tgt := 123) dX5_count_1 csw1 csw2 (by rw [c_8]; rfl) (by decide) ?_
      have hsw := fun {α : Type} (f : Nat → α) (d9 : α) => swf_at (n := 13) (f := f) (d := d9) (z := 8) c_8 (by decide) (by decide)
      refine g_aload_n C dX5_count_123 rfl rfl ?_
      refine gfX5_7 C (by decide) hl.mstate dX5_count_124 ?_
      refine g_iconst C (v := 5) dX5_count_127 (by decide) ?_
      refine g_iald_j C (show ar NT 128 7 96 by decide) 5 rfl (by decide) (by decide) dX5_count_128 ?_
      exact g_iret C hr dX5_count_129 ⟨by unfold yCount; rw [hsw]; try rfl, rfl, rfl⟩
    · refine g_tableIn C (off := 129) (tgt := 130) dX5_count_1 csw1 csw2 (by rw [c_9]; rfl) (by decide) ?_
      have hsw := fun {α : Type} (f : Nat → α) (d9 : α) => swf_at (n := 13) (f := f) (d := d9) (z := 9) c_9 (by decide) (by decide)
      refine g_aload_n C dX5_count_130 rfl rfl ?_
      refine gfX5_7 C (by decide) hl.mstate dX5_count_131 ?_
      refine g_iconst C (v := 3) dX5_count_134 (by decide) ?_
      refine g_iald_j C (show ar NT 128 7 96 by decide) 3 rfl (by decide) (by decide) dX5_count_135 ?_
      exact g_iret C hr dX5_count_136 ⟨by unfold yCount; rw [hsw]; try rfl, rfl, rfl⟩
    · refine g_tableIn C (off := 136) (tgt := 137) dX5_count_1 csw1 csw2 (by rw [c_10]; rfl) (by decide) ?_
      have hsw := fun {α : Type} (f : Nat → α) (d9 : α) => swf_at (n := 13) (f := f) (d := d9) (z := 10) c_10 (by decide) (by decide)
      obtain ⟨cz, hcz, rfl⟩ : ∃ cz : Nat, v - 10 = nI cz ∧ cz = 0 := ⟨0, by rw [c_10]; rfl, rfl⟩
      refine g_aload_n C dX5_count_137 rfl rfl ?_
      refine gfX5_7 C (by decide) hl.mstate dX5_count_138 ?_
      refine g_iload_n C dX5_count_141 rfl rfl ?_
      refine g_bipush C (v := 10) dX5_count_142 (by decide) ?_
      refine g_isub C dX5_count_144 ?_
      refine g_iald_j C (show ar NT 128 7 96 by decide) _ hcz (by decide) (by decide) dX5_count_145 ?_
      exact g_iret C hr dX5_count_146 ⟨by unfold yCount; rw [hsw]; try rfl, rfl, rfl⟩
    · refine g_tableIn C (off := 136) (tgt := 137) dX5_count_1 csw1 csw2 (by rw [c_11]; rfl) (by decide) ?_
      have hsw := fun {α : Type} (f : Nat → α) (d9 : α) => swf_at (n := 13) (f := f) (d := d9) (z := 11) c_11 (by decide) (by decide)
      obtain ⟨cz, hcz, rfl⟩ : ∃ cz : Nat, v - 10 = nI cz ∧ cz = 1 := ⟨1, by rw [c_11]; rfl, rfl⟩
      refine g_aload_n C dX5_count_137 rfl rfl ?_
      refine gfX5_7 C (by decide) hl.mstate dX5_count_138 ?_
      refine g_iload_n C dX5_count_141 rfl rfl ?_
      refine g_bipush C (v := 10) dX5_count_142 (by decide) ?_
      refine g_isub C dX5_count_144 ?_
      refine g_iald_j C (show ar NT 128 7 96 by decide) _ hcz (by decide) (by decide) dX5_count_145 ?_
      exact g_iret C hr dX5_count_146 ⟨by unfold yCount; rw [hsw]; try rfl, rfl, rfl⟩
    · refine g_tableIn C (off := 146) (tgt := 147) dX5_count_1 csw1 csw2 (by rw [c_12]; rfl) (by decide) ?_
      have hsw := fun {α : Type} (f : Nat → α) (d9 : α) => swf_at (n := 13) (f := f) (d := d9) (z := 12) c_12 (by decide) (by decide)
      refine g_aload_n C dX5_count_147 rfl rfl ?_
      refine gfX5_117 C (by decide) dX5_count_148 ?_
      exact g_iret C hr dX5_count_151 ⟨by unfold yCount; rw [hsw]; try rfl, rfl, rfl⟩
    · refine g_tableIn C (off := 151) (tgt := 152) dX5_count_1 csw1 csw2 (by rw [c_13]; rfl) (by decide) ?_
      have hsw := fun {α : Type} (f : Nat → α) (d9 : α) => swf_at (n := 13) (f := f) (d := d9) (z := 13) c_13 (by decide) (by decide)
      refine g_aload_n C dX5_count_152 rfl rfl ?_
      refine gfX5_34 C (by decide) dX5_count_153 ?_
      exact g_iret C hr dX5_count_156 ⟨by unfold yCount; rw [hsw]; try rfl, rfl, rfl⟩

def yWait (I : Mi) (x : Int32) : Int32 := if isW x 0 (I 128 7 - 1) = true then I 128 (8 + ix x) else -1
set_option maxRecDepth 100000 in
set_option maxHeartbeats 800000 in
theorem tX5_waiting {l : Launch} {E : EE} {I : Mi} {F : Mr} (hl : LY F) {w : Nat} (hw8 : w ≤ 8) (hw : I 128 7 = nI w) (x : Int32)  : CtF l E mX5_waiting [rf E 127, .int x] NT I F NT (some (.int (yWait I x))) I F := by
  refine CtF_of [some (rf E 127), some (.int x)] (by decide) rfl (Nat.le_of_ble_eq_true rfl) rfl (fun p e s m args below meth c C hr hname => ?_)
  refine g_iload_n C dX5_waiting_0 rfl rfl ?_
  refine g_iconst C (v := 0) dX5_waiting_1 (by decide) ?_
  refine g_aload_n C dX5_waiting_2 rfl rfl ?_
  refine gfX5_7 C (by decide) hl.mstate dX5_waiting_3 ?_
  refine g_bipush C (v := 7) dX5_waiting_6 (by decide) ?_
  refine g_iald_j C (show ar NT 128 7 96 by decide) 7 rfl (by decide) (by decide) dX5_waiting_8 ?_
  refine g_iconst C (v := 1) dX5_waiting_9 (by decide) ?_
  refine g_isub C dX5_waiting_10 ?_
  refine kX5_42 C (by decide) (tX5_within _ _ _) ⟨⟨Nat.le_of_ble_eq_true rfl, Nat.le_of_ble_eq_true rfl⟩, Nat.le_of_ble_eq_true rfl, Nat.le_of_ble_eq_true rfl⟩ (Nat.le_of_ble_eq_true rfl) dX5_waiting_11 ?_
  refine g_ifeq_b C (tgt := 29) dX5_waiting_14 (by decide) (fun c14 => ?_) (fun c14 => ?_)
  · skip
    refine g_iconst C (v := (-1)) dX5_waiting_29 (by decide) ?_
    exact g_iret C hr dX5_waiting_30 ⟨by unfold yWait; (try first | rw [if_pos c14] | rw [if_neg c14] | rw [if_neg (show ¬ _ = true by rw [c14]; decide)]); (try rw [hix]); try rfl, rfl, rfl⟩
  · skip
    obtain ⟨j9, hj9, rfl⟩ := isW_nI hw8 (by rw [← hw]; exact c14)
    have hix : ix (nI j9) = j9 := nI_clamp (by omega)
    refine g_aload_n C dX5_waiting_17 rfl rfl ?_
    refine gfX5_7 C (by decide) hl.mstate dX5_waiting_18 ?_
    refine g_bipush C (v := 8) dX5_waiting_21 (by decide) ?_
    refine g_iload_n C dX5_waiting_23 rfl rfl ?_
    refine g_iadd C dX5_waiting_24 ?_
    refine g_iald_j C (show ar NT 128 7 96 by decide) (8 + j9) (or_ix j9) (by omega) (by decide) dX5_waiting_25 ?_
    refine g_goto C (tgt := 30) dX5_waiting_26 (by decide) ?_
    exact g_iret C hr dX5_waiting_30 ⟨by unfold yWait; (try first | rw [if_pos c14] | rw [if_neg c14] | rw [if_neg (show ¬ _ = true by rw [c14]; decide)]); (try rw [hix]); try rfl, rfl, rfl⟩

