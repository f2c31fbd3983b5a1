set_option maxRecDepth 100000 in
set_option maxHeartbeats 4000000 in
theorem tX0_isPlace {l : Launch} {E : EE} {N : Nat} {I : Mi} {F : Mr} (x : Int32)  : CtF l E mX0_isPlace [.int x] N I F N (some (.int (bi (isP x)))) I F := by
  refine CtF_of [some (.int x)] (by decide) rfl (Nat.le_of_ble_eq_true rfl) rfl (fun p e s m args below meth c C hr hname => ?_)
  refine g_iload_n C dX0_isPlace_0 rfl rfl ?_
  refine g_if_lt C (tgt := 14) dX0_isPlace_1 (by decide) (fun c1 => ?_) (fun c1 => ?_)
  · skip
    refine g_iconst C (v := 0) dX0_isPlace_14 (by decide) ?_
    exact g_zret_0 C hr dX0_isPlace_15 ⟨by simp [isP, bi, *], rfl, rfl⟩
  · skip
    refine g_iload_n C dX0_isPlace_4 rfl rfl ?_
    refine g_bipush C (v := 8) dX0_isPlace_5 (by decide) ?_
    refine g_icmp_ge C (tgt := 14) dX0_isPlace_7 (by decide) (fun c7 => ?_) (fun c7 => ?_)
    · skip
      refine g_iconst C (v := 0) dX0_isPlace_14 (by decide) ?_
      exact g_zret_0 C hr dX0_isPlace_15 ⟨by simp [isP, bi, *], rfl, rfl⟩
    · skip
      refine g_iconst C (v := 1) dX0_isPlace_10 (by decide) ?_
      refine g_goto C (tgt := 15) dX0_isPlace_11 (by decide) ?_
      exact g_zret_1 C hr dX0_isPlace_15 ⟨by simp [isP, bi, *], rfl, rfl⟩

set_option maxRecDepth 100000 in
set_option maxHeartbeats 4000000 in
theorem tX4_isIn {l : Launch} {E : EE} {N : Nat} {I : Mi} {F : Mr} (x y : Int32)  : CtF l E mX4_isIn [.int x, .int y] N I F N (some (.int (bi (isI x y)))) I F := by
  refine CtF_of [some (.int x), some (.int y)] (by decide) rfl (Nat.le_of_ble_eq_true rfl) rfl (fun p e s m args below meth c C hr hname => ?_)
  refine g_iload_n C dX4_isIn_0 rfl rfl ?_
  refine g_iload_n C dX4_isIn_1 rfl rfl ?_
  refine g_ishr C dX4_isIn_2 ?_
  refine g_iconst C (v := 1) dX4_isIn_3 (by decide) ?_
  refine g_iand C dX4_isIn_4 ?_
  refine g_if_eq C (tgt := 12) dX4_isIn_5 (by decide) (fun c5 => ?_) (fun c5 => ?_)
  · skip
    refine g_iconst C (v := 0) dX4_isIn_12 (by decide) ?_
    exact g_zret_0 C hr dX4_isIn_13 ⟨by simp [isI, bi, *], rfl, rfl⟩
  · skip
    refine g_iconst C (v := 1) dX4_isIn_8 (by decide) ?_
    refine g_goto C (tgt := 13) dX4_isIn_9 (by decide) ?_
    exact g_zret_1 C hr dX4_isIn_13 ⟨by simp [isI, bi, *], rfl, rfl⟩

set_option maxRecDepth 100000 in
set_option maxHeartbeats 4000000 in
theorem tX0_has {l : Launch} {E : EE} {N : Nat} {I : Mi} {F : Mr} {a : Nat} (ha : CH N F a) (hN : 0 < N) (x : Int32)  : CtF l E mX0_has [rf E a, .int x] N I F N (some (.int (bi (hasC I a x)))) I F := by
  refine CtF_of [some (rf E a), some (.int x)] (by decide) rfl (Nat.le_of_ble_eq_true rfl) rfl (fun p e s m args below meth c C hr hname => ?_)
  refine g_iload_n C dX0_has_0 rfl rfl ?_
  refine kX0_73 C hN (tX0_isPlace _) ⟨⟨Nat.le_of_ble_eq_true rfl, Nat.le_of_ble_eq_true rfl⟩, Nat.le_of_ble_eq_true rfl, Nat.le_of_ble_eq_true rfl⟩ (Nat.le_of_ble_eq_true rfl) dX0_has_1 ?_
  refine g_ifeq_b C (tgt := 19) dX0_has_4 (by decide) (fun c4 => ?_) (fun c4 => ?_)
  · skip
    refine g_iconst C (v := 0) dX0_has_19 (by decide) ?_
    exact g_zret_0 C hr dX0_has_20 ⟨by simp [hasC, bi, *], rfl, rfl⟩
  · skip
    refine g_iload_n C dX0_has_7 rfl rfl ?_
    refine g_aload_n C dX0_has_8 rfl rfl ?_
    refine gfX0_52 C ha.o dX0_has_9 ?_
    refine g_icmp_ge C (tgt := 19) dX0_has_12 (by decide) (fun c12 => ?_) (fun c12 => ?_)
    · skip
      refine g_iconst C (v := 0) dX0_has_19 (by decide) ?_
      exact g_zret_0 C hr dX0_has_20 ⟨by simp [hasC, bi, *], rfl, rfl⟩
    · skip
      refine g_iconst C (v := 1) dX0_has_15 (by decide) ?_
      refine g_goto C (tgt := 20) dX0_has_16 (by decide) ?_
      exact g_zret_1 C hr dX0_has_20 ⟨by simp [hasC, bi, *], rfl, rfl⟩

set_option maxRecDepth 100000 in
set_option maxHeartbeats 4000000 in
theorem tX0_islandsThatAre {l : Launch} {E : EE} {N : Nat} {I : Mi} {F : Mr} {a : Nat} (ha : CH N F a) (x : Int32)  : CtF l E mX0_islandsThatAre [rf E a, .int x] N I F N (some (.int (setC I a x))) I F := by
  refine CtF_of [some (rf E a), some (.int x), none, none] (by decide) rfl (Nat.le_of_ble_eq_true rfl) rfl (fun p e s m args below meth c C hr hname => ?_)
  refine g_iconst C (v := 0) dX0_islandsThatAre_0 (by decide) ?_
  refine g_istore_n C dX0_islandsThatAre_1 rfl (by decide) rfl ?_
  refine g_iconst C (v := 0) dX0_islandsThatAre_2 (by decide) ?_
  refine g_istore_n C dX0_islandsThatAre_3 rfl (by decide) rfl ?_
  refine G_loop (n := 8) (fun i => [some (rf E a), some (.int x), some (.int (lp (fun i acc => if I (a + 4) i = x then acc ||| sh1 i else acc) i 0)), some (.int (nI i))]) (fun i => I) (fun _ => F) rfl rfl rfl ?_ ?_
  · intro i4 hi4 ih4
    refine g_iload_n C dX0_islandsThatAre_4 rfl rfl ?_
    refine g_bipush C (v := 8) dX0_islandsThatAre_5 (by decide) ?_
    refine g_icmp_ge C (tgt := 32) dX0_islandsThatAre_7 (by decide) (fun c7 => absurd c7 (nI_nge rfl hi4 (by decide))) (fun _ => ?_)
    refine g_aload_n C dX0_islandsThatAre_10 rfl rfl ?_
    refine gfX0_21 C ha.o ha.f6 dX0_islandsThatAre_11 ?_
    refine g_iload_n C dX0_islandsThatAre_14 rfl rfl ?_
    refine g_iald_j C ha.r4 (i4) rfl hi4 (by decide) dX0_islandsThatAre_15 ?_
    refine g_iload_n C dX0_islandsThatAre_16 rfl rfl ?_
    refine g_icmp_ne C (tgt := 26) dX0_islandsThatAre_17 (by decide) (fun c17 => ?_) (fun c17 => ?_)
    · skip
      refine g_iinc C dX0_islandsThatAre_26 rfl (nI_inc _) (by decide) rfl ?_
      refine g_goto C (tgt := 4) dX0_islandsThatAre_29 (by decide) ?_
      exact G_cast ih4 rfl rfl (by first | rfl | (simp only [lp, c17, ↓reduceIte, Bool.false_eq_true, reduceCtorEq]; first | done | rfl)) rfl
    · skip
      refine g_iload_n C dX0_islandsThatAre_20 rfl rfl ?_
      refine g_iconst C (v := 1) dX0_islandsThatAre_21 (by decide) ?_
      refine g_iload_n C dX0_islandsThatAre_22 rfl rfl ?_
      refine g_ishl C dX0_islandsThatAre_23 ?_
      refine g_ior C dX0_islandsThatAre_24 ?_
      refine g_istore_n C dX0_islandsThatAre_25 rfl (by decide) rfl ?_
      refine g_iinc C dX0_islandsThatAre_26 rfl (nI_inc _) (by decide) rfl ?_
      refine g_goto C (tgt := 4) dX0_islandsThatAre_29 (by decide) ?_
      exact G_cast ih4 rfl rfl (by first | rfl | (simp only [lp, c17, ↓reduceIte, Bool.false_eq_true, reduceCtorEq]; first | done | rfl)) rfl
  · skip
    refine g_iload_n C dX0_islandsThatAre_4 rfl rfl ?_
    refine g_bipush C (v := 8) dX0_islandsThatAre_5 (by decide) ?_
    refine g_icmp_ge C (tgt := 32) dX0_islandsThatAre_7 (by decide) (fun _ => ?_) (fun c7 => absurd (nI_lee rfl) c7)
    refine g_iload_n C dX0_islandsThatAre_32 rfl rfl ?_
    exact g_iret C hr dX0_islandsThatAre_33 ⟨rfl, rfl, rfl⟩

set_option maxRecDepth 100000 in
set_option maxHeartbeats 4000000 in
theorem tX0_readersOf {l : Launch} {E : EE} {N : Nat} {I : Mi} {F : Mr} {a : Nat} (ha : CH N F a) (hN : 0 < N) (x : Int32)  : CtF l E mX0_readersOf [rf E a, .int x] N I F N (some (.int (readC I a x))) I F := by
  refine CtF_of [some (rf E a), some (.int x), none, none] (by decide) rfl (Nat.le_of_ble_eq_true rfl) rfl (fun p e s m args below meth c C hr hname => ?_)
  refine g_iconst C (v := 0) dX0_readersOf_0 (by decide) ?_
  refine g_istore_n C dX0_readersOf_1 rfl (by decide) rfl ?_
  refine g_iconst C (v := 0) dX0_readersOf_2 (by decide) ?_
  refine g_istore_n C dX0_readersOf_3 rfl (by decide) rfl ?_
  refine G_loop (n := 8) (fun i => [some (rf E a), some (.int x), some (.int (lp (fun i acc => if isI (I (a + 3) i) x = true then acc ||| sh1 i else acc) i 0)), some (.int (nI i))]) (fun i => I) (fun _ => F) rfl rfl rfl ?_ ?_
  · intro i4 hi4 ih4
    refine g_iload_n C dX0_readersOf_4 rfl rfl ?_
    refine g_bipush C (v := 8) dX0_readersOf_5 (by decide) ?_
    refine g_icmp_ge C (tgt := 35) dX0_readersOf_7 (by decide) (fun c7 => absurd c7 (nI_nge rfl hi4 (by decide))) (fun _ => ?_)
    refine g_aload_n C dX0_readersOf_10 rfl rfl ?_
    refine gfX0_18 C ha.o ha.f5 dX0_readersOf_11 ?_
    refine g_iload_n C dX0_readersOf_14 rfl rfl ?_
    refine g_iald_j C ha.r3 (i4) rfl hi4 (by decide) dX0_readersOf_15 ?_
    refine g_iload_n C dX0_readersOf_16 rfl rfl ?_
    refine kX0_77 C hN (tX4_isIn _ _) ⟨⟨Nat.le_of_ble_eq_true rfl, Nat.le_of_ble_eq_true rfl⟩, Nat.le_of_ble_eq_true rfl, Nat.le_of_ble_eq_true rfl⟩ (Nat.le_of_ble_eq_true rfl) dX0_readersOf_17 ?_
    refine g_ifeq_b C (tgt := 29) dX0_readersOf_20 (by decide) (fun c20 => ?_) (fun c20 => ?_)
    · skip
      refine g_iinc C dX0_readersOf_29 rfl (nI_inc _) (by decide) rfl ?_
      refine g_goto C (tgt := 4) dX0_readersOf_32 (by decide) ?_
      exact G_cast ih4 rfl rfl (by first | rfl | (simp only [lp, c20, ↓reduceIte, Bool.false_eq_true, reduceCtorEq]; first | done | rfl)) rfl
    · skip
      refine g_iload_n C dX0_readersOf_23 rfl rfl ?_
      refine g_iconst C (v := 1) dX0_readersOf_24 (by decide) ?_
      refine g_iload_n C dX0_readersOf_25 rfl rfl ?_
      refine g_ishl C dX0_readersOf_26 ?_
      refine g_ior C dX0_readersOf_27 ?_
      refine g_istore_n C dX0_readersOf_28 rfl (by decide) rfl ?_
      refine g_iinc C dX0_readersOf_29 rfl (nI_inc _) (by decide) rfl ?_
      refine g_goto C (tgt := 4) dX0_readersOf_32 (by decide) ?_
      exact G_cast ih4 rfl rfl (by first | rfl | (simp only [lp, c20, ↓reduceIte, Bool.false_eq_true, reduceCtorEq]; first | done | rfl)) rfl
  · skip
    refine g_iload_n C dX0_readersOf_4 rfl rfl ?_
    refine g_bipush C (v := 8) dX0_readersOf_5 (by decide) ?_
    refine g_icmp_ge C (tgt := 35) dX0_readersOf_7 (by decide) (fun _ => ?_) (fun c7 => absurd (nI_lee rfl) c7)
    refine g_iload_n C dX0_readersOf_35 rfl rfl ?_
    exact g_iret C hr dX0_readersOf_36 ⟨rfl, rfl, rfl⟩

set_option maxRecDepth 100000 in
set_option maxHeartbeats 4000000 in
theorem tX0_isHeard {l : Launch} {E : EE} {N : Nat} {I : Mi} {F : Mr} {a : Nat} (ha : CH N F a) (hN : 0 < N) {i : Nat} (hi : i < 8)  : CtF l E mX0_isHeard [rf E a, .int (nI i)] N I F N (some (.int (bi (heardC I a i)))) I F := by
  refine CtF_of [some (rf E a), some (.int (nI i))] (by decide) rfl (Nat.le_of_ble_eq_true rfl) rfl (fun p e s m args below meth c C hr hname => ?_)
  refine g_iload_n C dX0_isHeard_0 rfl rfl ?_
  refine kX0_73 C hN (tX0_isPlace _) ⟨⟨Nat.le_of_ble_eq_true rfl, Nat.le_of_ble_eq_true rfl⟩, Nat.le_of_ble_eq_true rfl, Nat.le_of_ble_eq_true rfl⟩ (Nat.le_of_ble_eq_true rfl) dX0_isHeard_1 ?_
  refine g_ifeq_b C (tgt := 30) dX0_isHeard_4 (by decide) (fun c4 => (bt_f (isP_n hi) c4).elim) (fun _ => ?_)
  refine g_aload_n C dX0_isHeard_7 rfl rfl ?_
  refine gfX0_21 C ha.o ha.f6 dX0_isHeard_8 ?_
  refine g_iload_n C dX0_isHeard_11 rfl rfl ?_
  refine g_iald_j C ha.r4 (i) rfl hi (by decide) dX0_isHeard_12 ?_
  refine g_if_eq C (tgt := 26) dX0_isHeard_13 (by decide) (fun c13 => ?_) (fun c13 => ?_)
  · skip
    refine g_iconst C (v := 1) dX0_isHeard_26 (by decide) ?_
    refine g_goto C (tgt := 31) dX0_isHeard_27 (by decide) ?_
    exact g_zret_1 C hr dX0_isHeard_31 ⟨by simp [heardC, bi, *], rfl, rfl⟩
  · skip
    refine g_aload_n C dX0_isHeard_16 rfl rfl ?_
    refine gfX0_21 C ha.o ha.f6 dX0_isHeard_17 ?_
    refine g_iload_n C dX0_isHeard_20 rfl rfl ?_
    refine g_iald_j C ha.r4 (i) rfl hi (by decide) dX0_isHeard_21 ?_
    refine g_iconst C (v := 1) dX0_isHeard_22 (by decide) ?_
    refine g_icmp_ne C (tgt := 30) dX0_isHeard_23 (by decide) (fun c23 => ?_) (fun c23 => ?_)
    · skip
      refine g_iconst C (v := 0) dX0_isHeard_30 (by decide) ?_
      exact g_zret_0 C hr dX0_isHeard_31 ⟨by simp [heardC, bi, *], rfl, rfl⟩
    · skip
      refine g_iconst C (v := 1) dX0_isHeard_26 (by decide) ?_
      refine g_goto C (tgt := 31) dX0_isHeard_27 (by decide) ?_
      exact g_zret_1 C hr dX0_isHeard_31 ⟨by simp [heardC, bi, *], rfl, rfl⟩

set_option maxRecDepth 100000 in
set_option maxHeartbeats 4000000 in
theorem tX0_whatTells {l : Launch} {E : EE} {N : Nat} {I : Mi} {F : Mr} {a : Nat} (ha : CH N F a) (hN : 0 < N) {i : Nat} (hi : i < 8)  : CtF l E mX0_whatTells [rf E a, .int (nI i)] N I F N (some (.int (tellC I a i))) I F := by
  refine CtF_of [some (rf E a), some (.int (nI i))] (by decide) rfl (Nat.le_of_ble_eq_true rfl) rfl (fun p e s m args below meth c C hr hname => ?_)
  refine g_iload_n C dX0_whatTells_0 rfl rfl ?_
  refine kX0_73 C hN (tX0_isPlace _) ⟨⟨Nat.le_of_ble_eq_true rfl, Nat.le_of_ble_eq_true rfl⟩, Nat.le_of_ble_eq_true rfl, Nat.le_of_ble_eq_true rfl⟩ (Nat.le_of_ble_eq_true rfl) dX0_whatTells_1 ?_
  refine g_ifne_b C (tgt := 9) dX0_whatTells_4 (by decide) (fun _ => ?_) (fun c4 => (bt_f (isP_n hi) c4).elim)
  refine g_aload_n C dX0_whatTells_9 rfl rfl ?_
  refine g_iload_n C dX0_whatTells_10 rfl rfl ?_
  refine kX0_81 C ha.o (tX0_isHeard ha hN hi) ⟨⟨Nat.le_of_ble_eq_true rfl, Nat.le_of_ble_eq_true rfl⟩, Nat.le_of_ble_eq_true rfl, Nat.le_of_ble_eq_true rfl⟩ (Nat.le_of_ble_eq_true rfl) dX0_whatTells_11 ?_
  refine g_ifeq_b C (tgt := 24) dX0_whatTells_14 (by decide) (fun c14 => ?_) (fun c14 => ?_)
  · skip
    refine g_aload_n C dX0_whatTells_24 rfl rfl ?_
    refine gfX0_55 C ha.o dX0_whatTells_25 ?_
    refine g_iload_n C dX0_whatTells_28 rfl rfl ?_
    refine kX0_77 C hN (tX4_isIn _ _) ⟨⟨Nat.le_of_ble_eq_true rfl, Nat.le_of_ble_eq_true rfl⟩, Nat.le_of_ble_eq_true rfl, Nat.le_of_ble_eq_true rfl⟩ (Nat.le_of_ble_eq_true rfl) dX0_whatTells_29 ?_
    refine g_ifeq_b C (tgt := 39) dX0_whatTells_32 (by decide) (fun c32 => ?_) (fun c32 => ?_)
    · skip
      refine g_sipush C (v := 255) dX0_whatTells_39 (by decide) ?_
      exact g_iret C hr dX0_whatTells_42 ⟨by simp [tellC, c14, c32], rfl, rfl⟩
    · skip
      refine g_iconst C (v := 0) dX0_whatTells_35 (by decide) ?_
      refine g_goto C (tgt := 42) dX0_whatTells_36 (by decide) ?_
      exact g_iret C hr dX0_whatTells_42 ⟨by simp [tellC, c14, c32], rfl, rfl⟩
  · skip
    refine g_aload_n C dX0_whatTells_17 rfl rfl ?_
    refine gfX0_24 C ha.o ha.f7 dX0_whatTells_18 ?_
    refine g_iload_n C dX0_whatTells_21 rfl rfl ?_
    refine g_iald_j C ha.r5 (i) rfl hi (by decide) dX0_whatTells_22 ?_
    exact g_iret C hr dX0_whatTells_23 ⟨by simp [tellC, c14], rfl, rfl⟩

set_option maxRecDepth 100000 in
set_option maxHeartbeats 4000000 in
theorem tX0_islandInQueue {l : Launch} {E : EE} {N : Nat} {I : Mi} {F : Mr} {a : Nat} (ha : CH N F a) (hN : 0 < N) (x : Int32)  : CtF l E mX0_islandInQueue [rf E a, .int x] N I F N (some (.int (inqC I a x))) I F := by
  refine CtF_of [some (rf E a), some (.int x)] (by decide) rfl (Nat.le_of_ble_eq_true rfl) rfl (fun p e s m args below meth c C hr hname => ?_)
  refine g_iload_n C dX0_islandInQueue_0 rfl rfl ?_
  refine kX0_73 C hN (tX0_isPlace _) ⟨⟨Nat.le_of_ble_eq_true rfl, Nat.le_of_ble_eq_true rfl⟩, Nat.le_of_ble_eq_true rfl, Nat.le_of_ble_eq_true rfl⟩ (Nat.le_of_ble_eq_true rfl) dX0_islandInQueue_1 ?_
  refine g_ifeq_b C (tgt := 24) dX0_islandInQueue_4 (by decide) (fun c4 => ?_) (fun c4 => ?_)
  · skip
    refine g_iconst C (v := (-1)) dX0_islandInQueue_24 (by decide) ?_
    exact g_iret C hr dX0_islandInQueue_25 ⟨by simp [inqC, c4], rfl, rfl⟩
  · skip
    refine g_iload_n C dX0_islandInQueue_7 rfl rfl ?_
    refine g_aload_n C dX0_islandInQueue_8 rfl rfl ?_
    refine gfX0_61 C ha.o dX0_islandInQueue_9 ?_
    refine g_icmp_ge C (tgt := 24) dX0_islandInQueue_12 (by decide) (fun c12 => ?_) (fun c12 => ?_)
    · skip
      refine g_iconst C (v := (-1)) dX0_islandInQueue_24 (by decide) ?_
      exact g_iret C hr dX0_islandInQueue_25 ⟨by simp [inqC, c4, c12], rfl, rfl⟩
    · skip
      refine g_aload_n C dX0_islandInQueue_15 rfl rfl ?_
      refine gfX0_36 C ha.o ha.f11 dX0_islandInQueue_16 ?_
      refine g_iload_n C dX0_islandInQueue_19 rfl rfl ?_
      refine g_iald C ha.r9 (isP_in c4) dX0_islandInQueue_20 ?_
      refine g_goto C (tgt := 25) dX0_islandInQueue_21 (by decide) ?_
      exact g_iret C hr dX0_islandInQueue_25 ⟨by simp [inqC, c4, c12], rfl, rfl⟩

set_option maxRecDepth 100000 in
set_option maxHeartbeats 4000000 in
theorem tX0_risingLoad {l : Launch} {E : EE} {N : Nat} {I : Mi} {F : Mr} {a : Nat} (ha : CH N F a)  : CtF l E mX0_risingLoad [rf E a] N I F N (some (.int (rloadC I a))) I F := by
  refine CtF_of [some (rf E a), none, none] (by decide) rfl (Nat.le_of_ble_eq_true rfl) rfl (fun p e s m args below meth c C hr hname => ?_)
  refine g_iconst C (v := 0) dX0_risingLoad_0 (by decide) ?_
  refine g_istore_n C dX0_risingLoad_1 rfl (by decide) rfl ?_
  refine g_iconst C (v := 0) dX0_risingLoad_2 (by decide) ?_
  refine g_istore_n C dX0_risingLoad_3 rfl (by decide) rfl ?_
  refine G_loop (n := 8) (fun i => [some (rf E a), some (.int (lp (fun i acc => if I (a + 4) i = 4 then acc + I (a + 2) i else acc) i 0)), some (.int (nI i))]) (fun i => I) (fun _ => F) rfl rfl rfl ?_ ?_
  · intro i4 hi4 ih4
    refine g_iload_n C dX0_risingLoad_4 rfl rfl ?_
    refine g_bipush C (v := 8) dX0_risingLoad_5 (by decide) ?_
    refine g_icmp_ge C (tgt := 35) dX0_risingLoad_7 (by decide) (fun c7 => absurd c7 (nI_nge rfl hi4 (by decide))) (fun _ => ?_)
    refine g_aload_n C dX0_risingLoad_10 rfl rfl ?_
    refine gfX0_21 C ha.o ha.f6 dX0_risingLoad_11 ?_
    refine g_iload_n C dX0_risingLoad_14 rfl rfl ?_
    refine g_iald_j C ha.r4 (i4) rfl hi4 (by decide) dX0_risingLoad_15 ?_
    refine g_iconst C (v := 4) dX0_risingLoad_16 (by decide) ?_
    refine g_icmp_ne C (tgt := 29) dX0_risingLoad_17 (by decide) (fun c17 => ?_) (fun c17 => ?_)
    · skip
      refine g_iinc C dX0_risingLoad_29 rfl (nI_inc _) (by decide) rfl ?_
      refine g_goto C (tgt := 4) dX0_risingLoad_32 (by decide) ?_
      exact G_cast ih4 rfl rfl (by first | rfl | (simp only [lp, c17, ↓reduceIte, Bool.false_eq_true, reduceCtorEq]; first | done | rfl)) rfl
    · skip
      refine g_iload_n C dX0_risingLoad_20 rfl rfl ?_
      refine g_aload_n C dX0_risingLoad_21 rfl rfl ?_
      refine gfX0_15 C ha.o ha.f4 dX0_risingLoad_22 ?_
      refine g_iload_n C dX0_risingLoad_25 rfl rfl ?_
      refine g_iald_j C ha.r2 (i4) rfl hi4 (by decide) dX0_risingLoad_26 ?_
      refine g_iadd C dX0_risingLoad_27 ?_
      refine g_istore_n C dX0_risingLoad_28 rfl (by decide) rfl ?_
      refine g_iinc C dX0_risingLoad_29 rfl (nI_inc _) (by decide) rfl ?_
      refine g_goto C (tgt := 4) dX0_risingLoad_32 (by decide) ?_
      exact G_cast ih4 rfl rfl (by first | rfl | (simp only [lp, c17, ↓reduceIte, Bool.false_eq_true, reduceCtorEq]; first | done | rfl)) rfl
  · skip
    refine g_iload_n C dX0_risingLoad_4 rfl rfl ?_
    refine g_bipush C (v := 8) dX0_risingLoad_5 (by decide) ?_
    refine g_icmp_ge C (tgt := 35) dX0_risingLoad_7 (by decide) (fun _ => ?_) (fun c7 => absurd (nI_lee rfl) c7)
    refine g_iload_n C dX0_risingLoad_35 rfl rfl ?_
    exact g_iret C hr dX0_risingLoad_36 ⟨rfl, rfl, rfl⟩

set_option maxRecDepth 100000 in
set_option maxHeartbeats 4000000 in
theorem tX0_noiseSoFar {l : Launch} {E : EE} {N : Nat} {I : Mi} {F : Mr} {a : Nat} (ha : CH N F a)  : CtF l E mX0_noiseSoFar [rf E a] N I F N (some (.int (sumC I (a + 8)))) I F := by
  refine CtF_of [some (rf E a), none, none] (by decide) rfl (Nat.le_of_ble_eq_true rfl) rfl (fun p e s m args below meth c C hr hname => ?_)
  refine g_iconst C (v := 0) dX0_noiseSoFar_0 (by decide) ?_
  refine g_istore_n C dX0_noiseSoFar_1 rfl (by decide) rfl ?_
  refine g_iconst C (v := 0) dX0_noiseSoFar_2 (by decide) ?_
  refine g_istore_n C dX0_noiseSoFar_3 rfl (by decide) rfl ?_
  refine G_loop (n := 8) (fun i => [some (rf E a), some (.int (lp (fun i acc => acc + I (a + 8) i) i 0)), some (.int (nI i))]) (fun i => I) (fun _ => F) rfl rfl rfl ?_ ?_
  · intro i4 hi4 ih4
    refine g_iload_n C dX0_noiseSoFar_4 rfl rfl ?_
    refine g_bipush C (v := 8) dX0_noiseSoFar_5 (by decide) ?_
    refine g_icmp_ge C (tgt := 25) dX0_noiseSoFar_7 (by decide) (fun c7 => absurd c7 (nI_nge rfl hi4 (by decide))) (fun _ => ?_)
    refine g_iload_n C dX0_noiseSoFar_10 rfl rfl ?_
    refine g_aload_n C dX0_noiseSoFar_11 rfl rfl ?_
    refine gfX0_33 C ha.o ha.f10 dX0_noiseSoFar_12 ?_
    refine g_iload_n C dX0_noiseSoFar_15 rfl rfl ?_
    refine g_iald_j C ha.r8 (i4) rfl hi4 (by decide) dX0_noiseSoFar_16 ?_
    refine g_iadd C dX0_noiseSoFar_17 ?_
    refine g_istore_n C dX0_noiseSoFar_18 rfl (by decide) rfl ?_
    refine g_iinc C dX0_noiseSoFar_19 rfl (nI_inc _) (by decide) rfl ?_
    refine g_goto C (tgt := 4) dX0_noiseSoFar_22 (by decide) ?_
    exact G_cast ih4 rfl rfl (by first | rfl | (simp only [lp, lp, ↓reduceIte, Bool.false_eq_true, reduceCtorEq]; first | done | rfl)) rfl
  · skip
    refine g_iload_n C dX0_noiseSoFar_4 rfl rfl ?_
    refine g_bipush C (v := 8) dX0_noiseSoFar_5 (by decide) ?_
    refine g_icmp_ge C (tgt := 25) dX0_noiseSoFar_7 (by decide) (fun _ => ?_) (fun c7 => absurd (nI_lee rfl) c7)
    refine g_iload_n C dX0_noiseSoFar_25 rfl rfl ?_
    exact g_iret C hr dX0_noiseSoFar_26 ⟨rfl, rfl, rfl⟩

set_option maxRecDepth 100000 in
set_option maxHeartbeats 4000000 in
theorem tX0_sumOfValues {l : Launch} {E : EE} {N : Nat} {I : Mi} {F : Mr} {a : Nat} (ha : CH N F a)  : CtF l E mX0_sumOfValues [rf E a] N I F N (some (.int (sumC I (a + 5)))) I F := by
  refine CtF_of [some (rf E a), none, none] (by decide) rfl (Nat.le_of_ble_eq_true rfl) rfl (fun p e s m args below meth c C hr hname => ?_)
  refine g_iconst C (v := 0) dX0_sumOfValues_0 (by decide) ?_
  refine g_istore_n C dX0_sumOfValues_1 rfl (by decide) rfl ?_
  refine g_iconst C (v := 0) dX0_sumOfValues_2 (by decide) ?_
  refine g_istore_n C dX0_sumOfValues_3 rfl (by decide) rfl ?_
  refine G_loop (n := 8) (fun i => [some (rf E a), some (.int (lp (fun i acc => acc + I (a + 5) i) i 0)), some (.int (nI i))]) (fun i => I) (fun _ => F) rfl rfl rfl ?_ ?_
  · intro i4 hi4 ih4
    refine g_iload_n C dX0_sumOfValues_4 rfl rfl ?_
    refine g_bipush C (v := 8) dX0_sumOfValues_5 (by decide) ?_
    refine g_icmp_ge C (tgt := 25) dX0_sumOfValues_7 (by decide) (fun c7 => absurd c7 (nI_nge rfl hi4 (by decide))) (fun _ => ?_)
    refine g_iload_n C dX0_sumOfValues_10 rfl rfl ?_
    refine g_aload_n C dX0_sumOfValues_11 rfl rfl ?_
    refine gfX0_24 C ha.o ha.f7 dX0_sumOfValues_12 ?_
    refine g_iload_n C dX0_sumOfValues_15 rfl rfl ?_
    refine g_iald_j C ha.r5 (i4) rfl hi4 (by decide) dX0_sumOfValues_16 ?_
    refine g_iadd C dX0_sumOfValues_17 ?_
    refine g_istore_n C dX0_sumOfValues_18 rfl (by decide) rfl ?_
    refine g_iinc C dX0_sumOfValues_19 rfl (nI_inc _) (by decide) rfl ?_
    refine g_goto C (tgt := 4) dX0_sumOfValues_22 (by decide) ?_
    exact G_cast ih4 rfl rfl (by first | rfl | (simp only [lp, lp, ↓reduceIte, Bool.false_eq_true, reduceCtorEq]; first | done | rfl)) rfl
  · skip
    refine g_iload_n C dX0_sumOfValues_4 rfl rfl ?_
    refine g_bipush C (v := 8) dX0_sumOfValues_5 (by decide) ?_
    refine g_icmp_ge C (tgt := 25) dX0_sumOfValues_7 (by decide) (fun _ => ?_) (fun c7 => absurd (nI_lee rfl) c7)
    refine g_iload_n C dX0_sumOfValues_25 rfl rfl ?_
    exact g_iret C hr dX0_sumOfValues_26 ⟨rfl, rfl, rfl⟩

set_option maxRecDepth 100000 in
set_option maxHeartbeats 4000000 in
theorem tbitCount {l : Launch} {E : EE} {N : Nat} {I : Mi} {F : Mr} (x : Int32)  : CtF l E mJ6_bitCount_0f7a4 [.int x] N I F N (some (.int (bcJ x))) I F := by
  refine CtF_of [some (.int x)] (by decide) rfl (Nat.le_of_ble_eq_true rfl) rfl (fun p e s m args below meth c C hr hname => ?_)
  refine g_iload_n C dJ6_bitCount_0f7a4_0 rfl rfl ?_
  refine g_iload_n C dJ6_bitCount_0f7a4_1 rfl rfl ?_
  refine g_iconst C (v := 1) dJ6_bitCount_0f7a4_2 (by decide) ?_
  refine g_iushr C dJ6_bitCount_0f7a4_3 rfl ?_
  refine g_ldcw C dJ6_bitCount_0f7a4_4 kcJ6_265 ?_
  refine g_iand C dJ6_bitCount_0f7a4_7 ?_
  refine g_isub C dJ6_bitCount_0f7a4_8 ?_
  refine g_istore_n C dJ6_bitCount_0f7a4_9 rfl (by decide) rfl ?_
  refine g_iload_n C dJ6_bitCount_0f7a4_10 rfl rfl ?_
  refine g_ldcw C dJ6_bitCount_0f7a4_11 kcJ6_266 ?_
  refine g_iand C dJ6_bitCount_0f7a4_14 ?_
  refine g_iload_n C dJ6_bitCount_0f7a4_15 rfl rfl ?_
  refine g_iconst C (v := 2) dJ6_bitCount_0f7a4_16 (by decide) ?_
  refine g_iushr C dJ6_bitCount_0f7a4_17 rfl ?_
  refine g_ldcw C dJ6_bitCount_0f7a4_18 kcJ6_266 ?_
  refine g_iand C dJ6_bitCount_0f7a4_21 ?_
  refine g_iadd C dJ6_bitCount_0f7a4_22 ?_
  refine g_istore_n C dJ6_bitCount_0f7a4_23 rfl (by decide) rfl ?_
  refine g_iload_n C dJ6_bitCount_0f7a4_24 rfl rfl ?_
  refine g_iload_n C dJ6_bitCount_0f7a4_25 rfl rfl ?_
  refine g_iconst C (v := 4) dJ6_bitCount_0f7a4_26 (by decide) ?_
  refine g_iushr C dJ6_bitCount_0f7a4_27 rfl ?_
  refine g_iadd C dJ6_bitCount_0f7a4_28 ?_
  refine g_ldcw C dJ6_bitCount_0f7a4_29 kcJ6_267 ?_
  refine g_iand C dJ6_bitCount_0f7a4_32 ?_
  refine g_istore_n C dJ6_bitCount_0f7a4_33 rfl (by decide) rfl ?_
  refine g_iload_n C dJ6_bitCount_0f7a4_34 rfl rfl ?_
  refine g_iload_n C dJ6_bitCount_0f7a4_35 rfl rfl ?_
  refine g_bipush C (v := 8) dJ6_bitCount_0f7a4_36 (by decide) ?_
  refine g_iushr C dJ6_bitCount_0f7a4_38 rfl ?_
  refine g_iadd C dJ6_bitCount_0f7a4_39 ?_
  refine g_istore_n C dJ6_bitCount_0f7a4_40 rfl (by decide) rfl ?_
  refine g_iload_n C dJ6_bitCount_0f7a4_41 rfl rfl ?_
  refine g_iload_n C dJ6_bitCount_0f7a4_42 rfl rfl ?_
  refine g_bipush C (v := 16) dJ6_bitCount_0f7a4_43 (by decide) ?_
  refine g_iushr C dJ6_bitCount_0f7a4_45 rfl ?_
  refine g_iadd C dJ6_bitCount_0f7a4_46 ?_
  refine g_istore_n C dJ6_bitCount_0f7a4_47 rfl (by decide) rfl ?_
  refine g_iload_n C dJ6_bitCount_0f7a4_48 rfl rfl ?_
  refine g_bipush C (v := 63) dJ6_bitCount_0f7a4_49 (by decide) ?_
  refine g_iand C dJ6_bitCount_0f7a4_51 ?_
  exact g_iret C hr dJ6_bitCount_0f7a4_52 ⟨rfl, rfl, rfl⟩

set_option maxRecDepth 100000 in
set_option maxHeartbeats 4000000 in
theorem tX0_areAllAwake {l : Launch} {E : EE} {N : Nat} {I : Mi} {F : Mr} {a : Nat} (ha : CH N F a) (hN : 0 < N)  : CtF l E mX0_areAllAwake [rf E a] N I F N (some (.int (bi (decide (bcJ (setC I a 0) = I a 0))))) I F := by
  refine CtF_of [some (rf E a)] (by decide) rfl (Nat.le_of_ble_eq_true rfl) rfl (fun p e s m args below meth c C hr hname => ?_)
  refine g_aload_n C dX0_areAllAwake_0 rfl rfl ?_
  refine g_iconst C (v := 0) dX0_areAllAwake_1 (by decide) ?_
  refine kX0_84 C ha.o (tX0_islandsThatAre ha _) ⟨⟨Nat.le_of_ble_eq_true rfl, Nat.le_of_ble_eq_true rfl⟩, Nat.le_of_ble_eq_true rfl, Nat.le_of_ble_eq_true rfl⟩ (Nat.le_of_ble_eq_true rfl) dX0_areAllAwake_2 ?_
  refine kX0_88 C hN (tbitCount _) ⟨⟨Nat.le_of_ble_eq_true rfl, Nat.le_of_ble_eq_true rfl⟩, Nat.le_of_ble_eq_true rfl, Nat.le_of_ble_eq_true rfl⟩ (Nat.le_of_ble_eq_true rfl) dX0_areAllAwake_5 ?_
  refine g_aload_n C dX0_areAllAwake_8 rfl rfl ?_
  refine gfX0_52 C ha.o dX0_areAllAwake_9 ?_
  refine g_icmp_ne C (tgt := 19) dX0_areAllAwake_12 (by decide) (fun c12 => ?_) (fun c12 => ?_)
  · skip
    refine g_iconst C (v := 0) dX0_areAllAwake_19 (by decide) ?_
    exact g_zret_0 C hr dX0_areAllAwake_20 ⟨by simp [bi, c12], rfl, rfl⟩
  · skip
    refine g_iconst C (v := 1) dX0_areAllAwake_15 (by decide) ?_
    refine g_goto C (tgt := 20) dX0_areAllAwake_16 (by decide) ?_
    exact g_zret_1 C hr dX0_areAllAwake_20 ⟨by simp [bi, c12], rfl, rfl⟩

set_option maxRecDepth 100000 in
set_option maxHeartbeats 4000000 in
theorem tX0_clear {l : Launch} {E : EE} {N : Nat} {I : Mi} {F : Mr} {a : Nat} (ha : CH N F a)  : CtF l E mX0_clear [rf E a] N I F N none (clearC I a) F := by
  refine CtF_of [some (rf E a), none] (by decide) rfl (Nat.le_of_ble_eq_true rfl) rfl (fun p e s m args below meth c C hr hname => ?_)
  refine g_aload_n C dX0_clear_0 rfl rfl ?_
  refine g_iconst C (v := 0) dX0_clear_1 (by decide) ?_
  refine pfX0_52 C ha.o dX0_clear_2 ?_
  refine g_aload_n C dX0_clear_5 rfl rfl ?_
  refine g_iconst C (v := 0) dX0_clear_6 (by decide) ?_
  refine pfX0_55 C ha.o dX0_clear_7 ?_
  refine g_aload_n C dX0_clear_10 rfl rfl ?_
  refine g_iconst C (v := 0) dX0_clear_11 (by decide) ?_
  refine pfX0_58 C ha.o dX0_clear_12 ?_
  refine g_aload_n C dX0_clear_15 rfl rfl ?_
  refine g_iconst C (v := 0) dX0_clear_16 (by decide) ?_
  refine pfX0_61 C ha.o dX0_clear_17 ?_
  refine g_aload_n C dX0_clear_20 rfl rfl ?_
  refine g_iconst C (v := 0) dX0_clear_21 (by decide) ?_
  refine pfX0_64 C ha.o dX0_clear_22 ?_
  refine g_aload_n C dX0_clear_25 rfl rfl ?_
  refine g_iconst C (v := 0) dX0_clear_26 (by decide) ?_
  refine pfX0_67 C ha.o dX0_clear_27 ?_
  refine g_aload_n C dX0_clear_30 rfl rfl ?_
  refine g_iconst C (v := 0) dX0_clear_31 (by decide) ?_
  refine pfX0_70 C ha.o dX0_clear_32 ?_
  refine g_iconst C (v := 0) dX0_clear_35 (by decide) ?_
  refine g_istore_n C dX0_clear_36 rfl (by decide) rfl ?_
  refine G_loop (n := 8) (fun i => [some (rf E a), some (.int (nI i))]) (fun i => lp (clrB a) i (clrS I a)) (fun _ => F) rfl rfl rfl ?_ ?_
  · intro i37 hi37 ih37
    refine g_iload_n C dX0_clear_37 rfl rfl ?_
    refine g_bipush C (v := 8) dX0_clear_38 (by decide) ?_
    refine g_icmp_ge C (tgt := 112) dX0_clear_40 (by decide) (fun c40 => absurd c40 (nI_nge rfl hi37 (by decide))) (fun _ => ?_)
    refine g_aload_n C dX0_clear_43 rfl rfl ?_
    refine gfX0_9 C ha.o ha.f3 dX0_clear_44 ?_
    refine g_iload_n C dX0_clear_47 rfl rfl ?_
    refine g_iconst C (v := 0) dX0_clear_48 (by decide) ?_
    refine g_iast_j C ha.r1 (i37) rfl hi37 (by decide) dX0_clear_49 ?_
    refine g_aload_n C dX0_clear_50 rfl rfl ?_
    refine gfX0_15 C ha.o ha.f4 dX0_clear_51 ?_
    refine g_iload_n C dX0_clear_54 rfl rfl ?_
    refine g_iconst C (v := 0) dX0_clear_55 (by decide) ?_
    refine g_iast_j C ha.r2 (i37) rfl hi37 (by decide) dX0_clear_56 ?_
    refine g_aload_n C dX0_clear_57 rfl rfl ?_
    refine gfX0_18 C ha.o ha.f5 dX0_clear_58 ?_
    refine g_iload_n C dX0_clear_61 rfl rfl ?_
    refine g_iconst C (v := 0) dX0_clear_62 (by decide) ?_
    refine g_iast_j C ha.r3 (i37) rfl hi37 (by decide) dX0_clear_63 ?_
    refine g_aload_n C dX0_clear_64 rfl rfl ?_
    refine gfX0_21 C ha.o ha.f6 dX0_clear_65 ?_
    refine g_iload_n C dX0_clear_68 rfl rfl ?_
    refine g_iconst C (v := (-1)) dX0_clear_69 (by decide) ?_
    refine g_iast_j C ha.r4 (i37) rfl hi37 (by decide) dX0_clear_70 ?_
    refine g_aload_n C dX0_clear_71 rfl rfl ?_
    refine gfX0_24 C ha.o ha.f7 dX0_clear_72 ?_
    refine g_iload_n C dX0_clear_75 rfl rfl ?_
    refine g_iconst C (v := 0) dX0_clear_76 (by decide) ?_
    refine g_iast_j C ha.r5 (i37) rfl hi37 (by decide) dX0_clear_77 ?_
    refine g_aload_n C dX0_clear_78 rfl rfl ?_
    refine gfX0_27 C ha.o ha.f8 dX0_clear_79 ?_
    refine g_iload_n C dX0_clear_82 rfl rfl ?_
    refine g_iconst C (v := 0) dX0_clear_83 (by decide) ?_
    refine g_iast_j C ha.r6 (i37) rfl hi37 (by decide) dX0_clear_84 ?_
    refine g_aload_n C dX0_clear_85 rfl rfl ?_
    refine gfX0_30 C ha.o ha.f9 dX0_clear_86 ?_
    refine g_iload_n C dX0_clear_89 rfl rfl ?_
    refine g_iconst C (v := 0) dX0_clear_90 (by decide) ?_
    refine g_iast_j C ha.r7 (i37) rfl hi37 (by decide) dX0_clear_91 ?_
    refine g_aload_n C dX0_clear_92 rfl rfl ?_
    refine gfX0_33 C ha.o ha.f10 dX0_clear_93 ?_
    refine g_iload_n C dX0_clear_96 rfl rfl ?_
    refine g_iconst C (v := 0) dX0_clear_97 (by decide) ?_
    refine g_iast_j C ha.r8 (i37) rfl hi37 (by decide) dX0_clear_98 ?_
    refine g_aload_n C dX0_clear_99 rfl rfl ?_
    refine gfX0_36 C ha.o ha.f11 dX0_clear_100 ?_
    refine g_iload_n C dX0_clear_103 rfl rfl ?_
    refine g_iconst C (v := 0) dX0_clear_104 (by decide) ?_
    refine g_iast_j C ha.r9 (i37) rfl hi37 (by decide) dX0_clear_105 ?_
    refine g_iinc C dX0_clear_106 rfl (nI_inc _) (by decide) rfl ?_
    refine g_goto C (tgt := 37) dX0_clear_109 (by decide) ?_
    exact G_cast ih37 (by first | rfl | (simp only [lp, clrB, lp, ↓reduceIte, Bool.false_eq_true, reduceCtorEq]; first | done | rfl)) rfl rfl rfl
  · skip
    refine g_iload_n C dX0_clear_37 rfl rfl ?_
    refine g_bipush C (v := 8) dX0_clear_38 (by decide) ?_
    refine g_icmp_ge C (tgt := 112) dX0_clear_40 (by decide) (fun _ => ?_) (fun c40 => absurd (nI_lee rfl) c40)
    exact g_vret C hr dX0_clear_112 ⟨rfl, rfl, rfl⟩

set_option maxRecDepth 100000 in
set_option maxHeartbeats 4000000 in
theorem tX0_orderToWake {l : Launch} {E : EE} {N : Nat} {I : Mi} {F : Mr} {a : Nat} (ha : CH N F a) (hN : 0 < N) {i : Nat} (hi : i < 8)  : CtF l E mX0_orderToWake [rf E a, .int (nI i)] N I F N none (otwC I a i) F := by
  refine CtF_of [some (rf E a), some (.int (nI i))] (by decide) rfl (Nat.le_of_ble_eq_true rfl) rfl (fun p e s m args below meth c C hr hname => ?_)
  refine g_iload_n C dX0_orderToWake_0 rfl rfl ?_
  refine kX0_73 C hN (tX0_isPlace _) ⟨⟨Nat.le_of_ble_eq_true rfl, Nat.le_of_ble_eq_true rfl⟩, Nat.le_of_ble_eq_true rfl, Nat.le_of_ble_eq_true rfl⟩ (Nat.le_of_ble_eq_true rfl) dX0_orderToWake_1 ?_
  refine g_ifeq_b C (tgt := 44) dX0_orderToWake_4 (by decide) (fun c4 => (bt_f (isP_n hi) c4).elim) (fun _ => ?_)
  refine g_aload_n C dX0_orderToWake_7 rfl rfl ?_
  refine gfX0_61 C ha.o dX0_orderToWake_8 ?_
  refine kX0_73 C hN (tX0_isPlace _) ⟨⟨Nat.le_of_ble_eq_true rfl, Nat.le_of_ble_eq_true rfl⟩, Nat.le_of_ble_eq_true rfl, Nat.le_of_ble_eq_true rfl⟩ (Nat.le_of_ble_eq_true rfl) dX0_orderToWake_11 ?_
  refine g_ifeq_b C (tgt := 44) dX0_orderToWake_14 (by decide) (fun c14 => ?_) (fun c14 => ?_)
  · skip
    exact g_vret C hr dX0_orderToWake_44 ⟨rfl, by simp only [otwC, c14, ↓reduceIte, Bool.false_eq_true], rfl⟩
  · skip
    refine g_aload_n C dX0_orderToWake_17 rfl rfl ?_
    refine gfX0_21 C ha.o ha.f6 dX0_orderToWake_18 ?_
    refine g_iload_n C dX0_orderToWake_21 rfl rfl ?_
    refine g_iconst C (v := 3) dX0_orderToWake_22 (by decide) ?_
    refine g_iast_j C ha.r4 (i) rfl hi (by decide) dX0_orderToWake_23 ?_
    refine g_aload_n C dX0_orderToWake_24 rfl rfl ?_
    refine gfX0_36 C ha.o ha.f11 dX0_orderToWake_25 ?_
    refine g_aload_n C dX0_orderToWake_28 rfl rfl ?_
    refine gfX0_61 C ha.o dX0_orderToWake_29 ?_
    refine g_iload_n C dX0_orderToWake_32 rfl rfl ?_
    refine g_iast C ha.r9 (by rw [show up I (a + 4) i 3 a 12 = I a 12 by simp [up]]; exact isP_in c14) dX0_orderToWake_33 ?_
    refine g_aload_n C dX0_orderToWake_34 rfl rfl ?_
    refine g_dup C dX0_orderToWake_35 rfl ?_
    refine gfX0_61 C ha.o dX0_orderToWake_36 ?_
    refine g_iconst C (v := 1) dX0_orderToWake_39 (by decide) ?_
    refine g_iadd C dX0_orderToWake_40 ?_
    refine pfX0_61 C ha.o dX0_orderToWake_41 ?_
    exact g_vret C hr dX0_orderToWake_44 ⟨rfl, by simp only [otwC, c14, ↓reduceIte, Bool.false_eq_true], rfl⟩

set_option maxRecDepth 100000 in
set_option maxHeartbeats 4000000 in
theorem tX0_orderSleepersToWake {l : Launch} {E : EE} {N : Nat} {I : Mi} {F : Mr} {a : Nat} (ha : CH N F a) (hN : 0 < N)  : CtF l E mX0_orderSleepersToWake [rf E a] N I F N none (oswC I a) F := by
  refine CtF_of [some (rf E a), none] (by decide) rfl (Nat.le_of_ble_eq_true rfl) rfl (fun p e s m args below meth c C hr hname => ?_)
  refine g_iconst C (v := 0) dX0_orderSleepersToWake_0 (by decide) ?_
  refine g_istore_n C dX0_orderSleepersToWake_1 rfl (by decide) rfl ?_
  refine G_loop (n := 8) (fun i => [some (rf E a), some (.int (nI i))]) (fun i => lp (fun i I => if I (a + 4) i = 2 then otwC I a i else I) i I) (fun _ => F) rfl rfl rfl ?_ ?_
  · intro i2 hi2 ih2
    refine g_iload_n C dX0_orderSleepersToWake_2 rfl rfl ?_
    refine g_bipush C (v := 8) dX0_orderSleepersToWake_3 (by decide) ?_
    refine g_icmp_ge C (tgt := 29) dX0_orderSleepersToWake_5 (by decide) (fun c5 => absurd c5 (nI_nge rfl hi2 (by decide))) (fun _ => ?_)
    refine g_aload_n C dX0_orderSleepersToWake_8 rfl rfl ?_
    refine gfX0_21 C ha.o ha.f6 dX0_orderSleepersToWake_9 ?_
    refine g_iload_n C dX0_orderSleepersToWake_12 rfl rfl ?_
    refine g_iald_j C ha.r4 (i2) rfl hi2 (by decide) dX0_orderSleepersToWake_13 ?_
    refine g_iconst C (v := 2) dX0_orderSleepersToWake_14 (by decide) ?_
    refine g_icmp_ne C (tgt := 23) dX0_orderSleepersToWake_15 (by decide) (fun c15 => ?_) (fun c15 => ?_)
    · skip
      refine g_iinc C dX0_orderSleepersToWake_23 rfl (nI_inc _) (by decide) rfl ?_
      refine g_goto C (tgt := 2) dX0_orderSleepersToWake_26 (by decide) ?_
      exact G_cast ih2 (by first | rfl | (simp only [lp, c15, ↓reduceIte, Bool.false_eq_true, reduceCtorEq]; first | done | rfl)) rfl rfl rfl
    · skip
      refine g_aload_n C dX0_orderSleepersToWake_18 rfl rfl ?_
      refine g_iload_n C dX0_orderSleepersToWake_19 rfl rfl ?_
      refine kX0_93 C ha.o (tX0_orderToWake ha hN hi2) ⟨⟨Nat.le_of_ble_eq_true rfl, Nat.le_of_ble_eq_true rfl⟩, Nat.le_of_ble_eq_true rfl, Nat.le_of_ble_eq_true rfl⟩ (Nat.le_of_ble_eq_true rfl) dX0_orderSleepersToWake_20 ?_
      refine g_iinc C dX0_orderSleepersToWake_23 rfl (nI_inc _) (by decide) rfl ?_
      refine g_goto C (tgt := 2) dX0_orderSleepersToWake_26 (by decide) ?_
      exact G_cast ih2 (by first | rfl | (simp only [lp, c15, ↓reduceIte, Bool.false_eq_true, reduceCtorEq]; first | done | rfl)) rfl rfl rfl
  · skip
    refine g_iload_n C dX0_orderSleepersToWake_2 rfl rfl ?_
    refine g_bipush C (v := 8) dX0_orderSleepersToWake_3 (by decide) ?_
    refine g_icmp_ge C (tgt := 29) dX0_orderSleepersToWake_5 (by decide) (fun _ => ?_) (fun c5 => absurd (nI_lee rfl) c5)
    exact g_vret C hr dX0_orderSleepersToWake_29 ⟨rfl, rfl, rfl⟩

set_option maxRecDepth 100000 in
set_option maxHeartbeats 4000000 in
theorem tX0_sumTold {l : Launch} {E : EE} {N : Nat} {I : Mi} {F : Mr} {a : Nat} (ha : CH N F a) (hN : 0 < N) (x : Int32)  : CtF l E mX0_sumTold [rf E a, .int x] N I F N (some (.int (sumTC I a x))) I F := by
  refine CtF_of [some (rf E a), some (.int x), none, none] (by decide) rfl (Nat.le_of_ble_eq_true rfl) rfl (fun p e s m args below meth c C hr hname => ?_)
  refine g_iconst C (v := 0) dX0_sumTold_0 (by decide) ?_
  refine g_istore_n C dX0_sumTold_1 rfl (by decide) rfl ?_
  refine g_iconst C (v := 0) dX0_sumTold_2 (by decide) ?_
  refine g_istore_n C dX0_sumTold_3 rfl (by decide) rfl ?_
  refine G_loop (n := 8) (fun i => [some (rf E a), some (.int x), some (.int (lp (fun i acc => if isI x (nI i) = true then acc + I (a + 10) i else acc) i 0)), some (.int (nI i))]) (fun i => I) (fun _ => F) rfl rfl rfl ?_ ?_
  · intro i4 hi4 ih4
    refine g_iload_n C dX0_sumTold_4 rfl rfl ?_
    refine g_bipush C (v := 8) dX0_sumTold_5 (by decide) ?_
    refine g_icmp_ge C (tgt := 33) dX0_sumTold_7 (by decide) (fun c7 => absurd c7 (nI_nge rfl hi4 (by decide))) (fun _ => ?_)
    refine g_iload_n C dX0_sumTold_10 rfl rfl ?_
    refine g_iload_n C dX0_sumTold_11 rfl rfl ?_
    refine kX0_77 C hN (tX4_isIn _ _) ⟨⟨Nat.le_of_ble_eq_true rfl, Nat.le_of_ble_eq_true rfl⟩, Nat.le_of_ble_eq_true rfl, Nat.le_of_ble_eq_true rfl⟩ (Nat.le_of_ble_eq_true rfl) dX0_sumTold_12 ?_
    refine g_ifeq_b C (tgt := 27) dX0_sumTold_15 (by decide) (fun c15 => ?_) (fun c15 => ?_)
    · skip
      refine g_iinc C dX0_sumTold_27 rfl (nI_inc _) (by decide) rfl ?_
      refine g_goto C (tgt := 4) dX0_sumTold_30 (by decide) ?_
      exact G_cast ih4 rfl rfl (by first | rfl | (simp only [lp, c15, ↓reduceIte, Bool.false_eq_true, reduceCtorEq]; first | done | rfl)) rfl
    · skip
      refine g_iload_n C dX0_sumTold_18 rfl rfl ?_
      refine g_aload_n C dX0_sumTold_19 rfl rfl ?_
      refine gfX0_39 C ha.o ha.f18 dX0_sumTold_20 ?_
      refine g_iload_n C dX0_sumTold_23 rfl rfl ?_
      refine g_iald_j C ha.r10 (i4) rfl hi4 (by decide) dX0_sumTold_24 ?_
      refine g_iadd C dX0_sumTold_25 ?_
      refine g_istore_n C dX0_sumTold_26 rfl (by decide) rfl ?_
      refine g_iinc C dX0_sumTold_27 rfl (nI_inc _) (by decide) rfl ?_
      refine g_goto C (tgt := 4) dX0_sumTold_30 (by decide) ?_
      exact G_cast ih4 rfl rfl (by first | rfl | (simp only [lp, c15, ↓reduceIte, Bool.false_eq_true, reduceCtorEq]; first | done | rfl)) rfl
  · skip
    refine g_iload_n C dX0_sumTold_4 rfl rfl ?_
    refine g_bipush C (v := 8) dX0_sumTold_5 (by decide) ?_
    refine g_icmp_ge C (tgt := 33) dX0_sumTold_7 (by decide) (fun _ => ?_) (fun c7 => absurd (nI_lee rfl) c7)
    refine g_iload_n C dX0_sumTold_33 rfl rfl ?_
    exact g_iret C hr dX0_sumTold_34 ⟨rfl, rfl, rfl⟩

set_option maxRecDepth 100000 in
set_option maxHeartbeats 4000000 in
theorem tX0_readOneAnother {l : Launch} {E : EE} {N : Nat} {I : Mi} {F : Mr} {a : Nat} (ha : CH N F a) (hN : 0 < N)  : CtF l E mX0_readOneAnother [rf E a] N I F N none (rdoC I a) F := by
  refine CtF_of [some (rf E a), none, none] (by decide) rfl (Nat.le_of_ble_eq_true rfl) rfl (fun p e s m args below meth c C hr hname => ?_)
  refine g_iconst C (v := 0) dX0_readOneAnother_0 (by decide) ?_
  refine g_istore_n C dX0_readOneAnother_1 rfl (by decide) rfl ?_
  refine g_iconst C (v := 0) dX0_readOneAnother_2 (by decide) ?_
  refine g_istore_n C dX0_readOneAnother_3 rfl (by decide) rfl ?_
  refine G_loop (n := 8) (fun i => [some (rf E a), some (.int (lp (ro1C a) i (I, 0)).2), some (.int (nI i))]) (fun i => (lp (ro1C a) i (I, 0)).1) (fun _ => F) rfl rfl rfl ?_ ?_
  · intro i4 hi4 ih4
    refine g_iload_n C dX0_readOneAnother_4 rfl rfl ?_
    refine g_bipush C (v := 8) dX0_readOneAnother_5 (by decide) ?_
    refine g_icmp_ge C (tgt := 52) dX0_readOneAnother_7 (by decide) (fun c7 => absurd c7 (nI_nge rfl hi4 (by decide))) (fun _ => ?_)
    refine g_aload_n C dX0_readOneAnother_10 rfl rfl ?_
    refine gfX0_39 C ha.o ha.f18 dX0_readOneAnother_11 ?_
    refine g_iload_n C dX0_readOneAnother_14 rfl rfl ?_
    refine g_aload_n C dX0_readOneAnother_15 rfl rfl ?_
    refine g_iload_n C dX0_readOneAnother_16 rfl rfl ?_
    refine kX0_113 C ha.o (tX0_whatTells ha hN hi4) ⟨⟨Nat.le_of_ble_eq_true rfl, Nat.le_of_ble_eq_true rfl⟩, Nat.le_of_ble_eq_true rfl, Nat.le_of_ble_eq_true rfl⟩ (Nat.le_of_ble_eq_true rfl) dX0_readOneAnother_17 ?_
    refine g_iast_j C ha.r10 (i4) rfl hi4 (by decide) dX0_readOneAnother_20 ?_
    refine g_aload_n C dX0_readOneAnother_21 rfl rfl ?_
    refine g_iload_n C dX0_readOneAnother_22 rfl rfl ?_
    refine kX0_81 C ha.o (tX0_isHeard ha hN hi4) ⟨⟨Nat.le_of_ble_eq_true rfl, Nat.le_of_ble_eq_true rfl⟩, Nat.le_of_ble_eq_true rfl, Nat.le_of_ble_eq_true rfl⟩ (Nat.le_of_ble_eq_true rfl) dX0_readOneAnother_23 ?_
    refine g_ifne_b C (tgt := 46) dX0_readOneAnother_26 (by decide) (fun c26 => ?_) (fun c26 => ?_)
    · skip
      refine g_iinc C dX0_readOneAnother_46 rfl (nI_inc _) (by decide) rfl ?_
      refine g_goto C (tgt := 4) dX0_readOneAnother_49 (by decide) ?_
      exact G_cast ih4 rfl rfl (by first | rfl | (simp only [lp, ro1C, c26, ↓reduceIte, Bool.false_eq_true, reduceCtorEq]; first | done | rfl)) rfl
    · skip
      refine g_aload_n C dX0_readOneAnother_29 rfl rfl ?_
      refine gfX0_55 C ha.o dX0_readOneAnother_30 ?_
      refine g_iload_n C dX0_readOneAnother_33 rfl rfl ?_
      refine kX0_77 C hN (tX4_isIn _ _) ⟨⟨Nat.le_of_ble_eq_true rfl, Nat.le_of_ble_eq_true rfl⟩, Nat.le_of_ble_eq_true rfl, Nat.le_of_ble_eq_true rfl⟩ (Nat.le_of_ble_eq_true rfl) dX0_readOneAnother_34 ?_
      refine g_ifne_b C (tgt := 46) dX0_readOneAnother_37 (by decide) (fun c37 => ?_) (fun c37 => ?_)
      · skip
        refine g_iinc C dX0_readOneAnother_46 rfl (nI_inc _) (by decide) rfl ?_
        refine g_goto C (tgt := 4) dX0_readOneAnother_49 (by decide) ?_
        exact G_cast ih4 rfl rfl (by first | rfl | (simp only [lp, ro1C, c26, c37, ↓reduceIte, Bool.false_eq_true, reduceCtorEq]; first | done | rfl)) rfl
      · skip
        refine g_iload_n C dX0_readOneAnother_40 rfl rfl ?_
        refine g_iconst C (v := 1) dX0_readOneAnother_41 (by decide) ?_
        refine g_iload_n C dX0_readOneAnother_42 rfl rfl ?_
        refine g_ishl C dX0_readOneAnother_43 ?_
        refine g_ior C dX0_readOneAnother_44 ?_
        refine g_istore_n C dX0_readOneAnother_45 rfl (by decide) rfl ?_
        refine g_iinc C dX0_readOneAnother_46 rfl (nI_inc _) (by decide) rfl ?_
        refine g_goto C (tgt := 4) dX0_readOneAnother_49 (by decide) ?_
        exact G_cast ih4 rfl rfl (by first | rfl | (simp only [lp, ro1C, c26, c37, ↓reduceIte, Bool.false_eq_true, reduceCtorEq]; first | done | rfl)) rfl
  · skip
    refine g_iload_n C dX0_readOneAnother_4 rfl rfl ?_
    refine g_bipush C (v := 8) dX0_readOneAnother_5 (by decide) ?_
    refine g_icmp_ge C (tgt := 52) dX0_readOneAnother_7 (by decide) (fun _ => ?_) (fun c7 => absurd (nI_lee rfl) c7)
    refine g_iconst C (v := 0) dX0_readOneAnother_52 (by decide) ?_
    refine g_istore_n C dX0_readOneAnother_53 rfl (by decide) rfl ?_
    refine G_loop (n := 8) (fun i => [some (rf E a), some (.int (ro1R I a).2), some (.int (nI i))]) (fun i => lp (ro2C a (ro1R I a).2) i (ro1R I a).1) (fun _ => F) rfl rfl rfl ?_ ?_
    · intro i54 hi54 ih54
      refine g_iload_n C dX0_readOneAnother_54 rfl rfl ?_
      refine g_bipush C (v := 8) dX0_readOneAnother_55 (by decide) ?_
      refine g_icmp_ge C (tgt := 122) dX0_readOneAnother_57 (by decide) (fun c57 => absurd c57 (nI_nge rfl hi54 (by decide))) (fun _ => ?_)
      refine g_aload_n C dX0_readOneAnother_60 rfl rfl ?_
      refine gfX0_21 C ha.o ha.f6 dX0_readOneAnother_61 ?_
      refine g_iload_n C dX0_readOneAnother_64 rfl rfl ?_
      refine g_iald_j C ha.r4 (i54) rfl hi54 (by decide) dX0_readOneAnother_65 ?_
      refine g_if_ne C (tgt := 116) dX0_readOneAnother_66 (by decide) (fun c66 => ?_) (fun c66 => ?_)
      · skip
        refine g_iinc C dX0_readOneAnother_116 rfl (nI_inc _) (by decide) rfl ?_
        refine g_goto C (tgt := 54) dX0_readOneAnother_119 (by decide) ?_
        exact G_cast ih54 (by first | rfl | (simp only [lp, ro2C, c66, ↓reduceIte, Bool.false_eq_true, reduceCtorEq]; first | done | rfl)) rfl rfl rfl
      · skip
        refine g_aload_n C dX0_readOneAnother_69 rfl rfl ?_
        refine gfX0_24 C ha.o ha.f7 dX0_readOneAnother_70 ?_
        refine g_iload_n C dX0_readOneAnother_73 rfl rfl ?_
        refine g_aload_n C dX0_readOneAnother_74 rfl rfl ?_
        refine gfX0_24 C ha.o ha.f7 dX0_readOneAnother_75 ?_
        refine g_iload_n C dX0_readOneAnother_78 rfl rfl ?_
        refine g_iald_j C ha.r5 (i54) rfl hi54 (by decide) dX0_readOneAnother_79 ?_
        refine g_aload_n C dX0_readOneAnother_80 rfl rfl ?_
        refine g_aload_n C dX0_readOneAnother_81 rfl rfl ?_
        refine gfX0_18 C ha.o ha.f5 dX0_readOneAnother_82 ?_
        refine g_iload_n C dX0_readOneAnother_85 rfl rfl ?_
        refine g_iald_j C ha.r3 (i54) rfl hi54 (by decide) dX0_readOneAnother_86 ?_
        refine kX0_116 C ha.o (tX0_sumTold ha hN _) ⟨⟨Nat.le_of_ble_eq_true rfl, Nat.le_of_ble_eq_true rfl⟩, Nat.le_of_ble_eq_true rfl, Nat.le_of_ble_eq_true rfl⟩ (Nat.le_of_ble_eq_true rfl) dX0_readOneAnother_87 ?_
        refine g_iadd C dX0_readOneAnother_90 ?_
        refine g_sipush C (v := 255) dX0_readOneAnother_91 (by decide) ?_
        refine g_iand C dX0_readOneAnother_94 ?_
        refine g_iast_j C ha.r5 (i54) rfl hi54 (by decide) dX0_readOneAnother_95 ?_
        refine g_aload_n C dX0_readOneAnother_96 rfl rfl ?_
        refine gfX0_33 C ha.o ha.f10 dX0_readOneAnother_97 ?_
        refine g_iload_n C dX0_readOneAnother_100 rfl rfl ?_
        refine g_dup2_11 C dX0_readOneAnother_101 rfl rfl ?_
        refine g_iald_j C ha.r8 (i54) rfl hi54 (by decide) dX0_readOneAnother_102 ?_
        refine g_aload_n C dX0_readOneAnother_103 rfl rfl ?_
        refine gfX0_18 C ha.o ha.f5 dX0_readOneAnother_104 ?_
        refine g_iload_n C dX0_readOneAnother_107 rfl rfl ?_
        refine g_iald_j C ha.r3 (i54) rfl hi54 (by decide) dX0_readOneAnother_108 ?_
        refine g_iload_n C dX0_readOneAnother_109 rfl rfl ?_
        refine g_iand C dX0_readOneAnother_110 ?_
        refine kX0_88 C hN (tbitCount _) ⟨⟨Nat.le_of_ble_eq_true rfl, Nat.le_of_ble_eq_true rfl⟩, Nat.le_of_ble_eq_true rfl, Nat.le_of_ble_eq_true rfl⟩ (Nat.le_of_ble_eq_true rfl) dX0_readOneAnother_111 ?_
        refine g_iadd C dX0_readOneAnother_114 ?_
        refine g_iast_j C ha.r8 (i54) rfl hi54 (by decide) dX0_readOneAnother_115 ?_
        refine g_iinc C dX0_readOneAnother_116 rfl (nI_inc _) (by decide) rfl ?_
        refine g_goto C (tgt := 54) dX0_readOneAnother_119 (by decide) ?_
        exact G_cast ih54 (by first | rfl | (simp only [lp, ro2C, c66, ↓reduceIte, Bool.false_eq_true, reduceCtorEq]; first | done | rfl)) rfl rfl rfl
    · skip
      refine g_iload_n C dX0_readOneAnother_54 rfl rfl ?_
      refine g_bipush C (v := 8) dX0_readOneAnother_55 (by decide) ?_
      refine g_icmp_ge C (tgt := 122) dX0_readOneAnother_57 (by decide) (fun _ => ?_) (fun c57 => absurd (nI_lee rfl) c57)
      exact g_vret C hr dX0_readOneAnother_122 ⟨rfl, rfl, rfl⟩

set_option maxRecDepth 100000 in
set_option maxHeartbeats 4000000 in
theorem tX0_keepOrLose {l : Launch} {E : EE} {N : Nat} {I : Mi} {F : Mr} {a : Nat} (ha : CH N F a) (hN : 0 < N) {i : Nat} (hi : i < 8)  : CtF l E mX0_keepOrLose [rf E a, .int (nI i)] N I F N none (keepC I a i) F := by
  refine CtF_of [some (rf E a), some (.int (nI i))] (by decide) rfl (Nat.le_of_ble_eq_true rfl) rfl (fun p e s m args below meth c C hr hname => ?_)
  refine g_iload_n C dX0_keepOrLose_0 rfl rfl ?_
  refine kX0_73 C hN (tX0_isPlace _) ⟨⟨Nat.le_of_ble_eq_true rfl, Nat.le_of_ble_eq_true rfl⟩, Nat.le_of_ble_eq_true rfl, Nat.le_of_ble_eq_true rfl⟩ (Nat.le_of_ble_eq_true rfl) dX0_keepOrLose_1 ?_
  refine g_ifne_b C (tgt := 8) dX0_keepOrLose_4 (by decide) (fun _ => ?_) (fun c4 => (bt_f (isP_n hi) c4).elim)
  refine g_aload_n C dX0_keepOrLose_8 rfl rfl ?_
  refine gfX0_58 C ha.o dX0_keepOrLose_9 ?_
  refine g_iload_n C dX0_keepOrLose_12 rfl rfl ?_
  refine kX0_77 C hN (tX4_isIn _ _) ⟨⟨Nat.le_of_ble_eq_true rfl, Nat.le_of_ble_eq_true rfl⟩, Nat.le_of_ble_eq_true rfl, Nat.le_of_ble_eq_true rfl⟩ (Nat.le_of_ble_eq_true rfl) dX0_keepOrLose_13 ?_
  refine g_ifeq_b C (tgt := 34) dX0_keepOrLose_16 (by decide) (fun c16 => ?_) (fun c16 => ?_)
  · skip
    refine g_aload_n C dX0_keepOrLose_34 rfl rfl ?_
    refine gfX0_24 C ha.o ha.f7 dX0_keepOrLose_35 ?_
    refine g_iload_n C dX0_keepOrLose_38 rfl rfl ?_
    refine g_iald_j C ha.r5 (i) rfl hi (by decide) dX0_keepOrLose_39 ?_
    refine g_if_le C (tgt := 53) dX0_keepOrLose_40 (by decide) (fun c40 => ?_) (fun c40 => ?_)
    · skip
      refine g_aload_n C dX0_keepOrLose_53 rfl rfl ?_
      refine gfX0_24 C ha.o ha.f7 dX0_keepOrLose_54 ?_
      refine g_iload_n C dX0_keepOrLose_57 rfl rfl ?_
      refine g_iconst C (v := 0) dX0_keepOrLose_58 (by decide) ?_
      refine g_iast_j C ha.r5 (i) rfl hi (by decide) dX0_keepOrLose_59 ?_
      exact g_vret C hr dX0_keepOrLose_60 ⟨rfl, by simp only [keepC, c16, c40, ↓reduceIte, Bool.false_eq_true], rfl⟩
    · skip
      refine g_aload_n C dX0_keepOrLose_43 rfl rfl ?_
      refine g_dup C dX0_keepOrLose_44 rfl ?_
      refine gfX0_67 C ha.o dX0_keepOrLose_45 ?_
      refine g_iconst C (v := 1) dX0_keepOrLose_48 (by decide) ?_
      refine g_iadd C dX0_keepOrLose_49 ?_
      refine pfX0_67 C ha.o dX0_keepOrLose_50 ?_
      refine g_aload_n C dX0_keepOrLose_53 rfl rfl ?_
      refine gfX0_24 C ha.o ha.f7 dX0_keepOrLose_54 ?_
      refine g_iload_n C dX0_keepOrLose_57 rfl rfl ?_
      refine g_iconst C (v := 0) dX0_keepOrLose_58 (by decide) ?_
      refine g_iast_j C ha.r5 (i) rfl hi (by decide) dX0_keepOrLose_59 ?_
      exact g_vret C hr dX0_keepOrLose_60 ⟨rfl, by simp only [keepC, c16, c40, ↓reduceIte, Bool.false_eq_true], rfl⟩
  · skip
    refine g_aload_n C dX0_keepOrLose_19 rfl rfl ?_
    refine gfX0_27 C ha.o ha.f8 dX0_keepOrLose_20 ?_
    refine g_iload_n C dX0_keepOrLose_23 rfl rfl ?_
    refine g_aload_n C dX0_keepOrLose_24 rfl rfl ?_
    refine gfX0_24 C ha.o ha.f7 dX0_keepOrLose_25 ?_
    refine g_iload_n C dX0_keepOrLose_28 rfl rfl ?_
    refine g_iald_j C ha.r5 (i) rfl hi (by decide) dX0_keepOrLose_29 ?_
    refine g_iast_j C ha.r6 (i) rfl hi (by decide) dX0_keepOrLose_30 ?_
    refine g_goto C (tgt := 53) dX0_keepOrLose_31 (by decide) ?_
    refine g_aload_n C dX0_keepOrLose_53 rfl rfl ?_
    refine gfX0_24 C ha.o ha.f7 dX0_keepOrLose_54 ?_
    refine g_iload_n C dX0_keepOrLose_57 rfl rfl ?_
    refine g_iconst C (v := 0) dX0_keepOrLose_58 (by decide) ?_
    refine g_iast_j C ha.r5 (i) rfl hi (by decide) dX0_keepOrLose_59 ?_
    exact g_vret C hr dX0_keepOrLose_60 ⟨rfl, by simp only [keepC, c16, ↓reduceIte, Bool.false_eq_true], rfl⟩

set_option maxRecDepth 100000 in
set_option maxHeartbeats 4000000 in
theorem tX0_endFalling {l : Launch} {E : EE} {N : Nat} {I : Mi} {F : Mr} {a : Nat} (ha : CH N F a) (hN : 0 < N)  : CtF l E mX0_endFalling [rf E a] N I F N none (fallC I a) F := by
  refine CtF_of [some (rf E a), none] (by decide) rfl (Nat.le_of_ble_eq_true rfl) rfl (fun p e s m args below meth c C hr hname => ?_)
  refine g_iconst C (v := 0) dX0_endFalling_0 (by decide) ?_
  refine g_istore_n C dX0_endFalling_1 rfl (by decide) rfl ?_
  refine G_loop (n := 8) (fun i => [some (rf E a), some (.int (nI i))]) (fun i => lp (fun i I => if I (a + 4) i = 1 then keepC (up I (a + 4) i 2) a i else I) i I) (fun _ => F) rfl rfl rfl ?_ ?_
  · intro i2 hi2 ih2
    refine g_iload_n C dX0_endFalling_2 rfl rfl ?_
    refine g_bipush C (v := 8) dX0_endFalling_3 (by decide) ?_
    refine g_icmp_ge C (tgt := 36) dX0_endFalling_5 (by decide) (fun c5 => absurd c5 (nI_nge rfl hi2 (by decide))) (fun _ => ?_)
    refine g_aload_n C dX0_endFalling_8 rfl rfl ?_
    refine gfX0_21 C ha.o ha.f6 dX0_endFalling_9 ?_
    refine g_iload_n C dX0_endFalling_12 rfl rfl ?_
    refine g_iald_j C ha.r4 (i2) rfl hi2 (by decide) dX0_endFalling_13 ?_
    refine g_iconst C (v := 1) dX0_endFalling_14 (by decide) ?_
    refine g_icmp_ne C (tgt := 30) dX0_endFalling_15 (by decide) (fun c15 => ?_) (fun c15 => ?_)
    · skip
      refine g_iinc C dX0_endFalling_30 rfl (nI_inc _) (by decide) rfl ?_
      refine g_goto C (tgt := 2) dX0_endFalling_33 (by decide) ?_
      exact G_cast ih2 (by first | rfl | (simp only [lp, c15, ↓reduceIte, Bool.false_eq_true, reduceCtorEq]; first | done | rfl)) rfl rfl rfl
    · skip
      refine g_aload_n C dX0_endFalling_18 rfl rfl ?_
      refine gfX0_21 C ha.o ha.f6 dX0_endFalling_19 ?_
      refine g_iload_n C dX0_endFalling_22 rfl rfl ?_
      refine g_iconst C (v := 2) dX0_endFalling_23 (by decide) ?_
      refine g_iast_j C ha.r4 (i2) rfl hi2 (by decide) dX0_endFalling_24 ?_
      refine g_aload_n C dX0_endFalling_25 rfl rfl ?_
      refine g_iload_n C dX0_endFalling_26 rfl rfl ?_
      refine kX0_131 C ha.o (tX0_keepOrLose ha hN hi2) ⟨⟨Nat.le_of_ble_eq_true rfl, Nat.le_of_ble_eq_true rfl⟩, Nat.le_of_ble_eq_true rfl, Nat.le_of_ble_eq_true rfl⟩ (Nat.le_of_ble_eq_true rfl) dX0_endFalling_27 ?_
      refine g_iinc C dX0_endFalling_30 rfl (nI_inc _) (by decide) rfl ?_
      refine g_goto C (tgt := 2) dX0_endFalling_33 (by decide) ?_
      exact G_cast ih2 (by first | rfl | (simp only [lp, c15, ↓reduceIte, Bool.false_eq_true, reduceCtorEq]; first | done | rfl)) rfl rfl rfl
  · skip
    refine g_iload_n C dX0_endFalling_2 rfl rfl ?_
    refine g_bipush C (v := 8) dX0_endFalling_3 (by decide) ?_
    refine g_icmp_ge C (tgt := 36) dX0_endFalling_5 (by decide) (fun _ => ?_) (fun c5 => absurd (nI_lee rfl) c5)
    exact g_vret C hr dX0_endFalling_36 ⟨rfl, rfl, rfl⟩

set_option maxRecDepth 100000 in
set_option maxHeartbeats 4000000 in
theorem tX0_endRising {l : Launch} {E : EE} {N : Nat} {I : Mi} {F : Mr} {a : Nat} (ha : CH N F a) (hN : 0 < N) {i : Nat} (hi : i < 8)  : CtF l E mX0_endRising [rf E a, .int (nI i)] N I F N none (endRC I a i) F := by
  refine CtF_of [some (rf E a), some (.int (nI i))] (by decide) rfl (Nat.le_of_ble_eq_true rfl) rfl (fun p e s m args below meth c C hr hname => ?_)
  refine g_iload_n C dX0_endRising_0 rfl rfl ?_
  refine kX0_73 C hN (tX0_isPlace _) ⟨⟨Nat.le_of_ble_eq_true rfl, Nat.le_of_ble_eq_true rfl⟩, Nat.le_of_ble_eq_true rfl, Nat.le_of_ble_eq_true rfl⟩ (Nat.le_of_ble_eq_true rfl) dX0_endRising_1 ?_
  refine g_ifne_b C (tgt := 8) dX0_endRising_4 (by decide) (fun _ => ?_) (fun c4 => (bt_f (isP_n hi) c4).elim)
  refine g_aload_n C dX0_endRising_8 rfl rfl ?_
  refine gfX0_21 C ha.o ha.f6 dX0_endRising_9 ?_
  refine g_iload_n C dX0_endRising_12 rfl rfl ?_
  refine g_iconst C (v := 0) dX0_endRising_13 (by decide) ?_
  refine g_iast_j C ha.r4 (i) rfl hi (by decide) dX0_endRising_14 ?_
  refine g_aload_n C dX0_endRising_15 rfl rfl ?_
  refine gfX0_58 C ha.o dX0_endRising_16 ?_
  refine g_iload_n C dX0_endRising_19 rfl rfl ?_
  refine kX0_77 C hN (tX4_isIn _ _) ⟨⟨Nat.le_of_ble_eq_true rfl, Nat.le_of_ble_eq_true rfl⟩, Nat.le_of_ble_eq_true rfl, Nat.le_of_ble_eq_true rfl⟩ (Nat.le_of_ble_eq_true rfl) dX0_endRising_20 ?_
  refine g_ifeq_b C (tgt := 38) dX0_endRising_23 (by decide) (fun c23 => ?_) (fun c23 => ?_)
  · skip
    exact g_vret C hr dX0_endRising_38 ⟨rfl, by simp only [endRC, c23, ↓reduceIte, Bool.false_eq_true], rfl⟩
  · skip
    refine g_aload_n C dX0_endRising_26 rfl rfl ?_
    refine gfX0_24 C ha.o ha.f7 dX0_endRising_27 ?_
    refine g_iload_n C dX0_endRising_30 rfl rfl ?_
    refine g_aload_n C dX0_endRising_31 rfl rfl ?_
    refine gfX0_27 C ha.o ha.f8 dX0_endRising_32 ?_
    refine g_iload_n C dX0_endRising_35 rfl rfl ?_
    refine g_iald_j C ha.r6 (i) rfl hi (by decide) dX0_endRising_36 ?_
    refine g_iast_j C ha.r5 (i) rfl hi (by decide) dX0_endRising_37 ?_
    exact g_vret C hr dX0_endRising_38 ⟨rfl, by simp only [endRC, c23, ↓reduceIte, Bool.false_eq_true], rfl⟩

set_option maxRecDepth 100000 in
set_option maxHeartbeats 4000000 in
theorem tX0_goOnRising {l : Launch} {E : EE} {N : Nat} {I : Mi} {F : Mr} {a : Nat} (ha : CH N F a) (hN : 0 < N)  : CtF l E mX0_goOnRising [rf E a] N I F N none (riseC I a) F := by
  refine CtF_of [some (rf E a), none] (by decide) rfl (Nat.le_of_ble_eq_true rfl) rfl (fun p e s m args below meth c C hr hname => ?_)
  refine g_iconst C (v := 0) dX0_goOnRising_0 (by decide) ?_
  refine g_istore_n C dX0_goOnRising_1 rfl (by decide) rfl ?_
  refine G_loop (n := 8) (fun i => [some (rf E a), some (.int (nI i))]) (fun i => lp (riB a) i I) (fun _ => F) rfl rfl rfl ?_ ?_
  · intro i2 hi2 ih2
    refine g_iload_n C dX0_goOnRising_2 rfl rfl ?_
    refine g_bipush C (v := 8) dX0_goOnRising_3 (by decide) ?_
    refine g_icmp_ge C (tgt := 48) dX0_goOnRising_5 (by decide) (fun c5 => absurd c5 (nI_nge rfl hi2 (by decide))) (fun _ => ?_)
    refine g_aload_n C dX0_goOnRising_8 rfl rfl ?_
    refine gfX0_21 C ha.o ha.f6 dX0_goOnRising_9 ?_
    refine g_iload_n C dX0_goOnRising_12 rfl rfl ?_
    refine g_iald_j C ha.r4 (i2) rfl hi2 (by decide) dX0_goOnRising_13 ?_
    refine g_iconst C (v := 4) dX0_goOnRising_14 (by decide) ?_
    refine g_icmp_ne C (tgt := 42) dX0_goOnRising_15 (by decide) (fun c15 => ?_) (fun c15 => ?_)
    · skip
      refine g_iinc C dX0_goOnRising_42 rfl (nI_inc _) (by decide) rfl ?_
      refine g_goto C (tgt := 2) dX0_goOnRising_45 (by decide) ?_
      exact G_cast ih2 (by first | rfl | (simp only [lp, riB, c15, ↓reduceIte, Bool.false_eq_true, reduceCtorEq]; first | done | rfl)) rfl rfl rfl
    · skip
      refine g_aload_n C dX0_goOnRising_18 rfl rfl ?_
      refine gfX0_30 C ha.o ha.f9 dX0_goOnRising_19 ?_
      refine g_iload_n C dX0_goOnRising_22 rfl rfl ?_
      refine g_dup2_11 C dX0_goOnRising_23 rfl rfl ?_
      refine g_iald_j C ha.r7 (i2) rfl hi2 (by decide) dX0_goOnRising_24 ?_
      refine g_iconst C (v := 1) dX0_goOnRising_25 (by decide) ?_
      refine g_isub C dX0_goOnRising_26 ?_
      refine g_iast_j C ha.r7 (i2) rfl hi2 (by decide) dX0_goOnRising_27 ?_
      refine g_aload_n C dX0_goOnRising_28 rfl rfl ?_
      refine gfX0_30 C ha.o ha.f9 dX0_goOnRising_29 ?_
      refine g_iload_n C dX0_goOnRising_32 rfl rfl ?_
      refine g_iald_j C ha.r7 (i2) rfl hi2 (by decide) dX0_goOnRising_33 ?_
      refine g_if_gt C (tgt := 42) dX0_goOnRising_34 (by decide) (fun c34 => ?_) (fun c34 => ?_)
      · skip
        refine g_iinc C dX0_goOnRising_42 rfl (nI_inc _) (by decide) rfl ?_
        refine g_goto C (tgt := 2) dX0_goOnRising_45 (by decide) ?_
        exact G_cast ih2 (by first | rfl | (simp only [lp, riB, c15, c34, ↓reduceIte, Bool.false_eq_true, reduceCtorEq]; first | done | rfl)) rfl rfl rfl
      · skip
        refine g_aload_n C dX0_goOnRising_37 rfl rfl ?_
        refine g_iload_n C dX0_goOnRising_38 rfl rfl ?_
        refine kX0_134 C ha.o (tX0_endRising ha hN hi2) ⟨⟨Nat.le_of_ble_eq_true rfl, Nat.le_of_ble_eq_true rfl⟩, Nat.le_of_ble_eq_true rfl, Nat.le_of_ble_eq_true rfl⟩ (Nat.le_of_ble_eq_true rfl) dX0_goOnRising_39 ?_
        refine g_iinc C dX0_goOnRising_42 rfl (nI_inc _) (by decide) rfl ?_
        refine g_goto C (tgt := 2) dX0_goOnRising_45 (by decide) ?_
        exact G_cast ih2 (by first | rfl | (simp only [lp, riB, c15, c34, ↓reduceIte, Bool.false_eq_true, reduceCtorEq]; first | done | rfl)) rfl rfl rfl
  · skip
    refine g_iload_n C dX0_goOnRising_2 rfl rfl ?_
    refine g_bipush C (v := 8) dX0_goOnRising_3 (by decide) ?_
    refine g_icmp_ge C (tgt := 48) dX0_goOnRising_5 (by decide) (fun _ => ?_) (fun c5 => absurd (nI_lee rfl) c5)
    exact g_vret C hr dX0_goOnRising_48 ⟨rfl, rfl, rfl⟩

set_option maxRecDepth 100000 in
set_option maxHeartbeats 4000000 in
theorem tX0_askForSleepers {l : Launch} {E : EE} {N : Nat} {I : Mi} {F : Mr} {a : Nat} (ha : CH N F a) (hN : 0 < N)  : CtF l E mX0_askForSleepers [rf E a] N I F N none (askC I a) F := by
  refine CtF_of [some (rf E a), none, none] (by decide) rfl (Nat.le_of_ble_eq_true rfl) rfl (fun p e s m args below meth c C hr hname => ?_)
  refine g_iconst C (v := 0) dX0_askForSleepers_0 (by decide) ?_
  refine g_istore_n C dX0_askForSleepers_1 rfl (by decide) rfl ?_
  refine g_iconst C (v := 0) dX0_askForSleepers_2 (by decide) ?_
  refine g_istore_n C dX0_askForSleepers_3 rfl (by decide) rfl ?_
  refine G_loop (n := 8) (fun i => [some (rf E a), some (.int (lp (fun i acc => if I (a + 4) i = 0 then acc ||| I (a + 3) i else acc) i 0)), some (.int (nI i))]) (fun i => I) (fun _ => F) rfl rfl rfl ?_ ?_
  · intro i4 hi4 ih4
    refine g_iload_n C dX0_askForSleepers_4 rfl rfl ?_
    refine g_bipush C (v := 8) dX0_askForSleepers_5 (by decide) ?_
    refine g_icmp_ge C (tgt := 34) dX0_askForSleepers_7 (by decide) (fun c7 => absurd c7 (nI_nge rfl hi4 (by decide))) (fun _ => ?_)
    refine g_aload_n C dX0_askForSleepers_10 rfl rfl ?_
    refine gfX0_21 C ha.o ha.f6 dX0_askForSleepers_11 ?_
    refine g_iload_n C dX0_askForSleepers_14 rfl rfl ?_
    refine g_iald_j C ha.r4 (i4) rfl hi4 (by decide) dX0_askForSleepers_15 ?_
    refine g_if_ne C (tgt := 28) dX0_askForSleepers_16 (by decide) (fun c16 => ?_) (fun c16 => ?_)
    · skip
      refine g_iinc C dX0_askForSleepers_28 rfl (nI_inc _) (by decide) rfl ?_
      refine g_goto C (tgt := 4) dX0_askForSleepers_31 (by decide) ?_
      exact G_cast ih4 rfl rfl (by first | rfl | (simp only [lp, c16, ↓reduceIte, Bool.false_eq_true, reduceCtorEq]; first | done | rfl)) rfl
    · skip
      refine g_iload_n C dX0_askForSleepers_19 rfl rfl ?_
      refine g_aload_n C dX0_askForSleepers_20 rfl rfl ?_
      refine gfX0_18 C ha.o ha.f5 dX0_askForSleepers_21 ?_
      refine g_iload_n C dX0_askForSleepers_24 rfl rfl ?_
      refine g_iald_j C ha.r3 (i4) rfl hi4 (by decide) dX0_askForSleepers_25 ?_
      refine g_ior C dX0_askForSleepers_26 ?_
      refine g_istore_n C dX0_askForSleepers_27 rfl (by decide) rfl ?_
      refine g_iinc C dX0_askForSleepers_28 rfl (nI_inc _) (by decide) rfl ?_
      refine g_goto C (tgt := 4) dX0_askForSleepers_31 (by decide) ?_
      exact G_cast ih4 rfl rfl (by first | rfl | (simp only [lp, c16, ↓reduceIte, Bool.false_eq_true, reduceCtorEq]; first | done | rfl)) rfl
  · skip
    refine g_iload_n C dX0_askForSleepers_4 rfl rfl ?_
    refine g_bipush C (v := 8) dX0_askForSleepers_5 (by decide) ?_
    refine g_icmp_ge C (tgt := 34) dX0_askForSleepers_7 (by decide) (fun _ => ?_) (fun c7 => absurd (nI_lee rfl) c7)
    refine g_iconst C (v := 0) dX0_askForSleepers_34 (by decide) ?_
    refine g_istore_n C dX0_askForSleepers_35 rfl (by decide) rfl ?_
    refine G_loop (n := 8) (fun i => [some (rf E a), some (.int (rbaC I a)), some (.int (nI i))]) (fun i => lp (fun i J => if J (a + 4) i = 2 then (if isI (rbaC I a) (nI i) = true then otwC J a i else J) else J) i I) (fun _ => F) rfl rfl rfl ?_ ?_
    · intro i36 hi36 ih36
      refine g_iload_n C dX0_askForSleepers_36 rfl rfl ?_
      refine g_bipush C (v := 8) dX0_askForSleepers_37 (by decide) ?_
      refine g_icmp_ge C (tgt := 71) dX0_askForSleepers_39 (by decide) (fun c39 => absurd c39 (nI_nge rfl hi36 (by decide))) (fun _ => ?_)
      refine g_aload_n C dX0_askForSleepers_42 rfl rfl ?_
      refine gfX0_21 C ha.o ha.f6 dX0_askForSleepers_43 ?_
      refine g_iload_n C dX0_askForSleepers_46 rfl rfl ?_
      refine g_iald_j C ha.r4 (i36) rfl hi36 (by decide) dX0_askForSleepers_47 ?_
      refine g_iconst C (v := 2) dX0_askForSleepers_48 (by decide) ?_
      refine g_icmp_ne C (tgt := 65) dX0_askForSleepers_49 (by decide) (fun c49 => ?_) (fun c49 => ?_)
      · skip
        refine g_iinc C dX0_askForSleepers_65 rfl (nI_inc _) (by decide) rfl ?_
        refine g_goto C (tgt := 36) dX0_askForSleepers_68 (by decide) ?_
        exact G_cast ih36 (by first | rfl | (simp only [lp, c49, ↓reduceIte, Bool.false_eq_true, reduceCtorEq]; first | done | rfl)) rfl rfl rfl
      · skip
        refine g_iload_n C dX0_askForSleepers_52 rfl rfl ?_
        refine g_iload_n C dX0_askForSleepers_53 rfl rfl ?_
        refine kX0_77 C hN (tX4_isIn _ _) ⟨⟨Nat.le_of_ble_eq_true rfl, Nat.le_of_ble_eq_true rfl⟩, Nat.le_of_ble_eq_true rfl, Nat.le_of_ble_eq_true rfl⟩ (Nat.le_of_ble_eq_true rfl) dX0_askForSleepers_54 ?_
        refine g_ifeq_b C (tgt := 65) dX0_askForSleepers_57 (by decide) (fun c57 => ?_) (fun c57 => ?_)
        · skip
          refine g_iinc C dX0_askForSleepers_65 rfl (nI_inc _) (by decide) rfl ?_
          refine g_goto C (tgt := 36) dX0_askForSleepers_68 (by decide) ?_
          exact G_cast ih36 (by first | rfl | (simp only [lp, c49, c57, ↓reduceIte, Bool.false_eq_true, reduceCtorEq]; first | done | rfl)) rfl rfl rfl
        · skip
          refine g_aload_n C dX0_askForSleepers_60 rfl rfl ?_
          refine g_iload_n C dX0_askForSleepers_61 rfl rfl ?_
          refine kX0_93 C ha.o (tX0_orderToWake ha hN hi36) ⟨⟨Nat.le_of_ble_eq_true rfl, Nat.le_of_ble_eq_true rfl⟩, Nat.le_of_ble_eq_true rfl, Nat.le_of_ble_eq_true rfl⟩ (Nat.le_of_ble_eq_true rfl) dX0_askForSleepers_62 ?_
          refine g_iinc C dX0_askForSleepers_65 rfl (nI_inc _) (by decide) rfl ?_
          refine g_goto C (tgt := 36) dX0_askForSleepers_68 (by decide) ?_
          exact G_cast ih36 (by first | rfl | (simp only [lp, c49, c57, ↓reduceIte, Bool.false_eq_true, reduceCtorEq]; first | done | rfl)) rfl rfl rfl
    · skip
      refine g_iload_n C dX0_askForSleepers_36 rfl rfl ?_
      refine g_bipush C (v := 8) dX0_askForSleepers_37 (by decide) ?_
      refine g_icmp_ge C (tgt := 71) dX0_askForSleepers_39 (by decide) (fun _ => ?_) (fun c39 => absurd (nI_lee rfl) c39)
      exact g_vret C hr dX0_askForSleepers_71 ⟨rfl, rfl, rfl⟩

