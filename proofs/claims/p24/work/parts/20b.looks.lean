/-! the law's own looks -/
set_option maxRecDepth 100000 in
set_option maxHeartbeats 800000 in
theorem tL_low {l : Launch} {E : EE} {I : Mi} {F : Mr} (x y : Int32) (hy : ¬ y = 0)  : CtF l E mL_low [.int x, .int y] NT I F NT (some (.int (lowE x y))) I F := by
  refine CtF_of [some (.int x), some (.int y)] (by decide) rfl (Nat.le_of_ble_eq_true rfl) rfl (fun p e s m args below meth c C hr hname => ?_)
  refine g_iload_n C dL_low_0 rfl rfl ?_
  refine g_ldc C dL_low_1 kcL_9 ?_
  refine g_iand C dL_low_3 ?_
  refine g_iload_n C dL_low_4 rfl rfl ?_
  refine g_irem C dL_low_5 hy ?_
  exact g_iret C hr dL_low_6 ⟨rfl, rfl, rfl⟩

set_option maxRecDepth 100000 in
set_option maxHeartbeats 800000 in
theorem tL_load {l : Launch} {E : EE} {I : Mi} {F : Mr} {b : Nat} (hb : LB b) {n : Nat} (hn5 : n ≤ 5) (hn : I b 2 = nI n)  : CtF l E mL_load [rf E b, rf E (b + 1)] NT I F NT (some (.int (loadL I b n))) I F := by
  refine CtF_of [some (rf E b), some (rf E (b + 1)), none, none] (by decide) rfl (Nat.le_of_ble_eq_true rfl) rfl (fun p e s m args below meth c C hr hname => ?_)
  refine g_iconst C (v := 0) dL_load_0 (by decide) ?_
  refine g_istore_n C dL_load_1 rfl (by decide) rfl ?_
  refine g_iconst C (v := 0) dL_load_2 (by decide) ?_
  refine g_istore_n C dL_load_3 rfl (by decide) rfl ?_
  refine G_loop (n := n) (fun i => [some (rf E b), some (rf E (b + 1)), some (.int (lp (fun k acc => acc + (if sL I b k 7 = 4 then sL I b k 3 else 0)) i 0)), some (.int (nI i))]) (fun i => I) (fun _ => F) rfl rfl rfl ?_ ?_
  · intro i4 hi4 ih4
    refine g_iload_n C dL_load_4 rfl rfl ?_
    refine g_aload_n C dL_load_5 rfl rfl ?_
    refine g_iconst C (v := 2) dL_load_6 (by decide) ?_
    refine g_iald_j C hb.q 2 rfl (by decide) (by decide) dL_load_7 ?_
    refine g_icmp_ge C (tgt := 45) dL_load_8 (by decide) (fun c8 => absurd c8 (nI_nge hn hi4 (by omega))) (fun _ => ?_)
    refine g_iload_n C dL_load_11 rfl rfl ?_
    refine g_aload_n C dL_load_12 rfl rfl ?_
    refine g_bipush C (v := 12) dL_load_13 (by decide) ?_
    refine g_iload_n C dL_load_15 rfl rfl ?_
    refine g_imul C dL_load_16 ?_
    refine g_bipush C (v := 7) dL_load_17 (by decide) ?_
    refine g_iadd C dL_load_19 ?_
    refine g_iald_j C hb.s (12 * i4 + 7) (e_ix i4 7 rfl) (by omega) (by decide) dL_load_20 ?_
    refine g_iconst C (v := 4) dL_load_21 (by decide) ?_
    refine g_icmp_ne C (tgt := 36) dL_load_22 (by decide) (fun c22 => ?_) (fun c22 => ?_)
    · skip
      refine g_iconst C (v := 0) dL_load_36 (by decide) ?_
      refine g_iadd C dL_load_37 ?_
      refine g_istore_n C dL_load_38 rfl (by decide) rfl ?_
      refine g_iinc C dL_load_39 rfl (nI_inc _) (by decide) rfl ?_
      refine g_goto C (tgt := 4) dL_load_42 (by decide) ?_
      exact G_cast ih4 rfl rfl (by first | rfl | (simp only [lp, c22, ↓reduceIte, Bool.false_eq_true, reduceCtorEq]; first | done | rfl)) rfl
    · skip
      refine g_aload_n C dL_load_25 rfl rfl ?_
      refine g_bipush C (v := 12) dL_load_26 (by decide) ?_
      refine g_iload_n C dL_load_28 rfl rfl ?_
      refine g_imul C dL_load_29 ?_
      refine g_iconst C (v := 3) dL_load_30 (by decide) ?_
      refine g_iadd C dL_load_31 ?_
      refine g_iald_j C hb.s (12 * i4 + 3) (e_ix i4 3 rfl) (by omega) (by decide) dL_load_32 ?_
      refine g_goto C (tgt := 37) dL_load_33 (by decide) ?_
      refine g_iadd C dL_load_37 ?_
      refine g_istore_n C dL_load_38 rfl (by decide) rfl ?_
      refine g_iinc C dL_load_39 rfl (nI_inc _) (by decide) rfl ?_
      refine g_goto C (tgt := 4) dL_load_42 (by decide) ?_
      exact G_cast ih4 rfl rfl (by first | rfl | (simp only [lp, c22, ↓reduceIte, Bool.false_eq_true, reduceCtorEq]; first | done | rfl)) rfl
  · skip
    refine g_iload_n C dL_load_4 rfl rfl ?_
    refine g_aload_n C dL_load_5 rfl rfl ?_
    refine g_iconst C (v := 2) dL_load_6 (by decide) ?_
    refine g_iald_j C hb.q 2 rfl (by decide) (by decide) dL_load_7 ?_
    refine g_icmp_ge C (tgt := 45) dL_load_8 (by decide) (fun _ => ?_) (fun c8 => absurd (nI_lee hn) c8)
    refine g_iload_n C dL_load_45 rfl rfl ?_
    exact g_iret C hr dL_load_46 ⟨rfl, rfl, rfl⟩

set_option maxRecDepth 100000 in
set_option maxHeartbeats 800000 in
theorem tL_set {l : Launch} {E : EE} {I : Mi} {F : Mr} {b : Nat} (hb : LB b) {n : Nat} (hn5 : n ≤ 5) (hn : I b 2 = nI n) (x : Int32)  : CtF l E mL_set [.int x, rf E b, rf E (b + 1)] NT I F NT (some (.int (setL I b n x))) I F := by
  refine CtF_of [some (.int x), some (rf E b), some (rf E (b + 1)), none, none] (by decide) rfl (Nat.le_of_ble_eq_true rfl) rfl (fun p e s m args below meth c C hr hname => ?_)
  refine g_iconst C (v := 0) dL_set_0 (by decide) ?_
  refine g_istore_n C dL_set_1 rfl (by decide) rfl ?_
  refine g_iconst C (v := 0) dL_set_2 (by decide) ?_
  refine g_istore C dL_set_3 (by decide) rfl ?_
  refine G_loop (n := n) (fun i => [some (.int x), some (rf E b), some (rf E (b + 1)), some (.int (lp (fun k acc => acc ||| (if sL I b k 7 = x then sh1 k else 0)) i 0)), some (.int (nI i))]) (fun i => I) (fun _ => F) rfl rfl rfl ?_ ?_
  · intro i5 hi5 ih5
    refine g_iload C dL_set_5 rfl ?_
    refine g_aload_n C dL_set_7 rfl rfl ?_
    refine g_iconst C (v := 2) dL_set_8 (by decide) ?_
    refine g_iald_j C hb.q 2 rfl (by decide) (by decide) dL_set_9 ?_
    refine g_icmp_ge C (tgt := 44) dL_set_10 (by decide) (fun c10 => absurd c10 (nI_nge hn hi5 (by omega))) (fun _ => ?_)
    refine g_iload_n C dL_set_13 rfl rfl ?_
    refine g_aload_n C dL_set_14 rfl rfl ?_
    refine g_bipush C (v := 12) dL_set_15 (by decide) ?_
    refine g_iload C dL_set_17 rfl ?_
    refine g_imul C dL_set_19 ?_
    refine g_bipush C (v := 7) dL_set_20 (by decide) ?_
    refine g_iadd C dL_set_22 ?_
    refine g_iald_j C hb.s (12 * i5 + 7) (e_ix i5 7 rfl) (by omega) (by decide) dL_set_23 ?_
    refine g_iload_n C dL_set_24 rfl rfl ?_
    refine g_icmp_ne C (tgt := 35) dL_set_25 (by decide) (fun c25 => ?_) (fun c25 => ?_)
    · skip
      refine g_iconst C (v := 0) dL_set_35 (by decide) ?_
      refine g_ior C dL_set_36 ?_
      refine g_istore_n C dL_set_37 rfl (by decide) rfl ?_
      refine g_iinc C dL_set_38 rfl (nI_inc _) (by decide) rfl ?_
      refine g_goto C (tgt := 5) dL_set_41 (by decide) ?_
      exact G_cast ih5 rfl rfl (by first | rfl | (simp only [lp, sh1, c25, ↓reduceIte, Bool.false_eq_true, reduceCtorEq]; first | done | rfl)) rfl
    · skip
      refine g_iconst C (v := 1) dL_set_28 (by decide) ?_
      refine g_iload C dL_set_29 rfl ?_
      refine g_ishl C dL_set_31 ?_
      refine g_goto C (tgt := 36) dL_set_32 (by decide) ?_
      refine g_ior C dL_set_36 ?_
      refine g_istore_n C dL_set_37 rfl (by decide) rfl ?_
      refine g_iinc C dL_set_38 rfl (nI_inc _) (by decide) rfl ?_
      refine g_goto C (tgt := 5) dL_set_41 (by decide) ?_
      exact G_cast ih5 rfl rfl (by first | rfl | (simp only [lp, sh1, c25, ↓reduceIte, Bool.false_eq_true, reduceCtorEq]; first | done | rfl)) rfl
  · skip
    refine g_iload C dL_set_5 rfl ?_
    refine g_aload_n C dL_set_7 rfl rfl ?_
    refine g_iconst C (v := 2) dL_set_8 (by decide) ?_
    refine g_iald_j C hb.q 2 rfl (by decide) (by decide) dL_set_9 ?_
    refine g_icmp_ge C (tgt := 44) dL_set_10 (by decide) (fun _ => ?_) (fun c10 => absurd (nI_lee hn) c10)
    refine g_iload_n C dL_set_44 rfl rfl ?_
    exact g_iret C hr dL_set_45 ⟨rfl, rfl, rfl⟩

set_option maxRecDepth 100000 in
set_option maxHeartbeats 800000 in
theorem tL_readers {l : Launch} {E : EE} {I : Mi} {F : Mr} {b : Nat} (hb : LB b) {n : Nat} (hn5 : n ≤ 5) (hn : I b 2 = nI n) (x : Int32)  : CtF l E mL_readers [.int x, rf E b, rf E (b + 1)] NT I F NT (some (.int (rdsL I b n x))) I F := by
  refine CtF_of [some (.int x), some (rf E b), some (rf E (b + 1)), none, none] (by decide) rfl (Nat.le_of_ble_eq_true rfl) rfl (fun p e s m args below meth c C hr hname => ?_)
  refine g_iconst C (v := 0) dL_readers_0 (by decide) ?_
  refine g_istore_n C dL_readers_1 rfl (by decide) rfl ?_
  refine g_iconst C (v := 0) dL_readers_2 (by decide) ?_
  refine g_istore C dL_readers_3 (by decide) rfl ?_
  refine G_loop (n := n) (fun i => [some (.int x), some (rf E b), some (rf E (b + 1)), some (.int (lp (fun k acc => acc ||| (((sL I b k 6 >>> (x &&& 31)) &&& 1) <<< (nI k &&& 31))) i 0)), some (.int (nI i))]) (fun i => I) (fun _ => F) rfl rfl rfl ?_ ?_
  · intro i5 hi5 ih5
    refine g_iload C dL_readers_5 rfl ?_
    refine g_aload_n C dL_readers_7 rfl rfl ?_
    refine g_iconst C (v := 2) dL_readers_8 (by decide) ?_
    refine g_iald_j C hb.q 2 rfl (by decide) (by decide) dL_readers_9 ?_
    refine g_icmp_ge C (tgt := 39) dL_readers_10 (by decide) (fun c10 => absurd c10 (nI_nge hn hi5 (by omega))) (fun _ => ?_)
    refine g_iload_n C dL_readers_13 rfl rfl ?_
    refine g_aload_n C dL_readers_14 rfl rfl ?_
    refine g_bipush C (v := 12) dL_readers_15 (by decide) ?_
    refine g_iload C dL_readers_17 rfl ?_
    refine g_imul C dL_readers_19 ?_
    refine g_bipush C (v := 6) dL_readers_20 (by decide) ?_
    refine g_iadd C dL_readers_22 ?_
    refine g_iald_j C hb.s (12 * i5 + 6) (e_ix i5 6 rfl) (by omega) (by decide) dL_readers_23 ?_
    refine g_iload_n C dL_readers_24 rfl rfl ?_
    refine g_ishr C dL_readers_25 ?_
    refine g_iconst C (v := 1) dL_readers_26 (by decide) ?_
    refine g_iand C dL_readers_27 ?_
    refine g_iload C dL_readers_28 rfl ?_
    refine g_ishl C dL_readers_30 ?_
    refine g_ior C dL_readers_31 ?_
    refine g_istore_n C dL_readers_32 rfl (by decide) rfl ?_
    refine g_iinc C dL_readers_33 rfl (nI_inc _) (by decide) rfl ?_
    refine g_goto C (tgt := 5) dL_readers_36 (by decide) ?_
    exact G_cast ih5 rfl rfl (by first | rfl | (simp only [lp, lp, ↓reduceIte, Bool.false_eq_true, reduceCtorEq]; first | done | rfl)) rfl
  · skip
    refine g_iload C dL_readers_5 rfl ?_
    refine g_aload_n C dL_readers_7 rfl rfl ?_
    refine g_iconst C (v := 2) dL_readers_8 (by decide) ?_
    refine g_iald_j C hb.q 2 rfl (by decide) (by decide) dL_readers_9 ?_
    refine g_icmp_ge C (tgt := 39) dL_readers_10 (by decide) (fun _ => ?_) (fun c10 => absurd (nI_lee hn) c10)
    refine g_iload_n C dL_readers_39 rfl rfl ?_
    exact g_iret C hr dL_readers_40 ⟨rfl, rfl, rfl⟩

set_option maxRecDepth 100000 in
set_option maxHeartbeats 800000 in
theorem tL_order {l : Launch} {E : EE} {I : Mi} {F : Mr} {b : Nat} (hb : LB b) {u : Nat} (hu : u < 5)  : CtF l E mL_order [.int (nI u), rf E b, rf E (b + 1)] NT I F NT none (ordL I b u) F := by
  refine CtF_of [some (.int (nI u)), some (rf E b), some (rf E (b + 1))] (by decide) rfl (Nat.le_of_ble_eq_true rfl) rfl (fun p e s m args below meth c C hr hname => ?_)
  refine g_aload_n C dL_order_0 rfl rfl ?_
  refine g_bipush C (v := 12) dL_order_1 (by decide) ?_
  refine g_iload_n C dL_order_3 rfl rfl ?_
  refine g_imul C dL_order_4 ?_
  refine g_bipush C (v := 7) dL_order_5 (by decide) ?_
  refine g_iadd C dL_order_7 ?_
  refine g_iconst C (v := 3) dL_order_8 (by decide) ?_
  refine g_iast_j C hb.s (12 * u + 7) (e_ix u 7 rfl) (by omega) (by decide) dL_order_9 ?_
  refine g_aload_n C dL_order_10 rfl rfl ?_
  refine g_bipush C (v := 12) dL_order_11 (by decide) ?_
  refine g_iload_n C dL_order_13 rfl rfl ?_
  refine g_imul C dL_order_14 ?_
  refine g_bipush C (v := 10) dL_order_15 (by decide) ?_
  refine g_iadd C dL_order_17 ?_
  refine g_aload_n C dL_order_18 rfl rfl ?_
  refine g_bipush C (v := 7) dL_order_19 (by decide) ?_
  refine g_dup2_11 C dL_order_21 rfl rfl ?_
  refine g_iald_j C hb.q 7 rfl (by decide) (by decide) dL_order_22 ?_
  refine g_iconst C (v := 1) dL_order_23 (by decide) ?_
  refine g_iadd C dL_order_24 ?_
  refine g_dupx2 C dL_order_25 rfl rfl rfl ?_
  refine g_iast_j C hb.q 7 rfl (by decide) (by decide) dL_order_26 ?_
  refine g_iast_j C hb.s (12 * u + 10) (e_ix u 10 rfl) (by omega) (by decide) dL_order_27 ?_
  exact g_vret C hr dL_order_28 ⟨rfl, rfl, rfl⟩

set_option maxRecDepth 100000 in
set_option maxHeartbeats 800000 in
theorem tL_tell {l : Launch} {E : EE} {I : Mi} {F : Mr} {b : Nat} (hb : LB b) {u : Nat} (hu : u < 5)  : CtF l E mL_tell [.int (nI u), rf E (b + 1)] NT I F NT (some (.int (telL I b u))) I F := by
  refine CtF_of [some (.int (nI u)), some (rf E (b + 1)), none] (by decide) rfl (Nat.le_of_ble_eq_true rfl) rfl (fun p e s m args below meth c C hr hname => ?_)
  refine g_bipush C (v := 12) dL_tell_0 (by decide) ?_
  refine g_iload_n C dL_tell_2 rfl rfl ?_
  refine g_imul C dL_tell_3 ?_
  rw [e_ix0]
  refine g_istore_n C dL_tell_4 rfl (by decide) rfl ?_
  refine g_aload_n C dL_tell_5 rfl rfl ?_
  refine g_iload_n C dL_tell_6 rfl rfl ?_
  refine g_bipush C (v := 7) dL_tell_7 (by decide) ?_
  refine g_iadd C dL_tell_9 ?_
  refine g_iald_j C hb.s ((12 * u) + 7) (nI_add (12 * u) 7) (by omega) (by decide) dL_tell_10 ?_
  refine g_iconst C (v := 2) dL_tell_11 (by decide) ?_
  refine g_icmp_ge C (tgt := 23) dL_tell_12 (by decide) (fun c12 => ?_) (fun c12 => ?_)
  · skip
    refine g_aload_n C dL_tell_23 rfl rfl ?_
    refine g_iload_n C dL_tell_24 rfl rfl ?_
    refine g_iald_j C hb.s ((12 * u)) rfl (by omega) (by decide) dL_tell_25 ?_
    refine g_iconst C (v := 1) dL_tell_26 (by decide) ?_
    refine g_icmp_ne C (tgt := 34) dL_tell_27 (by decide) (fun c27 => ?_) (fun c27 => ?_)
    · skip
      refine g_sipush C (v := 255) dL_tell_34 (by decide) ?_
      exact g_iret C hr dL_tell_37 ⟨by simp only [telL, c12, c27, ↓reduceIte], rfl, rfl⟩
    · skip
      refine g_iconst C (v := 0) dL_tell_30 (by decide) ?_
      refine g_goto C (tgt := 37) dL_tell_31 (by decide) ?_
      exact g_iret C hr dL_tell_37 ⟨by simp only [telL, c12, c27, ↓reduceIte], rfl, rfl⟩
  · skip
    refine g_aload_n C dL_tell_15 rfl rfl ?_
    refine g_iload_n C dL_tell_16 rfl rfl ?_
    refine g_iconst C (v := 4) dL_tell_17 (by decide) ?_
    refine g_iadd C dL_tell_18 ?_
    refine g_iald_j C hb.s ((12 * u) + 4) (nI_add (12 * u) 4) (by omega) (by decide) dL_tell_19 ?_
    refine g_goto C (tgt := 37) dL_tell_20 (by decide) ?_
    exact g_iret C hr dL_tell_37 ⟨by simp only [telL, c12, ↓reduceIte], rfl, rfl⟩

set_option maxRecDepth 100000 in
set_option maxHeartbeats 800000 in
theorem tL_place {l : Launch} {E : EE} {I : Mi} {F : Mr} {b : Nat} (hb : LB b) {n : Nat} (hn5 : n ≤ 5) (hn : I b 2 = nI n) {u : Nat} (hu : u < 5)  : CtF l E mL_place [.int (nI u), rf E b, rf E (b + 1)] NT I F NT (some (.int (plcL I b n u))) I F := by
  refine CtF_of [some (.int (nI u)), some (rf E b), some (rf E (b + 1)), none, none] (by decide) rfl (Nat.le_of_ble_eq_true rfl) rfl (fun p e s m args below meth c C hr hname => ?_)
  refine g_aload_n C dL_place_0 rfl rfl ?_
  refine g_bipush C (v := 12) dL_place_1 (by decide) ?_
  refine g_iload_n C dL_place_3 rfl rfl ?_
  refine g_imul C dL_place_4 ?_
  refine g_bipush C (v := 7) dL_place_5 (by decide) ?_
  refine g_iadd C dL_place_7 ?_
  refine g_iald_j C hb.s (12 * u + 7) (e_ix u 7 rfl) (by omega) (by decide) dL_place_8 ?_
  refine g_iconst C (v := 3) dL_place_9 (by decide) ?_
  refine g_icmp_eq C (tgt := 16) dL_place_10 (by decide) (fun c10 => ?_) (fun c10 => ?_)
  · skip
    refine g_iconst C (v := 0) dL_place_16 (by decide) ?_
    refine g_istore_n C dL_place_17 rfl (by decide) rfl ?_
    refine g_iconst C (v := 0) dL_place_18 (by decide) ?_
    refine g_istore C dL_place_19 (by decide) rfl ?_
    refine G_loop (n := n) (fun i => [some (.int (nI u)), some (rf E b), some (rf E (b + 1)), some (.int (lp (fun k acc => acc + (if sL I b k 7 = 3 then (if sL I b u 10 ≤ sL I b k 10 then 0 else 1) else 0)) i 0)), some (.int (nI i))]) (fun i => I) (fun _ => F) rfl rfl rfl ?_ ?_
    · intro i21 hi21 ih21
      refine g_iload C dL_place_21 rfl ?_
      refine g_aload_n C dL_place_23 rfl rfl ?_
      refine g_iconst C (v := 2) dL_place_24 (by decide) ?_
      refine g_iald_j C hb.q 2 rfl (by decide) (by decide) dL_place_25 ?_
      refine g_icmp_ge C (tgt := 79) dL_place_26 (by decide) (fun c26 => absurd c26 (nI_nge hn hi21 (by omega))) (fun _ => ?_)
      refine g_iload_n C dL_place_29 rfl rfl ?_
      refine g_aload_n C dL_place_30 rfl rfl ?_
      refine g_bipush C (v := 12) dL_place_31 (by decide) ?_
      refine g_iload C dL_place_33 rfl ?_
      refine g_imul C dL_place_35 ?_
      refine g_bipush C (v := 7) dL_place_36 (by decide) ?_
      refine g_iadd C dL_place_38 ?_
      refine g_iald_j C hb.s (12 * i21 + 7) (e_ix i21 7 rfl) (by omega) (by decide) dL_place_39 ?_
      refine g_iconst C (v := 3) dL_place_40 (by decide) ?_
      refine g_icmp_ne C (tgt := 70) dL_place_41 (by decide) (fun c41 => ?_) (fun c41 => ?_)
      · skip
        refine g_iconst C (v := 0) dL_place_70 (by decide) ?_
        refine g_iadd C dL_place_71 ?_
        refine g_istore_n C dL_place_72 rfl (by decide) rfl ?_
        refine g_iinc C dL_place_73 rfl (nI_inc _) (by decide) rfl ?_
        refine g_goto C (tgt := 21) dL_place_76 (by decide) ?_
        exact G_cast ih21 rfl rfl (by first | rfl | (simp only [lp, c41, ↓reduceIte, Bool.false_eq_true, reduceCtorEq]; first | done | rfl)) rfl
      · skip
        refine g_aload_n C dL_place_44 rfl rfl ?_
        refine g_bipush C (v := 12) dL_place_45 (by decide) ?_
        refine g_iload C dL_place_47 rfl ?_
        refine g_imul C dL_place_49 ?_
        refine g_bipush C (v := 10) dL_place_50 (by decide) ?_
        refine g_iadd C dL_place_52 ?_
        refine g_iald_j C hb.s (12 * i21 + 10) (e_ix i21 10 rfl) (by omega) (by decide) dL_place_53 ?_
        refine g_aload_n C dL_place_54 rfl rfl ?_
        refine g_bipush C (v := 12) dL_place_55 (by decide) ?_
        refine g_iload_n C dL_place_57 rfl rfl ?_
        refine g_imul C dL_place_58 ?_
        refine g_bipush C (v := 10) dL_place_59 (by decide) ?_
        refine g_iadd C dL_place_61 ?_
        refine g_iald_j C hb.s (12 * u + 10) (e_ix u 10 rfl) (by omega) (by decide) dL_place_62 ?_
        refine g_icmp_ge C (tgt := 70) dL_place_63 (by decide) (fun c63 => ?_) (fun c63 => ?_)
        · skip
          refine g_iconst C (v := 0) dL_place_70 (by decide) ?_
          refine g_iadd C dL_place_71 ?_
          refine g_istore_n C dL_place_72 rfl (by decide) rfl ?_
          refine g_iinc C dL_place_73 rfl (nI_inc _) (by decide) rfl ?_
          refine g_goto C (tgt := 21) dL_place_76 (by decide) ?_
          exact G_cast ih21 rfl rfl (by first | rfl | (simp only [lp, c41, c63, ↓reduceIte, Bool.false_eq_true, reduceCtorEq]; first | done | rfl)) rfl
        · skip
          refine g_iconst C (v := 1) dL_place_66 (by decide) ?_
          refine g_goto C (tgt := 71) dL_place_67 (by decide) ?_
          refine g_iadd C dL_place_71 ?_
          refine g_istore_n C dL_place_72 rfl (by decide) rfl ?_
          refine g_iinc C dL_place_73 rfl (nI_inc _) (by decide) rfl ?_
          refine g_goto C (tgt := 21) dL_place_76 (by decide) ?_
          exact G_cast ih21 rfl rfl (by first | rfl | (simp only [lp, c41, c63, ↓reduceIte, Bool.false_eq_true, reduceCtorEq]; first | done | rfl)) rfl
    · skip
      refine g_iload C dL_place_21 rfl ?_
      refine g_aload_n C dL_place_23 rfl rfl ?_
      refine g_iconst C (v := 2) dL_place_24 (by decide) ?_
      refine g_iald_j C hb.q 2 rfl (by decide) (by decide) dL_place_25 ?_
      refine g_icmp_ge C (tgt := 79) dL_place_26 (by decide) (fun _ => ?_) (fun c26 => absurd (nI_lee hn) c26)
      refine g_iload_n C dL_place_79 rfl rfl ?_
      exact g_iret C hr dL_place_80 ⟨by unfold plcL; first | rw [if_neg (by assumption)] | rw [if_pos (by assumption)], rfl, rfl⟩
  · skip
    refine g_bipush C (v := (-6)) dL_place_13 (by decide) ?_
    exact g_iret C hr dL_place_15 ⟨by unfold plcL; first | rw [if_neg (by assumption)] | rw [if_pos (by assumption)], rfl, rfl⟩

set_option maxRecDepth 100000 in
set_option maxHeartbeats 800000 in
theorem tL_copy {l : Launch} {E : EE} {I : Mi} {F : Mr}   : CtF l E mL_copy [rf E 127, rf E 128, rf E 129, rf E 130] NT I F NT none (cpyL I) F := by
  refine CtF_of [some (rf E 127), some (rf E 128), some (rf E 129), some (rf E 130), none] (by decide) rfl (Nat.le_of_ble_eq_true rfl) rfl (fun p e s m args below meth c C hr hname => ?_)
  refine g_iconst C (v := 0) dL_copy_0 (by decide) ?_
  refine g_istore C dL_copy_1 (by decide) rfl ?_
  refine G_loop (n := 8) (fun i => [some (rf E 127), some (rf E 128), some (rf E 129), some (rf E 130), some (.int (nI i))]) (fun i => lp (fun k J => up J 129 k (J 127 k)) i I) (fun _ => F) rfl rfl rfl ?_ ?_
  · intro i3 hi3 ih3
    refine g_iload C dL_copy_3 rfl ?_
    refine g_bipush C (v := 8) dL_copy_5 (by decide) ?_
    refine g_icmp_ge C (tgt := 24) dL_copy_7 (by decide) (fun c7 => absurd c7 (nI_nge rfl hi3 (by decide))) (fun _ => ?_)
    refine g_aload_n C dL_copy_10 rfl rfl ?_
    refine g_iload C dL_copy_11 rfl ?_
    refine g_aload_n C dL_copy_13 rfl rfl ?_
    refine g_iload C dL_copy_14 rfl ?_
    refine g_iald_j C (show ar NT 127 7 8 by decide) (i3) rfl hi3 (by decide) dL_copy_16 ?_
    refine g_iast_j C (show ar NT 129 7 8 by decide) (i3) rfl hi3 (by decide) dL_copy_17 ?_
    refine g_iinc C dL_copy_18 rfl (nI_inc _) (by decide) rfl ?_
    refine g_goto C (tgt := 3) dL_copy_21 (by decide) ?_
    exact G_cast ih3 rfl rfl rfl rfl
  · skip
    refine g_iload C dL_copy_3 rfl ?_
    refine g_bipush C (v := 8) dL_copy_5 (by decide) ?_
    refine g_icmp_ge C (tgt := 24) dL_copy_7 (by decide) (fun _ => ?_) (fun c7 => absurd (nI_lee rfl) c7)
    refine g_iconst C (v := 0) dL_copy_24 (by decide) ?_
    refine g_istore C dL_copy_25 (by decide) rfl ?_
    refine G_loop (n := 60) (fun i => [some (rf E 127), some (rf E 128), some (rf E 129), some (rf E 130), some (.int (nI i))]) (fun i => lp (fun k J => up J 130 k (J 128 k)) i (lp (fun k J => up J 129 k (J 127 k)) 8 I)) (fun _ => F) rfl rfl rfl ?_ ?_
    · intro i27 hi27 ih27
      refine g_iload C dL_copy_27 rfl ?_
      refine g_bipush C (v := 60) dL_copy_29 (by decide) ?_
      refine g_icmp_ge C (tgt := 48) dL_copy_31 (by decide) (fun c31 => absurd c31 (nI_nge rfl hi27 (by decide))) (fun _ => ?_)
      refine g_aload_n C dL_copy_34 rfl rfl ?_
      refine g_iload C dL_copy_35 rfl ?_
      refine g_aload_n C dL_copy_37 rfl rfl ?_
      refine g_iload C dL_copy_38 rfl ?_
      refine g_iald_j C (show ar NT 128 7 60 by decide) (i27) rfl hi27 (by decide) dL_copy_40 ?_
      refine g_iast_j C (show ar NT 130 7 60 by decide) (i27) rfl hi27 (by decide) dL_copy_41 ?_
      refine g_iinc C dL_copy_42 rfl (nI_inc _) (by decide) rfl ?_
      refine g_goto C (tgt := 27) dL_copy_45 (by decide) ?_
      exact G_cast ih27 rfl rfl rfl rfl
    · skip
      refine g_iload C dL_copy_27 rfl ?_
      refine g_bipush C (v := 60) dL_copy_29 (by decide) ?_
      refine g_icmp_ge C (tgt := 48) dL_copy_31 (by decide) (fun _ => ?_) (fun c31 => absurd (nI_lee rfl) c31)
      exact g_vret C hr dL_copy_48 ⟨rfl, rfl, rfl⟩

