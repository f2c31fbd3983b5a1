set_option maxRecDepth 100000 in
set_option maxHeartbeats 4000000 in
theorem tX0_beginRising {l : Launch} {E : EE} {N : Nat} {I : Mi} {F : Mr} {a : Nat} (ha : CH N F a) (hN : 0 < N)  : CtF l E mX0_beginRising [rf E a] N I F N none (begC I a) F := by
  refine CtF_of [some (rf E a), none, none, none, none] (by decide) rfl (Nat.le_of_ble_eq_true rfl) rfl (fun p e s m args below meth c C hr hname => ?_)
  refine g_aload_n C dX0_beginRising_0 rfl rfl ?_
  refine kX0_103 C ha.o (tX0_risingLoad ha) ⟨⟨Nat.le_of_ble_eq_true rfl, Nat.le_of_ble_eq_true rfl⟩, Nat.le_of_ble_eq_true rfl, Nat.le_of_ble_eq_true rfl⟩ (Nat.le_of_ble_eq_true rfl) dX0_beginRising_1 ?_
  refine g_istore_n C dX0_beginRising_4 rfl (by decide) rfl ?_
  refine g_iconst C (v := 0) dX0_beginRising_5 (by decide) ?_
  refine g_istore_n C dX0_beginRising_6 rfl (by decide) rfl ?_
  refine g_iconst C (v := 0) dX0_beginRising_7 (by decide) ?_
  refine g_istore_n C dX0_beginRising_8 rfl (by decide) rfl ?_
  refine G_loop (n := rnd (I a 12)) (fun i => [some (rf E a), some (.int (begR I a i).2.1), some (.int (begR I a i).2.2), some (.int (nI i)), none]) (fun i => (begR I a i).1) (fun _ => F) rfl rfl rfl ?_ ?_
  · intro i9 hi9 ih9
    have h12 : (begR I a i9).1 a 12 = I a 12 := brB_12 a _ i9
    refine g_iload_n C dX0_beginRising_9 rfl rfl ?_
    refine g_bipush C (v := 8) dX0_beginRising_10 (by decide) ?_
    refine g_icmp_ge C (tgt := 121) dX0_beginRising_12 (by decide) (fun c12 => absurd c12 (nI_nge rfl (Nat.lt_of_lt_of_le hi9 (Nat.min_le_left _ _)) (by decide))) (fun _ => ?_)
    refine g_iload_n C dX0_beginRising_15 rfl rfl ?_
    refine g_aload_n C dX0_beginRising_16 rfl rfl ?_
    refine gfX0_61 C ha.o dX0_beginRising_17 ?_
    rw [h12]
    refine g_icmp_ge C (tgt := 121) dX0_beginRising_20 (by decide) (fun c20 => absurd c20 (rnd_lt hi9)) (fun _ => ?_)
    refine g_aload_n C dX0_beginRising_23 rfl rfl ?_
    refine gfX0_36 C ha.o ha.f11 dX0_beginRising_24 ?_
    refine g_iload_n C dX0_beginRising_27 rfl rfl ?_
    refine g_iald_j C ha.r9 (i9) rfl (Nat.lt_of_lt_of_le hi9 (Nat.min_le_left _ _)) (by decide) dX0_beginRising_28 ?_
    refine g_istore C dX0_beginRising_29 (by decide) rfl ?_
    refine g_iload C dX0_beginRising_31 rfl ?_
    refine kX0_73 C hN (tX0_isPlace _) ⟨⟨Nat.le_of_ble_eq_true rfl, Nat.le_of_ble_eq_true rfl⟩, Nat.le_of_ble_eq_true rfl, Nat.le_of_ble_eq_true rfl⟩ (Nat.le_of_ble_eq_true rfl) dX0_beginRising_33 ?_
    refine g_ifne_b C (tgt := 42) dX0_beginRising_36 (by decide) (fun c36 => ?_) (fun c36 => ?_)
    · skip
      refine g_iload_n C dX0_beginRising_42 rfl rfl ?_
      refine g_if_eq C (tgt := 62) dX0_beginRising_43 (by decide) (fun c43 => ?_) (fun c43 => ?_)
      · skip
        refine g_iload_n C dX0_beginRising_62 rfl rfl ?_
        refine g_aload_n C dX0_beginRising_63 rfl rfl ?_
        refine gfX0_15 C ha.o ha.f4 dX0_beginRising_64 ?_
        refine g_iload C dX0_beginRising_67 rfl ?_
        refine g_iald C ha.r2 (isP_in c36) dX0_beginRising_69 ?_
        refine g_iadd C dX0_beginRising_70 ?_
        refine g_istore_n C dX0_beginRising_71 rfl (by decide) rfl ?_
        refine g_aload_n C dX0_beginRising_72 rfl rfl ?_
        refine gfX0_21 C ha.o ha.f6 dX0_beginRising_73 ?_
        refine g_iload C dX0_beginRising_76 rfl ?_
        refine g_iconst C (v := 4) dX0_beginRising_78 (by decide) ?_
        refine g_iast C ha.r4 (isP_in c36) dX0_beginRising_79 ?_
        refine g_aload_n C dX0_beginRising_80 rfl rfl ?_
        refine gfX0_30 C ha.o ha.f9 dX0_beginRising_81 ?_
        refine g_iload C dX0_beginRising_84 rfl ?_
        refine g_aload_n C dX0_beginRising_86 rfl rfl ?_
        refine gfX0_9 C ha.o ha.f3 dX0_beginRising_87 ?_
        refine g_iload C dX0_beginRising_90 rfl ?_
        refine g_iald C ha.r1 (isP_in c36) dX0_beginRising_92 ?_
        refine g_iast C ha.r7 (isP_in c36) dX0_beginRising_93 ?_
        refine g_goto C (tgt := 115) dX0_beginRising_94 (by decide) ?_
        refine g_iinc C dX0_beginRising_115 rfl (nI_inc _) (by decide) rfl ?_
        refine g_goto C (tgt := 9) dX0_beginRising_118 (by decide) ?_
        exact G_forget 4 (G_cast (ls2 := [some (rf E a), some (.int (begR I a (i9 + 1)).2.1), some (.int (begR I a (i9 + 1)).2.2), some (.int (nI (i9 + 1))), none]) (st2 := []) ih9 (by first | rfl | (simp only [lp, begR_s, brB, brA, c36, c43, ↓reduceIte, Bool.false_eq_true, reduceCtorEq]; first | done | rfl)) rfl (by first | rfl | (simp only [lp, begR_s, brB, brA, c36, c43, ↓reduceIte, Bool.false_eq_true, reduceCtorEq]; first | done | rfl)) rfl)
      · skip
        refine g_iload_n C dX0_beginRising_46 rfl rfl ?_
        refine g_aload_n C dX0_beginRising_47 rfl rfl ?_
        refine gfX0_15 C ha.o ha.f4 dX0_beginRising_48 ?_
        refine g_iload C dX0_beginRising_51 rfl ?_
        refine g_iald C ha.r2 (isP_in c36) dX0_beginRising_53 ?_
        refine g_iadd C dX0_beginRising_54 ?_
        refine g_aload_n C dX0_beginRising_55 rfl rfl ?_
        refine gfX0_42 C ha.o dX0_beginRising_56 ?_
        refine g_icmp_gt C (tgt := 97) dX0_beginRising_59 (by decide) (fun c59 => ?_) (fun c59 => ?_)
        · skip
          refine g_iload_n C dX0_beginRising_97 rfl rfl ?_
          refine kX0_73 C hN (tX0_isPlace _) ⟨⟨Nat.le_of_ble_eq_true rfl, Nat.le_of_ble_eq_true rfl⟩, Nat.le_of_ble_eq_true rfl, Nat.le_of_ble_eq_true rfl⟩ (Nat.le_of_ble_eq_true rfl) dX0_beginRising_98 ?_
          refine g_ifeq_b C (tgt := 115) dX0_beginRising_101 (by decide) (fun c101 => ?_) (fun c101 => ?_)
          · skip
            refine g_iinc C dX0_beginRising_115 rfl (nI_inc _) (by decide) rfl ?_
            refine g_goto C (tgt := 9) dX0_beginRising_118 (by decide) ?_
            exact G_forget 4 (G_cast (ls2 := [some (rf E a), some (.int (begR I a (i9 + 1)).2.1), some (.int (begR I a (i9 + 1)).2.2), some (.int (nI (i9 + 1))), none]) (st2 := []) ih9 (by first | rfl | (simp only [lp, begR_s, brB, brA, c36, c43, c59, c101, ↓reduceIte, Bool.false_eq_true, reduceCtorEq]; first | done | rfl)) rfl (by first | rfl | (simp only [lp, begR_s, brB, brA, c36, c43, c59, c101, ↓reduceIte, Bool.false_eq_true, reduceCtorEq]; first | done | rfl)) rfl)
          · skip
            refine g_aload_n C dX0_beginRising_104 rfl rfl ?_
            refine gfX0_36 C ha.o ha.f11 dX0_beginRising_105 ?_
            refine g_iload_n C dX0_beginRising_108 rfl rfl ?_
            refine g_iload C dX0_beginRising_109 rfl ?_
            refine g_iast C ha.r9 (isP_in c101) dX0_beginRising_111 ?_
            refine g_iinc C dX0_beginRising_112 rfl rfl (by decide) rfl ?_
            refine g_iinc C dX0_beginRising_115 rfl (nI_inc _) (by decide) rfl ?_
            refine g_goto C (tgt := 9) dX0_beginRising_118 (by decide) ?_
            exact G_forget 4 (G_cast (ls2 := [some (rf E a), some (.int (begR I a (i9 + 1)).2.1), some (.int (begR I a (i9 + 1)).2.2), some (.int (nI (i9 + 1))), none]) (st2 := []) ih9 (by first | rfl | (simp only [lp, begR_s, brB, brA, c36, c43, c59, c101, ↓reduceIte, Bool.false_eq_true, reduceCtorEq]; first | done | rfl)) rfl (by first | rfl | (simp only [lp, begR_s, brB, brA, c36, c43, c59, c101, ↓reduceIte, Bool.false_eq_true, reduceCtorEq]; first | done | rfl)) rfl)
        · skip
          refine g_iload_n C dX0_beginRising_62 rfl rfl ?_
          refine g_aload_n C dX0_beginRising_63 rfl rfl ?_
          refine gfX0_15 C ha.o ha.f4 dX0_beginRising_64 ?_
          refine g_iload C dX0_beginRising_67 rfl ?_
          refine g_iald C ha.r2 (isP_in c36) dX0_beginRising_69 ?_
          refine g_iadd C dX0_beginRising_70 ?_
          refine g_istore_n C dX0_beginRising_71 rfl (by decide) rfl ?_
          refine g_aload_n C dX0_beginRising_72 rfl rfl ?_
          refine gfX0_21 C ha.o ha.f6 dX0_beginRising_73 ?_
          refine g_iload C dX0_beginRising_76 rfl ?_
          refine g_iconst C (v := 4) dX0_beginRising_78 (by decide) ?_
          refine g_iast C ha.r4 (isP_in c36) dX0_beginRising_79 ?_
          refine g_aload_n C dX0_beginRising_80 rfl rfl ?_
          refine gfX0_30 C ha.o ha.f9 dX0_beginRising_81 ?_
          refine g_iload C dX0_beginRising_84 rfl ?_
          refine g_aload_n C dX0_beginRising_86 rfl rfl ?_
          refine gfX0_9 C ha.o ha.f3 dX0_beginRising_87 ?_
          refine g_iload C dX0_beginRising_90 rfl ?_
          refine g_iald C ha.r1 (isP_in c36) dX0_beginRising_92 ?_
          refine g_iast C ha.r7 (isP_in c36) dX0_beginRising_93 ?_
          refine g_goto C (tgt := 115) dX0_beginRising_94 (by decide) ?_
          refine g_iinc C dX0_beginRising_115 rfl (nI_inc _) (by decide) rfl ?_
          refine g_goto C (tgt := 9) dX0_beginRising_118 (by decide) ?_
          exact G_forget 4 (G_cast (ls2 := [some (rf E a), some (.int (begR I a (i9 + 1)).2.1), some (.int (begR I a (i9 + 1)).2.2), some (.int (nI (i9 + 1))), none]) (st2 := []) ih9 (by first | rfl | (simp only [lp, begR_s, brB, brA, c36, c43, c59, ↓reduceIte, Bool.false_eq_true, reduceCtorEq]; first | done | rfl)) rfl (by first | rfl | (simp only [lp, begR_s, brB, brA, c36, c43, c59, ↓reduceIte, Bool.false_eq_true, reduceCtorEq]; first | done | rfl)) rfl)
    · skip
      refine g_goto C (tgt := 115) dX0_beginRising_39 (by decide) ?_
      refine g_iinc C dX0_beginRising_115 rfl (nI_inc _) (by decide) rfl ?_
      refine g_goto C (tgt := 9) dX0_beginRising_118 (by decide) ?_
      exact G_forget 4 (G_cast (ls2 := [some (rf E a), some (.int (begR I a (i9 + 1)).2.1), some (.int (begR I a (i9 + 1)).2.2), some (.int (nI (i9 + 1))), none]) (st2 := []) ih9 (by first | rfl | (simp only [lp, begR_s, brB, brA, c36, ↓reduceIte, Bool.false_eq_true, reduceCtorEq]; first | done | rfl)) rfl (by first | rfl | (simp only [lp, begR_s, brB, brA, c36, ↓reduceIte, Bool.false_eq_true, reduceCtorEq]; first | done | rfl)) rfl)
  · skip
    have h12 : (begR I a (rnd (I a 12))).1 a 12 = I a 12 := brB_12 a _ _
    refine g_iload_n C dX0_beginRising_9 rfl rfl ?_
    refine g_bipush C (v := 8) dX0_beginRising_10 (by decide) ?_
    refine g_icmp_ge C (tgt := 121) dX0_beginRising_12 (by decide) (fun c12 => ?_) (fun c12 => ?_)
    · skip
      refine g_aload_n C dX0_beginRising_121 rfl rfl ?_
      refine g_iload_n C dX0_beginRising_122 rfl rfl ?_
      refine pfX0_61 C ha.o dX0_beginRising_123 ?_
      exact g_vret C hr dX0_beginRising_126 ⟨rfl, rfl, rfl⟩
    · skip
      refine g_iload_n C dX0_beginRising_15 rfl rfl ?_
      refine g_aload_n C dX0_beginRising_16 rfl rfl ?_
      refine gfX0_61 C ha.o dX0_beginRising_17 ?_
      rw [h12]
      refine g_icmp_ge C (tgt := 121) dX0_beginRising_20 (by decide) (fun _ => ?_) (fun c20 => absurd (rnd_ge c12) c20)
      refine g_aload_n C dX0_beginRising_121 rfl rfl ?_
      refine g_iload_n C dX0_beginRising_122 rfl rfl ?_
      refine pfX0_61 C ha.o dX0_beginRising_123 ?_
      exact g_vret C hr dX0_beginRising_126 ⟨rfl, rfl, rfl⟩

