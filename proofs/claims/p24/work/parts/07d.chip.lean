set_option maxRecDepth 100000 in
set_option maxHeartbeats 4000000 in
theorem tX0_moveOn {l : Launch} {E : EE} {N : Nat} {I : Mi} {F : Mr} {a : Nat} (ha : CH N F a) (hN : 0 < N)  : CtF l E mX0_moveOn [rf E a] N I F N none (mvC I a) F := by
  refine CtF_of [some (rf E a)] (by decide) rfl (Nat.le_of_ble_eq_true rfl) rfl (fun p e s m args below meth c C hr hname => ?_)
  refine g_aload_n C dX0_moveOn_0 rfl rfl ?_
  refine kX0_119 C ha.o (tX0_endFalling ha hN) ⟨⟨Nat.le_of_ble_eq_true rfl, Nat.le_of_ble_eq_true rfl⟩, Nat.le_of_ble_eq_true rfl, Nat.le_of_ble_eq_true rfl⟩ (Nat.le_of_ble_eq_true rfl) dX0_moveOn_1 ?_
  refine g_aload_n C dX0_moveOn_4 rfl rfl ?_
  refine kX0_122 C ha.o (tX0_goOnRising ha hN) ⟨⟨Nat.le_of_ble_eq_true rfl, Nat.le_of_ble_eq_true rfl⟩, Nat.le_of_ble_eq_true rfl, Nat.le_of_ble_eq_true rfl⟩ (Nat.le_of_ble_eq_true rfl) dX0_moveOn_5 ?_
  refine g_aload_n C dX0_moveOn_8 rfl rfl ?_
  refine gfX0_46 C ha.o dX0_moveOn_9 ?_
  refine g_iconst C (v := 1) dX0_moveOn_12 (by decide) ?_
  refine g_icmp_ne C (tgt := 20) dX0_moveOn_13 (by decide) (fun c13 => ?_) (fun c13 => ?_)
  · skip
    refine g_aload_n C dX0_moveOn_20 rfl rfl ?_
    refine kX0_128 C ha.o (tX0_beginRising ha hN) ⟨⟨Nat.le_of_ble_eq_true rfl, Nat.le_of_ble_eq_true rfl⟩, Nat.le_of_ble_eq_true rfl, Nat.le_of_ble_eq_true rfl⟩ (Nat.le_of_ble_eq_true rfl) dX0_moveOn_21 ?_
    exact g_vret C hr dX0_moveOn_24 ⟨rfl, by simp only [mvC, c13, ↓reduceIte], rfl⟩
  · skip
    refine g_aload_n C dX0_moveOn_16 rfl rfl ?_
    refine kX0_125 C ha.o (tX0_askForSleepers ha hN) ⟨⟨Nat.le_of_ble_eq_true rfl, Nat.le_of_ble_eq_true rfl⟩, Nat.le_of_ble_eq_true rfl, Nat.le_of_ble_eq_true rfl⟩ (Nat.le_of_ble_eq_true rfl) dX0_moveOn_17 ?_
    refine g_aload_n C dX0_moveOn_20 rfl rfl ?_
    refine kX0_128 C ha.o (tX0_beginRising ha hN) ⟨⟨Nat.le_of_ble_eq_true rfl, Nat.le_of_ble_eq_true rfl⟩, Nat.le_of_ble_eq_true rfl, Nat.le_of_ble_eq_true rfl⟩ (Nat.le_of_ble_eq_true rfl) dX0_moveOn_21 ?_
    exact g_vret C hr dX0_moveOn_24 ⟨rfl, by simp only [mvC, c13, ↓reduceIte], rfl⟩

set_option maxRecDepth 100000 in
set_option maxHeartbeats 4000000 in
theorem tX0_letPass {l : Launch} {E : EE} {N : Nat} {I : Mi} {F : Mr} {a : Nat} (ha : CH N F a) (hN : 0 < N) {n : Nat} (hn : n < 2147483648)  : CtF l E mX0_letPass [rf E a, .int (nI n)] N I F N none (passC I a n) F := by
  refine CtF_of [some (rf E a), some (.int (nI n)), none] (by decide) rfl (Nat.le_of_ble_eq_true rfl) rfl (fun p e s m args below meth c C hr hname => ?_)
  refine g_iconst C (v := 0) dX0_letPass_0 (by decide) ?_
  refine g_istore_n C dX0_letPass_1 rfl (by decide) rfl ?_
  refine G_loop (n := n) (fun i => [some (rf E a), some (.int (nI n)), some (.int (nI i))]) (fun i => lp (fun _ J => tickC J a) i I) (fun _ => F) rfl rfl rfl ?_ ?_
  · intro i2 hi2 ih2
    refine g_iload_n C dX0_letPass_2 rfl rfl ?_
    refine g_iload_n C dX0_letPass_3 rfl rfl ?_
    refine g_icmp_ge C (tgt := 46) dX0_letPass_4 (by decide) (fun c4 => absurd c4 (nI_nge rfl hi2 hn)) (fun _ => ?_)
    refine g_aload_n C dX0_letPass_7 rfl rfl ?_
    refine kX0_97 C ha.o (tX0_readOneAnother ha hN) ⟨⟨Nat.le_of_ble_eq_true rfl, Nat.le_of_ble_eq_true rfl⟩, Nat.le_of_ble_eq_true rfl, Nat.le_of_ble_eq_true rfl⟩ (Nat.le_of_ble_eq_true rfl) dX0_letPass_8 ?_
    refine g_aload_n C dX0_letPass_11 rfl rfl ?_
    refine kX0_100 C ha.o (tX0_moveOn ha hN) ⟨⟨Nat.le_of_ble_eq_true rfl, Nat.le_of_ble_eq_true rfl⟩, Nat.le_of_ble_eq_true rfl, Nat.le_of_ble_eq_true rfl⟩ (Nat.le_of_ble_eq_true rfl) dX0_letPass_12 ?_
    refine g_aload_n C dX0_letPass_15 rfl rfl ?_
    refine g_dup C dX0_letPass_16 rfl ?_
    refine gfX0_64 C ha.o dX0_letPass_17 ?_
    refine g_iconst C (v := 1) dX0_letPass_20 (by decide) ?_
    refine g_iadd C dX0_letPass_21 ?_
    refine pfX0_64 C ha.o dX0_letPass_22 ?_
    refine g_aload_n C dX0_letPass_25 rfl rfl ?_
    refine g_aload_n C dX0_letPass_26 rfl rfl ?_
    refine gfX0_70 C ha.o dX0_letPass_27 ?_
    refine g_aload_n C dX0_letPass_30 rfl rfl ?_
    refine kX0_103 C ha.o (tX0_risingLoad ha) ⟨⟨Nat.le_of_ble_eq_true rfl, Nat.le_of_ble_eq_true rfl⟩, Nat.le_of_ble_eq_true rfl, Nat.le_of_ble_eq_true rfl⟩ (Nat.le_of_ble_eq_true rfl) dX0_letPass_31 ?_
    refine kX0_107 C (Nat.le_of_ble_eq_true rfl) (Nat.le_of_ble_eq_true rfl) (Nat.le_of_ble_eq_true rfl) (Nat.le_of_ble_eq_true rfl) dX0_letPass_34 ?_
    refine pfX0_70 C ha.o dX0_letPass_37 ?_
    refine g_iinc C dX0_letPass_40 rfl (nI_inc _) (by decide) rfl ?_
    refine g_goto C (tgt := 2) dX0_letPass_43 (by decide) ?_
    exact G_cast ih2 rfl rfl rfl rfl
  · skip
    refine g_iload_n C dX0_letPass_2 rfl rfl ?_
    refine g_iload_n C dX0_letPass_3 rfl rfl ?_
    refine g_icmp_ge C (tgt := 46) dX0_letPass_4 (by decide) (fun _ => ?_) (fun c4 => absurd (nI_lee rfl) c4)
    exact g_vret C hr dX0_letPass_46 ⟨rfl, rfl, rfl⟩

set_option maxRecDepth 100000 in
set_option maxHeartbeats 4000000 in
theorem tX0_copyFrom {l : Launch} {E : EE} {N : Nat} {I : Mi} {F : Mr} {a : Nat} (ha : CH N F a) {b : Nat} (hb : CH N F b)  : CtF l E mX0_copyFrom [rf E a, rf E b] N I F N none (copyC I a b) F := by
  refine CtF_of [some (rf E a), some (rf E b), none] (by decide) rfl (Nat.le_of_ble_eq_true rfl) rfl (fun p e s m args below meth c C hr hname => ?_)
  refine g_aload_n C dX0_copyFrom_0 rfl rfl ?_
  refine g_aload_n C dX0_copyFrom_1 rfl rfl ?_
  refine gfX0_52 C hb.o dX0_copyFrom_2 ?_
  refine pfX0_52 C ha.o dX0_copyFrom_5 ?_
  refine g_aload_n C dX0_copyFrom_8 rfl rfl ?_
  refine g_aload_n C dX0_copyFrom_9 rfl rfl ?_
  refine gfX0_55 C hb.o dX0_copyFrom_10 ?_
  refine pfX0_55 C ha.o dX0_copyFrom_13 ?_
  refine g_aload_n C dX0_copyFrom_16 rfl rfl ?_
  refine g_aload_n C dX0_copyFrom_17 rfl rfl ?_
  refine gfX0_58 C hb.o dX0_copyFrom_18 ?_
  refine pfX0_58 C ha.o dX0_copyFrom_21 ?_
  refine g_aload_n C dX0_copyFrom_24 rfl rfl ?_
  refine g_aload_n C dX0_copyFrom_25 rfl rfl ?_
  refine gfX0_61 C hb.o dX0_copyFrom_26 ?_
  refine pfX0_61 C ha.o dX0_copyFrom_29 ?_
  refine g_aload_n C dX0_copyFrom_32 rfl rfl ?_
  refine g_aload_n C dX0_copyFrom_33 rfl rfl ?_
  refine gfX0_42 C hb.o dX0_copyFrom_34 ?_
  refine pfX0_42 C ha.o dX0_copyFrom_37 ?_
  refine g_aload_n C dX0_copyFrom_40 rfl rfl ?_
  refine g_aload_n C dX0_copyFrom_41 rfl rfl ?_
  refine gfX0_46 C hb.o dX0_copyFrom_42 ?_
  refine pfX0_46 C ha.o dX0_copyFrom_45 ?_
  refine g_aload_n C dX0_copyFrom_48 rfl rfl ?_
  refine g_aload_n C dX0_copyFrom_49 rfl rfl ?_
  refine gfX0_64 C hb.o dX0_copyFrom_50 ?_
  refine pfX0_64 C ha.o dX0_copyFrom_53 ?_
  refine g_aload_n C dX0_copyFrom_56 rfl rfl ?_
  refine g_aload_n C dX0_copyFrom_57 rfl rfl ?_
  refine gfX0_67 C hb.o dX0_copyFrom_58 ?_
  refine pfX0_67 C ha.o dX0_copyFrom_61 ?_
  refine g_aload_n C dX0_copyFrom_64 rfl rfl ?_
  refine g_aload_n C dX0_copyFrom_65 rfl rfl ?_
  refine gfX0_70 C hb.o dX0_copyFrom_66 ?_
  refine pfX0_70 C ha.o dX0_copyFrom_69 ?_
  refine g_iconst C (v := 0) dX0_copyFrom_72 (by decide) ?_
  refine g_istore_n C dX0_copyFrom_73 rfl (by decide) rfl ?_
  refine G_loop (n := 8) (fun i => [some (rf E a), some (rf E b), some (.int (nI i))]) (fun i => lp (cpyB a b) i (cpyS I a b)) (fun _ => F) rfl rfl rfl ?_ ?_
  · intro i74 hi74 ih74
    refine g_iload_n C dX0_copyFrom_74 rfl rfl ?_
    refine g_bipush C (v := 8) dX0_copyFrom_75 (by decide) ?_
    refine g_icmp_ge C (tgt := 194) dX0_copyFrom_77 (by decide) (fun c77 => absurd c77 (nI_nge rfl hi74 (by decide))) (fun _ => ?_)
    refine g_aload_n C dX0_copyFrom_80 rfl rfl ?_
    refine gfX0_9 C ha.o ha.f3 dX0_copyFrom_81 ?_
    refine g_iload_n C dX0_copyFrom_84 rfl rfl ?_
    refine g_aload_n C dX0_copyFrom_85 rfl rfl ?_
    refine gfX0_9 C hb.o hb.f3 dX0_copyFrom_86 ?_
    refine g_iload_n C dX0_copyFrom_89 rfl rfl ?_
    refine g_iald_j C hb.r1 (i74) rfl hi74 (by decide) dX0_copyFrom_90 ?_
    refine g_iast_j C ha.r1 (i74) rfl hi74 (by decide) dX0_copyFrom_91 ?_
    refine g_aload_n C dX0_copyFrom_92 rfl rfl ?_
    refine gfX0_15 C ha.o ha.f4 dX0_copyFrom_93 ?_
    refine g_iload_n C dX0_copyFrom_96 rfl rfl ?_
    refine g_aload_n C dX0_copyFrom_97 rfl rfl ?_
    refine gfX0_15 C hb.o hb.f4 dX0_copyFrom_98 ?_
    refine g_iload_n C dX0_copyFrom_101 rfl rfl ?_
    refine g_iald_j C hb.r2 (i74) rfl hi74 (by decide) dX0_copyFrom_102 ?_
    refine g_iast_j C ha.r2 (i74) rfl hi74 (by decide) dX0_copyFrom_103 ?_
    refine g_aload_n C dX0_copyFrom_104 rfl rfl ?_
    refine gfX0_18 C ha.o ha.f5 dX0_copyFrom_105 ?_
    refine g_iload_n C dX0_copyFrom_108 rfl rfl ?_
    refine g_aload_n C dX0_copyFrom_109 rfl rfl ?_
    refine gfX0_18 C hb.o hb.f5 dX0_copyFrom_110 ?_
    refine g_iload_n C dX0_copyFrom_113 rfl rfl ?_
    refine g_iald_j C hb.r3 (i74) rfl hi74 (by decide) dX0_copyFrom_114 ?_
    refine g_iast_j C ha.r3 (i74) rfl hi74 (by decide) dX0_copyFrom_115 ?_
    refine g_aload_n C dX0_copyFrom_116 rfl rfl ?_
    refine gfX0_21 C ha.o ha.f6 dX0_copyFrom_117 ?_
    refine g_iload_n C dX0_copyFrom_120 rfl rfl ?_
    refine g_aload_n C dX0_copyFrom_121 rfl rfl ?_
    refine gfX0_21 C hb.o hb.f6 dX0_copyFrom_122 ?_
    refine g_iload_n C dX0_copyFrom_125 rfl rfl ?_
    refine g_iald_j C hb.r4 (i74) rfl hi74 (by decide) dX0_copyFrom_126 ?_
    refine g_iast_j C ha.r4 (i74) rfl hi74 (by decide) dX0_copyFrom_127 ?_
    refine g_aload_n C dX0_copyFrom_128 rfl rfl ?_
    refine gfX0_24 C ha.o ha.f7 dX0_copyFrom_129 ?_
    refine g_iload_n C dX0_copyFrom_132 rfl rfl ?_
    refine g_aload_n C dX0_copyFrom_133 rfl rfl ?_
    refine gfX0_24 C hb.o hb.f7 dX0_copyFrom_134 ?_
    refine g_iload_n C dX0_copyFrom_137 rfl rfl ?_
    refine g_iald_j C hb.r5 (i74) rfl hi74 (by decide) dX0_copyFrom_138 ?_
    refine g_iast_j C ha.r5 (i74) rfl hi74 (by decide) dX0_copyFrom_139 ?_
    refine g_aload_n C dX0_copyFrom_140 rfl rfl ?_
    refine gfX0_27 C ha.o ha.f8 dX0_copyFrom_141 ?_
    refine g_iload_n C dX0_copyFrom_144 rfl rfl ?_
    refine g_aload_n C dX0_copyFrom_145 rfl rfl ?_
    refine gfX0_27 C hb.o hb.f8 dX0_copyFrom_146 ?_
    refine g_iload_n C dX0_copyFrom_149 rfl rfl ?_
    refine g_iald_j C hb.r6 (i74) rfl hi74 (by decide) dX0_copyFrom_150 ?_
    refine g_iast_j C ha.r6 (i74) rfl hi74 (by decide) dX0_copyFrom_151 ?_
    refine g_aload_n C dX0_copyFrom_152 rfl rfl ?_
    refine gfX0_30 C ha.o ha.f9 dX0_copyFrom_153 ?_
    refine g_iload_n C dX0_copyFrom_156 rfl rfl ?_
    refine g_aload_n C dX0_copyFrom_157 rfl rfl ?_
    refine gfX0_30 C hb.o hb.f9 dX0_copyFrom_158 ?_
    refine g_iload_n C dX0_copyFrom_161 rfl rfl ?_
    refine g_iald_j C hb.r7 (i74) rfl hi74 (by decide) dX0_copyFrom_162 ?_
    refine g_iast_j C ha.r7 (i74) rfl hi74 (by decide) dX0_copyFrom_163 ?_
    refine g_aload_n C dX0_copyFrom_164 rfl rfl ?_
    refine gfX0_33 C ha.o ha.f10 dX0_copyFrom_165 ?_
    refine g_iload_n C dX0_copyFrom_168 rfl rfl ?_
    refine g_aload_n C dX0_copyFrom_169 rfl rfl ?_
    refine gfX0_33 C hb.o hb.f10 dX0_copyFrom_170 ?_
    refine g_iload_n C dX0_copyFrom_173 rfl rfl ?_
    refine g_iald_j C hb.r8 (i74) rfl hi74 (by decide) dX0_copyFrom_174 ?_
    refine g_iast_j C ha.r8 (i74) rfl hi74 (by decide) dX0_copyFrom_175 ?_
    refine g_aload_n C dX0_copyFrom_176 rfl rfl ?_
    refine gfX0_36 C ha.o ha.f11 dX0_copyFrom_177 ?_
    refine g_iload_n C dX0_copyFrom_180 rfl rfl ?_
    refine g_aload_n C dX0_copyFrom_181 rfl rfl ?_
    refine gfX0_36 C hb.o hb.f11 dX0_copyFrom_182 ?_
    refine g_iload_n C dX0_copyFrom_185 rfl rfl ?_
    refine g_iald_j C hb.r9 (i74) rfl hi74 (by decide) dX0_copyFrom_186 ?_
    refine g_iast_j C ha.r9 (i74) rfl hi74 (by decide) dX0_copyFrom_187 ?_
    refine g_iinc C dX0_copyFrom_188 rfl (nI_inc _) (by decide) rfl ?_
    refine g_goto C (tgt := 74) dX0_copyFrom_191 (by decide) ?_
    exact G_cast ih74 rfl rfl rfl rfl
  · skip
    refine g_iload_n C dX0_copyFrom_74 rfl rfl ?_
    refine g_bipush C (v := 8) dX0_copyFrom_75 (by decide) ?_
    refine g_icmp_ge C (tgt := 194) dX0_copyFrom_77 (by decide) (fun _ => ?_) (fun c77 => absurd (nI_lee rfl) c77)
    exact g_vret C hr dX0_copyFrom_194 ⟨rfl, rfl, rfl⟩

set_option maxRecDepth 100000 in
set_option maxHeartbeats 4000000 in
theorem tX0_placeInQueue {l : Launch} {E : EE} {N : Nat} {I : Mi} {F : Mr} {a : Nat} (ha : CH N F a) (x : Int32)  : CtF l E mX0_placeInQueue [rf E a, .int x] N I F N (some (.int (pqC I a x 8 0))) I F := by
  refine CtF_of [some (rf E a), some (.int x), none] (by decide) rfl (Nat.le_of_ble_eq_true rfl) rfl (fun p e s m args below meth c C hr hname => ?_)
  refine g_iconst C (v := 0) dX0_placeInQueue_0 (by decide) ?_
  refine g_istore_n C dX0_placeInQueue_1 rfl (by decide) rfl ?_
  refine G_loopI (n := 8) (fun i => [some (rf E a), some (.int x), some (.int (nI i))]) (fun _ => I) (fun _ => F) (fun i => pqC I a x (8 - i) i = pqC I a x 8 0) rfl rfl rfl rfl ?_ ?_
  · intro i2 hi2 hv2 ih2
    rw [show 8 - i2 = (7 - i2) + 1 by omega, pqC] at hv2
    refine g_iload_n C dX0_placeInQueue_2 rfl rfl ?_
    refine g_bipush C (v := 8) dX0_placeInQueue_3 (by decide) ?_
    refine g_icmp_ge C (tgt := 34) dX0_placeInQueue_5 (by decide) (fun c5 => absurd c5 (nI_nge rfl hi2 (by decide))) (fun _ => ?_)
    refine g_iload_n C dX0_placeInQueue_8 rfl rfl ?_
    refine g_aload_n C dX0_placeInQueue_9 rfl rfl ?_
    refine gfX0_61 C ha.o dX0_placeInQueue_10 ?_
    refine g_icmp_ge C (tgt := 34) dX0_placeInQueue_13 (by decide) (fun c13 => ?_) (fun c13 => ?_)
    · skip
      refine g_bipush C (v := (-6)) dX0_placeInQueue_34 (by decide) ?_
      exact g_iret C hr dX0_placeInQueue_36 ⟨congrArg (fun z => some (Value.int z)) (by first | (simpa only [c13, ↓reduceIte] using hv2) | (simpa only [Nat.sub_self, pqC] using hv2)), rfl, rfl⟩
    · skip
      refine g_aload_n C dX0_placeInQueue_16 rfl rfl ?_
      refine gfX0_36 C ha.o ha.f11 dX0_placeInQueue_17 ?_
      refine g_iload_n C dX0_placeInQueue_20 rfl rfl ?_
      refine g_iald_j C ha.r9 (i2) rfl hi2 (by decide) dX0_placeInQueue_21 ?_
      refine g_iload_n C dX0_placeInQueue_22 rfl rfl ?_
      refine g_icmp_ne C (tgt := 28) dX0_placeInQueue_23 (by decide) (fun c23 => ?_) (fun c23 => ?_)
      · skip
        refine g_iinc C dX0_placeInQueue_28 rfl (nI_inc _) (by decide) rfl ?_
        refine g_goto C (tgt := 2) dX0_placeInQueue_31 (by decide) ?_
        exact ih2 (by rw [show 8 - (i2 + 1) = 7 - i2 by omega]; simpa only [c13, c23, ↓reduceIte] using hv2)
      · skip
        refine g_iload_n C dX0_placeInQueue_26 rfl rfl ?_
        exact g_iret C hr dX0_placeInQueue_27 ⟨congrArg (fun z => some (Value.int z)) (by simpa only [c13, c23, ↓reduceIte] using hv2), rfl, rfl⟩
  · intro hv2
    refine g_iload_n C dX0_placeInQueue_2 rfl rfl ?_
    refine g_bipush C (v := 8) dX0_placeInQueue_3 (by decide) ?_
    refine g_icmp_ge C (tgt := 34) dX0_placeInQueue_5 (by decide) (fun _ => ?_) (fun c5 => absurd (nI_lee rfl) c5)
    refine g_bipush C (v := (-6)) dX0_placeInQueue_34 (by decide) ?_
    exact g_iret C hr dX0_placeInQueue_36 ⟨congrArg (fun z => some (Value.int z)) (by first | (simpa only [lp, ↓reduceIte] using hv2) | (simpa only [Nat.sub_self, pqC] using hv2)), rfl, rfl⟩

set_option maxRecDepth 100000 in
set_option maxHeartbeats 4000000 in
theorem tX0_isAtRest {l : Launch} {E : EE} {N : Nat} {I : Mi} {F : Mr} {a : Nat} (ha : CH N F a)  : CtF l E mX0_isAtRest [rf E a] N I F N (some (.int (bi (restC I a 8 0)))) I F := by
  refine CtF_of [some (rf E a), none] (by decide) rfl (Nat.le_of_ble_eq_true rfl) rfl (fun p e s m args below meth c C hr hname => ?_)
  refine g_iconst C (v := 0) dX0_isAtRest_0 (by decide) ?_
  refine g_istore_n C dX0_isAtRest_1 rfl (by decide) rfl ?_
  refine G_loopI (n := 8) (fun i => [some (rf E a), some (.int (nI i))]) (fun _ => I) (fun _ => F) (fun i => restC I a (8 - i) i = restC I a 8 0) rfl rfl rfl rfl ?_ ?_
  · intro i2 hi2 hv2 ih2
    rw [show 8 - i2 = (7 - i2) + 1 by omega, restC] at hv2
    refine g_iload_n C dX0_isAtRest_2 rfl rfl ?_
    refine g_bipush C (v := 8) dX0_isAtRest_3 (by decide) ?_
    refine g_icmp_ge C (tgt := 46) dX0_isAtRest_5 (by decide) (fun c5 => absurd c5 (nI_nge rfl hi2 (by decide))) (fun _ => ?_)
    refine g_aload_n C dX0_isAtRest_8 rfl rfl ?_
    refine gfX0_21 C ha.o ha.f6 dX0_isAtRest_9 ?_
    refine g_iload_n C dX0_isAtRest_12 rfl rfl ?_
    refine g_iald_j C ha.r4 (i2) rfl hi2 (by decide) dX0_isAtRest_13 ?_
    refine g_iconst C (v := 1) dX0_isAtRest_14 (by decide) ?_
    refine g_icmp_eq C (tgt := 38) dX0_isAtRest_15 (by decide) (fun c15 => ?_) (fun c15 => ?_)
    · skip
      refine g_iconst C (v := 0) dX0_isAtRest_38 (by decide) ?_
      exact g_zret_0 C hr dX0_isAtRest_39 ⟨congrArg (fun z => some (Value.int (bi z))) (show false = _ by simpa only [c15, ↓reduceIte, ite_self] using hv2), rfl, rfl⟩
    · skip
      refine g_aload_n C dX0_isAtRest_18 rfl rfl ?_
      refine gfX0_21 C ha.o ha.f6 dX0_isAtRest_19 ?_
      refine g_iload_n C dX0_isAtRest_22 rfl rfl ?_
      refine g_iald_j C ha.r4 (i2) rfl hi2 (by decide) dX0_isAtRest_23 ?_
      refine g_iconst C (v := 3) dX0_isAtRest_24 (by decide) ?_
      refine g_icmp_eq C (tgt := 38) dX0_isAtRest_25 (by decide) (fun c25 => ?_) (fun c25 => ?_)
      · skip
        refine g_iconst C (v := 0) dX0_isAtRest_38 (by decide) ?_
        exact g_zret_0 C hr dX0_isAtRest_39 ⟨congrArg (fun z => some (Value.int (bi z))) (show false = _ by simpa only [c15, c25, ↓reduceIte, ite_self] using hv2), rfl, rfl⟩
      · skip
        refine g_aload_n C dX0_isAtRest_28 rfl rfl ?_
        refine gfX0_21 C ha.o ha.f6 dX0_isAtRest_29 ?_
        refine g_iload_n C dX0_isAtRest_32 rfl rfl ?_
        refine g_iald_j C ha.r4 (i2) rfl hi2 (by decide) dX0_isAtRest_33 ?_
        refine g_iconst C (v := 4) dX0_isAtRest_34 (by decide) ?_
        refine g_icmp_ne C (tgt := 40) dX0_isAtRest_35 (by decide) (fun c35 => ?_) (fun c35 => ?_)
        · skip
          refine g_iinc C dX0_isAtRest_40 rfl (nI_inc _) (by decide) rfl ?_
          refine g_goto C (tgt := 2) dX0_isAtRest_43 (by decide) ?_
          exact ih2 (by rw [show 8 - (i2 + 1) = 7 - i2 by omega]; simpa only [c15, c25, c35, ↓reduceIte] using hv2)
        · skip
          refine g_iconst C (v := 0) dX0_isAtRest_38 (by decide) ?_
          exact g_zret_0 C hr dX0_isAtRest_39 ⟨congrArg (fun z => some (Value.int (bi z))) (show false = _ by simpa only [c15, c25, c35, ↓reduceIte, ite_self] using hv2), rfl, rfl⟩
  · intro hv2
    refine g_iload_n C dX0_isAtRest_2 rfl rfl ?_
    refine g_bipush C (v := 8) dX0_isAtRest_3 (by decide) ?_
    refine g_icmp_ge C (tgt := 46) dX0_isAtRest_5 (by decide) (fun _ => ?_) (fun c5 => absurd (nI_lee rfl) c5)
    refine g_iconst C (v := 1) dX0_isAtRest_46 (by decide) ?_
    exact g_zret_1 C hr dX0_isAtRest_47 ⟨congrArg (fun z => some (Value.int (bi z))) (show true = _ by simpa only [Nat.sub_self, restC] using hv2), rfl, rfl⟩

set_option maxRecDepth 100000 in
set_option maxHeartbeats 4000000 in
theorem tX0_addIsland {l : Launch} {E : EE} {N : Nat} {I : Mi} {F : Mr} {a : Nat} (ha : CH N F a) (hN : 0 < N) {n : Nat} (hn8 : n < 8) (hn : I a 0 = nI n) (iso keep : Int32) (r d m : Int32)  : CtF l E mX0_addIsland [rf E a, .int iso, .int keep, .int r, .int d, .int m] N I F N none (addC I a n iso keep r d m) F := by
  refine CtF_of [some (rf E a), some (.int iso), some (.int keep), some (.int r), some (.int d), some (.int m), none] (by decide) rfl (Nat.le_of_ble_eq_true rfl) rfl (fun p e s m args below meth c C hr hname => ?_)
  refine g_aload_n C dX0_addIsland_0 rfl rfl ?_
  refine gfX0_52 C ha.o dX0_addIsland_1 ?_
  rw [hn]
  refine g_istore C dX0_addIsland_4 (by decide) rfl ?_
  refine g_iload C dX0_addIsland_6 rfl ?_
  refine kX0_73 C hN (tX0_isPlace _) ⟨⟨Nat.le_of_ble_eq_true rfl, Nat.le_of_ble_eq_true rfl⟩, Nat.le_of_ble_eq_true rfl, Nat.le_of_ble_eq_true rfl⟩ (Nat.le_of_ble_eq_true rfl) dX0_addIsland_8 ?_
  refine g_ifne_b C (tgt := 15) dX0_addIsland_11 (by decide) (fun _ => ?_) (fun c11 => (bt_f (isP_n hn8) c11).elim)
  refine g_aload_n C dX0_addIsland_15 rfl rfl ?_
  refine g_dup C dX0_addIsland_16 rfl ?_
  refine gfX0_52 C ha.o dX0_addIsland_17 ?_
  refine g_iconst C (v := 1) dX0_addIsland_20 (by decide) ?_
  refine g_iadd C dX0_addIsland_21 ?_
  refine pfX0_52 C ha.o dX0_addIsland_22 ?_
  refine g_iload_n C dX0_addIsland_25 rfl rfl ?_
  refine g_if_eq C (tgt := 42) dX0_addIsland_26 (by decide) (fun c26 => ?_) (fun c26 => ?_)
  · skip
    refine g_iload_n C dX0_addIsland_42 rfl rfl ?_
    refine g_if_eq C (tgt := 59) dX0_addIsland_43 (by decide) (fun c43 => ?_) (fun c43 => ?_)
    · skip
      refine g_aload_n C dX0_addIsland_59 rfl rfl ?_
      refine gfX0_9 C ha.o ha.f3 dX0_addIsland_60 ?_
      refine g_iload C dX0_addIsland_63 rfl ?_
      refine g_iload_n C dX0_addIsland_65 rfl rfl ?_
      refine g_iast_j C ha.r1 (n) rfl hn8 (by decide) dX0_addIsland_66 ?_
      refine g_aload_n C dX0_addIsland_67 rfl rfl ?_
      refine gfX0_15 C ha.o ha.f4 dX0_addIsland_68 ?_
      refine g_iload C dX0_addIsland_71 rfl ?_
      refine g_iload C dX0_addIsland_73 rfl ?_
      refine g_iast_j C ha.r2 (n) rfl hn8 (by decide) dX0_addIsland_75 ?_
      refine g_aload_n C dX0_addIsland_76 rfl rfl ?_
      refine gfX0_18 C ha.o ha.f5 dX0_addIsland_77 ?_
      refine g_iload C dX0_addIsland_80 rfl ?_
      refine g_iload C dX0_addIsland_82 rfl ?_
      refine g_iast_j C ha.r3 (n) rfl hn8 (by decide) dX0_addIsland_84 ?_
      refine g_aload_n C dX0_addIsland_85 rfl rfl ?_
      refine gfX0_21 C ha.o ha.f6 dX0_addIsland_86 ?_
      refine g_iload C dX0_addIsland_89 rfl ?_
      refine g_iconst C (v := 0) dX0_addIsland_91 (by decide) ?_
      refine g_iast_j C ha.r4 (n) rfl hn8 (by decide) dX0_addIsland_92 ?_
      exact g_vret C hr dX0_addIsland_93 ⟨rfl, by simp only [addC, sh1, hn, c26, c43, ↓reduceIte, Bool.false_eq_true], rfl⟩
    · skip
      refine g_aload_n C dX0_addIsland_46 rfl rfl ?_
      refine g_dup C dX0_addIsland_47 rfl ?_
      refine gfX0_58 C ha.o dX0_addIsland_48 ?_
      refine g_iconst C (v := 1) dX0_addIsland_51 (by decide) ?_
      refine g_iload C dX0_addIsland_52 rfl ?_
      refine g_ishl C dX0_addIsland_54 ?_
      refine g_ior C dX0_addIsland_55 ?_
      refine pfX0_58 C ha.o dX0_addIsland_56 ?_
      refine g_aload_n C dX0_addIsland_59 rfl rfl ?_
      refine gfX0_9 C ha.o ha.f3 dX0_addIsland_60 ?_
      refine g_iload C dX0_addIsland_63 rfl ?_
      refine g_iload_n C dX0_addIsland_65 rfl rfl ?_
      refine g_iast_j C ha.r1 (n) rfl hn8 (by decide) dX0_addIsland_66 ?_
      refine g_aload_n C dX0_addIsland_67 rfl rfl ?_
      refine gfX0_15 C ha.o ha.f4 dX0_addIsland_68 ?_
      refine g_iload C dX0_addIsland_71 rfl ?_
      refine g_iload C dX0_addIsland_73 rfl ?_
      refine g_iast_j C ha.r2 (n) rfl hn8 (by decide) dX0_addIsland_75 ?_
      refine g_aload_n C dX0_addIsland_76 rfl rfl ?_
      refine gfX0_18 C ha.o ha.f5 dX0_addIsland_77 ?_
      refine g_iload C dX0_addIsland_80 rfl ?_
      refine g_iload C dX0_addIsland_82 rfl ?_
      refine g_iast_j C ha.r3 (n) rfl hn8 (by decide) dX0_addIsland_84 ?_
      refine g_aload_n C dX0_addIsland_85 rfl rfl ?_
      refine gfX0_21 C ha.o ha.f6 dX0_addIsland_86 ?_
      refine g_iload C dX0_addIsland_89 rfl ?_
      refine g_iconst C (v := 0) dX0_addIsland_91 (by decide) ?_
      refine g_iast_j C ha.r4 (n) rfl hn8 (by decide) dX0_addIsland_92 ?_
      exact g_vret C hr dX0_addIsland_93 ⟨rfl, by simp only [addC, sh1, hn, c26, c43, ↓reduceIte, Bool.false_eq_true], rfl⟩
  · skip
    refine g_aload_n C dX0_addIsland_29 rfl rfl ?_
    refine g_dup C dX0_addIsland_30 rfl ?_
    refine gfX0_55 C ha.o dX0_addIsland_31 ?_
    refine g_iconst C (v := 1) dX0_addIsland_34 (by decide) ?_
    refine g_iload C dX0_addIsland_35 rfl ?_
    refine g_ishl C dX0_addIsland_37 ?_
    refine g_ior C dX0_addIsland_38 ?_
    refine pfX0_55 C ha.o dX0_addIsland_39 ?_
    refine g_iload_n C dX0_addIsland_42 rfl rfl ?_
    refine g_if_eq C (tgt := 59) dX0_addIsland_43 (by decide) (fun c43 => ?_) (fun c43 => ?_)
    · skip
      refine g_aload_n C dX0_addIsland_59 rfl rfl ?_
      refine gfX0_9 C ha.o ha.f3 dX0_addIsland_60 ?_
      refine g_iload C dX0_addIsland_63 rfl ?_
      refine g_iload_n C dX0_addIsland_65 rfl rfl ?_
      refine g_iast_j C ha.r1 (n) rfl hn8 (by decide) dX0_addIsland_66 ?_
      refine g_aload_n C dX0_addIsland_67 rfl rfl ?_
      refine gfX0_15 C ha.o ha.f4 dX0_addIsland_68 ?_
      refine g_iload C dX0_addIsland_71 rfl ?_
      refine g_iload C dX0_addIsland_73 rfl ?_
      refine g_iast_j C ha.r2 (n) rfl hn8 (by decide) dX0_addIsland_75 ?_
      refine g_aload_n C dX0_addIsland_76 rfl rfl ?_
      refine gfX0_18 C ha.o ha.f5 dX0_addIsland_77 ?_
      refine g_iload C dX0_addIsland_80 rfl ?_
      refine g_iload C dX0_addIsland_82 rfl ?_
      refine g_iast_j C ha.r3 (n) rfl hn8 (by decide) dX0_addIsland_84 ?_
      refine g_aload_n C dX0_addIsland_85 rfl rfl ?_
      refine gfX0_21 C ha.o ha.f6 dX0_addIsland_86 ?_
      refine g_iload C dX0_addIsland_89 rfl ?_
      refine g_iconst C (v := 0) dX0_addIsland_91 (by decide) ?_
      refine g_iast_j C ha.r4 (n) rfl hn8 (by decide) dX0_addIsland_92 ?_
      exact g_vret C hr dX0_addIsland_93 ⟨rfl, by simp only [addC, sh1, hn, c26, c43, ↓reduceIte, Bool.false_eq_true], rfl⟩
    · skip
      refine g_aload_n C dX0_addIsland_46 rfl rfl ?_
      refine g_dup C dX0_addIsland_47 rfl ?_
      refine gfX0_58 C ha.o dX0_addIsland_48 ?_
      refine g_iconst C (v := 1) dX0_addIsland_51 (by decide) ?_
      refine g_iload C dX0_addIsland_52 rfl ?_
      refine g_ishl C dX0_addIsland_54 ?_
      refine g_ior C dX0_addIsland_55 ?_
      refine pfX0_58 C ha.o dX0_addIsland_56 ?_
      refine g_aload_n C dX0_addIsland_59 rfl rfl ?_
      refine gfX0_9 C ha.o ha.f3 dX0_addIsland_60 ?_
      refine g_iload C dX0_addIsland_63 rfl ?_
      refine g_iload_n C dX0_addIsland_65 rfl rfl ?_
      refine g_iast_j C ha.r1 (n) rfl hn8 (by decide) dX0_addIsland_66 ?_
      refine g_aload_n C dX0_addIsland_67 rfl rfl ?_
      refine gfX0_15 C ha.o ha.f4 dX0_addIsland_68 ?_
      refine g_iload C dX0_addIsland_71 rfl ?_
      refine g_iload C dX0_addIsland_73 rfl ?_
      refine g_iast_j C ha.r2 (n) rfl hn8 (by decide) dX0_addIsland_75 ?_
      refine g_aload_n C dX0_addIsland_76 rfl rfl ?_
      refine gfX0_18 C ha.o ha.f5 dX0_addIsland_77 ?_
      refine g_iload C dX0_addIsland_80 rfl ?_
      refine g_iload C dX0_addIsland_82 rfl ?_
      refine g_iast_j C ha.r3 (n) rfl hn8 (by decide) dX0_addIsland_84 ?_
      refine g_aload_n C dX0_addIsland_85 rfl rfl ?_
      refine gfX0_21 C ha.o ha.f6 dX0_addIsland_86 ?_
      refine g_iload C dX0_addIsland_89 rfl ?_
      refine g_iconst C (v := 0) dX0_addIsland_91 (by decide) ?_
      refine g_iast_j C ha.r4 (n) rfl hn8 (by decide) dX0_addIsland_92 ?_
      exact g_vret C hr dX0_addIsland_93 ⟨rfl, by simp only [addC, sh1, hn, c26, c43, ↓reduceIte, Bool.false_eq_true], rfl⟩

