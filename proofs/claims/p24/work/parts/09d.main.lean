set_option maxRecDepth 100000 in
set_option maxHeartbeats 800000 in
theorem tX4_of {l : Launch} {E : EE} {I : Mi} {F : Mr} (hl : LY F) {i : Nat} (hi8 : i < 8) (hx : hasC I 1 (nI i) = true) (v : Int32)  : CtF l E mX4_of [rf E 0, .int (nI i), .int v] NT I F NT (some (.int (xOf I i v))) I F := by
  refine CtF_of [some (rf E 0), some (.int (nI i)), some (.int v)] (by decide) rfl (Nat.le_of_ble_eq_true rfl) rfl (fun p e s m args below meth c C hr hname => ?_)
  refine g_aload_n C dX4_of_0 rfl rfl ?_
  refine gfX4_10 C (by decide) hl.chip dX4_of_1 ?_
  refine g_iload_n C dX4_of_4 rfl rfl ?_
  refine kX4_93 C hl.c1.o (tX0_has hl.c1 (by decide) _) ⟨⟨Nat.le_of_ble_eq_true rfl, Nat.le_of_ble_eq_true rfl⟩, Nat.le_of_ble_eq_true rfl, Nat.le_of_ble_eq_true rfl⟩ (Nat.le_of_ble_eq_true rfl) dX4_of_5 ?_
  refine g_ifne_b C (tgt := 13) dX4_of_8 (by decide) (fun _ => ?_) (fun c8 => (bt_f hx c8).elim)
  refine g_iload_n C dX4_of_13 rfl rfl ?_
  by_cases csw : v.toInt < 0 ∨ 12 < v.toInt
  · refine g_tableOut C (tgt := 227) dX4_of_14 csw (by decide) ?_
    have hsw := fun {α : Type} (f : Nat → α) (d9 : α) => swf_out (f := f) (d := d9) csw
    refine g_bipush C (v := (-2)) dX4_of_227 (by decide) ?_
    exact g_iret C hr dX4_of_229 ⟨by unfold xOf; rw [hsw]; try simp only [lp, bi]; try rfl, rfl, rfl⟩
  · obtain ⟨csw1, csw2⟩ := not_or.mp csw
    have csw3 : v = 0 ∨ v = 1 ∨ v = 2 ∨ v = 3 ∨ v = 4 ∨ v = 5 ∨ v = 6 ∨ v = 7 ∨ v = 8 ∨ v = 9 ∨ v = 10 ∨ v = 11 ∨ v = 12 := sw_cases13 csw1 csw2
    rcases csw3 with c_0 | c_1 | c_2 | c_3 | c_4 | c_5 | c_6 | c_7 | c_8 | c_9 | c_10 | c_11 | c_12
    · refine g_tableIn C (off := 66) (tgt := 80) dX4_of_14 csw1 csw2 (by rw [c_0]; rfl) (by decide) ?_
      have hsw := fun {α : Type} (f : Nat → α) (d9 : α) => swf_at (n := 12) (f := f) (d := d9) (z := 0) c_0 (by decide) (by decide)
      refine g_aload_n C dX4_of_80 rfl rfl ?_
      refine gfX4_10 C (by decide) hl.chip dX4_of_81 ?_
      refine gfX4_105 C hl.c1.o hl.c1.f6 dX4_of_84 ?_
      refine g_iload_n C dX4_of_87 rfl rfl ?_
      refine g_iald_j C hl.c1.r4 (i) rfl hi8 (by decide) dX4_of_88 ?_
      exact g_iret C hr dX4_of_89 ⟨by unfold xOf; rw [hsw]; try simp only [lp, bi]; try rfl, rfl, rfl⟩
    · refine g_tableIn C (off := 76) (tgt := 90) dX4_of_14 csw1 csw2 (by rw [c_1]; rfl) (by decide) ?_
      have hsw := fun {α : Type} (f : Nat → α) (d9 : α) => swf_at (n := 12) (f := f) (d := d9) (z := 1) c_1 (by decide) (by decide)
      refine g_aload_n C dX4_of_90 rfl rfl ?_
      refine gfX4_10 C (by decide) hl.chip dX4_of_91 ?_
      refine gfX4_108 C hl.c1.o hl.c1.f7 dX4_of_94 ?_
      refine g_iload_n C dX4_of_97 rfl rfl ?_
      refine g_iald_j C hl.c1.r5 (i) rfl hi8 (by decide) dX4_of_98 ?_
      exact g_iret C hr dX4_of_99 ⟨by unfold xOf; rw [hsw]; try simp only [lp, bi]; try rfl, rfl, rfl⟩
    · refine g_tableIn C (off := 86) (tgt := 100) dX4_of_14 csw1 csw2 (by rw [c_2]; rfl) (by decide) ?_
      have hsw := fun {α : Type} (f : Nat → α) (d9 : α) => swf_at (n := 12) (f := f) (d := d9) (z := 2) c_2 (by decide) (by decide)
      refine g_aload_n C dX4_of_100 rfl rfl ?_
      refine gfX4_10 C (by decide) hl.chip dX4_of_101 ?_
      refine gfX4_136 C hl.c1.o hl.c1.f8 dX4_of_104 ?_
      refine g_iload_n C dX4_of_107 rfl rfl ?_
      refine g_iald_j C hl.c1.r6 (i) rfl hi8 (by decide) dX4_of_108 ?_
      exact g_iret C hr dX4_of_109 ⟨by unfold xOf; rw [hsw]; try simp only [lp, bi]; try rfl, rfl, rfl⟩
    · refine g_tableIn C (off := 96) (tgt := 110) dX4_of_14 csw1 csw2 (by rw [c_3]; rfl) (by decide) ?_
      have hsw := fun {α : Type} (f : Nat → α) (d9 : α) => swf_at (n := 12) (f := f) (d := d9) (z := 3) c_3 (by decide) (by decide)
      refine g_aload_n C dX4_of_110 rfl rfl ?_
      refine gfX4_10 C (by decide) hl.chip dX4_of_111 ?_
      refine gfX4_139 C hl.c1.o dX4_of_114 ?_
      refine g_iload_n C dX4_of_117 rfl rfl ?_
      refine kX4_101 C (by decide) (tX4_isIn _ _) ⟨⟨Nat.le_of_ble_eq_true rfl, Nat.le_of_ble_eq_true rfl⟩, Nat.le_of_ble_eq_true rfl, Nat.le_of_ble_eq_true rfl⟩ (Nat.le_of_ble_eq_true rfl) dX4_of_118 ?_
      refine g_ifeq_b C (tgt := 128) dX4_of_121 (by decide) (fun c121 => ?_) (fun c121 => ?_)
      · skip
        refine g_iconst C (v := 0) dX4_of_128 (by decide) ?_
        exact g_iret C hr dX4_of_129 ⟨by unfold xOf; rw [hsw]; try simp only [c121, bi]; try rfl, rfl, rfl⟩
      · skip
        refine g_iconst C (v := 1) dX4_of_124 (by decide) ?_
        refine g_goto C (tgt := 129) dX4_of_125 (by decide) ?_
        exact g_iret C hr dX4_of_129 ⟨by unfold xOf; rw [hsw]; try simp only [c121, bi]; try rfl, rfl, rfl⟩
    · refine g_tableIn C (off := 116) (tgt := 130) dX4_of_14 csw1 csw2 (by rw [c_4]; rfl) (by decide) ?_
      have hsw := fun {α : Type} (f : Nat → α) (d9 : α) => swf_at (n := 12) (f := f) (d := d9) (z := 4) c_4 (by decide) (by decide)
      refine g_aload_n C dX4_of_130 rfl rfl ?_
      refine gfX4_10 C (by decide) hl.chip dX4_of_131 ?_
      refine gfX4_142 C hl.c1.o dX4_of_134 ?_
      refine g_iload_n C dX4_of_137 rfl rfl ?_
      refine kX4_101 C (by decide) (tX4_isIn _ _) ⟨⟨Nat.le_of_ble_eq_true rfl, Nat.le_of_ble_eq_true rfl⟩, Nat.le_of_ble_eq_true rfl, Nat.le_of_ble_eq_true rfl⟩ (Nat.le_of_ble_eq_true rfl) dX4_of_138 ?_
      refine g_ifeq_b C (tgt := 148) dX4_of_141 (by decide) (fun c141 => ?_) (fun c141 => ?_)
      · skip
        refine g_iconst C (v := 0) dX4_of_148 (by decide) ?_
        exact g_iret C hr dX4_of_149 ⟨by unfold xOf; rw [hsw]; try simp only [c141, bi]; try rfl, rfl, rfl⟩
      · skip
        refine g_iconst C (v := 1) dX4_of_144 (by decide) ?_
        refine g_goto C (tgt := 149) dX4_of_145 (by decide) ?_
        exact g_iret C hr dX4_of_149 ⟨by unfold xOf; rw [hsw]; try simp only [c141, bi]; try rfl, rfl, rfl⟩
    · refine g_tableIn C (off := 136) (tgt := 150) dX4_of_14 csw1 csw2 (by rw [c_5]; rfl) (by decide) ?_
      have hsw := fun {α : Type} (f : Nat → α) (d9 : α) => swf_at (n := 12) (f := f) (d := d9) (z := 5) c_5 (by decide) (by decide)
      refine g_aload_n C dX4_of_150 rfl rfl ?_
      refine gfX4_10 C (by decide) hl.chip dX4_of_151 ?_
      refine gfX4_145 C hl.c1.o hl.c1.f3 dX4_of_154 ?_
      refine g_iload_n C dX4_of_157 rfl rfl ?_
      refine g_iald_j C hl.c1.r1 (i) rfl hi8 (by decide) dX4_of_158 ?_
      exact g_iret C hr dX4_of_159 ⟨by unfold xOf; rw [hsw]; try simp only [lp, bi]; try rfl, rfl, rfl⟩
    · refine g_tableIn C (off := 146) (tgt := 160) dX4_of_14 csw1 csw2 (by rw [c_6]; rfl) (by decide) ?_
      have hsw := fun {α : Type} (f : Nat → α) (d9 : α) => swf_at (n := 12) (f := f) (d := d9) (z := 6) c_6 (by decide) (by decide)
      refine g_aload_n C dX4_of_160 rfl rfl ?_
      refine gfX4_10 C (by decide) hl.chip dX4_of_161 ?_
      refine gfX4_148 C hl.c1.o hl.c1.f4 dX4_of_164 ?_
      refine g_iload_n C dX4_of_167 rfl rfl ?_
      refine g_iald_j C hl.c1.r2 (i) rfl hi8 (by decide) dX4_of_168 ?_
      exact g_iret C hr dX4_of_169 ⟨by unfold xOf; rw [hsw]; try simp only [lp, bi]; try rfl, rfl, rfl⟩
    · refine g_tableIn C (off := 156) (tgt := 170) dX4_of_14 csw1 csw2 (by rw [c_7]; rfl) (by decide) ?_
      have hsw := fun {α : Type} (f : Nat → α) (d9 : α) => swf_at (n := 12) (f := f) (d := d9) (z := 7) c_7 (by decide) (by decide)
      refine g_aload_n C dX4_of_170 rfl rfl ?_
      refine gfX4_10 C (by decide) hl.chip dX4_of_171 ?_
      refine gfX4_97 C hl.c1.o hl.c1.f5 dX4_of_174 ?_
      refine g_iload_n C dX4_of_177 rfl rfl ?_
      refine g_iald_j C hl.c1.r3 (i) rfl hi8 (by decide) dX4_of_178 ?_
      exact g_iret C hr dX4_of_179 ⟨by unfold xOf; rw [hsw]; try simp only [lp, bi]; try rfl, rfl, rfl⟩
    · refine g_tableIn C (off := 166) (tgt := 180) dX4_of_14 csw1 csw2 (by rw [c_8]; rfl) (by decide) ?_
      have hsw := fun {α : Type} (f : Nat → α) (d9 : α) => swf_at (n := 12) (f := f) (d := d9) (z := 8) c_8 (by decide) (by decide)
      refine g_aload_n C dX4_of_180 rfl rfl ?_
      refine gfX4_10 C (by decide) hl.chip dX4_of_181 ?_
      refine g_iload_n C dX4_of_184 rfl rfl ?_
      refine kX4_111 C hl.c1.o (tX0_readersOf hl.c1 (by decide) _) ⟨⟨Nat.le_of_ble_eq_true rfl, Nat.le_of_ble_eq_true rfl⟩, Nat.le_of_ble_eq_true rfl, Nat.le_of_ble_eq_true rfl⟩ (Nat.le_of_ble_eq_true rfl) dX4_of_185 ?_
      exact g_iret C hr dX4_of_188 ⟨by unfold xOf; rw [hsw]; try simp only [lp, bi]; try rfl, rfl, rfl⟩
    · refine g_tableIn C (off := 175) (tgt := 189) dX4_of_14 csw1 csw2 (by rw [c_9]; rfl) (by decide) ?_
      have hsw := fun {α : Type} (f : Nat → α) (d9 : α) => swf_at (n := 12) (f := f) (d := d9) (z := 9) c_9 (by decide) (by decide)
      refine g_aload_n C dX4_of_189 rfl rfl ?_
      refine gfX4_10 C (by decide) hl.chip dX4_of_190 ?_
      refine g_iload_n C dX4_of_193 rfl rfl ?_
      refine kX4_151 C hl.c1.o (tX0_whatTells hl.c1 (by decide) hi8) ⟨⟨Nat.le_of_ble_eq_true rfl, Nat.le_of_ble_eq_true rfl⟩, Nat.le_of_ble_eq_true rfl, Nat.le_of_ble_eq_true rfl⟩ (Nat.le_of_ble_eq_true rfl) dX4_of_194 ?_
      exact g_iret C hr dX4_of_197 ⟨by unfold xOf; rw [hsw]; try simp only [lp, bi]; try rfl, rfl, rfl⟩
    · refine g_tableIn C (off := 184) (tgt := 198) dX4_of_14 csw1 csw2 (by rw [c_10]; rfl) (by decide) ?_
      have hsw := fun {α : Type} (f : Nat → α) (d9 : α) => swf_at (n := 12) (f := f) (d := d9) (z := 10) c_10 (by decide) (by decide)
      refine g_aload_n C dX4_of_198 rfl rfl ?_
      refine gfX4_10 C (by decide) hl.chip dX4_of_199 ?_
      refine gfX4_154 C hl.c1.o hl.c1.f9 dX4_of_202 ?_
      refine g_iload_n C dX4_of_205 rfl rfl ?_
      refine g_iald_j C hl.c1.r7 (i) rfl hi8 (by decide) dX4_of_206 ?_
      exact g_iret C hr dX4_of_207 ⟨by unfold xOf; rw [hsw]; try simp only [lp, bi]; try rfl, rfl, rfl⟩
    · refine g_tableIn C (off := 194) (tgt := 208) dX4_of_14 csw1 csw2 (by rw [c_11]; rfl) (by decide) ?_
      have hsw := fun {α : Type} (f : Nat → α) (d9 : α) => swf_at (n := 12) (f := f) (d := d9) (z := 11) c_11 (by decide) (by decide)
      refine g_aload_n C dX4_of_208 rfl rfl ?_
      refine gfX4_10 C (by decide) hl.chip dX4_of_209 ?_
      refine g_iload_n C dX4_of_212 rfl rfl ?_
      refine kX4_157 C hl.c1.o (tX0_placeInQueue hl.c1 _) ⟨⟨Nat.le_of_ble_eq_true rfl, Nat.le_of_ble_eq_true rfl⟩, Nat.le_of_ble_eq_true rfl, Nat.le_of_ble_eq_true rfl⟩ (Nat.le_of_ble_eq_true rfl) dX4_of_213 ?_
      exact g_iret C hr dX4_of_216 ⟨by unfold xOf; rw [hsw]; try simp only [lp, bi]; try rfl, rfl, rfl⟩
    · refine g_tableIn C (off := 203) (tgt := 217) dX4_of_14 csw1 csw2 (by rw [c_12]; rfl) (by decide) ?_
      have hsw := fun {α : Type} (f : Nat → α) (d9 : α) => swf_at (n := 12) (f := f) (d := d9) (z := 12) c_12 (by decide) (by decide)
      refine g_aload_n C dX4_of_217 rfl rfl ?_
      refine gfX4_10 C (by decide) hl.chip dX4_of_218 ?_
      refine gfX4_160 C hl.c1.o hl.c1.f10 dX4_of_221 ?_
      refine g_iload_n C dX4_of_224 rfl rfl ?_
      refine g_iald_j C hl.c1.r8 (i) rfl hi8 (by decide) dX4_of_225 ?_
      exact g_iret C hr dX4_of_226 ⟨by unfold xOf; rw [hsw]; try simp only [lp, bi]; try rfl, rfl, rfl⟩

set_option maxRecDepth 100000 in
set_option maxHeartbeats 800000 in
theorem tX4_count {l : Launch} {E : EE} {I : Mi} {F : Mr} (hl : LY F) (v : Int32)  : CtF l E mX4_count [rf E 0, .int v] NT I F NT (some (.int (xCount I v))) I F := by
  refine CtF_of [some (rf E 0), some (.int v)] (by decide) rfl (Nat.le_of_ble_eq_true rfl) rfl (fun p e s m args below meth c C hr hname => ?_)
  refine g_iload_n C dX4_count_0 rfl rfl ?_
  by_cases csw : v.toInt < 0 ∨ 13 < v.toInt
  · refine g_tableOut C (tgt := 188) dX4_count_1 csw (by decide) ?_
    have hsw := fun {α : Type} (f : Nat → α) (d9 : α) => swf_out (f := f) (d := d9) csw
    refine g_bipush C (v := (-2)) dX4_count_188 (by decide) ?_
    exact g_iret C hr dX4_count_190 ⟨by unfold xCount; rw [hsw]; try rfl, rfl, rfl⟩
  · obtain ⟨csw1, csw2⟩ := not_or.mp csw
    have csw3 : v = 0 ∨ v = 1 ∨ v = 2 ∨ v = 3 ∨ v = 4 ∨ v = 5 ∨ v = 6 ∨ v = 7 ∨ v = 8 ∨ v = 9 ∨ v = 10 ∨ v = 11 ∨ v = 12 ∨ v = 13 := sw_cases14 csw1 csw2
    rcases csw3 with c_0 | c_1 | c_2 | c_3 | c_4 | c_5 | c_6 | c_7 | c_8 | c_9 | c_10 | c_11 | c_12 | c_13
    · refine g_tableIn C (off := 71) (tgt := 72) dX4_count_1 csw1 csw2 (by rw [c_0]; rfl) (by decide) ?_
      have hsw := fun {α : Type} (f : Nat → α) (d9 : α) => swf_at (n := 13) (f := f) (d := d9) (z := 0) c_0 (by decide) (by decide)
      refine g_aload_n C dX4_count_72 rfl rfl ?_
      refine gfX4_10 C (by decide) hl.chip dX4_count_73 ?_
      refine gfX4_71 C hl.c1.o dX4_count_76 ?_
      exact g_iret C hr dX4_count_79 ⟨by unfold xCount; rw [hsw]; try rfl, rfl, rfl⟩
    · refine g_tableIn C (off := 79) (tgt := 80) dX4_count_1 csw1 csw2 (by rw [c_1]; rfl) (by decide) ?_
      have hsw := fun {α : Type} (f : Nat → α) (d9 : α) => swf_at (n := 13) (f := f) (d := d9) (z := 1) c_1 (by decide) (by decide)
      refine g_aload_n C dX4_count_80 rfl rfl ?_
      refine gfX4_10 C (by decide) hl.chip dX4_count_81 ?_
      refine g_iconst C (v := 0) dX4_count_84 (by decide) ?_
      refine kX4_114 C hl.c1.o (tX0_islandsThatAre hl.c1 _) ⟨⟨Nat.le_of_ble_eq_true rfl, Nat.le_of_ble_eq_true rfl⟩, Nat.le_of_ble_eq_true rfl, Nat.le_of_ble_eq_true rfl⟩ (Nat.le_of_ble_eq_true rfl) dX4_count_85 ?_
      exact g_iret C hr dX4_count_88 ⟨by unfold xCount; rw [hsw]; try rfl, rfl, rfl⟩
    · refine g_tableIn C (off := 88) (tgt := 89) dX4_count_1 csw1 csw2 (by rw [c_2]; rfl) (by decide) ?_
      have hsw := fun {α : Type} (f : Nat → α) (d9 : α) => swf_at (n := 13) (f := f) (d := d9) (z := 2) c_2 (by decide) (by decide)
      refine g_aload_n C dX4_count_89 rfl rfl ?_
      refine gfX4_10 C (by decide) hl.chip dX4_count_90 ?_
      refine g_iconst C (v := 2) dX4_count_93 (by decide) ?_
      refine kX4_114 C hl.c1.o (tX0_islandsThatAre hl.c1 _) ⟨⟨Nat.le_of_ble_eq_true rfl, Nat.le_of_ble_eq_true rfl⟩, Nat.le_of_ble_eq_true rfl, Nat.le_of_ble_eq_true rfl⟩ (Nat.le_of_ble_eq_true rfl) dX4_count_94 ?_
      exact g_iret C hr dX4_count_97 ⟨by unfold xCount; rw [hsw]; try rfl, rfl, rfl⟩
    · refine g_tableIn C (off := 97) (tgt := 98) dX4_count_1 csw1 csw2 (by rw [c_3]; rfl) (by decide) ?_
      have hsw := fun {α : Type} (f : Nat → α) (d9 : α) => swf_at (n := 13) (f := f) (d := d9) (z := 3) c_3 (by decide) (by decide)
      refine g_aload_n C dX4_count_98 rfl rfl ?_
      refine gfX4_10 C (by decide) hl.chip dX4_count_99 ?_
      refine g_iconst C (v := 3) dX4_count_102 (by decide) ?_
      refine kX4_114 C hl.c1.o (tX0_islandsThatAre hl.c1 _) ⟨⟨Nat.le_of_ble_eq_true rfl, Nat.le_of_ble_eq_true rfl⟩, Nat.le_of_ble_eq_true rfl, Nat.le_of_ble_eq_true rfl⟩ (Nat.le_of_ble_eq_true rfl) dX4_count_103 ?_
      exact g_iret C hr dX4_count_106 ⟨by unfold xCount; rw [hsw]; try rfl, rfl, rfl⟩
    · refine g_tableIn C (off := 106) (tgt := 107) dX4_count_1 csw1 csw2 (by rw [c_4]; rfl) (by decide) ?_
      have hsw := fun {α : Type} (f : Nat → α) (d9 : α) => swf_at (n := 13) (f := f) (d := d9) (z := 4) c_4 (by decide) (by decide)
      refine g_aload_n C dX4_count_107 rfl rfl ?_
      refine gfX4_10 C (by decide) hl.chip dX4_count_108 ?_
      refine g_iconst C (v := 4) dX4_count_111 (by decide) ?_
      refine kX4_114 C hl.c1.o (tX0_islandsThatAre hl.c1 _) ⟨⟨Nat.le_of_ble_eq_true rfl, Nat.le_of_ble_eq_true rfl⟩, Nat.le_of_ble_eq_true rfl, Nat.le_of_ble_eq_true rfl⟩ (Nat.le_of_ble_eq_true rfl) dX4_count_112 ?_
      exact g_iret C hr dX4_count_115 ⟨by unfold xCount; rw [hsw]; try rfl, rfl, rfl⟩
    · refine g_tableIn C (off := 115) (tgt := 116) dX4_count_1 csw1 csw2 (by rw [c_5]; rfl) (by decide) ?_
      have hsw := fun {α : Type} (f : Nat → α) (d9 : α) => swf_at (n := 13) (f := f) (d := d9) (z := 5) c_5 (by decide) (by decide)
      refine g_aload_n C dX4_count_116 rfl rfl ?_
      refine gfX4_10 C (by decide) hl.chip dX4_count_117 ?_
      refine kX4_163 C hl.c1.o (tX0_risingLoad hl.c1) ⟨⟨Nat.le_of_ble_eq_true rfl, Nat.le_of_ble_eq_true rfl⟩, Nat.le_of_ble_eq_true rfl, Nat.le_of_ble_eq_true rfl⟩ (Nat.le_of_ble_eq_true rfl) dX4_count_120 ?_
      exact g_iret C hr dX4_count_123 ⟨by unfold xCount; rw [hsw]; try rfl, rfl, rfl⟩
    · refine g_tableIn C (off := 123) (tgt := 124) dX4_count_1 csw1 csw2 (by rw [c_6]; rfl) (by decide) ?_
      have hsw := fun {α : Type} (f : Nat → α) (d9 : α) => swf_at (n := 13) (f := f) (d := d9) (z := 6) c_6 (by decide) (by decide)
      refine g_aload_n C dX4_count_124 rfl rfl ?_
      refine gfX4_10 C (by decide) hl.chip dX4_count_125 ?_
      refine gfX4_166 C hl.c1.o dX4_count_128 ?_
      exact g_iret C hr dX4_count_131 ⟨by unfold xCount; rw [hsw]; try rfl, rfl, rfl⟩
    · refine g_tableIn C (off := 131) (tgt := 132) dX4_count_1 csw1 csw2 (by rw [c_7]; rfl) (by decide) ?_
      have hsw := fun {α : Type} (f : Nat → α) (d9 : α) => swf_at (n := 13) (f := f) (d := d9) (z := 7) c_7 (by decide) (by decide)
      refine g_aload_n C dX4_count_132 rfl rfl ?_
      refine gfX4_10 C (by decide) hl.chip dX4_count_133 ?_
      refine kX4_129 C hl.c1.o (tX0_noiseSoFar hl.c1) ⟨⟨Nat.le_of_ble_eq_true rfl, Nat.le_of_ble_eq_true rfl⟩, Nat.le_of_ble_eq_true rfl, Nat.le_of_ble_eq_true rfl⟩ (Nat.le_of_ble_eq_true rfl) dX4_count_136 ?_
      exact g_iret C hr dX4_count_139 ⟨by unfold xCount; rw [hsw]; try rfl, rfl, rfl⟩
    · refine g_tableIn C (off := 139) (tgt := 140) dX4_count_1 csw1 csw2 (by rw [c_8]; rfl) (by decide) ?_
      have hsw := fun {α : Type} (f : Nat → α) (d9 : α) => swf_at (n := 13) (f := f) (d := d9) (z := 8) c_8 (by decide) (by decide)
      refine g_aload_n C dX4_count_140 rfl rfl ?_
      refine gfX4_10 C (by decide) hl.chip dX4_count_141 ?_
      refine gfX4_169 C hl.c1.o dX4_count_144 ?_
      exact g_iret C hr dX4_count_147 ⟨by unfold xCount; rw [hsw]; try rfl, rfl, rfl⟩
    · refine g_tableIn C (off := 147) (tgt := 148) dX4_count_1 csw1 csw2 (by rw [c_9]; rfl) (by decide) ?_
      have hsw := fun {α : Type} (f : Nat → α) (d9 : α) => swf_at (n := 13) (f := f) (d := d9) (z := 9) c_9 (by decide) (by decide)
      refine g_aload_n C dX4_count_148 rfl rfl ?_
      refine gfX4_10 C (by decide) hl.chip dX4_count_149 ?_
      refine gfX4_172 C hl.c1.o dX4_count_152 ?_
      exact g_iret C hr dX4_count_155 ⟨by unfold xCount; rw [hsw]; try rfl, rfl, rfl⟩
    · refine g_tableIn C (off := 155) (tgt := 156) dX4_count_1 csw1 csw2 (by rw [c_10]; rfl) (by decide) ?_
      have hsw := fun {α : Type} (f : Nat → α) (d9 : α) => swf_at (n := 13) (f := f) (d := d9) (z := 10) c_10 (by decide) (by decide)
      refine g_aload_n C dX4_count_156 rfl rfl ?_
      refine gfX4_10 C (by decide) hl.chip dX4_count_157 ?_
      refine gfX4_65 C hl.c1.o dX4_count_160 ?_
      exact g_iret C hr dX4_count_163 ⟨by unfold xCount; rw [hsw]; try rfl, rfl, rfl⟩
    · refine g_tableIn C (off := 163) (tgt := 164) dX4_count_1 csw1 csw2 (by rw [c_11]; rfl) (by decide) ?_
      have hsw := fun {α : Type} (f : Nat → α) (d9 : α) => swf_at (n := 13) (f := f) (d := d9) (z := 11) c_11 (by decide) (by decide)
      refine g_aload_n C dX4_count_164 rfl rfl ?_
      refine gfX4_10 C (by decide) hl.chip dX4_count_165 ?_
      refine gfX4_68 C hl.c1.o dX4_count_168 ?_
      exact g_iret C hr dX4_count_171 ⟨by unfold xCount; rw [hsw]; try rfl, rfl, rfl⟩
    · refine g_tableIn C (off := 171) (tgt := 172) dX4_count_1 csw1 csw2 (by rw [c_12]; rfl) (by decide) ?_
      have hsw := fun {α : Type} (f : Nat → α) (d9 : α) => swf_at (n := 13) (f := f) (d := d9) (z := 12) c_12 (by decide) (by decide)
      refine g_aload_n C dX4_count_172 rfl rfl ?_
      refine gfX4_22 C (by decide) hl.padR dX4_count_173 ?_
      refine gfX4_90 C (by decide) dX4_count_176 ?_
      exact g_iret C hr dX4_count_179 ⟨by unfold xCount; rw [hsw]; try rfl, rfl, rfl⟩
    · refine g_tableIn C (off := 179) (tgt := 180) dX4_count_1 csw1 csw2 (by rw [c_13]; rfl) (by decide) ?_
      have hsw := fun {α : Type} (f : Nat → α) (d9 : α) => swf_at (n := 13) (f := f) (d := d9) (z := 13) c_13 (by decide) (by decide)
      refine g_aload_n C dX4_count_180 rfl rfl ?_
      refine gfX4_36 C (by decide) hl.histR dX4_count_181 ?_
      refine gfX4_175 C (by decide) dX4_count_184 ?_
      exact g_iret C hr dX4_count_187 ⟨by unfold xCount; rw [hsw]; try rfl, rfl, rfl⟩

set_option maxRecDepth 100000 in
set_option maxHeartbeats 800000 in
theorem tX4_waiting {l : Launch} {E : EE} {I : Mi} {F : Mr} (hl : LY F) (x : Int32)  : CtF l E mX4_waiting [rf E 0, .int x] NT I F NT (some (.int (inqC I 1 x))) I F := by
  refine CtF_of [some (rf E 0), some (.int x)] (by decide) rfl (Nat.le_of_ble_eq_true rfl) rfl (fun p e s m args below meth c C hr hname => ?_)
  refine g_aload_n C dX4_waiting_0 rfl rfl ?_
  refine gfX4_10 C (by decide) hl.chip dX4_waiting_1 ?_
  refine g_iload_n C dX4_waiting_4 rfl rfl ?_
  refine kX4_178 C hl.c1.o (tX0_islandInQueue hl.c1 (by decide) _) ⟨⟨Nat.le_of_ble_eq_true rfl, Nat.le_of_ble_eq_true rfl⟩, Nat.le_of_ble_eq_true rfl, Nat.le_of_ble_eq_true rfl⟩ (Nat.le_of_ble_eq_true rfl) dX4_waiting_5 ?_
  exact g_iret C hr dX4_waiting_8 ⟨rfl, rfl, rfl⟩

set_option maxRecDepth 100000 in
set_option maxHeartbeats 800000 in
theorem tX4_ifPassed {l : Launch} {E : EE} {I : Mi} {F : Mr} (hl : LY F) {n : Nat} (hn : n < 2147483648) (hx : isW (nI n) 1 200 = true) (v : Int32)  : CtF l E mX4_ifPassed [rf E 0, .int (nI n), .int v] NT I F NT (some (.int (xIfP I n v).1)) ((xIfP I n v).2) F := by
  refine CtF_of [some (rf E 0), some (.int (nI n)), some (.int v)] (by decide) rfl (Nat.le_of_ble_eq_true rfl) rfl (fun p e s m args below meth c C hr hname => ?_)
  refine g_iload_n C dX4_ifPassed_0 rfl rfl ?_
  refine g_iconst C (v := 1) dX4_ifPassed_1 (by decide) ?_
  refine g_sipush C (v := 200) dX4_ifPassed_2 (by decide) ?_
  refine kX4_57 C (by decide) (tX4_isWithin _ _ _) ⟨⟨Nat.le_of_ble_eq_true rfl, Nat.le_of_ble_eq_true rfl⟩, Nat.le_of_ble_eq_true rfl, Nat.le_of_ble_eq_true rfl⟩ (Nat.le_of_ble_eq_true rfl) dX4_ifPassed_5 ?_
  refine g_ifeq_b C (tgt := 20) dX4_ifPassed_8 (by decide) (fun c8 => (bt_f hx c8).elim) (fun _ => ?_)
  refine g_iload_n C dX4_ifPassed_11 rfl rfl ?_
  refine g_iconst C (v := 0) dX4_ifPassed_12 (by decide) ?_
  refine g_iconst C (v := 3) dX4_ifPassed_13 (by decide) ?_
  refine kX4_57 C (by decide) (tX4_isWithin _ _ _) ⟨⟨Nat.le_of_ble_eq_true rfl, Nat.le_of_ble_eq_true rfl⟩, Nat.le_of_ble_eq_true rfl, Nat.le_of_ble_eq_true rfl⟩ (Nat.le_of_ble_eq_true rfl) dX4_ifPassed_14 ?_
  refine g_ifne_b C (tgt := 23) dX4_ifPassed_17 (by decide) (fun c17 => ?_) (fun c17 => ?_)
  · skip
    refine g_aload_n C dX4_ifPassed_23 rfl rfl ?_
    refine gfX4_16 C (by decide) hl.trial dX4_ifPassed_24 ?_
    refine g_aload_n C dX4_ifPassed_27 rfl rfl ?_
    refine gfX4_10 C (by decide) hl.chip dX4_ifPassed_28 ?_
    refine kX4_87 C hl.c12.o (tX0_copyFrom hl.c12 hl.c1) ⟨⟨Nat.le_of_ble_eq_true rfl, Nat.le_of_ble_eq_true rfl⟩, Nat.le_of_ble_eq_true rfl, Nat.le_of_ble_eq_true rfl⟩ (Nat.le_of_ble_eq_true rfl) dX4_ifPassed_31 ?_
    refine g_aload_n C dX4_ifPassed_34 rfl rfl ?_
    refine gfX4_16 C (by decide) hl.trial dX4_ifPassed_35 ?_
    refine g_iconst C (v := 0) dX4_ifPassed_38 (by decide) ?_
    refine pfX4_166 C hl.c12.o dX4_ifPassed_39 ?_
    refine g_aload_n C dX4_ifPassed_42 rfl rfl ?_
    refine gfX4_16 C (by decide) hl.trial dX4_ifPassed_43 ?_
    refine g_iload_n C dX4_ifPassed_46 rfl rfl ?_
    refine kX4_133 C hl.c12.o (tX0_letPass hl.c12 (by decide) hn) ⟨⟨Nat.le_of_ble_eq_true rfl, Nat.le_of_ble_eq_true rfl⟩, Nat.le_of_ble_eq_true rfl, Nat.le_of_ble_eq_true rfl⟩ (Nat.le_of_ble_eq_true rfl) dX4_ifPassed_47 ?_
    refine g_iload_n C dX4_ifPassed_50 rfl rfl ?_
    by_cases csw : v.toInt < 0 ∨ 2 < v.toInt
    · refine g_tableOut C (tgt := 109) dX4_ifPassed_51 csw (by decide) ?_
      have hsw := fun {α : Type} (f : Nat → α) (d9 : α) => swf_out (f := f) (d := d9) csw
      refine g_aload_n C dX4_ifPassed_109 rfl rfl ?_
      refine gfX4_16 C (by decide) hl.trial dX4_ifPassed_110 ?_
      refine kX4_181 C hl.c12.o (tX0_sumOfValues hl.c12) ⟨⟨Nat.le_of_ble_eq_true rfl, Nat.le_of_ble_eq_true rfl⟩, Nat.le_of_ble_eq_true rfl, Nat.le_of_ble_eq_true rfl⟩ (Nat.le_of_ble_eq_true rfl) dX4_ifPassed_113 ?_
      exact g_iret C hr dX4_ifPassed_116 ⟨by unfold xIfP; (try first | rw [if_pos c17] | rw [if_neg c17] | rw [if_neg (show ¬ _ = true by rw [c17]; decide)]); try rw [hsw]; try rfl, by unfold xIfP; (try first | rw [if_pos c17] | rw [if_neg c17] | rw [if_neg (show ¬ _ = true by rw [c17]; decide)]); try rw [hsw]; try rfl, rfl⟩
    · obtain ⟨csw1, csw2⟩ := not_or.mp csw
      have csw3 : v = 0 ∨ v = 1 ∨ v = 2 := sw_cases3 csw1 csw2
      rcases csw3 with c_0 | c_1 | c_2
      · refine g_tableIn C (off := 25) (tgt := 76) dX4_ifPassed_51 csw1 csw2 (by rw [c_0]; rfl) (by decide) ?_
        have hsw := fun {α : Type} (f : Nat → α) (d9 : α) => swf_at (n := 2) (f := f) (d := d9) (z := 0) c_0 (by decide) (by decide)
        refine g_aload_n C dX4_ifPassed_76 rfl rfl ?_
        refine gfX4_16 C (by decide) hl.trial dX4_ifPassed_77 ?_
        refine kX4_129 C hl.c12.o (tX0_noiseSoFar hl.c12) ⟨⟨Nat.le_of_ble_eq_true rfl, Nat.le_of_ble_eq_true rfl⟩, Nat.le_of_ble_eq_true rfl, Nat.le_of_ble_eq_true rfl⟩ (Nat.le_of_ble_eq_true rfl) dX4_ifPassed_80 ?_
        refine g_aload_n C dX4_ifPassed_83 rfl rfl ?_
        refine gfX4_10 C (by decide) hl.chip dX4_ifPassed_84 ?_
        refine kX4_129 C hl.c1.o (tX0_noiseSoFar hl.c1) ⟨⟨Nat.le_of_ble_eq_true rfl, Nat.le_of_ble_eq_true rfl⟩, Nat.le_of_ble_eq_true rfl, Nat.le_of_ble_eq_true rfl⟩ (Nat.le_of_ble_eq_true rfl) dX4_ifPassed_87 ?_
        refine g_isub C dX4_ifPassed_90 ?_
        exact g_iret C hr dX4_ifPassed_91 ⟨by unfold xIfP; (try first | rw [if_pos c17] | rw [if_neg c17] | rw [if_neg (show ¬ _ = true by rw [c17]; decide)]); try rw [hsw]; try rfl, by unfold xIfP; (try first | rw [if_pos c17] | rw [if_neg c17] | rw [if_neg (show ¬ _ = true by rw [c17]; decide)]); try rw [hsw]; try rfl, rfl⟩
      · refine g_tableIn C (off := 41) (tgt := 92) dX4_ifPassed_51 csw1 csw2 (by rw [c_1]; rfl) (by decide) ?_
        have hsw := fun {α : Type} (f : Nat → α) (d9 : α) => swf_at (n := 2) (f := f) (d := d9) (z := 1) c_1 (by decide) (by decide)
        refine g_aload_n C dX4_ifPassed_92 rfl rfl ?_
        refine gfX4_16 C (by decide) hl.trial dX4_ifPassed_93 ?_
        refine g_iconst C (v := 0) dX4_ifPassed_96 (by decide) ?_
        refine kX4_114 C hl.c12.o (tX0_islandsThatAre hl.c12 _) ⟨⟨Nat.le_of_ble_eq_true rfl, Nat.le_of_ble_eq_true rfl⟩, Nat.le_of_ble_eq_true rfl, Nat.le_of_ble_eq_true rfl⟩ (Nat.le_of_ble_eq_true rfl) dX4_ifPassed_97 ?_
        exact g_iret C hr dX4_ifPassed_100 ⟨by unfold xIfP; (try first | rw [if_pos c17] | rw [if_neg c17] | rw [if_neg (show ¬ _ = true by rw [c17]; decide)]); try rw [hsw]; try rfl, by unfold xIfP; (try first | rw [if_pos c17] | rw [if_neg c17] | rw [if_neg (show ¬ _ = true by rw [c17]; decide)]); try rw [hsw]; try rfl, rfl⟩
      · refine g_tableIn C (off := 50) (tgt := 101) dX4_ifPassed_51 csw1 csw2 (by rw [c_2]; rfl) (by decide) ?_
        have hsw := fun {α : Type} (f : Nat → α) (d9 : α) => swf_at (n := 2) (f := f) (d := d9) (z := 2) c_2 (by decide) (by decide)
        refine g_aload_n C dX4_ifPassed_101 rfl rfl ?_
        refine gfX4_16 C (by decide) hl.trial dX4_ifPassed_102 ?_
        refine gfX4_166 C hl.c12.o dX4_ifPassed_105 ?_
        exact g_iret C hr dX4_ifPassed_108 ⟨by unfold xIfP; (try first | rw [if_pos c17] | rw [if_neg c17] | rw [if_neg (show ¬ _ = true by rw [c17]; decide)]); try rw [hsw]; try rfl, by unfold xIfP; (try first | rw [if_pos c17] | rw [if_neg c17] | rw [if_neg (show ¬ _ = true by rw [c17]; decide)]); try rw [hsw]; try rfl, rfl⟩
  · skip
    refine g_bipush C (v := (-2)) dX4_ifPassed_20 (by decide) ?_
    exact g_iret C hr dX4_ifPassed_22 ⟨by unfold xIfP; (try first | rw [if_pos c17] | rw [if_neg c17] | rw [if_neg (show ¬ _ = true by rw [c17]; decide)]); try rw [hsw]; try rfl, by unfold xIfP; (try first | rw [if_pos c17] | rw [if_neg c17] | rw [if_neg (show ¬ _ = true by rw [c17]; decide)]); try rw [hsw]; try rfl, rfl⟩

