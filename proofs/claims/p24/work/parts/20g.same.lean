/-! the law's comparison of all islands -/
def SM1 (I : Mi) (n k : Nat) : Prop := ((xOf I k 0 = sL I 127 k 7 ∧ xOf I k 1 = sL I 127 k 4 ∧ xOf I k 2 = sL I 127 k 5 ∧ xOf I k 3 = I 128 (12 * k) ∧ xOf I k 4 = sL I 127 k 1) ∧ (xOf I k 5 = sL I 127 k 2 ∧ xOf I k 6 = sL I 127 k 3 ∧ xOf I k 7 = sL I 127 k 6 ∧ xOf I k 8 = rdsL I 127 n (nI k) ∧ xOf I k 9 = telL I 127 k)) ∧ (xOf I k 10 = (if sL I 127 k 7 = 4 then sL I 127 k 8 else 0) ∧ xOf I k 11 = plcL I 127 n k ∧ xOf I k 12 = sL I 127 k 9) ∧ (¬ plcL I 127 n k < 0 → inqC I 1 (plcL I 127 n k) = nI k)
def SM2 (I : Mi) (n : Nat) : Prop := ((xCount I 0 = I 127 2 ∧ xCount I 1 = setL I 127 n 0 ∧ xCount I 2 = setL I 127 n 2 ∧ xCount I 3 = setL I 127 n 3 ∧ xCount I 4 = setL I 127 n 4 ∧ xCount I 5 = loadL I 127 n) ∧ (xCount I 6 = I 127 6 ∧ xCount I 7 = I 127 4 ∧ xCount I 8 = I 127 5 ∧ xCount I 9 = I 127 3 ∧ xCount I 10 = I 127 0 ∧ xCount I 11 = I 127 1)) ∧ inqC I 1 (bitR 6 (setL I 127 n 3) 0) = -1
def SMO (I : Mi) (n : Nat) : Prop := (∀ k, k < n → hasC I 1 (nI k) = true ∧ SM1 I n k) ∧ SM2 I n
set_option maxRecDepth 100000 in
set_option maxHeartbeats 8000000 in
theorem tL_same {l : Launch} {E : EE} {I : Mi} {F : Mr} (hl : LY F) {n : Nat} (hn5 : n ≤ 5) (hn : I 127 2 = nI n) (hS : SMO I n)  : CtF l E mL_same [rf E 0, rf E 127, rf E 128] NT I F NT (some (.int 1)) I F := by
  obtain ⟨⟨u1, u2⟩, u3⟩ := hS.2
  obtain ⟨v, hv, ev⟩ := setL_lt I 127 hn5 3
  refine CtF_of [some (rf E 0), some (rf E 127), some (rf E 128), none, none, none] (by decide) rfl (Nat.le_of_ble_eq_true rfl) rfl (fun p e s m args below meth c C hr hname => ?_)
  refine g_iconst C (v := 0) dL_same_0 (by decide) ?_
  refine g_istore_n C dL_same_1 rfl (by decide) rfl ?_
  refine G_loop (n := n) (fun i => [some (rf E 0), some (rf E 127), some (rf E 128), some (.int (nI i)), none, none]) (fun i => I) (fun _ => F) rfl rfl rfl ?_ ?_
  · intro i2 hi2 ih2
    obtain ⟨hh, s1, s2, s3⟩ := hS.1 i2 hi2
    refine g_iload_n C dL_same_2 rfl rfl ?_
    refine g_aload_n C dL_same_3 rfl rfl ?_
    refine g_iconst C (v := 2) dL_same_4 (by decide) ?_
    refine g_iald_j C (show ar NT 127 7 8 by decide) 2 rfl (by decide) (by decide) dL_same_5 ?_
    refine g_icmp_ge C (tgt := 260) dL_same_6 (by decide) (fun c6 => absurd c6 (nI_nge hn hi2 (by omega))) (fun _ => ?_)
    refine g_bipush C (v := 12) dL_same_9 (by decide) ?_
    refine g_iload_n C dL_same_11 rfl rfl ?_
    refine g_imul C dL_same_12 ?_
    rw [e_ix0]
    refine g_istore C dL_same_13 (by decide) rfl ?_
    refine g_iload_n C dL_same_15 rfl rfl ?_
    refine g_aload_n C dL_same_16 rfl rfl ?_
    refine g_aload_n C dL_same_17 rfl rfl ?_
    refine kL_31 C (by decide) (tL_place LB7 hn5 hn (u := i2) (by omega)) ⟨⟨Nat.le_of_ble_eq_true rfl, Nat.le_of_ble_eq_true rfl⟩, Nat.le_of_ble_eq_true rfl, Nat.le_of_ble_eq_true rfl⟩ (Nat.le_of_ble_eq_true rfl) dL_same_18 ?_
    refine g_istore C dL_same_21 (by decide) rfl ?_
    refine g_aload_n C dL_same_23 rfl rfl ?_
    refine g_iload_n C dL_same_24 rfl rfl ?_
    refine g_iconst C (v := 0) dL_same_25 (by decide) ?_
    refine kL_34 C (show ob NT 0 4 by decide) (tX4_of hl (i := i2) (by omega) hh _) ⟨⟨Nat.le_of_ble_eq_true rfl, Nat.le_of_ble_eq_true rfl⟩, Nat.le_of_ble_eq_true rfl, Nat.le_of_ble_eq_true rfl⟩ (Nat.le_of_ble_eq_true rfl) dL_same_26 ?_
    refine g_aload_n C dL_same_29 rfl rfl ?_
    refine g_iload C dL_same_30 rfl ?_
    refine g_bipush C (v := 7) dL_same_32 (by decide) ?_
    refine g_iadd C dL_same_34 ?_
    refine g_iald_j C (show ar NT 128 7 60 by decide) ((12 * i2) + 7) (nI_add (12 * i2) 7) (by omega) (by decide) dL_same_35 ?_
    refine g_icmp_ne C (tgt := 252) dL_same_36 (by decide) (fun c36 => absurd s1.1.1 c36) (fun _ => ?_)
    refine g_aload_n C dL_same_39 rfl rfl ?_
    refine g_iload_n C dL_same_40 rfl rfl ?_
    refine g_iconst C (v := 1) dL_same_41 (by decide) ?_
    refine kL_34 C (show ob NT 0 4 by decide) (tX4_of hl (i := i2) (by omega) hh _) ⟨⟨Nat.le_of_ble_eq_true rfl, Nat.le_of_ble_eq_true rfl⟩, Nat.le_of_ble_eq_true rfl, Nat.le_of_ble_eq_true rfl⟩ (Nat.le_of_ble_eq_true rfl) dL_same_42 ?_
    refine g_aload_n C dL_same_45 rfl rfl ?_
    refine g_iload C dL_same_46 rfl ?_
    refine g_iconst C (v := 4) dL_same_48 (by decide) ?_
    refine g_iadd C dL_same_49 ?_
    refine g_iald_j C (show ar NT 128 7 60 by decide) ((12 * i2) + 4) (nI_add (12 * i2) 4) (by omega) (by decide) dL_same_50 ?_
    refine g_icmp_ne C (tgt := 252) dL_same_51 (by decide) (fun c51 => absurd s1.1.2.1 c51) (fun _ => ?_)
    refine g_aload_n C dL_same_54 rfl rfl ?_
    refine g_iload_n C dL_same_55 rfl rfl ?_
    refine g_iconst C (v := 2) dL_same_56 (by decide) ?_
    refine kL_34 C (show ob NT 0 4 by decide) (tX4_of hl (i := i2) (by omega) hh _) ⟨⟨Nat.le_of_ble_eq_true rfl, Nat.le_of_ble_eq_true rfl⟩, Nat.le_of_ble_eq_true rfl, Nat.le_of_ble_eq_true rfl⟩ (Nat.le_of_ble_eq_true rfl) dL_same_57 ?_
    refine g_aload_n C dL_same_60 rfl rfl ?_
    refine g_iload C dL_same_61 rfl ?_
    refine g_iconst C (v := 5) dL_same_63 (by decide) ?_
    refine g_iadd C dL_same_64 ?_
    refine g_iald_j C (show ar NT 128 7 60 by decide) ((12 * i2) + 5) (nI_add (12 * i2) 5) (by omega) (by decide) dL_same_65 ?_
    refine g_icmp_ne C (tgt := 252) dL_same_66 (by decide) (fun c66 => absurd s1.1.2.2.1 c66) (fun _ => ?_)
    refine g_aload_n C dL_same_69 rfl rfl ?_
    refine g_iload_n C dL_same_70 rfl rfl ?_
    refine g_iconst C (v := 3) dL_same_71 (by decide) ?_
    refine kL_34 C (show ob NT 0 4 by decide) (tX4_of hl (i := i2) (by omega) hh _) ⟨⟨Nat.le_of_ble_eq_true rfl, Nat.le_of_ble_eq_true rfl⟩, Nat.le_of_ble_eq_true rfl, Nat.le_of_ble_eq_true rfl⟩ (Nat.le_of_ble_eq_true rfl) dL_same_72 ?_
    refine g_aload_n C dL_same_75 rfl rfl ?_
    refine g_iload C dL_same_76 rfl ?_
    refine g_iald_j C (show ar NT 128 7 60 by decide) ((12 * i2)) rfl (by omega) (by decide) dL_same_78 ?_
    refine g_icmp_ne C (tgt := 252) dL_same_79 (by decide) (fun c79 => absurd s1.1.2.2.2.1 c79) (fun _ => ?_)
    refine g_aload_n C dL_same_82 rfl rfl ?_
    refine g_iload_n C dL_same_83 rfl rfl ?_
    refine g_iconst C (v := 4) dL_same_84 (by decide) ?_
    refine kL_34 C (show ob NT 0 4 by decide) (tX4_of hl (i := i2) (by omega) hh _) ⟨⟨Nat.le_of_ble_eq_true rfl, Nat.le_of_ble_eq_true rfl⟩, Nat.le_of_ble_eq_true rfl, Nat.le_of_ble_eq_true rfl⟩ (Nat.le_of_ble_eq_true rfl) dL_same_85 ?_
    refine g_aload_n C dL_same_88 rfl rfl ?_
    refine g_iload C dL_same_89 rfl ?_
    refine g_iconst C (v := 1) dL_same_91 (by decide) ?_
    refine g_iadd C dL_same_92 ?_
    refine g_iald_j C (show ar NT 128 7 60 by decide) ((12 * i2) + 1) (nI_add (12 * i2) 1) (by omega) (by decide) dL_same_93 ?_
    refine g_icmp_ne C (tgt := 252) dL_same_94 (by decide) (fun c94 => absurd s1.1.2.2.2.2 c94) (fun _ => ?_)
    refine g_aload_n C dL_same_97 rfl rfl ?_
    refine g_iload_n C dL_same_98 rfl rfl ?_
    refine g_iconst C (v := 5) dL_same_99 (by decide) ?_
    refine kL_34 C (show ob NT 0 4 by decide) (tX4_of hl (i := i2) (by omega) hh _) ⟨⟨Nat.le_of_ble_eq_true rfl, Nat.le_of_ble_eq_true rfl⟩, Nat.le_of_ble_eq_true rfl, Nat.le_of_ble_eq_true rfl⟩ (Nat.le_of_ble_eq_true rfl) dL_same_100 ?_
    refine g_aload_n C dL_same_103 rfl rfl ?_
    refine g_iload C dL_same_104 rfl ?_
    refine g_iconst C (v := 2) dL_same_106 (by decide) ?_
    refine g_iadd C dL_same_107 ?_
    refine g_iald_j C (show ar NT 128 7 60 by decide) ((12 * i2) + 2) (nI_add (12 * i2) 2) (by omega) (by decide) dL_same_108 ?_
    refine g_icmp_ne C (tgt := 252) dL_same_109 (by decide) (fun c109 => absurd s1.2.1 c109) (fun _ => ?_)
    refine g_aload_n C dL_same_112 rfl rfl ?_
    refine g_iload_n C dL_same_113 rfl rfl ?_
    refine g_bipush C (v := 6) dL_same_114 (by decide) ?_
    refine kL_34 C (show ob NT 0 4 by decide) (tX4_of hl (i := i2) (by omega) hh _) ⟨⟨Nat.le_of_ble_eq_true rfl, Nat.le_of_ble_eq_true rfl⟩, Nat.le_of_ble_eq_true rfl, Nat.le_of_ble_eq_true rfl⟩ (Nat.le_of_ble_eq_true rfl) dL_same_116 ?_
    refine g_aload_n C dL_same_119 rfl rfl ?_
    refine g_iload C dL_same_120 rfl ?_
    refine g_iconst C (v := 3) dL_same_122 (by decide) ?_
    refine g_iadd C dL_same_123 ?_
    refine g_iald_j C (show ar NT 128 7 60 by decide) ((12 * i2) + 3) (nI_add (12 * i2) 3) (by omega) (by decide) dL_same_124 ?_
    refine g_icmp_ne C (tgt := 252) dL_same_125 (by decide) (fun c125 => absurd s1.2.2.1 c125) (fun _ => ?_)
    refine g_aload_n C dL_same_128 rfl rfl ?_
    refine g_iload_n C dL_same_129 rfl rfl ?_
    refine g_bipush C (v := 7) dL_same_130 (by decide) ?_
    refine kL_34 C (show ob NT 0 4 by decide) (tX4_of hl (i := i2) (by omega) hh _) ⟨⟨Nat.le_of_ble_eq_true rfl, Nat.le_of_ble_eq_true rfl⟩, Nat.le_of_ble_eq_true rfl, Nat.le_of_ble_eq_true rfl⟩ (Nat.le_of_ble_eq_true rfl) dL_same_132 ?_
    refine g_aload_n C dL_same_135 rfl rfl ?_
    refine g_iload C dL_same_136 rfl ?_
    refine g_bipush C (v := 6) dL_same_138 (by decide) ?_
    refine g_iadd C dL_same_140 ?_
    refine g_iald_j C (show ar NT 128 7 60 by decide) ((12 * i2) + 6) (nI_add (12 * i2) 6) (by omega) (by decide) dL_same_141 ?_
    refine g_icmp_ne C (tgt := 252) dL_same_142 (by decide) (fun c142 => absurd s1.2.2.2.1 c142) (fun _ => ?_)
    refine g_aload_n C dL_same_145 rfl rfl ?_
    refine g_iload_n C dL_same_146 rfl rfl ?_
    refine g_bipush C (v := 8) dL_same_147 (by decide) ?_
    refine kL_34 C (show ob NT 0 4 by decide) (tX4_of hl (i := i2) (by omega) hh _) ⟨⟨Nat.le_of_ble_eq_true rfl, Nat.le_of_ble_eq_true rfl⟩, Nat.le_of_ble_eq_true rfl, Nat.le_of_ble_eq_true rfl⟩ (Nat.le_of_ble_eq_true rfl) dL_same_149 ?_
    refine g_iload_n C dL_same_152 rfl rfl ?_
    refine g_aload_n C dL_same_153 rfl rfl ?_
    refine g_aload_n C dL_same_154 rfl rfl ?_
    refine kL_20 C (by decide) (tL_readers LB7 hn5 hn _) ⟨⟨Nat.le_of_ble_eq_true rfl, Nat.le_of_ble_eq_true rfl⟩, Nat.le_of_ble_eq_true rfl, Nat.le_of_ble_eq_true rfl⟩ (Nat.le_of_ble_eq_true rfl) dL_same_155 ?_
    refine g_icmp_ne C (tgt := 252) dL_same_158 (by decide) (fun c158 => absurd s1.2.2.2.2.1 c158) (fun _ => ?_)
    refine g_aload_n C dL_same_161 rfl rfl ?_
    refine g_iload_n C dL_same_162 rfl rfl ?_
    refine g_bipush C (v := 9) dL_same_163 (by decide) ?_
    refine kL_34 C (show ob NT 0 4 by decide) (tX4_of hl (i := i2) (by omega) hh _) ⟨⟨Nat.le_of_ble_eq_true rfl, Nat.le_of_ble_eq_true rfl⟩, Nat.le_of_ble_eq_true rfl, Nat.le_of_ble_eq_true rfl⟩ (Nat.le_of_ble_eq_true rfl) dL_same_165 ?_
    refine g_iload_n C dL_same_168 rfl rfl ?_
    refine g_aload_n C dL_same_169 rfl rfl ?_
    refine kL_10 C (by decide) (tL_tell LB7 (u := i2) (by omega)) ⟨⟨Nat.le_of_ble_eq_true rfl, Nat.le_of_ble_eq_true rfl⟩, Nat.le_of_ble_eq_true rfl, Nat.le_of_ble_eq_true rfl⟩ (Nat.le_of_ble_eq_true rfl) dL_same_170 ?_
    refine g_icmp_ne C (tgt := 252) dL_same_173 (by decide) (fun c173 => absurd s1.2.2.2.2.2 c173) (fun _ => ?_)
    refine g_aload_n C dL_same_176 rfl rfl ?_
    refine g_iload_n C dL_same_177 rfl rfl ?_
    refine g_bipush C (v := 10) dL_same_178 (by decide) ?_
    refine kL_34 C (show ob NT 0 4 by decide) (tX4_of hl (i := i2) (by omega) hh _) ⟨⟨Nat.le_of_ble_eq_true rfl, Nat.le_of_ble_eq_true rfl⟩, Nat.le_of_ble_eq_true rfl, Nat.le_of_ble_eq_true rfl⟩ (Nat.le_of_ble_eq_true rfl) dL_same_180 ?_
    refine g_aload_n C dL_same_183 rfl rfl ?_
    refine g_iload C dL_same_184 rfl ?_
    refine g_bipush C (v := 7) dL_same_186 (by decide) ?_
    refine g_iadd C dL_same_188 ?_
    refine g_iald_j C (show ar NT 128 7 60 by decide) ((12 * i2) + 7) (nI_add (12 * i2) 7) (by omega) (by decide) dL_same_189 ?_
    refine g_iconst C (v := 4) dL_same_190 (by decide) ?_
    refine g_icmp_ne C (tgt := 204) dL_same_191 (by decide) (fun c191 => ?_) (fun c191 => ?_)
    · skip
      refine g_iconst C (v := 0) dL_same_204 (by decide) ?_
      refine g_icmp_ne C (tgt := 252) dL_same_205 (by decide) (fun c205 => absurd (s2.1.trans (by first | rw [if_pos c191] | rw [if_neg c191])) c205) (fun _ => ?_)
      refine g_aload_n C dL_same_208 rfl rfl ?_
      refine g_iload_n C dL_same_209 rfl rfl ?_
      refine g_bipush C (v := 11) dL_same_210 (by decide) ?_
      refine kL_34 C (show ob NT 0 4 by decide) (tX4_of hl (i := i2) (by omega) hh _) ⟨⟨Nat.le_of_ble_eq_true rfl, Nat.le_of_ble_eq_true rfl⟩, Nat.le_of_ble_eq_true rfl, Nat.le_of_ble_eq_true rfl⟩ (Nat.le_of_ble_eq_true rfl) dL_same_212 ?_
      refine g_iload C dL_same_215 rfl ?_
      refine g_icmp_ne C (tgt := 252) dL_same_217 (by decide) (fun c217 => absurd s2.2.1 c217) (fun _ => ?_)
      refine g_aload_n C dL_same_220 rfl rfl ?_
      refine g_iload_n C dL_same_221 rfl rfl ?_
      refine g_bipush C (v := 12) dL_same_222 (by decide) ?_
      refine kL_34 C (show ob NT 0 4 by decide) (tX4_of hl (i := i2) (by omega) hh _) ⟨⟨Nat.le_of_ble_eq_true rfl, Nat.le_of_ble_eq_true rfl⟩, Nat.le_of_ble_eq_true rfl, Nat.le_of_ble_eq_true rfl⟩ (Nat.le_of_ble_eq_true rfl) dL_same_224 ?_
      refine g_aload_n C dL_same_227 rfl rfl ?_
      refine g_iload C dL_same_228 rfl ?_
      refine g_bipush C (v := 9) dL_same_230 (by decide) ?_
      refine g_iadd C dL_same_232 ?_
      refine g_iald_j C (show ar NT 128 7 60 by decide) ((12 * i2) + 9) (nI_add (12 * i2) 9) (by omega) (by decide) dL_same_233 ?_
      refine g_icmp_ne C (tgt := 252) dL_same_234 (by decide) (fun c234 => absurd s2.2.2 c234) (fun _ => ?_)
      refine g_iload C dL_same_237 rfl ?_
      refine g_if_lt C (tgt := 254) dL_same_239 (by decide) (fun c239 => ?_) (fun c239 => ?_)
      · skip
        refine g_iinc C dL_same_254 rfl (nI_inc _) (by decide) rfl ?_
        refine g_goto C (tgt := 2) dL_same_257 (by decide) ?_
        exact G_forget 4 (G_forget 5 (G_cast ih2 rfl rfl rfl rfl))
      · skip
        refine g_aload_n C dL_same_242 rfl rfl ?_
        refine g_iload C dL_same_243 rfl ?_
        refine kL_40 C (show ob NT 0 4 by decide) (tX4_waiting hl _) ⟨⟨Nat.le_of_ble_eq_true rfl, Nat.le_of_ble_eq_true rfl⟩, Nat.le_of_ble_eq_true rfl, Nat.le_of_ble_eq_true rfl⟩ (Nat.le_of_ble_eq_true rfl) dL_same_245 ?_
        refine g_iload_n C dL_same_248 rfl rfl ?_
        refine g_icmp_eq C (tgt := 254) dL_same_249 (by decide) (fun _ => ?_) (fun c249 => absurd (s3 c239) c249)
        refine g_iinc C dL_same_254 rfl (nI_inc _) (by decide) rfl ?_
        refine g_goto C (tgt := 2) dL_same_257 (by decide) ?_
        exact G_forget 4 (G_forget 5 (G_cast ih2 rfl rfl rfl rfl))
    · skip
      refine g_aload_n C dL_same_194 rfl rfl ?_
      refine g_iload C dL_same_195 rfl ?_
      refine g_bipush C (v := 8) dL_same_197 (by decide) ?_
      refine g_iadd C dL_same_199 ?_
      refine g_iald_j C (show ar NT 128 7 60 by decide) ((12 * i2) + 8) (nI_add (12 * i2) 8) (by omega) (by decide) dL_same_200 ?_
      refine g_goto C (tgt := 205) dL_same_201 (by decide) ?_
      refine g_icmp_ne C (tgt := 252) dL_same_205 (by decide) (fun c205 => absurd (s2.1.trans (by first | rw [if_pos c191] | rw [if_neg c191])) c205) (fun _ => ?_)
      refine g_aload_n C dL_same_208 rfl rfl ?_
      refine g_iload_n C dL_same_209 rfl rfl ?_
      refine g_bipush C (v := 11) dL_same_210 (by decide) ?_
      refine kL_34 C (show ob NT 0 4 by decide) (tX4_of hl (i := i2) (by omega) hh _) ⟨⟨Nat.le_of_ble_eq_true rfl, Nat.le_of_ble_eq_true rfl⟩, Nat.le_of_ble_eq_true rfl, Nat.le_of_ble_eq_true rfl⟩ (Nat.le_of_ble_eq_true rfl) dL_same_212 ?_
      refine g_iload C dL_same_215 rfl ?_
      refine g_icmp_ne C (tgt := 252) dL_same_217 (by decide) (fun c217 => absurd s2.2.1 c217) (fun _ => ?_)
      refine g_aload_n C dL_same_220 rfl rfl ?_
      refine g_iload_n C dL_same_221 rfl rfl ?_
      refine g_bipush C (v := 12) dL_same_222 (by decide) ?_
      refine kL_34 C (show ob NT 0 4 by decide) (tX4_of hl (i := i2) (by omega) hh _) ⟨⟨Nat.le_of_ble_eq_true rfl, Nat.le_of_ble_eq_true rfl⟩, Nat.le_of_ble_eq_true rfl, Nat.le_of_ble_eq_true rfl⟩ (Nat.le_of_ble_eq_true rfl) dL_same_224 ?_
      refine g_aload_n C dL_same_227 rfl rfl ?_
      refine g_iload C dL_same_228 rfl ?_
      refine g_bipush C (v := 9) dL_same_230 (by decide) ?_
      refine g_iadd C dL_same_232 ?_
      refine g_iald_j C (show ar NT 128 7 60 by decide) ((12 * i2) + 9) (nI_add (12 * i2) 9) (by omega) (by decide) dL_same_233 ?_
      refine g_icmp_ne C (tgt := 252) dL_same_234 (by decide) (fun c234 => absurd s2.2.2 c234) (fun _ => ?_)
      refine g_iload C dL_same_237 rfl ?_
      refine g_if_lt C (tgt := 254) dL_same_239 (by decide) (fun c239 => ?_) (fun c239 => ?_)
      · skip
        refine g_iinc C dL_same_254 rfl (nI_inc _) (by decide) rfl ?_
        refine g_goto C (tgt := 2) dL_same_257 (by decide) ?_
        exact G_forget 4 (G_forget 5 (G_cast ih2 rfl rfl rfl rfl))
      · skip
        refine g_aload_n C dL_same_242 rfl rfl ?_
        refine g_iload C dL_same_243 rfl ?_
        refine kL_40 C (show ob NT 0 4 by decide) (tX4_waiting hl _) ⟨⟨Nat.le_of_ble_eq_true rfl, Nat.le_of_ble_eq_true rfl⟩, Nat.le_of_ble_eq_true rfl, Nat.le_of_ble_eq_true rfl⟩ (Nat.le_of_ble_eq_true rfl) dL_same_245 ?_
        refine g_iload_n C dL_same_248 rfl rfl ?_
        refine g_icmp_eq C (tgt := 254) dL_same_249 (by decide) (fun _ => ?_) (fun c249 => absurd (s3 c239) c249)
        refine g_iinc C dL_same_254 rfl (nI_inc _) (by decide) rfl ?_
        refine g_goto C (tgt := 2) dL_same_257 (by decide) ?_
        exact G_forget 4 (G_forget 5 (G_cast ih2 rfl rfl rfl rfl))
  · skip
    refine g_iload_n C dL_same_2 rfl rfl ?_
    refine g_aload_n C dL_same_3 rfl rfl ?_
    refine g_iconst C (v := 2) dL_same_4 (by decide) ?_
    refine g_iald_j C (show ar NT 127 7 8 by decide) 2 rfl (by decide) (by decide) dL_same_5 ?_
    refine g_icmp_ge C (tgt := 260) dL_same_6 (by decide) (fun _ => ?_) (fun c6 => absurd (nI_lee hn) c6)
    refine g_aload_n C dL_same_260 rfl rfl ?_
    refine g_iconst C (v := 0) dL_same_261 (by decide) ?_
    refine kL_44 C (show ob NT 0 4 by decide) (tX4_count hl _) ⟨⟨Nat.le_of_ble_eq_true rfl, Nat.le_of_ble_eq_true rfl⟩, Nat.le_of_ble_eq_true rfl, Nat.le_of_ble_eq_true rfl⟩ (Nat.le_of_ble_eq_true rfl) dL_same_262 ?_
    refine g_aload_n C dL_same_265 rfl rfl ?_
    refine g_iconst C (v := 2) dL_same_266 (by decide) ?_
    refine g_iald_j C (show ar NT 127 7 8 by decide) 2 rfl (by decide) (by decide) dL_same_267 ?_
    refine g_icmp_ne C (tgt := 434) dL_same_268 (by decide) (fun c268 => absurd u1.1 c268) (fun _ => ?_)
    refine g_aload_n C dL_same_271 rfl rfl ?_
    refine g_iconst C (v := 1) dL_same_272 (by decide) ?_
    refine kL_44 C (show ob NT 0 4 by decide) (tX4_count hl _) ⟨⟨Nat.le_of_ble_eq_true rfl, Nat.le_of_ble_eq_true rfl⟩, Nat.le_of_ble_eq_true rfl, Nat.le_of_ble_eq_true rfl⟩ (Nat.le_of_ble_eq_true rfl) dL_same_273 ?_
    refine g_iconst C (v := 0) dL_same_276 (by decide) ?_
    refine g_aload_n C dL_same_277 rfl rfl ?_
    refine g_aload_n C dL_same_278 rfl rfl ?_
    refine kL_16 C (by decide) (tL_set LB7 hn5 hn 0) ⟨⟨Nat.le_of_ble_eq_true rfl, Nat.le_of_ble_eq_true rfl⟩, Nat.le_of_ble_eq_true rfl, Nat.le_of_ble_eq_true rfl⟩ (Nat.le_of_ble_eq_true rfl) dL_same_279 ?_
    refine g_icmp_ne C (tgt := 434) dL_same_282 (by decide) (fun c282 => absurd u1.2.1 c282) (fun _ => ?_)
    refine g_aload_n C dL_same_285 rfl rfl ?_
    refine g_iconst C (v := 2) dL_same_286 (by decide) ?_
    refine kL_44 C (show ob NT 0 4 by decide) (tX4_count hl _) ⟨⟨Nat.le_of_ble_eq_true rfl, Nat.le_of_ble_eq_true rfl⟩, Nat.le_of_ble_eq_true rfl, Nat.le_of_ble_eq_true rfl⟩ (Nat.le_of_ble_eq_true rfl) dL_same_287 ?_
    refine g_iconst C (v := 2) dL_same_290 (by decide) ?_
    refine g_aload_n C dL_same_291 rfl rfl ?_
    refine g_aload_n C dL_same_292 rfl rfl ?_
    refine kL_16 C (by decide) (tL_set LB7 hn5 hn 2) ⟨⟨Nat.le_of_ble_eq_true rfl, Nat.le_of_ble_eq_true rfl⟩, Nat.le_of_ble_eq_true rfl, Nat.le_of_ble_eq_true rfl⟩ (Nat.le_of_ble_eq_true rfl) dL_same_293 ?_
    refine g_icmp_ne C (tgt := 434) dL_same_296 (by decide) (fun c296 => absurd u1.2.2.1 c296) (fun _ => ?_)
    refine g_aload_n C dL_same_299 rfl rfl ?_
    refine g_iconst C (v := 3) dL_same_300 (by decide) ?_
    refine kL_44 C (show ob NT 0 4 by decide) (tX4_count hl _) ⟨⟨Nat.le_of_ble_eq_true rfl, Nat.le_of_ble_eq_true rfl⟩, Nat.le_of_ble_eq_true rfl, Nat.le_of_ble_eq_true rfl⟩ (Nat.le_of_ble_eq_true rfl) dL_same_301 ?_
    refine g_iconst C (v := 3) dL_same_304 (by decide) ?_
    refine g_aload_n C dL_same_305 rfl rfl ?_
    refine g_aload_n C dL_same_306 rfl rfl ?_
    refine kL_16 C (by decide) (tL_set LB7 hn5 hn 3) ⟨⟨Nat.le_of_ble_eq_true rfl, Nat.le_of_ble_eq_true rfl⟩, Nat.le_of_ble_eq_true rfl, Nat.le_of_ble_eq_true rfl⟩ (Nat.le_of_ble_eq_true rfl) dL_same_307 ?_
    refine g_icmp_ne C (tgt := 434) dL_same_310 (by decide) (fun c310 => absurd u1.2.2.2.1 c310) (fun _ => ?_)
    refine g_aload_n C dL_same_313 rfl rfl ?_
    refine g_iconst C (v := 4) dL_same_314 (by decide) ?_
    refine kL_44 C (show ob NT 0 4 by decide) (tX4_count hl _) ⟨⟨Nat.le_of_ble_eq_true rfl, Nat.le_of_ble_eq_true rfl⟩, Nat.le_of_ble_eq_true rfl, Nat.le_of_ble_eq_true rfl⟩ (Nat.le_of_ble_eq_true rfl) dL_same_315 ?_
    refine g_iconst C (v := 4) dL_same_318 (by decide) ?_
    refine g_aload_n C dL_same_319 rfl rfl ?_
    refine g_aload_n C dL_same_320 rfl rfl ?_
    refine kL_16 C (by decide) (tL_set LB7 hn5 hn 4) ⟨⟨Nat.le_of_ble_eq_true rfl, Nat.le_of_ble_eq_true rfl⟩, Nat.le_of_ble_eq_true rfl, Nat.le_of_ble_eq_true rfl⟩ (Nat.le_of_ble_eq_true rfl) dL_same_321 ?_
    refine g_icmp_ne C (tgt := 434) dL_same_324 (by decide) (fun c324 => absurd u1.2.2.2.2.1 c324) (fun _ => ?_)
    refine g_aload_n C dL_same_327 rfl rfl ?_
    refine g_iconst C (v := 5) dL_same_328 (by decide) ?_
    refine kL_44 C (show ob NT 0 4 by decide) (tX4_count hl _) ⟨⟨Nat.le_of_ble_eq_true rfl, Nat.le_of_ble_eq_true rfl⟩, Nat.le_of_ble_eq_true rfl, Nat.le_of_ble_eq_true rfl⟩ (Nat.le_of_ble_eq_true rfl) dL_same_329 ?_
    refine g_aload_n C dL_same_332 rfl rfl ?_
    refine g_aload_n C dL_same_333 rfl rfl ?_
    refine kL_27 C (by decide) (tL_load LB7 hn5 hn) ⟨⟨Nat.le_of_ble_eq_true rfl, Nat.le_of_ble_eq_true rfl⟩, Nat.le_of_ble_eq_true rfl, Nat.le_of_ble_eq_true rfl⟩ (Nat.le_of_ble_eq_true rfl) dL_same_334 ?_
    refine g_icmp_ne C (tgt := 434) dL_same_337 (by decide) (fun c337 => absurd u1.2.2.2.2.2 c337) (fun _ => ?_)
    refine g_aload_n C dL_same_340 rfl rfl ?_
    refine g_bipush C (v := 6) dL_same_341 (by decide) ?_
    refine kL_44 C (show ob NT 0 4 by decide) (tX4_count hl _) ⟨⟨Nat.le_of_ble_eq_true rfl, Nat.le_of_ble_eq_true rfl⟩, Nat.le_of_ble_eq_true rfl, Nat.le_of_ble_eq_true rfl⟩ (Nat.le_of_ble_eq_true rfl) dL_same_343 ?_
    refine g_aload_n C dL_same_346 rfl rfl ?_
    refine g_bipush C (v := 6) dL_same_347 (by decide) ?_
    refine g_iald_j C (show ar NT 127 7 8 by decide) 6 rfl (by decide) (by decide) dL_same_349 ?_
    refine g_icmp_ne C (tgt := 434) dL_same_350 (by decide) (fun c350 => absurd u2.1 c350) (fun _ => ?_)
    refine g_aload_n C dL_same_353 rfl rfl ?_
    refine g_bipush C (v := 7) dL_same_354 (by decide) ?_
    refine kL_44 C (show ob NT 0 4 by decide) (tX4_count hl _) ⟨⟨Nat.le_of_ble_eq_true rfl, Nat.le_of_ble_eq_true rfl⟩, Nat.le_of_ble_eq_true rfl, Nat.le_of_ble_eq_true rfl⟩ (Nat.le_of_ble_eq_true rfl) dL_same_356 ?_
    refine g_aload_n C dL_same_359 rfl rfl ?_
    refine g_iconst C (v := 4) dL_same_360 (by decide) ?_
    refine g_iald_j C (show ar NT 127 7 8 by decide) 4 rfl (by decide) (by decide) dL_same_361 ?_
    refine g_icmp_ne C (tgt := 434) dL_same_362 (by decide) (fun c362 => absurd u2.2.1 c362) (fun _ => ?_)
    refine g_aload_n C dL_same_365 rfl rfl ?_
    refine g_bipush C (v := 8) dL_same_366 (by decide) ?_
    refine kL_44 C (show ob NT 0 4 by decide) (tX4_count hl _) ⟨⟨Nat.le_of_ble_eq_true rfl, Nat.le_of_ble_eq_true rfl⟩, Nat.le_of_ble_eq_true rfl, Nat.le_of_ble_eq_true rfl⟩ (Nat.le_of_ble_eq_true rfl) dL_same_368 ?_
    refine g_aload_n C dL_same_371 rfl rfl ?_
    refine g_iconst C (v := 5) dL_same_372 (by decide) ?_
    refine g_iald_j C (show ar NT 127 7 8 by decide) 5 rfl (by decide) (by decide) dL_same_373 ?_
    refine g_icmp_ne C (tgt := 434) dL_same_374 (by decide) (fun c374 => absurd u2.2.2.1 c374) (fun _ => ?_)
    refine g_aload_n C dL_same_377 rfl rfl ?_
    refine g_bipush C (v := 9) dL_same_378 (by decide) ?_
    refine kL_44 C (show ob NT 0 4 by decide) (tX4_count hl _) ⟨⟨Nat.le_of_ble_eq_true rfl, Nat.le_of_ble_eq_true rfl⟩, Nat.le_of_ble_eq_true rfl, Nat.le_of_ble_eq_true rfl⟩ (Nat.le_of_ble_eq_true rfl) dL_same_380 ?_
    refine g_aload_n C dL_same_383 rfl rfl ?_
    refine g_iconst C (v := 3) dL_same_384 (by decide) ?_
    refine g_iald_j C (show ar NT 127 7 8 by decide) 3 rfl (by decide) (by decide) dL_same_385 ?_
    refine g_icmp_ne C (tgt := 434) dL_same_386 (by decide) (fun c386 => absurd u2.2.2.2.1 c386) (fun _ => ?_)
    refine g_aload_n C dL_same_389 rfl rfl ?_
    refine g_bipush C (v := 10) dL_same_390 (by decide) ?_
    refine kL_44 C (show ob NT 0 4 by decide) (tX4_count hl _) ⟨⟨Nat.le_of_ble_eq_true rfl, Nat.le_of_ble_eq_true rfl⟩, Nat.le_of_ble_eq_true rfl, Nat.le_of_ble_eq_true rfl⟩ (Nat.le_of_ble_eq_true rfl) dL_same_392 ?_
    refine g_aload_n C dL_same_395 rfl rfl ?_
    refine g_iconst C (v := 0) dL_same_396 (by decide) ?_
    refine g_iald_j C (show ar NT 127 7 8 by decide) 0 rfl (by decide) (by decide) dL_same_397 ?_
    refine g_icmp_ne C (tgt := 434) dL_same_398 (by decide) (fun c398 => absurd u2.2.2.2.2.1 c398) (fun _ => ?_)
    refine g_aload_n C dL_same_401 rfl rfl ?_
    refine g_bipush C (v := 11) dL_same_402 (by decide) ?_
    refine kL_44 C (show ob NT 0 4 by decide) (tX4_count hl _) ⟨⟨Nat.le_of_ble_eq_true rfl, Nat.le_of_ble_eq_true rfl⟩, Nat.le_of_ble_eq_true rfl, Nat.le_of_ble_eq_true rfl⟩ (Nat.le_of_ble_eq_true rfl) dL_same_404 ?_
    refine g_aload_n C dL_same_407 rfl rfl ?_
    refine g_iconst C (v := 1) dL_same_408 (by decide) ?_
    refine g_iald_j C (show ar NT 127 7 8 by decide) 1 rfl (by decide) (by decide) dL_same_409 ?_
    refine g_icmp_ne C (tgt := 434) dL_same_410 (by decide) (fun c410 => absurd u2.2.2.2.2.2 c410) (fun _ => ?_)
    refine g_aload_n C dL_same_413 rfl rfl ?_
    refine g_iconst C (v := 3) dL_same_414 (by decide) ?_
    refine g_aload_n C dL_same_415 rfl rfl ?_
    refine g_aload_n C dL_same_416 rfl rfl ?_
    refine kL_16 C (by decide) (tL_set LB7 hn5 hn 3) ⟨⟨Nat.le_of_ble_eq_true rfl, Nat.le_of_ble_eq_true rfl⟩, Nat.le_of_ble_eq_true rfl, Nat.le_of_ble_eq_true rfl⟩ (Nat.le_of_ble_eq_true rfl) dL_same_417 ?_
    refine kL_47 C (by decide) (tL_bits hv ev) ⟨⟨Nat.le_of_ble_eq_true rfl, Nat.le_of_ble_eq_true rfl⟩, Nat.le_of_ble_eq_true rfl, Nat.le_of_ble_eq_true rfl⟩ (Nat.le_of_ble_eq_true rfl) dL_same_420 ?_
    refine kL_40 C (show ob NT 0 4 by decide) (tX4_waiting hl _) ⟨⟨Nat.le_of_ble_eq_true rfl, Nat.le_of_ble_eq_true rfl⟩, Nat.le_of_ble_eq_true rfl, Nat.le_of_ble_eq_true rfl⟩ (Nat.le_of_ble_eq_true rfl) dL_same_423 ?_
    refine g_iconst C (v := (-1)) dL_same_426 (by decide) ?_
    refine g_icmp_ne C (tgt := 434) dL_same_427 (by decide) (fun c427 => absurd u3 c427) (fun _ => ?_)
    refine g_iconst C (v := 1) dL_same_430 (by decide) ?_
    refine g_goto C (tgt := 435) dL_same_431 (by decide) ?_
    exact g_zret_1 C hr dL_same_435 ⟨rfl, rfl, rfl⟩

