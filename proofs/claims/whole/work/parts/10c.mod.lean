set_option maxRecDepth 100000 in
set_option maxHeartbeats 800000 in
theorem tX5_newValues {l : Launch} {E : EE} {I : Mi} {F : Mr} (hl : LY F) {n : Nat} (hn8 : n ≤ 8) (hn : I 128 2 = nI n)  : CtF l E mX5_newValues [rf E 127] NT I F NT none (nvM I n) F := by
  refine CtF_of [some (rf E 127), none, none, none] (by decide) rfl (Nat.le_of_ble_eq_true rfl) rfl (fun p e s m args below meth c C hr hname => ?_)
  refine g_iconst C (v := 0) dX5_newValues_0 (by decide) ?_
  refine g_istore_n C dX5_newValues_1 rfl (by decide) rfl ?_
  refine G_loop (n := n) (fun i => [some (rf E 127), some (.int (nI i)), none, none]) (fun i => lp nv1 i I) (fun _ => F) rfl rfl rfl ?_ ?_
  · intro i2 hi2 ih2
    refine g_iload_n C dX5_newValues_2 rfl rfl ?_
    refine g_aload_n C dX5_newValues_3 rfl rfl ?_
    refine gfX5_7 C (by decide) hl.mstate dX5_newValues_4 ?_
    refine g_iconst C (v := 2) dX5_newValues_7 (by decide) ?_
    refine g_iald_j C (show ar NT 128 7 96 by decide) 2 rfl (by decide) (by decide) dX5_newValues_8 ?_
    refine g_icmp_ge C (tgt := 57) dX5_newValues_9 (by decide) (fun c9 => absurd c9 (nI_nge (by rw [lp_fix2 (fun i J => nv1_2 i J 2)]; exact hn) hi2 (by omega))) (fun _ => ?_)
    refine g_aload_n C dX5_newValues_12 rfl rfl ?_
    refine gfX5_28 C (by decide) hl.mtells dX5_newValues_13 ?_
    refine g_iload_n C dX5_newValues_16 rfl rfl ?_
    refine g_aload_n C dX5_newValues_17 rfl rfl ?_
    refine g_iload_n C dX5_newValues_18 rfl rfl ?_
    refine kX5_72 C (by decide) (tX5_tellsNow hl (i := i2) (show i2 < 8 by omega)) ⟨⟨Nat.le_of_ble_eq_true rfl, Nat.le_of_ble_eq_true rfl⟩, Nat.le_of_ble_eq_true rfl, Nat.le_of_ble_eq_true rfl⟩ (Nat.le_of_ble_eq_true rfl) dX5_newValues_19 ?_
    refine g_iast_j C (show ar NT 134 7 8 by decide) (i2) rfl (show i2 < 8 by omega) (by decide) dX5_newValues_22 ?_
    refine g_aload_n C dX5_newValues_23 rfl rfl ?_
    refine gfX5_31 C (by decide) hl.misNoise dX5_newValues_24 ?_
    refine g_iload_n C dX5_newValues_27 rfl rfl ?_
    refine g_aload_n C dX5_newValues_28 rfl rfl ?_
    refine g_iload_n C dX5_newValues_29 rfl rfl ?_
    refine kX5_54 C (by decide) (tX5_isSure hl (i := i2) (show i2 < 8 by omega)) ⟨⟨Nat.le_of_ble_eq_true rfl, Nat.le_of_ble_eq_true rfl⟩, Nat.le_of_ble_eq_true rfl, Nat.le_of_ble_eq_true rfl⟩ (Nat.le_of_ble_eq_true rfl) dX5_newValues_30 ?_
    refine g_ifne_b C (tgt := 49) dX5_newValues_33 (by decide) (fun c33 => ?_) (fun c33 => ?_)
    · skip
      refine g_iconst C (v := 0) dX5_newValues_49 (by decide) ?_
      refine g_iast_j C (show ar NT 135 7 8 by decide) (i2) rfl (show i2 < 8 by omega) (by decide) dX5_newValues_50 ?_
      refine g_iinc C dX5_newValues_51 rfl (nI_inc _) (by decide) rfl ?_
      refine g_goto C (tgt := 2) dX5_newValues_54 (by decide) ?_
      exact G_cast ih2 (by rw [lp]; generalize lp nv1 i2 I = J9 at *; simp only [nv1]; (try first | rw [if_pos c33] | rw [if_neg c33] | rw [if_neg (show ¬ _ = true by rw [c33]; decide)]); try rfl) rfl rfl rfl
    · skip
      refine g_aload_n C dX5_newValues_36 rfl rfl ?_
      refine g_iload_n C dX5_newValues_37 rfl rfl ?_
      refine g_iconst C (v := 0) dX5_newValues_38 (by decide) ?_
      refine kX5_46 C (by decide) (tX5_part hl (i := i2) (show i2 < 8 by omega) (q := 0) (by decide) rfl) ⟨⟨Nat.le_of_ble_eq_true rfl, Nat.le_of_ble_eq_true rfl⟩, Nat.le_of_ble_eq_true rfl, Nat.le_of_ble_eq_true rfl⟩ (Nat.le_of_ble_eq_true rfl) dX5_newValues_39 ?_
      refine g_if_ne C (tgt := 49) dX5_newValues_42 (by decide) (fun c42 => ?_) (fun c42 => ?_)
      · skip
        refine g_iconst C (v := 0) dX5_newValues_49 (by decide) ?_
        refine g_iast_j C (show ar NT 135 7 8 by decide) (i2) rfl (show i2 < 8 by omega) (by decide) dX5_newValues_50 ?_
        refine g_iinc C dX5_newValues_51 rfl (nI_inc _) (by decide) rfl ?_
        refine g_goto C (tgt := 2) dX5_newValues_54 (by decide) ?_
        exact G_cast ih2 (by rw [lp]; generalize lp nv1 i2 I = J9 at *; simp only [nv1]; (try first | rw [if_pos c33] | rw [if_neg c33] | rw [if_neg (show ¬ _ = true by rw [c33]; decide)]); (try first | rw [if_pos c42] | rw [if_neg c42] | rw [if_neg (show ¬ _ = true by rw [c42]; decide)]); try rfl) rfl rfl rfl
      · skip
        refine g_iconst C (v := 1) dX5_newValues_45 (by decide) ?_
        refine g_goto C (tgt := 50) dX5_newValues_46 (by decide) ?_
        refine g_iast_j C (show ar NT 135 7 8 by decide) (i2) rfl (show i2 < 8 by omega) (by decide) dX5_newValues_50 ?_
        refine g_iinc C dX5_newValues_51 rfl (nI_inc _) (by decide) rfl ?_
        refine g_goto C (tgt := 2) dX5_newValues_54 (by decide) ?_
        exact G_cast ih2 (by rw [lp]; generalize lp nv1 i2 I = J9 at *; simp only [nv1]; (try first | rw [if_pos c33] | rw [if_neg c33] | rw [if_neg (show ¬ _ = true by rw [c33]; decide)]); (try first | rw [if_pos c42] | rw [if_neg c42] | rw [if_neg (show ¬ _ = true by rw [c42]; decide)]); try rfl) rfl rfl rfl
  · skip
    refine g_iload_n C dX5_newValues_2 rfl rfl ?_
    refine g_aload_n C dX5_newValues_3 rfl rfl ?_
    refine gfX5_7 C (by decide) hl.mstate dX5_newValues_4 ?_
    refine g_iconst C (v := 2) dX5_newValues_7 (by decide) ?_
    refine g_iald_j C (show ar NT 128 7 96 by decide) 2 rfl (by decide) (by decide) dX5_newValues_8 ?_
    refine g_icmp_ge C (tgt := 57) dX5_newValues_9 (by decide) (fun _ => ?_) (fun c9 => absurd (nI_lee (by rw [lp_fix2 (fun i J => nv1_2 i J 2)]; exact hn)) c9)
    refine g_iconst C (v := 0) dX5_newValues_57 (by decide) ?_
    refine g_istore_n C dX5_newValues_58 rfl (by decide) rfl ?_
    refine G_loop (n := n) (fun i => [some (rf E 127), some (.int (nI i)), none, none]) (fun i => lp (nv2 n) i (nvM1 I n)) (fun _ => F) rfl rfl rfl ?_ ?_
    · intro i59 hi59 ih59
      have hnJ : lp (nv2 n) i59 (nvM1 I n) 128 2 = nI n := (by rw [lp_fix2 (fun i J => nv2_lo (by decide) (by decide))]; unfold nvM1; rw [lp_fix2 (fun i J => nv1_2 i J 2)]; exact hn)
      refine g_iload_n C dX5_newValues_59 rfl rfl ?_
      refine g_aload_n C dX5_newValues_60 rfl rfl ?_
      refine gfX5_7 C (by decide) hl.mstate dX5_newValues_61 ?_
      refine g_iconst C (v := 2) dX5_newValues_64 (by decide) ?_
      refine g_iald_j C (show ar NT 128 7 96 by decide) 2 rfl (by decide) (by decide) dX5_newValues_65 ?_
      refine g_icmp_ge C (tgt := 174) dX5_newValues_66 (by decide) (fun c66 => absurd c66 (nI_nge (by rw [lp_fix2 (fun i J => nv2_lo (by decide) (by decide))]; unfold nvM1; rw [lp_fix2 (fun i J => nv1_2 i J 2)]; exact hn) hi59 (by omega))) (fun _ => ?_)
      refine g_aload_n C dX5_newValues_69 rfl rfl ?_
      refine g_iload_n C dX5_newValues_70 rfl rfl ?_
      refine g_iconst C (v := 4) dX5_newValues_71 (by decide) ?_
      refine kX5_46 C (by decide) (tX5_part hl (i := i59) (show i59 < 8 by omega) (q := 4) (by decide) rfl) ⟨⟨Nat.le_of_ble_eq_true rfl, Nat.le_of_ble_eq_true rfl⟩, Nat.le_of_ble_eq_true rfl, Nat.le_of_ble_eq_true rfl⟩ (Nat.le_of_ble_eq_true rfl) dX5_newValues_72 ?_
      refine g_istore_n C dX5_newValues_75 rfl (by decide) rfl ?_
      by_cases haw : decide (pt (lp (nv2 n) i59 (nvM1 I n)) i59 7 = 0) = true
      · skip
        refine g_iconst C (v := 0) dX5_newValues_76 (by decide) ?_
        refine g_istore_n C dX5_newValues_77 rfl (by decide) rfl ?_
        refine G_loop (n := n) (fun i => [some (rf E 127), some (.int (nI i59)), some (.int (nvI i59 i (lp (nv2 n) i59 (nvM1 I n))).2), some (.int (nI i))]) (fun i => (nvI i59 i (lp (nv2 n) i59 (nvM1 I n))).1) (fun _ => F) rfl rfl rfl ?_ ?_
        · intro i78 hi78 ih78
          refine g_iload_n C dX5_newValues_78 rfl rfl ?_
          refine g_aload_n C dX5_newValues_79 rfl rfl ?_
          refine gfX5_7 C (by decide) hl.mstate dX5_newValues_80 ?_
          refine g_iconst C (v := 2) dX5_newValues_83 (by decide) ?_
          refine g_iald_j C (show ar NT 128 7 96 by decide) 2 rfl (by decide) (by decide) dX5_newValues_84 ?_
          refine g_icmp_ge C (tgt := 157) dX5_newValues_85 (by decide) (fun c85 => absurd c85 (nI_nge (by rw [nvI_lo (by decide) (by decide)]; exact hnJ) hi78 (by omega))) (fun _ => ?_)
          refine g_aload_n C dX5_newValues_88 rfl rfl ?_
          refine g_iload_n C dX5_newValues_89 rfl rfl ?_
          refine g_iconst C (v := 0) dX5_newValues_90 (by decide) ?_
          refine kX5_50 C (by decide) (tX5_is hl (i := i59) (show i59 < 8 by omega) _) ⟨⟨Nat.le_of_ble_eq_true rfl, Nat.le_of_ble_eq_true rfl⟩, Nat.le_of_ble_eq_true rfl, Nat.le_of_ble_eq_true rfl⟩ (Nat.le_of_ble_eq_true rfl) dX5_newValues_91 ?_
          refine g_ifeq_b C (tgt := 157) dX5_newValues_94 (by decide) (fun c94 => (bt_f (by rw [nvI_7]; exact haw) c94).elim) (fun _ => ?_)
          refine g_aload_n C dX5_newValues_97 rfl rfl ?_
          refine g_iload_n C dX5_newValues_98 rfl rfl ?_
          refine g_iload_n C dX5_newValues_99 rfl rfl ?_
          refine kX5_58 C (by decide) (tX5_reads hl (i := i59) (show i59 < 8 by omega) _) ⟨⟨Nat.le_of_ble_eq_true rfl, Nat.le_of_ble_eq_true rfl⟩, Nat.le_of_ble_eq_true rfl, Nat.le_of_ble_eq_true rfl⟩ (Nat.le_of_ble_eq_true rfl) dX5_newValues_100 ?_
          refine g_ifeq_b C (tgt := 151) dX5_newValues_103 (by decide) (fun c103 => ?_) (fun c103 => ?_)
          · skip
            refine g_iinc C dX5_newValues_151 rfl (nI_inc _) (by decide) rfl ?_
            refine g_goto C (tgt := 78) dX5_newValues_154 (by decide) ?_
            exact G_cast ih78 (by rw [nvI_s]; generalize nvI i59 i78 (lp (nv2 n) i59 (nvM1 I n)) = J9 at *; unfold nvB; (try first | rw [if_pos haw] | rw [if_neg haw] | rw [if_neg (show ¬ _ = true by rw [haw]; decide)]); (try first | rw [if_pos c103] | rw [if_neg c103] | rw [if_neg (show ¬ _ = true by rw [c103]; decide)]); try rfl) rfl (by rw [nvI_s]; generalize nvI i59 i78 (lp (nv2 n) i59 (nvM1 I n)) = J9 at *; unfold nvB; (try first | rw [if_pos haw] | rw [if_neg haw] | rw [if_neg (show ¬ _ = true by rw [haw]; decide)]); (try first | rw [if_pos c103] | rw [if_neg c103] | rw [if_neg (show ¬ _ = true by rw [c103]; decide)]); try rfl) rfl
          · skip
            refine g_iload_n C dX5_newValues_106 rfl rfl ?_
            refine g_aload_n C dX5_newValues_107 rfl rfl ?_
            refine gfX5_28 C (by decide) hl.mtells dX5_newValues_108 ?_
            refine g_iload_n C dX5_newValues_111 rfl rfl ?_
            refine g_iald_j C (show ar NT 134 7 8 by decide) (i78) rfl (show i78 < 8 by omega) (by decide) dX5_newValues_112 ?_
            refine g_iadd C dX5_newValues_113 ?_
            refine g_istore_n C dX5_newValues_114 rfl (by decide) rfl ?_
            refine g_aload_n C dX5_newValues_115 rfl rfl ?_
            refine gfX5_7 C (by decide) hl.mstate dX5_newValues_116 ?_
            refine g_iconst C (v := 4) dX5_newValues_119 (by decide) ?_
            refine g_dup2_11 C dX5_newValues_120 rfl rfl ?_
            refine g_iald_j C (show ar NT 128 7 96 by decide) 4 rfl (by decide) (by decide) dX5_newValues_121 ?_
            refine g_aload_n C dX5_newValues_122 rfl rfl ?_
            refine gfX5_31 C (by decide) hl.misNoise dX5_newValues_123 ?_
            refine g_iload_n C dX5_newValues_126 rfl rfl ?_
            refine g_iald_j C (show ar NT 135 7 8 by decide) (i78) rfl (show i78 < 8 by omega) (by decide) dX5_newValues_127 ?_
            refine g_iadd C dX5_newValues_128 ?_
            refine g_iast_j C (show ar NT 128 7 96 by decide) 4 rfl (by decide) (by decide) dX5_newValues_129 ?_
            refine g_aload_n C dX5_newValues_130 rfl rfl ?_
            refine g_iload_n C dX5_newValues_131 rfl rfl ?_
            refine g_bipush C (v := 9) dX5_newValues_132 (by decide) ?_
            refine g_aload_n C dX5_newValues_134 rfl rfl ?_
            refine g_iload_n C dX5_newValues_135 rfl rfl ?_
            refine g_bipush C (v := 9) dX5_newValues_136 (by decide) ?_
            refine kX5_46 C (by decide) (tX5_part hl (i := i59) (show i59 < 8 by omega) (q := 9) (by decide) rfl) ⟨⟨Nat.le_of_ble_eq_true rfl, Nat.le_of_ble_eq_true rfl⟩, Nat.le_of_ble_eq_true rfl, Nat.le_of_ble_eq_true rfl⟩ (Nat.le_of_ble_eq_true rfl) dX5_newValues_138 ?_
            refine g_aload_n C dX5_newValues_141 rfl rfl ?_
            refine gfX5_31 C (by decide) hl.misNoise dX5_newValues_142 ?_
            refine g_iload_n C dX5_newValues_145 rfl rfl ?_
            refine g_iald_j C (show ar NT 135 7 8 by decide) (i78) rfl (show i78 < 8 by omega) (by decide) dX5_newValues_146 ?_
            refine g_iadd C dX5_newValues_147 ?_
            refine kX5_68 C (by decide) (tX5_setPart hl (i := i59) (show i59 < 8 by omega) (q := 9) (by decide) rfl _) ⟨⟨Nat.le_of_ble_eq_true rfl, Nat.le_of_ble_eq_true rfl⟩, Nat.le_of_ble_eq_true rfl, Nat.le_of_ble_eq_true rfl⟩ (Nat.le_of_ble_eq_true rfl) dX5_newValues_148 ?_
            refine g_iinc C dX5_newValues_151 rfl (nI_inc _) (by decide) rfl ?_
            refine g_goto C (tgt := 78) dX5_newValues_154 (by decide) ?_
            exact G_cast ih78 (by rw [nvI_s]; generalize nvI i59 i78 (lp (nv2 n) i59 (nvM1 I n)) = J9 at *; unfold nvB; (try first | rw [if_pos haw] | rw [if_neg haw] | rw [if_neg (show ¬ _ = true by rw [haw]; decide)]); (try first | rw [if_pos c103] | rw [if_neg c103] | rw [if_neg (show ¬ _ = true by rw [c103]; decide)]); try rfl) rfl (by rw [nvI_s]; generalize nvI i59 i78 (lp (nv2 n) i59 (nvM1 I n)) = J9 at *; unfold nvB; (try first | rw [if_pos haw] | rw [if_neg haw] | rw [if_neg (show ¬ _ = true by rw [haw]; decide)]); (try first | rw [if_pos c103] | rw [if_neg c103] | rw [if_neg (show ¬ _ = true by rw [c103]; decide)]); try rfl) rfl
        · skip
          refine g_iload_n C dX5_newValues_78 rfl rfl ?_
          refine g_aload_n C dX5_newValues_79 rfl rfl ?_
          refine gfX5_7 C (by decide) hl.mstate dX5_newValues_80 ?_
          refine g_iconst C (v := 2) dX5_newValues_83 (by decide) ?_
          refine g_iald_j C (show ar NT 128 7 96 by decide) 2 rfl (by decide) (by decide) dX5_newValues_84 ?_
          refine g_icmp_ge C (tgt := 157) dX5_newValues_85 (by decide) (fun _ => ?_) (fun c85 => absurd (nI_lee (by rw [nvI_lo (by decide) (by decide)]; exact hnJ)) c85)
          refine g_aload_n C dX5_newValues_157 rfl rfl ?_
          refine g_iload_n C dX5_newValues_158 rfl rfl ?_
          refine g_iconst C (v := 4) dX5_newValues_159 (by decide) ?_
          refine g_iload_n C dX5_newValues_160 rfl rfl ?_
          refine g_sipush C (v := 256) dX5_newValues_161 (by decide) ?_
          refine g_irem C dX5_newValues_164 (by decide) ?_
          refine kX5_68 C (by decide) (tX5_setPart hl (i := i59) (show i59 < 8 by omega) (q := 4) (by decide) rfl _) ⟨⟨Nat.le_of_ble_eq_true rfl, Nat.le_of_ble_eq_true rfl⟩, Nat.le_of_ble_eq_true rfl, Nat.le_of_ble_eq_true rfl⟩ (Nat.le_of_ble_eq_true rfl) dX5_newValues_165 ?_
          refine g_iinc C dX5_newValues_168 rfl (nI_inc _) (by decide) rfl ?_
          refine g_goto C (tgt := 59) dX5_newValues_171 (by decide) ?_
          exact G_forget 3 (G_forget 2 (G_cast ih59 (by rw [lp]; generalize lp (nv2 n) i59 (nvM1 I n) = J9 at *; unfold nv2; (try first | rw [if_pos haw] | rw [if_neg haw] | rw [if_neg (show ¬ _ = true by rw [haw]; decide)]); try rfl) rfl rfl rfl))
      · skip
        refine g_iconst C (v := 0) dX5_newValues_76 (by decide) ?_
        refine g_istore_n C dX5_newValues_77 rfl (by decide) rfl ?_
        refine g_iload_n C dX5_newValues_78 rfl rfl ?_
        refine g_aload_n C dX5_newValues_79 rfl rfl ?_
        refine gfX5_7 C (by decide) hl.mstate dX5_newValues_80 ?_
        refine g_iconst C (v := 2) dX5_newValues_83 (by decide) ?_
        refine g_iald_j C (show ar NT 128 7 96 by decide) 2 rfl (by decide) (by decide) dX5_newValues_84 ?_
        refine g_icmp_ge C (tgt := 157) dX5_newValues_85 (by decide) (fun c85 => absurd c85 (by rw [hnJ]; exact nI_nle (by omega) (by omega))) (fun _ => ?_)
        refine g_aload_n C dX5_newValues_88 rfl rfl ?_
        refine g_iload_n C dX5_newValues_89 rfl rfl ?_
        refine g_iconst C (v := 0) dX5_newValues_90 (by decide) ?_
        refine kX5_50 C (by decide) (tX5_is hl (i := i59) (show i59 < 8 by omega) _) ⟨⟨Nat.le_of_ble_eq_true rfl, Nat.le_of_ble_eq_true rfl⟩, Nat.le_of_ble_eq_true rfl, Nat.le_of_ble_eq_true rfl⟩ (Nat.le_of_ble_eq_true rfl) dX5_newValues_91 ?_
        refine g_ifeq_b C (tgt := 157) dX5_newValues_94 (by decide) (fun c94 => ?_) (fun c94 => (bt_f c94 (by simpa only [Bool.not_eq_true] using haw)).elim)
        refine g_aload_n C dX5_newValues_157 rfl rfl ?_
        refine g_iload_n C dX5_newValues_158 rfl rfl ?_
        refine g_iconst C (v := 4) dX5_newValues_159 (by decide) ?_
        refine g_iload_n C dX5_newValues_160 rfl rfl ?_
        refine g_sipush C (v := 256) dX5_newValues_161 (by decide) ?_
        refine g_irem C dX5_newValues_164 (by decide) ?_
        refine kX5_68 C (by decide) (tX5_setPart hl (i := i59) (show i59 < 8 by omega) (q := 4) (by decide) rfl _) ⟨⟨Nat.le_of_ble_eq_true rfl, Nat.le_of_ble_eq_true rfl⟩, Nat.le_of_ble_eq_true rfl, Nat.le_of_ble_eq_true rfl⟩ (Nat.le_of_ble_eq_true rfl) dX5_newValues_165 ?_
        refine g_iinc C dX5_newValues_168 rfl (nI_inc _) (by decide) rfl ?_
        refine g_goto C (tgt := 59) dX5_newValues_171 (by decide) ?_
        exact G_forget 3 (G_forget 2 (G_cast ih59 (by rw [lp]; generalize lp (nv2 n) i59 (nvM1 I n) = J9 at *; unfold nv2; (try first | rw [if_pos haw] | rw [if_neg haw] | rw [if_neg (show ¬ _ = true by rw [haw]; decide)]); (try first | rw [if_pos c94] | rw [if_neg c94] | rw [if_neg (show ¬ _ = true by rw [c94]; decide)]); try rfl) rfl rfl rfl))
    · skip
      refine g_iload_n C dX5_newValues_59 rfl rfl ?_
      refine g_aload_n C dX5_newValues_60 rfl rfl ?_
      refine gfX5_7 C (by decide) hl.mstate dX5_newValues_61 ?_
      refine g_iconst C (v := 2) dX5_newValues_64 (by decide) ?_
      refine g_iald_j C (show ar NT 128 7 96 by decide) 2 rfl (by decide) (by decide) dX5_newValues_65 ?_
      refine g_icmp_ge C (tgt := 174) dX5_newValues_66 (by decide) (fun _ => ?_) (fun c66 => absurd (nI_lee (by rw [lp_fix2 (fun i J => nv2_lo (by decide) (by decide))]; unfold nvM1; rw [lp_fix2 (fun i J => nv1_2 i J 2)]; exact hn)) c66)
      exact g_vret C hr dX5_newValues_174 ⟨rfl, rfl, rfl⟩

theorem ak_inv {n i w : Nat} {J : Mi} (h : ∃ v, v ≤ w + i ∧ J 128 7 = nI v) (hw : w + i < 2147483648) : ∃ v, v ≤ w + (i + 1) ∧ ak1 n i J 128 7 = nI v := by
  obtain ⟨v, hv, e⟩ := h
  unfold ak1
  split
  · split
    · exact ⟨v, by omega, e⟩
    · refine ⟨v + 1, by omega, ?_⟩
      rw [wtM_7, e, show ix (nI v) = v from nI_clamp (by omega)]
  · exact ⟨v, by omega, e⟩

set_option maxRecDepth 100000 in
set_option maxHeartbeats 800000 in
theorem tX5_ask {l : Launch} {E : EE} {I : Mi} {F : Mr} (hl : LY F) {n : Nat} (hn8 : n ≤ 8) (hn : I 128 2 = nI n) {w : Nat} (hw8 : w ≤ 8) (hw : I 128 7 = nI w)  : CtF l E mX5_ask [rf E 127] NT I F NT none (akM I n) F := by
  refine CtF_of [some (rf E 127), none] (by decide) rfl (Nat.le_of_ble_eq_true rfl) rfl (fun p e s m args below meth c C hr hname => ?_)
  by_cases h1 : I 128 1 = 1
  · skip
    refine g_iconst C (v := 0) dX5_ask_0 (by decide) ?_
    refine g_istore_n C dX5_ask_1 rfl (by decide) rfl ?_
    refine G_loopI (n := n) (fun i => [some (rf E 127), some (.int (nI i))]) (fun i => lp (ak1 n) i I) (fun _ => F) (fun i => ∃ v, v ≤ w + i ∧ lp (ak1 n) i I 128 7 = nI v) rfl rfl rfl ⟨w, by omega, hw⟩ ?_ ?_
    · intro i2 hi2 hv2 ih2
      have hnJ : lp (ak1 n) i2 I 128 2 = nI n := by rw [lp_fix2 (fun i J => ak1_lo (by decide))]; exact hn
      have h1J : lp (ak1 n) i2 I 128 1 = 1 := by rw [lp_fix2 (fun i J => ak1_lo (by decide))]; exact h1
      have hv2k := hv2
      obtain ⟨v2, hv2a, hv2b⟩ := hv2
      have hix : ix (lp (ak1 n) i2 I 128 7) = v2 := by rw [hv2b]; exact nI_clamp (by omega)
      refine g_iload_n C dX5_ask_2 rfl rfl ?_
      refine g_aload_n C dX5_ask_3 rfl rfl ?_
      refine gfX5_7 C (by decide) hl.mstate dX5_ask_4 ?_
      refine g_iconst C (v := 2) dX5_ask_7 (by decide) ?_
      refine g_iald_j C (show ar NT 128 7 96 by decide) 2 rfl (by decide) (by decide) dX5_ask_8 ?_
      refine g_icmp_ge C (tgt := 50) dX5_ask_9 (by decide) (fun c9 => absurd c9 (nI_nge hnJ hi2 (by omega))) (fun _ => ?_)
      refine g_aload_n C dX5_ask_12 rfl rfl ?_
      refine gfX5_7 C (by decide) hl.mstate dX5_ask_13 ?_
      refine g_iconst C (v := 1) dX5_ask_16 (by decide) ?_
      refine g_iald_j C (show ar NT 128 7 96 by decide) 1 rfl (by decide) (by decide) dX5_ask_17 ?_
      refine g_iconst C (v := 1) dX5_ask_18 (by decide) ?_
      refine g_icmp_ne C (tgt := 50) dX5_ask_19 (by decide) (fun c19 => absurd h1J c19) (fun _ => ?_)
      refine g_aload_n C dX5_ask_22 rfl rfl ?_
      refine g_iload_n C dX5_ask_23 rfl rfl ?_
      refine g_iconst C (v := 2) dX5_ask_24 (by decide) ?_
      refine kX5_50 C (by decide) (tX5_is hl (i := i2) (show i2 < 8 by omega) _) ⟨⟨Nat.le_of_ble_eq_true rfl, Nat.le_of_ble_eq_true rfl⟩, Nat.le_of_ble_eq_true rfl, Nat.le_of_ble_eq_true rfl⟩ (Nat.le_of_ble_eq_true rfl) dX5_ask_25 ?_
      refine g_ifeq_b C (tgt := 44) dX5_ask_28 (by decide) (fun c28 => ?_) (fun c28 => ?_)
      · skip
        refine g_iinc C dX5_ask_44 rfl (nI_inc _) (by decide) rfl ?_
        refine g_goto C (tgt := 2) dX5_ask_47 (by decide) ?_
        exact G_cast (ih2 (ak_inv hv2k (by omega))) (by rw [lp]; generalize lp (ak1 n) i2 I = J9 at *; unfold ak1; (try first | rw [if_pos h1] | rw [if_neg h1] | rw [if_neg (show ¬ _ = true by rw [h1]; decide)]); (try first | rw [if_pos c28] | rw [if_neg c28] | rw [if_neg (show ¬ _ = true by rw [c28]; decide)]); try rw [hix]; try rfl) rfl rfl rfl
      · skip
        refine g_aload_n C dX5_ask_31 rfl rfl ?_
        refine g_iload_n C dX5_ask_32 rfl rfl ?_
        refine kX5_75 C (by decide) (tX5_awakeReaders hl hn8 hnJ _) ⟨⟨Nat.le_of_ble_eq_true rfl, Nat.le_of_ble_eq_true rfl⟩, Nat.le_of_ble_eq_true rfl, Nat.le_of_ble_eq_true rfl⟩ (Nat.le_of_ble_eq_true rfl) dX5_ask_33 ?_
        refine g_if_eq C (tgt := 44) dX5_ask_36 (by decide) (fun c36 => ?_) (fun c36 => ?_)
        · skip
          refine g_iinc C dX5_ask_44 rfl (nI_inc _) (by decide) rfl ?_
          refine g_goto C (tgt := 2) dX5_ask_47 (by decide) ?_
          exact G_cast (ih2 (ak_inv hv2k (by omega))) (by rw [lp]; generalize lp (ak1 n) i2 I = J9 at *; unfold ak1; (try first | rw [if_pos h1] | rw [if_neg h1] | rw [if_neg (show ¬ _ = true by rw [h1]; decide)]); (try first | rw [if_pos c28] | rw [if_neg c28] | rw [if_neg (show ¬ _ = true by rw [c28]; decide)]); (try first | rw [if_pos c36] | rw [if_neg c36] | rw [if_neg (show ¬ _ = true by rw [c36]; decide)]); try rw [hix]; try rfl) rfl rfl rfl
        · skip
          refine g_aload_n C dX5_ask_39 rfl rfl ?_
          refine g_iload_n C dX5_ask_40 rfl rfl ?_
          refine kX5_78 C (by decide) (tX5_waitsNow hl (i := i2) (show i2 < 8 by omega) (w := v2) (by omega) hv2b) ⟨⟨Nat.le_of_ble_eq_true rfl, Nat.le_of_ble_eq_true rfl⟩, Nat.le_of_ble_eq_true rfl, Nat.le_of_ble_eq_true rfl⟩ (Nat.le_of_ble_eq_true rfl) dX5_ask_41 ?_
          refine g_iinc C dX5_ask_44 rfl (nI_inc _) (by decide) rfl ?_
          refine g_goto C (tgt := 2) dX5_ask_47 (by decide) ?_
          exact G_cast (ih2 (ak_inv hv2k (by omega))) (by rw [lp]; generalize lp (ak1 n) i2 I = J9 at *; unfold ak1; (try first | rw [if_pos h1] | rw [if_neg h1] | rw [if_neg (show ¬ _ = true by rw [h1]; decide)]); (try first | rw [if_pos c28] | rw [if_neg c28] | rw [if_neg (show ¬ _ = true by rw [c28]; decide)]); (try first | rw [if_pos c36] | rw [if_neg c36] | rw [if_neg (show ¬ _ = true by rw [c36]; decide)]); try rw [hix]; try rfl) rfl rfl rfl
    · intro hv2
      have hnJ : lp (ak1 n) n I 128 2 = nI n := by rw [lp_fix2 (fun i J => ak1_lo (by decide))]; exact hn
      refine g_iload_n C dX5_ask_2 rfl rfl ?_
      refine g_aload_n C dX5_ask_3 rfl rfl ?_
      refine gfX5_7 C (by decide) hl.mstate dX5_ask_4 ?_
      refine g_iconst C (v := 2) dX5_ask_7 (by decide) ?_
      refine g_iald_j C (show ar NT 128 7 96 by decide) 2 rfl (by decide) (by decide) dX5_ask_8 ?_
      refine g_icmp_ge C (tgt := 50) dX5_ask_9 (by decide) (fun _ => ?_) (fun c9 => absurd (nI_lee hnJ) c9)
      exact g_vret C hr dX5_ask_50 ⟨rfl, by unfold akM; (try first | rw [if_pos h1] | rw [if_neg h1] | rw [if_neg (show ¬ _ = true by rw [h1]; decide)]); try rfl, rfl⟩
  · skip
    refine g_iconst C (v := 0) dX5_ask_0 (by decide) ?_
    refine g_istore_n C dX5_ask_1 rfl (by decide) rfl ?_
    refine g_iload_n C dX5_ask_2 rfl rfl ?_
    refine g_aload_n C dX5_ask_3 rfl rfl ?_
    refine gfX5_7 C (by decide) hl.mstate dX5_ask_4 ?_
    refine g_iconst C (v := 2) dX5_ask_7 (by decide) ?_
    refine g_iald_j C (show ar NT 128 7 96 by decide) 2 rfl (by decide) (by decide) dX5_ask_8 ?_
    refine g_icmp_ge C (tgt := 50) dX5_ask_9 (by decide) (fun c9 => ?_) (fun c9 => ?_)
    · skip
      exact g_vret C hr dX5_ask_50 ⟨rfl, by unfold akM; (try first | rw [if_pos h1] | rw [if_neg h1] | rw [if_neg (show ¬ _ = true by rw [h1]; decide)]); try rfl, rfl⟩
    · skip
      refine g_aload_n C dX5_ask_12 rfl rfl ?_
      refine gfX5_7 C (by decide) hl.mstate dX5_ask_13 ?_
      refine g_iconst C (v := 1) dX5_ask_16 (by decide) ?_
      refine g_iald_j C (show ar NT 128 7 96 by decide) 1 rfl (by decide) (by decide) dX5_ask_17 ?_
      refine g_iconst C (v := 1) dX5_ask_18 (by decide) ?_
      refine g_icmp_ne C (tgt := 50) dX5_ask_19 (by decide) (fun _ => ?_) (fun c19 => absurd c19 h1)
      exact g_vret C hr dX5_ask_50 ⟨rfl, by unfold akM; (try first | rw [if_pos h1] | rw [if_neg h1] | rw [if_neg (show ¬ _ = true by rw [h1]; decide)]); try rfl, rfl⟩

