set_option maxRecDepth 100000 in
set_option maxHeartbeats 800000 in
theorem tX5_comes {l : Launch} {E : EE} {I : Mi} {F : Mr} (hl : LY F) {n : Nat} (hn8 : n < 8) (hn : I 128 2 = nI n) (iso keep r d m9 : Int32)  : CtF l E mX5_comes [rf E 127, .int iso, .int keep, .int r, .int d, .int m9] NT I F NT none (cmM I n iso keep r d m9) F := by
  have e82 : sp (sp (sp (sp (sp (lp (fun k J => sp J n k 0) 10 I) n 0 iso) n 1 keep) n 2 r) n 3 d) n 6 m9 128 2 = nI n := by rw [sp_lo (by decide), sp_lo (by decide), sp_lo (by decide), sp_lo (by decide), sp_lo (by decide), lp_fix2 (fun i J => sp_lo (by decide))]; exact hn
  refine CtF_of [some (rf E 127), some (.int iso), some (.int keep), some (.int r), some (.int d), some (.int m9), none, none] (by decide) rfl (Nat.le_of_ble_eq_true rfl) rfl (fun p e s m args below meth c C hr hname => ?_)
  refine g_aload_n C dX5_comes_0 rfl rfl ?_
  refine gfX5_7 C (by decide) hl.mstate dX5_comes_1 ?_
  refine g_iconst C (v := 2) dX5_comes_4 (by decide) ?_
  refine g_iald_j C (show ar NT 128 7 96 by decide) 2 rfl (by decide) (by decide) dX5_comes_5 ?_
  rw [hn]
  refine g_istore C dX5_comes_6 (by decide) rfl ?_
  refine g_iconst C (v := 0) dX5_comes_8 (by decide) ?_
  refine g_istore C dX5_comes_9 (by decide) rfl ?_
  refine G_loop (n := 10) (fun i => [some (rf E 127), some (.int iso), some (.int keep), some (.int r), some (.int d), some (.int m9), some (.int (nI n)), some (.int (nI i))]) (fun i => lp (fun k J => sp J n k 0) i I) (fun _ => F) rfl rfl rfl ?_ ?_
  · intro i11 hi11 ih11
    refine g_iload C dX5_comes_11 rfl ?_
    refine g_bipush C (v := 10) dX5_comes_13 (by decide) ?_
    refine g_icmp_ge C (tgt := 33) dX5_comes_15 (by decide) (fun c15 => absurd c15 (nI_nge rfl hi11 (by decide))) (fun _ => ?_)
    refine g_aload_n C dX5_comes_18 rfl rfl ?_
    refine g_iload C dX5_comes_19 rfl ?_
    refine g_iload C dX5_comes_21 rfl ?_
    refine g_iconst C (v := 0) dX5_comes_23 (by decide) ?_
    refine kX5_68 C (by decide) (tX5_setPart hl (i := n) hn8 (q := i11) hi11 rfl _) ⟨⟨Nat.le_of_ble_eq_true rfl, Nat.le_of_ble_eq_true rfl⟩, Nat.le_of_ble_eq_true rfl, Nat.le_of_ble_eq_true rfl⟩ (Nat.le_of_ble_eq_true rfl) dX5_comes_24 ?_
    refine g_iinc C dX5_comes_27 rfl (nI_inc _) (by decide) rfl ?_
    refine g_goto C (tgt := 11) dX5_comes_30 (by decide) ?_
    exact G_cast ih11 rfl rfl rfl rfl
  · skip
    refine g_iload C dX5_comes_11 rfl ?_
    refine g_bipush C (v := 10) dX5_comes_13 (by decide) ?_
    refine g_icmp_ge C (tgt := 33) dX5_comes_15 (by decide) (fun _ => ?_) (fun c15 => absurd (nI_lee rfl) c15)
    refine g_aload_n C dX5_comes_33 rfl rfl ?_
    refine g_iload C dX5_comes_34 rfl ?_
    refine g_iconst C (v := 0) dX5_comes_36 (by decide) ?_
    refine g_iload_n C dX5_comes_37 rfl rfl ?_
    refine kX5_68 C (by decide) (tX5_setPart hl (i := n) hn8 (q := 0) (by decide) rfl _) ⟨⟨Nat.le_of_ble_eq_true rfl, Nat.le_of_ble_eq_true rfl⟩, Nat.le_of_ble_eq_true rfl, Nat.le_of_ble_eq_true rfl⟩ (Nat.le_of_ble_eq_true rfl) dX5_comes_38 ?_
    refine g_aload_n C dX5_comes_41 rfl rfl ?_
    refine g_iload C dX5_comes_42 rfl ?_
    refine g_iconst C (v := 1) dX5_comes_44 (by decide) ?_
    refine g_iload_n C dX5_comes_45 rfl rfl ?_
    refine kX5_68 C (by decide) (tX5_setPart hl (i := n) hn8 (q := 1) (by decide) rfl _) ⟨⟨Nat.le_of_ble_eq_true rfl, Nat.le_of_ble_eq_true rfl⟩, Nat.le_of_ble_eq_true rfl, Nat.le_of_ble_eq_true rfl⟩ (Nat.le_of_ble_eq_true rfl) dX5_comes_46 ?_
    refine g_aload_n C dX5_comes_49 rfl rfl ?_
    refine g_iload C dX5_comes_50 rfl ?_
    refine g_iconst C (v := 2) dX5_comes_52 (by decide) ?_
    refine g_iload_n C dX5_comes_53 rfl rfl ?_
    refine kX5_68 C (by decide) (tX5_setPart hl (i := n) hn8 (q := 2) (by decide) rfl _) ⟨⟨Nat.le_of_ble_eq_true rfl, Nat.le_of_ble_eq_true rfl⟩, Nat.le_of_ble_eq_true rfl, Nat.le_of_ble_eq_true rfl⟩ (Nat.le_of_ble_eq_true rfl) dX5_comes_54 ?_
    refine g_aload_n C dX5_comes_57 rfl rfl ?_
    refine g_iload C dX5_comes_58 rfl ?_
    refine g_iconst C (v := 3) dX5_comes_60 (by decide) ?_
    refine g_iload C dX5_comes_61 rfl ?_
    refine kX5_68 C (by decide) (tX5_setPart hl (i := n) hn8 (q := 3) (by decide) rfl _) ⟨⟨Nat.le_of_ble_eq_true rfl, Nat.le_of_ble_eq_true rfl⟩, Nat.le_of_ble_eq_true rfl, Nat.le_of_ble_eq_true rfl⟩ (Nat.le_of_ble_eq_true rfl) dX5_comes_63 ?_
    refine g_aload_n C dX5_comes_66 rfl rfl ?_
    refine g_iload C dX5_comes_67 rfl ?_
    refine g_bipush C (v := 6) dX5_comes_69 (by decide) ?_
    refine g_iload C dX5_comes_71 rfl ?_
    refine kX5_68 C (by decide) (tX5_setPart hl (i := n) hn8 (q := 6) (by decide) rfl _) ⟨⟨Nat.le_of_ble_eq_true rfl, Nat.le_of_ble_eq_true rfl⟩, Nat.le_of_ble_eq_true rfl, Nat.le_of_ble_eq_true rfl⟩ (Nat.le_of_ble_eq_true rfl) dX5_comes_73 ?_
    refine g_aload_n C dX5_comes_76 rfl rfl ?_
    refine gfX5_7 C (by decide) hl.mstate dX5_comes_77 ?_
    refine g_iconst C (v := 2) dX5_comes_80 (by decide) ?_
    refine g_dup2_11 C dX5_comes_81 rfl rfl ?_
    refine g_iald_j C (show ar NT 128 7 96 by decide) 2 rfl (by decide) (by decide) dX5_comes_82 ?_
    rw [e82]
    refine g_iconst C (v := 1) dX5_comes_83 (by decide) ?_
    refine g_iadd C dX5_comes_84 ?_
    refine g_iast_j C (show ar NT 128 7 96 by decide) 2 rfl (by decide) (by decide) dX5_comes_85 ?_
    exact g_vret C hr dX5_comes_86 ⟨rfl, by unfold cmM; rw [← nI_1], rfl⟩

set_option maxRecDepth 100000 in
set_option maxHeartbeats 800000 in
theorem tX5_build {l : Launch} {E : EE} {I : Mi} {F : Mr} (hl : LY F) {k : Nat} (hk6 : k ≤ 6) (hk : I 127 3 = nI k) {n : Nat} (hn8 : n ≤ 8) (hn : I 128 2 = nI n) (iso keep r d : Int32)  : CtF l E mX5_build [rf E 127, .int iso, .int keep, .int r, .int d] NT I F NT (some (.int (yBuild I k n iso keep r d).1)) ((yBuild I k n iso keep r d).2) F := by
  refine CtF_of [some (rf E 127), some (.int iso), some (.int keep), some (.int r), some (.int d)] (by decide) rfl (Nat.le_of_ble_eq_true rfl) rfl (fun p e s m args below meth c C hr hname => ?_)
  refine g_iload_n C dX5_build_0 rfl rfl ?_
  refine g_iconst C (v := 1) dX5_build_1 (by decide) ?_
  refine g_bipush C (v := 9) dX5_build_2 (by decide) ?_
  refine kX5_42 C (by decide) (tX5_within _ _ _) ⟨⟨Nat.le_of_ble_eq_true rfl, Nat.le_of_ble_eq_true rfl⟩, Nat.le_of_ble_eq_true rfl, Nat.le_of_ble_eq_true rfl⟩ (Nat.le_of_ble_eq_true rfl) dX5_build_4 ?_
  refine g_ifeq_b C (tgt := 21) dX5_build_7 (by decide) (fun c7 => ?_) (fun c7 => ?_)
  · skip
    refine g_bipush C (v := (-2)) dX5_build_21 (by decide) ?_
    exact g_iret C hr dX5_build_23 ⟨by unfold yBuild; (try first | rw [if_pos c7] | rw [if_neg c7] | rw [if_neg (show ¬ _ = true by rw [c7]; decide)]); try rfl, by unfold yBuild; (try first | rw [if_pos c7] | rw [if_neg c7] | rw [if_neg (show ¬ _ = true by rw [c7]; decide)]); try rfl, rfl⟩
  · skip
    refine g_iload C dX5_build_10 rfl ?_
    refine g_iconst C (v := 1) dX5_build_12 (by decide) ?_
    refine g_bipush C (v := 20) dX5_build_13 (by decide) ?_
    refine kX5_42 C (by decide) (tX5_within _ _ _) ⟨⟨Nat.le_of_ble_eq_true rfl, Nat.le_of_ble_eq_true rfl⟩, Nat.le_of_ble_eq_true rfl, Nat.le_of_ble_eq_true rfl⟩ (Nat.le_of_ble_eq_true rfl) dX5_build_15 ?_
    refine g_ifne_b C (tgt := 24) dX5_build_18 (by decide) (fun c18 => ?_) (fun c18 => ?_)
    · skip
      refine g_aload_n C dX5_build_24 rfl rfl ?_
      refine gfX5_7 C (by decide) hl.mstate dX5_build_25 ?_
      refine g_iconst C (v := 2) dX5_build_28 (by decide) ?_
      refine g_iald_j C (show ar NT 128 7 96 by decide) 2 rfl (by decide) (by decide) dX5_build_29 ?_
      refine g_bipush C (v := 8) dX5_build_30 (by decide) ?_
      refine g_icmp_ne C (tgt := 38) dX5_build_32 (by decide) (fun c32 => ?_) (fun c32 => ?_)
      · skip
        have hn9 : n < 8 := by rcases Nat.lt_or_ge n 8 with q | q; exact q; exact absurd (show I 128 2 = 8 by rw [hn, show n = 8 by omega]; rfl) c32
        refine g_aload_n C dX5_build_38 rfl rfl ?_
        refine kX5_107 C (by decide) (tX5_record hl hk6 hk) ⟨⟨Nat.le_of_ble_eq_true rfl, Nat.le_of_ble_eq_true rfl⟩, Nat.le_of_ble_eq_true rfl, Nat.le_of_ble_eq_true rfl⟩ (Nat.le_of_ble_eq_true rfl) dX5_build_39 ?_
        refine g_aload_n C dX5_build_42 rfl rfl ?_
        refine g_iload_n C dX5_build_43 rfl rfl ?_
        refine g_if_eq C (tgt := 51) dX5_build_44 (by decide) (fun c44 => ?_) (fun c44 => ?_)
        · skip
          refine g_iconst C (v := 0) dX5_build_51 (by decide) ?_
          refine g_iload_n C dX5_build_52 rfl rfl ?_
          refine g_if_eq C (tgt := 60) dX5_build_53 (by decide) (fun c53 => ?_) (fun c53 => ?_)
          · skip
            refine g_iconst C (v := 0) dX5_build_60 (by decide) ?_
            refine g_iload_n C dX5_build_61 rfl rfl ?_
            refine g_iload C dX5_build_62 rfl ?_
            refine g_iconst C (v := 0) dX5_build_64 (by decide) ?_
            refine kX5_110 C (by decide) (tX5_comes hl hn9 (by rw [recM_128]; exact hn) _ _ _ _ _) ⟨⟨Nat.le_of_ble_eq_true rfl, Nat.le_of_ble_eq_true rfl⟩, Nat.le_of_ble_eq_true rfl, Nat.le_of_ble_eq_true rfl⟩ (Nat.le_of_ble_eq_true rfl) dX5_build_65 ?_
            refine g_aload_n C dX5_build_68 rfl rfl ?_
            refine gfX5_7 C (by decide) hl.mstate dX5_build_69 ?_
            refine g_iconst C (v := 2) dX5_build_72 (by decide) ?_
            refine g_iald_j C (show ar NT 128 7 96 by decide) 2 rfl (by decide) (by decide) dX5_build_73 ?_
            rw [cmM_2]
            refine g_iconst C (v := 1) dX5_build_74 (by decide) ?_
            refine g_isub C dX5_build_75 ?_
            rw [nI_pred]
            exact g_iret C hr dX5_build_76 ⟨by unfold yBuild; (try first | rw [if_pos c7] | rw [if_neg c7] | rw [if_neg (show ¬ _ = true by rw [c7]; decide)]); (try first | rw [if_pos c18] | rw [if_neg c18] | rw [if_neg (show ¬ _ = true by rw [c18]; decide)]); (try first | rw [if_pos c32] | rw [if_neg c32] | rw [if_neg (show ¬ _ = true by rw [c32]; decide)]); (try first | rw [if_pos c44] | rw [if_neg c44] | rw [if_neg (show ¬ _ = true by rw [c44]; decide)]); (try first | rw [if_pos c53] | rw [if_neg c53] | rw [if_neg (show ¬ _ = true by rw [c53]; decide)]); try rfl, by unfold yBuild; (try first | rw [if_pos c7] | rw [if_neg c7] | rw [if_neg (show ¬ _ = true by rw [c7]; decide)]); (try first | rw [if_pos c18] | rw [if_neg c18] | rw [if_neg (show ¬ _ = true by rw [c18]; decide)]); (try first | rw [if_pos c32] | rw [if_neg c32] | rw [if_neg (show ¬ _ = true by rw [c32]; decide)]); (try first | rw [if_pos c44] | rw [if_neg c44] | rw [if_neg (show ¬ _ = true by rw [c44]; decide)]); (try first | rw [if_pos c53] | rw [if_neg c53] | rw [if_neg (show ¬ _ = true by rw [c53]; decide)]); try rfl, rfl⟩
          · skip
            refine g_iconst C (v := 1) dX5_build_56 (by decide) ?_
            refine g_goto C (tgt := 61) dX5_build_57 (by decide) ?_
            refine g_iload_n C dX5_build_61 rfl rfl ?_
            refine g_iload C dX5_build_62 rfl ?_
            refine g_iconst C (v := 0) dX5_build_64 (by decide) ?_
            refine kX5_110 C (by decide) (tX5_comes hl hn9 (by rw [recM_128]; exact hn) _ _ _ _ _) ⟨⟨Nat.le_of_ble_eq_true rfl, Nat.le_of_ble_eq_true rfl⟩, Nat.le_of_ble_eq_true rfl, Nat.le_of_ble_eq_true rfl⟩ (Nat.le_of_ble_eq_true rfl) dX5_build_65 ?_
            refine g_aload_n C dX5_build_68 rfl rfl ?_
            refine gfX5_7 C (by decide) hl.mstate dX5_build_69 ?_
            refine g_iconst C (v := 2) dX5_build_72 (by decide) ?_
            refine g_iald_j C (show ar NT 128 7 96 by decide) 2 rfl (by decide) (by decide) dX5_build_73 ?_
            rw [cmM_2]
            refine g_iconst C (v := 1) dX5_build_74 (by decide) ?_
            refine g_isub C dX5_build_75 ?_
            rw [nI_pred]
            exact g_iret C hr dX5_build_76 ⟨by unfold yBuild; (try first | rw [if_pos c7] | rw [if_neg c7] | rw [if_neg (show ¬ _ = true by rw [c7]; decide)]); (try first | rw [if_pos c18] | rw [if_neg c18] | rw [if_neg (show ¬ _ = true by rw [c18]; decide)]); (try first | rw [if_pos c32] | rw [if_neg c32] | rw [if_neg (show ¬ _ = true by rw [c32]; decide)]); (try first | rw [if_pos c44] | rw [if_neg c44] | rw [if_neg (show ¬ _ = true by rw [c44]; decide)]); (try first | rw [if_pos c53] | rw [if_neg c53] | rw [if_neg (show ¬ _ = true by rw [c53]; decide)]); try rfl, by unfold yBuild; (try first | rw [if_pos c7] | rw [if_neg c7] | rw [if_neg (show ¬ _ = true by rw [c7]; decide)]); (try first | rw [if_pos c18] | rw [if_neg c18] | rw [if_neg (show ¬ _ = true by rw [c18]; decide)]); (try first | rw [if_pos c32] | rw [if_neg c32] | rw [if_neg (show ¬ _ = true by rw [c32]; decide)]); (try first | rw [if_pos c44] | rw [if_neg c44] | rw [if_neg (show ¬ _ = true by rw [c44]; decide)]); (try first | rw [if_pos c53] | rw [if_neg c53] | rw [if_neg (show ¬ _ = true by rw [c53]; decide)]); try rfl, rfl⟩
        · skip
          refine g_iconst C (v := 1) dX5_build_47 (by decide) ?_
          refine g_goto C (tgt := 52) dX5_build_48 (by decide) ?_
          refine g_iload_n C dX5_build_52 rfl rfl ?_
          refine g_if_eq C (tgt := 60) dX5_build_53 (by decide) (fun c53 => ?_) (fun c53 => ?_)
          · skip
            refine g_iconst C (v := 0) dX5_build_60 (by decide) ?_
            refine g_iload_n C dX5_build_61 rfl rfl ?_
            refine g_iload C dX5_build_62 rfl ?_
            refine g_iconst C (v := 0) dX5_build_64 (by decide) ?_
            refine kX5_110 C (by decide) (tX5_comes hl hn9 (by rw [recM_128]; exact hn) _ _ _ _ _) ⟨⟨Nat.le_of_ble_eq_true rfl, Nat.le_of_ble_eq_true rfl⟩, Nat.le_of_ble_eq_true rfl, Nat.le_of_ble_eq_true rfl⟩ (Nat.le_of_ble_eq_true rfl) dX5_build_65 ?_
            refine g_aload_n C dX5_build_68 rfl rfl ?_
            refine gfX5_7 C (by decide) hl.mstate dX5_build_69 ?_
            refine g_iconst C (v := 2) dX5_build_72 (by decide) ?_
            refine g_iald_j C (show ar NT 128 7 96 by decide) 2 rfl (by decide) (by decide) dX5_build_73 ?_
            rw [cmM_2]
            refine g_iconst C (v := 1) dX5_build_74 (by decide) ?_
            refine g_isub C dX5_build_75 ?_
            rw [nI_pred]
            exact g_iret C hr dX5_build_76 ⟨by unfold yBuild; (try first | rw [if_pos c7] | rw [if_neg c7] | rw [if_neg (show ¬ _ = true by rw [c7]; decide)]); (try first | rw [if_pos c18] | rw [if_neg c18] | rw [if_neg (show ¬ _ = true by rw [c18]; decide)]); (try first | rw [if_pos c32] | rw [if_neg c32] | rw [if_neg (show ¬ _ = true by rw [c32]; decide)]); (try first | rw [if_pos c44] | rw [if_neg c44] | rw [if_neg (show ¬ _ = true by rw [c44]; decide)]); (try first | rw [if_pos c53] | rw [if_neg c53] | rw [if_neg (show ¬ _ = true by rw [c53]; decide)]); try rfl, by unfold yBuild; (try first | rw [if_pos c7] | rw [if_neg c7] | rw [if_neg (show ¬ _ = true by rw [c7]; decide)]); (try first | rw [if_pos c18] | rw [if_neg c18] | rw [if_neg (show ¬ _ = true by rw [c18]; decide)]); (try first | rw [if_pos c32] | rw [if_neg c32] | rw [if_neg (show ¬ _ = true by rw [c32]; decide)]); (try first | rw [if_pos c44] | rw [if_neg c44] | rw [if_neg (show ¬ _ = true by rw [c44]; decide)]); (try first | rw [if_pos c53] | rw [if_neg c53] | rw [if_neg (show ¬ _ = true by rw [c53]; decide)]); try rfl, rfl⟩
          · skip
            refine g_iconst C (v := 1) dX5_build_56 (by decide) ?_
            refine g_goto C (tgt := 61) dX5_build_57 (by decide) ?_
            refine g_iload_n C dX5_build_61 rfl rfl ?_
            refine g_iload C dX5_build_62 rfl ?_
            refine g_iconst C (v := 0) dX5_build_64 (by decide) ?_
            refine kX5_110 C (by decide) (tX5_comes hl hn9 (by rw [recM_128]; exact hn) _ _ _ _ _) ⟨⟨Nat.le_of_ble_eq_true rfl, Nat.le_of_ble_eq_true rfl⟩, Nat.le_of_ble_eq_true rfl, Nat.le_of_ble_eq_true rfl⟩ (Nat.le_of_ble_eq_true rfl) dX5_build_65 ?_
            refine g_aload_n C dX5_build_68 rfl rfl ?_
            refine gfX5_7 C (by decide) hl.mstate dX5_build_69 ?_
            refine g_iconst C (v := 2) dX5_build_72 (by decide) ?_
            refine g_iald_j C (show ar NT 128 7 96 by decide) 2 rfl (by decide) (by decide) dX5_build_73 ?_
            rw [cmM_2]
            refine g_iconst C (v := 1) dX5_build_74 (by decide) ?_
            refine g_isub C dX5_build_75 ?_
            rw [nI_pred]
            exact g_iret C hr dX5_build_76 ⟨by unfold yBuild; (try first | rw [if_pos c7] | rw [if_neg c7] | rw [if_neg (show ¬ _ = true by rw [c7]; decide)]); (try first | rw [if_pos c18] | rw [if_neg c18] | rw [if_neg (show ¬ _ = true by rw [c18]; decide)]); (try first | rw [if_pos c32] | rw [if_neg c32] | rw [if_neg (show ¬ _ = true by rw [c32]; decide)]); (try first | rw [if_pos c44] | rw [if_neg c44] | rw [if_neg (show ¬ _ = true by rw [c44]; decide)]); (try first | rw [if_pos c53] | rw [if_neg c53] | rw [if_neg (show ¬ _ = true by rw [c53]; decide)]); try rfl, by unfold yBuild; (try first | rw [if_pos c7] | rw [if_neg c7] | rw [if_neg (show ¬ _ = true by rw [c7]; decide)]); (try first | rw [if_pos c18] | rw [if_neg c18] | rw [if_neg (show ¬ _ = true by rw [c18]; decide)]); (try first | rw [if_pos c32] | rw [if_neg c32] | rw [if_neg (show ¬ _ = true by rw [c32]; decide)]); (try first | rw [if_pos c44] | rw [if_neg c44] | rw [if_neg (show ¬ _ = true by rw [c44]; decide)]); (try first | rw [if_pos c53] | rw [if_neg c53] | rw [if_neg (show ¬ _ = true by rw [c53]; decide)]); try rfl, rfl⟩
      · skip
        refine g_bipush C (v := (-4)) dX5_build_35 (by decide) ?_
        exact g_iret C hr dX5_build_37 ⟨by unfold yBuild; (try first | rw [if_pos c7] | rw [if_neg c7] | rw [if_neg (show ¬ _ = true by rw [c7]; decide)]); (try first | rw [if_pos c18] | rw [if_neg c18] | rw [if_neg (show ¬ _ = true by rw [c18]; decide)]); (try first | rw [if_pos c32] | rw [if_neg c32] | rw [if_neg (show ¬ _ = true by rw [c32]; decide)]); try rfl, by unfold yBuild; (try first | rw [if_pos c7] | rw [if_neg c7] | rw [if_neg (show ¬ _ = true by rw [c7]; decide)]); (try first | rw [if_pos c18] | rw [if_neg c18] | rw [if_neg (show ¬ _ = true by rw [c18]; decide)]); (try first | rw [if_pos c32] | rw [if_neg c32] | rw [if_neg (show ¬ _ = true by rw [c32]; decide)]); try rfl, rfl⟩
    · skip
      refine g_bipush C (v := (-2)) dX5_build_21 (by decide) ?_
      exact g_iret C hr dX5_build_23 ⟨by unfold yBuild; (try first | rw [if_pos c7] | rw [if_neg c7] | rw [if_neg (show ¬ _ = true by rw [c7]; decide)]); (try first | rw [if_pos c18] | rw [if_neg c18] | rw [if_neg (show ¬ _ = true by rw [c18]; decide)]); try rfl, by unfold yBuild; (try first | rw [if_pos c7] | rw [if_neg c7] | rw [if_neg (show ¬ _ = true by rw [c7]; decide)]); (try first | rw [if_pos c18] | rw [if_neg c18] | rw [if_neg (show ¬ _ = true by rw [c18]; decide)]); try rfl, rfl⟩

set_option maxRecDepth 100000 in
set_option maxHeartbeats 800000 in
theorem tX5_wipe {l : Launch} {E : EE} {I : Mi} {F : Mr} (hl : LY F)  : CtF l E mX5_wipe [rf E 127] NT I F NT (some (.int (I 127 7))) (up I 127 7 0) F := by
  refine CtF_of [some (rf E 127), none] (by decide) rfl (Nat.le_of_ble_eq_true rfl) rfl (fun p e s m args below meth c C hr hname => ?_)
  refine g_aload_n C dX5_wipe_0 rfl rfl ?_
  refine gfX5_117 C (by decide) dX5_wipe_1 ?_
  refine g_istore_n C dX5_wipe_4 rfl (by decide) rfl ?_
  refine g_aload_n C dX5_wipe_5 rfl rfl ?_
  refine g_iconst C (v := 0) dX5_wipe_6 (by decide) ?_
  refine pfX5_117 C (by decide) dX5_wipe_7 ?_
  refine g_iload_n C dX5_wipe_10 rfl rfl ?_
  exact g_iret C hr dX5_wipe_11 ⟨rfl, rfl, rfl⟩

