/-! the reference: read, walked -/
theorem pT_r11 (I : Mi) (j : Nat) (t : T5) : pT I j t 127 11 = t.1 := rfl
theorem pT_r12 (I : Mi) (j : Nat) (t : T5) : pT I j t 127 12 = t.2.1 := rfl
theorem pT_r13 (I : Mi) (j : Nat) (t : T5) : pT I j t 127 13 = t.2.2.1 := rfl
theorem pT_r14 (I : Mi) (j : Nat) (t : T5) : pT I j t 127 14 = t.2.2.2.1 := rfl
set_option maxRecDepth 100000 in
set_option maxHeartbeats 800000 in
theorem tX5_read {l : Launch} {E : EE} {I : Mi} {F : Mr} (hl : LY F) {k : Nat} (hk6 : k ≤ 6) (hk : I 127 3 = nI k) {L : Nat} (hL64 : L ≤ 64) (hL : I 127 7 = nI L) {j : Nat} {t9 : T5} {m9 : Nat} (hm : (ffM (I 133) L 8 0 (0, t9)).1 = -6 → m9 ≤ 8 ∧ (∀ i, i < m9 → (ffS (I 133) L (0, t9) i).1 < L) ∧ (ffS (I 133) L (0, t9) m9).1 = L)  : CtF l E mX5_read [rf E 127] NT (pT I j t9) F NT (some (.int (yRead I k L m9 j t9).1)) ((yRead I k L m9 j t9).2) F := by
  have e7 : ∀ i, (rdJ (I 133) L (ffS (I 133) L (0, (ffM (I 133) L 8 0 (0, t9)).2.2) m9).2 (yReadJ I k L m9 (ffM (I 133) L 8 0 (0, t9)).2.2) i) 127 7 = nI L := fun i => by rw [rdJ_7, yReadJ, zSt_ne (by decide), recM_127 _ _ _ (by decide)]; exact hL
  have e133 : ∀ i, (rdJ (I 133) L (ffS (I 133) L (0, (ffM (I 133) L 8 0 (0, t9)).2.2) m9).2 (yReadJ I k L m9 (ffM (I 133) L 8 0 (0, t9)).2.2) i) 133 = I 133 := fun i => by rw [rdJ_133, yReadJ, zSt_ne (by decide), recM_ne9 _ _ (by decide) (by decide), pT_ne (by decide)]
  have e2 : ∀ i, (rdJ (I 133) L (ffS (I 133) L (0, (ffM (I 133) L 8 0 (0, t9)).2.2) m9).2 (yReadJ I k L m9 (ffM (I 133) L 8 0 (0, t9)).2.2) i) 128 2 = nI i := rdJ_2 (zSt_2 _ 93)
  refine CtF_of [some (rf E 127), none, none] (by decide) rfl (Nat.le_of_ble_eq_true rfl) rfl (fun p e s m args below meth c C hr hname => ?_)
  refine g_aload_n C dX5_read_0 rfl rfl ?_
  refine kX5_129 C (by decide) (tX5_findFault hl hL64 hL) ⟨⟨Nat.le_of_ble_eq_true rfl, Nat.le_of_ble_eq_true rfl⟩, Nat.le_of_ble_eq_true rfl, Nat.le_of_ble_eq_true rfl⟩ (Nat.le_of_ble_eq_true rfl) dX5_read_1 ?_
  refine g_bipush C (v := (-6)) dX5_read_4 (by decide) ?_
  refine g_icmp_eq C (tgt := 12) dX5_read_6 (by decide) (fun c6 => ?_) (fun c6 => ?_)
  · skip
    have hmm := hm c6
    refine g_aload_n C dX5_read_12 rfl rfl ?_
    refine kX5_132 C (by decide) (tX5_toldMany hl hL64 hL (hmm.1) (fun i hi => (by rw [ffS_fst _ _ _ t9 i]; exact hmm.2.1 i hi)) (by rw [ffS_fst _ _ _ t9 m9]; exact hmm.2.2)) ⟨⟨Nat.le_of_ble_eq_true rfl, Nat.le_of_ble_eq_true rfl⟩, Nat.le_of_ble_eq_true rfl, Nat.le_of_ble_eq_true rfl⟩ (Nat.le_of_ble_eq_true rfl) dX5_read_13 ?_
    refine g_istore_n C dX5_read_16 rfl (by decide) rfl ?_
    refine g_iload_n C dX5_read_17 rfl rfl ?_
    refine g_if_ge C (tgt := 23) dX5_read_18 (by decide) (fun c18 => ?_) (fun c18 => ?_)
    · skip
      refine g_aload_n C dX5_read_23 rfl rfl ?_
      refine kX5_107 C (by decide) (tX5_record hl hk6 hk) ⟨⟨Nat.le_of_ble_eq_true rfl, Nat.le_of_ble_eq_true rfl⟩, Nat.le_of_ble_eq_true rfl, Nat.le_of_ble_eq_true rfl⟩ (Nat.le_of_ble_eq_true rfl) dX5_read_24 ?_
      refine g_iconst C (v := 2) dX5_read_27 (by decide) ?_
      refine g_istore_n C dX5_read_28 rfl (by decide) rfl ?_
      refine G_loop (n := 94) (fun i => [some (rf E 127), some (.int (tmR (alS (I 133) L (0, (ffM (I 133) L 8 0 (0, t9)).2.2) m9) m9)), some (.int (nI (i + 2)))]) (fun i => zSt (recM (pT I (ffS (I 133) L (0, (ffM (I 133) L 8 0 (0, t9)).2.2) m9).1 (ffS (I 133) L (0, (ffM (I 133) L 8 0 (0, t9)).2.2) m9).2) k) i) (fun _ => F) rfl (by unfold zSt; rw [lp]) rfl ?_ ?_
      · intro i29 hi29 ih29
        refine g_iload_n C dX5_read_29 rfl rfl ?_
        refine g_bipush C (v := 96) dX5_read_30 (by decide) ?_
        refine g_icmp_ge C (tgt := 48) dX5_read_32 (by decide) (fun c32 => absurd c32 (nI_nge rfl (show i29 + 2 < 96 by omega) (by decide))) (fun _ => ?_)
        refine g_aload_n C dX5_read_35 rfl rfl ?_
        refine gfX5_7 C (by decide) hl.mstate dX5_read_36 ?_
        refine g_iload_n C dX5_read_39 rfl rfl ?_
        refine g_iconst C (v := 0) dX5_read_40 (by decide) ?_
        refine g_iast_j C (show ar NT 128 7 96 by decide) (i29 + 2) rfl (by omega) (by decide) dX5_read_41 ?_
        refine g_iinc C dX5_read_42 rfl (nI_inc _) (by decide) rfl ?_
        refine g_goto C (tgt := 29) dX5_read_45 (by decide) ?_
        exact G_cast ih29 (by rw [zSt_s]) rfl rfl rfl
      · skip
        refine g_iload_n C dX5_read_29 rfl rfl ?_
        refine g_bipush C (v := 96) dX5_read_30 (by decide) ?_
        refine g_icmp_ge C (tgt := 48) dX5_read_32 (by decide) (fun _ => ?_) (fun c32 => absurd (by decide) c32)
        refine g_aload_n C dX5_read_48 rfl rfl ?_
        refine g_iconst C (v := 0) dX5_read_49 (by decide) ?_
        refine pfX5_114 C (by decide) dX5_read_50 ?_
        rw [show up (zSt (recM (pT I (ffS (I 133) L (0, (ffM (I 133) L 8 0 (0, t9)).2.2) m9).1 (ffS (I 133) L (0, (ffM (I 133) L 8 0 (0, t9)).2.2) m9).2) k) 94) 127 10 0 = pT (yReadJ I k L m9 (ffM (I 133) L 8 0 (0, t9)).2.2) 0 (ffS (I 133) L (0, (ffM (I 133) L 8 0 (0, t9)).2.2) m9).2 from yRead_at _ _ _ _ _]
        refine G_loop (n := m9) (fun i => [some (rf E 127), some (.int (tmR (alS (I 133) L (0, (ffM (I 133) L 8 0 (0, t9)).2.2) m9) m9)), some (.int (nI (94 + 2)))]) (fun i => pT (rdJ (I 133) L (ffS (I 133) L (0, (ffM (I 133) L 8 0 (0, t9)).2.2) m9).2 (yReadJ I k L m9 (ffM (I 133) L 8 0 (0, t9)).2.2) i) (ffS (I 133) L (0, (ffS (I 133) L (0, (ffM (I 133) L 8 0 (0, t9)).2.2) m9).2) i).1 (ffS (I 133) L (0, (ffS (I 133) L (0, (ffM (I 133) L 8 0 (0, t9)).2.2) m9).2) i).2) (fun _ => F) rfl (by rw [rdJ_0, ffS_0]) rfl ?_ ?_
        · intro i53 hi53 ih53
          have hlt9 : (ffS (I 133) L (0, (ffS (I 133) L (0, (ffM (I 133) L 8 0 (0, t9)).2.2) m9).2) i53).1 < L := by rw [ffS_fst _ _ _ t9 i53]; exact hmm.2.1 i53 hi53
          have hi8 : i53 < 8 := by omega
          have hr9 : (rpS (I 133) L i53 (ffS (I 133) L (0, (ffS (I 133) L (0, (ffM (I 133) L 8 0 (0, t9)).2.2) m9).2) i53).1).2.1 ≤ L := rpS_le (ffS_le i53)
          refine g_aload_n C dX5_read_53 rfl rfl ?_
          refine gfX5_114 C (by decide) dX5_read_54 ?_
          rw [pT_r10]
          refine g_aload_n C dX5_read_57 rfl rfl ?_
          refine gfX5_117 C (by decide) dX5_read_58 ?_
          rw [pT_r7, e7]
          refine g_icmp_ge C (tgt := 109) dX5_read_61 (by decide) (fun c61 => absurd c61 (nI_nge rfl hlt9 (by omega))) (fun _ => ?_)
          refine g_aload_n C dX5_read_64 rfl rfl ?_
          refine g_aload_n C dX5_read_65 rfl rfl ?_
          refine gfX5_7 C (by decide) hl.mstate dX5_read_66 ?_
          refine g_iconst C (v := 2) dX5_read_69 (by decide) ?_
          refine g_iald_j C (show ar NT 128 7 96 by decide) 2 rfl (by decide) (by decide) dX5_read_70 ?_
          rw [show (pT (rdJ (I 133) L (ffS (I 133) L (0, (ffM (I 133) L 8 0 (0, t9)).2.2) m9).2 (yReadJ I k L m9 (ffM (I 133) L 8 0 (0, t9)).2.2) i53) (ffS (I 133) L (0, (ffS (I 133) L (0, (ffM (I 133) L 8 0 (0, t9)).2.2) m9).2) i53).1 (ffS (I 133) L (0, (ffS (I 133) L (0, (ffM (I 133) L 8 0 (0, t9)).2.2) m9).2) i53).2) 128 2 = nI i53 from e2 i53]
          refine kX5_120 C (by decide) (tX5_readsIsland3 hl hL64 (e7 i53) (e133 i53) (t := (ffS (I 133) L (0, (ffS (I 133) L (0, (ffM (I 133) L 8 0 (0, t9)).2.2) m9).2) i53).2) (ffS_le i53) i53) ⟨⟨Nat.le_of_ble_eq_true rfl, Nat.le_of_ble_eq_true rfl⟩, Nat.le_of_ble_eq_true rfl, Nat.le_of_ble_eq_true rfl⟩ (Nat.le_of_ble_eq_true rfl) dX5_read_71 ?_
          refine g_pop C dX5_read_74 rfl ?_
          refine g_aload_n C dX5_read_75 rfl rfl ?_
          refine g_bipush C (v := 59) dX5_read_76 (by decide) ?_
          refine kX5_123 C (by decide) (tX5_isNext3 hl hL64 (e7 i53) (e133 i53) (by omega) _) ⟨⟨Nat.le_of_ble_eq_true rfl, Nat.le_of_ble_eq_true rfl⟩, Nat.le_of_ble_eq_true rfl, Nat.le_of_ble_eq_true rfl⟩ (Nat.le_of_ble_eq_true rfl) dX5_read_78 ?_
          refine g_pop C dX5_read_81 rfl ?_
          refine g_aload_n C dX5_read_82 rfl rfl ?_
          refine g_aload_n C dX5_read_83 rfl rfl ?_
          refine gfX5_135 C (by decide) dX5_read_84 ?_
          rw [pT_r11]
          refine g_aload_n C dX5_read_87 rfl rfl ?_
          refine gfX5_138 C (by decide) dX5_read_88 ?_
          rw [pT_r12]
          refine g_aload_n C dX5_read_91 rfl rfl ?_
          refine gfX5_141 C (by decide) dX5_read_92 ?_
          rw [pT_r13]
          refine g_aload_n C dX5_read_95 rfl rfl ?_
          refine gfX5_144 C (by decide) dX5_read_96 ?_
          rw [pT_r14]
          refine g_aload_n C dX5_read_99 rfl rfl ?_
          refine gfX5_126 C (by decide) dX5_read_100 ?_
          rw [pT_r15]
          refine kX5_110 C (by decide) (tX5_comes hl (n := i53) (by omega) (by exact e2 i53) _ _ _ _ _) ⟨⟨Nat.le_of_ble_eq_true rfl, Nat.le_of_ble_eq_true rfl⟩, Nat.le_of_ble_eq_true rfl, Nat.le_of_ble_eq_true rfl⟩ (Nat.le_of_ble_eq_true rfl) dX5_read_103 ?_
          refine g_goto C (tgt := 53) dX5_read_106 (by decide) ?_
          exact G_cast ih53 (by rw [rdJ_pT, rdJ_s, ffS_s]) rfl rfl rfl
        · skip
          refine g_aload_n C dX5_read_53 rfl rfl ?_
          refine gfX5_114 C (by decide) dX5_read_54 ?_
          rw [pT_r10]
          refine g_aload_n C dX5_read_57 rfl rfl ?_
          refine gfX5_117 C (by decide) dX5_read_58 ?_
          rw [pT_r7, e7]
          refine g_icmp_ge C (tgt := 109) dX5_read_61 (by decide) (fun _ => ?_) (fun c61 => absurd (by rw [ffS_fst _ _ _ t9 m9, hmm.2.2]; exact nI_lee rfl) c61)
          refine g_aload_n C dX5_read_109 rfl rfl ?_
          refine g_iconst C (v := 0) dX5_read_110 (by decide) ?_
          refine pfX5_117 C (by decide) dX5_read_111 ?_
          refine g_iload_n C dX5_read_114 rfl rfl ?_
          exact g_iret C hr dX5_read_115 ⟨by unfold yRead; (try first | rw [if_pos c6] | rw [if_neg c6] | rw [if_neg (show ¬ _ = true by rw [c6]; decide)]); (try first | rw [if_pos c18] | rw [if_neg c18] | rw [if_neg (show ¬ _ = true by rw [c18]; decide)]), by unfold yRead; (try first | rw [if_pos c6] | rw [if_neg c6] | rw [if_neg (show ¬ _ = true by rw [c6]; decide)]); (try first | rw [if_pos c18] | rw [if_neg c18] | rw [if_neg (show ¬ _ = true by rw [c18]; decide)]), rfl⟩
    · skip
      refine g_iconst C (v := (-1)) dX5_read_21 (by decide) ?_
      exact g_iret C hr dX5_read_22 ⟨by unfold yRead; (try first | rw [if_pos c6] | rw [if_neg c6] | rw [if_neg (show ¬ _ = true by rw [c6]; decide)]); (try first | rw [if_pos c18] | rw [if_neg c18] | rw [if_neg (show ¬ _ = true by rw [c18]; decide)]), by unfold yRead; (try first | rw [if_pos c6] | rw [if_neg c6] | rw [if_neg (show ¬ _ = true by rw [c6]; decide)]); (try first | rw [if_pos c18] | rw [if_neg c18] | rw [if_neg (show ¬ _ = true by rw [c18]; decide)]), rfl⟩
  · skip
    refine g_bipush C (v := (-3)) dX5_read_9 (by decide) ?_
    exact g_iret C hr dX5_read_11 ⟨by unfold yRead; (try first | rw [if_pos c6] | rw [if_neg c6] | rw [if_neg (show ¬ _ = true by rw [c6]; decide)]), by unfold yRead; (try first | rw [if_pos c6] | rw [if_neg c6] | rw [if_neg (show ¬ _ = true by rw [c6]; decide)]), rfl⟩

