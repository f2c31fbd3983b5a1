theorem lp_fix2 {f : Nat → Mi → Mi} {x y : Nat} (h : ∀ i I, f i I x y = I x y) : ∀ (n : Nat) (I : Mi), lp f n I x y = I x y
  | 0, I => rfl
  | n + 1, I => (h n _).trans (lp_fix2 h n I)
theorem nv1_2 (i : Nat) (J : Mi) (y : Nat) : nv1 i J 128 y = J 128 y := by simp only [nv1]; rw [up_ne (by decide), up_ne (by decide)]
theorem nvB_lo {i k : Nat} {p : Mi × Int32} {y : Nat} (hy : y < 16) (h4 : y ≠ 4) : (nvB i k p).1 128 y = p.1 128 y := by
  unfold nvB
  split
  · simp only
    rw [sp_lo hy, up_j h4]
  · rfl
theorem nvI_lo {i : Nat} {J : Mi} {y : Nat} (hy : y < 16) (h4 : y ≠ 4) : ∀ k, (nvI i k J).1 128 y = J 128 y
  | 0 => rfl
  | k + 1 => by rw [nvI_s, nvB_lo hy h4]; exact nvI_lo hy h4 k
theorem nv2_lo {n i : Nat} {J : Mi} {y : Nat} (hy : y < 16) (h4 : y ≠ 4) : nv2 n i J 128 y = J 128 y := by
  unfold nv2
  split
  · rw [sp_lo hy]; exact nvI_lo hy h4 n
  · rw [sp_lo hy]
theorem nvB_7 {i k : Nat} {p : Mi × Int32} : pt (nvB i k p).1 i 7 = pt p.1 i 7 := by
  unfold nvB
  split
  · simp only [sp, up]
    rw [if_neg (by omega), if_neg (by omega)]
  · rfl
theorem nvI_7 {i : Nat} {J : Mi} : ∀ k, pt (nvI i k J).1 i 7 = pt J i 7
  | 0 => rfl
  | k + 1 => by rw [nvI_s, nvB_7]; exact nvI_7 k
theorem fa1_lo {i : Nat} {J : Mi} {y : Nat} (hy : y < 16) (h5 : y ≠ 5) : fa1 i J 128 y = J 128 y := by
  unfold fa1
  split
  · split
    · rw [sp_lo hy, up_j h5, sp_lo hy, sp_lo hy]
    · rw [sp_lo hy, up_j h5, sp_lo hy, sp_lo hy]
  · rfl
theorem ri1_lo {i : Nat} {J : Mi} {y : Nat} (hy : y < 16) : ri1 i J 128 y = J 128 y := by
  unfold ri1
  split
  · split
    · rw [sp_lo hy, sp_lo hy, sp_lo hy]
    · rw [sp_lo hy]
  · rfl
theorem wtM_lo {I : Mi} {i w : Nat} {y : Nat} (hy : y < 7) : wtM I i w 128 y = I 128 y := by
  unfold wtM
  rw [up_j (by omega), up_j (by omega), sp_lo (by omega)]
theorem wtM_7 {I : Mi} {i w : Nat} : wtM I i w 128 7 = nI (w + 1) := by unfold wtM; simp [up]
theorem ak1_lo {n i : Nat} {J : Mi} {y : Nat} (hy : y < 7) : ak1 n i J 128 y = J 128 y := by
  unfold ak1
  split
  · split
    · rfl
    · exact wtM_lo hy
  · rfl

set_option maxRecDepth 100000 in
set_option maxHeartbeats 800000 in
theorem tX5_fallAsleep {l : Launch} {E : EE} {I : Mi} {F : Mr} (hl : LY F) {n : Nat} (hn8 : n ≤ 8) (hn : I 128 2 = nI n)  : CtF l E mX5_fallAsleep [rf E 127] NT I F NT none (faM I n) F := by
  refine CtF_of [some (rf E 127), none, none] (by decide) rfl (Nat.le_of_ble_eq_true rfl) rfl (fun p e s m args below meth c C hr hname => ?_)
  refine g_iconst C (v := 0) dX5_fallAsleep_0 (by decide) ?_
  refine g_istore_n C dX5_fallAsleep_1 rfl (by decide) rfl ?_
  refine G_loop (n := n) (fun i => [some (rf E 127), some (.int (nI i)), none]) (fun i => lp fa1 i I) (fun _ => F) rfl rfl rfl ?_ ?_
  · intro i2 hi2 ih2
    refine g_iload_n C dX5_fallAsleep_2 rfl rfl ?_
    refine g_aload_n C dX5_fallAsleep_3 rfl rfl ?_
    refine gfX5_7 C (by decide) hl.mstate dX5_fallAsleep_4 ?_
    refine g_iconst C (v := 2) dX5_fallAsleep_7 (by decide) ?_
    refine g_iald_j C (show ar NT 128 7 96 by decide) 2 rfl (by decide) (by decide) dX5_fallAsleep_8 ?_
    refine g_icmp_ge C (tgt := 110) dX5_fallAsleep_9 (by decide) (fun c9 => absurd c9 (nI_nge (by rw [lp_fix2 (fun i J => fa1_lo (by decide) (by decide))]; exact hn) hi2 (by omega))) (fun _ => ?_)
    refine g_aload_n C dX5_fallAsleep_12 rfl rfl ?_
    refine g_iload_n C dX5_fallAsleep_13 rfl rfl ?_
    refine g_iconst C (v := 1) dX5_fallAsleep_14 (by decide) ?_
    refine kX5_50 C (by decide) (tX5_is hl (i := i2) (show i2 < 8 by omega) _) ⟨⟨Nat.le_of_ble_eq_true rfl, Nat.le_of_ble_eq_true rfl⟩, Nat.le_of_ble_eq_true rfl, Nat.le_of_ble_eq_true rfl⟩ (Nat.le_of_ble_eq_true rfl) dX5_fallAsleep_15 ?_
    refine g_ifeq_b C (tgt := 104) dX5_fallAsleep_18 (by decide) (fun c18 => ?_) (fun c18 => ?_)
    · skip
      refine g_iinc C dX5_fallAsleep_104 rfl (nI_inc _) (by decide) rfl ?_
      refine g_goto C (tgt := 2) dX5_fallAsleep_107 (by decide) ?_
      exact G_forget 2 (G_cast ih2 (by simp only [lp, fa1]; (try first | rw [if_pos c18] | rw [if_neg c18] | rw [if_neg (show ¬ _ = true by rw [c18]; decide)]); try rfl) rfl rfl rfl)
    · skip
      refine g_aload_n C dX5_fallAsleep_21 rfl rfl ?_
      refine g_iload_n C dX5_fallAsleep_22 rfl rfl ?_
      refine g_iconst C (v := 1) dX5_fallAsleep_23 (by decide) ?_
      refine kX5_46 C (by decide) (tX5_part hl (i := i2) (show i2 < 8 by omega) (q := 1) (by decide) rfl) ⟨⟨Nat.le_of_ble_eq_true rfl, Nat.le_of_ble_eq_true rfl⟩, Nat.le_of_ble_eq_true rfl, Nat.le_of_ble_eq_true rfl⟩ (Nat.le_of_ble_eq_true rfl) dX5_fallAsleep_24 ?_
      refine g_iconst C (v := 1) dX5_fallAsleep_27 (by decide) ?_
      refine g_icmp_ne C (tgt := 35) dX5_fallAsleep_28 (by decide) (fun c28 => ?_) (fun c28 => ?_)
      · skip
        refine g_iconst C (v := 0) dX5_fallAsleep_35 (by decide) ?_
        refine g_istore_n C dX5_fallAsleep_36 rfl (by decide) rfl ?_
        refine g_aload_n C dX5_fallAsleep_37 rfl rfl ?_
        refine g_iload_n C dX5_fallAsleep_38 rfl rfl ?_
        refine g_bipush C (v := 7) dX5_fallAsleep_39 (by decide) ?_
        refine g_iconst C (v := 2) dX5_fallAsleep_41 (by decide) ?_
        refine kX5_68 C (by decide) (tX5_setPart hl (i := i2) (show i2 < 8 by omega) (q := 7) (by decide) rfl _) ⟨⟨Nat.le_of_ble_eq_true rfl, Nat.le_of_ble_eq_true rfl⟩, Nat.le_of_ble_eq_true rfl, Nat.le_of_ble_eq_true rfl⟩ (Nat.le_of_ble_eq_true rfl) dX5_fallAsleep_42 ?_
        refine g_aload_n C dX5_fallAsleep_45 rfl rfl ?_
        refine g_iload_n C dX5_fallAsleep_46 rfl rfl ?_
        refine g_iconst C (v := 5) dX5_fallAsleep_47 (by decide) ?_
        refine g_iload_n C dX5_fallAsleep_48 rfl rfl ?_
        refine g_if_eq C (tgt := 61) dX5_fallAsleep_49 (by decide) (fun _ => ?_) (fun c9 => absurd c9 (by decide))
        refine g_aload_n C dX5_fallAsleep_61 rfl rfl ?_
        refine g_iload_n C dX5_fallAsleep_62 rfl rfl ?_
        refine g_iconst C (v := 5) dX5_fallAsleep_63 (by decide) ?_
        refine kX5_46 C (by decide) (tX5_part hl (i := i2) (show i2 < 8 by omega) (q := 5) (by decide) rfl) ⟨⟨Nat.le_of_ble_eq_true rfl, Nat.le_of_ble_eq_true rfl⟩, Nat.le_of_ble_eq_true rfl, Nat.le_of_ble_eq_true rfl⟩ (Nat.le_of_ble_eq_true rfl) dX5_fallAsleep_64 ?_
        refine kX5_68 C (by decide) (tX5_setPart hl (i := i2) (show i2 < 8 by omega) (q := 5) (by decide) rfl _) ⟨⟨Nat.le_of_ble_eq_true rfl, Nat.le_of_ble_eq_true rfl⟩, Nat.le_of_ble_eq_true rfl, Nat.le_of_ble_eq_true rfl⟩ (Nat.le_of_ble_eq_true rfl) dX5_fallAsleep_67 ?_
        refine g_aload_n C dX5_fallAsleep_70 rfl rfl ?_
        refine gfX5_7 C (by decide) hl.mstate dX5_fallAsleep_71 ?_
        refine g_iconst C (v := 5) dX5_fallAsleep_74 (by decide) ?_
        refine g_dup2_11 C dX5_fallAsleep_75 rfl rfl ?_
        refine g_iald_j C (show ar NT 128 7 96 by decide) 5 rfl (by decide) (by decide) dX5_fallAsleep_76 ?_
        refine g_iload_n C dX5_fallAsleep_77 rfl rfl ?_
        refine g_if_ne C (tgt := 94) dX5_fallAsleep_78 (by decide) (fun c9 => absurd c9 (by decide)) (fun _ => ?_)
        refine g_aload_n C dX5_fallAsleep_81 rfl rfl ?_
        refine g_iload_n C dX5_fallAsleep_82 rfl rfl ?_
        refine g_iconst C (v := 4) dX5_fallAsleep_83 (by decide) ?_
        refine kX5_46 C (by decide) (tX5_part hl (i := i2) (show i2 < 8 by omega) (q := 4) (by decide) rfl) ⟨⟨Nat.le_of_ble_eq_true rfl, Nat.le_of_ble_eq_true rfl⟩, Nat.le_of_ble_eq_true rfl, Nat.le_of_ble_eq_true rfl⟩ (Nat.le_of_ble_eq_true rfl) dX5_fallAsleep_84 ?_
        refine g_if_le C (tgt := 94) dX5_fallAsleep_87 (by decide) (fun c87 => ?_) (fun c87 => ?_)
        · skip
          refine g_iconst C (v := 0) dX5_fallAsleep_94 (by decide) ?_
          refine g_iadd C dX5_fallAsleep_95 ?_
          refine g_iast_j C (show ar NT 128 7 96 by decide) 5 rfl (by decide) (by decide) dX5_fallAsleep_96 ?_
          refine g_aload_n C dX5_fallAsleep_97 rfl rfl ?_
          refine g_iload_n C dX5_fallAsleep_98 rfl rfl ?_
          refine g_iconst C (v := 4) dX5_fallAsleep_99 (by decide) ?_
          refine g_iconst C (v := 0) dX5_fallAsleep_100 (by decide) ?_
          refine kX5_68 C (by decide) (tX5_setPart hl (i := i2) (show i2 < 8 by omega) (q := 4) (by decide) rfl _) ⟨⟨Nat.le_of_ble_eq_true rfl, Nat.le_of_ble_eq_true rfl⟩, Nat.le_of_ble_eq_true rfl, Nat.le_of_ble_eq_true rfl⟩ (Nat.le_of_ble_eq_true rfl) dX5_fallAsleep_101 ?_
          refine g_iinc C dX5_fallAsleep_104 rfl (nI_inc _) (by decide) rfl ?_
          refine g_goto C (tgt := 2) dX5_fallAsleep_107 (by decide) ?_
          exact G_forget 2 (G_cast ih2 (by simp only [lp, fa1]; (try first | rw [if_pos c18] | rw [if_neg c18] | rw [if_neg (show ¬ _ = true by rw [c18]; decide)]); (try first | rw [if_pos c28] | rw [if_neg c28] | rw [if_neg (show ¬ _ = true by rw [c28]; decide)]); (try first | rw [if_pos c87] | rw [if_neg c87] | rw [if_neg (show ¬ _ = true by rw [c87]; decide)]); try rfl) rfl rfl rfl)
        · skip
          refine g_iconst C (v := 1) dX5_fallAsleep_90 (by decide) ?_
          refine g_goto C (tgt := 95) dX5_fallAsleep_91 (by decide) ?_
          refine g_iadd C dX5_fallAsleep_95 ?_
          refine g_iast_j C (show ar NT 128 7 96 by decide) 5 rfl (by decide) (by decide) dX5_fallAsleep_96 ?_
          refine g_aload_n C dX5_fallAsleep_97 rfl rfl ?_
          refine g_iload_n C dX5_fallAsleep_98 rfl rfl ?_
          refine g_iconst C (v := 4) dX5_fallAsleep_99 (by decide) ?_
          refine g_iconst C (v := 0) dX5_fallAsleep_100 (by decide) ?_
          refine kX5_68 C (by decide) (tX5_setPart hl (i := i2) (show i2 < 8 by omega) (q := 4) (by decide) rfl _) ⟨⟨Nat.le_of_ble_eq_true rfl, Nat.le_of_ble_eq_true rfl⟩, Nat.le_of_ble_eq_true rfl, Nat.le_of_ble_eq_true rfl⟩ (Nat.le_of_ble_eq_true rfl) dX5_fallAsleep_101 ?_
          refine g_iinc C dX5_fallAsleep_104 rfl (nI_inc _) (by decide) rfl ?_
          refine g_goto C (tgt := 2) dX5_fallAsleep_107 (by decide) ?_
          exact G_forget 2 (G_cast ih2 (by simp only [lp, fa1]; (try first | rw [if_pos c18] | rw [if_neg c18] | rw [if_neg (show ¬ _ = true by rw [c18]; decide)]); (try first | rw [if_pos c28] | rw [if_neg c28] | rw [if_neg (show ¬ _ = true by rw [c28]; decide)]); (try first | rw [if_pos c87] | rw [if_neg c87] | rw [if_neg (show ¬ _ = true by rw [c87]; decide)]); try rfl) rfl rfl rfl)
      · skip
        refine g_iconst C (v := 1) dX5_fallAsleep_31 (by decide) ?_
        refine g_goto C (tgt := 36) dX5_fallAsleep_32 (by decide) ?_
        refine g_istore_n C dX5_fallAsleep_36 rfl (by decide) rfl ?_
        refine g_aload_n C dX5_fallAsleep_37 rfl rfl ?_
        refine g_iload_n C dX5_fallAsleep_38 rfl rfl ?_
        refine g_bipush C (v := 7) dX5_fallAsleep_39 (by decide) ?_
        refine g_iconst C (v := 2) dX5_fallAsleep_41 (by decide) ?_
        refine kX5_68 C (by decide) (tX5_setPart hl (i := i2) (show i2 < 8 by omega) (q := 7) (by decide) rfl _) ⟨⟨Nat.le_of_ble_eq_true rfl, Nat.le_of_ble_eq_true rfl⟩, Nat.le_of_ble_eq_true rfl, Nat.le_of_ble_eq_true rfl⟩ (Nat.le_of_ble_eq_true rfl) dX5_fallAsleep_42 ?_
        refine g_aload_n C dX5_fallAsleep_45 rfl rfl ?_
        refine g_iload_n C dX5_fallAsleep_46 rfl rfl ?_
        refine g_iconst C (v := 5) dX5_fallAsleep_47 (by decide) ?_
        refine g_iload_n C dX5_fallAsleep_48 rfl rfl ?_
        refine g_if_eq C (tgt := 61) dX5_fallAsleep_49 (by decide) (fun c9 => absurd c9 (by decide)) (fun _ => ?_)
        refine g_aload_n C dX5_fallAsleep_52 rfl rfl ?_
        refine g_iload_n C dX5_fallAsleep_53 rfl rfl ?_
        refine g_iconst C (v := 4) dX5_fallAsleep_54 (by decide) ?_
        refine kX5_46 C (by decide) (tX5_part hl (i := i2) (show i2 < 8 by omega) (q := 4) (by decide) rfl) ⟨⟨Nat.le_of_ble_eq_true rfl, Nat.le_of_ble_eq_true rfl⟩, Nat.le_of_ble_eq_true rfl, Nat.le_of_ble_eq_true rfl⟩ (Nat.le_of_ble_eq_true rfl) dX5_fallAsleep_55 ?_
        refine g_goto C (tgt := 67) dX5_fallAsleep_58 (by decide) ?_
        refine kX5_68 C (by decide) (tX5_setPart hl (i := i2) (show i2 < 8 by omega) (q := 5) (by decide) rfl _) ⟨⟨Nat.le_of_ble_eq_true rfl, Nat.le_of_ble_eq_true rfl⟩, Nat.le_of_ble_eq_true rfl, Nat.le_of_ble_eq_true rfl⟩ (Nat.le_of_ble_eq_true rfl) dX5_fallAsleep_67 ?_
        refine g_aload_n C dX5_fallAsleep_70 rfl rfl ?_
        refine gfX5_7 C (by decide) hl.mstate dX5_fallAsleep_71 ?_
        refine g_iconst C (v := 5) dX5_fallAsleep_74 (by decide) ?_
        refine g_dup2_11 C dX5_fallAsleep_75 rfl rfl ?_
        refine g_iald_j C (show ar NT 128 7 96 by decide) 5 rfl (by decide) (by decide) dX5_fallAsleep_76 ?_
        refine g_iload_n C dX5_fallAsleep_77 rfl rfl ?_
        refine g_if_ne C (tgt := 94) dX5_fallAsleep_78 (by decide) (fun _ => ?_) (fun c9 => absurd c9 (by decide))
        refine g_iconst C (v := 0) dX5_fallAsleep_94 (by decide) ?_
        refine g_iadd C dX5_fallAsleep_95 ?_
        refine g_iast_j C (show ar NT 128 7 96 by decide) 5 rfl (by decide) (by decide) dX5_fallAsleep_96 ?_
        refine g_aload_n C dX5_fallAsleep_97 rfl rfl ?_
        refine g_iload_n C dX5_fallAsleep_98 rfl rfl ?_
        refine g_iconst C (v := 4) dX5_fallAsleep_99 (by decide) ?_
        refine g_iconst C (v := 0) dX5_fallAsleep_100 (by decide) ?_
        refine kX5_68 C (by decide) (tX5_setPart hl (i := i2) (show i2 < 8 by omega) (q := 4) (by decide) rfl _) ⟨⟨Nat.le_of_ble_eq_true rfl, Nat.le_of_ble_eq_true rfl⟩, Nat.le_of_ble_eq_true rfl, Nat.le_of_ble_eq_true rfl⟩ (Nat.le_of_ble_eq_true rfl) dX5_fallAsleep_101 ?_
        refine g_iinc C dX5_fallAsleep_104 rfl (nI_inc _) (by decide) rfl ?_
        refine g_goto C (tgt := 2) dX5_fallAsleep_107 (by decide) ?_
        exact G_forget 2 (G_cast ih2 (by simp only [lp, fa1]; (try first | rw [if_pos c18] | rw [if_neg c18] | rw [if_neg (show ¬ _ = true by rw [c18]; decide)]); (try first | rw [if_pos c28] | rw [if_neg c28] | rw [if_neg (show ¬ _ = true by rw [c28]; decide)]); try rfl) rfl rfl rfl)
  · skip
    refine g_iload_n C dX5_fallAsleep_2 rfl rfl ?_
    refine g_aload_n C dX5_fallAsleep_3 rfl rfl ?_
    refine gfX5_7 C (by decide) hl.mstate dX5_fallAsleep_4 ?_
    refine g_iconst C (v := 2) dX5_fallAsleep_7 (by decide) ?_
    refine g_iald_j C (show ar NT 128 7 96 by decide) 2 rfl (by decide) (by decide) dX5_fallAsleep_8 ?_
    refine g_icmp_ge C (tgt := 110) dX5_fallAsleep_9 (by decide) (fun _ => ?_) (fun c9 => absurd (nI_lee (by rw [lp_fix2 (fun i J => fa1_lo (by decide) (by decide))]; exact hn)) c9)
    exact g_vret C hr dX5_fallAsleep_110 ⟨rfl, rfl, rfl⟩

set_option maxRecDepth 100000 in
set_option maxHeartbeats 800000 in
theorem tX5_riseOn {l : Launch} {E : EE} {I : Mi} {F : Mr} (hl : LY F) {n : Nat} (hn8 : n ≤ 8) (hn : I 128 2 = nI n)  : CtF l E mX5_riseOn [rf E 127] NT I F NT none (riM I n) F := by
  refine CtF_of [some (rf E 127), none] (by decide) rfl (Nat.le_of_ble_eq_true rfl) rfl (fun p e s m args below meth c C hr hname => ?_)
  refine g_iconst C (v := 0) dX5_riseOn_0 (by decide) ?_
  refine g_istore_n C dX5_riseOn_1 rfl (by decide) rfl ?_
  refine G_loop (n := n) (fun i => [some (rf E 127), some (.int (nI i))]) (fun i => lp ri1 i I) (fun _ => F) rfl rfl rfl ?_ ?_
  · intro i2 hi2 ih2
    refine g_iload_n C dX5_riseOn_2 rfl rfl ?_
    refine g_aload_n C dX5_riseOn_3 rfl rfl ?_
    refine gfX5_7 C (by decide) hl.mstate dX5_riseOn_4 ?_
    refine g_iconst C (v := 2) dX5_riseOn_7 (by decide) ?_
    refine g_iald_j C (show ar NT 128 7 96 by decide) 2 rfl (by decide) (by decide) dX5_riseOn_8 ?_
    refine g_icmp_ge C (tgt := 92) dX5_riseOn_9 (by decide) (fun c9 => absurd c9 (nI_nge (by rw [lp_fix2 (fun i J => ri1_lo (by decide))]; exact hn) hi2 (by omega))) (fun _ => ?_)
    refine g_aload_n C dX5_riseOn_12 rfl rfl ?_
    refine g_iload_n C dX5_riseOn_13 rfl rfl ?_
    refine g_iconst C (v := 4) dX5_riseOn_14 (by decide) ?_
    refine kX5_50 C (by decide) (tX5_is hl (i := i2) (show i2 < 8 by omega) _) ⟨⟨Nat.le_of_ble_eq_true rfl, Nat.le_of_ble_eq_true rfl⟩, Nat.le_of_ble_eq_true rfl, Nat.le_of_ble_eq_true rfl⟩ (Nat.le_of_ble_eq_true rfl) dX5_riseOn_15 ?_
    refine g_ifeq_b C (tgt := 86) dX5_riseOn_18 (by decide) (fun c18 => ?_) (fun c18 => ?_)
    · skip
      refine g_iinc C dX5_riseOn_86 rfl (nI_inc _) (by decide) rfl ?_
      refine g_goto C (tgt := 2) dX5_riseOn_89 (by decide) ?_
      exact G_cast ih2 (by simp only [lp, ri1]; (try first | rw [if_pos c18] | rw [if_neg c18] | rw [if_neg (show ¬ _ = true by rw [c18]; decide)]); try rfl) rfl rfl rfl
    · skip
      refine g_aload_n C dX5_riseOn_21 rfl rfl ?_
      refine g_iload_n C dX5_riseOn_22 rfl rfl ?_
      refine g_bipush C (v := 8) dX5_riseOn_23 (by decide) ?_
      refine g_aload_n C dX5_riseOn_25 rfl rfl ?_
      refine g_iload_n C dX5_riseOn_26 rfl rfl ?_
      refine g_bipush C (v := 8) dX5_riseOn_27 (by decide) ?_
      refine kX5_46 C (by decide) (tX5_part hl (i := i2) (show i2 < 8 by omega) (q := 8) (by decide) rfl) ⟨⟨Nat.le_of_ble_eq_true rfl, Nat.le_of_ble_eq_true rfl⟩, Nat.le_of_ble_eq_true rfl, Nat.le_of_ble_eq_true rfl⟩ (Nat.le_of_ble_eq_true rfl) dX5_riseOn_29 ?_
      refine g_iconst C (v := 1) dX5_riseOn_32 (by decide) ?_
      refine g_isub C dX5_riseOn_33 ?_
      refine kX5_68 C (by decide) (tX5_setPart hl (i := i2) (show i2 < 8 by omega) (q := 8) (by decide) rfl _) ⟨⟨Nat.le_of_ble_eq_true rfl, Nat.le_of_ble_eq_true rfl⟩, Nat.le_of_ble_eq_true rfl, Nat.le_of_ble_eq_true rfl⟩ (Nat.le_of_ble_eq_true rfl) dX5_riseOn_34 ?_
      refine g_aload_n C dX5_riseOn_37 rfl rfl ?_
      refine g_iload_n C dX5_riseOn_38 rfl rfl ?_
      refine g_bipush C (v := 8) dX5_riseOn_39 (by decide) ?_
      refine kX5_46 C (by decide) (tX5_part hl (i := i2) (show i2 < 8 by omega) (q := 8) (by decide) rfl) ⟨⟨Nat.le_of_ble_eq_true rfl, Nat.le_of_ble_eq_true rfl⟩, Nat.le_of_ble_eq_true rfl, Nat.le_of_ble_eq_true rfl⟩ (Nat.le_of_ble_eq_true rfl) dX5_riseOn_41 ?_
      refine g_if_ne C (tgt := 86) dX5_riseOn_44 (by decide) (fun c44 => ?_) (fun c44 => ?_)
      · skip
        refine g_iinc C dX5_riseOn_86 rfl (nI_inc _) (by decide) rfl ?_
        refine g_goto C (tgt := 2) dX5_riseOn_89 (by decide) ?_
        exact G_cast ih2 (by simp only [lp, ri1]; (try first | rw [if_pos c18] | rw [if_neg c18] | rw [if_neg (show ¬ _ = true by rw [c18]; decide)]); (try first | rw [if_pos c44] | rw [if_neg c44] | rw [if_neg (show ¬ _ = true by rw [c44]; decide)]); try rfl) rfl rfl rfl
      · skip
        refine g_aload_n C dX5_riseOn_47 rfl rfl ?_
        refine g_iload_n C dX5_riseOn_48 rfl rfl ?_
        refine g_bipush C (v := 7) dX5_riseOn_49 (by decide) ?_
        refine g_iconst C (v := 0) dX5_riseOn_51 (by decide) ?_
        refine kX5_68 C (by decide) (tX5_setPart hl (i := i2) (show i2 < 8 by omega) (q := 7) (by decide) rfl _) ⟨⟨Nat.le_of_ble_eq_true rfl, Nat.le_of_ble_eq_true rfl⟩, Nat.le_of_ble_eq_true rfl, Nat.le_of_ble_eq_true rfl⟩ (Nat.le_of_ble_eq_true rfl) dX5_riseOn_52 ?_
        refine g_aload_n C dX5_riseOn_55 rfl rfl ?_
        refine g_iload_n C dX5_riseOn_56 rfl rfl ?_
        refine g_iconst C (v := 4) dX5_riseOn_57 (by decide) ?_
        refine g_aload_n C dX5_riseOn_58 rfl rfl ?_
        refine g_iload_n C dX5_riseOn_59 rfl rfl ?_
        refine g_iconst C (v := 1) dX5_riseOn_60 (by decide) ?_
        refine kX5_46 C (by decide) (tX5_part hl (i := i2) (show i2 < 8 by omega) (q := 1) (by decide) rfl) ⟨⟨Nat.le_of_ble_eq_true rfl, Nat.le_of_ble_eq_true rfl⟩, Nat.le_of_ble_eq_true rfl, Nat.le_of_ble_eq_true rfl⟩ (Nat.le_of_ble_eq_true rfl) dX5_riseOn_61 ?_
        refine g_iconst C (v := 1) dX5_riseOn_64 (by decide) ?_
        refine g_icmp_ne C (tgt := 77) dX5_riseOn_65 (by decide) (fun c65 => ?_) (fun c65 => ?_)
        · skip
          refine g_aload_n C dX5_riseOn_77 rfl rfl ?_
          refine g_iload_n C dX5_riseOn_78 rfl rfl ?_
          refine g_iconst C (v := 4) dX5_riseOn_79 (by decide) ?_
          refine kX5_46 C (by decide) (tX5_part hl (i := i2) (show i2 < 8 by omega) (q := 4) (by decide) rfl) ⟨⟨Nat.le_of_ble_eq_true rfl, Nat.le_of_ble_eq_true rfl⟩, Nat.le_of_ble_eq_true rfl, Nat.le_of_ble_eq_true rfl⟩ (Nat.le_of_ble_eq_true rfl) dX5_riseOn_80 ?_
          refine kX5_68 C (by decide) (tX5_setPart hl (i := i2) (show i2 < 8 by omega) (q := 4) (by decide) rfl _) ⟨⟨Nat.le_of_ble_eq_true rfl, Nat.le_of_ble_eq_true rfl⟩, Nat.le_of_ble_eq_true rfl, Nat.le_of_ble_eq_true rfl⟩ (Nat.le_of_ble_eq_true rfl) dX5_riseOn_83 ?_
          refine g_iinc C dX5_riseOn_86 rfl (nI_inc _) (by decide) rfl ?_
          refine g_goto C (tgt := 2) dX5_riseOn_89 (by decide) ?_
          exact G_cast ih2 (by simp only [lp, ri1]; (try first | rw [if_pos c18] | rw [if_neg c18] | rw [if_neg (show ¬ _ = true by rw [c18]; decide)]); (try first | rw [if_pos c44] | rw [if_neg c44] | rw [if_neg (show ¬ _ = true by rw [c44]; decide)]); (try first | rw [if_pos c65] | rw [if_neg c65] | rw [if_neg (show ¬ _ = true by rw [c65]; decide)]); try rfl) rfl rfl rfl
        · skip
          refine g_aload_n C dX5_riseOn_68 rfl rfl ?_
          refine g_iload_n C dX5_riseOn_69 rfl rfl ?_
          refine g_iconst C (v := 5) dX5_riseOn_70 (by decide) ?_
          refine kX5_46 C (by decide) (tX5_part hl (i := i2) (show i2 < 8 by omega) (q := 5) (by decide) rfl) ⟨⟨Nat.le_of_ble_eq_true rfl, Nat.le_of_ble_eq_true rfl⟩, Nat.le_of_ble_eq_true rfl, Nat.le_of_ble_eq_true rfl⟩ (Nat.le_of_ble_eq_true rfl) dX5_riseOn_71 ?_
          refine g_goto C (tgt := 83) dX5_riseOn_74 (by decide) ?_
          refine kX5_68 C (by decide) (tX5_setPart hl (i := i2) (show i2 < 8 by omega) (q := 4) (by decide) rfl _) ⟨⟨Nat.le_of_ble_eq_true rfl, Nat.le_of_ble_eq_true rfl⟩, Nat.le_of_ble_eq_true rfl, Nat.le_of_ble_eq_true rfl⟩ (Nat.le_of_ble_eq_true rfl) dX5_riseOn_83 ?_
          refine g_iinc C dX5_riseOn_86 rfl (nI_inc _) (by decide) rfl ?_
          refine g_goto C (tgt := 2) dX5_riseOn_89 (by decide) ?_
          exact G_cast ih2 (by simp only [lp, ri1]; (try first | rw [if_pos c18] | rw [if_neg c18] | rw [if_neg (show ¬ _ = true by rw [c18]; decide)]); (try first | rw [if_pos c44] | rw [if_neg c44] | rw [if_neg (show ¬ _ = true by rw [c44]; decide)]); (try first | rw [if_pos c65] | rw [if_neg c65] | rw [if_neg (show ¬ _ = true by rw [c65]; decide)]); try rfl) rfl rfl rfl
  · skip
    refine g_iload_n C dX5_riseOn_2 rfl rfl ?_
    refine g_aload_n C dX5_riseOn_3 rfl rfl ?_
    refine gfX5_7 C (by decide) hl.mstate dX5_riseOn_4 ?_
    refine g_iconst C (v := 2) dX5_riseOn_7 (by decide) ?_
    refine g_iald_j C (show ar NT 128 7 96 by decide) 2 rfl (by decide) (by decide) dX5_riseOn_8 ?_
    refine g_icmp_ge C (tgt := 92) dX5_riseOn_9 (by decide) (fun _ => ?_) (fun c9 => absurd (nI_lee (by rw [lp_fix2 (fun i J => ri1_lo (by decide))]; exact hn)) c9)
    exact g_vret C hr dX5_riseOn_92 ⟨rfl, rfl, rfl⟩

