set_option maxRecDepth 100000 in
set_option maxHeartbeats 800000 in
theorem tX5_areAllAwake {l : Launch} {E : EE} {I : Mi} {F : Mr} (hl : LY F) {n : Nat} (hn8 : n ≤ 8) (hn : I 128 2 = nI n)  : CtF l E mX5_areAllAwake [rf E 127] NT I F NT (some (.int (bi (allM I n)))) I F := by
  refine CtF_of [some (rf E 127)] (by decide) rfl (Nat.le_of_ble_eq_true rfl) rfl (fun p e s m args below meth c C hr hname => ?_)
  refine g_aload_n C dX5_areAllAwake_0 rfl rfl ?_
  refine g_iconst C (v := 0) dX5_areAllAwake_1 (by decide) ?_
  refine kX5_65 C (by decide) (tX5_setOf hl hn8 hn _) ⟨⟨Nat.le_of_ble_eq_true rfl, Nat.le_of_ble_eq_true rfl⟩, Nat.le_of_ble_eq_true rfl, Nat.le_of_ble_eq_true rfl⟩ (Nat.le_of_ble_eq_true rfl) dX5_areAllAwake_2 ?_
  refine g_iconst C (v := 1) dX5_areAllAwake_5 (by decide) ?_
  refine g_aload_n C dX5_areAllAwake_6 rfl rfl ?_
  refine gfX5_7 C (by decide) hl.mstate dX5_areAllAwake_7 ?_
  refine g_iconst C (v := 2) dX5_areAllAwake_10 (by decide) ?_
  refine g_iald_j C (show ar NT 128 7 96 by decide) 2 rfl (by decide) (by decide) dX5_areAllAwake_11 ?_
  rw [hn]
  refine g_ishl C dX5_areAllAwake_12 ?_
  refine g_iconst C (v := 1) dX5_areAllAwake_13 (by decide) ?_
  refine g_isub C dX5_areAllAwake_14 ?_
  refine g_icmp_ne_j C (off := 7) (off2 := 4) dX5_areAllAwake_15 dX5_areAllAwake_18 dX5_areAllAwake_19 dX5_areAllAwake_22 ?_
  exact g_zret_b C hr dX5_areAllAwake_23 ⟨rfl, rfl, rfl⟩

set_option maxRecDepth 100000 in
set_option maxHeartbeats 800000 in
theorem tX5_allAwakeWith {l : Launch} {E : EE} {I : Mi} {F : Mr} (hl : LY F) {n : Nat} (hn8 : n ≤ 8) (hn : I 128 2 = nI n) {w : Nat} (hw8 : w ≤ 8) (hw : I 128 7 = nI w) (cur : Int32) (hA : AWok I cur n)  : CtF l E mX5_allAwakeWith [rf E 127, .int cur] NT I F NT (some (.int (yAa I cur n).1)) ((yAa I cur n).2) F := by
  have e128 : ∀ y, y < 8 → y ≠ 0 → aw1 I cur 128 y = I 128 y := fun y _ h0 => by unfold aw1; rw [up_j h0, mvM_ne (by decide)]
  have h2 : aw1 I cur 128 2 = nI n := by rw [e128 2 (by decide) (by decide)]; exact hn
  have h7 : aw1 I cur 128 7 = nI w := by rw [e128 7 (by decide) (by decide)]; exact hw
  refine CtF_of [some (rf E 127), some (.int cur), none, none] (by decide) rfl (Nat.le_of_ble_eq_true rfl) rfl (fun p e s m args below meth c C hr hname => ?_)
  refine g_aload_n C dX5_allAwakeWith_0 rfl rfl ?_
  refine gfX5_7 C (by decide) hl.mstate dX5_allAwakeWith_1 ?_
  refine g_iconst C (v := 0) dX5_allAwakeWith_4 (by decide) ?_
  refine g_aload_n C dX5_allAwakeWith_5 rfl rfl ?_
  refine gfX5_13 C (by decide) hl.mkept dX5_allAwakeWith_6 ?_
  refine g_iconst C (v := 0) dX5_allAwakeWith_9 (by decide) ?_
  refine kX5_38 C (by decide) (tX5_moves (f := 0) (t := 0) (show ar NT 128 7 96 by decide) (show ar NT 129 7 96 by decide) (by omega) (by omega) (by decide)) ⟨⟨Nat.le_of_ble_eq_true rfl, Nat.le_of_ble_eq_true rfl⟩, Nat.le_of_ble_eq_true rfl, Nat.le_of_ble_eq_true rfl⟩ (Nat.le_of_ble_eq_true rfl) dX5_allAwakeWith_10 ?_
  refine g_aload_n C dX5_allAwakeWith_13 rfl rfl ?_
  refine gfX5_7 C (by decide) hl.mstate dX5_allAwakeWith_14 ?_
  refine g_iconst C (v := 0) dX5_allAwakeWith_17 (by decide) ?_
  refine g_iload_n C dX5_allAwakeWith_18 rfl rfl ?_
  refine g_iast_j C (show ar NT 128 7 96 by decide) 0 rfl (by decide) (by decide) dX5_allAwakeWith_19 ?_
  refine g_iconst C (v := 0) dX5_allAwakeWith_20 (by decide) ?_
  refine g_istore_n C dX5_allAwakeWith_21 rfl (by decide) rfl ?_
  refine G_loopI (n := n) (fun i => [some (rf E 127), some (.int cur), some (.int (nI i)), none]) (fun i => lp awB i (aw1 I cur)) (fun _ => F) (fun i => ∃ v, v ≤ w + i ∧ lp awB i (aw1 I cur) 128 7 = nI v) rfl rfl rfl ⟨w, by omega, h7⟩ ?_ ?_
  · intro i22 hi22 hv22 ih22
    have hnJ : lp awB i22 (aw1 I cur) 128 2 = nI n := by rw [lp_fix2 (fun i J => awB_lo (by decide))]; exact h2
    have hv22k := hv22
    obtain ⟨v2, hv2a, hv2b⟩ := hv22
    have hix : ix (lp awB i22 (aw1 I cur) 128 7) = v2 := by rw [hv2b]; exact nI_clamp (by omega)
    refine g_iload_n C dX5_allAwakeWith_22 rfl rfl ?_
    refine g_aload_n C dX5_allAwakeWith_23 rfl rfl ?_
    refine gfX5_7 C (by decide) hl.mstate dX5_allAwakeWith_24 ?_
    refine g_iconst C (v := 2) dX5_allAwakeWith_27 (by decide) ?_
    refine g_iald_j C (show ar NT 128 7 96 by decide) 2 rfl (by decide) (by decide) dX5_allAwakeWith_28 ?_
    refine g_icmp_ge C (tgt := 52) dX5_allAwakeWith_29 (by decide) (fun c29 => absurd c29 (nI_nge hnJ hi22 (by omega))) (fun _ => ?_)
    refine g_aload_n C dX5_allAwakeWith_32 rfl rfl ?_
    refine g_iload_n C dX5_allAwakeWith_33 rfl rfl ?_
    refine g_iconst C (v := 2) dX5_allAwakeWith_34 (by decide) ?_
    refine kX5_50 C (by decide) (tX5_is hl (i := i22) (show i22 < 8 by omega) _) ⟨⟨Nat.le_of_ble_eq_true rfl, Nat.le_of_ble_eq_true rfl⟩, Nat.le_of_ble_eq_true rfl, Nat.le_of_ble_eq_true rfl⟩ (Nat.le_of_ble_eq_true rfl) dX5_allAwakeWith_35 ?_
    refine g_ifeq_b C (tgt := 46) dX5_allAwakeWith_38 (by decide) (fun c38 => ?_) (fun c38 => ?_)
    · skip
      refine g_iinc C dX5_allAwakeWith_46 rfl (nI_inc _) (by decide) rfl ?_
      refine g_goto C (tgt := 22) dX5_allAwakeWith_49 (by decide) ?_
      exact G_cast (ih22 (awB_inv hv22k (by omega))) (by rw [lp]; generalize lp awB i22 (aw1 I cur) = J9 at *; unfold awB; (try first | rw [if_pos c38] | rw [if_neg c38] | rw [if_neg (show ¬ _ = true by rw [c38]; decide)]); try rw [hix]; try rfl) rfl rfl rfl
    · skip
      refine g_aload_n C dX5_allAwakeWith_41 rfl rfl ?_
      refine g_iload_n C dX5_allAwakeWith_42 rfl rfl ?_
      refine kX5_78 C (by decide) (tX5_waitsNow hl (i := i22) (show i22 < 8 by omega) (w := v2) (by omega) hv2b) ⟨⟨Nat.le_of_ble_eq_true rfl, Nat.le_of_ble_eq_true rfl⟩, Nat.le_of_ble_eq_true rfl, Nat.le_of_ble_eq_true rfl⟩ (Nat.le_of_ble_eq_true rfl) dX5_allAwakeWith_43 ?_
      refine g_iinc C dX5_allAwakeWith_46 rfl (nI_inc _) (by decide) rfl ?_
      refine g_goto C (tgt := 22) dX5_allAwakeWith_49 (by decide) ?_
      exact G_cast (ih22 (awB_inv hv22k (by omega))) (by rw [lp]; generalize lp awB i22 (aw1 I cur) = J9 at *; unfold awB; (try first | rw [if_pos c38] | rw [if_neg c38] | rw [if_neg (show ¬ _ = true by rw [c38]; decide)]); try rw [hix]; try rfl) rfl rfl rfl
  · intro hv22
    have hnJ : lp awB n (aw1 I cur) 128 2 = nI n := by rw [lp_fix2 (fun i J => awB_lo (by decide))]; exact h2
    refine g_iload_n C dX5_allAwakeWith_22 rfl rfl ?_
    refine g_aload_n C dX5_allAwakeWith_23 rfl rfl ?_
    refine gfX5_7 C (by decide) hl.mstate dX5_allAwakeWith_24 ?_
    refine g_iconst C (v := 2) dX5_allAwakeWith_27 (by decide) ?_
    refine g_iald_j C (show ar NT 128 7 96 by decide) 2 rfl (by decide) (by decide) dX5_allAwakeWith_28 ?_
    refine g_icmp_ge C (tgt := 52) dX5_allAwakeWith_29 (by decide) (fun _ => ?_) (fun c29 => absurd (nI_lee hnJ) c29)
    refine g_iconst C (v := 0) dX5_allAwakeWith_52 (by decide) ?_
    refine g_istore_n C dX5_allAwakeWith_53 rfl (by decide) rfl ?_
    refine G_loopI (n := 200) (fun i => [some (rf E 127), some (.int cur), some (.int (nI i)), none]) (fun i => psM (aw0 I cur n) i) (fun _ => F) (fun i => aaR n (200 - i) i (psM (aw0 I cur n) i) = aaR n 200 0 (aw0 I cur n)) rfl (psM_0 _).symm rfl (by rw [Nat.sub_zero, psM_0]) ?_ ?_
    · intro i54 hi54 hv54 ih54
      rw [show 200 - i54 = (199 - i54) + 1 by omega, aaR] at hv54
      refine g_aload_n C dX5_allAwakeWith_54 rfl rfl ?_
      refine kX5_162 C (by decide) (tX5_areAllAwake hl hn8 (hA.2 _ (by omega))) ⟨⟨Nat.le_of_ble_eq_true rfl, Nat.le_of_ble_eq_true rfl⟩, Nat.le_of_ble_eq_true rfl, Nat.le_of_ble_eq_true rfl⟩ (Nat.le_of_ble_eq_true rfl) dX5_allAwakeWith_55 ?_
      refine g_ifne_b C (tgt := 78) dX5_allAwakeWith_58 (by decide) (fun c58 => ?_) (fun c58 => ?_)
      · skip
        refine g_aload_n C dX5_allAwakeWith_78 rfl rfl ?_
        refine kX5_162 C (by decide) (tX5_areAllAwake hl hn8 (hA.2 _ (by omega))) ⟨⟨Nat.le_of_ble_eq_true rfl, Nat.le_of_ble_eq_true rfl⟩, Nat.le_of_ble_eq_true rfl, Nat.le_of_ble_eq_true rfl⟩ (Nat.le_of_ble_eq_true rfl) dX5_allAwakeWith_79 ?_
        refine g_ifeq_b C (tgt := 89) dX5_allAwakeWith_82 (by decide) (fun c82 => (bt_f c58 c82).elim) (fun _ => ?_)
        refine g_iload_n C dX5_allAwakeWith_85 rfl rfl ?_
        refine g_goto C (tgt := 91) dX5_allAwakeWith_86 (by decide) ?_
        refine g_istore_n C dX5_allAwakeWith_91 rfl (by decide) rfl ?_
        refine g_aload_n C dX5_allAwakeWith_92 rfl rfl ?_
        refine gfX5_13 C (by decide) hl.mkept dX5_allAwakeWith_93 ?_
        refine g_iconst C (v := 0) dX5_allAwakeWith_96 (by decide) ?_
        refine g_aload_n C dX5_allAwakeWith_97 rfl rfl ?_
        refine gfX5_7 C (by decide) hl.mstate dX5_allAwakeWith_98 ?_
        refine g_iconst C (v := 0) dX5_allAwakeWith_101 (by decide) ?_
        refine kX5_38 C (by decide) (tX5_moves (f := 0) (t := 0) (show ar NT 129 7 96 by decide) (show ar NT 128 7 96 by decide) (by omega) (by omega) (by decide)) ⟨⟨Nat.le_of_ble_eq_true rfl, Nat.le_of_ble_eq_true rfl⟩, Nat.le_of_ble_eq_true rfl, Nat.le_of_ble_eq_true rfl⟩ (Nat.le_of_ble_eq_true rfl) dX5_allAwakeWith_102 ?_
        refine g_iload_n C dX5_allAwakeWith_105 rfl rfl ?_
        exact g_iret C hr dX5_allAwakeWith_106 ⟨by unfold yAa; rw [← hv54]; (try first | rw [if_pos c58] | rw [if_neg c58] | rw [if_neg (show ¬ _ = true by rw [c58]; decide)]), by unfold yAa; rw [← hv54]; (try first | rw [if_pos c58] | rw [if_neg c58] | rw [if_neg (show ¬ _ = true by rw [c58]; decide)]), rfl⟩
      · skip
        refine g_iload_n C dX5_allAwakeWith_61 rfl rfl ?_
        refine g_sipush C (v := 200) dX5_allAwakeWith_62 (by decide) ?_
        refine g_icmp_ge C (tgt := 78) dX5_allAwakeWith_65 (by decide) (fun c65 => absurd c65 (nI_nge rfl hi54 (by decide))) (fun _ => ?_)
        refine g_aload_n C dX5_allAwakeWith_68 rfl rfl ?_
        refine kX5_101 C (by decide) (tX5_tick hl (hA.1 _ hi54)) ⟨⟨Nat.le_of_ble_eq_true rfl, Nat.le_of_ble_eq_true rfl⟩, Nat.le_of_ble_eq_true rfl, Nat.le_of_ble_eq_true rfl⟩ (Nat.le_of_ble_eq_true rfl) dX5_allAwakeWith_69 ?_
        refine g_iinc C dX5_allAwakeWith_72 rfl (nI_inc _) (by decide) rfl ?_
        refine g_goto C (tgt := 54) dX5_allAwakeWith_75 (by decide) ?_
        exact G_cast (ih54 (by rw [show 200 - (i54 + 1) = 199 - i54 by omega, psM_s, ← hv54]; (try first | rw [if_pos c58] | rw [if_neg c58] | rw [if_neg (show ¬ _ = true by rw [c58]; decide)]))) (psM_s _ _).symm rfl rfl rfl
    · intro hv54
      rw [Nat.sub_self, aaR] at hv54
      refine g_aload_n C dX5_allAwakeWith_54 rfl rfl ?_
      refine kX5_162 C (by decide) (tX5_areAllAwake hl hn8 (hA.2 _ (by omega))) ⟨⟨Nat.le_of_ble_eq_true rfl, Nat.le_of_ble_eq_true rfl⟩, Nat.le_of_ble_eq_true rfl, Nat.le_of_ble_eq_true rfl⟩ (Nat.le_of_ble_eq_true rfl) dX5_allAwakeWith_55 ?_
      refine g_ifne_b C (tgt := 78) dX5_allAwakeWith_58 (by decide) (fun c58 => ?_) (fun c58 => ?_)
      · skip
        refine g_aload_n C dX5_allAwakeWith_78 rfl rfl ?_
        refine kX5_162 C (by decide) (tX5_areAllAwake hl hn8 (hA.2 _ (by omega))) ⟨⟨Nat.le_of_ble_eq_true rfl, Nat.le_of_ble_eq_true rfl⟩, Nat.le_of_ble_eq_true rfl, Nat.le_of_ble_eq_true rfl⟩ (Nat.le_of_ble_eq_true rfl) dX5_allAwakeWith_79 ?_
        refine g_ifeq_b C (tgt := 89) dX5_allAwakeWith_82 (by decide) (fun c82 => (bt_f c58 c82).elim) (fun _ => ?_)
        refine g_iload_n C dX5_allAwakeWith_85 rfl rfl ?_
        refine g_goto C (tgt := 91) dX5_allAwakeWith_86 (by decide) ?_
        refine g_istore_n C dX5_allAwakeWith_91 rfl (by decide) rfl ?_
        refine g_aload_n C dX5_allAwakeWith_92 rfl rfl ?_
        refine gfX5_13 C (by decide) hl.mkept dX5_allAwakeWith_93 ?_
        refine g_iconst C (v := 0) dX5_allAwakeWith_96 (by decide) ?_
        refine g_aload_n C dX5_allAwakeWith_97 rfl rfl ?_
        refine gfX5_7 C (by decide) hl.mstate dX5_allAwakeWith_98 ?_
        refine g_iconst C (v := 0) dX5_allAwakeWith_101 (by decide) ?_
        refine kX5_38 C (by decide) (tX5_moves (f := 0) (t := 0) (show ar NT 129 7 96 by decide) (show ar NT 128 7 96 by decide) (by omega) (by omega) (by decide)) ⟨⟨Nat.le_of_ble_eq_true rfl, Nat.le_of_ble_eq_true rfl⟩, Nat.le_of_ble_eq_true rfl, Nat.le_of_ble_eq_true rfl⟩ (Nat.le_of_ble_eq_true rfl) dX5_allAwakeWith_102 ?_
        refine g_iload_n C dX5_allAwakeWith_105 rfl rfl ?_
        exact g_iret C hr dX5_allAwakeWith_106 ⟨by unfold yAa; rw [← hv54]; (try first | rw [if_pos c58] | rw [if_neg c58] | rw [if_neg (show ¬ _ = true by rw [c58]; decide)]), by unfold yAa; rw [← hv54]; (try first | rw [if_pos c58] | rw [if_neg c58] | rw [if_neg (show ¬ _ = true by rw [c58]; decide)]), rfl⟩
      · skip
        refine g_iload_n C dX5_allAwakeWith_61 rfl rfl ?_
        refine g_sipush C (v := 200) dX5_allAwakeWith_62 (by decide) ?_
        refine g_icmp_ge C (tgt := 78) dX5_allAwakeWith_65 (by decide) (fun _ => ?_) (fun c65 => absurd (nI_lee (n := 200) rfl) c65)
        refine g_aload_n C dX5_allAwakeWith_78 rfl rfl ?_
        refine kX5_162 C (by decide) (tX5_areAllAwake hl hn8 (hA.2 _ (by omega))) ⟨⟨Nat.le_of_ble_eq_true rfl, Nat.le_of_ble_eq_true rfl⟩, Nat.le_of_ble_eq_true rfl, Nat.le_of_ble_eq_true rfl⟩ (Nat.le_of_ble_eq_true rfl) dX5_allAwakeWith_79 ?_
        refine g_ifeq_b C (tgt := 89) dX5_allAwakeWith_82 (by decide) (fun c82 => ?_) (fun c82 => (bt_f c82 c58).elim)
        refine g_bipush C (v := (-6)) dX5_allAwakeWith_89 (by decide) ?_
        refine g_istore_n C dX5_allAwakeWith_91 rfl (by decide) rfl ?_
        refine g_aload_n C dX5_allAwakeWith_92 rfl rfl ?_
        refine gfX5_13 C (by decide) hl.mkept dX5_allAwakeWith_93 ?_
        refine g_iconst C (v := 0) dX5_allAwakeWith_96 (by decide) ?_
        refine g_aload_n C dX5_allAwakeWith_97 rfl rfl ?_
        refine gfX5_7 C (by decide) hl.mstate dX5_allAwakeWith_98 ?_
        refine g_iconst C (v := 0) dX5_allAwakeWith_101 (by decide) ?_
        refine kX5_38 C (by decide) (tX5_moves (f := 0) (t := 0) (show ar NT 129 7 96 by decide) (show ar NT 128 7 96 by decide) (by omega) (by omega) (by decide)) ⟨⟨Nat.le_of_ble_eq_true rfl, Nat.le_of_ble_eq_true rfl⟩, Nat.le_of_ble_eq_true rfl, Nat.le_of_ble_eq_true rfl⟩ (Nat.le_of_ble_eq_true rfl) dX5_allAwakeWith_102 ?_
        refine g_iload_n C dX5_allAwakeWith_105 rfl rfl ?_
        exact g_iret C hr dX5_allAwakeWith_106 ⟨by unfold yAa; rw [← hv54]; (try first | rw [if_pos c58] | rw [if_neg c58] | rw [if_neg (show ¬ _ = true by rw [c58]; decide)]); (try first | rw [if_pos c82] | rw [if_neg c82] | rw [if_neg (show ¬ _ = true by rw [c82]; decide)]), by unfold yAa; rw [← hv54]; (try first | rw [if_pos c58] | rw [if_neg c58] | rw [if_neg (show ¬ _ = true by rw [c58]; decide)]); (try first | rw [if_pos c82] | rw [if_neg c82] | rw [if_neg (show ¬ _ = true by rw [c82]; decide)]), rfl⟩

