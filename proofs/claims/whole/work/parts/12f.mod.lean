set_option maxRecDepth 100000 in
set_option maxHeartbeats 800000 in
theorem tX5_allAwake {l : Launch} {E : EE} {I : Mi} {F : Mr} (hl : LY F) {n : Nat} (hn8 : n ≤ 8) (hn : I 128 2 = nI n) {w : Nat} (hw8 : w ≤ 8) (hw : I 128 7 = nI w) (hA : AWok I (I 128 0) n)  : CtF l E mX5_allAwake [rf E 127] NT I F NT (some (.int (yAa I (I 128 0) n).1)) ((yAa I (I 128 0) n).2) F := by
  refine CtF_of [some (rf E 127)] (by decide) rfl (Nat.le_of_ble_eq_true rfl) rfl (fun p e s m args below meth c C hr hname => ?_)
  refine g_aload_n C dX5_allAwake_0 rfl rfl ?_
  refine g_aload_n C dX5_allAwake_1 rfl rfl ?_
  refine gfX5_7 C (by decide) hl.mstate dX5_allAwake_2 ?_
  refine g_iconst C (v := 0) dX5_allAwake_5 (by decide) ?_
  refine g_iald_j C (show ar NT 128 7 96 by decide) 0 rfl (by decide) (by decide) dX5_allAwake_6 ?_
  refine kX5_166 C (by decide) (tX5_allAwakeWith hl hn8 hn hw8 hw _ hA) ⟨⟨Nat.le_of_ble_eq_true rfl, Nat.le_of_ble_eq_true rfl⟩, Nat.le_of_ble_eq_true rfl, Nat.le_of_ble_eq_true rfl⟩ (Nat.le_of_ble_eq_true rfl) dX5_allAwake_7 ?_
  exact g_iret C hr dX5_allAwake_10 ⟨rfl, rfl, rfl⟩

set_option maxRecDepth 100000 in
set_option maxHeartbeats 800000 in
theorem tX5_leastCurrent {l : Launch} {E : EE} {I : Mi} {F : Mr} (hl : LY F) {mm : Nat} (hm : mm ≤ 200) (hx : isW (nI mm) 0 200 = true) {n : Nat} (hn8 : n ≤ 8) {w : Nat} (hw8 : w ≤ 8) (hW : ∀ i, i < 60 → AWok (lcS n I i) (nI (i + 1)) n ∧ lcS n I i 128 2 = nI n ∧ lcS n I i 128 7 = nI w)  : CtF l E mX5_leastCurrent [rf E 127, .int (nI mm)] NT I F NT (some (.int (yLc mm n 60 0 I).1)) ((yLc mm n 60 0 I).2) F := by
  refine CtF_of [some (rf E 127), some (.int (nI mm)), none, none] (by decide) rfl (Nat.le_of_ble_eq_true rfl) rfl (fun p e s m args below meth c C hr hname => ?_)
  refine g_iload_n C dX5_leastCurrent_0 rfl rfl ?_
  refine g_iconst C (v := 0) dX5_leastCurrent_1 (by decide) ?_
  refine g_sipush C (v := 200) dX5_leastCurrent_2 (by decide) ?_
  refine kX5_42 C (by decide) (tX5_within _ _ _) ⟨⟨Nat.le_of_ble_eq_true rfl, Nat.le_of_ble_eq_true rfl⟩, Nat.le_of_ble_eq_true rfl, Nat.le_of_ble_eq_true rfl⟩ (Nat.le_of_ble_eq_true rfl) dX5_leastCurrent_5 ?_
  refine g_ifne_b C (tgt := 14) dX5_leastCurrent_8 (by decide) (fun _ => ?_) (fun c8 => (bt_f hx c8).elim)
  refine g_iconst C (v := 1) dX5_leastCurrent_14 (by decide) ?_
  refine g_istore_n C dX5_leastCurrent_15 rfl (by decide) rfl ?_
  refine G_loopI (n := 60) (fun i => [some (rf E 127), some (.int (nI mm)), some (.int (nI (i + 1))), none]) (fun i => lcS n I i) (fun _ => F) (fun i => yLc mm n (60 - i) i (lcS n I i) = yLc mm n 60 0 I) rfl (lcS_0 n I).symm rfl (by rw [Nat.sub_zero, lcS_0]) ?_ ?_
  · intro i16 hi16 hv16 ih16
    rw [show 60 - i16 = (59 - i16) + 1 by omega, yLc] at hv16
    refine g_iload_n C dX5_leastCurrent_16 rfl rfl ?_
    refine g_bipush C (v := 60) dX5_leastCurrent_17 (by decide) ?_
    refine g_icmp_gt C (tgt := 47) dX5_leastCurrent_19 (by decide) (fun c19 => absurd c19 (nI_nlt (b := i16 + 1) (a := 60) (by omega) (by decide))) (fun _ => ?_)
    refine g_aload_n C dX5_leastCurrent_22 rfl rfl ?_
    refine g_iload_n C dX5_leastCurrent_23 rfl rfl ?_
    refine kX5_166 C (by decide) (tX5_allAwakeWith hl hn8 (hW _ hi16).2.1 hw8 (hW _ hi16).2.2 _ (hW _ hi16).1) ⟨⟨Nat.le_of_ble_eq_true rfl, Nat.le_of_ble_eq_true rfl⟩, Nat.le_of_ble_eq_true rfl, Nat.le_of_ble_eq_true rfl⟩ (Nat.le_of_ble_eq_true rfl) dX5_leastCurrent_24 ?_
    refine g_istore_n C dX5_leastCurrent_27 rfl (by decide) rfl ?_
    refine g_iload_n C dX5_leastCurrent_28 rfl rfl ?_
    refine g_bipush C (v := (-6)) dX5_leastCurrent_29 (by decide) ?_
    refine g_icmp_eq C (tgt := 41) dX5_leastCurrent_31 (by decide) (fun c31 => ?_) (fun c31 => ?_)
    · skip
      refine g_iinc C dX5_leastCurrent_41 rfl (nI_inc _) (by decide) rfl ?_
      refine g_goto C (tgt := 16) dX5_leastCurrent_44 (by decide) ?_
      exact G_forget 3 (G_cast (ih16 (by rw [show 60 - (i16 + 1) = 59 - i16 by omega, lcS_s, ← hv16]; (try first | rw [if_pos c31] | rw [if_neg c31] | rw [if_neg (show ¬ _ = true by rw [c31]; decide)]))) (lcS_s _ _ _).symm rfl rfl rfl)
    · skip
      refine g_iload_n C dX5_leastCurrent_34 rfl rfl ?_
      refine g_iload_n C dX5_leastCurrent_35 rfl rfl ?_
      refine g_icmp_gt C (tgt := 41) dX5_leastCurrent_36 (by decide) (fun c36 => ?_) (fun c36 => ?_)
      · skip
        refine g_iinc C dX5_leastCurrent_41 rfl (nI_inc _) (by decide) rfl ?_
        refine g_goto C (tgt := 16) dX5_leastCurrent_44 (by decide) ?_
        exact G_forget 3 (G_cast (ih16 (by rw [show 60 - (i16 + 1) = 59 - i16 by omega, lcS_s, ← hv16]; (try first | rw [if_pos c31] | rw [if_neg c31] | rw [if_neg (show ¬ _ = true by rw [c31]; decide)]); (try first | rw [if_pos c36] | rw [if_neg c36] | rw [if_neg (show ¬ _ = true by rw [c36]; decide)]))) (lcS_s _ _ _).symm rfl rfl rfl)
      · skip
        refine g_iload_n C dX5_leastCurrent_39 rfl rfl ?_
        exact g_iret C hr dX5_leastCurrent_40 ⟨by rw [← hv16]; (try first | rw [if_pos c31] | rw [if_neg c31] | rw [if_neg (show ¬ _ = true by rw [c31]; decide)]); (try first | rw [if_pos c36] | rw [if_neg c36] | rw [if_neg (show ¬ _ = true by rw [c36]; decide)]); try rfl, by rw [← hv16]; (try first | rw [if_pos c31] | rw [if_neg c31] | rw [if_neg (show ¬ _ = true by rw [c31]; decide)]); (try first | rw [if_pos c36] | rw [if_neg c36] | rw [if_neg (show ¬ _ = true by rw [c36]; decide)]); try rfl, rfl⟩
  · intro hv16
    rw [Nat.sub_self, yLc] at hv16
    refine g_iload_n C dX5_leastCurrent_16 rfl rfl ?_
    refine g_bipush C (v := 60) dX5_leastCurrent_17 (by decide) ?_
    refine g_icmp_gt C (tgt := 47) dX5_leastCurrent_19 (by decide) (fun _ => ?_) (fun c19 => absurd (nI_lt (a := 60) (b := 61) (by decide) (by decide)) c19)
    refine g_bipush C (v := (-6)) dX5_leastCurrent_47 (by decide) ?_
    exact g_iret C hr dX5_leastCurrent_49 ⟨by rw [← hv16]; skip; try rfl, by rw [← hv16]; skip; try rfl, rfl⟩

set_option maxRecDepth 100000 in
set_option maxHeartbeats 800000 in
theorem tX5_quiet {l : Launch} {E : EE} {I : Mi} {F : Mr} (hl : LY F) {t : Nat} (ht : t < 2147483648) (hx : isW (nI t) 1 50 = true) {n : Nat} (hn8 : n ≤ 8) (hQ : ∀ i, i ≤ n → (quS I t i).2 128 2 = nI n) (hT : ∀ i, i < n → decide (pt (quS I t i).2 i 7 = 0) = true → ∀ j, j < t → TI (psM (q0M (quS I t i).2 i) j))  : CtF l E mX5_quiet [rf E 127, .int (nI t)] NT I F NT (some (.int (quS I t n).1)) ((quS I t n).2) F := by
  refine CtF_of [some (rf E 127), some (.int (nI t)), none, none] (by decide) rfl (Nat.le_of_ble_eq_true rfl) rfl (fun p e s m args below meth c C hr hname => ?_)
  refine g_iload_n C dX5_quiet_0 rfl rfl ?_
  refine g_iconst C (v := 1) dX5_quiet_1 (by decide) ?_
  refine g_bipush C (v := 50) dX5_quiet_2 (by decide) ?_
  refine kX5_42 C (by decide) (tX5_within _ _ _) ⟨⟨Nat.le_of_ble_eq_true rfl, Nat.le_of_ble_eq_true rfl⟩, Nat.le_of_ble_eq_true rfl, Nat.le_of_ble_eq_true rfl⟩ (Nat.le_of_ble_eq_true rfl) dX5_quiet_4 ?_
  refine g_ifne_b C (tgt := 13) dX5_quiet_7 (by decide) (fun _ => ?_) (fun c7 => (bt_f hx c7).elim)
  refine g_iconst C (v := 0) dX5_quiet_13 (by decide) ?_
  refine g_istore_n C dX5_quiet_14 rfl (by decide) rfl ?_
  refine g_iconst C (v := 0) dX5_quiet_15 (by decide) ?_
  refine g_istore_n C dX5_quiet_16 rfl (by decide) rfl ?_
  refine G_loop (n := n) (fun i => [some (rf E 127), some (.int (nI t)), some (.int (quS I t i).1), some (.int (nI i))]) (fun i => (quS I t i).2) (fun _ => F) rfl rfl rfl ?_ ?_
  · intro i17 hi17 ih17
    refine g_iload_n C dX5_quiet_17 rfl rfl ?_
    refine g_aload_n C dX5_quiet_18 rfl rfl ?_
    refine gfX5_7 C (by decide) hl.mstate dX5_quiet_19 ?_
    refine g_iconst C (v := 2) dX5_quiet_22 (by decide) ?_
    refine g_iald_j C (show ar NT 128 7 96 by decide) 2 rfl (by decide) (by decide) dX5_quiet_23 ?_
    refine g_icmp_ge C (tgt := 94) dX5_quiet_24 (by decide) (fun c24 => absurd c24 (nI_nge (hQ i17 (by omega)) hi17 (by omega))) (fun _ => ?_)
    refine g_aload_n C dX5_quiet_27 rfl rfl ?_
    refine g_iload_n C dX5_quiet_28 rfl rfl ?_
    refine g_iconst C (v := 0) dX5_quiet_29 (by decide) ?_
    refine kX5_50 C (by decide) (tX5_is hl (i := i17) (show i17 < 8 by omega) _) ⟨⟨Nat.le_of_ble_eq_true rfl, Nat.le_of_ble_eq_true rfl⟩, Nat.le_of_ble_eq_true rfl, Nat.le_of_ble_eq_true rfl⟩ (Nat.le_of_ble_eq_true rfl) dX5_quiet_30 ?_
    refine g_ifeq_b C (tgt := 88) dX5_quiet_33 (by decide) (fun c33 => ?_) (fun c33 => ?_)
    · skip
      refine g_iinc C dX5_quiet_88 rfl (nI_inc _) (by decide) rfl ?_
      refine g_goto C (tgt := 17) dX5_quiet_91 (by decide) ?_
      exact G_cast (ls2 := [some (rf E 127), some (.int (nI t)), some (.int (quS I t (i17 + 1)).1), some (.int (nI (i17 + 1)))]) (st2 := []) ih17 (by rw [quS_s]; generalize quS I t i17 = p9 at *; unfold quM; (try first | rw [if_pos c33] | rw [if_neg c33] | rw [if_neg (show ¬ _ = true by rw [c33]; decide)]); try rfl) rfl (by rw [quS_s]; generalize quS I t i17 = p9 at *; unfold quM; (try first | rw [if_pos c33] | rw [if_neg c33] | rw [if_neg (show ¬ _ = true by rw [c33]; decide)]); (try rw [if_pos (by assumption)]); (try rw [if_neg (by assumption)]); try rfl) rfl
    · skip
      refine g_aload_n C dX5_quiet_36 rfl rfl ?_
      refine gfX5_7 C (by decide) hl.mstate dX5_quiet_37 ?_
      refine g_iconst C (v := 0) dX5_quiet_40 (by decide) ?_
      refine g_aload_n C dX5_quiet_41 rfl rfl ?_
      refine gfX5_13 C (by decide) hl.mkept dX5_quiet_42 ?_
      refine g_iconst C (v := 0) dX5_quiet_45 (by decide) ?_
      refine kX5_38 C (by decide) (tX5_moves (f := 0) (t := 0) (show ar NT 128 7 96 by decide) (show ar NT 129 7 96 by decide) (by omega) (by omega) (by decide)) ⟨⟨Nat.le_of_ble_eq_true rfl, Nat.le_of_ble_eq_true rfl⟩, Nat.le_of_ble_eq_true rfl, Nat.le_of_ble_eq_true rfl⟩ (Nat.le_of_ble_eq_true rfl) dX5_quiet_46 ?_
      refine g_aload_n C dX5_quiet_49 rfl rfl ?_
      refine g_iload_n C dX5_quiet_50 rfl rfl ?_
      refine g_bipush C (v := 7) dX5_quiet_51 (by decide) ?_
      refine g_iconst C (v := 1) dX5_quiet_53 (by decide) ?_
      refine kX5_68 C (by decide) (tX5_setPart hl (i := i17) (show i17 < 8 by omega) (q := 7) (by decide) rfl _) ⟨⟨Nat.le_of_ble_eq_true rfl, Nat.le_of_ble_eq_true rfl⟩, Nat.le_of_ble_eq_true rfl, Nat.le_of_ble_eq_true rfl⟩ (Nat.le_of_ble_eq_true rfl) dX5_quiet_54 ?_
      refine g_iload_n C dX5_quiet_57 rfl rfl ?_
      refine g_aload_n C dX5_quiet_58 rfl rfl ?_
      refine g_iload_n C dX5_quiet_59 rfl rfl ?_
      refine kX5_153 C (by decide) (tX5_passes hl ht (hT _ hi17 c33)) ⟨⟨Nat.le_of_ble_eq_true rfl, Nat.le_of_ble_eq_true rfl⟩, Nat.le_of_ble_eq_true rfl, Nat.le_of_ble_eq_true rfl⟩ (Nat.le_of_ble_eq_true rfl) dX5_quiet_60 ?_
      refine g_if_ne C (tgt := 72) dX5_quiet_63 (by decide) (fun c63 => ?_) (fun c63 => ?_)
      · skip
        refine g_iconst C (v := 0) dX5_quiet_72 (by decide) ?_
        refine g_ior C dX5_quiet_73 ?_
        refine g_istore_n C dX5_quiet_74 rfl (by decide) rfl ?_
        refine g_aload_n C dX5_quiet_75 rfl rfl ?_
        refine gfX5_13 C (by decide) hl.mkept dX5_quiet_76 ?_
        refine g_iconst C (v := 0) dX5_quiet_79 (by decide) ?_
        refine g_aload_n C dX5_quiet_80 rfl rfl ?_
        refine gfX5_7 C (by decide) hl.mstate dX5_quiet_81 ?_
        refine g_iconst C (v := 0) dX5_quiet_84 (by decide) ?_
        refine kX5_38 C (by decide) (tX5_moves (f := 0) (t := 0) (show ar NT 129 7 96 by decide) (show ar NT 128 7 96 by decide) (by omega) (by omega) (by decide)) ⟨⟨Nat.le_of_ble_eq_true rfl, Nat.le_of_ble_eq_true rfl⟩, Nat.le_of_ble_eq_true rfl, Nat.le_of_ble_eq_true rfl⟩ (Nat.le_of_ble_eq_true rfl) dX5_quiet_85 ?_
        refine g_iinc C dX5_quiet_88 rfl (nI_inc _) (by decide) rfl ?_
        refine g_goto C (tgt := 17) dX5_quiet_91 (by decide) ?_
        exact G_cast (ls2 := [some (rf E 127), some (.int (nI t)), some (.int (quS I t (i17 + 1)).1), some (.int (nI (i17 + 1)))]) (st2 := []) ih17 (by rw [quS_s]; generalize quS I t i17 = p9 at *; unfold quM; (try first | rw [if_pos c33] | rw [if_neg c33] | rw [if_neg (show ¬ _ = true by rw [c33]; decide)]); (try first | rw [if_pos c63] | rw [if_neg c63] | rw [if_neg (show ¬ _ = true by rw [c63]; decide)]); try rfl) rfl (by rw [quS_s]; generalize quS I t i17 = p9 at *; unfold quM; (try first | rw [if_pos c33] | rw [if_neg c33] | rw [if_neg (show ¬ _ = true by rw [c33]; decide)]); (try first | rw [if_pos c63] | rw [if_neg c63] | rw [if_neg (show ¬ _ = true by rw [c63]; decide)]); (try rw [if_pos (by assumption)]); (try rw [if_neg (by assumption)]); try rfl) rfl
      · skip
        refine g_iconst C (v := 1) dX5_quiet_66 (by decide) ?_
        refine g_iload_n C dX5_quiet_67 rfl rfl ?_
        refine g_ishl C dX5_quiet_68 ?_
        refine g_goto C (tgt := 73) dX5_quiet_69 (by decide) ?_
        refine g_ior C dX5_quiet_73 ?_
        refine g_istore_n C dX5_quiet_74 rfl (by decide) rfl ?_
        refine g_aload_n C dX5_quiet_75 rfl rfl ?_
        refine gfX5_13 C (by decide) hl.mkept dX5_quiet_76 ?_
        refine g_iconst C (v := 0) dX5_quiet_79 (by decide) ?_
        refine g_aload_n C dX5_quiet_80 rfl rfl ?_
        refine gfX5_7 C (by decide) hl.mstate dX5_quiet_81 ?_
        refine g_iconst C (v := 0) dX5_quiet_84 (by decide) ?_
        refine kX5_38 C (by decide) (tX5_moves (f := 0) (t := 0) (show ar NT 129 7 96 by decide) (show ar NT 128 7 96 by decide) (by omega) (by omega) (by decide)) ⟨⟨Nat.le_of_ble_eq_true rfl, Nat.le_of_ble_eq_true rfl⟩, Nat.le_of_ble_eq_true rfl, Nat.le_of_ble_eq_true rfl⟩ (Nat.le_of_ble_eq_true rfl) dX5_quiet_85 ?_
        refine g_iinc C dX5_quiet_88 rfl (nI_inc _) (by decide) rfl ?_
        refine g_goto C (tgt := 17) dX5_quiet_91 (by decide) ?_
        exact G_cast (ls2 := [some (rf E 127), some (.int (nI t)), some (.int (quS I t (i17 + 1)).1), some (.int (nI (i17 + 1)))]) (st2 := []) ih17 (by rw [quS_s]; generalize quS I t i17 = p9 at *; unfold quM; (try first | rw [if_pos c33] | rw [if_neg c33] | rw [if_neg (show ¬ _ = true by rw [c33]; decide)]); (try first | rw [if_pos c63] | rw [if_neg c63] | rw [if_neg (show ¬ _ = true by rw [c63]; decide)]); try rfl) rfl (by rw [quS_s]; generalize quS I t i17 = p9 at *; unfold quM; (try first | rw [if_pos c33] | rw [if_neg c33] | rw [if_neg (show ¬ _ = true by rw [c33]; decide)]); (try first | rw [if_pos c63] | rw [if_neg c63] | rw [if_neg (show ¬ _ = true by rw [c63]; decide)]); (try rw [if_pos (by assumption)]); (try rw [if_neg (by assumption)]); try rfl) rfl
  · skip
    refine g_iload_n C dX5_quiet_17 rfl rfl ?_
    refine g_aload_n C dX5_quiet_18 rfl rfl ?_
    refine gfX5_7 C (by decide) hl.mstate dX5_quiet_19 ?_
    refine g_iconst C (v := 2) dX5_quiet_22 (by decide) ?_
    refine g_iald_j C (show ar NT 128 7 96 by decide) 2 rfl (by decide) (by decide) dX5_quiet_23 ?_
    refine g_icmp_ge C (tgt := 94) dX5_quiet_24 (by decide) (fun _ => ?_) (fun c24 => absurd (nI_lee (hQ n (by omega))) c24)
    refine g_iload_n C dX5_quiet_94 rfl rfl ?_
    exact g_iret C hr dX5_quiet_95 ⟨rfl, rfl, rfl⟩

