/-! the reference: toldMany -/
def alS (c : Nat → Int32) (L : Nat) (s : Nat × T5) (i : Nat) : Int32 := lp (fun i x => x ||| (ffS c L s (i + 1)).2.2.2.2.2) i 0
theorem alS_s (c : Nat → Int32) (L : Nat) (s : Nat × T5) (i : Nat) : alS c L s (i + 1) = (alS c L s i ||| (ffS c L s (i + 1)).2.2.2.2.2) := by unfold alS; rw [lp]
theorem alS_0 (c : Nat → Int32) (L : Nat) (s : Nat × T5) : alS c L s 0 = 0 := by unfold alS; rw [lp]
theorem ffS_0 (c : Nat → Int32) (L : Nat) (s : Nat × T5) : ffS c L s 0 = s := by unfold ffS; rw [lp]
theorem pT_r15 (I : Mi) (j : Nat) (t : T5) : pT I j t 127 15 = t.2.2.2.2 := rfl
theorem pT_at (I : Mi) (j k : Nat) (t : T5) : up (pT I j t) 127 10 (nI k) = pT I k t := pM_at I j k _ _ _ _ _
def tmR (x : Int32) (m : Nat) : Int32 := if x >>> (nI m &&& 31) = 0 then nI m else -1

set_option maxRecDepth 100000 in
set_option maxHeartbeats 800000 in
theorem tX5_toldMany {l : Launch} {E : EE} {I : Mi} {F : Mr} (hl : LY F) {L : Nat} (hL64 : L ≤ 64) (hL : I 127 7 = nI L) {j : Nat} {t9 : T5} {m9 : Nat} (hm8 : m9 ≤ 8) (hlt : ∀ i, i < m9 → (ffS (I 133) L (0, t9) i).1 < L) (hend : (ffS (I 133) L (0, t9) m9).1 = L)  : CtF l E mX5_toldMany [rf E 127] NT (pT I j t9) F NT (some (.int (tmR (alS (I 133) L (0, t9) m9) m9))) (pT I (ffS (I 133) L (0, t9) m9).1 (ffS (I 133) L (0, t9) m9).2) F := by
  refine CtF_of [some (rf E 127), none, none] (by decide) rfl (Nat.le_of_ble_eq_true rfl) rfl (fun p e s m args below meth c C hr hname => ?_)
  refine g_iconst C (v := 0) dX5_toldMany_0 (by decide) ?_
  refine g_istore_n C dX5_toldMany_1 rfl (by decide) rfl ?_
  refine g_iconst C (v := 0) dX5_toldMany_2 (by decide) ?_
  refine g_istore_n C dX5_toldMany_3 rfl (by decide) rfl ?_
  refine g_aload_n C dX5_toldMany_4 rfl rfl ?_
  refine g_iconst C (v := 0) dX5_toldMany_5 (by decide) ?_
  refine pfX5_114 C (by decide) dX5_toldMany_6 ?_
  rw [show up (pT I j t9) 127 10 0 = pT I 0 t9 from pM_at I j 0 _ _ _ _ _]
  refine G_loopI (n := m9) (fun i => [some (rf E 127), some (.int (nI i)), some (.int (alS (I 133) L (0, t9) i))]) (fun i => pT I (ffS (I 133) L (0, t9) i).1 (ffS (I 133) L (0, t9) i).2) (fun _ => F) (fun i => (ffS (I 133) L (0, t9) i).1 ≤ L) rfl rfl rfl (Nat.zero_le _) ?_ ?_
  · intro i9 hi9 hj9 ih9
    have hlt9 := hlt i9 hi9
    have hr9 : (rpS (I 133) L i9 (ffS (I 133) L (0, t9) i9).1).2.1 ≤ L := rpS_le hj9
    refine g_aload_n C dX5_toldMany_9 rfl rfl ?_
    refine gfX5_114 C (by decide) dX5_toldMany_10 ?_
    rw [pT_r10]
    refine g_aload_n C dX5_toldMany_13 rfl rfl ?_
    refine gfX5_117 C (by decide) dX5_toldMany_14 ?_
    rw [pT_r7, hL]
    refine g_icmp_ge C (tgt := 46) dX5_toldMany_17 (by decide) (fun c17 => absurd c17 (nI_nge rfl hlt9 (by omega))) (fun _ => ?_)
    refine g_aload_n C dX5_toldMany_20 rfl rfl ?_
    refine g_iload_n C dX5_toldMany_21 rfl rfl ?_
    refine kX5_120 C (by decide) (tX5_readsIsland2 hl hL64 hL (t := (ffS (I 133) L (0, t9) i9).2) hj9 i9) ⟨⟨Nat.le_of_ble_eq_true rfl, Nat.le_of_ble_eq_true rfl⟩, Nat.le_of_ble_eq_true rfl, Nat.le_of_ble_eq_true rfl⟩ (Nat.le_of_ble_eq_true rfl) dX5_toldMany_22 ?_
    refine g_pop C dX5_toldMany_25 rfl ?_
    refine g_aload_n C dX5_toldMany_26 rfl rfl ?_
    refine g_bipush C (v := 59) dX5_toldMany_27 (by decide) ?_
    refine kX5_123 C (by decide) (tX5_isNext hl hL64 hL (by first | omega | assumption) _) ⟨⟨Nat.le_of_ble_eq_true rfl, Nat.le_of_ble_eq_true rfl⟩, Nat.le_of_ble_eq_true rfl, Nat.le_of_ble_eq_true rfl⟩ (Nat.le_of_ble_eq_true rfl) dX5_toldMany_29 ?_
    refine g_pop C dX5_toldMany_32 rfl ?_
    refine g_iload_n C dX5_toldMany_33 rfl rfl ?_
    refine g_aload_n C dX5_toldMany_34 rfl rfl ?_
    refine gfX5_126 C (by decide) dX5_toldMany_35 ?_
    first | rw [pT_r15] | rw [pM_r15]
    refine g_ior C dX5_toldMany_38 ?_
    refine g_istore_n C dX5_toldMany_39 rfl (by decide) rfl ?_
    refine g_iinc C dX5_toldMany_40 rfl (nI_inc _) (by decide) rfl ?_
    refine g_goto C (tgt := 9) dX5_toldMany_43 (by decide) ?_
    exact G_cast (ih9 (by rw [ffS_s]; exact nx_le hr9 (by decide))) (by rw [ffS_s]) rfl (by rw [alS_s, ffS_s, ← nI_1]; rfl) rfl
  · intro hj9
    refine g_aload_n C dX5_toldMany_9 rfl rfl ?_
    refine gfX5_114 C (by decide) dX5_toldMany_10 ?_
    rw [pT_r10]
    refine g_aload_n C dX5_toldMany_13 rfl rfl ?_
    refine gfX5_117 C (by decide) dX5_toldMany_14 ?_
    rw [pT_r7, hL]
    refine g_icmp_ge C (tgt := 46) dX5_toldMany_17 (by decide) (fun _ => ?_) (fun c17 => absurd (by rw [hend]; exact nI_lee rfl) c17)
    refine g_iload_n C dX5_toldMany_46 rfl rfl ?_
    refine g_iload_n C dX5_toldMany_47 rfl rfl ?_
    refine g_ishr C dX5_toldMany_48 ?_
    refine g_if_eq C (tgt := 56) dX5_toldMany_49 (by decide) (fun c49 => ?_) (fun c49 => ?_)
    · skip
      refine g_iload_n C dX5_toldMany_56 rfl rfl ?_
      exact g_iret C hr dX5_toldMany_57 ⟨by unfold tmR; (try first | rw [if_pos c49] | rw [if_neg c49] | rw [if_neg (show ¬ _ = true by rw [c49]; decide)]), rfl, rfl⟩
    · skip
      refine g_iconst C (v := (-1)) dX5_toldMany_52 (by decide) ?_
      refine g_goto C (tgt := 57) dX5_toldMany_53 (by decide) ?_
      exact g_iret C hr dX5_toldMany_57 ⟨by unfold tmR; (try first | rw [if_pos c49] | rw [if_neg c49] | rw [if_neg (show ¬ _ = true by rw [c49]; decide)]), rfl, rfl⟩

