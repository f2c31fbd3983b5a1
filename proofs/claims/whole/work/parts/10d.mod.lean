def QV (I : Mi) (w : Nat) : Prop := ∀ k, k < w → ∃ j, j < 8 ∧ I 128 (8 + k) = nI j
def lrA (j : Nat) (p : Mi × Nat) : Mi × Nat := (sp (sp p.1 j 7 4) j 8 (pt (sp p.1 j 7 4) j 2), p.2)
def lrB (n k : Nat) (p : Mi × Nat) : Mi × Nat :=
  if rlM p.1 n = 0 then lrA (ix (p.1 128 (8 + k))) p
  else if p.1 128 0 < rlM p.1 n + pt p.1 (ix (p.1 128 (8 + k))) 3 then (up p.1 128 (8 + p.2) (p.1 128 (8 + k)), p.2 + 1)
  else lrA (ix (p.1 128 (8 + k))) p
def lrI (n k : Nat) (I : Mi) : Mi × Nat := lp (lrB n) k (I, 0)
theorem lrI_s (n k : Nat) (I : Mi) : lrI n (k + 1) I = lrB n k (lrI n k I) := by unfold lrI; rw [lp]
theorem lrI_inv (n : Nat) (I : Mi) : ∀ k, k ≤ 8 → (lrI n k I).2 ≤ k ∧ ∀ y, (y < 8 ∨ (8 + k ≤ y ∧ y < 16)) → (lrI n k I).1 128 y = I 128 y
  | 0, _ => ⟨Nat.le_refl _, fun y _ => rfl⟩
  | k + 1, h => by
    obtain ⟨h1, h2⟩ := lrI_inv n I k (by omega)
    rw [lrI_s]
    generalize lrI n k I = J at h1 h2 ⊢
    have hA : ∀ j, (lrA j J).2 ≤ k + 1 ∧ ∀ y, (y < 8 ∨ (8 + (k + 1) ≤ y ∧ y < 16)) → (lrA j J).1 128 y = I 128 y := fun j => ⟨by simp only [lrA]; omega, fun y hy => by
      simp only [lrA]
      rw [sp_lo (by omega), sp_lo (by omega)]
      exact h2 y (by omega)⟩
    unfold lrB
    split
    · exact hA _
    · split
      · refine ⟨by simp only; omega, fun y hy => ?_⟩
        simp only
        rw [up_j (by omega)]
        exact h2 y (by omega)
      · exact hA _
def letM (I : Mi) (n w : Nat) : Mi := up (lrI n w I).1 128 7 (nI (lrI n w I).2)
def preM (I : Mi) (n : Nat) : Mi := akM (riM (faM (nvM I n) n) n) n
def tkM (I : Mi) : Mi :=
  let n := ix (I 128 2)
  let J := letM (preM I n) n (ix (preM I n 128 7))
  let J1 := up J 128 3 (J 128 3 + 1)
  up J1 128 6 (if rlM J1 n ≤ J1 128 6 then J1 128 6 else rlM J1 n)
/-- what a tick needs: the counts are small, what waits are islands -/
def TI (I : Mi) : Prop := ∃ n w w2, n ≤ 8 ∧ I 128 2 = nI n ∧ w ≤ 8 ∧ I 128 7 = nI w ∧ w2 ≤ 8 ∧ preM I n 128 7 = nI w2 ∧ QV (preM I n) w2
def psM (I : Mi) (t : Nat) : Mi := lp (fun _ J => tkM J) t I
theorem psM_s (I : Mi) (t : Nat) : psM I (t + 1) = tkM (psM I t) := by unfold psM; rw [lp]
theorem nvM_lo {I : Mi} {n y : Nat} (hy : y < 16) (h4 : y ≠ 4) : nvM I n 128 y = I 128 y := by
  unfold nvM nvM1
  rw [lp_fix2 (fun i J => nv2_lo hy h4), lp_fix2 (fun i J => nv1_2 i J y)]
theorem faM_lo {I : Mi} {n y : Nat} (hy : y < 16) (h5 : y ≠ 5) : faM I n 128 y = I 128 y := by
  unfold faM; rw [lp_fix2 (fun i J => fa1_lo hy h5)]
theorem riM_lo {I : Mi} {n y : Nat} (hy : y < 16) : riM I n 128 y = I 128 y := by
  unfold riM; rw [lp_fix2 (fun i J => ri1_lo hy)]
theorem akM_lo {I : Mi} {n y : Nat} (hy : y < 7) : akM I n 128 y = I 128 y := by
  unfold akM; split
  · rw [lp_fix2 (fun i J => ak1_lo hy)]
  · rfl
theorem letM_lo {I : Mi} {n w y : Nat} (hw : w ≤ 8) (hy : y < 7) : letM I n w 128 y = I 128 y := by
  unfold letM
  rw [up_j (by omega)]
  exact (lrI_inv n I w hw).2 y (by omega)

set_option maxRecDepth 100000 in
set_option maxHeartbeats 800000 in
theorem tX5_letRise {l : Launch} {E : EE} {I : Mi} {F : Mr} (hl : LY F) {n : Nat} (hn8 : n ≤ 8) (hn : I 128 2 = nI n) {w : Nat} (hw8 : w ≤ 8) (hw : I 128 7 = nI w) (hQ : QV I w)  : CtF l E mX5_letRise [rf E 127] NT I F NT none (letM I n w) F := by
  refine CtF_of [some (rf E 127), none, none, none, none] (by decide) rfl (Nat.le_of_ble_eq_true rfl) rfl (fun p e s m args below meth c C hr hname => ?_)
  refine g_iconst C (v := 0) dX5_letRise_0 (by decide) ?_
  refine g_istore_n C dX5_letRise_1 rfl (by decide) rfl ?_
  refine g_iconst C (v := 0) dX5_letRise_2 (by decide) ?_
  refine g_istore_n C dX5_letRise_3 rfl (by decide) rfl ?_
  refine G_loop (n := w) (fun i => [some (rf E 127), some (.int (nI (lrI n i I).2)), some (.int (nI i)), none, none]) (fun i => (lrI n i I).1) (fun _ => F) rfl rfl rfl ?_ ?_
  · intro i4 hi4 ih4
    obtain ⟨hle, hin⟩ := lrI_inv n I i4 (by omega)
    have hlf : (lrI n i4 I).2 < 8 := by omega
    have hnJ : (lrI n i4 I).1 128 2 = nI n := by rw [hin 2 (by omega)]; exact hn
    have hwJ : (lrI n i4 I).1 128 7 = nI w := by rw [hin 7 (by omega)]; exact hw
    obtain ⟨j4, hj4, hq4⟩ := hQ i4 hi4
    have hx4 : (lrI n i4 I).1 128 (8 + i4) = nI j4 := by rw [hin (8 + i4) (by omega)]; exact hq4
    have hixj : ix (nI j4) = j4 := nI_clamp (by omega)
    refine g_iload_n C dX5_letRise_4 rfl rfl ?_
    refine g_aload_n C dX5_letRise_5 rfl rfl ?_
    refine gfX5_7 C (by decide) hl.mstate dX5_letRise_6 ?_
    refine g_bipush C (v := 7) dX5_letRise_9 (by decide) ?_
    refine g_iald_j C (show ar NT 128 7 96 by decide) 7 rfl (by decide) (by decide) dX5_letRise_11 ?_
    refine g_icmp_ge C (tgt := 97) dX5_letRise_12 (by decide) (fun c12 => absurd c12 (nI_nge hwJ hi4 (by omega))) (fun _ => ?_)
    refine g_aload_n C dX5_letRise_15 rfl rfl ?_
    refine gfX5_7 C (by decide) hl.mstate dX5_letRise_16 ?_
    refine g_bipush C (v := 8) dX5_letRise_19 (by decide) ?_
    refine g_iload_n C dX5_letRise_21 rfl rfl ?_
    refine g_iadd C dX5_letRise_22 ?_
    refine g_iald_j C (show ar NT 128 7 96 by decide) (8 + i4) (or_ix i4) (by omega) (by decide) dX5_letRise_23 ?_
    rw [hx4]
    refine g_istore_n C dX5_letRise_24 rfl (by decide) rfl ?_
    refine g_aload_n C dX5_letRise_25 rfl rfl ?_
    refine kX5_82 C (by decide) (tX5_risingLoad hl hn8 hnJ) ⟨⟨Nat.le_of_ble_eq_true rfl, Nat.le_of_ble_eq_true rfl⟩, Nat.le_of_ble_eq_true rfl, Nat.le_of_ble_eq_true rfl⟩ (Nat.le_of_ble_eq_true rfl) dX5_letRise_26 ?_
    refine g_istore C dX5_letRise_29 (by decide) rfl ?_
    refine g_iload C dX5_letRise_31 rfl ?_
    refine g_if_eq C (tgt := 54) dX5_letRise_33 (by decide) (fun c33 => ?_) (fun c33 => ?_)
    · skip
      refine g_aload_n C dX5_letRise_54 rfl rfl ?_
      refine g_iload_n C dX5_letRise_55 rfl rfl ?_
      refine g_bipush C (v := 7) dX5_letRise_56 (by decide) ?_
      refine g_iconst C (v := 4) dX5_letRise_58 (by decide) ?_
      refine kX5_68 C (by decide) (tX5_setPart hl (i := j4) hj4 (q := 7) (by decide) rfl _) ⟨⟨Nat.le_of_ble_eq_true rfl, Nat.le_of_ble_eq_true rfl⟩, Nat.le_of_ble_eq_true rfl, Nat.le_of_ble_eq_true rfl⟩ (Nat.le_of_ble_eq_true rfl) dX5_letRise_59 ?_
      refine g_aload_n C dX5_letRise_62 rfl rfl ?_
      refine g_iload_n C dX5_letRise_63 rfl rfl ?_
      refine g_bipush C (v := 8) dX5_letRise_64 (by decide) ?_
      refine g_aload_n C dX5_letRise_66 rfl rfl ?_
      refine g_iload_n C dX5_letRise_67 rfl rfl ?_
      refine g_iconst C (v := 2) dX5_letRise_68 (by decide) ?_
      refine kX5_46 C (by decide) (tX5_part hl (i := j4) hj4 (q := 2) (by decide) rfl) ⟨⟨Nat.le_of_ble_eq_true rfl, Nat.le_of_ble_eq_true rfl⟩, Nat.le_of_ble_eq_true rfl, Nat.le_of_ble_eq_true rfl⟩ (Nat.le_of_ble_eq_true rfl) dX5_letRise_69 ?_
      refine kX5_68 C (by decide) (tX5_setPart hl (i := j4) hj4 (q := 8) (by decide) rfl _) ⟨⟨Nat.le_of_ble_eq_true rfl, Nat.le_of_ble_eq_true rfl⟩, Nat.le_of_ble_eq_true rfl, Nat.le_of_ble_eq_true rfl⟩ (Nat.le_of_ble_eq_true rfl) dX5_letRise_72 ?_
      refine g_goto C (tgt := 91) dX5_letRise_75 (by decide) ?_
      refine g_iinc C dX5_letRise_91 rfl (nI_inc _) (by decide) rfl ?_
      refine g_goto C (tgt := 4) dX5_letRise_94 (by decide) ?_
      exact G_forget 4 (G_forget 3 (G_cast (ls2 := [some (rf E 127), some (.int (nI (lrI n (i4 + 1) I).2)), some (.int (nI (i4 + 1))), none, none]) (st2 := []) ih4 (by rw [lrI_s]; generalize lrI n i4 I = J9 at *; unfold lrB; rw [hx4, hixj]; (try first | rw [if_pos c33] | rw [if_neg c33] | rw [if_neg (show ¬ _ = true by rw [c33]; decide)]); try rfl) rfl (by rw [lrI_s]; generalize lrI n i4 I = J9 at *; unfold lrB; rw [hx4, hixj]; (try first | rw [if_pos c33] | rw [if_neg c33] | rw [if_neg (show ¬ _ = true by rw [c33]; decide)]); try rfl) rfl))
    · skip
      refine g_iload C dX5_letRise_36 rfl ?_
      refine g_aload_n C dX5_letRise_38 rfl rfl ?_
      refine g_iload_n C dX5_letRise_39 rfl rfl ?_
      refine g_iconst C (v := 3) dX5_letRise_40 (by decide) ?_
      refine kX5_46 C (by decide) (tX5_part hl (i := j4) hj4 (q := 3) (by decide) rfl) ⟨⟨Nat.le_of_ble_eq_true rfl, Nat.le_of_ble_eq_true rfl⟩, Nat.le_of_ble_eq_true rfl, Nat.le_of_ble_eq_true rfl⟩ (Nat.le_of_ble_eq_true rfl) dX5_letRise_41 ?_
      refine g_iadd C dX5_letRise_44 ?_
      refine g_aload_n C dX5_letRise_45 rfl rfl ?_
      refine gfX5_7 C (by decide) hl.mstate dX5_letRise_46 ?_
      refine g_iconst C (v := 0) dX5_letRise_49 (by decide) ?_
      refine g_iald_j C (show ar NT 128 7 96 by decide) 0 rfl (by decide) (by decide) dX5_letRise_50 ?_
      refine g_icmp_gt C (tgt := 78) dX5_letRise_51 (by decide) (fun c51 => ?_) (fun c51 => ?_)
      · skip
        refine g_aload_n C dX5_letRise_78 rfl rfl ?_
        refine gfX5_7 C (by decide) hl.mstate dX5_letRise_79 ?_
        refine g_bipush C (v := 8) dX5_letRise_82 (by decide) ?_
        refine g_iload_n C dX5_letRise_84 rfl rfl ?_
        refine g_iadd C dX5_letRise_85 ?_
        refine g_iload_n C dX5_letRise_86 rfl rfl ?_
        refine g_iast_j C (show ar NT 128 7 96 by decide) (8 + (lrI n i4 I).2) (or_ix _) (by omega) (by decide) dX5_letRise_87 ?_
        refine g_iinc C dX5_letRise_88 rfl (nI_inc _) (by decide) rfl ?_
        refine g_iinc C dX5_letRise_91 rfl (nI_inc _) (by decide) rfl ?_
        refine g_goto C (tgt := 4) dX5_letRise_94 (by decide) ?_
        exact G_forget 4 (G_forget 3 (G_cast (ls2 := [some (rf E 127), some (.int (nI (lrI n (i4 + 1) I).2)), some (.int (nI (i4 + 1))), none, none]) (st2 := []) ih4 (by rw [lrI_s]; generalize lrI n i4 I = J9 at *; unfold lrB; rw [hx4, hixj]; (try first | rw [if_pos c33] | rw [if_neg c33] | rw [if_neg (show ¬ _ = true by rw [c33]; decide)]); (try first | rw [if_pos c51] | rw [if_neg c51] | rw [if_neg (show ¬ _ = true by rw [c51]; decide)]); try rfl) rfl (by rw [lrI_s]; generalize lrI n i4 I = J9 at *; unfold lrB; rw [hx4, hixj]; (try first | rw [if_pos c33] | rw [if_neg c33] | rw [if_neg (show ¬ _ = true by rw [c33]; decide)]); (try first | rw [if_pos c51] | rw [if_neg c51] | rw [if_neg (show ¬ _ = true by rw [c51]; decide)]); try rfl) rfl))
      · skip
        refine g_aload_n C dX5_letRise_54 rfl rfl ?_
        refine g_iload_n C dX5_letRise_55 rfl rfl ?_
        refine g_bipush C (v := 7) dX5_letRise_56 (by decide) ?_
        refine g_iconst C (v := 4) dX5_letRise_58 (by decide) ?_
        refine kX5_68 C (by decide) (tX5_setPart hl (i := j4) hj4 (q := 7) (by decide) rfl _) ⟨⟨Nat.le_of_ble_eq_true rfl, Nat.le_of_ble_eq_true rfl⟩, Nat.le_of_ble_eq_true rfl, Nat.le_of_ble_eq_true rfl⟩ (Nat.le_of_ble_eq_true rfl) dX5_letRise_59 ?_
        refine g_aload_n C dX5_letRise_62 rfl rfl ?_
        refine g_iload_n C dX5_letRise_63 rfl rfl ?_
        refine g_bipush C (v := 8) dX5_letRise_64 (by decide) ?_
        refine g_aload_n C dX5_letRise_66 rfl rfl ?_
        refine g_iload_n C dX5_letRise_67 rfl rfl ?_
        refine g_iconst C (v := 2) dX5_letRise_68 (by decide) ?_
        refine kX5_46 C (by decide) (tX5_part hl (i := j4) hj4 (q := 2) (by decide) rfl) ⟨⟨Nat.le_of_ble_eq_true rfl, Nat.le_of_ble_eq_true rfl⟩, Nat.le_of_ble_eq_true rfl, Nat.le_of_ble_eq_true rfl⟩ (Nat.le_of_ble_eq_true rfl) dX5_letRise_69 ?_
        refine kX5_68 C (by decide) (tX5_setPart hl (i := j4) hj4 (q := 8) (by decide) rfl _) ⟨⟨Nat.le_of_ble_eq_true rfl, Nat.le_of_ble_eq_true rfl⟩, Nat.le_of_ble_eq_true rfl, Nat.le_of_ble_eq_true rfl⟩ (Nat.le_of_ble_eq_true rfl) dX5_letRise_72 ?_
        refine g_goto C (tgt := 91) dX5_letRise_75 (by decide) ?_
        refine g_iinc C dX5_letRise_91 rfl (nI_inc _) (by decide) rfl ?_
        refine g_goto C (tgt := 4) dX5_letRise_94 (by decide) ?_
        exact G_forget 4 (G_forget 3 (G_cast (ls2 := [some (rf E 127), some (.int (nI (lrI n (i4 + 1) I).2)), some (.int (nI (i4 + 1))), none, none]) (st2 := []) ih4 (by rw [lrI_s]; generalize lrI n i4 I = J9 at *; unfold lrB; rw [hx4, hixj]; (try first | rw [if_pos c33] | rw [if_neg c33] | rw [if_neg (show ¬ _ = true by rw [c33]; decide)]); (try first | rw [if_pos c51] | rw [if_neg c51] | rw [if_neg (show ¬ _ = true by rw [c51]; decide)]); try rfl) rfl (by rw [lrI_s]; generalize lrI n i4 I = J9 at *; unfold lrB; rw [hx4, hixj]; (try first | rw [if_pos c33] | rw [if_neg c33] | rw [if_neg (show ¬ _ = true by rw [c33]; decide)]); (try first | rw [if_pos c51] | rw [if_neg c51] | rw [if_neg (show ¬ _ = true by rw [c51]; decide)]); try rfl) rfl))
  · skip
    obtain ⟨hle, hin⟩ := lrI_inv n I w hw8
    have hwJ : (lrI n w I).1 128 7 = nI w := by rw [hin 7 (by omega)]; exact hw
    refine g_iload_n C dX5_letRise_4 rfl rfl ?_
    refine g_aload_n C dX5_letRise_5 rfl rfl ?_
    refine gfX5_7 C (by decide) hl.mstate dX5_letRise_6 ?_
    refine g_bipush C (v := 7) dX5_letRise_9 (by decide) ?_
    refine g_iald_j C (show ar NT 128 7 96 by decide) 7 rfl (by decide) (by decide) dX5_letRise_11 ?_
    refine g_icmp_ge C (tgt := 97) dX5_letRise_12 (by decide) (fun _ => ?_) (fun c12 => absurd (nI_lee hwJ) c12)
    refine g_aload_n C dX5_letRise_97 rfl rfl ?_
    refine gfX5_7 C (by decide) hl.mstate dX5_letRise_98 ?_
    refine g_bipush C (v := 7) dX5_letRise_101 (by decide) ?_
    refine g_iload_n C dX5_letRise_103 rfl rfl ?_
    refine g_iast_j C (show ar NT 128 7 96 by decide) 7 rfl (by decide) (by decide) dX5_letRise_104 ?_
    exact g_vret C hr dX5_letRise_105 ⟨rfl, rfl, rfl⟩

set_option maxRecDepth 100000 in
set_option maxHeartbeats 800000 in
theorem tX5_tick {l : Launch} {E : EE} {I : Mi} {F : Mr} (hl : LY F) (hT : TI I)  : CtF l E mX5_tick [rf E 127] NT I F NT none (tkM I) F := by
  obtain ⟨n, w, w2, hn8, hn, hw8, hw, hw28, hw2, hQ⟩ := hT
  have e1 : nvM I n 128 2 = nI n := by rw [nvM_lo (by decide) (by decide)]; exact hn
  have e2 : faM (nvM I n) n 128 2 = nI n := by rw [faM_lo (by decide) (by decide)]; exact e1
  have e3 : riM (faM (nvM I n) n) n 128 2 = nI n := by rw [riM_lo (by decide)]; exact e2
  have e3w : riM (faM (nvM I n) n) n 128 7 = nI w := by rw [riM_lo (by decide), faM_lo (by decide) (by decide), nvM_lo (by decide) (by decide)]; exact hw
  have e4 : preM I n 128 2 = nI n := by unfold preM; rw [akM_lo (by decide)]; exact e3
  have e5 : up (letM (preM I n) n w2) 128 3 (letM (preM I n) n w2 128 3 + 1) 128 2 = nI n := by rw [up_j (by decide), letM_lo hw28 (by decide)]; exact e4
  have en : ix (I 128 2) = n := by rw [hn]; exact nI_clamp (by omega)
  have ew : ix (preM I n 128 7) = w2 := by rw [hw2]; exact nI_clamp (by omega)
  have eT : tkM I = up (up (letM (preM I n) n w2) 128 3 (letM (preM I n) n w2 128 3 + 1)) 128 6 (if rlM (up (letM (preM I n) n w2) 128 3 (letM (preM I n) n w2 128 3 + 1)) n ≤ up (letM (preM I n) n w2) 128 3 (letM (preM I n) n w2 128 3 + 1) 128 6 then up (letM (preM I n) n w2) 128 3 (letM (preM I n) n w2 128 3 + 1) 128 6 else rlM (up (letM (preM I n) n w2) 128 3 (letM (preM I n) n w2 128 3 + 1)) n) := by simp only [tkM, en, ew]
  refine CtF_of [some (rf E 127)] (by decide) rfl (Nat.le_of_ble_eq_true rfl) rfl (fun p e s m args below meth c C hr hname => ?_)
  refine g_aload_n C dX5_tick_0 rfl rfl ?_
  refine kX5_86 C (by decide) (tX5_newValues hl hn8 hn) ⟨⟨Nat.le_of_ble_eq_true rfl, Nat.le_of_ble_eq_true rfl⟩, Nat.le_of_ble_eq_true rfl, Nat.le_of_ble_eq_true rfl⟩ (Nat.le_of_ble_eq_true rfl) dX5_tick_1 ?_
  refine g_aload_n C dX5_tick_4 rfl rfl ?_
  refine kX5_89 C (by decide) (tX5_fallAsleep hl hn8 e1) ⟨⟨Nat.le_of_ble_eq_true rfl, Nat.le_of_ble_eq_true rfl⟩, Nat.le_of_ble_eq_true rfl, Nat.le_of_ble_eq_true rfl⟩ (Nat.le_of_ble_eq_true rfl) dX5_tick_5 ?_
  refine g_aload_n C dX5_tick_8 rfl rfl ?_
  refine kX5_92 C (by decide) (tX5_riseOn hl hn8 e2) ⟨⟨Nat.le_of_ble_eq_true rfl, Nat.le_of_ble_eq_true rfl⟩, Nat.le_of_ble_eq_true rfl, Nat.le_of_ble_eq_true rfl⟩ (Nat.le_of_ble_eq_true rfl) dX5_tick_9 ?_
  refine g_aload_n C dX5_tick_12 rfl rfl ?_
  refine kX5_95 C (by decide) (tX5_ask hl hn8 e3 hw8 e3w) ⟨⟨Nat.le_of_ble_eq_true rfl, Nat.le_of_ble_eq_true rfl⟩, Nat.le_of_ble_eq_true rfl, Nat.le_of_ble_eq_true rfl⟩ (Nat.le_of_ble_eq_true rfl) dX5_tick_13 ?_
  refine g_aload_n C dX5_tick_16 rfl rfl ?_
  refine kX5_98 C (by decide) (tX5_letRise hl hn8 e4 hw28 hw2 hQ) ⟨⟨Nat.le_of_ble_eq_true rfl, Nat.le_of_ble_eq_true rfl⟩, Nat.le_of_ble_eq_true rfl, Nat.le_of_ble_eq_true rfl⟩ (Nat.le_of_ble_eq_true rfl) dX5_tick_17 ?_
  refine g_aload_n C dX5_tick_20 rfl rfl ?_
  refine gfX5_7 C (by decide) hl.mstate dX5_tick_21 ?_
  refine g_iconst C (v := 3) dX5_tick_24 (by decide) ?_
  refine g_dup2_11 C dX5_tick_25 rfl rfl ?_
  refine g_iald_j C (show ar NT 128 7 96 by decide) 3 rfl (by decide) (by decide) dX5_tick_26 ?_
  refine g_iconst C (v := 1) dX5_tick_27 (by decide) ?_
  refine g_iadd C dX5_tick_28 ?_
  refine g_iast_j C (show ar NT 128 7 96 by decide) 3 rfl (by decide) (by decide) dX5_tick_29 ?_
  refine g_aload_n C dX5_tick_30 rfl rfl ?_
  refine gfX5_7 C (by decide) hl.mstate dX5_tick_31 ?_
  refine g_bipush C (v := 6) dX5_tick_34 (by decide) ?_
  refine g_aload_n C dX5_tick_36 rfl rfl ?_
  refine kX5_82 C (by decide) (tX5_risingLoad hl hn8 e5) ⟨⟨Nat.le_of_ble_eq_true rfl, Nat.le_of_ble_eq_true rfl⟩, Nat.le_of_ble_eq_true rfl, Nat.le_of_ble_eq_true rfl⟩ (Nat.le_of_ble_eq_true rfl) dX5_tick_37 ?_
  refine g_aload_n C dX5_tick_40 rfl rfl ?_
  refine gfX5_7 C (by decide) hl.mstate dX5_tick_41 ?_
  refine g_bipush C (v := 6) dX5_tick_44 (by decide) ?_
  refine g_iald_j C (show ar NT 128 7 96 by decide) 6 rfl (by decide) (by decide) dX5_tick_46 ?_
  refine g_icmp_le C (tgt := 57) dX5_tick_47 (by decide) (fun c47 => ?_) (fun c47 => ?_)
  · skip
    refine g_aload_n C dX5_tick_57 rfl rfl ?_
    refine gfX5_7 C (by decide) hl.mstate dX5_tick_58 ?_
    refine g_bipush C (v := 6) dX5_tick_61 (by decide) ?_
    refine g_iald_j C (show ar NT 128 7 96 by decide) 6 rfl (by decide) (by decide) dX5_tick_63 ?_
    refine g_iast_j C (show ar NT 128 7 96 by decide) 6 rfl (by decide) (by decide) dX5_tick_64 ?_
    exact g_vret C hr dX5_tick_65 ⟨rfl, by rw [eT]; (try first | rw [if_pos c47] | rw [if_neg c47] | rw [if_neg (show ¬ _ = true by rw [c47]; decide)]); try rfl, rfl⟩
  · skip
    refine g_aload_n C dX5_tick_50 rfl rfl ?_
    refine kX5_82 C (by decide) (tX5_risingLoad hl hn8 e5) ⟨⟨Nat.le_of_ble_eq_true rfl, Nat.le_of_ble_eq_true rfl⟩, Nat.le_of_ble_eq_true rfl, Nat.le_of_ble_eq_true rfl⟩ (Nat.le_of_ble_eq_true rfl) dX5_tick_51 ?_
    refine g_goto C (tgt := 64) dX5_tick_54 (by decide) ?_
    refine g_iast_j C (show ar NT 128 7 96 by decide) 6 rfl (by decide) (by decide) dX5_tick_64 ?_
    exact g_vret C hr dX5_tick_65 ⟨rfl, by rw [eT]; (try first | rw [if_pos c47] | rw [if_neg c47] | rw [if_neg (show ¬ _ = true by rw [c47]; decide)]); try rfl, rfl⟩

set_option maxRecDepth 100000 in
set_option maxHeartbeats 800000 in
theorem tX5_passes {l : Launch} {E : EE} {I : Mi} {F : Mr} (hl : LY F) {t9 : Nat} (ht : t9 < 2147483648) (hT : ∀ k, k < t9 → TI (psM I k))  : CtF l E mX5_passes [rf E 127, .int (nI t9)] NT I F NT (some (.int (psM I t9 128 4 - I 128 4))) (psM I t9) F := by
  refine CtF_of [some (rf E 127), some (.int (nI t9)), none, none] (by decide) rfl (Nat.le_of_ble_eq_true rfl) rfl (fun p e s m args below meth c C hr hname => ?_)
  refine g_aload_n C dX5_passes_0 rfl rfl ?_
  refine gfX5_7 C (by decide) hl.mstate dX5_passes_1 ?_
  refine g_iconst C (v := 4) dX5_passes_4 (by decide) ?_
  refine g_iald_j C (show ar NT 128 7 96 by decide) 4 rfl (by decide) (by decide) dX5_passes_5 ?_
  refine g_istore_n C dX5_passes_6 rfl (by decide) rfl ?_
  refine g_iconst C (v := 0) dX5_passes_7 (by decide) ?_
  refine g_istore_n C dX5_passes_8 rfl (by decide) rfl ?_
  refine G_loop (n := t9) (fun i => [some (rf E 127), some (.int (nI t9)), some (.int (I 128 4)), some (.int (nI i))]) (fun i => psM I i) (fun _ => F) rfl rfl rfl ?_ ?_
  · intro i9 hi9 ih9
    refine g_iload_n C dX5_passes_9 rfl rfl ?_
    refine g_iload_n C dX5_passes_10 rfl rfl ?_
    refine g_icmp_ge C (tgt := 24) dX5_passes_11 (by decide) (fun c11 => absurd c11 (nI_nge rfl hi9 ht)) (fun _ => ?_)
    refine g_aload_n C dX5_passes_14 rfl rfl ?_
    refine kX5_101 C (by decide) (tX5_tick hl (hT _ hi9)) ⟨⟨Nat.le_of_ble_eq_true rfl, Nat.le_of_ble_eq_true rfl⟩, Nat.le_of_ble_eq_true rfl, Nat.le_of_ble_eq_true rfl⟩ (Nat.le_of_ble_eq_true rfl) dX5_passes_15 ?_
    refine g_iinc C dX5_passes_18 rfl (nI_inc _) (by decide) rfl ?_
    refine g_goto C (tgt := 9) dX5_passes_21 (by decide) ?_
    exact G_cast ih9 (psM_s _ _).symm rfl rfl rfl
  · skip
    refine g_iload_n C dX5_passes_9 rfl rfl ?_
    refine g_iload_n C dX5_passes_10 rfl rfl ?_
    refine g_icmp_ge C (tgt := 24) dX5_passes_11 (by decide) (fun _ => ?_) (fun c11 => absurd (nI_lee rfl) c11)
    refine g_aload_n C dX5_passes_24 rfl rfl ?_
    refine gfX5_7 C (by decide) hl.mstate dX5_passes_25 ?_
    refine g_iconst C (v := 4) dX5_passes_28 (by decide) ?_
    refine g_iald_j C (show ar NT 128 7 96 by decide) 4 rfl (by decide) (by decide) dX5_passes_29 ?_
    refine g_iload_n C dX5_passes_30 rfl rfl ?_
    refine g_isub C dX5_passes_31 ?_
    exact g_iret C hr dX5_passes_32 ⟨rfl, rfl, rfl⟩

