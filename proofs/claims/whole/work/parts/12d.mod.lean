/-! the reference: undo, slots, what if -/
def yUndo (I : Mi) (k : Nat) : Int32 × Mi := (nI k, mvM 130 (k * 96) 128 0 (up I 127 3 (nI k)))
def ySave (I : Mi) (z : Nat) : Int32 × Mi := (up (mvM 128 0 131 (96 * z) I) 132 z 1 128 2, up (mvM 128 0 131 (96 * z) I) 132 z 1)
def yRest (I : Mi) (k z : Nat) : Int32 × Mi := if I 132 z = 0 then (-5, I) else (mvM 131 (96 * z) 128 0 (recM I k) 128 2, mvM 131 (96 * z) 128 0 (recM I k))
def yPass (I : Mi) (k t : Nat) : Int32 × Mi := (psM (recM I k) t 128 4 - recM I k 128 4, psM (recM I k) t)
def ip0 (I : Mi) : Mi := up (mvM 128 0 129 0 I) 128 6 0
def yIfP (I : Mi) (n t : Nat) (v : Int32) : Int32 × Mi := if isW v 0 3 = true then
    (if v = 0 then (psM (ip0 I) t 128 4 - ip0 I 128 4, mvM 129 0 128 0 (psM (ip0 I) t))
     else if v = 1 then (setM (psM (ip0 I) t) n 0, mvM 129 0 128 0 (psM (ip0 I) t))
     else if v = 2 then (psM (ip0 I) t 128 6, mvM 129 0 128 0 (psM (ip0 I) t))
     else (sumM (psM (ip0 I) t) n, mvM 129 0 128 0 (psM (ip0 I) t)))
  else (-2, I)
def allM (I : Mi) (n : Nat) : Bool := decide (setM I n 0 = ((1 : Int32) <<< (nI n &&& 31)) - 1)
def awB (i : Nat) (J : Mi) : Mi := if decide (pt J i 7 = 2) = true then wtM J i (ix (J 128 7)) else J
def aw1 (I : Mi) (cur : Int32) : Mi := up (mvM 128 0 129 0 I) 128 0 cur
def aw0 (I : Mi) (cur : Int32) (n : Nat) : Mi := lp awB n (aw1 I cur)
def aaR (n : Nat) : Nat → Nat → Mi → Int32 × Mi
  | 0, d, J => if allM J n = true then (nI d, J) else (-6, J)
  | k + 1, d, J => if allM J n = true then (nI d, J) else aaR n k (d + 1) (tkM J)
def yAa (I : Mi) (cur : Int32) (n : Nat) : Int32 × Mi := ((aaR n 200 0 (aw0 I cur n)).1, mvM 129 0 128 0 (aaR n 200 0 (aw0 I cur n)).2)
/-- what the reference's allAwake needs of the state -/
def AWok (I : Mi) (cur : Int32) (n : Nat) : Prop := (∀ k, k < 200 → TI (psM (aw0 I cur n) k)) ∧ ∀ k, k ≤ 200 → psM (aw0 I cur n) k 128 2 = nI n
theorem awB_lo {i : Nat} {J : Mi} {y : Nat} (hy : y < 7) : awB i J 128 y = J 128 y := by
  unfold awB; split
  · exact wtM_lo hy
  · rfl
theorem awB_inv {i w : Nat} {J : Mi} (h : ∃ v, v ≤ w + i ∧ J 128 7 = nI v) (hw : w + i < 2147483648) : ∃ v, v ≤ w + (i + 1) ∧ awB i J 128 7 = nI v := by
  obtain ⟨v, hv, e⟩ := h
  unfold awB
  split
  · refine ⟨v + 1, by omega, ?_⟩
    rw [wtM_7, e, show ix (nI v) = v from nI_clamp (by omega)]
  · exact ⟨v, by omega, e⟩
theorem psM_0 (I : Mi) : psM I 0 = I := rfl
def yLc (m n : Nat) : Nat → Nat → Mi → Int32 × Mi
  | 0, _, J => (-6, J)
  | k + 1, c, J => if (yAa J (nI (c + 1)) n).1 = -6 then yLc m n k (c + 1) (yAa J (nI (c + 1)) n).2
    else if nI m < (yAa J (nI (c + 1)) n).1 then yLc m n k (c + 1) (yAa J (nI (c + 1)) n).2 else (nI (c + 1), (yAa J (nI (c + 1)) n).2)
def lcS (n : Nat) (I : Mi) (i : Nat) : Mi := lp (fun c J => (yAa J (nI (c + 1)) n).2) i I
theorem lcS_s (n : Nat) (I : Mi) (i : Nat) : lcS n I (i + 1) = (yAa (lcS n I i) (nI (i + 1)) n).2 := by unfold lcS; rw [lp]
theorem lcS_0 (n : Nat) (I : Mi) : lcS n I 0 = I := rfl
def q0M (J : Mi) (i : Nat) : Mi := sp (mvM 128 0 129 0 J) i 7 1
def quM (t i : Nat) (p : Int32 × Mi) : Int32 × Mi := if decide (pt p.2 i 7 = 0) = true then (p.1 ||| (if psM (q0M p.2 i) t 128 4 - q0M p.2 i 128 4 = 0 then sh1 i else 0), mvM 129 0 128 0 (psM (q0M p.2 i) t)) else p
def quS (I : Mi) (t i : Nat) : Int32 × Mi := lp (quM t) i (0, I)
theorem quS_s (I : Mi) (t i : Nat) : quS I t (i + 1) = quM t i (quS I t i) := by unfold quS; rw [lp]
theorem quS_0 (I : Mi) (t : Nat) : quS I t 0 = (0, I) := rfl

set_option maxRecDepth 100000 in
set_option maxHeartbeats 800000 in
theorem tX5_undo_no {l : Launch} {E : EE} {I : Mi} {F : Mr} (hl : LY F) (hk0 : I 127 3 = 0)  : CtF l E mX5_undo [rf E 127] NT I F NT (some (.int (-5))) I F := by
  refine CtF_of [some (rf E 127)] (by decide) rfl (Nat.le_of_ble_eq_true rfl) rfl (fun p e s m args below meth c C hr hname => ?_)
  refine g_aload_n C dX5_undo_0 rfl rfl ?_
  refine gfX5_34 C (by decide) dX5_undo_1 ?_
  refine g_if_ne C (tgt := 10) dX5_undo_4 (by decide) (fun c4 => absurd c4 (fun q => q hk0)) (fun _ => ?_)
  refine g_bipush C (v := (-5)) dX5_undo_7 (by decide) ?_
  exact g_iret C hr dX5_undo_9 ⟨rfl, rfl, rfl⟩

set_option maxRecDepth 100000 in
set_option maxHeartbeats 800000 in
theorem tX5_undo {l : Launch} {E : EE} {I : Mi} {F : Mr} (hl : LY F) {k : Nat} (hk9 : k < 6) (hk : I 127 3 = nI (k + 1))  : CtF l E mX5_undo [rf E 127] NT I F NT (some (.int (yUndo I k).1)) ((yUndo I k).2) F := by
  refine CtF_of [some (rf E 127)] (by decide) rfl (Nat.le_of_ble_eq_true rfl) rfl (fun p e s m args below meth c C hr hname => ?_)
  refine g_aload_n C dX5_undo_0 rfl rfl ?_
  refine gfX5_34 C (by decide) dX5_undo_1 ?_
  rw [hk]
  refine g_if_ne C (tgt := 10) dX5_undo_4 (by decide) (fun _ => ?_) (fun c4 => absurd c4 (nI_ne0 (by omega) (by omega)))
  refine g_aload_n C dX5_undo_10 rfl rfl ?_
  refine g_dup C dX5_undo_11 rfl ?_
  refine gfX5_34 C (by decide) dX5_undo_12 ?_
  rw [hk]
  refine g_iconst C (v := 1) dX5_undo_15 (by decide) ?_
  refine g_isub C dX5_undo_16 ?_
  rw [nI_pred]
  refine pfX5_34 C (by decide) dX5_undo_17 ?_
  refine g_aload_n C dX5_undo_20 rfl rfl ?_
  refine gfX5_16 C (by decide) hl.mhist dX5_undo_21 ?_
  refine g_aload_n C dX5_undo_24 rfl rfl ?_
  refine gfX5_34 C (by decide) dX5_undo_25 ?_
  rw [show up I 127 3 (nI k) 127 3 = nI k from by simp [up]]
  refine g_bipush C (v := 96) dX5_undo_28 (by decide) ?_
  refine g_imul C dX5_undo_30 ?_
  refine g_aload_n C dX5_undo_31 rfl rfl ?_
  refine gfX5_7 C (by decide) hl.mstate dX5_undo_32 ?_
  refine g_iconst C (v := 0) dX5_undo_35 (by decide) ?_
  rw [show nI k * 96 = nI (k * 96) from pk_mul k 96]
  refine kX5_38 C (by decide) (tX5_moves (f := k * 96) (t := 0) (show ar NT 130 7 576 by decide) (show ar NT 128 7 96 by decide) (by omega) (by omega) (by decide)) ⟨⟨Nat.le_of_ble_eq_true rfl, Nat.le_of_ble_eq_true rfl⟩, Nat.le_of_ble_eq_true rfl, Nat.le_of_ble_eq_true rfl⟩ (Nat.le_of_ble_eq_true rfl) dX5_undo_36 ?_
  refine g_aload_n C dX5_undo_39 rfl rfl ?_
  refine gfX5_34 C (by decide) dX5_undo_40 ?_
  rw [mvM_ne (by decide), show up I 127 3 (nI k) 127 3 = nI k from by simp [up]]
  exact g_iret C hr dX5_undo_43 ⟨by unfold yUndo; skip; try rfl, by unfold yUndo; skip; try rfl, rfl⟩

set_option maxRecDepth 100000 in
set_option maxHeartbeats 800000 in
theorem tX5_save0 {l : Launch} {E : EE} {I : Mi} {F : Mr} (hl : LY F)  : CtF l E mX5_save [rf E 127, .int 0] NT I F NT (some (.int (ySave I 0).1)) ((ySave I 0).2) F := by
  refine CtF_of [some (rf E 127), some (.int 0)] (by decide) rfl (Nat.le_of_ble_eq_true rfl) rfl (fun p e s m args below meth c C hr hname => ?_)
  refine g_iload_n C dX5_save_0 rfl rfl ?_
  refine g_iconst C (v := 0) dX5_save_1 (by decide) ?_
  refine g_iconst C (v := 1) dX5_save_2 (by decide) ?_
  refine kX5_42 C (by decide) (tX5_within _ _ _) ⟨⟨Nat.le_of_ble_eq_true rfl, Nat.le_of_ble_eq_true rfl⟩, Nat.le_of_ble_eq_true rfl, Nat.le_of_ble_eq_true rfl⟩ (Nat.le_of_ble_eq_true rfl) dX5_save_3 ?_
  refine g_ifne_b C (tgt := 12) dX5_save_6 (by decide) (fun _ => ?_) (fun c6 => (bt_f (by decide) c6).elim)
  refine g_aload_n C dX5_save_12 rfl rfl ?_
  refine gfX5_7 C (by decide) hl.mstate dX5_save_13 ?_
  refine g_iconst C (v := 0) dX5_save_16 (by decide) ?_
  refine g_aload_n C dX5_save_17 rfl rfl ?_
  refine gfX5_19 C (by decide) hl.mslots dX5_save_18 ?_
  refine g_bipush C (v := 96) dX5_save_21 (by decide) ?_
  refine g_iload_n C dX5_save_23 rfl rfl ?_
  refine g_imul C dX5_save_24 ?_
  rw [show (96 : Int32) * 0 = nI (96 * 0) from rfl]
  refine kX5_38 C (by decide) (tX5_moves (f := 0) (t := 96 * 0) (show ar NT 128 7 96 by decide) (show ar NT 131 7 192 by decide) (by omega) (by omega) (by decide)) ⟨⟨Nat.le_of_ble_eq_true rfl, Nat.le_of_ble_eq_true rfl⟩, Nat.le_of_ble_eq_true rfl, Nat.le_of_ble_eq_true rfl⟩ (Nat.le_of_ble_eq_true rfl) dX5_save_25 ?_
  refine g_aload_n C dX5_save_28 rfl rfl ?_
  refine gfX5_22 C (by decide) hl.misSaved dX5_save_29 ?_
  refine g_iload_n C dX5_save_32 rfl rfl ?_
  refine g_iconst C (v := 1) dX5_save_33 (by decide) ?_
  refine g_iast_j C (show ar NT 132 7 2 by decide) 0 rfl (by decide) (by decide) dX5_save_34 ?_
  refine g_aload_n C dX5_save_35 rfl rfl ?_
  refine gfX5_7 C (by decide) hl.mstate dX5_save_36 ?_
  refine g_iconst C (v := 2) dX5_save_39 (by decide) ?_
  refine g_iald_j C (show ar NT 128 7 96 by decide) 2 rfl (by decide) (by decide) dX5_save_40 ?_
  exact g_iret C hr dX5_save_41 ⟨by unfold ySave; skip; try rfl, by unfold ySave; skip; try rfl, rfl⟩

set_option maxRecDepth 100000 in
set_option maxHeartbeats 800000 in
theorem tX5_restore0 {l : Launch} {E : EE} {I : Mi} {F : Mr} (hl : LY F) {k : Nat} (hk6 : k ≤ 6) (hk : I 127 3 = nI k)  : CtF l E mX5_restore [rf E 127, .int 0] NT I F NT (some (.int (yRest I k 0).1)) ((yRest I k 0).2) F := by
  refine CtF_of [some (rf E 127), some (.int 0)] (by decide) rfl (Nat.le_of_ble_eq_true rfl) rfl (fun p e s m args below meth c C hr hname => ?_)
  refine g_iload_n C dX5_restore_0 rfl rfl ?_
  refine g_iconst C (v := 0) dX5_restore_1 (by decide) ?_
  refine g_iconst C (v := 1) dX5_restore_2 (by decide) ?_
  refine kX5_42 C (by decide) (tX5_within _ _ _) ⟨⟨Nat.le_of_ble_eq_true rfl, Nat.le_of_ble_eq_true rfl⟩, Nat.le_of_ble_eq_true rfl, Nat.le_of_ble_eq_true rfl⟩ (Nat.le_of_ble_eq_true rfl) dX5_restore_3 ?_
  refine g_ifne_b C (tgt := 12) dX5_restore_6 (by decide) (fun _ => ?_) (fun c6 => (bt_f (by decide) c6).elim)
  refine g_aload_n C dX5_restore_12 rfl rfl ?_
  refine gfX5_22 C (by decide) hl.misSaved dX5_restore_13 ?_
  refine g_iload_n C dX5_restore_16 rfl rfl ?_
  refine g_iald_j C (show ar NT 132 7 2 by decide) 0 rfl (by decide) (by decide) dX5_restore_17 ?_
  refine g_if_ne C (tgt := 24) dX5_restore_18 (by decide) (fun c18 => ?_) (fun c18 => ?_)
  · skip
    refine g_aload_n C dX5_restore_24 rfl rfl ?_
    refine kX5_107 C (by decide) (tX5_record hl hk6 hk) ⟨⟨Nat.le_of_ble_eq_true rfl, Nat.le_of_ble_eq_true rfl⟩, Nat.le_of_ble_eq_true rfl, Nat.le_of_ble_eq_true rfl⟩ (Nat.le_of_ble_eq_true rfl) dX5_restore_25 ?_
    refine g_aload_n C dX5_restore_28 rfl rfl ?_
    refine gfX5_19 C (by decide) hl.mslots dX5_restore_29 ?_
    refine g_bipush C (v := 96) dX5_restore_32 (by decide) ?_
    refine g_iload_n C dX5_restore_34 rfl rfl ?_
    refine g_imul C dX5_restore_35 ?_
    refine g_aload_n C dX5_restore_36 rfl rfl ?_
    refine gfX5_7 C (by decide) hl.mstate dX5_restore_37 ?_
    refine g_iconst C (v := 0) dX5_restore_40 (by decide) ?_
    rw [show (96 : Int32) * 0 = nI (96 * 0) from rfl]
    refine kX5_38 C (by decide) (tX5_moves (f := 96 * 0) (t := 0) (show ar NT 131 7 192 by decide) (show ar NT 128 7 96 by decide) (by omega) (by omega) (by decide)) ⟨⟨Nat.le_of_ble_eq_true rfl, Nat.le_of_ble_eq_true rfl⟩, Nat.le_of_ble_eq_true rfl, Nat.le_of_ble_eq_true rfl⟩ (Nat.le_of_ble_eq_true rfl) dX5_restore_41 ?_
    refine g_aload_n C dX5_restore_44 rfl rfl ?_
    refine gfX5_7 C (by decide) hl.mstate dX5_restore_45 ?_
    refine g_iconst C (v := 2) dX5_restore_48 (by decide) ?_
    refine g_iald_j C (show ar NT 128 7 96 by decide) 2 rfl (by decide) (by decide) dX5_restore_49 ?_
    exact g_iret C hr dX5_restore_50 ⟨by unfold yRest; (try first | rw [if_pos c18] | rw [if_neg c18] | rw [if_neg (show ¬ _ = true by rw [c18]; decide)]); try rfl, by unfold yRest; (try first | rw [if_pos c18] | rw [if_neg c18] | rw [if_neg (show ¬ _ = true by rw [c18]; decide)]); try rfl, rfl⟩
  · skip
    refine g_bipush C (v := (-5)) dX5_restore_21 (by decide) ?_
    exact g_iret C hr dX5_restore_23 ⟨by unfold yRest; (try first | rw [if_pos c18] | rw [if_neg c18] | rw [if_neg (show ¬ _ = true by rw [c18]; decide)]); try rfl, by unfold yRest; (try first | rw [if_pos c18] | rw [if_neg c18] | rw [if_neg (show ¬ _ = true by rw [c18]; decide)]); try rfl, rfl⟩

set_option maxRecDepth 100000 in
set_option maxHeartbeats 800000 in
theorem tX5_save1 {l : Launch} {E : EE} {I : Mi} {F : Mr} (hl : LY F)  : CtF l E mX5_save [rf E 127, .int 1] NT I F NT (some (.int (ySave I 1).1)) ((ySave I 1).2) F := by
  refine CtF_of [some (rf E 127), some (.int 1)] (by decide) rfl (Nat.le_of_ble_eq_true rfl) rfl (fun p e s m args below meth c C hr hname => ?_)
  refine g_iload_n C dX5_save_0 rfl rfl ?_
  refine g_iconst C (v := 0) dX5_save_1 (by decide) ?_
  refine g_iconst C (v := 1) dX5_save_2 (by decide) ?_
  refine kX5_42 C (by decide) (tX5_within _ _ _) ⟨⟨Nat.le_of_ble_eq_true rfl, Nat.le_of_ble_eq_true rfl⟩, Nat.le_of_ble_eq_true rfl, Nat.le_of_ble_eq_true rfl⟩ (Nat.le_of_ble_eq_true rfl) dX5_save_3 ?_
  refine g_ifne_b C (tgt := 12) dX5_save_6 (by decide) (fun _ => ?_) (fun c6 => (bt_f (by decide) c6).elim)
  refine g_aload_n C dX5_save_12 rfl rfl ?_
  refine gfX5_7 C (by decide) hl.mstate dX5_save_13 ?_
  refine g_iconst C (v := 0) dX5_save_16 (by decide) ?_
  refine g_aload_n C dX5_save_17 rfl rfl ?_
  refine gfX5_19 C (by decide) hl.mslots dX5_save_18 ?_
  refine g_bipush C (v := 96) dX5_save_21 (by decide) ?_
  refine g_iload_n C dX5_save_23 rfl rfl ?_
  refine g_imul C dX5_save_24 ?_
  rw [show (96 : Int32) * 1 = nI (96 * 1) from rfl]
  refine kX5_38 C (by decide) (tX5_moves (f := 0) (t := 96 * 1) (show ar NT 128 7 96 by decide) (show ar NT 131 7 192 by decide) (by omega) (by omega) (by decide)) ⟨⟨Nat.le_of_ble_eq_true rfl, Nat.le_of_ble_eq_true rfl⟩, Nat.le_of_ble_eq_true rfl, Nat.le_of_ble_eq_true rfl⟩ (Nat.le_of_ble_eq_true rfl) dX5_save_25 ?_
  refine g_aload_n C dX5_save_28 rfl rfl ?_
  refine gfX5_22 C (by decide) hl.misSaved dX5_save_29 ?_
  refine g_iload_n C dX5_save_32 rfl rfl ?_
  refine g_iconst C (v := 1) dX5_save_33 (by decide) ?_
  refine g_iast_j C (show ar NT 132 7 2 by decide) 1 rfl (by decide) (by decide) dX5_save_34 ?_
  refine g_aload_n C dX5_save_35 rfl rfl ?_
  refine gfX5_7 C (by decide) hl.mstate dX5_save_36 ?_
  refine g_iconst C (v := 2) dX5_save_39 (by decide) ?_
  refine g_iald_j C (show ar NT 128 7 96 by decide) 2 rfl (by decide) (by decide) dX5_save_40 ?_
  exact g_iret C hr dX5_save_41 ⟨by unfold ySave; skip; try rfl, by unfold ySave; skip; try rfl, rfl⟩

set_option maxRecDepth 100000 in
set_option maxHeartbeats 800000 in
theorem tX5_restore1 {l : Launch} {E : EE} {I : Mi} {F : Mr} (hl : LY F) {k : Nat} (hk6 : k ≤ 6) (hk : I 127 3 = nI k)  : CtF l E mX5_restore [rf E 127, .int 1] NT I F NT (some (.int (yRest I k 1).1)) ((yRest I k 1).2) F := by
  refine CtF_of [some (rf E 127), some (.int 1)] (by decide) rfl (Nat.le_of_ble_eq_true rfl) rfl (fun p e s m args below meth c C hr hname => ?_)
  refine g_iload_n C dX5_restore_0 rfl rfl ?_
  refine g_iconst C (v := 0) dX5_restore_1 (by decide) ?_
  refine g_iconst C (v := 1) dX5_restore_2 (by decide) ?_
  refine kX5_42 C (by decide) (tX5_within _ _ _) ⟨⟨Nat.le_of_ble_eq_true rfl, Nat.le_of_ble_eq_true rfl⟩, Nat.le_of_ble_eq_true rfl, Nat.le_of_ble_eq_true rfl⟩ (Nat.le_of_ble_eq_true rfl) dX5_restore_3 ?_
  refine g_ifne_b C (tgt := 12) dX5_restore_6 (by decide) (fun _ => ?_) (fun c6 => (bt_f (by decide) c6).elim)
  refine g_aload_n C dX5_restore_12 rfl rfl ?_
  refine gfX5_22 C (by decide) hl.misSaved dX5_restore_13 ?_
  refine g_iload_n C dX5_restore_16 rfl rfl ?_
  refine g_iald_j C (show ar NT 132 7 2 by decide) 1 rfl (by decide) (by decide) dX5_restore_17 ?_
  refine g_if_ne C (tgt := 24) dX5_restore_18 (by decide) (fun c18 => ?_) (fun c18 => ?_)
  · skip
    refine g_aload_n C dX5_restore_24 rfl rfl ?_
    refine kX5_107 C (by decide) (tX5_record hl hk6 hk) ⟨⟨Nat.le_of_ble_eq_true rfl, Nat.le_of_ble_eq_true rfl⟩, Nat.le_of_ble_eq_true rfl, Nat.le_of_ble_eq_true rfl⟩ (Nat.le_of_ble_eq_true rfl) dX5_restore_25 ?_
    refine g_aload_n C dX5_restore_28 rfl rfl ?_
    refine gfX5_19 C (by decide) hl.mslots dX5_restore_29 ?_
    refine g_bipush C (v := 96) dX5_restore_32 (by decide) ?_
    refine g_iload_n C dX5_restore_34 rfl rfl ?_
    refine g_imul C dX5_restore_35 ?_
    refine g_aload_n C dX5_restore_36 rfl rfl ?_
    refine gfX5_7 C (by decide) hl.mstate dX5_restore_37 ?_
    refine g_iconst C (v := 0) dX5_restore_40 (by decide) ?_
    rw [show (96 : Int32) * 1 = nI (96 * 1) from rfl]
    refine kX5_38 C (by decide) (tX5_moves (f := 96 * 1) (t := 0) (show ar NT 131 7 192 by decide) (show ar NT 128 7 96 by decide) (by omega) (by omega) (by decide)) ⟨⟨Nat.le_of_ble_eq_true rfl, Nat.le_of_ble_eq_true rfl⟩, Nat.le_of_ble_eq_true rfl, Nat.le_of_ble_eq_true rfl⟩ (Nat.le_of_ble_eq_true rfl) dX5_restore_41 ?_
    refine g_aload_n C dX5_restore_44 rfl rfl ?_
    refine gfX5_7 C (by decide) hl.mstate dX5_restore_45 ?_
    refine g_iconst C (v := 2) dX5_restore_48 (by decide) ?_
    refine g_iald_j C (show ar NT 128 7 96 by decide) 2 rfl (by decide) (by decide) dX5_restore_49 ?_
    exact g_iret C hr dX5_restore_50 ⟨by unfold yRest; (try first | rw [if_pos c18] | rw [if_neg c18] | rw [if_neg (show ¬ _ = true by rw [c18]; decide)]); try rfl, by unfold yRest; (try first | rw [if_pos c18] | rw [if_neg c18] | rw [if_neg (show ¬ _ = true by rw [c18]; decide)]); try rfl, rfl⟩
  · skip
    refine g_bipush C (v := (-5)) dX5_restore_21 (by decide) ?_
    exact g_iret C hr dX5_restore_23 ⟨by unfold yRest; (try first | rw [if_pos c18] | rw [if_neg c18] | rw [if_neg (show ¬ _ = true by rw [c18]; decide)]); try rfl, by unfold yRest; (try first | rw [if_pos c18] | rw [if_neg c18] | rw [if_neg (show ¬ _ = true by rw [c18]; decide)]); try rfl, rfl⟩

set_option maxRecDepth 100000 in
set_option maxHeartbeats 800000 in
theorem tX5_save_no {l : Launch} {E : EE} {I : Mi} {F : Mr} (hl : LY F) (x : Int32) (hx : isW x 0 1 = false)  : CtF l E mX5_save [rf E 127, .int x] NT I F NT (some (.int (-2))) I F := by
  refine CtF_of [some (rf E 127), some (.int x)] (by decide) rfl (Nat.le_of_ble_eq_true rfl) rfl (fun p e s m args below meth c C hr hname => ?_)
  refine g_iload_n C dX5_save_0 rfl rfl ?_
  refine g_iconst C (v := 0) dX5_save_1 (by decide) ?_
  refine g_iconst C (v := 1) dX5_save_2 (by decide) ?_
  refine kX5_42 C (by decide) (tX5_within _ _ _) ⟨⟨Nat.le_of_ble_eq_true rfl, Nat.le_of_ble_eq_true rfl⟩, Nat.le_of_ble_eq_true rfl, Nat.le_of_ble_eq_true rfl⟩ (Nat.le_of_ble_eq_true rfl) dX5_save_3 ?_
  refine g_ifne_b C (tgt := 12) dX5_save_6 (by decide) (fun c6 => (bt_f c6 hx).elim) (fun c6 => ?_)
  refine g_bipush C (v := (-2)) dX5_save_9 (by decide) ?_
  exact g_iret C hr dX5_save_11 ⟨rfl, rfl, rfl⟩

set_option maxRecDepth 100000 in
set_option maxHeartbeats 800000 in
theorem tX5_restore_no {l : Launch} {E : EE} {I : Mi} {F : Mr} (hl : LY F) (x : Int32) (hx : isW x 0 1 = false)  : CtF l E mX5_restore [rf E 127, .int x] NT I F NT (some (.int (-2))) I F := by
  refine CtF_of [some (rf E 127), some (.int x)] (by decide) rfl (Nat.le_of_ble_eq_true rfl) rfl (fun p e s m args below meth c C hr hname => ?_)
  refine g_iload_n C dX5_restore_0 rfl rfl ?_
  refine g_iconst C (v := 0) dX5_restore_1 (by decide) ?_
  refine g_iconst C (v := 1) dX5_restore_2 (by decide) ?_
  refine kX5_42 C (by decide) (tX5_within _ _ _) ⟨⟨Nat.le_of_ble_eq_true rfl, Nat.le_of_ble_eq_true rfl⟩, Nat.le_of_ble_eq_true rfl, Nat.le_of_ble_eq_true rfl⟩ (Nat.le_of_ble_eq_true rfl) dX5_restore_3 ?_
  refine g_ifne_b C (tgt := 12) dX5_restore_6 (by decide) (fun c6 => (bt_f c6 hx).elim) (fun c6 => ?_)
  refine g_bipush C (v := (-2)) dX5_restore_9 (by decide) ?_
  exact g_iret C hr dX5_restore_11 ⟨rfl, rfl, rfl⟩

set_option maxRecDepth 100000 in
set_option maxHeartbeats 800000 in
theorem tX5_pass_no {l : Launch} {E : EE} {I : Mi} {F : Mr} (hl : LY F) (x : Int32) (hx : isW x 1 200 = false)  : CtF l E mX5_pass [rf E 127, .int x] NT I F NT (some (.int (-2))) I F := by
  refine CtF_of [some (rf E 127), some (.int x)] (by decide) rfl (Nat.le_of_ble_eq_true rfl) rfl (fun p e s m args below meth c C hr hname => ?_)
  refine g_iload_n C dX5_pass_0 rfl rfl ?_
  refine g_iconst C (v := 1) dX5_pass_1 (by decide) ?_
  refine g_sipush C (v := 200) dX5_pass_2 (by decide) ?_
  refine kX5_42 C (by decide) (tX5_within _ _ _) ⟨⟨Nat.le_of_ble_eq_true rfl, Nat.le_of_ble_eq_true rfl⟩, Nat.le_of_ble_eq_true rfl, Nat.le_of_ble_eq_true rfl⟩ (Nat.le_of_ble_eq_true rfl) dX5_pass_5 ?_
  refine g_ifne_b C (tgt := 14) dX5_pass_8 (by decide) (fun c8 => (bt_f c8 hx).elim) (fun c8 => ?_)
  refine g_bipush C (v := (-2)) dX5_pass_11 (by decide) ?_
  exact g_iret C hr dX5_pass_13 ⟨rfl, rfl, rfl⟩

set_option maxRecDepth 100000 in
set_option maxHeartbeats 800000 in
theorem tX5_leastCurrent_no {l : Launch} {E : EE} {I : Mi} {F : Mr} (hl : LY F) (x : Int32) (hx : isW x 0 200 = false)  : CtF l E mX5_leastCurrent [rf E 127, .int x] NT I F NT (some (.int (-2))) I F := by
  refine CtF_of [some (rf E 127), some (.int x), none, none] (by decide) rfl (Nat.le_of_ble_eq_true rfl) rfl (fun p e s m args below meth c C hr hname => ?_)
  refine g_iload_n C dX5_leastCurrent_0 rfl rfl ?_
  refine g_iconst C (v := 0) dX5_leastCurrent_1 (by decide) ?_
  refine g_sipush C (v := 200) dX5_leastCurrent_2 (by decide) ?_
  refine kX5_42 C (by decide) (tX5_within _ _ _) ⟨⟨Nat.le_of_ble_eq_true rfl, Nat.le_of_ble_eq_true rfl⟩, Nat.le_of_ble_eq_true rfl, Nat.le_of_ble_eq_true rfl⟩ (Nat.le_of_ble_eq_true rfl) dX5_leastCurrent_5 ?_
  refine g_ifne_b C (tgt := 14) dX5_leastCurrent_8 (by decide) (fun c8 => (bt_f c8 hx).elim) (fun c8 => ?_)
  refine g_bipush C (v := (-2)) dX5_leastCurrent_11 (by decide) ?_
  exact g_iret C hr dX5_leastCurrent_13 ⟨rfl, rfl, rfl⟩

set_option maxRecDepth 100000 in
set_option maxHeartbeats 800000 in
theorem tX5_quiet_no {l : Launch} {E : EE} {I : Mi} {F : Mr} (hl : LY F) (x : Int32) (hx : isW x 1 50 = false)  : CtF l E mX5_quiet [rf E 127, .int x] NT I F NT (some (.int (-2))) I F := by
  refine CtF_of [some (rf E 127), some (.int x), none, none] (by decide) rfl (Nat.le_of_ble_eq_true rfl) rfl (fun p e s m args below meth c C hr hname => ?_)
  refine g_iload_n C dX5_quiet_0 rfl rfl ?_
  refine g_iconst C (v := 1) dX5_quiet_1 (by decide) ?_
  refine g_bipush C (v := 50) dX5_quiet_2 (by decide) ?_
  refine kX5_42 C (by decide) (tX5_within _ _ _) ⟨⟨Nat.le_of_ble_eq_true rfl, Nat.le_of_ble_eq_true rfl⟩, Nat.le_of_ble_eq_true rfl, Nat.le_of_ble_eq_true rfl⟩ (Nat.le_of_ble_eq_true rfl) dX5_quiet_4 ?_
  refine g_ifne_b C (tgt := 13) dX5_quiet_7 (by decide) (fun c7 => (bt_f c7 hx).elim) (fun c7 => ?_)
  refine g_bipush C (v := (-2)) dX5_quiet_10 (by decide) ?_
  exact g_iret C hr dX5_quiet_12 ⟨rfl, rfl, rfl⟩

set_option maxRecDepth 100000 in
set_option maxHeartbeats 800000 in
theorem tX5_ifPassed_no {l : Launch} {E : EE} {I : Mi} {F : Mr} (hl : LY F) (x y : Int32) (hx : isW x 1 200 = false)  : CtF l E mX5_ifPassed [rf E 127, .int x, .int y] NT I F NT (some (.int (-2))) I F := by
  refine CtF_of [some (rf E 127), some (.int x), some (.int y), none, none] (by decide) rfl (Nat.le_of_ble_eq_true rfl) rfl (fun p e s m args below meth c C hr hname => ?_)
  refine g_iload_n C dX5_ifPassed_0 rfl rfl ?_
  refine g_iconst C (v := 1) dX5_ifPassed_1 (by decide) ?_
  refine g_sipush C (v := 200) dX5_ifPassed_2 (by decide) ?_
  refine kX5_42 C (by decide) (tX5_within _ _ _) ⟨⟨Nat.le_of_ble_eq_true rfl, Nat.le_of_ble_eq_true rfl⟩, Nat.le_of_ble_eq_true rfl, Nat.le_of_ble_eq_true rfl⟩ (Nat.le_of_ble_eq_true rfl) dX5_ifPassed_5 ?_
  refine g_ifeq_b C (tgt := 20) dX5_ifPassed_8 (by decide) (fun c8 => ?_) (fun c8 => (bt_f c8 hx).elim)
  refine g_bipush C (v := (-2)) dX5_ifPassed_20 (by decide) ?_
  exact g_iret C hr dX5_ifPassed_22 ⟨rfl, rfl, rfl⟩

set_option maxRecDepth 100000 in
set_option maxHeartbeats 800000 in
theorem tX5_pass {l : Launch} {E : EE} {I : Mi} {F : Mr} (hl : LY F) {k : Nat} (hk6 : k ≤ 6) (hk : I 127 3 = nI k) {t : Nat} (ht : t < 2147483648) (hx : isW (nI t) 1 200 = true) (hT : ∀ j, j < t → TI (psM (recM I k) j))  : CtF l E mX5_pass [rf E 127, .int (nI t)] NT I F NT (some (.int (yPass I k t).1)) ((yPass I k t).2) F := by
  refine CtF_of [some (rf E 127), some (.int (nI t))] (by decide) rfl (Nat.le_of_ble_eq_true rfl) rfl (fun p e s m args below meth c C hr hname => ?_)
  refine g_iload_n C dX5_pass_0 rfl rfl ?_
  refine g_iconst C (v := 1) dX5_pass_1 (by decide) ?_
  refine g_sipush C (v := 200) dX5_pass_2 (by decide) ?_
  refine kX5_42 C (by decide) (tX5_within _ _ _) ⟨⟨Nat.le_of_ble_eq_true rfl, Nat.le_of_ble_eq_true rfl⟩, Nat.le_of_ble_eq_true rfl, Nat.le_of_ble_eq_true rfl⟩ (Nat.le_of_ble_eq_true rfl) dX5_pass_5 ?_
  refine g_ifne_b C (tgt := 14) dX5_pass_8 (by decide) (fun _ => ?_) (fun c8 => (bt_f hx c8).elim)
  refine g_aload_n C dX5_pass_14 rfl rfl ?_
  refine kX5_107 C (by decide) (tX5_record hl hk6 hk) ⟨⟨Nat.le_of_ble_eq_true rfl, Nat.le_of_ble_eq_true rfl⟩, Nat.le_of_ble_eq_true rfl, Nat.le_of_ble_eq_true rfl⟩ (Nat.le_of_ble_eq_true rfl) dX5_pass_15 ?_
  refine g_aload_n C dX5_pass_18 rfl rfl ?_
  refine g_iload_n C dX5_pass_19 rfl rfl ?_
  refine kX5_153 C (by decide) (tX5_passes hl ht hT) ⟨⟨Nat.le_of_ble_eq_true rfl, Nat.le_of_ble_eq_true rfl⟩, Nat.le_of_ble_eq_true rfl, Nat.le_of_ble_eq_true rfl⟩ (Nat.le_of_ble_eq_true rfl) dX5_pass_20 ?_
  exact g_iret C hr dX5_pass_23 ⟨by unfold yPass; skip; try rfl, by unfold yPass; skip; try rfl, rfl⟩

set_option maxRecDepth 100000 in
set_option maxHeartbeats 800000 in
theorem tX5_ifPassed {l : Launch} {E : EE} {I : Mi} {F : Mr} (hl : LY F) {t : Nat} (ht : t < 2147483648) (hx : isW (nI t) 1 200 = true) {n : Nat} (hn8 : n ≤ 8) (hT : ∀ j, j < t → TI (psM (ip0 I) j)) (hn3 : psM (ip0 I) t 128 2 = nI n) (v : Int32)  : CtF l E mX5_ifPassed [rf E 127, .int (nI t), .int v] NT I F NT (some (.int (yIfP I n t v).1)) ((yIfP I n t v).2) F := by
  refine CtF_of [some (rf E 127), some (.int (nI t)), some (.int v), none, none] (by decide) rfl (Nat.le_of_ble_eq_true rfl) rfl (fun p e s m args below meth c C hr hname => ?_)
  refine g_iload_n C dX5_ifPassed_0 rfl rfl ?_
  refine g_iconst C (v := 1) dX5_ifPassed_1 (by decide) ?_
  refine g_sipush C (v := 200) dX5_ifPassed_2 (by decide) ?_
  refine kX5_42 C (by decide) (tX5_within _ _ _) ⟨⟨Nat.le_of_ble_eq_true rfl, Nat.le_of_ble_eq_true rfl⟩, Nat.le_of_ble_eq_true rfl, Nat.le_of_ble_eq_true rfl⟩ (Nat.le_of_ble_eq_true rfl) dX5_ifPassed_5 ?_
  refine g_ifeq_b C (tgt := 20) dX5_ifPassed_8 (by decide) (fun c8 => (bt_f hx c8).elim) (fun _ => ?_)
  refine g_iload_n C dX5_ifPassed_11 rfl rfl ?_
  refine g_iconst C (v := 0) dX5_ifPassed_12 (by decide) ?_
  refine g_iconst C (v := 3) dX5_ifPassed_13 (by decide) ?_
  refine kX5_42 C (by decide) (tX5_within _ _ _) ⟨⟨Nat.le_of_ble_eq_true rfl, Nat.le_of_ble_eq_true rfl⟩, Nat.le_of_ble_eq_true rfl, Nat.le_of_ble_eq_true rfl⟩ (Nat.le_of_ble_eq_true rfl) dX5_ifPassed_14 ?_
  refine g_ifne_b C (tgt := 23) dX5_ifPassed_17 (by decide) (fun c17 => ?_) (fun c17 => ?_)
  · skip
    refine g_aload_n C dX5_ifPassed_23 rfl rfl ?_
    refine gfX5_7 C (by decide) hl.mstate dX5_ifPassed_24 ?_
    refine g_iconst C (v := 0) dX5_ifPassed_27 (by decide) ?_
    refine g_aload_n C dX5_ifPassed_28 rfl rfl ?_
    refine gfX5_13 C (by decide) hl.mkept dX5_ifPassed_29 ?_
    refine g_iconst C (v := 0) dX5_ifPassed_32 (by decide) ?_
    refine kX5_38 C (by decide) (tX5_moves (f := 0) (t := 0) (show ar NT 128 7 96 by decide) (show ar NT 129 7 96 by decide) (by omega) (by omega) (by decide)) ⟨⟨Nat.le_of_ble_eq_true rfl, Nat.le_of_ble_eq_true rfl⟩, Nat.le_of_ble_eq_true rfl, Nat.le_of_ble_eq_true rfl⟩ (Nat.le_of_ble_eq_true rfl) dX5_ifPassed_33 ?_
    refine g_aload_n C dX5_ifPassed_36 rfl rfl ?_
    refine gfX5_7 C (by decide) hl.mstate dX5_ifPassed_37 ?_
    refine g_bipush C (v := 6) dX5_ifPassed_40 (by decide) ?_
    refine g_iconst C (v := 0) dX5_ifPassed_42 (by decide) ?_
    refine g_iast_j C (show ar NT 128 7 96 by decide) 6 rfl (by decide) (by decide) dX5_ifPassed_43 ?_
    refine g_aload_n C dX5_ifPassed_44 rfl rfl ?_
    refine g_iload_n C dX5_ifPassed_45 rfl rfl ?_
    refine kX5_153 C (by decide) (tX5_passes hl ht hT) ⟨⟨Nat.le_of_ble_eq_true rfl, Nat.le_of_ble_eq_true rfl⟩, Nat.le_of_ble_eq_true rfl, Nat.le_of_ble_eq_true rfl⟩ (Nat.le_of_ble_eq_true rfl) dX5_ifPassed_46 ?_
    refine g_istore_n C dX5_ifPassed_49 rfl (by decide) rfl ?_
    refine g_iload_n C dX5_ifPassed_50 rfl rfl ?_
    refine g_if_ne C (tgt := 58) dX5_ifPassed_51 (by decide) (fun c51 => ?_) (fun c51 => ?_)
    · skip
      refine g_iload_n C dX5_ifPassed_58 rfl rfl ?_
      refine g_iconst C (v := 1) dX5_ifPassed_59 (by decide) ?_
      refine g_icmp_ne C (tgt := 71) dX5_ifPassed_60 (by decide) (fun c60 => ?_) (fun c60 => ?_)
      · skip
        refine g_iload_n C dX5_ifPassed_71 rfl rfl ?_
        refine g_iconst C (v := 2) dX5_ifPassed_72 (by decide) ?_
        refine g_icmp_ne C (tgt := 86) dX5_ifPassed_73 (by decide) (fun c73 => ?_) (fun c73 => ?_)
        · skip
          refine g_aload_n C dX5_ifPassed_86 rfl rfl ?_
          refine kX5_159 C (by decide) (tX5_allValues hl hn8 hn3) ⟨⟨Nat.le_of_ble_eq_true rfl, Nat.le_of_ble_eq_true rfl⟩, Nat.le_of_ble_eq_true rfl, Nat.le_of_ble_eq_true rfl⟩ (Nat.le_of_ble_eq_true rfl) dX5_ifPassed_87 ?_
          refine g_istore C dX5_ifPassed_90 (by decide) rfl ?_
          refine g_aload_n C dX5_ifPassed_92 rfl rfl ?_
          refine gfX5_13 C (by decide) hl.mkept dX5_ifPassed_93 ?_
          refine g_iconst C (v := 0) dX5_ifPassed_96 (by decide) ?_
          refine g_aload_n C dX5_ifPassed_97 rfl rfl ?_
          refine gfX5_7 C (by decide) hl.mstate dX5_ifPassed_98 ?_
          refine g_iconst C (v := 0) dX5_ifPassed_101 (by decide) ?_
          refine kX5_38 C (by decide) (tX5_moves (f := 0) (t := 0) (show ar NT 129 7 96 by decide) (show ar NT 128 7 96 by decide) (by omega) (by omega) (by decide)) ⟨⟨Nat.le_of_ble_eq_true rfl, Nat.le_of_ble_eq_true rfl⟩, Nat.le_of_ble_eq_true rfl, Nat.le_of_ble_eq_true rfl⟩ (Nat.le_of_ble_eq_true rfl) dX5_ifPassed_102 ?_
          refine g_iload C dX5_ifPassed_105 rfl ?_
          exact g_iret C hr dX5_ifPassed_107 ⟨by unfold yIfP; (try first | rw [if_pos c17] | rw [if_neg c17] | rw [if_neg (show ¬ _ = true by rw [c17]; decide)]); (try first | rw [if_pos c51] | rw [if_neg c51] | rw [if_neg (show ¬ _ = true by rw [c51]; decide)]); (try first | rw [if_pos c60] | rw [if_neg c60] | rw [if_neg (show ¬ _ = true by rw [c60]; decide)]); (try first | rw [if_pos c73] | rw [if_neg c73] | rw [if_neg (show ¬ _ = true by rw [c73]; decide)]); try rfl, by unfold yIfP; (try first | rw [if_pos c17] | rw [if_neg c17] | rw [if_neg (show ¬ _ = true by rw [c17]; decide)]); (try first | rw [if_pos c51] | rw [if_neg c51] | rw [if_neg (show ¬ _ = true by rw [c51]; decide)]); (try first | rw [if_pos c60] | rw [if_neg c60] | rw [if_neg (show ¬ _ = true by rw [c60]; decide)]); (try first | rw [if_pos c73] | rw [if_neg c73] | rw [if_neg (show ¬ _ = true by rw [c73]; decide)]); try rfl, rfl⟩
        · skip
          refine g_aload_n C dX5_ifPassed_76 rfl rfl ?_
          refine gfX5_7 C (by decide) hl.mstate dX5_ifPassed_77 ?_
          refine g_bipush C (v := 6) dX5_ifPassed_80 (by decide) ?_
          refine g_iald_j C (show ar NT 128 7 96 by decide) 6 rfl (by decide) (by decide) dX5_ifPassed_82 ?_
          refine g_goto C (tgt := 90) dX5_ifPassed_83 (by decide) ?_
          refine g_istore C dX5_ifPassed_90 (by decide) rfl ?_
          refine g_aload_n C dX5_ifPassed_92 rfl rfl ?_
          refine gfX5_13 C (by decide) hl.mkept dX5_ifPassed_93 ?_
          refine g_iconst C (v := 0) dX5_ifPassed_96 (by decide) ?_
          refine g_aload_n C dX5_ifPassed_97 rfl rfl ?_
          refine gfX5_7 C (by decide) hl.mstate dX5_ifPassed_98 ?_
          refine g_iconst C (v := 0) dX5_ifPassed_101 (by decide) ?_
          refine kX5_38 C (by decide) (tX5_moves (f := 0) (t := 0) (show ar NT 129 7 96 by decide) (show ar NT 128 7 96 by decide) (by omega) (by omega) (by decide)) ⟨⟨Nat.le_of_ble_eq_true rfl, Nat.le_of_ble_eq_true rfl⟩, Nat.le_of_ble_eq_true rfl, Nat.le_of_ble_eq_true rfl⟩ (Nat.le_of_ble_eq_true rfl) dX5_ifPassed_102 ?_
          refine g_iload C dX5_ifPassed_105 rfl ?_
          exact g_iret C hr dX5_ifPassed_107 ⟨by unfold yIfP; (try first | rw [if_pos c17] | rw [if_neg c17] | rw [if_neg (show ¬ _ = true by rw [c17]; decide)]); (try first | rw [if_pos c51] | rw [if_neg c51] | rw [if_neg (show ¬ _ = true by rw [c51]; decide)]); (try first | rw [if_pos c60] | rw [if_neg c60] | rw [if_neg (show ¬ _ = true by rw [c60]; decide)]); (try first | rw [if_pos c73] | rw [if_neg c73] | rw [if_neg (show ¬ _ = true by rw [c73]; decide)]); try rfl, by unfold yIfP; (try first | rw [if_pos c17] | rw [if_neg c17] | rw [if_neg (show ¬ _ = true by rw [c17]; decide)]); (try first | rw [if_pos c51] | rw [if_neg c51] | rw [if_neg (show ¬ _ = true by rw [c51]; decide)]); (try first | rw [if_pos c60] | rw [if_neg c60] | rw [if_neg (show ¬ _ = true by rw [c60]; decide)]); (try first | rw [if_pos c73] | rw [if_neg c73] | rw [if_neg (show ¬ _ = true by rw [c73]; decide)]); try rfl, rfl⟩
      · skip
        refine g_aload_n C dX5_ifPassed_63 rfl rfl ?_
        refine g_iconst C (v := 0) dX5_ifPassed_64 (by decide) ?_
        refine kX5_65 C (by decide) (tX5_setOf hl hn8 hn3 _) ⟨⟨Nat.le_of_ble_eq_true rfl, Nat.le_of_ble_eq_true rfl⟩, Nat.le_of_ble_eq_true rfl, Nat.le_of_ble_eq_true rfl⟩ (Nat.le_of_ble_eq_true rfl) dX5_ifPassed_65 ?_
        refine g_goto C (tgt := 90) dX5_ifPassed_68 (by decide) ?_
        refine g_istore C dX5_ifPassed_90 (by decide) rfl ?_
        refine g_aload_n C dX5_ifPassed_92 rfl rfl ?_
        refine gfX5_13 C (by decide) hl.mkept dX5_ifPassed_93 ?_
        refine g_iconst C (v := 0) dX5_ifPassed_96 (by decide) ?_
        refine g_aload_n C dX5_ifPassed_97 rfl rfl ?_
        refine gfX5_7 C (by decide) hl.mstate dX5_ifPassed_98 ?_
        refine g_iconst C (v := 0) dX5_ifPassed_101 (by decide) ?_
        refine kX5_38 C (by decide) (tX5_moves (f := 0) (t := 0) (show ar NT 129 7 96 by decide) (show ar NT 128 7 96 by decide) (by omega) (by omega) (by decide)) ⟨⟨Nat.le_of_ble_eq_true rfl, Nat.le_of_ble_eq_true rfl⟩, Nat.le_of_ble_eq_true rfl, Nat.le_of_ble_eq_true rfl⟩ (Nat.le_of_ble_eq_true rfl) dX5_ifPassed_102 ?_
        refine g_iload C dX5_ifPassed_105 rfl ?_
        exact g_iret C hr dX5_ifPassed_107 ⟨by unfold yIfP; (try first | rw [if_pos c17] | rw [if_neg c17] | rw [if_neg (show ¬ _ = true by rw [c17]; decide)]); (try first | rw [if_pos c51] | rw [if_neg c51] | rw [if_neg (show ¬ _ = true by rw [c51]; decide)]); (try first | rw [if_pos c60] | rw [if_neg c60] | rw [if_neg (show ¬ _ = true by rw [c60]; decide)]); try rfl, by unfold yIfP; (try first | rw [if_pos c17] | rw [if_neg c17] | rw [if_neg (show ¬ _ = true by rw [c17]; decide)]); (try first | rw [if_pos c51] | rw [if_neg c51] | rw [if_neg (show ¬ _ = true by rw [c51]; decide)]); (try first | rw [if_pos c60] | rw [if_neg c60] | rw [if_neg (show ¬ _ = true by rw [c60]; decide)]); try rfl, rfl⟩
    · skip
      refine g_iload_n C dX5_ifPassed_54 rfl rfl ?_
      refine g_goto C (tgt := 90) dX5_ifPassed_55 (by decide) ?_
      refine g_istore C dX5_ifPassed_90 (by decide) rfl ?_
      refine g_aload_n C dX5_ifPassed_92 rfl rfl ?_
      refine gfX5_13 C (by decide) hl.mkept dX5_ifPassed_93 ?_
      refine g_iconst C (v := 0) dX5_ifPassed_96 (by decide) ?_
      refine g_aload_n C dX5_ifPassed_97 rfl rfl ?_
      refine gfX5_7 C (by decide) hl.mstate dX5_ifPassed_98 ?_
      refine g_iconst C (v := 0) dX5_ifPassed_101 (by decide) ?_
      refine kX5_38 C (by decide) (tX5_moves (f := 0) (t := 0) (show ar NT 129 7 96 by decide) (show ar NT 128 7 96 by decide) (by omega) (by omega) (by decide)) ⟨⟨Nat.le_of_ble_eq_true rfl, Nat.le_of_ble_eq_true rfl⟩, Nat.le_of_ble_eq_true rfl, Nat.le_of_ble_eq_true rfl⟩ (Nat.le_of_ble_eq_true rfl) dX5_ifPassed_102 ?_
      refine g_iload C dX5_ifPassed_105 rfl ?_
      exact g_iret C hr dX5_ifPassed_107 ⟨by unfold yIfP; (try first | rw [if_pos c17] | rw [if_neg c17] | rw [if_neg (show ¬ _ = true by rw [c17]; decide)]); (try first | rw [if_pos c51] | rw [if_neg c51] | rw [if_neg (show ¬ _ = true by rw [c51]; decide)]); try rfl, by unfold yIfP; (try first | rw [if_pos c17] | rw [if_neg c17] | rw [if_neg (show ¬ _ = true by rw [c17]; decide)]); (try first | rw [if_pos c51] | rw [if_neg c51] | rw [if_neg (show ¬ _ = true by rw [c51]; decide)]); try rfl, rfl⟩
  · skip
    refine g_bipush C (v := (-2)) dX5_ifPassed_20 (by decide) ?_
    exact g_iret C hr dX5_ifPassed_22 ⟨by unfold yIfP; (try first | rw [if_pos c17] | rw [if_neg c17] | rw [if_neg (show ¬ _ = true by rw [c17]; decide)]); try rfl, by unfold yIfP; (try first | rw [if_pos c17] | rw [if_neg c17] | rw [if_neg (show ¬ _ = true by rw [c17]; decide)]); try rfl, rfl⟩

