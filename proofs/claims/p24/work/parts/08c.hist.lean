def recI (I : Mi) (h : Nat → Nat) (k a : Nat) : Mi := if k < 6 then up (copyC I (h k) a) 37 1 (nI (k + 1)) else up (copyC (up I 37 1 5) (h 0) a) 37 1 6
def recF (F : Mr) (h : Nat → Nat) (k : Nat) : Mr := if k < 6 then F else drF F h
def recH (h : Nat → Nat) (k : Nat) : Nat → Nat := if k < 6 then h else drH h
theorem recF_ne {F : Mr} {h : Nat → Nat} {k : Nat} : ∀ x, x ≠ 38 → recF F h k x = F x := fun x hx => by
  unfold recF; split
  · rfl
  · exact drF_ne x hx
theorem recF_LY {F : Mr} {h : Nat → Nat} {k : Nat} (hl : LY F) : LY (recF F h k) := hl.same recF_ne
theorem recF_HB {F : Mr} {h : Nat → Nat} {k : Nat} (hb : HB F h) : HB (recF F h k) (recH h k) := by
  unfold recF recH; split
  · exact hb
  · exact drF_HB hb
theorem CH.same {N a : Nat} {F F2 : Mr} (h : CH N F a) (ha : a ≠ 38) (hs : ∀ x, x ≠ 38 → F2 x = F x) : CH N F2 a := by
  unfold CH at h ⊢
  rw [hs a ha]; exact h
theorem HB.ne {F : Mr} {h : Nat → Nat} (hb : HB F h) {j : Nat} (hj : j < 6) : h j < 37 ∨ 38 < h j := by
  rcases (hb j hj).2 with e | e | e | e | e | e <;> omega
theorem HB.lo {F : Mr} {h : Nat → Nat} (hb : HB F h) {j : Nat} (hj : j < 6) : 39 ≤ h j := by
  rcases (hb j hj).2 with e | e | e | e | e | e <;> omega

set_option maxRecDepth 100000 in
set_option maxHeartbeats 4000000 in
theorem tX2_stateAt {l : Launch} {E : EE} {I : Mi} {F : Mr} (hl : LY F) {h : Nat → Nat} (hb : HB F h) {k : Nat} (hk : k < 6)  : CtF l E mX2_stateAt [rf E 37, .int (nI k)] NT I F NT (some (rf E (h k))) I F := by
  refine CtF_of [some (rf E 37), some (.int (nI k))] (by decide) rfl (Nat.le_of_ble_eq_true rfl) rfl (fun p e s m args below meth c C hr hname => ?_)
  refine g_iload_n C dX2_stateAt_0 rfl rfl ?_
  refine g_if_lt C (tgt := 19) dX2_stateAt_1 (by decide) (fun c1 => absurd c1 (nI_pos (by omega))) (fun _ => ?_)
  refine g_iload_n C dX2_stateAt_4 rfl rfl ?_
  refine g_bipush C (v := 6) dX2_stateAt_5 (by decide) ?_
  refine g_icmp_ge C (tgt := 19) dX2_stateAt_7 (by decide) (fun c7 => absurd c7 (nI_nge rfl hk (by decide))) (fun _ => ?_)
  refine g_aload_n C dX2_stateAt_10 rfl rfl ?_
  refine gfX2_11 C (by decide) hl.before dX2_stateAt_11 ?_
  refine g_iload_n C dX2_stateAt_14 rfl rfl ?_
  refine g_aald_j C (show ar NT 38 8 6 by decide) k rfl hk (by decide) (hb k hk).1 dX2_stateAt_15 ?_
  refine g_goto C (tgt := 20) dX2_stateAt_16 (by decide) ?_
  exact g_aret C hr (Or.inr ⟨_, rfl⟩) dX2_stateAt_20 ⟨rfl, rfl, rfl⟩

theorem drL_ne {F : Mr} {h : Nat → Nat} {i : Nat} : ∀ x, x ≠ 38 → drL F h i x = F x := fun x hx => by funext y; simp [drL, hx]
theorem drL_at {F : Mr} {h : Nat → Nat} (hb : HB F h) {i : Nat} (hi : i < 5) : drL F h i 38 (i + 1) = some (h (i + 1)) := by
  unfold drL
  rw [if_neg (by omega)]
  exact (hb (i + 1) (by omega)).1

set_option maxRecDepth 100000 in
set_option maxHeartbeats 4000000 in
theorem tX2_dropOldest {l : Launch} {E : EE} {I : Mi} {F : Mr} (hl : LY F) {h : Nat → Nat} (hb : HB F h)  : CtF l E mX2_dropOldest [rf E 37] NT I F NT none (up I 37 1 5) (drF F h) := by
  refine CtF_of [some (rf E 37), none, none] (by decide) rfl (Nat.le_of_ble_eq_true rfl) rfl (fun p e s m args below meth c C hr hname => ?_)
  refine g_aload_n C dX2_dropOldest_0 rfl rfl ?_
  refine gfX2_11 C (by decide) hl.before dX2_dropOldest_1 ?_
  refine g_iconst C (v := 0) dX2_dropOldest_4 (by decide) ?_
  refine g_aald_j C (show ar NT 38 8 6 by decide) 0 rfl (by decide) (by decide) (hb 0 (by decide)).1 dX2_dropOldest_5 ?_
  refine g_astore_n C dX2_dropOldest_6 rfl (by decide) rfl ?_
  refine g_iconst C (v := 1) dX2_dropOldest_7 (by decide) ?_
  refine g_istore_n C dX2_dropOldest_8 rfl (by decide) rfl ?_
  refine G_loop (n := 5) (fun i => [some (rf E 37), some (rf E (h 0)), some (.int (nI (i + 1)))]) (fun _ => I) (fun i => drL F h i) rfl rfl (drL_0 F h).symm ?_ ?_
  · intro i9 hi9 ih9
    have hlL : LY (drL F h i9) := hl.same drL_ne
    refine g_iload_n C dX2_dropOldest_9 rfl rfl ?_
    refine g_bipush C (v := 6) dX2_dropOldest_10 (by decide) ?_
    refine g_icmp_ge C (tgt := 35) dX2_dropOldest_12 (by decide) (fun c12 => absurd c12 (nI_nge rfl (show i9 + 1 < 6 by omega) (by decide))) (fun _ => ?_)
    refine g_aload_n C dX2_dropOldest_15 rfl rfl ?_
    refine gfX2_11 C (by decide) hlL.before dX2_dropOldest_16 ?_
    refine g_iload_n C dX2_dropOldest_19 rfl rfl ?_
    refine g_iconst C (v := 1) dX2_dropOldest_20 (by decide) ?_
    refine g_isub C dX2_dropOldest_21 ?_
    refine g_aload_n C dX2_dropOldest_22 rfl rfl ?_
    refine gfX2_11 C (by decide) hlL.before dX2_dropOldest_23 ?_
    refine g_iload_n C dX2_dropOldest_26 rfl rfl ?_
    refine g_aald_j C (show ar NT 38 8 6 by decide) (i9 + 1) rfl (by omega) (by decide) (drL_at hb hi9) dX2_dropOldest_27 ?_
    refine g_aast_j C (show ar NT 38 8 6 by decide) (hb.ch hl (show i9 + 1 < 6 by omega)).o i9 (nI_pred i9) (by omega) (by decide) dX2_dropOldest_28 ?_
    refine g_iinc C dX2_dropOldest_29 rfl (nI_inc _) (by decide) rfl ?_
    refine g_goto C (tgt := 9) dX2_dropOldest_32 (by decide) ?_
    exact G_cast ih9 rfl (drL_s F h i9) rfl rfl
  · skip
    have hlL : LY (drL F h 5) := hl.same drL_ne
    refine g_iload_n C dX2_dropOldest_9 rfl rfl ?_
    refine g_bipush C (v := 6) dX2_dropOldest_10 (by decide) ?_
    refine g_icmp_ge C (tgt := 35) dX2_dropOldest_12 (by decide) (fun _ => ?_) (fun c12 => absurd (nI_lee (n := 6) rfl) c12)
    refine g_aload_n C dX2_dropOldest_35 rfl rfl ?_
    refine gfX2_11 C (by decide) hlL.before dX2_dropOldest_36 ?_
    refine g_iconst C (v := 5) dX2_dropOldest_39 (by decide) ?_
    refine g_aload_n C dX2_dropOldest_40 rfl rfl ?_
    refine g_aast_j C (show ar NT 38 8 6 by decide) (hb.ch hl (by decide)).o 5 rfl (by decide) (by decide) dX2_dropOldest_41 ?_
    refine g_aload_n C dX2_dropOldest_42 rfl rfl ?_
    refine g_iconst C (v := 5) dX2_dropOldest_43 (by decide) ?_
    refine pfX2_17 C (by decide) dX2_dropOldest_44 ?_
    exact g_vret C hr dX2_dropOldest_47 ⟨rfl, rfl, rfl⟩

set_option maxRecDepth 100000 in
set_option maxHeartbeats 4000000 in
theorem tX2_record {l : Launch} {E : EE} {I : Mi} {F : Mr} (hl : LY F) {h : Nat → Nat} (hb : HB F h) {a : Nat} (ha : CH NT F a) (ha28 : a < 28) {k : Nat} (hk6 : k ≤ 6) (hk : I 37 1 = nI k)  : CtF l E mX2_record [rf E 37, rf E a] NT I F NT none (recI I h k a) (recF F h k) := by
  refine CtF_of [some (rf E 37), some (rf E a), none] (by decide) rfl (Nat.le_of_ble_eq_true rfl) rfl (fun p e s m args below meth c C hr hname => ?_)
  refine g_aload_n C dX2_record_0 rfl rfl ?_
  refine gfX2_17 C (by decide) dX2_record_1 ?_
  rw [hk]
  refine g_bipush C (v := 6) dX2_record_4 (by decide) ?_
  refine g_icmp_lt C (tgt := 13) dX2_record_6 (by decide) (fun c6 => ?_) (fun c6 => ?_)
  · skip
    have hk9 : k < 6 := (nI_ltI (by omega) (by decide)).mp c6
    have hl9 := hl
    have hb9 := hb
    have hc9 := hb9.ch hl9 hk9
    have ha9 := ha
    have e15 : I 37 1 = nI k := hk
    have hA : recI I h k a = up (copyC I (h k) a) 37 1 (copyC I (h k) a 37 1 + 1) := by unfold recI; rw [if_pos hk9, copyC_ne (by have := hb.lo hk9; omega), hk, nI_1]
    have hB : recF F h k = F := if_pos hk9
    refine g_aload_n C dX2_record_13 rfl rfl ?_
    refine g_aload_n C dX2_record_14 rfl rfl ?_
    refine gfX2_17 C (by decide) dX2_record_15 ?_
    rw [e15]
    refine kX2_25 C (by decide) (tX2_stateAt hl9 hb9 hk9) ⟨⟨Nat.le_of_ble_eq_true rfl, Nat.le_of_ble_eq_true rfl⟩, Nat.le_of_ble_eq_true rfl, Nat.le_of_ble_eq_true rfl⟩ (Nat.le_of_ble_eq_true rfl) dX2_record_18 ?_
    refine g_astore_n C dX2_record_21 rfl (by decide) rfl ?_
    refine g_aload_n C dX2_record_22 rfl rfl ?_
    refine g_ifnull C dX2_record_23 ?_
    refine g_aload_n C dX2_record_26 rfl rfl ?_
    refine g_aload_n C dX2_record_27 rfl rfl ?_
    refine kX2_29 C hc9.o (tX0_copyFrom hc9 ha9) ⟨⟨Nat.le_of_ble_eq_true rfl, Nat.le_of_ble_eq_true rfl⟩, Nat.le_of_ble_eq_true rfl, Nat.le_of_ble_eq_true rfl⟩ (Nat.le_of_ble_eq_true rfl) dX2_record_28 ?_
    refine g_aload_n C dX2_record_31 rfl rfl ?_
    refine g_dup C dX2_record_32 rfl ?_
    refine gfX2_17 C (by decide) dX2_record_33 ?_
    refine g_iconst C (v := 1) dX2_record_36 (by decide) ?_
    refine g_iadd C dX2_record_37 ?_
    refine pfX2_17 C (by decide) dX2_record_38 ?_
    exact g_vret C hr dX2_record_41 ⟨rfl, hA.symm, hB.symm⟩
  · skip
    have hkk : k = 6 := by rcases Nat.lt_or_ge k 6 with q | q; exact absurd ((nI_ltI (by omega) (by decide)).mpr q) c6; omega
    refine g_aload_n C dX2_record_9 rfl rfl ?_
    refine kX2_22 C (by decide) (tX2_dropOldest hl hb) ⟨⟨Nat.le_of_ble_eq_true rfl, Nat.le_of_ble_eq_true rfl⟩, Nat.le_of_ble_eq_true rfl, Nat.le_of_ble_eq_true rfl⟩ (Nat.le_of_ble_eq_true rfl) dX2_record_10 ?_
    have hk9 : 5 < 6 := by decide
    have hl9 := hl.same (drF_ne (h := h))
    have hb9 := drF_HB hb
    have hc9 := hb9.ch hl9 hk9
    have ha9 : CH NT (drF F h) a := ha.same (by omega) drF_ne
    have e15 : (up I 37 1 5) 37 1 = nI 5 := rfl
    have e5 : drH h 5 = h 0 := rfl
    have hA : recI I h k a = up (copyC (up I 37 1 5) (drH h 5) a) 37 1 (copyC (up I 37 1 5) (drH h 5) a 37 1 + 1) := by unfold recI; rw [if_neg (by omega), e5, copyC_ne (by have := hb.lo (j := 0) (by decide); omega)]; rfl
    have hB : recF F h k = drF F h := if_neg (by omega)
    refine g_aload_n C dX2_record_13 rfl rfl ?_
    refine g_aload_n C dX2_record_14 rfl rfl ?_
    refine gfX2_17 C (by decide) dX2_record_15 ?_
    rw [e15]
    refine kX2_25 C (by decide) (tX2_stateAt hl9 hb9 hk9) ⟨⟨Nat.le_of_ble_eq_true rfl, Nat.le_of_ble_eq_true rfl⟩, Nat.le_of_ble_eq_true rfl, Nat.le_of_ble_eq_true rfl⟩ (Nat.le_of_ble_eq_true rfl) dX2_record_18 ?_
    refine g_astore_n C dX2_record_21 rfl (by decide) rfl ?_
    refine g_aload_n C dX2_record_22 rfl rfl ?_
    refine g_ifnull C dX2_record_23 ?_
    refine g_aload_n C dX2_record_26 rfl rfl ?_
    refine g_aload_n C dX2_record_27 rfl rfl ?_
    refine kX2_29 C hc9.o (tX0_copyFrom hc9 ha9) ⟨⟨Nat.le_of_ble_eq_true rfl, Nat.le_of_ble_eq_true rfl⟩, Nat.le_of_ble_eq_true rfl, Nat.le_of_ble_eq_true rfl⟩ (Nat.le_of_ble_eq_true rfl) dX2_record_28 ?_
    refine g_aload_n C dX2_record_31 rfl rfl ?_
    refine g_dup C dX2_record_32 rfl ?_
    refine gfX2_17 C (by decide) dX2_record_33 ?_
    refine g_iconst C (v := 1) dX2_record_36 (by decide) ?_
    refine g_iadd C dX2_record_37 ?_
    refine pfX2_17 C (by decide) dX2_record_38 ?_
    exact g_vret C hr dX2_record_41 ⟨rfl, hA.symm, hB.symm⟩

def tbI (I : Mi) (h : Nat → Nat) (k a : Nat) : Mi := up (copyC I a (h k)) 37 1 (nI k)