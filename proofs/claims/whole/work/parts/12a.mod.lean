/-! the reference: history, settings, islands, looks -/
theorem mvM_ne {x f y t z : Nat} {I : Mi} (h : z ≠ y) : mvM x f y t I z = I z := lp_fix (fun i J => up_ne h) 96 I
def rshM (I : Mi) : Mi := lp (fun i J => up J 130 i (J 130 (i + 96))) 480 I
theorem rshM_ne {z : Nat} {I : Mi} (h : z ≠ 130) : rshM I z = I z := lp_fix (fun i J => up_ne h) 480 I
def recM (I : Mi) (k : Nat) : Mi := if k = 6 then up (mvM 128 0 130 480 (up (rshM I) 127 3 5)) 127 3 6 else up (mvM 128 0 130 (k * 96) I) 127 3 (nI (k + 1))
theorem recM_128 (I : Mi) (k : Nat) : recM I k 128 = I 128 := by
  unfold recM; split
  · rw [up_ne (by decide), mvM_ne (by decide), up_ne (by decide), rshM_ne (by decide)]
  · rw [up_ne (by decide), mvM_ne (by decide)]
theorem recM_127 (I : Mi) (k y : Nat) (h : y ≠ 3) : recM I k 127 y = I 127 y := by
  unfold recM; split
  · rw [up_j h, mvM_ne (by decide), up_j h, rshM_ne (by decide)]
  · rw [up_j h, mvM_ne (by decide)]
def vlM (x y : Int32) : Bool := if x = 0 then isW y 1 60 else if x = 1 then isW y 0 1 else false
def yLink (I : Mi) (k i j : Nat) (b : Int32) : Int32 × Mi := if nI i = nI j then (-2, I) else if bi (rdM I i (nI j)) = b then (-5, I) else
  (pt (sp (recM I k) i 6 (pt (recM I k) i 6 ^^^ ((1 : Int32) <<< (nI j &&& 31)))) i 6, sp (recM I k) i 6 (pt (recM I k) i 6 ^^^ ((1 : Int32) <<< (nI j &&& 31))))
def yValue (I : Mi) (k i : Nat) (v : Int32) : Int32 × Mi := if isW v 0 255 = true then (if decide (pt I i 7 = 0) = true then (pt (recM I k) i 4, sp (recM I k) i 4 v) else (-5, I)) else (-2, I)
def ySleep (I : Mi) (k n i : Nat) : Int32 × Mi := if decide (pt I i 7 = 0) = true then (bitM (arM (sp (recM I k) i 7 1) n (nI i)), sp (recM I k) i 7 1) else (-5, I)
def yWake (I : Mi) (k w i : Nat) : Int32 × Mi := if decide (pt I i 7 = 2) = true then (wtM (recM I k) i w 128 7, wtM (recM I k) i w) else (-5, I)
def yOf (I : Mi) (n w i : Nat) (v : Int32) : Int32 := swf 12 v (fun z => match z with
  | 0 => pt I i 7
  | 1 => pt I i 4
  | 2 => pt I i 5
  | 3 => pt I i 0
  | 4 => pt I i 1
  | 5 => pt I i 2
  | 6 => pt I i 3
  | 7 => pt I i 6
  | 8 => rdsM I n (nI i)
  | 9 => tellM I i
  | 10 => if decide (pt I i 7 = 4) = true then pt I i 8 else 0
  | 11 => plM I w (nI i)
  | _ => pt I i 9) (-2)
def yCount (I : Mi) (n : Nat) (v : Int32) : Int32 := swf 13 v (fun z => match z with
  | 0 => I 128 2
  | 1 => setM I n 0
  | 2 => setM I n 2
  | 3 => setM I n 3
  | 4 => setM I n 4
  | 5 => rlM I n
  | 6 => I 128 6
  | 7 => I 128 4
  | 8 => I 128 5
  | 9 => I 128 3
  | 10 => I 128 0
  | 11 => I 128 1
  | 12 => I 127 7
  | _ => I 127 3) (-2)
theorem vlM_in {x y : Int32} (h : vlM x y = true) : vp_in x 96 := by
  unfold vlM at h
  by_cases h0 : x = 0
  · subst h0; exact vp_in_nI (n := 0) (by decide) (by decide)
  · rw [if_neg h0] at h
    by_cases h1 : x = 1
    · subst h1; exact vp_in_nI (n := 1) (by decide) (by decide)
    · rw [if_neg h1] at h; cases h
theorem isW_nI {x : Int32} {w : Nat} (hw : w ≤ 8) (h : isW x 0 (nI w - 1) = true) : ∃ j, j < w ∧ x = nI j := by
  simp only [isW, Bool.and_eq_true, decide_eq_true_eq] at h
  obtain ⟨j, hj, rfl⟩ := nI_of h.1
  rcases Nat.eq_zero_or_pos w with h0 | h0
  · subst h0
    exact absurd (Int32.lt_of_lt_of_le (show nI 0 - 1 < 0 by decide) (nI_pos' (by omega))) h.2
  · refine ⟨j, ?_, rfl⟩
    rw [show w = (w - 1) + 1 by omega, nI_pred] at h
    rcases Nat.lt_or_ge j w with q | q
    · exact q
    · exact absurd (nI_lt (a := w - 1) (b := j) (by omega) hj) h.2
def isIM (I : Mi) (x : Int32) : Bool := isW x 0 (I 128 2 - 1)
def cmB (i : Nat) (J : Mi) (k : Nat) : Mi := sp J i k 0
def cmM (I : Mi) (i : Nat) (iso keep r d m : Int32) : Mi := up (sp (sp (sp (sp (sp (lp (fun k J => sp J i k 0) 10 I) i 0 iso) i 1 keep) i 2 r) i 3 d) i 6 m) 128 2 (nI (i + 1))
theorem cmM_2 {I : Mi} {i : Nat} {iso keep r d m : Int32} : cmM I i iso keep r d m 128 2 = nI (i + 1) := by unfold cmM; simp [up]
def yBuild (I : Mi) (k n : Nat) (iso keep r d : Int32) : Int32 × Mi := if isW r 1 9 = true then (if isW d 1 20 = true then (if I 128 2 = 8 then (-4, I) else (nI n, cmM (recM I k) n (if iso = 0 then 0 else 1) (if keep = 0 then 0 else 1) r d 0)) else (-2, I)) else (-2, I)
def ySet (I : Mi) (k : Nat) (x y : Int32) : Int32 × Mi := if vlM x y = true then (recM I k 128 (ix x), up (recM I k) 128 (ix x) y) else (-2, I)

set_option maxRecDepth 100000 in
set_option maxHeartbeats 800000 in
theorem tX5_record {l : Launch} {E : EE} {I : Mi} {F : Mr} (hl : LY F) {k : Nat} (hk6 : k ≤ 6) (hk : I 127 3 = nI k)  : CtF l E mX5_record [rf E 127] NT I F NT none (recM I k) F := by
  refine CtF_of [some (rf E 127), none] (by decide) rfl (Nat.le_of_ble_eq_true rfl) rfl (fun p e s m args below meth c C hr hname => ?_)
  refine g_aload_n C dX5_record_0 rfl rfl ?_
  refine gfX5_34 C (by decide) dX5_record_1 ?_
  rw [hk]
  refine g_bipush C (v := 6) dX5_record_4 (by decide) ?_
  refine g_icmp_ne C (tgt := 49) dX5_record_6 (by decide) (fun c6 => ?_) (fun c6 => ?_)
  · skip
    have hk9 : k < 6 := by rcases Nat.lt_or_ge k 6 with q | q; exact q; exact absurd (show nI k = 6 by rw [show k = 6 by omega]; rfl) c6
    refine g_aload_n C dX5_record_49 rfl rfl ?_
    refine gfX5_7 C (by decide) hl.mstate dX5_record_50 ?_
    refine g_iconst C (v := 0) dX5_record_53 (by decide) ?_
    refine g_aload_n C dX5_record_54 rfl rfl ?_
    refine gfX5_16 C (by decide) hl.mhist dX5_record_55 ?_
    refine g_aload_n C dX5_record_58 rfl rfl ?_
    refine gfX5_34 C (by decide) dX5_record_59 ?_
    rw [hk]
    refine g_bipush C (v := 96) dX5_record_62 (by decide) ?_
    skip
    refine g_imul C dX5_record_64 ?_
    rw [show nI k * 96 = nI (k * 96) from pk_mul k 96]
    refine kX5_38 C (by decide) (tX5_moves (f := 0) (t := k * 96) (show ar NT 128 7 96 by decide) (show ar NT 130 7 576 by decide) (by omega) (by omega) (by decide)) ⟨⟨Nat.le_of_ble_eq_true rfl, Nat.le_of_ble_eq_true rfl⟩, Nat.le_of_ble_eq_true rfl, Nat.le_of_ble_eq_true rfl⟩ (Nat.le_of_ble_eq_true rfl) dX5_record_65 ?_
    refine g_aload_n C dX5_record_68 rfl rfl ?_
    refine g_dup C dX5_record_69 rfl ?_
    refine gfX5_34 C (by decide) dX5_record_70 ?_
    rw [mvM_ne (by decide), hk]
    refine g_iconst C (v := 1) dX5_record_73 (by decide) ?_
    refine g_iadd C dX5_record_74 ?_
    rw [nI_1]
    refine pfX5_34 C (by decide) dX5_record_75 ?_
    exact g_vret C hr dX5_record_78 ⟨rfl, by unfold recM; first | (rw [if_neg (show ¬ k = 6 by omega)]; done) | (rw [if_neg (show ¬ k = 6 by omega)]; rfl) | (rw [if_pos (show k = 6 by omega)]; rfl), rfl⟩
  · skip
    have hk9 : k = 6 := (nI_eq (by omega) (by decide)).mp c6
    refine g_iconst C (v := 0) dX5_record_9 (by decide) ?_
    refine g_istore_n C dX5_record_10 rfl (by decide) rfl ?_
    refine G_loop (n := 480) (fun i => [some (rf E 127), some (.int (nI i))]) (fun i => lp (fun i J => up J 130 i (J 130 (i + 96))) i I) (fun _ => F) rfl rfl rfl ?_ ?_
    · intro i11 hi11 ih11
      refine g_iload_n C dX5_record_11 rfl rfl ?_
      refine g_sipush C (v := 480) dX5_record_12 (by decide) ?_
      refine g_icmp_ge C (tgt := 39) dX5_record_15 (by decide) (fun c15 => absurd c15 (nI_nge rfl hi11 (by decide))) (fun _ => ?_)
      refine g_aload_n C dX5_record_18 rfl rfl ?_
      refine gfX5_16 C (by decide) hl.mhist dX5_record_19 ?_
      refine g_iload_n C dX5_record_22 rfl rfl ?_
      refine g_aload_n C dX5_record_23 rfl rfl ?_
      refine gfX5_16 C (by decide) hl.mhist dX5_record_24 ?_
      refine g_iload_n C dX5_record_27 rfl rfl ?_
      refine g_bipush C (v := 96) dX5_record_28 (by decide) ?_
      refine g_iadd C dX5_record_30 ?_
      refine g_iald_j C (show ar NT 130 7 576 by decide) (i11 + 96) (nI_add i11 96) (by omega) (by decide) dX5_record_31 ?_
      refine g_iast_j C (show ar NT 130 7 576 by decide) (i11) rfl (show i11 < 576 by omega) (by decide) dX5_record_32 ?_
      refine g_iinc C dX5_record_33 rfl (nI_inc _) (by decide) rfl ?_
      refine g_goto C (tgt := 11) dX5_record_36 (by decide) ?_
      exact G_cast ih11 rfl rfl rfl rfl
    · skip
      have e41 : lp (fun i J => up J 130 i (J 130 (i + 96))) 480 I 127 3 = nI 6 := by rw [show lp (fun i J => up J 130 i (J 130 (i + 96))) 480 I = rshM I from rfl, rshM_ne (by decide), hk, hk9]
      refine g_iload_n C dX5_record_11 rfl rfl ?_
      refine g_sipush C (v := 480) dX5_record_12 (by decide) ?_
      refine g_icmp_ge C (tgt := 39) dX5_record_15 (by decide) (fun _ => ?_) (fun c15 => absurd (nI_lee (n := 480) rfl) c15)
      refine g_aload_n C dX5_record_39 rfl rfl ?_
      refine g_dup C dX5_record_40 rfl ?_
      refine gfX5_34 C (by decide) dX5_record_41 ?_
      rw [e41]
      refine g_iconst C (v := 1) dX5_record_44 (by decide) ?_
      refine g_isub C dX5_record_45 ?_
      refine pfX5_34 C (by decide) dX5_record_46 ?_
      refine g_aload_n C dX5_record_49 rfl rfl ?_
      refine gfX5_7 C (by decide) hl.mstate dX5_record_50 ?_
      refine g_iconst C (v := 0) dX5_record_53 (by decide) ?_
      refine g_aload_n C dX5_record_54 rfl rfl ?_
      refine gfX5_16 C (by decide) hl.mhist dX5_record_55 ?_
      refine g_aload_n C dX5_record_58 rfl rfl ?_
      refine gfX5_34 C (by decide) dX5_record_59 ?_
      rw [show up (lp (fun i J => up J 130 i (J 130 (i + 96))) 480 I) 127 3 (nI 6 - 1) 127 3 = nI 5 from rfl]
      refine g_bipush C (v := 96) dX5_record_62 (by decide) ?_
      refine g_imul C dX5_record_64 ?_
      rw [show nI 5 * 96 = nI 480 from rfl]
      refine kX5_38 C (by decide) (tX5_moves (f := 0) (t := 480) (show ar NT 128 7 96 by decide) (show ar NT 130 7 576 by decide) (by omega) (by omega) (by decide)) ⟨⟨Nat.le_of_ble_eq_true rfl, Nat.le_of_ble_eq_true rfl⟩, Nat.le_of_ble_eq_true rfl, Nat.le_of_ble_eq_true rfl⟩ (Nat.le_of_ble_eq_true rfl) dX5_record_65 ?_
      refine g_aload_n C dX5_record_68 rfl rfl ?_
      refine g_dup C dX5_record_69 rfl ?_
      refine gfX5_34 C (by decide) dX5_record_70 ?_
      rw [mvM_ne (by decide), show up (lp (fun i J => up J 130 i (J 130 (i + 96))) 480 I) 127 3 (nI 6 - 1) 127 3 = nI 5 from rfl]
      refine g_iconst C (v := 1) dX5_record_73 (by decide) ?_
      refine g_iadd C dX5_record_74 ?_
      refine pfX5_34 C (by decide) dX5_record_75 ?_
      exact g_vret C hr dX5_record_78 ⟨rfl, by unfold recM; first | (rw [if_neg (show ¬ k = 6 by omega)]; done) | (rw [if_neg (show ¬ k = 6 by omega)]; rfl) | (rw [if_pos (show k = 6 by omega)]; rfl), rfl⟩

set_option maxRecDepth 100000 in
set_option maxHeartbeats 800000 in
theorem tX5_isIsland {l : Launch} {E : EE} {I : Mi} {F : Mr} (hl : LY F) (x : Int32)  : CtF l E mX5_isIsland [rf E 127, .int x] NT I F NT (some (.int (bi (isIM I x)))) I F := by
  refine CtF_of [some (rf E 127), some (.int x)] (by decide) rfl (Nat.le_of_ble_eq_true rfl) rfl (fun p e s m args below meth c C hr hname => ?_)
  refine g_iload_n C dX5_isIsland_0 rfl rfl ?_
  refine g_iconst C (v := 0) dX5_isIsland_1 (by decide) ?_
  refine g_aload_n C dX5_isIsland_2 rfl rfl ?_
  refine gfX5_7 C (by decide) hl.mstate dX5_isIsland_3 ?_
  refine g_iconst C (v := 2) dX5_isIsland_6 (by decide) ?_
  refine g_iald_j C (show ar NT 128 7 96 by decide) 2 rfl (by decide) (by decide) dX5_isIsland_7 ?_
  refine g_iconst C (v := 1) dX5_isIsland_8 (by decide) ?_
  refine g_isub C dX5_isIsland_9 ?_
  refine kX5_42 C (by decide) (tX5_within _ _ _) ⟨⟨Nat.le_of_ble_eq_true rfl, Nat.le_of_ble_eq_true rfl⟩, Nat.le_of_ble_eq_true rfl, Nat.le_of_ble_eq_true rfl⟩ (Nat.le_of_ble_eq_true rfl) dX5_isIsland_10 ?_
  exact g_zret_b C hr dX5_isIsland_13 ⟨rfl, rfl, rfl⟩

set_option maxRecDepth 100000 in
set_option maxHeartbeats 800000 in
theorem tX5_isValue {l : Launch} {E : EE} {I : Mi} {F : Mr} (x y : Int32)  : CtF l E mX5_isValue [.int x, .int y] NT I F NT (some (.int (bi (vlM x y)))) I F := by
  refine CtF_of [some (.int x), some (.int y)] (by decide) rfl (Nat.le_of_ble_eq_true rfl) rfl (fun p e s m args below meth c C hr hname => ?_)
  refine g_iload_n C dX5_isValue_0 rfl rfl ?_
  refine g_if_ne C (tgt := 14) dX5_isValue_1 (by decide) (fun c1 => ?_) (fun c1 => ?_)
  · skip
    refine g_iload_n C dX5_isValue_14 rfl rfl ?_
    refine g_iconst C (v := 1) dX5_isValue_15 (by decide) ?_
    refine g_icmp_ne C (tgt := 32) dX5_isValue_16 (by decide) (fun c16 => ?_) (fun c16 => ?_)
    · skip
      refine g_iconst C (v := 0) dX5_isValue_32 (by decide) ?_
      exact g_zret_0 C hr dX5_isValue_33 ⟨by unfold vlM; (try first | rw [if_pos c1] | rw [if_neg c1] | rw [if_neg (show ¬ _ = true by rw [c1]; decide)]); (try first | rw [if_pos c16] | rw [if_neg c16] | rw [if_neg (show ¬ _ = true by rw [c16]; decide)]); try simp [bi, c1, c16], rfl, rfl⟩
    · skip
      refine g_iload_n C dX5_isValue_19 rfl rfl ?_
      refine g_iconst C (v := 0) dX5_isValue_20 (by decide) ?_
      refine g_iconst C (v := 1) dX5_isValue_21 (by decide) ?_
      refine kX5_42 C (by decide) (tX5_within _ _ _) ⟨⟨Nat.le_of_ble_eq_true rfl, Nat.le_of_ble_eq_true rfl⟩, Nat.le_of_ble_eq_true rfl, Nat.le_of_ble_eq_true rfl⟩ (Nat.le_of_ble_eq_true rfl) dX5_isValue_22 ?_
      refine g_ifeq_b C (tgt := 32) dX5_isValue_25 (by decide) (fun c25 => ?_) (fun c25 => ?_)
      · skip
        refine g_iconst C (v := 0) dX5_isValue_32 (by decide) ?_
        exact g_zret_0 C hr dX5_isValue_33 ⟨by unfold vlM; (try first | rw [if_pos c1] | rw [if_neg c1] | rw [if_neg (show ¬ _ = true by rw [c1]; decide)]); (try first | rw [if_pos c16] | rw [if_neg c16] | rw [if_neg (show ¬ _ = true by rw [c16]; decide)]); (try first | rw [if_pos c25] | rw [if_neg c25] | rw [if_neg (show ¬ _ = true by rw [c25]; decide)]); try simp [bi, c1, c16, c25], rfl, rfl⟩
      · skip
        refine g_iconst C (v := 1) dX5_isValue_28 (by decide) ?_
        refine g_goto C (tgt := 33) dX5_isValue_29 (by decide) ?_
        exact g_zret_1 C hr dX5_isValue_33 ⟨by unfold vlM; (try first | rw [if_pos c1] | rw [if_neg c1] | rw [if_neg (show ¬ _ = true by rw [c1]; decide)]); (try first | rw [if_pos c16] | rw [if_neg c16] | rw [if_neg (show ¬ _ = true by rw [c16]; decide)]); (try first | rw [if_pos c25] | rw [if_neg c25] | rw [if_neg (show ¬ _ = true by rw [c25]; decide)]); try simp [bi, c1, c16, c25], rfl, rfl⟩
  · skip
    refine g_iload_n C dX5_isValue_4 rfl rfl ?_
    refine g_iconst C (v := 1) dX5_isValue_5 (by decide) ?_
    refine g_bipush C (v := 60) dX5_isValue_6 (by decide) ?_
    refine kX5_42 C (by decide) (tX5_within _ _ _) ⟨⟨Nat.le_of_ble_eq_true rfl, Nat.le_of_ble_eq_true rfl⟩, Nat.le_of_ble_eq_true rfl, Nat.le_of_ble_eq_true rfl⟩ (Nat.le_of_ble_eq_true rfl) dX5_isValue_8 ?_
    refine g_goto C (tgt := 33) dX5_isValue_11 (by decide) ?_
    exact g_zret_b C hr dX5_isValue_33 ⟨by unfold vlM; (try first | rw [if_pos c1] | rw [if_neg c1] | rw [if_neg (show ¬ _ = true by rw [c1]; decide)]); try simp [bi, c1], rfl, rfl⟩

set_option maxRecDepth 100000 in
set_option maxHeartbeats 800000 in
theorem tX5_set {l : Launch} {E : EE} {I : Mi} {F : Mr} (hl : LY F) {k : Nat} (hk6 : k ≤ 6) (hk : I 127 3 = nI k) (x y : Int32)  : CtF l E mX5_set [rf E 127, .int x, .int y] NT I F NT (some (.int (ySet I k x y).1)) ((ySet I k x y).2) F := by
  refine CtF_of [some (rf E 127), some (.int x), some (.int y), none] (by decide) rfl (Nat.le_of_ble_eq_true rfl) rfl (fun p e s m args below meth c C hr hname => ?_)
  refine g_iload_n C dX5_set_0 rfl rfl ?_
  refine g_iload_n C dX5_set_1 rfl rfl ?_
  refine kX5_104 C (by decide) (tX5_isValue _ _) ⟨⟨Nat.le_of_ble_eq_true rfl, Nat.le_of_ble_eq_true rfl⟩, Nat.le_of_ble_eq_true rfl, Nat.le_of_ble_eq_true rfl⟩ (Nat.le_of_ble_eq_true rfl) dX5_set_2 ?_
  refine g_ifne_b C (tgt := 11) dX5_set_5 (by decide) (fun c5 => ?_) (fun c5 => ?_)
  · skip
    have hx2 : vp_in x 96 := vlM_in c5
    refine g_aload_n C dX5_set_11 rfl rfl ?_
    refine kX5_107 C (by decide) (tX5_record hl hk6 hk) ⟨⟨Nat.le_of_ble_eq_true rfl, Nat.le_of_ble_eq_true rfl⟩, Nat.le_of_ble_eq_true rfl, Nat.le_of_ble_eq_true rfl⟩ (Nat.le_of_ble_eq_true rfl) dX5_set_12 ?_
    refine g_aload_n C dX5_set_15 rfl rfl ?_
    refine gfX5_7 C (by decide) hl.mstate dX5_set_16 ?_
    refine g_iload_n C dX5_set_19 rfl rfl ?_
    refine g_iald C (show ar NT 128 7 96 by decide) hx2 dX5_set_20 ?_
    refine g_istore_n C dX5_set_21 rfl (by decide) rfl ?_
    refine g_aload_n C dX5_set_22 rfl rfl ?_
    refine gfX5_7 C (by decide) hl.mstate dX5_set_23 ?_
    refine g_iload_n C dX5_set_26 rfl rfl ?_
    refine g_iload_n C dX5_set_27 rfl rfl ?_
    refine g_iast C (show ar NT 128 7 96 by decide) hx2 dX5_set_28 ?_
    refine g_iload_n C dX5_set_29 rfl rfl ?_
    exact g_iret C hr dX5_set_30 ⟨by unfold ySet; (try first | rw [if_pos c5] | rw [if_neg c5] | rw [if_neg (show ¬ _ = true by rw [c5]; decide)]); try rfl, by unfold ySet; (try first | rw [if_pos c5] | rw [if_neg c5] | rw [if_neg (show ¬ _ = true by rw [c5]; decide)]); try rfl, rfl⟩
  · skip
    refine g_bipush C (v := (-2)) dX5_set_8 (by decide) ?_
    exact g_iret C hr dX5_set_10 ⟨by unfold ySet; (try first | rw [if_pos c5] | rw [if_neg c5] | rw [if_neg (show ¬ _ = true by rw [c5]; decide)]); try rfl, by unfold ySet; (try first | rw [if_pos c5] | rw [if_neg c5] | rw [if_neg (show ¬ _ = true by rw [c5]; decide)]); try rfl, rfl⟩

