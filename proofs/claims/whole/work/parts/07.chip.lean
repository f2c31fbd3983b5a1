/-! Chip: what its methods do to the memory, and that they do it -/
def isP (x : Int32) : Bool := decide (¬ x < 0) && decide (¬ (8 : Int32) ≤ x)
theorem isP_in {x : Int32} (h : isP x = true) : vp_in x 8 := by
  simp only [isP, Bool.and_eq_true, decide_eq_true_eq] at h
  intro q
  rcases q with q | q
  · exact h.1 q
  · refine h.2 ?_
    obtain ⟨j, hj, rfl⟩ := nI_of h.1
    rw [nI_clamp hj] at q
    exact nI_le (a := 8) q hj
theorem isP_n {i : Nat} (h : i < 8) : isP (nI i) = true := by
  simp only [isP, Bool.and_eq_true, decide_eq_true_eq]
  exact ⟨nI_pos (by omega), nI_ge (b := 8) h (by decide)⟩
def isI (s i : Int32) : Bool := decide (¬ ((s >>> (i &&& 31)) &&& 1) = 0)
def sh1 (i : Nat) : Int32 := 1 <<< (nI i &&& 31)
def setC (I : Mi) (a : Nat) (x : Int32) : Int32 := lp (fun i acc => if I (a + 4) i = x then acc ||| ((1 : Int32) <<< (nI i &&& 31)) else acc) 8 0

set_option maxRecDepth 100000 in
set_option maxHeartbeats 4000000 in
theorem tX0_isPlace {l : Launch} {E : EE} {N : Nat} {I : Mi} {F : Mr} (x : Int32)  : CtF l E mX0_isPlace [.int x] N I F N (some (.int (bi (isP x)))) I F := by
  refine CtF_of [some (.int x)] (by decide) rfl (Nat.le_of_ble_eq_true rfl) rfl (fun p e s m args below meth c C hr hname => ?_)
  refine g_iload_n C dX0_isPlace_0 rfl rfl ?_
  refine g_if_lt C (tgt := 14) dX0_isPlace_1 (by decide) (fun c1 => ?_) (fun c1 => ?_)
  · skip
    refine g_iconst C (v := 0) dX0_isPlace_14 (by decide) ?_
    exact g_zret_0 C hr dX0_isPlace_15 ⟨by simp [isP, bi, *], rfl, rfl⟩
  · skip
    refine g_iload_n C dX0_isPlace_4 rfl rfl ?_
    refine g_bipush C (v := 8) dX0_isPlace_5 (by decide) ?_
    refine g_icmp_ge C (tgt := 14) dX0_isPlace_7 (by decide) (fun c7 => ?_) (fun c7 => ?_)
    · skip
      refine g_iconst C (v := 0) dX0_isPlace_14 (by decide) ?_
      exact g_zret_0 C hr dX0_isPlace_15 ⟨by simp [isP, bi, *], rfl, rfl⟩
    · skip
      refine g_iconst C (v := 1) dX0_isPlace_10 (by decide) ?_
      refine g_goto C (tgt := 15) dX0_isPlace_11 (by decide) ?_
      exact g_zret_1 C hr dX0_isPlace_15 ⟨by simp [isP, bi, *], rfl, rfl⟩

set_option maxRecDepth 100000 in
set_option maxHeartbeats 4000000 in
theorem tX4_isIn {l : Launch} {E : EE} {N : Nat} {I : Mi} {F : Mr} (x y : Int32)  : CtF l E mX4_isIn [.int x, .int y] N I F N (some (.int (bi (isI x y)))) I F := by
  refine CtF_of [some (.int x), some (.int y)] (by decide) rfl (Nat.le_of_ble_eq_true rfl) rfl (fun p e s m args below meth c C hr hname => ?_)
  refine g_iload_n C dX4_isIn_0 rfl rfl ?_
  refine g_iload_n C dX4_isIn_1 rfl rfl ?_
  refine g_ishr C dX4_isIn_2 ?_
  refine g_iconst C (v := 1) dX4_isIn_3 (by decide) ?_
  refine g_iand C dX4_isIn_4 ?_
  refine g_if_eq C (tgt := 12) dX4_isIn_5 (by decide) (fun c5 => ?_) (fun c5 => ?_)
  · skip
    refine g_iconst C (v := 0) dX4_isIn_12 (by decide) ?_
    exact g_zret_0 C hr dX4_isIn_13 ⟨by simp [isI, bi, *], rfl, rfl⟩
  · skip
    refine g_iconst C (v := 1) dX4_isIn_8 (by decide) ?_
    refine g_goto C (tgt := 13) dX4_isIn_9 (by decide) ?_
    exact g_zret_1 C hr dX4_isIn_13 ⟨by simp [isI, bi, *], rfl, rfl⟩

set_option maxRecDepth 100000 in
set_option maxHeartbeats 4000000 in
theorem tX0_islandsThatAre {l : Launch} {E : EE} {N : Nat} {I : Mi} {F : Mr} {a : Nat} (ha : CH N F a) (x : Int32)  : CtF l E mX0_islandsThatAre [rf E a, .int x] N I F N (some (.int (setC I a x))) I F := by
  refine CtF_of [some (rf E a), some (.int x), none, none] (by decide) rfl (Nat.le_of_ble_eq_true rfl) rfl (fun p e s m args below meth c C hr hname => ?_)
  refine g_iconst C (v := 0) dX0_islandsThatAre_0 (by decide) ?_
  refine g_istore_n C dX0_islandsThatAre_1 rfl (by decide) rfl ?_
  refine g_iconst C (v := 0) dX0_islandsThatAre_2 (by decide) ?_
  refine g_istore_n C dX0_islandsThatAre_3 rfl (by decide) rfl ?_
  refine G_loop (n := 8) (fun i => [some (rf E a), some (.int x), some (.int (lp (fun i acc => if I (a + 4) i = x then acc ||| ((1 : Int32) <<< (nI i &&& 31)) else acc) i 0)), some (.int (nI i))]) (fun i => I) (fun _ => F) rfl rfl rfl ?_ ?_
  · intro i4 hi4 ih4
    refine g_iload_n C dX0_islandsThatAre_4 rfl rfl ?_
    refine g_bipush C (v := 8) dX0_islandsThatAre_5 (by decide) ?_
    refine g_icmp_ge C (tgt := 32) dX0_islandsThatAre_7 (by decide) (fun c7 => absurd c7 (nI_nge rfl hi4 (by decide))) (fun _ => ?_)
    refine g_aload_n C dX0_islandsThatAre_10 rfl rfl ?_
    refine gfX0_21 C ha.o ha.f6 dX0_islandsThatAre_11 ?_
    refine g_iload_n C dX0_islandsThatAre_14 rfl rfl ?_
    refine g_iald_j C ha.r4 (i4) rfl hi4 (by decide) dX0_islandsThatAre_15 ?_
    refine g_iload_n C dX0_islandsThatAre_16 rfl rfl ?_
    refine g_icmp_ne C (tgt := 26) dX0_islandsThatAre_17 (by decide) (fun c17 => ?_) (fun c17 => ?_)
    · skip
      refine g_iinc C dX0_islandsThatAre_26 rfl (nI_inc _) (by decide) rfl ?_
      refine g_goto C (tgt := 4) dX0_islandsThatAre_29 (by decide) ?_
      exact G_cast ih4 rfl rfl (by first | rfl | (simp only [lp]; first | (rw [if_pos (by assumption)]; rfl) | (rw [if_neg (by assumption)]; rfl) | rfl)) rfl
    · skip
      refine g_iload_n C dX0_islandsThatAre_20 rfl rfl ?_
      refine g_iconst C (v := 1) dX0_islandsThatAre_21 (by decide) ?_
      refine g_iload_n C dX0_islandsThatAre_22 rfl rfl ?_
      refine g_ishl C dX0_islandsThatAre_23 ?_
      refine g_ior C dX0_islandsThatAre_24 ?_
      refine g_istore_n C dX0_islandsThatAre_25 rfl (by decide) rfl ?_
      refine g_iinc C dX0_islandsThatAre_26 rfl (nI_inc _) (by decide) rfl ?_
      refine g_goto C (tgt := 4) dX0_islandsThatAre_29 (by decide) ?_
      exact G_cast ih4 rfl rfl (by first | rfl | (simp only [lp]; first | (rw [if_pos (by assumption)]; rfl) | (rw [if_neg (by assumption)]; rfl) | rfl)) rfl
  · skip
    refine g_iload_n C dX0_islandsThatAre_4 rfl rfl ?_
    refine g_bipush C (v := 8) dX0_islandsThatAre_5 (by decide) ?_
    refine g_icmp_ge C (tgt := 32) dX0_islandsThatAre_7 (by decide) (fun _ => ?_) (fun c7 => absurd (nI_lee rfl) c7)
    refine g_iload_n C dX0_islandsThatAre_32 rfl rfl ?_
    exact g_iret C hr dX0_islandsThatAre_33 ⟨rfl, rfl, rfl⟩

