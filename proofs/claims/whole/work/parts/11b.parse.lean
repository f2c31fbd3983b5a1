theorem chP_in {c : Nat → Int32} {L j : Nat} (h : chP c L j ≠ -1) : j < L := by
  unfold chP at h
  by_cases q : j < L
  · exact q
  · rw [if_neg q] at h; exact absurd rfl h
theorem nx_le {c : Nat → Int32} {L j : Nat} {x : Int32} (hj : j ≤ L) (hx : x ≠ -1) : nx c L j x ≤ L := by
  unfold nx
  split
  · rename_i q
    have := chP_in (c := c) (L := L) (j := j) (by rw [of_decide_eq_true q]; exact hx)
    omega
  · exact hj
theorem tdP_le {c : Nat → Int32} {L j : Nat} {lo9 hi : Int32} (hj : j ≤ L) (hlo : (0 : Int32) ≤ lo9) : (tdP c L lo9 hi j).2 ≤ L := by
  unfold tdP
  split
  · rename_i q
    have := chP_in (c := c) (L := L) (j := j) (fun e => by
      rw [e] at q
      simp only [isW, Bool.and_eq_true, decide_eq_true_eq] at q
      exact q.1 (Int32.lt_of_lt_of_le (by decide) hlo))
    show j + 1 ≤ L
    omega
  · exact hj
theorem tlP_le {c : Nat → Int32} {L j : Nat} (hj : j ≤ L) : (tlP c L j).2 ≤ L := by
  have h1 := tdP_le (c := c) (lo9 := 1) (hi := 9) hj (by decide)
  have h2 := tdP_le (c := c) (lo9 := 0) (hi := 9) h1 (by decide)
  have h3 := tdP_le (c := c) (lo9 := 0) (hi := 0) h1 (by decide)
  unfold tlP
  split
  · split <;> exact h2
  · split
    · split <;> exact h3
    · exact h1

set_option maxRecDepth 100000 in
set_option maxHeartbeats 800000 in
theorem tX5_takeLoad {l : Launch} {E : EE} {I : Mi} {F : Mr} (hl : LY F) {L : Nat} (hL64 : L ≤ 64) (hL : I 127 7 = nI L) {j : Nat} {u1 u2 u3 u4 u5 : Int32} (hj : j ≤ L)  : CtF l E mX5_takeLoad [rf E 127] NT (pM I j u1 u2 u3 u4 u5) F NT (some (.int (tlP (I 133) L j).1)) (pM I (tlP (I 133) L j).2 u1 u2 u3 u4 u5) F := by
  refine CtF_of [some (rf E 127), none, none] (by decide) rfl (Nat.le_of_ble_eq_true rfl) rfl (fun p e s m args below meth c C hr hname => ?_)
  refine g_aload_n C dX5_takeLoad_0 rfl rfl ?_
  refine g_iconst C (v := 1) dX5_takeLoad_1 (by decide) ?_
  refine g_bipush C (v := 9) dX5_takeLoad_2 (by decide) ?_
  refine kX5_174 C (by decide) (tX5_takeDigit hl hL64 hL (by first | omega | (have := tdP_le (c := I 133) (lo9 := 1) (hi := 9) hj (by decide); omega)) _ _) ⟨⟨Nat.le_of_ble_eq_true rfl, Nat.le_of_ble_eq_true rfl⟩, Nat.le_of_ble_eq_true rfl, Nat.le_of_ble_eq_true rfl⟩ (Nat.le_of_ble_eq_true rfl) dX5_takeLoad_4 ?_
  refine g_istore_n C dX5_takeLoad_7 rfl (by decide) rfl ?_
  refine g_iload_n C dX5_takeLoad_8 rfl rfl ?_
  refine g_iconst C (v := 1) dX5_takeLoad_9 (by decide) ?_
  refine g_icmp_eq C (tgt := 18) dX5_takeLoad_10 (by decide) (fun c10 => ?_) (fun c10 => ?_)
  · skip
    refine g_aload_n C dX5_takeLoad_18 rfl rfl ?_
    refine g_iconst C (v := 0) dX5_takeLoad_19 (by decide) ?_
    refine g_iload_n C dX5_takeLoad_20 rfl rfl ?_
    refine g_iconst C (v := 1) dX5_takeLoad_21 (by decide) ?_
    refine g_icmp_ne C (tgt := 30) dX5_takeLoad_22 (by decide) (fun c22 => absurd c10 c22) (fun _ => ?_)
    refine g_bipush C (v := 9) dX5_takeLoad_25 (by decide) ?_
    refine g_goto C (tgt := 31) dX5_takeLoad_27 (by decide) ?_
    refine kX5_174 C (by decide) (tX5_takeDigit hl hL64 hL (by first | omega | (have := tdP_le (c := I 133) (lo9 := 1) (hi := 9) hj (by decide); omega)) _ _) ⟨⟨Nat.le_of_ble_eq_true rfl, Nat.le_of_ble_eq_true rfl⟩, Nat.le_of_ble_eq_true rfl, Nat.le_of_ble_eq_true rfl⟩ (Nat.le_of_ble_eq_true rfl) dX5_takeLoad_31 ?_
    refine g_istore_n C dX5_takeLoad_34 rfl (by decide) rfl ?_
    refine g_iload_n C dX5_takeLoad_35 rfl rfl ?_
    refine g_if_ge C (tgt := 43) dX5_takeLoad_36 (by decide) (fun c36 => ?_) (fun c36 => ?_)
    · skip
      refine g_bipush C (v := 10) dX5_takeLoad_43 (by decide) ?_
      refine g_iload_n C dX5_takeLoad_45 rfl rfl ?_
      refine g_imul C dX5_takeLoad_46 ?_
      refine g_iload_n C dX5_takeLoad_47 rfl rfl ?_
      refine g_iadd C dX5_takeLoad_48 ?_
      refine g_istore_n C dX5_takeLoad_49 rfl (by decide) rfl ?_
      refine g_iload_n C dX5_takeLoad_50 rfl rfl ?_
      exact g_iret C hr dX5_takeLoad_51 ⟨by unfold tlP; (try first | rw [if_pos c10] | rw [if_neg c10] | rw [if_neg (show ¬ _ = true by rw [c10]; decide)]); (try first | rw [if_pos c36] | rw [if_neg c36] | rw [if_neg (show ¬ _ = true by rw [c36]; decide)]); try rfl, by unfold tlP; (try first | rw [if_pos c10] | rw [if_neg c10] | rw [if_neg (show ¬ _ = true by rw [c10]; decide)]); (try first | rw [if_pos c36] | rw [if_neg c36] | rw [if_neg (show ¬ _ = true by rw [c36]; decide)]); try rfl, rfl⟩
    · skip
      refine g_iload_n C dX5_takeLoad_39 rfl rfl ?_
      refine g_goto C (tgt := 49) dX5_takeLoad_40 (by decide) ?_
      refine g_istore_n C dX5_takeLoad_49 rfl (by decide) rfl ?_
      refine g_iload_n C dX5_takeLoad_50 rfl rfl ?_
      exact g_iret C hr dX5_takeLoad_51 ⟨by unfold tlP; (try first | rw [if_pos c10] | rw [if_neg c10] | rw [if_neg (show ¬ _ = true by rw [c10]; decide)]); (try first | rw [if_pos c36] | rw [if_neg c36] | rw [if_neg (show ¬ _ = true by rw [c36]; decide)]); try rfl, by unfold tlP; (try first | rw [if_pos c10] | rw [if_neg c10] | rw [if_neg (show ¬ _ = true by rw [c10]; decide)]); (try first | rw [if_pos c36] | rw [if_neg c36] | rw [if_neg (show ¬ _ = true by rw [c36]; decide)]); try rfl, rfl⟩
  · skip
    refine g_iload_n C dX5_takeLoad_13 rfl rfl ?_
    refine g_iconst C (v := 2) dX5_takeLoad_14 (by decide) ?_
    refine g_icmp_ne C (tgt := 50) dX5_takeLoad_15 (by decide) (fun c15 => ?_) (fun c15 => ?_)
    · skip
      refine g_iload_n C dX5_takeLoad_50 rfl rfl ?_
      exact g_iret C hr dX5_takeLoad_51 ⟨by unfold tlP; (try first | rw [if_pos c10] | rw [if_neg c10] | rw [if_neg (show ¬ _ = true by rw [c10]; decide)]); (try first | rw [if_pos c15] | rw [if_neg c15] | rw [if_neg (show ¬ _ = true by rw [c15]; decide)]); try rfl, by unfold tlP; (try first | rw [if_pos c10] | rw [if_neg c10] | rw [if_neg (show ¬ _ = true by rw [c10]; decide)]); (try first | rw [if_pos c15] | rw [if_neg c15] | rw [if_neg (show ¬ _ = true by rw [c15]; decide)]); try rfl, rfl⟩
    · skip
      refine g_aload_n C dX5_takeLoad_18 rfl rfl ?_
      refine g_iconst C (v := 0) dX5_takeLoad_19 (by decide) ?_
      refine g_iload_n C dX5_takeLoad_20 rfl rfl ?_
      refine g_iconst C (v := 1) dX5_takeLoad_21 (by decide) ?_
      refine g_icmp_ne C (tgt := 30) dX5_takeLoad_22 (by decide) (fun _ => ?_) (fun c22 => absurd c22 c10)
      refine g_iconst C (v := 0) dX5_takeLoad_30 (by decide) ?_
      refine kX5_174 C (by decide) (tX5_takeDigit hl hL64 hL (by first | omega | (have := tdP_le (c := I 133) (lo9 := 1) (hi := 9) hj (by decide); omega)) _ _) ⟨⟨Nat.le_of_ble_eq_true rfl, Nat.le_of_ble_eq_true rfl⟩, Nat.le_of_ble_eq_true rfl, Nat.le_of_ble_eq_true rfl⟩ (Nat.le_of_ble_eq_true rfl) dX5_takeLoad_31 ?_
      refine g_istore_n C dX5_takeLoad_34 rfl (by decide) rfl ?_
      refine g_iload_n C dX5_takeLoad_35 rfl rfl ?_
      refine g_if_ge C (tgt := 43) dX5_takeLoad_36 (by decide) (fun c36 => ?_) (fun c36 => ?_)
      · skip
        refine g_bipush C (v := 10) dX5_takeLoad_43 (by decide) ?_
        refine g_iload_n C dX5_takeLoad_45 rfl rfl ?_
        refine g_imul C dX5_takeLoad_46 ?_
        refine g_iload_n C dX5_takeLoad_47 rfl rfl ?_
        refine g_iadd C dX5_takeLoad_48 ?_
        refine g_istore_n C dX5_takeLoad_49 rfl (by decide) rfl ?_
        refine g_iload_n C dX5_takeLoad_50 rfl rfl ?_
        exact g_iret C hr dX5_takeLoad_51 ⟨by unfold tlP; (try first | rw [if_pos c10] | rw [if_neg c10] | rw [if_neg (show ¬ _ = true by rw [c10]; decide)]); (try first | rw [if_pos c15] | rw [if_neg c15] | rw [if_neg (show ¬ _ = true by rw [c15]; decide)]); (try first | rw [if_pos c36] | rw [if_neg c36] | rw [if_neg (show ¬ _ = true by rw [c36]; decide)]); try rfl, by unfold tlP; (try first | rw [if_pos c10] | rw [if_neg c10] | rw [if_neg (show ¬ _ = true by rw [c10]; decide)]); (try first | rw [if_pos c15] | rw [if_neg c15] | rw [if_neg (show ¬ _ = true by rw [c15]; decide)]); (try first | rw [if_pos c36] | rw [if_neg c36] | rw [if_neg (show ¬ _ = true by rw [c36]; decide)]); try rfl, rfl⟩
      · skip
        refine g_iload_n C dX5_takeLoad_39 rfl rfl ?_
        refine g_goto C (tgt := 49) dX5_takeLoad_40 (by decide) ?_
        refine g_istore_n C dX5_takeLoad_49 rfl (by decide) rfl ?_
        refine g_iload_n C dX5_takeLoad_50 rfl rfl ?_
        exact g_iret C hr dX5_takeLoad_51 ⟨by unfold tlP; (try first | rw [if_pos c10] | rw [if_neg c10] | rw [if_neg (show ¬ _ = true by rw [c10]; decide)]); (try first | rw [if_pos c15] | rw [if_neg c15] | rw [if_neg (show ¬ _ = true by rw [c15]; decide)]); (try first | rw [if_pos c36] | rw [if_neg c36] | rw [if_neg (show ¬ _ = true by rw [c36]; decide)]); try rfl, by unfold tlP; (try first | rw [if_pos c10] | rw [if_neg c10] | rw [if_neg (show ¬ _ = true by rw [c10]; decide)]); (try first | rw [if_pos c15] | rw [if_neg c15] | rw [if_neg (show ¬ _ = true by rw [c15]; decide)]); (try first | rw [if_pos c36] | rw [if_neg c36] | rw [if_neg (show ¬ _ = true by rw [c36]; decide)]); try rfl, rfl⟩

