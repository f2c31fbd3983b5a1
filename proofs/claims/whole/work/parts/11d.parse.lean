abbrev tPP (c : Nat → Int32) (L num j : Nat) : T5 := (isoP c L j, kepP c L j, (rpR c L j).1, (rpL c L j).1, (rpS c L num j).2.2)
abbrev pT (I : Mi) (j : Nat) (t : T5) : Mi := pM I j t.1 t.2.1 t.2.2.1 t.2.2.2.1 t.2.2.2.2
theorem pT_r10 (I : Mi) (j : Nat) (t : T5) : pT I j t 127 10 = nI j := rfl
theorem pT_r7 (I : Mi) (j : Nat) (t : T5) : pT I j t 127 7 = I 127 7 := rfl
theorem tX5_readsIsland2 {l : Launch} {E : EE} {I : Mi} {F : Mr} (hl : LY F) {L : Nat} (hL64 : L ≤ 64) (hL : I 127 7 = nI L) {j : Nat} {t : T5} (hj : j ≤ L) (num : Nat) : CtF l E mX5_readsIsland [rf E 127, .int (nI num)] NT (pT I j t) F NT (some (.int (bi (rpS (I 133) L num j).1))) (pT I (rpS (I 133) L num j).2.1 (tPP (I 133) L num j)) F := tX5_readsIsland hl hL64 hL hj num
/-- the fault: the answer, where one stands at the end, what was told last -/
def ffM (c : Nat → Int32) (L : Nat) : Nat → Nat → Nat × T5 → Int32 × Nat × T5
  | 0, _, s => (0, s)
  | k + 1, i, s => if (rpS c L i s.1).1 = true then
      (if nI (rpS c L i s.1).2.1 = nI L then (-6, (rpS c L i s.1).2.1, tPP c L i s.1)
       else if nI (i + 1) = 8 then (nI (rpS c L i s.1).2.1, (rpS c L i s.1).2.1, tPP c L i s.1)
       else if decide (chP c L (rpS c L i s.1).2.1 = 59) = true then ffM c L k (i + 1) (nx c L (rpS c L i s.1).2.1 59, tPP c L i s.1)
       else (nI (nx c L (rpS c L i s.1).2.1 59), nx c L (rpS c L i s.1).2.1 59, tPP c L i s.1))
    else (nI (rpS c L i s.1).2.1, (rpS c L i s.1).2.1, tPP c L i s.1)
def ffS (c : Nat → Int32) (L : Nat) (s : Nat × T5) (i : Nat) : Nat × T5 := lp (fun i s => (nx c L (rpS c L i s.1).2.1 59, tPP c L i s.1)) i s
theorem ffS_s (c : Nat → Int32) (L : Nat) (s : Nat × T5) (i : Nat) : ffS c L s (i + 1) = (nx c L (rpS c L i (ffS c L s i).1).2.1 59, tPP c L i (ffS c L s i).1) := by unfold ffS; rw [lp]

set_option maxRecDepth 100000 in
set_option maxHeartbeats 800000 in
theorem tX5_findFault {l : Launch} {E : EE} {I : Mi} {F : Mr} (hl : LY F) {L : Nat} (hL64 : L ≤ 64) (hL : I 127 7 = nI L) {j : Nat} {t9 : T5}  : CtF l E mX5_findFault [rf E 127] NT (pT I j t9) F NT (some (.int (ffM (I 133) L 8 0 (0, t9)).1)) (pT I (ffM (I 133) L 8 0 (0, t9)).2.1 (ffM (I 133) L 8 0 (0, t9)).2.2) F := by
  refine CtF_of [some (rf E 127), none] (by decide) rfl (Nat.le_of_ble_eq_true rfl) rfl (fun p e s m args below meth c C hr hname => ?_)
  refine g_iconst C (v := 0) dX5_findFault_0 (by decide) ?_
  refine g_istore_n C dX5_findFault_1 rfl (by decide) rfl ?_
  refine g_aload_n C dX5_findFault_2 rfl rfl ?_
  refine g_iconst C (v := 0) dX5_findFault_3 (by decide) ?_
  refine pfX5_114 C (by decide) dX5_findFault_4 ?_
  rw [show up (pT I j t9) 127 10 0 = pT I 0 t9 from pM_at I j 0 _ _ _ _ _]
  refine G_loopI (n := 8) (fun i => [some (rf E 127), some (.int (nI i))]) (fun i => pT I (ffS (I 133) L (0, t9) i).1 (ffS (I 133) L (0, t9) i).2) (fun _ => F) (fun i => ffM (I 133) L (8 - i) i (ffS (I 133) L (0, t9) i) = ffM (I 133) L 8 0 (0, t9) ∧ (ffS (I 133) L (0, t9) i).1 ≤ L ∧ i < 8) rfl rfl rfl ⟨rfl, Nat.zero_le _, by decide⟩ ?_ ?_
  · intro i7 hi7 hv7 ih7
    have hj7 := hv7.2.1
    have hr7 : (rpS (I 133) L i7 (ffS (I 133) L (0, t9) i7).1).2.1 ≤ L := rpS_le hj7
    rw [show 8 - i7 = (7 - i7) + 1 by omega, ffM] at hv7
    refine g_aload_n C dX5_findFault_7 rfl rfl ?_
    refine g_iload_n C dX5_findFault_8 rfl rfl ?_
    refine kX5_120 C (by decide) (tX5_readsIsland2 hl hL64 hL (t := (ffS (I 133) L (0, t9) i7).2) hv7.2.1 i7) ⟨⟨Nat.le_of_ble_eq_true rfl, Nat.le_of_ble_eq_true rfl⟩, Nat.le_of_ble_eq_true rfl, Nat.le_of_ble_eq_true rfl⟩ (Nat.le_of_ble_eq_true rfl) dX5_findFault_9 ?_
    refine g_ifne_b C (tgt := 20) dX5_findFault_12 (by decide) (fun c12 => ?_) (fun c12 => ?_)
    · skip
      refine g_iinc C dX5_findFault_20 rfl (nI_inc _) (by decide) rfl ?_
      refine g_aload_n C dX5_findFault_23 rfl rfl ?_
      refine gfX5_114 C (by decide) dX5_findFault_24 ?_
      first | rw [pT_r10] | rw [pM_r10]
      refine g_aload_n C dX5_findFault_27 rfl rfl ?_
      refine gfX5_117 C (by decide) dX5_findFault_28 ?_
      first | rw [pT_r7, hL] | rw [pM_r7, hL]
      refine g_icmp_ne C (tgt := 37) dX5_findFault_31 (by decide) (fun c31 => ?_) (fun c31 => ?_)
      · skip
        refine g_iload_n C dX5_findFault_37 rfl rfl ?_
        refine g_bipush C (v := 8) dX5_findFault_38 (by decide) ?_
        refine g_icmp_eq C (tgt := 52) dX5_findFault_40 (by decide) (fun c40 => ?_) (fun c40 => ?_)
        · skip
          refine g_aload_n C dX5_findFault_52 rfl rfl ?_
          refine gfX5_114 C (by decide) dX5_findFault_53 ?_
          first | rw [pT_r10] | rw [pM_r10]
          exact g_iret C hr dX5_findFault_56 ⟨by rw [← hv7.1]; (try first | rw [if_pos c12] | rw [if_neg c12] | rw [if_neg (show ¬ _ = true by rw [c12]; decide)]); (try first | rw [if_pos c31] | rw [if_neg c31] | rw [if_neg (show ¬ _ = true by rw [c31]; decide)]); (try first | rw [if_pos c40] | rw [if_neg c40] | rw [if_neg (show ¬ _ = true by rw [c40]; decide)]), by rw [← hv7.1]; (try first | rw [if_pos c12] | rw [if_neg c12] | rw [if_neg (show ¬ _ = true by rw [c12]; decide)]); (try first | rw [if_pos c31] | rw [if_neg c31] | rw [if_neg (show ¬ _ = true by rw [c31]; decide)]); (try first | rw [if_pos c40] | rw [if_neg c40] | rw [if_neg (show ¬ _ = true by rw [c40]; decide)]), rfl⟩
        · skip
          refine g_aload_n C dX5_findFault_43 rfl rfl ?_
          refine g_bipush C (v := 59) dX5_findFault_44 (by decide) ?_
          refine kX5_123 C (by decide) (tX5_isNext hl hL64 hL (by first | omega | assumption) _) ⟨⟨Nat.le_of_ble_eq_true rfl, Nat.le_of_ble_eq_true rfl⟩, Nat.le_of_ble_eq_true rfl, Nat.le_of_ble_eq_true rfl⟩ (Nat.le_of_ble_eq_true rfl) dX5_findFault_46 ?_
          refine g_ifne_b C (tgt := 7) dX5_findFault_49 (by decide) (fun c49 => ?_) (fun c49 => ?_)
          · skip
            exact G_cast (ih7 ⟨by rw [show 8 - (i7 + 1) = 7 - i7 by omega, ffS_s, ← hv7.1]; (try first | rw [if_pos c12] | rw [if_neg c12] | rw [if_neg (show ¬ _ = true by rw [c12]; decide)]); (try first | rw [if_pos c31] | rw [if_neg c31] | rw [if_neg (show ¬ _ = true by rw [c31]; decide)]); (try first | rw [if_pos c40] | rw [if_neg c40] | rw [if_neg (show ¬ _ = true by rw [c40]; decide)]); (try first | rw [if_pos c49] | rw [if_neg c49] | rw [if_neg (show ¬ _ = true by rw [c49]; decide)]), by rw [ffS_s]; exact nx_le hr7 (by decide), by rcases Nat.lt_or_ge (i7 + 1) 8 with q | q; exact q; exact absurd (show nI (i7 + 1) = 8 by rw [show i7 + 1 = 8 by omega]; rfl) c40⟩) (by rw [ffS_s]) rfl rfl rfl
          · skip
            refine g_aload_n C dX5_findFault_52 rfl rfl ?_
            refine gfX5_114 C (by decide) dX5_findFault_53 ?_
            first | rw [pT_r10] | rw [pM_r10]
            exact g_iret C hr dX5_findFault_56 ⟨by rw [← hv7.1]; (try first | rw [if_pos c12] | rw [if_neg c12] | rw [if_neg (show ¬ _ = true by rw [c12]; decide)]); (try first | rw [if_pos c31] | rw [if_neg c31] | rw [if_neg (show ¬ _ = true by rw [c31]; decide)]); (try first | rw [if_pos c40] | rw [if_neg c40] | rw [if_neg (show ¬ _ = true by rw [c40]; decide)]); (try first | rw [if_pos c49] | rw [if_neg c49] | rw [if_neg (show ¬ _ = true by rw [c49]; decide)]), by rw [← hv7.1]; (try first | rw [if_pos c12] | rw [if_neg c12] | rw [if_neg (show ¬ _ = true by rw [c12]; decide)]); (try first | rw [if_pos c31] | rw [if_neg c31] | rw [if_neg (show ¬ _ = true by rw [c31]; decide)]); (try first | rw [if_pos c40] | rw [if_neg c40] | rw [if_neg (show ¬ _ = true by rw [c40]; decide)]); (try first | rw [if_pos c49] | rw [if_neg c49] | rw [if_neg (show ¬ _ = true by rw [c49]; decide)]), rfl⟩
      · skip
        refine g_bipush C (v := (-6)) dX5_findFault_34 (by decide) ?_
        exact g_iret C hr dX5_findFault_36 ⟨by rw [← hv7.1]; (try first | rw [if_pos c12] | rw [if_neg c12] | rw [if_neg (show ¬ _ = true by rw [c12]; decide)]); (try first | rw [if_pos c31] | rw [if_neg c31] | rw [if_neg (show ¬ _ = true by rw [c31]; decide)]), by rw [← hv7.1]; (try first | rw [if_pos c12] | rw [if_neg c12] | rw [if_neg (show ¬ _ = true by rw [c12]; decide)]); (try first | rw [if_pos c31] | rw [if_neg c31] | rw [if_neg (show ¬ _ = true by rw [c31]; decide)]), rfl⟩
    · skip
      refine g_aload_n C dX5_findFault_15 rfl rfl ?_
      refine gfX5_114 C (by decide) dX5_findFault_16 ?_
      first | rw [pT_r10] | rw [pM_r10]
      exact g_iret C hr dX5_findFault_19 ⟨by rw [← hv7.1]; (try first | rw [if_pos c12] | rw [if_neg c12] | rw [if_neg (show ¬ _ = true by rw [c12]; decide)]), by rw [← hv7.1]; (try first | rw [if_pos c12] | rw [if_neg c12] | rw [if_neg (show ¬ _ = true by rw [c12]; decide)]), rfl⟩
  · intro hv7
    exact absurd hv7.2.2 (by decide)

set_option maxRecDepth 100000 in
set_option maxHeartbeats 800000 in
theorem tX5_fault {l : Launch} {E : EE} {I : Mi} {F : Mr} (hl : LY F) {L : Nat} (hL64 : L ≤ 64) (hL : I 127 7 = nI L) {j : Nat} {t9 : T5}  : CtF l E mX5_fault [rf E 127] NT (pT I j t9) F NT (some (.int (ffM (I 133) L 8 0 (0, t9)).1)) (pT I (ffM (I 133) L 8 0 (0, t9)).2.1 (ffM (I 133) L 8 0 (0, t9)).2.2) F := by
  refine CtF_of [some (rf E 127)] (by decide) rfl (Nat.le_of_ble_eq_true rfl) rfl (fun p e s m args below meth c C hr hname => ?_)
  refine g_aload_n C dX5_fault_0 rfl rfl ?_
  refine kX5_129 C (by decide) (tX5_findFault hl hL64 hL) ⟨⟨Nat.le_of_ble_eq_true rfl, Nat.le_of_ble_eq_true rfl⟩, Nat.le_of_ble_eq_true rfl, Nat.le_of_ble_eq_true rfl⟩ (Nat.le_of_ble_eq_true rfl) dX5_fault_1 ?_
  exact g_iret C hr dX5_fault_4 ⟨rfl, rfl, rfl⟩

