abbrev T5 : Type := Int32 × Int32 × Int32 × Int32 × Int32
def ldP (c : Nat → Int32) (L : Nat) (v : Int32) (j : Nat) : Int32 × Nat := if v < 0 then (-1, j) else if decide (chP c L j = 44) = true then tlP c L (nx c L j 44) else (-1, nx c L j 44)
abbrev S3 : Type := Bool × Nat × Int32
def rdB (c : Nat → Int32) (L num : Nat) (s : S3) : S3 :=
  if decide (¬ chP c L (nx c L s.2.1 62) - 48 = nI num) = true then
    (if decide (¬ (tdP c L 0 7 (nx c L s.2.1 62)).1 < 0) = true then (true, (tdP c L 0 7 (nx c L s.2.1 62)).2, s.2.2 ||| ((1 : Int32) <<< ((tdP c L 0 7 (nx c L s.2.1 62)).1 &&& 31)))
     else (false, (tdP c L 0 7 (nx c L s.2.1 62)).2, s.2.2 ||| 0))
  else (false, nx c L s.2.1 62, s.2.2 ||| 0)
def rdE (c : Nat → Int32) (L num : Nat) : Nat → S3 → S3
  | 0, s => s
  | k + 1, s => if s.1 = true then (if decide (chP c L s.2.1 = 62) = true then rdE c L num k (rdB c L num s) else s) else s
def rdS (c : Nat → Int32) (L num : Nat) (s : S3) (i : Nat) : S3 := lp (fun _ s => rdB c L num s) i s
theorem rdS_s (c : Nat → Int32) (L num : Nat) (s : S3) (i : Nat) : rdS c L num s (i + 1) = rdB c L num (rdS c L num s i) := by unfold rdS; rw [lp]
theorem rdS_0 (c : Nat → Int32) (L num : Nat) (s : S3) : rdS c L num s 0 = s := rfl
theorem rdB_le {c : Nat → Int32} {L num : Nat} {s : S3} (h : s.2.1 ≤ L) : (rdB c L num s).2.1 ≤ L := by
  have h1 : nx c L s.2.1 62 ≤ L := nx_le h (by decide)
  have h2 := tdP_le (c := c) (lo9 := 0) (hi := 7) h1 (by decide)
  unfold rdB
  split
  · split <;> exact h2
  · exact h1
theorem tdP_ge {c : Nat → Int32} {L j : Nat} {lo9 hi : Int32} : j ≤ (tdP c L lo9 hi j).2 := by
  unfold tdP; split
  · exact Nat.le_succ j
  · exact Nat.le_refl j
theorem rdB_ge {c : Nat → Int32} {L num : Nat} {s : S3} (h : decide (chP c L s.2.1 = 62) = true) : s.2.1 + 1 ≤ (rdB c L num s).2.1 := by
  have h1 : nx c L s.2.1 62 = s.2.1 + 1 := by unfold nx; rw [if_pos h]
  have h2 := tdP_ge (c := c) (L := L) (lo9 := 0) (hi := 7) (j := nx c L s.2.1 62)
  unfold rdB
  split
  · split <;> (simp only; omega)
  · simp only; omega
def rpI (c : Nat → Int32) (L j : Nat) : Nat := nx c L j 105
def rpK (c : Nat → Int32) (L j : Nat) : Nat := nx c L (rpI c L j) 107
def rpR (c : Nat → Int32) (L j : Nat) : Int32 × Nat := tdP c L 1 9 (rpK c L j)
def rpL (c : Nat → Int32) (L j : Nat) : Int32 × Nat := ldP c L (rpR c L j).1 (rpR c L j).2
def rpS (c : Nat → Int32) (L num j : Nat) : S3 := rdE c L num 64 (decide (¬ (rpL c L j).1 < 0), (rpL c L j).2, 0)
abbrev isoP (c : Nat → Int32) (L j : Nat) : Int32 := bi (decide (chP c L j = 105))
abbrev kepP (c : Nat → Int32) (L j : Nat) : Int32 := bi (decide (chP c L (rpI c L j) = 107))
theorem ldP_le {c : Nat → Int32} {L j : Nat} {v : Int32} (hj : j ≤ L) : (ldP c L v j).2 ≤ L := by
  have h1 : nx c L j 44 ≤ L := nx_le hj (by decide)
  unfold ldP
  split
  · exact hj
  · split
    · exact tlP_le h1
    · exact h1
theorem rdE_le {c : Nat → Int32} {L num : Nat} : ∀ (k : Nat) (s : S3), s.2.1 ≤ L → (rdE c L num k s).2.1 ≤ L
  | 0, s, h => h
  | k + 1, s, h => by
    unfold rdE
    split
    · split
      · exact rdE_le k _ (rdB_le h)
      · exact h
    · exact h
theorem rpS_le {c : Nat → Int32} {L num j : Nat} (hj : j ≤ L) : (rpS c L num j).2.1 ≤ L :=
  rdE_le 64 _ (ldP_le (tdP_le (nx_le (nx_le hj (by decide)) (by decide)) (by decide)))

set_option maxRecDepth 100000 in
set_option maxHeartbeats 800000 in
theorem tX5_readsIsland {l : Launch} {E : EE} {I : Mi} {F : Mr} (hl : LY F) {L : Nat} (hL64 : L ≤ 64) (hL : I 127 7 = nI L) {j : Nat} {u1 u2 u3 u4 u5 : Int32} (hj : j ≤ L) (num : Nat)  : CtF l E mX5_readsIsland [rf E 127, .int (nI num)] NT (pM I j u1 u2 u3 u4 u5) F NT (some (.int (bi (rpS (I 133) L num j).1))) (pM I (rpS (I 133) L num j).2.1 (isoP (I 133) L j) (kepP (I 133) L j) (rpR (I 133) L j).1 (rpL (I 133) L j).1 (rpS (I 133) L num j).2.2) F := by
  have h1 : rpI (I 133) L j ≤ L := nx_le hj (by decide)
  have h2 : rpK (I 133) L j ≤ L := nx_le h1 (by decide)
  have h3 : (rpR (I 133) L j).2 ≤ L := tdP_le h2 (by decide)
  have h4 : nx (I 133) L (rpR (I 133) L j).2 44 ≤ L := nx_le h3 (by decide)
  have h5 : (rpL (I 133) L j).2 ≤ L := ldP_le h3
  refine CtF_of [some (rf E 127), some (.int (nI num)), none, none] (by decide) rfl (Nat.le_of_ble_eq_true rfl) rfl (fun p e s m args below meth c C hr hname => ?_)
  refine g_aload_n C dX5_readsIsland_0 rfl rfl ?_
  refine g_iconst C (v := 0) dX5_readsIsland_1 (by decide) ?_
  refine pfX5_126 C (by decide) dX5_readsIsland_2 ?_
  rw [pM_15]
  refine g_aload_n C dX5_readsIsland_5 rfl rfl ?_
  refine g_aload_n C dX5_readsIsland_6 rfl rfl ?_
  refine g_bipush C (v := 105) dX5_readsIsland_7 (by decide) ?_
  refine kX5_123 C (by decide) (tX5_isNext hl hL64 hL (by first | omega | assumption) _) ⟨⟨Nat.le_of_ble_eq_true rfl, Nat.le_of_ble_eq_true rfl⟩, Nat.le_of_ble_eq_true rfl, Nat.le_of_ble_eq_true rfl⟩ (Nat.le_of_ble_eq_true rfl) dX5_readsIsland_9 ?_
  rw [show nx (I 133) L j 105 = rpI (I 133) L j from rfl]
  refine g_ifeq_b_j C (off := 7) (off2 := 4) dX5_readsIsland_12 dX5_readsIsland_15 dX5_readsIsland_16 dX5_readsIsland_19 ?_
  refine pfX5_135 C (by decide) dX5_readsIsland_20 ?_
  rw [pM_11]
  refine g_aload_n C dX5_readsIsland_23 rfl rfl ?_
  refine g_aload_n C dX5_readsIsland_24 rfl rfl ?_
  refine g_bipush C (v := 107) dX5_readsIsland_25 (by decide) ?_
  refine kX5_123 C (by decide) (tX5_isNext hl hL64 hL (by first | omega | assumption) _) ⟨⟨Nat.le_of_ble_eq_true rfl, Nat.le_of_ble_eq_true rfl⟩, Nat.le_of_ble_eq_true rfl, Nat.le_of_ble_eq_true rfl⟩ (Nat.le_of_ble_eq_true rfl) dX5_readsIsland_27 ?_
  rw [show nx (I 133) L (rpI (I 133) L j) 107 = rpK (I 133) L j from rfl]
  refine g_ifeq_b_j C (off := 7) (off2 := 4) dX5_readsIsland_30 dX5_readsIsland_33 dX5_readsIsland_34 dX5_readsIsland_37 ?_
  refine pfX5_138 C (by decide) dX5_readsIsland_38 ?_
  rw [pM_12]
  refine g_aload_n C dX5_readsIsland_41 rfl rfl ?_
  refine g_aload_n C dX5_readsIsland_42 rfl rfl ?_
  refine g_iconst C (v := 1) dX5_readsIsland_43 (by decide) ?_
  refine g_bipush C (v := 9) dX5_readsIsland_44 (by decide) ?_
  refine kX5_174 C (by decide) (tX5_takeDigit hl hL64 hL (by first | omega | assumption) _ _) ⟨⟨Nat.le_of_ble_eq_true rfl, Nat.le_of_ble_eq_true rfl⟩, Nat.le_of_ble_eq_true rfl, Nat.le_of_ble_eq_true rfl⟩ (Nat.le_of_ble_eq_true rfl) dX5_readsIsland_46 ?_
  rw [show tdP (I 133) L 1 9 (rpK (I 133) L j) = rpR (I 133) L j from rfl]
  refine pfX5_141 C (by decide) dX5_readsIsland_49 ?_
  rw [pM_13]
  refine g_aload_n C dX5_readsIsland_52 rfl rfl ?_
  refine g_aload_n C dX5_readsIsland_53 rfl rfl ?_
  refine gfX5_141 C (by decide) dX5_readsIsland_54 ?_
  rw [pM_r13]
  refine G_via (pM I (rpL (I 133) L j).2 (isoP (I 133) L j) (kepP (I 133) L j) (rpR (I 133) L j).1 u4 0) (F) 77 ([some (rf E 127), some (.int (nI num)), none, none]) ([.int (rpL (I 133) L j).1, rf E 127]) ?_ (fun hvia => ?_)
  · skip
    refine pfX5_144 C (by decide) dX5_readsIsland_77 ?_
    rw [pM_14]
    refine g_aload_n C dX5_readsIsland_80 rfl rfl ?_
    refine gfX5_144 C (by decide) dX5_readsIsland_81 ?_
    rw [pM_r14]
    refine g_if_lt_j C (off := 7) (off2 := 4) dX5_readsIsland_84 dX5_readsIsland_87 dX5_readsIsland_88 dX5_readsIsland_91 ?_
    refine g_istore_n C dX5_readsIsland_92 rfl (by decide) rfl ?_
    refine G_loopI (n := 64) (fun i => [some (rf E 127), some (.int (nI num)), some (.int (bi (rdS (I 133) L num (decide (¬ (rpL (I 133) L j).1 < 0), (rpL (I 133) L j).2, 0) i).1)), none]) (fun i => pM I (rdS (I 133) L num (decide (¬ (rpL (I 133) L j).1 < 0), (rpL (I 133) L j).2, 0) i).2.1 (isoP (I 133) L j) (kepP (I 133) L j) (rpR (I 133) L j).1 (rpL (I 133) L j).1 (rdS (I 133) L num (decide (¬ (rpL (I 133) L j).1 < 0), (rpL (I 133) L j).2, 0) i).2.2) (fun _ => F) (fun i => rdE (I 133) L num (64 - i) (rdS (I 133) L num (decide (¬ (rpL (I 133) L j).1 < 0), (rpL (I 133) L j).2, 0) i) = rpS (I 133) L num j ∧ (rdS (I 133) L num (decide (¬ (rpL (I 133) L j).1 < 0), (rpL (I 133) L j).2, 0) i).2.1 ≤ L ∧ ((rdS (I 133) L num (decide (¬ (rpL (I 133) L j).1 < 0), (rpL (I 133) L j).2, 0) i).1 = true → i ≤ (rdS (I 133) L num (decide (¬ (rpL (I 133) L j).1 < 0), (rpL (I 133) L j).2, 0) i).2.1)) rfl rfl rfl ⟨rfl, h5, fun _ => Nat.zero_le _⟩ ?_ ?_
    · intro i93 hi93 hv93 ih93
      have hsl := hv93.2.1
      have hsk : nx (I 133) L (rdS (I 133) L num (decide (¬ (rpL (I 133) L j).1 < 0), (rpL (I 133) L j).2, 0) i93).2.1 62 ≤ L := nx_le hsl (by decide)
      rw [show 64 - i93 = (63 - i93) + 1 by omega, rdE] at hv93
      refine g_iload_n C dX5_readsIsland_93 rfl rfl ?_
      refine g_ifeq_b C (tgt := 176) dX5_readsIsland_94 (by decide) (fun c94 => ?_) (fun c94 => ?_)
      · skip
        refine g_iload_n C dX5_readsIsland_176 rfl rfl ?_
        exact g_zret_b C hr dX5_readsIsland_177 ⟨by rw [← hv93.1]; (try first | rw [if_pos c94] | rw [if_neg c94] | rw [if_neg (show ¬ _ = true by rw [c94]; decide)]); try simp only [c94], by rw [← hv93.1]; (try first | rw [if_pos c94] | rw [if_neg c94] | rw [if_neg (show ¬ _ = true by rw [c94]; decide)]); (try unfold nx); (try first | rw [if_pos c94] | rw [if_neg c94] | rw [if_neg (show ¬ _ = true by rw [c94]; decide)]); try rfl, rfl⟩
      · skip
        refine g_aload_n C dX5_readsIsland_97 rfl rfl ?_
        refine g_bipush C (v := 62) dX5_readsIsland_98 (by decide) ?_
        refine kX5_123 C (by decide) (tX5_isNext hl hL64 hL (by first | omega | assumption) _) ⟨⟨Nat.le_of_ble_eq_true rfl, Nat.le_of_ble_eq_true rfl⟩, Nat.le_of_ble_eq_true rfl, Nat.le_of_ble_eq_true rfl⟩ (Nat.le_of_ble_eq_true rfl) dX5_readsIsland_100 ?_
        refine g_ifeq_b C (tgt := 176) dX5_readsIsland_103 (by decide) (fun c103 => ?_) (fun c103 => ?_)
        · skip
          refine g_iload_n C dX5_readsIsland_176 rfl rfl ?_
          exact g_zret_b C hr dX5_readsIsland_177 ⟨by rw [← hv93.1]; (try first | rw [if_pos c94] | rw [if_neg c94] | rw [if_neg (show ¬ _ = true by rw [c94]; decide)]); (try first | rw [if_pos c103] | rw [if_neg c103] | rw [if_neg (show ¬ _ = true by rw [c103]; decide)]); try simp only [c94, c103], by rw [← hv93.1]; (try first | rw [if_pos c94] | rw [if_neg c94] | rw [if_neg (show ¬ _ = true by rw [c94]; decide)]); (try first | rw [if_pos c103] | rw [if_neg c103] | rw [if_neg (show ¬ _ = true by rw [c103]; decide)]); (try unfold nx); (try first | rw [if_pos c94] | rw [if_neg c94] | rw [if_neg (show ¬ _ = true by rw [c94]; decide)]); (try first | rw [if_pos c103] | rw [if_neg c103] | rw [if_neg (show ¬ _ = true by rw [c103]; decide)]); try rfl, rfl⟩
        · skip
          refine g_aload_n C dX5_readsIsland_106 rfl rfl ?_
          refine g_aload_n C dX5_readsIsland_107 rfl rfl ?_
          refine gfX5_114 C (by decide) dX5_readsIsland_108 ?_
          rw [pM_r10]
          refine kX5_171 C (by decide) (tX5_character hl hL64 hL (k := nx (I 133) L (rdS (I 133) L num (decide (¬ (rpL (I 133) L j).1 < 0), (rpL (I 133) L j).2, 0) i93).2.1 62) (by omega)) ⟨⟨Nat.le_of_ble_eq_true rfl, Nat.le_of_ble_eq_true rfl⟩, Nat.le_of_ble_eq_true rfl, Nat.le_of_ble_eq_true rfl⟩ (Nat.le_of_ble_eq_true rfl) dX5_readsIsland_111 ?_
          refine g_bipush C (v := 48) dX5_readsIsland_114 (by decide) ?_
          refine g_isub C dX5_readsIsland_116 ?_
          refine g_iload_n C dX5_readsIsland_117 rfl rfl ?_
          refine g_icmp_eq_j C (off := 7) (off2 := 4) dX5_readsIsland_118 dX5_readsIsland_121 dX5_readsIsland_122 dX5_readsIsland_125 ?_
          refine g_istore_n C dX5_readsIsland_126 rfl (by decide) rfl ?_
          refine g_iload_n C dX5_readsIsland_127 rfl rfl ?_
          refine g_ifeq_b C (tgt := 141) dX5_readsIsland_128 (by decide) (fun c128 => ?_) (fun c128 => ?_)
          · skip
            refine g_iconst C (v := (-1)) dX5_readsIsland_141 (by decide) ?_
            refine g_istore_n C dX5_readsIsland_142 rfl (by decide) rfl ?_
            refine g_iload_n C dX5_readsIsland_143 rfl rfl ?_
            refine g_if_lt_j C (off := 7) (off2 := 4) dX5_readsIsland_144 dX5_readsIsland_147 dX5_readsIsland_148 dX5_readsIsland_151 ?_
            refine g_istore_n C dX5_readsIsland_152 rfl (by decide) rfl ?_
            refine g_aload_n C dX5_readsIsland_153 rfl rfl ?_
            refine g_dup C dX5_readsIsland_154 rfl ?_
            refine gfX5_126 C (by decide) dX5_readsIsland_155 ?_
            rw [pM_r15]
            refine g_iload_n C dX5_readsIsland_158 rfl rfl ?_
            refine g_ifeq_b C (tgt := 168) dX5_readsIsland_159 (by decide) (fun c159 => ?_) (fun c159 => (bt_f c159 (by decide)).elim)
            refine g_iconst C (v := 0) dX5_readsIsland_168 (by decide) ?_
            refine g_ior C dX5_readsIsland_169 ?_
            refine pfX5_126 C (by decide) dX5_readsIsland_170 ?_
            rw [pM_15]
            refine g_goto C (tgt := 93) dX5_readsIsland_173 (by decide) ?_
            exact G_forget 3 (G_cast (ls2 := [some (rf E 127), some (.int (nI num)), some (.int (bi (rdS (I 133) L num (decide (¬ (rpL (I 133) L j).1 < 0), (rpL (I 133) L j).2, 0) (i93 + 1)).1)), none]) (st2 := []) (ih93 ⟨by rw [show 64 - (i93 + 1) = 63 - i93 by omega, rdS_s, ← hv93.1]; (try first | rw [if_pos c94] | rw [if_neg c94] | rw [if_neg (show ¬ _ = true by rw [c94]; decide)]); (try first | rw [if_pos c103] | rw [if_neg c103] | rw [if_neg (show ¬ _ = true by rw [c103]; decide)]); (try first | rw [if_pos c128] | rw [if_neg c128] | rw [if_neg (show ¬ _ = true by rw [c128]; decide)]); (try first | rw [if_pos c159] | rw [if_neg c159] | rw [if_neg (show ¬ _ = true by rw [c159]; decide)]), by rw [rdS_s]; exact rdB_le hsl, fun _ => by rw [rdS_s]; have h9 := rdB_ge (num := num) c103; have h8 := hv93.2.2 c94; omega⟩) (by rw [rdS_s]; generalize rdS (I 133) L num (decide (¬ (rpL (I 133) L j).1 < 0), (rpL (I 133) L j).2, 0) i93 = s9 at *; simp only [rdB]; (try first | rw [if_pos c94] | rw [if_neg c94] | rw [if_neg (show ¬ _ = true by rw [c94]; decide)]); (try first | rw [if_pos c103] | rw [if_neg c103] | rw [if_neg (show ¬ _ = true by rw [c103]; decide)]); (try first | rw [if_pos c128] | rw [if_neg c128] | rw [if_neg (show ¬ _ = true by rw [c128]; decide)]); (try first | rw [if_pos c159] | rw [if_neg c159] | rw [if_neg (show ¬ _ = true by rw [c159]; decide)]); try simp only [c94, c103, c128, c159]; try rfl) rfl (by rw [rdS_s]; generalize rdS (I 133) L num (decide (¬ (rpL (I 133) L j).1 < 0), (rpL (I 133) L j).2, 0) i93 = s9 at *; simp only [rdB]; (try first | rw [if_pos c94] | rw [if_neg c94] | rw [if_neg (show ¬ _ = true by rw [c94]; decide)]); (try first | rw [if_pos c103] | rw [if_neg c103] | rw [if_neg (show ¬ _ = true by rw [c103]; decide)]); (try first | rw [if_pos c128] | rw [if_neg c128] | rw [if_neg (show ¬ _ = true by rw [c128]; decide)]); (try first | rw [if_pos c159] | rw [if_neg c159] | rw [if_neg (show ¬ _ = true by rw [c159]; decide)]); try simp only [c94, c103, c128, c159]; try rfl) rfl)
          · skip
            refine g_aload_n C dX5_readsIsland_131 rfl rfl ?_
            refine g_iconst C (v := 0) dX5_readsIsland_132 (by decide) ?_
            refine g_bipush C (v := 7) dX5_readsIsland_133 (by decide) ?_
            refine kX5_174 C (by decide) (tX5_takeDigit hl hL64 hL (by first | omega | assumption) _ _) ⟨⟨Nat.le_of_ble_eq_true rfl, Nat.le_of_ble_eq_true rfl⟩, Nat.le_of_ble_eq_true rfl, Nat.le_of_ble_eq_true rfl⟩ (Nat.le_of_ble_eq_true rfl) dX5_readsIsland_135 ?_
            refine g_goto C (tgt := 142) dX5_readsIsland_138 (by decide) ?_
            refine g_istore_n C dX5_readsIsland_142 rfl (by decide) rfl ?_
            refine g_iload_n C dX5_readsIsland_143 rfl rfl ?_
            refine g_if_lt_j C (off := 7) (off2 := 4) dX5_readsIsland_144 dX5_readsIsland_147 dX5_readsIsland_148 dX5_readsIsland_151 ?_
            refine g_istore_n C dX5_readsIsland_152 rfl (by decide) rfl ?_
            refine g_aload_n C dX5_readsIsland_153 rfl rfl ?_
            refine g_dup C dX5_readsIsland_154 rfl ?_
            refine gfX5_126 C (by decide) dX5_readsIsland_155 ?_
            rw [pM_r15]
            refine g_iload_n C dX5_readsIsland_158 rfl rfl ?_
            refine g_ifeq_b C (tgt := 168) dX5_readsIsland_159 (by decide) (fun c159 => ?_) (fun c159 => ?_)
            · skip
              refine g_iconst C (v := 0) dX5_readsIsland_168 (by decide) ?_
              refine g_ior C dX5_readsIsland_169 ?_
              refine pfX5_126 C (by decide) dX5_readsIsland_170 ?_
              rw [pM_15]
              refine g_goto C (tgt := 93) dX5_readsIsland_173 (by decide) ?_
              exact G_forget 3 (G_cast (ls2 := [some (rf E 127), some (.int (nI num)), some (.int (bi (rdS (I 133) L num (decide (¬ (rpL (I 133) L j).1 < 0), (rpL (I 133) L j).2, 0) (i93 + 1)).1)), none]) (st2 := []) (ih93 ⟨by rw [show 64 - (i93 + 1) = 63 - i93 by omega, rdS_s, ← hv93.1]; (try first | rw [if_pos c94] | rw [if_neg c94] | rw [if_neg (show ¬ _ = true by rw [c94]; decide)]); (try first | rw [if_pos c103] | rw [if_neg c103] | rw [if_neg (show ¬ _ = true by rw [c103]; decide)]); (try first | rw [if_pos c128] | rw [if_neg c128] | rw [if_neg (show ¬ _ = true by rw [c128]; decide)]); (try first | rw [if_pos c159] | rw [if_neg c159] | rw [if_neg (show ¬ _ = true by rw [c159]; decide)]), by rw [rdS_s]; exact rdB_le hsl, fun _ => by rw [rdS_s]; have h9 := rdB_ge (num := num) c103; have h8 := hv93.2.2 c94; omega⟩) (by rw [rdS_s]; generalize rdS (I 133) L num (decide (¬ (rpL (I 133) L j).1 < 0), (rpL (I 133) L j).2, 0) i93 = s9 at *; simp only [rdB]; (try first | rw [if_pos c94] | rw [if_neg c94] | rw [if_neg (show ¬ _ = true by rw [c94]; decide)]); (try first | rw [if_pos c103] | rw [if_neg c103] | rw [if_neg (show ¬ _ = true by rw [c103]; decide)]); (try first | rw [if_pos c128] | rw [if_neg c128] | rw [if_neg (show ¬ _ = true by rw [c128]; decide)]); (try first | rw [if_pos c159] | rw [if_neg c159] | rw [if_neg (show ¬ _ = true by rw [c159]; decide)]); try simp only [c94, c103, c128, c159]; try rfl) rfl (by rw [rdS_s]; generalize rdS (I 133) L num (decide (¬ (rpL (I 133) L j).1 < 0), (rpL (I 133) L j).2, 0) i93 = s9 at *; simp only [rdB]; (try first | rw [if_pos c94] | rw [if_neg c94] | rw [if_neg (show ¬ _ = true by rw [c94]; decide)]); (try first | rw [if_pos c103] | rw [if_neg c103] | rw [if_neg (show ¬ _ = true by rw [c103]; decide)]); (try first | rw [if_pos c128] | rw [if_neg c128] | rw [if_neg (show ¬ _ = true by rw [c128]; decide)]); (try first | rw [if_pos c159] | rw [if_neg c159] | rw [if_neg (show ¬ _ = true by rw [c159]; decide)]); try simp only [c94, c103, c128, c159]; try rfl) rfl)
            · skip
              refine g_iconst C (v := 1) dX5_readsIsland_162 (by decide) ?_
              refine g_iload_n C dX5_readsIsland_163 rfl rfl ?_
              refine g_ishl C dX5_readsIsland_164 ?_
              refine g_goto C (tgt := 169) dX5_readsIsland_165 (by decide) ?_
              refine g_ior C dX5_readsIsland_169 ?_
              refine pfX5_126 C (by decide) dX5_readsIsland_170 ?_
              rw [pM_15]
              refine g_goto C (tgt := 93) dX5_readsIsland_173 (by decide) ?_
              exact G_forget 3 (G_cast (ls2 := [some (rf E 127), some (.int (nI num)), some (.int (bi (rdS (I 133) L num (decide (¬ (rpL (I 133) L j).1 < 0), (rpL (I 133) L j).2, 0) (i93 + 1)).1)), none]) (st2 := []) (ih93 ⟨by rw [show 64 - (i93 + 1) = 63 - i93 by omega, rdS_s, ← hv93.1]; (try first | rw [if_pos c94] | rw [if_neg c94] | rw [if_neg (show ¬ _ = true by rw [c94]; decide)]); (try first | rw [if_pos c103] | rw [if_neg c103] | rw [if_neg (show ¬ _ = true by rw [c103]; decide)]); (try first | rw [if_pos c128] | rw [if_neg c128] | rw [if_neg (show ¬ _ = true by rw [c128]; decide)]); (try first | rw [if_pos c159] | rw [if_neg c159] | rw [if_neg (show ¬ _ = true by rw [c159]; decide)]), by rw [rdS_s]; exact rdB_le hsl, fun _ => by rw [rdS_s]; have h9 := rdB_ge (num := num) c103; have h8 := hv93.2.2 c94; omega⟩) (by rw [rdS_s]; generalize rdS (I 133) L num (decide (¬ (rpL (I 133) L j).1 < 0), (rpL (I 133) L j).2, 0) i93 = s9 at *; simp only [rdB]; (try first | rw [if_pos c94] | rw [if_neg c94] | rw [if_neg (show ¬ _ = true by rw [c94]; decide)]); (try first | rw [if_pos c103] | rw [if_neg c103] | rw [if_neg (show ¬ _ = true by rw [c103]; decide)]); (try first | rw [if_pos c128] | rw [if_neg c128] | rw [if_neg (show ¬ _ = true by rw [c128]; decide)]); (try first | rw [if_pos c159] | rw [if_neg c159] | rw [if_neg (show ¬ _ = true by rw [c159]; decide)]); try simp only [c94, c103, c128, c159]; try rfl) rfl (by rw [rdS_s]; generalize rdS (I 133) L num (decide (¬ (rpL (I 133) L j).1 < 0), (rpL (I 133) L j).2, 0) i93 = s9 at *; simp only [rdB]; (try first | rw [if_pos c94] | rw [if_neg c94] | rw [if_neg (show ¬ _ = true by rw [c94]; decide)]); (try first | rw [if_pos c103] | rw [if_neg c103] | rw [if_neg (show ¬ _ = true by rw [c103]; decide)]); (try first | rw [if_pos c128] | rw [if_neg c128] | rw [if_neg (show ¬ _ = true by rw [c128]; decide)]); (try first | rw [if_pos c159] | rw [if_neg c159] | rw [if_neg (show ¬ _ = true by rw [c159]; decide)]); try simp only [c94, c103, c128, c159]; try rfl) rfl)
    · intro hv93
      have hsl := hv93.2.1
      rw [Nat.sub_self, rdE] at hv93
      refine g_iload_n C dX5_readsIsland_93 rfl rfl ?_
      refine g_ifeq_b C (tgt := 176) dX5_readsIsland_94 (by decide) (fun c94 => ?_) (fun c94 => ?_)
      · skip
        refine g_iload_n C dX5_readsIsland_176 rfl rfl ?_
        exact g_zret_b C hr dX5_readsIsland_177 ⟨by rw [← hv93.1]; (try first | rw [if_pos c94] | rw [if_neg c94] | rw [if_neg (show ¬ _ = true by rw [c94]; decide)]); try simp only [c94], by rw [← hv93.1]; (try first | rw [if_pos c94] | rw [if_neg c94] | rw [if_neg (show ¬ _ = true by rw [c94]; decide)]); (try unfold nx); (try first | rw [if_pos c94] | rw [if_neg c94] | rw [if_neg (show ¬ _ = true by rw [c94]; decide)]); try rfl, rfl⟩
      · skip
        refine g_aload_n C dX5_readsIsland_97 rfl rfl ?_
        refine g_bipush C (v := 62) dX5_readsIsland_98 (by decide) ?_
        refine kX5_123 C (by decide) (tX5_isNext hl hL64 hL (by first | omega | assumption) _) ⟨⟨Nat.le_of_ble_eq_true rfl, Nat.le_of_ble_eq_true rfl⟩, Nat.le_of_ble_eq_true rfl, Nat.le_of_ble_eq_true rfl⟩ (Nat.le_of_ble_eq_true rfl) dX5_readsIsland_100 ?_
        refine g_ifeq_b C (tgt := 176) dX5_readsIsland_103 (by decide) (fun c103 => ?_) (fun c103 => (bt_f c103 (decide_eq_false (fun q => by have h9 := hv93.2.2 c94; have := chP_in (c := I 133) (L := L) (by rw [q]; decide); omega))).elim)
        refine g_iload_n C dX5_readsIsland_176 rfl rfl ?_
        exact g_zret_b C hr dX5_readsIsland_177 ⟨by rw [← hv93.1]; (try first | rw [if_pos c94] | rw [if_neg c94] | rw [if_neg (show ¬ _ = true by rw [c94]; decide)]); (try first | rw [if_pos c103] | rw [if_neg c103] | rw [if_neg (show ¬ _ = true by rw [c103]; decide)]); try simp only [c94, c103], by rw [← hv93.1]; (try first | rw [if_pos c94] | rw [if_neg c94] | rw [if_neg (show ¬ _ = true by rw [c94]; decide)]); (try first | rw [if_pos c103] | rw [if_neg c103] | rw [if_neg (show ¬ _ = true by rw [c103]; decide)]); (try unfold nx); (try first | rw [if_pos c94] | rw [if_neg c94] | rw [if_neg (show ¬ _ = true by rw [c94]; decide)]); (try first | rw [if_pos c103] | rw [if_neg c103] | rw [if_neg (show ¬ _ = true by rw [c103]; decide)]); try rfl, rfl⟩
  · skip
    refine g_if_lt C (tgt := 76) dX5_readsIsland_57 (by decide) (fun c57 => ?_) (fun c57 => ?_)
    · skip
      refine g_iconst C (v := (-1)) dX5_readsIsland_76 (by decide) ?_
      exact G_cast hvia (by unfold rpL ldP; (try first | rw [if_pos c57] | rw [if_neg c57] | rw [if_neg (show ¬ _ = true by rw [c57]; decide)]); try rfl) rfl rfl (by unfold rpL ldP; (try first | rw [if_pos c57] | rw [if_neg c57] | rw [if_neg (show ¬ _ = true by rw [c57]; decide)]); try rfl)
    · skip
      refine g_aload_n C dX5_readsIsland_60 rfl rfl ?_
      refine g_bipush C (v := 44) dX5_readsIsland_61 (by decide) ?_
      refine kX5_123 C (by decide) (tX5_isNext hl hL64 hL (by first | omega | assumption) _) ⟨⟨Nat.le_of_ble_eq_true rfl, Nat.le_of_ble_eq_true rfl⟩, Nat.le_of_ble_eq_true rfl, Nat.le_of_ble_eq_true rfl⟩ (Nat.le_of_ble_eq_true rfl) dX5_readsIsland_63 ?_
      refine g_ifeq_b C (tgt := 76) dX5_readsIsland_66 (by decide) (fun c66 => ?_) (fun c66 => ?_)
      · skip
        refine g_iconst C (v := (-1)) dX5_readsIsland_76 (by decide) ?_
        exact G_cast hvia (by unfold rpL ldP; (try first | rw [if_pos c57] | rw [if_neg c57] | rw [if_neg (show ¬ _ = true by rw [c57]; decide)]); (try first | rw [if_pos c66] | rw [if_neg c66] | rw [if_neg (show ¬ _ = true by rw [c66]; decide)]); try rfl) rfl rfl (by unfold rpL ldP; (try first | rw [if_pos c57] | rw [if_neg c57] | rw [if_neg (show ¬ _ = true by rw [c57]; decide)]); (try first | rw [if_pos c66] | rw [if_neg c66] | rw [if_neg (show ¬ _ = true by rw [c66]; decide)]); try rfl)
      · skip
        refine g_aload_n C dX5_readsIsland_69 rfl rfl ?_
        refine kX5_177 C (by decide) (tX5_takeLoad hl hL64 hL (by assumption)) ⟨⟨Nat.le_of_ble_eq_true rfl, Nat.le_of_ble_eq_true rfl⟩, Nat.le_of_ble_eq_true rfl, Nat.le_of_ble_eq_true rfl⟩ (Nat.le_of_ble_eq_true rfl) dX5_readsIsland_70 ?_
        refine g_goto C (tgt := 77) dX5_readsIsland_73 (by decide) ?_
        exact G_cast hvia (by unfold rpL ldP; (try first | rw [if_pos c57] | rw [if_neg c57] | rw [if_neg (show ¬ _ = true by rw [c57]; decide)]); (try first | rw [if_pos c66] | rw [if_neg c66] | rw [if_neg (show ¬ _ = true by rw [c66]; decide)]); try rfl) rfl rfl (by unfold rpL ldP; (try first | rw [if_pos c57] | rw [if_neg c57] | rw [if_neg (show ¬ _ = true by rw [c57]; decide)]); (try first | rw [if_pos c66] | rw [if_neg c66] | rw [if_neg (show ¬ _ = true by rw [c66]; decide)]); try rfl)

