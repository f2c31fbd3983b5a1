/-! the reference: put -/
def pgG (c : Int64) (i : Nat) : Bool := lp (fun i g => g && isW (sgm c i &&& 255).toInt32 33 126) i true
theorem pgG_s (c : Int64) (i : Nat) : pgG c (i + 1) = (pgG c i && isW (sgm c i &&& 255).toInt32 33 126) := by unfold pgG; rw [lp]
def pgN (c : Int64) : Nat → Nat → Nat
  | 0, i => i
  | k + 1, i => if lg_cmp (sgm c i &&& 255) 0 = 0 then i else pgN c k (i + 1)
theorem pgN_le (c : Int64) : ∀ k i, pgN c k i ≤ i + k
  | 0, i => Nat.le_refl _
  | k + 1, i => by
    unfold pgN
    split
    · omega
    · have := pgN_le c k (i + 1)
      omega
def chrQ (c : Int64) (b : Nat) : Int32 := (us64 c (8 * nI b) &&& 255).toInt32
def ppI (I : Mi) (pl s : Nat) (c : Int64) (i : Nat) : Mi := lp (fun i J => up (up J 133 (pl + i) (chrQ c (s - i - 1))) 127 7 (nI (pl + i + 1))) i I
theorem ppI_s (I : Mi) (pl s : Nat) (c : Int64) (i : Nat) : ppI I pl s c (i + 1) = up (up (ppI I pl s c i) 133 (pl + i) (chrQ c (s - i - 1))) 127 7 (nI (pl + i + 1)) := by unfold ppI; rw [lp]
theorem up_same9 (I : Mi) (k j : Nat) (v : Int32) : up I k j v k j = v := by simp [up]
theorem ppI_len {I : Mi} {pl s : Nat} {c : Int64} (h : I 127 7 = nI pl) : ∀ i, ppI I pl s c i 127 7 = nI (pl + i)
  | 0 => h
  | i + 1 => by rw [ppI_s, up_same9]; rfl
def yPut (I : Mi) (c : Int64) (pl s : Nat) : Int32 × Mi := if nI s = 0 then (-2, I) else if pgG c s = true then (if lg_cmp (sgm c s) 0 = 0 then (if I 127 7 + nI s ≤ 64 then (ppI I pl s c s 127 7, ppI I pl s c s) else (-4, I)) else (-2, I)) else (-2, I)

set_option maxRecDepth 100000 in
set_option maxHeartbeats 800000 in
theorem tX5_put {l : Launch} {E : EE} {I : Mi} {F : Mr} (hl : LY F) (c9 : Int64) {pl s9 : Nat} (hs : s9 = pgN c9 8 0) (hpl64 : pl ≤ 64) (hpl : I 127 7 = nI pl)  : CtF l E mX5_put [rf E 127, .long c9] NT I F NT (some (.int (yPut I c9 pl s9).1)) ((yPut I c9 pl s9).2) F := by
  have hs8 : s9 ≤ 8 := by have := pgN_le c9 8 0; omega
  refine CtF_of [some (rf E 127), some (.long c9), none, none, none, none, none, none] (by decide) rfl (Nat.le_of_ble_eq_true rfl) rfl (fun p e s m args below meth c C hr hname => ?_)
  refine g_iconst C (v := 0) dX5_put_0 (by decide) ?_
  refine g_istore_n C dX5_put_1 rfl (by decide) rfl ?_
  refine g_lload_n C dX5_put_2 rfl rfl ?_
  refine g_lstore C dX5_put_3 (by decide) rfl ?_
  refine g_iconst C (v := 1) dX5_put_5 (by decide) ?_
  refine g_istore C dX5_put_6 (by decide) rfl ?_
  refine G_via (I) (F) 67 ([some (rf E 127), some (.long c9), none, some (.int (nI s9)), some (.long (sgm c9 s9)), none, some (.int (bi (pgG c9 s9))), none]) ([]) ?_ (fun hvia => ?_)
  · skip
    refine g_iload_n C dX5_put_67 rfl rfl ?_
    refine g_if_eq C (tgt := 83) dX5_put_68 (by decide) (fun c68 => ?_) (fun c68 => ?_)
    · skip
      refine g_bipush C (v := (-2)) dX5_put_83 (by decide) ?_
      exact g_iret C hr dX5_put_85 ⟨by unfold yPut; (try first | rw [if_pos c68] | rw [if_neg c68] | rw [if_neg (show ¬ _ = true by rw [c68]; decide)]); try rfl, by unfold yPut; (try first | rw [if_pos c68] | rw [if_neg c68] | rw [if_neg (show ¬ _ = true by rw [c68]; decide)]); try rfl, rfl⟩
    · skip
      refine g_iload C dX5_put_71 rfl ?_
      refine g_ifeq_b C (tgt := 83) dX5_put_73 (by decide) (fun c73 => ?_) (fun c73 => ?_)
      · skip
        refine g_bipush C (v := (-2)) dX5_put_83 (by decide) ?_
        exact g_iret C hr dX5_put_85 ⟨by unfold yPut; (try first | rw [if_pos c68] | rw [if_neg c68] | rw [if_neg (show ¬ _ = true by rw [c68]; decide)]); (try first | rw [if_pos c73] | rw [if_neg c73] | rw [if_neg (show ¬ _ = true by rw [c73]; decide)]); try rfl, by unfold yPut; (try first | rw [if_pos c68] | rw [if_neg c68] | rw [if_neg (show ¬ _ = true by rw [c68]; decide)]); (try first | rw [if_pos c73] | rw [if_neg c73] | rw [if_neg (show ¬ _ = true by rw [c73]; decide)]); try rfl, rfl⟩
      · skip
        refine g_lload C dX5_put_76 rfl ?_
        refine g_lconst C (v := 0) dX5_put_78 (by decide) ?_
        refine g_lcmp C dX5_put_79 ?_
        refine g_if_eq C (tgt := 86) dX5_put_80 (by decide) (fun c80 => ?_) (fun c80 => ?_)
        · skip
          refine g_aload_n C dX5_put_86 rfl rfl ?_
          refine gfX5_117 C (by decide) dX5_put_87 ?_
          refine g_iload_n C dX5_put_90 rfl rfl ?_
          refine g_iadd C dX5_put_91 ?_
          refine g_bipush C (v := 64) dX5_put_92 (by decide) ?_
          refine g_icmp_le C (tgt := 100) dX5_put_94 (by decide) (fun c94 => ?_) (fun c94 => ?_)
          · skip
            have h64 : pl + s9 ≤ 64 := by rw [hpl, nI_add] at c94; exact (nI_leI (by omega) (by decide)).mp c94
            refine g_iload_n C dX5_put_100 rfl rfl ?_
            refine g_iconst C (v := 1) dX5_put_101 (by decide) ?_
            refine g_isub C dX5_put_102 ?_
            refine g_istore C dX5_put_103 (by decide) rfl ?_
            refine G_loop (n := s9) (fun i => [some (rf E 127), some (.long c9), none, some (.int (nI s9)), some (.long (sgm c9 s9)), none, some (.int (bi (pgG c9 s9))), some (.int (nI (s9 - i) - 1))]) (fun i => ppI I pl s9 c9 i) (fun _ => F) rfl rfl rfl ?_ ?_
            · intro i105 hi105 ih105
              have e105 : nI (s9 - i105) - 1 = nI (s9 - i105 - 1) := by rw [show s9 - i105 = (s9 - i105 - 1) + 1 by omega]; exact nI_pred _
              rw [e105]
              refine g_iload C dX5_put_105 rfl ?_
              refine g_if_lt C (tgt := 147) dX5_put_107 (by decide) (fun c107 => absurd c107 (nI_pos (by omega))) (fun _ => ?_)
              refine g_aload_n C dX5_put_110 rfl rfl ?_
              refine gfX5_25 C (by decide) hl.mpad dX5_put_111 ?_
              refine g_aload_n C dX5_put_114 rfl rfl ?_
              refine gfX5_117 C (by decide) dX5_put_115 ?_
              rw [ppI_len hpl]
              refine g_lload_n C dX5_put_118 rfl rfl ?_
              refine g_bipush C (v := 8) dX5_put_119 (by decide) ?_
              refine g_iload C dX5_put_121 rfl ?_
              refine g_imul C dX5_put_123 ?_
              refine g_lushr C dX5_put_124 rfl ?_
              refine g_ldc2 C dX5_put_125 kcX5_169 ?_
              refine g_land C dX5_put_128 ?_
              refine g_l2i C dX5_put_129 rfl ?_
              refine g_iast_j C (show ar NT 133 7 64 by decide) (pl + i105) rfl (by omega) (by decide) dX5_put_130 ?_
              refine g_aload_n C dX5_put_131 rfl rfl ?_
              refine g_dup C dX5_put_132 rfl ?_
              refine gfX5_117 C (by decide) dX5_put_133 ?_
              rw [up_ne (show (127 : Nat) ≠ 133 by decide), ppI_len hpl]
              refine g_iconst C (v := 1) dX5_put_136 (by decide) ?_
              refine g_iadd C dX5_put_137 ?_
              rw [nI_1]
              refine pfX5_117 C (by decide) dX5_put_138 ?_
              refine g_iinc C dX5_put_141 rfl (inc_m1 _) (by decide) rfl ?_
              refine g_goto C (tgt := 105) dX5_put_144 (by decide) ?_
              exact G_cast ih105 (by rw [ppI_s]; rfl) rfl (by rw [show s9 - (i105 + 1) = s9 - i105 - 1 by omega]; rfl) rfl
            · skip
              rw [Nat.sub_self]
              refine g_iload C dX5_put_105 rfl ?_
              refine g_if_lt C (tgt := 147) dX5_put_107 (by decide) (fun _ => ?_) (fun c107 => absurd (by decide) c107)
              refine g_aload_n C dX5_put_147 rfl rfl ?_
              refine gfX5_117 C (by decide) dX5_put_148 ?_
              exact g_iret C hr dX5_put_151 ⟨by unfold yPut; (try first | rw [if_pos c68] | rw [if_neg c68] | rw [if_neg (show ¬ _ = true by rw [c68]; decide)]); (try first | rw [if_pos c73] | rw [if_neg c73] | rw [if_neg (show ¬ _ = true by rw [c73]; decide)]); (try first | rw [if_pos c80] | rw [if_neg c80] | rw [if_neg (show ¬ _ = true by rw [c80]; decide)]); (try first | rw [if_pos c94] | rw [if_neg c94] | rw [if_neg (show ¬ _ = true by rw [c94]; decide)]); try rfl, by unfold yPut; (try first | rw [if_pos c68] | rw [if_neg c68] | rw [if_neg (show ¬ _ = true by rw [c68]; decide)]); (try first | rw [if_pos c73] | rw [if_neg c73] | rw [if_neg (show ¬ _ = true by rw [c73]; decide)]); (try first | rw [if_pos c80] | rw [if_neg c80] | rw [if_neg (show ¬ _ = true by rw [c80]; decide)]); (try first | rw [if_pos c94] | rw [if_neg c94] | rw [if_neg (show ¬ _ = true by rw [c94]; decide)]); try rfl, rfl⟩
          · skip
            refine g_bipush C (v := (-4)) dX5_put_97 (by decide) ?_
            exact g_iret C hr dX5_put_99 ⟨by unfold yPut; (try first | rw [if_pos c68] | rw [if_neg c68] | rw [if_neg (show ¬ _ = true by rw [c68]; decide)]); (try first | rw [if_pos c73] | rw [if_neg c73] | rw [if_neg (show ¬ _ = true by rw [c73]; decide)]); (try first | rw [if_pos c80] | rw [if_neg c80] | rw [if_neg (show ¬ _ = true by rw [c80]; decide)]); (try first | rw [if_pos c94] | rw [if_neg c94] | rw [if_neg (show ¬ _ = true by rw [c94]; decide)]); try rfl, by unfold yPut; (try first | rw [if_pos c68] | rw [if_neg c68] | rw [if_neg (show ¬ _ = true by rw [c68]; decide)]); (try first | rw [if_pos c73] | rw [if_neg c73] | rw [if_neg (show ¬ _ = true by rw [c73]; decide)]); (try first | rw [if_pos c80] | rw [if_neg c80] | rw [if_neg (show ¬ _ = true by rw [c80]; decide)]); (try first | rw [if_pos c94] | rw [if_neg c94] | rw [if_neg (show ¬ _ = true by rw [c94]; decide)]); try rfl, rfl⟩
        · skip
          refine g_bipush C (v := (-2)) dX5_put_83 (by decide) ?_
          exact g_iret C hr dX5_put_85 ⟨by unfold yPut; (try first | rw [if_pos c68] | rw [if_neg c68] | rw [if_neg (show ¬ _ = true by rw [c68]; decide)]); (try first | rw [if_pos c73] | rw [if_neg c73] | rw [if_neg (show ¬ _ = true by rw [c73]; decide)]); (try first | rw [if_pos c80] | rw [if_neg c80] | rw [if_neg (show ¬ _ = true by rw [c80]; decide)]); try rfl, by unfold yPut; (try first | rw [if_pos c68] | rw [if_neg c68] | rw [if_neg (show ¬ _ = true by rw [c68]; decide)]); (try first | rw [if_pos c73] | rw [if_neg c73] | rw [if_neg (show ¬ _ = true by rw [c73]; decide)]); (try first | rw [if_pos c80] | rw [if_neg c80] | rw [if_neg (show ¬ _ = true by rw [c80]; decide)]); try rfl, rfl⟩
  · skip
    refine G_loopI (n := 8) (fun i => [some (rf E 127), some (.long c9), none, some (.int (nI i)), some (.long (sgm c9 i)), none, some (.int (bi (pgG c9 i))), none]) (fun _ => I) (fun _ => F) (fun i => pgN c9 (8 - i) i = pgN c9 8 0) rfl rfl rfl rfl ?_ ?_
    · intro i8 hi8 hv8 ih8
      rw [show 8 - i8 = (7 - i8) + 1 by omega, pgN] at hv8
      refine g_iload_n C dX5_put_8 rfl rfl ?_
      refine g_bipush C (v := 8) dX5_put_9 (by decide) ?_
      refine g_icmp_ge C (tgt := 67) dX5_put_11 (by decide) (fun c11 => absurd c11 (nI_nge rfl hi8 (by decide))) (fun _ => ?_)
      refine g_lload C dX5_put_14 rfl ?_
      refine g_ldc2 C dX5_put_16 kcX5_169 ?_
      refine g_land C dX5_put_19 ?_
      refine g_lconst C (v := 0) dX5_put_20 (by decide) ?_
      refine g_lcmp C dX5_put_21 ?_
      refine g_if_eq C (tgt := 67) dX5_put_22 (by decide) (fun c22 => ?_) (fun c22 => ?_)
      · skip
        exact G_cast hvia rfl rfl (by rw [hs, ← hv8]; (try first | rw [if_pos c22] | rw [if_neg c22] | rw [if_neg (show ¬ _ = true by rw [c22]; decide)]); try rfl) rfl
      · skip
        refine g_iload C dX5_put_25 rfl ?_
        refine g_ifeq_b C (tgt := 51) dX5_put_27 (by decide) (fun c27 => ?_) (fun c27 => ?_)
        · skip
          refine g_iconst C (v := 0) dX5_put_51 (by decide) ?_
          refine g_istore C dX5_put_52 (by decide) rfl ?_
          refine g_lload C dX5_put_54 rfl ?_
          refine g_bipush C (v := 8) dX5_put_56 (by decide) ?_
          refine g_lushr C dX5_put_58 rfl ?_
          refine g_lstore C dX5_put_59 (by decide) rfl ?_
          refine g_iinc C dX5_put_61 rfl (nI_inc _) (by decide) rfl ?_
          refine g_goto C (tgt := 8) dX5_put_64 (by decide) ?_
          exact G_cast (ih8 (by rw [show 8 - (i8 + 1) = 7 - i8 by omega, ← hv8]; (try first | rw [if_pos c22] | rw [if_neg c22] | rw [if_neg (show ¬ _ = true by rw [c22]; decide)]); (try first | rw [if_pos c27] | rw [if_neg c27] | rw [if_neg (show ¬ _ = true by rw [c27]; decide)]))) rfl rfl (by rw [pgG_s]; simp only [c22, c27, Bool.and_true, Bool.true_and, Bool.false_and, Bool.and_false, bi]; rfl) rfl
        · skip
          refine g_lload C dX5_put_30 rfl ?_
          refine g_ldc2 C dX5_put_32 kcX5_169 ?_
          refine g_land C dX5_put_35 ?_
          refine g_l2i C dX5_put_36 rfl ?_
          refine g_bipush C (v := 33) dX5_put_37 (by decide) ?_
          refine g_bipush C (v := 126) dX5_put_39 (by decide) ?_
          refine kX5_42 C (by decide) (tX5_within _ _ _) ⟨⟨Nat.le_of_ble_eq_true rfl, Nat.le_of_ble_eq_true rfl⟩, Nat.le_of_ble_eq_true rfl, Nat.le_of_ble_eq_true rfl⟩ (Nat.le_of_ble_eq_true rfl) dX5_put_41 ?_
          refine g_ifeq_b C (tgt := 51) dX5_put_44 (by decide) (fun c44 => ?_) (fun c44 => ?_)
          · skip
            refine g_iconst C (v := 0) dX5_put_51 (by decide) ?_
            refine g_istore C dX5_put_52 (by decide) rfl ?_
            refine g_lload C dX5_put_54 rfl ?_
            refine g_bipush C (v := 8) dX5_put_56 (by decide) ?_
            refine g_lushr C dX5_put_58 rfl ?_
            refine g_lstore C dX5_put_59 (by decide) rfl ?_
            refine g_iinc C dX5_put_61 rfl (nI_inc _) (by decide) rfl ?_
            refine g_goto C (tgt := 8) dX5_put_64 (by decide) ?_
            exact G_cast (ih8 (by rw [show 8 - (i8 + 1) = 7 - i8 by omega, ← hv8]; (try first | rw [if_pos c22] | rw [if_neg c22] | rw [if_neg (show ¬ _ = true by rw [c22]; decide)]); (try first | rw [if_pos c27] | rw [if_neg c27] | rw [if_neg (show ¬ _ = true by rw [c27]; decide)]); (try first | rw [if_pos c44] | rw [if_neg c44] | rw [if_neg (show ¬ _ = true by rw [c44]; decide)]))) rfl rfl (by rw [pgG_s]; simp only [c22, c27, c44, Bool.and_true, Bool.true_and, Bool.false_and, Bool.and_false, bi]; rfl) rfl
          · skip
            refine g_iconst C (v := 1) dX5_put_47 (by decide) ?_
            refine g_goto C (tgt := 52) dX5_put_48 (by decide) ?_
            refine g_istore C dX5_put_52 (by decide) rfl ?_
            refine g_lload C dX5_put_54 rfl ?_
            refine g_bipush C (v := 8) dX5_put_56 (by decide) ?_
            refine g_lushr C dX5_put_58 rfl ?_
            refine g_lstore C dX5_put_59 (by decide) rfl ?_
            refine g_iinc C dX5_put_61 rfl (nI_inc _) (by decide) rfl ?_
            refine g_goto C (tgt := 8) dX5_put_64 (by decide) ?_
            exact G_cast (ih8 (by rw [show 8 - (i8 + 1) = 7 - i8 by omega, ← hv8]; (try first | rw [if_pos c22] | rw [if_neg c22] | rw [if_neg (show ¬ _ = true by rw [c22]; decide)]); (try first | rw [if_pos c27] | rw [if_neg c27] | rw [if_neg (show ¬ _ = true by rw [c27]; decide)]); (try first | rw [if_pos c44] | rw [if_neg c44] | rw [if_neg (show ¬ _ = true by rw [c44]; decide)]))) rfl rfl (by rw [pgG_s]; simp only [c22, c27, c44, Bool.and_true, Bool.true_and, Bool.false_and, Bool.and_false, bi]; rfl) rfl
    · intro hv8
      rw [Nat.sub_self, pgN] at hv8
      refine g_iload_n C dX5_put_8 rfl rfl ?_
      refine g_bipush C (v := 8) dX5_put_9 (by decide) ?_
      refine g_icmp_ge C (tgt := 67) dX5_put_11 (by decide) (fun _ => ?_) (fun c11 => absurd (nI_lee rfl) c11)
      exact G_cast hvia rfl rfl (by rw [hs, ← hv8]; skip; try rfl) rfl

