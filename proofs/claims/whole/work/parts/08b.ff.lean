theorem lp_fix {f : Nat → Mi → Mi} {x : Nat} (h : ∀ i I, f i I x = I x) : ∀ (n : Nat) (I : Mi), lp f n I x = I x
  | 0, I => rfl
  | n + 1, I => (h n _).trans (lp_fix h n I)
theorem cpyS_ne {I : Mi} {a b x : Nat} (h : x ≠ a) : cpyS I a b x = I x := by simp only [cpyS, up_ne h]
theorem cpyB_ne {I : Mi} {a b i x : Nat} (h : x < a + 1 ∨ a + 9 < x) : cpyB a b i I x = I x := by
  simp only [cpyB, up_ne (show x ≠ a + 1 by omega), up_ne (show x ≠ a + 2 by omega), up_ne (show x ≠ a + 3 by omega), up_ne (show x ≠ a + 4 by omega), up_ne (show x ≠ a + 5 by omega), up_ne (show x ≠ a + 6 by omega), up_ne (show x ≠ a + 7 by omega), up_ne (show x ≠ a + 8 by omega), up_ne (show x ≠ a + 9 by omega)]
theorem copyC_ne {I : Mi} {a b x : Nat} (h : x < a ∨ a + 9 < x) : copyC I a b x = I x := by
  unfold copyC
  rw [lp_fix (fun i J => cpyB_ne (by omega)), cpyS_ne (by omega)]
theorem addC_0 (I : Mi) (a n : Nat) (iso keep r d m : Int32) : addC I a n iso keep r d m a 0 = I a 0 + 1 := by
  simp only [addC]
  rw [up_ne (show a ≠ a + 4 by omega), up_ne (show a ≠ a + 3 by omega), up_ne (show a ≠ a + 2 by omega), up_ne (show a ≠ a + 1 by omega)]
  split <;> split <;> simp [up]
def RN (I : Mi) : Prop := ∃ n, n < 8 ∧ I 26 0 = nI n
abbrev nI_ix (I : Mi) : Nat := ix (I 26 0)
def tk (I : Mi) (x : Int32) : Bool × Mi := tkC I (ix (I 26 0)) x
def endI2 (I : Mi) : Mi := endI I (ix (I 26 0))
theorem RN_ix {I : Mi} {n : Nat} (h8 : n < 8) (h : I 26 0 = nI n) : ix (I 26 0) = n := by rw [h]; exact nI_clamp (by omega)
def RNn (n : Nat) (f : Mi → Int32 → Bool × Mi) : Prop := ∀ (I : Mi) (x : Int32), I 26 0 = nI n → ∃ m, m < 8 ∧ (f I x).2 26 0 = nI m
theorem RNn_or {n : Nat} {f g : Mi → Int32 → Bool × Mi} (h8 : n < 8) (hf : ∀ I x, (f I x).2 26 = I 26) (hg : RNn n g) : RNn n (orT f g) := by
  intro I x h
  unfold orT
  split
  · exact ⟨n, h8, by simp only [hf]; exact h⟩
  · exact hg _ _ (by rw [hf]; exact h)
theorem RNn_fix {n : Nat} {f : Mi → Int32 → Bool × Mi} (h8 : n < 8) (hf : ∀ I x, (f I x).2 26 = I 26) : RNn n f := fun I x h => ⟨n, h8, by rw [hf]; exact h⟩
theorem RNn_end {n : Nat} (h8 : n < 8) : RNn n (fun I x => tkEnd I n x) := by
  intro I x h
  show ∃ m, m < 8 ∧ (tkEnd I n x).2 26 0 = nI m
  unfold tkEnd
  split
  · split
    · rename_i q1 q2
      rw [h, nI_1] at q2
      have h7 : n + 1 < 8 := (nI_ltI (b := 8) (by omega) (by decide)).mp q2
      refine ⟨n + 1, h7, ?_⟩
      have e : (begI (endI I n)) 26 0 = I 26 0 + 1 := by
        unfold begI endI
        rw [up_ne (by decide), up_ne (by decide), up_ne (by decide), up_ne (by decide), up_ne (by decide), up_ne (by decide)]
        exact addC_0 _ _ _ _ _ _ _ _
      show (begI (endI I n)) 26 0 = _
      rw [e, h, nI_1]
    · exact ⟨n, h8, h⟩
  · exact ⟨n, h8, h⟩
theorem tk_RN {I : Mi} (x : Int32) (h : RN I) : RN (tk I x).2 := by
  obtain ⟨n, h8, hn⟩ := h
  have e := RN_ix h8 hn
  unfold tk
  rw [e]
  unfold tkC
  by_cases csw : (I 25 1).toInt < 0 ∨ 6 < (I 25 1).toInt
  · rw [swf_out csw]
    exact RNn_or h8 tkArrow26 (RNn_end h8) I x hn
  · obtain ⟨c1, c2⟩ := not_or.mp csw
    rcases sw_cases7 c1 c2 with q | q | q | q | q | q | q
    · rw [swf_at (z := 0) q (by decide) (by decide)]; exact RNn_or h8 tkIso26 (RNn_or h8 tkKeep26 (RNn_fix h8 tkRise26)) I x hn
    · rw [swf_at (z := 1) q (by decide) (by decide)]; exact RNn_or h8 tkKeep26 (RNn_fix h8 tkRise26) I x hn
    · rw [swf_at (z := 2) q (by decide) (by decide)]; exact RNn_fix h8 tkRise26 I x hn
    · rw [swf_at (z := 3) q (by decide) (by decide)]; exact RNn_fix h8 tkComma26 I x hn
    · rw [swf_at (z := 4) q (by decide) (by decide)]; exact RNn_fix h8 tkLoad26 I x hn
    · rw [swf_at (z := 5) q (by decide) (by decide)]; exact RNn_or h8 tkLoad26 (RNn_or h8 tkArrow26 (RNn_end h8)) I x hn
    · rw [swf_at (z := 6) q (by decide) (by decide)]; exact RNn_fix h8 tkNum26 I x hn
def ffin (I : Mi) : Int32 × Mi := if I 25 1 = 5 then (-6, endI2 I) else if I 25 1 = 7 then (-6, endI2 I) else (I 23 1, I)
def ffR : Nat → Nat → Mi → Int32 × Mi
  | 0, _, I => ffin I
  | k + 1, i, I => if I 23 1 ≤ nI i then ffin I else if (tk I (I 24 i)).1 = true then ffR k (i + 1) (tk I (I 24 i)).2 else (nI i, (tk I (I 24 i)).2)
def ffm (I : Mi) (i : Nat) : Mi := lp (fun i J => (tk J (J 24 i)).2) i I
def ff0 (I : Mi) : Mi := begI (clearC I 26)
def ffC (I : Mi) : Int32 × Mi := ffR 64 0 (ff0 I)
theorem ff0_RN (I : Mi) : RN (ff0 I) := ⟨0, by decide, by
  have h : ∀ n J, lp (clrB 26) n J 26 = J 26 := fun n J => lp_fix (fun i K => by simp only [clrB]; rw [up_ne (by decide), up_ne (by decide), up_ne (by decide), up_ne (by decide), up_ne (by decide), up_ne (by decide), up_ne (by decide), up_ne (by decide), up_ne (by decide)]) n J
  unfold ff0 begI clearC
  rw [up_ne (by decide), up_ne (by decide), up_ne (by decide), up_ne (by decide), up_ne (by decide), up_ne (by decide), h]
  rfl⟩
theorem tX1_takes2 {l : Launch} {E : EE} {I : Mi} {F : Mr} (hl : LY F) (h : RN I) (x : Int32) : CtF l E mX1_takes [rf E 25, .int x] NT I F NT (some (.int (bi (tk I x).1))) (tk I x).2 F := by
  obtain ⟨n, h8, hn⟩ := h
  unfold tk
  rw [RN_ix h8 hn]
  exact tX1_takes hl h8 hn x
theorem tX1_endIsland2 {l : Launch} {E : EE} {I : Mi} {F : Mr} (hl : LY F) (h : RN I) : CtF l E mX1_endIsland [rf E 25] NT I F NT none (endI2 I) F := by
  obtain ⟨n, h8, hn⟩ := h
  unfold endI2
  rw [RN_ix h8 hn]
  exact tX1_endIsland hl h8 hn

set_option maxRecDepth 100000 in
set_option maxHeartbeats 4000000 in
theorem tX1_findFault {l : Launch} {E : EE} {I : Mi} {F : Mr} (hl : LY F)  : CtF l E mX1_findFault [rf E 25, rf E 23] NT I F NT (some (.int (ffC I).1)) ((ffC I).2) F := by
  refine CtF_of [some (rf E 25), some (rf E 23), none] (by decide) rfl (Nat.le_of_ble_eq_true rfl) rfl (fun p e s m args below meth c C hr hname => ?_)
  refine g_aload_n C dX1_findFault_0 rfl rfl ?_
  refine gfX1_12 C (by decide) hl.rchip dX1_findFault_1 ?_
  refine kX1_21 C hl.c26.o (tX0_clear hl.c26) ⟨⟨Nat.le_of_ble_eq_true rfl, Nat.le_of_ble_eq_true rfl⟩, Nat.le_of_ble_eq_true rfl, Nat.le_of_ble_eq_true rfl⟩ (Nat.le_of_ble_eq_true rfl) dX1_findFault_4 ?_
  refine g_aload_n C dX1_findFault_7 rfl rfl ?_
  refine kX1_18 C (by decide) (tX1_beginIsland (by decide)) ⟨⟨Nat.le_of_ble_eq_true rfl, Nat.le_of_ble_eq_true rfl⟩, Nat.le_of_ble_eq_true rfl, Nat.le_of_ble_eq_true rfl⟩ (Nat.le_of_ble_eq_true rfl) dX1_findFault_8 ?_
  refine g_iconst C (v := 0) dX1_findFault_11 (by decide) ?_
  refine g_istore_n C dX1_findFault_12 rfl (by decide) rfl ?_
  refine G_loopI (n := 64) (fun i => [some (rf E 25), some (rf E 23), some (.int (nI i))]) (fun i => ffm (ff0 I) i) (fun _ => F) (fun i => ffR (64 - i) i (ffm (ff0 I) i) = ffC I ∧ RN (ffm (ff0 I) i)) rfl rfl rfl ⟨rfl, ff0_RN I⟩ ?_ ?_
  · intro i13 hi13 hv13 ih13
    rw [show 64 - i13 = (63 - i13) + 1 by omega, ffR] at hv13
    refine g_iload_n C dX1_findFault_13 rfl rfl ?_
    refine g_bipush C (v := 64) dX1_findFault_14 (by decide) ?_
    refine g_icmp_ge C (tgt := 48) dX1_findFault_16 (by decide) (fun c16 => absurd c16 (nI_nge rfl hi13 (by decide))) (fun _ => ?_)
    refine g_iload_n C dX1_findFault_19 rfl rfl ?_
    refine g_aload_n C dX1_findFault_20 rfl rfl ?_
    refine gfX1_24 C (by decide) dX1_findFault_21 ?_
    refine g_icmp_ge C (tgt := 48) dX1_findFault_24 (by decide) (fun c24 => ?_) (fun c24 => ?_)
    · skip
      refine g_aload_n C dX1_findFault_48 rfl rfl ?_
      refine gfX1_38 C (by decide) dX1_findFault_49 ?_
      refine g_iconst C (v := 5) dX1_findFault_52 (by decide) ?_
      refine g_icmp_eq C (tgt := 70) dX1_findFault_53 (by decide) (fun c53 => ?_) (fun c53 => ?_)
      · skip
        refine g_aload_n C dX1_findFault_70 rfl rfl ?_
        refine kX1_41 C (by decide) (tX1_endIsland2 hl hv13.2) ⟨⟨Nat.le_of_ble_eq_true rfl, Nat.le_of_ble_eq_true rfl⟩, Nat.le_of_ble_eq_true rfl, Nat.le_of_ble_eq_true rfl⟩ (Nat.le_of_ble_eq_true rfl) dX1_findFault_71 ?_
        refine g_bipush C (v := (-6)) dX1_findFault_74 (by decide) ?_
        exact g_iret C hr dX1_findFault_76 ⟨by rw [← hv13.1]; (try first | rw [if_pos c24] | rw [if_neg c24] | rw [if_neg (show ¬ _ = true by rw [c24]; decide)]); (try first | rw [if_pos c53] | rw [if_neg c53] | rw [if_neg (show ¬ _ = true by rw [c53]; decide)]); (try unfold ffin); (try first | rw [if_pos c24] | rw [if_neg c24] | rw [if_neg (show ¬ _ = true by rw [c24]; decide)]); (try first | rw [if_pos c53] | rw [if_neg c53] | rw [if_neg (show ¬ _ = true by rw [c53]; decide)]); try rfl, by rw [← hv13.1]; (try first | rw [if_pos c24] | rw [if_neg c24] | rw [if_neg (show ¬ _ = true by rw [c24]; decide)]); (try first | rw [if_pos c53] | rw [if_neg c53] | rw [if_neg (show ¬ _ = true by rw [c53]; decide)]); (try unfold ffin); (try first | rw [if_pos c24] | rw [if_neg c24] | rw [if_neg (show ¬ _ = true by rw [c24]; decide)]); (try first | rw [if_pos c53] | rw [if_neg c53] | rw [if_neg (show ¬ _ = true by rw [c53]; decide)]); try rfl, rfl⟩
      · skip
        refine g_aload_n C dX1_findFault_56 rfl rfl ?_
        refine gfX1_38 C (by decide) dX1_findFault_57 ?_
        refine g_bipush C (v := 7) dX1_findFault_60 (by decide) ?_
        refine g_icmp_eq C (tgt := 70) dX1_findFault_62 (by decide) (fun c62 => ?_) (fun c62 => ?_)
        · skip
          refine g_aload_n C dX1_findFault_70 rfl rfl ?_
          refine kX1_41 C (by decide) (tX1_endIsland2 hl hv13.2) ⟨⟨Nat.le_of_ble_eq_true rfl, Nat.le_of_ble_eq_true rfl⟩, Nat.le_of_ble_eq_true rfl, Nat.le_of_ble_eq_true rfl⟩ (Nat.le_of_ble_eq_true rfl) dX1_findFault_71 ?_
          refine g_bipush C (v := (-6)) dX1_findFault_74 (by decide) ?_
          exact g_iret C hr dX1_findFault_76 ⟨by rw [← hv13.1]; (try first | rw [if_pos c24] | rw [if_neg c24] | rw [if_neg (show ¬ _ = true by rw [c24]; decide)]); (try first | rw [if_pos c53] | rw [if_neg c53] | rw [if_neg (show ¬ _ = true by rw [c53]; decide)]); (try first | rw [if_pos c62] | rw [if_neg c62] | rw [if_neg (show ¬ _ = true by rw [c62]; decide)]); (try unfold ffin); (try first | rw [if_pos c24] | rw [if_neg c24] | rw [if_neg (show ¬ _ = true by rw [c24]; decide)]); (try first | rw [if_pos c53] | rw [if_neg c53] | rw [if_neg (show ¬ _ = true by rw [c53]; decide)]); (try first | rw [if_pos c62] | rw [if_neg c62] | rw [if_neg (show ¬ _ = true by rw [c62]; decide)]); try rfl, by rw [← hv13.1]; (try first | rw [if_pos c24] | rw [if_neg c24] | rw [if_neg (show ¬ _ = true by rw [c24]; decide)]); (try first | rw [if_pos c53] | rw [if_neg c53] | rw [if_neg (show ¬ _ = true by rw [c53]; decide)]); (try first | rw [if_pos c62] | rw [if_neg c62] | rw [if_neg (show ¬ _ = true by rw [c62]; decide)]); (try unfold ffin); (try first | rw [if_pos c24] | rw [if_neg c24] | rw [if_neg (show ¬ _ = true by rw [c24]; decide)]); (try first | rw [if_pos c53] | rw [if_neg c53] | rw [if_neg (show ¬ _ = true by rw [c53]; decide)]); (try first | rw [if_pos c62] | rw [if_neg c62] | rw [if_neg (show ¬ _ = true by rw [c62]; decide)]); try rfl, rfl⟩
        · skip
          refine g_aload_n C dX1_findFault_65 rfl rfl ?_
          refine gfX1_24 C (by decide) dX1_findFault_66 ?_
          exact g_iret C hr dX1_findFault_69 ⟨by rw [← hv13.1]; (try first | rw [if_pos c24] | rw [if_neg c24] | rw [if_neg (show ¬ _ = true by rw [c24]; decide)]); (try first | rw [if_pos c53] | rw [if_neg c53] | rw [if_neg (show ¬ _ = true by rw [c53]; decide)]); (try first | rw [if_pos c62] | rw [if_neg c62] | rw [if_neg (show ¬ _ = true by rw [c62]; decide)]); (try unfold ffin); (try first | rw [if_pos c24] | rw [if_neg c24] | rw [if_neg (show ¬ _ = true by rw [c24]; decide)]); (try first | rw [if_pos c53] | rw [if_neg c53] | rw [if_neg (show ¬ _ = true by rw [c53]; decide)]); (try first | rw [if_pos c62] | rw [if_neg c62] | rw [if_neg (show ¬ _ = true by rw [c62]; decide)]); try rfl, by rw [← hv13.1]; (try first | rw [if_pos c24] | rw [if_neg c24] | rw [if_neg (show ¬ _ = true by rw [c24]; decide)]); (try first | rw [if_pos c53] | rw [if_neg c53] | rw [if_neg (show ¬ _ = true by rw [c53]; decide)]); (try first | rw [if_pos c62] | rw [if_neg c62] | rw [if_neg (show ¬ _ = true by rw [c62]; decide)]); (try unfold ffin); (try first | rw [if_pos c24] | rw [if_neg c24] | rw [if_neg (show ¬ _ = true by rw [c24]; decide)]); (try first | rw [if_pos c53] | rw [if_neg c53] | rw [if_neg (show ¬ _ = true by rw [c53]; decide)]); (try first | rw [if_pos c62] | rw [if_neg c62] | rw [if_neg (show ¬ _ = true by rw [c62]; decide)]); try rfl, rfl⟩
    · skip
      refine g_aload_n C dX1_findFault_27 rfl rfl ?_
      refine g_aload_n C dX1_findFault_28 rfl rfl ?_
      refine gfX1_30 C (by decide) hl.signs dX1_findFault_29 ?_
      refine g_iload_n C dX1_findFault_32 rfl rfl ?_
      refine g_cald_j C (show ar NT 24 6 64 by decide) (i13) rfl hi13 (by decide) dX1_findFault_33 ?_
      refine kX1_34 C (by decide) (tX1_takes2 hl hv13.2 _) ⟨⟨Nat.le_of_ble_eq_true rfl, Nat.le_of_ble_eq_true rfl⟩, Nat.le_of_ble_eq_true rfl, Nat.le_of_ble_eq_true rfl⟩ (Nat.le_of_ble_eq_true rfl) dX1_findFault_34 ?_
      refine g_ifne_b C (tgt := 42) dX1_findFault_37 (by decide) (fun c37 => ?_) (fun c37 => ?_)
      · skip
        refine g_iinc C dX1_findFault_42 rfl (nI_inc _) (by decide) rfl ?_
        refine g_goto C (tgt := 13) dX1_findFault_45 (by decide) ?_
        exact ih13 ⟨by rw [show 64 - (i13 + 1) = 63 - i13 by omega, ← hv13.1]; (try first | rw [if_pos c24] | rw [if_neg c24] | rw [if_neg (show ¬ _ = true by rw [c24]; decide)]); (try first | rw [if_pos c37] | rw [if_neg c37] | rw [if_neg (show ¬ _ = true by rw [c37]; decide)]); rfl, tk_RN _ hv13.2⟩
      · skip
        refine g_iload_n C dX1_findFault_40 rfl rfl ?_
        exact g_iret C hr dX1_findFault_41 ⟨by rw [← hv13.1]; (try first | rw [if_pos c24] | rw [if_neg c24] | rw [if_neg (show ¬ _ = true by rw [c24]; decide)]); (try first | rw [if_pos c37] | rw [if_neg c37] | rw [if_neg (show ¬ _ = true by rw [c37]; decide)]); (try unfold ffin); (try first | rw [if_pos c24] | rw [if_neg c24] | rw [if_neg (show ¬ _ = true by rw [c24]; decide)]); (try first | rw [if_pos c37] | rw [if_neg c37] | rw [if_neg (show ¬ _ = true by rw [c37]; decide)]); try rfl, by rw [← hv13.1]; (try first | rw [if_pos c24] | rw [if_neg c24] | rw [if_neg (show ¬ _ = true by rw [c24]; decide)]); (try first | rw [if_pos c37] | rw [if_neg c37] | rw [if_neg (show ¬ _ = true by rw [c37]; decide)]); (try unfold ffin); (try first | rw [if_pos c24] | rw [if_neg c24] | rw [if_neg (show ¬ _ = true by rw [c24]; decide)]); (try first | rw [if_pos c37] | rw [if_neg c37] | rw [if_neg (show ¬ _ = true by rw [c37]; decide)]); try rfl, rfl⟩
  · intro hv13
    rw [Nat.sub_self, ffR] at hv13
    refine g_iload_n C dX1_findFault_13 rfl rfl ?_
    refine g_bipush C (v := 64) dX1_findFault_14 (by decide) ?_
    refine g_icmp_ge C (tgt := 48) dX1_findFault_16 (by decide) (fun _ => ?_) (fun c16 => absurd (nI_lee rfl) c16)
    refine g_aload_n C dX1_findFault_48 rfl rfl ?_
    refine gfX1_38 C (by decide) dX1_findFault_49 ?_
    refine g_iconst C (v := 5) dX1_findFault_52 (by decide) ?_
    refine g_icmp_eq C (tgt := 70) dX1_findFault_53 (by decide) (fun c53 => ?_) (fun c53 => ?_)
    · skip
      refine g_aload_n C dX1_findFault_70 rfl rfl ?_
      refine kX1_41 C (by decide) (tX1_endIsland2 hl hv13.2) ⟨⟨Nat.le_of_ble_eq_true rfl, Nat.le_of_ble_eq_true rfl⟩, Nat.le_of_ble_eq_true rfl, Nat.le_of_ble_eq_true rfl⟩ (Nat.le_of_ble_eq_true rfl) dX1_findFault_71 ?_
      refine g_bipush C (v := (-6)) dX1_findFault_74 (by decide) ?_
      exact g_iret C hr dX1_findFault_76 ⟨by rw [← hv13.1]; (try first | rw [if_pos c53] | rw [if_neg c53] | rw [if_neg (show ¬ _ = true by rw [c53]; decide)]); (try unfold ffin); (try first | rw [if_pos c53] | rw [if_neg c53] | rw [if_neg (show ¬ _ = true by rw [c53]; decide)]); try rfl, by rw [← hv13.1]; (try first | rw [if_pos c53] | rw [if_neg c53] | rw [if_neg (show ¬ _ = true by rw [c53]; decide)]); (try unfold ffin); (try first | rw [if_pos c53] | rw [if_neg c53] | rw [if_neg (show ¬ _ = true by rw [c53]; decide)]); try rfl, rfl⟩
    · skip
      refine g_aload_n C dX1_findFault_56 rfl rfl ?_
      refine gfX1_38 C (by decide) dX1_findFault_57 ?_
      refine g_bipush C (v := 7) dX1_findFault_60 (by decide) ?_
      refine g_icmp_eq C (tgt := 70) dX1_findFault_62 (by decide) (fun c62 => ?_) (fun c62 => ?_)
      · skip
        refine g_aload_n C dX1_findFault_70 rfl rfl ?_
        refine kX1_41 C (by decide) (tX1_endIsland2 hl hv13.2) ⟨⟨Nat.le_of_ble_eq_true rfl, Nat.le_of_ble_eq_true rfl⟩, Nat.le_of_ble_eq_true rfl, Nat.le_of_ble_eq_true rfl⟩ (Nat.le_of_ble_eq_true rfl) dX1_findFault_71 ?_
        refine g_bipush C (v := (-6)) dX1_findFault_74 (by decide) ?_
        exact g_iret C hr dX1_findFault_76 ⟨by rw [← hv13.1]; (try first | rw [if_pos c53] | rw [if_neg c53] | rw [if_neg (show ¬ _ = true by rw [c53]; decide)]); (try first | rw [if_pos c62] | rw [if_neg c62] | rw [if_neg (show ¬ _ = true by rw [c62]; decide)]); (try unfold ffin); (try first | rw [if_pos c53] | rw [if_neg c53] | rw [if_neg (show ¬ _ = true by rw [c53]; decide)]); (try first | rw [if_pos c62] | rw [if_neg c62] | rw [if_neg (show ¬ _ = true by rw [c62]; decide)]); try rfl, by rw [← hv13.1]; (try first | rw [if_pos c53] | rw [if_neg c53] | rw [if_neg (show ¬ _ = true by rw [c53]; decide)]); (try first | rw [if_pos c62] | rw [if_neg c62] | rw [if_neg (show ¬ _ = true by rw [c62]; decide)]); (try unfold ffin); (try first | rw [if_pos c53] | rw [if_neg c53] | rw [if_neg (show ¬ _ = true by rw [c53]; decide)]); (try first | rw [if_pos c62] | rw [if_neg c62] | rw [if_neg (show ¬ _ = true by rw [c62]; decide)]); try rfl, rfl⟩
      · skip
        refine g_aload_n C dX1_findFault_65 rfl rfl ?_
        refine gfX1_24 C (by decide) dX1_findFault_66 ?_
        exact g_iret C hr dX1_findFault_69 ⟨by rw [← hv13.1]; (try first | rw [if_pos c53] | rw [if_neg c53] | rw [if_neg (show ¬ _ = true by rw [c53]; decide)]); (try first | rw [if_pos c62] | rw [if_neg c62] | rw [if_neg (show ¬ _ = true by rw [c62]; decide)]); (try unfold ffin); (try first | rw [if_pos c53] | rw [if_neg c53] | rw [if_neg (show ¬ _ = true by rw [c53]; decide)]); (try first | rw [if_pos c62] | rw [if_neg c62] | rw [if_neg (show ¬ _ = true by rw [c62]; decide)]); try rfl, by rw [← hv13.1]; (try first | rw [if_pos c53] | rw [if_neg c53] | rw [if_neg (show ¬ _ = true by rw [c53]; decide)]); (try first | rw [if_pos c62] | rw [if_neg c62] | rw [if_neg (show ¬ _ = true by rw [c62]; decide)]); (try unfold ffin); (try first | rw [if_pos c53] | rw [if_neg c53] | rw [if_neg (show ¬ _ = true by rw [c53]; decide)]); (try first | rw [if_pos c62] | rw [if_neg c62] | rw [if_neg (show ¬ _ = true by rw [c62]; decide)]); try rfl, rfl⟩

def appC (I : Mi) (n : Nat) (v : Int32) : Mi := up (up I 24 n v) 23 1 (up I 24 n v 23 1 + 1)
set_option maxRecDepth 100000 in
set_option maxHeartbeats 4000000 in
theorem tX3_append {l : Launch} {E : EE} {I : Mi} {F : Mr} (hl : LY F) {n : Nat} (hn64 : n < 64) (hn : I 23 1 = nI n) {v : Int32} (hv : vp_nar .char v = v)  : CtF l E mX3_append [rf E 23, .int v] NT I F NT none (appC I n v) F := by
  refine CtF_of [some (rf E 23), some (.int v)] (by decide) rfl (Nat.le_of_ble_eq_true rfl) rfl (fun p e s m args below meth c C hr hname => ?_)
  refine g_aload_n C dX3_append_0 rfl rfl ?_
  refine gfX3_15 C (by decide) dX3_append_1 ?_
  refine g_if_lt C (tgt := 36) dX3_append_4 (by decide) (fun c4 => absurd c4 (by rw [hn]; exact nI_pos (by omega))) (fun _ => ?_)
  refine g_aload_n C dX3_append_7 rfl rfl ?_
  refine gfX3_15 C (by decide) dX3_append_8 ?_
  refine g_bipush C (v := 64) dX3_append_11 (by decide) ?_
  rw [hn]
  refine g_icmp_ge C (tgt := 36) dX3_append_13 (by decide) (fun c13 => absurd c13 (nI_nge rfl (by exact hn64) (by decide))) (fun _ => ?_)
  refine g_aload_n C dX3_append_16 rfl rfl ?_
  refine gfX3_9 C (by decide) hl.signs dX3_append_17 ?_
  refine g_aload_n C dX3_append_20 rfl rfl ?_
  refine gfX3_15 C (by decide) dX3_append_21 ?_
  refine g_iload_n C dX3_append_24 rfl rfl ?_
  refine g_cast_j C (show ar NT 24 6 64 by decide) n hn hn64 (by decide) hv dX3_append_25 ?_
  refine g_aload_n C dX3_append_26 rfl rfl ?_
  refine g_dup C dX3_append_27 rfl ?_
  refine gfX3_15 C (by decide) dX3_append_28 ?_
  refine g_iconst C (v := 1) dX3_append_31 (by decide) ?_
  refine g_iadd C dX3_append_32 ?_
  refine pfX3_15 C (by decide) dX3_append_33 ?_
  exact g_vret C hr dX3_append_36 ⟨rfl, rfl, rfl⟩

