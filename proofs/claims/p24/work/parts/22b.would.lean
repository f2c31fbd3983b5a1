/-! the whole of 'would' -/
section WE
variable {l : Launch} {E : EE}
set_option maxRecDepth 100000 in
set_option maxHeartbeats 8000000 in
theorem tL_would {I J : Mi} {F : Mr} {n w O : Nat} (hl : LY F) (hR : REL I J n w O) (hO : O < 800000) (x : Int32) : Ct l E mL_would [rf E 0, .int x, rf E 127, rf E 128, rf E 129, rf E 130, rf E 131] NT I F NT (fun r9 I9 F9 => r9 = some (.int 1) ∧ F9 = F ∧ KE I9 I) := by
  obtain ⟨t, h1, h30, et⟩ : ∃ t, 1 ≤ t ∧ t ≤ 30 ∧ 1 + lowE x 30 = nI t := by
    obtain ⟨r, r1, r2⟩ := lowE_n x (m := 30) (by omega) (by omega)
    refine ⟨r + 1, by omega, by omega, ?_⟩
    rw [show lowE x 30 = nI r from r2, Int32.add_comm]
    exact nI_1 r
  obtain ⟨mo, hm, em⟩ : ∃ mo, mo ≤ 24 ∧ lowE (x >>> (5 &&& 31)) 25 = nI mo := by
    obtain ⟨r, r1, r2⟩ := lowE_n (x >>> (5 &&& 31)) (m := 25) (by omega) (by omega)
    exact ⟨r, by omega, r2⟩
  have n5 := hR.2.1.1
  have hp := LG_pass LB9 (ip0_LG hR.2) t (by have : n * t ≤ 5 * 30 := Nat.mul_le_mul n5 h30; omega)
  refine Ct_of (by decide) rfl (Nat.le_of_ble_eq_true rfl) (fun p e s m args below meth c C hr hname => ?_)
  show G E NT mL_would.2.2.1 p l e mL_would.2.2.2.2 s m args below meth c 0 0 (MQ below (QC E NT (fun r9 I9 F9 => r9 = some (.int 1) ∧ F9 = F ∧ KE I9 I)) args s mL_would.2.2.2.2.cells mL_would.2.2.2.2.slots (fun q => pb E ≤ q)) I F 0 [some (rf E 0), some (.int x), some (rf E 127), some (rf E 128), some (rf E 129), some (rf E 130), some (rf E 131), none, none, none, none, none, none, none] []
  refine g_iconst C (v := 1) dL_would_0 (by decide) ?_
  refine g_iload_n C dL_would_1 rfl rfl ?_
  refine g_bipush C (v := 30) dL_would_2 (by decide) ?_
  refine kL_58 C (by decide) (tL_low x 30 (by decide)) ⟨⟨Nat.le_of_ble_eq_true rfl, Nat.le_of_ble_eq_true rfl⟩, Nat.le_of_ble_eq_true rfl, Nat.le_of_ble_eq_true rfl⟩ (Nat.le_of_ble_eq_true rfl) dL_would_4 ?_
  refine g_iadd C dL_would_7 ?_
  rw [et]
  refine g_istore C dL_would_8 (by decide) rfl ?_
  refine g_aload_n C dL_would_10 rfl rfl ?_
  refine g_aload_n C dL_would_11 rfl rfl ?_
  refine g_aload C dL_would_12 rfl ?_
  refine g_aload C dL_would_14 rfl ?_
  refine kL_50 C (by decide) tL_copy ⟨⟨Nat.le_of_ble_eq_true rfl, Nat.le_of_ble_eq_true rfl⟩, Nat.le_of_ble_eq_true rfl, Nat.le_of_ble_eq_true rfl⟩ (Nat.le_of_ble_eq_true rfl) dL_would_16 ?_
  refine g_aload C dL_would_19 rfl ?_
  refine g_bipush C (v := 6) dL_would_21 (by decide) ?_
  refine g_iconst C (v := 0) dL_would_23 (by decide) ?_
  refine g_iast_j C (show ar NT 129 7 8 by decide) 6 rfl (by decide) (by decide) dL_would_24 ?_
  refine g_iconst C (v := 0) dL_would_25 (by decide) ?_
  refine g_istore C dL_would_26 (by decide) rfl ?_
  refine G_loop (n := t) (fun i => [some (rf E 0), some (.int x), some (rf E 127), some (rf E 128), some (rf E 129), some (rf E 130), some (rf E 131), some (.int (nI t)), some (.int (nI i)), none, none, none, none, none]) (fun i => psL (up (cpyL I) 129 6 0) 129 n i) (fun _ => F) rfl rfl rfl ?_ ?_
  · intro i28 hi28 ih28
    refine g_iload C dL_would_28 rfl ?_
    refine g_iload C dL_would_30 rfl ?_
    refine g_icmp_ge C (tgt := 50) dL_would_32 (by decide) (fun c32 => absurd c32 (nI_nge rfl hi28 (by omega))) (fun _ => ?_)
    refine g_aload C dL_would_35 rfl ?_
    refine g_aload C dL_would_37 rfl ?_
    refine g_aload C dL_would_39 rfl ?_
    refine kL_54 C (by decide) (tL_tick LB9 n5 (hp.2 i28 hi28)) ⟨⟨Nat.le_of_ble_eq_true rfl, Nat.le_of_ble_eq_true rfl⟩, Nat.le_of_ble_eq_true rfl, Nat.le_of_ble_eq_true rfl⟩ (Nat.le_of_ble_eq_true rfl) dL_would_41 ?_
    refine g_iinc C dL_would_44 rfl (nI_inc _) (by decide) rfl ?_
    refine g_goto C (tgt := 28) dL_would_47 (by decide) ?_
    exact G_cast ih28 rfl rfl rfl rfl
  · skip
    have hkP : KE (psL (up (cpyL I) 129 6 0) 129 n t) I := (psL_KE _ t).trans (fun z hz => (up_ne (by omega)).trans (cpyL_KE I z hz))
    obtain ⟨⟨w2, O2, -, gP⟩, -⟩ := hp
    generalize psL (up (cpyL I) 129 6 0) 129 n t = P at hkP gP ⊢
    have hP := hR.ke hkP
    have hnP : P 127 2 = nI n := hP.2.law2
    refine g_iload C dL_would_28 rfl ?_
    refine g_iload C dL_would_30 rfl ?_
    refine g_icmp_ge C (tgt := 50) dL_would_32 (by decide) (fun _ => ?_) (fun c32 => absurd (nI_lee rfl) c32)
    refine g_iconst C (v := 0) dL_would_50 (by decide) ?_
    refine g_istore C dL_would_51 (by decide) rfl ?_
    refine g_iconst C (v := 0) dL_would_53 (by decide) ?_
    refine g_istore C dL_would_54 (by decide) rfl ?_
    refine G_loop (n := n) (fun i => [some (rf E 0), some (.int x), some (rf E 127), some (rf E 128), some (rf E 129), some (rf E 130), some (rf E 131), some (.int (nI t)), some (.int (lp (fun k acc => acc + sL P 129 k 4) i 0)), some (.int (nI i)), none, none, none, none]) (fun i => P) (fun _ => F) rfl rfl rfl ?_ ?_
    · intro i56 hi56 ih56
      refine g_iload C dL_would_56 rfl ?_
      refine g_aload_n C dL_would_58 rfl rfl ?_
      refine g_iconst C (v := 2) dL_would_59 (by decide) ?_
      refine g_iald_j C (show ar NT 127 7 8 by decide) 2 rfl (by decide) (by decide) dL_would_60 ?_
      refine g_icmp_ge C (tgt := 85) dL_would_61 (by decide) (fun c61 => absurd c61 (nI_nge hnP hi56 (by omega))) (fun _ => ?_)
      refine g_iload C dL_would_64 rfl ?_
      refine g_aload C dL_would_66 rfl ?_
      refine g_bipush C (v := 12) dL_would_68 (by decide) ?_
      refine g_iload C dL_would_70 rfl ?_
      refine g_imul C dL_would_72 ?_
      refine g_iconst C (v := 4) dL_would_73 (by decide) ?_
      refine g_iadd C dL_would_74 ?_
      refine g_iald_j C (show ar NT 130 7 60 by decide) (12 * i56 + 4) (e_ix i56 4 rfl) (by omega) (by decide) dL_would_75 ?_
      refine g_iadd C dL_would_76 ?_
      refine g_istore C dL_would_77 (by decide) rfl ?_
      refine g_iinc C dL_would_79 rfl (nI_inc _) (by decide) rfl ?_
      refine g_goto C (tgt := 56) dL_would_82 (by decide) ?_
      exact G_cast ih56 rfl rfl rfl rfl
    · skip
      obtain ⟨r0, P0, d0, l0, a0, -, -, -⟩ := c_ifP (l := l) (E := E) hl hP h1 h30 0
      have hP0 := hP.ke (KE_LK l0)
      obtain ⟨r1, P1, d1, l1, -, a1, -, -⟩ := c_ifP (l := l) (E := E) hl hP0 h1 h30 1
      have hP1 := hP0.ke (KE_LK l1)
      obtain ⟨r2, P2, d2, l2, -, -, a2, -⟩ := c_ifP (l := l) (E := E) hl hP1 h1 h30 2
      have hP2 := hP1.ke (KE_LK l2)
      obtain ⟨r3, P3, d3, l3, -, -, -, a3⟩ := c_ifP (l := l) (E := E) hl hP2 h1 h30 3
      have hP3 := hP2.ke (KE_LK l3)
      have g0 : LG P0 129 (psM (ip0 J) t) n w2 O2 := gP.same (fun y _ => by rw [l0 129 (by omega)]) (fun y _ => by rw [l0 130 (by omega)]) (fun _ _ => rfl)
      have g1 : LG P1 129 (psM (ip0 J) t) n w2 O2 := g0.same (fun y _ => by rw [l1 129 (by omega)]) (fun y _ => by rw [l1 130 (by omega)]) (fun _ _ => rfl)
      have g2 : LG P2 129 (psM (ip0 J) t) n w2 O2 := g1.same (fun y _ => by rw [l2 129 (by omega)]) (fun y _ => by rw [l2 130 (by omega)]) (fun _ _ => rfl)
      have hk3 : KE P3 I := (KE_LK l3).trans ((KE_LK l2).trans ((KE_LK l1).trans ((KE_LK l0).trans hkP)))
      have eSum : lp (fun k acc => acc + sL P 129 k 4) n 0 = sumM (psM (ip0 J) t) n := sumL_M gP.2.1
      generalize lp (fun k acc => acc + sL P 129 k 4) n 0 = sS at eSum ⊢
      refine g_iload C dL_would_56 rfl ?_
      refine g_aload_n C dL_would_58 rfl rfl ?_
      refine g_iconst C (v := 2) dL_would_59 (by decide) ?_
      refine g_iald_j C (show ar NT 127 7 8 by decide) 2 rfl (by decide) (by decide) dL_would_60 ?_
      refine g_icmp_ge C (tgt := 85) dL_would_61 (by decide) (fun _ => ?_) (fun c61 => absurd (nI_lee hnP) c61)
      refine g_aload_n C dL_would_85 rfl rfl ?_
      refine g_iload C dL_would_86 rfl ?_
      refine g_iconst C (v := 0) dL_would_88 (by decide) ?_
      refine kL_61 C (show ob NT 0 4 by decide) d0 ⟨⟨Nat.le_of_ble_eq_true rfl, Nat.le_of_ble_eq_true rfl⟩, Nat.le_of_ble_eq_true rfl, Nat.le_of_ble_eq_true rfl⟩ (Nat.le_of_ble_eq_true rfl) dL_would_89 ?_
      refine g_aload C dL_would_92 rfl ?_
      refine g_iconst C (v := 4) dL_would_94 (by decide) ?_
      refine g_iald_j C (show ar NT 129 7 8 by decide) 4 rfl (by decide) (by decide) dL_would_95 ?_
      refine g_aload_n C dL_would_96 rfl rfl ?_
      refine g_iconst C (v := 4) dL_would_97 (by decide) ?_
      refine g_iald_j C (show ar NT 127 7 8 by decide) 4 rfl (by decide) (by decide) dL_would_98 ?_
      refine g_isub C dL_would_99 ?_
      refine g_icmp_ne C (tgt := 148) dL_would_100 (by decide) (fun c100 => absurd ((a0 rfl).trans (by rw [g0.2.1.1 4 (by omega), hP0.2.2.1.1 4 (by omega)])) c100) (fun _ => ?_)
      refine g_aload_n C dL_would_103 rfl rfl ?_
      refine g_iload C dL_would_104 rfl ?_
      refine g_iconst C (v := 1) dL_would_106 (by decide) ?_
      refine kL_61 C (show ob NT 0 4 by decide) d1 ⟨⟨Nat.le_of_ble_eq_true rfl, Nat.le_of_ble_eq_true rfl⟩, Nat.le_of_ble_eq_true rfl, Nat.le_of_ble_eq_true rfl⟩ (Nat.le_of_ble_eq_true rfl) dL_would_107 ?_
      refine g_iconst C (v := 0) dL_would_110 (by decide) ?_
      refine g_aload C dL_would_111 rfl ?_
      refine g_aload C dL_would_113 rfl ?_
      refine kL_16 C (by decide) (tL_set LB9 n5 g1.law2 0) ⟨⟨Nat.le_of_ble_eq_true rfl, Nat.le_of_ble_eq_true rfl⟩, Nat.le_of_ble_eq_true rfl, Nat.le_of_ble_eq_true rfl⟩ (Nat.le_of_ble_eq_true rfl) dL_would_115 ?_
      refine g_icmp_ne C (tgt := 148) dL_would_118 (by decide) (fun c118 => absurd ((a1 rfl).trans (setL_M g1.2.1 0).symm) c118) (fun _ => ?_)
      refine g_aload_n C dL_would_121 rfl rfl ?_
      refine g_iload C dL_would_122 rfl ?_
      refine g_iconst C (v := 2) dL_would_124 (by decide) ?_
      refine kL_61 C (show ob NT 0 4 by decide) d2 ⟨⟨Nat.le_of_ble_eq_true rfl, Nat.le_of_ble_eq_true rfl⟩, Nat.le_of_ble_eq_true rfl, Nat.le_of_ble_eq_true rfl⟩ (Nat.le_of_ble_eq_true rfl) dL_would_125 ?_
      refine g_aload C dL_would_128 rfl ?_
      refine g_bipush C (v := 6) dL_would_130 (by decide) ?_
      refine g_iald_j C (show ar NT 129 7 8 by decide) 6 rfl (by decide) (by decide) dL_would_132 ?_
      refine g_icmp_ne C (tgt := 148) dL_would_133 (by decide) (fun c133 => absurd ((a2 rfl).trans (g2.2.1.1 6 (by omega)).symm) c133) (fun _ => ?_)
      refine g_aload_n C dL_would_136 rfl rfl ?_
      refine g_iload C dL_would_137 rfl ?_
      refine g_iconst C (v := 3) dL_would_139 (by decide) ?_
      refine kL_61 C (show ob NT 0 4 by decide) d3 ⟨⟨Nat.le_of_ble_eq_true rfl, Nat.le_of_ble_eq_true rfl⟩, Nat.le_of_ble_eq_true rfl, Nat.le_of_ble_eq_true rfl⟩ (Nat.le_of_ble_eq_true rfl) dL_would_140 ?_
      refine g_iload C dL_would_143 rfl ?_
      refine g_icmp_eq C (tgt := 150) dL_would_145 (by decide) (fun _ => ?_) (fun c145 => absurd ((a3 rfl).trans eSum.symm) c145)
      refine g_iconst C (v := 0) dL_would_150 (by decide) ?_
      refine g_istore C dL_would_151 (by decide) rfl ?_
      refine g_iconst C (v := 0) dL_would_153 (by decide) ?_
      refine g_istore C dL_would_154 (by decide) rfl ?_
      refine G_forget 12 (G_forget 11 (w_quiet (t := t) (s8 := sS) C hr h30 (by omega) (fun X hX hk => ?_) n 0 P3 (by omega) hP3 hk3))
      refine g_iload_n C dL_would_255 rfl rfl ?_
      refine g_iconst C (v := 5) dL_would_256 (by decide) ?_
      refine g_ishr C dL_would_257 ?_
      refine g_bipush C (v := 25) dL_would_258 (by decide) ?_
      refine kL_58 C (by decide) (tL_low _ 25 (by decide)) ⟨⟨Nat.le_of_ble_eq_true rfl, Nat.le_of_ble_eq_true rfl⟩, Nat.le_of_ble_eq_true rfl, Nat.le_of_ble_eq_true rfl⟩ (Nat.le_of_ble_eq_true rfl) dL_would_260 ?_
      rw [em]
      refine g_istore C dL_would_263 (by decide) rfl ?_
      refine g_bipush C (v := (-6)) dL_would_265 (by decide) ?_
      refine g_istore C dL_would_267 (by decide) rfl ?_
      refine g_bipush C (v := 60) dL_would_269 (by decide) ?_
      refine g_istore C dL_would_271 (by decide) rfl ?_
      exact w_least (t := t) (s8 := sS) (qq := quG J t n) C hr hm (by omega) (fun X hX hk r11 e11 => w_end C hr hl h1 h30 hm (by omega) hX hk e11) 60 X (-6) (Nat.le_refl _) hX hk rfl
end WE
