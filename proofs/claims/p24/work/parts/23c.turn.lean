/-! a turn of the law, and its loop -/
def LI (tu : Nat) (I : Mi) (F : Mr) : Prop := ∃ n O, MI I F n O ∧ O ≤ 40 * tu ∧ (tu ≤ 4 → n = tu) ∧ (4 ≤ tu → 4 ≤ n ∧ n ≤ 5)
section LT
variable {E : EE} {p : Program} {l : Launch} {e : Env} {s : State} {m : MethodId} {below : List Frame} {meth : Method} {c : Code} {Q : State → Prop} {I : Mi} {F : Mr} {b tu n O L : Nat} {x : Int32} {xs : Nat → Int32}
set_option maxRecDepth 100000 in
set_option maxHeartbeats 8000000 in
theorem law_tail (C : Cx E RL cL_law 15 p s m #[Value.ref b] meth c) (hM : MI I F n O) (hO : O < 700000) (kk : ∀ X, MI X F n O → G E NT 15 p l e room_1 s m #[Value.ref b] below meth c 132 1330 Q X F 792 [some (.ref b), some (rf E 0), some (rf E 127), some (rf E 128), some (rf E 129), some (rf E 130), some (rf E 131), some (.int (nI tu)), some (.int x), none, none, none, none, none, none] []) : G E NT 15 p l e room_1 s m #[Value.ref b] below meth c 132 1330 Q I F 749 [some (.ref b), some (rf E 0), some (rf E 127), some (rf E 128), some (rf E 129), some (rf E 130), some (rf E 131), some (.int (nI tu)), some (.int x), none, none, none, none, none, none] [] := by
  obtain ⟨J, w, hl, hR⟩ := hM.rel
  have n5 := hR.2.1.1
  have hn : I 127 2 = nI n := hR.2.law2
  refine g_aload_n C dL_law_749 rfl rfl ?_
  refine g_aload_n C dL_law_750 rfl rfl ?_
  refine g_aload_n C dL_law_751 rfl rfl ?_
  refine kL_105 C (by decide) (tL_same hl n5 hn (hR.same (by omega))) ⟨⟨Nat.le_of_ble_eq_true rfl, Nat.le_of_ble_eq_true rfl⟩, Nat.le_of_ble_eq_true rfl, Nat.le_of_ble_eq_true rfl⟩ (Nat.le_of_ble_eq_true rfl) dL_law_752 ?_
  refine g_if_eq C (tgt := 790) dL_law_755 (by decide) (fun c755 => absurd c755 (show ¬ (1 : Int32) = 0 by decide)) (fun _ => ?_)
  refine g_iload C dL_law_758 rfl ?_
  refine g_bipush C (v := 13) dL_law_760 (by decide) ?_
  refine g_ishr C dL_law_762 ?_
  refine g_bipush C (v := 6) dL_law_763 (by decide) ?_
  refine kL_58 C (by decide) (tL_low _ 6 (by decide)) ⟨⟨Nat.le_of_ble_eq_true rfl, Nat.le_of_ble_eq_true rfl⟩, Nat.le_of_ble_eq_true rfl, Nat.le_of_ble_eq_true rfl⟩ (Nat.le_of_ble_eq_true rfl) dL_law_765 ?_
  refine g_if_ne C (tgt := 792) dL_law_768 (by decide) (fun c768 => ?_) (fun c768 => ?_)
  · skip
    exact kk I hM
  · skip
    refine g_aload_n C dL_law_771 rfl rfl ?_
    refine g_iload C dL_law_772 rfl ?_
    refine g_iconst C (v := 3) dL_law_774 (by decide) ?_
    refine g_ishr C dL_law_775 ?_
    refine g_aload_n C dL_law_776 rfl rfl ?_
    refine g_aload_n C dL_law_777 rfl rfl ?_
    refine g_aload C dL_law_778 rfl ?_
    refine g_aload C dL_law_780 rfl ?_
    refine g_aload C dL_law_782 rfl ?_
    refine g_callS C (M := mL_would) (As := [rf E 0, .int (x >>> (3 &&& 31)), rf E 127, rf E 128, rf E 129, rf E 130, rf E 131]) (rest := []) (N2 := NT) (tL_would hl hR (by omega) _) lmL_109 vL_would vtL_would ⟨⟨(Nat.le_of_ble_eq_true rfl), (Nat.le_of_ble_eq_true rfl)⟩, (Nat.le_of_ble_eq_true rfl), (Nat.le_of_ble_eq_true rfl)⟩ rfl rfl rfl (Nat.le_of_ble_eq_true rfl) (Or.inl (by decide)) dL_law_784 (fun r9 X F9 h9 => ?_)
    obtain ⟨rfl, rfl, hk⟩ := h9
    refine g_if_ne C (tgt := 792) dL_law_787 (by decide) (fun _ => ?_) (fun c9 => absurd c9 (by decide))
    exact kk X (hM.ke hk)
set_option maxRecDepth 100000 in
set_option maxHeartbeats 8000000 in
theorem law_turn (C : Cx E RL cL_law 15 p s m #[Value.ref b] meth c) (hX : va_X b L xs s s.heap) (hbl : b < s.heap.size) (hE : pb E = s.heap.size) (hL : L ≤ 260) (htu : tu < 36) (hI : LI tu I F) (kk : ∀ (X : Mi) (F2 : Mr), LI (tu + 1) X F2 → G E NT 15 p l e room_1 s m #[Value.ref b] below meth c 132 1330 Q X F2 44 [some (.ref b), some (rf E 0), some (rf E 127), some (rf E 128), some (rf E 129), some (rf E 130), some (rf E 131), some (.int (nI (tu + 1))), none, none, none, none, none, none, none] []) : G E NT 15 p l e room_1 s m #[Value.ref b] below meth c 132 1330 Q I F 44 [some (.ref b), some (rf E 0), some (rf E 127), some (rf E 128), some (rf E 129), some (rf E 130), some (rf E 131), some (.int (nI tu)), none, none, none, none, none, none, none] [] := by
  obtain ⟨n, O, hM, hO, hn1, hn2⟩ := hI
  have fin : ∀ (x : Int32) (n2 : Nat), ((tu + 1 ≤ 4 → n2 = tu + 1) ∧ (4 ≤ tu + 1 → 4 ≤ n2 ∧ n2 ≤ 5)) → ∀ (X : Mi) (F2 : Mr) (O2 : Nat), O2 ≤ O + 25 → MI X F2 n2 O2 → G E NT 15 p l e room_1 s m #[Value.ref b] below meth c 132 1330 Q X F2 749 [some (.ref b), some (rf E 0), some (rf E 127), some (rf E 128), some (rf E 129), some (rf E 130), some (rf E 131), some (.int (nI tu)), some (.int x), none, none, none, none, none, none] [] := by
    intro x n2 hn3 X F2 O2 ho hM2
    refine law_tail C hM2 (by omega) (fun X2 hM3 => ?_)
    refine g_iinc C dL_law_792 rfl (nI_inc _) (by decide) rfl ?_
    exact g_goto C (tgt := 44) dL_law_795 (by decide) (G_forget 8 (kk X2 F2 ⟨n2, O2, hM3, by omega, hn3.1, hn3.2⟩))
  obtain ⟨J, w, h, g⟩ := hM
  have hn : I 127 2 = nI n := g.law2
  have n5 := g.1.1
  refine g_iload C dL_law_44 rfl ?_
  refine g_bipush C (v := 36) dL_law_46 (by decide) ?_
  refine g_icmp_ge C (tgt := 798) dL_law_48 (by decide) (fun c48 => absurd c48 (nI_ge (a := tu) (b := 36) htu (by decide))) (fun _ => ?_)
  refine g_aload_n C dL_law_51 rfl rfl ?_
  refine g_iload C dL_law_52 rfl ?_
  refine g_callX C (M := mL_cell) (As := [.ref b, .int (nI tu)]) (rest := []) (N2 := NT) hX hbl (show b < pb E by rw [hE]; exact hbl) (tL_cell (show b < pb E by rw [hE]; exact hbl) hL htu) lmL_79 vL_cell vtL_cell ⟨⟨(Nat.le_of_ble_eq_true rfl), (Nat.le_of_ble_eq_true rfl)⟩, (Nat.le_of_ble_eq_true rfl), (Nat.le_of_ble_eq_true rfl)⟩ rfl rfl rfl (Nat.le_of_ble_eq_true rfl) (Or.inl (by decide)) dL_law_54 (fun r9 I9 F9 h9 => ?_)
  obtain ⟨rfl, e1, e2⟩ := h9
  subst e1 e2
  generalize cellL xs L tu = x
  refine g_istore C dL_law_57 (by decide) rfl ?_
  by_cases ht : tu < 4
  · skip
    refine g_iload C dL_law_59 rfl ?_
    refine g_iconst C (v := 4) dL_law_61 (by decide) ?_
    refine g_icmp_ge C (tgt := 69) dL_law_62 (by decide) (fun c62 => absurd c62 (nI_ge (a := tu) (b := 4) ht (by decide))) (fun _ => ?_)
    refine g_iconst C (v := 0) dL_law_65 (by decide) ?_
    refine g_goto C (tgt := 76) dL_law_66 (by decide) ?_
    refine g_istore C dL_law_76 (by decide) rfl ?_
    refine g_aload_n C dL_law_78 rfl rfl ?_
    refine g_iconst C (v := 2) dL_law_79 (by decide) ?_
    refine g_iald_j C (show ar NT 127 7 8 by decide) 2 rfl (by decide) (by decide) dL_law_80 ?_
    rw [hn]
    refine g_if_ne C (tgt := 88) dL_law_81 (by decide) (fun c81 => ?_) (fun c81 => ?_)
    · skip
      refine g_iload C dL_law_88 rfl ?_
      refine g_iconst C (v := 4) dL_law_90 (by decide) ?_
      refine g_ishr C dL_law_91 ?_
      refine g_aload_n C dL_law_92 rfl rfl ?_
      refine g_iconst C (v := 2) dL_law_93 (by decide) ?_
      refine g_iald_j C (show ar NT 127 7 8 by decide) 2 rfl (by decide) (by decide) dL_law_94 ?_
      rw [hn]
      refine kL_58 C (by decide) (tL_low _ _ c81) ⟨⟨Nat.le_of_ble_eq_true rfl, Nat.le_of_ble_eq_true rfl⟩, Nat.le_of_ble_eq_true rfl, Nat.le_of_ble_eq_true rfl⟩ (Nat.le_of_ble_eq_true rfl) dL_law_95 ?_
      refine g_istore C dL_law_98 (by decide) rfl ?_
      refine g_bipush C (v := 12) dL_law_100 (by decide) ?_
      refine g_iload C dL_law_102 rfl ?_
      refine g_imul C dL_law_104 ?_
      refine g_istore C dL_law_105 (by decide) rfl ?_
      refine g_iload C dL_law_107 rfl ?_
      refine g_if_ne C (tgt := 273) dL_law_109 (by decide) (fun c9 => absurd c9 (by decide)) (fun _ => ?_)
      refine g_aload_n C dL_law_112 rfl rfl ?_
      refine g_iconst C (v := 2) dL_law_113 (by decide) ?_
      refine g_iald_j C (show ar NT 127 7 8 by decide) 2 rfl (by decide) (by decide) dL_law_114 ?_
      rw [hn]
      refine g_iconst C (v := 5) dL_law_115 (by decide) ?_
      refine g_icmp_ge C (tgt := 273) dL_law_116 (by decide) (fun c116 => absurd c116 (nI_ge (a := n) (b := 5) (by omega) (by decide))) (fun _ => ?_)
      exact G_forget 9 (G_forget 10 (G_forget 11 (act_build C h g (by omega) (fun X F2 O2 ho hM2 => fin x (n + 1) ⟨fun z => by omega, fun z => by omega⟩ X F2 O2 ho hM2))))
    · skip
      refine g_iconst C (v := 0) dL_law_84 (by decide) ?_
      refine g_goto C (tgt := 98) dL_law_85 (by decide) ?_
      refine g_istore C dL_law_98 (by decide) rfl ?_
      refine g_bipush C (v := 12) dL_law_100 (by decide) ?_
      refine g_iload C dL_law_102 rfl ?_
      refine g_imul C dL_law_104 ?_
      refine g_istore C dL_law_105 (by decide) rfl ?_
      refine g_iload C dL_law_107 rfl ?_
      refine g_if_ne C (tgt := 273) dL_law_109 (by decide) (fun c9 => absurd c9 (by decide)) (fun _ => ?_)
      refine g_aload_n C dL_law_112 rfl rfl ?_
      refine g_iconst C (v := 2) dL_law_113 (by decide) ?_
      refine g_iald_j C (show ar NT 127 7 8 by decide) 2 rfl (by decide) (by decide) dL_law_114 ?_
      rw [hn]
      refine g_iconst C (v := 5) dL_law_115 (by decide) ?_
      refine g_icmp_ge C (tgt := 273) dL_law_116 (by decide) (fun c116 => absurd c116 (nI_ge (a := n) (b := 5) (by omega) (by decide))) (fun _ => ?_)
      exact G_forget 9 (G_forget 10 (G_forget 11 (act_build C h g (by omega) (fun X F2 O2 ho hM2 => fin x (n + 1) ⟨fun z => by omega, fun z => by omega⟩ X F2 O2 ho hM2))))
  · skip
    refine g_iload C dL_law_59 rfl ?_
    refine g_iconst C (v := 4) dL_law_61 (by decide) ?_
    refine g_icmp_ge C (tgt := 69) dL_law_62 (by decide) (fun _ => ?_) (fun c62 => absurd (show (4 : Int32) ≤ nI tu from nI_le (a := 4) (by omega) (by omega)) c62)
    refine g_iload C dL_law_69 rfl ?_
    refine g_bipush C (v := 14) dL_law_71 (by decide) ?_
    refine kL_58 C (by decide) (tL_low _ 14 (by decide)) ⟨⟨Nat.le_of_ble_eq_true rfl, Nat.le_of_ble_eq_true rfl⟩, Nat.le_of_ble_eq_true rfl, Nat.le_of_ble_eq_true rfl⟩ (Nat.le_of_ble_eq_true rfl) dL_law_73 ?_
    obtain ⟨kd, hkd, ekd⟩ := lowE_n x (m := 14) (by omega) (by omega)
    rw [show lowE x 14 = nI kd from ekd]
    refine g_istore C dL_law_76 (by decide) rfl ?_
    refine g_aload_n C dL_law_78 rfl rfl ?_
    refine g_iconst C (v := 2) dL_law_79 (by decide) ?_
    refine g_iald_j C (show ar NT 127 7 8 by decide) 2 rfl (by decide) (by decide) dL_law_80 ?_
    rw [hn]
    refine g_if_ne C (tgt := 88) dL_law_81 (by decide) (fun _ => ?_) (fun c81 => absurd c81 (nI_ne0 (show 0 < n by omega) (by omega)))
    refine g_iload C dL_law_88 rfl ?_
    refine g_iconst C (v := 4) dL_law_90 (by decide) ?_
    refine g_ishr C dL_law_91 ?_
    refine g_aload_n C dL_law_92 rfl rfl ?_
    refine g_iconst C (v := 2) dL_law_93 (by decide) ?_
    refine g_iald_j C (show ar NT 127 7 8 by decide) 2 rfl (by decide) (by decide) dL_law_94 ?_
    rw [hn]
    refine kL_58 C (by decide) (tL_low _ _ (nI_ne0 (show 0 < n by omega) (by omega))) ⟨⟨Nat.le_of_ble_eq_true rfl, Nat.le_of_ble_eq_true rfl⟩, Nat.le_of_ble_eq_true rfl, Nat.le_of_ble_eq_true rfl⟩ (Nat.le_of_ble_eq_true rfl) dL_law_95 ?_
    obtain ⟨i, hi, ei⟩ := lowE_n (x >>> (4 &&& 31)) (m := n) (by omega) (by omega)
    rw [ei]
    refine g_istore C dL_law_98 (by decide) rfl ?_
    refine g_bipush C (v := 12) dL_law_100 (by decide) ?_
    refine g_iload C dL_law_102 rfl ?_
    refine g_imul C dL_law_104 ?_
    rw [e_ix0]
    refine g_istore C dL_law_105 (by decide) rfl ?_
    refine g_iload C dL_law_107 rfl ?_
    refine g_if_ne C (tgt := 273) dL_law_109 (by decide) (fun c109 => ?_) (fun c109 => ?_)
    · skip
      refine g_iload C dL_law_273 rfl ?_
      refine g_iconst C (v := 3) dL_law_275 (by decide) ?_
      refine g_icmp_ge C (tgt := 386) dL_law_276 (by decide) (fun c276 => ?_) (fun c276 => ?_)
      · skip
        refine g_iload C dL_law_386 rfl ?_
        refine g_iconst C (v := 3) dL_law_388 (by decide) ?_
        refine g_icmp_ne C (tgt := 469) dL_law_389 (by decide) (fun c389 => ?_) (fun c389 => ?_)
        · skip
          refine g_iload C dL_law_469 rfl ?_
          refine g_bipush C (v := 7) dL_law_471 (by decide) ?_
          refine g_icmp_ge C (tgt := 547) dL_law_473 (by decide) (fun c473 => ?_) (fun c473 => ?_)
          · skip
            refine g_iload C dL_law_547 rfl ?_
            refine g_bipush C (v := 10) dL_law_549 (by decide) ?_
            refine g_icmp_ge C (tgt := 617) dL_law_551 (by decide) (fun c551 => ?_) (fun c551 => ?_)
            · skip
              refine g_iload C dL_law_617 rfl ?_
              refine g_bipush C (v := 10) dL_law_619 (by decide) ?_
              refine g_icmp_ne C (tgt := 691) dL_law_621 (by decide) (fun c621 => ?_) (fun c621 => ?_)
              · skip
                exact G_forget 9 (act_pass C h g (by omega) (fun X F2 O2 ho hM2 => fin x n ⟨fun z => by omega, fun z => by omega⟩ X F2 O2 ho hM2))
              · skip
                exact G_forget 9 (act_set C h g (by omega) (fun X F2 O2 ho hM2 => fin x n ⟨fun z => by omega, fun z => by omega⟩ X F2 O2 ho hM2))
            · skip
              exact G_forget 9 (act_wake C h g (by omega) hi (fun X F2 O2 ho hM2 => fin x n ⟨fun z => by omega, fun z => by omega⟩ X F2 O2 ho hM2))
          · skip
            exact G_forget 9 (act_sleep C h g (by omega) hi (fun X F2 O2 ho hM2 => fin x n ⟨fun z => by omega, fun z => by omega⟩ X F2 O2 ho hM2))
        · skip
          exact G_forget 9 (act_value C h g (by omega) hi (fun X F2 O2 ho hM2 => fin x n ⟨fun z => by omega, fun z => by omega⟩ X F2 O2 ho hM2))
      · skip
        exact G_forget 9 (act_link C h g (by omega) hi (fun X F2 O2 ho hM2 => fin x n ⟨fun z => by omega, fun z => by omega⟩ X F2 O2 ho hM2))
    · skip
      refine g_aload_n C dL_law_112 rfl rfl ?_
      refine g_iconst C (v := 2) dL_law_113 (by decide) ?_
      refine g_iald_j C (show ar NT 127 7 8 by decide) 2 rfl (by decide) (by decide) dL_law_114 ?_
      rw [hn]
      refine g_iconst C (v := 5) dL_law_115 (by decide) ?_
      refine g_icmp_ge C (tgt := 273) dL_law_116 (by decide) (fun c116 => ?_) (fun c116 => ?_)
      · skip
        refine g_iload C dL_law_273 rfl ?_
        refine g_iconst C (v := 3) dL_law_275 (by decide) ?_
        refine g_icmp_ge C (tgt := 386) dL_law_276 (by decide) (fun c276 => ?_) (fun c276 => ?_)
        · skip
          refine g_iload C dL_law_386 rfl ?_
          refine g_iconst C (v := 3) dL_law_388 (by decide) ?_
          refine g_icmp_ne C (tgt := 469) dL_law_389 (by decide) (fun c389 => ?_) (fun c389 => ?_)
          · skip
            refine g_iload C dL_law_469 rfl ?_
            refine g_bipush C (v := 7) dL_law_471 (by decide) ?_
            refine g_icmp_ge C (tgt := 547) dL_law_473 (by decide) (fun c473 => ?_) (fun c473 => ?_)
            · skip
              refine g_iload C dL_law_547 rfl ?_
              refine g_bipush C (v := 10) dL_law_549 (by decide) ?_
              refine g_icmp_ge C (tgt := 617) dL_law_551 (by decide) (fun c551 => ?_) (fun c551 => ?_)
              · skip
                refine g_iload C dL_law_617 rfl ?_
                refine g_bipush C (v := 10) dL_law_619 (by decide) ?_
                refine g_icmp_ne C (tgt := 691) dL_law_621 (by decide) (fun c621 => ?_) (fun c621 => ?_)
                · skip
                  exact G_forget 9 (act_pass C h g (by omega) (fun X F2 O2 ho hM2 => fin x n ⟨fun z => by omega, fun z => by omega⟩ X F2 O2 ho hM2))
                · skip
                  exact G_forget 9 (act_set C h g (by omega) (fun X F2 O2 ho hM2 => fin x n ⟨fun z => by omega, fun z => by omega⟩ X F2 O2 ho hM2))
              · skip
                exact G_forget 9 (act_wake C h g (by omega) hi (fun X F2 O2 ho hM2 => fin x n ⟨fun z => by omega, fun z => by omega⟩ X F2 O2 ho hM2))
            · skip
              exact G_forget 9 (act_sleep C h g (by omega) hi (fun X F2 O2 ho hM2 => fin x n ⟨fun z => by omega, fun z => by omega⟩ X F2 O2 ho hM2))
          · skip
            exact G_forget 9 (act_value C h g (by omega) hi (fun X F2 O2 ho hM2 => fin x n ⟨fun z => by omega, fun z => by omega⟩ X F2 O2 ho hM2))
        · skip
          exact G_forget 9 (act_link C h g (by omega) hi (fun X F2 O2 ho hM2 => fin x n ⟨fun z => by omega, fun z => by omega⟩ X F2 O2 ho hM2))
      · skip
        have hn4 : n < 5 := Nat.lt_of_not_le (fun z => c116 (nI_le (a := 5) z (by omega)))
        exact G_forget 9 (G_forget 10 (G_forget 11 (act_build C h g hn4 (fun X F2 O2 ho hM2 => fin x (n + 1) ⟨fun z => by omega, fun z => by omega⟩ X F2 O2 ho hM2))))
set_option maxRecDepth 100000 in
set_option maxHeartbeats 8000000 in
theorem law_loop (C : Cx E RL cL_law 15 p s m #[Value.ref b] meth c) (hX : va_X b L xs s s.heap) (hbl : b < s.heap.size) (hE : pb E = s.heap.size) (hL : L ≤ 260) (kx : ∀ (X : Mi) (F2 : Mr) (ls : List (Option Value)), ls.length = 15 → G E NT 15 p l e room_1 s m #[Value.ref b] below meth c 132 1330 Q X F2 798 ls []) (d : Nat) : ∀ (tu : Nat) (X : Mi) (F : Mr), tu + d = 36 → LI tu X F → G E NT 15 p l e room_1 s m #[Value.ref b] below meth c 132 1330 Q X F 44 [some (.ref b), some (rf E 0), some (rf E 127), some (rf E 128), some (rf E 129), some (rf E 130), some (rf E 131), some (.int (nI tu)), none, none, none, none, none, none, none] [] := by
  induction d with
  | zero =>
    intro tu X F ht hI
    obtain rfl : tu = 36 := by omega
    refine g_iload C dL_law_44 rfl ?_
    refine g_bipush C (v := 36) dL_law_46 (by decide) ?_
    exact g_icmp_ge C (tgt := 798) dL_law_48 (by decide) (fun _ => kx X F _ rfl) (fun c => absurd (show (36 : Int32) ≤ nI 36 by decide) c)
  | succ d ih =>
    intro tu X F ht hI
    exact law_turn C hX hbl hE hL (by omega) hI (fun X2 F2 hI2 => ih (tu + 1) X2 F2 (by omega) hI2)
end LT
