/-! how many ticks till all are awake -/
theorem cpyL_at (I : Mi) : (∀ k, k < 8 → cpyL I 129 k = I 127 k) ∧ (∀ k, k < 60 → cpyL I 130 k = I 128 k) ∧ ∀ x, x ≠ 129 → x ≠ 130 → cpyL I x = I x := by
  have h1 : ∀ n, (∀ k, k < n → lp (fun k J => up J 129 k (J 127 k)) n I 129 k = I 127 k) ∧ ∀ x, x ≠ 129 → lp (fun k J => up J 129 k (J 127 k)) n I x = I x := fun n =>
    lp_ind (fun n (J : Mi) => (∀ k, k < n → J 129 k = I 127 k) ∧ ∀ x, x ≠ 129 → J x = I x) ⟨fun k h => absurd h (Nat.not_lt_zero k), fun _ _ => rfl⟩ (fun i J hi h => ⟨fun k hk => by
      show up J 129 i (J 127 i) 129 k = _
      by_cases e : k = i
      · subst e; rw [show ∀ v, up J 129 k v 129 k = v from fun v => by simp [up], h.2 127 (by decide)]
      · rw [show ∀ v, up J 129 i v 129 k = J 129 k from fun v => by simp [up, e]]; exact h.1 k (by omega), fun x hx => (up_ne hx).trans (h.2 x hx)⟩)
  have h2 : ∀ (J : Mi) n, (∀ k, k < n → lp (fun k J => up J 130 k (J 128 k)) n J 130 k = J 128 k) ∧ ∀ x, x ≠ 130 → lp (fun k J => up J 130 k (J 128 k)) n J x = J x := fun I n =>
    lp_ind (fun n (J : Mi) => (∀ k, k < n → J 130 k = I 128 k) ∧ ∀ x, x ≠ 130 → J x = I x) ⟨fun k h => absurd h (Nat.not_lt_zero k), fun _ _ => rfl⟩ (fun i J hi h => ⟨fun k hk => by
      show up J 130 i (J 128 i) 130 k = _
      by_cases e : k = i
      · subst e; rw [show ∀ v, up J 130 k v 130 k = v from fun v => by simp [up], h.2 128 (by decide)]
      · rw [show ∀ v, up J 130 i v 130 k = J 130 k from fun v => by simp [up, e]]; exact h.1 k (by omega), fun x hx => (up_ne hx).trans (h.2 x hx)⟩)
  unfold cpyL
  refine ⟨fun k hk => ?_, fun k hk => ?_, fun x h3 h4 => ?_⟩
  · rw [(h2 _ 60).2 129 (by decide)]; exact (h1 8).1 k hk
  · rw [(h2 _ 60).1 k hk, (h1 8).2 128 (by decide)]
  · rw [(h2 _ 60).2 x h4, (h1 8).2 x h3]
theorem LB9 : LB 129 := Or.inr rfl
theorem LB7 : LB 127 := Or.inl rfl
theorem setL_un (I : Mi) (b n : Nat) (x : Int32) : setL I b n x = un (fun k => decide (sL I b k 7 = x)) n := lp_congr (fun i hi s => by
  by_cases h : sL I b i 7 = x
  · simp [h]
  · simp [h]) 0
theorem setL_lt (I : Mi) (b : Nat) {n : Nat} (hn5 : n ≤ 5) (x : Int32) : ∃ v, v < 32 ∧ setL I b n x = nI v := by
  rw [setL_un]
  obtain ⟨v, h1, h2⟩ := un_lt (fun k => decide (sL I b k 7 = x)) n (by omega)
  refine ⟨v, Nat.lt_of_lt_of_le h1 ?_, h2⟩
  rcases (show n = 0 ∨ n = 1 ∨ n = 2 ∨ n = 3 ∨ n = 4 ∨ n = 5 by omega) with rfl | rfl | rfl | rfl | rfl | rfl <;> decide
def osB (k : Nat) (J : Mi) : Mi := if sL J 129 k 7 = 2 then ordL J 129 k else J
def awS (I : Mi) (cur : Int32) : Mi := up (cpyL I) 129 0 cur
def aw1L (I : Mi) (cur : Int32) (n : Nat) : Mi := lp osB n (awS I cur)
def awL (n : Nat) : Nat → Nat → Mi → Nat × Mi
  | 0, t, J => (t, J)
  | k + 1, t, J => if nI n ≤ bitR 6 (setL J 129 n 0) 0 then (t, J) else awL n k (t + 1) (tkL J 129 n)
def AWO (n k : Nat) (J : Mi) : Prop := ∀ j, j ≤ k → TKO (psL J 129 n j) 129 n
def awA (n : Nat) (p : Nat × Mi) : Int32 := if p.1 < 201 then nI p.1 else -6
theorem psL_1 (J : Mi) (b n : Nat) : ∀ j, psL (tkL J b n) b n j = psL J b n (j + 1)
  | 0 => rfl
  | j + 1 => by
    show tkL (psL (tkL J b n) b n j) b n = tkL (psL J b n (j + 1)) b n
    rw [psL_1 J b n j]
section AW
variable {E : EE} {p : Program} {l : Launch} {e : Env} {s : State} {m : MethodId} {args : Array Value} {below : List Frame} {meth : Method} {c : Code}
set_option maxRecDepth 100000 in
set_option maxHeartbeats 4000000 in
theorem awake_loop {I2 : Mi} {F : Mr} {n : Nat} {r cur : Int32} (hn5 : n ≤ 5) (C : Cx E mL_awake.1.cls mL_awake.2.1 mL_awake.2.2.1 p s m args meth c) (hr : meth.sig.returnType = mL_awake.2.2.2.1) : ∀ (k t : Nat) (J : Mi), t + k = 201 → AWO n k J → r = awA n (awL n k t J) → I2 = (awL n k t J).2 → G E NT mL_awake.2.2.1 p l e mL_awake.2.2.2.2 s m args below meth c 0 0 (MQ below (QC E NT (fun r9 I9 F9 => r9 = some (.int r) ∧ I9 = I2 ∧ F9 = F)) args s mL_awake.2.2.2.2.cells mL_awake.2.2.2.2.slots (fun q => pb E ≤ q)) J F 55 [some (.int cur), some (rf E 127), some (rf E 128), some (rf E 129), some (rf E 130), some (rf E 131), some (.int (nI t))] [] := by
  intro k
  induction k with
  | zero =>
    intro t J ht hA hR hI
    obtain rfl : t = 201 := by omega
    have hR : r = -6 := hR
    have hI : I2 = J := hI
    refine g_iload C dL_awake_55 rfl ?_
    refine g_sipush C (v := 201) dL_awake_57 (by decide) ?_
    refine g_icmp_ge C (tgt := 93) dL_awake_60 (by decide) (fun _ => ?_) (fun c60 => absurd (show (201 : Int32) ≤ nI 201 by decide) c60)
    refine g_iload C dL_awake_93 rfl ?_
    refine g_sipush C (v := 201) dL_awake_95 (by decide) ?_
    refine g_icmp_ge C (tgt := 106) dL_awake_98 (by decide) (fun _ => ?_) (fun c98 => absurd (show (201 : Int32) ≤ nI 201 by decide) c98)
    refine g_bipush C (v := (-6)) dL_awake_106 (by decide) ?_
    exact g_iret C hr dL_awake_108 ⟨by rw [hR], hI.symm, rfl⟩
  | succ k ih =>
    intro t J ht hA hR hI
    have hT : TKO J 129 n := hA 0 (by omega)
    have hJ : J 129 2 = nI n := hT.1
    obtain ⟨v, hv, ev⟩ := setL_lt J 129 hn5 0
    refine g_iload C dL_awake_55 rfl ?_
    refine g_sipush C (v := 201) dL_awake_57 (by decide) ?_
    refine g_icmp_ge C (tgt := 93) dL_awake_60 (by decide) (fun c60 => absurd c60 (nI_ge (a := t) (b := 201) (by omega) (by decide))) (fun _ => ?_)
    refine g_iconst C (v := 0) dL_awake_63 (by decide) ?_
    refine g_aload_n C dL_awake_64 rfl rfl ?_
    refine g_aload C dL_awake_65 rfl ?_
    refine kL_16 C (by decide) (tL_set LB9 hn5 hJ 0) ⟨⟨Nat.le_of_ble_eq_true rfl, Nat.le_of_ble_eq_true rfl⟩, Nat.le_of_ble_eq_true rfl, Nat.le_of_ble_eq_true rfl⟩ (Nat.le_of_ble_eq_true rfl) dL_awake_67 ?_
    refine kL_47 C (by decide) (tL_bits hv ev) ⟨⟨Nat.le_of_ble_eq_true rfl, Nat.le_of_ble_eq_true rfl⟩, Nat.le_of_ble_eq_true rfl, Nat.le_of_ble_eq_true rfl⟩ (Nat.le_of_ble_eq_true rfl) dL_awake_70 ?_
    refine g_aload_n C dL_awake_73 rfl rfl ?_
    refine g_iconst C (v := 2) dL_awake_74 (by decide) ?_
    refine g_iald_j C (show ar NT 129 7 8 by decide) 2 rfl (by decide) (by decide) dL_awake_75 ?_
    rw [hJ]
    refine g_icmp_ge C (tgt := 93) dL_awake_76 (by decide) (fun c76 => ?_) (fun c76 => ?_)
    · skip
      refine g_iload C dL_awake_93 rfl ?_
      refine g_sipush C (v := 201) dL_awake_95 (by decide) ?_
      refine g_icmp_ge C (tgt := 106) dL_awake_98 (by decide) (fun c98 => absurd c98 (nI_ge (a := t) (b := 201) (by omega) (by decide))) (fun _ => ?_)
      refine g_iload C dL_awake_101 rfl ?_
      refine g_goto C (tgt := 108) dL_awake_103 (by decide) ?_
      exact g_iret C hr dL_awake_108 ⟨by rw [hR, awL, if_pos c76]; show some (Value.int (nI t)) = some (Value.int (if t < 201 then nI t else -6)); rw [if_pos (by omega)], by rw [hI, awL, if_pos c76], rfl⟩
    · skip
      refine g_aload_n C dL_awake_79 rfl rfl ?_
      refine g_aload C dL_awake_80 rfl ?_
      refine g_aload C dL_awake_82 rfl ?_
      refine kL_54 C (by decide) (tL_tick LB9 hn5 hT) ⟨⟨Nat.le_of_ble_eq_true rfl, Nat.le_of_ble_eq_true rfl⟩, Nat.le_of_ble_eq_true rfl, Nat.le_of_ble_eq_true rfl⟩ (Nat.le_of_ble_eq_true rfl) dL_awake_84 ?_
      refine g_iinc C dL_awake_87 rfl (nI_inc _) (by decide) rfl ?_
      refine g_goto C (tgt := 55) dL_awake_90 (by decide) ?_
      exact ih (t + 1) (tkL J 129 n) (by omega) (fun j hj => by rw [psL_1]; exact hA (j + 1) (by omega)) (by rw [hR, awL, if_neg c76]) (by rw [hI, awL, if_neg c76])
end AW
set_option maxRecDepth 100000 in
set_option maxHeartbeats 4000000 in
theorem tL_awake {l : Launch} {E : EE} {I : Mi} {F : Mr} {n : Nat} (hn5 : n ≤ 5) (hn : I 127 2 = nI n) (cur : Int32) (hA : AWO n 201 (aw1L I cur n))  : CtF l E mL_awake [.int cur, rf E 127, rf E 128, rf E 129, rf E 130, rf E 131] NT I F NT (some (.int (awA n (awL n 201 0 (aw1L I cur n))))) ((awL n 201 0 (aw1L I cur n)).2) F := by
  have hn2 : ∀ i, lp osB i (awS I cur) 129 2 = nI n := fun i => (lp_keep (fun J : Mi => J 129 2) (fun k J => by show osB k J 129 2 = J 129 2; unfold osB; split; exact ordL_b2 J 129 k; rfl) i _).trans (by show up (cpyL I) 129 0 cur 129 2 = _; rw [up_b2 _ _ _ _ _ (by omega), (cpyL_at I).1 2 (by omega)]; exact hn)
  refine CtF_of [some (.int cur), some (rf E 127), some (rf E 128), some (rf E 129), some (rf E 130), some (rf E 131), none] (by decide) rfl (Nat.le_of_ble_eq_true rfl) rfl (fun p e s m args below meth c C hr hname => ?_)
  refine g_aload_n C dL_awake_0 rfl rfl ?_
  refine g_aload_n C dL_awake_1 rfl rfl ?_
  refine g_aload_n C dL_awake_2 rfl rfl ?_
  refine g_aload C dL_awake_3 rfl ?_
  refine kL_50 C (by decide) tL_copy ⟨⟨Nat.le_of_ble_eq_true rfl, Nat.le_of_ble_eq_true rfl⟩, Nat.le_of_ble_eq_true rfl, Nat.le_of_ble_eq_true rfl⟩ (Nat.le_of_ble_eq_true rfl) dL_awake_5 ?_
  refine g_aload_n C dL_awake_8 rfl rfl ?_
  refine g_iconst C (v := 0) dL_awake_9 (by decide) ?_
  refine g_iload_n C dL_awake_10 rfl rfl ?_
  refine g_iast_j C (show ar NT 129 7 8 by decide) 0 rfl (by decide) (by decide) dL_awake_11 ?_
  refine g_iconst C (v := 0) dL_awake_12 (by decide) ?_
  refine g_istore C dL_awake_13 (by decide) rfl ?_
  refine G_loop (n := n) (fun i => [some (.int cur), some (rf E 127), some (rf E 128), some (rf E 129), some (rf E 130), some (rf E 131), some (.int (nI i))]) (fun i => lp osB i (awS I cur)) (fun _ => F) rfl rfl rfl ?_ ?_
  · intro i15 hi15 ih15
    refine g_iload C dL_awake_15 rfl ?_
    refine g_aload_n C dL_awake_17 rfl rfl ?_
    refine g_iconst C (v := 2) dL_awake_18 (by decide) ?_
    refine g_iald_j C (show ar NT 129 7 8 by decide) 2 rfl (by decide) (by decide) dL_awake_19 ?_
    refine g_icmp_ge C (tgt := 52) dL_awake_20 (by decide) (fun c20 => absurd c20 (nI_nge (hn2 i15) hi15 (by omega))) (fun _ => ?_)
    refine g_aload C dL_awake_23 rfl ?_
    refine g_bipush C (v := 12) dL_awake_25 (by decide) ?_
    refine g_iload C dL_awake_27 rfl ?_
    refine g_imul C dL_awake_29 ?_
    refine g_bipush C (v := 7) dL_awake_30 (by decide) ?_
    refine g_iadd C dL_awake_32 ?_
    refine g_iald_j C (show ar NT 130 7 60 by decide) (12 * i15 + 7) (e_ix i15 7 rfl) (by omega) (by decide) dL_awake_33 ?_
    refine g_iconst C (v := 2) dL_awake_34 (by decide) ?_
    refine g_icmp_ne C (tgt := 46) dL_awake_35 (by decide) (fun c35 => ?_) (fun c35 => ?_)
    · skip
      refine g_iinc C dL_awake_46 rfl (nI_inc _) (by decide) rfl ?_
      refine g_goto C (tgt := 15) dL_awake_49 (by decide) ?_
      exact G_cast ih15 (by show _ = osB i15 _; first | (rw [osB, if_pos c35]; done) | (rw [osB, if_neg c35]; done)) rfl rfl rfl
    · skip
      refine g_iload C dL_awake_38 rfl ?_
      refine g_aload_n C dL_awake_40 rfl rfl ?_
      refine g_aload C dL_awake_41 rfl ?_
      refine kL_23 C (by decide) (tL_order LB9 (u := i15) (by omega)) ⟨⟨Nat.le_of_ble_eq_true rfl, Nat.le_of_ble_eq_true rfl⟩, Nat.le_of_ble_eq_true rfl, Nat.le_of_ble_eq_true rfl⟩ (Nat.le_of_ble_eq_true rfl) dL_awake_43 ?_
      refine g_iinc C dL_awake_46 rfl (nI_inc _) (by decide) rfl ?_
      refine g_goto C (tgt := 15) dL_awake_49 (by decide) ?_
      exact G_cast ih15 (by show _ = osB i15 _; first | (rw [osB, if_pos c35]; done) | (rw [osB, if_neg c35]; done)) rfl rfl rfl
  · skip
    refine g_iload C dL_awake_15 rfl ?_
    refine g_aload_n C dL_awake_17 rfl rfl ?_
    refine g_iconst C (v := 2) dL_awake_18 (by decide) ?_
    refine g_iald_j C (show ar NT 129 7 8 by decide) 2 rfl (by decide) (by decide) dL_awake_19 ?_
    refine g_icmp_ge C (tgt := 52) dL_awake_20 (by decide) (fun _ => ?_) (fun c20 => absurd (nI_lee (hn2 n)) c20)
    refine g_iconst C (v := 0) dL_awake_52 (by decide) ?_
    refine g_istore C dL_awake_53 (by decide) rfl ?_
    exact awake_loop hn5 C hr 201 0 (aw1L I cur n) rfl hA rfl rfl

