/-! the reference's reading of texts: at (10) and what was told (11 ..) of the cell 127 as one picture -/
def pM (I : Mi) (j : Nat) (u1 u2 u3 u4 u5 : Int32) : Mi := fun x y => if x = 127 then (if y = 10 then nI j else if y = 11 then u1 else if y = 12 then u2 else if y = 13 then u3 else if y = 14 then u4 else if y = 15 then u5 else I x y) else I x y
theorem pM_at (I : Mi) (j k : Nat) (u1 u2 u3 u4 u5 : Int32) : up (pM I j u1 u2 u3 u4 u5) 127 10 (nI k) = pM I k u1 u2 u3 u4 u5 := by
  funext x y; simp only [up, pM]; by_cases hx : x = 127 <;> by_cases hy : y = 10 <;> simp [hx, hy]
theorem pM_11 (I : Mi) (j : Nat) (u1 u2 u3 u4 u5 v : Int32) : up (pM I j u1 u2 u3 u4 u5) 127 11 v = pM I j v u2 u3 u4 u5 := by
  funext x y; simp only [up, pM]; by_cases hx : x = 127 <;> by_cases hy : y = 11 <;> simp [hx, hy]
theorem pM_12 (I : Mi) (j : Nat) (u1 u2 u3 u4 u5 v : Int32) : up (pM I j u1 u2 u3 u4 u5) 127 12 v = pM I j u1 v u3 u4 u5 := by
  funext x y; simp only [up, pM]; by_cases hx : x = 127 <;> by_cases hy : y = 12 <;> simp [hx, hy]
theorem pM_13 (I : Mi) (j : Nat) (u1 u2 u3 u4 u5 v : Int32) : up (pM I j u1 u2 u3 u4 u5) 127 13 v = pM I j u1 u2 v u4 u5 := by
  funext x y; simp only [up, pM]; by_cases hx : x = 127 <;> by_cases hy : y = 13 <;> simp [hx, hy]
theorem pM_14 (I : Mi) (j : Nat) (u1 u2 u3 u4 u5 v : Int32) : up (pM I j u1 u2 u3 u4 u5) 127 14 v = pM I j u1 u2 u3 v u5 := by
  funext x y; simp only [up, pM]; by_cases hx : x = 127 <;> by_cases hy : y = 14 <;> simp [hx, hy]
theorem pM_15 (I : Mi) (j : Nat) (u1 u2 u3 u4 u5 v : Int32) : up (pM I j u1 u2 u3 u4 u5) 127 15 v = pM I j u1 u2 u3 u4 v := by
  funext x y; simp only [up, pM]; by_cases hx : x = 127 <;> by_cases hy : y = 15 <;> simp [hx, hy]
theorem pM_self {I : Mi} {j : Nat} (h : I 127 10 = nI j) : pM I j (I 127 11) (I 127 12) (I 127 13) (I 127 14) (I 127 15) = I := by
  funext x y
  simp only [pM]
  by_cases hx : x = 127
  · subst hx
    rw [if_pos rfl]
    by_cases h10 : y = 10
    · subst h10; rw [if_pos rfl]; exact h.symm
    · rw [if_neg h10]
      by_cases h11 : y = 11
      · subst h11; rw [if_pos rfl]
      · rw [if_neg h11]
        by_cases h12 : y = 12
        · subst h12; rw [if_pos rfl]
        · rw [if_neg h12]
          by_cases h13 : y = 13
          · subst h13; rw [if_pos rfl]
          · rw [if_neg h13]
            by_cases h14 : y = 14
            · subst h14; rw [if_pos rfl]
            · rw [if_neg h14]
              by_cases h15 : y = 15
              · subst h15; rw [if_pos rfl]
              · rw [if_neg h15]
  · rw [if_neg hx]
/-- the character at a place; -1 behind the end -/
def chP (c : Nat → Int32) (L j : Nat) : Int32 := if j < L then c j else -1
/-- a digit of a range: it, and where one stands then -/
def tdP (c : Nat → Int32) (L : Nat) (lo9 hi : Int32) (j : Nat) : Int32 × Nat := if isW (chP c L j - 48) lo9 hi = true then (chP c L j - 48, j + 1) else (-1, j)
def tlP (c : Nat → Int32) (L j : Nat) : Int32 × Nat :=
  if (tdP c L 1 9 j).1 = 1 then (if 0 ≤ (tdP c L 0 9 (tdP c L 1 9 j).2).1 then (10 * (tdP c L 1 9 j).1 + (tdP c L 0 9 (tdP c L 1 9 j).2).1, (tdP c L 0 9 (tdP c L 1 9 j).2).2) else ((tdP c L 1 9 j).1, (tdP c L 0 9 (tdP c L 1 9 j).2).2))
  else if (tdP c L 1 9 j).1 = 2 then (if 0 ≤ (tdP c L 0 0 (tdP c L 1 9 j).2).1 then (10 * (tdP c L 1 9 j).1 + (tdP c L 0 0 (tdP c L 1 9 j).2).1, (tdP c L 0 0 (tdP c L 1 9 j).2).2) else ((tdP c L 1 9 j).1, (tdP c L 0 0 (tdP c L 1 9 j).2).2))
  else tdP c L 1 9 j

section JW
variable {E : EE} {N nL : Nat} {own : String} {cc : ByteArray} {p : Program} {l : Launch} {e : Env} {R : Room} {s : State} {m : MethodId} {args : Array Value} {below : List Frame} {meth : Method} {c : Code} {cells slots : Nat} {Q : State → Prop} {I : Mi} {F : Mr} {pc : Nat} {ls : List (Option Value)} {st : List Value}
theorem G_via (I2 : Mi) (F2 : Mr) (pc2 : Nat) (ls2 : List (Option Value)) (st2 : List Value) (A : G E N nL p l e R s m args below meth c cells slots Q I2 F2 pc2 ls2 st2) (B : G E N nL p l e R s m args below meth c cells slots Q I2 F2 pc2 ls2 st2 → G E N nL p l e R s m args below meth c cells slots Q I F pc ls st) : G E N nL p l e R s m args below meth c cells slots Q I F pc ls st := B A
theorem g_ifeq_b_j (C : Cx E own cc nL p s m args meth c) {b : Bool} {off off2 : Int} (d : decode cc pc = .ok (.ifCond .eq off, 3)) (d1 : decode cc (pc + 3) = .ok (.iconst 1, 1)) (d2 : decode cc (pc + 4) = .ok (.goto off2, 3)) (d3 : decode cc (pc + 7) = .ok (.iconst 0, 1)) (kk : G E N nL p l e R s m args below meth c cells slots Q I F (pc + 8) ls (.int (bi b) :: st)) (h1 : off = 7 := by decide) (h2 : off2 = 4 := by decide) : G E N nL p l e R s m args below meth c cells slots Q I F pc ls (.int (bi b) :: st) := by
  subst h1 h2
  refine g_ifeq_b C (tgt := pc + 7) d (by omega) (fun q => ?_) (fun q => ?_)
  · refine g_iconst C (v := 0) d3 (by decide) ?_
    exact G_cast kk rfl rfl rfl (by simp [q, bi])
  · refine g_iconst C (v := 1) d1 (by decide) ?_
    refine g_goto C (tgt := pc + 8) d2 (by omega) ?_
    exact G_cast kk rfl rfl rfl (by simp [q, bi])
theorem g_ifne_b_j (C : Cx E own cc nL p s m args meth c) {b : Bool} {off off2 : Int} (d : decode cc pc = .ok (.ifCond .ne off, 3)) (d1 : decode cc (pc + 3) = .ok (.iconst 1, 1)) (d2 : decode cc (pc + 4) = .ok (.goto off2, 3)) (d3 : decode cc (pc + 7) = .ok (.iconst 0, 1)) (kk : G E N nL p l e R s m args below meth c cells slots Q I F (pc + 8) ls (.int (bi (!b)) :: st)) (h1 : off = 7 := by decide) (h2 : off2 = 4 := by decide) : G E N nL p l e R s m args below meth c cells slots Q I F pc ls (.int (bi b) :: st) := by
  subst h1 h2
  refine g_ifne_b C (tgt := pc + 7) d (by omega) (fun q => ?_) (fun q => ?_)
  · refine g_iconst C (v := 0) d3 (by decide) ?_
    exact G_cast kk rfl rfl rfl (by simp [q, bi])
  · refine g_iconst C (v := 1) d1 (by decide) ?_
    refine g_goto C (tgt := pc + 8) d2 (by omega) ?_
    exact G_cast kk rfl rfl rfl (by simp [q, bi])
theorem g_if_lt_j (C : Cx E own cc nL p s m args meth c) {x : Int32} {off off2 : Int} (d : decode cc pc = .ok (.ifCond .lt off, 3)) (d1 : decode cc (pc + 3) = .ok (.iconst 1, 1)) (d2 : decode cc (pc + 4) = .ok (.goto off2, 3)) (d3 : decode cc (pc + 7) = .ok (.iconst 0, 1)) (kk : G E N nL p l e R s m args below meth c cells slots Q I F (pc + 8) ls (.int (bi (decide (¬ x < 0))) :: st)) (h1 : off = 7 := by decide) (h2 : off2 = 4 := by decide) : G E N nL p l e R s m args below meth c cells slots Q I F pc ls (.int x :: st) := by
  subst h1 h2
  refine g_if_lt C (tgt := pc + 7) d (by omega) (fun q => ?_) (fun q => ?_)
  · refine g_iconst C (v := 0) d3 (by decide) ?_
    exact G_cast kk rfl rfl rfl (by simp [q, bi])
  · refine g_iconst C (v := 1) d1 (by decide) ?_
    refine g_goto C (tgt := pc + 8) d2 (by omega) ?_
    exact G_cast kk rfl rfl rfl (by simp [q, bi])
theorem g_icmp_eq_j (C : Cx E own cc nL p s m args meth c) {x y : Int32} {off off2 : Int} (d : decode cc pc = .ok (.if_icmp .eq off, 3)) (d1 : decode cc (pc + 3) = .ok (.iconst 1, 1)) (d2 : decode cc (pc + 4) = .ok (.goto off2, 3)) (d3 : decode cc (pc + 7) = .ok (.iconst 0, 1)) (kk : G E N nL p l e R s m args below meth c cells slots Q I F (pc + 8) ls (.int (bi (decide (¬ x = y))) :: st)) (h1 : off = 7 := by decide) (h2 : off2 = 4 := by decide) : G E N nL p l e R s m args below meth c cells slots Q I F pc ls (.int y :: .int x :: st) := by
  subst h1 h2
  refine g_icmp_eq C (tgt := pc + 7) d (by omega) (fun q => ?_) (fun q => ?_)
  · refine g_iconst C (v := 0) d3 (by decide) ?_
    exact G_cast kk rfl rfl rfl (by simp [q, bi])
  · refine g_iconst C (v := 1) d1 (by decide) ?_
    refine g_goto C (tgt := pc + 8) d2 (by omega) ?_
    exact G_cast kk rfl rfl rfl (by simp [q, bi])
theorem g_icmp_ne_j (C : Cx E own cc nL p s m args meth c) {x y : Int32} {off off2 : Int} (d : decode cc pc = .ok (.if_icmp .ne off, 3)) (d1 : decode cc (pc + 3) = .ok (.iconst 1, 1)) (d2 : decode cc (pc + 4) = .ok (.goto off2, 3)) (d3 : decode cc (pc + 7) = .ok (.iconst 0, 1)) (kk : G E N nL p l e R s m args below meth c cells slots Q I F (pc + 8) ls (.int (bi (decide (x = y))) :: st)) (h1 : off = 7 := by decide) (h2 : off2 = 4 := by decide) : G E N nL p l e R s m args below meth c cells slots Q I F pc ls (.int y :: .int x :: st) := by
  subst h1 h2
  refine g_icmp_ne C (tgt := pc + 7) d (by omega) (fun q => ?_) (fun q => ?_)
  · refine g_iconst C (v := 0) d3 (by decide) ?_
    exact G_cast kk rfl rfl rfl (by simp [q, bi])
  · refine g_iconst C (v := 1) d1 (by decide) ?_
    refine g_goto C (tgt := pc + 8) d2 (by omega) ?_
    exact G_cast kk rfl rfl rfl (by simp [q, bi])
end JW
set_option maxRecDepth 100000 in
set_option maxHeartbeats 800000 in
theorem tX5_character {l : Launch} {E : EE} {I : Mi} {F : Mr} (hl : LY F) {L : Nat} (hL64 : L ≤ 64) (hL : I 127 7 = nI L) {j : Nat} {u1 u2 u3 u4 u5 : Int32} {k : Nat} (hk : k < 2147483648)  : CtF l E mX5_character [rf E 127, .int (nI k)] NT (pM I j u1 u2 u3 u4 u5) F NT (some (.int (chP (I 133) L k))) (pM I j u1 u2 u3 u4 u5) F := by
  have e7 : (pM I j u1 u2 u3 u4 u5) 127 7 = nI L := hL
  refine CtF_of [some (rf E 127), some (.int (nI k))] (by decide) rfl (Nat.le_of_ble_eq_true rfl) rfl (fun p e s m args below meth c C hr hname => ?_)
  refine g_iload_n C dX5_character_0 rfl rfl ?_
  refine g_aload_n C dX5_character_1 rfl rfl ?_
  refine gfX5_117 C (by decide) dX5_character_2 ?_
  rw [e7]
  refine g_icmp_ge C (tgt := 17) dX5_character_5 (by decide) (fun c5 => ?_) (fun c5 => ?_)
  · skip
    have hk9 : ¬ k < L := fun q => nI_ge q (by omega) c5
    refine g_iconst C (v := (-1)) dX5_character_17 (by decide) ?_
    exact g_iret C hr dX5_character_18 ⟨by unfold chP; first | (rw [if_pos hk9]; try rfl) | (rw [if_neg hk9]; try rfl), rfl, rfl⟩
  · skip
    have hk9 : k < L := by rcases Nat.lt_or_ge k L with q | q; exact q; exact absurd (nI_le q (by omega)) c5
    refine g_aload_n C dX5_character_8 rfl rfl ?_
    refine gfX5_25 C (by decide) hl.mpad dX5_character_9 ?_
    refine g_iload_n C dX5_character_12 rfl rfl ?_
    refine g_iald_j C (show ar NT 133 7 64 by decide) k rfl (by omega) (by decide) dX5_character_13 ?_
    refine g_goto C (tgt := 18) dX5_character_14 (by decide) ?_
    exact g_iret C hr dX5_character_18 ⟨by unfold chP; first | (rw [if_pos hk9]; try rfl) | (rw [if_neg hk9]; try rfl), rfl, rfl⟩

/-- where one stands behind 'is it next' -/
def nx (c : Nat → Int32) (L j : Nat) (x : Int32) : Nat := if decide (chP c L j = x) = true then j + 1 else j
theorem nx_e (c : Nat → Int32) (L j : Nat) (x : Int32) : nI j + bi (decide (chP c L j = x)) = nI (nx c L j x) := by
  unfold nx
  by_cases h : chP c L j = x
  · simp only [h, decide_true, bi, if_true]; exact nI_1 j
  · simp [h, bi]
theorem pM_r10 (I : Mi) (j : Nat) (u1 u2 u3 u4 u5 : Int32) : pM I j u1 u2 u3 u4 u5 127 10 = nI j := rfl
theorem pM_r11 (I : Mi) (j : Nat) (u1 u2 u3 u4 u5 : Int32) : pM I j u1 u2 u3 u4 u5 127 11 = u1 := rfl
theorem pM_r12 (I : Mi) (j : Nat) (u1 u2 u3 u4 u5 : Int32) : pM I j u1 u2 u3 u4 u5 127 12 = u2 := rfl
theorem pM_r13 (I : Mi) (j : Nat) (u1 u2 u3 u4 u5 : Int32) : pM I j u1 u2 u3 u4 u5 127 13 = u3 := rfl
theorem pM_r14 (I : Mi) (j : Nat) (u1 u2 u3 u4 u5 : Int32) : pM I j u1 u2 u3 u4 u5 127 14 = u4 := rfl
theorem pM_r15 (I : Mi) (j : Nat) (u1 u2 u3 u4 u5 : Int32) : pM I j u1 u2 u3 u4 u5 127 15 = u5 := rfl
theorem pM_r7 (I : Mi) (j : Nat) (u1 u2 u3 u4 u5 : Int32) : pM I j u1 u2 u3 u4 u5 127 7 = I 127 7 := rfl

set_option maxRecDepth 100000 in
set_option maxHeartbeats 800000 in
theorem tX5_isNext {l : Launch} {E : EE} {I : Mi} {F : Mr} (hl : LY F) {L : Nat} (hL64 : L ≤ 64) (hL : I 127 7 = nI L) {j : Nat} {u1 u2 u3 u4 u5 : Int32} (hj : j < 1000) (x : Int32)  : CtF l E mX5_isNext [rf E 127, .int x] NT (pM I j u1 u2 u3 u4 u5) F NT (some (.int (bi (decide (chP (I 133) L j = x))))) (pM I (nx (I 133) L j x) u1 u2 u3 u4 u5) F := by
  refine CtF_of [some (rf E 127), some (.int x), none] (by decide) rfl (Nat.le_of_ble_eq_true rfl) rfl (fun p e s m args below meth c C hr hname => ?_)
  refine g_aload_n C dX5_isNext_0 rfl rfl ?_
  refine g_aload_n C dX5_isNext_1 rfl rfl ?_
  refine gfX5_114 C (by decide) dX5_isNext_2 ?_
  rw [show (pM I j u1 u2 u3 u4 u5) 127 10 = nI j from rfl]
  refine kX5_171 C (by decide) (tX5_character hl hL64 hL (k := j) (by omega)) ⟨⟨Nat.le_of_ble_eq_true rfl, Nat.le_of_ble_eq_true rfl⟩, Nat.le_of_ble_eq_true rfl, Nat.le_of_ble_eq_true rfl⟩ (Nat.le_of_ble_eq_true rfl) dX5_isNext_5 ?_
  refine g_iload_n C dX5_isNext_8 rfl rfl ?_
  refine g_icmp_ne_j C (off := 7) (off2 := 4) dX5_isNext_9 dX5_isNext_12 dX5_isNext_13 dX5_isNext_16 ?_
  refine g_istore_n C dX5_isNext_17 rfl (by decide) rfl ?_
  refine g_aload_n C dX5_isNext_18 rfl rfl ?_
  refine g_dup C dX5_isNext_19 rfl ?_
  refine gfX5_114 C (by decide) dX5_isNext_20 ?_
  rw [show (pM I j u1 u2 u3 u4 u5) 127 10 = nI j from rfl]
  refine g_iload_n C dX5_isNext_23 rfl rfl ?_
  refine g_ifeq_b_j C (off := 7) (off2 := 4) dX5_isNext_24 dX5_isNext_27 dX5_isNext_28 dX5_isNext_31 ?_
  refine g_iadd C dX5_isNext_32 ?_
  refine pfX5_114 C (by decide) dX5_isNext_33 ?_
  rw [nx_e, pM_at]
  refine g_iload_n C dX5_isNext_36 rfl rfl ?_
  exact g_zret_b C hr dX5_isNext_37 ⟨rfl, rfl, rfl⟩

set_option maxRecDepth 100000 in
set_option maxHeartbeats 800000 in
theorem tX5_takeDigit {l : Launch} {E : EE} {I : Mi} {F : Mr} (hl : LY F) {L : Nat} (hL64 : L ≤ 64) (hL : I 127 7 = nI L) {j : Nat} {u1 u2 u3 u4 u5 : Int32} (hj : j < 1000) (lo9 hi : Int32)  : CtF l E mX5_takeDigit [rf E 127, .int lo9, .int hi] NT (pM I j u1 u2 u3 u4 u5) F NT (some (.int (tdP (I 133) L lo9 hi j).1)) (pM I (tdP (I 133) L lo9 hi j).2 u1 u2 u3 u4 u5) F := by
  refine CtF_of [some (rf E 127), some (.int lo9), some (.int hi), none] (by decide) rfl (Nat.le_of_ble_eq_true rfl) rfl (fun p e s m args below meth c C hr hname => ?_)
  refine g_aload_n C dX5_takeDigit_0 rfl rfl ?_
  refine g_aload_n C dX5_takeDigit_1 rfl rfl ?_
  refine gfX5_114 C (by decide) dX5_takeDigit_2 ?_
  rw [show (pM I j u1 u2 u3 u4 u5) 127 10 = nI j from rfl]
  refine kX5_171 C (by decide) (tX5_character hl hL64 hL (k := j) (by omega)) ⟨⟨Nat.le_of_ble_eq_true rfl, Nat.le_of_ble_eq_true rfl⟩, Nat.le_of_ble_eq_true rfl, Nat.le_of_ble_eq_true rfl⟩ (Nat.le_of_ble_eq_true rfl) dX5_takeDigit_5 ?_
  refine g_bipush C (v := 48) dX5_takeDigit_8 (by decide) ?_
  refine g_isub C dX5_takeDigit_10 ?_
  refine g_istore_n C dX5_takeDigit_11 rfl (by decide) rfl ?_
  refine g_iload_n C dX5_takeDigit_12 rfl rfl ?_
  refine g_iload_n C dX5_takeDigit_13 rfl rfl ?_
  refine g_iload_n C dX5_takeDigit_14 rfl rfl ?_
  refine kX5_42 C (by decide) (tX5_within _ _ _) ⟨⟨Nat.le_of_ble_eq_true rfl, Nat.le_of_ble_eq_true rfl⟩, Nat.le_of_ble_eq_true rfl, Nat.le_of_ble_eq_true rfl⟩ (Nat.le_of_ble_eq_true rfl) dX5_takeDigit_15 ?_
  refine g_ifne_b C (tgt := 23) dX5_takeDigit_18 (by decide) (fun c18 => ?_) (fun c18 => ?_)
  · skip
    refine g_aload_n C dX5_takeDigit_23 rfl rfl ?_
    refine g_dup C dX5_takeDigit_24 rfl ?_
    refine gfX5_114 C (by decide) dX5_takeDigit_25 ?_
    rw [show (pM I j u1 u2 u3 u4 u5) 127 10 = nI j from rfl]
    refine g_iconst C (v := 1) dX5_takeDigit_28 (by decide) ?_
    refine g_iadd C dX5_takeDigit_29 ?_
    refine pfX5_114 C (by decide) dX5_takeDigit_30 ?_
    refine g_iload_n C dX5_takeDigit_33 rfl rfl ?_
    exact g_iret C hr dX5_takeDigit_34 ⟨by unfold tdP; (try first | rw [if_pos c18] | rw [if_neg c18] | rw [if_neg (show ¬ _ = true by rw [c18]; decide)]); try rfl, by unfold tdP; (try first | rw [if_pos c18] | rw [if_neg c18] | rw [if_neg (show ¬ _ = true by rw [c18]; decide)]); try first | rfl | (rw [show nI j + 1 = nI (j + 1) from nI_1 j, pM_at]), rfl⟩
  · skip
    refine g_iconst C (v := (-1)) dX5_takeDigit_21 (by decide) ?_
    exact g_iret C hr dX5_takeDigit_22 ⟨by unfold tdP; (try first | rw [if_pos c18] | rw [if_neg c18] | rw [if_neg (show ¬ _ = true by rw [c18]; decide)]); try rfl, by unfold tdP; (try first | rw [if_pos c18] | rw [if_neg c18] | rw [if_neg (show ¬ _ = true by rw [c18]; decide)]); try first | rfl | (rw [show nI j + 1 = nI (j + 1) from nI_1 j, pM_at]), rfl⟩

