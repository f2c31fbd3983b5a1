/-! the reference: its state is the row 128: part p of island i at 16 + 10 i + p -/
abbrev pt (I : Mi) (i p : Nat) : Int32 := I 128 (16 + 10 * i + p)
abbrev sp (I : Mi) (i p : Nat) (v : Int32) : Mi := up I 128 (16 + 10 * i + p) v
theorem up_j {I : Mi} {k j y : Nat} {v : Int32} (h : y ≠ j) : up I k j v k y = I k y := by simp [up, h]
theorem sp_lo {I : Mi} {i p : Nat} {v : Int32} {x : Nat} (h : x < 16) : sp I i p v 128 x = I 128 x := by simp only [sp, up]; rw [if_neg (by omega)]
theorem pt_ix (i p : Nat) {y : Int32} (hy : y = nI p) : (16 : Int32) + 10 * nI i + y = nI (16 + 10 * i + p) := by
  subst hy
  show nI 16 + nI 10 * nI i + nI p = _
  rw [pk_mul, nI_add, nI_add]
theorem or_ix (k : Nat) : (8 : Int32) + nI k = nI (8 + k) := by
  show nI 8 + nI k = _
  rw [nI_add]
def mvM (x f y t : Nat) (I : Mi) : Mi := lp (fun k J => up J y (t + k) (J x (f + k))) 96 I
def rdM (I : Mi) (i : Nat) (x : Int32) : Bool := decide (((pt I i 6 >>> (x &&& 31)) &&& 1) = 1)
def sureM (I : Mi) (i : Nat) : Bool := decide (pt I i 7 = 0) || decide (pt I i 7 = 1)
def tellM (I : Mi) (i : Nat) : Int32 := if sureM I i = true then pt I i 4 else if pt I i 0 = 1 then 0 else 255
def setM (I : Mi) (n : Nat) (x : Int32) : Int32 := lp (fun i acc => acc ||| (if decide (pt I i 7 = x) = true then sh1 i else 0)) n 0
def rdsM (I : Mi) (n : Nat) (x : Int32) : Int32 := lp (fun i acc => acc ||| (if rdM I i x = true then sh1 i else 0)) n 0
def bitM (v : Int32) : Int32 := lp (fun k acc => acc + ((v >>> (nI k &&& 31)) &&& 1)) 8 0
def rlM (I : Mi) (n : Nat) : Int32 := lp (fun i acc => acc + (if decide (pt I i 7 = 4) = true then pt I i 3 else 0)) n 0
def plM (I : Mi) (w : Nat) (x : Int32) : Int32 := lp (fun k acc => if I 128 (8 + k) = x then nI k else acc) w (-6)
def wtM (I : Mi) (i w : Nat) : Mi := up (up (sp I i 7 3) 128 (8 + w) (nI i)) 128 7 (nI (w + 1))
def sumM (I : Mi) (n : Nat) : Int32 := lp (fun i acc => acc + pt I i 4) n 0
def nv1 (i : Nat) (J : Mi) : Mi :=
  let J1 := up J 134 i (tellM J i)
  up J1 135 i (if sureM J1 i = true then 0 else if pt J1 i 0 = 0 then 1 else 0)
def nvB (i k : Nat) (p : Mi × Int32) : Mi × Int32 := if rdM p.1 i (nI k) = true then
    (let J1 := up p.1 128 4 (p.1 128 4 + p.1 135 k)
     sp J1 i 9 (pt J1 i 9 + J1 135 k), p.2 + p.1 134 k)
  else p
def nvI (i k : Nat) (J : Mi) : Mi × Int32 := lp (nvB i) k (J, pt J i 4)
theorem nvI_s (i k : Nat) (J : Mi) : nvI i (k + 1) J = nvB i k (nvI i k J) := rfl
def md256 (x : Int32) : Int32 := x - (x / 256) * 256
def nv2 (n i : Nat) (J : Mi) : Mi := if decide (pt J i 7 = 0) = true then sp (nvI i n J).1 i 4 (md256 (nvI i n J).2) else sp J i 4 (md256 (pt J i 4))
def nvM1 (I : Mi) (n : Nat) : Mi := lp nv1 n I
def nvM (I : Mi) (n : Nat) : Mi := lp (nv2 n) n (nvM1 I n)
def fa1 (i : Nat) (I : Mi) : Mi := if decide (pt I i 7 = 1) = true then (if pt I i 1 = 1 then
      sp (up (sp (sp I i 7 2) i 5 (pt (sp I i 7 2) i 4)) 128 5 (sp (sp I i 7 2) i 5 (pt (sp I i 7 2) i 4) 128 5 + 0)) i 4 0
    else sp (up (sp (sp I i 7 2) i 5 (pt (sp I i 7 2) i 5)) 128 5 (sp (sp I i 7 2) i 5 (pt (sp I i 7 2) i 5) 128 5 + (if pt (sp (sp I i 7 2) i 5 (pt (sp I i 7 2) i 5)) i 4 ≤ 0 then 0 else 1))) i 4 0)
  else I
def faM (I : Mi) (n : Nat) : Mi := lp fa1 n I
def ri1 (i : Nat) (I : Mi) : Mi := if decide (pt I i 7 = 4) = true then (if pt (sp I i 8 (pt I i 8 - 1)) i 8 = 0 then
      sp (sp (sp I i 8 (pt I i 8 - 1)) i 7 0) i 4 (if pt (sp (sp I i 8 (pt I i 8 - 1)) i 7 0) i 1 = 1 then pt (sp (sp I i 8 (pt I i 8 - 1)) i 7 0) i 5 else pt (sp (sp I i 8 (pt I i 8 - 1)) i 7 0) i 4)
    else sp I i 8 (pt I i 8 - 1)) else I
def riM (I : Mi) (n : Nat) : Mi := lp ri1 n I
def arM (I : Mi) (n : Nat) (x : Int32) : Int32 := rdsM I n x &&& setM I n 0
def ak1 (n i : Nat) (I : Mi) : Mi := if decide (pt I i 7 = 2) = true then (if arM I n (nI i) = 0 then I else wtM I i (ix (I 128 7))) else I
def akM (I : Mi) (n : Nat) : Mi := if I 128 1 = 1 then lp (ak1 n) n I else I

set_option maxRecDepth 100000 in
set_option maxHeartbeats 800000 in
theorem tX5_within {l : Launch} {E : EE} {I : Mi} {F : Mr} (x y z : Int32)  : CtF l E mX5_within [.int x, .int y, .int z] NT I F NT (some (.int (bi (isW x y z)))) I F := by
  refine CtF_of [some (.int x), some (.int y), some (.int z)] (by decide) rfl (Nat.le_of_ble_eq_true rfl) rfl (fun p e s m args below meth c C hr hname => ?_)
  refine g_iload_n C dX5_within_0 rfl rfl ?_
  refine g_iload_n C dX5_within_1 rfl rfl ?_
  refine g_icmp_lt C (tgt := 14) dX5_within_2 (by decide) (fun c2 => ?_) (fun c2 => ?_)
  · skip
    refine g_iconst C (v := 0) dX5_within_14 (by decide) ?_
    exact g_zret_0 C hr dX5_within_15 ⟨by simp [isW, bi, c2], rfl, rfl⟩
  · skip
    refine g_iload_n C dX5_within_5 rfl rfl ?_
    refine g_iload_n C dX5_within_6 rfl rfl ?_
    refine g_icmp_gt C (tgt := 14) dX5_within_7 (by decide) (fun c7 => ?_) (fun c7 => ?_)
    · skip
      refine g_iconst C (v := 0) dX5_within_14 (by decide) ?_
      exact g_zret_0 C hr dX5_within_15 ⟨by simp [isW, bi, c2, c7], rfl, rfl⟩
    · skip
      refine g_iconst C (v := 1) dX5_within_10 (by decide) ?_
      refine g_goto C (tgt := 15) dX5_within_11 (by decide) ?_
      exact g_zret_1 C hr dX5_within_15 ⟨by simp [isW, bi, c2, c7], rfl, rfl⟩

set_option maxRecDepth 100000 in
set_option maxHeartbeats 800000 in
theorem tX5_part {l : Launch} {E : EE} {I : Mi} {F : Mr} (hl : LY F) {i : Nat} (hi : i < 8) {q : Nat} (hq : q < 10) {y : Int32} (hy : y = nI q)  : CtF l E mX5_part [rf E 127, .int (nI i), .int y] NT I F NT (some (.int (pt I i q))) I F := by
  refine CtF_of [some (rf E 127), some (.int (nI i)), some (.int y)] (by decide) rfl (Nat.le_of_ble_eq_true rfl) rfl (fun p e s m args below meth c C hr hname => ?_)
  refine g_aload_n C dX5_part_0 rfl rfl ?_
  refine gfX5_7 C (by decide) hl.mstate dX5_part_1 ?_
  refine g_bipush C (v := 16) dX5_part_4 (by decide) ?_
  refine g_bipush C (v := 10) dX5_part_6 (by decide) ?_
  refine g_iload_n C dX5_part_8 rfl rfl ?_
  refine g_imul C dX5_part_9 ?_
  refine g_iadd C dX5_part_10 ?_
  refine g_iload_n C dX5_part_11 rfl rfl ?_
  refine g_iadd C dX5_part_12 ?_
  refine g_iald_j C (show ar NT 128 7 96 by decide) (16 + 10 * i + q) (pt_ix i q hy) (by omega) (by decide) dX5_part_13 ?_
  exact g_iret C hr dX5_part_14 ⟨rfl, rfl, rfl⟩

set_option maxRecDepth 100000 in
set_option maxHeartbeats 800000 in
theorem tX5_setPart {l : Launch} {E : EE} {I : Mi} {F : Mr} (hl : LY F) {i : Nat} (hi : i < 8) {q : Nat} (hq : q < 10) {y : Int32} (hy : y = nI q) (v : Int32)  : CtF l E mX5_setPart [rf E 127, .int (nI i), .int y, .int v] NT I F NT none (sp I i q v) F := by
  refine CtF_of [some (rf E 127), some (.int (nI i)), some (.int y), some (.int v)] (by decide) rfl (Nat.le_of_ble_eq_true rfl) rfl (fun p e s m args below meth c C hr hname => ?_)
  refine g_aload_n C dX5_setPart_0 rfl rfl ?_
  refine gfX5_7 C (by decide) hl.mstate dX5_setPart_1 ?_
  refine g_bipush C (v := 16) dX5_setPart_4 (by decide) ?_
  refine g_bipush C (v := 10) dX5_setPart_6 (by decide) ?_
  refine g_iload_n C dX5_setPart_8 rfl rfl ?_
  refine g_imul C dX5_setPart_9 ?_
  refine g_iadd C dX5_setPart_10 ?_
  refine g_iload_n C dX5_setPart_11 rfl rfl ?_
  refine g_iadd C dX5_setPart_12 ?_
  refine g_iload_n C dX5_setPart_13 rfl rfl ?_
  refine g_iast_j C (show ar NT 128 7 96 by decide) (16 + 10 * i + q) (pt_ix i q hy) (by omega) (by decide) dX5_setPart_14 ?_
  exact g_vret C hr dX5_setPart_15 ⟨rfl, rfl, rfl⟩

set_option maxRecDepth 100000 in
set_option maxHeartbeats 800000 in
theorem tX5_is {l : Launch} {E : EE} {I : Mi} {F : Mr} (hl : LY F) {i : Nat} (hi : i < 8) (x : Int32)  : CtF l E mX5_is [rf E 127, .int (nI i), .int x] NT I F NT (some (.int (bi (decide (pt I i 7 = x))))) I F := by
  refine CtF_of [some (rf E 127), some (.int (nI i)), some (.int x)] (by decide) rfl (Nat.le_of_ble_eq_true rfl) rfl (fun p e s m args below meth c C hr hname => ?_)
  refine g_aload_n C dX5_is_0 rfl rfl ?_
  refine g_iload_n C dX5_is_1 rfl rfl ?_
  refine g_bipush C (v := 7) dX5_is_2 (by decide) ?_
  refine kX5_46 C (by decide) (tX5_part hl (i := i) hi (q := 7) (by decide) rfl) ⟨⟨Nat.le_of_ble_eq_true rfl, Nat.le_of_ble_eq_true rfl⟩, Nat.le_of_ble_eq_true rfl, Nat.le_of_ble_eq_true rfl⟩ (Nat.le_of_ble_eq_true rfl) dX5_is_4 ?_
  refine g_iload_n C dX5_is_7 rfl rfl ?_
  refine g_icmp_ne C (tgt := 15) dX5_is_8 (by decide) (fun c8 => ?_) (fun c8 => ?_)
  · skip
    refine g_iconst C (v := 0) dX5_is_15 (by decide) ?_
    exact g_zret_0 C hr dX5_is_16 ⟨by simp [bi, c8], rfl, rfl⟩
  · skip
    refine g_iconst C (v := 1) dX5_is_11 (by decide) ?_
    refine g_goto C (tgt := 16) dX5_is_12 (by decide) ?_
    exact g_zret_1 C hr dX5_is_16 ⟨by simp [bi, c8], rfl, rfl⟩

set_option maxRecDepth 100000 in
set_option maxHeartbeats 800000 in
theorem tX5_reads {l : Launch} {E : EE} {I : Mi} {F : Mr} (hl : LY F) {i : Nat} (hi : i < 8) (x : Int32)  : CtF l E mX5_reads [rf E 127, .int (nI i), .int x] NT I F NT (some (.int (bi (rdM I i x)))) I F := by
  refine CtF_of [some (rf E 127), some (.int (nI i)), some (.int x)] (by decide) rfl (Nat.le_of_ble_eq_true rfl) rfl (fun p e s m args below meth c C hr hname => ?_)
  refine g_aload_n C dX5_reads_0 rfl rfl ?_
  refine g_iload_n C dX5_reads_1 rfl rfl ?_
  refine g_bipush C (v := 6) dX5_reads_2 (by decide) ?_
  refine kX5_46 C (by decide) (tX5_part hl (i := i) hi (q := 6) (by decide) rfl) ⟨⟨Nat.le_of_ble_eq_true rfl, Nat.le_of_ble_eq_true rfl⟩, Nat.le_of_ble_eq_true rfl, Nat.le_of_ble_eq_true rfl⟩ (Nat.le_of_ble_eq_true rfl) dX5_reads_4 ?_
  refine g_iload_n C dX5_reads_7 rfl rfl ?_
  refine g_ishr C dX5_reads_8 ?_
  refine g_iconst C (v := 1) dX5_reads_9 (by decide) ?_
  refine g_iand C dX5_reads_10 ?_
  refine g_iconst C (v := 1) dX5_reads_11 (by decide) ?_
  refine g_icmp_ne C (tgt := 19) dX5_reads_12 (by decide) (fun c12 => ?_) (fun c12 => ?_)
  · skip
    refine g_iconst C (v := 0) dX5_reads_19 (by decide) ?_
    exact g_zret_0 C hr dX5_reads_20 ⟨by simp [rdM, bi, c12], rfl, rfl⟩
  · skip
    refine g_iconst C (v := 1) dX5_reads_15 (by decide) ?_
    refine g_goto C (tgt := 20) dX5_reads_16 (by decide) ?_
    exact g_zret_1 C hr dX5_reads_20 ⟨by simp [rdM, bi, c12], rfl, rfl⟩

set_option maxRecDepth 100000 in
set_option maxHeartbeats 800000 in
theorem tX5_isSure {l : Launch} {E : EE} {I : Mi} {F : Mr} (hl : LY F) {i : Nat} (hi : i < 8)  : CtF l E mX5_isSure [rf E 127, .int (nI i)] NT I F NT (some (.int (bi (sureM I i)))) I F := by
  refine CtF_of [some (rf E 127), some (.int (nI i))] (by decide) rfl (Nat.le_of_ble_eq_true rfl) rfl (fun p e s m args below meth c C hr hname => ?_)
  refine g_aload_n C dX5_isSure_0 rfl rfl ?_
  refine g_iload_n C dX5_isSure_1 rfl rfl ?_
  refine g_iconst C (v := 0) dX5_isSure_2 (by decide) ?_
  refine kX5_50 C (by decide) (tX5_is hl (i := i) hi _) ⟨⟨Nat.le_of_ble_eq_true rfl, Nat.le_of_ble_eq_true rfl⟩, Nat.le_of_ble_eq_true rfl, Nat.le_of_ble_eq_true rfl⟩ (Nat.le_of_ble_eq_true rfl) dX5_isSure_3 ?_
  refine g_ifne_b C (tgt := 18) dX5_isSure_6 (by decide) (fun c6 => ?_) (fun c6 => ?_)
  · skip
    refine g_iconst C (v := 1) dX5_isSure_18 (by decide) ?_
    refine g_goto C (tgt := 23) dX5_isSure_19 (by decide) ?_
    exact g_zret_1 C hr dX5_isSure_23 ⟨by simp [sureM, bi, c6] <;> simp_all, rfl, rfl⟩
  · skip
    refine g_aload_n C dX5_isSure_9 rfl rfl ?_
    refine g_iload_n C dX5_isSure_10 rfl rfl ?_
    refine g_iconst C (v := 1) dX5_isSure_11 (by decide) ?_
    refine kX5_50 C (by decide) (tX5_is hl (i := i) hi _) ⟨⟨Nat.le_of_ble_eq_true rfl, Nat.le_of_ble_eq_true rfl⟩, Nat.le_of_ble_eq_true rfl, Nat.le_of_ble_eq_true rfl⟩ (Nat.le_of_ble_eq_true rfl) dX5_isSure_12 ?_
    refine g_ifeq_b C (tgt := 22) dX5_isSure_15 (by decide) (fun c15 => ?_) (fun c15 => ?_)
    · skip
      refine g_iconst C (v := 0) dX5_isSure_22 (by decide) ?_
      exact g_zret_0 C hr dX5_isSure_23 ⟨by simp [sureM, bi, c6, c15] <;> simp_all, rfl, rfl⟩
    · skip
      refine g_iconst C (v := 1) dX5_isSure_18 (by decide) ?_
      refine g_goto C (tgt := 23) dX5_isSure_19 (by decide) ?_
      exact g_zret_1 C hr dX5_isSure_23 ⟨by simp [sureM, bi, c6, c15] <;> simp_all, rfl, rfl⟩

set_option maxRecDepth 100000 in
set_option maxHeartbeats 800000 in
theorem tX5_tellsNow {l : Launch} {E : EE} {I : Mi} {F : Mr} (hl : LY F) {i : Nat} (hi : i < 8)  : CtF l E mX5_tellsNow [rf E 127, .int (nI i)] NT I F NT (some (.int (tellM I i))) I F := by
  refine CtF_of [some (rf E 127), some (.int (nI i))] (by decide) rfl (Nat.le_of_ble_eq_true rfl) rfl (fun p e s m args below meth c C hr hname => ?_)
  refine g_aload_n C dX5_tellsNow_0 rfl rfl ?_
  refine g_iload_n C dX5_tellsNow_1 rfl rfl ?_
  refine kX5_54 C (by decide) (tX5_isSure hl (i := i) hi) ⟨⟨Nat.le_of_ble_eq_true rfl, Nat.le_of_ble_eq_true rfl⟩, Nat.le_of_ble_eq_true rfl, Nat.le_of_ble_eq_true rfl⟩ (Nat.le_of_ble_eq_true rfl) dX5_tellsNow_2 ?_
  refine g_ifeq_b C (tgt := 17) dX5_tellsNow_5 (by decide) (fun c5 => ?_) (fun c5 => ?_)
  · skip
    refine g_aload_n C dX5_tellsNow_17 rfl rfl ?_
    refine g_iload_n C dX5_tellsNow_18 rfl rfl ?_
    refine g_iconst C (v := 0) dX5_tellsNow_19 (by decide) ?_
    refine kX5_46 C (by decide) (tX5_part hl (i := i) hi (q := 0) (by decide) rfl) ⟨⟨Nat.le_of_ble_eq_true rfl, Nat.le_of_ble_eq_true rfl⟩, Nat.le_of_ble_eq_true rfl, Nat.le_of_ble_eq_true rfl⟩ (Nat.le_of_ble_eq_true rfl) dX5_tellsNow_20 ?_
    refine g_iconst C (v := 1) dX5_tellsNow_23 (by decide) ?_
    refine g_icmp_ne C (tgt := 31) dX5_tellsNow_24 (by decide) (fun c24 => ?_) (fun c24 => ?_)
    · skip
      refine g_sipush C (v := 255) dX5_tellsNow_31 (by decide) ?_
      exact g_iret C hr dX5_tellsNow_34 ⟨by simp [tellM, c5, c24], rfl, rfl⟩
    · skip
      refine g_iconst C (v := 0) dX5_tellsNow_27 (by decide) ?_
      refine g_goto C (tgt := 34) dX5_tellsNow_28 (by decide) ?_
      exact g_iret C hr dX5_tellsNow_34 ⟨by simp [tellM, c5, c24], rfl, rfl⟩
  · skip
    refine g_aload_n C dX5_tellsNow_8 rfl rfl ?_
    refine g_iload_n C dX5_tellsNow_9 rfl rfl ?_
    refine g_iconst C (v := 4) dX5_tellsNow_10 (by decide) ?_
    refine kX5_46 C (by decide) (tX5_part hl (i := i) hi (q := 4) (by decide) rfl) ⟨⟨Nat.le_of_ble_eq_true rfl, Nat.le_of_ble_eq_true rfl⟩, Nat.le_of_ble_eq_true rfl, Nat.le_of_ble_eq_true rfl⟩ (Nat.le_of_ble_eq_true rfl) dX5_tellsNow_11 ?_
    refine g_goto C (tgt := 34) dX5_tellsNow_14 (by decide) ?_
    exact g_iret C hr dX5_tellsNow_34 ⟨by simp [tellM, c5], rfl, rfl⟩

set_option maxRecDepth 100000 in
set_option maxHeartbeats 800000 in
theorem tX5_setOf {l : Launch} {E : EE} {I : Mi} {F : Mr} (hl : LY F) {n : Nat} (hn8 : n ≤ 8) (hn : I 128 2 = nI n) (x : Int32)  : CtF l E mX5_setOf [rf E 127, .int x] NT I F NT (some (.int (setM I n x))) I F := by
  refine CtF_of [some (rf E 127), some (.int x), none, none] (by decide) rfl (Nat.le_of_ble_eq_true rfl) rfl (fun p e s m args below meth c C hr hname => ?_)
  refine g_iconst C (v := 0) dX5_setOf_0 (by decide) ?_
  refine g_istore_n C dX5_setOf_1 rfl (by decide) rfl ?_
  refine g_iconst C (v := 0) dX5_setOf_2 (by decide) ?_
  refine g_istore_n C dX5_setOf_3 rfl (by decide) rfl ?_
  refine G_loop (n := n) (fun i => [some (rf E 127), some (.int x), some (.int (lp (fun i acc => acc ||| (if decide (pt I i 7 = x) = true then sh1 i else 0)) i 0)), some (.int (nI i))]) (fun i => I) (fun _ => F) rfl rfl rfl ?_ ?_
  · intro i4 hi4 ih4
    refine g_iload_n C dX5_setOf_4 rfl rfl ?_
    refine g_aload_n C dX5_setOf_5 rfl rfl ?_
    refine gfX5_7 C (by decide) hl.mstate dX5_setOf_6 ?_
    refine g_iconst C (v := 2) dX5_setOf_9 (by decide) ?_
    refine g_iald_j C (show ar NT 128 7 96 by decide) 2 rfl (by decide) (by decide) dX5_setOf_10 ?_
    refine g_icmp_ge C (tgt := 39) dX5_setOf_11 (by decide) (fun c11 => absurd c11 (nI_nge hn hi4 (by omega))) (fun _ => ?_)
    refine g_iload_n C dX5_setOf_14 rfl rfl ?_
    refine g_aload_n C dX5_setOf_15 rfl rfl ?_
    refine g_iload_n C dX5_setOf_16 rfl rfl ?_
    refine g_iload_n C dX5_setOf_17 rfl rfl ?_
    refine kX5_50 C (by decide) (tX5_is hl (i := i4) (show i4 < 8 by omega) _) ⟨⟨Nat.le_of_ble_eq_true rfl, Nat.le_of_ble_eq_true rfl⟩, Nat.le_of_ble_eq_true rfl, Nat.le_of_ble_eq_true rfl⟩ (Nat.le_of_ble_eq_true rfl) dX5_setOf_18 ?_
    refine g_ifeq_b C (tgt := 30) dX5_setOf_21 (by decide) (fun c21 => ?_) (fun c21 => ?_)
    · skip
      refine g_iconst C (v := 0) dX5_setOf_30 (by decide) ?_
      refine g_ior C dX5_setOf_31 ?_
      refine g_istore_n C dX5_setOf_32 rfl (by decide) rfl ?_
      refine g_iinc C dX5_setOf_33 rfl (nI_inc _) (by decide) rfl ?_
      refine g_goto C (tgt := 4) dX5_setOf_36 (by decide) ?_
      exact G_cast ih4 rfl rfl (by first | rfl | (simp only [lp, sh1, c21, ↓reduceIte, Bool.false_eq_true, reduceCtorEq]; first | done | rfl)) rfl
    · skip
      refine g_iconst C (v := 1) dX5_setOf_24 (by decide) ?_
      refine g_iload_n C dX5_setOf_25 rfl rfl ?_
      refine g_ishl C dX5_setOf_26 ?_
      refine g_goto C (tgt := 31) dX5_setOf_27 (by decide) ?_
      refine g_ior C dX5_setOf_31 ?_
      refine g_istore_n C dX5_setOf_32 rfl (by decide) rfl ?_
      refine g_iinc C dX5_setOf_33 rfl (nI_inc _) (by decide) rfl ?_
      refine g_goto C (tgt := 4) dX5_setOf_36 (by decide) ?_
      exact G_cast ih4 rfl rfl (by first | rfl | (simp only [lp, sh1, c21, ↓reduceIte, Bool.false_eq_true, reduceCtorEq]; first | done | rfl)) rfl
  · skip
    refine g_iload_n C dX5_setOf_4 rfl rfl ?_
    refine g_aload_n C dX5_setOf_5 rfl rfl ?_
    refine gfX5_7 C (by decide) hl.mstate dX5_setOf_6 ?_
    refine g_iconst C (v := 2) dX5_setOf_9 (by decide) ?_
    refine g_iald_j C (show ar NT 128 7 96 by decide) 2 rfl (by decide) (by decide) dX5_setOf_10 ?_
    refine g_icmp_ge C (tgt := 39) dX5_setOf_11 (by decide) (fun _ => ?_) (fun c11 => absurd (nI_lee hn) c11)
    refine g_iload_n C dX5_setOf_39 rfl rfl ?_
    exact g_iret C hr dX5_setOf_40 ⟨rfl, rfl, rfl⟩

set_option maxRecDepth 100000 in
set_option maxHeartbeats 800000 in
theorem tX5_readersOf {l : Launch} {E : EE} {I : Mi} {F : Mr} (hl : LY F) {n : Nat} (hn8 : n ≤ 8) (hn : I 128 2 = nI n) (x : Int32)  : CtF l E mX5_readersOf [rf E 127, .int x] NT I F NT (some (.int (rdsM I n x))) I F := by
  refine CtF_of [some (rf E 127), some (.int x), none, none] (by decide) rfl (Nat.le_of_ble_eq_true rfl) rfl (fun p e s m args below meth c C hr hname => ?_)
  refine g_iconst C (v := 0) dX5_readersOf_0 (by decide) ?_
  refine g_istore_n C dX5_readersOf_1 rfl (by decide) rfl ?_
  refine g_iconst C (v := 0) dX5_readersOf_2 (by decide) ?_
  refine g_istore_n C dX5_readersOf_3 rfl (by decide) rfl ?_
  refine G_loop (n := n) (fun i => [some (rf E 127), some (.int x), some (.int (lp (fun i acc => acc ||| (if rdM I i x = true then sh1 i else 0)) i 0)), some (.int (nI i))]) (fun i => I) (fun _ => F) rfl rfl rfl ?_ ?_
  · intro i4 hi4 ih4
    refine g_iload_n C dX5_readersOf_4 rfl rfl ?_
    refine g_aload_n C dX5_readersOf_5 rfl rfl ?_
    refine gfX5_7 C (by decide) hl.mstate dX5_readersOf_6 ?_
    refine g_iconst C (v := 2) dX5_readersOf_9 (by decide) ?_
    refine g_iald_j C (show ar NT 128 7 96 by decide) 2 rfl (by decide) (by decide) dX5_readersOf_10 ?_
    refine g_icmp_ge C (tgt := 39) dX5_readersOf_11 (by decide) (fun c11 => absurd c11 (nI_nge hn hi4 (by omega))) (fun _ => ?_)
    refine g_iload_n C dX5_readersOf_14 rfl rfl ?_
    refine g_aload_n C dX5_readersOf_15 rfl rfl ?_
    refine g_iload_n C dX5_readersOf_16 rfl rfl ?_
    refine g_iload_n C dX5_readersOf_17 rfl rfl ?_
    refine kX5_58 C (by decide) (tX5_reads hl (i := i4) (show i4 < 8 by omega) _) ⟨⟨Nat.le_of_ble_eq_true rfl, Nat.le_of_ble_eq_true rfl⟩, Nat.le_of_ble_eq_true rfl, Nat.le_of_ble_eq_true rfl⟩ (Nat.le_of_ble_eq_true rfl) dX5_readersOf_18 ?_
    refine g_ifeq_b C (tgt := 30) dX5_readersOf_21 (by decide) (fun c21 => ?_) (fun c21 => ?_)
    · skip
      refine g_iconst C (v := 0) dX5_readersOf_30 (by decide) ?_
      refine g_ior C dX5_readersOf_31 ?_
      refine g_istore_n C dX5_readersOf_32 rfl (by decide) rfl ?_
      refine g_iinc C dX5_readersOf_33 rfl (nI_inc _) (by decide) rfl ?_
      refine g_goto C (tgt := 4) dX5_readersOf_36 (by decide) ?_
      exact G_cast ih4 rfl rfl (by first | rfl | (simp only [lp, sh1, c21, ↓reduceIte, Bool.false_eq_true, reduceCtorEq]; first | done | rfl)) rfl
    · skip
      refine g_iconst C (v := 1) dX5_readersOf_24 (by decide) ?_
      refine g_iload_n C dX5_readersOf_25 rfl rfl ?_
      refine g_ishl C dX5_readersOf_26 ?_
      refine g_goto C (tgt := 31) dX5_readersOf_27 (by decide) ?_
      refine g_ior C dX5_readersOf_31 ?_
      refine g_istore_n C dX5_readersOf_32 rfl (by decide) rfl ?_
      refine g_iinc C dX5_readersOf_33 rfl (nI_inc _) (by decide) rfl ?_
      refine g_goto C (tgt := 4) dX5_readersOf_36 (by decide) ?_
      exact G_cast ih4 rfl rfl (by first | rfl | (simp only [lp, sh1, c21, ↓reduceIte, Bool.false_eq_true, reduceCtorEq]; first | done | rfl)) rfl
  · skip
    refine g_iload_n C dX5_readersOf_4 rfl rfl ?_
    refine g_aload_n C dX5_readersOf_5 rfl rfl ?_
    refine gfX5_7 C (by decide) hl.mstate dX5_readersOf_6 ?_
    refine g_iconst C (v := 2) dX5_readersOf_9 (by decide) ?_
    refine g_iald_j C (show ar NT 128 7 96 by decide) 2 rfl (by decide) (by decide) dX5_readersOf_10 ?_
    refine g_icmp_ge C (tgt := 39) dX5_readersOf_11 (by decide) (fun _ => ?_) (fun c11 => absurd (nI_lee hn) c11)
    refine g_iload_n C dX5_readersOf_39 rfl rfl ?_
    exact g_iret C hr dX5_readersOf_40 ⟨rfl, rfl, rfl⟩

set_option maxRecDepth 100000 in
set_option maxHeartbeats 800000 in
theorem tX5_awakeReaders {l : Launch} {E : EE} {I : Mi} {F : Mr} (hl : LY F) {n : Nat} (hn8 : n ≤ 8) (hn : I 128 2 = nI n) (x : Int32)  : CtF l E mX5_awakeReaders [rf E 127, .int x] NT I F NT (some (.int (arM I n x))) I F := by
  refine CtF_of [some (rf E 127), some (.int x)] (by decide) rfl (Nat.le_of_ble_eq_true rfl) rfl (fun p e s m args below meth c C hr hname => ?_)
  refine g_aload_n C dX5_awakeReaders_0 rfl rfl ?_
  refine g_iload_n C dX5_awakeReaders_1 rfl rfl ?_
  refine kX5_61 C (by decide) (tX5_readersOf hl hn8 hn _) ⟨⟨Nat.le_of_ble_eq_true rfl, Nat.le_of_ble_eq_true rfl⟩, Nat.le_of_ble_eq_true rfl, Nat.le_of_ble_eq_true rfl⟩ (Nat.le_of_ble_eq_true rfl) dX5_awakeReaders_2 ?_
  refine g_aload_n C dX5_awakeReaders_5 rfl rfl ?_
  refine g_iconst C (v := 0) dX5_awakeReaders_6 (by decide) ?_
  refine kX5_65 C (by decide) (tX5_setOf hl hn8 hn _) ⟨⟨Nat.le_of_ble_eq_true rfl, Nat.le_of_ble_eq_true rfl⟩, Nat.le_of_ble_eq_true rfl, Nat.le_of_ble_eq_true rfl⟩ (Nat.le_of_ble_eq_true rfl) dX5_awakeReaders_7 ?_
  refine g_iand C dX5_awakeReaders_10 ?_
  exact g_iret C hr dX5_awakeReaders_11 ⟨rfl, rfl, rfl⟩

set_option maxRecDepth 100000 in
set_option maxHeartbeats 800000 in
theorem tX5_bits {l : Launch} {E : EE} {I : Mi} {F : Mr} (v : Int32)  : CtF l E mX5_bits [.int v] NT I F NT (some (.int (bitM v))) I F := by
  refine CtF_of [some (.int v), none, none] (by decide) rfl (Nat.le_of_ble_eq_true rfl) rfl (fun p e s m args below meth c C hr hname => ?_)
  refine g_iconst C (v := 0) dX5_bits_0 (by decide) ?_
  refine g_istore_n C dX5_bits_1 rfl (by decide) rfl ?_
  refine g_iconst C (v := 0) dX5_bits_2 (by decide) ?_
  refine g_istore_n C dX5_bits_3 rfl (by decide) rfl ?_
  refine G_loop (n := 8) (fun i => [some (.int v), some (.int (lp (fun k acc => acc + ((v >>> (nI k &&& 31)) &&& 1)) i 0)), some (.int (nI i))]) (fun i => I) (fun _ => F) rfl rfl rfl ?_ ?_
  · intro i4 hi4 ih4
    refine g_iload_n C dX5_bits_4 rfl rfl ?_
    refine g_bipush C (v := 8) dX5_bits_5 (by decide) ?_
    refine g_icmp_ge C (tgt := 24) dX5_bits_7 (by decide) (fun c7 => absurd c7 (nI_nge rfl hi4 (by decide))) (fun _ => ?_)
    refine g_iload_n C dX5_bits_10 rfl rfl ?_
    refine g_iload_n C dX5_bits_11 rfl rfl ?_
    refine g_iload_n C dX5_bits_12 rfl rfl ?_
    refine g_ishr C dX5_bits_13 ?_
    refine g_iconst C (v := 1) dX5_bits_14 (by decide) ?_
    refine g_iand C dX5_bits_15 ?_
    refine g_iadd C dX5_bits_16 ?_
    refine g_istore_n C dX5_bits_17 rfl (by decide) rfl ?_
    refine g_iinc C dX5_bits_18 rfl (nI_inc _) (by decide) rfl ?_
    refine g_goto C (tgt := 4) dX5_bits_21 (by decide) ?_
    exact G_cast ih4 rfl rfl (by first | rfl | (simp only [lp, lp, ↓reduceIte, Bool.false_eq_true, reduceCtorEq]; first | done | rfl)) rfl
  · skip
    refine g_iload_n C dX5_bits_4 rfl rfl ?_
    refine g_bipush C (v := 8) dX5_bits_5 (by decide) ?_
    refine g_icmp_ge C (tgt := 24) dX5_bits_7 (by decide) (fun _ => ?_) (fun c7 => absurd (nI_lee rfl) c7)
    refine g_iload_n C dX5_bits_24 rfl rfl ?_
    exact g_iret C hr dX5_bits_25 ⟨rfl, rfl, rfl⟩

set_option maxRecDepth 100000 in
set_option maxHeartbeats 800000 in
theorem tX5_risingLoad {l : Launch} {E : EE} {I : Mi} {F : Mr} (hl : LY F) {n : Nat} (hn8 : n ≤ 8) (hn : I 128 2 = nI n)  : CtF l E mX5_risingLoad [rf E 127] NT I F NT (some (.int (rlM I n))) I F := by
  refine CtF_of [some (rf E 127), none, none] (by decide) rfl (Nat.le_of_ble_eq_true rfl) rfl (fun p e s m args below meth c C hr hname => ?_)
  refine g_iconst C (v := 0) dX5_risingLoad_0 (by decide) ?_
  refine g_istore_n C dX5_risingLoad_1 rfl (by decide) rfl ?_
  refine g_iconst C (v := 0) dX5_risingLoad_2 (by decide) ?_
  refine g_istore_n C dX5_risingLoad_3 rfl (by decide) rfl ?_
  refine G_loop (n := n) (fun i => [some (rf E 127), some (.int (lp (fun i acc => acc + (if decide (pt I i 7 = 4) = true then pt I i 3 else 0)) i 0)), some (.int (nI i))]) (fun i => I) (fun _ => F) rfl rfl rfl ?_ ?_
  · intro i4 hi4 ih4
    refine g_iload_n C dX5_risingLoad_4 rfl rfl ?_
    refine g_aload_n C dX5_risingLoad_5 rfl rfl ?_
    refine gfX5_7 C (by decide) hl.mstate dX5_risingLoad_6 ?_
    refine g_iconst C (v := 2) dX5_risingLoad_9 (by decide) ?_
    refine g_iald_j C (show ar NT 128 7 96 by decide) 2 rfl (by decide) (by decide) dX5_risingLoad_10 ?_
    refine g_icmp_ge C (tgt := 42) dX5_risingLoad_11 (by decide) (fun c11 => absurd c11 (nI_nge hn hi4 (by omega))) (fun _ => ?_)
    refine g_iload_n C dX5_risingLoad_14 rfl rfl ?_
    refine g_aload_n C dX5_risingLoad_15 rfl rfl ?_
    refine g_iload_n C dX5_risingLoad_16 rfl rfl ?_
    refine g_iconst C (v := 4) dX5_risingLoad_17 (by decide) ?_
    refine kX5_50 C (by decide) (tX5_is hl (i := i4) (show i4 < 8 by omega) _) ⟨⟨Nat.le_of_ble_eq_true rfl, Nat.le_of_ble_eq_true rfl⟩, Nat.le_of_ble_eq_true rfl, Nat.le_of_ble_eq_true rfl⟩ (Nat.le_of_ble_eq_true rfl) dX5_risingLoad_18 ?_
    refine g_ifeq_b C (tgt := 33) dX5_risingLoad_21 (by decide) (fun c21 => ?_) (fun c21 => ?_)
    · skip
      refine g_iconst C (v := 0) dX5_risingLoad_33 (by decide) ?_
      refine g_iadd C dX5_risingLoad_34 ?_
      refine g_istore_n C dX5_risingLoad_35 rfl (by decide) rfl ?_
      refine g_iinc C dX5_risingLoad_36 rfl (nI_inc _) (by decide) rfl ?_
      refine g_goto C (tgt := 4) dX5_risingLoad_39 (by decide) ?_
      exact G_cast ih4 rfl rfl (by first | rfl | (simp only [lp, c21, ↓reduceIte, Bool.false_eq_true, reduceCtorEq]; first | done | rfl)) rfl
    · skip
      refine g_aload_n C dX5_risingLoad_24 rfl rfl ?_
      refine g_iload_n C dX5_risingLoad_25 rfl rfl ?_
      refine g_iconst C (v := 3) dX5_risingLoad_26 (by decide) ?_
      refine kX5_46 C (by decide) (tX5_part hl (i := i4) (show i4 < 8 by omega) (q := 3) (by decide) rfl) ⟨⟨Nat.le_of_ble_eq_true rfl, Nat.le_of_ble_eq_true rfl⟩, Nat.le_of_ble_eq_true rfl, Nat.le_of_ble_eq_true rfl⟩ (Nat.le_of_ble_eq_true rfl) dX5_risingLoad_27 ?_
      refine g_goto C (tgt := 34) dX5_risingLoad_30 (by decide) ?_
      refine g_iadd C dX5_risingLoad_34 ?_
      refine g_istore_n C dX5_risingLoad_35 rfl (by decide) rfl ?_
      refine g_iinc C dX5_risingLoad_36 rfl (nI_inc _) (by decide) rfl ?_
      refine g_goto C (tgt := 4) dX5_risingLoad_39 (by decide) ?_
      exact G_cast ih4 rfl rfl (by first | rfl | (simp only [lp, c21, ↓reduceIte, Bool.false_eq_true, reduceCtorEq]; first | done | rfl)) rfl
  · skip
    refine g_iload_n C dX5_risingLoad_4 rfl rfl ?_
    refine g_aload_n C dX5_risingLoad_5 rfl rfl ?_
    refine gfX5_7 C (by decide) hl.mstate dX5_risingLoad_6 ?_
    refine g_iconst C (v := 2) dX5_risingLoad_9 (by decide) ?_
    refine g_iald_j C (show ar NT 128 7 96 by decide) 2 rfl (by decide) (by decide) dX5_risingLoad_10 ?_
    refine g_icmp_ge C (tgt := 42) dX5_risingLoad_11 (by decide) (fun _ => ?_) (fun c11 => absurd (nI_lee hn) c11)
    refine g_iload_n C dX5_risingLoad_42 rfl rfl ?_
    exact g_iret C hr dX5_risingLoad_43 ⟨rfl, rfl, rfl⟩

set_option maxRecDepth 100000 in
set_option maxHeartbeats 800000 in
theorem tX5_allValues {l : Launch} {E : EE} {I : Mi} {F : Mr} (hl : LY F) {n : Nat} (hn8 : n ≤ 8) (hn : I 128 2 = nI n)  : CtF l E mX5_allValues [rf E 127] NT I F NT (some (.int (sumM I n))) I F := by
  refine CtF_of [some (rf E 127), none, none] (by decide) rfl (Nat.le_of_ble_eq_true rfl) rfl (fun p e s m args below meth c C hr hname => ?_)
  refine g_iconst C (v := 0) dX5_allValues_0 (by decide) ?_
  refine g_istore_n C dX5_allValues_1 rfl (by decide) rfl ?_
  refine g_iconst C (v := 0) dX5_allValues_2 (by decide) ?_
  refine g_istore_n C dX5_allValues_3 rfl (by decide) rfl ?_
  refine G_loop (n := n) (fun i => [some (rf E 127), some (.int (lp (fun i acc => acc + pt I i 4) i 0)), some (.int (nI i))]) (fun i => I) (fun _ => F) rfl rfl rfl ?_ ?_
  · intro i4 hi4 ih4
    refine g_iload_n C dX5_allValues_4 rfl rfl ?_
    refine g_aload_n C dX5_allValues_5 rfl rfl ?_
    refine gfX5_7 C (by decide) hl.mstate dX5_allValues_6 ?_
    refine g_iconst C (v := 2) dX5_allValues_9 (by decide) ?_
    refine g_iald_j C (show ar NT 128 7 96 by decide) 2 rfl (by decide) (by decide) dX5_allValues_10 ?_
    refine g_icmp_ge C (tgt := 29) dX5_allValues_11 (by decide) (fun c11 => absurd c11 (nI_nge hn hi4 (by omega))) (fun _ => ?_)
    refine g_iload_n C dX5_allValues_14 rfl rfl ?_
    refine g_aload_n C dX5_allValues_15 rfl rfl ?_
    refine g_iload_n C dX5_allValues_16 rfl rfl ?_
    refine g_iconst C (v := 4) dX5_allValues_17 (by decide) ?_
    refine kX5_46 C (by decide) (tX5_part hl (i := i4) (show i4 < 8 by omega) (q := 4) (by decide) rfl) ⟨⟨Nat.le_of_ble_eq_true rfl, Nat.le_of_ble_eq_true rfl⟩, Nat.le_of_ble_eq_true rfl, Nat.le_of_ble_eq_true rfl⟩ (Nat.le_of_ble_eq_true rfl) dX5_allValues_18 ?_
    refine g_iadd C dX5_allValues_21 ?_
    refine g_istore_n C dX5_allValues_22 rfl (by decide) rfl ?_
    refine g_iinc C dX5_allValues_23 rfl (nI_inc _) (by decide) rfl ?_
    refine g_goto C (tgt := 4) dX5_allValues_26 (by decide) ?_
    exact G_cast ih4 rfl rfl (by first | rfl | (simp only [lp, lp, ↓reduceIte, Bool.false_eq_true, reduceCtorEq]; first | done | rfl)) rfl
  · skip
    refine g_iload_n C dX5_allValues_4 rfl rfl ?_
    refine g_aload_n C dX5_allValues_5 rfl rfl ?_
    refine gfX5_7 C (by decide) hl.mstate dX5_allValues_6 ?_
    refine g_iconst C (v := 2) dX5_allValues_9 (by decide) ?_
    refine g_iald_j C (show ar NT 128 7 96 by decide) 2 rfl (by decide) (by decide) dX5_allValues_10 ?_
    refine g_icmp_ge C (tgt := 29) dX5_allValues_11 (by decide) (fun _ => ?_) (fun c11 => absurd (nI_lee hn) c11)
    refine g_iload_n C dX5_allValues_29 rfl rfl ?_
    exact g_iret C hr dX5_allValues_30 ⟨rfl, rfl, rfl⟩

set_option maxRecDepth 100000 in
set_option maxHeartbeats 800000 in
theorem tX5_placeOf {l : Launch} {E : EE} {I : Mi} {F : Mr} (hl : LY F) {w : Nat} (hw8 : w ≤ 8) (hw : I 128 7 = nI w) (x : Int32)  : CtF l E mX5_placeOf [rf E 127, .int x] NT I F NT (some (.int (plM I w x))) I F := by
  refine CtF_of [some (rf E 127), some (.int x), none, none] (by decide) rfl (Nat.le_of_ble_eq_true rfl) rfl (fun p e s m args below meth c C hr hname => ?_)
  refine g_bipush C (v := (-6)) dX5_placeOf_0 (by decide) ?_
  refine g_istore_n C dX5_placeOf_2 rfl (by decide) rfl ?_
  refine g_iconst C (v := 0) dX5_placeOf_3 (by decide) ?_
  refine g_istore_n C dX5_placeOf_4 rfl (by decide) rfl ?_
  refine G_loop (n := w) (fun i => [some (rf E 127), some (.int x), some (.int (lp (fun k acc => if I 128 (8 + k) = x then nI k else acc) i (-6))), some (.int (nI i))]) (fun i => I) (fun _ => F) rfl rfl rfl ?_ ?_
  · intro i5 hi5 ih5
    refine g_iload_n C dX5_placeOf_5 rfl rfl ?_
    refine g_aload_n C dX5_placeOf_6 rfl rfl ?_
    refine gfX5_7 C (by decide) hl.mstate dX5_placeOf_7 ?_
    refine g_bipush C (v := 7) dX5_placeOf_10 (by decide) ?_
    refine g_iald_j C (show ar NT 128 7 96 by decide) 7 rfl (by decide) (by decide) dX5_placeOf_12 ?_
    refine g_icmp_ge C (tgt := 41) dX5_placeOf_13 (by decide) (fun c13 => absurd c13 (nI_nge hw hi5 (by omega))) (fun _ => ?_)
    refine g_aload_n C dX5_placeOf_16 rfl rfl ?_
    refine gfX5_7 C (by decide) hl.mstate dX5_placeOf_17 ?_
    refine g_bipush C (v := 8) dX5_placeOf_20 (by decide) ?_
    refine g_iload_n C dX5_placeOf_22 rfl rfl ?_
    refine g_iadd C dX5_placeOf_23 ?_
    refine g_iald_j C (show ar NT 128 7 96 by decide) (8 + i5) (or_ix i5) (by omega) (by decide) dX5_placeOf_24 ?_
    refine g_iload_n C dX5_placeOf_25 rfl rfl ?_
    refine g_icmp_ne C (tgt := 33) dX5_placeOf_26 (by decide) (fun c26 => ?_) (fun c26 => ?_)
    · skip
      refine g_iload_n C dX5_placeOf_33 rfl rfl ?_
      refine g_istore_n C dX5_placeOf_34 rfl (by decide) rfl ?_
      refine g_iinc C dX5_placeOf_35 rfl (nI_inc _) (by decide) rfl ?_
      refine g_goto C (tgt := 5) dX5_placeOf_38 (by decide) ?_
      exact G_cast ih5 rfl rfl (by first | rfl | (simp only [lp, c26, ↓reduceIte, Bool.false_eq_true, reduceCtorEq]; first | done | rfl)) rfl
    · skip
      refine g_iload_n C dX5_placeOf_29 rfl rfl ?_
      refine g_goto C (tgt := 34) dX5_placeOf_30 (by decide) ?_
      refine g_istore_n C dX5_placeOf_34 rfl (by decide) rfl ?_
      refine g_iinc C dX5_placeOf_35 rfl (nI_inc _) (by decide) rfl ?_
      refine g_goto C (tgt := 5) dX5_placeOf_38 (by decide) ?_
      exact G_cast ih5 rfl rfl (by first | rfl | (simp only [lp, c26, ↓reduceIte, Bool.false_eq_true, reduceCtorEq]; first | done | rfl)) rfl
  · skip
    refine g_iload_n C dX5_placeOf_5 rfl rfl ?_
    refine g_aload_n C dX5_placeOf_6 rfl rfl ?_
    refine gfX5_7 C (by decide) hl.mstate dX5_placeOf_7 ?_
    refine g_bipush C (v := 7) dX5_placeOf_10 (by decide) ?_
    refine g_iald_j C (show ar NT 128 7 96 by decide) 7 rfl (by decide) (by decide) dX5_placeOf_12 ?_
    refine g_icmp_ge C (tgt := 41) dX5_placeOf_13 (by decide) (fun _ => ?_) (fun c13 => absurd (nI_lee hw) c13)
    refine g_iload_n C dX5_placeOf_41 rfl rfl ?_
    exact g_iret C hr dX5_placeOf_42 ⟨rfl, rfl, rfl⟩

set_option maxRecDepth 100000 in
set_option maxHeartbeats 800000 in
theorem tX5_waitsNow {l : Launch} {E : EE} {I : Mi} {F : Mr} (hl : LY F) {i : Nat} (hi : i < 8) {w : Nat} (hw16 : w ≤ 16) (hw : I 128 7 = nI w)  : CtF l E mX5_waitsNow [rf E 127, .int (nI i)] NT I F NT none (wtM I i w) F := by
  have e1 : sp I i 7 3 128 7 = nI w := by rw [sp_lo (by decide)]; exact hw
  have e2 : up (sp I i 7 3) 128 (8 + w) (nI i) 128 7 = nI w := (up_j (by omega)).trans e1
  refine CtF_of [some (rf E 127), some (.int (nI i))] (by decide) rfl (Nat.le_of_ble_eq_true rfl) rfl (fun p e s m args below meth c C hr hname => ?_)
  refine g_aload_n C dX5_waitsNow_0 rfl rfl ?_
  refine g_iload_n C dX5_waitsNow_1 rfl rfl ?_
  refine g_bipush C (v := 7) dX5_waitsNow_2 (by decide) ?_
  refine g_iconst C (v := 3) dX5_waitsNow_4 (by decide) ?_
  refine kX5_68 C (by decide) (tX5_setPart hl (i := i) hi (q := 7) (by decide) rfl _) ⟨⟨Nat.le_of_ble_eq_true rfl, Nat.le_of_ble_eq_true rfl⟩, Nat.le_of_ble_eq_true rfl, Nat.le_of_ble_eq_true rfl⟩ (Nat.le_of_ble_eq_true rfl) dX5_waitsNow_5 ?_
  refine g_aload_n C dX5_waitsNow_8 rfl rfl ?_
  refine gfX5_7 C (by decide) hl.mstate dX5_waitsNow_9 ?_
  refine g_bipush C (v := 8) dX5_waitsNow_12 (by decide) ?_
  refine g_aload_n C dX5_waitsNow_14 rfl rfl ?_
  refine gfX5_7 C (by decide) hl.mstate dX5_waitsNow_15 ?_
  refine g_bipush C (v := 7) dX5_waitsNow_18 (by decide) ?_
  refine g_iald_j C (show ar NT 128 7 96 by decide) 7 rfl (by decide) (by decide) dX5_waitsNow_20 ?_
  rw [e1]
  refine g_iadd C dX5_waitsNow_21 ?_
  refine g_iload_n C dX5_waitsNow_22 rfl rfl ?_
  refine g_iast_j C (show ar NT 128 7 96 by decide) (8 + w) (or_ix w) (by omega) (by decide) dX5_waitsNow_23 ?_
  refine g_aload_n C dX5_waitsNow_24 rfl rfl ?_
  refine gfX5_7 C (by decide) hl.mstate dX5_waitsNow_25 ?_
  refine g_bipush C (v := 7) dX5_waitsNow_28 (by decide) ?_
  refine g_dup2_11 C dX5_waitsNow_30 rfl rfl ?_
  refine g_iald_j C (show ar NT 128 7 96 by decide) 7 rfl (by decide) (by decide) dX5_waitsNow_31 ?_
  rw [e2]
  refine g_iconst C (v := 1) dX5_waitsNow_32 (by decide) ?_
  refine g_iadd C dX5_waitsNow_33 ?_
  refine g_iast_j C (show ar NT 128 7 96 by decide) 7 rfl (by decide) (by decide) dX5_waitsNow_34 ?_
  exact g_vret C hr dX5_waitsNow_35 ⟨rfl, by unfold wtM; rw [← nI_1], rfl⟩

set_option maxRecDepth 100000 in
set_option maxHeartbeats 800000 in
theorem tX5_moves {l : Launch} {E : EE} {I : Mi} {F : Mr} {x nx f y ny t : Nat} (hx : ar NT x 7 nx) (hy : ar NT y 7 ny) (hf : f + 96 ≤ nx) (ht : t + 96 ≤ ny) (hs : nx < 2147483648 ∧ ny < 2147483648)  : CtF l E mX5_moves [rf E x, .int (nI f), rf E y, .int (nI t)] NT I F NT none (mvM x f y t I) F := by
  refine CtF_of [some (rf E x), some (.int (nI f)), some (rf E y), some (.int (nI t)), none] (by decide) rfl (Nat.le_of_ble_eq_true rfl) rfl (fun p e s m args below meth c C hr hname => ?_)
  refine g_iconst C (v := 0) dX5_moves_0 (by decide) ?_
  refine g_istore C dX5_moves_1 (by decide) rfl ?_
  refine G_loop (n := 96) (fun i => [some (rf E x), some (.int (nI f)), some (rf E y), some (.int (nI t)), some (.int (nI i))]) (fun i => lp (fun k J => up J y (t + k) (J x (f + k))) i I) (fun _ => F) rfl rfl rfl ?_ ?_
  · intro i3 hi3 ih3
    refine g_iload C dX5_moves_3 rfl ?_
    refine g_bipush C (v := 96) dX5_moves_5 (by decide) ?_
    refine g_icmp_ge C (tgt := 28) dX5_moves_7 (by decide) (fun c7 => absurd c7 (nI_nge rfl hi3 (by decide))) (fun _ => ?_)
    refine g_aload_n C dX5_moves_10 rfl rfl ?_
    refine g_iload_n C dX5_moves_11 rfl rfl ?_
    refine g_iload C dX5_moves_12 rfl ?_
    refine g_iadd C dX5_moves_14 ?_
    refine g_aload_n C dX5_moves_15 rfl rfl ?_
    refine g_iload_n C dX5_moves_16 rfl rfl ?_
    refine g_iload C dX5_moves_17 rfl ?_
    refine g_iadd C dX5_moves_19 ?_
    refine g_iald_j C hx (f + i3) (nI_add f i3) (by omega) hs.1 dX5_moves_20 ?_
    refine g_iast_j C hy (t + i3) (nI_add t i3) (by omega) hs.2 dX5_moves_21 ?_
    refine g_iinc C dX5_moves_22 rfl (nI_inc _) (by decide) rfl ?_
    refine g_goto C (tgt := 3) dX5_moves_25 (by decide) ?_
    exact G_cast ih3 rfl rfl rfl rfl
  · skip
    refine g_iload C dX5_moves_3 rfl ?_
    refine g_bipush C (v := 96) dX5_moves_5 (by decide) ?_
    refine g_icmp_ge C (tgt := 28) dX5_moves_7 (by decide) (fun _ => ?_) (fun c7 => absurd (nI_lee rfl) c7)
    exact g_vret C hr dX5_moves_28 ⟨rfl, rfl, rfl⟩

