/-! how many bits: by striking out the lowest -/
section BT
variable {E : EE} {p : Program} {l : Launch} {e : Env} {s : State} {m : MethodId} {args : Array Value} {below : List Frame} {meth : Method} {c : Code}
set_option maxRecDepth 100000 in
theorem bits_loop {I : Mi} {F : Mr} {r v0 : Int32} (C : Cx E mL_bits.1.cls mL_bits.2.1 mL_bits.2.2.1 p s m args meth c) (hr : meth.sig.returnType = mL_bits.2.2.2.1) : ∀ (k : Nat) (w x : Int32), bitW k w = 0 → r = bitR (k + 1) w x → G E NT mL_bits.2.2.1 p l e mL_bits.2.2.2.2 s m args below meth c 0 0 (MQ below (QC E NT (fun r9 I9 F9 => r9 = some (.int r) ∧ I9 = I ∧ F9 = F)) args s mL_bits.2.2.2.2.cells mL_bits.2.2.2.2.slots (fun q => pb E ≤ q)) I F 4 [some (.int v0), some (.int x), some (.int w)] [] := by
  intro k
  induction k with
  | zero =>
    intro w x h1 h2
    have h1 : w = 0 := h1
    refine g_iload_n C dL_bits_4 rfl rfl ?_
    refine g_if_eq C (tgt := 20) dL_bits_5 (by decide) (fun _ => ?_) (fun c => absurd h1 c)
    refine g_iload_n C dL_bits_20 rfl rfl ?_
    exact g_iret C hr dL_bits_21 ⟨by rw [h2]; unfold bitR; rw [if_pos h1], rfl, rfl⟩
  | succ k ih =>
    intro w x h1 h2
    refine g_iload_n C dL_bits_4 rfl rfl ?_
    refine g_if_eq C (tgt := 20) dL_bits_5 (by decide) (fun h0 => ?_) (fun h0 => ?_)
    · refine g_iload_n C dL_bits_20 rfl rfl ?_
      exact g_iret C hr dL_bits_21 ⟨by rw [h2]; unfold bitR; rw [if_pos h0], rfl, rfl⟩
    · refine g_iinc C dL_bits_8 rfl (show x + Int32.ofInt 1 = x + 1 from rfl) (by decide) rfl ?_
      refine g_iload_n C dL_bits_11 rfl rfl ?_
      refine g_iload_n C dL_bits_12 rfl rfl ?_
      refine g_iconst C (v := 1) dL_bits_13 (by decide) ?_
      refine g_isub C dL_bits_14 ?_
      refine g_iand C dL_bits_15 ?_
      refine g_istore_n C dL_bits_16 rfl (by decide) rfl ?_
      refine g_goto C (tgt := 4) dL_bits_17 (by decide) ?_
      exact ih (w &&& (w - 1)) (x + 1) h1 (by rw [h2]; show bitR (k + 1 + 1) w x = _; rw [bitR, if_neg h0])
theorem bitW_5 : ∀ v, v < 32 → bitW 5 (nI v) = 0 := by decide +kernel
set_option maxRecDepth 100000 in
theorem tL_bits {I : Mi} {F : Mr} {v : Nat} (hv : v < 32) {x : Int32} (hx : x = nI v) : CtF l E mL_bits [.int x] NT I F NT (some (.int (bitR 6 x 0))) I F := by
  subst hx
  refine CtF_of [some (.int (nI v)), none, none] (by decide) rfl (Nat.le_of_ble_eq_true rfl) rfl (fun p e s m args below meth c C hr hname => ?_)
  refine g_iconst C (v := 0) dL_bits_0 (by decide) ?_
  refine g_istore_n C dL_bits_1 rfl (by decide) rfl ?_
  refine g_iload_n C dL_bits_2 rfl rfl ?_
  refine g_istore_n C dL_bits_3 rfl (by decide) rfl ?_
  exact bits_loop C hr 5 (nI v) 0 (bitW_5 v hv) rfl
theorem bitR_bc : ∀ v, v < 32 → bitR 6 (nI v) 0 = bcJ (nI v) := by decide +kernel
end BT
/-! the script's cells -/
def cellL (xs : Nat → Int32) (L k : Nat) : Int32 := if k < L then xs k else 1033600855 * (nI k + 1) + 650699939
set_option maxRecDepth 100000 in
set_option maxHeartbeats 1000000 in
theorem tL_cell {l : Launch} {E : EE} {N : Nat} {I : Mi} {F : Mr} {b L : Nat} {xs : Nat → Int32} (hE : b < pb E) (hL : L ≤ 260) {k : Nat} (hk : k < 36) : Met l mL_cell.1 (ws_ mL_cell) mL_cell.2.2.2.2 (PX E N I F b L xs [.ref b, .int (nI k)]) (QC E N (fun r9 I9 F9 => r9 = some (.int (cellL xs L k)) ∧ I9 = I ∧ F9 = F)) mL_cell.2.2.2.2.cells mL_cell.2.2.2.2.slots (fun q => pb E ≤ q) := by
  refine Met.ofW (cc := mL_cell.2.1) (maxL := mL_cell.2.2.1) (ret := mL_cell.2.2.2.1) (by decide) rfl ?_
  intro p e s m args below meth c s₁ B hml hv
  obtain ⟨rfl, ⟨hsz, hP, hK, hNW⟩, hX⟩ := hv
  have hts := atoms_spec (ws := ws_ mL_cell) B.pre
  have hown : s.vm.findClass mL_cell.1.cls = some m.cls := findClass_of_methodNamed B.named
  have hl := lv_entry [.ref b, .int (nI k)] (n := mL_cell.2.2.1) (Nat.le_of_ble_eq_true rfl)
  rw [lg_entry_eq]
  rw [la0_lo] at hl
  have hbl : b < s.heap.size := by omega
  have C : Cx E mL_cell.1.cls mL_cell.2.1 mL_cell.2.2.1 p s m [.ref b, .int (nI k)].toArray meth c := ⟨B.exec, B.bytes, hml, hown, fun w hw => hts w (List.mem_cons_of_mem _ hw), hK, B.notSynchronized, hNW⟩
  have hr := B.returns
  have key : G E N mL_cell.2.2.1 p l e mL_cell.2.2.2.2 s m [.ref b, .int (nI k)].toArray below meth c 0 0 (MQ below (QC E N (fun r9 I9 F9 => r9 = some (.int (cellL xs L k)) ∧ I9 = I ∧ F9 = F)) [.ref b, .int (nI k)].toArray s mL_cell.2.2.2.2.cells mL_cell.2.2.2.2.slots (fun q => pb E ≤ q)) I F 0 [some (.ref b), some (.int (nI k))] [] := by
    refine g_iload_n C dL_cell_0 rfl rfl ?_
    refine g_aload_n C dL_cell_1 rfl rfl ?_
    refine g_slen2 C hX hbl hE dL_cell_2 ?_
    refine g_icmp_ge C (tgt := 12) dL_cell_3 (by decide) (fun c3 => ?_) (fun c3 => ?_)
    · have hlt : ¬ k < L := fun z => nI_ge z (by omega) c3
      refine g_ldc C dL_cell_12 kcL_7 ?_
      refine g_iload_n C dL_cell_14 rfl rfl ?_
      refine g_iconst C (v := 1) dL_cell_15 (by decide) ?_
      refine g_iadd C dL_cell_16 ?_
      refine g_imul C dL_cell_17 ?_
      refine g_ldc C dL_cell_18 kcL_8 ?_
      refine g_iadd C dL_cell_20 ?_
      exact g_iret C hr dL_cell_21 ⟨by unfold cellL; rw [if_neg hlt], rfl, rfl⟩
    · have hlt : k < L := Nat.lt_of_not_le (fun z => c3 (nI_le z (by omega)))
      refine g_aload_n C dL_cell_6 rfl rfl ?_
      refine g_iload_n C dL_cell_7 rfl rfl ?_
      refine g_sld2 C hX hbl hE (j := k) rfl hlt (by omega) dL_cell_8 ?_
      refine g_goto C (tgt := 21) dL_cell_9 (by decide) ?_
      exact g_iret C hr dL_cell_21 ⟨by unfold cellL; rw [if_pos hlt], rfl, rfl⟩
  exact key (by omega) rfl s.heap [] _ hP va_S.rf hl
