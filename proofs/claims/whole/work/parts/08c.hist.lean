def recI (I : Mi) (h : Nat → Nat) (k a : Nat) : Mi := if k < 6 then up (copyC I (h k) a) 37 1 (nI (k + 1)) else up (copyC (up I 37 1 5) (h 0) a) 37 1 6
def recF (F : Mr) (h : Nat → Nat) (k : Nat) : Mr := if k < 6 then F else drF F h
def recH (h : Nat → Nat) (k : Nat) : Nat → Nat := if k < 6 then h else drH h
theorem recF_ne {F : Mr} {h : Nat → Nat} {k : Nat} : ∀ x, x ≠ 38 → recF F h k x = F x := fun x hx => by
  unfold recF; split
  · rfl
  · exact drF_ne x hx
theorem recF_LY {F : Mr} {h : Nat → Nat} {k : Nat} (hl : LY F) : LY (recF F h k) := hl.same recF_ne
theorem recF_HB {F : Mr} {h : Nat → Nat} {k : Nat} (hb : HB F h) : HB (recF F h k) (recH h k) := by
  unfold recF recH; split
  · exact hb
  · exact drF_HB hb
theorem CH.same {N a : Nat} {F F2 : Mr} (h : CH N F a) (ha : a ≠ 38) (hs : ∀ x, x ≠ 38 → F2 x = F x) : CH N F2 a := by
  unfold CH at h ⊢
  rw [hs a ha]; exact h
theorem HB.ne {F : Mr} {h : Nat → Nat} (hb : HB F h) {j : Nat} (hj : j < 6) : h j < 37 ∨ 38 < h j := by
  rcases (hb j hj).2 with e | e | e | e | e | e <;> omega
theorem HB.lo {F : Mr} {h : Nat → Nat} (hb : HB F h) {j : Nat} (hj : j < 6) : 39 ≤ h j := by
  rcases (hb j hj).2 with e | e | e | e | e | e <;> omega

set_option maxRecDepth 100000 in
set_option maxHeartbeats 4000000 in
theorem tX2_stateAt {l : Launch} {E : EE} {I : Mi} {F : Mr} (hl : LY F) {h : Nat → Nat} (hb : HB F h) {k : Nat} (hk : k < 6)  : CtF l E mX2_stateAt [rf E 37, .int (nI k)] NT I F NT (some (rf E (h k))) I F := by
  refine CtF_of [some (rf E 37), some (.int (nI k))] (by decide) rfl (Nat.le_of_ble_eq_true rfl) rfl (fun p e s m args below meth c C hr hname => ?_)
  refine g_iload_n C dX2_stateAt_0 rfl rfl ?_
  refine g_if_lt C (tgt := 19) dX2_stateAt_1 (by decide) (fun c1 => absurd c1 (nI_pos (by omega))) (fun _ => ?_)
  refine g_iload_n C dX2_stateAt_4 rfl rfl ?_
  refine g_bipush C (v := 6) dX2_stateAt_5 (by decide) ?_
  refine g_icmp_ge C (tgt := 19) dX2_stateAt_7 (by decide) (fun c7 => absurd c7 (nI_nge rfl hk (by decide))) (fun _ => ?_)
  refine g_aload_n C dX2_stateAt_10 rfl rfl ?_
  refine gfX2_11 C (by decide) hl.before dX2_stateAt_11 ?_
  refine g_iload_n C dX2_stateAt_14 rfl rfl ?_
  refine g_aald_j C (by decide) k rfl hk (by decide) (hb k hk).1 dX2_stateAt_15 ?_
  refine g_goto C (tgt := 20) dX2_stateAt_16 (by decide) ?_
  exact g_aret C hr (Or.inr ⟨_, rfl⟩) dX2_stateAt_20 ⟨rfl, rfl, rfl⟩

