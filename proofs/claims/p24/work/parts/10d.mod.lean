def QV (I : Mi) (w : Nat) : Prop := ∀ k, k < w → ∃ j, j < 8 ∧ I 128 (8 + k) = nI j
def lrA (j : Nat) (p : Mi × Nat) : Mi × Nat := (sp (sp p.1 j 7 4) j 8 (pt (sp p.1 j 7 4) j 2), p.2)
def lrB (n k : Nat) (p : Mi × Nat) : Mi × Nat :=
  if rlM p.1 n = 0 then lrA (ix (p.1 128 (8 + k))) p
  else if p.1 128 0 < rlM p.1 n + pt p.1 (ix (p.1 128 (8 + k))) 3 then (up p.1 128 (8 + p.2) (p.1 128 (8 + k)), p.2 + 1)
  else lrA (ix (p.1 128 (8 + k))) p
def lrI (n k : Nat) (I : Mi) : Mi × Nat := lp (lrB n) k (I, 0)
theorem lrI_s (n k : Nat) (I : Mi) : lrI n (k + 1) I = lrB n k (lrI n k I) := by unfold lrI; rw [lp]
theorem lrI_inv (n : Nat) (I : Mi) : ∀ k, k ≤ 8 → (lrI n k I).2 ≤ k ∧ ∀ y, (y < 8 ∨ (8 + k ≤ y ∧ y < 16)) → (lrI n k I).1 128 y = I 128 y
  | 0, _ => ⟨Nat.le_refl _, fun y _ => rfl⟩
  | k + 1, h => by
    obtain ⟨h1, h2⟩ := lrI_inv n I k (by omega)
    rw [lrI_s]
    generalize lrI n k I = J at h1 h2 ⊢
    have hA : ∀ j, (lrA j J).2 ≤ k + 1 ∧ ∀ y, (y < 8 ∨ (8 + (k + 1) ≤ y ∧ y < 16)) → (lrA j J).1 128 y = I 128 y := fun j => ⟨by simp only [lrA]; omega, fun y hy => by
      simp only [lrA]
      rw [sp_lo (by omega), sp_lo (by omega)]
      exact h2 y (by omega)⟩
    unfold lrB
    split
    · exact hA _
    · split
      · refine ⟨by simp only; omega, fun y hy => ?_⟩
        simp only
        rw [up_j (by omega)]
        exact h2 y (by omega)
      · exact hA _
def letM (I : Mi) (n w : Nat) : Mi := up (lrI n w I).1 128 7 (nI (lrI n w I).2)
def preM (I : Mi) (n : Nat) : Mi := akM (riM (faM (nvM I n) n) n) n
def tkM (I : Mi) : Mi :=
  let n := ix (I 128 2)
  let J := letM (preM I n) n (ix (preM I n 128 7))
  let J1 := up J 128 3 (J 128 3 + 1)
  up J1 128 6 (if rlM J1 n ≤ J1 128 6 then J1 128 6 else rlM J1 n)
/-- what a tick needs: the counts are small, what waits are islands -/
def TI (I : Mi) : Prop := ∃ n w w2, n ≤ 8 ∧ I 128 2 = nI n ∧ w ≤ 8 ∧ I 128 7 = nI w ∧ w2 ≤ 8 ∧ preM I n 128 7 = nI w2 ∧ QV (preM I n) w2
def psM (I : Mi) (t : Nat) : Mi := lp (fun _ J => tkM J) t I
theorem psM_s (I : Mi) (t : Nat) : psM I (t + 1) = tkM (psM I t) := by unfold psM; rw [lp]
theorem nvM_lo {I : Mi} {n y : Nat} (hy : y < 16) (h4 : y ≠ 4) : nvM I n 128 y = I 128 y := by
  unfold nvM nvM1
  rw [lp_fix2 (fun i J => nv2_lo hy h4), lp_fix2 (fun i J => nv1_2 i J y)]
theorem faM_lo {I : Mi} {n y : Nat} (hy : y < 16) (h5 : y ≠ 5) : faM I n 128 y = I 128 y := by
  unfold faM; rw [lp_fix2 (fun i J => fa1_lo hy h5)]
theorem riM_lo {I : Mi} {n y : Nat} (hy : y < 16) : riM I n 128 y = I 128 y := by
  unfold riM; rw [lp_fix2 (fun i J => ri1_lo hy)]
theorem akM_lo {I : Mi} {n y : Nat} (hy : y < 7) : akM I n 128 y = I 128 y := by
  unfold akM; split
  · rw [lp_fix2 (fun i J => ak1_lo hy)]
  · rfl
theorem letM_lo {I : Mi} {n w y : Nat} (hw : w ≤ 8) (hy : y < 7) : letM I n w 128 y = I 128 y := by
  unfold letM
  rw [up_j (by omega)]
  exact (lrI_inv n I w hw).2 y (by omega)
