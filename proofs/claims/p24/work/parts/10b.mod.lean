theorem lp_fix2 {f : Nat → Mi → Mi} {x y : Nat} (h : ∀ i I, f i I x y = I x y) : ∀ (n : Nat) (I : Mi), lp f n I x y = I x y
  | 0, I => rfl
  | n + 1, I => (h n _).trans (lp_fix2 h n I)
theorem nv1_2 (i : Nat) (J : Mi) (y : Nat) : nv1 i J 128 y = J 128 y := by simp only [nv1]; rw [up_ne (by decide), up_ne (by decide)]
theorem nvB_lo {i k : Nat} {p : Mi × Int32} {y : Nat} (hy : y < 16) (h4 : y ≠ 4) : (nvB i k p).1 128 y = p.1 128 y := by
  unfold nvB
  split
  · simp only
    rw [sp_lo hy, up_j h4]
  · rfl
theorem nvI_lo {i : Nat} {J : Mi} {y : Nat} (hy : y < 16) (h4 : y ≠ 4) : ∀ k, (nvI i k J).1 128 y = J 128 y
  | 0 => rfl
  | k + 1 => by rw [nvI_s, nvB_lo hy h4]; exact nvI_lo hy h4 k
theorem nv2_lo {n i : Nat} {J : Mi} {y : Nat} (hy : y < 16) (h4 : y ≠ 4) : nv2 n i J 128 y = J 128 y := by
  unfold nv2
  split
  · rw [sp_lo hy]; exact nvI_lo hy h4 n
  · rw [sp_lo hy]
theorem nvB_7 {i k : Nat} {p : Mi × Int32} : pt (nvB i k p).1 i 7 = pt p.1 i 7 := by
  unfold nvB
  split
  · simp only [sp, up]
    rw [if_neg (by omega), if_neg (by omega)]
  · rfl
theorem nvI_7 {i : Nat} {J : Mi} : ∀ k, pt (nvI i k J).1 i 7 = pt J i 7
  | 0 => rfl
  | k + 1 => by rw [nvI_s, nvB_7]; exact nvI_7 k
theorem fa1_lo {i : Nat} {J : Mi} {y : Nat} (hy : y < 16) (h5 : y ≠ 5) : fa1 i J 128 y = J 128 y := by
  unfold fa1
  split
  · split
    · rw [sp_lo hy, up_j h5, sp_lo hy, sp_lo hy]
    · rw [sp_lo hy, up_j h5, sp_lo hy, sp_lo hy]
  · rfl
theorem ri1_lo {i : Nat} {J : Mi} {y : Nat} (hy : y < 16) : ri1 i J 128 y = J 128 y := by
  unfold ri1
  split
  · split
    · rw [sp_lo hy, sp_lo hy, sp_lo hy]
    · rw [sp_lo hy]
  · rfl
theorem wtM_lo {I : Mi} {i w : Nat} {y : Nat} (hy : y < 7) : wtM I i w 128 y = I 128 y := by
  unfold wtM
  rw [up_j (by omega), up_j (by omega), sp_lo (by omega)]
theorem wtM_7 {I : Mi} {i w : Nat} : wtM I i w 128 7 = nI (w + 1) := by unfold wtM; simp [up]
theorem ak1_lo {n i : Nat} {J : Mi} {y : Nat} (hy : y < 7) : ak1 n i J 128 y = J 128 y := by
  unfold ak1
  split
  · split
    · rfl
    · exact wtM_lo hy
  · rfl
