theorem ak_inv {n i w : Nat} {J : Mi} (h : ∃ v, v ≤ w + i ∧ J 128 7 = nI v) (hw : w + i < 2147483648) : ∃ v, v ≤ w + (i + 1) ∧ ak1 n i J 128 7 = nI v := by
  obtain ⟨v, hv, e⟩ := h
  unfold ak1
  split
  · split
    · exact ⟨v, by omega, e⟩
    · refine ⟨v + 1, by omega, ?_⟩
      rw [wtM_7, e, show ix (nI v) = v from nI_clamp (by omega)]
  · exact ⟨v, by omega, e⟩
