/-! a text without a fault: how many islands it tells, where each begins -/
theorem chP_out {c : Nat → Int32} {L j : Nat} (h : L ≤ j) : chP c L j = -1 := by unfold chP; rw [if_neg (by omega)]
theorem nx_out {c : Nat → Int32} {L j : Nat} {x : Int32} (h : L ≤ j) (hx : x ≠ -1) : nx c L j x = j := by
  unfold nx; rw [chP_out h, if_neg (by rw [decide_eq_true_eq]; exact fun q => hx q.symm)]
theorem rdE_false (c : Nat → Int32) (L num : Nat) (q : Nat × Int32) : ∀ k, rdE c L num k (false, q) = (false, q)
  | 0 => rfl
  | k + 1 => by unfold rdE; rw [if_neg (fun h => by cases h)]
theorem rpS_lt {c : Nat → Int32} {L num j : Nat} (h : (rpS c L num j).1 = true) : j < L := by
  rcases Nat.lt_or_ge j L with q | q
  · exact q
  · have h1 : rpI c L j = j := nx_out q (by decide)
    have h2 : rpK c L j = j := by unfold rpK; rw [h1]; exact nx_out q (by decide)
    have h3 : (rpR c L j).1 = -1 := by unfold rpR; rw [h2]; unfold tdP; rw [chP_out q]; rfl
    have h4 : (rpL c L j).1 = -1 := by unfold rpL; rw [h3]; unfold ldP; rw [if_pos (by decide)]
    unfold rpS at h
    rw [h4, show decide (¬ (-1 : Int32) < 0) = false by decide, rdE_false] at h
    cases h
theorem nI_ne_m6 {a : Nat} (h : a ≤ 64) : nI a ≠ -6 := fun q => by
  have h1 : nI 0 ≤ nI a := (nI_leI (by decide) (by omega)).mpr (Nat.zero_le _)
  rw [q] at h1; exact absurd h1 (by decide)
theorem ffM_okk {c : Nat → Int32} {L : Nat} (hL : L ≤ 64) (t : T5) : ∀ k i, i + k = 8 → (∀ u, u < i → (ffS c L (0, t) u).1 < L) → (ffM c L k i (ffS c L (0, t) i)).1 = -6 → ∃ m, m ≤ 8 ∧ (∀ u, u < m → (ffS c L (0, t) u).1 < L) ∧ (ffS c L (0, t) m).1 = L
  | 0, i, _, _, h => by unfold ffM at h; exact absurd (show (0 : Int32) = -6 from h) (by decide)
  | k + 1, i, hk, hu, h => by
    have hle : (ffS c L (0, t) i).1 ≤ L := ffS_le i
    have hr : (rpS c L i (ffS c L (0, t) i).1).2.1 ≤ L := rpS_le hle
    have hn : nx c L (rpS c L i (ffS c L (0, t) i).1).2.1 59 ≤ L := nx_le hr (by decide)
    unfold ffM at h
    split at h
    · rename_i hg
      have hlt := rpS_lt hg
      have hu2 : ∀ u, u < i + 1 → (ffS c L (0, t) u).1 < L := fun u hui => by
        rcases Nat.lt_or_ge u i with q | q
        · exact hu u q
        · rw [show u = i by omega]; exact hlt
      split at h
      · rename_i he
        have hp : (rpS c L i (ffS c L (0, t) i).1).2.1 = L := Nat.le_antisymm ((nI_leI (by omega) (by omega)).mp (by rw [he]; exact Int32.le_refl _)) ((nI_leI (by omega) (by omega)).mp (by rw [he]; exact Int32.le_refl _))
        exact ⟨i + 1, by omega, hu2, by rw [ffS_s]; show nx c L _ 59 = L; rw [hp]; exact nx_out (Nat.le_refl _) (by decide)⟩
      · split at h
        · exact absurd h (nI_ne_m6 (by omega))
        · split at h
          · rw [← ffS_s] at h
            exact ffM_okk hL t k (i + 1) (by omega) hu2 h
          · exact absurd h (nI_ne_m6 (by omega))
    · exact absurd h (nI_ne_m6 (by omega))
theorem ffM_ok {c : Nat → Int32} {L : Nat} (hL : L ≤ 64) (t : T5) (h : (ffM c L 8 0 (0, t)).1 = -6) : ∃ m, m ≤ 8 ∧ (∀ u, u < m → (ffS c L (0, t) u).1 < L) ∧ (ffS c L (0, t) m).1 = L :=
  ffM_okk hL t 8 0 rfl (fun u q => absurd q (Nat.not_lt_zero u)) (by rw [ffS_0]; exact h)

