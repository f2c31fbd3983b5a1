/-! one island of a text, both ways -/
section ISL
variable {I : Mi} {c : Nat → Int32} {L n : Nat}
theorem nx_y {j : Nat} {x : Int32} (h : chP c L j = x) : nx c L j x = j + 1 := if_pos (decide_eq_true h)
theorem nx_n {j : Nat} {x : Int32} (h : chP c L j ≠ x) : nx c L j x = j := if_neg (fun z => h (of_decide_eq_true z))
theorem chP_lt {j : Nat} {x : Int32} (h : chP c L j = x) (hx : x ≠ -1) : j < L := chP_in (fun z => hx (h.symm.trans z))
theorem stR (hL : L ≤ 64) (h : PD I c L) (hc : SG c L) {s u1 u2 : Int32} {p : Nat} (hs : s = 0 ∨ s = 1 ∨ s = 2) (h0 : s = 0 → chP c L p ≠ 105) (h1 : s ≠ 2 → chP c L p ≠ 107) (hp : p ≤ L) :
    (isW (chP c L p - 48) 1 9 = true → p < L ∧ RUN p (rg I s u1 u2 0 0 0) = RUN (p + 1) (rg I 3 u1 u2 (chP c L p - 48) 0 0)) ∧ (isW (chP c L p - 48) 1 9 = false → (RUN p (rg I s u1 u2 0 0 0)).1 = nI p) := by
  rcases Nat.lt_or_ge p L with q | q
  · obtain ⟨v, hv, ev⟩ := hc p q
    have et : tk (rg I s u1 u2 0 0 0) (c p) = tkRise (rg I s u1 u2 0 0 0) (c p) := by
      rw [chP_at q] at h0 h1
      rcases hs with rfl | rfl | rfl
      · rw [tk_0, if_neg (h0 rfl), if_neg (h1 (by decide))]
      · rw [tk_1, if_neg (h1 (by decide))]
      · rw [tk_2]
    rw [RUN_go hL (PD_rg h _ _ _ _ _ _) q, et, chP_at q, ev, tkRise_v I s u1 u2 0 0 0 hv]
    refine ⟨fun g => ?_, fun g => ?_⟩
    · simp only [if_pos g, if_true]
      exact ⟨q, trivial⟩
    · simp only [g, Bool.false_eq_true, if_false]
  · obtain rfl : p = L := by omega
    rw [chP_out (Nat.le_refl _)]
    refine ⟨fun g => ?_, fun _ => RUN_no hL h u1 u2 0 0 0 (by rcases hs with rfl | rfl | rfl <;> decide) (by rcases hs with rfl | rfl | rfl <;> decide)⟩
    rw [out_19.1] at g
    cases g
theorem stK (hL : L ≤ 64) (h : PD I c L) (hc : SG c L) {s u1 : Int32} {p : Nat} (hs : s = 0 ∨ s = 1) (h0 : s = 0 → chP c L p ≠ 105) (hp : p ≤ L) :
    (isW (chP c L (nx c L p 107) - 48) 1 9 = true → nx c L p 107 < L ∧ RUN p (rg I s u1 0 0 0 0) = RUN (nx c L p 107 + 1) (rg I 3 u1 (bi (decide (chP c L p = 107))) (chP c L (nx c L p 107) - 48) 0 0)) ∧ (isW (chP c L (nx c L p 107) - 48) 1 9 = false → (RUN p (rg I s u1 0 0 0 0)).1 = nI (nx c L p 107)) := by
  by_cases g : chP c L p = 107
  · have q : p < L := chP_lt g (by decide)
    have e : RUN p (rg I s u1 0 0 0 0) = RUN (p + 1) (rg I 2 u1 1 0 0 0) := by
      rw [RUN_go hL (PD_rg h _ _ _ _ _ _) q]
      have ec : c p = 107 := (chP_at (c := c) q).symm.trans g
      rw [ec]
      rcases hs with rfl | rfl
      · rw [tk_0, if_neg (show ¬ (107 : Int32) = 105 by decide), if_pos rfl]; rfl
      · rw [tk_1, if_pos rfl]; rfl
    rw [nx_y g, e, decide_eq_true g]
    exact stR hL h hc (Or.inr (Or.inr rfl)) (fun z => absurd z (by decide)) (fun z => absurd rfl z) (by omega)
  · rw [nx_n g, decide_eq_false g]
    exact stR hL h hc (by rcases hs with rfl | rfl <;> simp) h0 (fun _ => g) hp
theorem stA (hL : L ≤ 64) (h : PD I c L) (hc : SG c L) {j : Nat} (hj : j ≤ L) :
    (isW (chP c L (rpK c L j) - 48) 1 9 = true → rpK c L j < L ∧ RUN j (rg I 0 0 0 0 0 0) = RUN (rpK c L j + 1) (rg I 3 (isoP c L j) (kepP c L j) (chP c L (rpK c L j) - 48) 0 0)) ∧ (isW (chP c L (rpK c L j) - 48) 1 9 = false → (RUN j (rg I 0 0 0 0 0 0)).1 = nI (rpK c L j)) := by
  unfold rpK isoP kepP rpI
  by_cases g : chP c L j = 105
  · have q : j < L := chP_lt g (by decide)
    have e : RUN j (rg I 0 0 0 0 0 0) = RUN (j + 1) (rg I 1 1 0 0 0 0) := by
      rw [RUN_go hL (PD_rg h _ _ _ _ _ _) q]
      have ec : c j = 105 := (chP_at (c := c) q).symm.trans g
      rw [ec, tk_0, if_pos rfl]
      rfl
    rw [nx_y g, e, decide_eq_true g]
    exact stK hL h hc (Or.inr rfl) (fun z => absurd z (by decide)) (by omega)
  · rw [nx_n g, decide_eq_false g]
    exact stK hL h hc (Or.inl rfl) (fun _ => g) hj
/-- the comma, and the first digit of a load -/
theorem stB (hL : L ≤ 64) (h : PD I c L) (hc : SG c L) {u1 u2 u3 : Int32} {p : Nat} (hp : p ≤ L) :
    (chP c L p = 44 → isW (chP c L (p + 1) - 48) 1 9 = true → p + 1 < L ∧ RUN p (rg I 3 u1 u2 u3 0 0) = RUN (p + 2) (rg I 5 u1 u2 u3 (chP c L (p + 1) - 48) 0)) ∧ (chP c L p = 44 → isW (chP c L (p + 1) - 48) 1 9 = false → (RUN p (rg I 3 u1 u2 u3 0 0)).1 = nI (p + 1)) ∧ (chP c L p ≠ 44 → (RUN p (rg I 3 u1 u2 u3 0 0)).1 = nI p) := by
  have e : chP c L p = 44 → p < L ∧ RUN p (rg I 3 u1 u2 u3 0 0) = RUN (p + 1) (rg I 4 u1 u2 u3 0 0) := fun g => by
    have q : p < L := chP_lt g (by decide)
    refine ⟨q, ?_⟩
    rw [RUN_go hL (PD_rg h _ _ _ _ _ _) q]
    have ec : c p = 44 := (chP_at (c := c) q).symm.trans g
    rw [ec, tk_3, if_pos rfl]
    rfl
  refine ⟨fun g gw => ?_, fun g gw => ?_, fun g => ?_⟩
  · obtain ⟨q, e⟩ := e g
    rcases Nat.lt_or_ge (p + 1) L with q1 | q1
    · obtain ⟨v, hv, ev⟩ := hc (p + 1) q1
      rw [chP_at q1, ev] at gw ⊢
      rw [e, RUN_go hL (PD_rg h _ _ _ _ _ _) q1, ev, tk_4, (dg_ld0 v hv).1, (dg_ld0 v hv).2]
      simp only [if_pos gw, if_true]
      exact ⟨q1, trivial⟩
    · rw [chP_out q1, out_19.1] at gw
      cases gw
  · obtain ⟨q, e⟩ := e g
    rw [e]
    rcases Nat.lt_or_ge (p + 1) L with q1 | q1
    · obtain ⟨v, hv, ev⟩ := hc (p + 1) q1
      rw [chP_at q1, ev] at gw
      rw [RUN_go hL (PD_rg h _ _ _ _ _ _) q1, ev, tk_4, (dg_ld0 v hv).1, gw]
      rfl
    · obtain rfl : p + 1 = L := by omega
      exact RUN_no hL h _ _ _ _ _ (by decide) (by decide)
  · rcases Nat.lt_or_ge p L with q | q
    · rw [RUN_go hL (PD_rg h _ _ _ _ _ _) q, tk_3, if_neg (fun z => g ((chP_at (c := c) q).trans z))]
      rfl
    · obtain rfl : p = L := by omega
      exact RUN_no hL h _ _ _ _ _ (by decide) (by decide)
theorem nI_nneg {d : Nat} (hd : d < 100) : ¬ nI d < 0 := nI_pos (by omega)
theorem tdP_y {j : Nat} {lo9 hi : Int32} (g : isW (chP c L j - 48) lo9 hi = true) : tdP c L lo9 hi j = (chP c L j - 48, j + 1) := if_pos g
theorem tdP_n {j : Nat} {lo9 hi : Int32} (g : isW (chP c L j - 48) lo9 hi = false) : tdP c L lo9 hi j = (-1, j) := if_neg (by rw [g]; decide)
/-- the rest of a load -/
theorem stC (hL : L ≤ 64) (h : PD I c L) (hc : SG c L) (hn : n < 8) (h26 : I 26 0 = nI n) {u1 u2 u3 : Int32} {p : Nat} (hp : p < L) (g : isW (chP c L p - 48) 1 9 = true) :
    RUN (p + 1) (rg I 5 u1 u2 u3 (chP c L p - 48) 0) = RUN (tlP c L p).2 (rg I 5 u1 u2 u3 (tlP c L p).1 0) ∧ ((tlP c L p).2 < L → ldo (tlP c L p).1 (c (tlP c L p).2) = false) ∧ ¬ (tlP c L p).1 < 0 ∧ (tlP c L p).2 ≤ L ∧ 1 ≤ (tlP c L p).2 := by
  obtain ⟨v, hv, ev⟩ := hc p hp
  have ec : chP c L p = nI v := by rw [chP_at hp, ev]
  have g' : isW (nI v - 48) 1 9 = true := by rw [← ec]; exact g
  obtain ⟨d, hd, hd1, ed⟩ := dg_19 v hv g'
  have hle : (tlP c L p).2 ≤ L := tlP_le (by omega)
  have et : tdP c L 1 9 p = (nI d, p + 1) := by rw [tdP_y g, ec, ed]
  rw [ec, ed]
  unfold tlP at hle ⊢
  rw [et] at hle ⊢
  dsimp only at hle ⊢
  by_cases d1 : nI d = 1
  · rw [if_pos d1] at hle ⊢
    rw [d1]
    by_cases w : isW (chP c L (p + 1) - 48) 0 9 = true
    · rcases Nat.lt_or_ge (p + 1) L with q | q
      · obtain ⟨x, hx, ex⟩ := hc (p + 1) q
        have ec2 : chP c L (p + 1) = nI x := by rw [chP_at q, ex]
        rw [tdP_y w] at hle ⊢
        rw [ec2] at w hle ⊢
        obtain ⟨y, hy, ey⟩ := dg_09 x hx w
        rw [ey] at hle ⊢
        dsimp only at hle ⊢
        have h0 : (0 : Int32) ≤ nI y := nI_pos' (by omega)
        rw [if_pos h0] at hle ⊢
        dsimp only at hle ⊢
        have e10 : (10 : Int32) * 1 + nI y = nI (10 + y) := by rw [show (10 : Int32) * 1 = nI 10 by decide, nI_add]
        refine ⟨?_, fun q2 => ?_, ?_, hle, by omega⟩
        · rw [RUN_go hL (PD_rg h _ _ _ _ _ _) q, tk_5 hn h26, ex, dg_ld1 x hx, if_pos w, ey]
          rfl
        · obtain ⟨z, hz, ez⟩ := hc (p + 1 + 1) q2
          rw [e10, ez]
          exact dg_ld3 (10 + y) (by omega) (by omega) z hz
        · rw [e10]; exact nI_nneg (by omega)
      · rw [chP_out q, out_19.2.1] at w
        cases w
    · have w : isW (chP c L (p + 1) - 48) 0 9 = false := by simpa using w
      rw [tdP_n w] at hle ⊢
      dsimp only at hle ⊢
      rw [if_neg (by decide)] at hle ⊢
      refine ⟨rfl, fun q => ?_, by dsimp only; decide, hle, by dsimp only; omega⟩
      dsimp only at q ⊢
      obtain ⟨x, hx, ex⟩ := hc (p + 1) q
      rw [ex, dg_ld1 x hx, ← ex, ← chP_at (c := c) q]
      exact w
  · rw [if_neg d1] at hle ⊢
    by_cases d2 : nI d = 2
    · rw [if_pos d2] at hle ⊢
      rw [d2]
      by_cases w : isW (chP c L (p + 1) - 48) 0 0 = true
      · rcases Nat.lt_or_ge (p + 1) L with q | q
        · obtain ⟨x, hx, ex⟩ := hc (p + 1) q
          have ec2 : chP c L (p + 1) = nI x := by rw [chP_at q, ex]
          rw [tdP_y w] at hle ⊢
          rw [ec2] at w hle ⊢
          rw [dg_00 x hx w] at hle ⊢
          dsimp only at hle ⊢
          rw [if_pos (by decide)] at hle ⊢
          dsimp only at hle ⊢
          refine ⟨?_, fun q2 => ?_, by decide, hle, by omega⟩
          · rw [RUN_go hL (PD_rg h _ _ _ _ _ _) q, tk_5 hn h26, ex, dg_ld2 x hx, if_pos w, dg_00 x hx w]
            rfl
          · obtain ⟨z, hz, ez⟩ := hc (p + 1 + 1) q2
            rw [ez]
            exact dg_ld3 20 (by omega) (by omega) z hz
        · rw [chP_out q, out_19.2.2.1] at w
          cases w
      · have w : isW (chP c L (p + 1) - 48) 0 0 = false := by simpa using w
        rw [tdP_n w] at hle ⊢
        dsimp only at hle ⊢
        rw [if_neg (by decide)] at hle ⊢
        refine ⟨rfl, fun q => ?_, by dsimp only; decide, hle, by dsimp only; omega⟩
        dsimp only at q ⊢
        obtain ⟨x, hx, ex⟩ := hc (p + 1) q
        rw [ex, dg_ld2 x hx, ← ex, ← chP_at (c := c) q]
        exact w
    · rw [if_neg d2] at hle ⊢
      refine ⟨rfl, fun q => ?_, nI_nneg (by omega), hle, by dsimp only; omega⟩
      dsimp only at q ⊢
      obtain ⟨x, hx, ex⟩ := hc (p + 1) q
      rw [ex]
      refine dg_ld3 d (by omega) ?_ x hx
      have h1 : d ≠ 1 := fun z => d1 (by rw [z]; rfl)
      have h2 : d ≠ 2 := fun z => d2 (by rw [z]; rfl)
      omega
/-- the readings behind a load -/
theorem stD (hL : L ≤ 64) (h : PD I c L) (hc : SG c L) (hn : n < 8) (h26 : I 26 0 = nI n) {u1 u2 u3 u4 : Int32} : ∀ (k p : Nat) (m s : Int32), (s = 5 ∨ s = 7) → (s = 5 → p < L → ldo u4 (c p) = false) → p ≤ L → L < p + k →
    ((rdE c L n k (true, p, m)).1 = true → ∃ s2, (s2 = 5 ∨ s2 = 7) ∧ RUN p (rg I s u1 u2 u3 u4 m) = RUN (rdE c L n k (true, p, m)).2.1 (rg I s2 u1 u2 u3 u4 (rdE c L n k (true, p, m)).2.2) ∧ (s2 = 5 → (rdE c L n k (true, p, m)).2.1 < L → ldo u4 (c (rdE c L n k (true, p, m)).2.1) = false) ∧ chP c L (rdE c L n k (true, p, m)).2.1 ≠ 62 ∧ (rdE c L n k (true, p, m)).2.1 ≤ L) ∧ ((rdE c L n k (true, p, m)).1 = false → (RUN p (rg I s u1 u2 u3 u4 m)).1 = nI (rdE c L n k (true, p, m)).2.1)
  | 0, p, m, s, _, _, h1, h2 => by omega
  | k + 1, p, m, s, hs, hx, hp, hk => by
    have e0 : rdE c L n (k + 1) (true, p, m) = if decide (chP c L p = 62) = true then rdE c L n k (rdB c L n (true, p, m)) else (true, p, m) := rfl
    by_cases g : chP c L p = 62
    · have q : p < L := chP_lt g (by decide)
      have ec : c p = 62 := (chP_at (c := c) q).symm.trans g
      have e1 : RUN p (rg I s u1 u2 u3 u4 m) = RUN (p + 1) (rg I 6 u1 u2 u3 u4 m) := by
        rw [RUN_go hL (PD_rg h _ _ _ _ _ _) q]
        rcases hs with rfl | rfl
        · rw [tk_5 hn h26, hx rfl q, ec]
          rfl
        · rw [tk_7 hn h26, ec]
          rfl
      rw [e0, if_pos (decide_eq_true g), e1]
      have eb : rdB c L n (true, p, m) = if decide (¬ chP c L (p + 1) - 48 = nI n) = true then (if decide (¬ (tdP c L 0 7 (p + 1)).1 < 0) = true then (true, (tdP c L 0 7 (p + 1)).2, m ||| ((1 : Int32) <<< ((tdP c L 0 7 (p + 1)).1 &&& 31))) else (false, (tdP c L 0 7 (p + 1)).2, m ||| 0)) else (false, p + 1, m ||| 0) := by
        unfold rdB
        dsimp only
        rw [nx_y g]
      have enf : ∀ q : Nat × Int32, (rdE c L n k (false, q)) = (false, q) := fun q => rdE_false c L n q k
      by_cases w : isW (chP c L (p + 1) - 48) 0 7 = true
      · rcases Nat.lt_or_ge (p + 1) L with q1 | q1
        · obtain ⟨x, hx2, ex⟩ := hc (p + 1) q1
          have ec2 : chP c L (p + 1) = nI x := by rw [chP_at q1, ex]
          have w' : isW (nI x - 48) 0 7 = true := by rw [← ec2]; exact w
          by_cases gn : chP c L (p + 1) - 48 = nI n
          · rw [eb, if_neg (by simp [gn]), enf]
            refine ⟨fun z => (Bool.noConfusion z), fun _ => ?_⟩
            rw [ec2] at gn
            rw [RUN_go hL (PD_rg h _ _ _ _ _ _) q1, tk_6 h26, ex, if_pos w', if_pos gn]
            rfl
          · have h0 : ¬ (chP c L (p + 1) - 48) < 0 := by
              have := w
              simp only [isW, Bool.and_eq_true, decide_eq_true_eq] at this
              exact this.1
            rw [eb, if_pos (by simp [gn]), tdP_y w]
            dsimp only
            rw [if_pos (by simp only [h0, not_false_eq_true, decide_true])]
            have e2 : RUN (p + 1) (rg I 6 u1 u2 u3 u4 m) = RUN (p + 1 + 1) (rg I 7 u1 u2 u3 u4 (m ||| ((1 : Int32) <<< ((chP c L (p + 1) - 48) &&& 31)))) := by
              rw [ec2] at gn
              rw [RUN_go hL (PD_rg h _ _ _ _ _ _) q1, tk_6 h26, ex, if_pos w', if_neg gn, ec2]
              rfl
            rw [e2]
            exact stD hL h hc hn h26 k (p + 1 + 1) _ 7 (Or.inr rfl) (fun z => absurd z (by decide)) (by omega) (by omega)
        · rw [chP_out q1, out_19.2.2.2] at w
          cases w
      · have w : isW (chP c L (p + 1) - 48) 0 7 = false := by simpa using w
        have ef : rdB c L n (true, p, m) = (false, p + 1, m ||| 0) := by
          rw [eb, tdP_n w]
          dsimp only
          rw [if_neg (show ¬ decide (¬ (-1 : Int32) < 0) = true by decide)]
          split <;> rfl
        rw [ef, enf]
        refine ⟨fun z => (Bool.noConfusion z), fun _ => ?_⟩
        rcases Nat.lt_or_ge (p + 1) L with q1 | q1
        · rw [RUN_go hL (PD_rg h _ _ _ _ _ _) q1, tk_6 h26, if_neg (show ¬ isW (c (p + 1) - 48) 0 7 = true by rw [← chP_at (c := c) q1, w]; decide)]
          rfl
        · obtain rfl : p + 1 = L := by omega
          exact RUN_no hL h _ _ _ _ _ (by decide) (by decide)
    · rw [e0, if_neg (fun z => g (of_decide_eq_true z))]
      exact ⟨fun _ => ⟨s, hs, rfl, hx, g, hp⟩, fun z => (Bool.noConfusion z)⟩
/-- a whole island -/
theorem stI (hL : L ≤ 64) (h : PD I c L) (hc : SG c L) (hn : n < 8) (h26 : I 26 0 = nI n) {j : Nat} (hj : j ≤ L) :
    ((rpS c L n j).1 = true → ∃ s2, (s2 = 5 ∨ s2 = 7) ∧ RUN j (rg I 0 0 0 0 0 0) = RUN (rpS c L n j).2.1 (rg I s2 (isoP c L j) (kepP c L j) (rpR c L j).1 (rpL c L j).1 (rpS c L n j).2.2) ∧ (s2 = 5 → (rpS c L n j).2.1 < L → ldo (rpL c L j).1 (c (rpS c L n j).2.1) = false) ∧ chP c L (rpS c L n j).2.1 ≠ 62 ∧ (rpS c L n j).2.1 ≤ L) ∧ ((rpS c L n j).1 = false → (RUN j (rg I 0 0 0 0 0 0)).1 = nI (rpS c L n j).2.1) := by
  obtain ⟨a1, a2⟩ := stA hL h hc hj
  have neg1 : decide (¬ (-1 : Int32) < 0) = false := by decide
  by_cases g1 : isW (chP c L (rpK c L j) - 48) 1 9 = true
  · obtain ⟨hk, eA⟩ := a1 g1
    obtain ⟨v, hv, ev⟩ := hc _ hk
    have ecv : chP c L (rpK c L j) = nI v := by rw [chP_at hk, ev]
    obtain ⟨d, hd, hd1, ed⟩ := dg_19 v hv (by rw [← ecv]; exact g1)
    have eR : rpR c L j = (chP c L (rpK c L j) - 48, rpK c L j + 1) := tdP_y g1
    have hR0 : ¬ (chP c L (rpK c L j) - 48) < 0 := by rw [ecv, ed]; exact nI_nneg (by omega)
    obtain ⟨b1, b2, b3⟩ := stB (u1 := isoP c L j) (u2 := kepP c L j) (u3 := chP c L (rpK c L j) - 48) hL h hc (show rpK c L j + 1 ≤ L by omega)
    have eL : rpL c L j = if decide (chP c L (rpK c L j + 1) = 44) = true then tlP c L (nx c L (rpK c L j + 1) 44) else (-1, nx c L (rpK c L j + 1) 44) := by
      unfold rpL ldP
      rw [eR]
      dsimp only
      rw [if_neg hR0]
    by_cases g2 : chP c L (rpK c L j + 1) = 44
    · rw [if_pos (decide_eq_true g2), nx_y g2] at eL
      by_cases g3 : isW (chP c L (rpK c L j + 1 + 1) - 48) 1 9 = true
      · obtain ⟨hq, eB⟩ := b1 g2 g3
        obtain ⟨c1, c2, c3, c4, c5⟩ := stC (u1 := isoP c L j) (u2 := kepP c L j) (u3 := chP c L (rpK c L j) - 48) hL h hc hn h26 hq g3
        have eS : rpS c L n j = rdE c L n 64 (true, (tlP c L (rpK c L j + 1 + 1)).2, 0) := by
          unfold rpS
          rw [eL, decide_eq_true c3]
        rw [eS, eR, eL, eA, eB]
        rw [show rpK c L j + 1 + 2 = rpK c L j + 1 + 1 + 1 by omega, c1]
        exact stD hL h hc hn h26 64 _ 0 5 (Or.inl rfl) (fun _ => c2) c4 (by omega)
      · have g3 : isW (chP c L (rpK c L j + 1 + 1) - 48) 1 9 = false := by simpa using g3
        have et : tlP c L (rpK c L j + 1 + 1) = (-1, rpK c L j + 1 + 1) := by
          unfold tlP
          rw [tdP_n g3]
          rfl
        have eS : rpS c L n j = (false, rpK c L j + 1 + 1, 0) := by
          unfold rpS
          rw [eL, et]
          dsimp only
          rw [neg1]
          exact rdE_false c L n _ 64
        rw [eS, eA]
        exact ⟨fun z => (Bool.noConfusion z), fun _ => b2 g2 g3⟩
    · rw [if_neg (fun z => g2 (of_decide_eq_true z)), nx_n g2] at eL
      have eS : rpS c L n j = (false, rpK c L j + 1, 0) := by
        unfold rpS
        rw [eL]
        dsimp only
        rw [neg1]
        exact rdE_false c L n _ 64
      rw [eS, eA]
      exact ⟨fun z => (Bool.noConfusion z), fun _ => b3 g2⟩
  · have g1 : isW (chP c L (rpK c L j) - 48) 1 9 = false := by simpa using g1
    have eR : rpR c L j = (-1, rpK c L j) := tdP_n g1
    have eL : rpL c L j = (-1, rpK c L j) := by
      unfold rpL ldP
      rw [eR]
      rfl
    have eS : rpS c L n j = (false, rpK c L j, 0) := by
      unfold rpS
      rw [eL]
      dsimp only
      rw [neg1]
      exact rdE_false c L n _ 64
    rw [eS]
    exact ⟨fun z => (Bool.noConfusion z), fun _ => a2 g1⟩
end ISL
