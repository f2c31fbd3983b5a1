/-! what the law compares behind each act holds -/
def REL (I J : Mi) (n w O : Nat) : Prop := RR I 1 (J 128) n w ∧ LG I 127 J n w O
/-- whether i is among the first x of q -/
def mq (q : Nat → Nat) : Nat → Nat → Bool
  | 0, _ => false
  | x + 1, i => mq q x i || decide (q x = i)
theorem mq_iff (q : Nat → Nat) (i : Nat) : ∀ x, mq q x i = true ↔ ∃ j, j < x ∧ q j = i
  | 0 => ⟨fun h => Bool.noConfusion h, fun ⟨j, hj, _⟩ => absurd hj (Nat.not_lt_zero j)⟩
  | x + 1 => by
    rw [mq, Bool.or_eq_true, mq_iff q i x, decide_eq_true_eq]
    constructor
    · rintro (⟨j, hj, e⟩ | e)
      · exact ⟨j, by omega, e⟩
      · exact ⟨x, by omega, e⟩
    · rintro ⟨j, hj, e⟩
      by_cases c : j = x
      · exact Or.inr (by rw [← c]; exact e)
      · exact Or.inl ⟨j, by omega, e⟩
theorem mq_sm {q : Nat → Nat} {n : Nat} : ∀ x, (∀ j, j < x → q j < n) → (∀ j k, j < x → k < x → q j = q k → j = k) → sm (fun i => if mq q x i = true then 1 else 0) n = nI x
  | 0, _, _ => by
    have : ∀ n, sm (fun i => if mq q 0 i = true then (1 : Int32) else 0) n = 0 := fun n => by
      induction n with
      | zero => rfl
      | succ n ih => show sm _ n + (if mq q 0 n = true then 1 else 0) = 0; rw [ih]; rfl
    exact this n
  | x + 1, h1, h2 => by
    have ih := mq_sm (q := q) (n := n) x (fun j hj => h1 j (by omega)) (fun j k hj hk => h2 j k (by omega) (by omega))
    have hno : mq q x (q x) = false := by
      cases c : mq q x (q x) with
      | false => rfl
      | true =>
        obtain ⟨j, hj, e⟩ := (mq_iff q (q x) x).mp c
        have := h2 j x (by omega) (by omega) e
        omega
    rw [sm_upd (v := fun i => if mq q x i = true then (1 : Int32) else 0) (j := q x) (d := 1), if_pos (h1 x (by omega)), ih, nI_1]
    · rw [mq, hno, Bool.false_or, decide_eq_true rfl]
      decide
    · intro i hi
      rw [mq, decide_eq_false (fun z => hi z.symm), Bool.or_false]
/-- an island's place in the row of those that wait -/
theorem plc_eq {I J : Mi} {b n w O k : Nat} (h : LG I b J n w O) (hO : O < 1000000000) (hk : k < n) : plcL I b n k = plM J w (nI k) ∧ (plcL I b n k = -6 ∨ ∃ x, x < w ∧ plcL I b n k = nI x ∧ J 128 (8 + x) = nI k) := by
  obtain ⟨⟨n5, w8, e2, e7, eO⟩, hr, ⟨q, o, q1, q2, q3, q4⟩, hv⟩ := h
  have e3 := hr.2 k hk 7 (by omega)
  have ne : ∀ x y : Nat, x < 8 → y < 8 → nI x = nI y → x = y := fun x y h1 h2 h3 => (nI_eq (by omega) (by omega)).mp h3
  have hinj : ∀ i j, i < w → j < w → q i = q j → i = j := fun i j hi hj e => by
    have a1 := (q1 i hi).2.2.2
    have a2 := (q1 j hj).2.2.2
    rw [e, a2] at a1
    have a3 : o j = o i := (nI_eq (by have := (q2 j hj).2; omega) (by have := (q2 i hi).2; omega)).mp a1
    rcases Nat.lt_trichotomy i j with c | c | c
    · have := q3 i j c hj; omega
    · exact c
    · have := q3 j i c hi; omega
  by_cases c : pt J k 7 = 3
  · obtain ⟨x, hx, ex⟩ := q4 k hk c
    obtain ⟨x1, x2, x3, x4⟩ := q1 x hx
    rw [ex] at x4
    have e1 : plM J w (nI k) = nI x := pl_at (x1.trans (by rw [ex])) w (fun j hj hjx => by
      rw [(q1 j hj).1]
      intro z
      have := ne _ _ (by have := (q1 j hj).2.1; omega) (by omega) z
      exact hjx (hinj j x hj hx (this.trans ex.symm))) hx
    have e4 : plcL I b n k = nI x := by
      unfold plcL
      rw [if_pos (e3.trans c), ← mq_sm (q := q) (n := n) x (fun j hj => (q1 j (by omega)).2.1) (fun i j hi hj => hinj i j (by omega) (by omega))]
      refine sm_congr (v := fun i => if sL I b i 7 = 3 then (if sL I b k 10 ≤ sL I b i 10 then 0 else 1) else 0) (fun i hi => ?_)
      rw [hr.2 i hi 7 (by omega), x4]
      by_cases c3 : pt J i 7 = 3
      · obtain ⟨y, hy, ey⟩ := q4 i hi c3
        have y4 := (q1 y hy).2.2.2
        rw [ey] at y4
        rw [if_pos c3, y4]
        by_cases cy : y < x
        · rw [if_neg (nI_ge (q3 y x cy hx) (by have := (q2 x hx).2; omega)), if_pos ((mq_iff q i x).mpr ⟨y, cy, ey⟩)]
        · rw [if_pos (nI_le (by
            rcases Nat.lt_or_ge x y with z | z
            · exact Nat.le_of_lt (q3 x y z hy)
            · rw [show x = y by omega]; exact Nat.le_refl _) (by have := (q2 y hy).2; omega)), if_neg]
          intro z
          obtain ⟨j, hj, ej⟩ := (mq_iff q i x).mp z
          have := hinj j y (by omega) hy (ej.trans ey.symm)
          omega
      · rw [if_neg c3, if_neg]
        intro z
        obtain ⟨j, hj, ej⟩ := (mq_iff q i x).mp z
        have := (q1 j (by omega)).2.2.1
        rw [ej] at this
        exact c3 this
    exact ⟨e4.trans e1.symm, Or.inr ⟨x, hx, e4, x1.trans (by rw [ex])⟩⟩
  · have e4 : plcL I b n k = -6 := by
      unfold plcL
      rw [if_neg (by rw [e3]; exact c)]
    refine ⟨e4.trans (pl_no w (fun j hj z => ?_)).symm, Or.inl e4⟩
    obtain ⟨a1, a2, a3, -⟩ := q1 j hj
    rw [a1] at z
    rw [ne _ _ (by omega) (by omega) z] at a3
    exact c a3
/-- how many wait -/
theorem bits_w {I J : Mi} {b n w O : Nat} (h : LG I b J n w O) (hO : O < 1000000000) : bitR 6 (setL I b n 3) 0 = nI w := by
  have hwn := h.2.2.1.wn (by omega)
  obtain ⟨⟨n5, w8, e2, e7, eO⟩, hr, ⟨q, o, q1, q2, q3, q4⟩, hv⟩ := h
  have hinj : ∀ i j, i < w → j < w → q i = q j → i = j := fun i j hi hj e => by
    have a1 := (q1 i hi).2.2.2
    have a2 := (q1 j hj).2.2.2
    rw [e, a2] at a1
    have a3 : o j = o i := (nI_eq (by have := (q2 j hj).2; omega) (by have := (q2 i hi).2; omega)).mp a1
    rcases Nat.lt_trichotomy i j with c | c | c
    · have := q3 i j c hj; omega
    · exact c
    · have := q3 j i c hi; omega
  obtain ⟨v, v32, ev⟩ := setL_lt I b n5 3
  rw [ev, bitR_bc v v32, bc_bit v (by omega), ← ev, bitM_sm, setL_un]
  rw [← mq_sm (q := q) (n := 8) w (fun j hj => by have := (q1 j hj).2.1; omega) hinj]
  refine sm_congr (fun i hi => ?_)
  rw [un_bt _ _ _ (by omega)]
  by_cases c : i < n
  · rw [hr.2 i c 7 (by omega), decide_eq_true c, Bool.true_and]
    by_cases c3 : pt J i 7 = 3
    · obtain ⟨y, hy, ey⟩ := q4 i c c3
      rw [if_pos (decide_eq_true c3), if_pos ((mq_iff q i w).mpr ⟨y, hy, ey⟩)]
    · rw [if_neg (fun z => c3 (of_decide_eq_true z)), if_neg]
      intro z
      obtain ⟨j, hj, ej⟩ := (mq_iff q i w).mp z
      have := (q1 j hj).2.2.1
      rw [ej] at this
      exact c3 this
  · rw [decide_eq_false c, Bool.false_and, if_neg (by decide), if_neg]
    intro z
    obtain ⟨j, hj, ej⟩ := (mq_iff q i w).mp z
    have := (q1 j hj).2.1
    omega
theorem hasC_n {I J : Mi} {n w k : Nat} (h : RS I 1 (J 128) n w) (hk : k < n) : hasC I 1 (nI k) = true := by
  have h8 := h.1.1
  unfold hasC
  rw [h.1.2.1.1, isP_n (by omega)]
  simp only [Bool.true_and, decide_eq_true_eq]
  exact nI_ge hk (by omega)
theorem REL.same {I J : Mi} {n w O : Nat} (h : REL I J n w O) (hO : O < 1000000000) : SMO I n := by
  obtain ⟨hR, hG⟩ := h
  obtain ⟨⟨n5, w8, e2, e7, eO⟩, hr, -, hv⟩ := id hG
  obtain ⟨a0, a1, a2, a3⟩ := hR.1.1.2.1
  obtain ⟨v0, v1, v2, v3⟩ := hR.2.1
  refine ⟨fun k hk => ⟨hasC_n hR.1 hk, ⟨⟨?_, ?_, ?_, ?_, ?_⟩, ?_, ?_, ?_, ?_, ?_⟩, ⟨?_, ?_, ?_⟩, fun hp => ?_⟩, ⟨⟨?_, ?_, ?_, ?_, ?_, ?_⟩, ?_, ?_, ?_, ?_, ?_, ?_⟩, ?_⟩
  · rw [of_eq hR hk, hr.2 k hk 7 (by omega)]; exact swf_at (z := 0) rfl (by omega) (by omega)
  · rw [of_eq hR hk, hr.2 k hk 4 (by omega)]; exact swf_at (z := 1) rfl (by omega) (by omega)
  · rw [of_eq hR hk, hr.2 k hk 5 (by omega)]; exact swf_at (z := 2) rfl (by omega) (by omega)
  · rw [of_eq hR hk, show I 128 (12 * k) = pt J k 0 from hr.2 k hk 0 (by omega)]; exact swf_at (z := 3) rfl (by omega) (by omega)
  · rw [of_eq hR hk, hr.2 k hk 1 (by omega)]; exact swf_at (z := 4) rfl (by omega) (by omega)
  · rw [of_eq hR hk, hr.2 k hk 2 (by omega)]; exact swf_at (z := 5) rfl (by omega) (by omega)
  · rw [of_eq hR hk, hr.2 k hk 3 (by omega)]; exact swf_at (z := 6) rfl (by omega) (by omega)
  · rw [of_eq hR hk, hr.2 k hk 6 (by omega)]; exact swf_at (z := 7) rfl (by omega) (by omega)
  · rw [of_eq hR hk, rdsL_M (by omega) hr (show k < 8 by omega)]; exact swf_at (z := 8) rfl (by omega) (by omega)
  · rw [of_eq hR hk, (tel_eq hr hv hk).1]; exact swf_at (z := 9) rfl (by omega) (by omega)
  · rw [of_eq hR hk, hr.2 k hk 7 (by omega), hr.2 k hk 8 (by omega)]
    refine (swf_at (z := 10) rfl (by omega) (by omega)).trans ?_
    show (if decide (pt J k 7 = 4) = true then pt J k 8 else 0) = _
    by_cases c : pt J k 7 = 4
    · rw [if_pos (decide_eq_true c), if_pos c]
    · rw [if_neg (fun z => c (of_decide_eq_true z)), if_neg c]
  · rw [of_eq hR hk, (plc_eq hG hO hk).1]; exact swf_at (z := 11) rfl (by omega) (by omega)
  · rw [of_eq hR hk, hr.2 k hk 9 (by omega)]; exact swf_at (z := 12) rfl (by omega) (by omega)
  · rcases (plc_eq hG hO hk).2 with c | ⟨x, hx, c1, c2⟩
    · rw [c] at hp; exact absurd (by decide) hp
    · rw [c1, wait_eq hR.1]
      unfold yWait
      rw [e7, nI_dec (by omega), if_pos (show isW (nI x) 0 (nI (w - 1)) = true by
        unfold isW
        simp only [Bool.and_eq_true, decide_eq_true_eq]
        exact ⟨nI_pos (by omega), nI_nlt (by omega) (by omega)⟩), ix_nI (by omega), c2]
  · exact (swf_at (z := 0) rfl (by omega) (by omega)).trans (a0.trans (hG.law2).symm)
  · rw [setL_M hr]; exact (swf_at (z := 1) rfl (by omega) (by omega)).trans (RS_set hR.1 (by decide))
  · rw [setL_M hr]; exact (swf_at (z := 2) rfl (by omega) (by omega)).trans (RS_set hR.1 (by decide))
  · rw [setL_M hr]; exact (swf_at (z := 3) rfl (by omega) (by omega)).trans (RS_set hR.1 (by decide))
  · rw [setL_M hr]; exact (swf_at (z := 4) rfl (by omega) (by omega)).trans (RS_set hR.1 (by decide))
  · rw [loadL_M hr]; exact (swf_at (z := 5) rfl (by omega) (by omega)).trans (RS_rl hR.1)
  · rw [hr.1 6 (by omega)]; exact (swf_at (z := 6) rfl (by omega) (by omega)).trans v2
  · rw [hr.1 4 (by omega)]; exact (swf_at (z := 7) rfl (by omega) (by omega)).trans v3
  · rw [hr.1 5 (by omega)]; exact (swf_at (z := 8) rfl (by omega) (by omega)).trans v1
  · rw [hr.1 3 (by omega)]; exact (swf_at (z := 9) rfl (by omega) (by omega)).trans v0
  · rw [hr.1 0 (by omega)]; exact (swf_at (z := 10) rfl (by omega) (by omega)).trans a2
  · rw [hr.1 1 (by omega)]; exact (swf_at (z := 11) rfl (by omega) (by omega)).trans a3
  · rw [bits_w hG hO]
    unfold inqC
    rw [hR.1.2.2.1.1, if_pos (Int32.le_refl _), ite_self]
