/-! copies, rows that are moved, what each leaves alone -/
theorem mvM_at (x f y t : Nat) (I : Mi) (hxy : x ≠ y) : ∀ k, k < 96 → mvM x f y t I y (t + k) = I x (f + k) := by
  have key : ∀ n, (lp (fun k J => up J y (t + k) (J x (f + k))) n I) x = I x ∧ ∀ k, k < n → lp (fun k J => up J y (t + k) (J x (f + k))) n I y (t + k) = I x (f + k) := fun n => by
    induction n with
    | zero => exact ⟨rfl, fun k hk => absurd hk (Nat.not_lt_zero k)⟩
    | succ n ih =>
      obtain ⟨h1, h2⟩ := ih
      refine ⟨(up_ne hxy).trans h1, fun k hk => ?_⟩
      show up _ y (t + n) _ y (t + k) = _
      rw [uc4, h1]
      by_cases c : k = n
      · rw [if_pos (by omega), c]
      · rw [if_neg (by omega)]; exact h2 k (by omega)
  exact (key 96).2
theorem mvM_out (x f y t : Nat) (I : Mi) {z : Nat} (hz : z < t ∨ t + 96 ≤ z) : mvM x f y t I y z = I y z :=
  lp_ind (fun (k : Nat) (J : Mi) => J y z = I y z) rfl (fun k J hk ih => by
    show up J y (t + k) _ y z = _
    rw [uc4, if_neg (by omega)]
    exact ih)
theorem copyC_CE (I : Mi) {a b : Nat} (hab : a + 10 < b ∨ b + 10 < a) : CE (copyC I a b) a I b := by
  have hu : ∀ (X : Mi) (c d j : Nat) (v : Int32), c ≤ 10 → d ≤ 10 → up X (a + d) j v (b + c) = X (b + c) := fun X c d j v h1 h2 => up_ne (by omega)
  have hu0 : ∀ (X : Mi) (j : Nat) (v : Int32), up X a j v b = X b := fun X j v => up_ne (by omega)
  have hu1 : ∀ (X : Mi) (c j : Nat) (v : Int32), c ≤ 10 → up X a j v (b + c) = X (b + c) := fun X c j v h1 => up_ne (by omega)
  have hS : (∀ f, f = 0 ∨ f = 1 ∨ f = 2 ∨ f = 12 ∨ f = 13 ∨ f = 14 ∨ f = 15 ∨ f = 16 ∨ f = 17 → cpyS I a b a f = I b f) ∧ ∀ c, c ≤ 10 → cpyS I a b (b + c) = I (b + c) := by
    refine ⟨fun f hf => ?_, fun c hc => cpyS_ne (by omega)⟩
    unfold cpyS
    try dsimp only
    simp only [hu0]
    rcases hf with rfl | rfl | rfl | rfl | rfl | rfl | rfl | rfl | rfl <;> simp only [uc4, Nat.reduceEqDiff, reduceIte]
  have key : ∀ n, n ≤ 8 → (∀ x, x < a + 1 ∨ a + 9 < x → lp (cpyB a b) n (cpyS I a b) x = cpyS I a b x) ∧ ∀ c, 1 ≤ c → c ≤ 9 → ∀ i, i < n → lp (cpyB a b) n (cpyS I a b) (a + c) i = I (b + c) i := fun n => by
    induction n with
    | zero => exact fun _ => ⟨fun _ _ => rfl, fun c _ _ i hi => absurd hi (Nat.not_lt_zero i)⟩
    | succ n ih =>
      intro hn
      obtain ⟨h1, h2⟩ := ih (by omega)
      refine ⟨fun x hx => (cpyB_ne hx).trans (h1 x hx), fun c c1 c9 i hi => ?_⟩
      have e : ∀ d, d ≤ 10 → lp (cpyB a b) n (cpyS I a b) (b + d) = I (b + d) := fun d hd => (h1 (b + d) (by omega)).trans (hS.2 d hd)
      show cpyB a b n (lp (cpyB a b) n (cpyS I a b)) (a + c) i = _
      have g : cpyB a b n (lp (cpyB a b) n (cpyS I a b)) (a + c) i = if i = n then I (b + c) n else lp (cpyB a b) n (cpyS I a b) (a + c) i := by
        generalize lp (cpyB a b) n (cpyS I a b) = X at e ⊢
        unfold cpyB
        try dsimp only
        rcases (show c = 1 ∨ c = 2 ∨ c = 3 ∨ c = 4 ∨ c = 5 ∨ c = 6 ∨ c = 7 ∨ c = 8 ∨ c = 9 by omega) with rfl | rfl | rfl | rfl | rfl | rfl | rfl | rfl | rfl <;>
          simp only [hu, uc1, e, Nat.reduceEqDiff, Nat.reduceLeDiff, reduceIte, false_and, true_and]
      rw [g]
      by_cases ci : i = n
      · rw [if_pos ci, ci]
      · rw [if_neg ci]; exact h2 c c1 c9 i (by omega)
  refine ⟨fun f hf => ?_, fun c c1 c9 i hi => (key 8 (Nat.le_refl _)).2 c c1 c9 i hi⟩
  show lp (cpyB a b) 8 (cpyS I a b) a f = _
  rw [(key 8 (Nat.le_refl _)).1 a (by omega)]
  exact hS.1 f hf
/-! frames of the class's methods -/
theorem otwC_fr {I : Mi} {a i x : Nat} (h : x < a ∨ a + 10 < x) : otwC I a i x = I x := by
  unfold otwC
  split
  · dsimp only
    rw [up_ne (by omega), up_ne (by omega), up_ne (by omega)]
  · rfl
theorem lp_fr {f : Nat → Mi → Mi} {x : Nat} (h : ∀ i J, f i J x = J x) (n : Nat) (I : Mi) : lp f n I x = I x := lp_fix (fun i J => h i J) n I
theorem oswC_fr {I : Mi} {a x : Nat} (h : x < a ∨ a + 10 < x) : oswC I a x = I x := lp_fr (fun i J => by
  try dsimp only
  split
  · exact otwC_fr h
  · rfl) 8 I
theorem fallC_fr {I : Mi} {a x : Nat} (h : x < a ∨ a + 10 < x) : fallC I a x = I x := lp_fr (fun i J => by
  try dsimp only
  split
  · unfold keepC
    split
    · rw [up_ne (by omega), up_ne (by omega), up_ne (by omega)]
    · split
      · rw [up_ne (by omega), up_ne (by omega)]
      · rw [up_ne (by omega), up_ne (by omega), up_ne (by omega)]
  · rfl) 8 I
theorem riseC_fr {I : Mi} {a x : Nat} (h : x < a ∨ a + 10 < x) : riseC I a x = I x := lp_fr (fun i J => by
  unfold riB endRC
  try dsimp only
  split
  · split
    · rw [up_ne (by omega)]
    · split
      · rw [up_ne (by omega), up_ne (by omega), up_ne (by omega)]
      · rw [up_ne (by omega), up_ne (by omega)]
  · rfl) 8 I
theorem askC_fr {I : Mi} {a x : Nat} (h : x < a ∨ a + 10 < x) : askC I a x = I x := lp_fr (fun i J => by
  try dsimp only
  split
  · split
    · exact otwC_fr h
    · rfl
  · rfl) 8 I
theorem mvC_fr {I : Mi} {a x : Nat} (h : x < a ∨ a + 10 < x) : mvC I a x = I x := by
  have hb : ∀ J : Mi, begC J a x = J x := fun J => (begC_fr J a).1 x (by omega) (by omega) (by omega) (by omega)
  unfold mvC
  split
  · rw [hb, askC_fr h, riseC_fr h, fallC_fr h]
  · rw [hb, riseC_fr h, fallC_fr h]
theorem rdoC_fr {I : Mi} {a x : Nat} (h : x < a ∨ a + 10 < x) : rdoC I a x = I x := by
  unfold rdoC
  rw [lp_fr (fun i J => by
    unfold ro2C
    try dsimp only
    split
    · rw [up_ne (by omega), up_ne (by omega)]
    · rfl) 8 _]
  exact (ro1R_e I a).1 x (by omega)
theorem tickC_fr {I : Mi} {a x : Nat} (h : x < a ∨ a + 10 < x) : tickC I a x = I x := by
  unfold tickC
  try dsimp only
  rw [up_ne (by omega), up_ne (by omega), mvC_fr h, rdoC_fr h]
theorem passC_fr {I : Mi} {a x : Nat} (h : x < a ∨ a + 10 < x) (n : Nat) : passC I a n x = I x := lp_fr (fun i J => tickC_fr h) n I
/-! frames of the reference's -/
abbrev OM (x : Nat) : Prop := x ≠ 128 ∧ x ≠ 134 ∧ x ≠ 135
theorem wtM_fr {I : Mi} {i w x : Nat} (h : x ≠ 128) : wtM I i w x = I x := by
  unfold wtM
  rw [up_ne h, up_ne h, spn h]
theorem nvM_fr {I : Mi} {n x : Nat} (h : OM x) : nvM I n x = I x := by
  unfold nvM
  rw [lp_fr (fun i J => by
    unfold nv2
    split
    · rw [spn h.1, (nvI_e i J n).2.2.2.1 x h.1]
    · rw [spn h.1]) n _]
  exact (nvM1_e I n).1 x h.2.1 h.2.2
theorem faM_fr {I : Mi} {n x : Nat} (h : x ≠ 128) : faM I n x = I x := lp_fr (fun i J => by
  unfold fa1
  split
  · split
    · rw [spn h, up_ne h, spn h, spn h]
    · rw [spn h, up_ne h, spn h, spn h]
  · rfl) n I
theorem riM_fr {I : Mi} {n x : Nat} (h : x ≠ 128) : riM I n x = I x := lp_fr (fun i J => by
  unfold ri1
  split
  · split
    · rw [spn h, spn h, spn h]
    · rw [spn h]
  · rfl) n I
theorem akM_fr {I : Mi} {n x : Nat} (h : x ≠ 128) : akM I n x = I x := by
  unfold akM
  split
  · exact lp_fr (fun i J => by
      unfold ak1
      split
      · split
        · rfl
        · exact wtM_fr h
      · rfl) n I
  · rfl
theorem letM_fr0 {I : Mi} {n w x : Nat} (h : x ≠ 128) : letM I n w x = I x := by
  unfold letM lrI
  rw [up_ne h]
  refine lp_ind (fun (k : Nat) (p : Mi × Nat) => p.1 x = I x) rfl (fun k p hk ih => ?_)
  obtain ⟨X, l⟩ := p
  have hA : ∀ j, (lrA j (X, l)).1 x = I x := fun j => by
    unfold lrA
    try dsimp only
    rw [spn h, spn h]
    exact ih
  rw [lrB_e]
  split
  · exact hA _
  · split
    · dsimp only
      rw [up_ne h]
      exact ih
    · exact hA _
theorem tkM_fr {I : Mi} {x : Nat} (h : OM x) : tkM I x = I x := by
  unfold tkM preM
  try dsimp only
  rw [up_ne h.1, up_ne h.1, letM_fr0 h.1, akM_fr h.1, riM_fr h.1, faM_fr h.1, nvM_fr h]
theorem psM_fr {I : Mi} {x : Nat} (h : OM x) : ∀ t, psM I t x = I x
  | 0 => rfl
  | t + 1 => by rw [psM_s, tkM_fr h, psM_fr h t]
