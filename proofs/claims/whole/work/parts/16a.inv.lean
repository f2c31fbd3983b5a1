/-! the invariant between two calls of the law's loop -/
def RX (I : Mi) (a : Nat) (K : Kr) : Prop := ∃ n w, RR I a K n w
def IHs (I : Mi) (h : Nat → Nat) (k : Nat) : Prop := (k ≤ 6 ∧ I 37 1 = nI k ∧ I 127 3 = nI k) ∧ (∀ i j, i < 6 → j < 6 → h i = h j → i = j) ∧ ∀ j, j < k → RX I (h j) (fun y => I 130 (j * 96 + y))
def ISl (I : Mi) : Prop := ∀ z, z < 2 → isI (I 0 7) (nI z) = decide (¬ I 132 z = 0) ∧ (isI (I 0 7) (nI z) = true → RX I (105 + 11 * z) (fun y => I 131 (96 * z + y)))
def IPd (I : Mi) (pl : Nat) : Prop := pl ≤ 64 ∧ I 23 1 = nI pl ∧ I 127 7 = nI pl ∧ ∀ x, x < pl → I 24 x = I 133 x ∧ ∃ v, v < 128 ∧ I 133 x = nI v
def INV (I : Mi) (F : Mr) : Prop := LY F ∧ ∃ h k n w pl, HB F h ∧ IHs I h k ∧ RR I 1 (I 128) n w ∧ ISl I ∧ IPd I pl ∧ ∃ j, I 127 10 = nI j
theorem RX_obs {I2 I : Mi} {a b : Nat} {K2 K : Kr} (hC : CE I2 a I b) (hK : ∀ y, y < 96 → K2 y = K y) (h : RX I b K) : RX I2 a K2 := by
  obtain ⟨n, w, h⟩ := h
  exact ⟨n, w, RR_obs hC hK h⟩
theorem HB.r {F : Mr} {h : Nat → Nat} (hb : HB F h) {j : Nat} (hj : j < 6) : 39 ≤ h j ∧ h j ≤ 94 := by
  rcases (hb j hj).2 with e | e | e | e | e | e <;> omega
theorem HB.apart {F : Mr} {h : Nat → Nat} (hb : HB F h) (hi : ∀ i j, i < 6 → j < 6 → h i = h j → i = j) {i j : Nat} (h1 : i < 6) (h2 : j < 6) (hij : i ≠ j) : h i + 10 < h j ∨ h j + 10 < h i := by
  have hne : h i ≠ h j := fun e => hij (hi i j h1 h2 e)
  rcases (hb i h1).2 with e | e | e | e | e | e <;> rcases (hb j h2).2 with f | f | f | f | f | f <;> omega
theorem ISl.of {I2 I : Mi} (hc : ∀ x, x = 0 ∨ (105 ≤ x ∧ x ≤ 126) → I2 x = I x) (hm : ∀ x, x = 131 ∨ x = 132 → I2 x = I x) (h : ISl I) : ISl I2 := by
  intro z hz
  obtain ⟨h1, h2⟩ := h z hz
  rw [hc 0 (Or.inl rfl), hm 132 (Or.inr rfl)]
  refine ⟨h1, fun g => RX_obs (CE.same (fun x x1 x2 => hc x (Or.inr ⟨by omega, by omega⟩))) (fun y _ => by rw [hm 131 (Or.inl rfl)]) (h2 g)⟩
theorem IPd.of {I2 I : Mi} {pl : Nat} (h23 : I2 23 = I 23) (h24 : I2 24 = I 24) (h133 : I2 133 = I 133) (h7 : I2 127 7 = I 127 7) (h : IPd I pl) : IPd I2 pl := by
  unfold IPd at h ⊢
  rw [h23, h24, h133, h7]
  exact h
theorem IHs.of {I2 I : Mi} {F : Mr} {h : Nat → Nat} {k : Nat} (hb : HB F h) (hc : ∀ x, 37 ≤ x → x ≤ 104 → I2 x = I x) (hm : I2 130 = I 130) (h3 : I2 127 3 = I 127 3) (h0 : IHs I h k) : IHs I2 h k := by
  obtain ⟨⟨h1, h2, h4⟩, h5, h6⟩ := h0
  refine ⟨⟨h1, by rw [hc 37 (by omega) (by omega), h2], by rw [h3, h4]⟩, h5, fun j hj => ?_⟩
  have hr := hb.r (show j < 6 by omega)
  exact RX_obs (CE.same (fun x x1 x2 => hc x (by omega) (by omega))) (fun y _ => by rw [hm]) (h6 j hj)
/-- only places that nobody looks at later have changed -/
theorem INV_scr {I2 I : Mi} {F : Mr} (hc : ∀ x, (x ≤ 11 ∨ x = 23 ∨ x = 24 ∨ (37 ≤ x ∧ x ≤ 126) ∨ (130 ≤ x ∧ x ≤ 133)) → I2 x = I x) (h128 : ∀ y, y < 96 → I2 128 y = I 128 y) (h3 : I2 127 3 = I 127 3) (h7 : I2 127 7 = I 127 7) (hj : ∃ j, I2 127 10 = nI j) (h : INV I F) : INV I2 F := by
  obtain ⟨hl, hh, k, n, w, pl, hb, p1, p2, p3, p4, -⟩ := h
  refine ⟨hl, hh, k, n, w, pl, hb, p1.of hb (fun x x1 x2 => hc x (by omega)) (hc 130 (by omega)) h3, RR_obs (CE.same (fun x x1 x2 => hc x (by omega))) h128 p2, p3.of (fun x hx => hc x (by omega)) (fun x hx => hc x (by omega)), p4.of (hc 23 (by omega)) (hc 24 (by omega)) (hc 133 (by omega)) h7, hj⟩
theorem rshM_at (I : Mi) : (∀ i, i < 480 → rshM I 130 i = I 130 (i + 96)) ∧ ∀ i, 480 ≤ i → rshM I 130 i = I 130 i := by
  refine lp_ind (fun (k : Nat) (X : Mi) => (∀ i, i < k → X 130 i = I 130 (i + 96)) ∧ ∀ i, k ≤ i → X 130 i = I 130 i) ⟨fun i hi => absurd hi (Nat.not_lt_zero i), fun _ _ => rfl⟩ (fun k X hk ih => ⟨fun i hi => ?_, fun i hi => ?_⟩)
  · show up X 130 k _ 130 i = _
    rw [uc4]
    by_cases e : i = k
    · rw [if_pos e, ih.2 (k + 96) (by omega), e]
    · rw [if_neg e]; exact ih.1 i (by omega)
  · show up X 130 k _ 130 i = _
    rw [uc4, if_neg (by omega)]
    exact ih.2 i (by omega)
theorem recM_fr (I : Mi) (k : Nat) {x : Nat} (h : x ≠ 130) (h2 : x ≠ 127) : recM I k x = I x := recM_ne9 I k h h2
theorem recM_3 (I : Mi) {k : Nat} (hk : k ≤ 6) : recM I k 127 3 = nI (if k < 6 then k + 1 else 6) := by
  unfold recM
  by_cases e : k = 6
  · rw [if_pos e, uc4, if_pos rfl, if_neg (by omega)]; rfl
  · rw [if_neg e, uc4, if_pos rfl, if_pos (by omega)]
theorem recM_h (I : Mi) {k : Nat} (hk : k ≤ 6) : (k < 6 → (∀ y, y < 96 → recM I k 130 (k * 96 + y) = I 128 y) ∧ ∀ j, j < k → ∀ y, y < 96 → recM I k 130 (j * 96 + y) = I 130 (j * 96 + y)) ∧ (k = 6 → (∀ y, y < 96 → recM I k 130 (5 * 96 + y) = I 128 y) ∧ ∀ j, j < 5 → ∀ y, y < 96 → recM I k 130 (j * 96 + y) = I 130 ((j + 1) * 96 + y)) := by
  unfold recM
  refine ⟨fun h6 => ?_, fun h6 => ?_⟩
  · rw [if_neg (by omega), up_ne (show (130 : Nat) ≠ 127 by omega)]
    refine ⟨fun y hy => ?_, fun j hj y hy => ?_⟩
    · rw [mvM_at 128 0 130 (k * 96) I (by omega) y hy, Nat.zero_add]
    · exact mvM_out 128 0 130 (k * 96) I (by omega)
  · rw [if_pos h6, up_ne (show (130 : Nat) ≠ 127 by omega)]
    refine ⟨fun y hy => ?_, fun j hj y hy => ?_⟩
    · rw [show 5 * 96 + y = 480 + y by omega, mvM_at 128 0 130 480 _ (by omega) y hy, Nat.zero_add, up_ne (show (128 : Nat) ≠ 127 by omega), rshM_ne (by omega)]
    · rw [mvM_out 128 0 130 480 _ (by omega), up_ne (show (130 : Nat) ≠ 127 by omega), (rshM_at I).1 _ (by omega)]
      congr 1
      omega
theorem recI_fr {I : Mi} {F : Mr} {h : Nat → Nat} {k : Nat} (hb : HB F h) (hk : k ≤ 6) {x : Nat} (hx : x < 37 ∨ 104 < x) : recI I h k 1 x = I x := by
  unfold recI
  split
  · have hr := hb.r (show k < 6 by omega)
    rw [up_ne (by omega), copyC_ne (by omega)]
  · have hr := hb.r (show 0 < 6 by omega)
    rw [up_ne (by omega), copyC_ne (by omega), up_ne (by omega)]
theorem recI_37 (I : Mi) (h : Nat → Nat) {k : Nat} (hk : k ≤ 6) : recI I h k 1 37 1 = nI (if k < 6 then k + 1 else 6) := by
  unfold recI
  split
  · rw [uc4, if_pos rfl]
  · rw [uc4, if_pos rfl]; rfl
/-- a change is recorded, on both sides -/
theorem IHs_rec {I I2 I3 : Mi} {F : Mr} {h : Nat → Nat} {k n w : Nat} (hb : HB F h) (h0 : IHs I h k) (hR : RR I 1 (I 128) n w) (hc : ∀ x, 37 ≤ x → x ≤ 104 → I3 x = recI I h k 1 x) (h2 : I2 128 = I 128 ∧ I2 130 = I 130) (hm : I3 130 = recM I2 k 130) (h3 : I3 127 3 = recM I2 k 127 3) : IHs I3 (recH h k) (if k < 6 then k + 1 else 6) := by
  obtain ⟨⟨k6, e37, e127⟩, hi, hX⟩ := h0
  obtain ⟨m1, m2⟩ := recM_h I2 k6
  refine ⟨⟨by split <;> omega, by rw [hc 37 (by omega) (by omega), recI_37 I h k6], by rw [h3, recM_3 I2 k6]⟩, ?_, fun j hj => ?_⟩
  · unfold recH
    split
    · exact hi
    · intro i j h1 h2 e
      unfold drH at e
      split at e <;> split at e
      · have := hi _ _ (by omega) (by omega) e; omega
      · have := hi _ _ (by omega) (by omega) e; omega
      · have := hi _ _ (by omega) (by omega) e; omega
      · omega
  · by_cases k5 : k < 6
    · rw [if_pos k5] at hj
      have er : recH h k = h := if_pos k5
      have eI : recI I h k 1 = up (copyC I (h k) 1) 37 1 (nI (k + 1)) := if_pos k5
      rw [er]
      have hrk := hb.r k5
      have hrj := hb.r (show j < 6 by omega)
      obtain ⟨n1, n2⟩ := m1 k5
      have hCx : CE I3 (h j) (copyC I (h k) 1) (h j) := CE.same (fun x x1 x2 => by rw [hc x (by omega) (by omega), eI, up_ne (by omega)])
      by_cases e : j = k
      · subst e
        have h1 : RX (copyC I (h j) 1) (h j) (I 128) := RX_obs (copyC_CE I (by omega)) (fun _ _ => rfl) ⟨n, w, hR⟩
        exact RX_obs hCx (fun y hy => by show I3 130 (j * 96 + y) = I 128 y; rw [hm, n1 y hy, h2.1]) h1
      · have ha := hb.apart hi (show j < 6 by omega) k5 e
        have h1 : RX (copyC I (h k) 1) (h j) (fun y => I 130 (j * 96 + y)) := RX_obs (CE.same (fun x x1 x2 => copyC_ne (by omega))) (fun _ _ => rfl) (hX j (by omega))
        exact RX_obs hCx (fun y hy => by show I3 130 (j * 96 + y) = I 130 (j * 96 + y); rw [hm, n2 j (by omega) y hy, h2.2]) h1
    · have k6' : k = 6 := by omega
      rw [if_neg k5] at hj
      have er : recH h k = drH h := if_neg k5
      have eI : recI I h k 1 = up (copyC (up I 37 1 5) (h 0) 1) 37 1 6 := if_neg k5
      rw [er]
      have hr0 := hb.r (show 0 < 6 by omega)
      obtain ⟨n1, n2⟩ := m2 k6'
      have hCx : ∀ a, 39 ≤ a → a ≤ 94 → CE I3 a (copyC (up I 37 1 5) (h 0) 1) a := fun a a1 a2 => CE.same (fun x x1 x2 => by rw [hc x (by omega) (by omega), eI, up_ne (by omega)])
      unfold drH
      by_cases j5 : j < 5
      · rw [if_pos j5]
        have ha := hb.apart hi (show j + 1 < 6 by omega) (show 0 < 6 by omega) (by omega)
        have hrj := hb.r (show j + 1 < 6 by omega)
        have h1 : RX (copyC (up I 37 1 5) (h 0) 1) (h (j + 1)) (fun y => I 130 ((j + 1) * 96 + y)) := RX_obs (CE.same (fun x x1 x2 => by rw [copyC_ne (by omega), up_ne (by omega)])) (fun _ _ => rfl) (hX (j + 1) (by omega))
        exact RX_obs (hCx _ (by omega) (by omega)) (fun y hy => by show I3 130 (j * 96 + y) = I 130 ((j + 1) * 96 + y); rw [hm, n2 j j5 y hy, h2.2]) h1
      · rw [if_neg j5]
        obtain rfl : j = 5 := by omega
        have h1 : RX (copyC (up I 37 1 5) (h 0) 1) (h 0) (I 128) := RX_obs (copyC_CE _ (by omega)) (fun _ _ => rfl) (RX_obs (CE.same (fun x x1 x2 => up_ne (by omega))) (fun _ _ => rfl) ⟨n, w, hR⟩)
        exact RX_obs (hCx _ (by omega) (by omega)) (fun y hy => by show I3 130 (5 * 96 + y) = I 128 y; rw [hm, n1 y hy, h2.1]) h1
theorem INV_rec {I I2 I3 : Mi} {F : Mr} {h : Nat → Nat} {k n w pl pl2 n2 w2 : Nat} (hl : LY F) (hb : HB F h) (h0 : IHs I h k) (hR : RR I 1 (I 128) n w) (hS : ISl I)
    (hc : ∀ x, (x = 0 ∨ (37 ≤ x ∧ x ≤ 126)) → I3 x = recI I h k 1 x) (h2 : I2 128 = I 128 ∧ I2 130 = I 130 ∧ I2 131 = I 131 ∧ I2 132 = I 132) (hm : ∀ x, 130 ≤ x → x ≤ 132 → I3 x = recM I2 k x) (h3 : I3 127 3 = recM I2 k 127 3) (hP : IPd I3 pl2) (hj : ∃ j, I3 127 10 = nI j) (hR2 : RR I3 1 (I3 128) n2 w2) : INV I3 (recF F h k) := by
  have k6 := h0.1.1
  refine ⟨recF_LY hl, recH h k, _, n2, w2, pl2, recF_HB hb, IHs_rec hb h0 hR (fun x x1 x2 => hc x (by omega)) ⟨h2.1, h2.2.1⟩ (hm 130 (by omega) (by omega)) h3, hR2, hS.of (fun x hx => ?_) (fun x hx => ?_), hP, hj⟩
  · rw [hc x (by omega), recI_fr hb k6 (by omega)]
  · rw [hm x (by omega) (by omega), recM_fr I2 k (by omega) (by omega)]
    rcases hx with rfl | rfl
    · exact h2.2.2.1
    · exact h2.2.2.2
