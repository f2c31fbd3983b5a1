/-! a whole text, both ways -/
/-- what the island number i of a text is told to be -/
def TI5 (c : Nat → Int32) (L : Nat) (t : T5) (i : Nat) : T5 := (ffS c L (0, t) (i + 1)).2
def accB (c : Nat → Int32) (L : Nat) (t : T5) (i : Nat) (J : Mi) : Mi := addC J 26 i (TI5 c L t i).1 (TI5 c L t i).2.1 (TI5 c L t i).2.2.1 (TI5 c L t i).2.2.2.1 (TI5 c L t i).2.2.2.2
def acc (c : Nat → Int32) (L : Nat) (t : T5) (m : Nat) (I : Mi) : Mi := lp (accB c L t) m I
theorem acc_s (c : Nat → Int32) (L : Nat) (t : T5) (m : Nat) (I : Mi) : acc c L t (m + 1) I = addC (acc c L t m I) 26 m (TI5 c L t m).1 (TI5 c L t m).2.1 (TI5 c L t m).2.2.1 (TI5 c L t m).2.2.2.1 (TI5 c L t m).2.2.2.2 := by
  show accB c L t m (acc c L t m I) = _
  unfold accB
  rfl
theorem TI5_e (c : Nat → Int32) (L : Nat) (t : T5) (i : Nat) : TI5 c L t i = tPP c L i (ffS c L (0, t) i).1 := by unfold TI5; rw [ffS_s]
theorem acc_0 {c : Nat → Int32} {L : Nat} {t : T5} {I : Mi} (h : I 26 0 = 0) : ∀ m, acc c L t m I 26 0 = nI m
  | 0 => h
  | m + 1 => by rw [acc_s, addC_0, acc_0 h m, nI_1]
theorem acc_ne {c : Nat → Int32} {L : Nat} {t : T5} {I : Mi} {x : Nat} (h : x < 26 ∨ 30 < x) : ∀ m, acc c L t m I x = I x
  | 0 => rfl
  | m + 1 => by rw [acc_s, addC_ne (by omega), acc_ne h m]
theorem nI_i8 {i : Nat} (h : i < 8) : (nI (i + 1) < 8) ↔ i + 1 < 8 := by
  rw [show (8 : Int32) = nI 8 from rfl]
  exact nI_ltI (by omega) (by omega)
theorem nI_e8 {i : Nat} (h : i < 8) : (nI (i + 1) = 8) ↔ i + 1 = 8 := by
  rw [show (8 : Int32) = nI 8 from rfl]
  exact nI_eq (by omega) (by omega)
theorem textS {I0 : Mi} {c : Nat → Int32} {L : Nat} {t : T5} (hL : L ≤ 64) (h : PD I0 c L) (hc : SG c L) (h26 : I0 26 0 = 0) (k i : Nat) (hi : i + (k + 1) = 8)
    (ih : ∀ k', k = k' + 1 → (RUN (ffS c L (0, t) (i + 1)).1 (rg (acc c L t (i + 1) I0) 0 0 0 0 0 0)).1 = (ffM c L (k' + 1) (i + 1) (ffS c L (0, t) (i + 1))).1 ∧ ((ffM c L (k' + 1) (i + 1) (ffS c L (0, t) (i + 1))).1 = -6 → ∃ m, i + 1 < m ∧ m ≤ 8 ∧ (∀ u, i + 1 ≤ u → u < m → (ffS c L (0, t) u).1 < L ∧ (rpS c L u (ffS c L (0, t) u).1).1 = true) ∧ (ffS c L (0, t) m).1 = L ∧ ∀ x, x ≠ 25 → (RUN (ffS c L (0, t) (i + 1)).1 (rg (acc c L t (i + 1) I0) 0 0 0 0 0 0)).2 x = acc c L t m I0 x)) :
    (RUN (ffS c L (0, t) i).1 (rg (acc c L t i I0) 0 0 0 0 0 0)).1 = (ffM c L (k + 1) i (ffS c L (0, t) i)).1 ∧ ((ffM c L (k + 1) i (ffS c L (0, t) i)).1 = -6 → ∃ m, i < m ∧ m ≤ 8 ∧ (∀ u, i ≤ u → u < m → (ffS c L (0, t) u).1 < L ∧ (rpS c L u (ffS c L (0, t) u).1).1 = true) ∧ (ffS c L (0, t) m).1 = L ∧ ∀ x, x ≠ 25 → (RUN (ffS c L (0, t) i).1 (rg (acc c L t i I0) 0 0 0 0 0 0)).2 x = acc c L t m I0 x) := by
  have hi8 : i < 8 := by omega
  have hle : (ffS c L (0, t) i).1 ≤ L := ffS_le i
  have hPD : PD (acc c L t i I0) c L := by
    unfold PD
    rw [acc_ne (by omega), acc_ne (by omega)]
    exact h
  have hn : acc c L t i I0 26 0 = nI i := acc_0 h26 i
  have eT : TI5 c L t i = tPP c L i (ffS c L (0, t) i).1 := TI5_e c L t i
  have eS : (ffS c L (0, t) (i + 1)) = (nx c L (rpS c L i (ffS c L (0, t) i).1).2.1 59, tPP c L i (ffS c L (0, t) i).1) := ffS_s c L (0, t) i
  obtain ⟨g1, g2⟩ := stI hL hPD hc hi8 hn hle
  rw [show ffM c L (k + 1) i (ffS c L (0, t) i) = if (rpS c L i (ffS c L (0, t) i).1).1 = true then
      (if nI (rpS c L i (ffS c L (0, t) i).1).2.1 = nI L then (-6, (rpS c L i (ffS c L (0, t) i).1).2.1, tPP c L i (ffS c L (0, t) i).1)
       else if nI (i + 1) = 8 then (nI (rpS c L i (ffS c L (0, t) i).1).2.1, (rpS c L i (ffS c L (0, t) i).1).2.1, tPP c L i (ffS c L (0, t) i).1)
       else if decide (chP c L (rpS c L i (ffS c L (0, t) i).1).2.1 = 59) = true then ffM c L k (i + 1) (nx c L (rpS c L i (ffS c L (0, t) i).1).2.1 59, tPP c L i (ffS c L (0, t) i).1)
       else (nI (nx c L (rpS c L i (ffS c L (0, t) i).1).2.1 59), nx c L (rpS c L i (ffS c L (0, t) i).1).2.1 59, tPP c L i (ffS c L (0, t) i).1))
    else (nI (rpS c L i (ffS c L (0, t) i).1).2.1, (rpS c L i (ffS c L (0, t) i).1).2.1, tPP c L i (ffS c L (0, t) i).1) from rfl]
  by_cases gs : (rpS c L i (ffS c L (0, t) i).1).1 = true
  · rw [if_pos gs]
    obtain ⟨s2, hs2, e1, e2, e3, e4⟩ := g1 gs
    have hlt : (ffS c L (0, t) i).1 < L := rpS_lt gs
    have hstep : acc c L t (i + 1) I0 = addC (acc c L t i I0) 26 i (isoP c L (ffS c L (0, t) i).1) (kepP c L (ffS c L (0, t) i).1) (rpR c L (ffS c L (0, t) i).1).1 (rpL c L (ffS c L (0, t) i).1).1 (rpS c L i (ffS c L (0, t) i).1).2.2 := by
      rw [acc_s, eT]
    rw [e1]
    generalize hp : (rpS c L i (ffS c L (0, t) i).1).2.1 = p at e1 e2 e3 e4 eS ⊢
    rcases Nat.lt_or_ge p L with q | q
    · rw [if_neg (show ¬ nI p = nI L from fun z => by have := (nI_eq (by omega) (by omega)).mp z; omega)]
      have et : RUN p (rg (acc c L t i I0) s2 (isoP c L (ffS c L (0, t) i).1) (kepP c L (ffS c L (0, t) i).1) (rpR c L (ffS c L (0, t) i).1).1 (rpL c L (ffS c L (0, t) i).1).1 (rpS c L i (ffS c L (0, t) i).1).2.2) = if (c p = 59 ∧ i + 1 < 8) then RUN (p + 1) (rg (acc c L t (i + 1) I0) 0 0 0 0 0 0) else (nI p, rg (acc c L t i I0) s2 (isoP c L (ffS c L (0, t) i).1) (kepP c L (ffS c L (0, t) i).1) (rpR c L (ffS c L (0, t) i).1).1 (rpL c L (ffS c L (0, t) i).1).1 (rpS c L i (ffS c L (0, t) i).1).2.2) := by
        rw [RUN_go hL (PD_rg hPD _ _ _ _ _ _) q, hstep]
        have ek : tk (rg (acc c L t i I0) s2 (isoP c L (ffS c L (0, t) i).1) (kepP c L (ffS c L (0, t) i).1) (rpR c L (ffS c L (0, t) i).1).1 (rpL c L (ffS c L (0, t) i).1).1 (rpS c L i (ffS c L (0, t) i).1).2.2) (c p) = tkAE (acc c L t i I0) i s2 (isoP c L (ffS c L (0, t) i).1) (kepP c L (ffS c L (0, t) i).1) (rpR c L (ffS c L (0, t) i).1).1 (rpL c L (ffS c L (0, t) i).1).1 (rpS c L i (ffS c L (0, t) i).1).2.2 (c p) := by
          rcases hs2 with rfl | rfl
          · rw [tk_5 hi8 hn, e2 rfl q]; rfl
          · rw [tk_7 hi8 hn]
        rw [ek]
        unfold tkAE
        rw [if_neg (show ¬ c p = 62 from fun z => e3 ((chP_at q).trans z))]
        by_cases w : c p = 59
        · rw [if_pos w]
          by_cases w2 : i + 1 < 8
          · rw [if_pos ((nI_i8 hi8).mpr w2), if_pos (show c p = 59 ∧ i + 1 < 8 from ⟨w, w2⟩)]; rfl
          · rw [if_neg (fun z => w2 ((nI_i8 hi8).mp z)), if_neg (show ¬ (c p = 59 ∧ i + 1 < 8) from fun z => w2 z.2)]; rfl
        · rw [if_neg w, if_neg (show ¬ (c p = 59 ∧ i + 1 < 8) from fun z => w z.1)]; rfl
      rw [et]
      have no : ∀ (P : Prop), nI p = -6 → P := fun P z => absurd z (nI_ne_m6 (by omega))
      by_cases w8 : i + 1 = 8
      · rw [if_pos ((nI_e8 hi8).mpr w8), if_neg (fun z => by omega)]
        exact ⟨rfl, fun z => no _ z⟩
      · rw [if_neg (fun z => w8 ((nI_e8 hi8).mp z))]
        by_cases w : c p = 59
        · have w' : chP c L p = 59 := (chP_at q).trans w
          rw [if_pos (decide_eq_true w'), if_pos ⟨w, by omega⟩, ← eS]
          rw [nx_y w'] at eS
          have ep : p + 1 = (ffS c L (0, t) (i + 1)).1 := by rw [eS]
          rw [ep]
          obtain ⟨k', rfl⟩ : ∃ k', k = k' + 1 := ⟨k - 1, by omega⟩
          obtain ⟨h1, h2⟩ := ih k' rfl
          refine ⟨h1, fun z => ?_⟩
          obtain ⟨m, m1, m2, m3, m4, m5⟩ := h2 z
          refine ⟨m, by omega, m2, fun u u1 u2 => ?_, m4, m5⟩
          rcases Nat.lt_or_ge i u with r | r
          · exact m3 u r u2
          · rw [show u = i by omega]; exact ⟨hlt, gs⟩
        · have w' : ¬ chP c L p = 59 := fun z => w ((chP_at q).symm.trans z)
          rw [if_neg (fun z => w' (of_decide_eq_true z)), if_neg (fun z => w z.1), nx_n w']
          exact ⟨rfl, fun z => no _ z⟩
    · obtain rfl : p = L := by omega
      rw [if_pos rfl, RUN_end hL (PD_rg hPD _ _ _ _ _ _)]
      have ef : ffin (rg (acc c p t i I0) s2 (isoP c p (ffS c p (0, t) i).1) (kepP c p (ffS c p (0, t) i).1) (rpR c p (ffS c p (0, t) i).1).1 (rpL c p (ffS c p (0, t) i).1).1 (rpS c p i (ffS c p (0, t) i).1).2.2) = (-6, rg (acc c p t (i + 1) I0) s2 (isoP c p (ffS c p (0, t) i).1) (kepP c p (ffS c p (0, t) i).1) (rpR c p (ffS c p (0, t) i).1).1 (rpL c p (ffS c p (0, t) i).1).1 (rpS c p i (ffS c p (0, t) i).1).2.2) := by
        rw [hstep]
        unfold ffin endI2 endI
        rw [rg_r1, rg_r2, rg_r3, rg_r4, rg_r5, rg_r6, rg_ne (show (26 : Nat) ≠ 25 by omega), hn, ix_nI (by omega), rg_add]
        rcases hs2 with rfl | rfl
        · rw [if_pos rfl]
        · rw [if_neg (by decide), if_pos rfl]
      rw [ef]
      refine ⟨rfl, fun _ => ⟨i + 1, by omega, by omega, fun u u1 u2 => ?_, ?_, fun x hx => rg_ne hx⟩⟩
      · rw [show u = i by omega]; exact ⟨hlt, gs⟩
      · rw [eS]; exact nx_out (Nat.le_refl _) (by decide)
  · rw [if_neg gs]
    have gs' : (rpS c L i (ffS c L (0, t) i).1).1 = false := by simpa using gs
    refine ⟨g2 gs', fun z => absurd z (nI_ne_m6 ?_)⟩
    have := rpS_le (c := c) (num := i) hle
    omega
theorem textT {I0 : Mi} {c : Nat → Int32} {L : Nat} {t : T5} (hL : L ≤ 64) (h : PD I0 c L) (hc : SG c L) (h26 : I0 26 0 = 0) : ∀ k i, i + (k + 1) = 8 →
    (RUN (ffS c L (0, t) i).1 (rg (acc c L t i I0) 0 0 0 0 0 0)).1 = (ffM c L (k + 1) i (ffS c L (0, t) i)).1 ∧ ((ffM c L (k + 1) i (ffS c L (0, t) i)).1 = -6 → ∃ m, i < m ∧ m ≤ 8 ∧ (∀ u, i ≤ u → u < m → (ffS c L (0, t) u).1 < L ∧ (rpS c L u (ffS c L (0, t) u).1).1 = true) ∧ (ffS c L (0, t) m).1 = L ∧ ∀ x, x ≠ 25 → (RUN (ffS c L (0, t) i).1 (rg (acc c L t i I0) 0 0 0 0 0 0)).2 x = acc c L t m I0 x) := by
  intro k
  induction k with
  | zero =>
    intro i hi
    exact textS hL h hc h26 0 i hi (fun k' hk' => by omega)
  | succ k ih =>
    intro i hi
    exact textS hL h hc h26 (k + 1) i hi (fun k' hk' => by
      obtain rfl : k' = k := by omega
      exact ih (i + 1) (by omega))
/-- both find the same fault, and where there is none, the same islands -/
theorem ffC_ffM {I : Mi} {c : Nat → Int32} {L : Nat} (t : T5) (hL : L ≤ 64) (h : PD I c L) (hc : SG c L) : (ffC I).1 = (ffM c L 8 0 (0, t)).1 ∧ ((ffM c L 8 0 (0, t)).1 = -6 → ∃ m, 0 < m ∧ m ≤ 8 ∧ (∀ u, u < m → (ffS c L (0, t) u).1 < L ∧ (rpS c L u (ffS c L (0, t) u).1).1 = true) ∧ (ffS c L (0, t) m).1 = L ∧ ∀ x, x ≠ 25 → (ffC I).2 x = acc c L t m (clearC I 26) x) := by
  have h26 : clearC I 26 26 0 = 0 := by
    show lp (clrB 26) 8 (clrS I 26) 26 0 = 0
    rw [lp_fix (x := 26) (fun i J => by unfold clrB; rw [up_ne (by omega), up_ne (by omega), up_ne (by omega), up_ne (by omega), up_ne (by omega), up_ne (by omega), up_ne (by omega), up_ne (by omega), up_ne (by omega)])]
    unfold clrS
    simp [up]
  have hP : PD (clearC I 26) c L := by
    unfold PD
    rw [clearC_ne (by omega), clearC_ne (by omega)]
    exact h
  obtain ⟨h1, h2⟩ := textT (t := t) hL hP hc h26 7 0 (by omega)
  rw [show ffS c L (0, t) 0 = (0, t) from ffS_0 c L (0, t)] at h1 h2
  have e : ffC I = RUN 0 (rg (acc c L t 0 (clearC I 26)) 0 0 0 0 0 0) := by
    show ffR 64 0 (begI (clearC I 26)) = ffR (64 - 0) 0 _
    rw [rg_self _ 0]
    rfl
  rw [e]
  refine ⟨h1, fun z => ?_⟩
  obtain ⟨m, m1, m2, m3, m4, m5⟩ := h2 z
  exact ⟨m, m1, m2, fun u hu => m3 u (Nat.zero_le _) hu, m4, m5⟩
