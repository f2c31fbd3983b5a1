/-! the reference: read -/
theorem ffS_fst (c : Nat → Int32) (L : Nat) (t t2 : T5) : ∀ i, (ffS c L (0, t) i).1 = (ffS c L (0, t2) i).1
  | 0 => by rw [ffS_0, ffS_0]
  | i + 1 => by rw [ffS_s, ffS_s, ffS_fst c L t t2 i]
theorem ffS_le {c : Nat → Int32} {L : Nat} {t : T5} : ∀ i, (ffS c L (0, t) i).1 ≤ L
  | 0 => by rw [ffS_0]; exact Nat.zero_le _
  | i + 1 => by rw [ffS_s]; exact nx_le (rpS_le (ffS_le i)) (by decide)
theorem cmM_ne {I : Mi} {i : Nat} {iso keep r d m : Int32} {x : Nat} (h : x ≠ 128) : cmM I i iso keep r d m x = I x := by
  unfold cmM
  rw [up_ne h]
  simp only [sp]
  rw [up_ne h, up_ne h, up_ne h, up_ne h, up_ne h, lp_fix (fun i J => by rw [up_ne h])]
def zSt (I : Mi) (i : Nat) : Mi := lp (fun k J => up J 128 (k + 2) 0) i I
theorem zSt_s (I : Mi) (i : Nat) : zSt I (i + 1) = up (zSt I i) 128 (i + 2) 0 := by unfold zSt; rw [lp]
theorem zSt_ne {I : Mi} {i x : Nat} (h : x ≠ 128) : zSt I i x = I x := by unfold zSt; rw [lp_fix (fun i J => by rw [up_ne h])]
theorem zSt_2 (I : Mi) : ∀ i, zSt I (i + 1) 128 2 = 0
  | 0 => by rw [zSt_s]; simp [up]
  | i + 1 => by rw [zSt_s]; have := zSt_2 I i; simp only [up]; rw [if_neg (by omega)]; exact this
def rdJ (c : Nat → Int32) (L : Nat) (t : T5) (J0 : Mi) (i : Nat) : Mi := lp (fun i J => cmM (pT J (ffS c L (0, t) (i + 1)).1 (ffS c L (0, t) (i + 1)).2) i (ffS c L (0, t) (i + 1)).2.1 (ffS c L (0, t) (i + 1)).2.2.1 (ffS c L (0, t) (i + 1)).2.2.2.1 (ffS c L (0, t) (i + 1)).2.2.2.2.1 (ffS c L (0, t) (i + 1)).2.2.2.2.2) i J0
theorem rdJ_0 (c : Nat → Int32) (L : Nat) (t : T5) (J0 : Mi) : rdJ c L t J0 0 = J0 := by unfold rdJ; rw [lp]
theorem rdJ_s (c : Nat → Int32) (L : Nat) (t : T5) (J0 : Mi) (i : Nat) : rdJ c L t J0 (i + 1) = cmM (pT (rdJ c L t J0 i) (ffS c L (0, t) (i + 1)).1 (ffS c L (0, t) (i + 1)).2) i (ffS c L (0, t) (i + 1)).2.1 (ffS c L (0, t) (i + 1)).2.2.1 (ffS c L (0, t) (i + 1)).2.2.2.1 (ffS c L (0, t) (i + 1)).2.2.2.2.1 (ffS c L (0, t) (i + 1)).2.2.2.2.2 := by unfold rdJ; rw [lp]
theorem pT_ne {I : Mi} {j : Nat} {t : T5} {x : Nat} (h : x ≠ 127) : pT I j t x = I x := by funext y; simp only [pM]; rw [if_neg h]
theorem pT_self {J : Mi} {j : Nat} {t : T5} (h : J 127 10 = nI j) (h1 : J 127 11 = t.1) (h2 : J 127 12 = t.2.1) (h3 : J 127 13 = t.2.2.1) (h4 : J 127 14 = t.2.2.2.1) (h5 : J 127 15 = t.2.2.2.2) : pT J j t = J := by
  have := pM_self h
  rw [h1, h2, h3, h4, h5] at this
  exact this
theorem rdJ_pT (c : Nat → Int32) (L : Nat) (t : T5) (J0 : Mi) (i : Nat) : pT (rdJ c L t J0 (i + 1)) (ffS c L (0, t) (i + 1)).1 (ffS c L (0, t) (i + 1)).2 = rdJ c L t J0 (i + 1) := by
  have hv : ∀ y, rdJ c L t J0 (i + 1) 127 y = pT (rdJ c L t J0 i) (ffS c L (0, t) (i + 1)).1 (ffS c L (0, t) (i + 1)).2 127 y := fun y => by rw [rdJ_s, cmM_ne (by decide)]
  exact pT_self (hv 10) (hv 11) (hv 12) (hv 13) (hv 14) (hv 15)
theorem rdJ_2 {c : Nat → Int32} {L : Nat} {t : T5} {J0 : Mi} (h : J0 128 2 = 0) : ∀ i, rdJ c L t J0 i 128 2 = nI i
  | 0 => by rw [rdJ_0]; exact h
  | i + 1 => by rw [rdJ_s]; exact cmM_2
theorem rdJ_133 {c : Nat → Int32} {L : Nat} {t : T5} {J0 : Mi} : ∀ i, rdJ c L t J0 i 133 = J0 133
  | 0 => by rw [rdJ_0]
  | i + 1 => by rw [rdJ_s, cmM_ne (by decide), pT_ne (by decide)]; exact rdJ_133 i
theorem rdJ_7 {c : Nat → Int32} {L : Nat} {t : T5} {J0 : Mi} : ∀ i, rdJ c L t J0 i 127 7 = J0 127 7
  | 0 => by rw [rdJ_0]
  | i + 1 => by rw [rdJ_s, cmM_ne (by decide)]; exact rdJ_7 i
theorem tX5_readsIsland3 {l : Launch} {E : EE} {I : Mi} {F : Mr} (hl : LY F) {L : Nat} (hL64 : L ≤ 64) (hL : I 127 7 = nI L) {c : Nat → Int32} (hc : I 133 = c) {j : Nat} {t : T5} (hj : j ≤ L) (num : Nat) : CtF l E mX5_readsIsland [rf E 127, .int (nI num)] NT (pT I j t) F NT (some (.int (bi (rpS c L num j).1))) (pT I (rpS c L num j).2.1 (tPP c L num j)) F := by subst hc; exact tX5_readsIsland2 hl hL64 hL hj num
theorem tX5_isNext3 {l : Launch} {E : EE} {I : Mi} {F : Mr} (hl : LY F) {L : Nat} (hL64 : L ≤ 64) (hL : I 127 7 = nI L) {c : Nat → Int32} (hc : I 133 = c) {j : Nat} {t : T5} (hj : j < 1000) (x : Int32) : CtF l E mX5_isNext [rf E 127, .int x] NT (pT I j t) F NT (some (.int (bi (decide (chP c L j = x))))) (pT I (nx c L j x) t) F := by subst hc; exact tX5_isNext hl hL64 hL hj x
def yReadJ (I : Mi) (k L m : Nat) (t : T5) : Mi := zSt (recM (pT I (ffS (I 133) L (0, t) m).1 (ffS (I 133) L (0, t) m).2) k) 94
def yRead (I : Mi) (k L m j : Nat) (t9 : T5) : Int32 × Mi := if (ffM (I 133) L 8 0 (0, t9)).1 = -6 then
  (if 0 ≤ tmR (alS (I 133) L (0, (ffM (I 133) L 8 0 (0, t9)).2.2) m) m then (tmR (alS (I 133) L (0, (ffM (I 133) L 8 0 (0, t9)).2.2) m) m, up (pT (rdJ (I 133) L (ffS (I 133) L (0, (ffM (I 133) L 8 0 (0, t9)).2.2) m).2 (yReadJ I k L m (ffM (I 133) L 8 0 (0, t9)).2.2) m) (ffS (I 133) L (0, (ffS (I 133) L (0, (ffM (I 133) L 8 0 (0, t9)).2.2) m).2) m).1 (ffS (I 133) L (0, (ffS (I 133) L (0, (ffM (I 133) L 8 0 (0, t9)).2.2) m).2) m).2) 127 7 0)
   else (-1, pT I (ffS (I 133) L (0, (ffM (I 133) L 8 0 (0, t9)).2.2) m).1 (ffS (I 133) L (0, (ffM (I 133) L 8 0 (0, t9)).2.2) m).2))
  else (-3, pT I (ffM (I 133) L 8 0 (0, t9)).2.1 (ffM (I 133) L 8 0 (0, t9)).2.2)

theorem recM_ne9 (I : Mi) (k : Nat) {x : Nat} (h : x ≠ 130) (h2 : x ≠ 127) : recM I k x = I x := by
  unfold recM; split
  · rw [up_ne h2, mvM_ne h, up_ne h2, rshM_ne h]
  · rw [up_ne h2, mvM_ne h]
theorem yRead_at (I : Mi) (k L m : Nat) (t : T5) : up (zSt (recM (pT I (ffS (I 133) L (0, t) m).1 (ffS (I 133) L (0, t) m).2) k) 94) 127 10 0 = pT (yReadJ I k L m t) 0 (ffS (I 133) L (0, t) m).2 := by
  have hv : ∀ y, y ≠ 3 → yReadJ I k L m t 127 y = pT I (ffS (I 133) L (0, t) m).1 (ffS (I 133) L (0, t) m).2 127 y := fun y hy => by rw [yReadJ, zSt_ne (by decide), recM_127 _ _ _ hy]
  have e : pT (yReadJ I k L m t) (ffS (I 133) L (0, t) m).1 (ffS (I 133) L (0, t) m).2 = yReadJ I k L m t := pT_self (hv 10 (by decide)) (hv 11 (by decide)) (hv 12 (by decide)) (hv 13 (by decide)) (hv 14 (by decide)) (hv 15 (by decide))
  show up (yReadJ I k L m t) 127 10 (nI 0) = _
  rw [← e, pT_at, e]

