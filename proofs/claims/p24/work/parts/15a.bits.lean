/-! bits of a set of islands, loops as sums and unions -/
def bt (x : Int32) (k : Nat) : Bool := x.toBitVec.getLsbD k
theorem bt_ext {x y : Int32} (h : ∀ k, k < 32 → bt x k = bt y k) : x = y := by
  apply Int32.toBitVec_inj.mp
  apply BitVec.eq_of_getLsbD_eq
  intro i hi
  exact h i hi
theorem bt_or (x y : Int32) (k : Nat) : bt (x ||| y) k = (bt x k || bt y k) := by simp [bt]
theorem bt_and (x y : Int32) (k : Nat) : bt (x &&& y) k = (bt x k && bt y k) := by simp [bt]
theorem bt_xor (x y : Int32) (k : Nat) : bt (x ^^^ y) k = (bt x k ^^ bt y k) := by simp [bt]
theorem bt_0 (k : Nat) : bt 0 k = false := by simp [bt]
theorem bt_sh1 {i : Nat} (hi : i < 32) (k : Nat) : bt (sh1 i) k = decide (k = i) := by
  have h : ∀ i, i < 32 → (sh1 i).toBitVec = BitVec.twoPow 32 i := by decide +kernel
  unfold bt
  rw [h i hi, BitVec.getLsbD_twoPow]
  by_cases hk : k = i
  · subst hk; simp [hi]
  · have h2 : i ≠ k := fun q => hk q.symm
    simp [hk, h2]
theorem bt_shr (x : Int32) {i : Nat} (hi : i < 32) {k : Nat} (hk : k + i < 32) : bt (x >>> (nI i &&& 31)) k = bt x (k + i) := by
  have h : ∀ i, i < 32 → ((nI i &&& 31).toBitVec.smod 32#32).toNat = i := by decide +kernel
  unfold bt
  rw [Int32.toBitVec_shiftRight, BitVec.sshiftRight_eq']
  have h2 := h i hi
  simp only [BitVec.getLsbD_sshiftRight]
  have e : ((nI i &&& 31).toBitVec.smod (OfNat.ofNat 32)).toNat = i := h2
  rw [e]
  have h3 : ¬ 32 ≤ k := by omega
  simp only [h3, decide_false, Bool.not_false, Bool.true_and]
  rw [Nat.add_comm i k, if_pos hk]
theorem and1 (z : Int32) : z &&& 1 = if bt z 0 = true then 1 else 0 := by
  apply bt_ext
  intro k hk
  rw [bt_and]
  have h1 : ∀ k, k < 32 → bt 1 k = decide (k = 0) := by decide +kernel
  rw [h1 k hk]
  by_cases h0 : k = 0
  · subst h0
    cases bt z 0 <;> simp [bt_0, h1]
  · cases bt z 0 <;> simp [bt_0, h1 k hk, h0]
theorem isI_bt (x : Int32) {i : Nat} (hi : i < 32) : isI x (nI i) = bt x i := by
  unfold isI
  rw [and1, bt_shr x hi (by omega), Nat.zero_add]
  cases bt x i <;> simp
theorem rdM_bt (I : Mi) (j : Nat) {i : Nat} (hi : i < 32) : rdM I j (nI i) = bt (pt I j 6) i := by
  unfold rdM
  rw [and1, bt_shr _ hi (by omega), Nat.zero_add]
  cases bt (pt I j 6) i <;> simp
/-! loops -/
theorem lp_congr {α : Type} {f g : Nat → α → α} : ∀ {n : Nat}, (∀ i, i < n → ∀ s, f i s = g i s) → ∀ s, lp f n s = lp g n s
  | 0, _, _ => rfl
  | n + 1, h, s => by
    show f n (lp f n s) = g n (lp g n s)
    rw [lp_congr (fun i hi => h i (by omega)) s, h n (by omega)]
theorem lp_more {α : Type} {f : Nat → α → α} {n : Nat} : ∀ {m : Nat}, n ≤ m → (∀ i, n ≤ i → i < m → ∀ s, f i s = s) → ∀ s, lp f m s = lp f n s
  | 0, h, _, s => by rw [show n = 0 by omega]
  | m + 1, h, hf, s => by
    rcases Nat.lt_or_ge n (m + 1) with q | q
    · show f m (lp f m s) = _
      rw [hf m (by omega) (by omega), lp_more (by omega) (fun i h1 h2 => hf i h1 (by omega))]
    · rw [show n = m + 1 by omega]
theorem lp_ind {α : Type} (P : Nat → α → Prop) {f : Nat → α → α} : ∀ {n : Nat} {s : α}, P 0 s → (∀ i x, i < n → P i x → P (i + 1) (f i x)) → P n (lp f n s)
  | 0, s, h, _ => h
  | n + 1, s, h, hs => hs n _ (by omega) (lp_ind P h (fun i x hi => hs i x (by omega)))
theorem lp_ind2 {α β : Type} (P : Nat → α → β → Prop) {f : Nat → α → α} {g : Nat → β → β} : ∀ {n : Nat} {s : α} {t : β}, P 0 s t → (∀ i x y, i < n → P i x y → P (i + 1) (f i x) (g i y)) → P n (lp f n s) (lp g n t)
  | 0, s, t, h, _ => h
  | n + 1, s, t, h, hs => hs n _ _ (by omega) (lp_ind2 P h (fun i x y hi => hs i x y (by omega)))
theorem or_0 (x : Int32) : x ||| 0 = x := by apply bt_ext; intro k hk; rw [bt_or, bt_0, Bool.or_false]
theorem or_0' (x : Int32) : 0 ||| x = x := by apply bt_ext; intro k hk; rw [bt_or, bt_0, Bool.false_or]
/-- the union of the places where c holds -/
def un (c : Nat → Bool) (n : Nat) : Int32 := lp (fun i acc => acc ||| (if c i = true then sh1 i else 0)) n 0
theorem un_bt (c : Nat → Bool) (k : Nat) : ∀ n, n ≤ 32 → bt (un c n) k = (decide (k < n) && c k)
  | 0, _ => by simp [un, lp, bt_0]
  | n + 1, h => by
    show bt (un c n ||| (if c n = true then sh1 n else 0)) k = _
    rw [bt_or, un_bt c k n (by omega)]
    rcases Nat.lt_trichotomy k n with h1 | h1 | h1
    · have h2 : k < n + 1 := by omega
      have h3 : k ≠ n := by omega
      cases c n <;> simp [h1, h2, h3, bt_0, bt_sh1 (show n < 32 by omega)]
    · subst h1
      cases c k <;> simp [bt_0, bt_sh1 (show k < 32 by omega)]
    · have h2 : ¬ k < n + 1 := by omega
      have h3 : k ≠ n := by omega
      have h4 : ¬ k < n := by omega
      cases c n <;> simp [h2, h3, h4, bt_0, bt_sh1 (show n < 32 by omega)]
theorem un_more {c : Nat → Bool} {n m : Nat} (h : n ≤ m) (hc : ∀ i, n ≤ i → i < m → c i = false) : un c m = un c n := lp_more h (fun i h1 h2 s => by rw [hc i h1 h2]; exact or_0 s) 0
theorem un_congr {c d : Nat → Bool} {n : Nat} (h : ∀ i, i < n → c i = d i) : un c n = un d n := lp_congr (fun i hi s => by rw [h i hi]) 0
theorem setC_un (I : Mi) (a : Nat) (x : Int32) : setC I a x = un (fun i => decide (I (a + 4) i = x)) 8 := lp_congr (fun i hi s => by
  by_cases h : I (a + 4) i = x
  · simp [h]
  · simp [h, or_0]) 0
theorem readC_un (I : Mi) (a : Nat) (x : Int32) : readC I a x = un (fun i => isI (I (a + 3) i) x) 8 := lp_congr (fun i hi s => by
  by_cases h : isI (I (a + 3) i) x = true
  · rw [if_pos h, if_pos h]
  · rw [if_neg h, if_neg h, or_0]) 0
theorem setM_un (J : Mi) (n : Nat) (x : Int32) : setM J n x = un (fun i => decide (pt J i 7 = x)) n := rfl
theorem rdsM_un (J : Mi) (n : Nat) (x : Int32) : rdsM J n x = un (fun i => rdM J i x) n := rfl
/-- a sum over places -/
def sm (v : Nat → Int32) (n : Nat) : Int32 := lp (fun i acc => acc + v i) n 0
theorem sm_more {v : Nat → Int32} {n m : Nat} (h : n ≤ m) (hc : ∀ i, n ≤ i → i < m → v i = 0) : sm v m = sm v n := lp_more h (fun i h1 h2 s => by rw [hc i h1 h2, Int32.add_zero]) 0
theorem sm_congr {v w : Nat → Int32} {n : Nat} (h : ∀ i, i < n → v i = w i) : sm v n = sm w n := lp_congr (fun i hi s => by rw [h i hi]) 0
theorem sm_from (v : Nat → Int32) (x : Int32) : ∀ n, lp (fun i acc => acc + v i) n x = x + sm v n
  | 0 => by show x = x + 0; rw [Int32.add_zero]
  | n + 1 => by
    show lp (fun i acc => acc + v i) n x + v n = x + (sm v n + v n)
    rw [sm_from v x n, Int32.add_assoc]
theorem sm_upd {v w : Nat → Int32} {j : Nat} {d : Int32} (hj : w j = v j + d) (h : ∀ i, i ≠ j → w i = v i) : ∀ n, sm w n = sm v n + (if j < n then d else 0)
  | 0 => by simp [sm, lp]
  | n + 1 => by
    show sm w n + w n = sm v n + v n + _
    rw [sm_upd hj h n]
    rcases Nat.lt_trichotomy j n with q | q | q
    · rw [if_pos q, if_pos (by omega), h n (by omega), Int32.add_assoc, Int32.add_assoc, Int32.add_comm d]
    · subst q
      rw [if_neg (by omega), if_pos (by omega), hj, Int32.add_zero, Int32.add_assoc]
    · rw [if_neg (by omega), if_neg (by omega), h n (by omega), Int32.add_zero, Int32.add_zero]
theorem sumC_sm (I : Mi) (k : Nat) : sumC I k = sm (I k) 8 := rfl
theorem rloadC_sm (I : Mi) (a : Nat) : rloadC I a = sm (fun i => if I (a + 4) i = 4 then I (a + 2) i else 0) 8 := lp_congr (fun i hi s => by
  by_cases h : I (a + 4) i = 4
  · simp [h]
  · simp [h]) 0
theorem rlM_sm (J : Mi) (n : Nat) : rlM J n = sm (fun i => if pt J i 7 = 4 then pt J i 3 else 0) n := lp_congr (fun i hi s => by
  by_cases h : pt J i 7 = 4
  · simp [h]
  · simp [h]) 0
theorem sumTC_sm (I : Mi) (a : Nat) (m : Int32) : sumTC I a m = sm (fun i => if isI m (nI i) = true then I (a + 10) i else 0) 8 := lp_congr (fun i hi s => by
  dsimp only
  by_cases h : isI m (nI i) = true
  · rw [if_pos h, if_pos h]
  · rw [if_neg h, if_neg h, Int32.add_zero]) 0
theorem bitM_sm (v : Int32) : bitM v = sm (fun k => if bt v k = true then 1 else 0) 8 := lp_congr (fun k hk s => by
  have : (v >>> (nI k &&& 31)) &&& 1 = if bt v k = true then 1 else 0 := by
    rw [and1, bt_shr v (show k < 32 by omega) (by omega), Nat.zero_add]
  rw [this]) 0
/-! what the machine's own count of bits and the reference's say of small numbers -/
theorem bc_bit : ∀ v, v < 256 → bcJ (nI v) = bitM (nI v) := by decide +kernel
theorem bc_full : ∀ n, n < 9 → ∀ v, v < 2 ^ n → (bcJ (nI v) = nI n ↔ nI v = ((1 : Int32) <<< (nI n &&& 31)) - 1) := by decide +kernel
theorem nI_or_sh : ∀ i, i < 8 → ∀ v, v < 256 → nI v ||| sh1 i = nI (v ||| 2 ^ i) := by decide +kernel
theorem un_lt (c : Nat → Bool) : ∀ n, n ≤ 8 → ∃ v, v < 2 ^ n ∧ un c n = nI v
  | 0, _ => ⟨0, by decide, rfl⟩
  | n + 1, h => by
    obtain ⟨v, hv, e⟩ := un_lt c n (by omega)
    show ∃ w, w < 2 ^ (n + 1) ∧ (un c n ||| (if c n = true then sh1 n else 0)) = nI w
    rw [e]
    have h8 : 2 ^ n ≤ 128 := Nat.pow_le_pow_right (by decide) (show n ≤ 7 by omega)
    have h2 : 2 ^ (n + 1) = 2 ^ n * 2 := Nat.pow_succ ..
    cases hc : c n
    · exact ⟨v, by omega, by simp [or_0]⟩
    · refine ⟨v ||| 2 ^ n, Nat.or_lt_two_pow (by omega) (by omega), ?_⟩
      simp only [if_true]
      exact nI_or_sh n (by omega) v (by omega)
theorem and_lt {x : Int32} {m : Nat} (hm : m < 256) : ∃ v, v < 256 ∧ x &&& nI m = nI v := by
  have h : ∀ m, m < 256 → (nI m).toBitVec.toNat = m := by decide +kernel
  have h2 : (x &&& nI m).toBitVec.toNat ≤ m := by
    rw [Int32.toBitVec_and, BitVec.toNat_and, h m hm]
    exact Nat.and_le_right
  refine ⟨(x &&& nI m).toBitVec.toNat, by omega, ?_⟩
  apply Int32.toBitVec_inj.mp
  apply BitVec.eq_of_toNat_eq
  rw [h _ (by omega)]
theorem md_255 : ∀ s, s < 2304 → md256 (nI s) = nI (s % 256) ∧ nI s &&& 255 = nI (s % 256) := by decide +kernel
