/-! what some ticks would bring: the law's walk -/
section WC
variable {l : Launch} {E : EE} {X J : Mi} {F : Mr} {n w O : Nat}
theorem c_quiet (hl : LY F) (h : REL X J n w O) {t : Nat} (h1 : 1 ≤ t) (h30 : t ≤ 30) : ∃ X2, CtF l E mX4_quiet [rf E 0, .int (nI t)] NT X F NT (some (.int (quG J t n))) X2 F ∧ KE X2 X := by
  have hw : isW (nI t) 1 50 = true := by
    unfold isW
    simp only [Bool.and_eq_true, decide_eq_true_eq]
    exact ⟨nI_nlt (b := 1) h1 (by omega), nI_nlt (a := 50) (by omega) (by omega)⟩
  have c := tX4_quiet (l := l) (E := E) (I := X) hl (show t < 2147483648 by omega) hw
  obtain ⟨e1, e2⟩ := qui_ans (t := t) h.1
  rw [e1] at c
  exact ⟨_, c, KE_LK e2⟩
theorem c_allAwake (hl : LY F) (h : REL X J n w O) : ∃ (r : Int32) (X2 : Mi), CtF l E mX4_allAwake [rf E 0] NT X F NT (some (.int r)) X2 F ∧ r = (yAa J (J 128 0) n).1 ∧ KE X2 X := by
  have c := tX4_allAwake (l := l) (E := E) (I := X) hl
  have e := tuC_yAa (X 1 13) h.1.1
  have e0 : X 1 13 = J 128 0 := h.1.1.1.2.1.2.2.1
  have e2 : KE (tuC X (X 1 13) 200).2 X := KE_LK (fun x hx => tuC_fr hx)
  generalize tuC X (X 1 13) 200 = p at c e e2
  rw [e0] at e
  exact ⟨p.1, p.2, c, e, e2⟩
theorem c_least (hl : LY F) (h : REL X J n w O) {mo : Nat} (hm : mo ≤ 24) : ∃ (r : Int32) (X2 : Mi), CtF l E mX4_leastCurrent [rf E 0, .int (nI mo)] NT X F NT (some (.int r)) X2 F ∧ r = dnG J n mo 60 0 ∧ KE X2 X := by
  have hw : isW (nI mo) 0 200 = true := by
    unfold isW
    simp only [Bool.and_eq_true, decide_eq_true_eq]
    exact ⟨nI_pos (by omega), nI_nlt (a := 200) (by omega) (by omega)⟩
  have c := tX4_leastCurrent (l := l) (E := E) (I := X) hl (show mo ≤ 200 by omega) hw
  obtain ⟨e1, e2⟩ := lc_ans (m := mo) (by omega) 60 0 X h.1.1
  generalize lcR mo 60 0 X = p at c e1 e2
  exact ⟨p.1, p.2, c, e1, KE_LK e2⟩
theorem c_awake (h : REL X J n w O) (hO : O < 900000) (cur : Int32) : ∃ (r : Int32) (X2 : Mi), CtF l E mL_awake [.int cur, rf E 127, rf E 128, rf E 129, rf E 130, rf E 131] NT X F NT (some (.int r)) X2 F ∧ r = (yAa J cur n).1 ∧ KE X2 X := by
  obtain ⟨hA, e1, e2⟩ := aw_ans cur h.2 hO
  have c := tL_awake (l := l) (E := E) (I := X) (F := F) h.2.1.1 h.2.law2 cur hA
  generalize awL n 201 0 (aw1L X cur n) = p at c e1 e2
  exact ⟨awA n p, p.2, c, e1, e2⟩
theorem c_ifP (hl : LY F) (h : REL X J n w O) {t : Nat} (h1 : 1 ≤ t) (h30 : t ≤ 30) (v : Int32) : ∃ (r : Int32) (X2 : Mi), CtF l E mX4_ifPassed [rf E 0, .int (nI t), .int v] NT X F NT (some (.int r)) X2 F ∧ LK X2 X ∧ (v = 0 → r = psM (ip0 J) t 128 4 - J 128 4) ∧ (v = 1 → r = setM (psM (ip0 J) t) n 0) ∧ (v = 2 → r = psM (ip0 J) t 128 6) ∧ (v = 3 → r = sumM (psM (ip0 J) t) n) := by
  have hw : isW (nI t) 1 200 = true := by
    unfold isW
    simp only [Bool.and_eq_true, decide_eq_true_eq]
    exact ⟨nI_nlt (b := 1) h1 (by omega), nI_nlt (a := 200) (by omega) (by omega)⟩
  have c := tX4_ifPassed (l := l) (E := E) (I := X) hl (show t < 2147483648 by omega) hw v
  obtain ⟨e0, e1, e2, e3, e4⟩ := ifp_ans h.1 t
  refine ⟨_, _, c, e4 v, fun z => ?_, fun z => ?_, fun z => ?_, fun z => ?_⟩
  · rw [z]; exact e0
  · rw [z]; exact e1
  · rw [z]; exact e2
  · rw [z]; exact e3
end WC
section WD
variable {E : EE} {p : Program} {l : Launch} {e : Env} {s : State} {m : MethodId} {args : Array Value} {below : List Frame} {meth : Method} {c : Code} {I J : Mi} {F : Mr} {n w O t mo : Nat} {x qq : Int32} {s8 : Int32}
set_option maxRecDepth 100000 in
set_option maxHeartbeats 4000000 in
theorem w_end (C : Cx E mL_would.1.cls mL_would.2.1 mL_would.2.2.1 p s m args meth c) (hr : meth.sig.returnType = mL_would.2.2.2.1) (hl : LY F) (h1 : 1 ≤ t) (h30 : t ≤ 30) (hm : mo ≤ 24) (hO : O < 900000) {X : Mi} (hX : REL X J n w O) (hk : KE X I) {r11 : Int32} (h11 : r11 = dnG J n mo 60 0) {v13 : Option Value} : G E NT mL_would.2.2.1 p l e mL_would.2.2.2.2 s m args below meth c 0 0 (MQ below (QC E NT (fun r9 I9 F9 => r9 = some (.int 1) ∧ F9 = F ∧ KE I9 I)) args s mL_would.2.2.2.2.cells mL_would.2.2.2.2.slots (fun q => pb E ≤ q)) X F 320 [some (rf E 0), some (.int x), some (rf E 127), some (rf E 128), some (rf E 129), some (rf E 130), some (rf E 131), some (.int (nI t)), some (.int s8), some (.int (quG J t n)), some (.int (nI mo)), some (.int r11), some (.int 0), v13] [] := by
  obtain ⟨X1, c1, k1⟩ := c_quiet (l := l) (E := E) hl hX h1 h30
  have hX1 := hX.ke k1
  obtain ⟨r2, X2, c2, e2, k2⟩ := c_allAwake (l := l) (E := E) hl hX1
  have hX2 := hX1.ke k2
  have e0 : X2 127 0 = J 128 0 := hX2.2.2.1.1 0 (by omega)
  obtain ⟨r3, X3, c3, e3, k3⟩ := c_awake (l := l) (E := E) (F := F) hX2 hO (J 128 0)
  have hX3 := hX2.ke k3
  obtain ⟨r4, X4, c4, e4, k4⟩ := c_least (l := l) (E := E) hl hX3 hm
  refine g_aload_n C dL_would_320 rfl rfl ?_
  refine g_iload C dL_would_321 rfl ?_
  refine kL_68 C (show ob NT 0 4 by decide) c1 ⟨⟨Nat.le_of_ble_eq_true rfl, Nat.le_of_ble_eq_true rfl⟩, Nat.le_of_ble_eq_true rfl, Nat.le_of_ble_eq_true rfl⟩ (Nat.le_of_ble_eq_true rfl) dL_would_323 ?_
  refine g_iload C dL_would_326 rfl ?_
  refine g_icmp_ne C (tgt := 367) dL_would_328 (by decide) (fun c328 => absurd rfl c328) (fun _ => ?_)
  refine g_aload_n C dL_would_331 rfl rfl ?_
  refine kL_71 C (show ob NT 0 4 by decide) c2 ⟨⟨Nat.le_of_ble_eq_true rfl, Nat.le_of_ble_eq_true rfl⟩, Nat.le_of_ble_eq_true rfl, Nat.le_of_ble_eq_true rfl⟩ (Nat.le_of_ble_eq_true rfl) dL_would_332 ?_
  refine g_aload_n C dL_would_335 rfl rfl ?_
  refine g_iconst C (v := 0) dL_would_336 (by decide) ?_
  refine g_iald_j C (show ar NT 127 7 8 by decide) 0 rfl (by decide) (by decide) dL_would_337 ?_
  rw [e0]
  refine g_aload_n C dL_would_338 rfl rfl ?_
  refine g_aload_n C dL_would_339 rfl rfl ?_
  refine g_aload C dL_would_340 rfl ?_
  refine g_aload C dL_would_342 rfl ?_
  refine g_aload C dL_would_344 rfl ?_
  refine kL_64 C (by decide) c3 ⟨⟨Nat.le_of_ble_eq_true rfl, Nat.le_of_ble_eq_true rfl⟩, Nat.le_of_ble_eq_true rfl, Nat.le_of_ble_eq_true rfl⟩ (Nat.le_of_ble_eq_true rfl) dL_would_346 ?_
  refine g_icmp_ne C (tgt := 367) dL_would_349 (by decide) (fun c349 => absurd (e2.trans e3.symm) c349) (fun _ => ?_)
  refine g_aload_n C dL_would_352 rfl rfl ?_
  refine g_iload C dL_would_353 rfl ?_
  refine kL_75 C (show ob NT 0 4 by decide) c4 ⟨⟨Nat.le_of_ble_eq_true rfl, Nat.le_of_ble_eq_true rfl⟩, Nat.le_of_ble_eq_true rfl, Nat.le_of_ble_eq_true rfl⟩ (Nat.le_of_ble_eq_true rfl) dL_would_355 ?_
  refine g_iload C dL_would_358 rfl ?_
  refine g_icmp_ne C (tgt := 367) dL_would_360 (by decide) (fun c360 => absurd (e4.trans h11.symm) c360) (fun _ => ?_)
  refine g_iconst C (v := 1) dL_would_363 (by decide) ?_
  refine g_goto C (tgt := 368) dL_would_364 (by decide) ?_
  exact g_zret_1 C hr dL_would_368 ⟨rfl, rfl, k4.trans (k3.trans (k2.trans (k1.trans hk)))⟩
set_option maxRecDepth 100000 in
set_option maxHeartbeats 4000000 in
theorem w_least (C : Cx E mL_would.1.cls mL_would.2.1 mL_would.2.2.1 p s m args meth c) (hr : meth.sig.returnType = mL_would.2.2.2.1) (hm : mo ≤ 24) (hO : O < 900000) (k : ∀ X, REL X J n w O → KE X I → ∀ r11, r11 = dnG J n mo 60 0 → G E NT mL_would.2.2.1 p l e mL_would.2.2.2.2 s m args below meth c 0 0 (MQ below (QC E NT (fun r9 I9 F9 => r9 = some (.int 1) ∧ F9 = F ∧ KE I9 I)) args s mL_would.2.2.2.2.cells mL_would.2.2.2.2.slots (fun q => pb E ≤ q)) X F 320 [some (rf E 0), some (.int x), some (rf E 127), some (rf E 128), some (rf E 129), some (rf E 130), some (rf E 131), some (.int (nI t)), some (.int s8), some (.int qq), some (.int (nI mo)), some (.int r11), some (.int 0), none] []) : ∀ (c9 : Nat) (X : Mi) (r11 : Int32), c9 ≤ 60 → REL X J n w O → KE X I → r11 = dnG J n mo (60 - c9) c9 → G E NT mL_would.2.2.1 p l e mL_would.2.2.2.2 s m args below meth c 0 0 (MQ below (QC E NT (fun r9 I9 F9 => r9 = some (.int 1) ∧ F9 = F ∧ KE I9 I)) args s mL_would.2.2.2.2.cells mL_would.2.2.2.2.slots (fun q => pb E ≤ q)) X F 273 [some (rf E 0), some (.int x), some (rf E 127), some (rf E 128), some (rf E 129), some (rf E 130), some (rf E 131), some (.int (nI t)), some (.int s8), some (.int qq), some (.int (nI mo)), some (.int r11), some (.int (nI c9)), none] [] := by
  intro c9
  induction c9 with
  | zero =>
    intro X r11 hc hX hk h11
    refine g_iload C dL_would_273 rfl ?_
    refine g_if_le C (tgt := 320) dL_would_275 (by decide) (fun _ => ?_) (fun c9 => absurd c9 (by decide))
    exact k X hX hk r11 h11
  | succ c9 ih =>
    intro X r11 hc hX hk h11
    obtain ⟨r3, X3, c3, e3, k3⟩ := c_awake (l := l) (E := E) (F := F) hX hO (nI (c9 + 1))
    have hd : dnG J n mo (60 - c9) c9 = if (yAa J (nI (c9 + 1)) n).1 = -6 then r11 else if nI mo < (yAa J (nI (c9 + 1)) n).1 then r11 else nI (c9 + 1) := by
      rw [h11, show 60 - c9 = (60 - (c9 + 1)) + 1 by omega]
      rfl
    rw [← e3] at hd
    have hs := yAa_sign J (nI (c9 + 1)) n
    rw [← e3] at hs
    have hneg : r3 < 0 → r3 = -6 := fun z => by
      rcases hs with q | ⟨q, q1, q2⟩
      · exact q
      · rw [q2] at z; exact absurd z (nI_pos (by omega))
    have hneg2 : ¬ r3 < 0 → ¬ r3 = -6 := fun z q => z (by rw [q]; decide)
    have h0 : ¬ nI (c9 + 1) ≤ 0 := nI_nle (by omega) (by omega)
    refine g_iload C dL_would_273 rfl ?_
    refine g_if_le C (tgt := 320) dL_would_275 (by decide) (fun c275 => absurd c275 h0) (fun _ => ?_)
    refine g_iload C dL_would_278 rfl ?_
    refine g_aload_n C dL_would_280 rfl rfl ?_
    refine g_aload_n C dL_would_281 rfl rfl ?_
    refine g_aload C dL_would_282 rfl ?_
    refine g_aload C dL_would_284 rfl ?_
    refine g_aload C dL_would_286 rfl ?_
    refine kL_64 C (by decide) c3 ⟨⟨Nat.le_of_ble_eq_true rfl, Nat.le_of_ble_eq_true rfl⟩, Nat.le_of_ble_eq_true rfl, Nat.le_of_ble_eq_true rfl⟩ (Nat.le_of_ble_eq_true rfl) dL_would_288 ?_
    refine g_istore C dL_would_291 (by decide) rfl ?_
    refine g_iload C dL_would_293 rfl ?_
    refine g_if_lt C (tgt := 310) dL_would_295 (by decide) (fun c295 => ?_) (fun c295 => ?_)
    · skip
      refine g_iload C dL_would_310 rfl ?_
      refine g_istore C dL_would_312 (by decide) rfl ?_
      refine g_iinc C dL_would_314 rfl ((inc_m1 _).trans (nI_pred c9)) (by decide) rfl ?_
      refine g_goto C (tgt := 273) dL_would_317 (by decide) ?_
      exact G_forget 13 (ih X3 _ (by omega) (hX.ke k3) (k3.trans hk) (by rw [hd]; first | (rw [if_pos (hneg c295)]; done) | (rw [if_neg (hneg2 c295), if_pos c302]; done) | (rw [if_neg (hneg2 c295), if_neg c302]; done)))
    · skip
      refine g_iload C dL_would_298 rfl ?_
      refine g_iload C dL_would_300 rfl ?_
      refine g_icmp_gt C (tgt := 310) dL_would_302 (by decide) (fun c302 => ?_) (fun c302 => ?_)
      · skip
        refine g_iload C dL_would_310 rfl ?_
        refine g_istore C dL_would_312 (by decide) rfl ?_
        refine g_iinc C dL_would_314 rfl ((inc_m1 _).trans (nI_pred c9)) (by decide) rfl ?_
        refine g_goto C (tgt := 273) dL_would_317 (by decide) ?_
        exact G_forget 13 (ih X3 _ (by omega) (hX.ke k3) (k3.trans hk) (by rw [hd]; first | (rw [if_pos (hneg c295)]; done) | (rw [if_neg (hneg2 c295), if_pos c302]; done) | (rw [if_neg (hneg2 c295), if_neg c302]; done)))
      · skip
        refine g_iload C dL_would_305 rfl ?_
        refine g_goto C (tgt := 312) dL_would_307 (by decide) ?_
        refine g_istore C dL_would_312 (by decide) rfl ?_
        refine g_iinc C dL_would_314 rfl ((inc_m1 _).trans (nI_pred c9)) (by decide) rfl ?_
        refine g_goto C (tgt := 273) dL_would_317 (by decide) ?_
        exact G_forget 13 (ih X3 _ (by omega) (hX.ke k3) (k3.trans hk) (by rw [hd]; first | (rw [if_pos (hneg c295)]; done) | (rw [if_neg (hneg2 c295), if_pos c302]; done) | (rw [if_neg (hneg2 c295), if_neg c302]; done)))
set_option maxRecDepth 100000 in
set_option maxHeartbeats 4000000 in
theorem w_quiet (C : Cx E mL_would.1.cls mL_would.2.1 mL_would.2.2.1 p s m args meth c) (hr : meth.sig.returnType = mL_would.2.2.2.1) (h30 : t ≤ 30) (hO : O < 900000) (k : ∀ X, REL X J n w O → KE X I → G E NT mL_would.2.2.1 p l e mL_would.2.2.2.2 s m args below meth c 0 0 (MQ below (QC E NT (fun r9 I9 F9 => r9 = some (.int 1) ∧ F9 = F ∧ KE I9 I)) args s mL_would.2.2.2.2.cells mL_would.2.2.2.2.slots (fun q => pb E ≤ q)) X F 255 [some (rf E 0), some (.int x), some (rf E 127), some (rf E 128), some (rf E 129), some (rf E 130), some (rf E 131), some (.int (nI t)), some (.int s8), some (.int (quG J t n)), some (.int (nI n)), none, none, none] []) : ∀ (d i : Nat) (X : Mi), i + d = n → REL X J n w O → KE X I → G E NT mL_would.2.2.1 p l e mL_would.2.2.2.2 s m args below meth c 0 0 (MQ below (QC E NT (fun r9 I9 F9 => r9 = some (.int 1) ∧ F9 = F ∧ KE I9 I)) args s mL_would.2.2.2.2.cells mL_would.2.2.2.2.slots (fun q => pb E ≤ q)) X F 156 [some (rf E 0), some (.int x), some (rf E 127), some (rf E 128), some (rf E 129), some (rf E 130), some (rf E 131), some (.int (nI t)), some (.int s8), some (.int (quG J t i)), some (.int (nI i)), none, none, none] [] := by
  intro d
  induction d with
  | zero =>
    intro i X hd hX hk
    obtain rfl : i = n := by omega
    have hn : X 127 2 = nI i := hX.2.law2
    refine g_iload C dL_would_156 rfl ?_
    refine g_aload_n C dL_would_158 rfl rfl ?_
    refine g_iconst C (v := 2) dL_would_159 (by decide) ?_
    refine g_iald_j C (show ar NT 127 7 8 by decide) 2 rfl (by decide) (by decide) dL_would_160 ?_
    refine g_icmp_ge C (tgt := 255) dL_would_161 (by decide) (fun _ => ?_) (fun c161 => absurd (nI_lee hn) c161)
    exact k X hX hk
  | succ d ih =>
    intro i X hd hX hk
    have n5 := hX.2.1.1
    have hn : X 127 2 = nI n := hX.2.law2
    have e7 : sL X 127 i 7 = pt J i 7 := hX.2.2.1.2 i (by omega) 7 (by omega)
    have hq : quG J t (i + 1) = if pt J i 7 = 0 then quG J t i ||| (if psM (q0M J i) t 128 4 = J 128 4 then sh1 i else 0) else quG J t i := rfl
    refine g_iload C dL_would_156 rfl ?_
    refine g_aload_n C dL_would_158 rfl rfl ?_
    refine g_iconst C (v := 2) dL_would_159 (by decide) ?_
    refine g_iald_j C (show ar NT 127 7 8 by decide) 2 rfl (by decide) (by decide) dL_would_160 ?_
    refine g_icmp_ge C (tgt := 255) dL_would_161 (by decide) (fun c161 => absurd c161 (nI_nge hn (show i < n by omega) (by omega))) (fun _ => ?_)
    refine g_aload_n C dL_would_164 rfl rfl ?_
    refine g_bipush C (v := 12) dL_would_165 (by decide) ?_
    refine g_iload C dL_would_167 rfl ?_
    refine g_imul C dL_would_169 ?_
    refine g_bipush C (v := 7) dL_would_170 (by decide) ?_
    refine g_iadd C dL_would_172 ?_
    refine g_iald_j C (show ar NT 128 7 60 by decide) (12 * i + 7) (e_ix i 7 rfl) (by omega) (by decide) dL_would_173 ?_
    refine g_if_eq C (tgt := 180) dL_would_174 (by decide) (fun c174 => ?_) (fun c174 => ?_)
    · skip
      have hp := LG_pass LB9 (q0_LG hX.2 (show i < n by omega) (e7.symm.trans c174)) t (by have : n * t ≤ 5 * 30 := Nat.mul_le_mul n5 h30; omega)
      refine g_aload_n C dL_would_180 rfl rfl ?_
      refine g_aload_n C dL_would_181 rfl rfl ?_
      refine g_aload C dL_would_182 rfl ?_
      refine g_aload C dL_would_184 rfl ?_
      refine kL_50 C (by decide) tL_copy ⟨⟨Nat.le_of_ble_eq_true rfl, Nat.le_of_ble_eq_true rfl⟩, Nat.le_of_ble_eq_true rfl, Nat.le_of_ble_eq_true rfl⟩ (Nat.le_of_ble_eq_true rfl) dL_would_186 ?_
      refine g_aload C dL_would_189 rfl ?_
      refine g_bipush C (v := 12) dL_would_191 (by decide) ?_
      refine g_iload C dL_would_193 rfl ?_
      refine g_imul C dL_would_195 ?_
      refine g_bipush C (v := 7) dL_would_196 (by decide) ?_
      refine g_iadd C dL_would_198 ?_
      refine g_iconst C (v := 1) dL_would_199 (by decide) ?_
      refine g_iast_j C (show ar NT 130 7 60 by decide) (12 * i + 7) (e_ix i 7 rfl) (by omega) (by decide) dL_would_200 ?_
      refine g_iconst C (v := 0) dL_would_201 (by decide) ?_
      refine g_istore C dL_would_202 (by decide) rfl ?_
      refine G_loop (n := t) (fun i204 => [some (rf E 0), some (.int x), some (rf E 127), some (rf E 128), some (rf E 129), some (rf E 130), some (rf E 131), some (.int (nI t)), some (.int s8), some (.int (quG J t i)), some (.int (nI i)), some (.int (nI i204)), none, none]) (fun i204 => psL (up (cpyL X) 130 (12 * i + 7) 1) 129 n i204) (fun _ => F) rfl rfl rfl ?_ ?_
      · intro i204 hi204 ih204
        refine g_iload C dL_would_204 rfl ?_
        refine g_iload C dL_would_206 rfl ?_
        refine g_icmp_ge C (tgt := 226) dL_would_208 (by decide) (fun c208 => absurd c208 (nI_nge rfl hi204 (by omega))) (fun _ => ?_)
        refine g_aload C dL_would_211 rfl ?_
        refine g_aload C dL_would_213 rfl ?_
        refine g_aload C dL_would_215 rfl ?_
        refine kL_54 C (by decide) (tL_tick LB9 n5 (hp.2 i204 hi204)) ⟨⟨Nat.le_of_ble_eq_true rfl, Nat.le_of_ble_eq_true rfl⟩, Nat.le_of_ble_eq_true rfl, Nat.le_of_ble_eq_true rfl⟩ (Nat.le_of_ble_eq_true rfl) dL_would_217 ?_
        refine g_iinc C dL_would_220 rfl (nI_inc _) (by decide) rfl ?_
        refine g_goto C (tgt := 204) dL_would_223 (by decide) ?_
        exact G_cast ih204 rfl rfl rfl rfl
      · skip
        have hk2 : KE (psL (up (cpyL X) 130 (12 * i + 7) 1) 129 n t) X := (psL_KE _ t).trans (fun z hz => (up_ne (by omega)).trans (cpyL_KE X z hz))
        have e4 : psL (up (cpyL X) 130 (12 * i + 7) 1) 129 n t 129 4 = psM (q0M J i) t 128 4 := by obtain ⟨w3, O3, -, g3⟩ := hp.1; exact g3.2.1.1 4 (by omega)
        have f4 : psL (up (cpyL X) 130 (12 * i + 7) 1) 129 n t 127 4 = J 128 4 := by rw [hk2 127 (by omega)]; exact hX.2.2.1.1 4 (by omega)
        generalize psL (up (cpyL X) 130 (12 * i + 7) 1) 129 n t = Y at hk2 e4 f4 ⊢
        refine g_iload C dL_would_204 rfl ?_
        refine g_iload C dL_would_206 rfl ?_
        refine g_icmp_ge C (tgt := 226) dL_would_208 (by decide) (fun _ => ?_) (fun c208 => absurd (nI_lee rfl) c208)
        refine g_iload C dL_would_226 rfl ?_
        refine g_aload C dL_would_228 rfl ?_
        refine g_iconst C (v := 4) dL_would_230 (by decide) ?_
        refine g_iald_j C (show ar NT 129 7 8 by decide) 4 rfl (by decide) (by decide) dL_would_231 ?_
        refine g_aload_n C dL_would_232 rfl rfl ?_
        refine g_iconst C (v := 4) dL_would_233 (by decide) ?_
        refine g_iald_j C (show ar NT 127 7 8 by decide) 4 rfl (by decide) (by decide) dL_would_234 ?_
        refine g_icmp_ne C (tgt := 245) dL_would_235 (by decide) (fun c235 => ?_) (fun c235 => ?_)
        · skip
          refine g_iconst C (v := 0) dL_would_245 (by decide) ?_
          refine g_ior C dL_would_246 ?_
          refine g_istore C dL_would_247 (by decide) rfl ?_
          refine g_iinc C dL_would_249 rfl (nI_inc _) (by decide) rfl ?_
          refine g_goto C (tgt := 156) dL_would_252 (by decide) ?_
          exact G_forget 11 (G_cast (ih (i + 1) Y (by omega) (hX.ke hk2) (hk2.trans hk)) rfl rfl (by rw [hq, if_pos (e7.symm.trans c174)]; first | (rw [if_pos (e4.symm.trans (c235.trans f4))]; rfl) | (rw [if_neg (fun z => c235 (e4.trans (z.trans f4.symm)))]; rfl)) rfl)
        · skip
          refine g_iconst C (v := 1) dL_would_238 (by decide) ?_
          refine g_iload C dL_would_239 rfl ?_
          refine g_ishl C dL_would_241 ?_
          refine g_goto C (tgt := 246) dL_would_242 (by decide) ?_
          refine g_ior C dL_would_246 ?_
          refine g_istore C dL_would_247 (by decide) rfl ?_
          refine g_iinc C dL_would_249 rfl (nI_inc _) (by decide) rfl ?_
          refine g_goto C (tgt := 156) dL_would_252 (by decide) ?_
          exact G_forget 11 (G_cast (ih (i + 1) Y (by omega) (hX.ke hk2) (hk2.trans hk)) rfl rfl (by rw [hq, if_pos (e7.symm.trans c174)]; first | (rw [if_pos (e4.symm.trans (c235.trans f4))]; rfl) | (rw [if_neg (fun z => c235 (e4.trans (z.trans f4.symm)))]; rfl)) rfl)
    · skip
      refine g_goto C (tgt := 249) dL_would_177 (by decide) ?_
      refine g_iinc C dL_would_249 rfl (nI_inc _) (by decide) rfl ?_
      refine g_goto C (tgt := 156) dL_would_252 (by decide) ?_
      exact G_cast (ih (i + 1) X (by omega) hX hk) rfl rfl (by rw [hq, if_neg (fun z => c174 (e7.trans z))]; rfl) rfl
end WD
