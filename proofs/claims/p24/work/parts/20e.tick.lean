/-! the whole tick -/
theorem LB.t1 {b : Nat} (h : LB b) : b ≠ 131 := by have := h.t; omega

set_option maxRecDepth 100000 in
set_option maxHeartbeats 8000000 in
theorem tL_tick {l : Launch} {E : EE} {I : Mi} {F : Mr} {b : Nat} (hb : LB b) {n : Nat} (hn5 : n ≤ 5) (hT : TKO I b n)  : CtF l E mL_tick [rf E b, rf E (b + 1), rf E 131] NT I F NT none (tkL I b n) F := by
  obtain ⟨hn, hO⟩ := hT
  have hn1 : ∀ i, lp (tl1 b) i I b 2 = nI n := fun i => (lp_keep (fun J : Mi => J b 2) (fun k J => by rw [tl1_ne hb.t1]) i I).trans hn
  have hn2 : ∀ i, lp (tl2 b n) i (x1L I b n) b 2 = nI n := fun i => (lp_keep (fun J : Mi => J b 2) (fun k J => tl2_b2 b n k J) i _).trans (hn1 n)
  have hn3 : ∀ (k : Nat) (Y : Mi), Y b 2 = nI n → ∀ i, lp (nzL b k) i Y b 2 = nI n := fun k Y h i => (lp_keep (fun J : Mi => J b 2) (fun q J => nzL_b2 b k q J) i _).trans h
  have hn4 : x2L I b n b 2 = nI n := hn2 n
  have hn6 : ∀ i, lp (akB b n (setL (x2L I b n) b n 0)) i (x2L I b n) b 2 = nI n := fun i => (lp_keep (fun J : Mi => J b 2) (fun q J => akB_b2 b n _ q J) i _).trans hn4
  have hn7 : x3L I b n b 2 = nI n := (x3L_b2 I b n hb).trans hn
  refine CtF_of [some (rf E b), some (rf E (b + 1)), some (rf E 131), none, none, none, none, none] (by decide) rfl (Nat.le_of_ble_eq_true rfl) rfl (fun p e s m args below meth c C hr hname => ?_)
  refine g_iconst C (v := 0) dL_tick_0 (by decide) ?_
  refine g_istore_n C dL_tick_1 rfl (by decide) rfl ?_
  refine G_loop (n := n) (fun i => [some (rf E b), some (rf E (b + 1)), some (rf E 131), some (.int (nI i)), none, none, none, none]) (fun i => lp (tl1 b) i I) (fun _ => F) rfl rfl rfl ?_ ?_
  · intro i2 hi2 ih2
    refine g_iload_n C dL_tick_2 rfl rfl ?_
    refine g_aload_n C dL_tick_3 rfl rfl ?_
    refine g_iconst C (v := 2) dL_tick_4 (by decide) ?_
    refine g_iald_j C hb.q 2 rfl (by decide) (by decide) dL_tick_5 ?_
    refine g_icmp_ge C (tgt := 56) dL_tick_6 (by decide) (fun c6 => absurd c6 (nI_nge (hn1 i2) hi2 (by omega))) (fun _ => ?_)
    refine g_aload_n C dL_tick_9 rfl rfl ?_
    refine g_iload_n C dL_tick_10 rfl rfl ?_
    refine g_iload_n C dL_tick_11 rfl rfl ?_
    refine g_aload_n C dL_tick_12 rfl rfl ?_
    refine kL_10 C (by decide) (tL_tell hb (u := i2) (by omega)) ⟨⟨Nat.le_of_ble_eq_true rfl, Nat.le_of_ble_eq_true rfl⟩, Nat.le_of_ble_eq_true rfl, Nat.le_of_ble_eq_true rfl⟩ (Nat.le_of_ble_eq_true rfl) dL_tick_13 ?_
    refine g_iast_j C (show ar NT 131 7 16 by decide) (i2) rfl (by omega) (by decide) dL_tick_16 ?_
    refine g_aload_n C dL_tick_17 rfl rfl ?_
    refine g_bipush C (v := 8) dL_tick_18 (by decide) ?_
    refine g_iload_n C dL_tick_20 rfl rfl ?_
    refine g_iadd C dL_tick_21 ?_
    refine g_aload_n C dL_tick_22 rfl rfl ?_
    refine g_bipush C (v := 12) dL_tick_23 (by decide) ?_
    refine g_iload_n C dL_tick_25 rfl rfl ?_
    refine g_imul C dL_tick_26 ?_
    refine g_bipush C (v := 7) dL_tick_27 (by decide) ?_
    refine g_iadd C dL_tick_29 ?_
    refine g_iald_j C hb.s (12 * i2 + 7) (e_ix i2 7 rfl) (by omega) (by decide) dL_tick_30 ?_
    refine g_iconst C (v := 1) dL_tick_31 (by decide) ?_
    refine g_icmp_le C (tgt := 48) dL_tick_32 (by decide) (fun c32 => ?_) (fun c32 => ?_)
    · skip
      refine g_iconst C (v := 0) dL_tick_48 (by decide) ?_
      refine g_iast_j C (show ar NT 131 7 16 by decide) (8 + i2) (or_ix i2) (by omega) (by decide) dL_tick_49 ?_
      refine g_iinc C dL_tick_50 rfl (nI_inc _) (by decide) rfl ?_
      refine g_goto C (tgt := 2) dL_tick_53 (by decide) ?_
      exact G_cast ih2 (by show _ = tl1 b i2 _; simp only [tl1, noL, c32, ↓reduceIte]) rfl rfl rfl
    · skip
      refine g_aload_n C dL_tick_35 rfl rfl ?_
      refine g_bipush C (v := 12) dL_tick_36 (by decide) ?_
      refine g_iload_n C dL_tick_38 rfl rfl ?_
      refine g_imul C dL_tick_39 ?_
      refine g_iald_j C hb.s (12 * i2) (e_ix0 i2) (by omega) (by decide) dL_tick_40 ?_
      refine g_if_ne C (tgt := 48) dL_tick_41 (by decide) (fun c41 => ?_) (fun c41 => ?_)
      · skip
        refine g_iconst C (v := 0) dL_tick_48 (by decide) ?_
        refine g_iast_j C (show ar NT 131 7 16 by decide) (8 + i2) (or_ix i2) (by omega) (by decide) dL_tick_49 ?_
        refine g_iinc C dL_tick_50 rfl (nI_inc _) (by decide) rfl ?_
        refine g_goto C (tgt := 2) dL_tick_53 (by decide) ?_
        exact G_cast ih2 (by show _ = tl1 b i2 _; simp only [tl1, noL, c32, c41, ↓reduceIte]) rfl rfl rfl
      · skip
        refine g_iconst C (v := 1) dL_tick_44 (by decide) ?_
        refine g_goto C (tgt := 49) dL_tick_45 (by decide) ?_
        refine g_iast_j C (show ar NT 131 7 16 by decide) (8 + i2) (or_ix i2) (by omega) (by decide) dL_tick_49 ?_
        refine g_iinc C dL_tick_50 rfl (nI_inc _) (by decide) rfl ?_
        refine g_goto C (tgt := 2) dL_tick_53 (by decide) ?_
        exact G_cast ih2 (by show _ = tl1 b i2 _; simp only [tl1, noL, c32, c41, ↓reduceIte]) rfl rfl rfl
  · skip
    refine g_iload_n C dL_tick_2 rfl rfl ?_
    refine g_aload_n C dL_tick_3 rfl rfl ?_
    refine g_iconst C (v := 2) dL_tick_4 (by decide) ?_
    refine g_iald_j C hb.q 2 rfl (by decide) (by decide) dL_tick_5 ?_
    refine g_icmp_ge C (tgt := 56) dL_tick_6 (by decide) (fun _ => ?_) (fun c6 => absurd (nI_lee (hn1 n)) c6)
    refine g_iconst C (v := 0) dL_tick_56 (by decide) ?_
    refine g_istore_n C dL_tick_57 rfl (by decide) rfl ?_
    refine G_loop (n := n) (fun i => [some (rf E b), some (rf E (b + 1)), some (rf E 131), some (.int (nI i)), none, none, none, none]) (fun i => lp (tl2 b n) i (x1L I b n)) (fun _ => F) rfl rfl rfl ?_ ?_
    · intro i58 hi58 ih58
      refine g_iload_n C dL_tick_58 rfl rfl ?_
      refine g_aload_n C dL_tick_59 rfl rfl ?_
      refine g_iconst C (v := 2) dL_tick_60 (by decide) ?_
      refine g_iald_j C hb.q 2 rfl (by decide) (by decide) dL_tick_61 ?_
      refine g_icmp_ge C (tgt := 302) dL_tick_62 (by decide) (fun c62 => absurd c62 (nI_nge (hn2 i58) hi58 (by omega))) (fun _ => ?_)
      refine g_bipush C (v := 12) dL_tick_65 (by decide) ?_
      refine g_iload_n C dL_tick_67 rfl rfl ?_
      refine g_imul C dL_tick_68 ?_
      rw [e_ix0]
      refine g_istore C dL_tick_69 (by decide) rfl ?_
      refine g_aload_n C dL_tick_71 rfl rfl ?_
      refine g_iload C dL_tick_72 rfl ?_
      refine g_bipush C (v := 7) dL_tick_74 (by decide) ?_
      refine g_iadd C dL_tick_76 ?_
      refine g_iald_j C hb.s ((12 * i58) + 7) (nI_add (12 * i58) 7) (by omega) (by decide) dL_tick_77 ?_
      refine g_if_ne C (tgt := 170) dL_tick_78 (by decide) (fun c78 => ?_) (fun c78 => ?_)
      · skip
        refine g_aload_n C dL_tick_170 rfl rfl ?_
        refine g_iload C dL_tick_171 rfl ?_
        refine g_bipush C (v := 7) dL_tick_173 (by decide) ?_
        refine g_iadd C dL_tick_175 ?_
        refine g_iald_j C hb.s ((12 * i58) + 7) (nI_add (12 * i58) 7) (by omega) (by decide) dL_tick_176 ?_
        refine g_iconst C (v := 1) dL_tick_177 (by decide) ?_
        refine g_icmp_ne C (tgt := 240) dL_tick_178 (by decide) (fun c178 => ?_) (fun c178 => ?_)
        · skip
          refine g_aload_n C dL_tick_240 rfl rfl ?_
          refine g_iload C dL_tick_241 rfl ?_
          refine g_bipush C (v := 7) dL_tick_243 (by decide) ?_
          refine g_iadd C dL_tick_245 ?_
          refine g_iald_j C hb.s ((12 * i58) + 7) (nI_add (12 * i58) 7) (by omega) (by decide) dL_tick_246 ?_
          refine g_iconst C (v := 4) dL_tick_247 (by decide) ?_
          refine g_icmp_ne C (tgt := 296) dL_tick_248 (by decide) (fun c248 => ?_) (fun c248 => ?_)
          · skip
            refine g_iinc C dL_tick_296 rfl (nI_inc _) (by decide) rfl ?_
            refine g_goto C (tgt := 58) dL_tick_299 (by decide) ?_
            exact G_forget 4 (G_forget 5 (G_cast ih58 (by show _ = tl2 b n i58 _; first | (rw [tl2, if_pos c78]; done) | (rw [tl2, if_neg c78, if_pos c178, faL]; (try dsimp only); first | (rw [if_pos c196]; done) | (rw [if_neg c196, if_pos c220]; done) | (rw [if_neg c196, if_neg c220]; done)) | (rw [tl2, if_neg c78, if_neg c178, if_pos c248, riL]; (try dsimp only); first | (rw [if_neg c263]; done) | (rw [if_pos c263, if_neg c281]; done) | (rw [if_pos c263, if_pos c281]; done)) | (rw [tl2, if_neg c78, if_neg c178, if_neg c248]; done)) rfl rfl rfl))
          · skip
            refine g_aload_n C dL_tick_251 rfl rfl ?_
            refine g_iload C dL_tick_252 rfl ?_
            refine g_bipush C (v := 8) dL_tick_254 (by decide) ?_
            refine g_iadd C dL_tick_256 ?_
            refine g_dup2_11 C dL_tick_257 rfl rfl ?_
            refine g_iald_j C hb.s ((12 * i58) + 8) (nI_add (12 * i58) 8) (by omega) (by decide) dL_tick_258 ?_
            refine g_iconst C (v := 1) dL_tick_259 (by decide) ?_
            refine g_isub C dL_tick_260 ?_
            refine g_dupx2 C dL_tick_261 rfl rfl rfl ?_
            refine g_iast_j C hb.s ((12 * i58) + 8) (nI_add (12 * i58) 8) (by omega) (by decide) dL_tick_262 ?_
            refine g_if_ne C (tgt := 296) dL_tick_263 (by decide) (fun c263 => ?_) (fun c263 => ?_)
            · skip
              refine g_iinc C dL_tick_296 rfl (nI_inc _) (by decide) rfl ?_
              refine g_goto C (tgt := 58) dL_tick_299 (by decide) ?_
              exact G_forget 4 (G_forget 5 (G_cast ih58 (by show _ = tl2 b n i58 _; first | (rw [tl2, if_pos c78]; done) | (rw [tl2, if_neg c78, if_pos c178, faL]; (try dsimp only); first | (rw [if_pos c196]; done) | (rw [if_neg c196, if_pos c220]; done) | (rw [if_neg c196, if_neg c220]; done)) | (rw [tl2, if_neg c78, if_neg c178, if_pos c248, riL]; (try dsimp only); first | (rw [if_neg c263]; done) | (rw [if_pos c263, if_neg c281]; done) | (rw [if_pos c263, if_pos c281]; done)) | (rw [tl2, if_neg c78, if_neg c178, if_neg c248]; done)) rfl rfl rfl))
            · skip
              refine g_aload_n C dL_tick_266 rfl rfl ?_
              refine g_iload C dL_tick_267 rfl ?_
              refine g_bipush C (v := 7) dL_tick_269 (by decide) ?_
              refine g_iadd C dL_tick_271 ?_
              refine g_iconst C (v := 0) dL_tick_272 (by decide) ?_
              refine g_iast_j C hb.s ((12 * i58) + 7) (nI_add (12 * i58) 7) (by omega) (by decide) dL_tick_273 ?_
              refine g_aload_n C dL_tick_274 rfl rfl ?_
              refine g_iload C dL_tick_275 rfl ?_
              refine g_iconst C (v := 1) dL_tick_277 (by decide) ?_
              refine g_iadd C dL_tick_278 ?_
              refine g_iald_j C hb.s ((12 * i58) + 1) (nI_add (12 * i58) 1) (by omega) (by decide) dL_tick_279 ?_
              refine g_iconst C (v := 1) dL_tick_280 (by decide) ?_
              refine g_icmp_ne C (tgt := 296) dL_tick_281 (by decide) (fun c281 => ?_) (fun c281 => ?_)
              · skip
                refine g_iinc C dL_tick_296 rfl (nI_inc _) (by decide) rfl ?_
                refine g_goto C (tgt := 58) dL_tick_299 (by decide) ?_
                exact G_forget 4 (G_forget 5 (G_cast ih58 (by show _ = tl2 b n i58 _; first | (rw [tl2, if_pos c78]; done) | (rw [tl2, if_neg c78, if_pos c178, faL]; (try dsimp only); first | (rw [if_pos c196]; done) | (rw [if_neg c196, if_pos c220]; done) | (rw [if_neg c196, if_neg c220]; done)) | (rw [tl2, if_neg c78, if_neg c178, if_pos c248, riL]; (try dsimp only); first | (rw [if_neg c263]; done) | (rw [if_pos c263, if_neg c281]; done) | (rw [if_pos c263, if_pos c281]; done)) | (rw [tl2, if_neg c78, if_neg c178, if_neg c248]; done)) rfl rfl rfl))
              · skip
                refine g_aload_n C dL_tick_284 rfl rfl ?_
                refine g_iload C dL_tick_285 rfl ?_
                refine g_iconst C (v := 4) dL_tick_287 (by decide) ?_
                refine g_iadd C dL_tick_288 ?_
                refine g_aload_n C dL_tick_289 rfl rfl ?_
                refine g_iload C dL_tick_290 rfl ?_
                refine g_iconst C (v := 5) dL_tick_292 (by decide) ?_
                refine g_iadd C dL_tick_293 ?_
                refine g_iald_j C hb.s ((12 * i58) + 5) (nI_add (12 * i58) 5) (by omega) (by decide) dL_tick_294 ?_
                refine g_iast_j C hb.s ((12 * i58) + 4) (nI_add (12 * i58) 4) (by omega) (by decide) dL_tick_295 ?_
                refine g_iinc C dL_tick_296 rfl (nI_inc _) (by decide) rfl ?_
                refine g_goto C (tgt := 58) dL_tick_299 (by decide) ?_
                exact G_forget 4 (G_forget 5 (G_cast ih58 (by show _ = tl2 b n i58 _; first | (rw [tl2, if_pos c78]; done) | (rw [tl2, if_neg c78, if_pos c178, faL]; (try dsimp only); first | (rw [if_pos c196]; done) | (rw [if_neg c196, if_pos c220]; done) | (rw [if_neg c196, if_neg c220]; done)) | (rw [tl2, if_neg c78, if_neg c178, if_pos c248, riL]; (try dsimp only); first | (rw [if_neg c263]; done) | (rw [if_pos c263, if_neg c281]; done) | (rw [if_pos c263, if_pos c281]; done)) | (rw [tl2, if_neg c78, if_neg c178, if_neg c248]; done)) rfl rfl rfl))
        · skip
          refine g_aload_n C dL_tick_181 rfl rfl ?_
          refine g_iload C dL_tick_182 rfl ?_
          refine g_bipush C (v := 7) dL_tick_184 (by decide) ?_
          refine g_iadd C dL_tick_186 ?_
          refine g_iconst C (v := 2) dL_tick_187 (by decide) ?_
          refine g_iast_j C hb.s ((12 * i58) + 7) (nI_add (12 * i58) 7) (by omega) (by decide) dL_tick_188 ?_
          refine g_aload_n C dL_tick_189 rfl rfl ?_
          refine g_iload C dL_tick_190 rfl ?_
          refine g_iconst C (v := 1) dL_tick_192 (by decide) ?_
          refine g_iadd C dL_tick_193 ?_
          refine g_iald_j C hb.s ((12 * i58) + 1) (nI_add (12 * i58) 1) (by omega) (by decide) dL_tick_194 ?_
          refine g_iconst C (v := 1) dL_tick_195 (by decide) ?_
          refine g_icmp_ne C (tgt := 214) dL_tick_196 (by decide) (fun c196 => ?_) (fun c196 => ?_)
          · skip
            refine g_aload_n C dL_tick_214 rfl rfl ?_
            refine g_iload C dL_tick_215 rfl ?_
            refine g_iconst C (v := 4) dL_tick_217 (by decide) ?_
            refine g_iadd C dL_tick_218 ?_
            refine g_iald_j C hb.s ((12 * i58) + 4) (nI_add (12 * i58) 4) (by omega) (by decide) dL_tick_219 ?_
            refine g_if_eq C (tgt := 230) dL_tick_220 (by decide) (fun c220 => ?_) (fun c220 => ?_)
            · skip
              refine g_aload_n C dL_tick_230 rfl rfl ?_
              refine g_iload C dL_tick_231 rfl ?_
              refine g_iconst C (v := 4) dL_tick_233 (by decide) ?_
              refine g_iadd C dL_tick_234 ?_
              refine g_iconst C (v := 0) dL_tick_235 (by decide) ?_
              refine g_iast_j C hb.s ((12 * i58) + 4) (nI_add (12 * i58) 4) (by omega) (by decide) dL_tick_236 ?_
              refine g_goto C (tgt := 296) dL_tick_237 (by decide) ?_
              refine g_iinc C dL_tick_296 rfl (nI_inc _) (by decide) rfl ?_
              refine g_goto C (tgt := 58) dL_tick_299 (by decide) ?_
              exact G_forget 4 (G_forget 5 (G_cast ih58 (by show _ = tl2 b n i58 _; first | (rw [tl2, if_pos c78]; done) | (rw [tl2, if_neg c78, if_pos c178, faL]; (try dsimp only); first | (rw [if_pos c196]; done) | (rw [if_neg c196, if_pos c220]; done) | (rw [if_neg c196, if_neg c220]; done)) | (rw [tl2, if_neg c78, if_neg c178, if_pos c248, riL]; (try dsimp only); first | (rw [if_neg c263]; done) | (rw [if_pos c263, if_neg c281]; done) | (rw [if_pos c263, if_pos c281]; done)) | (rw [tl2, if_neg c78, if_neg c178, if_neg c248]; done)) rfl rfl rfl))
            · skip
              refine g_aload_n C dL_tick_223 rfl rfl ?_
              refine g_iconst C (v := 5) dL_tick_224 (by decide) ?_
              refine g_dup2_11 C dL_tick_225 rfl rfl ?_
              refine g_iald_j C hb.q 5 rfl (by decide) (by decide) dL_tick_226 ?_
              refine g_iconst C (v := 1) dL_tick_227 (by decide) ?_
              refine g_iadd C dL_tick_228 ?_
              refine g_iast_j C hb.q 5 rfl (by decide) (by decide) dL_tick_229 ?_
              refine g_aload_n C dL_tick_230 rfl rfl ?_
              refine g_iload C dL_tick_231 rfl ?_
              refine g_iconst C (v := 4) dL_tick_233 (by decide) ?_
              refine g_iadd C dL_tick_234 ?_
              refine g_iconst C (v := 0) dL_tick_235 (by decide) ?_
              refine g_iast_j C hb.s ((12 * i58) + 4) (nI_add (12 * i58) 4) (by omega) (by decide) dL_tick_236 ?_
              refine g_goto C (tgt := 296) dL_tick_237 (by decide) ?_
              refine g_iinc C dL_tick_296 rfl (nI_inc _) (by decide) rfl ?_
              refine g_goto C (tgt := 58) dL_tick_299 (by decide) ?_
              exact G_forget 4 (G_forget 5 (G_cast ih58 (by show _ = tl2 b n i58 _; first | (rw [tl2, if_pos c78]; done) | (rw [tl2, if_neg c78, if_pos c178, faL]; (try dsimp only); first | (rw [if_pos c196]; done) | (rw [if_neg c196, if_pos c220]; done) | (rw [if_neg c196, if_neg c220]; done)) | (rw [tl2, if_neg c78, if_neg c178, if_pos c248, riL]; (try dsimp only); first | (rw [if_neg c263]; done) | (rw [if_pos c263, if_neg c281]; done) | (rw [if_pos c263, if_pos c281]; done)) | (rw [tl2, if_neg c78, if_neg c178, if_neg c248]; done)) rfl rfl rfl))
          · skip
            refine g_aload_n C dL_tick_199 rfl rfl ?_
            refine g_iload C dL_tick_200 rfl ?_
            refine g_iconst C (v := 5) dL_tick_202 (by decide) ?_
            refine g_iadd C dL_tick_203 ?_
            refine g_aload_n C dL_tick_204 rfl rfl ?_
            refine g_iload C dL_tick_205 rfl ?_
            refine g_iconst C (v := 4) dL_tick_207 (by decide) ?_
            refine g_iadd C dL_tick_208 ?_
            refine g_iald_j C hb.s ((12 * i58) + 4) (nI_add (12 * i58) 4) (by omega) (by decide) dL_tick_209 ?_
            refine g_iast_j C hb.s ((12 * i58) + 5) (nI_add (12 * i58) 5) (by omega) (by decide) dL_tick_210 ?_
            refine g_goto C (tgt := 230) dL_tick_211 (by decide) ?_
            refine g_aload_n C dL_tick_230 rfl rfl ?_
            refine g_iload C dL_tick_231 rfl ?_
            refine g_iconst C (v := 4) dL_tick_233 (by decide) ?_
            refine g_iadd C dL_tick_234 ?_
            refine g_iconst C (v := 0) dL_tick_235 (by decide) ?_
            refine g_iast_j C hb.s ((12 * i58) + 4) (nI_add (12 * i58) 4) (by omega) (by decide) dL_tick_236 ?_
            refine g_goto C (tgt := 296) dL_tick_237 (by decide) ?_
            refine g_iinc C dL_tick_296 rfl (nI_inc _) (by decide) rfl ?_
            refine g_goto C (tgt := 58) dL_tick_299 (by decide) ?_
            exact G_forget 4 (G_forget 5 (G_cast ih58 (by show _ = tl2 b n i58 _; first | (rw [tl2, if_pos c78]; done) | (rw [tl2, if_neg c78, if_pos c178, faL]; (try dsimp only); first | (rw [if_pos c196]; done) | (rw [if_neg c196, if_pos c220]; done) | (rw [if_neg c196, if_neg c220]; done)) | (rw [tl2, if_neg c78, if_neg c178, if_pos c248, riL]; (try dsimp only); first | (rw [if_neg c263]; done) | (rw [if_pos c263, if_neg c281]; done) | (rw [if_pos c263, if_pos c281]; done)) | (rw [tl2, if_neg c78, if_neg c178, if_neg c248]; done)) rfl rfl rfl))
      · skip
        refine g_iconst C (v := 0) dL_tick_81 (by decide) ?_
        refine g_istore C dL_tick_82 (by decide) rfl ?_
        refine G_loop (n := n) (fun i => [some (rf E b), some (rf E (b + 1)), some (rf E 131), some (.int (nI i58)), some (.int (nI (12 * i58))), some (.int (nI i)), none, none]) (fun i => lp (nzL b i58) i (lp (tl2 b n) i58 (x1L I b n))) (fun _ => F) rfl rfl rfl ?_ ?_
        · intro i84 hi84 ih84
          refine g_iload C dL_tick_84 rfl ?_
          refine g_aload_n C dL_tick_86 rfl rfl ?_
          refine g_iconst C (v := 2) dL_tick_87 (by decide) ?_
          refine g_iald_j C hb.q 2 rfl (by decide) (by decide) dL_tick_88 ?_
          refine g_icmp_ge C (tgt := 167) dL_tick_89 (by decide) (fun c89 => absurd c89 (nI_nge (hn3 i58 _ (hn2 i58) i84) hi84 (by omega))) (fun _ => ?_)
          refine g_aload_n C dL_tick_92 rfl rfl ?_
          refine g_iload C dL_tick_93 rfl ?_
          refine g_bipush C (v := 6) dL_tick_95 (by decide) ?_
          refine g_iadd C dL_tick_97 ?_
          refine g_iald_j C hb.s ((12 * i58) + 6) (nI_add (12 * i58) 6) (by omega) (by decide) dL_tick_98 ?_
          refine g_iload C dL_tick_99 rfl ?_
          refine g_ishr C dL_tick_101 ?_
          refine g_iconst C (v := 1) dL_tick_102 (by decide) ?_
          refine g_iand C dL_tick_103 ?_
          refine g_if_ne C (tgt := 110) dL_tick_104 (by decide) (fun c104 => ?_) (fun c104 => ?_)
          · skip
            refine g_aload_n C dL_tick_110 rfl rfl ?_
            refine g_iload C dL_tick_111 rfl ?_
            refine g_iconst C (v := 4) dL_tick_113 (by decide) ?_
            refine g_iadd C dL_tick_114 ?_
            refine g_aload_n C dL_tick_115 rfl rfl ?_
            refine g_iload C dL_tick_116 rfl ?_
            refine g_iconst C (v := 4) dL_tick_118 (by decide) ?_
            refine g_iadd C dL_tick_119 ?_
            refine g_iald_j C hb.s ((12 * i58) + 4) (nI_add (12 * i58) 4) (by omega) (by decide) dL_tick_120 ?_
            refine g_aload_n C dL_tick_121 rfl rfl ?_
            refine g_iload C dL_tick_122 rfl ?_
            refine g_iald_j C (show ar NT 131 7 16 by decide) (i84) rfl (by omega) (by decide) dL_tick_124 ?_
            refine g_iadd C dL_tick_125 ?_
            refine g_sipush C (v := 255) dL_tick_126 (by decide) ?_
            refine g_iand C dL_tick_129 ?_
            refine g_iast_j C hb.s ((12 * i58) + 4) (nI_add (12 * i58) 4) (by omega) (by decide) dL_tick_130 ?_
            refine g_aload_n C dL_tick_131 rfl rfl ?_
            refine g_iload C dL_tick_132 rfl ?_
            refine g_bipush C (v := 9) dL_tick_134 (by decide) ?_
            refine g_iadd C dL_tick_136 ?_
            refine g_dup2_11 C dL_tick_137 rfl rfl ?_
            refine g_iald_j C hb.s ((12 * i58) + 9) (nI_add (12 * i58) 9) (by omega) (by decide) dL_tick_138 ?_
            refine g_aload_n C dL_tick_139 rfl rfl ?_
            refine g_bipush C (v := 8) dL_tick_140 (by decide) ?_
            refine g_iload C dL_tick_142 rfl ?_
            refine g_iadd C dL_tick_144 ?_
            refine g_iald_j C (show ar NT 131 7 16 by decide) (8 + i84) (or_ix i84) (by omega) (by decide) dL_tick_145 ?_
            refine g_iadd C dL_tick_146 ?_
            refine g_iast_j C hb.s ((12 * i58) + 9) (nI_add (12 * i58) 9) (by omega) (by decide) dL_tick_147 ?_
            refine g_aload_n C dL_tick_148 rfl rfl ?_
            refine g_iconst C (v := 4) dL_tick_149 (by decide) ?_
            refine g_dup2_11 C dL_tick_150 rfl rfl ?_
            refine g_iald_j C hb.q 4 rfl (by decide) (by decide) dL_tick_151 ?_
            refine g_aload_n C dL_tick_152 rfl rfl ?_
            refine g_bipush C (v := 8) dL_tick_153 (by decide) ?_
            refine g_iload C dL_tick_155 rfl ?_
            refine g_iadd C dL_tick_157 ?_
            refine g_iald_j C (show ar NT 131 7 16 by decide) (8 + i84) (or_ix i84) (by omega) (by decide) dL_tick_158 ?_
            refine g_iadd C dL_tick_159 ?_
            refine g_iast_j C hb.q 4 rfl (by decide) (by decide) dL_tick_160 ?_
            refine g_iinc C dL_tick_161 rfl (nI_inc _) (by decide) rfl ?_
            refine g_goto C (tgt := 84) dL_tick_164 (by decide) ?_
            exact G_cast ih84 (by show _ = nzL b i58 i84 _; first | (rw [nzL, if_pos c104]; done) | (rw [nzL, if_neg c104]; done) | (rw [nzL, if_neg c104]; rfl)) rfl rfl rfl
          · skip
            refine g_goto C (tgt := 161) dL_tick_107 (by decide) ?_
            refine g_iinc C dL_tick_161 rfl (nI_inc _) (by decide) rfl ?_
            refine g_goto C (tgt := 84) dL_tick_164 (by decide) ?_
            exact G_cast ih84 (by show _ = nzL b i58 i84 _; first | (rw [nzL, if_pos c104]; done) | (rw [nzL, if_neg c104]; done) | (rw [nzL, if_neg c104]; rfl)) rfl rfl rfl
        · skip
          refine g_iload C dL_tick_84 rfl ?_
          refine g_aload_n C dL_tick_86 rfl rfl ?_
          refine g_iconst C (v := 2) dL_tick_87 (by decide) ?_
          refine g_iald_j C hb.q 2 rfl (by decide) (by decide) dL_tick_88 ?_
          refine g_icmp_ge C (tgt := 167) dL_tick_89 (by decide) (fun _ => ?_) (fun c89 => absurd (nI_lee (hn3 i58 _ (hn2 i58) n)) c89)
          refine g_goto C (tgt := 296) dL_tick_167 (by decide) ?_
          refine g_iinc C dL_tick_296 rfl (nI_inc _) (by decide) rfl ?_
          refine g_goto C (tgt := 58) dL_tick_299 (by decide) ?_
          exact G_forget 4 (G_forget 5 (G_cast ih58 (by show _ = tl2 b n i58 _; first | (rw [tl2, if_pos c78]; done) | (rw [tl2, if_neg c78, if_pos c178, faL]; (try dsimp only); first | (rw [if_pos c196]; done) | (rw [if_neg c196, if_pos c220]; done) | (rw [if_neg c196, if_neg c220]; done)) | (rw [tl2, if_neg c78, if_neg c178, if_pos c248, riL]; (try dsimp only); first | (rw [if_neg c263]; done) | (rw [if_pos c263, if_neg c281]; done) | (rw [if_pos c263, if_pos c281]; done)) | (rw [tl2, if_neg c78, if_neg c178, if_neg c248]; done)) rfl rfl rfl))
    · skip
      refine g_iload_n C dL_tick_58 rfl rfl ?_
      refine g_aload_n C dL_tick_59 rfl rfl ?_
      refine g_iconst C (v := 2) dL_tick_60 (by decide) ?_
      refine g_iald_j C hb.q 2 rfl (by decide) (by decide) dL_tick_61 ?_
      refine g_icmp_ge C (tgt := 302) dL_tick_62 (by decide) (fun _ => ?_) (fun c62 => absurd (nI_lee (hn2 n)) c62)
      refine g_iconst C (v := 0) dL_tick_302 (by decide) ?_
      refine g_aload_n C dL_tick_303 rfl rfl ?_
      refine g_aload_n C dL_tick_304 rfl rfl ?_
      refine kL_16 C (by decide) (tL_set hb hn5 hn4 0) ⟨⟨Nat.le_of_ble_eq_true rfl, Nat.le_of_ble_eq_true rfl⟩, Nat.le_of_ble_eq_true rfl, Nat.le_of_ble_eq_true rfl⟩ (Nat.le_of_ble_eq_true rfl) dL_tick_305 ?_
      refine g_istore_n C dL_tick_308 rfl (by decide) rfl ?_
      by_cases ha : x2L I b n b 1 = 1
      · skip
        have hk6 : ∀ i, lp (akB b n (setL (x2L I b n) b n 0)) i (x2L I b n) b 1 = 1 := fun i => (lp_keep (fun J : Mi => J b 1) (fun q J => akB_b1 b n _ q J) i _).trans ha
        refine g_iconst C (v := 0) dL_tick_309 (by decide) ?_
        refine g_istore C dL_tick_310 (by decide) rfl ?_
        refine G_loop (n := n) (fun i => [some (rf E b), some (rf E (b + 1)), some (rf E 131), some (.int (setL (x2L I b n) b n 0)), some (.int (nI i)), none, none, none]) (fun i => lp (akB b n (setL (x2L I b n) b n 0)) i (x2L I b n)) (fun _ => F) rfl rfl rfl ?_ ?_
        · intro i312 hi312 ih312
          refine g_iload C dL_tick_312 rfl ?_
          refine g_aload_n C dL_tick_314 rfl rfl ?_
          refine g_iconst C (v := 2) dL_tick_315 (by decide) ?_
          refine g_iald_j C hb.q 2 rfl (by decide) (by decide) dL_tick_316 ?_
          refine g_icmp_ge C (tgt := 366) dL_tick_317 (by decide) (fun c317 => absurd c317 (nI_nge (hn6 i312) hi312 (by omega))) (fun _ => ?_)
          refine g_aload_n C dL_tick_320 rfl rfl ?_
          refine g_iconst C (v := 1) dL_tick_321 (by decide) ?_
          refine g_iald_j C hb.q 1 rfl (by decide) (by decide) dL_tick_322 ?_
          refine g_iconst C (v := 1) dL_tick_323 (by decide) ?_
          refine g_icmp_ne C (tgt := 366) dL_tick_324 (by decide) (fun c324 => absurd (hk6 i312) c324) (fun _ => ?_)
          refine g_aload_n C dL_tick_327 rfl rfl ?_
          refine g_bipush C (v := 12) dL_tick_328 (by decide) ?_
          refine g_iload C dL_tick_330 rfl ?_
          refine g_imul C dL_tick_332 ?_
          refine g_bipush C (v := 7) dL_tick_333 (by decide) ?_
          refine g_iadd C dL_tick_335 ?_
          refine g_iald_j C hb.s (12 * i312 + 7) (e_ix i312 7 rfl) (by omega) (by decide) dL_tick_336 ?_
          refine g_iconst C (v := 2) dL_tick_337 (by decide) ?_
          refine g_icmp_ne C (tgt := 360) dL_tick_338 (by decide) (fun c338 => ?_) (fun c338 => ?_)
          · skip
            refine g_iinc C dL_tick_360 rfl (nI_inc _) (by decide) rfl ?_
            refine g_goto C (tgt := 312) dL_tick_363 (by decide) ?_
            exact G_cast ih312 (by show _ = akB b n _ i312 _; first | (simp only [akB, c338, ↓reduceIte]; done) | (simp only [akB, c338, ↓reduceIte]; rfl)) rfl rfl rfl
          · skip
            refine g_iload C dL_tick_341 rfl ?_
            refine g_aload_n C dL_tick_343 rfl rfl ?_
            refine g_aload_n C dL_tick_344 rfl rfl ?_
            refine kL_20 C (by decide) (tL_readers hb hn5 (hn6 i312) _) ⟨⟨Nat.le_of_ble_eq_true rfl, Nat.le_of_ble_eq_true rfl⟩, Nat.le_of_ble_eq_true rfl, Nat.le_of_ble_eq_true rfl⟩ (Nat.le_of_ble_eq_true rfl) dL_tick_345 ?_
            refine g_iload_n C dL_tick_348 rfl rfl ?_
            refine g_iand C dL_tick_349 ?_
            refine g_if_eq C (tgt := 360) dL_tick_350 (by decide) (fun c350 => ?_) (fun c350 => ?_)
            · skip
              refine g_iinc C dL_tick_360 rfl (nI_inc _) (by decide) rfl ?_
              refine g_goto C (tgt := 312) dL_tick_363 (by decide) ?_
              exact G_cast ih312 (by show _ = akB b n _ i312 _; first | (simp only [akB, c338, c350, ↓reduceIte]; done) | (simp only [akB, c338, c350, ↓reduceIte]; rfl)) rfl rfl rfl
            · skip
              refine g_iload C dL_tick_353 rfl ?_
              refine g_aload_n C dL_tick_355 rfl rfl ?_
              refine g_aload_n C dL_tick_356 rfl rfl ?_
              refine kL_23 C (by decide) (tL_order hb (u := i312) (by omega)) ⟨⟨Nat.le_of_ble_eq_true rfl, Nat.le_of_ble_eq_true rfl⟩, Nat.le_of_ble_eq_true rfl, Nat.le_of_ble_eq_true rfl⟩ (Nat.le_of_ble_eq_true rfl) dL_tick_357 ?_
              refine g_iinc C dL_tick_360 rfl (nI_inc _) (by decide) rfl ?_
              refine g_goto C (tgt := 312) dL_tick_363 (by decide) ?_
              exact G_cast ih312 (by show _ = akB b n _ i312 _; first | (simp only [akB, c338, c350, ↓reduceIte]; done) | (simp only [akB, c338, c350, ↓reduceIte]; rfl)) rfl rfl rfl
        · skip
          refine g_iload C dL_tick_312 rfl ?_
          refine g_aload_n C dL_tick_314 rfl rfl ?_
          refine g_iconst C (v := 2) dL_tick_315 (by decide) ?_
          refine g_iald_j C hb.q 2 rfl (by decide) (by decide) dL_tick_316 ?_
          refine g_icmp_ge C (tgt := 366) dL_tick_317 (by decide) (fun _ => ?_) (fun c317 => absurd (nI_lee (hn6 n)) c317)
          refine g_iconst C (v := 0) dL_tick_366 (by decide) ?_
          refine g_istore C dL_tick_367 (by decide) rfl ?_
          refine g_iconst C (v := 1) dL_tick_369 (by decide) ?_
          refine g_istore C dL_tick_370 (by decide) rfl ?_
          exact G_cast (tick_rise hb hn5 C hr 6 (x3L I b n) 0 hn7 hO rfl) (by unfold x3L akL; first | (rw [if_pos ha]; done) | (rw [if_neg ha]; done) | (rw [if_neg ha]; rfl)) rfl rfl rfl
      · skip
        refine g_iconst C (v := 0) dL_tick_309 (by decide) ?_
        refine g_istore C dL_tick_310 (by decide) rfl ?_
        refine g_iload C dL_tick_312 rfl ?_
        refine g_aload_n C dL_tick_314 rfl rfl ?_
        refine g_iconst C (v := 2) dL_tick_315 (by decide) ?_
        refine g_iald_j C hb.q 2 rfl (by decide) (by decide) dL_tick_316 ?_
        refine g_icmp_ge C (tgt := 366) dL_tick_317 (by decide) (fun c317 => ?_) (fun c317 => ?_)
        · skip
          refine g_iconst C (v := 0) dL_tick_366 (by decide) ?_
          refine g_istore C dL_tick_367 (by decide) rfl ?_
          refine g_iconst C (v := 1) dL_tick_369 (by decide) ?_
          refine g_istore C dL_tick_370 (by decide) rfl ?_
          exact G_cast (tick_rise hb hn5 C hr 6 (x3L I b n) 0 hn7 hO rfl) (by unfold x3L akL; first | (rw [if_pos ha]; done) | (rw [if_neg ha]; done) | (rw [if_neg ha]; rfl)) rfl rfl rfl
        · skip
          refine g_aload_n C dL_tick_320 rfl rfl ?_
          refine g_iconst C (v := 1) dL_tick_321 (by decide) ?_
          refine g_iald_j C hb.q 1 rfl (by decide) (by decide) dL_tick_322 ?_
          refine g_iconst C (v := 1) dL_tick_323 (by decide) ?_
          refine g_icmp_ne C (tgt := 366) dL_tick_324 (by decide) (fun _ => ?_) (fun c324 => absurd c324 ha)
          refine g_iconst C (v := 0) dL_tick_366 (by decide) ?_
          refine g_istore C dL_tick_367 (by decide) rfl ?_
          refine g_iconst C (v := 1) dL_tick_369 (by decide) ?_
          refine g_istore C dL_tick_370 (by decide) rfl ?_
          exact G_cast (tick_rise hb hn5 C hr 6 (x3L I b n) 0 hn7 hO rfl) (by unfold x3L akL; first | (rw [if_pos ha]; done) | (rw [if_neg ha]; done) | (rw [if_neg ha]; rfl)) rfl rfl rfl

