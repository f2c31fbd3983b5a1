/-! the law's acts -/
section LA
variable {E : EE} {p : Program} {l : Launch} {e : Env} {s : State} {m : MethodId} {below : List Frame} {meth : Method} {c : Code} {Q : State → Prop} {I : Mi} {F : Mr} {b tu n O i : Nat} {x : Int32}
set_option maxRecDepth 100000 in
set_option maxHeartbeats 8000000 in
theorem act_build (C : Cx E RL cL_law 15 p s m #[Value.ref b] meth c) {J : Mi} {w : Nat} (h : CR I F J n w) (g : LG I 127 J n w O) (hn4 : n < 5) (kk : ∀ (X : Mi) (F2 : Mr) (O2 : Nat), O2 ≤ O + 25 → MI X F2 (n + 1) O2 → G E NT 15 p l e room_1 s m #[Value.ref b] below meth c 132 1330 Q X F2 749 [some (.ref b), some (rf E 0), some (rf E 127), some (rf E 128), some (rf E 129), some (rf E 130), some (rf E 131), some (.int (nI tu)), some (.int x), none, none, none, none, none, none] []) : G E NT 15 p l e room_1 s m #[Value.ref b] below meth c 132 1330 Q I F 119 [some (.ref b), some (rf E 0), some (rf E 127), some (rf E 128), some (rf E 129), some (rf E 130), some (rf E 131), some (.int (nI tu)), some (.int x), none, none, none, none, none, none] [] := by
  have hn : I 127 2 = nI n := g.law2
  obtain ⟨a1, h1, er1⟩ := lowE_n (x >>> (4 &&& 31)) (m := 2) (by omega) (by omega)
  obtain ⟨a2, h2, er2⟩ := lowE_n (x >>> (5 &&& 31)) (m := 2) (by omega) (by omega)
  obtain ⟨a3, h3, er3⟩ : ∃ a3, (1 ≤ a3 ∧ a3 ≤ 9) ∧ (1 : Int32) + lowE (x >>> (6 &&& 31)) 9 = nI a3 := by
    obtain ⟨r, r1, r2⟩ := lowE_n (x >>> (6 &&& 31)) (m := 9) (by omega) (by omega)
    exact ⟨r + 1, by omega, by rw [show lowE (x >>> (6 &&& 31)) 9 = nI r from r2, Int32.add_comm]; exact nI_1 r⟩
  obtain ⟨a4, h4, er4⟩ : ∃ a4, (1 ≤ a4 ∧ a4 ≤ 20) ∧ (1 : Int32) + lowE (x >>> (9 &&& 31)) 20 = nI a4 := by
    obtain ⟨r, r1, r2⟩ := lowE_n (x >>> (9 &&& 31)) (m := 20) (by omega) (by omega)
    exact ⟨r + 1, by omega, by rw [show lowE (x >>> (9 &&& 31)) 20 = nI r from r2, Int32.add_comm]; exact nI_1 r⟩
  have er1 : lowE (x >>> (4 &&& 31)) 2 = nI a1 := er1
  have er2 : lowE (x >>> (5 &&& 31)) 2 = nI a2 := er2
  obtain ⟨b1, b2, -⟩ := bldL_at I n (nI a1) (nI a2) (nI a3) (nI a4)
  refine g_bipush C (v := 12) dL_law_119 (by decide) ?_
  refine g_aload_n C dL_law_121 rfl rfl ?_
  refine g_iconst C (v := 2) dL_law_122 (by decide) ?_
  refine g_iald_j C (show ar NT 127 7 8 by decide) 2 rfl (by decide) (by decide) dL_law_123 ?_
  rw [hn]
  refine g_imul C dL_law_124 ?_
  rw [e_ix0]
  refine g_istore C dL_law_125 (by decide) rfl ?_
  refine g_iconst C (v := 0) dL_law_127 (by decide) ?_
  refine g_istore C dL_law_128 (by decide) rfl ?_
  refine G_loop (n := 12) (fun i130 => [some (.ref b), some (rf E 0), some (rf E 127), some (rf E 128), some (rf E 129), some (rf E 130), some (rf E 131), some (.int (nI tu)), some (.int x), none, none, none, some (.int (nI (12 * n))), some (.int (nI i130)), none]) (fun i130 => lp (fun k J => up J 128 (12 * n + k) 0) i130 I) (fun _ => F) rfl rfl rfl ?_ ?_
  · intro i130 hi130 ih130
    refine g_iload C dL_law_130 rfl ?_
    refine g_bipush C (v := 12) dL_law_132 (by decide) ?_
    refine g_icmp_ge C (tgt := 151) dL_law_134 (by decide) (fun c134 => absurd c134 (nI_nge rfl hi130 (by decide))) (fun _ => ?_)
    refine g_aload_n C dL_law_137 rfl rfl ?_
    refine g_iload C dL_law_138 rfl ?_
    refine g_iload C dL_law_140 rfl ?_
    refine g_iadd C dL_law_142 ?_
    refine g_iconst C (v := 0) dL_law_143 (by decide) ?_
    refine g_iast_j C (show ar NT 128 7 60 by decide) (12 * n + i130) (nI_add (12 * n) i130) (by omega) (by decide) dL_law_144 ?_
    refine g_iinc C dL_law_145 rfl (nI_inc _) (by decide) rfl ?_
    refine g_goto C (tgt := 130) dL_law_148 (by decide) ?_
    exact G_cast ih130 rfl rfl rfl rfl
  · skip
    refine g_iload C dL_law_130 rfl ?_
    refine g_bipush C (v := 12) dL_law_132 (by decide) ?_
    refine g_icmp_ge C (tgt := 151) dL_law_134 (by decide) (fun _ => ?_) (fun c134 => absurd (nI_lee rfl) c134)
    refine g_aload_n C dL_law_151 rfl rfl ?_
    refine g_iload C dL_law_152 rfl ?_
    refine g_iload C dL_law_154 rfl ?_
    refine g_iconst C (v := 4) dL_law_156 (by decide) ?_
    refine g_ishr C dL_law_157 ?_
    refine g_iconst C (v := 2) dL_law_158 (by decide) ?_
    refine kL_58 C (by decide) (tL_low _ 2 (by decide)) ⟨⟨Nat.le_of_ble_eq_true rfl, Nat.le_of_ble_eq_true rfl⟩, Nat.le_of_ble_eq_true rfl, Nat.le_of_ble_eq_true rfl⟩ (Nat.le_of_ble_eq_true rfl) dL_law_159 ?_
    rw [er1]
    refine g_iast_j C (show ar NT 128 7 60 by decide) ((12 * n)) rfl (by omega) (by decide) dL_law_162 ?_
    refine g_aload_n C dL_law_163 rfl rfl ?_
    refine g_iload C dL_law_164 rfl ?_
    refine g_iconst C (v := 1) dL_law_166 (by decide) ?_
    refine g_iadd C dL_law_167 ?_
    refine g_iload C dL_law_168 rfl ?_
    refine g_iconst C (v := 5) dL_law_170 (by decide) ?_
    refine g_ishr C dL_law_171 ?_
    refine g_iconst C (v := 2) dL_law_172 (by decide) ?_
    refine kL_58 C (by decide) (tL_low _ 2 (by decide)) ⟨⟨Nat.le_of_ble_eq_true rfl, Nat.le_of_ble_eq_true rfl⟩, Nat.le_of_ble_eq_true rfl, Nat.le_of_ble_eq_true rfl⟩ (Nat.le_of_ble_eq_true rfl) dL_law_173 ?_
    rw [er2]
    refine g_iast_j C (show ar NT 128 7 60 by decide) ((12 * n) + 1) (nI_add (12 * n) 1) (by omega) (by decide) dL_law_176 ?_
    refine g_aload_n C dL_law_177 rfl rfl ?_
    refine g_iload C dL_law_178 rfl ?_
    refine g_iconst C (v := 2) dL_law_180 (by decide) ?_
    refine g_iadd C dL_law_181 ?_
    refine g_iconst C (v := 1) dL_law_182 (by decide) ?_
    refine g_iload C dL_law_183 rfl ?_
    refine g_bipush C (v := 6) dL_law_185 (by decide) ?_
    refine g_ishr C dL_law_187 ?_
    refine g_bipush C (v := 9) dL_law_188 (by decide) ?_
    refine kL_58 C (by decide) (tL_low _ 9 (by decide)) ⟨⟨Nat.le_of_ble_eq_true rfl, Nat.le_of_ble_eq_true rfl⟩, Nat.le_of_ble_eq_true rfl, Nat.le_of_ble_eq_true rfl⟩ (Nat.le_of_ble_eq_true rfl) dL_law_190 ?_
    refine g_iadd C dL_law_193 ?_
    rw [er3]
    refine g_iast_j C (show ar NT 128 7 60 by decide) ((12 * n) + 2) (nI_add (12 * n) 2) (by omega) (by decide) dL_law_194 ?_
    refine g_aload_n C dL_law_195 rfl rfl ?_
    refine g_iload C dL_law_196 rfl ?_
    refine g_iconst C (v := 3) dL_law_198 (by decide) ?_
    refine g_iadd C dL_law_199 ?_
    refine g_iconst C (v := 1) dL_law_200 (by decide) ?_
    refine g_iload C dL_law_201 rfl ?_
    refine g_bipush C (v := 9) dL_law_203 (by decide) ?_
    refine g_ishr C dL_law_205 ?_
    refine g_bipush C (v := 20) dL_law_206 (by decide) ?_
    refine kL_58 C (by decide) (tL_low _ 20 (by decide)) ⟨⟨Nat.le_of_ble_eq_true rfl, Nat.le_of_ble_eq_true rfl⟩, Nat.le_of_ble_eq_true rfl, Nat.le_of_ble_eq_true rfl⟩ (Nat.le_of_ble_eq_true rfl) dL_law_208 ?_
    refine g_iadd C dL_law_211 ?_
    rw [er4]
    refine g_iast_j C (show ar NT 128 7 60 by decide) ((12 * n) + 3) (nI_add (12 * n) 3) (by omega) (by decide) dL_law_212 ?_
    refine G_cast (I2 := bldL I n (nI a1) (nI a2) (nI a3) (nI a4)) (F2 := F) ?_ rfl rfl rfl rfl
    have hY : CR (bldL I n (nI a1) (nI a2) (nI a3) (nI a4)) F J n w := h.up (fun z hz => b1 z (by omega))
    have y0 : bldL I n (nI a1) (nI a2) (nI a3) (nI a4) 128 (12 * n) = nI a1 := b2 0 (by omega)
    have y1 : bldL I n (nI a1) (nI a2) (nI a3) (nI a4) 128 (12 * n + 1) = nI a2 := b2 1 (by omega)
    have y2 : bldL I n (nI a1) (nI a2) (nI a3) (nI a4) 128 (12 * n + 2) = nI a3 := b2 2 (by omega)
    have y3 : bldL I n (nI a1) (nI a2) (nI a3) (nI a4) 128 (12 * n + 3) = nI a4 := b2 3 (by omega)
    generalize eY : bldL I n (nI a1) (nI a2) (nI a3) (nI a4) = Y at hY y0 y1 y2 y3 ⊢
    have eY := eY.symm
    refine g_aload_n C dL_law_213 rfl rfl ?_
    refine g_aload_n C dL_law_214 rfl rfl ?_
    refine g_iload C dL_law_215 rfl ?_
    refine g_iald_j C (show ar NT 128 7 60 by decide) ((12 * n)) rfl (by omega) (by decide) dL_law_217 ?_
    rw [y0]
    refine g_iconst C (v := 1) dL_law_218 (by decide) ?_
    refine g_icmp_ne C (tgt := 226) dL_law_219 (by decide) (fun c219 => ?_) (fun c219 => ?_)
    · skip
      refine g_iconst C (v := 0) dL_law_226 (by decide) ?_
      refine g_aload_n C dL_law_227 rfl rfl ?_
      refine g_iload C dL_law_228 rfl ?_
      refine g_iconst C (v := 1) dL_law_230 (by decide) ?_
      refine g_iadd C dL_law_231 ?_
      refine g_iald_j C (show ar NT 128 7 60 by decide) ((12 * n) + 1) (nI_add (12 * n) 1) (by omega) (by decide) dL_law_232 ?_
      rw [y1]
      refine g_iconst C (v := 1) dL_law_233 (by decide) ?_
      refine g_icmp_ne C (tgt := 241) dL_law_234 (by decide) (fun c234 => ?_) (fun c234 => ?_)
      · skip
        refine g_iconst C (v := 0) dL_law_241 (by decide) ?_
        refine g_aload_n C dL_law_242 rfl rfl ?_
        refine g_iload C dL_law_243 rfl ?_
        refine g_iconst C (v := 2) dL_law_245 (by decide) ?_
        refine g_iadd C dL_law_246 ?_
        refine g_iald_j C (show ar NT 128 7 60 by decide) ((12 * n) + 2) (nI_add (12 * n) 2) (by omega) (by decide) dL_law_247 ?_
        rw [y2]
        refine g_aload_n C dL_law_248 rfl rfl ?_
        refine g_iload C dL_law_249 rfl ?_
        refine g_iconst C (v := 3) dL_law_251 (by decide) ?_
        refine g_iadd C dL_law_252 ?_
        refine g_iald_j C (show ar NT 128 7 60 by decide) ((12 * n) + 3) (nI_add (12 * n) 3) (by omega) (by decide) dL_law_253 ?_
        rw [y3]
        obtain ⟨X2, F2, cb, hc, hf⟩ := c_buildN (l := l) (E := E) (iso := 0) (keep := 0) hY (by omega) h1 h2 (a01 a1 h1 c219) (a01 a2 h2 c234) h3 h4
        have q2 : X2 127 2 = nI n := by rw [hf 127 (by omega), eY, b1 127 (by omega)]; exact hn
        refine kL_83 C (show ob NT 0 4 by decide) cb ⟨⟨Nat.le_of_ble_eq_true rfl, Nat.le_of_ble_eq_true rfl⟩, Nat.le_of_ble_eq_true rfl, Nat.le_of_ble_eq_true rfl⟩ (Nat.le_of_ble_eq_true rfl) dL_law_254 ?_
        refine g_aload_n C dL_law_257 rfl rfl ?_
        refine g_iconst C (v := 2) dL_law_258 (by decide) ?_
        refine g_dup2_11 C dL_law_259 rfl rfl ?_
        refine g_iald_j C (show ar NT 127 7 8 by decide) 2 rfl (by decide) (by decide) dL_law_260 ?_
        rw [q2]
        refine g_dupx2 C dL_law_261 rfl rfl rfl ?_
        refine g_iconst C (v := 1) dL_law_262 (by decide) ?_
        refine g_iadd C dL_law_263 ?_
        refine g_iast_j C (show ar NT 127 7 8 by decide) 2 rfl (by decide) (by decide) dL_law_264 ?_
        refine g_icmp_eq C (tgt := 270) dL_law_265 (by decide) (fun _ => ?_) (fun c265 => absurd rfl c265)
        refine g_goto C (tgt := 749) dL_law_270 (by decide) ?_
        exact G_forget 9 (G_forget 10 (G_forget 11 (G_forget 12 (G_forget 13 (G_forget 14 (kk _ F2 O (by omega) (m_build g hn4 (show a4 < 256 by omega) eY hc hf)))))))
      · skip
        refine g_iconst C (v := 1) dL_law_237 (by decide) ?_
        refine g_goto C (tgt := 242) dL_law_238 (by decide) ?_
        refine g_aload_n C dL_law_242 rfl rfl ?_
        refine g_iload C dL_law_243 rfl ?_
        refine g_iconst C (v := 2) dL_law_245 (by decide) ?_
        refine g_iadd C dL_law_246 ?_
        refine g_iald_j C (show ar NT 128 7 60 by decide) ((12 * n) + 2) (nI_add (12 * n) 2) (by omega) (by decide) dL_law_247 ?_
        rw [y2]
        refine g_aload_n C dL_law_248 rfl rfl ?_
        refine g_iload C dL_law_249 rfl ?_
        refine g_iconst C (v := 3) dL_law_251 (by decide) ?_
        refine g_iadd C dL_law_252 ?_
        refine g_iald_j C (show ar NT 128 7 60 by decide) ((12 * n) + 3) (nI_add (12 * n) 3) (by omega) (by decide) dL_law_253 ?_
        rw [y3]
        obtain ⟨X2, F2, cb, hc, hf⟩ := c_buildN (l := l) (E := E) (iso := 0) (keep := 1) hY (by omega) h1 h2 (a01 a1 h1 c219) c234.symm h3 h4
        have q2 : X2 127 2 = nI n := by rw [hf 127 (by omega), eY, b1 127 (by omega)]; exact hn
        refine kL_83 C (show ob NT 0 4 by decide) cb ⟨⟨Nat.le_of_ble_eq_true rfl, Nat.le_of_ble_eq_true rfl⟩, Nat.le_of_ble_eq_true rfl, Nat.le_of_ble_eq_true rfl⟩ (Nat.le_of_ble_eq_true rfl) dL_law_254 ?_
        refine g_aload_n C dL_law_257 rfl rfl ?_
        refine g_iconst C (v := 2) dL_law_258 (by decide) ?_
        refine g_dup2_11 C dL_law_259 rfl rfl ?_
        refine g_iald_j C (show ar NT 127 7 8 by decide) 2 rfl (by decide) (by decide) dL_law_260 ?_
        rw [q2]
        refine g_dupx2 C dL_law_261 rfl rfl rfl ?_
        refine g_iconst C (v := 1) dL_law_262 (by decide) ?_
        refine g_iadd C dL_law_263 ?_
        refine g_iast_j C (show ar NT 127 7 8 by decide) 2 rfl (by decide) (by decide) dL_law_264 ?_
        refine g_icmp_eq C (tgt := 270) dL_law_265 (by decide) (fun _ => ?_) (fun c265 => absurd rfl c265)
        refine g_goto C (tgt := 749) dL_law_270 (by decide) ?_
        exact G_forget 9 (G_forget 10 (G_forget 11 (G_forget 12 (G_forget 13 (G_forget 14 (kk _ F2 O (by omega) (m_build g hn4 (show a4 < 256 by omega) eY hc hf)))))))
    · skip
      refine g_iconst C (v := 1) dL_law_222 (by decide) ?_
      refine g_goto C (tgt := 227) dL_law_223 (by decide) ?_
      refine g_aload_n C dL_law_227 rfl rfl ?_
      refine g_iload C dL_law_228 rfl ?_
      refine g_iconst C (v := 1) dL_law_230 (by decide) ?_
      refine g_iadd C dL_law_231 ?_
      refine g_iald_j C (show ar NT 128 7 60 by decide) ((12 * n) + 1) (nI_add (12 * n) 1) (by omega) (by decide) dL_law_232 ?_
      rw [y1]
      refine g_iconst C (v := 1) dL_law_233 (by decide) ?_
      refine g_icmp_ne C (tgt := 241) dL_law_234 (by decide) (fun c234 => ?_) (fun c234 => ?_)
      · skip
        refine g_iconst C (v := 0) dL_law_241 (by decide) ?_
        refine g_aload_n C dL_law_242 rfl rfl ?_
        refine g_iload C dL_law_243 rfl ?_
        refine g_iconst C (v := 2) dL_law_245 (by decide) ?_
        refine g_iadd C dL_law_246 ?_
        refine g_iald_j C (show ar NT 128 7 60 by decide) ((12 * n) + 2) (nI_add (12 * n) 2) (by omega) (by decide) dL_law_247 ?_
        rw [y2]
        refine g_aload_n C dL_law_248 rfl rfl ?_
        refine g_iload C dL_law_249 rfl ?_
        refine g_iconst C (v := 3) dL_law_251 (by decide) ?_
        refine g_iadd C dL_law_252 ?_
        refine g_iald_j C (show ar NT 128 7 60 by decide) ((12 * n) + 3) (nI_add (12 * n) 3) (by omega) (by decide) dL_law_253 ?_
        rw [y3]
        obtain ⟨X2, F2, cb, hc, hf⟩ := c_buildN (l := l) (E := E) (iso := 1) (keep := 0) hY (by omega) h1 h2 c219.symm (a01 a2 h2 c234) h3 h4
        have q2 : X2 127 2 = nI n := by rw [hf 127 (by omega), eY, b1 127 (by omega)]; exact hn
        refine kL_83 C (show ob NT 0 4 by decide) cb ⟨⟨Nat.le_of_ble_eq_true rfl, Nat.le_of_ble_eq_true rfl⟩, Nat.le_of_ble_eq_true rfl, Nat.le_of_ble_eq_true rfl⟩ (Nat.le_of_ble_eq_true rfl) dL_law_254 ?_
        refine g_aload_n C dL_law_257 rfl rfl ?_
        refine g_iconst C (v := 2) dL_law_258 (by decide) ?_
        refine g_dup2_11 C dL_law_259 rfl rfl ?_
        refine g_iald_j C (show ar NT 127 7 8 by decide) 2 rfl (by decide) (by decide) dL_law_260 ?_
        rw [q2]
        refine g_dupx2 C dL_law_261 rfl rfl rfl ?_
        refine g_iconst C (v := 1) dL_law_262 (by decide) ?_
        refine g_iadd C dL_law_263 ?_
        refine g_iast_j C (show ar NT 127 7 8 by decide) 2 rfl (by decide) (by decide) dL_law_264 ?_
        refine g_icmp_eq C (tgt := 270) dL_law_265 (by decide) (fun _ => ?_) (fun c265 => absurd rfl c265)
        refine g_goto C (tgt := 749) dL_law_270 (by decide) ?_
        exact G_forget 9 (G_forget 10 (G_forget 11 (G_forget 12 (G_forget 13 (G_forget 14 (kk _ F2 O (by omega) (m_build g hn4 (show a4 < 256 by omega) eY hc hf)))))))
      · skip
        refine g_iconst C (v := 1) dL_law_237 (by decide) ?_
        refine g_goto C (tgt := 242) dL_law_238 (by decide) ?_
        refine g_aload_n C dL_law_242 rfl rfl ?_
        refine g_iload C dL_law_243 rfl ?_
        refine g_iconst C (v := 2) dL_law_245 (by decide) ?_
        refine g_iadd C dL_law_246 ?_
        refine g_iald_j C (show ar NT 128 7 60 by decide) ((12 * n) + 2) (nI_add (12 * n) 2) (by omega) (by decide) dL_law_247 ?_
        rw [y2]
        refine g_aload_n C dL_law_248 rfl rfl ?_
        refine g_iload C dL_law_249 rfl ?_
        refine g_iconst C (v := 3) dL_law_251 (by decide) ?_
        refine g_iadd C dL_law_252 ?_
        refine g_iald_j C (show ar NT 128 7 60 by decide) ((12 * n) + 3) (nI_add (12 * n) 3) (by omega) (by decide) dL_law_253 ?_
        rw [y3]
        obtain ⟨X2, F2, cb, hc, hf⟩ := c_buildN (l := l) (E := E) (iso := 1) (keep := 1) hY (by omega) h1 h2 c219.symm c234.symm h3 h4
        have q2 : X2 127 2 = nI n := by rw [hf 127 (by omega), eY, b1 127 (by omega)]; exact hn
        refine kL_83 C (show ob NT 0 4 by decide) cb ⟨⟨Nat.le_of_ble_eq_true rfl, Nat.le_of_ble_eq_true rfl⟩, Nat.le_of_ble_eq_true rfl, Nat.le_of_ble_eq_true rfl⟩ (Nat.le_of_ble_eq_true rfl) dL_law_254 ?_
        refine g_aload_n C dL_law_257 rfl rfl ?_
        refine g_iconst C (v := 2) dL_law_258 (by decide) ?_
        refine g_dup2_11 C dL_law_259 rfl rfl ?_
        refine g_iald_j C (show ar NT 127 7 8 by decide) 2 rfl (by decide) (by decide) dL_law_260 ?_
        rw [q2]
        refine g_dupx2 C dL_law_261 rfl rfl rfl ?_
        refine g_iconst C (v := 1) dL_law_262 (by decide) ?_
        refine g_iadd C dL_law_263 ?_
        refine g_iast_j C (show ar NT 127 7 8 by decide) 2 rfl (by decide) (by decide) dL_law_264 ?_
        refine g_icmp_eq C (tgt := 270) dL_law_265 (by decide) (fun _ => ?_) (fun c265 => absurd rfl c265)
        refine g_goto C (tgt := 749) dL_law_270 (by decide) ?_
        exact G_forget 9 (G_forget 10 (G_forget 11 (G_forget 12 (G_forget 13 (G_forget 14 (kk _ F2 O (by omega) (m_build g hn4 (show a4 < 256 by omega) eY hc hf)))))))
set_option maxRecDepth 100000 in
set_option maxHeartbeats 8000000 in
theorem act_link (C : Cx E RL cL_law 15 p s m #[Value.ref b] meth c) {J : Mi} {w : Nat} (h : CR I F J n w) (g : LG I 127 J n w O) (hO : O < 700000) (hi : i < n) (kk : ∀ (X : Mi) (F2 : Mr) (O2 : Nat), O2 ≤ O + 25 → MI X F2 n O2 → G E NT 15 p l e room_1 s m #[Value.ref b] below meth c 132 1330 Q X F2 749 [some (.ref b), some (rf E 0), some (rf E 127), some (rf E 128), some (rf E 129), some (rf E 130), some (rf E 131), some (.int (nI tu)), some (.int x), none, none, none, none, none, none] []) : G E NT 15 p l e room_1 s m #[Value.ref b] below meth c 132 1330 Q I F 279 [some (.ref b), some (rf E 0), some (rf E 127), some (rf E 128), some (rf E 129), some (rf E 130), some (rf E 131), some (.int (nI tu)), some (.int x), none, some (.int (nI i)), some (.int (nI (12 * i))), none, none, none] [] := by
  have hn : I 127 2 = nI n := g.law2
  have n5 := g.1.1
  obtain ⟨j, hj, er⟩ := lowE_n (x >>> (8 &&& 31)) (m := n) (by omega) (by omega)
  have e6 : I 128 (12 * i + 6) = pt J i 6 := g.2.1.2 i hi 6 (by omega)
  refine g_iload C dL_law_279 rfl ?_
  refine g_bipush C (v := 8) dL_law_281 (by decide) ?_
  refine g_ishr C dL_law_283 ?_
  refine g_aload_n C dL_law_284 rfl rfl ?_
  refine g_iconst C (v := 2) dL_law_285 (by decide) ?_
  refine g_iald_j C (show ar NT 127 7 8 by decide) 2 rfl (by decide) (by decide) dL_law_286 ?_
  rw [hn]
  refine kL_58 C (by decide) (tL_low _ _ (nI_ne0 (by omega) (by omega))) ⟨⟨Nat.le_of_ble_eq_true rfl, Nat.le_of_ble_eq_true rfl⟩, Nat.le_of_ble_eq_true rfl, Nat.le_of_ble_eq_true rfl⟩ (Nat.le_of_ble_eq_true rfl) dL_law_287 ?_
  rw [er]
  refine g_istore C dL_law_290 (by decide) rfl ?_
  refine g_aload_n C dL_law_292 rfl rfl ?_
  refine g_iload C dL_law_293 rfl ?_
  refine g_bipush C (v := 6) dL_law_295 (by decide) ?_
  refine g_iadd C dL_law_297 ?_
  refine g_iald_j C (show ar NT 128 7 60 by decide) ((12 * i) + 6) (nI_add (12 * i) 6) (by omega) (by decide) dL_law_298 ?_
  rw [e6]
  refine g_iload C dL_law_299 rfl ?_
  refine g_ishr C dL_law_301 ?_
  refine g_iconst C (v := 1) dL_law_302 (by decide) ?_
  refine g_iand C dL_law_303 ?_
  refine g_iconst C (v := 1) dL_law_304 (by decide) ?_
  refine g_icmp_ne C (tgt := 312) dL_law_305 (by decide) (fun c305 => ?_) (fun c305 => ?_)
  · skip
    refine g_iconst C (v := 0) dL_law_312 (by decide) ?_
    refine g_istore C dL_law_313 (by decide) rfl ?_
    refine g_aload_n C dL_law_315 rfl rfl ?_
    refine g_iload C dL_law_316 rfl ?_
    refine g_iload C dL_law_318 rfl ?_
    refine g_iload C dL_law_320 rfl ?_
    refine g_if_ne C (tgt := 329) dL_law_322 (by decide) (fun c9 => absurd c9 (by decide)) (fun _ => ?_)
    refine g_iconst C (v := 1) dL_law_325 (by decide) ?_
    refine g_goto C (tgt := 330) dL_law_326 (by decide) ?_
    by_cases hij : i = j
    · skip
      subst hij
      refine kL_87 C (show ob NT 0 4 by decide) (c_link_eq h hi _) ⟨⟨Nat.le_of_ble_eq_true rfl, Nat.le_of_ble_eq_true rfl⟩, Nat.le_of_ble_eq_true rfl, Nat.le_of_ble_eq_true rfl⟩ (Nat.le_of_ble_eq_true rfl) dL_law_330 ?_
      refine g_iload C dL_law_333 rfl ?_
      refine g_iload C dL_law_335 rfl ?_
      refine g_icmp_ne C (tgt := 345) dL_law_337 (by decide) (fun c337 => absurd rfl c337) (fun _ => ?_)
      refine g_bipush C (v := (-2)) dL_law_340 (by decide) ?_
      refine g_goto C (tgt := 357) dL_law_342 (by decide) ?_
      refine g_icmp_eq C (tgt := 362) dL_law_357 (by decide) (fun _ => ?_) (fun c357 => absurd rfl c357)
      refine g_iload C dL_law_362 rfl ?_
      refine g_iload C dL_law_364 rfl ?_
      refine g_icmp_eq C (tgt := 383) dL_law_366 (by decide) (fun _ => ?_) (fun c366 => absurd rfl c366)
      refine g_goto C (tgt := 749) dL_law_383 (by decide) ?_
      exact G_forget 9 (G_forget 10 (G_forget 11 (G_forget 12 (G_forget 13 (G_forget 14 (kk I F O (by omega) ⟨J, w, h, g⟩))))))
    · skip
      obtain ⟨X2, F2, cb, hc, hf⟩ := c_link (l := l) (E := E) h hi hj hij (b := 1) (by rw [show bt (pt J i 6) j = false by simpa using (fun z => c305 ((has_iff _ (by omega)).mpr z))]; decide)
      have q6 : X2 128 (12 * i + 6) = pt J i 6 := by rw [hf 128 (by omega)]; exact e6
      refine kL_87 C (show ob NT 0 4 by decide) cb ⟨⟨Nat.le_of_ble_eq_true rfl, Nat.le_of_ble_eq_true rfl⟩, Nat.le_of_ble_eq_true rfl, Nat.le_of_ble_eq_true rfl⟩ (Nat.le_of_ble_eq_true rfl) dL_law_330 ?_
      refine g_iload C dL_law_333 rfl ?_
      refine g_iload C dL_law_335 rfl ?_
      refine g_icmp_ne C (tgt := 345) dL_law_337 (by decide) (fun _ => ?_) (fun c337 => absurd c337 (fun z => hij ((nI_eq (by omega) (by omega)).mp z)))
      refine g_aload_n C dL_law_345 rfl rfl ?_
      refine g_iload C dL_law_346 rfl ?_
      refine g_bipush C (v := 6) dL_law_348 (by decide) ?_
      refine g_iadd C dL_law_350 ?_
      refine g_iald_j C (show ar NT 128 7 60 by decide) ((12 * i) + 6) (nI_add (12 * i) 6) (by omega) (by decide) dL_law_351 ?_
      rw [q6]
      refine g_iconst C (v := 1) dL_law_352 (by decide) ?_
      refine g_iload C dL_law_353 rfl ?_
      refine g_ishl C dL_law_355 ?_
      refine g_ixor C dL_law_356 ?_
      refine g_icmp_eq C (tgt := 362) dL_law_357 (by decide) (fun _ => ?_) (fun c357 => absurd rfl c357)
      refine g_iload C dL_law_362 rfl ?_
      refine g_iload C dL_law_364 rfl ?_
      refine g_icmp_eq C (tgt := 383) dL_law_366 (by decide) (fun c366 => absurd c366 (fun z => hij ((nI_eq (by omega) (by omega)).mp z))) (fun _ => ?_)
      refine g_aload_n C dL_law_369 rfl rfl ?_
      refine g_iload C dL_law_370 rfl ?_
      refine g_bipush C (v := 6) dL_law_372 (by decide) ?_
      refine g_iadd C dL_law_374 ?_
      refine g_dup2_11 C dL_law_375 rfl rfl ?_
      refine g_iald_j C (show ar NT 128 7 60 by decide) ((12 * i) + 6) (nI_add (12 * i) 6) (by omega) (by decide) dL_law_376 ?_
      rw [q6]
      refine g_iconst C (v := 1) dL_law_377 (by decide) ?_
      refine g_iload C dL_law_378 rfl ?_
      refine g_ishl C dL_law_380 ?_
      refine g_ixor C dL_law_381 ?_
      refine g_iast_j C (show ar NT 128 7 60 by decide) ((12 * i) + 6) (nI_add (12 * i) 6) (by omega) (by decide) dL_law_382 ?_
      refine g_goto C (tgt := 749) dL_law_383 (by decide) ?_
      exact G_forget 9 (G_forget 10 (G_forget 11 (G_forget 12 (G_forget 13 (G_forget 14 (kk _ F2 O (by omega) ⟨_, w, hc.up (fun z hz => up_ne (by omega)), LG_part (p := 6) (by omega) (g.law (hf 127 (by omega)) (hf 128 (by omega))) hi (fun z => by omega) ⟨fun z => by omega, fun z => by omega⟩⟩))))))
  · skip
    refine g_iconst C (v := 1) dL_law_308 (by decide) ?_
    refine g_goto C (tgt := 313) dL_law_309 (by decide) ?_
    refine g_istore C dL_law_313 (by decide) rfl ?_
    refine g_aload_n C dL_law_315 rfl rfl ?_
    refine g_iload C dL_law_316 rfl ?_
    refine g_iload C dL_law_318 rfl ?_
    refine g_iload C dL_law_320 rfl ?_
    refine g_if_ne C (tgt := 329) dL_law_322 (by decide) (fun _ => ?_) (fun c9 => absurd c9 (by decide))
    refine g_iconst C (v := 0) dL_law_329 (by decide) ?_
    by_cases hij : i = j
    · skip
      subst hij
      refine kL_87 C (show ob NT 0 4 by decide) (c_link_eq h hi _) ⟨⟨Nat.le_of_ble_eq_true rfl, Nat.le_of_ble_eq_true rfl⟩, Nat.le_of_ble_eq_true rfl, Nat.le_of_ble_eq_true rfl⟩ (Nat.le_of_ble_eq_true rfl) dL_law_330 ?_
      refine g_iload C dL_law_333 rfl ?_
      refine g_iload C dL_law_335 rfl ?_
      refine g_icmp_ne C (tgt := 345) dL_law_337 (by decide) (fun c337 => absurd rfl c337) (fun _ => ?_)
      refine g_bipush C (v := (-2)) dL_law_340 (by decide) ?_
      refine g_goto C (tgt := 357) dL_law_342 (by decide) ?_
      refine g_icmp_eq C (tgt := 362) dL_law_357 (by decide) (fun _ => ?_) (fun c357 => absurd rfl c357)
      refine g_iload C dL_law_362 rfl ?_
      refine g_iload C dL_law_364 rfl ?_
      refine g_icmp_eq C (tgt := 383) dL_law_366 (by decide) (fun _ => ?_) (fun c366 => absurd rfl c366)
      refine g_goto C (tgt := 749) dL_law_383 (by decide) ?_
      exact G_forget 9 (G_forget 10 (G_forget 11 (G_forget 12 (G_forget 13 (G_forget 14 (kk I F O (by omega) ⟨J, w, h, g⟩))))))
    · skip
      obtain ⟨X2, F2, cb, hc, hf⟩ := c_link (l := l) (E := E) h hi hj hij (b := 0) (by rw [show bt (pt J i 6) j = true from (has_iff _ (by omega)).mp c305]; decide)
      have q6 : X2 128 (12 * i + 6) = pt J i 6 := by rw [hf 128 (by omega)]; exact e6
      refine kL_87 C (show ob NT 0 4 by decide) cb ⟨⟨Nat.le_of_ble_eq_true rfl, Nat.le_of_ble_eq_true rfl⟩, Nat.le_of_ble_eq_true rfl, Nat.le_of_ble_eq_true rfl⟩ (Nat.le_of_ble_eq_true rfl) dL_law_330 ?_
      refine g_iload C dL_law_333 rfl ?_
      refine g_iload C dL_law_335 rfl ?_
      refine g_icmp_ne C (tgt := 345) dL_law_337 (by decide) (fun _ => ?_) (fun c337 => absurd c337 (fun z => hij ((nI_eq (by omega) (by omega)).mp z)))
      refine g_aload_n C dL_law_345 rfl rfl ?_
      refine g_iload C dL_law_346 rfl ?_
      refine g_bipush C (v := 6) dL_law_348 (by decide) ?_
      refine g_iadd C dL_law_350 ?_
      refine g_iald_j C (show ar NT 128 7 60 by decide) ((12 * i) + 6) (nI_add (12 * i) 6) (by omega) (by decide) dL_law_351 ?_
      rw [q6]
      refine g_iconst C (v := 1) dL_law_352 (by decide) ?_
      refine g_iload C dL_law_353 rfl ?_
      refine g_ishl C dL_law_355 ?_
      refine g_ixor C dL_law_356 ?_
      refine g_icmp_eq C (tgt := 362) dL_law_357 (by decide) (fun _ => ?_) (fun c357 => absurd rfl c357)
      refine g_iload C dL_law_362 rfl ?_
      refine g_iload C dL_law_364 rfl ?_
      refine g_icmp_eq C (tgt := 383) dL_law_366 (by decide) (fun c366 => absurd c366 (fun z => hij ((nI_eq (by omega) (by omega)).mp z))) (fun _ => ?_)
      refine g_aload_n C dL_law_369 rfl rfl ?_
      refine g_iload C dL_law_370 rfl ?_
      refine g_bipush C (v := 6) dL_law_372 (by decide) ?_
      refine g_iadd C dL_law_374 ?_
      refine g_dup2_11 C dL_law_375 rfl rfl ?_
      refine g_iald_j C (show ar NT 128 7 60 by decide) ((12 * i) + 6) (nI_add (12 * i) 6) (by omega) (by decide) dL_law_376 ?_
      rw [q6]
      refine g_iconst C (v := 1) dL_law_377 (by decide) ?_
      refine g_iload C dL_law_378 rfl ?_
      refine g_ishl C dL_law_380 ?_
      refine g_ixor C dL_law_381 ?_
      refine g_iast_j C (show ar NT 128 7 60 by decide) ((12 * i) + 6) (nI_add (12 * i) 6) (by omega) (by decide) dL_law_382 ?_
      refine g_goto C (tgt := 749) dL_law_383 (by decide) ?_
      exact G_forget 9 (G_forget 10 (G_forget 11 (G_forget 12 (G_forget 13 (G_forget 14 (kk _ F2 O (by omega) ⟨_, w, hc.up (fun z hz => up_ne (by omega)), LG_part (p := 6) (by omega) (g.law (hf 127 (by omega)) (hf 128 (by omega))) hi (fun z => by omega) ⟨fun z => by omega, fun z => by omega⟩⟩))))))
set_option maxRecDepth 100000 in
set_option maxHeartbeats 8000000 in
theorem act_value (C : Cx E RL cL_law 15 p s m #[Value.ref b] meth c) {J : Mi} {w : Nat} (h : CR I F J n w) (g : LG I 127 J n w O) (hO : O < 700000) (hi : i < n) (kk : ∀ (X : Mi) (F2 : Mr) (O2 : Nat), O2 ≤ O + 25 → MI X F2 n O2 → G E NT 15 p l e room_1 s m #[Value.ref b] below meth c 132 1330 Q X F2 749 [some (.ref b), some (rf E 0), some (rf E 127), some (rf E 128), some (rf E 129), some (rf E 130), some (rf E 131), some (.int (nI tu)), some (.int x), none, none, none, none, none, none] []) : G E NT 15 p l e room_1 s m #[Value.ref b] below meth c 132 1330 Q I F 392 [some (.ref b), some (rf E 0), some (rf E 127), some (rf E 128), some (rf E 129), some (rf E 130), some (rf E 131), some (.int (nI tu)), some (.int x), none, some (.int (nI i)), some (.int (nI (12 * i))), none, none, none] [] := by
  have hn : I 127 2 = nI n := g.law2
  have n5 := g.1.1
  obtain ⟨v, hv, er⟩ := lowE_n (x >>> (8 &&& 31)) (m := 256) (by omega) (by omega)
  have er : lowE (x >>> (8 &&& 31)) 256 = nI v := er
  have e7 : I 128 (12 * i + 7) = pt J i 7 := g.2.1.2 i hi 7 (by omega)
  have e4 : I 128 (12 * i + 4) = pt J i 4 := g.2.1.2 i hi 4 (by omega)
  refine g_iload C dL_law_392 rfl ?_
  refine g_bipush C (v := 8) dL_law_394 (by decide) ?_
  refine g_ishr C dL_law_396 ?_
  refine g_sipush C (v := 256) dL_law_397 (by decide) ?_
  refine kL_58 C (by decide) (tL_low _ 256 (by decide)) ⟨⟨Nat.le_of_ble_eq_true rfl, Nat.le_of_ble_eq_true rfl⟩, Nat.le_of_ble_eq_true rfl, Nat.le_of_ble_eq_true rfl⟩ (Nat.le_of_ble_eq_true rfl) dL_law_400 ?_
  rw [er]
  refine g_istore C dL_law_403 (by decide) rfl ?_
  by_cases h0 : pt J i 7 = 0
  · skip
    obtain ⟨X2, F2, cb, hc, hf⟩ := (c_value (l := l) (E := E) h hi hv).1 h0
    have q7 : X2 128 (12 * i + 7) = pt J i 7 := by rw [hf 128 (by omega)]; exact e7
    have q4 : X2 128 (12 * i + 4) = pt J i 4 := by rw [hf 128 (by omega)]; exact e4
    refine g_aload_n C dL_law_405 rfl rfl ?_
    refine g_iload C dL_law_406 rfl ?_
    refine g_iload C dL_law_408 rfl ?_
    refine kL_91 C (show ob NT 0 4 by decide) cb ⟨⟨Nat.le_of_ble_eq_true rfl, Nat.le_of_ble_eq_true rfl⟩, Nat.le_of_ble_eq_true rfl, Nat.le_of_ble_eq_true rfl⟩ (Nat.le_of_ble_eq_true rfl) dL_law_410 ?_
    refine g_aload_n C dL_law_413 rfl rfl ?_
    refine g_iload C dL_law_414 rfl ?_
    refine g_bipush C (v := 7) dL_law_416 (by decide) ?_
    refine g_iadd C dL_law_418 ?_
    refine g_iald_j C (show ar NT 128 7 60 by decide) ((12 * i) + 7) (nI_add (12 * i) 7) (by omega) (by decide) dL_law_419 ?_
    refine g_if_ne C (tgt := 432) dL_law_420 (by decide) (fun c420 => absurd (q7.trans h0) c420) (fun _ => ?_)
    refine g_aload_n C dL_law_423 rfl rfl ?_
    refine g_iload C dL_law_424 rfl ?_
    refine g_iconst C (v := 4) dL_law_426 (by decide) ?_
    refine g_iadd C dL_law_427 ?_
    refine g_iald_j C (show ar NT 128 7 60 by decide) ((12 * i) + 4) (nI_add (12 * i) 4) (by omega) (by decide) dL_law_428 ?_
    refine g_goto C (tgt := 434) dL_law_429 (by decide) ?_
    refine g_icmp_eq C (tgt := 439) dL_law_434 (by decide) (fun _ => ?_) (fun c434 => absurd q4.symm c434)
    refine g_aload_n C dL_law_439 rfl rfl ?_
    refine g_iload C dL_law_440 rfl ?_
    refine g_iconst C (v := 4) dL_law_442 (by decide) ?_
    refine g_iadd C dL_law_443 ?_
    refine g_aload_n C dL_law_444 rfl rfl ?_
    refine g_iload C dL_law_445 rfl ?_
    refine g_bipush C (v := 7) dL_law_447 (by decide) ?_
    refine g_iadd C dL_law_449 ?_
    refine g_iald_j C (show ar NT 128 7 60 by decide) ((12 * i) + 7) (nI_add (12 * i) 7) (by omega) (by decide) dL_law_450 ?_
    refine g_if_ne C (tgt := 459) dL_law_451 (by decide) (fun c451 => absurd (q7.trans h0) c451) (fun _ => ?_)
    refine g_iload C dL_law_454 rfl ?_
    refine g_goto C (tgt := 465) dL_law_456 (by decide) ?_
    refine g_iast_j C (show ar NT 128 7 60 by decide) ((12 * i) + 4) (nI_add (12 * i) 4) (by omega) (by decide) dL_law_465 ?_
    refine g_goto C (tgt := 749) dL_law_466 (by decide) ?_
    exact G_forget 9 (G_forget 10 (G_forget 11 (G_forget 12 (G_forget 13 (G_forget 14 (kk _ F2 O (by omega) ⟨_, w, hc.up (fun z hz => up_ne (by omega)), LG_part (p := 4) (by omega) (g.law (hf 127 (by omega)) (hf 128 (by omega))) hi (fun z => by omega) ⟨fun _ => ⟨v, hv, rfl⟩, fun z => by omega⟩⟩))))))
  · skip
    refine g_aload_n C dL_law_405 rfl rfl ?_
    refine g_iload C dL_law_406 rfl ?_
    refine g_iload C dL_law_408 rfl ?_
    refine kL_91 C (show ob NT 0 4 by decide) ((c_value (l := l) (E := E) h hi hv).2 h0) ⟨⟨Nat.le_of_ble_eq_true rfl, Nat.le_of_ble_eq_true rfl⟩, Nat.le_of_ble_eq_true rfl, Nat.le_of_ble_eq_true rfl⟩ (Nat.le_of_ble_eq_true rfl) dL_law_410 ?_
    refine g_aload_n C dL_law_413 rfl rfl ?_
    refine g_iload C dL_law_414 rfl ?_
    refine g_bipush C (v := 7) dL_law_416 (by decide) ?_
    refine g_iadd C dL_law_418 ?_
    refine g_iald_j C (show ar NT 128 7 60 by decide) ((12 * i) + 7) (nI_add (12 * i) 7) (by omega) (by decide) dL_law_419 ?_
    refine g_if_ne C (tgt := 432) dL_law_420 (by decide) (fun _ => ?_) (fun c420 => absurd c420 (fun z => h0 (e7.symm.trans z)))
    refine g_bipush C (v := (-5)) dL_law_432 (by decide) ?_
    refine g_icmp_eq C (tgt := 439) dL_law_434 (by decide) (fun _ => ?_) (fun c434 => absurd rfl c434)
    refine g_aload_n C dL_law_439 rfl rfl ?_
    refine g_iload C dL_law_440 rfl ?_
    refine g_iconst C (v := 4) dL_law_442 (by decide) ?_
    refine g_iadd C dL_law_443 ?_
    refine g_aload_n C dL_law_444 rfl rfl ?_
    refine g_iload C dL_law_445 rfl ?_
    refine g_bipush C (v := 7) dL_law_447 (by decide) ?_
    refine g_iadd C dL_law_449 ?_
    refine g_iald_j C (show ar NT 128 7 60 by decide) ((12 * i) + 7) (nI_add (12 * i) 7) (by omega) (by decide) dL_law_450 ?_
    refine g_if_ne C (tgt := 459) dL_law_451 (by decide) (fun _ => ?_) (fun c451 => absurd c451 (fun z => h0 (e7.symm.trans z)))
    refine g_aload_n C dL_law_459 rfl rfl ?_
    refine g_iload C dL_law_460 rfl ?_
    refine g_iconst C (v := 4) dL_law_462 (by decide) ?_
    refine g_iadd C dL_law_463 ?_
    refine g_iald_j C (show ar NT 128 7 60 by decide) ((12 * i) + 4) (nI_add (12 * i) 4) (by omega) (by decide) dL_law_464 ?_
    refine g_iast_j C (show ar NT 128 7 60 by decide) ((12 * i) + 4) (nI_add (12 * i) 4) (by omega) (by decide) dL_law_465 ?_
    refine g_goto C (tgt := 749) dL_law_466 (by decide) ?_
    exact G_forget 9 (G_forget 10 (G_forget 11 (G_forget 12 (G_forget 13 (G_forget 14 (G_cast (kk I F O (by omega) ⟨J, w, h, g⟩) (up_self I 128 _) rfl rfl rfl))))))
set_option maxRecDepth 100000 in
set_option maxHeartbeats 8000000 in
theorem act_sleep (C : Cx E RL cL_law 15 p s m #[Value.ref b] meth c) {J : Mi} {w : Nat} (h : CR I F J n w) (g : LG I 127 J n w O) (hO : O < 700000) (hi : i < n) (kk : ∀ (X : Mi) (F2 : Mr) (O2 : Nat), O2 ≤ O + 25 → MI X F2 n O2 → G E NT 15 p l e room_1 s m #[Value.ref b] below meth c 132 1330 Q X F2 749 [some (.ref b), some (rf E 0), some (rf E 127), some (rf E 128), some (rf E 129), some (rf E 130), some (rf E 131), some (.int (nI tu)), some (.int x), none, none, none, none, none, none] []) : G E NT 15 p l e room_1 s m #[Value.ref b] below meth c 132 1330 Q I F 476 [some (.ref b), some (rf E 0), some (rf E 127), some (rf E 128), some (rf E 129), some (rf E 130), some (rf E 131), some (.int (nI tu)), some (.int x), none, some (.int (nI i)), some (.int (nI (12 * i))), none, none, none] [] := by
  have hn : I 127 2 = nI n := g.law2
  have n5 := g.1.1
  have e7 : I 128 (12 * i + 7) = pt J i 7 := g.2.1.2 i hi 7 (by omega)
  by_cases h0 : pt J i 7 = 0
  · skip
    refine g_aload_n C dL_law_476 rfl rfl ?_
    refine g_iload C dL_law_477 rfl ?_
    refine g_bipush C (v := 7) dL_law_479 (by decide) ?_
    refine g_iadd C dL_law_481 ?_
    refine g_iald_j C (show ar NT 128 7 60 by decide) ((12 * i) + 7) (nI_add (12 * i) 7) (by omega) (by decide) dL_law_482 ?_
    refine g_if_ne C (tgt := 490) dL_law_483 (by decide) (fun c483 => absurd (e7.trans h0) c483) (fun _ => ?_)
    refine g_iconst C (v := 1) dL_law_486 (by decide) ?_
    refine g_goto C (tgt := 491) dL_law_487 (by decide) ?_
    refine g_istore C dL_law_491 (by decide) rfl ?_
    refine g_iload C dL_law_493 rfl ?_
    refine g_if_eq C (tgt := 506) dL_law_495 (by decide) (fun c9 => absurd c9 (by decide)) (fun _ => ?_)
    refine g_aload_n C dL_law_498 rfl rfl ?_
    refine g_iload C dL_law_499 rfl ?_
    refine g_bipush C (v := 7) dL_law_501 (by decide) ?_
    refine g_iadd C dL_law_503 ?_
    refine g_iconst C (v := 1) dL_law_504 (by decide) ?_
    refine g_iast_j C (show ar NT 128 7 60 by decide) ((12 * i) + 7) (nI_add (12 * i) 7) (by omega) (by decide) dL_law_505 ?_
    obtain ⟨X2, F2, cb, hc, hf⟩ := (c_sleep (l := l) (E := E) (h.up (Y := up I 128 (12 * i + 7) 1) (fun z hz => up_ne (by omega))) hi).1 h0
    have g2 : LG X2 127 (sp J i 7 1) n w O := (LG_part (p := 7) (v := 1) (by omega) g hi (fun _ => ⟨by decide, by rw [h0]; decide⟩) ⟨fun z => by omega, fun _ => ⟨1, by omega, rfl⟩⟩).law (hf 127 (by omega)) (hf 128 (by omega))
    obtain ⟨⟨v, v32, ev⟩, eb⟩ := bits_sleep g2 hi
    rw [eb] at cb
    refine g_aload_n C dL_law_506 rfl rfl ?_
    refine g_iload C dL_law_507 rfl ?_
    refine kL_94 C (show ob NT 0 4 by decide) cb ⟨⟨Nat.le_of_ble_eq_true rfl, Nat.le_of_ble_eq_true rfl⟩, Nat.le_of_ble_eq_true rfl, Nat.le_of_ble_eq_true rfl⟩ (Nat.le_of_ble_eq_true rfl) dL_law_509 ?_
    refine g_iload C dL_law_512 rfl ?_
    refine g_if_eq C (tgt := 537) dL_law_514 (by decide) (fun c9 => absurd c9 (by decide)) (fun _ => ?_)
    refine g_iload C dL_law_517 rfl ?_
    refine g_aload_n C dL_law_519 rfl rfl ?_
    refine g_aload_n C dL_law_520 rfl rfl ?_
    refine kL_20 C (by decide) (tL_readers LB7 n5 g2.law2 _) ⟨⟨Nat.le_of_ble_eq_true rfl, Nat.le_of_ble_eq_true rfl⟩, Nat.le_of_ble_eq_true rfl, Nat.le_of_ble_eq_true rfl⟩ (Nat.le_of_ble_eq_true rfl) dL_law_521 ?_
    refine g_iconst C (v := 0) dL_law_524 (by decide) ?_
    refine g_aload_n C dL_law_525 rfl rfl ?_
    refine g_aload_n C dL_law_526 rfl rfl ?_
    refine kL_16 C (by decide) (tL_set LB7 n5 g2.law2 0) ⟨⟨Nat.le_of_ble_eq_true rfl, Nat.le_of_ble_eq_true rfl⟩, Nat.le_of_ble_eq_true rfl, Nat.le_of_ble_eq_true rfl⟩ (Nat.le_of_ble_eq_true rfl) dL_law_527 ?_
    refine g_iand C dL_law_530 ?_
    refine kL_47 C (by decide) (tL_bits v32 ev) ⟨⟨Nat.le_of_ble_eq_true rfl, Nat.le_of_ble_eq_true rfl⟩, Nat.le_of_ble_eq_true rfl, Nat.le_of_ble_eq_true rfl⟩ (Nat.le_of_ble_eq_true rfl) dL_law_531 ?_
    refine g_goto C (tgt := 539) dL_law_534 (by decide) ?_
    refine g_icmp_eq C (tgt := 544) dL_law_539 (by decide) (fun _ => ?_) (fun c539 => absurd rfl c539)
    refine g_goto C (tgt := 749) dL_law_544 (by decide) ?_
    exact G_forget 9 (G_forget 10 (G_forget 11 (G_forget 12 (G_forget 13 (G_forget 14 (kk X2 F2 O (by omega) ⟨_, w, hc, g2⟩))))))
  · skip
    refine g_aload_n C dL_law_476 rfl rfl ?_
    refine g_iload C dL_law_477 rfl ?_
    refine g_bipush C (v := 7) dL_law_479 (by decide) ?_
    refine g_iadd C dL_law_481 ?_
    refine g_iald_j C (show ar NT 128 7 60 by decide) ((12 * i) + 7) (nI_add (12 * i) 7) (by omega) (by decide) dL_law_482 ?_
    refine g_if_ne C (tgt := 490) dL_law_483 (by decide) (fun _ => ?_) (fun c483 => absurd c483 (fun z => h0 (e7.symm.trans z)))
    refine g_iconst C (v := 0) dL_law_490 (by decide) ?_
    refine g_istore C dL_law_491 (by decide) rfl ?_
    refine g_iload C dL_law_493 rfl ?_
    refine g_if_eq C (tgt := 506) dL_law_495 (by decide) (fun _ => ?_) (fun c9 => absurd c9 (by decide))
    refine g_aload_n C dL_law_506 rfl rfl ?_
    refine g_iload C dL_law_507 rfl ?_
    refine kL_94 C (show ob NT 0 4 by decide) ((c_sleep (l := l) (E := E) h hi).2 h0) ⟨⟨Nat.le_of_ble_eq_true rfl, Nat.le_of_ble_eq_true rfl⟩, Nat.le_of_ble_eq_true rfl, Nat.le_of_ble_eq_true rfl⟩ (Nat.le_of_ble_eq_true rfl) dL_law_509 ?_
    refine g_iload C dL_law_512 rfl ?_
    refine g_if_eq C (tgt := 537) dL_law_514 (by decide) (fun _ => ?_) (fun c9 => absurd c9 (by decide))
    refine g_bipush C (v := (-5)) dL_law_537 (by decide) ?_
    refine g_icmp_eq C (tgt := 544) dL_law_539 (by decide) (fun _ => ?_) (fun c539 => absurd rfl c539)
    refine g_goto C (tgt := 749) dL_law_544 (by decide) ?_
    exact G_forget 9 (G_forget 10 (G_forget 11 (G_forget 12 (G_forget 13 (G_forget 14 (kk I F O (by omega) ⟨J, w, h, g⟩))))))
set_option maxRecDepth 100000 in
set_option maxHeartbeats 8000000 in
theorem act_wake (C : Cx E RL cL_law 15 p s m #[Value.ref b] meth c) {J : Mi} {w : Nat} (h : CR I F J n w) (g : LG I 127 J n w O) (hO : O < 700000) (hi : i < n) (kk : ∀ (X : Mi) (F2 : Mr) (O2 : Nat), O2 ≤ O + 25 → MI X F2 n O2 → G E NT 15 p l e room_1 s m #[Value.ref b] below meth c 132 1330 Q X F2 749 [some (.ref b), some (rf E 0), some (rf E 127), some (rf E 128), some (rf E 129), some (rf E 130), some (rf E 131), some (.int (nI tu)), some (.int x), none, none, none, none, none, none] []) : G E NT 15 p l e room_1 s m #[Value.ref b] below meth c 132 1330 Q I F 554 [some (.ref b), some (rf E 0), some (rf E 127), some (rf E 128), some (rf E 129), some (rf E 130), some (rf E 131), some (.int (nI tu)), some (.int x), none, some (.int (nI i)), some (.int (nI (12 * i))), none, none, none] [] := by
  have hn : I 127 2 = nI n := g.law2
  have n5 := g.1.1
  have e7 : I 128 (12 * i + 7) = pt J i 7 := g.2.1.2 i hi 7 (by omega)
  by_cases h0 : pt J i 7 = 2
  · skip
    refine g_aload_n C dL_law_554 rfl rfl ?_
    refine g_iload C dL_law_555 rfl ?_
    refine g_bipush C (v := 7) dL_law_557 (by decide) ?_
    refine g_iadd C dL_law_559 ?_
    refine g_iald_j C (show ar NT 128 7 60 by decide) ((12 * i) + 7) (nI_add (12 * i) 7) (by omega) (by decide) dL_law_560 ?_
    refine g_iconst C (v := 2) dL_law_561 (by decide) ?_
    refine g_icmp_ne C (tgt := 569) dL_law_562 (by decide) (fun c562 => absurd (e7.trans h0) c562) (fun _ => ?_)
    refine g_iconst C (v := 1) dL_law_565 (by decide) ?_
    refine g_goto C (tgt := 570) dL_law_566 (by decide) ?_
    refine g_istore C dL_law_570 (by decide) rfl ?_
    refine g_iload C dL_law_572 rfl ?_
    refine g_if_eq C (tgt := 584) dL_law_574 (by decide) (fun c9 => absurd c9 (by decide)) (fun _ => ?_)
    refine g_iload C dL_law_577 rfl ?_
    refine g_aload_n C dL_law_579 rfl rfl ?_
    refine g_aload_n C dL_law_580 rfl rfl ?_
    refine kL_23 C (by decide) (tL_order LB7 (u := i) (by omega)) ⟨⟨Nat.le_of_ble_eq_true rfl, Nat.le_of_ble_eq_true rfl⟩, Nat.le_of_ble_eq_true rfl, Nat.le_of_ble_eq_true rfl⟩ (Nat.le_of_ble_eq_true rfl) dL_law_581 ?_
    obtain ⟨X2, F2, cb, hc, hf⟩ := (c_wake (l := l) (E := E) (h.up (Y := ordL I 127 i) (fun z hz => ordL_fr (by omega) (by omega))) hi).1 h0
    have g2 : LG X2 127 (wtM J i w) n (w + 1) (O + 1) := (LG_ord g (by omega) hi h0).2.law (hf 127 (by omega)) (hf 128 (by omega))
    obtain ⟨v, v32, ev⟩ := setL_lt X2 127 n5 3
    have eb := bits_w g2 (by omega)
    refine g_aload_n C dL_law_584 rfl rfl ?_
    refine g_iload C dL_law_585 rfl ?_
    refine kL_97 C (show ob NT 0 4 by decide) cb ⟨⟨Nat.le_of_ble_eq_true rfl, Nat.le_of_ble_eq_true rfl⟩, Nat.le_of_ble_eq_true rfl, Nat.le_of_ble_eq_true rfl⟩ (Nat.le_of_ble_eq_true rfl) dL_law_587 ?_
    refine g_iload C dL_law_590 rfl ?_
    refine g_if_eq C (tgt := 607) dL_law_592 (by decide) (fun c9 => absurd c9 (by decide)) (fun _ => ?_)
    refine g_iconst C (v := 3) dL_law_595 (by decide) ?_
    refine g_aload_n C dL_law_596 rfl rfl ?_
    refine g_aload_n C dL_law_597 rfl rfl ?_
    refine kL_16 C (by decide) (tL_set LB7 n5 g2.law2 3) ⟨⟨Nat.le_of_ble_eq_true rfl, Nat.le_of_ble_eq_true rfl⟩, Nat.le_of_ble_eq_true rfl, Nat.le_of_ble_eq_true rfl⟩ (Nat.le_of_ble_eq_true rfl) dL_law_598 ?_
    refine kL_47 C (by decide) (tL_bits v32 ev) ⟨⟨Nat.le_of_ble_eq_true rfl, Nat.le_of_ble_eq_true rfl⟩, Nat.le_of_ble_eq_true rfl, Nat.le_of_ble_eq_true rfl⟩ (Nat.le_of_ble_eq_true rfl) dL_law_601 ?_
    refine g_goto C (tgt := 609) dL_law_604 (by decide) ?_
    refine g_icmp_eq C (tgt := 614) dL_law_609 (by decide) (fun _ => ?_) (fun c609 => absurd eb.symm c609)
    refine g_goto C (tgt := 749) dL_law_614 (by decide) ?_
    exact G_forget 9 (G_forget 10 (G_forget 11 (G_forget 12 (G_forget 13 (G_forget 14 (kk X2 F2 (O + 1) (by omega) ⟨_, w + 1, hc, g2⟩))))))
  · skip
    refine g_aload_n C dL_law_554 rfl rfl ?_
    refine g_iload C dL_law_555 rfl ?_
    refine g_bipush C (v := 7) dL_law_557 (by decide) ?_
    refine g_iadd C dL_law_559 ?_
    refine g_iald_j C (show ar NT 128 7 60 by decide) ((12 * i) + 7) (nI_add (12 * i) 7) (by omega) (by decide) dL_law_560 ?_
    refine g_iconst C (v := 2) dL_law_561 (by decide) ?_
    refine g_icmp_ne C (tgt := 569) dL_law_562 (by decide) (fun _ => ?_) (fun c562 => absurd c562 (fun z => h0 (e7.symm.trans z)))
    refine g_iconst C (v := 0) dL_law_569 (by decide) ?_
    refine g_istore C dL_law_570 (by decide) rfl ?_
    refine g_iload C dL_law_572 rfl ?_
    refine g_if_eq C (tgt := 584) dL_law_574 (by decide) (fun _ => ?_) (fun c9 => absurd c9 (by decide))
    refine g_aload_n C dL_law_584 rfl rfl ?_
    refine g_iload C dL_law_585 rfl ?_
    refine kL_97 C (show ob NT 0 4 by decide) ((c_wake (l := l) (E := E) h hi).2 h0) ⟨⟨Nat.le_of_ble_eq_true rfl, Nat.le_of_ble_eq_true rfl⟩, Nat.le_of_ble_eq_true rfl, Nat.le_of_ble_eq_true rfl⟩ (Nat.le_of_ble_eq_true rfl) dL_law_587 ?_
    refine g_iload C dL_law_590 rfl ?_
    refine g_if_eq C (tgt := 607) dL_law_592 (by decide) (fun _ => ?_) (fun c9 => absurd c9 (by decide))
    refine g_bipush C (v := (-5)) dL_law_607 (by decide) ?_
    refine g_icmp_eq C (tgt := 614) dL_law_609 (by decide) (fun _ => ?_) (fun c609 => absurd rfl c609)
    refine g_goto C (tgt := 749) dL_law_614 (by decide) ?_
    exact G_forget 9 (G_forget 10 (G_forget 11 (G_forget 12 (G_forget 13 (G_forget 14 (kk I F O (by omega) ⟨J, w, h, g⟩))))))
set_option maxRecDepth 100000 in
set_option maxHeartbeats 8000000 in
theorem act_set (C : Cx E RL cL_law 15 p s m #[Value.ref b] meth c) {J : Mi} {w : Nat} (h : CR I F J n w) (g : LG I 127 J n w O) (hO : O < 700000)  (kk : ∀ (X : Mi) (F2 : Mr) (O2 : Nat), O2 ≤ O + 25 → MI X F2 n O2 → G E NT 15 p l e room_1 s m #[Value.ref b] below meth c 132 1330 Q X F2 749 [some (.ref b), some (rf E 0), some (rf E 127), some (rf E 128), some (rf E 129), some (rf E 130), some (rf E 131), some (.int (nI tu)), some (.int x), none, none, none, none, none, none] []) : G E NT 15 p l e room_1 s m #[Value.ref b] below meth c 132 1330 Q I F 624 [some (.ref b), some (rf E 0), some (rf E 127), some (rf E 128), some (rf E 129), some (rf E 130), some (rf E 131), some (.int (nI tu)), some (.int x), none, some (.int (nI i)), some (.int (nI (12 * i))), none, none, none] [] := by
  have hn : I 127 2 = nI n := g.law2
  have n5 := g.1.1
  have hz2 : lowE (x >>> (5 &&& 31)) 2 = 0 ∨ lowE (x >>> (5 &&& 31)) 2 = 1 := by
    obtain ⟨r, r1, r2⟩ := lowE_n (x >>> (5 &&& 31)) (m := 2) (by omega) (by omega)
    have r2 : lowE (x >>> (5 &&& 31)) 2 = nI r := r2
    rw [r2]
    rcases (show r = 0 ∨ r = 1 by omega) with rfl | rfl
    · exact Or.inl rfl
    · exact Or.inr rfl
  obtain ⟨y, hy, ey⟩ : ∃ y, (1 ≤ y ∧ y ≤ 60) ∧ (1 : Int32) + lowE (x >>> (7 &&& 31)) 60 = nI y := by
    obtain ⟨r, r1, r2⟩ := lowE_n (x >>> (7 &&& 31)) (m := 60) (by omega) (by omega)
    exact ⟨r + 1, by omega, by rw [show lowE (x >>> (7 &&& 31)) 60 = nI r from r2, Int32.add_comm]; exact nI_1 r⟩
  obtain ⟨z1, hz1, ez1⟩ := lowE_n (x >>> (7 &&& 31)) (m := 2) (by omega) (by omega)
  have ez1 : lowE (x >>> (7 &&& 31)) 2 = nI z1 := ez1
  have wy : isW (nI y) 1 60 = true := by
    unfold isW
    simp only [Bool.and_eq_true, decide_eq_true_eq]
    exact ⟨nI_nlt (b := 1) hy.1 (by omega), nI_nlt (a := 60) hy.2 (by omega)⟩
  have wz : isW (nI z1) 0 1 = true := by
    unfold isW
    simp only [Bool.and_eq_true, decide_eq_true_eq]
    exact ⟨nI_pos (by omega), nI_nlt (a := 1) (by omega) (by omega)⟩
  refine g_iload C dL_law_624 rfl ?_
  refine g_iconst C (v := 5) dL_law_626 (by decide) ?_
  refine g_ishr C dL_law_627 ?_
  refine g_iconst C (v := 2) dL_law_628 (by decide) ?_
  refine kL_58 C (by decide) (tL_low _ 2 (by decide)) ⟨⟨Nat.le_of_ble_eq_true rfl, Nat.le_of_ble_eq_true rfl⟩, Nat.le_of_ble_eq_true rfl, Nat.le_of_ble_eq_true rfl⟩ (Nat.le_of_ble_eq_true rfl) dL_law_629 ?_
  by_cases hz : lowE (x >>> (5 &&& 31)) 2 = 0
  · skip
    rw [hz]
    refine g_istore C dL_law_632 (by decide) rfl ?_
    refine g_iload C dL_law_634 rfl ?_
    refine g_if_ne C (tgt := 654) dL_law_636 (by decide) (fun c9 => absurd c9 (by decide)) (fun _ => ?_)
    refine g_iconst C (v := 1) dL_law_639 (by decide) ?_
    refine g_iload C dL_law_640 rfl ?_
    refine g_bipush C (v := 7) dL_law_642 (by decide) ?_
    refine g_ishr C dL_law_644 ?_
    refine g_bipush C (v := 60) dL_law_645 (by decide) ?_
    refine kL_58 C (by decide) (tL_low _ 60 (by decide)) ⟨⟨Nat.le_of_ble_eq_true rfl, Nat.le_of_ble_eq_true rfl⟩, Nat.le_of_ble_eq_true rfl, Nat.le_of_ble_eq_true rfl⟩ (Nat.le_of_ble_eq_true rfl) dL_law_647 ?_
    refine g_iadd C dL_law_650 ?_
    refine g_goto C (tgt := 663) dL_law_651 (by decide) ?_
    rw [ey]
    refine g_istore C dL_law_663 (by decide) rfl ?_
    obtain ⟨X2, F2, cb, hc, hf⟩ := c_set0 (l := l) (E := E) h wy
    have q0 : X2 127 0 = J 128 0 := by rw [hf 127 (by omega)]; exact g.2.1.1 0 (by omega)
    refine g_aload_n C dL_law_665 rfl rfl ?_
    refine g_iload C dL_law_666 rfl ?_
    refine g_iload C dL_law_668 rfl ?_
    refine kL_100 C (show ob NT 0 4 by decide) cb ⟨⟨Nat.le_of_ble_eq_true rfl, Nat.le_of_ble_eq_true rfl⟩, Nat.le_of_ble_eq_true rfl, Nat.le_of_ble_eq_true rfl⟩ (Nat.le_of_ble_eq_true rfl) dL_law_670 ?_
    refine g_aload_n C dL_law_673 rfl rfl ?_
    refine g_iload C dL_law_674 rfl ?_
    refine g_iald_j C (show ar NT 127 7 8 by decide) 0 rfl (by decide) (by decide) dL_law_676 ?_
    refine g_icmp_eq C (tgt := 682) dL_law_677 (by decide) (fun _ => ?_) (fun c677 => absurd q0.symm c677)
    refine g_aload_n C dL_law_682 rfl rfl ?_
    refine g_iload C dL_law_683 rfl ?_
    refine g_iload C dL_law_685 rfl ?_
    refine g_iast_j C (show ar NT 127 7 8 by decide) 0 rfl (by decide) (by decide) dL_law_687 ?_
    refine g_goto C (tgt := 749) dL_law_688 (by decide) ?_
    exact G_forget 9 (G_forget 10 (G_forget 11 (G_forget 12 (G_forget 13 (G_forget 14 (kk _ F2 O (by omega) ⟨_, w, hc.up (fun z hz => up_ne (by omega)), LG_put (y := 0) (by omega) (by omega) (g.law (hf 127 (by omega)) (hf 128 (by omega)))⟩))))))
  · skip
    have hz := hz2.resolve_left hz
    rw [hz]
    refine g_istore C dL_law_632 (by decide) rfl ?_
    refine g_iload C dL_law_634 rfl ?_
    refine g_if_ne C (tgt := 654) dL_law_636 (by decide) (fun _ => ?_) (fun c9 => absurd c9 (by decide))
    refine g_iload C dL_law_654 rfl ?_
    refine g_bipush C (v := 7) dL_law_656 (by decide) ?_
    refine g_ishr C dL_law_658 ?_
    refine g_iconst C (v := 2) dL_law_659 (by decide) ?_
    refine kL_58 C (by decide) (tL_low _ 2 (by decide)) ⟨⟨Nat.le_of_ble_eq_true rfl, Nat.le_of_ble_eq_true rfl⟩, Nat.le_of_ble_eq_true rfl, Nat.le_of_ble_eq_true rfl⟩ (Nat.le_of_ble_eq_true rfl) dL_law_660 ?_
    rw [ez1]
    refine g_istore C dL_law_663 (by decide) rfl ?_
    obtain ⟨X2, F2, cb, hc, hf⟩ := c_set1 (l := l) (E := E) h wz
    have q0 : X2 127 1 = J 128 1 := by rw [hf 127 (by omega)]; exact g.2.1.1 1 (by omega)
    refine g_aload_n C dL_law_665 rfl rfl ?_
    refine g_iload C dL_law_666 rfl ?_
    refine g_iload C dL_law_668 rfl ?_
    refine kL_100 C (show ob NT 0 4 by decide) cb ⟨⟨Nat.le_of_ble_eq_true rfl, Nat.le_of_ble_eq_true rfl⟩, Nat.le_of_ble_eq_true rfl, Nat.le_of_ble_eq_true rfl⟩ (Nat.le_of_ble_eq_true rfl) dL_law_670 ?_
    refine g_aload_n C dL_law_673 rfl rfl ?_
    refine g_iload C dL_law_674 rfl ?_
    refine g_iald_j C (show ar NT 127 7 8 by decide) 1 rfl (by decide) (by decide) dL_law_676 ?_
    refine g_icmp_eq C (tgt := 682) dL_law_677 (by decide) (fun _ => ?_) (fun c677 => absurd q0.symm c677)
    refine g_aload_n C dL_law_682 rfl rfl ?_
    refine g_iload C dL_law_683 rfl ?_
    refine g_iload C dL_law_685 rfl ?_
    refine g_iast_j C (show ar NT 127 7 8 by decide) 1 rfl (by decide) (by decide) dL_law_687 ?_
    refine g_goto C (tgt := 749) dL_law_688 (by decide) ?_
    exact G_forget 9 (G_forget 10 (G_forget 11 (G_forget 12 (G_forget 13 (G_forget 14 (kk _ F2 O (by omega) ⟨_, w, hc.up (fun z hz => up_ne (by omega)), LG_put (y := 1) (by omega) (by omega) (g.law (hf 127 (by omega)) (hf 128 (by omega)))⟩))))))
set_option maxRecDepth 100000 in
set_option maxHeartbeats 8000000 in
theorem act_pass (C : Cx E RL cL_law 15 p s m #[Value.ref b] meth c) {J : Mi} {w : Nat} (h : CR I F J n w) (g : LG I 127 J n w O) (hO : O < 700000)  (kk : ∀ (X : Mi) (F2 : Mr) (O2 : Nat), O2 ≤ O + 25 → MI X F2 n O2 → G E NT 15 p l e room_1 s m #[Value.ref b] below meth c 132 1330 Q X F2 749 [some (.ref b), some (rf E 0), some (rf E 127), some (rf E 128), some (rf E 129), some (rf E 130), some (rf E 131), some (.int (nI tu)), some (.int x), none, none, none, none, none, none] []) : G E NT 15 p l e room_1 s m #[Value.ref b] below meth c 132 1330 Q I F 691 [some (.ref b), some (rf E 0), some (rf E 127), some (rf E 128), some (rf E 129), some (rf E 130), some (rf E 131), some (.int (nI tu)), some (.int x), none, some (.int (nI i)), some (.int (nI (12 * i))), none, none, none] [] := by
  have hn : I 127 2 = nI n := g.law2
  have n5 := g.1.1
  obtain ⟨t, ht, et⟩ : ∃ t, (1 ≤ t ∧ t ≤ 5) ∧ (1 : Int32) + lowE (x >>> (6 &&& 31)) 5 = nI t := by
    obtain ⟨r, r1, r2⟩ := lowE_n (x >>> (6 &&& 31)) (m := 5) (by omega) (by omega)
    exact ⟨r + 1, by omega, by rw [show lowE (x >>> (6 &&& 31)) 5 = nI r from r2, Int32.add_comm]; exact nI_1 r⟩
  have hnt : n * t ≤ 5 * 5 := Nat.mul_le_mul n5 ht.2
  have hp := LG_pass LB7 g t (by omega)
  have q4 : I 127 4 = J 128 4 := g.2.1.1 4 (by omega)
  refine g_iconst C (v := 1) dL_law_691 (by decide) ?_
  refine g_iload C dL_law_692 rfl ?_
  refine g_bipush C (v := 6) dL_law_694 (by decide) ?_
  refine g_ishr C dL_law_696 ?_
  refine g_iconst C (v := 5) dL_law_697 (by decide) ?_
  refine kL_58 C (by decide) (tL_low _ 5 (by decide)) ⟨⟨Nat.le_of_ble_eq_true rfl, Nat.le_of_ble_eq_true rfl⟩, Nat.le_of_ble_eq_true rfl, Nat.le_of_ble_eq_true rfl⟩ (Nat.le_of_ble_eq_true rfl) dL_law_698 ?_
  refine g_iadd C dL_law_701 ?_
  rw [et]
  refine g_istore C dL_law_702 (by decide) rfl ?_
  refine g_aload_n C dL_law_704 rfl rfl ?_
  refine g_iconst C (v := 4) dL_law_705 (by decide) ?_
  refine g_iald_j C (show ar NT 127 7 8 by decide) 4 rfl (by decide) (by decide) dL_law_706 ?_
  rw [q4]
  refine g_istore C dL_law_707 (by decide) rfl ?_
  refine g_iconst C (v := 0) dL_law_709 (by decide) ?_
  refine g_istore C dL_law_710 (by decide) rfl ?_
  refine G_loop (n := t) (fun i712 => [some (.ref b), some (rf E 0), some (rf E 127), some (rf E 128), some (rf E 129), some (rf E 130), some (rf E 131), some (.int (nI tu)), some (.int x), none, some (.int (nI i)), some (.int (nI (12 * i))), some (.int (nI t)), some (.int (J 128 4)), some (.int (nI i712))]) (fun i712 => psL I 127 n i712) (fun _ => F) rfl rfl rfl ?_ ?_
  · intro i712 hi712 ih712
    refine g_iload C dL_law_712 rfl ?_
    refine g_iload C dL_law_714 rfl ?_
    refine g_icmp_ge C (tgt := 732) dL_law_716 (by decide) (fun c716 => absurd c716 (nI_nge rfl hi712 (by omega))) (fun _ => ?_)
    refine g_aload_n C dL_law_719 rfl rfl ?_
    refine g_aload_n C dL_law_720 rfl rfl ?_
    refine g_aload C dL_law_721 rfl ?_
    refine kL_54 C (by decide) (tL_tick LB7 n5 (hp.2 i712 hi712)) ⟨⟨Nat.le_of_ble_eq_true rfl, Nat.le_of_ble_eq_true rfl⟩, Nat.le_of_ble_eq_true rfl, Nat.le_of_ble_eq_true rfl⟩ (Nat.le_of_ble_eq_true rfl) dL_law_723 ?_
    refine g_iinc C dL_law_726 rfl (nI_inc _) (by decide) rfl ?_
    refine g_goto C (tgt := 712) dL_law_729 (by decide) ?_
    exact G_cast ih712 rfl rfl rfl rfl
  · skip
    obtain ⟨⟨w3, O3, o3, g3⟩, -⟩ := hp
    have hfr : ∀ z, z ≤ 104 → psL I 127 n t z = I z := fun z hz => psL_fr (by omega) (by omega) (by omega) t
    have hY := h.up (Y := psL I 127 n t) (fun z hz => hfr z (by omega))
    generalize psL I 127 n t = Y at g3 hY ⊢
    obtain ⟨X2, F2, w2, cb, hc, hf⟩ := c_pass (l := l) (E := E) hY ht.1 (by omega)
    have q42 : X2 127 4 = psM J t 128 4 := by rw [hf 127 (by omega)]; exact g3.2.1.1 4 (by omega)
    have g4 : LG X2 127 (psM J t) n w3 O3 := g3.law (hf 127 (by omega)) (hf 128 (by omega))
    obtain ⟨O4, o4, hM⟩ := MI.of (O2 := O3) hc g4 (Nat.le_refl _) (Or.inr (by obtain ⟨_, _, _, _, _, _, hR⟩ := hc; exact hR.1.2.2.1.2))
    refine g_iload C dL_law_712 rfl ?_
    refine g_iload C dL_law_714 rfl ?_
    refine g_icmp_ge C (tgt := 732) dL_law_716 (by decide) (fun _ => ?_) (fun c716 => absurd (nI_lee rfl) c716)
    refine g_aload_n C dL_law_732 rfl rfl ?_
    refine g_iload C dL_law_733 rfl ?_
    refine kL_102 C (show ob NT 0 4 by decide) cb ⟨⟨Nat.le_of_ble_eq_true rfl, Nat.le_of_ble_eq_true rfl⟩, Nat.le_of_ble_eq_true rfl, Nat.le_of_ble_eq_true rfl⟩ (Nat.le_of_ble_eq_true rfl) dL_law_735 ?_
    refine g_aload_n C dL_law_738 rfl rfl ?_
    refine g_iconst C (v := 4) dL_law_739 (by decide) ?_
    refine g_iald_j C (show ar NT 127 7 8 by decide) 4 rfl (by decide) (by decide) dL_law_740 ?_
    rw [q42]
    refine g_iload C dL_law_741 rfl ?_
    refine g_isub C dL_law_743 ?_
    refine g_icmp_eq C (tgt := 749) dL_law_744 (by decide) (fun _ => ?_) (fun c744 => absurd rfl c744)
    exact G_forget 9 (G_forget 10 (G_forget 11 (G_forget 12 (G_forget 13 (G_forget 14 (kk X2 F2 O4 (by omega) hM))))))
end LA
