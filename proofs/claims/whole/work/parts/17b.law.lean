/-! the law: each case, then its loop -/
section LAW
variable {E : EE} {p : Program} {l : Launch} {e : Env} {s : State} {m : MethodId} {below : List Frame} {meth : Method} {c : Code} {Q : State → Prop} {I : Mi} {F : Mr} {b L : Nat} {xs : Nat → Int32}
set_option maxRecDepth 100000 in
set_option maxHeartbeats 4000000 in
theorem law_c0 (C : Cx E RL cL_law 4 p s m #[Value.ref b] meth c) (hX : va_X b L xs s s.heap) (hbl : b < s.heap.size) (hE : pb E = s.heap.size) {j : Nat} (hj : j + 5 ≤ L) (hL : L ≤ 2560) (H : INV I F) (kk : ∀ I2 F2, INV I2 F2 → G E NT 4 p l e room_1 s m #[Value.ref b] below meth c 136 2236 Q I2 F2 733 [some (.ref b), some (rf E 0), some (rf E 127), some (.int (nI j))] []) : G E NT 4 p l e room_1 s m #[Value.ref b] below meth c 136 2236 Q I F 132 [some (.ref b), some (rf E 0), some (rf E 127), some (.int (nI j))] [] := by
  obtain ⟨r, I2, F2, I3, c4, c5, H3⟩ := st_set (l := l) (E := E) H (xs (j + 1)) (xs (j + 2))
  refine g_aload_n C dL_law_132 rfl rfl ?_
  refine g_aload_n C dL_law_133 rfl rfl ?_
  refine g_iload_n C dL_law_134 rfl rfl ?_
  refine g_iconst C (v := 1) dL_law_135 (by decide) ?_
  refine g_iadd C dL_law_136 ?_
  refine g_sld C hX hbl hE (j := j + 1) (nI_add j 1) (by omega) (by omega) dL_law_137 ?_
  refine g_aload_n C dL_law_138 rfl rfl ?_
  refine g_iload_n C dL_law_139 rfl rfl ?_
  refine g_iconst C (v := 2) dL_law_140 (by decide) ?_
  refine g_iadd C dL_law_141 ?_
  refine g_sld C hX hbl hE (j := j + 2) (nI_add j 2) (by omega) (by omega) dL_law_142 ?_
  refine kL_13 C (by decide +kernel) c4 ⟨⟨(Nat.le_of_ble_eq_true rfl), (Nat.le_of_ble_eq_true rfl)⟩, (Nat.le_of_ble_eq_true rfl), (Nat.le_of_ble_eq_true rfl)⟩ (Nat.le_of_ble_eq_true rfl) dL_law_143 ?_
  refine g_aload_n C dL_law_146 rfl rfl ?_
  refine g_aload_n C dL_law_147 rfl rfl ?_
  refine g_iload_n C dL_law_148 rfl rfl ?_
  refine g_iconst C (v := 1) dL_law_149 (by decide) ?_
  refine g_iadd C dL_law_150 ?_
  refine g_sld C hX hbl hE (j := j + 1) (nI_add j 1) (by omega) (by omega) dL_law_151 ?_
  refine g_aload_n C dL_law_152 rfl rfl ?_
  refine g_iload_n C dL_law_153 rfl rfl ?_
  refine g_iconst C (v := 2) dL_law_154 (by decide) ?_
  refine g_iadd C dL_law_155 ?_
  refine g_sld C hX hbl hE (j := j + 2) (nI_add j 2) (by omega) (by omega) dL_law_156 ?_
  refine kL_17 C (by decide +kernel) c5 ⟨⟨(Nat.le_of_ble_eq_true rfl), (Nat.le_of_ble_eq_true rfl)⟩, (Nat.le_of_ble_eq_true rfl), (Nat.le_of_ble_eq_true rfl)⟩ (Nat.le_of_ble_eq_true rfl) dL_law_157 ?_
  exact g_icmp_eq C (tgt := 733) dL_law_160 (by decide) (fun _ => kk I3 F2 H3) (fun h9 => absurd rfl h9)
set_option maxRecDepth 100000 in
set_option maxHeartbeats 4000000 in
theorem law_c1 (C : Cx E RL cL_law 4 p s m #[Value.ref b] meth c) (hX : va_X b L xs s s.heap) (hbl : b < s.heap.size) (hE : pb E = s.heap.size) {j : Nat} (hj : j + 5 ≤ L) (hL : L ≤ 2560) (H : INV I F) (kk : ∀ I2 F2, INV I2 F2 → G E NT 4 p l e room_1 s m #[Value.ref b] below meth c 136 2236 Q I2 F2 733 [some (.ref b), some (rf E 0), some (rf E 127), some (.int (nI j))] []) : G E NT 4 p l e room_1 s m #[Value.ref b] below meth c 136 2236 Q I F 165 [some (.ref b), some (rf E 0), some (rf E 127), some (.int (nI j))] [] := by
  obtain ⟨r, I2, F2, I3, c4, c5, H3⟩ := st_build (l := l) (E := E) H (bi (decide (¬ xs (j + 1) = 0))) (bi (decide (¬ xs (j + 2) = 0))) (xs (j + 3)) (xs (j + 4))
  refine g_aload_n C dL_law_165 rfl rfl ?_
  refine g_aload_n C dL_law_166 rfl rfl ?_
  refine g_iload_n C dL_law_167 rfl rfl ?_
  refine g_iconst C (v := 1) dL_law_168 (by decide) ?_
  refine g_iadd C dL_law_169 ?_
  refine g_sld C hX hbl hE (j := j + 1) (nI_add j 1) (by omega) (by omega) dL_law_170 ?_
  refine g_if_eq_j C (off := 7) (off2 := 4) dL_law_171 dL_law_174 dL_law_175 dL_law_178 ?_
  refine g_aload_n C dL_law_179 rfl rfl ?_
  refine g_iload_n C dL_law_180 rfl rfl ?_
  refine g_iconst C (v := 2) dL_law_181 (by decide) ?_
  refine g_iadd C dL_law_182 ?_
  refine g_sld C hX hbl hE (j := j + 2) (nI_add j 2) (by omega) (by omega) dL_law_183 ?_
  refine g_if_eq_j C (off := 7) (off2 := 4) dL_law_184 dL_law_187 dL_law_188 dL_law_191 ?_
  refine g_aload_n C dL_law_192 rfl rfl ?_
  refine g_iload_n C dL_law_193 rfl rfl ?_
  refine g_iconst C (v := 3) dL_law_194 (by decide) ?_
  refine g_iadd C dL_law_195 ?_
  refine g_sld C hX hbl hE (j := j + 3) (nI_add j 3) (by omega) (by omega) dL_law_196 ?_
  refine g_aload_n C dL_law_197 rfl rfl ?_
  refine g_iload_n C dL_law_198 rfl rfl ?_
  refine g_iconst C (v := 4) dL_law_199 (by decide) ?_
  refine g_iadd C dL_law_200 ?_
  refine g_sld C hX hbl hE (j := j + 4) (nI_add j 4) (by omega) (by omega) dL_law_201 ?_
  refine kL_18 C (by decide +kernel) c4 ⟨⟨(Nat.le_of_ble_eq_true rfl), (Nat.le_of_ble_eq_true rfl)⟩, (Nat.le_of_ble_eq_true rfl), (Nat.le_of_ble_eq_true rfl)⟩ (Nat.le_of_ble_eq_true rfl) dL_law_202 ?_
  refine g_aload_n C dL_law_205 rfl rfl ?_
  refine g_aload_n C dL_law_206 rfl rfl ?_
  refine g_iload_n C dL_law_207 rfl rfl ?_
  refine g_iconst C (v := 1) dL_law_208 (by decide) ?_
  refine g_iadd C dL_law_209 ?_
  refine g_sld C hX hbl hE (j := j + 1) (nI_add j 1) (by omega) (by omega) dL_law_210 ?_
  refine g_if_eq_j C (off := 7) (off2 := 4) dL_law_211 dL_law_214 dL_law_215 dL_law_218 ?_
  refine g_aload_n C dL_law_219 rfl rfl ?_
  refine g_iload_n C dL_law_220 rfl rfl ?_
  refine g_iconst C (v := 2) dL_law_221 (by decide) ?_
  refine g_iadd C dL_law_222 ?_
  refine g_sld C hX hbl hE (j := j + 2) (nI_add j 2) (by omega) (by omega) dL_law_223 ?_
  refine g_if_eq_j C (off := 7) (off2 := 4) dL_law_224 dL_law_227 dL_law_228 dL_law_231 ?_
  refine g_aload_n C dL_law_232 rfl rfl ?_
  refine g_iload_n C dL_law_233 rfl rfl ?_
  refine g_iconst C (v := 3) dL_law_234 (by decide) ?_
  refine g_iadd C dL_law_235 ?_
  refine g_sld C hX hbl hE (j := j + 3) (nI_add j 3) (by omega) (by omega) dL_law_236 ?_
  refine g_aload_n C dL_law_237 rfl rfl ?_
  refine g_iload_n C dL_law_238 rfl rfl ?_
  refine g_iconst C (v := 4) dL_law_239 (by decide) ?_
  refine g_iadd C dL_law_240 ?_
  refine g_sld C hX hbl hE (j := j + 4) (nI_add j 4) (by omega) (by omega) dL_law_241 ?_
  refine kL_22 C (by decide +kernel) c5 ⟨⟨(Nat.le_of_ble_eq_true rfl), (Nat.le_of_ble_eq_true rfl)⟩, (Nat.le_of_ble_eq_true rfl), (Nat.le_of_ble_eq_true rfl)⟩ (Nat.le_of_ble_eq_true rfl) dL_law_242 ?_
  exact g_icmp_eq C (tgt := 733) dL_law_245 (by decide) (fun _ => kk I3 F2 H3) (fun h9 => absurd rfl h9)
set_option maxRecDepth 100000 in
set_option maxHeartbeats 4000000 in
theorem law_c2 (C : Cx E RL cL_law 4 p s m #[Value.ref b] meth c) (hX : va_X b L xs s s.heap) (hbl : b < s.heap.size) (hE : pb E = s.heap.size) {j : Nat} (hj : j + 5 ≤ L) (hL : L ≤ 2560) (H : INV I F) (kk : ∀ I2 F2, INV I2 F2 → G E NT 4 p l e room_1 s m #[Value.ref b] below meth c 136 2236 Q I2 F2 733 [some (.ref b), some (rf E 0), some (rf E 127), some (.int (nI j))] []) : G E NT 4 p l e room_1 s m #[Value.ref b] below meth c 136 2236 Q I F 250 [some (.ref b), some (rf E 0), some (rf E 127), some (.int (nI j))] [] := by
  obtain ⟨r, I2, F2, I3, c4, c5, H3⟩ := st_read (l := l) (E := E) H 
  refine g_aload_n C dL_law_250 rfl rfl ?_
  refine kL_23 C (by decide +kernel) c4 ⟨⟨(Nat.le_of_ble_eq_true rfl), (Nat.le_of_ble_eq_true rfl)⟩, (Nat.le_of_ble_eq_true rfl), (Nat.le_of_ble_eq_true rfl)⟩ (Nat.le_of_ble_eq_true rfl) dL_law_251 ?_
  refine g_aload_n C dL_law_254 rfl rfl ?_
  refine kL_27 C (by decide +kernel) c5 ⟨⟨(Nat.le_of_ble_eq_true rfl), (Nat.le_of_ble_eq_true rfl)⟩, (Nat.le_of_ble_eq_true rfl), (Nat.le_of_ble_eq_true rfl)⟩ (Nat.le_of_ble_eq_true rfl) dL_law_255 ?_
  exact g_icmp_eq C (tgt := 733) dL_law_258 (by decide) (fun _ => kk I3 F2 H3) (fun h9 => absurd rfl h9)
set_option maxRecDepth 100000 in
set_option maxHeartbeats 4000000 in
theorem law_c3 (C : Cx E RL cL_law 4 p s m #[Value.ref b] meth c) (hX : va_X b L xs s s.heap) (hbl : b < s.heap.size) (hE : pb E = s.heap.size) {j : Nat} (hj : j + 5 ≤ L) (hL : L ≤ 2560) (H : INV I F) (kk : ∀ I2 F2, INV I2 F2 → G E NT 4 p l e room_1 s m #[Value.ref b] below meth c 136 2236 Q I2 F2 733 [some (.ref b), some (rf E 0), some (rf E 127), some (.int (nI j))] []) : G E NT 4 p l e room_1 s m #[Value.ref b] below meth c 136 2236 Q I F 263 [some (.ref b), some (rf E 0), some (rf E 127), some (.int (nI j))] [] := by
  obtain ⟨r, I2, F2, I3, c4, c5, H3⟩ := st_link (l := l) (E := E) H (xs (j + 1)) (xs (j + 2)) (bi (decide (¬ xs (j + 3) = 0)))
  refine g_aload_n C dL_law_263 rfl rfl ?_
  refine g_aload_n C dL_law_264 rfl rfl ?_
  refine g_iload_n C dL_law_265 rfl rfl ?_
  refine g_iconst C (v := 1) dL_law_266 (by decide) ?_
  refine g_iadd C dL_law_267 ?_
  refine g_sld C hX hbl hE (j := j + 1) (nI_add j 1) (by omega) (by omega) dL_law_268 ?_
  refine g_aload_n C dL_law_269 rfl rfl ?_
  refine g_iload_n C dL_law_270 rfl rfl ?_
  refine g_iconst C (v := 2) dL_law_271 (by decide) ?_
  refine g_iadd C dL_law_272 ?_
  refine g_sld C hX hbl hE (j := j + 2) (nI_add j 2) (by omega) (by omega) dL_law_273 ?_
  refine g_aload_n C dL_law_274 rfl rfl ?_
  refine g_iload_n C dL_law_275 rfl rfl ?_
  refine g_iconst C (v := 3) dL_law_276 (by decide) ?_
  refine g_iadd C dL_law_277 ?_
  refine g_sld C hX hbl hE (j := j + 3) (nI_add j 3) (by omega) (by omega) dL_law_278 ?_
  refine g_if_eq_j C (off := 7) (off2 := 4) dL_law_279 dL_law_282 dL_law_283 dL_law_286 ?_
  refine kL_28 C (by decide +kernel) c4 ⟨⟨(Nat.le_of_ble_eq_true rfl), (Nat.le_of_ble_eq_true rfl)⟩, (Nat.le_of_ble_eq_true rfl), (Nat.le_of_ble_eq_true rfl)⟩ (Nat.le_of_ble_eq_true rfl) dL_law_287 ?_
  refine g_aload_n C dL_law_290 rfl rfl ?_
  refine g_aload_n C dL_law_291 rfl rfl ?_
  refine g_iload_n C dL_law_292 rfl rfl ?_
  refine g_iconst C (v := 1) dL_law_293 (by decide) ?_
  refine g_iadd C dL_law_294 ?_
  refine g_sld C hX hbl hE (j := j + 1) (nI_add j 1) (by omega) (by omega) dL_law_295 ?_
  refine g_aload_n C dL_law_296 rfl rfl ?_
  refine g_iload_n C dL_law_297 rfl rfl ?_
  refine g_iconst C (v := 2) dL_law_298 (by decide) ?_
  refine g_iadd C dL_law_299 ?_
  refine g_sld C hX hbl hE (j := j + 2) (nI_add j 2) (by omega) (by omega) dL_law_300 ?_
  refine g_aload_n C dL_law_301 rfl rfl ?_
  refine g_iload_n C dL_law_302 rfl rfl ?_
  refine g_iconst C (v := 3) dL_law_303 (by decide) ?_
  refine g_iadd C dL_law_304 ?_
  refine g_sld C hX hbl hE (j := j + 3) (nI_add j 3) (by omega) (by omega) dL_law_305 ?_
  refine g_if_eq_j C (off := 7) (off2 := 4) dL_law_306 dL_law_309 dL_law_310 dL_law_313 ?_
  refine kL_32 C (by decide +kernel) c5 ⟨⟨(Nat.le_of_ble_eq_true rfl), (Nat.le_of_ble_eq_true rfl)⟩, (Nat.le_of_ble_eq_true rfl), (Nat.le_of_ble_eq_true rfl)⟩ (Nat.le_of_ble_eq_true rfl) dL_law_314 ?_
  exact g_icmp_eq C (tgt := 733) dL_law_317 (by decide) (fun _ => kk I3 F2 H3) (fun h9 => absurd rfl h9)
set_option maxRecDepth 100000 in
set_option maxHeartbeats 4000000 in
theorem law_c4 (C : Cx E RL cL_law 4 p s m #[Value.ref b] meth c) (hX : va_X b L xs s s.heap) (hbl : b < s.heap.size) (hE : pb E = s.heap.size) {j : Nat} (hj : j + 5 ≤ L) (hL : L ≤ 2560) (H : INV I F) (kk : ∀ I2 F2, INV I2 F2 → G E NT 4 p l e room_1 s m #[Value.ref b] below meth c 136 2236 Q I2 F2 733 [some (.ref b), some (rf E 0), some (rf E 127), some (.int (nI j))] []) : G E NT 4 p l e room_1 s m #[Value.ref b] below meth c 136 2236 Q I F 322 [some (.ref b), some (rf E 0), some (rf E 127), some (.int (nI j))] [] := by
  obtain ⟨r, I2, F2, I3, c4, c5, H3⟩ := st_value (l := l) (E := E) H (xs (j + 1)) (xs (j + 2))
  refine g_aload_n C dL_law_322 rfl rfl ?_
  refine g_aload_n C dL_law_323 rfl rfl ?_
  refine g_iload_n C dL_law_324 rfl rfl ?_
  refine g_iconst C (v := 1) dL_law_325 (by decide) ?_
  refine g_iadd C dL_law_326 ?_
  refine g_sld C hX hbl hE (j := j + 1) (nI_add j 1) (by omega) (by omega) dL_law_327 ?_
  refine g_aload_n C dL_law_328 rfl rfl ?_
  refine g_iload_n C dL_law_329 rfl rfl ?_
  refine g_iconst C (v := 2) dL_law_330 (by decide) ?_
  refine g_iadd C dL_law_331 ?_
  refine g_sld C hX hbl hE (j := j + 2) (nI_add j 2) (by omega) (by omega) dL_law_332 ?_
  refine kL_33 C (by decide +kernel) c4 ⟨⟨(Nat.le_of_ble_eq_true rfl), (Nat.le_of_ble_eq_true rfl)⟩, (Nat.le_of_ble_eq_true rfl), (Nat.le_of_ble_eq_true rfl)⟩ (Nat.le_of_ble_eq_true rfl) dL_law_333 ?_
  refine g_aload_n C dL_law_336 rfl rfl ?_
  refine g_aload_n C dL_law_337 rfl rfl ?_
  refine g_iload_n C dL_law_338 rfl rfl ?_
  refine g_iconst C (v := 1) dL_law_339 (by decide) ?_
  refine g_iadd C dL_law_340 ?_
  refine g_sld C hX hbl hE (j := j + 1) (nI_add j 1) (by omega) (by omega) dL_law_341 ?_
  refine g_aload_n C dL_law_342 rfl rfl ?_
  refine g_iload_n C dL_law_343 rfl rfl ?_
  refine g_iconst C (v := 2) dL_law_344 (by decide) ?_
  refine g_iadd C dL_law_345 ?_
  refine g_sld C hX hbl hE (j := j + 2) (nI_add j 2) (by omega) (by omega) dL_law_346 ?_
  refine kL_36 C (by decide +kernel) c5 ⟨⟨(Nat.le_of_ble_eq_true rfl), (Nat.le_of_ble_eq_true rfl)⟩, (Nat.le_of_ble_eq_true rfl), (Nat.le_of_ble_eq_true rfl)⟩ (Nat.le_of_ble_eq_true rfl) dL_law_347 ?_
  exact g_icmp_eq C (tgt := 733) dL_law_350 (by decide) (fun _ => kk I3 F2 H3) (fun h9 => absurd rfl h9)
set_option maxRecDepth 100000 in
set_option maxHeartbeats 4000000 in
theorem law_c5 (C : Cx E RL cL_law 4 p s m #[Value.ref b] meth c) (hX : va_X b L xs s s.heap) (hbl : b < s.heap.size) (hE : pb E = s.heap.size) {j : Nat} (hj : j + 5 ≤ L) (hL : L ≤ 2560) (H : INV I F) (kk : ∀ I2 F2, INV I2 F2 → G E NT 4 p l e room_1 s m #[Value.ref b] below meth c 136 2236 Q I2 F2 733 [some (.ref b), some (rf E 0), some (rf E 127), some (.int (nI j))] []) : G E NT 4 p l e room_1 s m #[Value.ref b] below meth c 136 2236 Q I F 355 [some (.ref b), some (rf E 0), some (rf E 127), some (.int (nI j))] [] := by
  obtain ⟨r, I2, F2, I3, c4, c5, H3⟩ := st_sleep (l := l) (E := E) H (xs (j + 1))
  refine g_aload_n C dL_law_355 rfl rfl ?_
  refine g_aload_n C dL_law_356 rfl rfl ?_
  refine g_iload_n C dL_law_357 rfl rfl ?_
  refine g_iconst C (v := 1) dL_law_358 (by decide) ?_
  refine g_iadd C dL_law_359 ?_
  refine g_sld C hX hbl hE (j := j + 1) (nI_add j 1) (by omega) (by omega) dL_law_360 ?_
  refine kL_37 C (by decide +kernel) c4 ⟨⟨(Nat.le_of_ble_eq_true rfl), (Nat.le_of_ble_eq_true rfl)⟩, (Nat.le_of_ble_eq_true rfl), (Nat.le_of_ble_eq_true rfl)⟩ (Nat.le_of_ble_eq_true rfl) dL_law_361 ?_
  refine g_aload_n C dL_law_364 rfl rfl ?_
  refine g_aload_n C dL_law_365 rfl rfl ?_
  refine g_iload_n C dL_law_366 rfl rfl ?_
  refine g_iconst C (v := 1) dL_law_367 (by decide) ?_
  refine g_iadd C dL_law_368 ?_
  refine g_sld C hX hbl hE (j := j + 1) (nI_add j 1) (by omega) (by omega) dL_law_369 ?_
  refine kL_41 C (by decide +kernel) c5 ⟨⟨(Nat.le_of_ble_eq_true rfl), (Nat.le_of_ble_eq_true rfl)⟩, (Nat.le_of_ble_eq_true rfl), (Nat.le_of_ble_eq_true rfl)⟩ (Nat.le_of_ble_eq_true rfl) dL_law_370 ?_
  exact g_icmp_eq C (tgt := 733) dL_law_373 (by decide) (fun _ => kk I3 F2 H3) (fun h9 => absurd rfl h9)
set_option maxRecDepth 100000 in
set_option maxHeartbeats 4000000 in
theorem law_c6 (C : Cx E RL cL_law 4 p s m #[Value.ref b] meth c) (hX : va_X b L xs s s.heap) (hbl : b < s.heap.size) (hE : pb E = s.heap.size) {j : Nat} (hj : j + 5 ≤ L) (hL : L ≤ 2560) (H : INV I F) (kk : ∀ I2 F2, INV I2 F2 → G E NT 4 p l e room_1 s m #[Value.ref b] below meth c 136 2236 Q I2 F2 733 [some (.ref b), some (rf E 0), some (rf E 127), some (.int (nI j))] []) : G E NT 4 p l e room_1 s m #[Value.ref b] below meth c 136 2236 Q I F 378 [some (.ref b), some (rf E 0), some (rf E 127), some (.int (nI j))] [] := by
  obtain ⟨r, I2, F2, I3, c4, c5, H3⟩ := st_wake (l := l) (E := E) H (xs (j + 1))
  refine g_aload_n C dL_law_378 rfl rfl ?_
  refine g_aload_n C dL_law_379 rfl rfl ?_
  refine g_iload_n C dL_law_380 rfl rfl ?_
  refine g_iconst C (v := 1) dL_law_381 (by decide) ?_
  refine g_iadd C dL_law_382 ?_
  refine g_sld C hX hbl hE (j := j + 1) (nI_add j 1) (by omega) (by omega) dL_law_383 ?_
  refine kL_42 C (by decide +kernel) c4 ⟨⟨(Nat.le_of_ble_eq_true rfl), (Nat.le_of_ble_eq_true rfl)⟩, (Nat.le_of_ble_eq_true rfl), (Nat.le_of_ble_eq_true rfl)⟩ (Nat.le_of_ble_eq_true rfl) dL_law_384 ?_
  refine g_aload_n C dL_law_387 rfl rfl ?_
  refine g_aload_n C dL_law_388 rfl rfl ?_
  refine g_iload_n C dL_law_389 rfl rfl ?_
  refine g_iconst C (v := 1) dL_law_390 (by decide) ?_
  refine g_iadd C dL_law_391 ?_
  refine g_sld C hX hbl hE (j := j + 1) (nI_add j 1) (by omega) (by omega) dL_law_392 ?_
  refine kL_45 C (by decide +kernel) c5 ⟨⟨(Nat.le_of_ble_eq_true rfl), (Nat.le_of_ble_eq_true rfl)⟩, (Nat.le_of_ble_eq_true rfl), (Nat.le_of_ble_eq_true rfl)⟩ (Nat.le_of_ble_eq_true rfl) dL_law_393 ?_
  exact g_icmp_eq C (tgt := 733) dL_law_396 (by decide) (fun _ => kk I3 F2 H3) (fun h9 => absurd rfl h9)
set_option maxRecDepth 100000 in
set_option maxHeartbeats 4000000 in
theorem law_c7 (C : Cx E RL cL_law 4 p s m #[Value.ref b] meth c) (hX : va_X b L xs s s.heap) (hbl : b < s.heap.size) (hE : pb E = s.heap.size) {j : Nat} (hj : j + 5 ≤ L) (hL : L ≤ 2560) (H : INV I F) (kk : ∀ I2 F2, INV I2 F2 → G E NT 4 p l e room_1 s m #[Value.ref b] below meth c 136 2236 Q I2 F2 733 [some (.ref b), some (rf E 0), some (rf E 127), some (.int (nI j))] []) : G E NT 4 p l e room_1 s m #[Value.ref b] below meth c 136 2236 Q I F 401 [some (.ref b), some (rf E 0), some (rf E 127), some (.int (nI j))] [] := by
  obtain ⟨r, I2, F2, I3, c4, c5, H3⟩ := st_pass (l := l) (E := E) H (xs (j + 1))
  refine g_aload_n C dL_law_401 rfl rfl ?_
  refine g_aload_n C dL_law_402 rfl rfl ?_
  refine g_iload_n C dL_law_403 rfl rfl ?_
  refine g_iconst C (v := 1) dL_law_404 (by decide) ?_
  refine g_iadd C dL_law_405 ?_
  refine g_sld C hX hbl hE (j := j + 1) (nI_add j 1) (by omega) (by omega) dL_law_406 ?_
  refine kL_46 C (by decide +kernel) c4 ⟨⟨(Nat.le_of_ble_eq_true rfl), (Nat.le_of_ble_eq_true rfl)⟩, (Nat.le_of_ble_eq_true rfl), (Nat.le_of_ble_eq_true rfl)⟩ (Nat.le_of_ble_eq_true rfl) dL_law_407 ?_
  refine g_aload_n C dL_law_410 rfl rfl ?_
  refine g_aload_n C dL_law_411 rfl rfl ?_
  refine g_iload_n C dL_law_412 rfl rfl ?_
  refine g_iconst C (v := 1) dL_law_413 (by decide) ?_
  refine g_iadd C dL_law_414 ?_
  refine g_sld C hX hbl hE (j := j + 1) (nI_add j 1) (by omega) (by omega) dL_law_415 ?_
  refine kL_49 C (by decide +kernel) c5 ⟨⟨(Nat.le_of_ble_eq_true rfl), (Nat.le_of_ble_eq_true rfl)⟩, (Nat.le_of_ble_eq_true rfl), (Nat.le_of_ble_eq_true rfl)⟩ (Nat.le_of_ble_eq_true rfl) dL_law_416 ?_
  exact g_icmp_eq C (tgt := 733) dL_law_419 (by decide) (fun _ => kk I3 F2 H3) (fun h9 => absurd rfl h9)
set_option maxRecDepth 100000 in
set_option maxHeartbeats 4000000 in
theorem law_c8 (C : Cx E RL cL_law 4 p s m #[Value.ref b] meth c) (hX : va_X b L xs s s.heap) (hbl : b < s.heap.size) (hE : pb E = s.heap.size) {j : Nat} (hj : j + 5 ≤ L) (hL : L ≤ 2560) (H : INV I F) (kk : ∀ I2 F2, INV I2 F2 → G E NT 4 p l e room_1 s m #[Value.ref b] below meth c 136 2236 Q I2 F2 733 [some (.ref b), some (rf E 0), some (rf E 127), some (.int (nI j))] []) : G E NT 4 p l e room_1 s m #[Value.ref b] below meth c 136 2236 Q I F 424 [some (.ref b), some (rf E 0), some (rf E 127), some (.int (nI j))] [] := by
  obtain ⟨r, I2, F2, I3, c4, c5, H3⟩ := st_of (l := l) (E := E) H (xs (j + 1)) (xs (j + 2))
  refine g_aload_n C dL_law_424 rfl rfl ?_
  refine g_aload_n C dL_law_425 rfl rfl ?_
  refine g_iload_n C dL_law_426 rfl rfl ?_
  refine g_iconst C (v := 1) dL_law_427 (by decide) ?_
  refine g_iadd C dL_law_428 ?_
  refine g_sld C hX hbl hE (j := j + 1) (nI_add j 1) (by omega) (by omega) dL_law_429 ?_
  refine g_aload_n C dL_law_430 rfl rfl ?_
  refine g_iload_n C dL_law_431 rfl rfl ?_
  refine g_iconst C (v := 2) dL_law_432 (by decide) ?_
  refine g_iadd C dL_law_433 ?_
  refine g_sld C hX hbl hE (j := j + 2) (nI_add j 2) (by omega) (by omega) dL_law_434 ?_
  refine kL_50 C (by decide +kernel) c4 ⟨⟨(Nat.le_of_ble_eq_true rfl), (Nat.le_of_ble_eq_true rfl)⟩, (Nat.le_of_ble_eq_true rfl), (Nat.le_of_ble_eq_true rfl)⟩ (Nat.le_of_ble_eq_true rfl) dL_law_435 ?_
  refine g_aload_n C dL_law_438 rfl rfl ?_
  refine g_aload_n C dL_law_439 rfl rfl ?_
  refine g_iload_n C dL_law_440 rfl rfl ?_
  refine g_iconst C (v := 1) dL_law_441 (by decide) ?_
  refine g_iadd C dL_law_442 ?_
  refine g_sld C hX hbl hE (j := j + 1) (nI_add j 1) (by omega) (by omega) dL_law_443 ?_
  refine g_aload_n C dL_law_444 rfl rfl ?_
  refine g_iload_n C dL_law_445 rfl rfl ?_
  refine g_iconst C (v := 2) dL_law_446 (by decide) ?_
  refine g_iadd C dL_law_447 ?_
  refine g_sld C hX hbl hE (j := j + 2) (nI_add j 2) (by omega) (by omega) dL_law_448 ?_
  refine kL_53 C (by decide +kernel) c5 ⟨⟨(Nat.le_of_ble_eq_true rfl), (Nat.le_of_ble_eq_true rfl)⟩, (Nat.le_of_ble_eq_true rfl), (Nat.le_of_ble_eq_true rfl)⟩ (Nat.le_of_ble_eq_true rfl) dL_law_449 ?_
  exact g_icmp_eq C (tgt := 733) dL_law_452 (by decide) (fun _ => kk I3 F2 H3) (fun h9 => absurd rfl h9)
set_option maxRecDepth 100000 in
set_option maxHeartbeats 4000000 in
theorem law_c9 (C : Cx E RL cL_law 4 p s m #[Value.ref b] meth c) (hX : va_X b L xs s s.heap) (hbl : b < s.heap.size) (hE : pb E = s.heap.size) {j : Nat} (hj : j + 5 ≤ L) (hL : L ≤ 2560) (H : INV I F) (kk : ∀ I2 F2, INV I2 F2 → G E NT 4 p l e room_1 s m #[Value.ref b] below meth c 136 2236 Q I2 F2 733 [some (.ref b), some (rf E 0), some (rf E 127), some (.int (nI j))] []) : G E NT 4 p l e room_1 s m #[Value.ref b] below meth c 136 2236 Q I F 457 [some (.ref b), some (rf E 0), some (rf E 127), some (.int (nI j))] [] := by
  obtain ⟨r, I2, F2, I3, c4, c5, H3⟩ := st_count (l := l) (E := E) H (xs (j + 1))
  refine g_aload_n C dL_law_457 rfl rfl ?_
  refine g_aload_n C dL_law_458 rfl rfl ?_
  refine g_iload_n C dL_law_459 rfl rfl ?_
  refine g_iconst C (v := 1) dL_law_460 (by decide) ?_
  refine g_iadd C dL_law_461 ?_
  refine g_sld C hX hbl hE (j := j + 1) (nI_add j 1) (by omega) (by omega) dL_law_462 ?_
  refine kL_54 C (by decide +kernel) c4 ⟨⟨(Nat.le_of_ble_eq_true rfl), (Nat.le_of_ble_eq_true rfl)⟩, (Nat.le_of_ble_eq_true rfl), (Nat.le_of_ble_eq_true rfl)⟩ (Nat.le_of_ble_eq_true rfl) dL_law_463 ?_
  refine g_aload_n C dL_law_466 rfl rfl ?_
  refine g_aload_n C dL_law_467 rfl rfl ?_
  refine g_iload_n C dL_law_468 rfl rfl ?_
  refine g_iconst C (v := 1) dL_law_469 (by decide) ?_
  refine g_iadd C dL_law_470 ?_
  refine g_sld C hX hbl hE (j := j + 1) (nI_add j 1) (by omega) (by omega) dL_law_471 ?_
  refine kL_57 C (by decide +kernel) c5 ⟨⟨(Nat.le_of_ble_eq_true rfl), (Nat.le_of_ble_eq_true rfl)⟩, (Nat.le_of_ble_eq_true rfl), (Nat.le_of_ble_eq_true rfl)⟩ (Nat.le_of_ble_eq_true rfl) dL_law_472 ?_
  exact g_icmp_eq C (tgt := 733) dL_law_475 (by decide) (fun _ => kk I3 F2 H3) (fun h9 => absurd rfl h9)
set_option maxRecDepth 100000 in
set_option maxHeartbeats 4000000 in
theorem law_c10 (C : Cx E RL cL_law 4 p s m #[Value.ref b] meth c) (hX : va_X b L xs s s.heap) (hbl : b < s.heap.size) (hE : pb E = s.heap.size) {j : Nat} (hj : j + 5 ≤ L) (hL : L ≤ 2560) (H : INV I F) (kk : ∀ I2 F2, INV I2 F2 → G E NT 4 p l e room_1 s m #[Value.ref b] below meth c 136 2236 Q I2 F2 733 [some (.ref b), some (rf E 0), some (rf E 127), some (.int (nI j))] []) : G E NT 4 p l e room_1 s m #[Value.ref b] below meth c 136 2236 Q I F 480 [some (.ref b), some (rf E 0), some (rf E 127), some (.int (nI j))] [] := by
  obtain ⟨r, I2, F2, I3, c4, c5, H3⟩ := st_waiting (l := l) (E := E) H (xs (j + 1))
  refine g_aload_n C dL_law_480 rfl rfl ?_
  refine g_aload_n C dL_law_481 rfl rfl ?_
  refine g_iload_n C dL_law_482 rfl rfl ?_
  refine g_iconst C (v := 1) dL_law_483 (by decide) ?_
  refine g_iadd C dL_law_484 ?_
  refine g_sld C hX hbl hE (j := j + 1) (nI_add j 1) (by omega) (by omega) dL_law_485 ?_
  refine kL_58 C (by decide +kernel) c4 ⟨⟨(Nat.le_of_ble_eq_true rfl), (Nat.le_of_ble_eq_true rfl)⟩, (Nat.le_of_ble_eq_true rfl), (Nat.le_of_ble_eq_true rfl)⟩ (Nat.le_of_ble_eq_true rfl) dL_law_486 ?_
  refine g_aload_n C dL_law_489 rfl rfl ?_
  refine g_aload_n C dL_law_490 rfl rfl ?_
  refine g_iload_n C dL_law_491 rfl rfl ?_
  refine g_iconst C (v := 1) dL_law_492 (by decide) ?_
  refine g_iadd C dL_law_493 ?_
  refine g_sld C hX hbl hE (j := j + 1) (nI_add j 1) (by omega) (by omega) dL_law_494 ?_
  refine kL_61 C (by decide +kernel) c5 ⟨⟨(Nat.le_of_ble_eq_true rfl), (Nat.le_of_ble_eq_true rfl)⟩, (Nat.le_of_ble_eq_true rfl), (Nat.le_of_ble_eq_true rfl)⟩ (Nat.le_of_ble_eq_true rfl) dL_law_495 ?_
  exact g_icmp_eq C (tgt := 733) dL_law_498 (by decide) (fun _ => kk I3 F2 H3) (fun h9 => absurd rfl h9)
set_option maxRecDepth 100000 in
set_option maxHeartbeats 4000000 in
theorem law_c11 (C : Cx E RL cL_law 4 p s m #[Value.ref b] meth c) (hX : va_X b L xs s s.heap) (hbl : b < s.heap.size) (hE : pb E = s.heap.size) {j : Nat} (hj : j + 5 ≤ L) (hL : L ≤ 2560) (H : INV I F) (kk : ∀ I2 F2, INV I2 F2 → G E NT 4 p l e room_1 s m #[Value.ref b] below meth c 136 2236 Q I2 F2 733 [some (.ref b), some (rf E 0), some (rf E 127), some (.int (nI j))] []) : G E NT 4 p l e room_1 s m #[Value.ref b] below meth c 136 2236 Q I F 503 [some (.ref b), some (rf E 0), some (rf E 127), some (.int (nI j))] [] := by
  obtain ⟨r, I2, F2, I3, c4, c5, H3⟩ := st_ifPassed (l := l) (E := E) H (xs (j + 1)) (xs (j + 2))
  refine g_aload_n C dL_law_503 rfl rfl ?_
  refine g_aload_n C dL_law_504 rfl rfl ?_
  refine g_iload_n C dL_law_505 rfl rfl ?_
  refine g_iconst C (v := 1) dL_law_506 (by decide) ?_
  refine g_iadd C dL_law_507 ?_
  refine g_sld C hX hbl hE (j := j + 1) (nI_add j 1) (by omega) (by omega) dL_law_508 ?_
  refine g_aload_n C dL_law_509 rfl rfl ?_
  refine g_iload_n C dL_law_510 rfl rfl ?_
  refine g_iconst C (v := 2) dL_law_511 (by decide) ?_
  refine g_iadd C dL_law_512 ?_
  refine g_sld C hX hbl hE (j := j + 2) (nI_add j 2) (by omega) (by omega) dL_law_513 ?_
  refine kL_62 C (by decide +kernel) c4 ⟨⟨(Nat.le_of_ble_eq_true rfl), (Nat.le_of_ble_eq_true rfl)⟩, (Nat.le_of_ble_eq_true rfl), (Nat.le_of_ble_eq_true rfl)⟩ (Nat.le_of_ble_eq_true rfl) dL_law_514 ?_
  refine g_aload_n C dL_law_517 rfl rfl ?_
  refine g_aload_n C dL_law_518 rfl rfl ?_
  refine g_iload_n C dL_law_519 rfl rfl ?_
  refine g_iconst C (v := 1) dL_law_520 (by decide) ?_
  refine g_iadd C dL_law_521 ?_
  refine g_sld C hX hbl hE (j := j + 1) (nI_add j 1) (by omega) (by omega) dL_law_522 ?_
  refine g_aload_n C dL_law_523 rfl rfl ?_
  refine g_iload_n C dL_law_524 rfl rfl ?_
  refine g_iconst C (v := 2) dL_law_525 (by decide) ?_
  refine g_iadd C dL_law_526 ?_
  refine g_sld C hX hbl hE (j := j + 2) (nI_add j 2) (by omega) (by omega) dL_law_527 ?_
  refine kL_65 C (by decide +kernel) c5 ⟨⟨(Nat.le_of_ble_eq_true rfl), (Nat.le_of_ble_eq_true rfl)⟩, (Nat.le_of_ble_eq_true rfl), (Nat.le_of_ble_eq_true rfl)⟩ (Nat.le_of_ble_eq_true rfl) dL_law_528 ?_
  exact g_icmp_eq C (tgt := 733) dL_law_531 (by decide) (fun _ => kk I3 F2 H3) (fun h9 => absurd rfl h9)
set_option maxRecDepth 100000 in
set_option maxHeartbeats 4000000 in
theorem law_c12 (C : Cx E RL cL_law 4 p s m #[Value.ref b] meth c) (hX : va_X b L xs s s.heap) (hbl : b < s.heap.size) (hE : pb E = s.heap.size) {j : Nat} (hj : j + 5 ≤ L) (hL : L ≤ 2560) (H : INV I F) (kk : ∀ I2 F2, INV I2 F2 → G E NT 4 p l e room_1 s m #[Value.ref b] below meth c 136 2236 Q I2 F2 733 [some (.ref b), some (rf E 0), some (rf E 127), some (.int (nI j))] []) : G E NT 4 p l e room_1 s m #[Value.ref b] below meth c 136 2236 Q I F 536 [some (.ref b), some (rf E 0), some (rf E 127), some (.int (nI j))] [] := by
  obtain ⟨r, I2, F2, I3, c4, c5, H3⟩ := st_allAwake (l := l) (E := E) H 
  refine g_aload_n C dL_law_536 rfl rfl ?_
  refine kL_66 C (by decide +kernel) c4 ⟨⟨(Nat.le_of_ble_eq_true rfl), (Nat.le_of_ble_eq_true rfl)⟩, (Nat.le_of_ble_eq_true rfl), (Nat.le_of_ble_eq_true rfl)⟩ (Nat.le_of_ble_eq_true rfl) dL_law_537 ?_
  refine g_aload_n C dL_law_540 rfl rfl ?_
  refine kL_69 C (by decide +kernel) c5 ⟨⟨(Nat.le_of_ble_eq_true rfl), (Nat.le_of_ble_eq_true rfl)⟩, (Nat.le_of_ble_eq_true rfl), (Nat.le_of_ble_eq_true rfl)⟩ (Nat.le_of_ble_eq_true rfl) dL_law_541 ?_
  exact g_icmp_eq C (tgt := 733) dL_law_544 (by decide) (fun _ => kk I3 F2 H3) (fun h9 => absurd rfl h9)
set_option maxRecDepth 100000 in
set_option maxHeartbeats 4000000 in
theorem law_c13 (C : Cx E RL cL_law 4 p s m #[Value.ref b] meth c) (hX : va_X b L xs s s.heap) (hbl : b < s.heap.size) (hE : pb E = s.heap.size) {j : Nat} (hj : j + 5 ≤ L) (hL : L ≤ 2560) (H : INV I F) (kk : ∀ I2 F2, INV I2 F2 → G E NT 4 p l e room_1 s m #[Value.ref b] below meth c 136 2236 Q I2 F2 733 [some (.ref b), some (rf E 0), some (rf E 127), some (.int (nI j))] []) : G E NT 4 p l e room_1 s m #[Value.ref b] below meth c 136 2236 Q I F 549 [some (.ref b), some (rf E 0), some (rf E 127), some (.int (nI j))] [] := by
  obtain ⟨r, I2, F2, I3, c4, c5, H3⟩ := st_leastCurrent (l := l) (E := E) H (xs (j + 1))
  refine g_aload_n C dL_law_549 rfl rfl ?_
  refine g_aload_n C dL_law_550 rfl rfl ?_
  refine g_iload_n C dL_law_551 rfl rfl ?_
  refine g_iconst C (v := 1) dL_law_552 (by decide) ?_
  refine g_iadd C dL_law_553 ?_
  refine g_sld C hX hbl hE (j := j + 1) (nI_add j 1) (by omega) (by omega) dL_law_554 ?_
  refine kL_70 C (by decide +kernel) c4 ⟨⟨(Nat.le_of_ble_eq_true rfl), (Nat.le_of_ble_eq_true rfl)⟩, (Nat.le_of_ble_eq_true rfl), (Nat.le_of_ble_eq_true rfl)⟩ (Nat.le_of_ble_eq_true rfl) dL_law_555 ?_
  refine g_aload_n C dL_law_558 rfl rfl ?_
  refine g_aload_n C dL_law_559 rfl rfl ?_
  refine g_iload_n C dL_law_560 rfl rfl ?_
  refine g_iconst C (v := 1) dL_law_561 (by decide) ?_
  refine g_iadd C dL_law_562 ?_
  refine g_sld C hX hbl hE (j := j + 1) (nI_add j 1) (by omega) (by omega) dL_law_563 ?_
  refine kL_73 C (by decide +kernel) c5 ⟨⟨(Nat.le_of_ble_eq_true rfl), (Nat.le_of_ble_eq_true rfl)⟩, (Nat.le_of_ble_eq_true rfl), (Nat.le_of_ble_eq_true rfl)⟩ (Nat.le_of_ble_eq_true rfl) dL_law_564 ?_
  exact g_icmp_eq C (tgt := 733) dL_law_567 (by decide) (fun _ => kk I3 F2 H3) (fun h9 => absurd rfl h9)
set_option maxRecDepth 100000 in
set_option maxHeartbeats 4000000 in
theorem law_c14 (C : Cx E RL cL_law 4 p s m #[Value.ref b] meth c) (hX : va_X b L xs s s.heap) (hbl : b < s.heap.size) (hE : pb E = s.heap.size) {j : Nat} (hj : j + 5 ≤ L) (hL : L ≤ 2560) (H : INV I F) (kk : ∀ I2 F2, INV I2 F2 → G E NT 4 p l e room_1 s m #[Value.ref b] below meth c 136 2236 Q I2 F2 733 [some (.ref b), some (rf E 0), some (rf E 127), some (.int (nI j))] []) : G E NT 4 p l e room_1 s m #[Value.ref b] below meth c 136 2236 Q I F 572 [some (.ref b), some (rf E 0), some (rf E 127), some (.int (nI j))] [] := by
  obtain ⟨r, I2, F2, I3, c4, c5, H3⟩ := st_quiet (l := l) (E := E) H (xs (j + 1))
  refine g_aload_n C dL_law_572 rfl rfl ?_
  refine g_aload_n C dL_law_573 rfl rfl ?_
  refine g_iload_n C dL_law_574 rfl rfl ?_
  refine g_iconst C (v := 1) dL_law_575 (by decide) ?_
  refine g_iadd C dL_law_576 ?_
  refine g_sld C hX hbl hE (j := j + 1) (nI_add j 1) (by omega) (by omega) dL_law_577 ?_
  refine kL_74 C (by decide +kernel) c4 ⟨⟨(Nat.le_of_ble_eq_true rfl), (Nat.le_of_ble_eq_true rfl)⟩, (Nat.le_of_ble_eq_true rfl), (Nat.le_of_ble_eq_true rfl)⟩ (Nat.le_of_ble_eq_true rfl) dL_law_578 ?_
  refine g_aload_n C dL_law_581 rfl rfl ?_
  refine g_aload_n C dL_law_582 rfl rfl ?_
  refine g_iload_n C dL_law_583 rfl rfl ?_
  refine g_iconst C (v := 1) dL_law_584 (by decide) ?_
  refine g_iadd C dL_law_585 ?_
  refine g_sld C hX hbl hE (j := j + 1) (nI_add j 1) (by omega) (by omega) dL_law_586 ?_
  refine kL_77 C (by decide +kernel) c5 ⟨⟨(Nat.le_of_ble_eq_true rfl), (Nat.le_of_ble_eq_true rfl)⟩, (Nat.le_of_ble_eq_true rfl), (Nat.le_of_ble_eq_true rfl)⟩ (Nat.le_of_ble_eq_true rfl) dL_law_587 ?_
  exact g_icmp_eq C (tgt := 733) dL_law_590 (by decide) (fun _ => kk I3 F2 H3) (fun h9 => absurd rfl h9)
set_option maxRecDepth 100000 in
set_option maxHeartbeats 4000000 in
theorem law_c15 (C : Cx E RL cL_law 4 p s m #[Value.ref b] meth c) (hX : va_X b L xs s s.heap) (hbl : b < s.heap.size) (hE : pb E = s.heap.size) {j : Nat} (hj : j + 5 ≤ L) (hL : L ≤ 2560) (H : INV I F) (kk : ∀ I2 F2, INV I2 F2 → G E NT 4 p l e room_1 s m #[Value.ref b] below meth c 136 2236 Q I2 F2 733 [some (.ref b), some (rf E 0), some (rf E 127), some (.int (nI j))] []) : G E NT 4 p l e room_1 s m #[Value.ref b] below meth c 136 2236 Q I F 595 [some (.ref b), some (rf E 0), some (rf E 127), some (.int (nI j))] [] := by
  obtain ⟨r, I2, F2, I3, c4, c5, H3⟩ := st_put (l := l) (E := E) H ((xs (j + 1)).toInt64 <<< ((32 : Int32).toInt64 &&& 63) ||| ((xs (j + 2)).toInt64 &&& 4294967295))
  refine g_aload_n C dL_law_595 rfl rfl ?_
  refine g_aload_n C dL_law_596 rfl rfl ?_
  refine g_iload_n C dL_law_597 rfl rfl ?_
  refine g_iconst C (v := 1) dL_law_598 (by decide) ?_
  refine g_iadd C dL_law_599 ?_
  refine g_sld C hX hbl hE (j := j + 1) (nI_add j 1) (by omega) (by omega) dL_law_600 ?_
  refine g_i2l C dL_law_601 rfl ?_
  refine g_bipush C (v := 32) dL_law_602 (by decide) ?_
  refine g_lshl C dL_law_604 rfl ?_
  refine g_aload_n C dL_law_605 rfl rfl ?_
  refine g_iload_n C dL_law_606 rfl rfl ?_
  refine g_iconst C (v := 2) dL_law_607 (by decide) ?_
  refine g_iadd C dL_law_608 ?_
  refine g_sld C hX hbl hE (j := j + 2) (nI_add j 2) (by omega) (by omega) dL_law_609 ?_
  refine g_i2l C dL_law_610 rfl ?_
  refine g_ldc2 C dL_law_611 kcL_78 ?_
  refine g_land C dL_law_614 ?_
  refine g_lor C dL_law_615 ?_
  refine kL_80 C (by decide +kernel) c4 ⟨⟨(Nat.le_of_ble_eq_true rfl), (Nat.le_of_ble_eq_true rfl)⟩, (Nat.le_of_ble_eq_true rfl), (Nat.le_of_ble_eq_true rfl)⟩ (Nat.le_of_ble_eq_true rfl) dL_law_616 ?_
  refine g_aload_n C dL_law_619 rfl rfl ?_
  refine g_aload_n C dL_law_620 rfl rfl ?_
  refine g_iload_n C dL_law_621 rfl rfl ?_
  refine g_iconst C (v := 1) dL_law_622 (by decide) ?_
  refine g_iadd C dL_law_623 ?_
  refine g_sld C hX hbl hE (j := j + 1) (nI_add j 1) (by omega) (by omega) dL_law_624 ?_
  refine g_i2l C dL_law_625 rfl ?_
  refine g_bipush C (v := 32) dL_law_626 (by decide) ?_
  refine g_lshl C dL_law_628 rfl ?_
  refine g_aload_n C dL_law_629 rfl rfl ?_
  refine g_iload_n C dL_law_630 rfl rfl ?_
  refine g_iconst C (v := 2) dL_law_631 (by decide) ?_
  refine g_iadd C dL_law_632 ?_
  refine g_sld C hX hbl hE (j := j + 2) (nI_add j 2) (by omega) (by omega) dL_law_633 ?_
  refine g_i2l C dL_law_634 rfl ?_
  refine g_ldc2 C dL_law_635 kcL_78 ?_
  refine g_land C dL_law_638 ?_
  refine g_lor C dL_law_639 ?_
  refine kL_84 C (by decide +kernel) c5 ⟨⟨(Nat.le_of_ble_eq_true rfl), (Nat.le_of_ble_eq_true rfl)⟩, (Nat.le_of_ble_eq_true rfl), (Nat.le_of_ble_eq_true rfl)⟩ (Nat.le_of_ble_eq_true rfl) dL_law_640 ?_
  exact g_icmp_eq C (tgt := 733) dL_law_643 (by decide) (fun _ => kk I3 F2 H3) (fun h9 => absurd rfl h9)
set_option maxRecDepth 100000 in
set_option maxHeartbeats 4000000 in
theorem law_c16 (C : Cx E RL cL_law 4 p s m #[Value.ref b] meth c) (hX : va_X b L xs s s.heap) (hbl : b < s.heap.size) (hE : pb E = s.heap.size) {j : Nat} (hj : j + 5 ≤ L) (hL : L ≤ 2560) (H : INV I F) (kk : ∀ I2 F2, INV I2 F2 → G E NT 4 p l e room_1 s m #[Value.ref b] below meth c 136 2236 Q I2 F2 733 [some (.ref b), some (rf E 0), some (rf E 127), some (.int (nI j))] []) : G E NT 4 p l e room_1 s m #[Value.ref b] below meth c 136 2236 Q I F 648 [some (.ref b), some (rf E 0), some (rf E 127), some (.int (nI j))] [] := by
  obtain ⟨r, I2, F2, I3, c4, c5, H3⟩ := st_wipe (l := l) (E := E) H 
  refine g_aload_n C dL_law_648 rfl rfl ?_
  refine kL_85 C (by decide +kernel) c4 ⟨⟨(Nat.le_of_ble_eq_true rfl), (Nat.le_of_ble_eq_true rfl)⟩, (Nat.le_of_ble_eq_true rfl), (Nat.le_of_ble_eq_true rfl)⟩ (Nat.le_of_ble_eq_true rfl) dL_law_649 ?_
  refine g_aload_n C dL_law_652 rfl rfl ?_
  refine kL_88 C (by decide +kernel) c5 ⟨⟨(Nat.le_of_ble_eq_true rfl), (Nat.le_of_ble_eq_true rfl)⟩, (Nat.le_of_ble_eq_true rfl), (Nat.le_of_ble_eq_true rfl)⟩ (Nat.le_of_ble_eq_true rfl) dL_law_653 ?_
  exact g_icmp_eq C (tgt := 733) dL_law_656 (by decide) (fun _ => kk I3 F2 H3) (fun h9 => absurd rfl h9)
set_option maxRecDepth 100000 in
set_option maxHeartbeats 4000000 in
theorem law_c17 (C : Cx E RL cL_law 4 p s m #[Value.ref b] meth c) (hX : va_X b L xs s s.heap) (hbl : b < s.heap.size) (hE : pb E = s.heap.size) {j : Nat} (hj : j + 5 ≤ L) (hL : L ≤ 2560) (H : INV I F) (kk : ∀ I2 F2, INV I2 F2 → G E NT 4 p l e room_1 s m #[Value.ref b] below meth c 136 2236 Q I2 F2 733 [some (.ref b), some (rf E 0), some (rf E 127), some (.int (nI j))] []) : G E NT 4 p l e room_1 s m #[Value.ref b] below meth c 136 2236 Q I F 661 [some (.ref b), some (rf E 0), some (rf E 127), some (.int (nI j))] [] := by
  obtain ⟨r, I2, F2, I3, c4, c5, H3⟩ := st_fault (l := l) (E := E) H 
  refine g_aload_n C dL_law_661 rfl rfl ?_
  refine kL_89 C (by decide +kernel) c4 ⟨⟨(Nat.le_of_ble_eq_true rfl), (Nat.le_of_ble_eq_true rfl)⟩, (Nat.le_of_ble_eq_true rfl), (Nat.le_of_ble_eq_true rfl)⟩ (Nat.le_of_ble_eq_true rfl) dL_law_662 ?_
  refine g_aload_n C dL_law_665 rfl rfl ?_
  refine kL_92 C (by decide +kernel) c5 ⟨⟨(Nat.le_of_ble_eq_true rfl), (Nat.le_of_ble_eq_true rfl)⟩, (Nat.le_of_ble_eq_true rfl), (Nat.le_of_ble_eq_true rfl)⟩ (Nat.le_of_ble_eq_true rfl) dL_law_666 ?_
  exact g_icmp_eq C (tgt := 733) dL_law_669 (by decide) (fun _ => kk I3 F2 H3) (fun h9 => absurd rfl h9)
set_option maxRecDepth 100000 in
set_option maxHeartbeats 4000000 in
theorem law_c18 (C : Cx E RL cL_law 4 p s m #[Value.ref b] meth c) (hX : va_X b L xs s s.heap) (hbl : b < s.heap.size) (hE : pb E = s.heap.size) {j : Nat} (hj : j + 5 ≤ L) (hL : L ≤ 2560) (H : INV I F) (kk : ∀ I2 F2, INV I2 F2 → G E NT 4 p l e room_1 s m #[Value.ref b] below meth c 136 2236 Q I2 F2 733 [some (.ref b), some (rf E 0), some (rf E 127), some (.int (nI j))] []) : G E NT 4 p l e room_1 s m #[Value.ref b] below meth c 136 2236 Q I F 674 [some (.ref b), some (rf E 0), some (rf E 127), some (.int (nI j))] [] := by
  obtain ⟨r, I2, F2, I3, c4, c5, H3⟩ := st_undo (l := l) (E := E) H 
  refine g_aload_n C dL_law_674 rfl rfl ?_
  refine kL_93 C (by decide +kernel) c4 ⟨⟨(Nat.le_of_ble_eq_true rfl), (Nat.le_of_ble_eq_true rfl)⟩, (Nat.le_of_ble_eq_true rfl), (Nat.le_of_ble_eq_true rfl)⟩ (Nat.le_of_ble_eq_true rfl) dL_law_675 ?_
  refine g_aload_n C dL_law_678 rfl rfl ?_
  refine kL_96 C (by decide +kernel) c5 ⟨⟨(Nat.le_of_ble_eq_true rfl), (Nat.le_of_ble_eq_true rfl)⟩, (Nat.le_of_ble_eq_true rfl), (Nat.le_of_ble_eq_true rfl)⟩ (Nat.le_of_ble_eq_true rfl) dL_law_679 ?_
  exact g_icmp_eq C (tgt := 733) dL_law_682 (by decide) (fun _ => kk I3 F2 H3) (fun h9 => absurd rfl h9)
set_option maxRecDepth 100000 in
set_option maxHeartbeats 4000000 in
theorem law_c19 (C : Cx E RL cL_law 4 p s m #[Value.ref b] meth c) (hX : va_X b L xs s s.heap) (hbl : b < s.heap.size) (hE : pb E = s.heap.size) {j : Nat} (hj : j + 5 ≤ L) (hL : L ≤ 2560) (H : INV I F) (kk : ∀ I2 F2, INV I2 F2 → G E NT 4 p l e room_1 s m #[Value.ref b] below meth c 136 2236 Q I2 F2 733 [some (.ref b), some (rf E 0), some (rf E 127), some (.int (nI j))] []) : G E NT 4 p l e room_1 s m #[Value.ref b] below meth c 136 2236 Q I F 687 [some (.ref b), some (rf E 0), some (rf E 127), some (.int (nI j))] [] := by
  obtain ⟨r, I2, F2, I3, c4, c5, H3⟩ := st_save (l := l) (E := E) H (xs (j + 1))
  refine g_aload_n C dL_law_687 rfl rfl ?_
  refine g_aload_n C dL_law_688 rfl rfl ?_
  refine g_iload_n C dL_law_689 rfl rfl ?_
  refine g_iconst C (v := 1) dL_law_690 (by decide) ?_
  refine g_iadd C dL_law_691 ?_
  refine g_sld C hX hbl hE (j := j + 1) (nI_add j 1) (by omega) (by omega) dL_law_692 ?_
  refine kL_97 C (by decide +kernel) c4 ⟨⟨(Nat.le_of_ble_eq_true rfl), (Nat.le_of_ble_eq_true rfl)⟩, (Nat.le_of_ble_eq_true rfl), (Nat.le_of_ble_eq_true rfl)⟩ (Nat.le_of_ble_eq_true rfl) dL_law_693 ?_
  refine g_aload_n C dL_law_696 rfl rfl ?_
  refine g_aload_n C dL_law_697 rfl rfl ?_
  refine g_iload_n C dL_law_698 rfl rfl ?_
  refine g_iconst C (v := 1) dL_law_699 (by decide) ?_
  refine g_iadd C dL_law_700 ?_
  refine g_sld C hX hbl hE (j := j + 1) (nI_add j 1) (by omega) (by omega) dL_law_701 ?_
  refine kL_100 C (by decide +kernel) c5 ⟨⟨(Nat.le_of_ble_eq_true rfl), (Nat.le_of_ble_eq_true rfl)⟩, (Nat.le_of_ble_eq_true rfl), (Nat.le_of_ble_eq_true rfl)⟩ (Nat.le_of_ble_eq_true rfl) dL_law_702 ?_
  exact g_icmp_eq C (tgt := 733) dL_law_705 (by decide) (fun _ => kk I3 F2 H3) (fun h9 => absurd rfl h9)
set_option maxRecDepth 100000 in
set_option maxHeartbeats 4000000 in
theorem law_c20 (C : Cx E RL cL_law 4 p s m #[Value.ref b] meth c) (hX : va_X b L xs s s.heap) (hbl : b < s.heap.size) (hE : pb E = s.heap.size) {j : Nat} (hj : j + 5 ≤ L) (hL : L ≤ 2560) (H : INV I F) (kk : ∀ I2 F2, INV I2 F2 → G E NT 4 p l e room_1 s m #[Value.ref b] below meth c 136 2236 Q I2 F2 733 [some (.ref b), some (rf E 0), some (rf E 127), some (.int (nI j))] []) : G E NT 4 p l e room_1 s m #[Value.ref b] below meth c 136 2236 Q I F 710 [some (.ref b), some (rf E 0), some (rf E 127), some (.int (nI j))] [] := by
  obtain ⟨r, I2, F2, I3, c4, c5, H3⟩ := st_restore (l := l) (E := E) H (xs (j + 1))
  refine g_aload_n C dL_law_710 rfl rfl ?_
  refine g_aload_n C dL_law_711 rfl rfl ?_
  refine g_iload_n C dL_law_712 rfl rfl ?_
  refine g_iconst C (v := 1) dL_law_713 (by decide) ?_
  refine g_iadd C dL_law_714 ?_
  refine g_sld C hX hbl hE (j := j + 1) (nI_add j 1) (by omega) (by omega) dL_law_715 ?_
  refine kL_101 C (by decide +kernel) c4 ⟨⟨(Nat.le_of_ble_eq_true rfl), (Nat.le_of_ble_eq_true rfl)⟩, (Nat.le_of_ble_eq_true rfl), (Nat.le_of_ble_eq_true rfl)⟩ (Nat.le_of_ble_eq_true rfl) dL_law_716 ?_
  refine g_aload_n C dL_law_719 rfl rfl ?_
  refine g_aload_n C dL_law_720 rfl rfl ?_
  refine g_iload_n C dL_law_721 rfl rfl ?_
  refine g_iconst C (v := 1) dL_law_722 (by decide) ?_
  refine g_iadd C dL_law_723 ?_
  refine g_sld C hX hbl hE (j := j + 1) (nI_add j 1) (by omega) (by omega) dL_law_724 ?_
  refine kL_104 C (by decide +kernel) c5 ⟨⟨(Nat.le_of_ble_eq_true rfl), (Nat.le_of_ble_eq_true rfl)⟩, (Nat.le_of_ble_eq_true rfl), (Nat.le_of_ble_eq_true rfl)⟩ (Nat.le_of_ble_eq_true rfl) dL_law_725 ?_
  exact g_icmp_eq C (tgt := 733) dL_law_728 (by decide) (fun _ => kk I3 F2 H3) (fun h9 => absurd rfl h9)
set_option maxRecDepth 100000 in
set_option maxHeartbeats 4000000 in
theorem law_body (C : Cx E RL cL_law 4 p s m #[Value.ref b] meth c) (hX : va_X b L xs s s.heap) (hbl : b < s.heap.size) (hE : pb E = s.heap.size) {j : Nat} (hj : j + 5 ≤ L) (hL : L ≤ 2560) (H : INV I F) (kk : ∀ I2 F2, INV I2 F2 → G E NT 4 p l e room_1 s m #[Value.ref b] below meth c 136 2236 Q I2 F2 733 [some (.ref b), some (rf E 0), some (rf E 127), some (.int (nI j))] []) : G E NT 4 p l e room_1 s m #[Value.ref b] below meth c 136 2236 Q I F 26 [some (.ref b), some (rf E 0), some (rf E 127), some (.int (nI j))] [] := by
  refine g_aload_n C dL_law_26 rfl rfl ?_
  refine g_iload_n C dL_law_27 rfl rfl ?_
  refine g_sld C hX hbl hE (j := j) rfl (by omega) (by omega) dL_law_28 ?_
  refine g_bipush C (v := 31) dL_law_29 (by decide) ?_
  refine g_iand C dL_law_31 ?_
  by_cases csw : (xs j &&& 31).toInt < 0 ∨ 20 < (xs j &&& 31).toInt
  · exact g_tableOut C (tgt := 733) dL_law_32 csw (by decide) (kk I F H)
  · obtain ⟨csw1, csw2⟩ := not_or.mp csw
    have csw3 := sw_cases21 csw1 csw2
    rcases csw3 with c_0 | c_1 | c_2 | c_3 | c_4 | c_5 | c_6 | c_7 | c_8 | c_9 | c_10 | c_11 | c_12 | c_13 | c_14 | c_15 | c_16 | c_17 | c_18 | c_19 | c_20
    · exact g_tableIn C (off := 100) (tgt := 132) dL_law_32 csw1 csw2 (by rw [c_0]; rfl) (by decide) (law_c0 C hX hbl hE hj hL H kk)
    · exact g_tableIn C (off := 133) (tgt := 165) dL_law_32 csw1 csw2 (by rw [c_1]; rfl) (by decide) (law_c1 C hX hbl hE hj hL H kk)
    · exact g_tableIn C (off := 218) (tgt := 250) dL_law_32 csw1 csw2 (by rw [c_2]; rfl) (by decide) (law_c2 C hX hbl hE hj hL H kk)
    · exact g_tableIn C (off := 231) (tgt := 263) dL_law_32 csw1 csw2 (by rw [c_3]; rfl) (by decide) (law_c3 C hX hbl hE hj hL H kk)
    · exact g_tableIn C (off := 290) (tgt := 322) dL_law_32 csw1 csw2 (by rw [c_4]; rfl) (by decide) (law_c4 C hX hbl hE hj hL H kk)
    · exact g_tableIn C (off := 323) (tgt := 355) dL_law_32 csw1 csw2 (by rw [c_5]; rfl) (by decide) (law_c5 C hX hbl hE hj hL H kk)
    · exact g_tableIn C (off := 346) (tgt := 378) dL_law_32 csw1 csw2 (by rw [c_6]; rfl) (by decide) (law_c6 C hX hbl hE hj hL H kk)
    · exact g_tableIn C (off := 369) (tgt := 401) dL_law_32 csw1 csw2 (by rw [c_7]; rfl) (by decide) (law_c7 C hX hbl hE hj hL H kk)
    · exact g_tableIn C (off := 392) (tgt := 424) dL_law_32 csw1 csw2 (by rw [c_8]; rfl) (by decide) (law_c8 C hX hbl hE hj hL H kk)
    · exact g_tableIn C (off := 425) (tgt := 457) dL_law_32 csw1 csw2 (by rw [c_9]; rfl) (by decide) (law_c9 C hX hbl hE hj hL H kk)
    · exact g_tableIn C (off := 448) (tgt := 480) dL_law_32 csw1 csw2 (by rw [c_10]; rfl) (by decide) (law_c10 C hX hbl hE hj hL H kk)
    · exact g_tableIn C (off := 471) (tgt := 503) dL_law_32 csw1 csw2 (by rw [c_11]; rfl) (by decide) (law_c11 C hX hbl hE hj hL H kk)
    · exact g_tableIn C (off := 504) (tgt := 536) dL_law_32 csw1 csw2 (by rw [c_12]; rfl) (by decide) (law_c12 C hX hbl hE hj hL H kk)
    · exact g_tableIn C (off := 517) (tgt := 549) dL_law_32 csw1 csw2 (by rw [c_13]; rfl) (by decide) (law_c13 C hX hbl hE hj hL H kk)
    · exact g_tableIn C (off := 540) (tgt := 572) dL_law_32 csw1 csw2 (by rw [c_14]; rfl) (by decide) (law_c14 C hX hbl hE hj hL H kk)
    · exact g_tableIn C (off := 563) (tgt := 595) dL_law_32 csw1 csw2 (by rw [c_15]; rfl) (by decide) (law_c15 C hX hbl hE hj hL H kk)
    · exact g_tableIn C (off := 616) (tgt := 648) dL_law_32 csw1 csw2 (by rw [c_16]; rfl) (by decide) (law_c16 C hX hbl hE hj hL H kk)
    · exact g_tableIn C (off := 629) (tgt := 661) dL_law_32 csw1 csw2 (by rw [c_17]; rfl) (by decide) (law_c17 C hX hbl hE hj hL H kk)
    · exact g_tableIn C (off := 642) (tgt := 674) dL_law_32 csw1 csw2 (by rw [c_18]; rfl) (by decide) (law_c18 C hX hbl hE hj hL H kk)
    · exact g_tableIn C (off := 655) (tgt := 687) dL_law_32 csw1 csw2 (by rw [c_19]; rfl) (by decide) (law_c19 C hX hbl hE hj hL H kk)
    · exact g_tableIn C (off := 678) (tgt := 710) dL_law_32 csw1 csw2 (by rw [c_20]; rfl) (by decide) (law_c20 C hX hbl hE hj hL H kk)
set_option maxRecDepth 100000 in
set_option maxHeartbeats 4000000 in
theorem law_loop (C : Cx E RL cL_law 4 p s m #[Value.ref b] meth c) (hX : va_X b L xs s s.heap) (hbl : b < s.heap.size) (hE : pb E = s.heap.size) (hL : L ≤ 2560) (kx : ∀ I2 F2 ls, ls.length = 4 → G E NT 4 p l e room_1 s m #[Value.ref b] below meth c 136 2236 Q I2 F2 739 ls []) (d : Nat) : ∀ (j : Nat) (I : Mi) (F : Mr), L < j + 5 * d → j ≤ L + 5 → INV I F → G E NT 4 p l e room_1 s m #[Value.ref b] below meth c 136 2236 Q I F 18 [some (.ref b), some (rf E 0), some (rf E 127), some (.int (nI j))] [] := by
  induction d with
  | zero =>
    intro j I F h1 h2 H
    refine g_iload_n C dL_law_18 rfl rfl ?_
    refine g_aload_n C dL_law_19 rfl rfl ?_
    refine g_slen C hX hbl hE dL_law_20 ?_
    refine g_iconst C (v := 5) dL_law_21 (by decide) ?_
    refine g_isub C dL_law_22 ?_
    exact g_icmp_gt C (tgt := 739) dL_law_23 (by decide) (fun _ => kx I F _ rfl) (fun h9 => absurd ((len_lt hL (by omega)).mpr (by omega)) h9)
  | succ d ih =>
    intro j I F h1 h2 H
    refine g_iload_n C dL_law_18 rfl rfl ?_
    refine g_aload_n C dL_law_19 rfl rfl ?_
    refine g_slen C hX hbl hE dL_law_20 ?_
    refine g_iconst C (v := 5) dL_law_21 (by decide) ?_
    refine g_isub C dL_law_22 ?_
    refine g_icmp_gt C (tgt := 739) dL_law_23 (by decide) (fun _ => kx I F _ rfl) (fun h9 => ?_)
    have hj : j + 5 ≤ L := Nat.not_lt.mp (fun z => h9 ((len_lt hL (by omega)).mpr z))
    refine law_body C hX hbl hE hj hL H (fun I2 F2 H2 => ?_)
    refine g_iinc C dL_law_733 rfl (nI_add j 5) (by decide) rfl ?_
    exact g_goto C (tgt := 18) dL_law_736 (by decide) (ih (j + 5) I2 F2 (by omega) (by omega) H2)
end LAW
