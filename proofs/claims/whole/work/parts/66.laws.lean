set_option maxHeartbeats 4000000 in
set_option maxRecDepth 100000 in
theorem l_set {KK : jK} (C : Cx KK yL_law.cls cL_law 4 2048 84000 600000 7302250) {bs L : Nat} {xs : Nat → Int32} (hX : va_X bs L xs (kS KK) (kS KK).heap) (hbl : bs < (kS KK).heap.size) (hbA : ¬ kF KK bs) (hL : L ≤ 3072) {a b : Nat → Nat} {ca sl : Nat} (hca : ca ≤ 600000) (hsl : sl ≤ 7302250) {M : Nat → Nat → Int32} {x : mS} {i : Nat} (hi : i + 6 ≤ L) (h : Rel M x) (KE : ∀ M' x', Rel M' x' → J KK (wL (kG KK) a b) ca sl (M', x') [(0, .ref bs), (1, .ref (a 0)), (2, .ref (b 0)), (3, .int (nI i))] 1114 []) : J KK (wL (kG KK) a b) ca sl (M, x) [(0, .ref bs), (1, .ref (a 0)), (2, .ref (b 0)), (3, .int (nI i))] 156 [] := by
  obtain ⟨n, t, ru, s, B, N, h⟩ := h
  refine j_aload_n C dL_law_156 rfl rfl ?_
  refine j_aload_n C dL_law_157 rfl rfl ?_
  refine j_iload_n C dL_law_158 rfl rfl ?_
  refine j_iconst (v := 1) C dL_law_159 rfl ?_
  refine j_iadd C dL_law_160 ?_
  refine j_sld C hX hbl hbA (i + 1) dL_law_161 (nI_add i 1) (by omega) (by omega) ?_
  refine j_aload_n C dL_law_162 rfl rfl ?_
  refine j_iload_n C dL_law_163 rfl rfl ?_
  refine j_iconst (v := 2) C dL_law_164 rfl ?_
  refine j_iadd C dL_law_165 ?_
  refine j_sld C hX hbl hbA (i + 2) dL_law_166 (nI_add i 2) (by omega) (by omega) ?_
  refine j_aload_n C dL_law_167 rfl rfl ?_
  refine j_iload_n C dL_law_168 rfl rfl ?_
  refine j_iconst (v := 3) C dL_law_169 rfl ?_
  refine j_iadd C dL_law_170 ?_
  refine j_sld C hX hbl hbA (i + 3) dL_law_171 (nI_add i 3) (by omega) (by omega) ?_
  refine j_lci C hca hsl (c_X9_set _ _ a _ _ _ _ n h.1.1.1 h.1.1.2) dL_law_172 jm_RL_13 rfl ⟨by decide, by decide⟩ rfl (Nat.le_of_ble_eq_true rfl) (fun r_0 z_0 h_0 => ?_)
  refine j_aload_n C dL_law_175 rfl rfl ?_
  refine j_aload_n C dL_law_176 rfl rfl ?_
  refine j_iload_n C dL_law_177 rfl rfl ?_
  refine j_iconst (v := 1) C dL_law_178 rfl ?_
  refine j_iadd C dL_law_179 ?_
  refine j_sld C hX hbl hbA (i + 1) dL_law_180 (nI_add i 1) (by omega) (by omega) ?_
  refine j_aload_n C dL_law_181 rfl rfl ?_
  refine j_iload_n C dL_law_182 rfl rfl ?_
  refine j_iconst (v := 2) C dL_law_183 rfl ?_
  refine j_iadd C dL_law_184 ?_
  refine j_sld C hX hbl hbA (i + 2) dL_law_185 (nI_add i 2) (by omega) (by omega) ?_
  refine j_aload_n C dL_law_186 rfl rfl ?_
  refine j_iload_n C dL_law_187 rfl rfl ?_
  refine j_iconst (v := 3) C dL_law_188 rfl ?_
  refine j_iadd C dL_law_189 ?_
  refine j_sld C hX hbl hbA (i + 3) dL_law_190 (nI_add i 3) (by omega) (by omega) ?_
  refine j_lri C hca hsl (c_X10_set _ _ b _ _ _ _ n h.2.1.1) dL_law_191 jm_RL_17 rfl ⟨by decide, by decide⟩ rfl (Nat.le_of_ble_eq_true rfl) (fun r_1 z_1 h_1 => ?_)
  have hq := q_set h h_0 h_1
  refine j_icmp_eq (tgt := 1114) C dL_law_194 (by decide) (fun _ => ?_) (fun c => absurd hq.1 c)
  exact KE _ _ hq.2
set_option maxHeartbeats 4000000 in
set_option maxRecDepth 100000 in
theorem l_glove {KK : jK} (C : Cx KK yL_law.cls cL_law 4 2048 84000 600000 7302250) {bs L : Nat} {xs : Nat → Int32} (hX : va_X bs L xs (kS KK) (kS KK).heap) (hbl : bs < (kS KK).heap.size) (hbA : ¬ kF KK bs) (hL : L ≤ 3072) {a b : Nat → Nat} {ca sl : Nat} (hca : ca ≤ 600000) (hsl : sl ≤ 7302250) {M : Nat → Nat → Int32} {x : mS} {i : Nat} (hi : i + 6 ≤ L) (h : Rel M x) (KE : ∀ M' x', Rel M' x' → J KK (wL (kG KK) a b) ca sl (M', x') [(0, .ref bs), (1, .ref (a 0)), (2, .ref (b 0)), (3, .int (nI i))] 1114 []) : J KK (wL (kG KK) a b) ca sl (M, x) [(0, .ref bs), (1, .ref (a 0)), (2, .ref (b 0)), (3, .int (nI i))] 199 [] := by
  obtain ⟨n, t, ru, s, B, N, h⟩ := h
  refine j_aload_n C dL_law_199 rfl rfl ?_
  refine j_aload_n C dL_law_200 rfl rfl ?_
  refine j_iload_n C dL_law_201 rfl rfl ?_
  refine j_iconst (v := 1) C dL_law_202 rfl ?_
  refine j_iadd C dL_law_203 ?_
  refine j_sld C hX hbl hbA (i + 1) dL_law_204 (nI_add i 1) (by omega) (by omega) ?_
  refine j_aload_n C dL_law_205 rfl rfl ?_
  refine j_iload_n C dL_law_206 rfl rfl ?_
  refine j_iconst (v := 2) C dL_law_207 rfl ?_
  refine j_iadd C dL_law_208 ?_
  refine j_sld C hX hbl hbA (i + 2) dL_law_209 (nI_add i 2) (by omega) (by omega) ?_
  refine j_aload_n C dL_law_210 rfl rfl ?_
  refine j_iload_n C dL_law_211 rfl rfl ?_
  refine j_iconst (v := 3) C dL_law_212 rfl ?_
  refine j_iadd C dL_law_213 ?_
  refine j_sld C hX hbl hbA (i + 3) dL_law_214 (nI_add i 3) (by omega) (by omega) ?_
  refine j_lci C hca hsl (c_X9_glove _ _ a _ _ _ _ n h.1.1.1 h.1.1.2) dL_law_215 jm_RL_18 rfl ⟨by decide, by decide⟩ rfl (Nat.le_of_ble_eq_true rfl) (fun r_0 z_0 h_0 => ?_)
  refine j_aload_n C dL_law_218 rfl rfl ?_
  refine j_aload_n C dL_law_219 rfl rfl ?_
  refine j_iload_n C dL_law_220 rfl rfl ?_
  refine j_iconst (v := 1) C dL_law_221 rfl ?_
  refine j_iadd C dL_law_222 ?_
  refine j_sld C hX hbl hbA (i + 1) dL_law_223 (nI_add i 1) (by omega) (by omega) ?_
  refine j_aload_n C dL_law_224 rfl rfl ?_
  refine j_iload_n C dL_law_225 rfl rfl ?_
  refine j_iconst (v := 2) C dL_law_226 rfl ?_
  refine j_iadd C dL_law_227 ?_
  refine j_sld C hX hbl hbA (i + 2) dL_law_228 (nI_add i 2) (by omega) (by omega) ?_
  refine j_aload_n C dL_law_229 rfl rfl ?_
  refine j_iload_n C dL_law_230 rfl rfl ?_
  refine j_iconst (v := 3) C dL_law_231 rfl ?_
  refine j_iadd C dL_law_232 ?_
  refine j_sld C hX hbl hbA (i + 3) dL_law_233 (nI_add i 3) (by omega) (by omega) ?_
  refine j_lri C hca hsl (c_X10_glove _ _ b _ _ _ _ n h.2.1.1) dL_law_234 jm_RL_21 rfl ⟨by decide, by decide⟩ rfl (Nat.le_of_ble_eq_true rfl) (fun r_1 z_1 h_1 => ?_)
  have hq := q_glove h h_0 h_1
  refine j_icmp_eq (tgt := 1114) C dL_law_237 (by decide) (fun _ => ?_) (fun c => absurd hq.1 c)
  exact KE _ _ hq.2
set_option maxHeartbeats 4000000 in
set_option maxRecDepth 100000 in
theorem l_told {KK : jK} (C : Cx KK yL_law.cls cL_law 4 2048 84000 600000 7302250) {bs L : Nat} {xs : Nat → Int32} (hX : va_X bs L xs (kS KK) (kS KK).heap) (hbl : bs < (kS KK).heap.size) (hbA : ¬ kF KK bs) (hL : L ≤ 3072) {a b : Nat → Nat} {ca sl : Nat} (hca : ca ≤ 600000) (hsl : sl ≤ 7302250) {M : Nat → Nat → Int32} {x : mS} {i : Nat} (hi : i + 6 ≤ L) (h : Rel M x) (KE : ∀ M' x', Rel M' x' → J KK (wL (kG KK) a b) ca sl (M', x') [(0, .ref bs), (1, .ref (a 0)), (2, .ref (b 0)), (3, .int (nI i))] 1114 []) : J KK (wL (kG KK) a b) ca sl (M, x) [(0, .ref bs), (1, .ref (a 0)), (2, .ref (b 0)), (3, .int (nI i))] 242 [] := by
  obtain ⟨n, t, ru, s, B, N, h⟩ := h
  refine j_aload_n C dL_law_242 rfl rfl ?_
  refine j_aload_n C dL_law_243 rfl rfl ?_
  refine j_iload_n C dL_law_244 rfl rfl ?_
  refine j_iconst (v := 1) C dL_law_245 rfl ?_
  refine j_iadd C dL_law_246 ?_
  refine j_sld C hX hbl hbA (i + 1) dL_law_247 (nI_add i 1) (by omega) (by omega) ?_
  refine j_aload_n C dL_law_248 rfl rfl ?_
  refine j_iload_n C dL_law_249 rfl rfl ?_
  refine j_iconst (v := 2) C dL_law_250 rfl ?_
  refine j_iadd C dL_law_251 ?_
  refine j_sld C hX hbl hbA (i + 2) dL_law_252 (nI_add i 2) (by omega) (by omega) ?_
  refine j_lci C hca hsl (c_X9_told _ _ a _ _ _ n h.1.1.1 h.1.1.2) dL_law_253 jm_RL_22 rfl ⟨by decide, by decide⟩ rfl (Nat.le_of_ble_eq_true rfl) (fun r_0 z_0 h_0 => ?_)
  refine j_aload_n C dL_law_256 rfl rfl ?_
  refine j_aload_n C dL_law_257 rfl rfl ?_
  refine j_iload_n C dL_law_258 rfl rfl ?_
  refine j_iconst (v := 1) C dL_law_259 rfl ?_
  refine j_iadd C dL_law_260 ?_
  refine j_sld C hX hbl hbA (i + 1) dL_law_261 (nI_add i 1) (by omega) (by omega) ?_
  refine j_aload_n C dL_law_262 rfl rfl ?_
  refine j_iload_n C dL_law_263 rfl rfl ?_
  refine j_iconst (v := 2) C dL_law_264 rfl ?_
  refine j_iadd C dL_law_265 ?_
  refine j_sld C hX hbl hbA (i + 2) dL_law_266 (nI_add i 2) (by omega) (by omega) ?_
  refine j_lri C hca hsl (c_X10_told _ _ b _ _ _ n h.2.1.1) dL_law_267 jm_RL_26 rfl ⟨by decide, by decide⟩ rfl (Nat.le_of_ble_eq_true rfl) (fun r_1 z_1 h_1 => ?_)
  have hq := q_told h h_0 h_1
  refine j_icmp_eq (tgt := 1114) C dL_law_270 (by decide) (fun _ => ?_) (fun c => absurd hq.1 c)
  exact KE _ _ hq.2
set_option maxHeartbeats 4000000 in
set_option maxRecDepth 100000 in
theorem l_feed {KK : jK} (C : Cx KK yL_law.cls cL_law 4 2048 84000 600000 7302250) {bs L : Nat} {xs : Nat → Int32} (hX : va_X bs L xs (kS KK) (kS KK).heap) (hbl : bs < (kS KK).heap.size) (hbA : ¬ kF KK bs) (hL : L ≤ 3072) {a b : Nat → Nat} {ca sl : Nat} (hca : ca ≤ 600000) (hsl : sl ≤ 7302250) {M : Nat → Nat → Int32} {x : mS} {i : Nat} (hi : i + 6 ≤ L) (h : Rel M x) (KE : ∀ M' x', Rel M' x' → J KK (wL (kG KK) a b) ca sl (M', x') [(0, .ref bs), (1, .ref (a 0)), (2, .ref (b 0)), (3, .int (nI i))] 1114 []) : J KK (wL (kG KK) a b) ca sl (M, x) [(0, .ref bs), (1, .ref (a 0)), (2, .ref (b 0)), (3, .int (nI i))] 275 [] := by
  obtain ⟨n, t, ru, s, B, N, h⟩ := h
  refine j_aload_n C dL_law_275 rfl rfl ?_
  refine j_aload_n C dL_law_276 rfl rfl ?_
  refine j_iload_n C dL_law_277 rfl rfl ?_
  refine j_iconst (v := 1) C dL_law_278 rfl ?_
  refine j_iadd C dL_law_279 ?_
  refine j_sld C hX hbl hbA (i + 1) dL_law_280 (nI_add i 1) (by omega) (by omega) ?_
  refine j_lci C hca hsl (c_X9_feed _ _ a _ _ s h.2.2.2.2.2.1.1 h.2.2.2.2.2.1.2.2.1) dL_law_281 jm_RL_27 rfl ⟨by decide, by decide⟩ rfl (Nat.le_of_ble_eq_true rfl) (fun r_0 z_0 h_0 => ?_)
  refine j_aload_n C dL_law_284 rfl rfl ?_
  refine j_aload_n C dL_law_285 rfl rfl ?_
  refine j_iload_n C dL_law_286 rfl rfl ?_
  refine j_iconst (v := 1) C dL_law_287 rfl ?_
  refine j_iadd C dL_law_288 ?_
  refine j_sld C hX hbl hbA (i + 1) dL_law_289 (nI_add i 1) (by omega) (by omega) ?_
  refine j_lri C hca hsl (c_X10_feed _ _ b _ _ s h.2.2.2.2.2.1.2.1 h.2.2.2.2.2.1.2.2.1) dL_law_290 jm_RL_31 rfl ⟨by decide, by decide⟩ rfl (Nat.le_of_ble_eq_true rfl) (fun r_1 z_1 h_1 => ?_)
  have hq := q_feed h h_0 h_1
  refine j_icmp_eq (tgt := 1114) C dL_law_293 (by decide) (fun _ => ?_) (fun c => absurd hq.1 c)
  exact KE _ _ hq.2
set_option maxHeartbeats 4000000 in
set_option maxRecDepth 100000 in
theorem l_text {KK : jK} (C : Cx KK yL_law.cls cL_law 4 2048 84000 600000 7302250) {bs L : Nat} {xs : Nat → Int32} (hX : va_X bs L xs (kS KK) (kS KK).heap) (hbl : bs < (kS KK).heap.size) (hbA : ¬ kF KK bs) (hL : L ≤ 3072) {a b : Nat → Nat} {ca sl : Nat} (hca : ca ≤ 600000) (hsl : sl ≤ 7302250) {M : Nat → Nat → Int32} {x : mS} {i : Nat} (hi : i + 6 ≤ L) (h : Rel M x) (KE : ∀ M' x', Rel M' x' → J KK (wL (kG KK) a b) ca sl (M', x') [(0, .ref bs), (1, .ref (a 0)), (2, .ref (b 0)), (3, .int (nI i))] 1114 []) : J KK (wL (kG KK) a b) ca sl (M, x) [(0, .ref bs), (1, .ref (a 0)), (2, .ref (b 0)), (3, .int (nI i))] 298 [] := by
  obtain ⟨n, t, ru, s, B, N, h⟩ := h
  refine j_aload_n C dL_law_298 rfl rfl ?_
  refine j_lci C hca hsl (c_X9_text _ _ a _  s t ⟨h.2.2.2.2.2.1.1, h.2.2.2.2.2.1.2.2.1⟩ h.1.2.1.1 h.1.2.1.2.2) dL_law_299 jm_RL_32 rfl ⟨by decide, by decide⟩ rfl (Nat.le_of_ble_eq_true rfl) (fun r_0 z_0 h_0 => ?_)
  refine j_aload_n C dL_law_302 rfl rfl ?_
  refine j_lri C hca hsl (c_X10_text _ _ b _  s t h.2.1.2.1.1 h.2.1.2.1.2.2 h.2.2.2.2.2.1.2.1 h.2.2.2.2.2.1.2.2.1 (fun i hi => (h.2.2.2.2.2.1.2.2.2 i hi).2)) dL_law_303 jm_RL_36 rfl ⟨by decide, by decide⟩ rfl (Nat.le_of_ble_eq_true rfl) (fun r_1 z_1 h_1 => ?_)
  have hq := q_text h h_0 h_1
  refine j_icmp_eq (tgt := 1114) C dL_law_306 (by decide) (fun _ => ?_) (fun c => absurd hq.1 c)
  exact KE _ _ hq.2
set_option maxHeartbeats 4000000 in
set_option maxRecDepth 100000 in
theorem l_force {KK : jK} (C : Cx KK yL_law.cls cL_law 4 2048 84000 600000 7302250) {bs L : Nat} {xs : Nat → Int32} (hX : va_X bs L xs (kS KK) (kS KK).heap) (hbl : bs < (kS KK).heap.size) (hbA : ¬ kF KK bs) (hL : L ≤ 3072) {a b : Nat → Nat} {ca sl : Nat} (hca : ca ≤ 600000) (hsl : sl ≤ 7302250) {M : Nat → Nat → Int32} {x : mS} {i : Nat} (hi : i + 6 ≤ L) (h : Rel M x) (KE : ∀ M' x', Rel M' x' → J KK (wL (kG KK) a b) ca sl (M', x') [(0, .ref bs), (1, .ref (a 0)), (2, .ref (b 0)), (3, .int (nI i))] 1114 []) : J KK (wL (kG KK) a b) ca sl (M, x) [(0, .ref bs), (1, .ref (a 0)), (2, .ref (b 0)), (3, .int (nI i))] 311 [] := by
  obtain ⟨n, t, ru, s, B, N, h⟩ := h
  refine j_aload_n C dL_law_311 rfl rfl ?_
  refine j_aload_n C dL_law_312 rfl rfl ?_
  refine j_iload_n C dL_law_313 rfl rfl ?_
  refine j_iconst (v := 1) C dL_law_314 rfl ?_
  refine j_iadd C dL_law_315 ?_
  refine j_sld C hX hbl hbA (i + 1) dL_law_316 (nI_add i 1) (by omega) (by omega) ?_
  refine j_lci C hca hsl (c_X9_force _ _ a _ _ ) dL_law_317 jm_RL_37 rfl ⟨by decide, by decide⟩ rfl (Nat.le_of_ble_eq_true rfl) (fun r_0 z_0 h_0 => ?_)
  refine j_aload_n C dL_law_320 rfl rfl ?_
  refine j_aload_n C dL_law_321 rfl rfl ?_
  refine j_iload_n C dL_law_322 rfl rfl ?_
  refine j_iconst (v := 1) C dL_law_323 rfl ?_
  refine j_iadd C dL_law_324 ?_
  refine j_sld C hX hbl hbA (i + 1) dL_law_325 (nI_add i 1) (by omega) (by omega) ?_
  refine j_lri C hca hsl (c_X10_force _ _ b _ _ t h.2.1.2.1.1 h.2.1.2.1.2.1 h.2.1.2.1.2.2) dL_law_326 jm_RL_40 rfl ⟨by decide, by decide⟩ rfl (Nat.le_of_ble_eq_true rfl) (fun r_1 z_1 h_1 => ?_)
  have hq := q_force h h_0 h_1
  refine j_icmp_eq (tgt := 1114) C dL_law_329 (by decide) (fun _ => ?_) (fun c => absurd hq.1 c)
  exact KE _ _ hq.2
set_option maxHeartbeats 4000000 in
set_option maxRecDepth 100000 in
theorem l_day {KK : jK} (C : Cx KK yL_law.cls cL_law 4 2048 84000 600000 7302250) {bs L : Nat} {xs : Nat → Int32} (hX : va_X bs L xs (kS KK) (kS KK).heap) (hbl : bs < (kS KK).heap.size) (hbA : ¬ kF KK bs) (hL : L ≤ 3072) {a b : Nat → Nat} {ca sl : Nat} (hca : ca ≤ 600000) (hsl : sl ≤ 7302250) {M : Nat → Nat → Int32} {x : mS} {i : Nat} (hi : i + 6 ≤ L) (h : Rel M x) (KE : ∀ M' x', Rel M' x' → J KK (wL (kG KK) a b) ca sl (M', x') [(0, .ref bs), (1, .ref (a 0)), (2, .ref (b 0)), (3, .int (nI i))] 1114 []) : J KK (wL (kG KK) a b) ca sl (M, x) [(0, .ref bs), (1, .ref (a 0)), (2, .ref (b 0)), (3, .int (nI i))] 334 [] := by
  obtain ⟨n, t, ru, s, B, N, h⟩ := h
  refine j_aload_n C dL_law_334 rfl rfl ?_
  refine j_aload_n C dL_law_335 rfl rfl ?_
  refine j_iload_n C dL_law_336 rfl rfl ?_
  refine j_iconst (v := 1) C dL_law_337 rfl ?_
  refine j_iadd C dL_law_338 ?_
  refine j_sld C hX hbl hbA (i + 1) dL_law_339 (nI_add i 1) (by omega) (by omega) ?_
  refine j_aload_n C dL_law_340 rfl rfl ?_
  refine j_iload_n C dL_law_341 rfl rfl ?_
  refine j_iconst (v := 2) C dL_law_342 rfl ?_
  refine j_iadd C dL_law_343 ?_
  refine j_sld C hX hbl hbA (i + 2) dL_law_344 (nI_add i 2) (by omega) (by omega) ?_
  refine j_aload_n C dL_law_345 rfl rfl ?_
  refine j_iload_n C dL_law_346 rfl rfl ?_
  refine j_iconst (v := 3) C dL_law_347 rfl ?_
  refine j_iadd C dL_law_348 ?_
  refine j_sld C hX hbl hbA (i + 3) dL_law_349 (nI_add i 3) (by omega) (by omega) ?_
  refine j_lci C hca hsl (c_X9_day _ _ a _ _ _ _ n t ru (fun j => tM B N j) h.1) dL_law_350 jm_RL_41 rfl ⟨by decide, by decide⟩ rfl (Nat.le_of_ble_eq_true rfl) (fun r_0 z_0 h_0 => ?_)
  refine j_aload_n C dL_law_353 rfl rfl ?_
  refine j_aload_n C dL_law_354 rfl rfl ?_
  refine j_iload_n C dL_law_355 rfl rfl ?_
  refine j_iconst (v := 1) C dL_law_356 rfl ?_
  refine j_iadd C dL_law_357 ?_
  refine j_sld C hX hbl hbA (i + 1) dL_law_358 (nI_add i 1) (by omega) (by omega) ?_
  refine j_aload_n C dL_law_359 rfl rfl ?_
  refine j_iload_n C dL_law_360 rfl rfl ?_
  refine j_iconst (v := 2) C dL_law_361 rfl ?_
  refine j_iadd C dL_law_362 ?_
  refine j_sld C hX hbl hbA (i + 2) dL_law_363 (nI_add i 2) (by omega) (by omega) ?_
  refine j_aload_n C dL_law_364 rfl rfl ?_
  refine j_iload_n C dL_law_365 rfl rfl ?_
  refine j_iconst (v := 3) C dL_law_366 rfl ?_
  refine j_iadd C dL_law_367 ?_
  refine j_sld C hX hbl hbA (i + 3) dL_law_368 (nI_add i 3) (by omega) (by omega) ?_
  refine j_lri C hca hsl (c_X10_day _ _ b _ _ _ _ n t ru B N h.2.1) dL_law_369 jm_RL_44 rfl ⟨by decide, by decide⟩ rfl (Nat.le_of_ble_eq_true rfl) (fun r_1 z_1 h_1 => ?_)
  have hq := q_day h h_0 h_1
  refine j_icmp_eq (tgt := 1114) C dL_law_372 (by decide) (fun _ => ?_) (fun c => absurd hq.1 c)
  exact KE _ _ hq.2
set_option maxHeartbeats 4000000 in
set_option maxRecDepth 100000 in
theorem l_found {KK : jK} (C : Cx KK yL_law.cls cL_law 4 2048 84000 600000 7302250) {bs L : Nat} {xs : Nat → Int32} (hX : va_X bs L xs (kS KK) (kS KK).heap) (hbl : bs < (kS KK).heap.size) (hbA : ¬ kF KK bs) (hL : L ≤ 3072) {a b : Nat → Nat} {ca sl : Nat} (hca : ca ≤ 600000) (hsl : sl ≤ 7302250) {M : Nat → Nat → Int32} {x : mS} {i : Nat} (hi : i + 6 ≤ L) (h : Rel M x) (KE : ∀ M' x', Rel M' x' → J KK (wL (kG KK) a b) ca sl (M', x') [(0, .ref bs), (1, .ref (a 0)), (2, .ref (b 0)), (3, .int (nI i))] 1114 []) : J KK (wL (kG KK) a b) ca sl (M, x) [(0, .ref bs), (1, .ref (a 0)), (2, .ref (b 0)), (3, .int (nI i))] 377 [] := by
  obtain ⟨n, t, ru, s, B, N, h⟩ := h
  refine j_aload_n C dL_law_377 rfl rfl ?_
  refine j_aload_n C dL_law_378 rfl rfl ?_
  refine j_iload_n C dL_law_379 rfl rfl ?_
  refine j_iconst (v := 1) C dL_law_380 rfl ?_
  refine j_iadd C dL_law_381 ?_
  refine j_sld C hX hbl hbA (i + 1) dL_law_382 (nI_add i 1) (by omega) (by omega) ?_
  refine j_aload_n C dL_law_383 rfl rfl ?_
  refine j_iload_n C dL_law_384 rfl rfl ?_
  refine j_iconst (v := 2) C dL_law_385 rfl ?_
  refine j_iadd C dL_law_386 ?_
  refine j_sld C hX hbl hbA (i + 2) dL_law_387 (nI_add i 2) (by omega) (by omega) ?_
  refine j_aload_n C dL_law_388 rfl rfl ?_
  refine j_iload_n C dL_law_389 rfl rfl ?_
  refine j_iconst (v := 3) C dL_law_390 rfl ?_
  refine j_iadd C dL_law_391 ?_
  refine j_sld C hX hbl hbA (i + 3) dL_law_392 (nI_add i 3) (by omega) (by omega) ?_
  refine j_lcl C hca hsl (c_X9_found _ _ a _ _ _ _ n t ru (fun j => tM B N j) h.1) dL_law_393 jm_RL_45 rfl ⟨by decide, by decide⟩ rfl (Nat.le_of_ble_eq_true rfl) (fun r_0 z_0 h_0 => ?_)
  refine j_aload_n C dL_law_396 rfl rfl ?_
  refine j_aload_n C dL_law_397 rfl rfl ?_
  refine j_iload_n C dL_law_398 rfl rfl ?_
  refine j_iconst (v := 1) C dL_law_399 rfl ?_
  refine j_iadd C dL_law_400 ?_
  refine j_sld C hX hbl hbA (i + 1) dL_law_401 (nI_add i 1) (by omega) (by omega) ?_
  refine j_aload_n C dL_law_402 rfl rfl ?_
  refine j_iload_n C dL_law_403 rfl rfl ?_
  refine j_iconst (v := 2) C dL_law_404 rfl ?_
  refine j_iadd C dL_law_405 ?_
  refine j_sld C hX hbl hbA (i + 2) dL_law_406 (nI_add i 2) (by omega) (by omega) ?_
  refine j_aload_n C dL_law_407 rfl rfl ?_
  refine j_iload_n C dL_law_408 rfl rfl ?_
  refine j_iconst (v := 3) C dL_law_409 rfl ?_
  refine j_iadd C dL_law_410 ?_
  refine j_sld C hX hbl hbA (i + 3) dL_law_411 (nI_add i 3) (by omega) (by omega) ?_
  refine j_lrl C hca hsl (c_X10_found _ _ b _ _ _ _ n t ru B N h.2.1) dL_law_412 jm_RL_49 rfl ⟨by decide, by decide⟩ rfl (Nat.le_of_ble_eq_true rfl) (fun r_1 z_1 h_1 => ?_)
  refine j_lcmp C dL_law_415 ?_
  have hq := q_found h h_0 h_1
  refine j_if_eq (tgt := 1114) C dL_law_416 (by decide) (fun _ => ?_) (fun c => by rw [lg_cmp_eq] at c; exact absurd hq.1 c)
  exact KE _ _ hq.2
set_option maxHeartbeats 4000000 in
set_option maxRecDepth 100000 in
theorem l_parts {KK : jK} (C : Cx KK yL_law.cls cL_law 4 2048 84000 600000 7302250) {bs L : Nat} {xs : Nat → Int32} (hX : va_X bs L xs (kS KK) (kS KK).heap) (hbl : bs < (kS KK).heap.size) (hbA : ¬ kF KK bs) (hL : L ≤ 3072) {a b : Nat → Nat} {ca sl : Nat} (hca : ca ≤ 600000) (hsl : sl ≤ 7302250) {M : Nat → Nat → Int32} {x : mS} {i : Nat} (hi : i + 6 ≤ L) (h : Rel M x) (KE : ∀ M' x', Rel M' x' → J KK (wL (kG KK) a b) ca sl (M', x') [(0, .ref bs), (1, .ref (a 0)), (2, .ref (b 0)), (3, .int (nI i))] 1114 []) : J KK (wL (kG KK) a b) ca sl (M, x) [(0, .ref bs), (1, .ref (a 0)), (2, .ref (b 0)), (3, .int (nI i))] 421 [] := by
  obtain ⟨n, t, ru, s, B, N, h⟩ := h
  refine j_aload_n C dL_law_421 rfl rfl ?_
  refine j_aload_n C dL_law_422 rfl rfl ?_
  refine j_iload_n C dL_law_423 rfl rfl ?_
  refine j_iconst (v := 1) C dL_law_424 rfl ?_
  refine j_iadd C dL_law_425 ?_
  refine j_sld C hX hbl hbA (i + 1) dL_law_426 (nI_add i 1) (by omega) (by omega) ?_
  refine j_aload_n C dL_law_427 rfl rfl ?_
  refine j_iload_n C dL_law_428 rfl rfl ?_
  refine j_iconst (v := 2) C dL_law_429 rfl ?_
  refine j_iadd C dL_law_430 ?_
  refine j_sld C hX hbl hbA (i + 2) dL_law_431 (nI_add i 2) (by omega) (by omega) ?_
  refine j_lcl C hca hsl (c_X9_parts _ _ a _ _ _ n t ru (fun j => tM B N j) h.1) dL_law_432 jm_RL_50 rfl ⟨by decide, by decide⟩ rfl (Nat.le_of_ble_eq_true rfl) (fun r_0 z_0 h_0 => ?_)
  refine j_aload_n C dL_law_435 rfl rfl ?_
  refine j_aload_n C dL_law_436 rfl rfl ?_
  refine j_iload_n C dL_law_437 rfl rfl ?_
  refine j_iconst (v := 1) C dL_law_438 rfl ?_
  refine j_iadd C dL_law_439 ?_
  refine j_sld C hX hbl hbA (i + 1) dL_law_440 (nI_add i 1) (by omega) (by omega) ?_
  refine j_aload_n C dL_law_441 rfl rfl ?_
  refine j_iload_n C dL_law_442 rfl rfl ?_
  refine j_iconst (v := 2) C dL_law_443 rfl ?_
  refine j_iadd C dL_law_444 ?_
  refine j_sld C hX hbl hbA (i + 2) dL_law_445 (nI_add i 2) (by omega) (by omega) ?_
  refine j_lrl C hca hsl (c_X10_parts _ _ b _ _ _ n t ru B N h.2.1) dL_law_446 jm_RL_54 rfl ⟨by decide, by decide⟩ rfl (Nat.le_of_ble_eq_true rfl) (fun r_1 z_1 h_1 => ?_)
  refine j_lcmp C dL_law_449 ?_
  have hq := q_parts h h_0 h_1
  refine j_if_eq (tgt := 1114) C dL_law_450 (by decide) (fun _ => ?_) (fun c => by rw [lg_cmp_eq] at c; exact absurd hq.1 c)
  exact KE _ _ hq.2
set_option maxHeartbeats 4000000 in
set_option maxRecDepth 100000 in
theorem l_waiting {KK : jK} (C : Cx KK yL_law.cls cL_law 4 2048 84000 600000 7302250) {bs L : Nat} {xs : Nat → Int32} (hX : va_X bs L xs (kS KK) (kS KK).heap) (hbl : bs < (kS KK).heap.size) (hbA : ¬ kF KK bs) (hL : L ≤ 3072) {a b : Nat → Nat} {ca sl : Nat} (hca : ca ≤ 600000) (hsl : sl ≤ 7302250) {M : Nat → Nat → Int32} {x : mS} {i : Nat} (hi : i + 6 ≤ L) (h : Rel M x) (KE : ∀ M' x', Rel M' x' → J KK (wL (kG KK) a b) ca sl (M', x') [(0, .ref bs), (1, .ref (a 0)), (2, .ref (b 0)), (3, .int (nI i))] 1114 []) : J KK (wL (kG KK) a b) ca sl (M, x) [(0, .ref bs), (1, .ref (a 0)), (2, .ref (b 0)), (3, .int (nI i))] 455 [] := by
  obtain ⟨n, t, ru, s, B, N, h⟩ := h
  refine j_aload_n C dL_law_455 rfl rfl ?_
  refine j_aload_n C dL_law_456 rfl rfl ?_
  refine j_iload_n C dL_law_457 rfl rfl ?_
  refine j_iconst (v := 1) C dL_law_458 rfl ?_
  refine j_iadd C dL_law_459 ?_
  refine j_sld C hX hbl hbA (i + 1) dL_law_460 (nI_add i 1) (by omega) (by omega) ?_
  refine j_aload_n C dL_law_461 rfl rfl ?_
  refine j_iload_n C dL_law_462 rfl rfl ?_
  refine j_iconst (v := 2) C dL_law_463 rfl ?_
  refine j_iadd C dL_law_464 ?_
  refine j_sld C hX hbl hbA (i + 2) dL_law_465 (nI_add i 2) (by omega) (by omega) ?_
  refine j_lcl C hca hsl (c_X9_waiting _ _ a _ _ _ n t ru (fun j => tM B N j) h.1) dL_law_466 jm_RL_55 rfl ⟨by decide, by decide⟩ rfl (Nat.le_of_ble_eq_true rfl) (fun r_0 z_0 h_0 => ?_)
  refine j_aload_n C dL_law_469 rfl rfl ?_
  refine j_aload_n C dL_law_470 rfl rfl ?_
  refine j_iload_n C dL_law_471 rfl rfl ?_
  refine j_iconst (v := 1) C dL_law_472 rfl ?_
  refine j_iadd C dL_law_473 ?_
  refine j_sld C hX hbl hbA (i + 1) dL_law_474 (nI_add i 1) (by omega) (by omega) ?_
  refine j_aload_n C dL_law_475 rfl rfl ?_
  refine j_iload_n C dL_law_476 rfl rfl ?_
  refine j_iconst (v := 2) C dL_law_477 rfl ?_
  refine j_iadd C dL_law_478 ?_
  refine j_sld C hX hbl hbA (i + 2) dL_law_479 (nI_add i 2) (by omega) (by omega) ?_
  refine j_lrl C hca hsl (c_X10_waiting _ _ b _ _ _ n t ru B N h.2.1) dL_law_480 jm_RL_58 rfl ⟨by decide, by decide⟩ rfl (Nat.le_of_ble_eq_true rfl) (fun r_1 z_1 h_1 => ?_)
  refine j_lcmp C dL_law_483 ?_
  have hq := q_waiting h h_0 h_1
  refine j_if_eq (tgt := 1114) C dL_law_484 (by decide) (fun _ => ?_) (fun c => by rw [lg_cmp_eq] at c; exact absurd hq.1 c)
  exact KE _ _ hq.2
set_option maxHeartbeats 4000000 in
set_option maxRecDepth 100000 in
theorem l_hang {KK : jK} (C : Cx KK yL_law.cls cL_law 4 2048 84000 600000 7302250) {bs L : Nat} {xs : Nat → Int32} (hX : va_X bs L xs (kS KK) (kS KK).heap) (hbl : bs < (kS KK).heap.size) (hbA : ¬ kF KK bs) (hL : L ≤ 3072) {a b : Nat → Nat} {ca sl : Nat} (hca : ca ≤ 600000) (hsl : sl ≤ 7302250) {M : Nat → Nat → Int32} {x : mS} {i : Nat} (hi : i + 6 ≤ L) (h : Rel M x) (KE : ∀ M' x', Rel M' x' → J KK (wL (kG KK) a b) ca sl (M', x') [(0, .ref bs), (1, .ref (a 0)), (2, .ref (b 0)), (3, .int (nI i))] 1114 []) : J KK (wL (kG KK) a b) ca sl (M, x) [(0, .ref bs), (1, .ref (a 0)), (2, .ref (b 0)), (3, .int (nI i))] 489 [] := by
  obtain ⟨n, t, ru, s, B, N, h⟩ := h
  refine j_aload_n C dL_law_489 rfl rfl ?_
  refine j_aload_n C dL_law_490 rfl rfl ?_
  refine j_iload_n C dL_law_491 rfl rfl ?_
  refine j_iconst (v := 1) C dL_law_492 rfl ?_
  refine j_iadd C dL_law_493 ?_
  refine j_sld C hX hbl hbA (i + 1) dL_law_494 (nI_add i 1) (by omega) (by omega) ?_
  refine j_aload_n C dL_law_495 rfl rfl ?_
  refine j_iload_n C dL_law_496 rfl rfl ?_
  refine j_iconst (v := 2) C dL_law_497 rfl ?_
  refine j_iadd C dL_law_498 ?_
  refine j_sld C hX hbl hbA (i + 2) dL_law_499 (nI_add i 2) (by omega) (by omega) ?_
  refine j_lcl C hca hsl (c_X9_hang _ _ a _ _ _ n t ru (fun j => tM B N j) h.1) dL_law_500 jm_RL_59 rfl ⟨by decide, by decide⟩ rfl (Nat.le_of_ble_eq_true rfl) (fun r_0 z_0 h_0 => ?_)
  refine j_aload_n C dL_law_503 rfl rfl ?_
  refine j_aload_n C dL_law_504 rfl rfl ?_
  refine j_iload_n C dL_law_505 rfl rfl ?_
  refine j_iconst (v := 1) C dL_law_506 rfl ?_
  refine j_iadd C dL_law_507 ?_
  refine j_sld C hX hbl hbA (i + 1) dL_law_508 (nI_add i 1) (by omega) (by omega) ?_
  refine j_aload_n C dL_law_509 rfl rfl ?_
  refine j_iload_n C dL_law_510 rfl rfl ?_
  refine j_iconst (v := 2) C dL_law_511 rfl ?_
  refine j_iadd C dL_law_512 ?_
  refine j_sld C hX hbl hbA (i + 2) dL_law_513 (nI_add i 2) (by omega) (by omega) ?_
  refine j_lrl C hca hsl (c_X10_hang _ _ b _ _ _ n t ru B N h.2.1) dL_law_514 jm_RL_62 rfl ⟨by decide, by decide⟩ rfl (Nat.le_of_ble_eq_true rfl) (fun r_1 z_1 h_1 => ?_)
  refine j_lcmp C dL_law_517 ?_
  have hq := q_hang h h_0 h_1
  refine j_if_eq (tgt := 1114) C dL_law_518 (by decide) (fun _ => ?_) (fun c => by rw [lg_cmp_eq] at c; exact absurd hq.1 c)
  exact KE _ _ hq.2
set_option maxHeartbeats 4000000 in
set_option maxRecDepth 100000 in
theorem l_walk {KK : jK} (C : Cx KK yL_law.cls cL_law 4 2048 84000 600000 7302250) {bs L : Nat} {xs : Nat → Int32} (hX : va_X bs L xs (kS KK) (kS KK).heap) (hbl : bs < (kS KK).heap.size) (hbA : ¬ kF KK bs) (hL : L ≤ 3072) {a b : Nat → Nat} {ca sl : Nat} (hca : ca ≤ 600000) (hsl : sl ≤ 7302250) {M : Nat → Nat → Int32} {x : mS} {i : Nat} (hi : i + 6 ≤ L) (h : Rel M x) (KE : ∀ M' x', Rel M' x' → J KK (wL (kG KK) a b) ca sl (M', x') [(0, .ref bs), (1, .ref (a 0)), (2, .ref (b 0)), (3, .int (nI i))] 1114 []) : J KK (wL (kG KK) a b) ca sl (M, x) [(0, .ref bs), (1, .ref (a 0)), (2, .ref (b 0)), (3, .int (nI i))] 523 [] := by
  obtain ⟨n, t, ru, s, B, N, h⟩ := h
  refine j_aload_n C dL_law_523 rfl rfl ?_
  refine j_aload_n C dL_law_524 rfl rfl ?_
  refine j_iload_n C dL_law_525 rfl rfl ?_
  refine j_iconst (v := 1) C dL_law_526 rfl ?_
  refine j_iadd C dL_law_527 ?_
  refine j_sld C hX hbl hbA (i + 1) dL_law_528 (nI_add i 1) (by omega) (by omega) ?_
  refine j_aload_n C dL_law_529 rfl rfl ?_
  refine j_iload_n C dL_law_530 rfl rfl ?_
  refine j_iconst (v := 2) C dL_law_531 rfl ?_
  refine j_iadd C dL_law_532 ?_
  refine j_sld C hX hbl hbA (i + 2) dL_law_533 (nI_add i 2) (by omega) (by omega) ?_
  refine j_lcl C hca hsl (c_X9_walk _ _ a _ _ _ n t ru (fun j => tM B N j) h.1) dL_law_534 jm_RL_63 rfl ⟨by decide, by decide⟩ rfl (Nat.le_of_ble_eq_true rfl) (fun r_0 z_0 h_0 => ?_)
  refine j_aload_n C dL_law_537 rfl rfl ?_
  refine j_aload_n C dL_law_538 rfl rfl ?_
  refine j_iload_n C dL_law_539 rfl rfl ?_
  refine j_iconst (v := 1) C dL_law_540 rfl ?_
  refine j_iadd C dL_law_541 ?_
  refine j_sld C hX hbl hbA (i + 1) dL_law_542 (nI_add i 1) (by omega) (by omega) ?_
  refine j_aload_n C dL_law_543 rfl rfl ?_
  refine j_iload_n C dL_law_544 rfl rfl ?_
  refine j_iconst (v := 2) C dL_law_545 rfl ?_
  refine j_iadd C dL_law_546 ?_
  refine j_sld C hX hbl hbA (i + 2) dL_law_547 (nI_add i 2) (by omega) (by omega) ?_
  refine j_lrl C hca hsl (c_X10_walk _ _ b _ _ _ n t ru B N h.2.1) dL_law_548 jm_RL_66 rfl ⟨by decide, by decide⟩ rfl (Nat.le_of_ble_eq_true rfl) (fun r_1 z_1 h_1 => ?_)
  refine j_lcmp C dL_law_551 ?_
  have hq := q_walk h h_0 h_1
  refine j_if_eq (tgt := 1114) C dL_law_552 (by decide) (fun _ => ?_) (fun c => by rw [lg_cmp_eq] at c; exact absurd hq.1 c)
  exact KE _ _ hq.2
set_option maxHeartbeats 4000000 in
set_option maxRecDepth 100000 in
theorem l_best {KK : jK} (C : Cx KK yL_law.cls cL_law 4 2048 84000 600000 7302250) {bs L : Nat} {xs : Nat → Int32} (hX : va_X bs L xs (kS KK) (kS KK).heap) (hbl : bs < (kS KK).heap.size) (hbA : ¬ kF KK bs) (hL : L ≤ 3072) {a b : Nat → Nat} {ca sl : Nat} (hca : ca ≤ 600000) (hsl : sl ≤ 7302250) {M : Nat → Nat → Int32} {x : mS} {i : Nat} (hi : i + 6 ≤ L) (h : Rel M x) (KE : ∀ M' x', Rel M' x' → J KK (wL (kG KK) a b) ca sl (M', x') [(0, .ref bs), (1, .ref (a 0)), (2, .ref (b 0)), (3, .int (nI i))] 1114 []) : J KK (wL (kG KK) a b) ca sl (M, x) [(0, .ref bs), (1, .ref (a 0)), (2, .ref (b 0)), (3, .int (nI i))] 557 [] := by
  obtain ⟨n, t, ru, s, B, N, h⟩ := h
  refine j_aload_n C dL_law_557 rfl rfl ?_
  refine j_aload_n C dL_law_558 rfl rfl ?_
  refine j_iload_n C dL_law_559 rfl rfl ?_
  refine j_iconst (v := 1) C dL_law_560 rfl ?_
  refine j_iadd C dL_law_561 ?_
  refine j_sld C hX hbl hbA (i + 1) dL_law_562 (nI_add i 1) (by omega) (by omega) ?_
  refine j_aload_n C dL_law_563 rfl rfl ?_
  refine j_iload_n C dL_law_564 rfl rfl ?_
  refine j_iconst (v := 2) C dL_law_565 rfl ?_
  refine j_iadd C dL_law_566 ?_
  refine j_sld C hX hbl hbA (i + 2) dL_law_567 (nI_add i 2) (by omega) (by omega) ?_
  refine j_lci C hca hsl (c_X9_best _ _ a _ _ _ n t ru (fun j => tM B N j) h.1) dL_law_568 jm_RL_67 rfl ⟨by decide, by decide⟩ rfl (Nat.le_of_ble_eq_true rfl) (fun r_0 z_0 h_0 => ?_)
  refine j_aload_n C dL_law_571 rfl rfl ?_
  refine j_aload_n C dL_law_572 rfl rfl ?_
  refine j_iload_n C dL_law_573 rfl rfl ?_
  refine j_iconst (v := 1) C dL_law_574 rfl ?_
  refine j_iadd C dL_law_575 ?_
  refine j_sld C hX hbl hbA (i + 1) dL_law_576 (nI_add i 1) (by omega) (by omega) ?_
  refine j_aload_n C dL_law_577 rfl rfl ?_
  refine j_iload_n C dL_law_578 rfl rfl ?_
  refine j_iconst (v := 2) C dL_law_579 rfl ?_
  refine j_iadd C dL_law_580 ?_
  refine j_sld C hX hbl hbA (i + 2) dL_law_581 (nI_add i 2) (by omega) (by omega) ?_
  refine j_lri C hca hsl (c_X10_best _ _ b _ _ _ n t ru B N h.2.1) dL_law_582 jm_RL_70 rfl ⟨by decide, by decide⟩ rfl (Nat.le_of_ble_eq_true rfl) (fun r_1 z_1 h_1 => ?_)
  have hq := q_best h h_0 h_1
  refine j_icmp_eq (tgt := 1114) C dL_law_585 (by decide) (fun _ => ?_) (fun c => absurd hq.1 c)
  exact KE _ _ hq.2
set_option maxHeartbeats 4000000 in
set_option maxRecDepth 100000 in
theorem l_first {KK : jK} (C : Cx KK yL_law.cls cL_law 4 2048 84000 600000 7302250) {bs L : Nat} {xs : Nat → Int32} (hX : va_X bs L xs (kS KK) (kS KK).heap) (hbl : bs < (kS KK).heap.size) (hbA : ¬ kF KK bs) (hL : L ≤ 3072) {a b : Nat → Nat} {ca sl : Nat} (hca : ca ≤ 600000) (hsl : sl ≤ 7302250) {M : Nat → Nat → Int32} {x : mS} {i : Nat} (hi : i + 6 ≤ L) (h : Rel M x) (KE : ∀ M' x', Rel M' x' → J KK (wL (kG KK) a b) ca sl (M', x') [(0, .ref bs), (1, .ref (a 0)), (2, .ref (b 0)), (3, .int (nI i))] 1114 []) : J KK (wL (kG KK) a b) ca sl (M, x) [(0, .ref bs), (1, .ref (a 0)), (2, .ref (b 0)), (3, .int (nI i))] 590 [] := by
  obtain ⟨n, t, ru, s, B, N, h⟩ := h
  refine j_aload_n C dL_law_590 rfl rfl ?_
  refine j_aload_n C dL_law_591 rfl rfl ?_
  refine j_iload_n C dL_law_592 rfl rfl ?_
  refine j_iconst (v := 1) C dL_law_593 rfl ?_
  refine j_iadd C dL_law_594 ?_
  refine j_sld C hX hbl hbA (i + 1) dL_law_595 (nI_add i 1) (by omega) (by omega) ?_
  refine j_aload_n C dL_law_596 rfl rfl ?_
  refine j_iload_n C dL_law_597 rfl rfl ?_
  refine j_iconst (v := 2) C dL_law_598 rfl ?_
  refine j_iadd C dL_law_599 ?_
  refine j_sld C hX hbl hbA (i + 2) dL_law_600 (nI_add i 2) (by omega) (by omega) ?_
  refine j_lcl C hca hsl (c_X9_first _ _ a _ _ _ n t ru (fun j => tM B N j) h.1) dL_law_601 jm_RL_71 rfl ⟨by decide, by decide⟩ rfl (Nat.le_of_ble_eq_true rfl) (fun r_0 z_0 h_0 => ?_)
  refine j_aload_n C dL_law_604 rfl rfl ?_
  refine j_aload_n C dL_law_605 rfl rfl ?_
  refine j_iload_n C dL_law_606 rfl rfl ?_
  refine j_iconst (v := 1) C dL_law_607 rfl ?_
  refine j_iadd C dL_law_608 ?_
  refine j_sld C hX hbl hbA (i + 1) dL_law_609 (nI_add i 1) (by omega) (by omega) ?_
  refine j_aload_n C dL_law_610 rfl rfl ?_
  refine j_iload_n C dL_law_611 rfl rfl ?_
  refine j_iconst (v := 2) C dL_law_612 rfl ?_
  refine j_iadd C dL_law_613 ?_
  refine j_sld C hX hbl hbA (i + 2) dL_law_614 (nI_add i 2) (by omega) (by omega) ?_
  refine j_lrl C hca hsl (c_X10_first _ _ b _ _ _ n t ru B N h.2.1) dL_law_615 jm_RL_74 rfl ⟨by decide, by decide⟩ rfl (Nat.le_of_ble_eq_true rfl) (fun r_1 z_1 h_1 => ?_)
  refine j_lcmp C dL_law_618 ?_
  have hq := q_first h h_0 h_1
  refine j_if_eq (tgt := 1114) C dL_law_619 (by decide) (fun _ => ?_) (fun c => by rw [lg_cmp_eq] at c; exact absurd hq.1 c)
  exact KE _ _ hq.2
set_option maxHeartbeats 4000000 in
set_option maxRecDepth 100000 in
theorem l_giveUp {KK : jK} (C : Cx KK yL_law.cls cL_law 4 2048 84000 600000 7302250) {bs L : Nat} {xs : Nat → Int32} (hX : va_X bs L xs (kS KK) (kS KK).heap) (hbl : bs < (kS KK).heap.size) (hbA : ¬ kF KK bs) (hL : L ≤ 3072) {a b : Nat → Nat} {ca sl : Nat} (hca : ca ≤ 600000) (hsl : sl ≤ 7302250) {M : Nat → Nat → Int32} {x : mS} {i : Nat} (hi : i + 6 ≤ L) (h : Rel M x) (KE : ∀ M' x', Rel M' x' → J KK (wL (kG KK) a b) ca sl (M', x') [(0, .ref bs), (1, .ref (a 0)), (2, .ref (b 0)), (3, .int (nI i))] 1114 []) : J KK (wL (kG KK) a b) ca sl (M, x) [(0, .ref bs), (1, .ref (a 0)), (2, .ref (b 0)), (3, .int (nI i))] 624 [] := by
  obtain ⟨n, t, ru, s, B, N, h⟩ := h
  refine j_aload_n C dL_law_624 rfl rfl ?_
  refine j_aload_n C dL_law_625 rfl rfl ?_
  refine j_iload_n C dL_law_626 rfl rfl ?_
  refine j_iconst (v := 1) C dL_law_627 rfl ?_
  refine j_iadd C dL_law_628 ?_
  refine j_sld C hX hbl hbA (i + 1) dL_law_629 (nI_add i 1) (by omega) (by omega) ?_
  refine j_aload_n C dL_law_630 rfl rfl ?_
  refine j_iload_n C dL_law_631 rfl rfl ?_
  refine j_iconst (v := 2) C dL_law_632 rfl ?_
  refine j_iadd C dL_law_633 ?_
  refine j_sld C hX hbl hbA (i + 2) dL_law_634 (nI_add i 2) (by omega) (by omega) ?_
  refine j_lci C hca hsl (c_X9_giveUp _ _ a _ _ _ n t ru (fun j => tM B N j) h.1) dL_law_635 jm_RL_75 rfl ⟨by decide, by decide⟩ rfl (Nat.le_of_ble_eq_true rfl) (fun r_0 z_0 h_0 => ?_)
  refine j_aload_n C dL_law_638 rfl rfl ?_
  refine j_aload_n C dL_law_639 rfl rfl ?_
  refine j_iload_n C dL_law_640 rfl rfl ?_
  refine j_iconst (v := 1) C dL_law_641 rfl ?_
  refine j_iadd C dL_law_642 ?_
  refine j_sld C hX hbl hbA (i + 1) dL_law_643 (nI_add i 1) (by omega) (by omega) ?_
  refine j_aload_n C dL_law_644 rfl rfl ?_
  refine j_iload_n C dL_law_645 rfl rfl ?_
  refine j_iconst (v := 2) C dL_law_646 rfl ?_
  refine j_iadd C dL_law_647 ?_
  refine j_sld C hX hbl hbA (i + 2) dL_law_648 (nI_add i 2) (by omega) (by omega) ?_
  refine j_lri C hca hsl (c_X10_giveUp _ _ b _ _ _ n t ru B N h.2.1) dL_law_649 jm_RL_78 rfl ⟨by decide, by decide⟩ rfl (Nat.le_of_ble_eq_true rfl) (fun r_1 z_1 h_1 => ?_)
  have hq := q_giveUp h h_0 h_1
  refine j_icmp_eq (tgt := 1114) C dL_law_652 (by decide) (fun _ => ?_) (fun c => absurd hq.1 c)
  exact KE _ _ hq.2
set_option maxHeartbeats 4000000 in
set_option maxRecDepth 100000 in
theorem l_tells {KK : jK} (C : Cx KK yL_law.cls cL_law 4 2048 84000 600000 7302250) {bs L : Nat} {xs : Nat → Int32} (hX : va_X bs L xs (kS KK) (kS KK).heap) (hbl : bs < (kS KK).heap.size) (hbA : ¬ kF KK bs) (hL : L ≤ 3072) {a b : Nat → Nat} {ca sl : Nat} (hca : ca ≤ 600000) (hsl : sl ≤ 7302250) {M : Nat → Nat → Int32} {x : mS} {i : Nat} (hi : i + 6 ≤ L) (h : Rel M x) (KE : ∀ M' x', Rel M' x' → J KK (wL (kG KK) a b) ca sl (M', x') [(0, .ref bs), (1, .ref (a 0)), (2, .ref (b 0)), (3, .int (nI i))] 1114 []) : J KK (wL (kG KK) a b) ca sl (M, x) [(0, .ref bs), (1, .ref (a 0)), (2, .ref (b 0)), (3, .int (nI i))] 657 [] := by
  obtain ⟨n, t, ru, s, B, N, h⟩ := h
  refine j_aload_n C dL_law_657 rfl rfl ?_
  refine j_aload_n C dL_law_658 rfl rfl ?_
  refine j_iload_n C dL_law_659 rfl rfl ?_
  refine j_iconst (v := 1) C dL_law_660 rfl ?_
  refine j_iadd C dL_law_661 ?_
  refine j_sld C hX hbl hbA (i + 1) dL_law_662 (nI_add i 1) (by omega) (by omega) ?_
  refine j_aload_n C dL_law_663 rfl rfl ?_
  refine j_iload_n C dL_law_664 rfl rfl ?_
  refine j_iconst (v := 2) C dL_law_665 rfl ?_
  refine j_iadd C dL_law_666 ?_
  refine j_sld C hX hbl hbA (i + 2) dL_law_667 (nI_add i 2) (by omega) (by omega) ?_
  refine j_aload_n C dL_law_668 rfl rfl ?_
  refine j_iload_n C dL_law_669 rfl rfl ?_
  refine j_iconst (v := 3) C dL_law_670 rfl ?_
  refine j_iadd C dL_law_671 ?_
  refine j_sld C hX hbl hbA (i + 3) dL_law_672 (nI_add i 3) (by omega) (by omega) ?_
  refine j_lci C hca hsl (c_X9_tells _ _ a _ _ _ _ n t ru (fun j => tM B N j) h.1 (Rx_rw h)) dL_law_673 jm_RL_79 rfl ⟨by decide, by decide⟩ rfl (Nat.le_of_ble_eq_true rfl) (fun r_0 z_0 h_0 => ?_)
  refine j_aload_n C dL_law_676 rfl rfl ?_
  refine j_aload_n C dL_law_677 rfl rfl ?_
  refine j_iload_n C dL_law_678 rfl rfl ?_
  refine j_iconst (v := 1) C dL_law_679 rfl ?_
  refine j_iadd C dL_law_680 ?_
  refine j_sld C hX hbl hbA (i + 1) dL_law_681 (nI_add i 1) (by omega) (by omega) ?_
  refine j_aload_n C dL_law_682 rfl rfl ?_
  refine j_iload_n C dL_law_683 rfl rfl ?_
  refine j_iconst (v := 2) C dL_law_684 rfl ?_
  refine j_iadd C dL_law_685 ?_
  refine j_sld C hX hbl hbA (i + 2) dL_law_686 (nI_add i 2) (by omega) (by omega) ?_
  refine j_aload_n C dL_law_687 rfl rfl ?_
  refine j_iload_n C dL_law_688 rfl rfl ?_
  refine j_iconst (v := 3) C dL_law_689 rfl ?_
  refine j_iadd C dL_law_690 ?_
  refine j_sld C hX hbl hbA (i + 3) dL_law_691 (nI_add i 3) (by omega) (by omega) ?_
  refine j_lri C hca hsl (c_X10_tells _ _ b _ _ _ _ n t ru B N h.2.1 (Rx_40 h)) dL_law_692 jm_RL_82 rfl ⟨by decide, by decide⟩ rfl (Nat.le_of_ble_eq_true rfl) (fun r_1 z_1 h_1 => ?_)
  have hq := q_tells h h_0 h_1
  refine j_icmp_eq (tgt := 1114) C dL_law_695 (by decide) (fun _ => ?_) (fun c => absurd hq.1 c)
  exact KE _ _ hq.2
set_option maxHeartbeats 4000000 in
set_option maxRecDepth 100000 in
theorem l_film {KK : jK} (C : Cx KK yL_law.cls cL_law 4 2048 84000 600000 7302250) {bs L : Nat} {xs : Nat → Int32} (hX : va_X bs L xs (kS KK) (kS KK).heap) (hbl : bs < (kS KK).heap.size) (hbA : ¬ kF KK bs) (hL : L ≤ 3072) {a b : Nat → Nat} {ca sl : Nat} (hca : ca ≤ 600000) (hsl : sl ≤ 7302250) {M : Nat → Nat → Int32} {x : mS} {i : Nat} (hi : i + 6 ≤ L) (h : Rel M x) (KE : ∀ M' x', Rel M' x' → J KK (wL (kG KK) a b) ca sl (M', x') [(0, .ref bs), (1, .ref (a 0)), (2, .ref (b 0)), (3, .int (nI i))] 1114 []) : J KK (wL (kG KK) a b) ca sl (M, x) [(0, .ref bs), (1, .ref (a 0)), (2, .ref (b 0)), (3, .int (nI i))] 700 [] := by
  obtain ⟨n, t, ru, s, B, N, h⟩ := h
  refine j_aload_n C dL_law_700 rfl rfl ?_
  refine j_aload_n C dL_law_701 rfl rfl ?_
  refine j_iload_n C dL_law_702 rfl rfl ?_
  refine j_iconst (v := 1) C dL_law_703 rfl ?_
  refine j_iadd C dL_law_704 ?_
  refine j_sld C hX hbl hbA (i + 1) dL_law_705 (nI_add i 1) (by omega) (by omega) ?_
  refine j_aload_n C dL_law_706 rfl rfl ?_
  refine j_iload_n C dL_law_707 rfl rfl ?_
  refine j_iconst (v := 2) C dL_law_708 rfl ?_
  refine j_iadd C dL_law_709 ?_
  refine j_sld C hX hbl hbA (i + 2) dL_law_710 (nI_add i 2) (by omega) (by omega) ?_
  refine j_aload_n C dL_law_711 rfl rfl ?_
  refine j_iload_n C dL_law_712 rfl rfl ?_
  refine j_iconst (v := 3) C dL_law_713 rfl ?_
  refine j_iadd C dL_law_714 ?_
  refine j_sld C hX hbl hbA (i + 3) dL_law_715 (nI_add i 3) (by omega) (by omega) ?_
  refine j_lci C hca hsl (c_X9_film _ _ a _ _ _ _ n t ru (fun j => tM B N j) h.1) dL_law_716 jm_RL_83 rfl ⟨by decide, by decide⟩ rfl (Nat.le_of_ble_eq_true rfl) (fun r_0 z_0 h_0 => ?_)
  refine j_aload_n C dL_law_719 rfl rfl ?_
  refine j_aload_n C dL_law_720 rfl rfl ?_
  refine j_iload_n C dL_law_721 rfl rfl ?_
  refine j_iconst (v := 1) C dL_law_722 rfl ?_
  refine j_iadd C dL_law_723 ?_
  refine j_sld C hX hbl hbA (i + 1) dL_law_724 (nI_add i 1) (by omega) (by omega) ?_
  refine j_aload_n C dL_law_725 rfl rfl ?_
  refine j_iload_n C dL_law_726 rfl rfl ?_
  refine j_iconst (v := 2) C dL_law_727 rfl ?_
  refine j_iadd C dL_law_728 ?_
  refine j_sld C hX hbl hbA (i + 2) dL_law_729 (nI_add i 2) (by omega) (by omega) ?_
  refine j_aload_n C dL_law_730 rfl rfl ?_
  refine j_iload_n C dL_law_731 rfl rfl ?_
  refine j_iconst (v := 3) C dL_law_732 rfl ?_
  refine j_iadd C dL_law_733 ?_
  refine j_sld C hX hbl hbA (i + 3) dL_law_734 (nI_add i 3) (by omega) (by omega) ?_
  refine j_lri C hca hsl (c_X10_film _ _ b _ _ _ _ n t ru B N h.2.1) dL_law_735 jm_RL_86 rfl ⟨by decide, by decide⟩ rfl (Nat.le_of_ble_eq_true rfl) (fun r_1 z_1 h_1 => ?_)
  have hq := q_film h h_0 h_1
  refine j_icmp_eq (tgt := 1114) C dL_law_738 (by decide) (fun _ => ?_) (fun c => absurd hq.1 c)
  exact KE _ _ hq.2
set_option maxHeartbeats 4000000 in
set_option maxRecDepth 100000 in
theorem l_lot {KK : jK} (C : Cx KK yL_law.cls cL_law 4 2048 84000 600000 7302250) {bs L : Nat} {xs : Nat → Int32} (hX : va_X bs L xs (kS KK) (kS KK).heap) (hbl : bs < (kS KK).heap.size) (hbA : ¬ kF KK bs) (hL : L ≤ 3072) {a b : Nat → Nat} {ca sl : Nat} (hca : ca ≤ 600000) (hsl : sl ≤ 7302250) {M : Nat → Nat → Int32} {x : mS} {i : Nat} (hi : i + 6 ≤ L) (h : Rel M x) (KE : ∀ M' x', Rel M' x' → J KK (wL (kG KK) a b) ca sl (M', x') [(0, .ref bs), (1, .ref (a 0)), (2, .ref (b 0)), (3, .int (nI i))] 1114 []) : J KK (wL (kG KK) a b) ca sl (M, x) [(0, .ref bs), (1, .ref (a 0)), (2, .ref (b 0)), (3, .int (nI i))] 743 [] := by
  obtain ⟨n, t, ru, s, B, N, h⟩ := h
  refine j_aload_n C dL_law_743 rfl rfl ?_
  refine j_aload_n C dL_law_744 rfl rfl ?_
  refine j_iload_n C dL_law_745 rfl rfl ?_
  refine j_iconst (v := 1) C dL_law_746 rfl ?_
  refine j_iadd C dL_law_747 ?_
  refine j_sld C hX hbl hbA (i + 1) dL_law_748 (nI_add i 1) (by omega) (by omega) ?_
  refine j_aload_n C dL_law_749 rfl rfl ?_
  refine j_iload_n C dL_law_750 rfl rfl ?_
  refine j_iconst (v := 2) C dL_law_751 rfl ?_
  refine j_iadd C dL_law_752 ?_
  refine j_sld C hX hbl hbA (i + 2) dL_law_753 (nI_add i 2) (by omega) (by omega) ?_
  refine j_lci C hca hsl (c_X9_lot _ _ a _ _ _ n t ru (fun j => tM B N j) h.1) dL_law_754 jm_RL_87 rfl ⟨by decide, by decide⟩ rfl (Nat.le_of_ble_eq_true rfl) (fun r_0 z_0 h_0 => ?_)
  refine j_aload_n C dL_law_757 rfl rfl ?_
  refine j_aload_n C dL_law_758 rfl rfl ?_
  refine j_iload_n C dL_law_759 rfl rfl ?_
  refine j_iconst (v := 1) C dL_law_760 rfl ?_
  refine j_iadd C dL_law_761 ?_
  refine j_sld C hX hbl hbA (i + 1) dL_law_762 (nI_add i 1) (by omega) (by omega) ?_
  refine j_aload_n C dL_law_763 rfl rfl ?_
  refine j_iload_n C dL_law_764 rfl rfl ?_
  refine j_iconst (v := 2) C dL_law_765 rfl ?_
  refine j_iadd C dL_law_766 ?_
  refine j_sld C hX hbl hbA (i + 2) dL_law_767 (nI_add i 2) (by omega) (by omega) ?_
  refine j_lri C hca hsl (c_X10_lot _ _ b _ _ _ n t ru B N h.2.1) dL_law_768 jm_RL_90 rfl ⟨by decide, by decide⟩ rfl (Nat.le_of_ble_eq_true rfl) (fun r_1 z_1 h_1 => ?_)
  have hq := q_lot h h_0 h_1
  refine j_icmp_eq (tgt := 1114) C dL_law_771 (by decide) (fun _ => ?_) (fun c => absurd hq.1 c)
  exact KE _ _ hq.2
set_option maxHeartbeats 4000000 in
set_option maxRecDepth 100000 in
theorem l_chance {KK : jK} (C : Cx KK yL_law.cls cL_law 4 2048 84000 600000 7302250) {bs L : Nat} {xs : Nat → Int32} (hX : va_X bs L xs (kS KK) (kS KK).heap) (hbl : bs < (kS KK).heap.size) (hbA : ¬ kF KK bs) (hL : L ≤ 3072) {a b : Nat → Nat} {ca sl : Nat} (hca : ca ≤ 600000) (hsl : sl ≤ 7302250) {M : Nat → Nat → Int32} {x : mS} {i : Nat} (hi : i + 6 ≤ L) (h : Rel M x) (KE : ∀ M' x', Rel M' x' → J KK (wL (kG KK) a b) ca sl (M', x') [(0, .ref bs), (1, .ref (a 0)), (2, .ref (b 0)), (3, .int (nI i))] 1114 []) : J KK (wL (kG KK) a b) ca sl (M, x) [(0, .ref bs), (1, .ref (a 0)), (2, .ref (b 0)), (3, .int (nI i))] 776 [] := by
  obtain ⟨n, t, ru, s, B, N, h⟩ := h
  refine j_aload_n C dL_law_776 rfl rfl ?_
  refine j_aload_n C dL_law_777 rfl rfl ?_
  refine j_iload_n C dL_law_778 rfl rfl ?_
  refine j_iconst (v := 1) C dL_law_779 rfl ?_
  refine j_iadd C dL_law_780 ?_
  refine j_sld C hX hbl hbA (i + 1) dL_law_781 (nI_add i 1) (by omega) (by omega) ?_
  refine j_aload_n C dL_law_782 rfl rfl ?_
  refine j_iload_n C dL_law_783 rfl rfl ?_
  refine j_iconst (v := 2) C dL_law_784 rfl ?_
  refine j_iadd C dL_law_785 ?_
  refine j_sld C hX hbl hbA (i + 2) dL_law_786 (nI_add i 2) (by omega) (by omega) ?_
  refine j_aload_n C dL_law_787 rfl rfl ?_
  refine j_iload_n C dL_law_788 rfl rfl ?_
  refine j_iconst (v := 3) C dL_law_789 rfl ?_
  refine j_iadd C dL_law_790 ?_
  refine j_sld C hX hbl hbA (i + 3) dL_law_791 (nI_add i 3) (by omega) (by omega) ?_
  refine j_aload_n C dL_law_792 rfl rfl ?_
  refine j_iload_n C dL_law_793 rfl rfl ?_
  refine j_iconst (v := 4) C dL_law_794 rfl ?_
  refine j_iadd C dL_law_795 ?_
  refine j_sld C hX hbl hbA (i + 4) dL_law_796 (nI_add i 4) (by omega) (by omega) ?_
  refine j_lcl C hca hsl (c_X9_chance _ _ a _ _ _ _ _ n t ru (fun j => tM B N j) h.1) dL_law_797 jm_RL_91 rfl ⟨by decide, by decide⟩ rfl (Nat.le_of_ble_eq_true rfl) (fun r_0 z_0 h_0 => ?_)
  refine j_aload_n C dL_law_800 rfl rfl ?_
  refine j_aload_n C dL_law_801 rfl rfl ?_
  refine j_iload_n C dL_law_802 rfl rfl ?_
  refine j_iconst (v := 1) C dL_law_803 rfl ?_
  refine j_iadd C dL_law_804 ?_
  refine j_sld C hX hbl hbA (i + 1) dL_law_805 (nI_add i 1) (by omega) (by omega) ?_
  refine j_aload_n C dL_law_806 rfl rfl ?_
  refine j_iload_n C dL_law_807 rfl rfl ?_
  refine j_iconst (v := 2) C dL_law_808 rfl ?_
  refine j_iadd C dL_law_809 ?_
  refine j_sld C hX hbl hbA (i + 2) dL_law_810 (nI_add i 2) (by omega) (by omega) ?_
  refine j_aload_n C dL_law_811 rfl rfl ?_
  refine j_iload_n C dL_law_812 rfl rfl ?_
  refine j_iconst (v := 3) C dL_law_813 rfl ?_
  refine j_iadd C dL_law_814 ?_
  refine j_sld C hX hbl hbA (i + 3) dL_law_815 (nI_add i 3) (by omega) (by omega) ?_
  refine j_aload_n C dL_law_816 rfl rfl ?_
  refine j_iload_n C dL_law_817 rfl rfl ?_
  refine j_iconst (v := 4) C dL_law_818 rfl ?_
  refine j_iadd C dL_law_819 ?_
  refine j_sld C hX hbl hbA (i + 4) dL_law_820 (nI_add i 4) (by omega) (by omega) ?_
  refine j_lrl C hca hsl (c_X10_chance _ _ b _ _ _ _ _ n t ru B N h.2.1) dL_law_821 jm_RL_95 rfl ⟨by decide, by decide⟩ rfl (Nat.le_of_ble_eq_true rfl) (fun r_1 z_1 h_1 => ?_)
  refine j_lcmp C dL_law_824 ?_
  have hq := q_chance h h_0 h_1
  refine j_if_eq (tgt := 1114) C dL_law_825 (by decide) (fun _ => ?_) (fun c => by rw [lg_cmp_eq] at c; exact absurd hq.1 c)
  exact KE _ _ hq.2
set_option maxHeartbeats 4000000 in
set_option maxRecDepth 100000 in
theorem l_image {KK : jK} (C : Cx KK yL_law.cls cL_law 4 2048 84000 600000 7302250) {bs L : Nat} {xs : Nat → Int32} (hX : va_X bs L xs (kS KK) (kS KK).heap) (hbl : bs < (kS KK).heap.size) (hbA : ¬ kF KK bs) (hL : L ≤ 3072) {a b : Nat → Nat} {ca sl : Nat} (hca : ca ≤ 600000) (hsl : sl ≤ 7302250) {M : Nat → Nat → Int32} {x : mS} {i : Nat} (hi : i + 6 ≤ L) (h : Rel M x) (KE : ∀ M' x', Rel M' x' → J KK (wL (kG KK) a b) ca sl (M', x') [(0, .ref bs), (1, .ref (a 0)), (2, .ref (b 0)), (3, .int (nI i))] 1114 []) : J KK (wL (kG KK) a b) ca sl (M, x) [(0, .ref bs), (1, .ref (a 0)), (2, .ref (b 0)), (3, .int (nI i))] 830 [] := by
  obtain ⟨n, t, ru, s, B, N, h⟩ := h
  refine j_aload_n C dL_law_830 rfl rfl ?_
  refine j_lci C hca hsl (c_X9_image _ _ a _  n h.1.1.1 h.1.1.2) dL_law_831 jm_RL_96 rfl ⟨by decide, by decide⟩ rfl (Nat.le_of_ble_eq_true rfl) (fun r_0 z_0 h_0 => ?_)
  refine j_aload_n C dL_law_834 rfl rfl ?_
  refine j_lri C hca hsl (c_X10_image _ _ b _  ) dL_law_835 jm_RL_99 rfl ⟨by decide, by decide⟩ rfl (Nat.le_of_ble_eq_true rfl) (fun r_1 z_1 h_1 => ?_)
  have hq := q_image h h_0 h_1
  refine j_icmp_eq (tgt := 1114) C dL_law_838 (by decide) (fun _ => ?_) (fun c => absurd hq.1 c)
  exact KE _ _ hq.2
set_option maxHeartbeats 4000000 in
set_option maxRecDepth 100000 in
theorem l_back {KK : jK} (C : Cx KK yL_law.cls cL_law 4 2048 84000 600000 7302250) {bs L : Nat} {xs : Nat → Int32} (hX : va_X bs L xs (kS KK) (kS KK).heap) (hbl : bs < (kS KK).heap.size) (hbA : ¬ kF KK bs) (hL : L ≤ 3072) {a b : Nat → Nat} {ca sl : Nat} (hca : ca ≤ 600000) (hsl : sl ≤ 7302250) {M : Nat → Nat → Int32} {x : mS} {i : Nat} (hi : i + 6 ≤ L) (h : Rel M x) (KE : ∀ M' x', Rel M' x' → J KK (wL (kG KK) a b) ca sl (M', x') [(0, .ref bs), (1, .ref (a 0)), (2, .ref (b 0)), (3, .int (nI i))] 1114 []) : J KK (wL (kG KK) a b) ca sl (M, x) [(0, .ref bs), (1, .ref (a 0)), (2, .ref (b 0)), (3, .int (nI i))] 843 [] := by
  obtain ⟨n, t, ru, s, B, N, h⟩ := h
  obtain ⟨c, hc6, hc, -⟩ := h.2.2.2.2.2.2.2
  refine j_aload_n C dL_law_843 rfl rfl ?_
  refine j_lci C hca hsl (c_X9_back _ _ a _  c hc hc6) dL_law_844 jm_RL_100 rfl ⟨by decide, by decide⟩ rfl (Nat.le_of_ble_eq_true rfl) (fun r_0 z_0 h_0 => ?_)
  refine j_aload_n C dL_law_847 rfl rfl ?_
  refine j_lri C hca hsl (c_X10_back _ _ b _  ) dL_law_848 jm_RL_103 rfl ⟨by decide, by decide⟩ rfl (Nat.le_of_ble_eq_true rfl) (fun r_1 z_1 h_1 => ?_)
  have hq := q_back h hc hc6 h_0 h_1
  refine j_icmp_eq (tgt := 1114) C dL_law_851 (by decide) (fun _ => ?_) (fun c => absurd hq.1 c)
  exact KE _ _ hq.2
set_option maxHeartbeats 4000000 in
set_option maxRecDepth 100000 in
theorem l_count {KK : jK} (C : Cx KK yL_law.cls cL_law 4 2048 84000 600000 7302250) {bs L : Nat} {xs : Nat → Int32} (hX : va_X bs L xs (kS KK) (kS KK).heap) (hbl : bs < (kS KK).heap.size) (hbA : ¬ kF KK bs) (hL : L ≤ 3072) {a b : Nat → Nat} {ca sl : Nat} (hca : ca ≤ 600000) (hsl : sl ≤ 7302250) {M : Nat → Nat → Int32} {x : mS} {i : Nat} (hi : i + 6 ≤ L) (h : Rel M x) (KE : ∀ M' x', Rel M' x' → J KK (wL (kG KK) a b) ca sl (M', x') [(0, .ref bs), (1, .ref (a 0)), (2, .ref (b 0)), (3, .int (nI i))] 1114 []) : J KK (wL (kG KK) a b) ca sl (M, x) [(0, .ref bs), (1, .ref (a 0)), (2, .ref (b 0)), (3, .int (nI i))] 856 [] := by
  obtain ⟨n, t, ru, s, B, N, h⟩ := h
  refine j_aload_n C dL_law_856 rfl rfl ?_
  refine j_aload_n C dL_law_857 rfl rfl ?_
  refine j_iload_n C dL_law_858 rfl rfl ?_
  refine j_iconst (v := 1) C dL_law_859 rfl ?_
  refine j_iadd C dL_law_860 ?_
  refine j_sld C hX hbl hbA (i + 1) dL_law_861 (nI_add i 1) (by omega) (by omega) ?_
  refine j_lci C hca hsl (c_X9_count _ _ a _ _ ) dL_law_862 jm_RL_104 rfl ⟨by decide, by decide⟩ rfl (Nat.le_of_ble_eq_true rfl) (fun r_0 z_0 h_0 => ?_)
  refine j_aload_n C dL_law_865 rfl rfl ?_
  refine j_aload_n C dL_law_866 rfl rfl ?_
  refine j_iload_n C dL_law_867 rfl rfl ?_
  refine j_iconst (v := 1) C dL_law_868 rfl ?_
  refine j_iadd C dL_law_869 ?_
  refine j_sld C hX hbl hbA (i + 1) dL_law_870 (nI_add i 1) (by omega) (by omega) ?_
  refine j_lri C hca hsl (c_X10_count _ _ b _ _ ) dL_law_871 jm_RL_107 rfl ⟨by decide, by decide⟩ rfl (Nat.le_of_ble_eq_true rfl) (fun r_1 z_1 h_1 => ?_)
  have hq := q_count h h_0 h_1
  refine j_icmp_eq (tgt := 1114) C dL_law_874 (by decide) (fun _ => ?_) (fun c => absurd hq.1 c)
  exact KE _ _ hq.2
set_option maxHeartbeats 4000000 in
set_option maxRecDepth 100000 in
theorem l_sheet {KK : jK} (C : Cx KK yL_law.cls cL_law 4 2048 84000 600000 7302250) {bs L : Nat} {xs : Nat → Int32} (hX : va_X bs L xs (kS KK) (kS KK).heap) (hbl : bs < (kS KK).heap.size) (hbA : ¬ kF KK bs) (hL : L ≤ 3072) {a b : Nat → Nat} {ca sl : Nat} (hca : ca ≤ 600000) (hsl : sl ≤ 7302250) {M : Nat → Nat → Int32} {x : mS} {i : Nat} (hi : i + 6 ≤ L) (h : Rel M x) (KE : ∀ M' x', Rel M' x' → J KK (wL (kG KK) a b) ca sl (M', x') [(0, .ref bs), (1, .ref (a 0)), (2, .ref (b 0)), (3, .int (nI i))] 1114 []) : J KK (wL (kG KK) a b) ca sl (M, x) [(0, .ref bs), (1, .ref (a 0)), (2, .ref (b 0)), (3, .int (nI i))] 879 [] := by
  obtain ⟨n, t, ru, s, B, N, h⟩ := h
  refine j_aload_n C dL_law_879 rfl rfl ?_
  refine j_aload_n C dL_law_880 rfl rfl ?_
  refine j_iload_n C dL_law_881 rfl rfl ?_
  refine j_iconst (v := 1) C dL_law_882 rfl ?_
  refine j_iadd C dL_law_883 ?_
  refine j_sld C hX hbl hbA (i + 1) dL_law_884 (nI_add i 1) (by omega) (by omega) ?_
  refine j_aload_n C dL_law_885 rfl rfl ?_
  refine j_iload_n C dL_law_886 rfl rfl ?_
  refine j_iconst (v := 2) C dL_law_887 rfl ?_
  refine j_iadd C dL_law_888 ?_
  refine j_sld C hX hbl hbA (i + 2) dL_law_889 (nI_add i 2) (by omega) (by omega) ?_
  refine j_aload_n C dL_law_890 rfl rfl ?_
  refine j_iload_n C dL_law_891 rfl rfl ?_
  refine j_iconst (v := 3) C dL_law_892 rfl ?_
  refine j_iadd C dL_law_893 ?_
  refine j_sld C hX hbl hbA (i + 3) dL_law_894 (nI_add i 3) (by omega) (by omega) ?_
  refine j_lci C hca hsl (c_X9_sheet _ _ a _ _ _ _ ) dL_law_895 jm_RL_108 rfl ⟨by decide, by decide⟩ rfl (Nat.le_of_ble_eq_true rfl) (fun r_0 z_0 h_0 => ?_)
  refine j_aload_n C dL_law_898 rfl rfl ?_
  refine j_aload_n C dL_law_899 rfl rfl ?_
  refine j_iload_n C dL_law_900 rfl rfl ?_
  refine j_iconst (v := 1) C dL_law_901 rfl ?_
  refine j_iadd C dL_law_902 ?_
  refine j_sld C hX hbl hbA (i + 1) dL_law_903 (nI_add i 1) (by omega) (by omega) ?_
  refine j_aload_n C dL_law_904 rfl rfl ?_
  refine j_iload_n C dL_law_905 rfl rfl ?_
  refine j_iconst (v := 2) C dL_law_906 rfl ?_
  refine j_iadd C dL_law_907 ?_
  refine j_sld C hX hbl hbA (i + 2) dL_law_908 (nI_add i 2) (by omega) (by omega) ?_
  refine j_aload_n C dL_law_909 rfl rfl ?_
  refine j_iload_n C dL_law_910 rfl rfl ?_
  refine j_iconst (v := 3) C dL_law_911 rfl ?_
  refine j_iadd C dL_law_912 ?_
  refine j_sld C hX hbl hbA (i + 3) dL_law_913 (nI_add i 3) (by omega) (by omega) ?_
  refine j_lri C hca hsl (c_X10_sheet _ _ b _ _ _ _ ) dL_law_914 jm_RL_111 rfl ⟨by decide, by decide⟩ rfl (Nat.le_of_ble_eq_true rfl) (fun r_1 z_1 h_1 => ?_)
  have hq := q_sheet h h_0 h_1
  refine j_icmp_eq (tgt := 1114) C dL_law_917 (by decide) (fun _ => ?_) (fun c => absurd hq.1 c)
  exact KE _ _ hq.2
set_option maxHeartbeats 4000000 in
set_option maxRecDepth 100000 in
theorem l_cell {KK : jK} (C : Cx KK yL_law.cls cL_law 4 2048 84000 600000 7302250) {bs L : Nat} {xs : Nat → Int32} (hX : va_X bs L xs (kS KK) (kS KK).heap) (hbl : bs < (kS KK).heap.size) (hbA : ¬ kF KK bs) (hL : L ≤ 3072) {a b : Nat → Nat} {ca sl : Nat} (hca : ca ≤ 600000) (hsl : sl ≤ 7302250) {M : Nat → Nat → Int32} {x : mS} {i : Nat} (hi : i + 6 ≤ L) (h : Rel M x) (KE : ∀ M' x', Rel M' x' → J KK (wL (kG KK) a b) ca sl (M', x') [(0, .ref bs), (1, .ref (a 0)), (2, .ref (b 0)), (3, .int (nI i))] 1114 []) : J KK (wL (kG KK) a b) ca sl (M, x) [(0, .ref bs), (1, .ref (a 0)), (2, .ref (b 0)), (3, .int (nI i))] 922 [] := by
  obtain ⟨n, t, ru, s, B, N, h⟩ := h
  refine j_aload_n C dL_law_922 rfl rfl ?_
  refine j_aload_n C dL_law_923 rfl rfl ?_
  refine j_iload_n C dL_law_924 rfl rfl ?_
  refine j_iconst (v := 1) C dL_law_925 rfl ?_
  refine j_iadd C dL_law_926 ?_
  refine j_sld C hX hbl hbA (i + 1) dL_law_927 (nI_add i 1) (by omega) (by omega) ?_
  refine j_aload_n C dL_law_928 rfl rfl ?_
  refine j_iload_n C dL_law_929 rfl rfl ?_
  refine j_iconst (v := 2) C dL_law_930 rfl ?_
  refine j_iadd C dL_law_931 ?_
  refine j_sld C hX hbl hbA (i + 2) dL_law_932 (nI_add i 2) (by omega) (by omega) ?_
  refine j_aload_n C dL_law_933 rfl rfl ?_
  refine j_iload_n C dL_law_934 rfl rfl ?_
  refine j_iconst (v := 3) C dL_law_935 rfl ?_
  refine j_iadd C dL_law_936 ?_
  refine j_sld C hX hbl hbA (i + 3) dL_law_937 (nI_add i 3) (by omega) (by omega) ?_
  refine j_lci C hca hsl (c_X9_cell _ _ a _ _ _ _ ) dL_law_938 jm_RL_112 rfl ⟨by decide, by decide⟩ rfl (Nat.le_of_ble_eq_true rfl) (fun r_0 z_0 h_0 => ?_)
  refine j_aload_n C dL_law_941 rfl rfl ?_
  refine j_aload_n C dL_law_942 rfl rfl ?_
  refine j_iload_n C dL_law_943 rfl rfl ?_
  refine j_iconst (v := 1) C dL_law_944 rfl ?_
  refine j_iadd C dL_law_945 ?_
  refine j_sld C hX hbl hbA (i + 1) dL_law_946 (nI_add i 1) (by omega) (by omega) ?_
  refine j_aload_n C dL_law_947 rfl rfl ?_
  refine j_iload_n C dL_law_948 rfl rfl ?_
  refine j_iconst (v := 2) C dL_law_949 rfl ?_
  refine j_iadd C dL_law_950 ?_
  refine j_sld C hX hbl hbA (i + 2) dL_law_951 (nI_add i 2) (by omega) (by omega) ?_
  refine j_aload_n C dL_law_952 rfl rfl ?_
  refine j_iload_n C dL_law_953 rfl rfl ?_
  refine j_iconst (v := 3) C dL_law_954 rfl ?_
  refine j_iadd C dL_law_955 ?_
  refine j_sld C hX hbl hbA (i + 3) dL_law_956 (nI_add i 3) (by omega) (by omega) ?_
  refine j_lri C hca hsl (c_X10_cell _ _ b _ _ _ _ (Rx_40 h)) dL_law_957 jm_RL_115 rfl ⟨by decide, by decide⟩ rfl (Nat.le_of_ble_eq_true rfl) (fun r_1 z_1 h_1 => ?_)
  have hq := q_cell h h_0 h_1
  refine j_icmp_eq (tgt := 1114) C dL_law_960 (by decide) (fun _ => ?_) (fun c => absurd hq.1 c)
  exact KE _ _ hq.2
set_option maxHeartbeats 4000000 in
set_option maxRecDepth 100000 in
theorem l_copy {KK : jK} (C : Cx KK yL_law.cls cL_law 4 2048 84000 600000 7302250) {bs L : Nat} {xs : Nat → Int32} (hX : va_X bs L xs (kS KK) (kS KK).heap) (hbl : bs < (kS KK).heap.size) (hbA : ¬ kF KK bs) (hL : L ≤ 3072) {a b : Nat → Nat} {ca sl : Nat} (hca : ca ≤ 600000) (hsl : sl ≤ 7302250) {M : Nat → Nat → Int32} {x : mS} {i : Nat} (hi : i + 6 ≤ L) (h : Rel M x) (KE : ∀ M' x', Rel M' x' → J KK (wL (kG KK) a b) ca sl (M', x') [(0, .ref bs), (1, .ref (a 0)), (2, .ref (b 0)), (3, .int (nI i))] 1114 []) : J KK (wL (kG KK) a b) ca sl (M, x) [(0, .ref bs), (1, .ref (a 0)), (2, .ref (b 0)), (3, .int (nI i))] 965 [] := by
  obtain ⟨n, t, ru, s, B, N, h⟩ := h
  refine j_aload_n C dL_law_965 rfl rfl ?_
  refine j_aload_n C dL_law_966 rfl rfl ?_
  refine j_iload_n C dL_law_967 rfl rfl ?_
  refine j_iconst (v := 1) C dL_law_968 rfl ?_
  refine j_iadd C dL_law_969 ?_
  refine j_sld C hX hbl hbA (i + 1) dL_law_970 (nI_add i 1) (by omega) (by omega) ?_
  refine j_aload_n C dL_law_971 rfl rfl ?_
  refine j_iload_n C dL_law_972 rfl rfl ?_
  refine j_iconst (v := 2) C dL_law_973 rfl ?_
  refine j_iadd C dL_law_974 ?_
  refine j_sld C hX hbl hbA (i + 2) dL_law_975 (nI_add i 2) (by omega) (by omega) ?_
  refine j_aload_n C dL_law_976 rfl rfl ?_
  refine j_iload_n C dL_law_977 rfl rfl ?_
  refine j_iconst (v := 3) C dL_law_978 rfl ?_
  refine j_iadd C dL_law_979 ?_
  refine j_sld C hX hbl hbA (i + 3) dL_law_980 (nI_add i 3) (by omega) (by omega) ?_
  refine j_aload_n C dL_law_981 rfl rfl ?_
  refine j_iload_n C dL_law_982 rfl rfl ?_
  refine j_iconst (v := 4) C dL_law_983 rfl ?_
  refine j_iadd C dL_law_984 ?_
  refine j_sld C hX hbl hbA (i + 4) dL_law_985 (nI_add i 4) (by omega) (by omega) ?_
  refine j_aload_n C dL_law_986 rfl rfl ?_
  refine j_iload_n C dL_law_987 rfl rfl ?_
  refine j_iconst (v := 5) C dL_law_988 rfl ?_
  refine j_iadd C dL_law_989 ?_
  refine j_sld C hX hbl hbA (i + 5) dL_law_990 (nI_add i 5) (by omega) (by omega) ?_
  refine j_lci C hca hsl (c_X9_copy _ _ a _ _ _ _ _ _ ) dL_law_991 jm_RL_116 rfl ⟨by decide, by decide⟩ rfl (Nat.le_of_ble_eq_true rfl) (fun r_0 z_0 h_0 => ?_)
  refine j_aload_n C dL_law_994 rfl rfl ?_
  refine j_aload_n C dL_law_995 rfl rfl ?_
  refine j_iload_n C dL_law_996 rfl rfl ?_
  refine j_iconst (v := 1) C dL_law_997 rfl ?_
  refine j_iadd C dL_law_998 ?_
  refine j_sld C hX hbl hbA (i + 1) dL_law_999 (nI_add i 1) (by omega) (by omega) ?_
  refine j_aload_n C dL_law_1000 rfl rfl ?_
  refine j_iload_n C dL_law_1001 rfl rfl ?_
  refine j_iconst (v := 2) C dL_law_1002 rfl ?_
  refine j_iadd C dL_law_1003 ?_
  refine j_sld C hX hbl hbA (i + 2) dL_law_1004 (nI_add i 2) (by omega) (by omega) ?_
  refine j_aload_n C dL_law_1005 rfl rfl ?_
  refine j_iload_n C dL_law_1006 rfl rfl ?_
  refine j_iconst (v := 3) C dL_law_1007 rfl ?_
  refine j_iadd C dL_law_1008 ?_
  refine j_sld C hX hbl hbA (i + 3) dL_law_1009 (nI_add i 3) (by omega) (by omega) ?_
  refine j_aload_n C dL_law_1010 rfl rfl ?_
  refine j_iload_n C dL_law_1011 rfl rfl ?_
  refine j_iconst (v := 4) C dL_law_1012 rfl ?_
  refine j_iadd C dL_law_1013 ?_
  refine j_sld C hX hbl hbA (i + 4) dL_law_1014 (nI_add i 4) (by omega) (by omega) ?_
  refine j_aload_n C dL_law_1015 rfl rfl ?_
  refine j_iload_n C dL_law_1016 rfl rfl ?_
  refine j_iconst (v := 5) C dL_law_1017 rfl ?_
  refine j_iadd C dL_law_1018 ?_
  refine j_sld C hX hbl hbA (i + 5) dL_law_1019 (nI_add i 5) (by omega) (by omega) ?_
  refine j_lri C hca hsl (c_X10_copy _ _ b _ _ _ _ _ _ (Rx_40 h)) dL_law_1020 jm_RL_120 rfl ⟨by decide, by decide⟩ rfl (Nat.le_of_ble_eq_true rfl) (fun r_1 z_1 h_1 => ?_)
  have hq := q_copy h h_0 h_1
  refine j_icmp_eq (tgt := 1114) C dL_law_1023 (by decide) (fun _ => ?_) (fun c => absurd hq.1 c)
  exact KE _ _ hq.2
set_option maxHeartbeats 4000000 in
set_option maxRecDepth 100000 in
theorem l_gloves {KK : jK} (C : Cx KK yL_law.cls cL_law 4 2048 84000 600000 7302250) {bs L : Nat} {xs : Nat → Int32} (hX : va_X bs L xs (kS KK) (kS KK).heap) (hbl : bs < (kS KK).heap.size) (hbA : ¬ kF KK bs) (hL : L ≤ 3072) {a b : Nat → Nat} {ca sl : Nat} (hca : ca ≤ 600000) (hsl : sl ≤ 7302250) {M : Nat → Nat → Int32} {x : mS} {i : Nat} (hi : i + 6 ≤ L) (h : Rel M x) (KE : ∀ M' x', Rel M' x' → J KK (wL (kG KK) a b) ca sl (M', x') [(0, .ref bs), (1, .ref (a 0)), (2, .ref (b 0)), (3, .int (nI i))] 1114 []) : J KK (wL (kG KK) a b) ca sl (M, x) [(0, .ref bs), (1, .ref (a 0)), (2, .ref (b 0)), (3, .int (nI i))] 1028 [] := by
  obtain ⟨n, t, ru, s, B, N, h⟩ := h
  refine j_aload_n C dL_law_1028 rfl rfl ?_
  refine j_aload_n C dL_law_1029 rfl rfl ?_
  refine j_iload_n C dL_law_1030 rfl rfl ?_
  refine j_iconst (v := 1) C dL_law_1031 rfl ?_
  refine j_iadd C dL_law_1032 ?_
  refine j_sld C hX hbl hbA (i + 1) dL_law_1033 (nI_add i 1) (by omega) (by omega) ?_
  refine j_aload_n C dL_law_1034 rfl rfl ?_
  refine j_iload_n C dL_law_1035 rfl rfl ?_
  refine j_iconst (v := 2) C dL_law_1036 rfl ?_
  refine j_iadd C dL_law_1037 ?_
  refine j_sld C hX hbl hbA (i + 2) dL_law_1038 (nI_add i 2) (by omega) (by omega) ?_
  refine j_aload_n C dL_law_1039 rfl rfl ?_
  refine j_iload_n C dL_law_1040 rfl rfl ?_
  refine j_iconst (v := 3) C dL_law_1041 rfl ?_
  refine j_iadd C dL_law_1042 ?_
  refine j_sld C hX hbl hbA (i + 3) dL_law_1043 (nI_add i 3) (by omega) (by omega) ?_
  refine j_aload_n C dL_law_1044 rfl rfl ?_
  refine j_iload_n C dL_law_1045 rfl rfl ?_
  refine j_iconst (v := 4) C dL_law_1046 rfl ?_
  refine j_iadd C dL_law_1047 ?_
  refine j_sld C hX hbl hbA (i + 4) dL_law_1048 (nI_add i 4) (by omega) (by omega) ?_
  refine j_lci C hca hsl (c_X9_gloves _ _ a _ _ _ _ _ n h.1.1.1 h.1.1.2 (Rx_le h)) dL_law_1049 jm_RL_121 rfl ⟨by decide, by decide⟩ rfl (Nat.le_of_ble_eq_true rfl) (fun r_0 z_0 h_0 => ?_)
  refine j_aload_n C dL_law_1052 rfl rfl ?_
  refine j_aload_n C dL_law_1053 rfl rfl ?_
  refine j_iload_n C dL_law_1054 rfl rfl ?_
  refine j_iconst (v := 1) C dL_law_1055 rfl ?_
  refine j_iadd C dL_law_1056 ?_
  refine j_sld C hX hbl hbA (i + 1) dL_law_1057 (nI_add i 1) (by omega) (by omega) ?_
  refine j_aload_n C dL_law_1058 rfl rfl ?_
  refine j_iload_n C dL_law_1059 rfl rfl ?_
  refine j_iconst (v := 2) C dL_law_1060 rfl ?_
  refine j_iadd C dL_law_1061 ?_
  refine j_sld C hX hbl hbA (i + 2) dL_law_1062 (nI_add i 2) (by omega) (by omega) ?_
  refine j_aload_n C dL_law_1063 rfl rfl ?_
  refine j_iload_n C dL_law_1064 rfl rfl ?_
  refine j_iconst (v := 3) C dL_law_1065 rfl ?_
  refine j_iadd C dL_law_1066 ?_
  refine j_sld C hX hbl hbA (i + 3) dL_law_1067 (nI_add i 3) (by omega) (by omega) ?_
  refine j_aload_n C dL_law_1068 rfl rfl ?_
  refine j_iload_n C dL_law_1069 rfl rfl ?_
  refine j_iconst (v := 4) C dL_law_1070 rfl ?_
  refine j_iadd C dL_law_1071 ?_
  refine j_sld C hX hbl hbA (i + 4) dL_law_1072 (nI_add i 4) (by omega) (by omega) ?_
  refine j_lri C hca hsl (c_X10_gloves _ _ b _ _ _ _ _ n h.2.1.1 (Rx_40 h)) dL_law_1073 jm_RL_125 rfl ⟨by decide, by decide⟩ rfl (Nat.le_of_ble_eq_true rfl) (fun r_1 z_1 h_1 => ?_)
  have hq := q_gloves h h_0 h_1
  refine j_icmp_eq (tgt := 1114) C dL_law_1076 (by decide) (fun _ => ?_) (fun c => absurd hq.1 c)
  exact KE _ _ hq.2
set_option maxHeartbeats 4000000 in
set_option maxRecDepth 100000 in
theorem l_taken {KK : jK} (C : Cx KK yL_law.cls cL_law 4 2048 84000 600000 7302250) {bs L : Nat} {xs : Nat → Int32} (hX : va_X bs L xs (kS KK) (kS KK).heap) (hbl : bs < (kS KK).heap.size) (hbA : ¬ kF KK bs) (hL : L ≤ 3072) {a b : Nat → Nat} {ca sl : Nat} (hca : ca ≤ 600000) (hsl : sl ≤ 7302250) {M : Nat → Nat → Int32} {x : mS} {i : Nat} (hi : i + 6 ≤ L) (h : Rel M x) (KE : ∀ M' x', Rel M' x' → J KK (wL (kG KK) a b) ca sl (M', x') [(0, .ref bs), (1, .ref (a 0)), (2, .ref (b 0)), (3, .int (nI i))] 1114 []) : J KK (wL (kG KK) a b) ca sl (M, x) [(0, .ref bs), (1, .ref (a 0)), (2, .ref (b 0)), (3, .int (nI i))] 1081 [] := by
  obtain ⟨n, t, ru, s, B, N, h⟩ := h
  refine j_aload_n C dL_law_1081 rfl rfl ?_
  refine j_aload_n C dL_law_1082 rfl rfl ?_
  refine j_iload_n C dL_law_1083 rfl rfl ?_
  refine j_iconst (v := 1) C dL_law_1084 rfl ?_
  refine j_iadd C dL_law_1085 ?_
  refine j_sld C hX hbl hbA (i + 1) dL_law_1086 (nI_add i 1) (by omega) (by omega) ?_
  refine j_aload_n C dL_law_1087 rfl rfl ?_
  refine j_iload_n C dL_law_1088 rfl rfl ?_
  refine j_iconst (v := 2) C dL_law_1089 rfl ?_
  refine j_iadd C dL_law_1090 ?_
  refine j_sld C hX hbl hbA (i + 2) dL_law_1091 (nI_add i 2) (by omega) (by omega) ?_
  refine j_lci C hca hsl (c_X9_taken _ _ a _ _ _ n h.1.1.1 h.1.1.2) dL_law_1092 jm_RL_126 rfl ⟨by decide, by decide⟩ rfl (Nat.le_of_ble_eq_true rfl) (fun r_0 z_0 h_0 => ?_)
  refine j_aload_n C dL_law_1095 rfl rfl ?_
  refine j_aload_n C dL_law_1096 rfl rfl ?_
  refine j_iload_n C dL_law_1097 rfl rfl ?_
  refine j_iconst (v := 1) C dL_law_1098 rfl ?_
  refine j_iadd C dL_law_1099 ?_
  refine j_sld C hX hbl hbA (i + 1) dL_law_1100 (nI_add i 1) (by omega) (by omega) ?_
  refine j_aload_n C dL_law_1101 rfl rfl ?_
  refine j_iload_n C dL_law_1102 rfl rfl ?_
  refine j_iconst (v := 2) C dL_law_1103 rfl ?_
  refine j_iadd C dL_law_1104 ?_
  refine j_sld C hX hbl hbA (i + 2) dL_law_1105 (nI_add i 2) (by omega) (by omega) ?_
  refine j_lri C hca hsl (c_X10_taken _ _ b _ _ _ n h.2.1.1 h.2.2.2.2.1) dL_law_1106 jm_RL_129 rfl ⟨by decide, by decide⟩ rfl (Nat.le_of_ble_eq_true rfl) (fun r_1 z_1 h_1 => ?_)
  have hq := q_taken h h_0 h_1
  refine j_icmp_eq (tgt := 1114) C dL_law_1109 (by decide) (fun _ => ?_) (fun c => absurd hq.1 c)
  exact KE _ _ hq.2
