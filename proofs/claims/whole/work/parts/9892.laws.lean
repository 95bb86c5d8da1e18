/-! the law: its 28 cases -/
theorem lw_c32 : Cond.constantLong R_law 32 4294967295 ∈ lw_tbl := by decide +kernel
section
variable {p : Program} {l : Launch} {e : Env} {s : State} {m : MethodId} {below : List Frame} {meth : Method} {c : Code} {b : Nat} {G : va_G} {ca adK : Nat → Nat} {L : Nat} {xs : Nat → Int32}
theorem lw_k0 (F : lw_Fx p s m c b G ca adK) (hX : va_X b L xs s s.heap) (hbl : b < s.heap.size) (hL : L ≤ 3072) {i : Nat} (hi : i + 6 ≤ L) (hG : lw_G p l e s m b below meth c G ca 974 i) : lw_G p l e s m b below meth c G ca 160 i := by
  intro Z D tx tp so sz it ad1 ad2 h1 h2 H locs ls hk hm hS hl
  have hbA : ¬ (fun q : Nat => s.heap.size ≤ q) b := Nat.not_le.mpr hbl
  have hS5 := hS.2.2.2.2
  refine lv_aload_n F.1 F.2.1 dL_law_160 rfl (lv_at hl 1 rfl) ?_
  refine lv_aload_n F.1 F.2.1 dL_law_161 rfl (lv_at hl 0 rfl) ?_
  refine lv_iload_n F.1 F.2.1 dL_law_162 rfl (lv_at hl 3 rfl) ?_
  refine lv_iconst (v := nI 1) F.1 F.2.1 dL_law_163 (by decide) ?_
  refine lv_iadd F.1 F.2.1 dL_law_164 ?_
  rw [nI_add]
  refine va_sld F.1 F.2.1 hX hbl hbA hS5 (z_in (show i + 1 < L by omega) (by omega)) dL_law_165 ?_
  refine lv_aload_n F.1 F.2.1 dL_law_166 rfl (lv_at hl 0 rfl) ?_
  refine lv_iload_n F.1 F.2.1 dL_law_167 rfl (lv_at hl 3 rfl) ?_
  refine lv_iconst (v := nI 2) F.1 F.2.1 dL_law_168 (by decide) ?_
  refine lv_iadd F.1 F.2.1 dL_law_169 ?_
  rw [nI_add]
  refine va_sld F.1 F.2.1 hX hbl hbA hS5 (z_in (show i + 2 < L by omega) (by omega)) dL_law_170 ?_
  refine lv_aload_n F.1 F.2.1 dL_law_171 rfl (lv_at hl 0 rfl) ?_
  refine lv_iload_n F.1 F.2.1 dL_law_172 rfl (lv_at hl 3 rfl) ?_
  refine lv_iconst (v := nI 3) F.1 F.2.1 dL_law_173 (by decide) ?_
  refine lv_iadd F.1 F.2.1 dL_law_174 ?_
  rw [nI_add]
  refine va_sld F.1 F.2.1 hX hbl hbA hS5 (z_in (show i + 3 < L by omega) (by omega)) dL_law_175 ?_
  refine lw_two (As := [.int (xs (nI (i + 1)).toNatClampNeg), .int (xs (nI (i + 2)).toNatClampNeg), .int (xs (nI (i + 3)).toNatClampNeg)]) F (lw_o0 _ _ _) (show lw_chk (13, 79, 513, 514, 515, 78) = true from List.all_eq_true.mp lw_cl_ok _ (List.mem_of_getElem? (i := 0) rfl)) (show lw_chk (17, 117, 1058, 1059, 1060, 92) = true from List.all_eq_true.mp lw_cl_ok _ (List.mem_of_getElem? (i := 1) rfl)) rfl rfl rfl rfl (fun _ => rfl) dL_law_176 dL_law_195 dL_law_198 (by decide) hG hk hm hS hl (fun r H locs cells slots hS5 hW => ?_)
  refine lv_aload_n F.1 F.2.1 dL_law_179 rfl (lv_at hl 2 rfl) ?_
  refine lv_aload_n F.1 F.2.1 dL_law_180 rfl (lv_at hl 0 rfl) ?_
  refine lv_iload_n F.1 F.2.1 dL_law_181 rfl (lv_at hl 3 rfl) ?_
  refine lv_iconst (v := nI 1) F.1 F.2.1 dL_law_182 (by decide) ?_
  refine lv_iadd F.1 F.2.1 dL_law_183 ?_
  rw [nI_add]
  refine va_sld F.1 F.2.1 hX hbl hbA hS5 (z_in (show i + 1 < L by omega) (by omega)) dL_law_184 ?_
  refine lv_aload_n F.1 F.2.1 dL_law_185 rfl (lv_at hl 0 rfl) ?_
  refine lv_iload_n F.1 F.2.1 dL_law_186 rfl (lv_at hl 3 rfl) ?_
  refine lv_iconst (v := nI 2) F.1 F.2.1 dL_law_187 (by decide) ?_
  refine lv_iadd F.1 F.2.1 dL_law_188 ?_
  rw [nI_add]
  refine va_sld F.1 F.2.1 hX hbl hbA hS5 (z_in (show i + 2 < L by omega) (by omega)) dL_law_189 ?_
  refine lv_aload_n F.1 F.2.1 dL_law_190 rfl (lv_at hl 0 rfl) ?_
  refine lv_iload_n F.1 F.2.1 dL_law_191 rfl (lv_at hl 3 rfl) ?_
  refine lv_iconst (v := nI 3) F.1 F.2.1 dL_law_192 (by decide) ?_
  refine lv_iadd F.1 F.2.1 dL_law_193 ?_
  rw [nI_add]
  refine va_sld F.1 F.2.1 hX hbl hbA hS5 (z_in (show i + 3 < L by omega) (by omega)) dL_law_194 ?_
  exact hW
theorem lw_k1 (F : lw_Fx p s m c b G ca adK) (hX : va_X b L xs s s.heap) (hbl : b < s.heap.size) (hL : L ≤ 3072) {i : Nat} (hi : i + 6 ≤ L) (hG : lw_G p l e s m b below meth c G ca 974 i) : lw_G p l e s m b below meth c G ca 203 i := by
  intro Z D tx tp so sz it ad1 ad2 h1 h2 H locs ls hk hm hS hl
  have hbA : ¬ (fun q : Nat => s.heap.size ≤ q) b := Nat.not_le.mpr hbl
  have hS5 := hS.2.2.2.2
  refine lv_aload_n F.1 F.2.1 dL_law_203 rfl (lv_at hl 1 rfl) ?_
  refine lv_aload_n F.1 F.2.1 dL_law_204 rfl (lv_at hl 0 rfl) ?_
  refine lv_iload_n F.1 F.2.1 dL_law_205 rfl (lv_at hl 3 rfl) ?_
  refine lv_iconst (v := nI 1) F.1 F.2.1 dL_law_206 (by decide) ?_
  refine lv_iadd F.1 F.2.1 dL_law_207 ?_
  rw [nI_add]
  refine va_sld F.1 F.2.1 hX hbl hbA hS5 (z_in (show i + 1 < L by omega) (by omega)) dL_law_208 ?_
  refine lv_aload_n F.1 F.2.1 dL_law_209 rfl (lv_at hl 0 rfl) ?_
  refine lv_iload_n F.1 F.2.1 dL_law_210 rfl (lv_at hl 3 rfl) ?_
  refine lv_iconst (v := nI 2) F.1 F.2.1 dL_law_211 (by decide) ?_
  refine lv_iadd F.1 F.2.1 dL_law_212 ?_
  rw [nI_add]
  refine va_sld F.1 F.2.1 hX hbl hbA hS5 (z_in (show i + 2 < L by omega) (by omega)) dL_law_213 ?_
  refine lv_aload_n F.1 F.2.1 dL_law_214 rfl (lv_at hl 0 rfl) ?_
  refine lv_iload_n F.1 F.2.1 dL_law_215 rfl (lv_at hl 3 rfl) ?_
  refine lv_iconst (v := nI 3) F.1 F.2.1 dL_law_216 (by decide) ?_
  refine lv_iadd F.1 F.2.1 dL_law_217 ?_
  rw [nI_add]
  refine va_sld F.1 F.2.1 hX hbl hbA hS5 (z_in (show i + 3 < L by omega) (by omega)) dL_law_218 ?_
  refine lw_two (As := [.int (xs (nI (i + 1)).toNatClampNeg), .int (xs (nI (i + 2)).toNatClampNeg), .int (xs (nI (i + 3)).toNatClampNeg)]) F (lw_o1 _ _ _) (show lw_chk (18, 80, 564, 565, 566, 78) = true from List.all_eq_true.mp lw_cl_ok _ (List.mem_of_getElem? (i := 2) rfl)) (show lw_chk (21, 120, 1072, 1073, 1074, 92) = true from List.all_eq_true.mp lw_cl_ok _ (List.mem_of_getElem? (i := 3) rfl)) rfl rfl rfl rfl (fun _ => rfl) dL_law_219 dL_law_238 dL_law_241 (by decide) hG hk hm hS hl (fun r H locs cells slots hS5 hW => ?_)
  refine lv_aload_n F.1 F.2.1 dL_law_222 rfl (lv_at hl 2 rfl) ?_
  refine lv_aload_n F.1 F.2.1 dL_law_223 rfl (lv_at hl 0 rfl) ?_
  refine lv_iload_n F.1 F.2.1 dL_law_224 rfl (lv_at hl 3 rfl) ?_
  refine lv_iconst (v := nI 1) F.1 F.2.1 dL_law_225 (by decide) ?_
  refine lv_iadd F.1 F.2.1 dL_law_226 ?_
  rw [nI_add]
  refine va_sld F.1 F.2.1 hX hbl hbA hS5 (z_in (show i + 1 < L by omega) (by omega)) dL_law_227 ?_
  refine lv_aload_n F.1 F.2.1 dL_law_228 rfl (lv_at hl 0 rfl) ?_
  refine lv_iload_n F.1 F.2.1 dL_law_229 rfl (lv_at hl 3 rfl) ?_
  refine lv_iconst (v := nI 2) F.1 F.2.1 dL_law_230 (by decide) ?_
  refine lv_iadd F.1 F.2.1 dL_law_231 ?_
  rw [nI_add]
  refine va_sld F.1 F.2.1 hX hbl hbA hS5 (z_in (show i + 2 < L by omega) (by omega)) dL_law_232 ?_
  refine lv_aload_n F.1 F.2.1 dL_law_233 rfl (lv_at hl 0 rfl) ?_
  refine lv_iload_n F.1 F.2.1 dL_law_234 rfl (lv_at hl 3 rfl) ?_
  refine lv_iconst (v := nI 3) F.1 F.2.1 dL_law_235 (by decide) ?_
  refine lv_iadd F.1 F.2.1 dL_law_236 ?_
  rw [nI_add]
  refine va_sld F.1 F.2.1 hX hbl hbA hS5 (z_in (show i + 3 < L by omega) (by omega)) dL_law_237 ?_
  exact hW
theorem lw_k2 (F : lw_Fx p s m c b G ca adK) (hX : va_X b L xs s s.heap) (hbl : b < s.heap.size) (hL : L ≤ 3072) {i : Nat} (hi : i + 6 ≤ L) (hG : lw_G p l e s m b below meth c G ca 974 i) : lw_G p l e s m b below meth c G ca 246 i := by
  intro Z D tx tp so sz it ad1 ad2 h1 h2 H locs ls hk hm hS hl
  have hbA : ¬ (fun q : Nat => s.heap.size ≤ q) b := Nat.not_le.mpr hbl
  have hS5 := hS.2.2.2.2
  refine lv_aload_n F.1 F.2.1 dL_law_246 rfl (lv_at hl 1 rfl) ?_
  refine lv_aload_n F.1 F.2.1 dL_law_247 rfl (lv_at hl 0 rfl) ?_
  refine lv_iload_n F.1 F.2.1 dL_law_248 rfl (lv_at hl 3 rfl) ?_
  refine lv_iconst (v := nI 1) F.1 F.2.1 dL_law_249 (by decide) ?_
  refine lv_iadd F.1 F.2.1 dL_law_250 ?_
  rw [nI_add]
  refine va_sld F.1 F.2.1 hX hbl hbA hS5 (z_in (show i + 1 < L by omega) (by omega)) dL_law_251 ?_
  refine lv_aload_n F.1 F.2.1 dL_law_252 rfl (lv_at hl 0 rfl) ?_
  refine lv_iload_n F.1 F.2.1 dL_law_253 rfl (lv_at hl 3 rfl) ?_
  refine lv_iconst (v := nI 2) F.1 F.2.1 dL_law_254 (by decide) ?_
  refine lv_iadd F.1 F.2.1 dL_law_255 ?_
  rw [nI_add]
  refine va_sld F.1 F.2.1 hX hbl hbA hS5 (z_in (show i + 2 < L by omega) (by omega)) dL_law_256 ?_
  refine lw_two (As := [.int (xs (nI (i + 1)).toNatClampNeg), .int (xs (nI (i + 2)).toNatClampNeg)]) F (lw_o2 _ _) (show lw_chk (22, 85, 608, 609, 610, 78) = true from List.all_eq_true.mp lw_cl_ok _ (List.mem_of_getElem? (i := 4) rfl)) (show lw_chk (26, 123, 1085, 1086, 1087, 92) = true from List.all_eq_true.mp lw_cl_ok _ (List.mem_of_getElem? (i := 5) rfl)) rfl rfl rfl rfl (fun _ => rfl) dL_law_257 dL_law_271 dL_law_274 (by decide) hG hk hm hS hl (fun r H locs cells slots hS5 hW => ?_)
  refine lv_aload_n F.1 F.2.1 dL_law_260 rfl (lv_at hl 2 rfl) ?_
  refine lv_aload_n F.1 F.2.1 dL_law_261 rfl (lv_at hl 0 rfl) ?_
  refine lv_iload_n F.1 F.2.1 dL_law_262 rfl (lv_at hl 3 rfl) ?_
  refine lv_iconst (v := nI 1) F.1 F.2.1 dL_law_263 (by decide) ?_
  refine lv_iadd F.1 F.2.1 dL_law_264 ?_
  rw [nI_add]
  refine va_sld F.1 F.2.1 hX hbl hbA hS5 (z_in (show i + 1 < L by omega) (by omega)) dL_law_265 ?_
  refine lv_aload_n F.1 F.2.1 dL_law_266 rfl (lv_at hl 0 rfl) ?_
  refine lv_iload_n F.1 F.2.1 dL_law_267 rfl (lv_at hl 3 rfl) ?_
  refine lv_iconst (v := nI 2) F.1 F.2.1 dL_law_268 (by decide) ?_
  refine lv_iadd F.1 F.2.1 dL_law_269 ?_
  rw [nI_add]
  refine va_sld F.1 F.2.1 hX hbl hbA hS5 (z_in (show i + 2 < L by omega) (by omega)) dL_law_270 ?_
  exact hW
theorem lw_k3 (F : lw_Fx p s m c b G ca adK) (hX : va_X b L xs s s.heap) (hbl : b < s.heap.size) (hL : L ≤ 3072) {i : Nat} (hi : i + 6 ≤ L) (hG : lw_G p l e s m b below meth c G ca 974 i) : lw_G p l e s m b below meth c G ca 279 i := by
  intro Z D tx tp so sz it ad1 ad2 h1 h2 H locs ls hk hm hS hl
  have hbA : ¬ (fun q : Nat => s.heap.size ≤ q) b := Nat.not_le.mpr hbl
  have hS5 := hS.2.2.2.2
  refine lv_aload_n F.1 F.2.1 dL_law_279 rfl (lv_at hl 1 rfl) ?_
  refine lw_two (As := []) F (lw_o3) (show lw_chk (27, 86, 632, 633, 634, 78) = true from List.all_eq_true.mp lw_cl_ok _ (List.mem_of_getElem? (i := 6) rfl)) (show lw_chk (31, 133, 1124, 1125, 1126, 92) = true from List.all_eq_true.mp lw_cl_ok _ (List.mem_of_getElem? (i := 7) rfl)) rfl rfl rfl rfl (fun _ => rfl) dL_law_280 dL_law_284 dL_law_287 (by decide) hG hk hm hS hl (fun r H locs cells slots hS5 hW => ?_)
  refine lv_aload_n F.1 F.2.1 dL_law_283 rfl (lv_at hl 2 rfl) ?_
  exact hW
theorem lw_k4 (F : lw_Fx p s m c b G ca adK) (hX : va_X b L xs s s.heap) (hbl : b < s.heap.size) (hL : L ≤ 3072) {i : Nat} (hi : i + 6 ≤ L) (hG : lw_G p l e s m b below meth c G ca 974 i) : lw_G p l e s m b below meth c G ca 292 i := by
  intro Z D tx tp so sz it ad1 ad2 h1 h2 H locs ls hk hm hS hl
  have hbA : ¬ (fun q : Nat => s.heap.size ≤ q) b := Nat.not_le.mpr hbl
  have hS5 := hS.2.2.2.2
  refine lv_aload_n F.1 F.2.1 dL_law_292 rfl (lv_at hl 1 rfl) ?_
  refine lv_aload_n F.1 F.2.1 dL_law_293 rfl (lv_at hl 0 rfl) ?_
  refine lv_iload_n F.1 F.2.1 dL_law_294 rfl (lv_at hl 3 rfl) ?_
  refine lv_iconst (v := nI 1) F.1 F.2.1 dL_law_295 (by decide) ?_
  refine lv_iadd F.1 F.2.1 dL_law_296 ?_
  rw [nI_add]
  refine va_sld F.1 F.2.1 hX hbl hbA hS5 (z_in (show i + 1 < L by omega) (by omega)) dL_law_297 ?_
  refine lv_aload_n F.1 F.2.1 dL_law_298 rfl (lv_at hl 0 rfl) ?_
  refine lv_iload_n F.1 F.2.1 dL_law_299 rfl (lv_at hl 3 rfl) ?_
  refine lv_iconst (v := nI 2) F.1 F.2.1 dL_law_300 (by decide) ?_
  refine lv_iadd F.1 F.2.1 dL_law_301 ?_
  rw [nI_add]
  refine va_sld F.1 F.2.1 hX hbl hbA hS5 (z_in (show i + 2 < L by omega) (by omega)) dL_law_302 ?_
  refine lv_i2l F.1 F.2.1 dL_law_303 rfl ?_
  refine lv_bipush (v := 32) F.1 F.2.1 dL_law_304 (by decide) ?_
  refine lv_lshl F.1 F.2.1 dL_law_306 rfl ?_
  refine lv_aload_n F.1 F.2.1 dL_law_307 rfl (lv_at hl 0 rfl) ?_
  refine lv_iload_n F.1 F.2.1 dL_law_308 rfl (lv_at hl 3 rfl) ?_
  refine lv_iconst (v := nI 3) F.1 F.2.1 dL_law_309 (by decide) ?_
  refine lv_iadd F.1 F.2.1 dL_law_310 ?_
  rw [nI_add]
  refine va_sld F.1 F.2.1 hX hbl hbA hS5 (z_in (show i + 3 < L by omega) (by omega)) dL_law_311 ?_
  refine lv_i2l F.1 F.2.1 dL_law_312 rfl ?_
  refine lv_ldc2 (own := R_law) (v := 4294967295) F.1 F.2.1 F.2.2.2.1 (F.2.2.2.2.1 _ lw_c32) dL_law_313 ?_
  refine lv_land F.1 F.2.1 dL_law_316 ?_
  refine lv_lor F.1 F.2.1 dL_law_317 ?_
  refine lw_two (As := [.int (xs (nI (i + 1)).toNatClampNeg), .long ((((xs (nI (i + 2)).toNatClampNeg).toInt64 <<< ((32 : Int32).toInt64 &&& 63)) ||| ((xs (nI (i + 3)).toNatClampNeg).toInt64 &&& 4294967295)))]) F (lw_o4 _ _) (show lw_chk (34, 87, 653, 654, 655, 78) = true from List.all_eq_true.mp lw_cl_ok _ (List.mem_of_getElem? (i := 8) rfl)) (show lw_chk (38, 136, 1136, 1137, 1138, 92) = true from List.all_eq_true.mp lw_cl_ok _ (List.mem_of_getElem? (i := 9) rfl)) rfl rfl rfl rfl (fun _ => rfl) dL_law_318 dL_law_347 dL_law_350 (by decide) hG hk hm hS hl (fun r H locs cells slots hS5 hW => ?_)
  refine lv_aload_n F.1 F.2.1 dL_law_321 rfl (lv_at hl 2 rfl) ?_
  refine lv_aload_n F.1 F.2.1 dL_law_322 rfl (lv_at hl 0 rfl) ?_
  refine lv_iload_n F.1 F.2.1 dL_law_323 rfl (lv_at hl 3 rfl) ?_
  refine lv_iconst (v := nI 1) F.1 F.2.1 dL_law_324 (by decide) ?_
  refine lv_iadd F.1 F.2.1 dL_law_325 ?_
  rw [nI_add]
  refine va_sld F.1 F.2.1 hX hbl hbA hS5 (z_in (show i + 1 < L by omega) (by omega)) dL_law_326 ?_
  refine lv_aload_n F.1 F.2.1 dL_law_327 rfl (lv_at hl 0 rfl) ?_
  refine lv_iload_n F.1 F.2.1 dL_law_328 rfl (lv_at hl 3 rfl) ?_
  refine lv_iconst (v := nI 2) F.1 F.2.1 dL_law_329 (by decide) ?_
  refine lv_iadd F.1 F.2.1 dL_law_330 ?_
  rw [nI_add]
  refine va_sld F.1 F.2.1 hX hbl hbA hS5 (z_in (show i + 2 < L by omega) (by omega)) dL_law_331 ?_
  refine lv_i2l F.1 F.2.1 dL_law_332 rfl ?_
  refine lv_bipush (v := 32) F.1 F.2.1 dL_law_333 (by decide) ?_
  refine lv_lshl F.1 F.2.1 dL_law_335 rfl ?_
  refine lv_aload_n F.1 F.2.1 dL_law_336 rfl (lv_at hl 0 rfl) ?_
  refine lv_iload_n F.1 F.2.1 dL_law_337 rfl (lv_at hl 3 rfl) ?_
  refine lv_iconst (v := nI 3) F.1 F.2.1 dL_law_338 (by decide) ?_
  refine lv_iadd F.1 F.2.1 dL_law_339 ?_
  rw [nI_add]
  refine va_sld F.1 F.2.1 hX hbl hbA hS5 (z_in (show i + 3 < L by omega) (by omega)) dL_law_340 ?_
  refine lv_i2l F.1 F.2.1 dL_law_341 rfl ?_
  refine lv_ldc2 (own := R_law) (v := 4294967295) F.1 F.2.1 F.2.2.2.1 (F.2.2.2.2.1 _ lw_c32) dL_law_342 ?_
  refine lv_land F.1 F.2.1 dL_law_345 ?_
  refine lv_lor F.1 F.2.1 dL_law_346 ?_
  exact hW
theorem lw_k5 (F : lw_Fx p s m c b G ca adK) (hX : va_X b L xs s s.heap) (hbl : b < s.heap.size) (hL : L ≤ 3072) {i : Nat} (hi : i + 6 ≤ L) (hG : lw_G p l e s m b below meth c G ca 974 i) : lw_G p l e s m b below meth c G ca 355 i := by
  intro Z D tx tp so sz it ad1 ad2 h1 h2 H locs ls hk hm hS hl
  have hbA : ¬ (fun q : Nat => s.heap.size ≤ q) b := Nat.not_le.mpr hbl
  have hS5 := hS.2.2.2.2
  refine lv_aload_n F.1 F.2.1 dL_law_355 rfl (lv_at hl 1 rfl) ?_
  refine lw_two (As := []) F (lw_o5) (show lw_chk (39, 88, 657, 658, 659, 78) = true from List.all_eq_true.mp lw_cl_ok _ (List.mem_of_getElem? (i := 10) rfl)) (show lw_chk (42, 137, 1142, 1143, 1144, 92) = true from List.all_eq_true.mp lw_cl_ok _ (List.mem_of_getElem? (i := 11) rfl)) rfl rfl rfl rfl (fun _ => rfl) dL_law_356 dL_law_360 dL_law_363 (by decide) hG hk hm hS hl (fun r H locs cells slots hS5 hW => ?_)
  refine lv_aload_n F.1 F.2.1 dL_law_359 rfl (lv_at hl 2 rfl) ?_
  exact hW
theorem lw_k6 (F : lw_Fx p s m c b G ca adK) (hX : va_X b L xs s s.heap) (hbl : b < s.heap.size) (hL : L ≤ 3072) {i : Nat} (hi : i + 6 ≤ L) (hG : lw_G p l e s m b below meth c G ca 974 i) : lw_G p l e s m b below meth c G ca 368 i := by
  intro Z D tx tp so sz it ad1 ad2 h1 h2 H locs ls hk hm hS hl
  have hbA : ¬ (fun q : Nat => s.heap.size ≤ q) b := Nat.not_le.mpr hbl
  have hS5 := hS.2.2.2.2
  refine lv_aload_n F.1 F.2.1 dL_law_368 rfl (lv_at hl 1 rfl) ?_
  refine lv_aload_n F.1 F.2.1 dL_law_369 rfl (lv_at hl 0 rfl) ?_
  refine lv_iload_n F.1 F.2.1 dL_law_370 rfl (lv_at hl 3 rfl) ?_
  refine lv_iconst (v := nI 1) F.1 F.2.1 dL_law_371 (by decide) ?_
  refine lv_iadd F.1 F.2.1 dL_law_372 ?_
  rw [nI_add]
  refine va_sld F.1 F.2.1 hX hbl hbA hS5 (z_in (show i + 1 < L by omega) (by omega)) dL_law_373 ?_
  refine lw_two (As := [.int (xs (nI (i + 1)).toNatClampNeg)]) F (lw_o6 _) (show lw_chk (43, 89, 661, 662, 663, 78) = true from List.all_eq_true.mp lw_cl_ok _ (List.mem_of_getElem? (i := 12) rfl)) (show lw_chk (47, 155, 1215, 1216, 1217, 92) = true from List.all_eq_true.mp lw_cl_ok _ (List.mem_of_getElem? (i := 13) rfl)) rfl rfl rfl rfl (fun _ => rfl) dL_law_374 dL_law_383 dL_law_386 (by decide) hG hk hm hS hl (fun r H locs cells slots hS5 hW => ?_)
  refine lv_aload_n F.1 F.2.1 dL_law_377 rfl (lv_at hl 2 rfl) ?_
  refine lv_aload_n F.1 F.2.1 dL_law_378 rfl (lv_at hl 0 rfl) ?_
  refine lv_iload_n F.1 F.2.1 dL_law_379 rfl (lv_at hl 3 rfl) ?_
  refine lv_iconst (v := nI 1) F.1 F.2.1 dL_law_380 (by decide) ?_
  refine lv_iadd F.1 F.2.1 dL_law_381 ?_
  rw [nI_add]
  refine va_sld F.1 F.2.1 hX hbl hbA hS5 (z_in (show i + 1 < L by omega) (by omega)) dL_law_382 ?_
  exact hW
theorem lw_k7 (F : lw_Fx p s m c b G ca adK) (hX : va_X b L xs s s.heap) (hbl : b < s.heap.size) (hL : L ≤ 3072) {i : Nat} (hi : i + 6 ≤ L) (hG : lw_G p l e s m b below meth c G ca 974 i) : lw_G p l e s m b below meth c G ca 391 i := by
  intro Z D tx tp so sz it ad1 ad2 h1 h2 H locs ls hk hm hS hl
  have hbA : ¬ (fun q : Nat => s.heap.size ≤ q) b := Nat.not_le.mpr hbl
  have hS5 := hS.2.2.2.2
  refine lv_aload_n F.1 F.2.1 dL_law_391 rfl (lv_at hl 1 rfl) ?_
  refine lw_two (As := []) F (lw_o7) (show lw_chk (48, 90, 665, 666, 667, 78) = true from List.all_eq_true.mp lw_cl_ok _ (List.mem_of_getElem? (i := 14) rfl)) (show lw_chk (51, 156, 1219, 1220, 1221, 92) = true from List.all_eq_true.mp lw_cl_ok _ (List.mem_of_getElem? (i := 15) rfl)) rfl rfl rfl rfl (fun _ => rfl) dL_law_392 dL_law_396 dL_law_399 (by decide) hG hk hm hS hl (fun r H locs cells slots hS5 hW => ?_)
  refine lv_aload_n F.1 F.2.1 dL_law_395 rfl (lv_at hl 2 rfl) ?_
  exact hW
theorem lw_k8 (F : lw_Fx p s m c b G ca adK) (hX : va_X b L xs s s.heap) (hbl : b < s.heap.size) (hL : L ≤ 3072) {i : Nat} (hi : i + 6 ≤ L) (hG : lw_G p l e s m b below meth c G ca 974 i) : lw_G p l e s m b below meth c G ca 404 i := by
  intro Z D tx tp so sz it ad1 ad2 h1 h2 H locs ls hk hm hS hl
  have hbA : ¬ (fun q : Nat => s.heap.size ≤ q) b := Nat.not_le.mpr hbl
  have hS5 := hS.2.2.2.2
  refine lv_aload_n F.1 F.2.1 dL_law_404 rfl (lv_at hl 1 rfl) ?_
  refine lv_aload_n F.1 F.2.1 dL_law_405 rfl (lv_at hl 0 rfl) ?_
  refine lv_iload_n F.1 F.2.1 dL_law_406 rfl (lv_at hl 3 rfl) ?_
  refine lv_iconst (v := nI 1) F.1 F.2.1 dL_law_407 (by decide) ?_
  refine lv_iadd F.1 F.2.1 dL_law_408 ?_
  rw [nI_add]
  refine va_sld F.1 F.2.1 hX hbl hbA hS5 (z_in (show i + 1 < L by omega) (by omega)) dL_law_409 ?_
  refine lw_two (As := [.int (xs (nI (i + 1)).toNatClampNeg)]) F (lw_o8 _) (show lw_chk (52, 91, 677, 678, 679, 78) = true from List.all_eq_true.mp lw_cl_ok _ (List.mem_of_getElem? (i := 16) rfl)) (show lw_chk (55, 158, 1227, 1228, 1229, 92) = true from List.all_eq_true.mp lw_cl_ok _ (List.mem_of_getElem? (i := 17) rfl)) rfl rfl rfl rfl (fun _ => rfl) dL_law_410 dL_law_419 dL_law_422 (by decide) hG hk hm hS hl (fun r H locs cells slots hS5 hW => ?_)
  refine lv_aload_n F.1 F.2.1 dL_law_413 rfl (lv_at hl 2 rfl) ?_
  refine lv_aload_n F.1 F.2.1 dL_law_414 rfl (lv_at hl 0 rfl) ?_
  refine lv_iload_n F.1 F.2.1 dL_law_415 rfl (lv_at hl 3 rfl) ?_
  refine lv_iconst (v := nI 1) F.1 F.2.1 dL_law_416 (by decide) ?_
  refine lv_iadd F.1 F.2.1 dL_law_417 ?_
  rw [nI_add]
  refine va_sld F.1 F.2.1 hX hbl hbA hS5 (z_in (show i + 1 < L by omega) (by omega)) dL_law_418 ?_
  exact hW
theorem lw_k9 (F : lw_Fx p s m c b G ca adK) (hX : va_X b L xs s s.heap) (hbl : b < s.heap.size) (hL : L ≤ 3072) {i : Nat} (hi : i + 6 ≤ L) (hG : lw_G p l e s m b below meth c G ca 974 i) : lw_G p l e s m b below meth c G ca 427 i := by
  intro Z D tx tp so sz it ad1 ad2 h1 h2 H locs ls hk hm hS hl
  have hbA : ¬ (fun q : Nat => s.heap.size ≤ q) b := Nat.not_le.mpr hbl
  have hS5 := hS.2.2.2.2
  refine lv_aload_n F.1 F.2.1 dL_law_427 rfl (lv_at hl 1 rfl) ?_
  refine lv_aload_n F.1 F.2.1 dL_law_428 rfl (lv_at hl 0 rfl) ?_
  refine lv_iload_n F.1 F.2.1 dL_law_429 rfl (lv_at hl 3 rfl) ?_
  refine lv_iconst (v := nI 1) F.1 F.2.1 dL_law_430 (by decide) ?_
  refine lv_iadd F.1 F.2.1 dL_law_431 ?_
  rw [nI_add]
  refine va_sld F.1 F.2.1 hX hbl hbA hS5 (z_in (show i + 1 < L by omega) (by omega)) dL_law_432 ?_
  refine lw_two (As := [.int (xs (nI (i + 1)).toNatClampNeg)]) F (lw_o9 _) (show lw_chk (56, 92, 682, 683, 684, 78) = true from List.all_eq_true.mp lw_cl_ok _ (List.mem_of_getElem? (i := 18) rfl)) (show lw_chk (59, 160, 1235, 1236, 1237, 92) = true from List.all_eq_true.mp lw_cl_ok _ (List.mem_of_getElem? (i := 19) rfl)) rfl rfl rfl rfl (fun _ => rfl) dL_law_433 dL_law_442 dL_law_445 (by decide) hG hk hm hS hl (fun r H locs cells slots hS5 hW => ?_)
  refine lv_aload_n F.1 F.2.1 dL_law_436 rfl (lv_at hl 2 rfl) ?_
  refine lv_aload_n F.1 F.2.1 dL_law_437 rfl (lv_at hl 0 rfl) ?_
  refine lv_iload_n F.1 F.2.1 dL_law_438 rfl (lv_at hl 3 rfl) ?_
  refine lv_iconst (v := nI 1) F.1 F.2.1 dL_law_439 (by decide) ?_
  refine lv_iadd F.1 F.2.1 dL_law_440 ?_
  rw [nI_add]
  refine va_sld F.1 F.2.1 hX hbl hbA hS5 (z_in (show i + 1 < L by omega) (by omega)) dL_law_441 ?_
  exact hW
theorem lw_k10 (F : lw_Fx p s m c b G ca adK) (hX : va_X b L xs s s.heap) (hbl : b < s.heap.size) (hL : L ≤ 3072) {i : Nat} (hi : i + 6 ≤ L) (hG : lw_G p l e s m b below meth c G ca 974 i) : lw_G p l e s m b below meth c G ca 450 i := by
  intro Z D tx tp so sz it ad1 ad2 h1 h2 H locs ls hk hm hS hl
  have hbA : ¬ (fun q : Nat => s.heap.size ≤ q) b := Nat.not_le.mpr hbl
  have hS5 := hS.2.2.2.2
  refine lv_aload_n F.1 F.2.1 dL_law_450 rfl (lv_at hl 1 rfl) ?_
  refine lv_aload_n F.1 F.2.1 dL_law_451 rfl (lv_at hl 0 rfl) ?_
  refine lv_iload_n F.1 F.2.1 dL_law_452 rfl (lv_at hl 3 rfl) ?_
  refine lv_iconst (v := nI 1) F.1 F.2.1 dL_law_453 (by decide) ?_
  refine lv_iadd F.1 F.2.1 dL_law_454 ?_
  rw [nI_add]
  refine va_sld F.1 F.2.1 hX hbl hbA hS5 (z_in (show i + 1 < L by omega) (by omega)) dL_law_455 ?_
  refine lw_two (As := [.int (xs (nI (i + 1)).toNatClampNeg)]) F (lw_o10 _) (show lw_chk (60, 93, 732, 733, 734, 78) = true from List.all_eq_true.mp lw_cl_ok _ (List.mem_of_getElem? (i := 20) rfl)) (show lw_chk (63, 167, 1263, 1264, 1265, 92) = true from List.all_eq_true.mp lw_cl_ok _ (List.mem_of_getElem? (i := 21) rfl)) rfl rfl rfl rfl (fun _ => rfl) dL_law_456 dL_law_465 dL_law_468 (by decide) hG hk hm hS hl (fun r H locs cells slots hS5 hW => ?_)
  refine lv_aload_n F.1 F.2.1 dL_law_459 rfl (lv_at hl 2 rfl) ?_
  refine lv_aload_n F.1 F.2.1 dL_law_460 rfl (lv_at hl 0 rfl) ?_
  refine lv_iload_n F.1 F.2.1 dL_law_461 rfl (lv_at hl 3 rfl) ?_
  refine lv_iconst (v := nI 1) F.1 F.2.1 dL_law_462 (by decide) ?_
  refine lv_iadd F.1 F.2.1 dL_law_463 ?_
  rw [nI_add]
  refine va_sld F.1 F.2.1 hX hbl hbA hS5 (z_in (show i + 1 < L by omega) (by omega)) dL_law_464 ?_
  exact hW
theorem lw_k11 (F : lw_Fx p s m c b G ca adK) (hX : va_X b L xs s s.heap) (hbl : b < s.heap.size) (hL : L ≤ 3072) {i : Nat} (hi : i + 6 ≤ L) (hG : lw_G p l e s m b below meth c G ca 974 i) : lw_G p l e s m b below meth c G ca 473 i := by
  intro Z D tx tp so sz it ad1 ad2 h1 h2 H locs ls hk hm hS hl
  have hbA : ¬ (fun q : Nat => s.heap.size ≤ q) b := Nat.not_le.mpr hbl
  have hS5 := hS.2.2.2.2
  refine lv_aload_n F.1 F.2.1 dL_law_473 rfl (lv_at hl 1 rfl) ?_
  refine lv_aload_n F.1 F.2.1 dL_law_474 rfl (lv_at hl 0 rfl) ?_
  refine lv_iload_n F.1 F.2.1 dL_law_475 rfl (lv_at hl 3 rfl) ?_
  refine lv_iconst (v := nI 1) F.1 F.2.1 dL_law_476 (by decide) ?_
  refine lv_iadd F.1 F.2.1 dL_law_477 ?_
  rw [nI_add]
  refine va_sld F.1 F.2.1 hX hbl hbA hS5 (z_in (show i + 1 < L by omega) (by omega)) dL_law_478 ?_
  refine lv_aload_n F.1 F.2.1 dL_law_479 rfl (lv_at hl 0 rfl) ?_
  refine lv_iload_n F.1 F.2.1 dL_law_480 rfl (lv_at hl 3 rfl) ?_
  refine lv_iconst (v := nI 2) F.1 F.2.1 dL_law_481 (by decide) ?_
  refine lv_iadd F.1 F.2.1 dL_law_482 ?_
  rw [nI_add]
  refine va_sld F.1 F.2.1 hX hbl hbA hS5 (z_in (show i + 2 < L by omega) (by omega)) dL_law_483 ?_
  refine lw_two (As := [.int (xs (nI (i + 1)).toNatClampNeg), .int (xs (nI (i + 2)).toNatClampNeg)]) F (lw_o11 _ _) (show lw_chk (64, 94, 741, 742, 743, 78) = true from List.all_eq_true.mp lw_cl_ok _ (List.mem_of_getElem? (i := 22) rfl)) (show lw_chk (67, 169, 1271, 1272, 1273, 92) = true from List.all_eq_true.mp lw_cl_ok _ (List.mem_of_getElem? (i := 23) rfl)) rfl rfl rfl rfl (fun _ => rfl) dL_law_484 dL_law_498 dL_law_501 (by decide) hG hk hm hS hl (fun r H locs cells slots hS5 hW => ?_)
  refine lv_aload_n F.1 F.2.1 dL_law_487 rfl (lv_at hl 2 rfl) ?_
  refine lv_aload_n F.1 F.2.1 dL_law_488 rfl (lv_at hl 0 rfl) ?_
  refine lv_iload_n F.1 F.2.1 dL_law_489 rfl (lv_at hl 3 rfl) ?_
  refine lv_iconst (v := nI 1) F.1 F.2.1 dL_law_490 (by decide) ?_
  refine lv_iadd F.1 F.2.1 dL_law_491 ?_
  rw [nI_add]
  refine va_sld F.1 F.2.1 hX hbl hbA hS5 (z_in (show i + 1 < L by omega) (by omega)) dL_law_492 ?_
  refine lv_aload_n F.1 F.2.1 dL_law_493 rfl (lv_at hl 0 rfl) ?_
  refine lv_iload_n F.1 F.2.1 dL_law_494 rfl (lv_at hl 3 rfl) ?_
  refine lv_iconst (v := nI 2) F.1 F.2.1 dL_law_495 (by decide) ?_
  refine lv_iadd F.1 F.2.1 dL_law_496 ?_
  rw [nI_add]
  refine va_sld F.1 F.2.1 hX hbl hbA hS5 (z_in (show i + 2 < L by omega) (by omega)) dL_law_497 ?_
  exact hW
theorem lw_k12 (F : lw_Fx p s m c b G ca adK) (hX : va_X b L xs s s.heap) (hbl : b < s.heap.size) (hL : L ≤ 3072) {i : Nat} (hi : i + 6 ≤ L) (hG : lw_G p l e s m b below meth c G ca 974 i) : lw_G p l e s m b below meth c G ca 506 i := by
  intro Z D tx tp so sz it ad1 ad2 h1 h2 H locs ls hk hm hS hl
  have hbA : ¬ (fun q : Nat => s.heap.size ≤ q) b := Nat.not_le.mpr hbl
  have hS5 := hS.2.2.2.2
  refine lv_aload_n F.1 F.2.1 dL_law_506 rfl (lv_at hl 1 rfl) ?_
  refine lv_aload_n F.1 F.2.1 dL_law_507 rfl (lv_at hl 0 rfl) ?_
  refine lv_iload_n F.1 F.2.1 dL_law_508 rfl (lv_at hl 3 rfl) ?_
  refine lv_iconst (v := nI 1) F.1 F.2.1 dL_law_509 (by decide) ?_
  refine lv_iadd F.1 F.2.1 dL_law_510 ?_
  rw [nI_add]
  refine va_sld F.1 F.2.1 hX hbl hbA hS5 (z_in (show i + 1 < L by omega) (by omega)) dL_law_511 ?_
  refine lw_two (As := [.int (xs (nI (i + 1)).toNatClampNeg)]) F (lw_o12 _) (show lw_chk (68, 95, 749, 750, 751, 78) = true from List.all_eq_true.mp lw_cl_ok _ (List.mem_of_getElem? (i := 24) rfl)) (show lw_chk (71, 171, 1279, 1280, 1281, 92) = true from List.all_eq_true.mp lw_cl_ok _ (List.mem_of_getElem? (i := 25) rfl)) rfl rfl rfl rfl (fun _ => rfl) dL_law_512 dL_law_521 dL_law_524 (by decide) hG hk hm hS hl (fun r H locs cells slots hS5 hW => ?_)
  refine lv_aload_n F.1 F.2.1 dL_law_515 rfl (lv_at hl 2 rfl) ?_
  refine lv_aload_n F.1 F.2.1 dL_law_516 rfl (lv_at hl 0 rfl) ?_
  refine lv_iload_n F.1 F.2.1 dL_law_517 rfl (lv_at hl 3 rfl) ?_
  refine lv_iconst (v := nI 1) F.1 F.2.1 dL_law_518 (by decide) ?_
  refine lv_iadd F.1 F.2.1 dL_law_519 ?_
  rw [nI_add]
  refine va_sld F.1 F.2.1 hX hbl hbA hS5 (z_in (show i + 1 < L by omega) (by omega)) dL_law_520 ?_
  exact hW
theorem lw_k13 (F : lw_Fx p s m c b G ca adK) (hX : va_X b L xs s s.heap) (hbl : b < s.heap.size) (hL : L ≤ 3072) {i : Nat} (hi : i + 6 ≤ L) (hG : lw_G p l e s m b below meth c G ca 974 i) : lw_G p l e s m b below meth c G ca 529 i := by
  intro Z D tx tp so sz it ad1 ad2 h1 h2 H locs ls hk hm hS hl
  have hbA : ¬ (fun q : Nat => s.heap.size ≤ q) b := Nat.not_le.mpr hbl
  have hS5 := hS.2.2.2.2
  refine lv_aload_n F.1 F.2.1 dL_law_529 rfl (lv_at hl 1 rfl) ?_
  refine lw_two (As := []) F (lw_o13) (show lw_chk (72, 96, 761, 762, 763, 78) = true from List.all_eq_true.mp lw_cl_ok _ (List.mem_of_getElem? (i := 26) rfl)) (show lw_chk (75, 172, 1283, 1284, 1285, 92) = true from List.all_eq_true.mp lw_cl_ok _ (List.mem_of_getElem? (i := 27) rfl)) rfl rfl rfl rfl (fun _ => rfl) dL_law_530 dL_law_534 dL_law_537 (by decide) hG hk hm hS hl (fun r H locs cells slots hS5 hW => ?_)
  refine lv_aload_n F.1 F.2.1 dL_law_533 rfl (lv_at hl 2 rfl) ?_
  exact hW
theorem lw_k14 (F : lw_Fx p s m c b G ca adK) (hX : va_X b L xs s s.heap) (hbl : b < s.heap.size) (hL : L ≤ 3072) {i : Nat} (hi : i + 6 ≤ L) (hG : lw_G p l e s m b below meth c G ca 974 i) : lw_G p l e s m b below meth c G ca 542 i := by
  intro Z D tx tp so sz it ad1 ad2 h1 h2 H locs ls hk hm hS hl
  have hbA : ¬ (fun q : Nat => s.heap.size ≤ q) b := Nat.not_le.mpr hbl
  have hS5 := hS.2.2.2.2
  refine lv_aload_n F.1 F.2.1 dL_law_542 rfl (lv_at hl 1 rfl) ?_
  refine lw_two (As := []) F (lw_o14) (show lw_chk (76, 97, 770, 771, 772, 78) = true from List.all_eq_true.mp lw_cl_ok _ (List.mem_of_getElem? (i := 28) rfl)) (show lw_chk (79, 173, 1287, 1288, 1289, 92) = true from List.all_eq_true.mp lw_cl_ok _ (List.mem_of_getElem? (i := 29) rfl)) rfl rfl rfl rfl (fun _ => rfl) dL_law_543 dL_law_547 dL_law_550 (by decide) hG hk hm hS hl (fun r H locs cells slots hS5 hW => ?_)
  refine lv_aload_n F.1 F.2.1 dL_law_546 rfl (lv_at hl 2 rfl) ?_
  exact hW
theorem lw_k15 (F : lw_Fx p s m c b G ca adK) (hX : va_X b L xs s s.heap) (hbl : b < s.heap.size) (hL : L ≤ 3072) {i : Nat} (hi : i + 6 ≤ L) (hG : lw_G p l e s m b below meth c G ca 974 i) : lw_G p l e s m b below meth c G ca 555 i := by
  intro Z D tx tp so sz it ad1 ad2 h1 h2 H locs ls hk hm hS hl
  have hbA : ¬ (fun q : Nat => s.heap.size ≤ q) b := Nat.not_le.mpr hbl
  have hS5 := hS.2.2.2.2
  refine lv_aload_n F.1 F.2.1 dL_law_555 rfl (lv_at hl 1 rfl) ?_
  refine lv_aload_n F.1 F.2.1 dL_law_556 rfl (lv_at hl 0 rfl) ?_
  refine lv_iload_n F.1 F.2.1 dL_law_557 rfl (lv_at hl 3 rfl) ?_
  refine lv_iconst (v := nI 1) F.1 F.2.1 dL_law_558 (by decide) ?_
  refine lv_iadd F.1 F.2.1 dL_law_559 ?_
  rw [nI_add]
  refine va_sld F.1 F.2.1 hX hbl hbA hS5 (z_in (show i + 1 < L by omega) (by omega)) dL_law_560 ?_
  refine lw_two (As := [.int (xs (nI (i + 1)).toNatClampNeg)]) F (lw_o15 _) (show lw_chk (80, 98, 778, 779, 780, 78) = true from List.all_eq_true.mp lw_cl_ok _ (List.mem_of_getElem? (i := 30) rfl)) (show lw_chk (83, 174, 1291, 1292, 1293, 92) = true from List.all_eq_true.mp lw_cl_ok _ (List.mem_of_getElem? (i := 31) rfl)) rfl rfl rfl rfl (fun _ => rfl) dL_law_561 dL_law_570 dL_law_573 (by decide) hG hk hm hS hl (fun r H locs cells slots hS5 hW => ?_)
  refine lv_aload_n F.1 F.2.1 dL_law_564 rfl (lv_at hl 2 rfl) ?_
  refine lv_aload_n F.1 F.2.1 dL_law_565 rfl (lv_at hl 0 rfl) ?_
  refine lv_iload_n F.1 F.2.1 dL_law_566 rfl (lv_at hl 3 rfl) ?_
  refine lv_iconst (v := nI 1) F.1 F.2.1 dL_law_567 (by decide) ?_
  refine lv_iadd F.1 F.2.1 dL_law_568 ?_
  rw [nI_add]
  refine va_sld F.1 F.2.1 hX hbl hbA hS5 (z_in (show i + 1 < L by omega) (by omega)) dL_law_569 ?_
  exact hW
theorem lw_k16 (F : lw_Fx p s m c b G ca adK) (hX : va_X b L xs s s.heap) (hbl : b < s.heap.size) (hL : L ≤ 3072) {i : Nat} (hi : i + 6 ≤ L) (hG : lw_G p l e s m b below meth c G ca 974 i) : lw_G p l e s m b below meth c G ca 578 i := by
  intro Z D tx tp so sz it ad1 ad2 h1 h2 H locs ls hk hm hS hl
  have hbA : ¬ (fun q : Nat => s.heap.size ≤ q) b := Nat.not_le.mpr hbl
  have hS5 := hS.2.2.2.2
  refine lv_aload_n F.1 F.2.1 dL_law_578 rfl (lv_at hl 1 rfl) ?_
  refine lv_aload_n F.1 F.2.1 dL_law_579 rfl (lv_at hl 0 rfl) ?_
  refine lv_iload_n F.1 F.2.1 dL_law_580 rfl (lv_at hl 3 rfl) ?_
  refine lv_iconst (v := nI 1) F.1 F.2.1 dL_law_581 (by decide) ?_
  refine lv_iadd F.1 F.2.1 dL_law_582 ?_
  rw [nI_add]
  refine va_sld F.1 F.2.1 hX hbl hbA hS5 (z_in (show i + 1 < L by omega) (by omega)) dL_law_583 ?_
  refine lv_aload_n F.1 F.2.1 dL_law_584 rfl (lv_at hl 0 rfl) ?_
  refine lv_iload_n F.1 F.2.1 dL_law_585 rfl (lv_at hl 3 rfl) ?_
  refine lv_iconst (v := nI 2) F.1 F.2.1 dL_law_586 (by decide) ?_
  refine lv_iadd F.1 F.2.1 dL_law_587 ?_
  rw [nI_add]
  refine va_sld F.1 F.2.1 hX hbl hbA hS5 (z_in (show i + 2 < L by omega) (by omega)) dL_law_588 ?_
  refine lw_two (As := [.int (xs (nI (i + 1)).toNatClampNeg), .int (xs (nI (i + 2)).toNatClampNeg)]) F (lw_o16 _ _) (show lw_chk (84, 100, 798, 799, 800, 78) = true from List.all_eq_true.mp lw_cl_ok _ (List.mem_of_getElem? (i := 32) rfl)) (show lw_chk (87, 178, 1306, 1307, 1308, 92) = true from List.all_eq_true.mp lw_cl_ok _ (List.mem_of_getElem? (i := 33) rfl)) rfl rfl rfl rfl (fun _ => rfl) dL_law_589 dL_law_603 dL_law_606 (by decide) hG hk hm hS hl (fun r H locs cells slots hS5 hW => ?_)
  refine lv_aload_n F.1 F.2.1 dL_law_592 rfl (lv_at hl 2 rfl) ?_
  refine lv_aload_n F.1 F.2.1 dL_law_593 rfl (lv_at hl 0 rfl) ?_
  refine lv_iload_n F.1 F.2.1 dL_law_594 rfl (lv_at hl 3 rfl) ?_
  refine lv_iconst (v := nI 1) F.1 F.2.1 dL_law_595 (by decide) ?_
  refine lv_iadd F.1 F.2.1 dL_law_596 ?_
  rw [nI_add]
  refine va_sld F.1 F.2.1 hX hbl hbA hS5 (z_in (show i + 1 < L by omega) (by omega)) dL_law_597 ?_
  refine lv_aload_n F.1 F.2.1 dL_law_598 rfl (lv_at hl 0 rfl) ?_
  refine lv_iload_n F.1 F.2.1 dL_law_599 rfl (lv_at hl 3 rfl) ?_
  refine lv_iconst (v := nI 2) F.1 F.2.1 dL_law_600 (by decide) ?_
  refine lv_iadd F.1 F.2.1 dL_law_601 ?_
  rw [nI_add]
  refine va_sld F.1 F.2.1 hX hbl hbA hS5 (z_in (show i + 2 < L by omega) (by omega)) dL_law_602 ?_
  exact hW
theorem lw_k17 (F : lw_Fx p s m c b G ca adK) (hX : va_X b L xs s s.heap) (hbl : b < s.heap.size) (hL : L ≤ 3072) {i : Nat} (hi : i + 6 ≤ L) (hG : lw_G p l e s m b below meth c G ca 974 i) : lw_G p l e s m b below meth c G ca 611 i := by
  intro Z D tx tp so sz it ad1 ad2 h1 h2 H locs ls hk hm hS hl
  have hbA : ¬ (fun q : Nat => s.heap.size ≤ q) b := Nat.not_le.mpr hbl
  have hS5 := hS.2.2.2.2
  refine lv_aload_n F.1 F.2.1 dL_law_611 rfl (lv_at hl 1 rfl) ?_
  refine lv_aload_n F.1 F.2.1 dL_law_612 rfl (lv_at hl 0 rfl) ?_
  refine lv_iload_n F.1 F.2.1 dL_law_613 rfl (lv_at hl 3 rfl) ?_
  refine lv_iconst (v := nI 1) F.1 F.2.1 dL_law_614 (by decide) ?_
  refine lv_iadd F.1 F.2.1 dL_law_615 ?_
  rw [nI_add]
  refine va_sld F.1 F.2.1 hX hbl hbA hS5 (z_in (show i + 1 < L by omega) (by omega)) dL_law_616 ?_
  refine lv_aload_n F.1 F.2.1 dL_law_617 rfl (lv_at hl 0 rfl) ?_
  refine lv_iload_n F.1 F.2.1 dL_law_618 rfl (lv_at hl 3 rfl) ?_
  refine lv_iconst (v := nI 2) F.1 F.2.1 dL_law_619 (by decide) ?_
  refine lv_iadd F.1 F.2.1 dL_law_620 ?_
  rw [nI_add]
  refine va_sld F.1 F.2.1 hX hbl hbA hS5 (z_in (show i + 2 < L by omega) (by omega)) dL_law_621 ?_
  refine lw_two (As := [.int (xs (nI (i + 1)).toNatClampNeg), .int (xs (nI (i + 2)).toNatClampNeg)]) F (lw_o17 _ _) (show lw_chk (88, 101, 807, 808, 809, 78) = true from List.all_eq_true.mp lw_cl_ok _ (List.mem_of_getElem? (i := 34) rfl)) (show lw_chk (91, 179, 1310, 1311, 1312, 92) = true from List.all_eq_true.mp lw_cl_ok _ (List.mem_of_getElem? (i := 35) rfl)) rfl rfl rfl rfl (fun _ => rfl) dL_law_622 dL_law_636 dL_law_639 (by decide) hG hk hm hS hl (fun r H locs cells slots hS5 hW => ?_)
  refine lv_aload_n F.1 F.2.1 dL_law_625 rfl (lv_at hl 2 rfl) ?_
  refine lv_aload_n F.1 F.2.1 dL_law_626 rfl (lv_at hl 0 rfl) ?_
  refine lv_iload_n F.1 F.2.1 dL_law_627 rfl (lv_at hl 3 rfl) ?_
  refine lv_iconst (v := nI 1) F.1 F.2.1 dL_law_628 (by decide) ?_
  refine lv_iadd F.1 F.2.1 dL_law_629 ?_
  rw [nI_add]
  refine va_sld F.1 F.2.1 hX hbl hbA hS5 (z_in (show i + 1 < L by omega) (by omega)) dL_law_630 ?_
  refine lv_aload_n F.1 F.2.1 dL_law_631 rfl (lv_at hl 0 rfl) ?_
  refine lv_iload_n F.1 F.2.1 dL_law_632 rfl (lv_at hl 3 rfl) ?_
  refine lv_iconst (v := nI 2) F.1 F.2.1 dL_law_633 (by decide) ?_
  refine lv_iadd F.1 F.2.1 dL_law_634 ?_
  rw [nI_add]
  refine va_sld F.1 F.2.1 hX hbl hbA hS5 (z_in (show i + 2 < L by omega) (by omega)) dL_law_635 ?_
  exact hW
theorem lw_k18 (F : lw_Fx p s m c b G ca adK) (hX : va_X b L xs s s.heap) (hbl : b < s.heap.size) (hL : L ≤ 3072) {i : Nat} (hi : i + 6 ≤ L) (hG : lw_G p l e s m b below meth c G ca 974 i) : lw_G p l e s m b below meth c G ca 644 i := by
  intro Z D tx tp so sz it ad1 ad2 h1 h2 H locs ls hk hm hS hl
  have hbA : ¬ (fun q : Nat => s.heap.size ≤ q) b := Nat.not_le.mpr hbl
  have hS5 := hS.2.2.2.2
  refine lv_aload_n F.1 F.2.1 dL_law_644 rfl (lv_at hl 1 rfl) ?_
  refine lw_two (As := []) F (lw_o18) (show lw_chk (92, 105, 826, 827, 828, 78) = true from List.all_eq_true.mp lw_cl_ok _ (List.mem_of_getElem? (i := 36) rfl)) (show lw_chk (95, 182, 1322, 1323, 1324, 92) = true from List.all_eq_true.mp lw_cl_ok _ (List.mem_of_getElem? (i := 37) rfl)) rfl rfl rfl rfl (fun _ => rfl) dL_law_645 dL_law_649 dL_law_652 (by decide) hG hk hm hS hl (fun r H locs cells slots hS5 hW => ?_)
  refine lv_aload_n F.1 F.2.1 dL_law_648 rfl (lv_at hl 2 rfl) ?_
  exact hW
theorem lw_k19 (F : lw_Fx p s m c b G ca adK) (hX : va_X b L xs s s.heap) (hbl : b < s.heap.size) (hL : L ≤ 3072) {i : Nat} (hi : i + 6 ≤ L) (hG : lw_G p l e s m b below meth c G ca 974 i) : lw_G p l e s m b below meth c G ca 657 i := by
  intro Z D tx tp so sz it ad1 ad2 h1 h2 H locs ls hk hm hS hl
  have hbA : ¬ (fun q : Nat => s.heap.size ≤ q) b := Nat.not_le.mpr hbl
  have hS5 := hS.2.2.2.2
  refine lv_aload_n F.1 F.2.1 dL_law_657 rfl (lv_at hl 1 rfl) ?_
  refine lv_aload_n F.1 F.2.1 dL_law_658 rfl (lv_at hl 0 rfl) ?_
  refine lv_iload_n F.1 F.2.1 dL_law_659 rfl (lv_at hl 3 rfl) ?_
  refine lv_iconst (v := nI 1) F.1 F.2.1 dL_law_660 (by decide) ?_
  refine lv_iadd F.1 F.2.1 dL_law_661 ?_
  rw [nI_add]
  refine va_sld F.1 F.2.1 hX hbl hbA hS5 (z_in (show i + 1 < L by omega) (by omega)) dL_law_662 ?_
  refine lv_aload_n F.1 F.2.1 dL_law_663 rfl (lv_at hl 0 rfl) ?_
  refine lv_iload_n F.1 F.2.1 dL_law_664 rfl (lv_at hl 3 rfl) ?_
  refine lv_iconst (v := nI 2) F.1 F.2.1 dL_law_665 (by decide) ?_
  refine lv_iadd F.1 F.2.1 dL_law_666 ?_
  rw [nI_add]
  refine va_sld F.1 F.2.1 hX hbl hbA hS5 (z_in (show i + 2 < L by omega) (by omega)) dL_law_667 ?_
  refine lw_two (As := [.int (xs (nI (i + 1)).toNatClampNeg), .int (xs (nI (i + 2)).toNatClampNeg)]) F (lw_o19 _ _) (show lw_chk (96, 107, 844, 845, 846, 78) = true from List.all_eq_true.mp lw_cl_ok _ (List.mem_of_getElem? (i := 38) rfl)) (show lw_chk (99, 184, 1329, 1330, 1331, 92) = true from List.all_eq_true.mp lw_cl_ok _ (List.mem_of_getElem? (i := 39) rfl)) rfl rfl rfl rfl (fun _ => rfl) dL_law_668 dL_law_682 dL_law_685 (by decide) hG hk hm hS hl (fun r H locs cells slots hS5 hW => ?_)
  refine lv_aload_n F.1 F.2.1 dL_law_671 rfl (lv_at hl 2 rfl) ?_
  refine lv_aload_n F.1 F.2.1 dL_law_672 rfl (lv_at hl 0 rfl) ?_
  refine lv_iload_n F.1 F.2.1 dL_law_673 rfl (lv_at hl 3 rfl) ?_
  refine lv_iconst (v := nI 1) F.1 F.2.1 dL_law_674 (by decide) ?_
  refine lv_iadd F.1 F.2.1 dL_law_675 ?_
  rw [nI_add]
  refine va_sld F.1 F.2.1 hX hbl hbA hS5 (z_in (show i + 1 < L by omega) (by omega)) dL_law_676 ?_
  refine lv_aload_n F.1 F.2.1 dL_law_677 rfl (lv_at hl 0 rfl) ?_
  refine lv_iload_n F.1 F.2.1 dL_law_678 rfl (lv_at hl 3 rfl) ?_
  refine lv_iconst (v := nI 2) F.1 F.2.1 dL_law_679 (by decide) ?_
  refine lv_iadd F.1 F.2.1 dL_law_680 ?_
  rw [nI_add]
  refine va_sld F.1 F.2.1 hX hbl hbA hS5 (z_in (show i + 2 < L by omega) (by omega)) dL_law_681 ?_
  exact hW
theorem lw_k20 (F : lw_Fx p s m c b G ca adK) (hX : va_X b L xs s s.heap) (hbl : b < s.heap.size) (hL : L ≤ 3072) {i : Nat} (hi : i + 6 ≤ L) (hG : lw_G p l e s m b below meth c G ca 974 i) : lw_G p l e s m b below meth c G ca 690 i := by
  intro Z D tx tp so sz it ad1 ad2 h1 h2 H locs ls hk hm hS hl
  have hbA : ¬ (fun q : Nat => s.heap.size ≤ q) b := Nat.not_le.mpr hbl
  have hS5 := hS.2.2.2.2
  refine lv_aload_n F.1 F.2.1 dL_law_690 rfl (lv_at hl 1 rfl) ?_
  refine lw_two (As := []) F (lw_o20) (show lw_chk (100, 108, 848, 849, 850, 78) = true from List.all_eq_true.mp lw_cl_ok _ (List.mem_of_getElem? (i := 40) rfl)) (show lw_chk (103, 185, 1333, 1334, 1335, 92) = true from List.all_eq_true.mp lw_cl_ok _ (List.mem_of_getElem? (i := 41) rfl)) rfl rfl rfl rfl (fun _ => rfl) dL_law_691 dL_law_695 dL_law_698 (by decide) hG hk hm hS hl (fun r H locs cells slots hS5 hW => ?_)
  refine lv_aload_n F.1 F.2.1 dL_law_694 rfl (lv_at hl 2 rfl) ?_
  exact hW
theorem lw_k21 (F : lw_Fx p s m c b G ca adK) (hX : va_X b L xs s s.heap) (hbl : b < s.heap.size) (hL : L ≤ 3072) {i : Nat} (hi : i + 6 ≤ L) (hG : lw_G p l e s m b below meth c G ca 974 i) : lw_G p l e s m b below meth c G ca 703 i := by
  intro Z D tx tp so sz it ad1 ad2 h1 h2 H locs ls hk hm hS hl
  have hbA : ¬ (fun q : Nat => s.heap.size ≤ q) b := Nat.not_le.mpr hbl
  have hS5 := hS.2.2.2.2
  refine lv_aload_n F.1 F.2.1 dL_law_703 rfl (lv_at hl 1 rfl) ?_
  refine lw_two (As := []) F (lw_o21) (show lw_chk (104, 109, 852, 853, 854, 78) = true from List.all_eq_true.mp lw_cl_ok _ (List.mem_of_getElem? (i := 42) rfl)) (show lw_chk (107, 186, 1337, 1338, 1339, 92) = true from List.all_eq_true.mp lw_cl_ok _ (List.mem_of_getElem? (i := 43) rfl)) rfl rfl rfl rfl (fun _ => rfl) dL_law_704 dL_law_708 dL_law_711 (by decide) hG hk hm hS hl (fun r H locs cells slots hS5 hW => ?_)
  refine lv_aload_n F.1 F.2.1 dL_law_707 rfl (lv_at hl 2 rfl) ?_
  exact hW
theorem lw_k22 (F : lw_Fx p s m c b G ca adK) (hX : va_X b L xs s s.heap) (hbl : b < s.heap.size) (hL : L ≤ 3072) {i : Nat} (hi : i + 6 ≤ L) (hG : lw_G p l e s m b below meth c G ca 974 i) : lw_G p l e s m b below meth c G ca 716 i := by
  intro Z D tx tp so sz it ad1 ad2 h1 h2 H locs ls hk hm hS hl
  have hbA : ¬ (fun q : Nat => s.heap.size ≤ q) b := Nat.not_le.mpr hbl
  have hS5 := hS.2.2.2.2
  refine lv_aload_n F.1 F.2.1 dL_law_716 rfl (lv_at hl 1 rfl) ?_
  refine lv_aload_n F.1 F.2.1 dL_law_717 rfl (lv_at hl 0 rfl) ?_
  refine lv_iload_n F.1 F.2.1 dL_law_718 rfl (lv_at hl 3 rfl) ?_
  refine lv_iconst (v := nI 1) F.1 F.2.1 dL_law_719 (by decide) ?_
  refine lv_iadd F.1 F.2.1 dL_law_720 ?_
  rw [nI_add]
  refine va_sld F.1 F.2.1 hX hbl hbA hS5 (z_in (show i + 1 < L by omega) (by omega)) dL_law_721 ?_
  refine lw_two (As := [.int (xs (nI (i + 1)).toNatClampNeg)]) F (lw_o22 _) (show lw_chk (108, 110, 856, 857, 858, 78) = true from List.all_eq_true.mp lw_cl_ok _ (List.mem_of_getElem? (i := 44) rfl)) (show lw_chk (111, 187, 1341, 1342, 1343, 92) = true from List.all_eq_true.mp lw_cl_ok _ (List.mem_of_getElem? (i := 45) rfl)) rfl rfl rfl rfl (fun _ => rfl) dL_law_722 dL_law_731 dL_law_734 (by decide) hG hk hm hS hl (fun r H locs cells slots hS5 hW => ?_)
  refine lv_aload_n F.1 F.2.1 dL_law_725 rfl (lv_at hl 2 rfl) ?_
  refine lv_aload_n F.1 F.2.1 dL_law_726 rfl (lv_at hl 0 rfl) ?_
  refine lv_iload_n F.1 F.2.1 dL_law_727 rfl (lv_at hl 3 rfl) ?_
  refine lv_iconst (v := nI 1) F.1 F.2.1 dL_law_728 (by decide) ?_
  refine lv_iadd F.1 F.2.1 dL_law_729 ?_
  rw [nI_add]
  refine va_sld F.1 F.2.1 hX hbl hbA hS5 (z_in (show i + 1 < L by omega) (by omega)) dL_law_730 ?_
  exact hW
theorem lw_k23 (F : lw_Fx p s m c b G ca adK) (hX : va_X b L xs s s.heap) (hbl : b < s.heap.size) (hL : L ≤ 3072) {i : Nat} (hi : i + 6 ≤ L) (hG : lw_G p l e s m b below meth c G ca 974 i) : lw_G p l e s m b below meth c G ca 739 i := by
  intro Z D tx tp so sz it ad1 ad2 h1 h2 H locs ls hk hm hS hl
  have hbA : ¬ (fun q : Nat => s.heap.size ≤ q) b := Nat.not_le.mpr hbl
  have hS5 := hS.2.2.2.2
  refine lv_aload_n F.1 F.2.1 dL_law_739 rfl (lv_at hl 1 rfl) ?_
  refine lv_aload_n F.1 F.2.1 dL_law_740 rfl (lv_at hl 0 rfl) ?_
  refine lv_iload_n F.1 F.2.1 dL_law_741 rfl (lv_at hl 3 rfl) ?_
  refine lv_iconst (v := nI 1) F.1 F.2.1 dL_law_742 (by decide) ?_
  refine lv_iadd F.1 F.2.1 dL_law_743 ?_
  rw [nI_add]
  refine va_sld F.1 F.2.1 hX hbl hbA hS5 (z_in (show i + 1 < L by omega) (by omega)) dL_law_744 ?_
  refine lv_aload_n F.1 F.2.1 dL_law_745 rfl (lv_at hl 0 rfl) ?_
  refine lv_iload_n F.1 F.2.1 dL_law_746 rfl (lv_at hl 3 rfl) ?_
  refine lv_iconst (v := nI 2) F.1 F.2.1 dL_law_747 (by decide) ?_
  refine lv_iadd F.1 F.2.1 dL_law_748 ?_
  rw [nI_add]
  refine va_sld F.1 F.2.1 hX hbl hbA hS5 (z_in (show i + 2 < L by omega) (by omega)) dL_law_749 ?_
  refine lv_aload_n F.1 F.2.1 dL_law_750 rfl (lv_at hl 0 rfl) ?_
  refine lv_iload_n F.1 F.2.1 dL_law_751 rfl (lv_at hl 3 rfl) ?_
  refine lv_iconst (v := nI 3) F.1 F.2.1 dL_law_752 (by decide) ?_
  refine lv_iadd F.1 F.2.1 dL_law_753 ?_
  rw [nI_add]
  refine va_sld F.1 F.2.1 hX hbl hbA hS5 (z_in (show i + 3 < L by omega) (by omega)) dL_law_754 ?_
  refine lw_two (As := [.int (xs (nI (i + 1)).toNatClampNeg), .int (xs (nI (i + 2)).toNatClampNeg), .int (xs (nI (i + 3)).toNatClampNeg)]) F (lw_o23 _ _ _) (show lw_chk (112, 111, 861, 862, 863, 78) = true from List.all_eq_true.mp lw_cl_ok _ (List.mem_of_getElem? (i := 46) rfl)) (show lw_chk (115, 188, 1345, 1346, 1347, 92) = true from List.all_eq_true.mp lw_cl_ok _ (List.mem_of_getElem? (i := 47) rfl)) rfl rfl rfl rfl (fun _ => rfl) dL_law_755 dL_law_774 dL_law_777 (by decide) hG hk hm hS hl (fun r H locs cells slots hS5 hW => ?_)
  refine lv_aload_n F.1 F.2.1 dL_law_758 rfl (lv_at hl 2 rfl) ?_
  refine lv_aload_n F.1 F.2.1 dL_law_759 rfl (lv_at hl 0 rfl) ?_
  refine lv_iload_n F.1 F.2.1 dL_law_760 rfl (lv_at hl 3 rfl) ?_
  refine lv_iconst (v := nI 1) F.1 F.2.1 dL_law_761 (by decide) ?_
  refine lv_iadd F.1 F.2.1 dL_law_762 ?_
  rw [nI_add]
  refine va_sld F.1 F.2.1 hX hbl hbA hS5 (z_in (show i + 1 < L by omega) (by omega)) dL_law_763 ?_
  refine lv_aload_n F.1 F.2.1 dL_law_764 rfl (lv_at hl 0 rfl) ?_
  refine lv_iload_n F.1 F.2.1 dL_law_765 rfl (lv_at hl 3 rfl) ?_
  refine lv_iconst (v := nI 2) F.1 F.2.1 dL_law_766 (by decide) ?_
  refine lv_iadd F.1 F.2.1 dL_law_767 ?_
  rw [nI_add]
  refine va_sld F.1 F.2.1 hX hbl hbA hS5 (z_in (show i + 2 < L by omega) (by omega)) dL_law_768 ?_
  refine lv_aload_n F.1 F.2.1 dL_law_769 rfl (lv_at hl 0 rfl) ?_
  refine lv_iload_n F.1 F.2.1 dL_law_770 rfl (lv_at hl 3 rfl) ?_
  refine lv_iconst (v := nI 3) F.1 F.2.1 dL_law_771 (by decide) ?_
  refine lv_iadd F.1 F.2.1 dL_law_772 ?_
  rw [nI_add]
  refine va_sld F.1 F.2.1 hX hbl hbA hS5 (z_in (show i + 3 < L by omega) (by omega)) dL_law_773 ?_
  exact hW
theorem lw_k24 (F : lw_Fx p s m c b G ca adK) (hX : va_X b L xs s s.heap) (hbl : b < s.heap.size) (hL : L ≤ 3072) {i : Nat} (hi : i + 6 ≤ L) (hG : lw_G p l e s m b below meth c G ca 974 i) : lw_G p l e s m b below meth c G ca 782 i := by
  intro Z D tx tp so sz it ad1 ad2 h1 h2 H locs ls hk hm hS hl
  have hbA : ¬ (fun q : Nat => s.heap.size ≤ q) b := Nat.not_le.mpr hbl
  have hS5 := hS.2.2.2.2
  refine lv_aload_n F.1 F.2.1 dL_law_782 rfl (lv_at hl 1 rfl) ?_
  refine lv_aload_n F.1 F.2.1 dL_law_783 rfl (lv_at hl 0 rfl) ?_
  refine lv_iload_n F.1 F.2.1 dL_law_784 rfl (lv_at hl 3 rfl) ?_
  refine lv_iconst (v := nI 1) F.1 F.2.1 dL_law_785 (by decide) ?_
  refine lv_iadd F.1 F.2.1 dL_law_786 ?_
  rw [nI_add]
  refine va_sld F.1 F.2.1 hX hbl hbA hS5 (z_in (show i + 1 < L by omega) (by omega)) dL_law_787 ?_
  refine lv_aload_n F.1 F.2.1 dL_law_788 rfl (lv_at hl 0 rfl) ?_
  refine lv_iload_n F.1 F.2.1 dL_law_789 rfl (lv_at hl 3 rfl) ?_
  refine lv_iconst (v := nI 2) F.1 F.2.1 dL_law_790 (by decide) ?_
  refine lv_iadd F.1 F.2.1 dL_law_791 ?_
  rw [nI_add]
  refine va_sld F.1 F.2.1 hX hbl hbA hS5 (z_in (show i + 2 < L by omega) (by omega)) dL_law_792 ?_
  refine lv_aload_n F.1 F.2.1 dL_law_793 rfl (lv_at hl 0 rfl) ?_
  refine lv_iload_n F.1 F.2.1 dL_law_794 rfl (lv_at hl 3 rfl) ?_
  refine lv_iconst (v := nI 3) F.1 F.2.1 dL_law_795 (by decide) ?_
  refine lv_iadd F.1 F.2.1 dL_law_796 ?_
  rw [nI_add]
  refine va_sld F.1 F.2.1 hX hbl hbA hS5 (z_in (show i + 3 < L by omega) (by omega)) dL_law_797 ?_
  refine lw_two (As := [.int (xs (nI (i + 1)).toNatClampNeg), .int (xs (nI (i + 2)).toNatClampNeg), .int (xs (nI (i + 3)).toNatClampNeg)]) F (lw_o24 _ _ _) (show lw_chk (116, 112, 872, 873, 874, 78) = true from List.all_eq_true.mp lw_cl_ok _ (List.mem_of_getElem? (i := 48) rfl)) (show lw_chk (119, 189, 1351, 1352, 1353, 92) = true from List.all_eq_true.mp lw_cl_ok _ (List.mem_of_getElem? (i := 49) rfl)) rfl rfl rfl rfl (fun _ => rfl) dL_law_798 dL_law_817 dL_law_820 (by decide) hG hk hm hS hl (fun r H locs cells slots hS5 hW => ?_)
  refine lv_aload_n F.1 F.2.1 dL_law_801 rfl (lv_at hl 2 rfl) ?_
  refine lv_aload_n F.1 F.2.1 dL_law_802 rfl (lv_at hl 0 rfl) ?_
  refine lv_iload_n F.1 F.2.1 dL_law_803 rfl (lv_at hl 3 rfl) ?_
  refine lv_iconst (v := nI 1) F.1 F.2.1 dL_law_804 (by decide) ?_
  refine lv_iadd F.1 F.2.1 dL_law_805 ?_
  rw [nI_add]
  refine va_sld F.1 F.2.1 hX hbl hbA hS5 (z_in (show i + 1 < L by omega) (by omega)) dL_law_806 ?_
  refine lv_aload_n F.1 F.2.1 dL_law_807 rfl (lv_at hl 0 rfl) ?_
  refine lv_iload_n F.1 F.2.1 dL_law_808 rfl (lv_at hl 3 rfl) ?_
  refine lv_iconst (v := nI 2) F.1 F.2.1 dL_law_809 (by decide) ?_
  refine lv_iadd F.1 F.2.1 dL_law_810 ?_
  rw [nI_add]
  refine va_sld F.1 F.2.1 hX hbl hbA hS5 (z_in (show i + 2 < L by omega) (by omega)) dL_law_811 ?_
  refine lv_aload_n F.1 F.2.1 dL_law_812 rfl (lv_at hl 0 rfl) ?_
  refine lv_iload_n F.1 F.2.1 dL_law_813 rfl (lv_at hl 3 rfl) ?_
  refine lv_iconst (v := nI 3) F.1 F.2.1 dL_law_814 (by decide) ?_
  refine lv_iadd F.1 F.2.1 dL_law_815 ?_
  rw [nI_add]
  refine va_sld F.1 F.2.1 hX hbl hbA hS5 (z_in (show i + 3 < L by omega) (by omega)) dL_law_816 ?_
  exact hW
theorem lw_k25 (F : lw_Fx p s m c b G ca adK) (hX : va_X b L xs s s.heap) (hbl : b < s.heap.size) (hL : L ≤ 3072) {i : Nat} (hi : i + 6 ≤ L) (hG : lw_G p l e s m b below meth c G ca 974 i) : lw_G p l e s m b below meth c G ca 825 i := by
  intro Z D tx tp so sz it ad1 ad2 h1 h2 H locs ls hk hm hS hl
  have hbA : ¬ (fun q : Nat => s.heap.size ≤ q) b := Nat.not_le.mpr hbl
  have hS5 := hS.2.2.2.2
  refine lv_aload_n F.1 F.2.1 dL_law_825 rfl (lv_at hl 1 rfl) ?_
  refine lv_aload_n F.1 F.2.1 dL_law_826 rfl (lv_at hl 0 rfl) ?_
  refine lv_iload_n F.1 F.2.1 dL_law_827 rfl (lv_at hl 3 rfl) ?_
  refine lv_iconst (v := nI 1) F.1 F.2.1 dL_law_828 (by decide) ?_
  refine lv_iadd F.1 F.2.1 dL_law_829 ?_
  rw [nI_add]
  refine va_sld F.1 F.2.1 hX hbl hbA hS5 (z_in (show i + 1 < L by omega) (by omega)) dL_law_830 ?_
  refine lv_aload_n F.1 F.2.1 dL_law_831 rfl (lv_at hl 0 rfl) ?_
  refine lv_iload_n F.1 F.2.1 dL_law_832 rfl (lv_at hl 3 rfl) ?_
  refine lv_iconst (v := nI 2) F.1 F.2.1 dL_law_833 (by decide) ?_
  refine lv_iadd F.1 F.2.1 dL_law_834 ?_
  rw [nI_add]
  refine va_sld F.1 F.2.1 hX hbl hbA hS5 (z_in (show i + 2 < L by omega) (by omega)) dL_law_835 ?_
  refine lv_aload_n F.1 F.2.1 dL_law_836 rfl (lv_at hl 0 rfl) ?_
  refine lv_iload_n F.1 F.2.1 dL_law_837 rfl (lv_at hl 3 rfl) ?_
  refine lv_iconst (v := nI 3) F.1 F.2.1 dL_law_838 (by decide) ?_
  refine lv_iadd F.1 F.2.1 dL_law_839 ?_
  rw [nI_add]
  refine va_sld F.1 F.2.1 hX hbl hbA hS5 (z_in (show i + 3 < L by omega) (by omega)) dL_law_840 ?_
  refine lv_aload_n F.1 F.2.1 dL_law_841 rfl (lv_at hl 0 rfl) ?_
  refine lv_iload_n F.1 F.2.1 dL_law_842 rfl (lv_at hl 3 rfl) ?_
  refine lv_iconst (v := nI 4) F.1 F.2.1 dL_law_843 (by decide) ?_
  refine lv_iadd F.1 F.2.1 dL_law_844 ?_
  rw [nI_add]
  refine va_sld F.1 F.2.1 hX hbl hbA hS5 (z_in (show i + 4 < L by omega) (by omega)) dL_law_845 ?_
  refine lv_aload_n F.1 F.2.1 dL_law_846 rfl (lv_at hl 0 rfl) ?_
  refine lv_iload_n F.1 F.2.1 dL_law_847 rfl (lv_at hl 3 rfl) ?_
  refine lv_iconst (v := nI 5) F.1 F.2.1 dL_law_848 (by decide) ?_
  refine lv_iadd F.1 F.2.1 dL_law_849 ?_
  rw [nI_add]
  refine va_sld F.1 F.2.1 hX hbl hbA hS5 (z_in (show i + 5 < L by omega) (by omega)) dL_law_850 ?_
  refine lw_two (As := [.int (xs (nI (i + 1)).toNatClampNeg), .int (xs (nI (i + 2)).toNatClampNeg), .int (xs (nI (i + 3)).toNatClampNeg), .int (xs (nI (i + 4)).toNatClampNeg), .int (xs (nI (i + 5)).toNatClampNeg)]) F (lw_o25 _ _ _ _ _) (show lw_chk (120, 113, 881, 882, 883, 78) = true from List.all_eq_true.mp lw_cl_ok _ (List.mem_of_getElem? (i := 50) rfl)) (show lw_chk (124, 190, 1355, 1356, 1357, 92) = true from List.all_eq_true.mp lw_cl_ok _ (List.mem_of_getElem? (i := 51) rfl)) rfl rfl rfl rfl (fun _ => rfl) dL_law_851 dL_law_880 dL_law_883 (by decide) hG hk hm hS hl (fun r H locs cells slots hS5 hW => ?_)
  refine lv_aload_n F.1 F.2.1 dL_law_854 rfl (lv_at hl 2 rfl) ?_
  refine lv_aload_n F.1 F.2.1 dL_law_855 rfl (lv_at hl 0 rfl) ?_
  refine lv_iload_n F.1 F.2.1 dL_law_856 rfl (lv_at hl 3 rfl) ?_
  refine lv_iconst (v := nI 1) F.1 F.2.1 dL_law_857 (by decide) ?_
  refine lv_iadd F.1 F.2.1 dL_law_858 ?_
  rw [nI_add]
  refine va_sld F.1 F.2.1 hX hbl hbA hS5 (z_in (show i + 1 < L by omega) (by omega)) dL_law_859 ?_
  refine lv_aload_n F.1 F.2.1 dL_law_860 rfl (lv_at hl 0 rfl) ?_
  refine lv_iload_n F.1 F.2.1 dL_law_861 rfl (lv_at hl 3 rfl) ?_
  refine lv_iconst (v := nI 2) F.1 F.2.1 dL_law_862 (by decide) ?_
  refine lv_iadd F.1 F.2.1 dL_law_863 ?_
  rw [nI_add]
  refine va_sld F.1 F.2.1 hX hbl hbA hS5 (z_in (show i + 2 < L by omega) (by omega)) dL_law_864 ?_
  refine lv_aload_n F.1 F.2.1 dL_law_865 rfl (lv_at hl 0 rfl) ?_
  refine lv_iload_n F.1 F.2.1 dL_law_866 rfl (lv_at hl 3 rfl) ?_
  refine lv_iconst (v := nI 3) F.1 F.2.1 dL_law_867 (by decide) ?_
  refine lv_iadd F.1 F.2.1 dL_law_868 ?_
  rw [nI_add]
  refine va_sld F.1 F.2.1 hX hbl hbA hS5 (z_in (show i + 3 < L by omega) (by omega)) dL_law_869 ?_
  refine lv_aload_n F.1 F.2.1 dL_law_870 rfl (lv_at hl 0 rfl) ?_
  refine lv_iload_n F.1 F.2.1 dL_law_871 rfl (lv_at hl 3 rfl) ?_
  refine lv_iconst (v := nI 4) F.1 F.2.1 dL_law_872 (by decide) ?_
  refine lv_iadd F.1 F.2.1 dL_law_873 ?_
  rw [nI_add]
  refine va_sld F.1 F.2.1 hX hbl hbA hS5 (z_in (show i + 4 < L by omega) (by omega)) dL_law_874 ?_
  refine lv_aload_n F.1 F.2.1 dL_law_875 rfl (lv_at hl 0 rfl) ?_
  refine lv_iload_n F.1 F.2.1 dL_law_876 rfl (lv_at hl 3 rfl) ?_
  refine lv_iconst (v := nI 5) F.1 F.2.1 dL_law_877 (by decide) ?_
  refine lv_iadd F.1 F.2.1 dL_law_878 ?_
  rw [nI_add]
  refine va_sld F.1 F.2.1 hX hbl hbA hS5 (z_in (show i + 5 < L by omega) (by omega)) dL_law_879 ?_
  exact hW
theorem lw_k26 (F : lw_Fx p s m c b G ca adK) (hX : va_X b L xs s s.heap) (hbl : b < s.heap.size) (hL : L ≤ 3072) {i : Nat} (hi : i + 6 ≤ L) (hG : lw_G p l e s m b below meth c G ca 974 i) : lw_G p l e s m b below meth c G ca 888 i := by
  intro Z D tx tp so sz it ad1 ad2 h1 h2 H locs ls hk hm hS hl
  have hbA : ¬ (fun q : Nat => s.heap.size ≤ q) b := Nat.not_le.mpr hbl
  have hS5 := hS.2.2.2.2
  refine lv_aload_n F.1 F.2.1 dL_law_888 rfl (lv_at hl 1 rfl) ?_
  refine lv_aload_n F.1 F.2.1 dL_law_889 rfl (lv_at hl 0 rfl) ?_
  refine lv_iload_n F.1 F.2.1 dL_law_890 rfl (lv_at hl 3 rfl) ?_
  refine lv_iconst (v := nI 1) F.1 F.2.1 dL_law_891 (by decide) ?_
  refine lv_iadd F.1 F.2.1 dL_law_892 ?_
  rw [nI_add]
  refine va_sld F.1 F.2.1 hX hbl hbA hS5 (z_in (show i + 1 < L by omega) (by omega)) dL_law_893 ?_
  refine lv_aload_n F.1 F.2.1 dL_law_894 rfl (lv_at hl 0 rfl) ?_
  refine lv_iload_n F.1 F.2.1 dL_law_895 rfl (lv_at hl 3 rfl) ?_
  refine lv_iconst (v := nI 2) F.1 F.2.1 dL_law_896 (by decide) ?_
  refine lv_iadd F.1 F.2.1 dL_law_897 ?_
  rw [nI_add]
  refine va_sld F.1 F.2.1 hX hbl hbA hS5 (z_in (show i + 2 < L by omega) (by omega)) dL_law_898 ?_
  refine lv_aload_n F.1 F.2.1 dL_law_899 rfl (lv_at hl 0 rfl) ?_
  refine lv_iload_n F.1 F.2.1 dL_law_900 rfl (lv_at hl 3 rfl) ?_
  refine lv_iconst (v := nI 3) F.1 F.2.1 dL_law_901 (by decide) ?_
  refine lv_iadd F.1 F.2.1 dL_law_902 ?_
  rw [nI_add]
  refine va_sld F.1 F.2.1 hX hbl hbA hS5 (z_in (show i + 3 < L by omega) (by omega)) dL_law_903 ?_
  refine lv_aload_n F.1 F.2.1 dL_law_904 rfl (lv_at hl 0 rfl) ?_
  refine lv_iload_n F.1 F.2.1 dL_law_905 rfl (lv_at hl 3 rfl) ?_
  refine lv_iconst (v := nI 4) F.1 F.2.1 dL_law_906 (by decide) ?_
  refine lv_iadd F.1 F.2.1 dL_law_907 ?_
  rw [nI_add]
  refine va_sld F.1 F.2.1 hX hbl hbA hS5 (z_in (show i + 4 < L by omega) (by omega)) dL_law_908 ?_
  refine lw_two (As := [.int (xs (nI (i + 1)).toNatClampNeg), .int (xs (nI (i + 2)).toNatClampNeg), .int (xs (nI (i + 3)).toNatClampNeg), .int (xs (nI (i + 4)).toNatClampNeg)]) F (lw_o26 _ _ _ _) (show lw_chk (125, 114, 892, 893, 894, 78) = true from List.all_eq_true.mp lw_cl_ok _ (List.mem_of_getElem? (i := 52) rfl)) (show lw_chk (129, 191, 1359, 1360, 1361, 92) = true from List.all_eq_true.mp lw_cl_ok _ (List.mem_of_getElem? (i := 53) rfl)) rfl rfl rfl rfl (fun _ => rfl) dL_law_909 dL_law_933 dL_law_936 (by decide) hG hk hm hS hl (fun r H locs cells slots hS5 hW => ?_)
  refine lv_aload_n F.1 F.2.1 dL_law_912 rfl (lv_at hl 2 rfl) ?_
  refine lv_aload_n F.1 F.2.1 dL_law_913 rfl (lv_at hl 0 rfl) ?_
  refine lv_iload_n F.1 F.2.1 dL_law_914 rfl (lv_at hl 3 rfl) ?_
  refine lv_iconst (v := nI 1) F.1 F.2.1 dL_law_915 (by decide) ?_
  refine lv_iadd F.1 F.2.1 dL_law_916 ?_
  rw [nI_add]
  refine va_sld F.1 F.2.1 hX hbl hbA hS5 (z_in (show i + 1 < L by omega) (by omega)) dL_law_917 ?_
  refine lv_aload_n F.1 F.2.1 dL_law_918 rfl (lv_at hl 0 rfl) ?_
  refine lv_iload_n F.1 F.2.1 dL_law_919 rfl (lv_at hl 3 rfl) ?_
  refine lv_iconst (v := nI 2) F.1 F.2.1 dL_law_920 (by decide) ?_
  refine lv_iadd F.1 F.2.1 dL_law_921 ?_
  rw [nI_add]
  refine va_sld F.1 F.2.1 hX hbl hbA hS5 (z_in (show i + 2 < L by omega) (by omega)) dL_law_922 ?_
  refine lv_aload_n F.1 F.2.1 dL_law_923 rfl (lv_at hl 0 rfl) ?_
  refine lv_iload_n F.1 F.2.1 dL_law_924 rfl (lv_at hl 3 rfl) ?_
  refine lv_iconst (v := nI 3) F.1 F.2.1 dL_law_925 (by decide) ?_
  refine lv_iadd F.1 F.2.1 dL_law_926 ?_
  rw [nI_add]
  refine va_sld F.1 F.2.1 hX hbl hbA hS5 (z_in (show i + 3 < L by omega) (by omega)) dL_law_927 ?_
  refine lv_aload_n F.1 F.2.1 dL_law_928 rfl (lv_at hl 0 rfl) ?_
  refine lv_iload_n F.1 F.2.1 dL_law_929 rfl (lv_at hl 3 rfl) ?_
  refine lv_iconst (v := nI 4) F.1 F.2.1 dL_law_930 (by decide) ?_
  refine lv_iadd F.1 F.2.1 dL_law_931 ?_
  rw [nI_add]
  refine va_sld F.1 F.2.1 hX hbl hbA hS5 (z_in (show i + 4 < L by omega) (by omega)) dL_law_932 ?_
  exact hW
theorem lw_k27 (F : lw_Fx p s m c b G ca adK) (hX : va_X b L xs s s.heap) (hbl : b < s.heap.size) (hL : L ≤ 3072) {i : Nat} (hi : i + 6 ≤ L) (hG : lw_G p l e s m b below meth c G ca 974 i) : lw_G p l e s m b below meth c G ca 941 i := by
  intro Z D tx tp so sz it ad1 ad2 h1 h2 H locs ls hk hm hS hl
  have hbA : ¬ (fun q : Nat => s.heap.size ≤ q) b := Nat.not_le.mpr hbl
  have hS5 := hS.2.2.2.2
  refine lv_aload_n F.1 F.2.1 dL_law_941 rfl (lv_at hl 1 rfl) ?_
  refine lv_aload_n F.1 F.2.1 dL_law_942 rfl (lv_at hl 0 rfl) ?_
  refine lv_iload_n F.1 F.2.1 dL_law_943 rfl (lv_at hl 3 rfl) ?_
  refine lv_iconst (v := nI 1) F.1 F.2.1 dL_law_944 (by decide) ?_
  refine lv_iadd F.1 F.2.1 dL_law_945 ?_
  rw [nI_add]
  refine va_sld F.1 F.2.1 hX hbl hbA hS5 (z_in (show i + 1 < L by omega) (by omega)) dL_law_946 ?_
  refine lv_aload_n F.1 F.2.1 dL_law_947 rfl (lv_at hl 0 rfl) ?_
  refine lv_iload_n F.1 F.2.1 dL_law_948 rfl (lv_at hl 3 rfl) ?_
  refine lv_iconst (v := nI 2) F.1 F.2.1 dL_law_949 (by decide) ?_
  refine lv_iadd F.1 F.2.1 dL_law_950 ?_
  rw [nI_add]
  refine va_sld F.1 F.2.1 hX hbl hbA hS5 (z_in (show i + 2 < L by omega) (by omega)) dL_law_951 ?_
  refine lw_two (As := [.int (xs (nI (i + 1)).toNatClampNeg), .int (xs (nI (i + 2)).toNatClampNeg)]) F (lw_o27 _ _) (show lw_chk (130, 115, 897, 898, 899, 78) = true from List.all_eq_true.mp lw_cl_ok _ (List.mem_of_getElem? (i := 54) rfl)) (show lw_chk (133, 192, 1365, 1366, 1367, 92) = true from List.all_eq_true.mp lw_cl_ok _ (List.mem_of_getElem? (i := 55) rfl)) rfl rfl rfl rfl (fun _ => rfl) dL_law_952 dL_law_966 dL_law_969 (by decide) hG hk hm hS hl (fun r H locs cells slots hS5 hW => ?_)
  refine lv_aload_n F.1 F.2.1 dL_law_955 rfl (lv_at hl 2 rfl) ?_
  refine lv_aload_n F.1 F.2.1 dL_law_956 rfl (lv_at hl 0 rfl) ?_
  refine lv_iload_n F.1 F.2.1 dL_law_957 rfl (lv_at hl 3 rfl) ?_
  refine lv_iconst (v := nI 1) F.1 F.2.1 dL_law_958 (by decide) ?_
  refine lv_iadd F.1 F.2.1 dL_law_959 ?_
  rw [nI_add]
  refine va_sld F.1 F.2.1 hX hbl hbA hS5 (z_in (show i + 1 < L by omega) (by omega)) dL_law_960 ?_
  refine lv_aload_n F.1 F.2.1 dL_law_961 rfl (lv_at hl 0 rfl) ?_
  refine lv_iload_n F.1 F.2.1 dL_law_962 rfl (lv_at hl 3 rfl) ?_
  refine lv_iconst (v := nI 2) F.1 F.2.1 dL_law_963 (by decide) ?_
  refine lv_iadd F.1 F.2.1 dL_law_964 ?_
  rw [nI_add]
  refine va_sld F.1 F.2.1 hX hbl hbA hS5 (z_in (show i + 2 < L by omega) (by omega)) dL_law_965 ?_
  exact hW
end
