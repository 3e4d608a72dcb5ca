/-! the law -/
def lwE (E : sx_E) (b L : Nat) (xs : Nat → Int32) : Prop := True ∧ sx_scr E b L xs ∧ sx_R E = room_1
theorem nm_I {r : Option sx_V} {v : Int} (h : r = some (sx_I v)) : ∃ q, r = some (sx_I q) ∧ q = v := ⟨v, h, rfl⟩
theorem nm_J {r : Option sx_V} {v : Int} (h : r = some (sx_J v)) : ∃ q, r = some (sx_J q) ∧ q = v := ⟨v, h, rfl⟩
theorem mid_budget {M Ma : sx_M0} {x : Int} (a2 : Ma = if 0 ≤ x ∧ x ≤ 10000000 then sx_up (sx_up M 1 2 x) 0 5 0 else M) : Ma 53 = M 53 := by
  by_cases c : 0 ≤ x ∧ x ≤ 10000000
  · rw [a2, if_pos c, sx_up_ne (by decide), sx_up_ne (by decide)]
  · rw [a2, if_neg c]
theorem mid_years {M Ma : sx_M0} {k x : Int} (h : rl M) (h1 : (1 ≤ k ∧ k ≤ 6 ∧ loP M Ma k.toNat x) ∨ (¬ (1 ≤ k ∧ k ≤ 6) ∧ x = -1 ∧ Ma = M)) : tw Ma ∧ rT Ma := by
  rcases h1 with ⟨a1, a2, a3⟩ | ⟨_, _, a3⟩
  · obtain ⟨c1, c2⟩ := lo_ci h.1 (by omega) a3
    exact mid_T h (fun a ha => c2 a (by omega))
  · rw [a3]
    exact ⟨h.1.1, h.2.1⟩
theorem mid_sc {M Ma : sx_M0} (h : rl M) (hs : sc M Ma) : tw Ma ∧ rT Ma := mid_T h (fun a ha => hs.1 a (by omega))
theorem rl_B {M : sx_M0} (h : rl M) : ∀ p, p < 5 → M 61 p = 0 ∨ M 61 p = 1 := fun p hp => by
  rw [(h.2.1.2.2.2.2.2.2 p hp).2.2.2.2.2]
  exact h.1.1.2.2.2.2.2.2.2.2.2.2.2 p hp
set_option maxRecDepth 100000 in
set_option maxHeartbeats 4000000 in
theorem lwc_0 {E : sx_E} (C : sx_C SC g_tbl "SiteChoiceLaw" code E) {b L : Nat} {xs : Nat → Int32} (Rr : lwE E b L xs) {M : sx_M0} (h : rl M) {i : Nat} (hi : i + 9 ≤ L) (kk : ∀ M', rl M' → sx_X SC E (71, 1403) GL M' 911 [(3, sx_I (((i : Nat) : Int))), (2, sx_A (53)), (1, sx_A (0)), (0, sx_B (b))] []) : sx_X SC E (71, 1403) GL M 124 [(3, sx_I (((i : Nat) : Int))), (2, sx_A (53)), (1, sx_A (0)), (0, sx_B (b))] [] := by
  refine sx_aload_n C 2 d_La_law_124 rfl rfl ?_
  refine sx_bload_n C 3 d_La_law_125 rfl rfl ?_
  refine sx_iload_n C 0 d_La_law_126 rfl rfl ?_
  refine sx_iconst C d_La_law_127 ?_
  refine sx_iadd C d_La_law_128 ?_
  refine sx_sld C Rr.2.1 (i + 1) (by omega) (by omega) d_La_law_129 ?_
  refine sx_i2l C (sx_i32 _) d_La_law_130 ?_
  refine sx_bipush C d_La_law_131 (by decide) ?_
  refine sx_lshl C d_La_law_133 ?_
  refine sx_bload_n C 3 d_La_law_134 rfl rfl ?_
  refine sx_iload_n C 0 d_La_law_135 rfl rfl ?_
  refine sx_iconst C d_La_law_136 ?_
  refine sx_iadd C d_La_law_137 ?_
  refine sx_sld C Rr.2.1 (i + 2) (by omega) (by omega) d_La_law_138 ?_
  refine sx_i2l C (sx_i32 _) d_La_law_139 ?_
  refine sx_ldc2 (v := (4294967295)) C (4294967295) (tb_ 767 (by decide +kernel) rfl) (by decide) d_La_law_140 ?_
  refine sx_land C d_La_law_143 ?_
  refine sx_lor C d_La_law_144 ?_
  refine sx_callV (n := 71) (As := [sx_J (sx_lo (sx_lsh ((xs (i + 1)).toInt) 32) (sx_lan ((xs (i + 2)).toInt) 4294967295))]) (st := []) C (ct_Si_district _ _ _ (M) h.1 (sx_lo (sx_lsh ((xs (i + 1)).toInt) 32) (sx_lan ((xs (i + 2)).toInt) 4294967295)) (sx_lo_r _ _)) rfl (by decide) rfl (cv_La_15 E C _ (by rw [Rr.2.2]; decide)) (Nat.le_of_ble_eq_true rfl) d_La_law_145 (by rw [Rr.2.2]; decide) (by decide) rfl rfl rfl (fun r145 G145 M145 hpo _ => ?_)
  obtain ⟨e1, e2, a145⟩ := hpo
  obtain ⟨q145, e2, f145⟩ := nm_I e2
  rw [e1, e2]
  show sx_X SC E (71, 1403) GL M145 148 [(3, sx_I (((i : Nat) : Int))), (2, sx_A (53)), (1, sx_A (0)), (0, sx_B (b))] [sx_I (q145)]
  refine sx_aload_n C 1 d_La_law_148 rfl rfl ?_
  refine sx_bload_n C 3 d_La_law_149 rfl rfl ?_
  refine sx_iload_n C 0 d_La_law_150 rfl rfl ?_
  refine sx_iconst C d_La_law_151 ?_
  refine sx_iadd C d_La_law_152 ?_
  refine sx_sld C Rr.2.1 (i + 1) (by omega) (by omega) d_La_law_153 ?_
  refine sx_i2l C (sx_i32 _) d_La_law_154 ?_
  refine sx_bipush C d_La_law_155 (by decide) ?_
  refine sx_lshl C d_La_law_157 ?_
  refine sx_bload_n C 3 d_La_law_158 rfl rfl ?_
  refine sx_iload_n C 0 d_La_law_159 rfl rfl ?_
  refine sx_iconst C d_La_law_160 ?_
  refine sx_iadd C d_La_law_161 ?_
  refine sx_sld C Rr.2.1 (i + 2) (by omega) (by omega) d_La_law_162 ?_
  refine sx_i2l C (sx_i32 _) d_La_law_163 ?_
  refine sx_ldc2 (v := (4294967295)) C (4294967295) (tb_ 767 (by decide +kernel) rfl) (by decide) d_La_law_164 ?_
  refine sx_land C d_La_law_167 ?_
  refine sx_lor C d_La_law_168 ?_
  refine sx_callV (n := 71) (As := [sx_J (sx_lo (sx_lsh ((xs (i + 1)).toInt) 32) (sx_lan ((xs (i + 2)).toInt) 4294967295))]) (st := [sx_I (q145)]) C (ct_Mo_district _ _ _ (M145) (by rw [mid_district h a145 53 (by decide)]; exact rl_D h) (sx_lo (sx_lsh ((xs (i + 1)).toInt) 32) (sx_lan ((xs (i + 2)).toInt) 4294967295)) (sx_lo_r _ _)) rfl (by decide) rfl (cv_La_19 E C _ (by rw [Rr.2.2]; decide)) (Nat.le_of_ble_eq_true rfl) d_La_law_169 (by rw [Rr.2.2]; decide) (by decide) rfl rfl rfl (fun r169 G169 M169 hpo _ => ?_)
  obtain ⟨e1, e2, a169⟩ := hpo
  obtain ⟨q169, e2, f169⟩ := nm_I e2
  rw [e1, e2]
  show sx_X SC E (71, 1403) GL M169 172 [(3, sx_I (((i : Nat) : Int))), (2, sx_A (53)), (1, sx_A (0)), (0, sx_B (b))] [sx_I (q169), sx_I (q145)]
  obtain ⟨z1, z2⟩ := op_district h f145 a145 f169 a169
  exact sx_cmpI C 911 z1 d_La_law_172 (by decide) (kk _ z2)
set_option maxRecDepth 100000 in
set_option maxHeartbeats 4000000 in
theorem lwc_1 {E : sx_E} (C : sx_C SC g_tbl "SiteChoiceLaw" code E) {b L : Nat} {xs : Nat → Int32} (Rr : lwE E b L xs) {M : sx_M0} (h : rl M) {i : Nat} (hi : i + 9 ≤ L) (kk : ∀ M', rl M' → sx_X SC E (71, 1403) GL M' 911 [(3, sx_I (((i : Nat) : Int))), (2, sx_A (53)), (1, sx_A (0)), (0, sx_B (b))] []) : sx_X SC E (71, 1403) GL M 177 [(3, sx_I (((i : Nat) : Int))), (2, sx_A (53)), (1, sx_A (0)), (0, sx_B (b))] [] := by
  refine sx_aload_n C 2 d_La_law_177 rfl rfl ?_
  refine sx_bload_n C 3 d_La_law_178 rfl rfl ?_
  refine sx_iload_n C 0 d_La_law_179 rfl rfl ?_
  refine sx_iconst C d_La_law_180 ?_
  refine sx_iadd C d_La_law_181 ?_
  refine sx_sld C Rr.2.1 (i + 1) (by omega) (by omega) d_La_law_182 ?_
  refine sx_i2l C (sx_i32 _) d_La_law_183 ?_
  refine sx_bipush C d_La_law_184 (by decide) ?_
  refine sx_lshl C d_La_law_186 ?_
  refine sx_bload_n C 3 d_La_law_187 rfl rfl ?_
  refine sx_iload_n C 0 d_La_law_188 rfl rfl ?_
  refine sx_iconst C d_La_law_189 ?_
  refine sx_iadd C d_La_law_190 ?_
  refine sx_sld C Rr.2.1 (i + 2) (by omega) (by omega) d_La_law_191 ?_
  refine sx_i2l C (sx_i32 _) d_La_law_192 ?_
  refine sx_ldc2 (v := (4294967295)) C (4294967295) (tb_ 767 (by decide +kernel) rfl) (by decide) d_La_law_193 ?_
  refine sx_land C d_La_law_196 ?_
  refine sx_lor C d_La_law_197 ?_
  refine sx_bload_n C 3 d_La_law_198 rfl rfl ?_
  refine sx_iload_n C 0 d_La_law_199 rfl rfl ?_
  refine sx_iconst C d_La_law_200 ?_
  refine sx_iadd C d_La_law_201 ?_
  refine sx_sld C Rr.2.1 (i + 3) (by omega) (by omega) d_La_law_202 ?_
  refine sx_i2l C (sx_i32 _) d_La_law_203 ?_
  refine sx_bipush C d_La_law_204 (by decide) ?_
  refine sx_lshl C d_La_law_206 ?_
  refine sx_bload_n C 3 d_La_law_207 rfl rfl ?_
  refine sx_iload_n C 0 d_La_law_208 rfl rfl ?_
  refine sx_iconst C d_La_law_209 ?_
  refine sx_iadd C d_La_law_210 ?_
  refine sx_sld C Rr.2.1 (i + 4) (by omega) (by omega) d_La_law_211 ?_
  refine sx_i2l C (sx_i32 _) d_La_law_212 ?_
  refine sx_ldc2 (v := (4294967295)) C (4294967295) (tb_ 767 (by decide +kernel) rfl) (by decide) d_La_law_213 ?_
  refine sx_land C d_La_law_216 ?_
  refine sx_lor C d_La_law_217 ?_
  refine sx_bload_n C 3 d_La_law_218 rfl rfl ?_
  refine sx_iload_n C 0 d_La_law_219 rfl rfl ?_
  refine sx_iconst C d_La_law_220 ?_
  refine sx_iadd C d_La_law_221 ?_
  refine sx_sld C Rr.2.1 (i + 5) (by omega) (by omega) d_La_law_222 ?_
  refine sx_i2l C (sx_i32 _) d_La_law_223 ?_
  refine sx_bipush C d_La_law_224 (by decide) ?_
  refine sx_lshl C d_La_law_226 ?_
  refine sx_bload_n C 3 d_La_law_227 rfl rfl ?_
  refine sx_iload_n C 0 d_La_law_228 rfl rfl ?_
  refine sx_bipush C d_La_law_229 (by decide) ?_
  refine sx_iadd C d_La_law_231 ?_
  refine sx_sld C Rr.2.1 (i + 6) (by omega) (by omega) d_La_law_232 ?_
  refine sx_i2l C (sx_i32 _) d_La_law_233 ?_
  refine sx_ldc2 (v := (4294967295)) C (4294967295) (tb_ 767 (by decide +kernel) rfl) (by decide) d_La_law_234 ?_
  refine sx_land C d_La_law_237 ?_
  refine sx_lor C d_La_law_238 ?_
  refine sx_bload_n C 3 d_La_law_239 rfl rfl ?_
  refine sx_iload_n C 0 d_La_law_240 rfl rfl ?_
  refine sx_bipush C d_La_law_241 (by decide) ?_
  refine sx_iadd C d_La_law_243 ?_
  refine sx_sld C Rr.2.1 (i + 7) (by omega) (by omega) d_La_law_244 ?_
  refine sx_i2l C (sx_i32 _) d_La_law_245 ?_
  refine sx_bipush C d_La_law_246 (by decide) ?_
  refine sx_lshl C d_La_law_248 ?_
  refine sx_bload_n C 3 d_La_law_249 rfl rfl ?_
  refine sx_iload_n C 0 d_La_law_250 rfl rfl ?_
  refine sx_bipush C d_La_law_251 (by decide) ?_
  refine sx_iadd C d_La_law_253 ?_
  refine sx_sld C Rr.2.1 (i + 8) (by omega) (by omega) d_La_law_254 ?_
  refine sx_i2l C (sx_i32 _) d_La_law_255 ?_
  refine sx_ldc2 (v := (4294967295)) C (4294967295) (tb_ 767 (by decide +kernel) rfl) (by decide) d_La_law_256 ?_
  refine sx_land C d_La_law_259 ?_
  refine sx_lor C d_La_law_260 ?_
  refine sx_callV (n := 71) (As := [sx_J (sx_lo (sx_lsh ((xs (i + 1)).toInt) 32) (sx_lan ((xs (i + 2)).toInt) 4294967295)), sx_J (sx_lo (sx_lsh ((xs (i + 3)).toInt) 32) (sx_lan ((xs (i + 4)).toInt) 4294967295)), sx_J (sx_lo (sx_lsh ((xs (i + 5)).toInt) 32) (sx_lan ((xs (i + 6)).toInt) 4294967295)), sx_J (sx_lo (sx_lsh ((xs (i + 7)).toInt) 32) (sx_lan ((xs (i + 8)).toInt) 4294967295))]) (st := []) C (ct_Si_place _ _ _ (M) h.1 (sx_lo (sx_lsh ((xs (i + 1)).toInt) 32) (sx_lan ((xs (i + 2)).toInt) 4294967295)) (sx_lo (sx_lsh ((xs (i + 3)).toInt) 32) (sx_lan ((xs (i + 4)).toInt) 4294967295)) (sx_lo (sx_lsh ((xs (i + 5)).toInt) 32) (sx_lan ((xs (i + 6)).toInt) 4294967295)) (sx_lo (sx_lsh ((xs (i + 7)).toInt) 32) (sx_lan ((xs (i + 8)).toInt) 4294967295)) (sx_lo_r _ _) (sx_lo_r _ _) (sx_lo_r _ _) (sx_lo_r _ _)) rfl (by decide) rfl (cv_La_20 E C _ (by rw [Rr.2.2]; decide)) (Nat.le_of_ble_eq_true rfl) d_La_law_261 (by rw [Rr.2.2]; decide) (by decide) rfl rfl rfl (fun r261 G261 M261 hpo _ => ?_)
  obtain ⟨e1, e2, a261⟩ := hpo
  obtain ⟨q261, e2, f261⟩ := nm_I e2
  rw [e1, e2]
  show sx_X SC E (71, 1403) GL M261 264 [(3, sx_I (((i : Nat) : Int))), (2, sx_A (53)), (1, sx_A (0)), (0, sx_B (b))] [sx_I (q261)]
  refine sx_aload_n C 1 d_La_law_264 rfl rfl ?_
  refine sx_bload_n C 3 d_La_law_265 rfl rfl ?_
  refine sx_iload_n C 0 d_La_law_266 rfl rfl ?_
  refine sx_iconst C d_La_law_267 ?_
  refine sx_iadd C d_La_law_268 ?_
  refine sx_sld C Rr.2.1 (i + 1) (by omega) (by omega) d_La_law_269 ?_
  refine sx_i2l C (sx_i32 _) d_La_law_270 ?_
  refine sx_bipush C d_La_law_271 (by decide) ?_
  refine sx_lshl C d_La_law_273 ?_
  refine sx_bload_n C 3 d_La_law_274 rfl rfl ?_
  refine sx_iload_n C 0 d_La_law_275 rfl rfl ?_
  refine sx_iconst C d_La_law_276 ?_
  refine sx_iadd C d_La_law_277 ?_
  refine sx_sld C Rr.2.1 (i + 2) (by omega) (by omega) d_La_law_278 ?_
  refine sx_i2l C (sx_i32 _) d_La_law_279 ?_
  refine sx_ldc2 (v := (4294967295)) C (4294967295) (tb_ 767 (by decide +kernel) rfl) (by decide) d_La_law_280 ?_
  refine sx_land C d_La_law_283 ?_
  refine sx_lor C d_La_law_284 ?_
  refine sx_bload_n C 3 d_La_law_285 rfl rfl ?_
  refine sx_iload_n C 0 d_La_law_286 rfl rfl ?_
  refine sx_iconst C d_La_law_287 ?_
  refine sx_iadd C d_La_law_288 ?_
  refine sx_sld C Rr.2.1 (i + 3) (by omega) (by omega) d_La_law_289 ?_
  refine sx_i2l C (sx_i32 _) d_La_law_290 ?_
  refine sx_bipush C d_La_law_291 (by decide) ?_
  refine sx_lshl C d_La_law_293 ?_
  refine sx_bload_n C 3 d_La_law_294 rfl rfl ?_
  refine sx_iload_n C 0 d_La_law_295 rfl rfl ?_
  refine sx_iconst C d_La_law_296 ?_
  refine sx_iadd C d_La_law_297 ?_
  refine sx_sld C Rr.2.1 (i + 4) (by omega) (by omega) d_La_law_298 ?_
  refine sx_i2l C (sx_i32 _) d_La_law_299 ?_
  refine sx_ldc2 (v := (4294967295)) C (4294967295) (tb_ 767 (by decide +kernel) rfl) (by decide) d_La_law_300 ?_
  refine sx_land C d_La_law_303 ?_
  refine sx_lor C d_La_law_304 ?_
  refine sx_bload_n C 3 d_La_law_305 rfl rfl ?_
  refine sx_iload_n C 0 d_La_law_306 rfl rfl ?_
  refine sx_iconst C d_La_law_307 ?_
  refine sx_iadd C d_La_law_308 ?_
  refine sx_sld C Rr.2.1 (i + 5) (by omega) (by omega) d_La_law_309 ?_
  refine sx_i2l C (sx_i32 _) d_La_law_310 ?_
  refine sx_bipush C d_La_law_311 (by decide) ?_
  refine sx_lshl C d_La_law_313 ?_
  refine sx_bload_n C 3 d_La_law_314 rfl rfl ?_
  refine sx_iload_n C 0 d_La_law_315 rfl rfl ?_
  refine sx_bipush C d_La_law_316 (by decide) ?_
  refine sx_iadd C d_La_law_318 ?_
  refine sx_sld C Rr.2.1 (i + 6) (by omega) (by omega) d_La_law_319 ?_
  refine sx_i2l C (sx_i32 _) d_La_law_320 ?_
  refine sx_ldc2 (v := (4294967295)) C (4294967295) (tb_ 767 (by decide +kernel) rfl) (by decide) d_La_law_321 ?_
  refine sx_land C d_La_law_324 ?_
  refine sx_lor C d_La_law_325 ?_
  refine sx_bload_n C 3 d_La_law_326 rfl rfl ?_
  refine sx_iload_n C 0 d_La_law_327 rfl rfl ?_
  refine sx_bipush C d_La_law_328 (by decide) ?_
  refine sx_iadd C d_La_law_330 ?_
  refine sx_sld C Rr.2.1 (i + 7) (by omega) (by omega) d_La_law_331 ?_
  refine sx_i2l C (sx_i32 _) d_La_law_332 ?_
  refine sx_bipush C d_La_law_333 (by decide) ?_
  refine sx_lshl C d_La_law_335 ?_
  refine sx_bload_n C 3 d_La_law_336 rfl rfl ?_
  refine sx_iload_n C 0 d_La_law_337 rfl rfl ?_
  refine sx_bipush C d_La_law_338 (by decide) ?_
  refine sx_iadd C d_La_law_340 ?_
  refine sx_sld C Rr.2.1 (i + 8) (by omega) (by omega) d_La_law_341 ?_
  refine sx_i2l C (sx_i32 _) d_La_law_342 ?_
  refine sx_ldc2 (v := (4294967295)) C (4294967295) (tb_ 767 (by decide +kernel) rfl) (by decide) d_La_law_343 ?_
  refine sx_land C d_La_law_346 ?_
  refine sx_lor C d_La_law_347 ?_
  refine sx_callV (n := 71) (As := [sx_J (sx_lo (sx_lsh ((xs (i + 1)).toInt) 32) (sx_lan ((xs (i + 2)).toInt) 4294967295)), sx_J (sx_lo (sx_lsh ((xs (i + 3)).toInt) 32) (sx_lan ((xs (i + 4)).toInt) 4294967295)), sx_J (sx_lo (sx_lsh ((xs (i + 5)).toInt) 32) (sx_lan ((xs (i + 6)).toInt) 4294967295)), sx_J (sx_lo (sx_lsh ((xs (i + 7)).toInt) 32) (sx_lan ((xs (i + 8)).toInt) 4294967295))]) (st := [sx_I (q261)]) C (ct_Mo_place _ _ _ (M261) (by rw [mid_place h a261 53 (by decide)]; exact rl_P h) (sx_lo (sx_lsh ((xs (i + 1)).toInt) 32) (sx_lan ((xs (i + 2)).toInt) 4294967295)) (sx_lo (sx_lsh ((xs (i + 3)).toInt) 32) (sx_lan ((xs (i + 4)).toInt) 4294967295)) (sx_lo (sx_lsh ((xs (i + 5)).toInt) 32) (sx_lan ((xs (i + 6)).toInt) 4294967295)) (sx_lo (sx_lsh ((xs (i + 7)).toInt) 32) (sx_lan ((xs (i + 8)).toInt) 4294967295)) (sx_lo_r _ _) (sx_lo_r _ _) (sx_lo_r _ _) (sx_lo_r _ _)) rfl (by decide) rfl (cv_La_24 E C _ (by rw [Rr.2.2]; decide)) (Nat.le_of_ble_eq_true rfl) d_La_law_348 (by rw [Rr.2.2]; decide) (by decide) rfl rfl rfl (fun r348 G348 M348 hpo _ => ?_)
  obtain ⟨e1, e2, a348⟩ := hpo
  obtain ⟨q348, e2, f348⟩ := nm_I e2
  rw [e1, e2]
  show sx_X SC E (71, 1403) GL M348 351 [(3, sx_I (((i : Nat) : Int))), (2, sx_A (53)), (1, sx_A (0)), (0, sx_B (b))] [sx_I (q348), sx_I (q261)]
  obtain ⟨z1, z2⟩ := op_place h f261 a261 f348 a348
  exact sx_cmpI C 911 z1 d_La_law_351 (by decide) (kk _ z2)
set_option maxRecDepth 100000 in
set_option maxHeartbeats 4000000 in
theorem lwc_2 {E : sx_E} (C : sx_C SC g_tbl "SiteChoiceLaw" code E) {b L : Nat} {xs : Nat → Int32} (Rr : lwE E b L xs) {M : sx_M0} (h : rl M) {i : Nat} (hi : i + 9 ≤ L) (kk : ∀ M', rl M' → sx_X SC E (71, 1403) GL M' 911 [(3, sx_I (((i : Nat) : Int))), (2, sx_A (53)), (1, sx_A (0)), (0, sx_B (b))] []) : sx_X SC E (71, 1403) GL M 356 [(3, sx_I (((i : Nat) : Int))), (2, sx_A (53)), (1, sx_A (0)), (0, sx_B (b))] [] := by
  refine sx_aload_n C 2 d_La_law_356 rfl rfl ?_
  refine sx_bload_n C 3 d_La_law_357 rfl rfl ?_
  refine sx_iload_n C 0 d_La_law_358 rfl rfl ?_
  refine sx_iconst C d_La_law_359 ?_
  refine sx_iadd C d_La_law_360 ?_
  refine sx_sld C Rr.2.1 (i + 1) (by omega) (by omega) d_La_law_361 ?_
  refine sx_bload_n C 3 d_La_law_362 rfl rfl ?_
  refine sx_iload_n C 0 d_La_law_363 rfl rfl ?_
  refine sx_iconst C d_La_law_364 ?_
  refine sx_iadd C d_La_law_365 ?_
  refine sx_sld C Rr.2.1 (i + 2) (by omega) (by omega) d_La_law_366 ?_
  refine sx_bload_n C 3 d_La_law_367 rfl rfl ?_
  refine sx_iload_n C 0 d_La_law_368 rfl rfl ?_
  refine sx_iconst C d_La_law_369 ?_
  refine sx_iadd C d_La_law_370 ?_
  refine sx_sld C Rr.2.1 (i + 3) (by omega) (by omega) d_La_law_371 ?_
  refine sx_i2l C (sx_i32 _) d_La_law_372 ?_
  refine sx_bipush C d_La_law_373 (by decide) ?_
  refine sx_lshl C d_La_law_375 ?_
  refine sx_bload_n C 3 d_La_law_376 rfl rfl ?_
  refine sx_iload_n C 0 d_La_law_377 rfl rfl ?_
  refine sx_iconst C d_La_law_378 ?_
  refine sx_iadd C d_La_law_379 ?_
  refine sx_sld C Rr.2.1 (i + 4) (by omega) (by omega) d_La_law_380 ?_
  refine sx_i2l C (sx_i32 _) d_La_law_381 ?_
  refine sx_ldc2 (v := (4294967295)) C (4294967295) (tb_ 767 (by decide +kernel) rfl) (by decide) d_La_law_382 ?_
  refine sx_land C d_La_law_385 ?_
  refine sx_lor C d_La_law_386 ?_
  refine sx_callV (n := 71) (As := [sx_I ((xs (i + 1)).toInt), sx_I ((xs (i + 2)).toInt), sx_J (sx_lo (sx_lsh ((xs (i + 3)).toInt) 32) (sx_lan ((xs (i + 4)).toInt) 4294967295))]) (st := []) C (ct_Si_walk _ _ _ (M) h.1 ((xs (i + 1)).toInt) ((xs (i + 2)).toInt) (sx_lo (sx_lsh ((xs (i + 3)).toInt) 32) (sx_lan ((xs (i + 4)).toInt) 4294967295)) (sx_i32 _) (sx_i32 _) (sx_lo_r _ _)) rfl (by decide) rfl (cv_La_25 E C _ (by rw [Rr.2.2]; decide)) (Nat.le_of_ble_eq_true rfl) d_La_law_387 (by rw [Rr.2.2]; decide) (by decide) rfl rfl rfl (fun r387 G387 M387 hpo _ => ?_)
  obtain ⟨e1, e2, a387⟩ := hpo
  obtain ⟨q387, e2, f387⟩ := nm_I e2
  rw [e1, e2]
  show sx_X SC E (71, 1403) GL M387 390 [(3, sx_I (((i : Nat) : Int))), (2, sx_A (53)), (1, sx_A (0)), (0, sx_B (b))] [sx_I (q387)]
  refine sx_aload_n C 1 d_La_law_390 rfl rfl ?_
  refine sx_bload_n C 3 d_La_law_391 rfl rfl ?_
  refine sx_iload_n C 0 d_La_law_392 rfl rfl ?_
  refine sx_iconst C d_La_law_393 ?_
  refine sx_iadd C d_La_law_394 ?_
  refine sx_sld C Rr.2.1 (i + 1) (by omega) (by omega) d_La_law_395 ?_
  refine sx_bload_n C 3 d_La_law_396 rfl rfl ?_
  refine sx_iload_n C 0 d_La_law_397 rfl rfl ?_
  refine sx_iconst C d_La_law_398 ?_
  refine sx_iadd C d_La_law_399 ?_
  refine sx_sld C Rr.2.1 (i + 2) (by omega) (by omega) d_La_law_400 ?_
  refine sx_bload_n C 3 d_La_law_401 rfl rfl ?_
  refine sx_iload_n C 0 d_La_law_402 rfl rfl ?_
  refine sx_iconst C d_La_law_403 ?_
  refine sx_iadd C d_La_law_404 ?_
  refine sx_sld C Rr.2.1 (i + 3) (by omega) (by omega) d_La_law_405 ?_
  refine sx_i2l C (sx_i32 _) d_La_law_406 ?_
  refine sx_bipush C d_La_law_407 (by decide) ?_
  refine sx_lshl C d_La_law_409 ?_
  refine sx_bload_n C 3 d_La_law_410 rfl rfl ?_
  refine sx_iload_n C 0 d_La_law_411 rfl rfl ?_
  refine sx_iconst C d_La_law_412 ?_
  refine sx_iadd C d_La_law_413 ?_
  refine sx_sld C Rr.2.1 (i + 4) (by omega) (by omega) d_La_law_414 ?_
  refine sx_i2l C (sx_i32 _) d_La_law_415 ?_
  refine sx_ldc2 (v := (4294967295)) C (4294967295) (tb_ 767 (by decide +kernel) rfl) (by decide) d_La_law_416 ?_
  refine sx_land C d_La_law_419 ?_
  refine sx_lor C d_La_law_420 ?_
  refine sx_callV (n := 71) (As := [sx_I ((xs (i + 1)).toInt), sx_I ((xs (i + 2)).toInt), sx_J (sx_lo (sx_lsh ((xs (i + 3)).toInt) 32) (sx_lan ((xs (i + 4)).toInt) 4294967295))]) (st := [sx_I (q387)]) C (ct_Mo_walk _ _ _ (M387) (by rw [mid_walk h a387]; exact rl_D h) (by rw [mid_walk h a387]; exact rl_P h) ((xs (i + 1)).toInt) ((xs (i + 2)).toInt) (sx_lo (sx_lsh ((xs (i + 3)).toInt) 32) (sx_lan ((xs (i + 4)).toInt) 4294967295)) (sx_i32 _) (sx_i32 _) (sx_lo_r _ _)) rfl (by decide) rfl (cv_La_29 E C _ (by rw [Rr.2.2]; decide)) (Nat.le_of_ble_eq_true rfl) d_La_law_421 (by rw [Rr.2.2]; decide) (by decide) rfl rfl rfl (fun r421 G421 M421 hpo _ => ?_)
  obtain ⟨e1, e2, a421⟩ := hpo
  obtain ⟨q421, e2, f421⟩ := nm_I e2
  rw [e1, e2]
  show sx_X SC E (71, 1403) GL M421 424 [(3, sx_I (((i : Nat) : Int))), (2, sx_A (53)), (1, sx_A (0)), (0, sx_B (b))] [sx_I (q421), sx_I (q387)]
  obtain ⟨z1, z2⟩ := op_walk h f387 a387 f421 a421
  exact sx_cmpI C 911 z1 d_La_law_424 (by decide) (kk _ z2)
set_option maxRecDepth 100000 in
set_option maxHeartbeats 4000000 in
theorem lwc_3 {E : sx_E} (C : sx_C SC g_tbl "SiteChoiceLaw" code E) {b L : Nat} {xs : Nat → Int32} (Rr : lwE E b L xs) {M : sx_M0} (h : rl M) {i : Nat} (hi : i + 9 ≤ L) (kk : ∀ M', rl M' → sx_X SC E (71, 1403) GL M' 911 [(3, sx_I (((i : Nat) : Int))), (2, sx_A (53)), (1, sx_A (0)), (0, sx_B (b))] []) : sx_X SC E (71, 1403) GL M 429 [(3, sx_I (((i : Nat) : Int))), (2, sx_A (53)), (1, sx_A (0)), (0, sx_B (b))] [] := by
  refine sx_aload_n C 2 d_La_law_429 rfl rfl ?_
  refine sx_bload_n C 3 d_La_law_430 rfl rfl ?_
  refine sx_iload_n C 0 d_La_law_431 rfl rfl ?_
  refine sx_iconst C d_La_law_432 ?_
  refine sx_iadd C d_La_law_433 ?_
  refine sx_sld C Rr.2.1 (i + 1) (by omega) (by omega) d_La_law_434 ?_
  refine sx_callV (n := 71) (As := [sx_I ((xs (i + 1)).toInt)]) (st := []) C (ct_Si_bar _ _ _ (M) h.1 ((xs (i + 1)).toInt) (sx_i32 _)) rfl (by decide) rfl (cv_La_30 E C _ (by rw [Rr.2.2]; decide)) (Nat.le_of_ble_eq_true rfl) d_La_law_435 (by rw [Rr.2.2]; decide) (by decide) rfl rfl rfl (fun r435 G435 M435 hpo _ => ?_)
  obtain ⟨e1, e2, a435⟩ := hpo
  obtain ⟨q435, e2, f435⟩ := nm_I e2
  rw [e1, e2]
  show sx_X SC E (71, 1403) GL M435 438 [(3, sx_I (((i : Nat) : Int))), (2, sx_A (53)), (1, sx_A (0)), (0, sx_B (b))] [sx_I (q435)]
  refine sx_aload_n C 1 d_La_law_438 rfl rfl ?_
  refine sx_bload_n C 3 d_La_law_439 rfl rfl ?_
  refine sx_iload_n C 0 d_La_law_440 rfl rfl ?_
  refine sx_iconst C d_La_law_441 ?_
  refine sx_iadd C d_La_law_442 ?_
  refine sx_sld C Rr.2.1 (i + 1) (by omega) (by omega) d_La_law_443 ?_
  refine sx_callV (n := 71) (As := [sx_I ((xs (i + 1)).toInt)]) (st := [sx_I (q435)]) C (ct_Mo_bar _ _ _ (M435) (by rw [(mid_bar h a435).1]; exact rl_D h) (by rw [(mid_bar h a435).1]; exact rl_P h) (by rw [(mid_bar h a435).2]; exact rl_B h) ((xs (i + 1)).toInt) (sx_i32 _)) rfl (by decide) rfl (cv_La_34 E C _ (by rw [Rr.2.2]; decide)) (Nat.le_of_ble_eq_true rfl) d_La_law_444 (by rw [Rr.2.2]; decide) (by decide) rfl rfl rfl (fun r444 G444 M444 hpo _ => ?_)
  obtain ⟨e1, e2, a444⟩ := hpo
  obtain ⟨q444, e2, f444⟩ := nm_I e2
  rw [e1, e2]
  show sx_X SC E (71, 1403) GL M444 447 [(3, sx_I (((i : Nat) : Int))), (2, sx_A (53)), (1, sx_A (0)), (0, sx_B (b))] [sx_I (q444), sx_I (q435)]
  obtain ⟨z1, z2⟩ := op_bar h f435 a435 f444 a444
  exact sx_cmpI C 911 z1 d_La_law_447 (by decide) (kk _ z2)
set_option maxRecDepth 100000 in
set_option maxHeartbeats 4000000 in
theorem lwc_4 {E : sx_E} (C : sx_C SC g_tbl "SiteChoiceLaw" code E) {b L : Nat} {xs : Nat → Int32} (Rr : lwE E b L xs) {M : sx_M0} (h : rl M) {i : Nat} (hi : i + 9 ≤ L) (kk : ∀ M', rl M' → sx_X SC E (71, 1403) GL M' 911 [(3, sx_I (((i : Nat) : Int))), (2, sx_A (53)), (1, sx_A (0)), (0, sx_B (b))] []) : sx_X SC E (71, 1403) GL M 452 [(3, sx_I (((i : Nat) : Int))), (2, sx_A (53)), (1, sx_A (0)), (0, sx_B (b))] [] := by
  refine sx_aload_n C 2 d_La_law_452 rfl rfl ?_
  refine sx_bload_n C 3 d_La_law_453 rfl rfl ?_
  refine sx_iload_n C 0 d_La_law_454 rfl rfl ?_
  refine sx_iconst C d_La_law_455 ?_
  refine sx_iadd C d_La_law_456 ?_
  refine sx_sld C Rr.2.1 (i + 1) (by omega) (by omega) d_La_law_457 ?_
  refine sx_bload_n C 3 d_La_law_458 rfl rfl ?_
  refine sx_iload_n C 0 d_La_law_459 rfl rfl ?_
  refine sx_iconst C d_La_law_460 ?_
  refine sx_iadd C d_La_law_461 ?_
  refine sx_sld C Rr.2.1 (i + 2) (by omega) (by omega) d_La_law_462 ?_
  refine sx_i2l C (sx_i32 _) d_La_law_463 ?_
  refine sx_bipush C d_La_law_464 (by decide) ?_
  refine sx_lshl C d_La_law_466 ?_
  refine sx_bload_n C 3 d_La_law_467 rfl rfl ?_
  refine sx_iload_n C 0 d_La_law_468 rfl rfl ?_
  refine sx_iconst C d_La_law_469 ?_
  refine sx_iadd C d_La_law_470 ?_
  refine sx_sld C Rr.2.1 (i + 3) (by omega) (by omega) d_La_law_471 ?_
  refine sx_i2l C (sx_i32 _) d_La_law_472 ?_
  refine sx_ldc2 (v := (4294967295)) C (4294967295) (tb_ 767 (by decide +kernel) rfl) (by decide) d_La_law_473 ?_
  refine sx_land C d_La_law_476 ?_
  refine sx_lor C d_La_law_477 ?_
  refine sx_callV (n := 71) (As := [sx_I ((xs (i + 1)).toInt), sx_J (sx_lo (sx_lsh ((xs (i + 2)).toInt) 32) (sx_lan ((xs (i + 3)).toInt) 4294967295))]) (st := []) C (ct_Si_noise _ _ _ (M) h.1 ((xs (i + 1)).toInt) (sx_lo (sx_lsh ((xs (i + 2)).toInt) 32) (sx_lan ((xs (i + 3)).toInt) 4294967295)) (sx_i32 _) (sx_lo_r _ _)) rfl (by decide) rfl (cv_La_35 E C _ (by rw [Rr.2.2]; decide)) (Nat.le_of_ble_eq_true rfl) d_La_law_478 (by rw [Rr.2.2]; decide) (by decide) rfl rfl rfl (fun r478 G478 M478 hpo _ => ?_)
  obtain ⟨e1, e2, a478⟩ := hpo
  obtain ⟨q478, e2, f478⟩ := nm_I e2
  rw [e1, e2]
  show sx_X SC E (71, 1403) GL M478 481 [(3, sx_I (((i : Nat) : Int))), (2, sx_A (53)), (1, sx_A (0)), (0, sx_B (b))] [sx_I (q478)]
  refine sx_aload_n C 1 d_La_law_481 rfl rfl ?_
  refine sx_bload_n C 3 d_La_law_482 rfl rfl ?_
  refine sx_iload_n C 0 d_La_law_483 rfl rfl ?_
  refine sx_iconst C d_La_law_484 ?_
  refine sx_iadd C d_La_law_485 ?_
  refine sx_sld C Rr.2.1 (i + 1) (by omega) (by omega) d_La_law_486 ?_
  refine sx_bload_n C 3 d_La_law_487 rfl rfl ?_
  refine sx_iload_n C 0 d_La_law_488 rfl rfl ?_
  refine sx_iconst C d_La_law_489 ?_
  refine sx_iadd C d_La_law_490 ?_
  refine sx_sld C Rr.2.1 (i + 2) (by omega) (by omega) d_La_law_491 ?_
  refine sx_i2l C (sx_i32 _) d_La_law_492 ?_
  refine sx_bipush C d_La_law_493 (by decide) ?_
  refine sx_lshl C d_La_law_495 ?_
  refine sx_bload_n C 3 d_La_law_496 rfl rfl ?_
  refine sx_iload_n C 0 d_La_law_497 rfl rfl ?_
  refine sx_iconst C d_La_law_498 ?_
  refine sx_iadd C d_La_law_499 ?_
  refine sx_sld C Rr.2.1 (i + 3) (by omega) (by omega) d_La_law_500 ?_
  refine sx_i2l C (sx_i32 _) d_La_law_501 ?_
  refine sx_ldc2 (v := (4294967295)) C (4294967295) (tb_ 767 (by decide +kernel) rfl) (by decide) d_La_law_502 ?_
  refine sx_land C d_La_law_505 ?_
  refine sx_lor C d_La_law_506 ?_
  refine sx_callV (n := 71) (As := [sx_I ((xs (i + 1)).toInt), sx_J (sx_lo (sx_lsh ((xs (i + 2)).toInt) 32) (sx_lan ((xs (i + 3)).toInt) 4294967295))]) (st := [sx_I (q478)]) C (ct_Mo_noise _ _ _ (M478) (by rw [mid_noise h a478]; exact rl_D h) (by rw [mid_noise h a478]; exact rl_P h) ((xs (i + 1)).toInt) (sx_lo (sx_lsh ((xs (i + 2)).toInt) 32) (sx_lan ((xs (i + 3)).toInt) 4294967295)) (sx_i32 _) (sx_lo_r _ _)) rfl (by decide) rfl (cv_La_39 E C _ (by rw [Rr.2.2]; decide)) (Nat.le_of_ble_eq_true rfl) d_La_law_507 (by rw [Rr.2.2]; decide) (by decide) rfl rfl rfl (fun r507 G507 M507 hpo _ => ?_)
  obtain ⟨e1, e2, a507⟩ := hpo
  obtain ⟨q507, e2, f507⟩ := nm_I e2
  rw [e1, e2]
  show sx_X SC E (71, 1403) GL M507 510 [(3, sx_I (((i : Nat) : Int))), (2, sx_A (53)), (1, sx_A (0)), (0, sx_B (b))] [sx_I (q507), sx_I (q478)]
  obtain ⟨z1, z2⟩ := op_noise h f478 a478 f507 a507
  exact sx_cmpI C 911 z1 d_La_law_510 (by decide) (kk _ z2)
set_option maxRecDepth 100000 in
set_option maxHeartbeats 4000000 in
theorem lwc_5 {E : sx_E} (C : sx_C SC g_tbl "SiteChoiceLaw" code E) {b L : Nat} {xs : Nat → Int32} (Rr : lwE E b L xs) {M : sx_M0} (h : rl M) {i : Nat} (hi : i + 9 ≤ L) (kk : ∀ M', rl M' → sx_X SC E (71, 1403) GL M' 911 [(3, sx_I (((i : Nat) : Int))), (2, sx_A (53)), (1, sx_A (0)), (0, sx_B (b))] []) : sx_X SC E (71, 1403) GL M 515 [(3, sx_I (((i : Nat) : Int))), (2, sx_A (53)), (1, sx_A (0)), (0, sx_B (b))] [] := by
  refine sx_aload_n C 2 d_La_law_515 rfl rfl ?_
  refine sx_bload_n C 3 d_La_law_516 rfl rfl ?_
  refine sx_iload_n C 0 d_La_law_517 rfl rfl ?_
  refine sx_iconst C d_La_law_518 ?_
  refine sx_iadd C d_La_law_519 ?_
  refine sx_sld C Rr.2.1 (i + 1) (by omega) (by omega) d_La_law_520 ?_
  refine sx_i2l C (sx_i32 _) d_La_law_521 ?_
  refine sx_bipush C d_La_law_522 (by decide) ?_
  refine sx_lshl C d_La_law_524 ?_
  refine sx_bload_n C 3 d_La_law_525 rfl rfl ?_
  refine sx_iload_n C 0 d_La_law_526 rfl rfl ?_
  refine sx_iconst C d_La_law_527 ?_
  refine sx_iadd C d_La_law_528 ?_
  refine sx_sld C Rr.2.1 (i + 2) (by omega) (by omega) d_La_law_529 ?_
  refine sx_i2l C (sx_i32 _) d_La_law_530 ?_
  refine sx_ldc2 (v := (4294967295)) C (4294967295) (tb_ 767 (by decide +kernel) rfl) (by decide) d_La_law_531 ?_
  refine sx_land C d_La_law_534 ?_
  refine sx_lor C d_La_law_535 ?_
  refine sx_callV (n := 71) (As := [sx_J (sx_lo (sx_lsh ((xs (i + 1)).toInt) 32) (sx_lan ((xs (i + 2)).toInt) 4294967295))]) (st := []) C (ct_Si_budget _ _ _ (M) h.1 (sx_lo (sx_lsh ((xs (i + 1)).toInt) 32) (sx_lan ((xs (i + 2)).toInt) 4294967295)) (sx_lo_r _ _)) rfl (by decide) rfl (cv_La_40 E C _ (by rw [Rr.2.2]; decide)) (Nat.le_of_ble_eq_true rfl) d_La_law_536 (by rw [Rr.2.2]; decide) (by decide) rfl rfl rfl (fun r536 G536 M536 hpo _ => ?_)
  obtain ⟨e1, e2, a536⟩ := hpo
  obtain ⟨q536, e2, f536⟩ := nm_I e2
  rw [e1, e2]
  show sx_X SC E (71, 1403) GL M536 539 [(3, sx_I (((i : Nat) : Int))), (2, sx_A (53)), (1, sx_A (0)), (0, sx_B (b))] [sx_I (q536)]
  refine sx_aload_n C 1 d_La_law_539 rfl rfl ?_
  refine sx_bload_n C 3 d_La_law_540 rfl rfl ?_
  refine sx_iload_n C 0 d_La_law_541 rfl rfl ?_
  refine sx_iconst C d_La_law_542 ?_
  refine sx_iadd C d_La_law_543 ?_
  refine sx_sld C Rr.2.1 (i + 1) (by omega) (by omega) d_La_law_544 ?_
  refine sx_i2l C (sx_i32 _) d_La_law_545 ?_
  refine sx_bipush C d_La_law_546 (by decide) ?_
  refine sx_lshl C d_La_law_548 ?_
  refine sx_bload_n C 3 d_La_law_549 rfl rfl ?_
  refine sx_iload_n C 0 d_La_law_550 rfl rfl ?_
  refine sx_iconst C d_La_law_551 ?_
  refine sx_iadd C d_La_law_552 ?_
  refine sx_sld C Rr.2.1 (i + 2) (by omega) (by omega) d_La_law_553 ?_
  refine sx_i2l C (sx_i32 _) d_La_law_554 ?_
  refine sx_ldc2 (v := (4294967295)) C (4294967295) (tb_ 767 (by decide +kernel) rfl) (by decide) d_La_law_555 ?_
  refine sx_land C d_La_law_558 ?_
  refine sx_lor C d_La_law_559 ?_
  refine sx_callV (n := 71) (As := [sx_J (sx_lo (sx_lsh ((xs (i + 1)).toInt) 32) (sx_lan ((xs (i + 2)).toInt) 4294967295))]) (st := [sx_I (q536)]) C (ct_Mo_budget _ _ _ (M536) (by rw [mid_budget a536]; exact rl_D h) (by rw [mid_budget a536]; exact rl_P h) (sx_lo (sx_lsh ((xs (i + 1)).toInt) 32) (sx_lan ((xs (i + 2)).toInt) 4294967295)) (sx_lo_r _ _)) rfl (by decide) rfl (cv_La_44 E C _ (by rw [Rr.2.2]; decide)) (Nat.le_of_ble_eq_true rfl) d_La_law_560 (by rw [Rr.2.2]; decide) (by decide) rfl rfl rfl (fun r560 G560 M560 hpo _ => ?_)
  obtain ⟨e1, e2, a560⟩ := hpo
  obtain ⟨q560, e2, f560⟩ := nm_I e2
  rw [e1, e2]
  show sx_X SC E (71, 1403) GL M560 563 [(3, sx_I (((i : Nat) : Int))), (2, sx_A (53)), (1, sx_A (0)), (0, sx_B (b))] [sx_I (q560), sx_I (q536)]
  obtain ⟨z1, z2⟩ := op_budget h f536 a536 f560 a560
  exact sx_cmpI C 911 z1 d_La_law_563 (by decide) (kk _ z2)
set_option maxRecDepth 100000 in
set_option maxHeartbeats 4000000 in
theorem lwc_6 {E : sx_E} (C : sx_C SC g_tbl "SiteChoiceLaw" code E) {b L : Nat} {xs : Nat → Int32} (Rr : lwE E b L xs) {M : sx_M0} (h : rl M) {i : Nat} (hi : i + 9 ≤ L) (kk : ∀ M', rl M' → sx_X SC E (71, 1403) GL M' 911 [(3, sx_I (((i : Nat) : Int))), (2, sx_A (53)), (1, sx_A (0)), (0, sx_B (b))] []) : sx_X SC E (71, 1403) GL M 568 [(3, sx_I (((i : Nat) : Int))), (2, sx_A (53)), (1, sx_A (0)), (0, sx_B (b))] [] := by
  refine sx_aload_n C 2 d_La_law_568 rfl rfl ?_
  refine sx_bload_n C 3 d_La_law_569 rfl rfl ?_
  refine sx_iload_n C 0 d_La_law_570 rfl rfl ?_
  refine sx_iconst C d_La_law_571 ?_
  refine sx_iadd C d_La_law_572 ?_
  refine sx_sld C Rr.2.1 (i + 1) (by omega) (by omega) d_La_law_573 ?_
  refine sx_bload_n C 3 d_La_law_574 rfl rfl ?_
  refine sx_iload_n C 0 d_La_law_575 rfl rfl ?_
  refine sx_iconst C d_La_law_576 ?_
  refine sx_iadd C d_La_law_577 ?_
  refine sx_sld C Rr.2.1 (i + 2) (by omega) (by omega) d_La_law_578 ?_
  refine sx_i2l C (sx_i32 _) d_La_law_579 ?_
  refine sx_bipush C d_La_law_580 (by decide) ?_
  refine sx_lshl C d_La_law_582 ?_
  refine sx_bload_n C 3 d_La_law_583 rfl rfl ?_
  refine sx_iload_n C 0 d_La_law_584 rfl rfl ?_
  refine sx_iconst C d_La_law_585 ?_
  refine sx_iadd C d_La_law_586 ?_
  refine sx_sld C Rr.2.1 (i + 3) (by omega) (by omega) d_La_law_587 ?_
  refine sx_i2l C (sx_i32 _) d_La_law_588 ?_
  refine sx_ldc2 (v := (4294967295)) C (4294967295) (tb_ 767 (by decide +kernel) rfl) (by decide) d_La_law_589 ?_
  refine sx_land C d_La_law_592 ?_
  refine sx_lor C d_La_law_593 ?_
  refine sx_callV (n := 71) (As := [sx_I ((xs (i + 1)).toInt), sx_J (sx_lo (sx_lsh ((xs (i + 2)).toInt) 32) (sx_lan ((xs (i + 3)).toInt) 4294967295))]) (st := []) C (ct_Si_fair _ _ _ (M) h.1 ((xs (i + 1)).toInt) (sx_lo (sx_lsh ((xs (i + 2)).toInt) 32) (sx_lan ((xs (i + 3)).toInt) 4294967295)) (sx_i32 _) (sx_lo_r _ _)) rfl (by decide) rfl (cv_La_45 E C _ (by rw [Rr.2.2]; decide)) (Nat.le_of_ble_eq_true rfl) d_La_law_594 (by rw [Rr.2.2]; decide) (by decide) rfl rfl rfl (fun r594 G594 M594 hpo _ => ?_)
  obtain ⟨e1, e2, a594⟩ := hpo
  obtain ⟨q594, e2, f594⟩ := nm_I e2
  rw [e1, e2]
  show sx_X SC E (71, 1403) GL M594 597 [(3, sx_I (((i : Nat) : Int))), (2, sx_A (53)), (1, sx_A (0)), (0, sx_B (b))] [sx_I (q594)]
  refine sx_aload_n C 1 d_La_law_597 rfl rfl ?_
  refine sx_bload_n C 3 d_La_law_598 rfl rfl ?_
  refine sx_iload_n C 0 d_La_law_599 rfl rfl ?_
  refine sx_iconst C d_La_law_600 ?_
  refine sx_iadd C d_La_law_601 ?_
  refine sx_sld C Rr.2.1 (i + 1) (by omega) (by omega) d_La_law_602 ?_
  refine sx_bload_n C 3 d_La_law_603 rfl rfl ?_
  refine sx_iload_n C 0 d_La_law_604 rfl rfl ?_
  refine sx_iconst C d_La_law_605 ?_
  refine sx_iadd C d_La_law_606 ?_
  refine sx_sld C Rr.2.1 (i + 2) (by omega) (by omega) d_La_law_607 ?_
  refine sx_i2l C (sx_i32 _) d_La_law_608 ?_
  refine sx_bipush C d_La_law_609 (by decide) ?_
  refine sx_lshl C d_La_law_611 ?_
  refine sx_bload_n C 3 d_La_law_612 rfl rfl ?_
  refine sx_iload_n C 0 d_La_law_613 rfl rfl ?_
  refine sx_iconst C d_La_law_614 ?_
  refine sx_iadd C d_La_law_615 ?_
  refine sx_sld C Rr.2.1 (i + 3) (by omega) (by omega) d_La_law_616 ?_
  refine sx_i2l C (sx_i32 _) d_La_law_617 ?_
  refine sx_ldc2 (v := (4294967295)) C (4294967295) (tb_ 767 (by decide +kernel) rfl) (by decide) d_La_law_618 ?_
  refine sx_land C d_La_law_621 ?_
  refine sx_lor C d_La_law_622 ?_
  refine sx_callV (n := 71) (As := [sx_I ((xs (i + 1)).toInt), sx_J (sx_lo (sx_lsh ((xs (i + 2)).toInt) 32) (sx_lan ((xs (i + 3)).toInt) 4294967295))]) (st := [sx_I (q594)]) C (ct_Mo_fair _ _ _ (M594) (by rw [mid_fair h a594]; exact rl_D h) (by rw [mid_fair h a594]; exact rl_P h) ((xs (i + 1)).toInt) (sx_lo (sx_lsh ((xs (i + 2)).toInt) 32) (sx_lan ((xs (i + 3)).toInt) 4294967295)) (sx_i32 _) (sx_lo_r _ _)) rfl (by decide) rfl (cv_La_48 E C _ (by rw [Rr.2.2]; decide)) (Nat.le_of_ble_eq_true rfl) d_La_law_623 (by rw [Rr.2.2]; decide) (by decide) rfl rfl rfl (fun r623 G623 M623 hpo _ => ?_)
  obtain ⟨e1, e2, a623⟩ := hpo
  obtain ⟨q623, e2, f623⟩ := nm_I e2
  rw [e1, e2]
  show sx_X SC E (71, 1403) GL M623 626 [(3, sx_I (((i : Nat) : Int))), (2, sx_A (53)), (1, sx_A (0)), (0, sx_B (b))] [sx_I (q623), sx_I (q594)]
  obtain ⟨z1, z2⟩ := op_fair h f594 a594 f623 a623
  exact sx_cmpI C 911 z1 d_La_law_626 (by decide) (kk _ z2)
set_option maxRecDepth 100000 in
set_option maxHeartbeats 4000000 in
theorem lwc_7 {E : sx_E} (C : sx_C SC g_tbl "SiteChoiceLaw" code E) {b L : Nat} {xs : Nat → Int32} (Rr : lwE E b L xs) {M : sx_M0} (h : rl M) {i : Nat} (hi : i + 9 ≤ L) (kk : ∀ M', rl M' → sx_X SC E (71, 1403) GL M' 911 [(3, sx_I (((i : Nat) : Int))), (2, sx_A (53)), (1, sx_A (0)), (0, sx_B (b))] []) : sx_X SC E (71, 1403) GL M 631 [(3, sx_I (((i : Nat) : Int))), (2, sx_A (53)), (1, sx_A (0)), (0, sx_B (b))] [] := by
  refine sx_aload_n C 2 d_La_law_631 rfl rfl ?_
  refine sx_callV (n := 71) (As := []) (st := []) C (ct_Si_ways _ _ _ (M) h.1  ) rfl (by decide) rfl (cv_La_49 E C _ (by rw [Rr.2.2]; decide)) (Nat.le_of_ble_eq_true rfl) d_La_law_632 (by rw [Rr.2.2]; decide) (by decide) rfl rfl rfl (fun r632 G632 M632 hpo _ => ?_)
  obtain ⟨e1, e2, e3⟩ := hpo
  obtain ⟨q632, e3, f632⟩ := nm_J e3
  rw [e1, e2, e3]
  show sx_X SC E (71, 1403) GL M 635 [(3, sx_I (((i : Nat) : Int))), (2, sx_A (53)), (1, sx_A (0)), (0, sx_B (b))] [sx_J (q632)]
  refine sx_aload_n C 1 d_La_law_635 rfl rfl ?_
  refine sx_callV (n := 71) (As := []) (st := [sx_J (q632)]) C (ct_Mo_ways _ _ _ (M) h.1.1 h.2.1  ) rfl (by decide) rfl (cv_La_53 E C _ (by rw [Rr.2.2]; decide)) (Nat.le_of_ble_eq_true rfl) d_La_law_636 (by rw [Rr.2.2]; decide) (by decide) rfl rfl rfl (fun r636 G636 M636 hpo _ => ?_)
  obtain ⟨e1, e2, e3⟩ := hpo
  obtain ⟨q636, e3, f636⟩ := nm_J e3
  rw [e1, e2, e3]
  show sx_X SC E (71, 1403) GL M 639 [(3, sx_I (((i : Nat) : Int))), (2, sx_A (53)), (1, sx_A (0)), (0, sx_B (b))] [sx_J (q636), sx_J (q632)]
  have z1 := f632.trans f636.symm
  exact sx_cmpL C 911 z1 d_La_law_639 d_La_law_640 (by decide) (kk _ h)
set_option maxRecDepth 100000 in
set_option maxHeartbeats 4000000 in
theorem lwc_8 {E : sx_E} (C : sx_C SC g_tbl "SiteChoiceLaw" code E) {b L : Nat} {xs : Nat → Int32} (Rr : lwE E b L xs) {M : sx_M0} (h : rl M) {i : Nat} (hi : i + 9 ≤ L) (kk : ∀ M', rl M' → sx_X SC E (71, 1403) GL M' 911 [(3, sx_I (((i : Nat) : Int))), (2, sx_A (53)), (1, sx_A (0)), (0, sx_B (b))] []) : sx_X SC E (71, 1403) GL M 645 [(3, sx_I (((i : Nat) : Int))), (2, sx_A (53)), (1, sx_A (0)), (0, sx_B (b))] [] := by
  refine sx_aload_n C 2 d_La_law_645 rfl rfl ?_
  refine sx_bload_n C 3 d_La_law_646 rfl rfl ?_
  refine sx_iload_n C 0 d_La_law_647 rfl rfl ?_
  refine sx_iconst C d_La_law_648 ?_
  refine sx_iadd C d_La_law_649 ?_
  refine sx_sld C Rr.2.1 (i + 1) (by omega) (by omega) d_La_law_650 ?_
  refine sx_i2l C (sx_i32 _) d_La_law_651 ?_
  refine sx_bipush C d_La_law_652 (by decide) ?_
  refine sx_lshl C d_La_law_654 ?_
  refine sx_bload_n C 3 d_La_law_655 rfl rfl ?_
  refine sx_iload_n C 0 d_La_law_656 rfl rfl ?_
  refine sx_iconst C d_La_law_657 ?_
  refine sx_iadd C d_La_law_658 ?_
  refine sx_sld C Rr.2.1 (i + 2) (by omega) (by omega) d_La_law_659 ?_
  refine sx_i2l C (sx_i32 _) d_La_law_660 ?_
  refine sx_ldc2 (v := (4294967295)) C (4294967295) (tb_ 767 (by decide +kernel) rfl) (by decide) d_La_law_661 ?_
  refine sx_land C d_La_law_664 ?_
  refine sx_lor C d_La_law_665 ?_
  refine sx_callV (n := 71) (As := [sx_J (sx_lo (sx_lsh ((xs (i + 1)).toInt) 32) (sx_lan ((xs (i + 2)).toInt) 4294967295))]) (st := []) C (ct_Si_run _ _ _ (M) h.1 (sx_lo (sx_lsh ((xs (i + 1)).toInt) 32) (sx_lan ((xs (i + 2)).toInt) 4294967295)) (sx_lo_r _ _)) rfl (by decide) rfl (cv_La_54 E C _ (by rw [Rr.2.2]; decide)) (Nat.le_of_ble_eq_true rfl) d_La_law_666 (by rw [Rr.2.2]; decide) (by decide) rfl rfl rfl (fun r666 G666 M666 hpo _ => ?_)
  obtain ⟨e1, q666, e2, a666⟩ := hpo
  rw [e1, e2]
  show sx_X SC E (71, 1403) GL M666 669 [(3, sx_I (((i : Nat) : Int))), (2, sx_A (53)), (1, sx_A (0)), (0, sx_B (b))] [sx_I (q666)]
  refine sx_aload_n C 1 d_La_law_669 rfl rfl ?_
  refine sx_bload_n C 3 d_La_law_670 rfl rfl ?_
  refine sx_iload_n C 0 d_La_law_671 rfl rfl ?_
  refine sx_iconst C d_La_law_672 ?_
  refine sx_iadd C d_La_law_673 ?_
  refine sx_sld C Rr.2.1 (i + 1) (by omega) (by omega) d_La_law_674 ?_
  refine sx_i2l C (sx_i32 _) d_La_law_675 ?_
  refine sx_bipush C d_La_law_676 (by decide) ?_
  refine sx_lshl C d_La_law_678 ?_
  refine sx_bload_n C 3 d_La_law_679 rfl rfl ?_
  refine sx_iload_n C 0 d_La_law_680 rfl rfl ?_
  refine sx_iconst C d_La_law_681 ?_
  refine sx_iadd C d_La_law_682 ?_
  refine sx_sld C Rr.2.1 (i + 2) (by omega) (by omega) d_La_law_683 ?_
  refine sx_i2l C (sx_i32 _) d_La_law_684 ?_
  refine sx_ldc2 (v := (4294967295)) C (4294967295) (tb_ 767 (by decide +kernel) rfl) (by decide) d_La_law_685 ?_
  refine sx_land C d_La_law_688 ?_
  refine sx_lor C d_La_law_689 ?_
  refine sx_callV (n := 71) (As := [sx_J (sx_lo (sx_lsh ((xs (i + 1)).toInt) 32) (sx_lan ((xs (i + 2)).toInt) 4294967295))]) (st := [sx_I (q666)]) C (ct_Mo_run _ _ _ (M666) (mid_run h a666).1 (mid_run h a666).2 (sx_lo (sx_lsh ((xs (i + 1)).toInt) 32) (sx_lan ((xs (i + 2)).toInt) 4294967295)) (sx_lo_r _ _)) rfl (by decide) rfl (cv_La_57 E C _ (by rw [Rr.2.2]; decide)) (Nat.le_of_ble_eq_true rfl) d_La_law_690 (by rw [Rr.2.2]; decide) (by decide) rfl rfl rfl (fun r690 G690 M690 hpo _ => ?_)
  obtain ⟨e1, q690, e2, a690⟩ := hpo
  rw [e1, e2]
  show sx_X SC E (71, 1403) GL M690 693 [(3, sx_I (((i : Nat) : Int))), (2, sx_A (53)), (1, sx_A (0)), (0, sx_B (b))] [sx_I (q690), sx_I (q666)]
  obtain ⟨z1, z2⟩ := op_run h a666 a690
  exact sx_cmpI C 911 z1 d_La_law_693 (by decide) (kk _ z2)
set_option maxRecDepth 100000 in
set_option maxHeartbeats 4000000 in
theorem lwc_9 {E : sx_E} (C : sx_C SC g_tbl "SiteChoiceLaw" code E) {b L : Nat} {xs : Nat → Int32} (Rr : lwE E b L xs) {M : sx_M0} (h : rl M) {i : Nat} (hi : i + 9 ≤ L) (kk : ∀ M', rl M' → sx_X SC E (71, 1403) GL M' 911 [(3, sx_I (((i : Nat) : Int))), (2, sx_A (53)), (1, sx_A (0)), (0, sx_B (b))] []) : sx_X SC E (71, 1403) GL M 698 [(3, sx_I (((i : Nat) : Int))), (2, sx_A (53)), (1, sx_A (0)), (0, sx_B (b))] [] := by
  refine sx_aload_n C 2 d_La_law_698 rfl rfl ?_
  refine sx_bload_n C 3 d_La_law_699 rfl rfl ?_
  refine sx_iload_n C 0 d_La_law_700 rfl rfl ?_
  refine sx_iconst C d_La_law_701 ?_
  refine sx_iadd C d_La_law_702 ?_
  refine sx_sld C Rr.2.1 (i + 1) (by omega) (by omega) d_La_law_703 ?_
  refine sx_callV (n := 71) (As := [sx_I ((xs (i + 1)).toInt)]) (st := []) C (ct_Si_chosen _ _ _ (M) h.1 ((xs (i + 1)).toInt) (sx_i32 _)) rfl (by decide) rfl (cv_La_58 E C _ (by rw [Rr.2.2]; decide)) (Nat.le_of_ble_eq_true rfl) d_La_law_704 (by rw [Rr.2.2]; decide) (by decide) rfl rfl rfl (fun r704 G704 M704 hpo _ => ?_)
  obtain ⟨e1, e2, q704, e3, f704⟩ := hpo
  rw [e1, e2, e3]
  show sx_X SC E (71, 1403) GL M 707 [(3, sx_I (((i : Nat) : Int))), (2, sx_A (53)), (1, sx_A (0)), (0, sx_B (b))] [sx_I (q704)]
  refine sx_aload_n C 1 d_La_law_707 rfl rfl ?_
  refine sx_bload_n C 3 d_La_law_708 rfl rfl ?_
  refine sx_iload_n C 0 d_La_law_709 rfl rfl ?_
  refine sx_iconst C d_La_law_710 ?_
  refine sx_iadd C d_La_law_711 ?_
  refine sx_sld C Rr.2.1 (i + 1) (by omega) (by omega) d_La_law_712 ?_
  refine sx_callV (n := 71) (As := [sx_I ((xs (i + 1)).toInt)]) (st := [sx_I (q704)]) C (ct_Mo_chosen _ _ _ (M) (rl_P h) (rl_h12 h) (rl_h63 h) ((xs (i + 1)).toInt) (sx_i32 _)) rfl (by decide) rfl (cv_La_61 E C _ (by rw [Rr.2.2]; decide)) (Nat.le_of_ble_eq_true rfl) d_La_law_713 (by rw [Rr.2.2]; decide) (by decide) rfl rfl rfl (fun r713 G713 M713 hpo _ => ?_)
  obtain ⟨e1, e2, q713, e3, f713⟩ := hpo
  rw [e1, e2, e3]
  show sx_X SC E (71, 1403) GL M 716 [(3, sx_I (((i : Nat) : Int))), (2, sx_A (53)), (1, sx_A (0)), (0, sx_B (b))] [sx_I (q713), sx_I (q704)]
  have z1 := bz_eq (op_chosen h) f704 f713
  exact sx_cmpI C 911 z1 d_La_law_716 (by decide) (kk _ h)
set_option maxRecDepth 100000 in
set_option maxHeartbeats 4000000 in
theorem lwc_10 {E : sx_E} (C : sx_C SC g_tbl "SiteChoiceLaw" code E) {b L : Nat} {xs : Nat → Int32} (Rr : lwE E b L xs) {M : sx_M0} (h : rl M) {i : Nat} (hi : i + 9 ≤ L) (kk : ∀ M', rl M' → sx_X SC E (71, 1403) GL M' 911 [(3, sx_I (((i : Nat) : Int))), (2, sx_A (53)), (1, sx_A (0)), (0, sx_B (b))] []) : sx_X SC E (71, 1403) GL M 721 [(3, sx_I (((i : Nat) : Int))), (2, sx_A (53)), (1, sx_A (0)), (0, sx_B (b))] [] := by
  refine sx_aload_n C 2 d_La_law_721 rfl rfl ?_
  refine sx_bload_n C 3 d_La_law_722 rfl rfl ?_
  refine sx_iload_n C 0 d_La_law_723 rfl rfl ?_
  refine sx_iconst C d_La_law_724 ?_
  refine sx_iadd C d_La_law_725 ?_
  refine sx_sld C Rr.2.1 (i + 1) (by omega) (by omega) d_La_law_726 ?_
  refine sx_callV (n := 71) (As := [sx_I ((xs (i + 1)).toInt)]) (st := []) C (ct_Si_of _ _ _ (M) h.1 ((xs (i + 1)).toInt) (sx_i32 _)) rfl (by decide) rfl (cv_La_62 E C _ (by rw [Rr.2.2]; decide)) (Nat.le_of_ble_eq_true rfl) d_La_law_727 (by rw [Rr.2.2]; decide) (by decide) rfl rfl rfl (fun r727 G727 M727 hpo _ => ?_)
  obtain ⟨e1, e2, e3⟩ := hpo
  obtain ⟨q727, e3, f727⟩ := nm_I e3
  rw [e1, e2, e3]
  show sx_X SC E (71, 1403) GL M 730 [(3, sx_I (((i : Nat) : Int))), (2, sx_A (53)), (1, sx_A (0)), (0, sx_B (b))] [sx_I (q727)]
  refine sx_aload_n C 1 d_La_law_730 rfl rfl ?_
  refine sx_bload_n C 3 d_La_law_731 rfl rfl ?_
  refine sx_iload_n C 0 d_La_law_732 rfl rfl ?_
  refine sx_iconst C d_La_law_733 ?_
  refine sx_iadd C d_La_law_734 ?_
  refine sx_sld C Rr.2.1 (i + 1) (by omega) (by omega) d_La_law_735 ?_
  refine sx_callV (n := 71) (As := [sx_I ((xs (i + 1)).toInt)]) (st := [sx_I (q727)]) C (ct_Mo_of _ _ _ (M) (rl_D h) (rl_h12 h) ((xs (i + 1)).toInt) (sx_i32 _)) rfl (by decide) rfl (cv_La_66 E C _ (by rw [Rr.2.2]; decide)) (Nat.le_of_ble_eq_true rfl) d_La_law_736 (by rw [Rr.2.2]; decide) (by decide) rfl rfl rfl (fun r736 G736 M736 hpo _ => ?_)
  obtain ⟨e1, e2, e3⟩ := hpo
  obtain ⟨q736, e3, f736⟩ := nm_I e3
  rw [e1, e2, e3]
  show sx_X SC E (71, 1403) GL M 739 [(3, sx_I (((i : Nat) : Int))), (2, sx_A (53)), (1, sx_A (0)), (0, sx_B (b))] [sx_I (q736), sx_I (q727)]
  have z1 := f727.trans ((op_of h).trans f736.symm)
  exact sx_cmpI C 911 z1 d_La_law_739 (by decide) (kk _ h)
set_option maxRecDepth 100000 in
set_option maxHeartbeats 4000000 in
theorem lwc_11 {E : sx_E} (C : sx_C SC g_tbl "SiteChoiceLaw" code E) {b L : Nat} {xs : Nat → Int32} (Rr : lwE E b L xs) {M : sx_M0} (h : rl M) {i : Nat} (hi : i + 9 ≤ L) (kk : ∀ M', rl M' → sx_X SC E (71, 1403) GL M' 911 [(3, sx_I (((i : Nat) : Int))), (2, sx_A (53)), (1, sx_A (0)), (0, sx_B (b))] []) : sx_X SC E (71, 1403) GL M 744 [(3, sx_I (((i : Nat) : Int))), (2, sx_A (53)), (1, sx_A (0)), (0, sx_B (b))] [] := by
  refine sx_aload_n C 2 d_La_law_744 rfl rfl ?_
  refine sx_callV (n := 71) (As := []) (st := []) C (ct_Si_sum _ _ _ (M) h.1  ) rfl (by decide) rfl (cv_La_67 E C _ (by rw [Rr.2.2]; decide)) (Nat.le_of_ble_eq_true rfl) d_La_law_745 (by rw [Rr.2.2]; decide) (by decide) rfl rfl rfl (fun r745 G745 M745 hpo _ => ?_)
  obtain ⟨e1, e2, e3⟩ := hpo
  obtain ⟨q745, e3, f745⟩ := nm_J e3
  rw [e1, e2, e3]
  show sx_X SC E (71, 1403) GL M 748 [(3, sx_I (((i : Nat) : Int))), (2, sx_A (53)), (1, sx_A (0)), (0, sx_B (b))] [sx_J (q745)]
  refine sx_aload_n C 1 d_La_law_748 rfl rfl ?_
  refine sx_callV (n := 71) (As := []) (st := [sx_J (q745)]) C (ct_Mo_sum _ _ _ (M) (rl_h12 h)  ) rfl (by decide) rfl (cv_La_70 E C _ (by rw [Rr.2.2]; decide)) (Nat.le_of_ble_eq_true rfl) d_La_law_749 (by rw [Rr.2.2]; decide) (by decide) rfl rfl rfl (fun r749 G749 M749 hpo _ => ?_)
  obtain ⟨e1, e2, e3⟩ := hpo
  obtain ⟨q749, e3, f749⟩ := nm_J e3
  rw [e1, e2, e3]
  show sx_X SC E (71, 1403) GL M 752 [(3, sx_I (((i : Nat) : Int))), (2, sx_A (53)), (1, sx_A (0)), (0, sx_B (b))] [sx_J (q749), sx_J (q745)]
  have z1 := f745.trans ((op_sum h).trans f749.symm)
  exact sx_cmpL C 911 z1 d_La_law_752 d_La_law_753 (by decide) (kk _ h)
set_option maxRecDepth 100000 in
set_option maxHeartbeats 4000000 in
theorem lwc_12 {E : sx_E} (C : sx_C SC g_tbl "SiteChoiceLaw" code E) {b L : Nat} {xs : Nat → Int32} (Rr : lwE E b L xs) {M : sx_M0} (h : rl M) {i : Nat} (hi : i + 9 ≤ L) (kk : ∀ M', rl M' → sx_X SC E (71, 1403) GL M' 911 [(3, sx_I (((i : Nat) : Int))), (2, sx_A (53)), (1, sx_A (0)), (0, sx_B (b))] []) : sx_X SC E (71, 1403) GL M 758 [(3, sx_I (((i : Nat) : Int))), (2, sx_A (53)), (1, sx_A (0)), (0, sx_B (b))] [] := by
  refine sx_aload_n C 2 d_La_law_758 rfl rfl ?_
  refine sx_callV (n := 71) (As := []) (st := []) C (ct_Si_bound _ _ _ (M) h.1  ) rfl (by decide) rfl (cv_La_71 E C _ (by rw [Rr.2.2]; decide)) (Nat.le_of_ble_eq_true rfl) d_La_law_759 (by rw [Rr.2.2]; decide) (by decide) rfl rfl rfl (fun r759 G759 M759 hpo _ => ?_)
  obtain ⟨e1, q759, e2, s759, a759⟩ := hpo
  rw [e1, e2]
  show sx_X SC E (71, 1403) GL M759 762 [(3, sx_I (((i : Nat) : Int))), (2, sx_A (53)), (1, sx_A (0)), (0, sx_B (b))] [sx_J (q759)]
  refine sx_aload_n C 1 d_La_law_762 rfl rfl ?_
  refine sx_callV (n := 71) (As := []) (st := [sx_J (q759)]) C (ct_Mo_bound _ _ _ (M759) (mid_sc h s759).1 (mid_sc h s759).2  ) rfl (by decide) rfl (cv_La_74 E C _ (by rw [Rr.2.2]; decide)) (Nat.le_of_ble_eq_true rfl) d_La_law_763 (by rw [Rr.2.2]; decide) (by decide) rfl rfl rfl (fun r763 G763 M763 hpo _ => ?_)
  obtain ⟨e1, e2, q763, e3, a763⟩ := hpo
  rw [e1, e2, e3]
  show sx_X SC E (71, 1403) GL M759 766 [(3, sx_I (((i : Nat) : Int))), (2, sx_A (53)), (1, sx_A (0)), (0, sx_B (b))] [sx_J (q763), sx_J (q759)]
  have z1 := (op_bound h s759 a759 a763).1
  exact sx_cmpL C 911 z1 d_La_law_766 d_La_law_767 (by decide) (kk _ (rl_sc h s759))
set_option maxRecDepth 100000 in
set_option maxHeartbeats 4000000 in
theorem lwc_13 {E : sx_E} (C : sx_C SC g_tbl "SiteChoiceLaw" code E) {b L : Nat} {xs : Nat → Int32} (Rr : lwE E b L xs) {M : sx_M0} (h : rl M) {i : Nat} (hi : i + 9 ≤ L) (kk : ∀ M', rl M' → sx_X SC E (71, 1403) GL M' 911 [(3, sx_I (((i : Nat) : Int))), (2, sx_A (53)), (1, sx_A (0)), (0, sx_B (b))] []) : sx_X SC E (71, 1403) GL M 772 [(3, sx_I (((i : Nat) : Int))), (2, sx_A (53)), (1, sx_A (0)), (0, sx_B (b))] [] := by
  refine sx_aload_n C 2 d_La_law_772 rfl rfl ?_
  refine sx_callV (n := 71) (As := []) (st := []) C (ct_Si_proved _ _ _ (M) h.1  ) rfl (by decide) rfl (cv_La_75 E C _ (by rw [Rr.2.2]; decide)) (Nat.le_of_ble_eq_true rfl) d_La_law_773 (by rw [Rr.2.2]; decide) (by decide) rfl rfl rfl (fun r773 G773 M773 hpo _ => ?_)
  obtain ⟨e1, e2, e3⟩ := hpo
  obtain ⟨q773, e3, f773⟩ := nm_I e3
  rw [e1, e2, e3]
  show sx_X SC E (71, 1403) GL M 776 [(3, sx_I (((i : Nat) : Int))), (2, sx_A (53)), (1, sx_A (0)), (0, sx_B (b))] [sx_I (q773)]
  refine sx_aload_n C 1 d_La_law_776 rfl rfl ?_
  refine sx_callV (n := 71) (As := []) (st := [sx_I (q773)]) C (ct_Mo_proved _ _ _ (M) (rl_h15 h)  ) rfl (by decide) rfl (cv_La_79 E C _ (by rw [Rr.2.2]; decide)) (Nat.le_of_ble_eq_true rfl) d_La_law_777 (by rw [Rr.2.2]; decide) (by decide) rfl rfl rfl (fun r777 G777 M777 hpo _ => ?_)
  obtain ⟨e1, e2, e3⟩ := hpo
  obtain ⟨q777, e3, f777⟩ := nm_I e3
  rw [e1, e2, e3]
  show sx_X SC E (71, 1403) GL M 780 [(3, sx_I (((i : Nat) : Int))), (2, sx_A (53)), (1, sx_A (0)), (0, sx_B (b))] [sx_I (q777), sx_I (q773)]
  have z1 := f773.trans (h.2.2.2.2.1.symm.trans f777.symm)
  exact sx_cmpI C 911 z1 d_La_law_780 (by decide) (kk _ h)
set_option maxRecDepth 100000 in
set_option maxHeartbeats 4000000 in
theorem lwc_14 {E : sx_E} (C : sx_C SC g_tbl "SiteChoiceLaw" code E) {b L : Nat} {xs : Nat → Int32} (Rr : lwE E b L xs) {M : sx_M0} (h : rl M) {i : Nat} (hi : i + 9 ≤ L) (kk : ∀ M', rl M' → sx_X SC E (71, 1403) GL M' 911 [(3, sx_I (((i : Nat) : Int))), (2, sx_A (53)), (1, sx_A (0)), (0, sx_B (b))] []) : sx_X SC E (71, 1403) GL M 785 [(3, sx_I (((i : Nat) : Int))), (2, sx_A (53)), (1, sx_A (0)), (0, sx_B (b))] [] := by
  obtain ⟨u, u1, u2, u3⟩ := h.2.2.2.2.2.1
  refine sx_aload_n C 2 d_La_law_785 rfl rfl ?_
  refine sx_bload_n C 3 d_La_law_786 rfl rfl ?_
  refine sx_iload_n C 0 d_La_law_787 rfl rfl ?_
  refine sx_iconst C d_La_law_788 ?_
  refine sx_iadd C d_La_law_789 ?_
  refine sx_sld C Rr.2.1 (i + 1) (by omega) (by omega) d_La_law_790 ?_
  refine sx_callV (n := 71) (As := [sx_I ((xs (i + 1)).toInt)]) (st := []) C (ct_Si_clash _ _ _ (M) h.1 ((xs (i + 1)).toInt) (sx_i32 _)) rfl (by decide) rfl (cv_La_80 E C _ (by rw [Rr.2.2]; decide)) (Nat.le_of_ble_eq_true rfl) d_La_law_791 (by rw [Rr.2.2]; decide) (by decide) rfl rfl rfl (fun r791 G791 M791 hpo _ => ?_)
  obtain ⟨e1, e2, e3⟩ := hpo
  obtain ⟨q791, e3, f791⟩ := nm_I e3
  rw [e1, e2, e3]
  show sx_X SC E (71, 1403) GL M 794 [(3, sx_I (((i : Nat) : Int))), (2, sx_A (53)), (1, sx_A (0)), (0, sx_B (b))] [sx_I (q791)]
  refine sx_aload_n C 1 d_La_law_794 rfl rfl ?_
  refine sx_bload_n C 3 d_La_law_795 rfl rfl ?_
  refine sx_iload_n C 0 d_La_law_796 rfl rfl ?_
  refine sx_iconst C d_La_law_797 ?_
  refine sx_iadd C d_La_law_798 ?_
  refine sx_sld C Rr.2.1 (i + 1) (by omega) (by omega) d_La_law_799 ?_
  refine sx_callV (n := 71) (As := [sx_I ((xs (i + 1)).toInt)]) (st := [sx_I (q791)]) C (ct_Mo_clash _ _ _ (M) u u1 u2 ((xs (i + 1)).toInt) (sx_i32 _)) rfl (by decide) rfl (cv_La_83 E C _ (by rw [Rr.2.2]; decide)) (Nat.le_of_ble_eq_true rfl) d_La_law_800 (by rw [Rr.2.2]; decide) (by decide) rfl rfl rfl (fun r800 G800 M800 hpo _ => ?_)
  obtain ⟨e1, e2, e3⟩ := hpo
  obtain ⟨q800, e3, f800⟩ := nm_I e3
  rw [e1, e2, e3]
  show sx_X SC E (71, 1403) GL M 803 [(3, sx_I (((i : Nat) : Int))), (2, sx_A (53)), (1, sx_A (0)), (0, sx_B (b))] [sx_I (q800), sx_I (q791)]
  have z1 := f791.trans ((u3 _).trans f800.symm)
  exact sx_cmpI C 911 z1 d_La_law_803 (by decide) (kk _ h)
set_option maxRecDepth 100000 in
set_option maxHeartbeats 4000000 in
theorem lwc_15 {E : sx_E} (C : sx_C SC g_tbl "SiteChoiceLaw" code E) {b L : Nat} {xs : Nat → Int32} (Rr : lwE E b L xs) {M : sx_M0} (h : rl M) {i : Nat} (hi : i + 9 ≤ L) (kk : ∀ M', rl M' → sx_X SC E (71, 1403) GL M' 911 [(3, sx_I (((i : Nat) : Int))), (2, sx_A (53)), (1, sx_A (0)), (0, sx_B (b))] []) : sx_X SC E (71, 1403) GL M 808 [(3, sx_I (((i : Nat) : Int))), (2, sx_A (53)), (1, sx_A (0)), (0, sx_B (b))] [] := by
  refine sx_aload_n C 2 d_La_law_808 rfl rfl ?_
  refine sx_bload_n C 3 d_La_law_809 rfl rfl ?_
  refine sx_iload_n C 0 d_La_law_810 rfl rfl ?_
  refine sx_iconst C d_La_law_811 ?_
  refine sx_iadd C d_La_law_812 ?_
  refine sx_sld C Rr.2.1 (i + 1) (by omega) (by omega) d_La_law_813 ?_
  refine sx_callV (n := 71) (As := [sx_I ((xs (i + 1)).toInt)]) (st := []) C (ct_Si_gain _ _ _ (M) h.1 ((xs (i + 1)).toInt) (sx_i32 _)) rfl (by decide) rfl (cv_La_84 E C _ (by rw [Rr.2.2]; decide)) (Nat.le_of_ble_eq_true rfl) d_La_law_814 (by rw [Rr.2.2]; decide) (by decide) rfl rfl rfl (fun r814 G814 M814 hpo _ => ?_)
  obtain ⟨e1, q814, e2, s814, a814⟩ := hpo
  rw [e1, e2]
  show sx_X SC E (71, 1403) GL M814 817 [(3, sx_I (((i : Nat) : Int))), (2, sx_A (53)), (1, sx_A (0)), (0, sx_B (b))] [sx_J (q814)]
  refine sx_aload_n C 1 d_La_law_817 rfl rfl ?_
  refine sx_bload_n C 3 d_La_law_818 rfl rfl ?_
  refine sx_iload_n C 0 d_La_law_819 rfl rfl ?_
  refine sx_iconst C d_La_law_820 ?_
  refine sx_iadd C d_La_law_821 ?_
  refine sx_sld C Rr.2.1 (i + 1) (by omega) (by omega) d_La_law_822 ?_
  refine sx_callV (n := 71) (As := [sx_I ((xs (i + 1)).toInt)]) (st := [sx_J (q814)]) C (ct_Mo_gain _ _ _ (M814) (mid_sc h s814).1 (mid_sc h s814).2 ((xs (i + 1)).toInt) (sx_i32 _)) rfl (by decide) rfl (cv_La_88 E C _ (by rw [Rr.2.2]; decide)) (Nat.le_of_ble_eq_true rfl) d_La_law_823 (by rw [Rr.2.2]; decide) (by decide) rfl rfl rfl (fun r823 G823 M823 hpo _ => ?_)
  obtain ⟨e1, q823, e2, s823, a823⟩ := hpo
  rw [e1, e2]
  show sx_X SC E (71, 1403) GL M823 826 [(3, sx_I (((i : Nat) : Int))), (2, sx_A (53)), (1, sx_A (0)), (0, sx_B (b))] [sx_J (q823), sx_J (q814)]
  have z1 := (op_gain h s814 a814 a823).1
  exact sx_cmpL C 911 z1 d_La_law_826 d_La_law_827 (by decide) (kk _ (rl_hi (rl_sc h s814) (fun a ha => s823 a (by omega) (by omega) (by omega))))
set_option maxRecDepth 100000 in
set_option maxHeartbeats 4000000 in
theorem lwc_16 {E : sx_E} (C : sx_C SC g_tbl "SiteChoiceLaw" code E) {b L : Nat} {xs : Nat → Int32} (Rr : lwE E b L xs) {M : sx_M0} (h : rl M) {i : Nat} (hi : i + 9 ≤ L) (kk : ∀ M', rl M' → sx_X SC E (71, 1403) GL M' 911 [(3, sx_I (((i : Nat) : Int))), (2, sx_A (53)), (1, sx_A (0)), (0, sx_B (b))] []) : sx_X SC E (71, 1403) GL M 832 [(3, sx_I (((i : Nat) : Int))), (2, sx_A (53)), (1, sx_A (0)), (0, sx_B (b))] [] := by
  refine sx_aload_n C 2 d_La_law_832 rfl rfl ?_
  refine sx_bload_n C 3 d_La_law_833 rfl rfl ?_
  refine sx_iload_n C 0 d_La_law_834 rfl rfl ?_
  refine sx_iconst C d_La_law_835 ?_
  refine sx_iadd C d_La_law_836 ?_
  refine sx_sld C Rr.2.1 (i + 1) (by omega) (by omega) d_La_law_837 ?_
  refine sx_callV (n := 71) (As := [sx_I ((xs (i + 1)).toInt)]) (st := []) C (ct_Si_improve _ _ _ (M) h.1 ((xs (i + 1)).toInt) (sx_i32 _)) rfl (by decide) rfl (cv_La_89 E C _ (by rw [Rr.2.2]; decide)) (Nat.le_of_ble_eq_true rfl) d_La_law_838 (by rw [Rr.2.2]; decide) (by decide) rfl rfl rfl (fun r838 G838 M838 hpo _ => ?_)
  obtain ⟨e1, q838, e2, a838⟩ := hpo
  rw [e1, e2]
  show sx_X SC E (71, 1403) GL M838 841 [(3, sx_I (((i : Nat) : Int))), (2, sx_A (53)), (1, sx_A (0)), (0, sx_B (b))] [sx_I (q838)]
  refine sx_aload_n C 1 d_La_law_841 rfl rfl ?_
  refine sx_bload_n C 3 d_La_law_842 rfl rfl ?_
  refine sx_iload_n C 0 d_La_law_843 rfl rfl ?_
  refine sx_iconst C d_La_law_844 ?_
  refine sx_iadd C d_La_law_845 ?_
  refine sx_sld C Rr.2.1 (i + 1) (by omega) (by omega) d_La_law_846 ?_
  refine sx_callV (n := 71) (As := [sx_I ((xs (i + 1)).toInt)]) (st := [sx_I (q838)]) C (ct_Mo_improve _ _ _ (M838) (mid_improve h a838).1 (mid_improve h a838).2.1 (mid_improve h a838).2.2.1 (mid_improve h a838).2.2.2 ((xs (i + 1)).toInt) (sx_i32 _)) rfl (by decide) rfl (cv_La_92 E C _ (by rw [Rr.2.2]; decide)) (Nat.le_of_ble_eq_true rfl) d_La_law_847 (by rw [Rr.2.2]; decide) (by decide) rfl rfl rfl (fun r847 G847 M847 hpo _ => ?_)
  obtain ⟨e1, q847, e2, a847⟩ := hpo
  rw [e1, e2]
  show sx_X SC E (71, 1403) GL M847 850 [(3, sx_I (((i : Nat) : Int))), (2, sx_A (53)), (1, sx_A (0)), (0, sx_B (b))] [sx_I (q847), sx_I (q838)]
  obtain ⟨z1, z2⟩ := op_improve h a838 a847
  exact sx_cmpI C 911 z1 d_La_law_850 (by decide) (kk _ z2)
set_option maxRecDepth 100000 in
set_option maxHeartbeats 4000000 in
theorem lwc_17 {E : sx_E} (C : sx_C SC g_tbl "SiteChoiceLaw" code E) {b L : Nat} {xs : Nat → Int32} (Rr : lwE E b L xs) {M : sx_M0} (h : rl M) {i : Nat} (hi : i + 9 ≤ L) (kk : ∀ M', rl M' → sx_X SC E (71, 1403) GL M' 911 [(3, sx_I (((i : Nat) : Int))), (2, sx_A (53)), (1, sx_A (0)), (0, sx_B (b))] []) : sx_X SC E (71, 1403) GL M 855 [(3, sx_I (((i : Nat) : Int))), (2, sx_A (53)), (1, sx_A (0)), (0, sx_B (b))] [] := by
  refine sx_aload_n C 2 d_La_law_855 rfl rfl ?_
  refine sx_bload_n C 3 d_La_law_856 rfl rfl ?_
  refine sx_iload_n C 0 d_La_law_857 rfl rfl ?_
  refine sx_iconst C d_La_law_858 ?_
  refine sx_iadd C d_La_law_859 ?_
  refine sx_sld C Rr.2.1 (i + 1) (by omega) (by omega) d_La_law_860 ?_
  refine sx_callV (n := 71) (As := [sx_I ((xs (i + 1)).toInt)]) (st := []) C (ct_Si_years _ _ _ (M) h.1 ((xs (i + 1)).toInt) (sx_i32 _)) rfl (by decide) rfl (cv_La_93 E C _ (by rw [Rr.2.2]; decide)) (Nat.le_of_ble_eq_true rfl) d_La_law_861 (by rw [Rr.2.2]; decide) (by decide) rfl rfl rfl (fun r861 G861 M861 hpo _ => ?_)
  obtain ⟨e1, q861, e2, s861, a861⟩ := hpo
  rw [e1, e2]
  show sx_X SC E (71, 1403) GL M861 864 [(3, sx_I (((i : Nat) : Int))), (2, sx_A (53)), (1, sx_A (0)), (0, sx_B (b))] [sx_I (q861)]
  refine sx_aload_n C 1 d_La_law_864 rfl rfl ?_
  refine sx_bload_n C 3 d_La_law_865 rfl rfl ?_
  refine sx_iload_n C 0 d_La_law_866 rfl rfl ?_
  refine sx_iconst C d_La_law_867 ?_
  refine sx_iadd C d_La_law_868 ?_
  refine sx_sld C Rr.2.1 (i + 1) (by omega) (by omega) d_La_law_869 ?_
  refine sx_callV (n := 71) (As := [sx_I ((xs (i + 1)).toInt)]) (st := [sx_I (q861)]) C (ct_Mo_years _ _ _ (M861) (mid_years h a861).1 (mid_years h a861).2 ((xs (i + 1)).toInt) (sx_i32 _)) rfl (by decide) rfl (cv_La_96 E C _ (by rw [Rr.2.2]; decide)) (Nat.le_of_ble_eq_true rfl) d_La_law_870 (by rw [Rr.2.2]; decide) (by decide) rfl rfl rfl (fun r870 G870 M870 hpo _ => ?_)
  obtain ⟨e1, q870, e2, a870⟩ := hpo
  rw [e1, e2]
  show sx_X SC E (71, 1403) GL M870 873 [(3, sx_I (((i : Nat) : Int))), (2, sx_A (53)), (1, sx_A (0)), (0, sx_B (b))] [sx_I (q870), sx_I (q861)]
  obtain ⟨z1, z2⟩ := op_years h a861 a870
  exact sx_cmpI C 911 z1 d_La_law_873 (by decide) (kk _ z2)
set_option maxRecDepth 100000 in
set_option maxHeartbeats 4000000 in
theorem lwc_18 {E : sx_E} (C : sx_C SC g_tbl "SiteChoiceLaw" code E) {b L : Nat} {xs : Nat → Int32} (Rr : lwE E b L xs) {M : sx_M0} (h : rl M) {i : Nat} (hi : i + 9 ≤ L) (kk : ∀ M', rl M' → sx_X SC E (71, 1403) GL M' 911 [(3, sx_I (((i : Nat) : Int))), (2, sx_A (53)), (1, sx_A (0)), (0, sx_B (b))] []) : sx_X SC E (71, 1403) GL M 878 [(3, sx_I (((i : Nat) : Int))), (2, sx_A (53)), (1, sx_A (0)), (0, sx_B (b))] [] := by
  refine sx_aload_n C 2 d_La_law_878 rfl rfl ?_
  refine sx_bload_n C 3 d_La_law_879 rfl rfl ?_
  refine sx_iload_n C 0 d_La_law_880 rfl rfl ?_
  refine sx_iconst C d_La_law_881 ?_
  refine sx_iadd C d_La_law_882 ?_
  refine sx_sld C Rr.2.1 (i + 1) (by omega) (by omega) d_La_law_883 ?_
  refine sx_bload_n C 3 d_La_law_884 rfl rfl ?_
  refine sx_iload_n C 0 d_La_law_885 rfl rfl ?_
  refine sx_iconst C d_La_law_886 ?_
  refine sx_iadd C d_La_law_887 ?_
  refine sx_sld C Rr.2.1 (i + 2) (by omega) (by omega) d_La_law_888 ?_
  refine sx_callV (n := 71) (As := [sx_I ((xs (i + 1)).toInt), sx_I ((xs (i + 2)).toInt)]) (st := []) C (ct_Si_open _ _ _ (M) h.1 ((xs (i + 1)).toInt) ((xs (i + 2)).toInt) (sx_i32 _) (sx_i32 _)) rfl (by decide) rfl (cv_La_97 E C _ (by rw [Rr.2.2]; decide)) (Nat.le_of_ble_eq_true rfl) d_La_law_889 (by rw [Rr.2.2]; decide) (by decide) rfl rfl rfl (fun r889 G889 M889 hpo _ => ?_)
  obtain ⟨e1, e2, e3⟩ := hpo
  obtain ⟨q889, e3, f889⟩ := nm_I e3
  rw [e1, e2, e3]
  show sx_X SC E (71, 1403) GL M 892 [(3, sx_I (((i : Nat) : Int))), (2, sx_A (53)), (1, sx_A (0)), (0, sx_B (b))] [sx_I (q889)]
  refine sx_aload_n C 1 d_La_law_892 rfl rfl ?_
  refine sx_bload_n C 3 d_La_law_893 rfl rfl ?_
  refine sx_iload_n C 0 d_La_law_894 rfl rfl ?_
  refine sx_iconst C d_La_law_895 ?_
  refine sx_iadd C d_La_law_896 ?_
  refine sx_sld C Rr.2.1 (i + 1) (by omega) (by omega) d_La_law_897 ?_
  refine sx_bload_n C 3 d_La_law_898 rfl rfl ?_
  refine sx_iload_n C 0 d_La_law_899 rfl rfl ?_
  refine sx_iconst C d_La_law_900 ?_
  refine sx_iadd C d_La_law_901 ?_
  refine sx_sld C Rr.2.1 (i + 2) (by omega) (by omega) d_La_law_902 ?_
  refine sx_callV (n := 71) (As := [sx_I ((xs (i + 1)).toInt), sx_I ((xs (i + 2)).toInt)]) (st := [sx_I (q889)]) C (ct_Mo_open _ _ _ (M) (rl_P h) (rl_yS h).1 (rl_yS h).2 ((xs (i + 1)).toInt) ((xs (i + 2)).toInt) (sx_i32 _) (sx_i32 _)) rfl (by decide) rfl (cv_La_101 E C _ (by rw [Rr.2.2]; decide)) (Nat.le_of_ble_eq_true rfl) d_La_law_903 (by rw [Rr.2.2]; decide) (by decide) rfl rfl rfl (fun r903 G903 M903 hpo _ => ?_)
  obtain ⟨e1, e2, e3⟩ := hpo
  obtain ⟨q903, e3, f903⟩ := nm_I e3
  rw [e1, e2, e3]
  show sx_X SC E (71, 1403) GL M 906 [(3, sx_I (((i : Nat) : Int))), (2, sx_A (53)), (1, sx_A (0)), (0, sx_B (b))] [sx_I (q903), sx_I (q889)]
  have z1 := f889.trans ((op_open h).trans f903.symm)
  exact sx_cmpI C 911 z1 d_La_law_906 (by decide) (kk _ h)
set_option maxRecDepth 100000 in
set_option maxHeartbeats 4000000 in
theorem law_loop {E : sx_E} (C : sx_C SC g_tbl "SiteChoiceLaw" code E) {b L : Nat} {xs : Nat → Int32} (Rr : lwE E b L xs) (hnL : sx_nL E = 4) (hex : ∀ (M : sx_M0) (i : Nat), sx_X SC E (71, 1403) GL M 918 [(3, sx_I (((i : Nat) : Int))), (2, sx_A (53)), (1, sx_A (0)), (0, sx_B (b))] [sx_I (1)]) : ∀ (nF i : Nat) (M : sx_M0), L - i < nF → i ≤ L → rl M → sx_X SC E (71, 1403) GL M 18 [(3, sx_I (((i : Nat) : Int))), (2, sx_A (53)), (1, sx_A (0)), (0, sx_B (b))] [] := by
  have hL := Rr.2.1.2.2.2
  intro nF
  induction nF with
  | zero => intro i M h; omega
  | succ nF ih =>
    intro i M hn hi h
    refine sx_iload_n C 0 d_La_law_18 rfl rfl ?_
    refine sx_bload_n C 3 d_La_law_19 rfl rfl ?_
    refine sx_slen C Rr.2.1 d_La_law_20 ?_
    refine sx_bipush C d_La_law_21 (by decide) ?_
    refine sx_isub C d_La_law_23 ?_
    refine sx_icmp_gt C 917 ⟨by omega, by omega⟩ ⟨by omega, by omega⟩ d_La_law_24 (by decide) (fun c24 => ?_) (fun c24 => ?_)
    · refine sx_iconst C d_La_law_917 ?_
      exact hex M i
    · have h9 : i + 9 ≤ L := by omega
      have kk : ∀ M', rl M' → sx_X SC E (71, 1403) GL M' 911 [(3, sx_I (((i : Nat) : Int))), (2, sx_A (53)), (1, sx_A (0)), (0, sx_B (b))] [] := fun M' h' => by
        refine sx_iinc (lv' := [(3, sx_I (((i + 9 : Nat) : Int))), (2, sx_A (53)), (1, sx_A (0)), (0, sx_B (b))]) C 0 d_La_law_911 rfl (by rw [hnL]; decide) rfl ?_
        refine sx_goto C 18 d_La_law_914 (by decide) ?_
        exact ih (i + 9) M' (by omega) (by omega) h'
      refine sx_bload_n C 3 d_La_law_27 rfl rfl ?_
      refine sx_iload_n C 0 d_La_law_28 rfl rfl ?_
      refine sx_sld C Rr.2.1 i rfl (by omega) d_La_law_29 ?_
      refine sx_bipush C d_La_law_30 (by decide) ?_
      refine sx_iand C d_La_law_32 ?_
      have hv := sx_and31 (xs i).toInt
      generalize sx_and (xs i).toInt 31 = v at hv ⊢
      rcases (show v = 0 ∨ v = 1 ∨ v = 2 ∨ v = 3 ∨ v = 4 ∨ v = 5 ∨ v = 6 ∨ v = 7 ∨ v = 8 ∨ v = 9 ∨ v = 10 ∨ v = 11 ∨ v = 12 ∨ v = 13 ∨ v = 14 ∨ v = 15 ∨ v = 16 ∨ v = 17 ∨ v = 18 ∨ 18 < v by omega) with rfl | rfl | rfl | rfl | rfl | rfl | rfl | rfl | rfl | rfl | rfl | rfl | rfl | rfl | rfl | rfl | rfl | rfl | rfl | hv2
      · refine sx_tabIn C 124 ⟨by decide, by decide⟩ d_La_law_33 (by decide) (by decide) rfl (by decide) ?_
        exact lwc_0 C Rr h h9 kk
      · refine sx_tabIn C 177 ⟨by decide, by decide⟩ d_La_law_33 (by decide) (by decide) rfl (by decide) ?_
        exact lwc_1 C Rr h h9 kk
      · refine sx_tabIn C 356 ⟨by decide, by decide⟩ d_La_law_33 (by decide) (by decide) rfl (by decide) ?_
        exact lwc_2 C Rr h h9 kk
      · refine sx_tabIn C 429 ⟨by decide, by decide⟩ d_La_law_33 (by decide) (by decide) rfl (by decide) ?_
        exact lwc_3 C Rr h h9 kk
      · refine sx_tabIn C 452 ⟨by decide, by decide⟩ d_La_law_33 (by decide) (by decide) rfl (by decide) ?_
        exact lwc_4 C Rr h h9 kk
      · refine sx_tabIn C 515 ⟨by decide, by decide⟩ d_La_law_33 (by decide) (by decide) rfl (by decide) ?_
        exact lwc_5 C Rr h h9 kk
      · refine sx_tabIn C 568 ⟨by decide, by decide⟩ d_La_law_33 (by decide) (by decide) rfl (by decide) ?_
        exact lwc_6 C Rr h h9 kk
      · refine sx_tabIn C 631 ⟨by decide, by decide⟩ d_La_law_33 (by decide) (by decide) rfl (by decide) ?_
        exact lwc_7 C Rr h h9 kk
      · refine sx_tabIn C 645 ⟨by decide, by decide⟩ d_La_law_33 (by decide) (by decide) rfl (by decide) ?_
        exact lwc_8 C Rr h h9 kk
      · refine sx_tabIn C 698 ⟨by decide, by decide⟩ d_La_law_33 (by decide) (by decide) rfl (by decide) ?_
        exact lwc_9 C Rr h h9 kk
      · refine sx_tabIn C 721 ⟨by decide, by decide⟩ d_La_law_33 (by decide) (by decide) rfl (by decide) ?_
        exact lwc_10 C Rr h h9 kk
      · refine sx_tabIn C 744 ⟨by decide, by decide⟩ d_La_law_33 (by decide) (by decide) rfl (by decide) ?_
        exact lwc_11 C Rr h h9 kk
      · refine sx_tabIn C 758 ⟨by decide, by decide⟩ d_La_law_33 (by decide) (by decide) rfl (by decide) ?_
        exact lwc_12 C Rr h h9 kk
      · refine sx_tabIn C 772 ⟨by decide, by decide⟩ d_La_law_33 (by decide) (by decide) rfl (by decide) ?_
        exact lwc_13 C Rr h h9 kk
      · refine sx_tabIn C 785 ⟨by decide, by decide⟩ d_La_law_33 (by decide) (by decide) rfl (by decide) ?_
        exact lwc_14 C Rr h h9 kk
      · refine sx_tabIn C 808 ⟨by decide, by decide⟩ d_La_law_33 (by decide) (by decide) rfl (by decide) ?_
        exact lwc_15 C Rr h h9 kk
      · refine sx_tabIn C 832 ⟨by decide, by decide⟩ d_La_law_33 (by decide) (by decide) rfl (by decide) ?_
        exact lwc_16 C Rr h h9 kk
      · refine sx_tabIn C 855 ⟨by decide, by decide⟩ d_La_law_33 (by decide) (by decide) rfl (by decide) ?_
        exact lwc_17 C Rr h h9 kk
      · refine sx_tabIn C 878 ⟨by decide, by decide⟩ d_La_law_33 (by decide) (by decide) rfl (by decide) ?_
        exact lwc_18 C Rr h h9 kk
      · refine sx_tabOut C 911 ⟨by omega, by omega⟩ d_La_law_33 (Or.inr hv2) (by decide) ?_
        exact kk M h
