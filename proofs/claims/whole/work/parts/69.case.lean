/-! the cases of the law's switch -/
theorem lw_arg {X : LX} {Z : ZZ} {D : DD} {E : EE} {ce sl pc : Nat} {lv : List (Nat × Value)} {st : List Value} {k : Nat} (j : Nat) (hj : j ≤ 5) (h3 : lv.lookup 3 = some (.int (nI k))) (h0 : lv.lookup 0 = some (.ref X.b)) (hk : k + 5 < X.L) (hL : X.L ≤ 3072) (d1 : decode code pc = .ok (.aload_n 0, 1)) (d2 : decode code (pc + 1) = .ok (.iload_n 3, 1)) (d3 : decode code (pc + 2) = .ok (.iconst (j : Int), 1)) (d4 : decode code (pc + 3) = .ok (.iadd, 1)) (d5 : decode code (pc + 4) = .ok (.iaload, 1)) (kk : LW X Z D E ce sl (pc + 5) lv (.int (X.xs (k + j)) :: st)) : LW X Z D E ce sl pc lv st := by
  refine lw_r_aload_n d1 h0 ?_
  refine lw_r_iload_n d2 h3 ?_
  refine lw_r_iconst (nI j) d3 rfl ?_
  refine lw_r_iadd d4 (fun z hz => ?_)
  obtain rfl : z = nI (k + j) := hz.trans (nI_add _ _)
  refine lw_r_sld d5 (vp_in_nI (by omega) (by omega)) ?_
  rw [nI_clamp (by omega)]
  exact kk
def LV (X : LX) (k : Nat) : List (Nat × Value) := [(3, .int (nI k)), (2, .ref (X.B + 219)), (1, .ref (X.B + 0)), (0, .ref X.b)]
theorem lw_k0 {X : LX} {D : DD} {E : EE} {a : AS} {k : Nat} (hk : k + 5 < X.L) (hL0 : X.L ≤ 3072) (hx : XS D a) (hy : YS D a) (ho : OKS a) (K : ∀ D E a, XS D a → YS D a → OKS a → LW X Z0 D E 234 4604 1247 (LV X k) []) : LW X Z0 D E 234 4604 184 (LV X k) [] := by
  refine lw_r_aload_n dL_184 rfl ?_
  refine lw_arg 1 (by decide) rfl rfl hk hL0 dL_185 dL_186 dL_187 dL_188 dL_189 ?_
  refine lw_arg 2 (by decide) rfl rfl hk hL0 dL_190 dL_191 dL_192 dL_193 dL_194 ?_
  refine lw_arg 3 (by decide) rfl rfl hk hL0 dL_195 dL_196 dL_197 dL_198 dL_199 ?_
  refine lw_r_callVI (As := [.int (X.xs (k + 1)), .int (X.xs (k + 2)), .int (X.xs (k + 3))]) (o := 0) (c_X5_row X.B D E a.w hx.1.1 _ _ _) hv_X5_row wm_L_13 dL_200 rfl rfl (by decide) k_0 (by decide) rfl (Nat.le_of_ble_eq_true rfl) ⟨(Nat.le_of_ble_eq_true rfl), (Nat.le_of_ble_eq_true rfl), (Nat.le_of_ble_eq_true rfl), (Nat.le_of_ble_eq_true rfl)⟩ ⟨rfl, rfl⟩ (fun r9 D1 E1 h9 => ?_)
  obtain ⟨e9, g1, g2, -⟩ := h9
  obtain ⟨hx1, hi1⟩ := hx.rows g1 g2
  have hy1 := hy.hi hi1
  refine lw_r_aload_n dL_203 rfl ?_
  refine lw_arg 1 (by decide) rfl rfl hk hL0 dL_204 dL_205 dL_206 dL_207 dL_208 ?_
  refine lw_arg 2 (by decide) rfl rfl hk hL0 dL_209 dL_210 dL_211 dL_212 dL_213 ?_
  refine lw_arg 3 (by decide) rfl rfl hk hL0 dL_214 dL_215 dL_216 dL_217 dL_218 ?_
  refine lw_r_callVI (As := [.int (X.xs (k + 1)), .int (X.xs (k + 2)), .int (X.xs (k + 3))]) (o := 219) (c_X6_row X.B D1 E1 a.w hy1.1 _ _ _) hv_X6_row wm_L_17 dL_219 rfl rfl (by decide) k_219 (by decide) rfl (Nat.le_of_ble_eq_true rfl) ⟨(Nat.le_of_ble_eq_true rfl), (Nat.le_of_ble_eq_true rfl), (Nat.le_of_ble_eq_true rfl), (Nat.le_of_ble_eq_true rfl)⟩ ⟨rfl, rfl⟩ (fun r8 D2 E2 h8 => ?_)
  obtain ⟨e8, f1, f2, -⟩ := h8
  obtain ⟨hy2, lo2⟩ := hy1.rows f1 f2
  have hx2 := hx1.lo lo2
  exact lw_r_icmp_eq (tgt := 1247) dL_222 (by decide) (fun _ => K _ _ _ hx2 hy2 ho) (fun c9 => absurd (e9.trans e8.symm) c9)
theorem lw_k1 {X : LX} {D : DD} {E : EE} {a : AS} {k : Nat} (hk : k + 5 < X.L) (hL0 : X.L ≤ 3072) (hx : XS D a) (hy : YS D a) (ho : OKS a) (K : ∀ D E a, XS D a → YS D a → OKS a → LW X Z0 D E 234 4604 1247 (LV X k) []) : LW X Z0 D E 234 4604 227 (LV X k) [] := by
  refine lw_r_aload_n dL_227 rfl ?_
  refine lw_arg 1 (by decide) rfl rfl hk hL0 dL_228 dL_229 dL_230 dL_231 dL_232 ?_
  refine lw_arg 2 (by decide) rfl rfl hk hL0 dL_233 dL_234 dL_235 dL_236 dL_237 ?_
  refine lw_arg 3 (by decide) rfl rfl hk hL0 dL_238 dL_239 dL_240 dL_241 dL_242 ?_
  refine lw_r_callVI (As := [.int (X.xs (k + 1)), .int (X.xs (k + 2)), .int (X.xs (k + 3))]) (o := 0) (c_X5_set X.B D E a.w hx.1.1 _ _ _) hv_X5_set wm_L_18 dL_243 rfl rfl (by decide) k_0 (by decide) rfl (Nat.le_of_ble_eq_true rfl) ⟨(Nat.le_of_ble_eq_true rfl), (Nat.le_of_ble_eq_true rfl), (Nat.le_of_ble_eq_true rfl), (Nat.le_of_ble_eq_true rfl)⟩ ⟨rfl, rfl⟩ (fun r9 D1 E1 h9 => ?_)
  obtain ⟨e9, g1, g2, -⟩ := h9
  obtain ⟨hx1, hi1⟩ := hx.rows g1 g2
  have hy1 := hy.hi hi1
  refine lw_r_aload_n dL_246 rfl ?_
  refine lw_arg 1 (by decide) rfl rfl hk hL0 dL_247 dL_248 dL_249 dL_250 dL_251 ?_
  refine lw_arg 2 (by decide) rfl rfl hk hL0 dL_252 dL_253 dL_254 dL_255 dL_256 ?_
  refine lw_arg 3 (by decide) rfl rfl hk hL0 dL_257 dL_258 dL_259 dL_260 dL_261 ?_
  refine lw_r_callVI (As := [.int (X.xs (k + 1)), .int (X.xs (k + 2)), .int (X.xs (k + 3))]) (o := 219) (c_X6_set X.B D1 E1 a.w hy1.1 _ _ _) hv_X6_set wm_L_21 dL_262 rfl rfl (by decide) k_219 (by decide) rfl (Nat.le_of_ble_eq_true rfl) ⟨(Nat.le_of_ble_eq_true rfl), (Nat.le_of_ble_eq_true rfl), (Nat.le_of_ble_eq_true rfl), (Nat.le_of_ble_eq_true rfl)⟩ ⟨rfl, rfl⟩ (fun r8 D2 E2 h8 => ?_)
  obtain ⟨e8, f1, f2, -⟩ := h8
  obtain ⟨hy2, lo2⟩ := hy1.rows f1 f2
  have hx2 := hx1.lo lo2
  exact lw_r_icmp_eq (tgt := 1247) dL_265 (by decide) (fun _ => K _ _ _ hx2 hy2 ho) (fun c9 => absurd (e9.trans e8.symm) c9)
theorem lw_k2 {X : LX} {D : DD} {E : EE} {a : AS} {k : Nat} (hk : k + 5 < X.L) (hL0 : X.L ≤ 3072) (hx : XS D a) (hy : YS D a) (ho : OKS a) (K : ∀ D E a, XS D a → YS D a → OKS a → LW X Z0 D E 234 4604 1247 (LV X k) []) : LW X Z0 D E 234 4604 270 (LV X k) [] := by
  refine lw_r_aload_n dL_270 rfl ?_
  refine lw_arg 1 (by decide) rfl rfl hk hL0 dL_271 dL_272 dL_273 dL_274 dL_275 ?_
  refine lw_arg 2 (by decide) rfl rfl hk hL0 dL_276 dL_277 dL_278 dL_279 dL_280 ?_
  refine lw_arg 3 (by decide) rfl rfl hk hL0 dL_281 dL_282 dL_283 dL_284 dL_285 ?_
  refine lw_arg 4 (by decide) rfl rfl hk hL0 dL_286 dL_287 dL_288 dL_289 dL_290 ?_
  refine lw_arg 5 (by decide) rfl rfl hk hL0 dL_291 dL_292 dL_293 dL_294 dL_295 ?_
  refine lw_r_callVI (As := [.int (X.xs (k + 1)), .int (X.xs (k + 2)), .int (X.xs (k + 3)), .int (X.xs (k + 4)), .int (X.xs (k + 5))]) (o := 0) (c_X5_copy X.B D E a.w hx.1.1 _ _ _ _ _) hv_X5_copy wm_L_22 dL_296 rfl rfl (by decide) k_0 (by decide) rfl (Nat.le_of_ble_eq_true rfl) ⟨(Nat.le_of_ble_eq_true rfl), (Nat.le_of_ble_eq_true rfl), (Nat.le_of_ble_eq_true rfl), (Nat.le_of_ble_eq_true rfl)⟩ ⟨rfl, rfl⟩ (fun r9 D1 E1 h9 => ?_)
  obtain ⟨e9, g1, g2, -⟩ := h9
  obtain ⟨hx1, hi1⟩ := hx.rows g1 g2
  have hy1 := hy.hi hi1
  refine lw_r_aload_n dL_299 rfl ?_
  refine lw_arg 1 (by decide) rfl rfl hk hL0 dL_300 dL_301 dL_302 dL_303 dL_304 ?_
  refine lw_arg 2 (by decide) rfl rfl hk hL0 dL_305 dL_306 dL_307 dL_308 dL_309 ?_
  refine lw_arg 3 (by decide) rfl rfl hk hL0 dL_310 dL_311 dL_312 dL_313 dL_314 ?_
  refine lw_arg 4 (by decide) rfl rfl hk hL0 dL_315 dL_316 dL_317 dL_318 dL_319 ?_
  refine lw_arg 5 (by decide) rfl rfl hk hL0 dL_320 dL_321 dL_322 dL_323 dL_324 ?_
  refine lw_r_callVI (As := [.int (X.xs (k + 1)), .int (X.xs (k + 2)), .int (X.xs (k + 3)), .int (X.xs (k + 4)), .int (X.xs (k + 5))]) (o := 219) (c_X6_copy X.B D1 E1 a.w hy1.1 _ _ _ _ _) hv_X6_copy wm_L_26 dL_325 rfl rfl (by decide) k_219 (by decide) rfl (Nat.le_of_ble_eq_true rfl) ⟨(Nat.le_of_ble_eq_true rfl), (Nat.le_of_ble_eq_true rfl), (Nat.le_of_ble_eq_true rfl), (Nat.le_of_ble_eq_true rfl)⟩ ⟨rfl, rfl⟩ (fun r8 D2 E2 h8 => ?_)
  obtain ⟨e8, f1, f2, -⟩ := h8
  obtain ⟨hy2, lo2⟩ := hy1.rows f1 f2
  have hx2 := hx1.lo lo2
  exact lw_r_icmp_eq (tgt := 1247) dL_328 (by decide) (fun _ => K _ _ _ hx2 hy2 ho) (fun c9 => absurd (e9.trans e8.symm) c9)
theorem lw_k3 {X : LX} {D : DD} {E : EE} {a : AS} {k : Nat} (hk : k + 5 < X.L) (hL0 : X.L ≤ 3072) (hx : XS D a) (hy : YS D a) (ho : OKS a) (K : ∀ D E a, XS D a → YS D a → OKS a → LW X Z0 D E 234 4604 1247 (LV X k) []) : LW X Z0 D E 234 4604 333 (LV X k) [] := by
  refine lw_r_aload_n dL_333 rfl ?_
  refine lw_arg 1 (by decide) rfl rfl hk hL0 dL_334 dL_335 dL_336 dL_337 dL_338 ?_
  refine lw_r_callVI (As := [.int (X.xs (k + 1))]) (o := 0) (c_X5_drop X.B D E a.w hx.1.1 _) hv_X5_drop wm_L_27 dL_339 rfl rfl (by decide) k_0 (by decide) rfl (Nat.le_of_ble_eq_true rfl) ⟨(Nat.le_of_ble_eq_true rfl), (Nat.le_of_ble_eq_true rfl), (Nat.le_of_ble_eq_true rfl), (Nat.le_of_ble_eq_true rfl)⟩ ⟨rfl, rfl⟩ (fun r9 D1 E1 h9 => ?_)
  obtain ⟨e9, g1, g2, -⟩ := h9
  obtain ⟨hx1, hi1⟩ := hx.rows g1 g2
  have hy1 := hy.hi hi1
  refine lw_r_aload_n dL_342 rfl ?_
  refine lw_arg 1 (by decide) rfl rfl hk hL0 dL_343 dL_344 dL_345 dL_346 dL_347 ?_
  refine lw_r_callVI (As := [.int (X.xs (k + 1))]) (o := 219) (c_X6_drop X.B D1 E1 a.w hy1.1 _) hv_X6_drop wm_L_31 dL_348 rfl rfl (by decide) k_219 (by decide) rfl (Nat.le_of_ble_eq_true rfl) ⟨(Nat.le_of_ble_eq_true rfl), (Nat.le_of_ble_eq_true rfl), (Nat.le_of_ble_eq_true rfl), (Nat.le_of_ble_eq_true rfl)⟩ ⟨rfl, rfl⟩ (fun r8 D2 E2 h8 => ?_)
  obtain ⟨e8, f1, f2, -⟩ := h8
  obtain ⟨hy2, lo2⟩ := hy1.rows f1 f2
  have hx2 := hx1.lo lo2
  exact lw_r_icmp_eq (tgt := 1247) dL_351 (by decide) (fun _ => K _ _ _ hx2 hy2 ho) (fun c9 => absurd (e9.trans e8.symm) c9)
theorem lw_k4 {X : LX} {D : DD} {E : EE} {a : AS} {k : Nat} (hk : k + 5 < X.L) (hL0 : X.L ≤ 3072) (hx : XS D a) (hy : YS D a) (ho : OKS a) (K : ∀ D E a, XS D a → YS D a → OKS a → LW X Z0 D E 234 4604 1247 (LV X k) []) : LW X Z0 D E 234 4604 356 (LV X k) [] := by
  refine lw_r_aload_n dL_356 rfl ?_
  refine lw_arg 1 (by decide) rfl rfl hk hL0 dL_357 dL_358 dL_359 dL_360 dL_361 ?_
  refine lw_r_callVI (As := [.int (X.xs (k + 1))]) (o := 0) (c_X5_feed X.B D E a.t hx.1.2.1 _) hv_X5_feed wm_L_32 dL_362 rfl rfl (by decide) k_0 (by decide) rfl (Nat.le_of_ble_eq_true rfl) ⟨(Nat.le_of_ble_eq_true rfl), (Nat.le_of_ble_eq_true rfl), (Nat.le_of_ble_eq_true rfl), (Nat.le_of_ble_eq_true rfl)⟩ ⟨rfl, rfl⟩ (fun r9 D1 E1 h9 => ?_)
  obtain ⟨e9, g1, g2, -⟩ := h9
  obtain ⟨hx1, hi1⟩ := hx.feed g1 g2
  have hy1 := hy.hi hi1
  refine lw_r_aload_n dL_365 rfl ?_
  refine lw_arg 1 (by decide) rfl rfl hk hL0 dL_366 dL_367 dL_368 dL_369 dL_370 ?_
  refine lw_r_callVI (As := [.int (X.xs (k + 1))]) (o := 219) (c_X6_feed X.B D1 E1 a.t hy1.2.1 _) hv_X6_feed wm_L_35 dL_371 rfl rfl (by decide) k_219 (by decide) rfl (Nat.le_of_ble_eq_true rfl) ⟨(Nat.le_of_ble_eq_true rfl), (Nat.le_of_ble_eq_true rfl), (Nat.le_of_ble_eq_true rfl), (Nat.le_of_ble_eq_true rfl)⟩ ⟨rfl, rfl⟩ (fun r8 D2 E2 h8 => ?_)
  obtain ⟨e8, f1, f2, -⟩ := h8
  obtain ⟨hy2, lo2⟩ := hy1.feed f1 f2
  have hx2 := hx1.lo lo2
  exact lw_r_icmp_eq (tgt := 1247) dL_374 (by decide) (fun _ => K _ _ _ hx2 hy2 ho) (fun c9 => absurd (e9.trans e8.symm) c9)
theorem lw_k5 {X : LX} {D : DD} {E : EE} {a : AS} {k : Nat} (hk : k + 5 < X.L) (hL0 : X.L ≤ 3072) (hx : XS D a) (hy : YS D a) (ho : OKS a) (K : ∀ D E a, XS D a → YS D a → OKS a → LW X Z0 D E 234 4604 1247 (LV X k) []) : LW X Z0 D E 234 4604 379 (LV X k) [] := by
  obtain ⟨y0, hy0⟩ : ∃ y0, s_pk a.t 120 = y0 := ⟨_, rfl⟩
  have hL := land_ok (lf := a.lf) hx.1.2.1.2.1 ho.1.1 ho.1.2 hy0
  refine lw_r_aload_n dL_379 rfl ?_
  refine lw_r_callVI (As := []) (o := 0) (c_X5_land X.B D E _ _ _ _ hx.1.2.2.1 a.t hx.1.2.1 a.lf hx.1.2.2.2.2.2 y0 hy0 hx.2) hv_X5_land wm_L_36 dL_380 rfl rfl (by decide) k_0 (by decide) rfl (Nat.le_of_ble_eq_true rfl) ⟨(Nat.le_of_ble_eq_true rfl), (Nat.le_of_ble_eq_true rfl), (Nat.le_of_ble_eq_true rfl), (Nat.le_of_ble_eq_true rfl)⟩ ⟨rfl, rfl⟩ (fun r9 D1 E1 h9 => ?_)
  obtain ⟨⟨e9, g1, g2, g3, g4, g5, g6⟩, -⟩ := h9
  rw [hL.1] at g2
  obtain ⟨hx1, hi1⟩ := hx.land g2 g3 g1 g4 g5 g6
  have hy1 := hy.hi hi1
  refine lw_r_aload_n dL_383 rfl ?_
  refine lw_r_callVI (As := []) (o := 219) (c_X6_land X.B D1 E1 _ _ _ _ hy1.2.2.1 a.t hy1.2.1 a.lf hy1.2.2.2.2.2 y0 hy0) hv_X6_land wm_L_40 dL_384 rfl rfl (by decide) k_219 (by decide) rfl (Nat.le_of_ble_eq_true rfl) ⟨(Nat.le_of_ble_eq_true rfl), (Nat.le_of_ble_eq_true rfl), (Nat.le_of_ble_eq_true rfl), (Nat.le_of_ble_eq_true rfl)⟩ ⟨rfl, rfl⟩ (fun r8 D2 E2 h8 => ?_)
  obtain ⟨⟨e8, f1, f2, f3, f4⟩, -⟩ := h8
  rw [hL.1] at f2
  obtain ⟨hy2, lo2⟩ := hy1.land f2 f3 f1 f4
  have hx2 := hx1.lo lo2
  exact lw_r_icmp_eq (tgt := 1247) dL_387 (by decide) (fun _ => K _ _ _ hx2 hy2 ⟨hL.2, ho.2⟩) (fun c9 => absurd (e9.trans e8.symm) c9)
theorem lw_k6 {X : LX} {D : DD} {E : EE} {a : AS} {k : Nat} (hk : k + 5 < X.L) (hL0 : X.L ≤ 3072) (hx : XS D a) (hy : YS D a) (ho : OKS a) (K : ∀ D E a, XS D a → YS D a → OKS a → LW X Z0 D E 234 4604 1247 (LV X k) []) : LW X Z0 D E 234 4604 392 (LV X k) [] := by
  refine lw_r_aload_n dL_392 rfl ?_
  refine lw_r_callVI (As := []) (o := 0) (c_X5_fault X.B D E ) hv_X5_fault wm_L_41 dL_393 rfl rfl (by decide) k_0 (by decide) rfl (Nat.le_of_ble_eq_true rfl) ⟨(Nat.le_of_ble_eq_true rfl), (Nat.le_of_ble_eq_true rfl), (Nat.le_of_ble_eq_true rfl), (Nat.le_of_ble_eq_true rfl)⟩ ⟨rfl, rfl⟩ (fun r9 D1 E1 h9 => ?_)
  obtain ⟨e9, g1, -⟩ := h9
  obtain ⟨hx1, hi1⟩ := hx.id g1
  have hy1 := hy.hi hi1
  refine lw_r_aload_n dL_396 rfl ?_
  refine lw_r_callVI (As := []) (o := 219) (c_X6_fault X.B D1 E1 ) hv_X6_fault wm_L_44 dL_397 rfl rfl (by decide) k_219 (by decide) rfl (Nat.le_of_ble_eq_true rfl) ⟨(Nat.le_of_ble_eq_true rfl), (Nat.le_of_ble_eq_true rfl), (Nat.le_of_ble_eq_true rfl), (Nat.le_of_ble_eq_true rfl)⟩ ⟨rfl, rfl⟩ (fun r8 D2 E2 h8 => ?_)
  obtain ⟨e8, f1, -⟩ := h8
  obtain ⟨hy2, lo2⟩ := hy1.mx f1
  have hx2 := hx1.lo lo2
  exact lw_r_icmp_eq (tgt := 1247) dL_400 (by decide) (fun _ => K _ _ _ hx2 hy2 ho) (fun c9 => absurd ((e9.trans hx.1.2.2.2.2.2).trans (e8.trans hy1.2.2.2.2.2).symm) c9)
theorem lw_k7 {X : LX} {D : DD} {E : EE} {a : AS} {k : Nat} (hk : k + 5 < X.L) (hL0 : X.L ≤ 3072) (hx : XS D a) (hy : YS D a) (ho : OKS a) (K : ∀ D E a, XS D a → YS D a → OKS a → LW X Z0 D E 234 4604 1247 (LV X k) []) : LW X Z0 D E 234 4604 405 (LV X k) [] := by
  have hA := act_undo ho.1.1 ho.1.2
  refine lw_r_aload_n dL_405 rfl ?_
  refine lw_r_callVI (As := []) (o := 0) (c_X5_undo X.B D E _ _ _ _ hx.1.2.2.1) hv_X5_undo wm_L_45 dL_406 rfl rfl (by decide) k_0 (by decide) rfl (Nat.le_of_ble_eq_true rfl) ⟨(Nat.le_of_ble_eq_true rfl), (Nat.le_of_ble_eq_true rfl), (Nat.le_of_ble_eq_true rfl), (Nat.le_of_ble_eq_true rfl)⟩ ⟨rfl, rfl⟩ (fun r9 D1 E1 h9 => ?_)
  obtain ⟨e9, g1, g2, -⟩ := h9
  obtain ⟨hx1, hi1⟩ := hx.act hA.1.far g1 g2
  have hy1 := hy.hi hi1
  refine lw_r_aload_n dL_409 rfl ?_
  refine lw_r_callVI (As := []) (o := 219) (c_X6_undo X.B D1 E1 _ _ _ _ hy1.2.2.1) hv_X6_undo wm_L_48 dL_410 rfl rfl (by decide) k_219 (by decide) rfl (Nat.le_of_ble_eq_true rfl) ⟨(Nat.le_of_ble_eq_true rfl), (Nat.le_of_ble_eq_true rfl), (Nat.le_of_ble_eq_true rfl), (Nat.le_of_ble_eq_true rfl)⟩ ⟨rfl, rfl⟩ (fun r8 D2 E2 h8 => ?_)
  obtain ⟨e8, f1, f2, -⟩ := h8
  obtain ⟨hy2, lo2⟩ := hy1.act hA.1.far f1 f2
  have hx2 := hx1.lo lo2
  exact lw_r_icmp_eq (tgt := 1247) dL_413 (by decide) (fun _ => K _ _ _ hx2 hy2 ⟨hA.2, ho.2⟩) (fun c9 => absurd (e9.trans e8.symm) c9)
theorem lw_k8 {X : LX} {D : DD} {E : EE} {a : AS} {k : Nat} (hk : k + 5 < X.L) (hL0 : X.L ≤ 3072) (hx : XS D a) (hy : YS D a) (ho : OKS a) (K : ∀ D E a, XS D a → YS D a → OKS a → LW X Z0 D E 234 4604 1247 (LV X k) []) : LW X Z0 D E 234 4604 418 (LV X k) [] := by
  have hA := act_hours (wy := s_far a.s.1) ho.1.1 ho.1.2 (X.xs (k + 1))
  refine lw_r_aload_n dL_418 rfl ?_
  refine lw_arg 1 (by decide) rfl rfl hk hL0 dL_419 dL_420 dL_421 dL_422 dL_423 ?_
  refine lw_r_callVI (As := [.int (X.xs (k + 1))]) (o := 0) (c_X5_hours X.B D E _ _ _ _ hx.1.2.2.1 _) hv_X5_hours wm_L_49 dL_424 rfl rfl (by decide) k_0 (by decide) rfl (Nat.le_of_ble_eq_true rfl) ⟨(Nat.le_of_ble_eq_true rfl), (Nat.le_of_ble_eq_true rfl), (Nat.le_of_ble_eq_true rfl), (Nat.le_of_ble_eq_true rfl)⟩ ⟨rfl, rfl⟩ (fun r9 D1 E1 h9 => ?_)
  obtain ⟨e9, g1, g2, -⟩ := h9
  obtain ⟨hx1, hi1⟩ := hx.act hA.1.far g1 g2
  have hy1 := hy.hi hi1
  refine lw_r_aload_n dL_427 rfl ?_
  refine lw_arg 1 (by decide) rfl rfl hk hL0 dL_428 dL_429 dL_430 dL_431 dL_432 ?_
  refine lw_r_callVI (As := [.int (X.xs (k + 1))]) (o := 219) (c_X6_hours X.B D1 E1 _ _ _ _ hy1.2.2.1 _) hv_X6_hours wm_L_52 dL_433 rfl rfl (by decide) k_219 (by decide) rfl (Nat.le_of_ble_eq_true rfl) ⟨(Nat.le_of_ble_eq_true rfl), (Nat.le_of_ble_eq_true rfl), (Nat.le_of_ble_eq_true rfl), (Nat.le_of_ble_eq_true rfl)⟩ ⟨rfl, rfl⟩ (fun r8 D2 E2 h8 => ?_)
  obtain ⟨e8, f1, f2, -⟩ := h8
  obtain ⟨hy2, lo2⟩ := hy1.act hA.1.far f1 f2
  have hx2 := hx1.lo lo2
  exact lw_r_icmp_eq (tgt := 1247) dL_436 (by decide) (fun _ => K _ _ _ hx2 hy2 ⟨hA.2, ho.2⟩) (fun c9 => absurd (e9.trans e8.symm) c9)
theorem lw_k9 {X : LX} {D : DD} {E : EE} {a : AS} {k : Nat} (hk : k + 5 < X.L) (hL0 : X.L ≤ 3072) (hx : XS D a) (hy : YS D a) (ho : OKS a) (K : ∀ D E a, XS D a → YS D a → OKS a → LW X Z0 D E 234 4604 1247 (LV X k) []) : LW X Z0 D E 234 4604 441 (LV X k) [] := by
  have hA := act_wish ho.1.1 ho.1.2 (X.xs (k + 1)) (X.xs (k + 2)) (X.xs (k + 3))
  refine lw_r_aload_n dL_441 rfl ?_
  refine lw_arg 1 (by decide) rfl rfl hk hL0 dL_442 dL_443 dL_444 dL_445 dL_446 ?_
  refine lw_arg 2 (by decide) rfl rfl hk hL0 dL_447 dL_448 dL_449 dL_450 dL_451 ?_
  refine lw_arg 3 (by decide) rfl rfl hk hL0 dL_452 dL_453 dL_454 dL_455 dL_456 ?_
  refine lw_r_callVI (As := [.int (X.xs (k + 1)), .int (X.xs (k + 2)), .int (X.xs (k + 3))]) (o := 0) (c_X5_wish X.B D E _ _ _ _ hx.1.2.2.1 _ _ _) hv_X5_wish wm_L_53 dL_457 rfl rfl (by decide) k_0 (by decide) rfl (Nat.le_of_ble_eq_true rfl) ⟨(Nat.le_of_ble_eq_true rfl), (Nat.le_of_ble_eq_true rfl), (Nat.le_of_ble_eq_true rfl), (Nat.le_of_ble_eq_true rfl)⟩ ⟨rfl, rfl⟩ (fun r9 D1 E1 h9 => ?_)
  obtain ⟨e9, g1, g2, -⟩ := h9
  obtain ⟨hx1, hi1⟩ := hx.act hA.1.far g1 g2
  have hy1 := hy.hi hi1
  refine lw_r_aload_n dL_460 rfl ?_
  refine lw_arg 1 (by decide) rfl rfl hk hL0 dL_461 dL_462 dL_463 dL_464 dL_465 ?_
  refine lw_arg 2 (by decide) rfl rfl hk hL0 dL_466 dL_467 dL_468 dL_469 dL_470 ?_
  refine lw_arg 3 (by decide) rfl rfl hk hL0 dL_471 dL_472 dL_473 dL_474 dL_475 ?_
  refine lw_r_callVI (As := [.int (X.xs (k + 1)), .int (X.xs (k + 2)), .int (X.xs (k + 3))]) (o := 219) (c_X6_wish X.B D1 E1 _ _ _ _ hy1.2.2.1 _ _ _) hv_X6_wish wm_L_56 dL_476 rfl rfl (by decide) k_219 (by decide) rfl (Nat.le_of_ble_eq_true rfl) ⟨(Nat.le_of_ble_eq_true rfl), (Nat.le_of_ble_eq_true rfl), (Nat.le_of_ble_eq_true rfl), (Nat.le_of_ble_eq_true rfl)⟩ ⟨rfl, rfl⟩ (fun r8 D2 E2 h8 => ?_)
  obtain ⟨e8, f1, f2, -⟩ := h8
  obtain ⟨hy2, lo2⟩ := hy1.act hA.1.far f1 f2
  have hx2 := hx1.lo lo2
  exact lw_r_icmp_eq (tgt := 1247) dL_479 (by decide) (fun _ => K _ _ _ hx2 hy2 ⟨hA.2, ho.2⟩) (fun c9 => absurd (e9.trans e8.symm) c9)
theorem lw_k10 {X : LX} {D : DD} {E : EE} {a : AS} {k : Nat} (hk : k + 5 < X.L) (hL0 : X.L ≤ 3072) (hx : XS D a) (hy : YS D a) (ho : OKS a) (K : ∀ D E a, XS D a → YS D a → OKS a → LW X Z0 D E 234 4604 1247 (LV X k) []) : LW X Z0 D E 234 4604 484 (LV X k) [] := by
  have hA := act_rest ho.1.1 ho.1.2 (X.xs (k + 1)) (X.xs (k + 2))
  refine lw_r_aload_n dL_484 rfl ?_
  refine lw_arg 1 (by decide) rfl rfl hk hL0 dL_485 dL_486 dL_487 dL_488 dL_489 ?_
  refine lw_arg 2 (by decide) rfl rfl hk hL0 dL_490 dL_491 dL_492 dL_493 dL_494 ?_
  refine lw_r_callVI (As := [.int (X.xs (k + 1)), .int (X.xs (k + 2))]) (o := 0) (c_X5_rest X.B D E _ _ _ _ hx.1.2.2.1 _ _) hv_X5_rest wm_L_57 dL_495 rfl rfl (by decide) k_0 (by decide) rfl (Nat.le_of_ble_eq_true rfl) ⟨(Nat.le_of_ble_eq_true rfl), (Nat.le_of_ble_eq_true rfl), (Nat.le_of_ble_eq_true rfl), (Nat.le_of_ble_eq_true rfl)⟩ ⟨rfl, rfl⟩ (fun r9 D1 E1 h9 => ?_)
  obtain ⟨e9, g1, g2, -⟩ := h9
  obtain ⟨hx1, hi1⟩ := hx.act hA.1.far g1 g2
  have hy1 := hy.hi hi1
  refine lw_r_aload_n dL_498 rfl ?_
  refine lw_arg 1 (by decide) rfl rfl hk hL0 dL_499 dL_500 dL_501 dL_502 dL_503 ?_
  refine lw_arg 2 (by decide) rfl rfl hk hL0 dL_504 dL_505 dL_506 dL_507 dL_508 ?_
  refine lw_r_callVI (As := [.int (X.xs (k + 1)), .int (X.xs (k + 2))]) (o := 219) (c_X6_rest X.B D1 E1 _ _ _ _ hy1.2.2.1 _ _) hv_X6_rest wm_L_61 dL_509 rfl rfl (by decide) k_219 (by decide) rfl (Nat.le_of_ble_eq_true rfl) ⟨(Nat.le_of_ble_eq_true rfl), (Nat.le_of_ble_eq_true rfl), (Nat.le_of_ble_eq_true rfl), (Nat.le_of_ble_eq_true rfl)⟩ ⟨rfl, rfl⟩ (fun r8 D2 E2 h8 => ?_)
  obtain ⟨e8, f1, f2, -⟩ := h8
  obtain ⟨hy2, lo2⟩ := hy1.act hA.1.far f1 f2
  have hx2 := hx1.lo lo2
  exact lw_r_icmp_eq (tgt := 1247) dL_512 (by decide) (fun _ => K _ _ _ hx2 hy2 ⟨hA.2, ho.2⟩) (fun c9 => absurd (e9.trans e8.symm) c9)
theorem lw_k11 {X : LX} {D : DD} {E : EE} {a : AS} {k : Nat} (hk : k + 5 < X.L) (hL0 : X.L ≤ 3072) (hx : XS D a) (hy : YS D a) (ho : OKS a) (K : ∀ D E a, XS D a → YS D a → OKS a → LW X Z0 D E 234 4604 1247 (LV X k) []) : LW X Z0 D E 234 4604 517 (LV X k) [] := by
  refine lw_r_aload_n dL_517 rfl ?_
  refine lw_arg 1 (by decide) rfl rfl hk hL0 dL_518 dL_519 dL_520 dL_521 dL_522 ?_
  refine lw_arg 2 (by decide) rfl rfl hk hL0 dL_523 dL_524 dL_525 dL_526 dL_527 ?_
  refine lw_r_callVI (As := [.int (X.xs (k + 1)), .int (X.xs (k + 2))]) (o := 0) (c_X5_wisher X.B D E _ _ hx.1.2.2.1.xl _ _) hv_X5_wisher wm_L_62 dL_528 rfl rfl (by decide) k_0 (by decide) rfl (Nat.le_of_ble_eq_true rfl) ⟨(Nat.le_of_ble_eq_true rfl), (Nat.le_of_ble_eq_true rfl), (Nat.le_of_ble_eq_true rfl), (Nat.le_of_ble_eq_true rfl)⟩ ⟨rfl, rfl⟩ (fun r9 D1 E1 h9 => ?_)
  obtain ⟨e9, g1, -⟩ := h9
  obtain ⟨hx1, hi1⟩ := hx.id g1
  have hy1 := hy.hi hi1
  refine lw_r_aload_n dL_531 rfl ?_
  refine lw_arg 1 (by decide) rfl rfl hk hL0 dL_532 dL_533 dL_534 dL_535 dL_536 ?_
  refine lw_arg 2 (by decide) rfl rfl hk hL0 dL_537 dL_538 dL_539 dL_540 dL_541 ?_
  refine lw_r_callVI (As := [.int (X.xs (k + 1)), .int (X.xs (k + 2))]) (o := 219) (c_X6_wisher X.B D1 E1 _ _ hy1.2.2.1.xm _ _) hv_X6_wisher wm_L_65 dL_542 rfl rfl (by decide) k_219 (by decide) rfl (Nat.le_of_ble_eq_true rfl) ⟨(Nat.le_of_ble_eq_true rfl), (Nat.le_of_ble_eq_true rfl), (Nat.le_of_ble_eq_true rfl), (Nat.le_of_ble_eq_true rfl)⟩ ⟨rfl, rfl⟩ (fun r8 D2 E2 h8 => ?_)
  obtain ⟨e8, f1, -⟩ := h8
  obtain ⟨hy2, lo2⟩ := hy1.mx f1
  have hx2 := hx1.lo lo2
  exact lw_r_icmp_eq (tgt := 1247) dL_545 (by decide) (fun _ => K _ _ _ hx2 hy2 ho) (fun c9 => absurd (e9.trans e8.symm) c9)
theorem lw_k12 {X : LX} {D : DD} {E : EE} {a : AS} {k : Nat} (hk : k + 5 < X.L) (hL0 : X.L ≤ 3072) (hx : XS D a) (hy : YS D a) (ho : OKS a) (K : ∀ D E a, XS D a → YS D a → OKS a → LW X Z0 D E 234 4604 1247 (LV X k) []) : LW X Z0 D E 234 4604 550 (LV X k) [] := by
  refine lw_r_aload_n dL_550 rfl ?_
  refine lw_arg 1 (by decide) rfl rfl hk hL0 dL_551 dL_552 dL_553 dL_554 dL_555 ?_
  refine lw_arg 2 (by decide) rfl rfl hk hL0 dL_556 dL_557 dL_558 dL_559 dL_560 ?_
  refine lw_r_callVI (As := [.int (X.xs (k + 1)), .int (X.xs (k + 2))]) (o := 0) (c_X5_place X.B D E _ _ hx.1.2.2.1.xl _ _) hv_X5_place wm_L_66 dL_561 rfl rfl (by decide) k_0 (by decide) rfl (Nat.le_of_ble_eq_true rfl) ⟨(Nat.le_of_ble_eq_true rfl), (Nat.le_of_ble_eq_true rfl), (Nat.le_of_ble_eq_true rfl), (Nat.le_of_ble_eq_true rfl)⟩ ⟨rfl, rfl⟩ (fun r9 D1 E1 h9 => ?_)
  obtain ⟨e9, g1, -⟩ := h9
  obtain ⟨hx1, hi1⟩ := hx.sx g1
  have hy1 := hy.hi hi1
  refine lw_r_aload_n dL_564 rfl ?_
  refine lw_arg 1 (by decide) rfl rfl hk hL0 dL_565 dL_566 dL_567 dL_568 dL_569 ?_
  refine lw_arg 2 (by decide) rfl rfl hk hL0 dL_570 dL_571 dL_572 dL_573 dL_574 ?_
  refine lw_r_callVI (As := [.int (X.xs (k + 1)), .int (X.xs (k + 2))]) (o := 219) (c_X6_place X.B D1 E1 _ _ hy1.2.2.1.xm _ _) hv_X6_place wm_L_69 dL_575 rfl rfl (by decide) k_219 (by decide) rfl (Nat.le_of_ble_eq_true rfl) ⟨(Nat.le_of_ble_eq_true rfl), (Nat.le_of_ble_eq_true rfl), (Nat.le_of_ble_eq_true rfl), (Nat.le_of_ble_eq_true rfl)⟩ ⟨rfl, rfl⟩ (fun r8 D2 E2 h8 => ?_)
  obtain ⟨e8, f1, -⟩ := h8
  obtain ⟨hy2, lo2⟩ := hy1.mx f1
  have hx2 := hx1.lo lo2
  exact lw_r_icmp_eq (tgt := 1247) dL_578 (by decide) (fun _ => K _ _ _ hx2 hy2 ho) (fun c9 => absurd (e9.trans e8.symm) c9)
theorem lw_k13 {X : LX} {D : DD} {E : EE} {a : AS} {k : Nat} (hk : k + 5 < X.L) (hL0 : X.L ≤ 3072) (hx : XS D a) (hy : YS D a) (ho : OKS a) (K : ∀ D E a, XS D a → YS D a → OKS a → LW X Z0 D E 234 4604 1247 (LV X k) []) : LW X Z0 D E 234 4604 583 (LV X k) [] := by
  refine lw_r_aload_n dL_583 rfl ?_
  refine lw_arg 1 (by decide) rfl rfl hk hL0 dL_584 dL_585 dL_586 dL_587 dL_588 ?_
  refine lw_arg 2 (by decide) rfl rfl hk hL0 dL_589 dL_590 dL_591 dL_592 dL_593 ?_
  refine lw_r_callVI (As := [.int (X.xs (k + 1)), .int (X.xs (k + 2))]) (o := 0) (c_X5_far X.B D E _ _ hx.1.2.2.1.xl _ _) hv_X5_far wm_L_70 dL_594 rfl rfl (by decide) k_0 (by decide) rfl (Nat.le_of_ble_eq_true rfl) ⟨(Nat.le_of_ble_eq_true rfl), (Nat.le_of_ble_eq_true rfl), (Nat.le_of_ble_eq_true rfl), (Nat.le_of_ble_eq_true rfl)⟩ ⟨rfl, rfl⟩ (fun r9 D1 E1 h9 => ?_)
  obtain ⟨e9, g1, -⟩ := h9
  obtain ⟨hx1, hi1⟩ := hx.id g1
  have hy1 := hy.hi hi1
  refine lw_r_aload_n dL_597 rfl ?_
  refine lw_arg 1 (by decide) rfl rfl hk hL0 dL_598 dL_599 dL_600 dL_601 dL_602 ?_
  refine lw_arg 2 (by decide) rfl rfl hk hL0 dL_603 dL_604 dL_605 dL_606 dL_607 ?_
  refine lw_r_callVI (As := [.int (X.xs (k + 1)), .int (X.xs (k + 2))]) (o := 219) (c_X6_far X.B D1 E1 _ _ hy1.2.2.1.xm _ _) hv_X6_far wm_L_73 dL_608 rfl rfl (by decide) k_219 (by decide) rfl (Nat.le_of_ble_eq_true rfl) ⟨(Nat.le_of_ble_eq_true rfl), (Nat.le_of_ble_eq_true rfl), (Nat.le_of_ble_eq_true rfl), (Nat.le_of_ble_eq_true rfl)⟩ ⟨rfl, rfl⟩ (fun r8 D2 E2 h8 => ?_)
  obtain ⟨e8, f1, -⟩ := h8
  obtain ⟨hy2, lo2⟩ := hy1.mx f1
  have hx2 := hx1.lo lo2
  exact lw_r_icmp_eq (tgt := 1247) dL_611 (by decide) (fun _ => K _ _ _ hx2 hy2 ho) (fun c9 => absurd (e9.trans e8.symm) c9)
theorem lw_k14 {X : LX} {D : DD} {E : EE} {a : AS} {k : Nat} (hk : k + 5 < X.L) (hL0 : X.L ≤ 3072) (hx : XS D a) (hy : YS D a) (ho : OKS a) (K : ∀ D E a, XS D a → YS D a → OKS a → LW X Z0 D E 234 4604 1247 (LV X k) []) : LW X Z0 D E 234 4604 616 (LV X k) [] := by
  refine lw_r_aload_n dL_616 rfl ?_
  refine lw_arg 1 (by decide) rfl rfl hk hL0 dL_617 dL_618 dL_619 dL_620 dL_621 ?_
  refine lw_arg 2 (by decide) rfl rfl hk hL0 dL_622 dL_623 dL_624 dL_625 dL_626 ?_
  refine lw_r_callVI (As := [.int (X.xs (k + 1)), .int (X.xs (k + 2))]) (o := 0) (c_X5_ahead X.B D E _ _ hx.1.2.2.1.xl _ _) hv_X5_ahead wm_L_74 dL_627 rfl rfl (by decide) k_0 (by decide) rfl (Nat.le_of_ble_eq_true rfl) ⟨(Nat.le_of_ble_eq_true rfl), (Nat.le_of_ble_eq_true rfl), (Nat.le_of_ble_eq_true rfl), (Nat.le_of_ble_eq_true rfl)⟩ ⟨rfl, rfl⟩ (fun r9 D1 E1 h9 => ?_)
  obtain ⟨e9, g1, -⟩ := h9
  obtain ⟨hx1, hi1⟩ := hx.sx g1
  have hy1 := hy.hi hi1
  refine lw_r_aload_n dL_630 rfl ?_
  refine lw_arg 1 (by decide) rfl rfl hk hL0 dL_631 dL_632 dL_633 dL_634 dL_635 ?_
  refine lw_arg 2 (by decide) rfl rfl hk hL0 dL_636 dL_637 dL_638 dL_639 dL_640 ?_
  refine lw_r_callVI (As := [.int (X.xs (k + 1)), .int (X.xs (k + 2))]) (o := 219) (c_X6_ahead X.B D1 E1 _ _ hy1.2.2.1.xm _ _) hv_X6_ahead wm_L_77 dL_641 rfl rfl (by decide) k_219 (by decide) rfl (Nat.le_of_ble_eq_true rfl) ⟨(Nat.le_of_ble_eq_true rfl), (Nat.le_of_ble_eq_true rfl), (Nat.le_of_ble_eq_true rfl), (Nat.le_of_ble_eq_true rfl)⟩ ⟨rfl, rfl⟩ (fun r8 D2 E2 h8 => ?_)
  obtain ⟨e8, f1, -⟩ := h8
  obtain ⟨hy2, lo2⟩ := hy1.mx f1
  have hx2 := hx1.lo lo2
  exact lw_r_icmp_eq (tgt := 1247) dL_644 (by decide) (fun _ => K _ _ _ hx2 hy2 ho) (fun c9 => absurd (e9.trans e8.symm) c9)
theorem lw_k15 {X : LX} {D : DD} {E : EE} {a : AS} {k : Nat} (hk : k + 5 < X.L) (hL0 : X.L ≤ 3072) (hx : XS D a) (hy : YS D a) (ho : OKS a) (K : ∀ D E a, XS D a → YS D a → OKS a → LW X Z0 D E 234 4604 1247 (LV X k) []) : LW X Z0 D E 234 4604 649 (LV X k) [] := by
  refine lw_r_aload_n dL_649 rfl ?_
  refine lw_arg 1 (by decide) rfl rfl hk hL0 dL_650 dL_651 dL_652 dL_653 dL_654 ?_
  refine lw_arg 2 (by decide) rfl rfl hk hL0 dL_655 dL_656 dL_657 dL_658 dL_659 ?_
  refine lw_r_callVI (As := [.int (X.xs (k + 1)), .int (X.xs (k + 2))]) (o := 0) (c_X5_comes X.B D E _ _ hx.1.2.2.1.xl _ _) hv_X5_comes wm_L_78 dL_660 rfl rfl (by decide) k_0 (by decide) rfl (Nat.le_of_ble_eq_true rfl) ⟨(Nat.le_of_ble_eq_true rfl), (Nat.le_of_ble_eq_true rfl), (Nat.le_of_ble_eq_true rfl), (Nat.le_of_ble_eq_true rfl)⟩ ⟨rfl, rfl⟩ (fun r9 D1 E1 h9 => ?_)
  obtain ⟨e9, g1, -⟩ := h9
  obtain ⟨hx1, hi1⟩ := hx.sx g1
  have hy1 := hy.hi hi1
  refine lw_r_aload_n dL_663 rfl ?_
  refine lw_arg 1 (by decide) rfl rfl hk hL0 dL_664 dL_665 dL_666 dL_667 dL_668 ?_
  refine lw_arg 2 (by decide) rfl rfl hk hL0 dL_669 dL_670 dL_671 dL_672 dL_673 ?_
  refine lw_r_callVI (As := [.int (X.xs (k + 1)), .int (X.xs (k + 2))]) (o := 219) (c_X6_comes X.B D1 E1 _ _ hy1.2.2.1.xm _ _) hv_X6_comes wm_L_81 dL_674 rfl rfl (by decide) k_219 (by decide) rfl (Nat.le_of_ble_eq_true rfl) ⟨(Nat.le_of_ble_eq_true rfl), (Nat.le_of_ble_eq_true rfl), (Nat.le_of_ble_eq_true rfl), (Nat.le_of_ble_eq_true rfl)⟩ ⟨rfl, rfl⟩ (fun r8 D2 E2 h8 => ?_)
  obtain ⟨e8, f1, -⟩ := h8
  obtain ⟨hy2, lo2⟩ := hy1.mx f1
  have hx2 := hx1.lo lo2
  exact lw_r_icmp_eq (tgt := 1247) dL_677 (by decide) (fun _ => K _ _ _ hx2 hy2 ho) (fun c9 => absurd (e9.trans e8.symm) c9)
theorem lw_k16 {X : LX} {D : DD} {E : EE} {a : AS} {k : Nat} (hk : k + 5 < X.L) (hL0 : X.L ≤ 3072) (hx : XS D a) (hy : YS D a) (ho : OKS a) (K : ∀ D E a, XS D a → YS D a → OKS a → LW X Z0 D E 234 4604 1247 (LV X k) []) : LW X Z0 D E 234 4604 682 (LV X k) [] := by
  refine lw_r_aload_n dL_682 rfl ?_
  refine lw_arg 1 (by decide) rfl rfl hk hL0 dL_683 dL_684 dL_685 dL_686 dL_687 ?_
  refine lw_r_callVI (As := [.int (X.xs (k + 1))]) (o := 0) (c_X5_visits X.B D E _ _ hx.1.2.2.1.xl _) hv_X5_visits wm_L_82 dL_688 rfl rfl (by decide) k_0 (by decide) rfl (Nat.le_of_ble_eq_true rfl) ⟨(Nat.le_of_ble_eq_true rfl), (Nat.le_of_ble_eq_true rfl), (Nat.le_of_ble_eq_true rfl), (Nat.le_of_ble_eq_true rfl)⟩ ⟨rfl, rfl⟩ (fun r9 D1 E1 h9 => ?_)
  obtain ⟨e9, g1, -⟩ := h9
  obtain ⟨hx1, hi1⟩ := hx.sx g1
  have hy1 := hy.hi hi1
  refine lw_r_aload_n dL_691 rfl ?_
  refine lw_arg 1 (by decide) rfl rfl hk hL0 dL_692 dL_693 dL_694 dL_695 dL_696 ?_
  refine lw_r_callVI (As := [.int (X.xs (k + 1))]) (o := 219) (c_X6_visits X.B D1 E1 _ _ hy1.2.2.1.xm _) hv_X6_visits wm_L_85 dL_697 rfl rfl (by decide) k_219 (by decide) rfl (Nat.le_of_ble_eq_true rfl) ⟨(Nat.le_of_ble_eq_true rfl), (Nat.le_of_ble_eq_true rfl), (Nat.le_of_ble_eq_true rfl), (Nat.le_of_ble_eq_true rfl)⟩ ⟨rfl, rfl⟩ (fun r8 D2 E2 h8 => ?_)
  obtain ⟨e8, f1, -⟩ := h8
  obtain ⟨hy2, lo2⟩ := hy1.mx f1
  have hx2 := hx1.lo lo2
  exact lw_r_icmp_eq (tgt := 1247) dL_700 (by decide) (fun _ => K _ _ _ hx2 hy2 ho) (fun c9 => absurd (e9.trans e8.symm) c9)
theorem lw_k17 {X : LX} {D : DD} {E : EE} {a : AS} {k : Nat} (hk : k + 5 < X.L) (hL0 : X.L ≤ 3072) (hx : XS D a) (hy : YS D a) (ho : OKS a) (K : ∀ D E a, XS D a → YS D a → OKS a → LW X Z0 D E 234 4604 1247 (LV X k) []) : LW X Z0 D E 234 4604 705 (LV X k) [] := by
  refine lw_r_aload_n dL_705 rfl ?_
  refine lw_arg 1 (by decide) rfl rfl hk hL0 dL_706 dL_707 dL_708 dL_709 dL_710 ?_
  refine lw_arg 2 (by decide) rfl rfl hk hL0 dL_711 dL_712 dL_713 dL_714 dL_715 ?_
  refine lw_arg 3 (by decide) rfl rfl hk hL0 dL_716 dL_717 dL_718 dL_719 dL_720 ?_
  refine lw_r_callVI (As := [.int (X.xs (k + 1)), .int (X.xs (k + 2)), .int (X.xs (k + 3))]) (o := 0) (c_X5_fewest X.B D E _ _ hx.1.2.2.1.xl _ _ _) hv_X5_fewest wm_L_86 dL_721 rfl rfl (by decide) k_0 (by decide) rfl (Nat.le_of_ble_eq_true rfl) ⟨(Nat.le_of_ble_eq_true rfl), (Nat.le_of_ble_eq_true rfl), (Nat.le_of_ble_eq_true rfl), (Nat.le_of_ble_eq_true rfl)⟩ ⟨rfl, rfl⟩ (fun r9 D1 E1 h9 => ?_)
  obtain ⟨e9, g1, -⟩ := h9
  obtain ⟨hx1, hi1⟩ := hx.sx g1
  have hy1 := hy.hi hi1
  refine lw_r_aload_n dL_724 rfl ?_
  refine lw_arg 1 (by decide) rfl rfl hk hL0 dL_725 dL_726 dL_727 dL_728 dL_729 ?_
  refine lw_arg 2 (by decide) rfl rfl hk hL0 dL_730 dL_731 dL_732 dL_733 dL_734 ?_
  refine lw_arg 3 (by decide) rfl rfl hk hL0 dL_735 dL_736 dL_737 dL_738 dL_739 ?_
  refine lw_r_callVI (As := [.int (X.xs (k + 1)), .int (X.xs (k + 2)), .int (X.xs (k + 3))]) (o := 219) (c_X6_fewest X.B D1 E1 _ _ hy1.2.2.1.xm _ _ _) hv_X6_fewest wm_L_89 dL_740 rfl rfl (by decide) k_219 (by decide) rfl (Nat.le_of_ble_eq_true rfl) ⟨(Nat.le_of_ble_eq_true rfl), (Nat.le_of_ble_eq_true rfl), (Nat.le_of_ble_eq_true rfl), (Nat.le_of_ble_eq_true rfl)⟩ ⟨rfl, rfl⟩ (fun r8 D2 E2 h8 => ?_)
  obtain ⟨e8, f1, -⟩ := h8
  obtain ⟨hy2, lo2⟩ := hy1.mx f1
  have hx2 := hx1.lo lo2
  exact lw_r_icmp_eq (tgt := 1247) dL_743 (by decide) (fun _ => K _ _ _ hx2 hy2 ho) (fun c9 => absurd (e9.trans e8.symm) c9)
theorem lw_k18 {X : LX} {D : DD} {E : EE} {a : AS} {k : Nat} (hk : k + 5 < X.L) (hL0 : X.L ≤ 3072) (hx : XS D a) (hy : YS D a) (ho : OKS a) (K : ∀ D E a, XS D a → YS D a → OKS a → LW X Z0 D E 234 4604 1247 (LV X k) []) : LW X Z0 D E 234 4604 748 (LV X k) [] := by
  refine lw_r_aload_n dL_748 rfl ?_
  refine lw_arg 1 (by decide) rfl rfl hk hL0 dL_749 dL_750 dL_751 dL_752 dL_753 ?_
  refine lw_arg 2 (by decide) rfl rfl hk hL0 dL_754 dL_755 dL_756 dL_757 dL_758 ?_
  refine lw_r_callVI (As := [.int (X.xs (k + 1)), .int (X.xs (k + 2))]) (o := 0) (c_X5_hard X.B D E _ _ hx.1.2.2.1.xl _ _) hv_X5_hard wm_L_90 dL_759 rfl rfl (by decide) k_0 (by decide) rfl (Nat.le_of_ble_eq_true rfl) ⟨(Nat.le_of_ble_eq_true rfl), (Nat.le_of_ble_eq_true rfl), (Nat.le_of_ble_eq_true rfl), (Nat.le_of_ble_eq_true rfl)⟩ ⟨rfl, rfl⟩ (fun r9 D1 E1 h9 => ?_)
  obtain ⟨e9, g1, -⟩ := h9
  obtain ⟨hx1, hi1⟩ := hx.sx g1
  have hy1 := hy.hi hi1
  refine lw_r_aload_n dL_762 rfl ?_
  refine lw_arg 1 (by decide) rfl rfl hk hL0 dL_763 dL_764 dL_765 dL_766 dL_767 ?_
  refine lw_arg 2 (by decide) rfl rfl hk hL0 dL_768 dL_769 dL_770 dL_771 dL_772 ?_
  refine lw_r_callVI (As := [.int (X.xs (k + 1)), .int (X.xs (k + 2))]) (o := 219) (c_X6_hard X.B D1 E1 _ _ hy1.2.2.1.xm _ _) hv_X6_hard wm_L_93 dL_773 rfl rfl (by decide) k_219 (by decide) rfl (Nat.le_of_ble_eq_true rfl) ⟨(Nat.le_of_ble_eq_true rfl), (Nat.le_of_ble_eq_true rfl), (Nat.le_of_ble_eq_true rfl), (Nat.le_of_ble_eq_true rfl)⟩ ⟨rfl, rfl⟩ (fun r8 D2 E2 h8 => ?_)
  obtain ⟨e8, f1, -⟩ := h8
  obtain ⟨hy2, lo2⟩ := hy1.mx f1
  have hx2 := hx1.lo lo2
  exact lw_r_icmp_eq (tgt := 1247) dL_776 (by decide) (fun _ => K _ _ _ hx2 hy2 ho) (fun c9 => absurd (e9.trans e8.symm) c9)
theorem lw_k19 {X : LX} {D : DD} {E : EE} {a : AS} {k : Nat} (hk : k + 5 < X.L) (hL0 : X.L ≤ 3072) (hx : XS D a) (hy : YS D a) (ho : OKS a) (K : ∀ D E a, XS D a → YS D a → OKS a → LW X Z0 D E 234 4604 1247 (LV X k) []) : LW X Z0 D E 234 4604 781 (LV X k) [] := by
  refine lw_r_aload_n dL_781 rfl ?_
  refine lw_arg 1 (by decide) rfl rfl hk hL0 dL_782 dL_783 dL_784 dL_785 dL_786 ?_
  refine lw_arg 2 (by decide) rfl rfl hk hL0 dL_787 dL_788 dL_789 dL_790 dL_791 ?_
  refine lw_arg 3 (by decide) rfl rfl hk hL0 dL_792 dL_793 dL_794 dL_795 dL_796 ?_
  refine lw_r_callVI (As := [.int (X.xs (k + 1)), .int (X.xs (k + 2)), .int (X.xs (k + 3))]) (o := 0) (c_X5_stolen X.B D E _ _ hx.1.2.2.1.xl _ _ _) hv_X5_stolen wm_L_94 dL_797 rfl rfl (by decide) k_0 (by decide) rfl (Nat.le_of_ble_eq_true rfl) ⟨(Nat.le_of_ble_eq_true rfl), (Nat.le_of_ble_eq_true rfl), (Nat.le_of_ble_eq_true rfl), (Nat.le_of_ble_eq_true rfl)⟩ ⟨rfl, rfl⟩ (fun r9 D1 E1 h9 => ?_)
  obtain ⟨e9, g1, -⟩ := h9
  obtain ⟨hx1, hi1⟩ := hx.sx g1
  have hy1 := hy.hi hi1
  refine lw_r_aload_n dL_800 rfl ?_
  refine lw_arg 1 (by decide) rfl rfl hk hL0 dL_801 dL_802 dL_803 dL_804 dL_805 ?_
  refine lw_arg 2 (by decide) rfl rfl hk hL0 dL_806 dL_807 dL_808 dL_809 dL_810 ?_
  refine lw_arg 3 (by decide) rfl rfl hk hL0 dL_811 dL_812 dL_813 dL_814 dL_815 ?_
  refine lw_r_callVI (As := [.int (X.xs (k + 1)), .int (X.xs (k + 2)), .int (X.xs (k + 3))]) (o := 219) (c_X6_stolen X.B D1 E1 _ _ hy1.2.2.1.xm _ _ _) hv_X6_stolen wm_L_97 dL_816 rfl rfl (by decide) k_219 (by decide) rfl (Nat.le_of_ble_eq_true rfl) ⟨(Nat.le_of_ble_eq_true rfl), (Nat.le_of_ble_eq_true rfl), (Nat.le_of_ble_eq_true rfl), (Nat.le_of_ble_eq_true rfl)⟩ ⟨rfl, rfl⟩ (fun r8 D2 E2 h8 => ?_)
  obtain ⟨e8, f1, -⟩ := h8
  obtain ⟨hy2, lo2⟩ := hy1.mx f1
  have hx2 := hx1.lo lo2
  exact lw_r_icmp_eq (tgt := 1247) dL_819 (by decide) (fun _ => K _ _ _ hx2 hy2 ho) (fun c9 => absurd (e9.trans e8.symm) c9)
theorem lw_k20 {X : LX} {D : DD} {E : EE} {a : AS} {k : Nat} (hk : k + 5 < X.L) (hL0 : X.L ≤ 3072) (hx : XS D a) (hy : YS D a) (ho : OKS a) (K : ∀ D E a, XS D a → YS D a → OKS a → LW X Z0 D E 234 4604 1247 (LV X k) []) : LW X Z0 D E 234 4604 824 (LV X k) [] := by
  refine lw_r_aload_n dL_824 rfl ?_
  refine lw_arg 1 (by decide) rfl rfl hk hL0 dL_825 dL_826 dL_827 dL_828 dL_829 ?_
  refine lw_arg 2 (by decide) rfl rfl hk hL0 dL_830 dL_831 dL_832 dL_833 dL_834 ?_
  refine lw_arg 3 (by decide) rfl rfl hk hL0 dL_835 dL_836 dL_837 dL_838 dL_839 ?_
  refine lw_arg 4 (by decide) rfl rfl hk hL0 dL_840 dL_841 dL_842 dL_843 dL_844 ?_
  refine lw_r_callVI (As := [.int (X.xs (k + 1)), .int (X.xs (k + 2)), .int (X.xs (k + 3)), .int (X.xs (k + 4))]) (o := 0) (c_X5_seen X.B D E _ _ hx.1.2.2.1.xl a.w hx.1.1 _ _ _ _) hv_X5_seen wm_L_98 dL_845 rfl rfl (by decide) k_0 (by decide) rfl (Nat.le_of_ble_eq_true rfl) ⟨(Nat.le_of_ble_eq_true rfl), (Nat.le_of_ble_eq_true rfl), (Nat.le_of_ble_eq_true rfl), (Nat.le_of_ble_eq_true rfl)⟩ ⟨rfl, rfl⟩ (fun r9 D1 E1 h9 => ?_)
  obtain ⟨e9, g1, g2, -⟩ := h9
  obtain ⟨hx1, hi1⟩ := hx.fx g1 g2
  have hy1 := hy.hi hi1
  refine lw_r_aload_n dL_848 rfl ?_
  refine lw_arg 1 (by decide) rfl rfl hk hL0 dL_849 dL_850 dL_851 dL_852 dL_853 ?_
  refine lw_arg 2 (by decide) rfl rfl hk hL0 dL_854 dL_855 dL_856 dL_857 dL_858 ?_
  refine lw_arg 3 (by decide) rfl rfl hk hL0 dL_859 dL_860 dL_861 dL_862 dL_863 ?_
  refine lw_arg 4 (by decide) rfl rfl hk hL0 dL_864 dL_865 dL_866 dL_867 dL_868 ?_
  refine lw_r_callVI (As := [.int (X.xs (k + 1)), .int (X.xs (k + 2)), .int (X.xs (k + 3)), .int (X.xs (k + 4))]) (o := 219) (c_X6_seen X.B D1 E1 _ _ hy1.2.2.1.xm a.w hy1.1 _ _ _ _) hv_X6_seen wm_L_102 dL_869 rfl rfl (by decide) k_219 (by decide) rfl (Nat.le_of_ble_eq_true rfl) ⟨(Nat.le_of_ble_eq_true rfl), (Nat.le_of_ble_eq_true rfl), (Nat.le_of_ble_eq_true rfl), (Nat.le_of_ble_eq_true rfl)⟩ ⟨rfl, rfl⟩ (fun r8 D2 E2 h8 => ?_)
  obtain ⟨e8, f1, f2, -⟩ := h8
  obtain ⟨hy2, lo2⟩ := hy1.fx f1 f2
  have hx2 := hx1.lo lo2
  exact lw_r_icmp_eq (tgt := 1247) dL_872 (by decide) (fun _ => K _ _ _ hx2 hy2 ho) (fun c9 => absurd (e9.trans e8.symm) c9)
theorem lw_k21 {X : LX} {D : DD} {E : EE} {a : AS} {k : Nat} (hk : k + 5 < X.L) (hL0 : X.L ≤ 3072) (hx : XS D a) (hy : YS D a) (ho : OKS a) (K : ∀ D E a, XS D a → YS D a → OKS a → LW X Z0 D E 234 4604 1247 (LV X k) []) : LW X Z0 D E 234 4604 877 (LV X k) [] := by
  refine lw_r_aload_n dL_877 rfl ?_
  refine lw_arg 1 (by decide) rfl rfl hk hL0 dL_878 dL_879 dL_880 dL_881 dL_882 ?_
  refine lw_arg 2 (by decide) rfl rfl hk hL0 dL_883 dL_884 dL_885 dL_886 dL_887 ?_
  refine lw_arg 3 (by decide) rfl rfl hk hL0 dL_888 dL_889 dL_890 dL_891 dL_892 ?_
  refine lw_arg 4 (by decide) rfl rfl hk hL0 dL_893 dL_894 dL_895 dL_896 dL_897 ?_
  refine lw_r_callVI (As := [.int (X.xs (k + 1)), .int (X.xs (k + 2)), .int (X.xs (k + 3)), .int (X.xs (k + 4))]) (o := 0) (c_X5_who X.B D E _ _ hx.1.2.2.1.xl a.w hx.1.1 _ _ _ _) hv_X5_who wm_L_103 dL_898 rfl rfl (by decide) k_0 (by decide) rfl (Nat.le_of_ble_eq_true rfl) ⟨(Nat.le_of_ble_eq_true rfl), (Nat.le_of_ble_eq_true rfl), (Nat.le_of_ble_eq_true rfl), (Nat.le_of_ble_eq_true rfl)⟩ ⟨rfl, rfl⟩ (fun r9 D1 E1 h9 => ?_)
  obtain ⟨e9, g1, g2, -⟩ := h9
  obtain ⟨hx1, hi1⟩ := hx.fx g1 g2
  have hy1 := hy.hi hi1
  refine lw_r_aload_n dL_901 rfl ?_
  refine lw_arg 1 (by decide) rfl rfl hk hL0 dL_902 dL_903 dL_904 dL_905 dL_906 ?_
  refine lw_arg 2 (by decide) rfl rfl hk hL0 dL_907 dL_908 dL_909 dL_910 dL_911 ?_
  refine lw_arg 3 (by decide) rfl rfl hk hL0 dL_912 dL_913 dL_914 dL_915 dL_916 ?_
  refine lw_arg 4 (by decide) rfl rfl hk hL0 dL_917 dL_918 dL_919 dL_920 dL_921 ?_
  refine lw_r_callVI (As := [.int (X.xs (k + 1)), .int (X.xs (k + 2)), .int (X.xs (k + 3)), .int (X.xs (k + 4))]) (o := 219) (c_X6_who X.B D1 E1 _ _ hy1.2.2.1.xm a.w hy1.1 _ _ _ _) hv_X6_who wm_L_106 dL_922 rfl rfl (by decide) k_219 (by decide) rfl (Nat.le_of_ble_eq_true rfl) ⟨(Nat.le_of_ble_eq_true rfl), (Nat.le_of_ble_eq_true rfl), (Nat.le_of_ble_eq_true rfl), (Nat.le_of_ble_eq_true rfl)⟩ ⟨rfl, rfl⟩ (fun r8 D2 E2 h8 => ?_)
  obtain ⟨e8, f1, f2, -⟩ := h8
  obtain ⟨hy2, lo2⟩ := hy1.fx f1 f2
  have hx2 := hx1.lo lo2
  exact lw_r_icmp_eq (tgt := 1247) dL_925 (by decide) (fun _ => K _ _ _ hx2 hy2 ho) (fun c9 => absurd (e9.trans e8.symm) c9)
theorem lw_k22 {X : LX} {D : DD} {E : EE} {a : AS} {k : Nat} (hk : k + 5 < X.L) (hL0 : X.L ≤ 3072) (hx : XS D a) (hy : YS D a) (ho : OKS a) (K : ∀ D E a, XS D a → YS D a → OKS a → LW X Z0 D E 234 4604 1247 (LV X k) []) : LW X Z0 D E 234 4604 930 (LV X k) [] := by
  refine lw_r_aload_n dL_930 rfl ?_
  refine lw_arg 1 (by decide) rfl rfl hk hL0 dL_931 dL_932 dL_933 dL_934 dL_935 ?_
  refine lw_r_callVI (As := [.int (X.xs (k + 1))]) (o := 0) (c_X5_round X.B D E _ _ hx.1.2.2.1.xl _) hv_X5_round wm_L_107 dL_936 rfl rfl (by decide) k_0 (by decide) rfl (Nat.le_of_ble_eq_true rfl) ⟨(Nat.le_of_ble_eq_true rfl), (Nat.le_of_ble_eq_true rfl), (Nat.le_of_ble_eq_true rfl), (Nat.le_of_ble_eq_true rfl)⟩ ⟨rfl, rfl⟩ (fun r9 D1 E1 h9 => ?_)
  obtain ⟨e9, g1, -⟩ := h9
  obtain ⟨hx1, hi1⟩ := hx.sx g1
  have hy1 := hy.hi hi1
  refine lw_r_aload_n dL_939 rfl ?_
  refine lw_arg 1 (by decide) rfl rfl hk hL0 dL_940 dL_941 dL_942 dL_943 dL_944 ?_
  refine lw_r_callVI (As := [.int (X.xs (k + 1))]) (o := 219) (c_X6_round X.B D1 E1 _ _ hy1.2.2.1.xm _) hv_X6_round wm_L_110 dL_945 rfl rfl (by decide) k_219 (by decide) rfl (Nat.le_of_ble_eq_true rfl) ⟨(Nat.le_of_ble_eq_true rfl), (Nat.le_of_ble_eq_true rfl), (Nat.le_of_ble_eq_true rfl), (Nat.le_of_ble_eq_true rfl)⟩ ⟨rfl, rfl⟩ (fun r8 D2 E2 h8 => ?_)
  obtain ⟨e8, f1, -⟩ := h8
  obtain ⟨hy2, lo2⟩ := hy1.mx f1
  have hx2 := hx1.lo lo2
  exact lw_r_icmp_eq (tgt := 1247) dL_948 (by decide) (fun _ => K _ _ _ hx2 hy2 ho) (fun c9 => absurd (e9.trans e8.symm) c9)
theorem lw_k23 {X : LX} {D : DD} {E : EE} {a : AS} {k : Nat} (hk : k + 5 < X.L) (hL0 : X.L ≤ 3072) (hx : XS D a) (hy : YS D a) (ho : OKS a) (K : ∀ D E a, XS D a → YS D a → OKS a → LW X Z0 D E 234 4604 1247 (LV X k) []) : LW X Z0 D E 234 4604 953 (LV X k) [] := by
  refine lw_r_aload_n dL_953 rfl ?_
  refine lw_arg 1 (by decide) rfl rfl hk hL0 dL_954 dL_955 dL_956 dL_957 dL_958 ?_
  refine lw_r_callVI (As := [.int (X.xs (k + 1))]) (o := 0) (c_X5_half X.B D E _ _ hx.1.2.2.1.xl _) hv_X5_half wm_L_111 dL_959 rfl rfl (by decide) k_0 (by decide) rfl (Nat.le_of_ble_eq_true rfl) ⟨(Nat.le_of_ble_eq_true rfl), (Nat.le_of_ble_eq_true rfl), (Nat.le_of_ble_eq_true rfl), (Nat.le_of_ble_eq_true rfl)⟩ ⟨rfl, rfl⟩ (fun r9 D1 E1 h9 => ?_)
  obtain ⟨e9, g1, -⟩ := h9
  obtain ⟨hx1, hi1⟩ := hx.sx g1
  have hy1 := hy.hi hi1
  refine lw_r_aload_n dL_962 rfl ?_
  refine lw_arg 1 (by decide) rfl rfl hk hL0 dL_963 dL_964 dL_965 dL_966 dL_967 ?_
  refine lw_r_callVI (As := [.int (X.xs (k + 1))]) (o := 219) (c_X6_half X.B D1 E1 _ _ hy1.2.2.1.xm _) hv_X6_half wm_L_114 dL_968 rfl rfl (by decide) k_219 (by decide) rfl (Nat.le_of_ble_eq_true rfl) ⟨(Nat.le_of_ble_eq_true rfl), (Nat.le_of_ble_eq_true rfl), (Nat.le_of_ble_eq_true rfl), (Nat.le_of_ble_eq_true rfl)⟩ ⟨rfl, rfl⟩ (fun r8 D2 E2 h8 => ?_)
  obtain ⟨e8, f1, -⟩ := h8
  obtain ⟨hy2, lo2⟩ := hy1.mx f1
  have hx2 := hx1.lo lo2
  exact lw_r_icmp_eq (tgt := 1247) dL_971 (by decide) (fun _ => K _ _ _ hx2 hy2 ho) (fun c9 => absurd (e9.trans e8.symm) c9)
theorem lw_k24 {X : LX} {D : DD} {E : EE} {a : AS} {k : Nat} (hk : k + 5 < X.L) (hL0 : X.L ≤ 3072) (hx : XS D a) (hy : YS D a) (ho : OKS a) (K : ∀ D E a, XS D a → YS D a → OKS a → LW X Z0 D E 234 4604 1247 (LV X k) []) : LW X Z0 D E 234 4604 976 (LV X k) [] := by
  refine lw_r_aload_n dL_976 rfl ?_
  refine lw_arg 1 (by decide) rfl rfl hk hL0 dL_977 dL_978 dL_979 dL_980 dL_981 ?_
  refine lw_arg 2 (by decide) rfl rfl hk hL0 dL_982 dL_983 dL_984 dL_985 dL_986 ?_
  refine lw_r_callVL (As := [.int (X.xs (k + 1)), .int (X.xs (k + 2))]) (o := 0) (c_X5_awake X.B D E _ _ hx.1.2.2.1.xl _ _) hv_X5_awake wm_L_115 dL_987 rfl rfl (by decide) k_0 (by decide) rfl (Nat.le_of_ble_eq_true rfl) ⟨(Nat.le_of_ble_eq_true rfl), (Nat.le_of_ble_eq_true rfl), (Nat.le_of_ble_eq_true rfl), (Nat.le_of_ble_eq_true rfl)⟩ ⟨rfl, rfl⟩ (fun r9 D1 E1 h9 => ?_)
  obtain ⟨e9, g1, -⟩ := h9
  obtain ⟨hx1, hi1⟩ := hx.sx g1
  have hy1 := hy.hi hi1
  refine lw_r_aload_n dL_990 rfl ?_
  refine lw_arg 1 (by decide) rfl rfl hk hL0 dL_991 dL_992 dL_993 dL_994 dL_995 ?_
  refine lw_arg 2 (by decide) rfl rfl hk hL0 dL_996 dL_997 dL_998 dL_999 dL_1000 ?_
  refine lw_r_callVL (As := [.int (X.xs (k + 1)), .int (X.xs (k + 2))]) (o := 219) (c_X6_awake X.B D1 E1 _ _ hy1.2.2.1.xm _ _) hv_X6_awake wm_L_119 dL_1001 rfl rfl (by decide) k_219 (by decide) rfl (Nat.le_of_ble_eq_true rfl) ⟨(Nat.le_of_ble_eq_true rfl), (Nat.le_of_ble_eq_true rfl), (Nat.le_of_ble_eq_true rfl), (Nat.le_of_ble_eq_true rfl)⟩ ⟨rfl, rfl⟩ (fun r8 D2 E2 h8 => ?_)
  obtain ⟨e8, f1, -⟩ := h8
  obtain ⟨hy2, lo2⟩ := hy1.mx f1
  have hx2 := hx1.lo lo2
  refine lw_r_lcmp dL_1004 (fun z hz => ?_)
  exact lw_r_if_eq (tgt := 1247) dL_1005 (by decide) (fun _ => K _ _ _ hx2 hy2 ho) (fun c9 => absurd (hz.trans ((lg_cmp_eq _ _).mpr (e9.trans e8.symm))) c9)
theorem lw_k25 {X : LX} {D : DD} {E : EE} {a : AS} {k : Nat} (hk : k + 5 < X.L) (hL0 : X.L ≤ 3072) (hx : XS D a) (hy : YS D a) (ho : OKS a) (K : ∀ D E a, XS D a → YS D a → OKS a → LW X Z0 D E 234 4604 1247 (LV X k) []) : LW X Z0 D E 234 4604 1010 (LV X k) [] := by
  refine lw_r_aload_n dL_1010 rfl ?_
  refine lw_arg 1 (by decide) rfl rfl hk hL0 dL_1011 dL_1012 dL_1013 dL_1014 dL_1015 ?_
  refine lw_arg 2 (by decide) rfl rfl hk hL0 dL_1016 dL_1017 dL_1018 dL_1019 dL_1020 ?_
  refine lw_arg 3 (by decide) rfl rfl hk hL0 dL_1021 dL_1022 dL_1023 dL_1024 dL_1025 ?_
  refine lw_r_callVI (As := [.int (X.xs (k + 1)), .int (X.xs (k + 2)), .int (X.xs (k + 3))]) (o := 0) (c_X5_drawn X.B D E _ _ hx.1.2.2.1.xl _ _ _) hv_X5_drawn wm_L_120 dL_1026 rfl rfl (by decide) k_0 (by decide) rfl (Nat.le_of_ble_eq_true rfl) ⟨(Nat.le_of_ble_eq_true rfl), (Nat.le_of_ble_eq_true rfl), (Nat.le_of_ble_eq_true rfl), (Nat.le_of_ble_eq_true rfl)⟩ ⟨rfl, rfl⟩ (fun r9 D1 E1 h9 => ?_)
  obtain ⟨e9, g1, -⟩ := h9
  obtain ⟨hx1, hi1⟩ := hx.sx g1
  have hy1 := hy.hi hi1
  refine lw_r_aload_n dL_1029 rfl ?_
  refine lw_arg 1 (by decide) rfl rfl hk hL0 dL_1030 dL_1031 dL_1032 dL_1033 dL_1034 ?_
  refine lw_arg 2 (by decide) rfl rfl hk hL0 dL_1035 dL_1036 dL_1037 dL_1038 dL_1039 ?_
  refine lw_arg 3 (by decide) rfl rfl hk hL0 dL_1040 dL_1041 dL_1042 dL_1043 dL_1044 ?_
  refine lw_r_callVI (As := [.int (X.xs (k + 1)), .int (X.xs (k + 2)), .int (X.xs (k + 3))]) (o := 219) (c_X6_drawn X.B D1 E1 _ _ hy1.2.2.1.xm _ _ _) hv_X6_drawn wm_L_123 dL_1045 rfl rfl (by decide) k_219 (by decide) rfl (Nat.le_of_ble_eq_true rfl) ⟨(Nat.le_of_ble_eq_true rfl), (Nat.le_of_ble_eq_true rfl), (Nat.le_of_ble_eq_true rfl), (Nat.le_of_ble_eq_true rfl)⟩ ⟨rfl, rfl⟩ (fun r8 D2 E2 h8 => ?_)
  obtain ⟨e8, f1, -⟩ := h8
  obtain ⟨hy2, lo2⟩ := hy1.mx f1
  have hx2 := hx1.lo lo2
  exact lw_r_icmp_eq (tgt := 1247) dL_1048 (by decide) (fun _ => K _ _ _ hx2 hy2 ho) (fun c9 => absurd (e9.trans e8.symm) c9)
theorem lw_k26 {X : LX} {D : DD} {E : EE} {a : AS} {k : Nat} (hk : k + 5 < X.L) (hL0 : X.L ≤ 3072) (hx : XS D a) (hy : YS D a) (ho : OKS a) (K : ∀ D E a, XS D a → YS D a → OKS a → LW X Z0 D E 234 4604 1247 (LV X k) []) : LW X Z0 D E 234 4604 1053 (LV X k) [] := by
  have hI := img_ok hx.1.2.2.1.1 ho.1.1 ho.2 (X.xs (k + 1))
  refine lw_r_aload_n dL_1053 rfl ?_
  refine lw_arg 1 (by decide) rfl rfl hk hL0 dL_1054 dL_1055 dL_1056 dL_1057 dL_1058 ?_
  refine lw_r_callVI (As := [.int (X.xs (k + 1))]) (o := 0) (c_X5_image X.B D E _ _ _ _ hx.1.2.2.1 a.im hx.1.2.2.2.1 _) hv_X5_image wm_L_124 dL_1059 rfl rfl (by decide) k_0 (by decide) rfl (Nat.le_of_ble_eq_true rfl) ⟨(Nat.le_of_ble_eq_true rfl), (Nat.le_of_ble_eq_true rfl), (Nat.le_of_ble_eq_true rfl), (Nat.le_of_ble_eq_true rfl)⟩ ⟨rfl, rfl⟩ (fun r9 D1 E1 h9 => ?_)
  obtain ⟨e9, g1, g2, -⟩ := h9
  obtain ⟨hx1, hi1⟩ := hx.img g1 g2
  have hy1 := hy.hi hi1
  refine lw_r_aload_n dL_1062 rfl ?_
  refine lw_arg 1 (by decide) rfl rfl hk hL0 dL_1063 dL_1064 dL_1065 dL_1066 dL_1067 ?_
  refine lw_r_callVI (As := [.int (X.xs (k + 1))]) (o := 219) (c_X6_image X.B D1 E1 _ _ hy1.2.2.1.xm a.im hy1.2.2.2.1 _) hv_X6_image wm_L_127 dL_1068 rfl rfl (by decide) k_219 (by decide) rfl (Nat.le_of_ble_eq_true rfl) ⟨(Nat.le_of_ble_eq_true rfl), (Nat.le_of_ble_eq_true rfl), (Nat.le_of_ble_eq_true rfl), (Nat.le_of_ble_eq_true rfl)⟩ ⟨rfl, rfl⟩ (fun r8 D2 E2 h8 => ?_)
  obtain ⟨e8, f1, f2, -⟩ := h8
  obtain ⟨hy2, lo2⟩ := hy1.img f1 f2
  have hx2 := hx1.lo lo2
  exact lw_r_icmp_eq (tgt := 1247) dL_1071 (by decide) (fun _ => K _ _ _ hx2 hy2 ⟨ho.1, hI⟩) (fun c9 => absurd (e9.trans e8.symm) c9)
theorem lw_k27 {X : LX} {D : DD} {E : EE} {a : AS} {k : Nat} (hk : k + 5 < X.L) (hL0 : X.L ≤ 3072) (hx : XS D a) (hy : YS D a) (ho : OKS a) (K : ∀ D E a, XS D a → YS D a → OKS a → LW X Z0 D E 234 4604 1247 (LV X k) []) : LW X Z0 D E 234 4604 1076 (LV X k) [] := by
  have hR := res_ok ho.1.1 ho.1.2 ho.2 (X.xs (k + 1))
  refine lw_r_aload_n dL_1076 rfl ?_
  refine lw_arg 1 (by decide) rfl rfl hk hL0 dL_1077 dL_1078 dL_1079 dL_1080 dL_1081 ?_
  refine lw_r_callVI (As := [.int (X.xs (k + 1))]) (o := 0) (c_X5_restore X.B D E _ _ _ _ hx.1.2.2.1 a.im hx.1.2.2.2.1 _) hv_X5_restore wm_L_128 dL_1082 rfl rfl (by decide) k_0 (by decide) rfl (Nat.le_of_ble_eq_true rfl) ⟨(Nat.le_of_ble_eq_true rfl), (Nat.le_of_ble_eq_true rfl), (Nat.le_of_ble_eq_true rfl), (Nat.le_of_ble_eq_true rfl)⟩ ⟨rfl, rfl⟩ (fun r9 D1 E1 h9 => ?_)
  obtain ⟨e9, g1, g2, -⟩ := h9
  rw [hR.1] at g1
  obtain ⟨hx1, hi1⟩ := hx.res g1 g2
  have hy1 := hy.hi hi1
  refine lw_r_aload_n dL_1085 rfl ?_
  refine lw_arg 1 (by decide) rfl rfl hk hL0 dL_1086 dL_1087 dL_1088 dL_1089 dL_1090 ?_
  refine lw_r_callVI (As := [.int (X.xs (k + 1))]) (o := 219) (c_X6_restore X.B D1 E1 _ _ _ _ hy1.2.2.1 a.im hy1.2.2.2.1 ho.2 _) hv_X6_restore wm_L_131 dL_1091 rfl rfl (by decide) k_219 (by decide) rfl (Nat.le_of_ble_eq_true rfl) ⟨(Nat.le_of_ble_eq_true rfl), (Nat.le_of_ble_eq_true rfl), (Nat.le_of_ble_eq_true rfl), (Nat.le_of_ble_eq_true rfl)⟩ ⟨rfl, rfl⟩ (fun r8 D2 E2 h8 => ?_)
  obtain ⟨e8, f1, f2, -⟩ := h8
  rw [hR.1] at f1
  obtain ⟨hy2, lo2⟩ := hy1.res f1 f2
  have hx2 := hx1.lo lo2
  exact lw_r_icmp_eq (tgt := 1247) dL_1094 (by decide) (fun _ => K _ _ _ hx2 hy2 ⟨hR.2, ho.2⟩) (fun c9 => absurd (e9.trans e8.symm) c9)
theorem lw_k28 {X : LX} {D : DD} {E : EE} {a : AS} {k : Nat} (hk : k + 5 < X.L) (hL0 : X.L ≤ 3072) (hx : XS D a) (hy : YS D a) (ho : OKS a) (K : ∀ D E a, XS D a → YS D a → OKS a → LW X Z0 D E 234 4604 1247 (LV X k) []) : LW X Z0 D E 234 4604 1099 (LV X k) [] := by
  refine lw_r_aload_n dL_1099 rfl ?_
  refine lw_arg 1 (by decide) rfl rfl hk hL0 dL_1100 dL_1101 dL_1102 dL_1103 dL_1104 ?_
  refine lw_r_callVI (As := [.int (X.xs (k + 1))]) (o := 0) (c_X5_kind X.B D E _ _ hx.1.2.2.1.xl _) hv_X5_kind wm_L_132 dL_1105 rfl rfl (by decide) k_0 (by decide) rfl (Nat.le_of_ble_eq_true rfl) ⟨(Nat.le_of_ble_eq_true rfl), (Nat.le_of_ble_eq_true rfl), (Nat.le_of_ble_eq_true rfl), (Nat.le_of_ble_eq_true rfl)⟩ ⟨rfl, rfl⟩ (fun r9 D1 E1 h9 => ?_)
  obtain ⟨e9, g1, -⟩ := h9
  obtain ⟨hx1, hi1⟩ := hx.id g1
  have hy1 := hy.hi hi1
  refine lw_r_aload_n dL_1108 rfl ?_
  refine lw_arg 1 (by decide) rfl rfl hk hL0 dL_1109 dL_1110 dL_1111 dL_1112 dL_1113 ?_
  refine lw_r_callVI (As := [.int (X.xs (k + 1))]) (o := 219) (c_X6_kind X.B D1 E1 _ _ hy1.2.2.1.xm _) hv_X6_kind wm_L_135 dL_1114 rfl rfl (by decide) k_219 (by decide) rfl (Nat.le_of_ble_eq_true rfl) ⟨(Nat.le_of_ble_eq_true rfl), (Nat.le_of_ble_eq_true rfl), (Nat.le_of_ble_eq_true rfl), (Nat.le_of_ble_eq_true rfl)⟩ ⟨rfl, rfl⟩ (fun r8 D2 E2 h8 => ?_)
  obtain ⟨e8, f1, -⟩ := h8
  obtain ⟨hy2, lo2⟩ := hy1.mx f1
  have hx2 := hx1.lo lo2
  exact lw_r_icmp_eq (tgt := 1247) dL_1117 (by decide) (fun _ => K _ _ _ hx2 hy2 ho) (fun c9 => absurd (e9.trans e8.symm) c9)
theorem lw_k29 {X : LX} {D : DD} {E : EE} {a : AS} {k : Nat} (hk : k + 5 < X.L) (hL0 : X.L ≤ 3072) (hx : XS D a) (hy : YS D a) (ho : OKS a) (K : ∀ D E a, XS D a → YS D a → OKS a → LW X Z0 D E 234 4604 1247 (LV X k) []) : LW X Z0 D E 234 4604 1122 (LV X k) [] := by
  refine lw_r_aload_n dL_1122 rfl ?_
  refine lw_arg 1 (by decide) rfl rfl hk hL0 dL_1123 dL_1124 dL_1125 dL_1126 dL_1127 ?_
  refine lw_arg 2 (by decide) rfl rfl hk hL0 dL_1128 dL_1129 dL_1130 dL_1131 dL_1132 ?_
  refine lw_r_callVI (As := [.int (X.xs (k + 1)), .int (X.xs (k + 2))]) (o := 0) (c_X5_as X.B D E _ _ hx.1.2.2.1.xl _ _) hv_X5_as wm_L_136 dL_1133 rfl rfl (by decide) k_0 (by decide) rfl (Nat.le_of_ble_eq_true rfl) ⟨(Nat.le_of_ble_eq_true rfl), (Nat.le_of_ble_eq_true rfl), (Nat.le_of_ble_eq_true rfl), (Nat.le_of_ble_eq_true rfl)⟩ ⟨rfl, rfl⟩ (fun r9 D1 E1 h9 => ?_)
  obtain ⟨e9, g1, g2, -⟩ := h9
  rw [hx.1.1.2] at e9 g1
  obtain ⟨hx1, hi1⟩ := hx.fx g1 g2
  have hy1 := hy.hi hi1
  refine lw_r_aload_n dL_1136 rfl ?_
  refine lw_arg 1 (by decide) rfl rfl hk hL0 dL_1137 dL_1138 dL_1139 dL_1140 dL_1141 ?_
  refine lw_arg 2 (by decide) rfl rfl hk hL0 dL_1142 dL_1143 dL_1144 dL_1145 dL_1146 ?_
  refine lw_r_callVI (As := [.int (X.xs (k + 1)), .int (X.xs (k + 2))]) (o := 219) (c_X6_as X.B D1 E1 _ _ hy1.2.2.1.xm _ _) hv_X6_as wm_L_139 dL_1147 rfl rfl (by decide) k_219 (by decide) rfl (Nat.le_of_ble_eq_true rfl) ⟨(Nat.le_of_ble_eq_true rfl), (Nat.le_of_ble_eq_true rfl), (Nat.le_of_ble_eq_true rfl), (Nat.le_of_ble_eq_true rfl)⟩ ⟨rfl, rfl⟩ (fun r8 D2 E2 h8 => ?_)
  obtain ⟨e8, f1, f2, -⟩ := h8
  rw [hy1.1.2] at e8 f1
  obtain ⟨hy2, lo2⟩ := hy1.fx f1 f2
  have hx2 := hx1.lo lo2
  exact lw_r_icmp_eq (tgt := 1247) dL_1150 (by decide) (fun _ => K _ _ _ hx2 hy2 ho) (fun c9 => absurd (e9.trans e8.symm) c9)
theorem lw_k30 {X : LX} {D : DD} {E : EE} {a : AS} {k : Nat} (hk : k + 5 < X.L) (hL0 : X.L ≤ 3072) (hx : XS D a) (hy : YS D a) (ho : OKS a) (K : ∀ D E a, XS D a → YS D a → OKS a → LW X Z0 D E 234 4604 1247 (LV X k) []) : LW X Z0 D E 234 4604 1155 (LV X k) [] := by
  refine lw_r_aload_n dL_1155 rfl ?_
  refine lw_arg 1 (by decide) rfl rfl hk hL0 dL_1156 dL_1157 dL_1158 dL_1159 dL_1160 ?_
  refine lw_arg 2 (by decide) rfl rfl hk hL0 dL_1161 dL_1162 dL_1163 dL_1164 dL_1165 ?_
  refine lw_r_callVI (As := [.int (X.xs (k + 1)), .int (X.xs (k + 2))]) (o := 0) (c_X5_ask X.B D E _ _ hx.1.2.2.1.xl a.tr hx.1.2.2.2.2.1 _ _) hv_X5_ask wm_L_140 dL_1166 rfl rfl (by decide) k_0 (by decide) rfl (Nat.le_of_ble_eq_true rfl) ⟨(Nat.le_of_ble_eq_true rfl), (Nat.le_of_ble_eq_true rfl), (Nat.le_of_ble_eq_true rfl), (Nat.le_of_ble_eq_true rfl)⟩ ⟨rfl, rfl⟩ (fun r9 D1 E1 h9 => ?_)
  obtain ⟨e9, g1, g2, -⟩ := h9
  obtain ⟨hx1, hi1⟩ := hx.ask g1 g2
  have hy1 := hy.hi hi1
  refine lw_r_aload_n dL_1169 rfl ?_
  refine lw_arg 1 (by decide) rfl rfl hk hL0 dL_1170 dL_1171 dL_1172 dL_1173 dL_1174 ?_
  refine lw_arg 2 (by decide) rfl rfl hk hL0 dL_1175 dL_1176 dL_1177 dL_1178 dL_1179 ?_
  refine lw_r_callVI (As := [.int (X.xs (k + 1)), .int (X.xs (k + 2))]) (o := 219) (c_X6_ask X.B D1 E1 _ _ hy1.2.2.1.xm a.tr hy1.2.2.2.2.1 _ _) hv_X6_ask wm_L_143 dL_1180 rfl rfl (by decide) k_219 (by decide) rfl (Nat.le_of_ble_eq_true rfl) ⟨(Nat.le_of_ble_eq_true rfl), (Nat.le_of_ble_eq_true rfl), (Nat.le_of_ble_eq_true rfl), (Nat.le_of_ble_eq_true rfl)⟩ ⟨rfl, rfl⟩ (fun r8 D2 E2 h8 => ?_)
  obtain ⟨e8, f1, f2, -⟩ := h8
  obtain ⟨hy2, lo2⟩ := hy1.ask f1 f2
  have hx2 := hx1.lo lo2
  exact lw_r_icmp_eq (tgt := 1247) dL_1183 (by decide) (fun _ => K _ _ _ hx2 hy2 ho) (fun c9 => absurd (e9.trans e8.symm) c9)
theorem lw_k31 {X : LX} {D : DD} {E : EE} {a : AS} {k : Nat} (hk : k + 5 < X.L) (hL0 : X.L ≤ 3072) (hx : XS D a) (hy : YS D a) (ho : OKS a) (K : ∀ D E a, XS D a → YS D a → OKS a → LW X Z0 D E 234 4604 1247 (LV X k) []) : LW X Z0 D E 234 4604 1188 (LV X k) [] := by
  refine lw_r_aload_n dL_1188 rfl ?_
  refine lw_arg 1 (by decide) rfl rfl hk hL0 dL_1189 dL_1190 dL_1191 dL_1192 dL_1193 ?_
  refine lw_r_callVI (As := [.int (X.xs (k + 1))]) (o := 0) (c_X5_trace X.B D E a.tr.1 a.tr.2 hx.1.2.2.2.2.1.1 hx.1.2.2.2.2.1.2.1 hx.1.2.2.2.2.1.2.2 _) hv_X5_trace wm_L_144 dL_1194 rfl rfl (by decide) k_0 (by decide) rfl (Nat.le_of_ble_eq_true rfl) ⟨(Nat.le_of_ble_eq_true rfl), (Nat.le_of_ble_eq_true rfl), (Nat.le_of_ble_eq_true rfl), (Nat.le_of_ble_eq_true rfl)⟩ ⟨rfl, rfl⟩ (fun r9 D1 E1 h9 => ?_)
  obtain ⟨e9, g1, -⟩ := h9
  obtain ⟨hx1, hi1⟩ := hx.id g1
  have hy1 := hy.hi hi1
  refine lw_r_aload_n dL_1197 rfl ?_
  refine lw_arg 1 (by decide) rfl rfl hk hL0 dL_1198 dL_1199 dL_1200 dL_1201 dL_1202 ?_
  refine lw_r_callVI (As := [.int (X.xs (k + 1))]) (o := 219) (c_X6_trace X.B D1 E1 a.tr hy1.2.2.2.2.1 _) hv_X6_trace wm_L_147 dL_1203 rfl rfl (by decide) k_219 (by decide) rfl (Nat.le_of_ble_eq_true rfl) ⟨(Nat.le_of_ble_eq_true rfl), (Nat.le_of_ble_eq_true rfl), (Nat.le_of_ble_eq_true rfl), (Nat.le_of_ble_eq_true rfl)⟩ ⟨rfl, rfl⟩ (fun r8 D2 E2 h8 => ?_)
  obtain ⟨e8, f1, -⟩ := h8
  obtain ⟨hy2, lo2⟩ := hy1.mx f1
  have hx2 := hx1.lo lo2
  exact lw_r_icmp_eq (tgt := 1247) dL_1206 (by decide) (fun _ => K _ _ _ hx2 hy2 ho) (fun c9 => absurd (e9.trans e8.symm) c9)
theorem lw_k32 {X : LX} {D : DD} {E : EE} {a : AS} {k : Nat} (hk : k + 5 < X.L) (hL0 : X.L ≤ 3072) (hx : XS D a) (hy : YS D a) (ho : OKS a) (K : ∀ D E a, XS D a → YS D a → OKS a → LW X Z0 D E 234 4604 1247 (LV X k) []) : LW X Z0 D E 234 4604 1211 (LV X k) [] := by
  refine lw_r_aload_n dL_1211 rfl ?_
  refine lw_arg 1 (by decide) rfl rfl hk hL0 dL_1212 dL_1213 dL_1214 dL_1215 dL_1216 ?_
  refine lw_r_callVI (As := [.int (X.xs (k + 1))]) (o := 0) (c_X5_count X.B D E _ _ hx.1.2.2.1.xl a.w hx.1.1 a.s.2.1 a.t.1 (hx.1.2.2.1.2.2.2.2.elim (fun _ h => h.2.1)) hx.1.2.1.1 _) hv_X5_count wm_L_148 dL_1217 rfl rfl (by decide) k_0 (by decide) rfl (Nat.le_of_ble_eq_true rfl) ⟨(Nat.le_of_ble_eq_true rfl), (Nat.le_of_ble_eq_true rfl), (Nat.le_of_ble_eq_true rfl), (Nat.le_of_ble_eq_true rfl)⟩ ⟨rfl, rfl⟩ (fun r9 D1 E1 h9 => ?_)
  obtain ⟨e9, g1, -⟩ := h9
  obtain ⟨hx1, hi1⟩ := hx.id g1
  have hy1 := hy.hi hi1
  refine lw_r_aload_n dL_1220 rfl ?_
  refine lw_arg 1 (by decide) rfl rfl hk hL0 dL_1221 dL_1222 dL_1223 dL_1224 dL_1225 ?_
  refine lw_r_callVI (As := [.int (X.xs (k + 1))]) (o := 219) (c_X6_count X.B D1 E1 _ _ hy1.2.2.1.xm a.w hy1.1 a.s.2.1 a.t.1 hy1.2.2.1.2.2.2.2.1.1 hy1.2.1.1 _) hv_X6_count wm_L_151 dL_1226 rfl rfl (by decide) k_219 (by decide) rfl (Nat.le_of_ble_eq_true rfl) ⟨(Nat.le_of_ble_eq_true rfl), (Nat.le_of_ble_eq_true rfl), (Nat.le_of_ble_eq_true rfl), (Nat.le_of_ble_eq_true rfl)⟩ ⟨rfl, rfl⟩ (fun r8 D2 E2 h8 => ?_)
  obtain ⟨e8, f1, -⟩ := h8
  obtain ⟨hy2, lo2⟩ := hy1.mx f1
  have hx2 := hx1.lo lo2
  exact lw_r_icmp_eq (tgt := 1247) dL_1229 (by decide) (fun _ => K _ _ _ hx2 hy2 ho) (fun c9 => absurd (e9.trans e8.symm) c9)
theorem lw_k33 {X : LX} {D : DD} {E : EE} {a : AS} {k : Nat} (hk : k + 5 < X.L) (hL0 : X.L ≤ 3072) (hx : XS D a) (hy : YS D a) (ho : OKS a) (K : ∀ D E a, XS D a → YS D a → OKS a → LW X Z0 D E 234 4604 1247 (LV X k) []) : LW X Z0 D E 234 4604 1234 (LV X k) [] := by
  refine lw_r_aload_n dL_1234 rfl ?_
  refine lw_r_callVI (As := []) (o := 0) (c_X5_status X.B D E ) hv_X5_status wm_L_152 dL_1235 rfl rfl (by decide) k_0 (by decide) rfl (Nat.le_of_ble_eq_true rfl) ⟨(Nat.le_of_ble_eq_true rfl), (Nat.le_of_ble_eq_true rfl), (Nat.le_of_ble_eq_true rfl), (Nat.le_of_ble_eq_true rfl)⟩ ⟨rfl, rfl⟩ (fun r9 D1 E1 h9 => ?_)
  obtain ⟨e9, g1, -⟩ := h9
  obtain ⟨hx1, hi1⟩ := hx.id g1
  have hy1 := hy.hi hi1
  refine lw_r_aload_n dL_1238 rfl ?_
  refine lw_r_callVI (As := []) (o := 219) (c_X6_status X.B D1 E1 ) hv_X6_status wm_L_155 dL_1239 rfl rfl (by decide) k_219 (by decide) rfl (Nat.le_of_ble_eq_true rfl) ⟨(Nat.le_of_ble_eq_true rfl), (Nat.le_of_ble_eq_true rfl), (Nat.le_of_ble_eq_true rfl), (Nat.le_of_ble_eq_true rfl)⟩ ⟨rfl, rfl⟩ (fun r8 D2 E2 h8 => ?_)
  obtain ⟨e8, f1, -⟩ := h8
  obtain ⟨hy2, lo2⟩ := hy1.mx f1
  have hx2 := hx1.lo lo2
  exact lw_r_icmp_eq (tgt := 1247) dL_1242 (by decide) (fun _ => K _ _ _ hx2 hy2 ho) (fun c9 => absurd ((e9.trans hx.1.1.2).trans (e8.trans hy1.1.2).symm) c9)
