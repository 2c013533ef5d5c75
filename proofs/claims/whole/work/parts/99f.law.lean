/-! the law: what a call of both sides does -/
abbrev mL_law : pv_Mth := (yL_law, cL_law, 4, some .boolean)
def q_L : pv_Q := fun v _ _ _ _ => v = some (.int 1)
/-- both sides show one world -/
def LW (J : pv_I) (K : pv_L) (t : pv_T) (I : pv_I) (L : pv_L) (Rf : pv_R) : Prop := WF J K ∧ RX J K t I L Rf ∧ RM J K I L ∧ b_wok I
theorem law_mid {J : pv_I} {K : pv_L} {I I1 : pv_I} {L L1 : pv_L} (h : RM J K I L) (w : b_wok I) (k : kM I L I1 L1) : RM J K I1 L1 ∧ b_wok I1 := ⟨h.congr k, fun j x q => by rw [(k 74 (by decide) (by decide)).1]; exact w j x q⟩
theorem law_fin {r : SR} {t : pv_T} {I I1 : pv_I} {L L1 : pv_L} {Rf : pv_R} (hW : s_wf r) (hX : RX r.2.1 r.2.2 t I L Rf) (hM : RM r.2.1 r.2.2 I1 L1) (w : b_wok I) (k : kX I L I1 L1) : LW r.2.1 r.2.2 t I1 L1 Rf := ⟨hW, hX.kX k, hM, fun j x q => by rw [(k 74 (Or.inr (Or.inl rfl))).1]; exact w j x q⟩
section PVL
variable {G : pv_G} {M : pv_Mth} {d mc ms bc bs bc1 bs1 pc n k : Nat} {Q : pv_Q} {ls st : List Value} {t : pv_T} {I : pv_I} {L : pv_L} {Rf : pv_R}
theorem pv_in (h : pv_X G t I → pv_V G M d mc ms Q bc bs pc ls st t I L Rf) : pv_V G M d mc ms Q bc bs pc ls st t I L Rf :=
  fun R p l e s m args below meth c Z H locs cells slots lsA C F P S hl h1 h2 => h P.2.2.1 R p l e s m args below meth c Z H locs cells slots lsA C F P S hl h1 h2
theorem law_bud (h1 : bc1 ≤ bc) (h2 : bs1 ≤ bs) (h : pv_V G M d mc ms Q bc1 bs1 pc ls st t I L Rf) : pv_V G M d mc ms Q bc bs pc ls st t I L Rf :=
  fun R p l e s m args below meth c Z H locs cells slots lsA C F P S hl g1 g2 => h R p l e s m args below meth c Z H locs cells slots lsA C F P S hl (by omega) (by omega)
theorem law_i {r : SR} (h : s_i r) (c : ∀ x, r.1 = .int x → pv_V G M d mc ms Q bc bs pc ls (.int x :: st) t I L Rf) : pv_V G M d mc ms Q bc bs pc ls ((some r.1).toList ++ st) t I L Rf := by
  obtain ⟨x, hx⟩ := h
  rw [hx]; exact c x hx
theorem law_l {r : SR} (h : s_l r) (c : ∀ x, r.1 = .long x → pv_V G M d mc ms Q bc bs pc ls (.long x :: st) t I L Rf) : pv_V G M d mc ms Q bc bs pc ls ((some r.1).toList ++ st) t I L Rf := by
  obtain ⟨x, hx⟩ := h
  rw [hx]; exact c x hx
theorem law_m {r : SR} {v : Value} (h : r.1 = v) (c : pv_V G M d mc ms Q bc bs pc ls (v :: st) t I L Rf) : pv_V G M d mc ms Q bc bs pc ls ((some r.1).toList ++ st) t I L Rf := by
  rw [h]; exact c
theorem pl_sh (hO : pv_X G t I) : t.1 0 = some (.inl (.int, G.2.2.2.1)) := (hO 0 (by decide)).1
theorem pl_ia {kk : Int32} (hd : decode M.2.1 pc = .ok (.iaload, 1)) (hO : pv_X G t I) (hn : n + 9 ≤ G.2.2.2.1) (hN : G.2.2.2.1 ≤ 4608) (hk : kk = Int32.ofNat k) (hk9 : k < 9) (c : pv_V G M d mc ms Q bc bs (pc + 1) ls (.int (G.2.2.2.2.1 (n + k)) :: st) t I L Rf) : pv_V G M d mc ms Q bc bs pc ls (.int (Int32.ofNat n + kk) :: .ref 0 :: st) t I L Rf := by
  have e : Int32.ofNat n + kk = Int32.ofNat (n + k) := by rw [hk, ← Int32.ofNat_add]
  rw [e]
  refine pv_ialoadj hd (pl_sh hO) (j := n + k) (i_nat (by omega)) (i_in (by omega) (by omega)) ?_
  rw [(hO 0 (by decide)).2 _ rfl (n + k) (by show n + k < G.2.2.2.1; omega)]; exact c
theorem pl_ia0 (hd : decode M.2.1 pc = .ok (.iaload, 1)) (hO : pv_X G t I) (hn : n + 9 ≤ G.2.2.2.1) (hN : G.2.2.2.1 ≤ 4608) (c : pv_V G M d mc ms Q bc bs (pc + 1) ls (.int (G.2.2.2.2.1 n) :: st) t I L Rf) : pv_V G M d mc ms Q bc bs pc ls (.int (Int32.ofNat n) :: .ref 0 :: st) t I L Rf := by
  refine pv_ialoadj hd (pl_sh hO) (j := n) (i_nat (by omega)) (i_in (by omega) (by omega)) ?_
  rw [(hO 0 (by decide)).2 _ rfl n (by show n < G.2.2.2.1; omega)]; exact c
end PVL
set_option maxRecDepth 100000 in
set_option maxHeartbeats 4000000 in
theorem lc_row {G : pv_G} {d mc ms bc bs n : Nat} {J : pv_I} {K : pv_L} {t : pv_T} {I : pv_I} {L : pv_L} {Rf : pv_R} (hF : fk_ok G) (hd : 200 ≤ d) (hn : n + 9 ≤ G.2.2.2.1) (hN : G.2.2.2.1 ≤ 4608) (hO : pv_X G t I) (h : LW J K t I L Rf) (next : ∀ J K t I L Rf, LW J K t I L Rf → pv_V G mL_law d mc ms q_L bc bs 2221 [.ref 0, .ref 16, .ref 61, .int (Int32.ofNat n)] [] t I L Rf) : pv_V G mL_law d mc ms q_L (bc + 0) (bs + 0) 216 [.ref 0, .ref 16, .ref 61, .int (Int32.ofNat n)] [] t I L Rf := by
  obtain ⟨hW, hX, hM, hw⟩ := h
  refine pv_aload_1 (pc := 216) dL_law_216 ?_
  refine pv_aload_0 (pc := 217) dL_law_217 ?_
  refine pv_iload_3 (pc := 218) dL_law_218 ?_
  refine pv_iconst (pc := 219) (v := 1) dL_law_219 (by decide) ?_
  refine pv_iadd (pc := 220) dL_law_220 ?_
  refine pl_ia (pc := 221) (k := 1) dL_law_221 hO hn hN (by decide) (by decide) ?_
  refine pv_aload_0 (pc := 222) dL_law_222 ?_
  refine pv_iload_3 (pc := 223) dL_law_223 ?_
  refine pv_iconst (pc := 224) (v := 2) dL_law_224 (by decide) ?_
  refine pv_iadd (pc := 225) dL_law_225 ?_
  refine pl_ia (pc := 226) (k := 2) dL_law_226 hO hn hN (by decide) (by decide) ?_
  refine pv_aload_0 (pc := 227) dL_law_227 ?_
  refine pv_iload_3 (pc := 228) dL_law_228 ?_
  refine pv_iconst (pc := 229) (v := 3) dL_law_229 (by decide) ?_
  refine pv_iadd (pc := 230) dL_law_230 ?_
  refine pl_ia (pc := 231) (k := 3) dL_law_231 hO hn hN (by decide) (by decide) ?_
  refine pv_callVq (pc := 232) dL_law_232 mgX11_row lv_L_13_11 (by decide) (sx_16 hX.1) (by omega) (c_X11_row hW hX (by omega)) rfl rfl (Nat.le_of_ble_eq_true rfl) (fun v t I L Rf hq => ?_)
  obtain ⟨rfl, hX, hk⟩ := hq
  obtain ⟨hM, hw⟩ := law_mid hM hw hk
  refine law_i (a_row J K _ _ _) (fun x hx => ?_)
  refine pv_in (fun hO => ?_)
  refine pv_aload_2 (pc := 235) dL_law_235 ?_
  refine pv_aload_0 (pc := 236) dL_law_236 ?_
  refine pv_iload_3 (pc := 237) dL_law_237 ?_
  refine pv_iconst (pc := 238) (v := 1) dL_law_238 (by decide) ?_
  refine pv_iadd (pc := 239) dL_law_239 ?_
  refine pl_ia (pc := 240) (k := 1) dL_law_240 hO hn hN (by decide) (by decide) ?_
  refine pv_aload_0 (pc := 241) dL_law_241 ?_
  refine pv_iload_3 (pc := 242) dL_law_242 ?_
  refine pv_iconst (pc := 243) (v := 2) dL_law_243 (by decide) ?_
  refine pv_iadd (pc := 244) dL_law_244 ?_
  refine pl_ia (pc := 245) (k := 2) dL_law_245 hO hn hN (by decide) (by decide) ?_
  refine pv_aload_0 (pc := 246) dL_law_246 ?_
  refine pv_iload_3 (pc := 247) dL_law_247 ?_
  refine pv_iconst (pc := 248) (v := 3) dL_law_248 (by decide) ?_
  refine pv_iadd (pc := 249) dL_law_249 ?_
  refine pl_ia (pc := 250) (k := 3) dL_law_250 hO hn hN (by decide) (by decide) ?_
  refine pv_callVq (pc := 251) dL_law_251 mgX12_row lv_L_17_12 (by decide) (sx_61 hX.1) (by omega) (c_X12_row hX.1 hX.2.1 hW hM (by omega)) rfl rfl (Nat.le_of_ble_eq_true rfl) (fun v t I L Rf hq => ?_)
  obtain ⟨rfl, rfl, rfl, hM, hkX⟩ := hq
  refine law_m hx ?_
  refine pv_icmp_eq (pc := 254) (tgt := 2221) dL_law_254 (by decide) (fun h254 => ?_) (fun h254 => absurd h254 (fun q => q rfl))
  exact next _ _ _ _ _ _ (law_fin (wf_row hW _ _ _) hX hM hw hkX)

set_option maxRecDepth 100000 in
set_option maxHeartbeats 4000000 in
theorem lc_set {G : pv_G} {d mc ms bc bs n : Nat} {J : pv_I} {K : pv_L} {t : pv_T} {I : pv_I} {L : pv_L} {Rf : pv_R} (hF : fk_ok G) (hd : 200 ≤ d) (hn : n + 9 ≤ G.2.2.2.1) (hN : G.2.2.2.1 ≤ 4608) (hO : pv_X G t I) (h : LW J K t I L Rf) (next : ∀ J K t I L Rf, LW J K t I L Rf → pv_V G mL_law d mc ms q_L bc bs 2221 [.ref 0, .ref 16, .ref 61, .int (Int32.ofNat n)] [] t I L Rf) : pv_V G mL_law d mc ms q_L (bc + 0) (bs + 0) 259 [.ref 0, .ref 16, .ref 61, .int (Int32.ofNat n)] [] t I L Rf := by
  obtain ⟨hW, hX, hM, hw⟩ := h
  refine pv_aload_1 (pc := 259) dL_law_259 ?_
  refine pv_aload_0 (pc := 260) dL_law_260 ?_
  refine pv_iload_3 (pc := 261) dL_law_261 ?_
  refine pv_iconst (pc := 262) (v := 1) dL_law_262 (by decide) ?_
  refine pv_iadd (pc := 263) dL_law_263 ?_
  refine pl_ia (pc := 264) (k := 1) dL_law_264 hO hn hN (by decide) (by decide) ?_
  refine pv_aload_0 (pc := 265) dL_law_265 ?_
  refine pv_iload_3 (pc := 266) dL_law_266 ?_
  refine pv_iconst (pc := 267) (v := 2) dL_law_267 (by decide) ?_
  refine pv_iadd (pc := 268) dL_law_268 ?_
  refine pl_ia (pc := 269) (k := 2) dL_law_269 hO hn hN (by decide) (by decide) ?_
  refine pv_aload_0 (pc := 270) dL_law_270 ?_
  refine pv_iload_3 (pc := 271) dL_law_271 ?_
  refine pv_iconst (pc := 272) (v := 3) dL_law_272 (by decide) ?_
  refine pv_iadd (pc := 273) dL_law_273 ?_
  refine pl_ia (pc := 274) (k := 3) dL_law_274 hO hn hN (by decide) (by decide) ?_
  refine pv_i2l (pc := 275) dL_law_275 ?_
  refine pv_bipush (pc := 276) (v := 32) dL_law_276 (by decide) ?_
  refine pv_lshl (pc := 278) dL_law_278 rfl ?_
  refine pv_aload_0 (pc := 279) dL_law_279 ?_
  refine pv_iload_3 (pc := 280) dL_law_280 ?_
  refine pv_iconst (pc := 281) (v := 4) dL_law_281 (by decide) ?_
  refine pv_iadd (pc := 282) dL_law_282 ?_
  refine pl_ia (pc := 283) (k := 4) dL_law_283 hO hn hN (by decide) (by decide) ?_
  refine pv_i2l (pc := 284) dL_law_284 ?_
  refine pv_ldc2 (pc := 285) dL_law_285 k_L_18 ?_
  refine pv_land (pc := 288) dL_law_288 ?_
  refine pv_lor (pc := 289) dL_law_289 ?_
  refine pv_callVq (pc := 290) dL_law_290 mgX11_set lv_L_20_11 (by decide) (sx_16 hX.1) (by omega) (c_X11_set hW hX (by omega)) rfl rfl (Nat.le_of_ble_eq_true rfl) (fun v t I L Rf hq => ?_)
  obtain ⟨rfl, hX, hk⟩ := hq
  obtain ⟨hM, hw⟩ := law_mid hM hw hk
  refine law_i (a_set J K _ _ _) (fun x hx => ?_)
  refine pv_in (fun hO => ?_)
  refine pv_aload_2 (pc := 293) dL_law_293 ?_
  refine pv_aload_0 (pc := 294) dL_law_294 ?_
  refine pv_iload_3 (pc := 295) dL_law_295 ?_
  refine pv_iconst (pc := 296) (v := 1) dL_law_296 (by decide) ?_
  refine pv_iadd (pc := 297) dL_law_297 ?_
  refine pl_ia (pc := 298) (k := 1) dL_law_298 hO hn hN (by decide) (by decide) ?_
  refine pv_aload_0 (pc := 299) dL_law_299 ?_
  refine pv_iload_3 (pc := 300) dL_law_300 ?_
  refine pv_iconst (pc := 301) (v := 2) dL_law_301 (by decide) ?_
  refine pv_iadd (pc := 302) dL_law_302 ?_
  refine pl_ia (pc := 303) (k := 2) dL_law_303 hO hn hN (by decide) (by decide) ?_
  refine pv_aload_0 (pc := 304) dL_law_304 ?_
  refine pv_iload_3 (pc := 305) dL_law_305 ?_
  refine pv_iconst (pc := 306) (v := 3) dL_law_306 (by decide) ?_
  refine pv_iadd (pc := 307) dL_law_307 ?_
  refine pl_ia (pc := 308) (k := 3) dL_law_308 hO hn hN (by decide) (by decide) ?_
  refine pv_i2l (pc := 309) dL_law_309 ?_
  refine pv_bipush (pc := 310) (v := 32) dL_law_310 (by decide) ?_
  refine pv_lshl (pc := 312) dL_law_312 rfl ?_
  refine pv_aload_0 (pc := 313) dL_law_313 ?_
  refine pv_iload_3 (pc := 314) dL_law_314 ?_
  refine pv_iconst (pc := 315) (v := 4) dL_law_315 (by decide) ?_
  refine pv_iadd (pc := 316) dL_law_316 ?_
  refine pl_ia (pc := 317) (k := 4) dL_law_317 hO hn hN (by decide) (by decide) ?_
  refine pv_i2l (pc := 318) dL_law_318 ?_
  refine pv_ldc2 (pc := 319) dL_law_319 k_L_18 ?_
  refine pv_land (pc := 322) dL_law_322 ?_
  refine pv_lor (pc := 323) dL_law_323 ?_
  refine pv_callVq (pc := 324) dL_law_324 mgX12_set lv_L_24_12 (by decide) (sx_61 hX.1) (by omega) (c_X12_set hX.1 hX.2.1 hW hM (by omega)) rfl rfl (Nat.le_of_ble_eq_true rfl) (fun v t I L Rf hq => ?_)
  obtain ⟨rfl, rfl, rfl, hM, hkX⟩ := hq
  refine law_m hx ?_
  refine pv_icmp_eq (pc := 327) (tgt := 2221) dL_law_327 (by decide) (fun h327 => ?_) (fun h327 => absurd h327 (fun q => q rfl))
  exact next _ _ _ _ _ _ (law_fin (wf_set hW _ _ _) hX hM hw hkX)

set_option maxRecDepth 100000 in
set_option maxHeartbeats 4000000 in
theorem lc_copy {G : pv_G} {d mc ms bc bs n : Nat} {J : pv_I} {K : pv_L} {t : pv_T} {I : pv_I} {L : pv_L} {Rf : pv_R} (hF : fk_ok G) (hd : 200 ≤ d) (hn : n + 9 ≤ G.2.2.2.1) (hN : G.2.2.2.1 ≤ 4608) (hO : pv_X G t I) (h : LW J K t I L Rf) (next : ∀ J K t I L Rf, LW J K t I L Rf → pv_V G mL_law d mc ms q_L bc bs 2221 [.ref 0, .ref 16, .ref 61, .int (Int32.ofNat n)] [] t I L Rf) : pv_V G mL_law d mc ms q_L (bc + 0) (bs + 0) 332 [.ref 0, .ref 16, .ref 61, .int (Int32.ofNat n)] [] t I L Rf := by
  obtain ⟨hW, hX, hM, hw⟩ := h
  refine pv_aload_1 (pc := 332) dL_law_332 ?_
  refine pv_aload_0 (pc := 333) dL_law_333 ?_
  refine pv_iload_3 (pc := 334) dL_law_334 ?_
  refine pv_iconst (pc := 335) (v := 1) dL_law_335 (by decide) ?_
  refine pv_iadd (pc := 336) dL_law_336 ?_
  refine pl_ia (pc := 337) (k := 1) dL_law_337 hO hn hN (by decide) (by decide) ?_
  refine pv_aload_0 (pc := 338) dL_law_338 ?_
  refine pv_iload_3 (pc := 339) dL_law_339 ?_
  refine pv_iconst (pc := 340) (v := 2) dL_law_340 (by decide) ?_
  refine pv_iadd (pc := 341) dL_law_341 ?_
  refine pl_ia (pc := 342) (k := 2) dL_law_342 hO hn hN (by decide) (by decide) ?_
  refine pv_aload_0 (pc := 343) dL_law_343 ?_
  refine pv_iload_3 (pc := 344) dL_law_344 ?_
  refine pv_iconst (pc := 345) (v := 3) dL_law_345 (by decide) ?_
  refine pv_iadd (pc := 346) dL_law_346 ?_
  refine pl_ia (pc := 347) (k := 3) dL_law_347 hO hn hN (by decide) (by decide) ?_
  refine pv_aload_0 (pc := 348) dL_law_348 ?_
  refine pv_iload_3 (pc := 349) dL_law_349 ?_
  refine pv_iconst (pc := 350) (v := 4) dL_law_350 (by decide) ?_
  refine pv_iadd (pc := 351) dL_law_351 ?_
  refine pl_ia (pc := 352) (k := 4) dL_law_352 hO hn hN (by decide) (by decide) ?_
  refine pv_aload_0 (pc := 353) dL_law_353 ?_
  refine pv_iload_3 (pc := 354) dL_law_354 ?_
  refine pv_iconst (pc := 355) (v := 5) dL_law_355 (by decide) ?_
  refine pv_iadd (pc := 356) dL_law_356 ?_
  refine pl_ia (pc := 357) (k := 5) dL_law_357 hO hn hN (by decide) (by decide) ?_
  refine pv_callVq (pc := 358) dL_law_358 mgX11_copy lv_L_25_11 (by decide) (sx_16 hX.1) (by omega) (c_X11_copy hW hX (by omega)) rfl rfl (Nat.le_of_ble_eq_true rfl) (fun v t I L Rf hq => ?_)
  obtain ⟨rfl, hX, hk⟩ := hq
  obtain ⟨hM, hw⟩ := law_mid hM hw hk
  refine law_i (a_copy J K _ _ _ _ _) (fun x hx => ?_)
  refine pv_in (fun hO => ?_)
  refine pv_aload_2 (pc := 361) dL_law_361 ?_
  refine pv_aload_0 (pc := 362) dL_law_362 ?_
  refine pv_iload_3 (pc := 363) dL_law_363 ?_
  refine pv_iconst (pc := 364) (v := 1) dL_law_364 (by decide) ?_
  refine pv_iadd (pc := 365) dL_law_365 ?_
  refine pl_ia (pc := 366) (k := 1) dL_law_366 hO hn hN (by decide) (by decide) ?_
  refine pv_aload_0 (pc := 367) dL_law_367 ?_
  refine pv_iload_3 (pc := 368) dL_law_368 ?_
  refine pv_iconst (pc := 369) (v := 2) dL_law_369 (by decide) ?_
  refine pv_iadd (pc := 370) dL_law_370 ?_
  refine pl_ia (pc := 371) (k := 2) dL_law_371 hO hn hN (by decide) (by decide) ?_
  refine pv_aload_0 (pc := 372) dL_law_372 ?_
  refine pv_iload_3 (pc := 373) dL_law_373 ?_
  refine pv_iconst (pc := 374) (v := 3) dL_law_374 (by decide) ?_
  refine pv_iadd (pc := 375) dL_law_375 ?_
  refine pl_ia (pc := 376) (k := 3) dL_law_376 hO hn hN (by decide) (by decide) ?_
  refine pv_aload_0 (pc := 377) dL_law_377 ?_
  refine pv_iload_3 (pc := 378) dL_law_378 ?_
  refine pv_iconst (pc := 379) (v := 4) dL_law_379 (by decide) ?_
  refine pv_iadd (pc := 380) dL_law_380 ?_
  refine pl_ia (pc := 381) (k := 4) dL_law_381 hO hn hN (by decide) (by decide) ?_
  refine pv_aload_0 (pc := 382) dL_law_382 ?_
  refine pv_iload_3 (pc := 383) dL_law_383 ?_
  refine pv_iconst (pc := 384) (v := 5) dL_law_384 (by decide) ?_
  refine pv_iadd (pc := 385) dL_law_385 ?_
  refine pl_ia (pc := 386) (k := 5) dL_law_386 hO hn hN (by decide) (by decide) ?_
  refine pv_callVq (pc := 387) dL_law_387 mgX12_copy lv_L_29_12 (by decide) (sx_61 hX.1) (by omega) (c_X12_copy hX.1 hX.2.1 hW hM (by omega)) rfl rfl (Nat.le_of_ble_eq_true rfl) (fun v t I L Rf hq => ?_)
  obtain ⟨rfl, rfl, rfl, hM, hkX⟩ := hq
  refine law_m hx ?_
  refine pv_icmp_eq (pc := 390) (tgt := 2221) dL_law_390 (by decide) (fun h390 => ?_) (fun h390 => absurd h390 (fun q => q rfl))
  exact next _ _ _ _ _ _ (law_fin (wf_copy hW _ _ _ _ _) hX hM hw hkX)

set_option maxRecDepth 100000 in
set_option maxHeartbeats 4000000 in
theorem lc_element {G : pv_G} {d mc ms bc bs n : Nat} {J : pv_I} {K : pv_L} {t : pv_T} {I : pv_I} {L : pv_L} {Rf : pv_R} (hF : fk_ok G) (hd : 200 ≤ d) (hn : n + 9 ≤ G.2.2.2.1) (hN : G.2.2.2.1 ≤ 4608) (hO : pv_X G t I) (h : LW J K t I L Rf) (next : ∀ J K t I L Rf, LW J K t I L Rf → pv_V G mL_law d mc ms q_L bc bs 2221 [.ref 0, .ref 16, .ref 61, .int (Int32.ofNat n)] [] t I L Rf) : pv_V G mL_law d mc ms q_L (bc + 0) (bs + 0) 395 [.ref 0, .ref 16, .ref 61, .int (Int32.ofNat n)] [] t I L Rf := by
  obtain ⟨hW, hX, hM, hw⟩ := h
  refine pv_aload_1 (pc := 395) dL_law_395 ?_
  refine pv_aload_0 (pc := 396) dL_law_396 ?_
  refine pv_iload_3 (pc := 397) dL_law_397 ?_
  refine pv_iconst (pc := 398) (v := 1) dL_law_398 (by decide) ?_
  refine pv_iadd (pc := 399) dL_law_399 ?_
  refine pl_ia (pc := 400) (k := 1) dL_law_400 hO hn hN (by decide) (by decide) ?_
  refine pv_aload_0 (pc := 401) dL_law_401 ?_
  refine pv_iload_3 (pc := 402) dL_law_402 ?_
  refine pv_iconst (pc := 403) (v := 2) dL_law_403 (by decide) ?_
  refine pv_iadd (pc := 404) dL_law_404 ?_
  refine pl_ia (pc := 405) (k := 2) dL_law_405 hO hn hN (by decide) (by decide) ?_
  refine pv_callVq (pc := 406) dL_law_406 mgX11_element lv_L_30_11 (by decide) (sx_16 hX.1) (by omega) (c_X11_element hW hX (by omega)) rfl rfl (Nat.le_of_ble_eq_true rfl) (fun v t I L Rf hq => ?_)
  obtain ⟨rfl, hX, hk⟩ := hq
  obtain ⟨hM, hw⟩ := law_mid hM hw hk
  refine law_l (a_element J K _ _) (fun x hx => ?_)
  refine pv_in (fun hO => ?_)
  refine pv_aload_2 (pc := 409) dL_law_409 ?_
  refine pv_aload_0 (pc := 410) dL_law_410 ?_
  refine pv_iload_3 (pc := 411) dL_law_411 ?_
  refine pv_iconst (pc := 412) (v := 1) dL_law_412 (by decide) ?_
  refine pv_iadd (pc := 413) dL_law_413 ?_
  refine pl_ia (pc := 414) (k := 1) dL_law_414 hO hn hN (by decide) (by decide) ?_
  refine pv_aload_0 (pc := 415) dL_law_415 ?_
  refine pv_iload_3 (pc := 416) dL_law_416 ?_
  refine pv_iconst (pc := 417) (v := 2) dL_law_417 (by decide) ?_
  refine pv_iadd (pc := 418) dL_law_418 ?_
  refine pl_ia (pc := 419) (k := 2) dL_law_419 hO hn hN (by decide) (by decide) ?_
  refine pv_callVq (pc := 420) dL_law_420 mgX12_element lv_L_34_12 (by decide) (sx_61 hX.1) (by omega) (c_X12_element hX.1 hX.2.1 hW hM (by omega)) rfl rfl (Nat.le_of_ble_eq_true rfl) (fun v t I L Rf hq => ?_)
  obtain ⟨rfl, rfl, rfl, hM, hkX⟩ := hq
  refine law_m hx ?_
  refine pv_lcmp_eq (pc := 423) (tgt := 2221) dL_law_423 dL_law_424 (by decide) (fun h423 => ?_) (fun h423 => absurd h423 (fun q => q rfl))
  exact next _ _ _ _ _ _ (law_fin (wf_element hW _ _) hX hM hw hkX)

set_option maxRecDepth 100000 in
set_option maxHeartbeats 4000000 in
theorem lc_show {G : pv_G} {d mc ms bc bs n : Nat} {J : pv_I} {K : pv_L} {t : pv_T} {I : pv_I} {L : pv_L} {Rf : pv_R} (hF : fk_ok G) (hd : 200 ≤ d) (hn : n + 9 ≤ G.2.2.2.1) (hN : G.2.2.2.1 ≤ 4608) (hO : pv_X G t I) (h : LW J K t I L Rf) (next : ∀ J K t I L Rf, LW J K t I L Rf → pv_V G mL_law d mc ms q_L bc bs 2221 [.ref 0, .ref 16, .ref 61, .int (Int32.ofNat n)] [] t I L Rf) : pv_V G mL_law d mc ms q_L (bc + 0) (bs + 0) 429 [.ref 0, .ref 16, .ref 61, .int (Int32.ofNat n)] [] t I L Rf := by
  obtain ⟨hW, hX, hM, hw⟩ := h
  refine pv_aload_1 (pc := 429) dL_law_429 ?_
  refine pv_aload_0 (pc := 430) dL_law_430 ?_
  refine pv_iload_3 (pc := 431) dL_law_431 ?_
  refine pv_iconst (pc := 432) (v := 1) dL_law_432 (by decide) ?_
  refine pv_iadd (pc := 433) dL_law_433 ?_
  refine pl_ia (pc := 434) (k := 1) dL_law_434 hO hn hN (by decide) (by decide) ?_
  refine pv_aload_0 (pc := 435) dL_law_435 ?_
  refine pv_iload_3 (pc := 436) dL_law_436 ?_
  refine pv_iconst (pc := 437) (v := 2) dL_law_437 (by decide) ?_
  refine pv_iadd (pc := 438) dL_law_438 ?_
  refine pl_ia (pc := 439) (k := 2) dL_law_439 hO hn hN (by decide) (by decide) ?_
  refine pv_callVq (pc := 440) dL_law_440 mgX11_show lv_L_35_11 (by decide) (sx_16 hX.1) (by omega) (c_X11_show hW hX (by omega)) rfl rfl (Nat.le_of_ble_eq_true rfl) (fun v t I L Rf hq => ?_)
  obtain ⟨rfl, hX, hk⟩ := hq
  obtain ⟨hM, hw⟩ := law_mid hM hw hk
  refine law_i (a_show J K _ _) (fun x hx => ?_)
  refine pv_in (fun hO => ?_)
  refine pv_aload_2 (pc := 443) dL_law_443 ?_
  refine pv_aload_0 (pc := 444) dL_law_444 ?_
  refine pv_iload_3 (pc := 445) dL_law_445 ?_
  refine pv_iconst (pc := 446) (v := 1) dL_law_446 (by decide) ?_
  refine pv_iadd (pc := 447) dL_law_447 ?_
  refine pl_ia (pc := 448) (k := 1) dL_law_448 hO hn hN (by decide) (by decide) ?_
  refine pv_aload_0 (pc := 449) dL_law_449 ?_
  refine pv_iload_3 (pc := 450) dL_law_450 ?_
  refine pv_iconst (pc := 451) (v := 2) dL_law_451 (by decide) ?_
  refine pv_iadd (pc := 452) dL_law_452 ?_
  refine pl_ia (pc := 453) (k := 2) dL_law_453 hO hn hN (by decide) (by decide) ?_
  refine pv_callVq (pc := 454) dL_law_454 mgX12_show lv_L_39_12 (by decide) (sx_61 hX.1) (by omega) (c_X12_show hX.1 hX.2.1 hW hM (by omega)) rfl rfl (Nat.le_of_ble_eq_true rfl) (fun v t I L Rf hq => ?_)
  obtain ⟨rfl, rfl, rfl, hM, hkX⟩ := hq
  refine law_m hx ?_
  refine pv_icmp_eq (pc := 457) (tgt := 2221) dL_law_457 (by decide) (fun h457 => ?_) (fun h457 => absurd h457 (fun q => q rfl))
  exact next _ _ _ _ _ _ (law_fin (wf_show hW _ _) hX hM hw hkX)

set_option maxRecDepth 100000 in
set_option maxHeartbeats 4000000 in
theorem lc_holds {G : pv_G} {d mc ms bc bs n : Nat} {J : pv_I} {K : pv_L} {t : pv_T} {I : pv_I} {L : pv_L} {Rf : pv_R} (hF : fk_ok G) (hd : 200 ≤ d) (hn : n + 9 ≤ G.2.2.2.1) (hN : G.2.2.2.1 ≤ 4608) (hO : pv_X G t I) (h : LW J K t I L Rf) (next : ∀ J K t I L Rf, LW J K t I L Rf → pv_V G mL_law d mc ms q_L bc bs 2221 [.ref 0, .ref 16, .ref 61, .int (Int32.ofNat n)] [] t I L Rf) : pv_V G mL_law d mc ms q_L (bc + 0) (bs + 0) 462 [.ref 0, .ref 16, .ref 61, .int (Int32.ofNat n)] [] t I L Rf := by
  obtain ⟨hW, hX, hM, hw⟩ := h
  refine pv_aload_1 (pc := 462) dL_law_462 ?_
  refine pv_aload_0 (pc := 463) dL_law_463 ?_
  refine pv_iload_3 (pc := 464) dL_law_464 ?_
  refine pv_iconst (pc := 465) (v := 1) dL_law_465 (by decide) ?_
  refine pv_iadd (pc := 466) dL_law_466 ?_
  refine pl_ia (pc := 467) (k := 1) dL_law_467 hO hn hN (by decide) (by decide) ?_
  refine pv_callVq (pc := 468) dL_law_468 mgX11_holds lv_L_40_11 (by decide) (sx_16 hX.1) (by omega) (c_X11_holds hW hX (by omega)) rfl rfl (Nat.le_of_ble_eq_true rfl) (fun v t I L Rf hq => ?_)
  obtain ⟨rfl, hX, hk⟩ := hq
  obtain ⟨hM, hw⟩ := law_mid hM hw hk
  refine law_i (a_holds J K _) (fun x hx => ?_)
  refine pv_in (fun hO => ?_)
  refine pv_aload_2 (pc := 471) dL_law_471 ?_
  refine pv_aload_0 (pc := 472) dL_law_472 ?_
  refine pv_iload_3 (pc := 473) dL_law_473 ?_
  refine pv_iconst (pc := 474) (v := 1) dL_law_474 (by decide) ?_
  refine pv_iadd (pc := 475) dL_law_475 ?_
  refine pl_ia (pc := 476) (k := 1) dL_law_476 hO hn hN (by decide) (by decide) ?_
  refine pv_callVq (pc := 477) dL_law_477 mgX12_holds lv_L_44_12 (by decide) (sx_61 hX.1) (by omega) (c_X12_holds hX.1 hX.2.1 hW hM (by omega)) rfl rfl (Nat.le_of_ble_eq_true rfl) (fun v t I L Rf hq => ?_)
  obtain ⟨rfl, rfl, rfl, hM, hkX⟩ := hq
  refine law_m hx ?_
  refine pv_icmp_eq (pc := 480) (tgt := 2221) dL_law_480 (by decide) (fun h480 => ?_) (fun h480 => absurd h480 (fun q => q rfl))
  exact next _ _ _ _ _ _ (law_fin (wf_holds hW _) hX hM hw hkX)

set_option maxRecDepth 100000 in
set_option maxHeartbeats 4000000 in
theorem lc_says {G : pv_G} {d mc ms bc bs n : Nat} {J : pv_I} {K : pv_L} {t : pv_T} {I : pv_I} {L : pv_L} {Rf : pv_R} (hF : fk_ok G) (hd : 200 ≤ d) (hn : n + 9 ≤ G.2.2.2.1) (hN : G.2.2.2.1 ≤ 4608) (hO : pv_X G t I) (h : LW J K t I L Rf) (next : ∀ J K t I L Rf, LW J K t I L Rf → pv_V G mL_law d mc ms q_L bc bs 2221 [.ref 0, .ref 16, .ref 61, .int (Int32.ofNat n)] [] t I L Rf) : pv_V G mL_law d mc ms q_L (bc + 0) (bs + 0) 485 [.ref 0, .ref 16, .ref 61, .int (Int32.ofNat n)] [] t I L Rf := by
  obtain ⟨hW, hX, hM, hw⟩ := h
  refine pv_aload_1 (pc := 485) dL_law_485 ?_
  refine pv_aload_0 (pc := 486) dL_law_486 ?_
  refine pv_iload_3 (pc := 487) dL_law_487 ?_
  refine pv_iconst (pc := 488) (v := 1) dL_law_488 (by decide) ?_
  refine pv_iadd (pc := 489) dL_law_489 ?_
  refine pl_ia (pc := 490) (k := 1) dL_law_490 hO hn hN (by decide) (by decide) ?_
  refine pv_aload_0 (pc := 491) dL_law_491 ?_
  refine pv_iload_3 (pc := 492) dL_law_492 ?_
  refine pv_iconst (pc := 493) (v := 2) dL_law_493 (by decide) ?_
  refine pv_iadd (pc := 494) dL_law_494 ?_
  refine pl_ia (pc := 495) (k := 2) dL_law_495 hO hn hN (by decide) (by decide) ?_
  refine pv_callVq (pc := 496) dL_law_496 mgX11_says lv_L_45_11 (by decide) (sx_16 hX.1) (by omega) (c_X11_says hW hX (by omega)) rfl rfl (Nat.le_of_ble_eq_true rfl) (fun v t I L Rf hq => ?_)
  obtain ⟨rfl, hX, hk⟩ := hq
  obtain ⟨hM, hw⟩ := law_mid hM hw hk
  refine law_i (a_says J K _ _) (fun x hx => ?_)
  refine pv_in (fun hO => ?_)
  refine pv_aload_2 (pc := 499) dL_law_499 ?_
  refine pv_aload_0 (pc := 500) dL_law_500 ?_
  refine pv_iload_3 (pc := 501) dL_law_501 ?_
  refine pv_iconst (pc := 502) (v := 1) dL_law_502 (by decide) ?_
  refine pv_iadd (pc := 503) dL_law_503 ?_
  refine pl_ia (pc := 504) (k := 1) dL_law_504 hO hn hN (by decide) (by decide) ?_
  refine pv_aload_0 (pc := 505) dL_law_505 ?_
  refine pv_iload_3 (pc := 506) dL_law_506 ?_
  refine pv_iconst (pc := 507) (v := 2) dL_law_507 (by decide) ?_
  refine pv_iadd (pc := 508) dL_law_508 ?_
  refine pl_ia (pc := 509) (k := 2) dL_law_509 hO hn hN (by decide) (by decide) ?_
  refine pv_callVq (pc := 510) dL_law_510 mgX12_says lv_L_48_12 (by decide) (sx_61 hX.1) (by omega) (c_X12_says hX.1 hX.2.1 hW hM (by omega)) rfl rfl (Nat.le_of_ble_eq_true rfl) (fun v t I L Rf hq => ?_)
  obtain ⟨rfl, rfl, rfl, hM, hkX⟩ := hq
  refine law_m hx ?_
  refine pv_icmp_eq (pc := 513) (tgt := 2221) dL_law_513 (by decide) (fun h513 => ?_) (fun h513 => absurd h513 (fun q => q rfl))
  exact next _ _ _ _ _ _ (law_fin (wf_says hW _ _) hX hM hw hkX)

set_option maxRecDepth 100000 in
set_option maxHeartbeats 4000000 in
theorem lc_figure {G : pv_G} {d mc ms bc bs n : Nat} {J : pv_I} {K : pv_L} {t : pv_T} {I : pv_I} {L : pv_L} {Rf : pv_R} (hF : fk_ok G) (hd : 200 ≤ d) (hn : n + 9 ≤ G.2.2.2.1) (hN : G.2.2.2.1 ≤ 4608) (hO : pv_X G t I) (h : LW J K t I L Rf) (next : ∀ J K t I L Rf, LW J K t I L Rf → pv_V G mL_law d mc ms q_L bc bs 2221 [.ref 0, .ref 16, .ref 61, .int (Int32.ofNat n)] [] t I L Rf) : pv_V G mL_law d mc ms q_L (bc + 1) (bs + 5) 518 [.ref 0, .ref 16, .ref 61, .int (Int32.ofNat n)] [] t I L Rf := by
  obtain ⟨hW, hX, hM, hw⟩ := h
  refine pv_aload_1 (pc := 518) dL_law_518 ?_
  refine pv_aload_0 (pc := 519) dL_law_519 ?_
  refine pv_iload_3 (pc := 520) dL_law_520 ?_
  refine pv_iconst (pc := 521) (v := 1) dL_law_521 (by decide) ?_
  refine pv_iadd (pc := 522) dL_law_522 ?_
  refine pl_ia (pc := 523) (k := 1) dL_law_523 hO hn hN (by decide) (by decide) ?_
  refine pv_aload_0 (pc := 524) dL_law_524 ?_
  refine pv_iload_3 (pc := 525) dL_law_525 ?_
  refine pv_iconst (pc := 526) (v := 2) dL_law_526 (by decide) ?_
  refine pv_iadd (pc := 527) dL_law_527 ?_
  refine pl_ia (pc := 528) (k := 2) dL_law_528 hO hn hN (by decide) (by decide) ?_
  refine pv_aload_0 (pc := 529) dL_law_529 ?_
  refine pv_iload_3 (pc := 530) dL_law_530 ?_
  refine pv_iconst (pc := 531) (v := 3) dL_law_531 (by decide) ?_
  refine pv_iadd (pc := 532) dL_law_532 ?_
  refine pl_ia (pc := 533) (k := 3) dL_law_533 hO hn hN (by decide) (by decide) ?_
  refine pv_callV (bc := bc) (bs := bs) (mc1 := 1) (ms1 := 5) (d1 := d - 1) (pc := 534) dL_law_534 mgX11_figure lv_L_49_11 (by decide) (sx_16 hX.1) (by omega) (c_X11_figure hW hX (by omega)) rfl rfl (Nat.le_of_ble_eq_true rfl) (fun v t I L Rf hq => ?_)
  obtain ⟨rfl, hX, hk⟩ := hq
  obtain ⟨hM, hw⟩ := law_mid hM hw hk
  refine law_i (a_figure J K _ _ _) (fun x hx => ?_)
  refine pv_in (fun hO => ?_)
  refine pv_aload_2 (pc := 537) dL_law_537 ?_
  refine pv_aload_0 (pc := 538) dL_law_538 ?_
  refine pv_iload_3 (pc := 539) dL_law_539 ?_
  refine pv_iconst (pc := 540) (v := 1) dL_law_540 (by decide) ?_
  refine pv_iadd (pc := 541) dL_law_541 ?_
  refine pl_ia (pc := 542) (k := 1) dL_law_542 hO hn hN (by decide) (by decide) ?_
  refine pv_aload_0 (pc := 543) dL_law_543 ?_
  refine pv_iload_3 (pc := 544) dL_law_544 ?_
  refine pv_iconst (pc := 545) (v := 2) dL_law_545 (by decide) ?_
  refine pv_iadd (pc := 546) dL_law_546 ?_
  refine pl_ia (pc := 547) (k := 2) dL_law_547 hO hn hN (by decide) (by decide) ?_
  refine pv_aload_0 (pc := 548) dL_law_548 ?_
  refine pv_iload_3 (pc := 549) dL_law_549 ?_
  refine pv_iconst (pc := 550) (v := 3) dL_law_550 (by decide) ?_
  refine pv_iadd (pc := 551) dL_law_551 ?_
  refine pl_ia (pc := 552) (k := 3) dL_law_552 hO hn hN (by decide) (by decide) ?_
  refine pv_callVq (pc := 553) dL_law_553 mgX12_figure lv_L_52_12 (by decide) (sx_61 hX.1) (by omega) (c_X12_figure hX.1 hX.2.1 hW hM (by omega)) rfl rfl (Nat.le_of_ble_eq_true rfl) (fun v t I L Rf hq => ?_)
  obtain ⟨rfl, rfl, rfl, hM, hkX⟩ := hq
  refine law_m hx ?_
  refine pv_icmp_eq (pc := 556) (tgt := 2221) dL_law_556 (by decide) (fun h556 => ?_) (fun h556 => absurd h556 (fun q => q rfl))
  exact next _ _ _ _ _ _ (law_fin (wf_figure hW _ _ _) hX hM hw hkX)

set_option maxRecDepth 100000 in
set_option maxHeartbeats 4000000 in
theorem lc_figureOf {G : pv_G} {d mc ms bc bs n : Nat} {J : pv_I} {K : pv_L} {t : pv_T} {I : pv_I} {L : pv_L} {Rf : pv_R} (hF : fk_ok G) (hd : 200 ≤ d) (hn : n + 9 ≤ G.2.2.2.1) (hN : G.2.2.2.1 ≤ 4608) (hO : pv_X G t I) (h : LW J K t I L Rf) (next : ∀ J K t I L Rf, LW J K t I L Rf → pv_V G mL_law d mc ms q_L bc bs 2221 [.ref 0, .ref 16, .ref 61, .int (Int32.ofNat n)] [] t I L Rf) : pv_V G mL_law d mc ms q_L (bc + 0) (bs + 0) 561 [.ref 0, .ref 16, .ref 61, .int (Int32.ofNat n)] [] t I L Rf := by
  obtain ⟨hW, hX, hM, hw⟩ := h
  refine pv_aload_1 (pc := 561) dL_law_561 ?_
  refine pv_aload_0 (pc := 562) dL_law_562 ?_
  refine pv_iload_3 (pc := 563) dL_law_563 ?_
  refine pv_iconst (pc := 564) (v := 1) dL_law_564 (by decide) ?_
  refine pv_iadd (pc := 565) dL_law_565 ?_
  refine pl_ia (pc := 566) (k := 1) dL_law_566 hO hn hN (by decide) (by decide) ?_
  refine pv_aload_0 (pc := 567) dL_law_567 ?_
  refine pv_iload_3 (pc := 568) dL_law_568 ?_
  refine pv_iconst (pc := 569) (v := 2) dL_law_569 (by decide) ?_
  refine pv_iadd (pc := 570) dL_law_570 ?_
  refine pl_ia (pc := 571) (k := 2) dL_law_571 hO hn hN (by decide) (by decide) ?_
  refine pv_callVq (pc := 572) dL_law_572 mgX11_figureOf lv_L_53_11 (by decide) (sx_16 hX.1) (by omega) (c_X11_figureOf hW hX (by omega)) rfl rfl (Nat.le_of_ble_eq_true rfl) (fun v t I L Rf hq => ?_)
  obtain ⟨rfl, hX, hk⟩ := hq
  obtain ⟨hM, hw⟩ := law_mid hM hw hk
  refine law_i (a_figureOf J K _ _) (fun x hx => ?_)
  refine pv_in (fun hO => ?_)
  refine pv_aload_2 (pc := 575) dL_law_575 ?_
  refine pv_aload_0 (pc := 576) dL_law_576 ?_
  refine pv_iload_3 (pc := 577) dL_law_577 ?_
  refine pv_iconst (pc := 578) (v := 1) dL_law_578 (by decide) ?_
  refine pv_iadd (pc := 579) dL_law_579 ?_
  refine pl_ia (pc := 580) (k := 1) dL_law_580 hO hn hN (by decide) (by decide) ?_
  refine pv_aload_0 (pc := 581) dL_law_581 ?_
  refine pv_iload_3 (pc := 582) dL_law_582 ?_
  refine pv_iconst (pc := 583) (v := 2) dL_law_583 (by decide) ?_
  refine pv_iadd (pc := 584) dL_law_584 ?_
  refine pl_ia (pc := 585) (k := 2) dL_law_585 hO hn hN (by decide) (by decide) ?_
  refine pv_callVq (pc := 586) dL_law_586 mgX12_figureOf lv_L_56_12 (by decide) (sx_61 hX.1) (by omega) (c_X12_figureOf hX.1 hX.2.1 hW hM (by omega)) rfl rfl (Nat.le_of_ble_eq_true rfl) (fun v t I L Rf hq => ?_)
  obtain ⟨rfl, rfl, rfl, hM, hkX⟩ := hq
  refine law_m hx ?_
  refine pv_icmp_eq (pc := 589) (tgt := 2221) dL_law_589 (by decide) (fun h589 => ?_) (fun h589 => absurd h589 (fun q => q rfl))
  exact next _ _ _ _ _ _ (law_fin (wf_figureOf hW _ _) hX hM hw hkX)

set_option maxRecDepth 100000 in
set_option maxHeartbeats 4000000 in
theorem lc_start {G : pv_G} {d mc ms bc bs n : Nat} {J : pv_I} {K : pv_L} {t : pv_T} {I : pv_I} {L : pv_L} {Rf : pv_R} (hF : fk_ok G) (hd : 200 ≤ d) (hn : n + 9 ≤ G.2.2.2.1) (hN : G.2.2.2.1 ≤ 4608) (hO : pv_X G t I) (h : LW J K t I L Rf) (next : ∀ J K t I L Rf, LW J K t I L Rf → pv_V G mL_law d mc ms q_L bc bs 2221 [.ref 0, .ref 16, .ref 61, .int (Int32.ofNat n)] [] t I L Rf) : pv_V G mL_law d mc ms q_L (bc + 0) (bs + 0) 594 [.ref 0, .ref 16, .ref 61, .int (Int32.ofNat n)] [] t I L Rf := by
  obtain ⟨hW, hX, hM, hw⟩ := h
  refine pv_aload_1 (pc := 594) dL_law_594 ?_
  refine pv_aload_0 (pc := 595) dL_law_595 ?_
  refine pv_iload_3 (pc := 596) dL_law_596 ?_
  refine pv_iconst (pc := 597) (v := 1) dL_law_597 (by decide) ?_
  refine pv_iadd (pc := 598) dL_law_598 ?_
  refine pl_ia (pc := 599) (k := 1) dL_law_599 hO hn hN (by decide) (by decide) ?_
  refine pv_i2l (pc := 600) dL_law_600 ?_
  refine pv_bipush (pc := 601) (v := 32) dL_law_601 (by decide) ?_
  refine pv_lshl (pc := 603) dL_law_603 rfl ?_
  refine pv_aload_0 (pc := 604) dL_law_604 ?_
  refine pv_iload_3 (pc := 605) dL_law_605 ?_
  refine pv_iconst (pc := 606) (v := 2) dL_law_606 (by decide) ?_
  refine pv_iadd (pc := 607) dL_law_607 ?_
  refine pl_ia (pc := 608) (k := 2) dL_law_608 hO hn hN (by decide) (by decide) ?_
  refine pv_i2l (pc := 609) dL_law_609 ?_
  refine pv_ldc2 (pc := 610) dL_law_610 k_L_18 ?_
  refine pv_land (pc := 613) dL_law_613 ?_
  refine pv_lor (pc := 614) dL_law_614 ?_
  refine pv_aload_0 (pc := 615) dL_law_615 ?_
  refine pv_iload_3 (pc := 616) dL_law_616 ?_
  refine pv_iconst (pc := 617) (v := 3) dL_law_617 (by decide) ?_
  refine pv_iadd (pc := 618) dL_law_618 ?_
  refine pl_ia (pc := 619) (k := 3) dL_law_619 hO hn hN (by decide) (by decide) ?_
  refine pv_i2l (pc := 620) dL_law_620 ?_
  refine pv_bipush (pc := 621) (v := 32) dL_law_621 (by decide) ?_
  refine pv_lshl (pc := 623) dL_law_623 rfl ?_
  refine pv_aload_0 (pc := 624) dL_law_624 ?_
  refine pv_iload_3 (pc := 625) dL_law_625 ?_
  refine pv_iconst (pc := 626) (v := 4) dL_law_626 (by decide) ?_
  refine pv_iadd (pc := 627) dL_law_627 ?_
  refine pl_ia (pc := 628) (k := 4) dL_law_628 hO hn hN (by decide) (by decide) ?_
  refine pv_i2l (pc := 629) dL_law_629 ?_
  refine pv_ldc2 (pc := 630) dL_law_630 k_L_18 ?_
  refine pv_land (pc := 633) dL_law_633 ?_
  refine pv_lor (pc := 634) dL_law_634 ?_
  refine pv_callVq (pc := 635) dL_law_635 mgX11_start lv_L_57_11 (by decide) (sx_16 hX.1) (by omega) (c_X11_start hW hX (by omega)) rfl rfl (Nat.le_of_ble_eq_true rfl) (fun v t I L Rf hq => ?_)
  obtain ⟨rfl, hX, hk⟩ := hq
  obtain ⟨hM, hw⟩ := law_mid hM hw hk
  refine law_i (a_start J K _ _) (fun x hx => ?_)
  refine pv_in (fun hO => ?_)
  refine pv_aload_2 (pc := 638) dL_law_638 ?_
  refine pv_aload_0 (pc := 639) dL_law_639 ?_
  refine pv_iload_3 (pc := 640) dL_law_640 ?_
  refine pv_iconst (pc := 641) (v := 1) dL_law_641 (by decide) ?_
  refine pv_iadd (pc := 642) dL_law_642 ?_
  refine pl_ia (pc := 643) (k := 1) dL_law_643 hO hn hN (by decide) (by decide) ?_
  refine pv_i2l (pc := 644) dL_law_644 ?_
  refine pv_bipush (pc := 645) (v := 32) dL_law_645 (by decide) ?_
  refine pv_lshl (pc := 647) dL_law_647 rfl ?_
  refine pv_aload_0 (pc := 648) dL_law_648 ?_
  refine pv_iload_3 (pc := 649) dL_law_649 ?_
  refine pv_iconst (pc := 650) (v := 2) dL_law_650 (by decide) ?_
  refine pv_iadd (pc := 651) dL_law_651 ?_
  refine pl_ia (pc := 652) (k := 2) dL_law_652 hO hn hN (by decide) (by decide) ?_
  refine pv_i2l (pc := 653) dL_law_653 ?_
  refine pv_ldc2 (pc := 654) dL_law_654 k_L_18 ?_
  refine pv_land (pc := 657) dL_law_657 ?_
  refine pv_lor (pc := 658) dL_law_658 ?_
  refine pv_aload_0 (pc := 659) dL_law_659 ?_
  refine pv_iload_3 (pc := 660) dL_law_660 ?_
  refine pv_iconst (pc := 661) (v := 3) dL_law_661 (by decide) ?_
  refine pv_iadd (pc := 662) dL_law_662 ?_
  refine pl_ia (pc := 663) (k := 3) dL_law_663 hO hn hN (by decide) (by decide) ?_
  refine pv_i2l (pc := 664) dL_law_664 ?_
  refine pv_bipush (pc := 665) (v := 32) dL_law_665 (by decide) ?_
  refine pv_lshl (pc := 667) dL_law_667 rfl ?_
  refine pv_aload_0 (pc := 668) dL_law_668 ?_
  refine pv_iload_3 (pc := 669) dL_law_669 ?_
  refine pv_iconst (pc := 670) (v := 4) dL_law_670 (by decide) ?_
  refine pv_iadd (pc := 671) dL_law_671 ?_
  refine pl_ia (pc := 672) (k := 4) dL_law_672 hO hn hN (by decide) (by decide) ?_
  refine pv_i2l (pc := 673) dL_law_673 ?_
  refine pv_ldc2 (pc := 674) dL_law_674 k_L_18 ?_
  refine pv_land (pc := 677) dL_law_677 ?_
  refine pv_lor (pc := 678) dL_law_678 ?_
  refine pv_callVq (pc := 679) dL_law_679 mgX12_start lv_L_61_12 (by decide) (sx_61 hX.1) (by omega) (c_X12_start hX.1 hX.2.1 hW hM (by omega)) rfl rfl (Nat.le_of_ble_eq_true rfl) (fun v t I L Rf hq => ?_)
  obtain ⟨rfl, rfl, rfl, hM, hkX⟩ := hq
  refine law_m hx ?_
  refine pv_icmp_eq (pc := 682) (tgt := 2221) dL_law_682 (by decide) (fun h682 => ?_) (fun h682 => absurd h682 (fun q => q rfl))
  exact next _ _ _ _ _ _ (law_fin (wf_start hW _ _) hX hM hw hkX)

set_option maxRecDepth 100000 in
set_option maxHeartbeats 4000000 in
theorem lc_barn {G : pv_G} {d mc ms bc bs n : Nat} {J : pv_I} {K : pv_L} {t : pv_T} {I : pv_I} {L : pv_L} {Rf : pv_R} (hF : fk_ok G) (hd : 200 ≤ d) (hn : n + 9 ≤ G.2.2.2.1) (hN : G.2.2.2.1 ≤ 4608) (hO : pv_X G t I) (h : LW J K t I L Rf) (next : ∀ J K t I L Rf, LW J K t I L Rf → pv_V G mL_law d mc ms q_L bc bs 2221 [.ref 0, .ref 16, .ref 61, .int (Int32.ofNat n)] [] t I L Rf) : pv_V G mL_law d mc ms q_L (bc + 8) (bs + 40) 687 [.ref 0, .ref 16, .ref 61, .int (Int32.ofNat n)] [] t I L Rf := by
  obtain ⟨hW, hX, hM, hw⟩ := h
  refine pv_aload_1 (pc := 687) dL_law_687 ?_
  refine pv_aload_0 (pc := 688) dL_law_688 ?_
  refine pv_iload_3 (pc := 689) dL_law_689 ?_
  refine pv_iconst (pc := 690) (v := 1) dL_law_690 (by decide) ?_
  refine pv_iadd (pc := 691) dL_law_691 ?_
  refine pl_ia (pc := 692) (k := 1) dL_law_692 hO hn hN (by decide) (by decide) ?_
  refine pv_callV (bc := bc) (bs := bs) (mc1 := 8) (ms1 := 40) (d1 := d - 1) (pc := 693) dL_law_693 mgX11_barn lv_L_62_11 (by decide) (sx_16 hX.1) (by omega) (c_X11_barn hW hX hF (by omega)) rfl rfl (Nat.le_of_ble_eq_true rfl) (fun v t I L Rf hq => ?_)
  obtain ⟨rfl, hX, hk⟩ := hq
  obtain ⟨hM, hw⟩ := law_mid hM hw hk
  refine law_i (a_barn J K _) (fun x hx => ?_)
  refine pv_in (fun hO => ?_)
  refine pv_aload_2 (pc := 696) dL_law_696 ?_
  refine pv_aload_0 (pc := 697) dL_law_697 ?_
  refine pv_iload_3 (pc := 698) dL_law_698 ?_
  refine pv_iconst (pc := 699) (v := 1) dL_law_699 (by decide) ?_
  refine pv_iadd (pc := 700) dL_law_700 ?_
  refine pl_ia (pc := 701) (k := 1) dL_law_701 hO hn hN (by decide) (by decide) ?_
  refine pv_callVq (pc := 702) dL_law_702 mgX12_barn lv_L_65_12 (by decide) (sx_61 hX.1) (by omega) (c_X12_barn hX.1 hX.2.1 hW hM hw (by omega)) rfl rfl (Nat.le_of_ble_eq_true rfl) (fun v t I L Rf hq => ?_)
  obtain ⟨rfl, rfl, rfl, hM, hkX⟩ := hq
  refine law_m hx ?_
  refine pv_icmp_eq (pc := 705) (tgt := 2221) dL_law_705 (by decide) (fun h705 => ?_) (fun h705 => absurd h705 (fun q => q rfl))
  exact next _ _ _ _ _ _ (law_fin (wf_barn hW _) hX hM hw hkX)

set_option maxRecDepth 100000 in
set_option maxHeartbeats 4000000 in
theorem lc_fault {G : pv_G} {d mc ms bc bs n : Nat} {J : pv_I} {K : pv_L} {t : pv_T} {I : pv_I} {L : pv_L} {Rf : pv_R} (hF : fk_ok G) (hd : 200 ≤ d) (hn : n + 9 ≤ G.2.2.2.1) (hN : G.2.2.2.1 ≤ 4608) (hO : pv_X G t I) (h : LW J K t I L Rf) (next : ∀ J K t I L Rf, LW J K t I L Rf → pv_V G mL_law d mc ms q_L bc bs 2221 [.ref 0, .ref 16, .ref 61, .int (Int32.ofNat n)] [] t I L Rf) : pv_V G mL_law d mc ms q_L (bc + 0) (bs + 0) 710 [.ref 0, .ref 16, .ref 61, .int (Int32.ofNat n)] [] t I L Rf := by
  obtain ⟨hW, hX, hM, hw⟩ := h
  refine pv_aload_1 (pc := 710) dL_law_710 ?_
  refine pv_callVq (pc := 711) dL_law_711 mgX11_fault lv_L_66_11 (by decide) (sx_16 hX.1) (by omega) (c_X11_fault hW hX (by omega)) rfl rfl (Nat.le_of_ble_eq_true rfl) (fun v t I L Rf hq => ?_)
  obtain ⟨rfl, hX, hk⟩ := hq
  obtain ⟨hM, hw⟩ := law_mid hM hw hk
  refine law_i (a_fault J K) (fun x hx => ?_)
  refine pv_in (fun hO => ?_)
  refine pv_aload_2 (pc := 714) dL_law_714 ?_
  refine pv_callVq (pc := 715) dL_law_715 mgX12_fault lv_L_70_12 (by decide) (sx_61 hX.1) (by omega) (c_X12_fault hX.1 hX.2.1 hW hM (by omega)) rfl rfl (Nat.le_of_ble_eq_true rfl) (fun v t I L Rf hq => ?_)
  obtain ⟨rfl, rfl, rfl, hM, hkX⟩ := hq
  refine law_m hx ?_
  refine pv_icmp_eq (pc := 718) (tgt := 2221) dL_law_718 (by decide) (fun h718 => ?_) (fun h718 => absurd h718 (fun q => q rfl))
  exact next _ _ _ _ _ _ (law_fin (wf_fault hW ) hX hM hw hkX)

set_option maxRecDepth 100000 in
set_option maxHeartbeats 4000000 in
theorem lc_now {G : pv_G} {d mc ms bc bs n : Nat} {J : pv_I} {K : pv_L} {t : pv_T} {I : pv_I} {L : pv_L} {Rf : pv_R} (hF : fk_ok G) (hd : 200 ≤ d) (hn : n + 9 ≤ G.2.2.2.1) (hN : G.2.2.2.1 ≤ 4608) (hO : pv_X G t I) (h : LW J K t I L Rf) (next : ∀ J K t I L Rf, LW J K t I L Rf → pv_V G mL_law d mc ms q_L bc bs 2221 [.ref 0, .ref 16, .ref 61, .int (Int32.ofNat n)] [] t I L Rf) : pv_V G mL_law d mc ms q_L (bc + 0) (bs + 0) 723 [.ref 0, .ref 16, .ref 61, .int (Int32.ofNat n)] [] t I L Rf := by
  obtain ⟨hW, hX, hM, hw⟩ := h
  refine pv_aload_1 (pc := 723) dL_law_723 ?_
  refine pv_aload_0 (pc := 724) dL_law_724 ?_
  refine pv_iload_3 (pc := 725) dL_law_725 ?_
  refine pv_iconst (pc := 726) (v := 1) dL_law_726 (by decide) ?_
  refine pv_iadd (pc := 727) dL_law_727 ?_
  refine pl_ia (pc := 728) (k := 1) dL_law_728 hO hn hN (by decide) (by decide) ?_
  refine pv_callVq (pc := 729) dL_law_729 mgX11_now lv_L_71_11 (by decide) (sx_16 hX.1) (by omega) (c_X11_now hW hX (by omega)) rfl rfl (Nat.le_of_ble_eq_true rfl) (fun v t I L Rf hq => ?_)
  obtain ⟨rfl, hX, hk⟩ := hq
  obtain ⟨hM, hw⟩ := law_mid hM hw hk
  refine law_l (a_now J K _) (fun x hx => ?_)
  refine pv_in (fun hO => ?_)
  refine pv_aload_2 (pc := 732) dL_law_732 ?_
  refine pv_aload_0 (pc := 733) dL_law_733 ?_
  refine pv_iload_3 (pc := 734) dL_law_734 ?_
  refine pv_iconst (pc := 735) (v := 1) dL_law_735 (by decide) ?_
  refine pv_iadd (pc := 736) dL_law_736 ?_
  refine pl_ia (pc := 737) (k := 1) dL_law_737 hO hn hN (by decide) (by decide) ?_
  refine pv_callVq (pc := 738) dL_law_738 mgX12_now lv_L_75_12 (by decide) (sx_61 hX.1) (by omega) (c_X12_now hX.1 hX.2.1 hW hM (by omega)) rfl rfl (Nat.le_of_ble_eq_true rfl) (fun v t I L Rf hq => ?_)
  obtain ⟨rfl, rfl, rfl, hM, hkX⟩ := hq
  refine law_m hx ?_
  refine pv_lcmp_eq (pc := 741) (tgt := 2221) dL_law_741 dL_law_742 (by decide) (fun h741 => ?_) (fun h741 => absurd h741 (fun q => q rfl))
  exact next _ _ _ _ _ _ (law_fin (wf_now hW _) hX hM hw hkX)

set_option maxRecDepth 100000 in
set_option maxHeartbeats 4000000 in
theorem lc_stand {G : pv_G} {d mc ms bc bs n : Nat} {J : pv_I} {K : pv_L} {t : pv_T} {I : pv_I} {L : pv_L} {Rf : pv_R} (hF : fk_ok G) (hd : 200 ≤ d) (hn : n + 9 ≤ G.2.2.2.1) (hN : G.2.2.2.1 ≤ 4608) (hO : pv_X G t I) (h : LW J K t I L Rf) (next : ∀ J K t I L Rf, LW J K t I L Rf → pv_V G mL_law d mc ms q_L bc bs 2221 [.ref 0, .ref 16, .ref 61, .int (Int32.ofNat n)] [] t I L Rf) : pv_V G mL_law d mc ms q_L (bc + 0) (bs + 0) 747 [.ref 0, .ref 16, .ref 61, .int (Int32.ofNat n)] [] t I L Rf := by
  obtain ⟨hW, hX, hM, hw⟩ := h
  refine pv_aload_1 (pc := 747) dL_law_747 ?_
  refine pv_aload_0 (pc := 748) dL_law_748 ?_
  refine pv_iload_3 (pc := 749) dL_law_749 ?_
  refine pv_iconst (pc := 750) (v := 1) dL_law_750 (by decide) ?_
  refine pv_iadd (pc := 751) dL_law_751 ?_
  refine pl_ia (pc := 752) (k := 1) dL_law_752 hO hn hN (by decide) (by decide) ?_
  refine pv_callVq (pc := 753) dL_law_753 mgX11_stand lv_L_76_11 (by decide) (sx_16 hX.1) (by omega) (c_X11_stand hW hX (by omega)) rfl rfl (Nat.le_of_ble_eq_true rfl) (fun v t I L Rf hq => ?_)
  obtain ⟨rfl, hX, hk⟩ := hq
  obtain ⟨hM, hw⟩ := law_mid hM hw hk
  refine law_i (a_stand J K _) (fun x hx => ?_)
  refine pv_in (fun hO => ?_)
  refine pv_aload_2 (pc := 756) dL_law_756 ?_
  refine pv_aload_0 (pc := 757) dL_law_757 ?_
  refine pv_iload_3 (pc := 758) dL_law_758 ?_
  refine pv_iconst (pc := 759) (v := 1) dL_law_759 (by decide) ?_
  refine pv_iadd (pc := 760) dL_law_760 ?_
  refine pl_ia (pc := 761) (k := 1) dL_law_761 hO hn hN (by decide) (by decide) ?_
  refine pv_callVq (pc := 762) dL_law_762 mgX12_stand lv_L_79_12 (by decide) (sx_61 hX.1) (by omega) (c_X12_stand hX.1 hX.2.1 hW hM (by omega)) rfl rfl (Nat.le_of_ble_eq_true rfl) (fun v t I L Rf hq => ?_)
  obtain ⟨rfl, rfl, rfl, hM, hkX⟩ := hq
  refine law_m hx ?_
  refine pv_icmp_eq (pc := 765) (tgt := 2221) dL_law_765 (by decide) (fun h765 => ?_) (fun h765 => absurd h765 (fun q => q rfl))
  exact next _ _ _ _ _ _ (law_fin (wf_stand hW _) hX hM hw hkX)

set_option maxRecDepth 100000 in
set_option maxHeartbeats 4000000 in
theorem lc_call {G : pv_G} {d mc ms bc bs n : Nat} {J : pv_I} {K : pv_L} {t : pv_T} {I : pv_I} {L : pv_L} {Rf : pv_R} (hF : fk_ok G) (hd : 200 ≤ d) (hn : n + 9 ≤ G.2.2.2.1) (hN : G.2.2.2.1 ≤ 4608) (hO : pv_X G t I) (h : LW J K t I L Rf) (next : ∀ J K t I L Rf, LW J K t I L Rf → pv_V G mL_law d mc ms q_L bc bs 2221 [.ref 0, .ref 16, .ref 61, .int (Int32.ofNat n)] [] t I L Rf) : pv_V G mL_law d mc ms q_L (bc + 0) (bs + 0) 770 [.ref 0, .ref 16, .ref 61, .int (Int32.ofNat n)] [] t I L Rf := by
  obtain ⟨hW, hX, hM, hw⟩ := h
  refine pv_aload_1 (pc := 770) dL_law_770 ?_
  refine pv_aload_0 (pc := 771) dL_law_771 ?_
  refine pv_iload_3 (pc := 772) dL_law_772 ?_
  refine pv_iconst (pc := 773) (v := 1) dL_law_773 (by decide) ?_
  refine pv_iadd (pc := 774) dL_law_774 ?_
  refine pl_ia (pc := 775) (k := 1) dL_law_775 hO hn hN (by decide) (by decide) ?_
  refine pv_callVq (pc := 776) dL_law_776 mgX11_call lv_L_80_11 (by decide) (sx_16 hX.1) (by omega) (c_X11_call hW hX (by omega)) rfl rfl (Nat.le_of_ble_eq_true rfl) (fun v t I L Rf hq => ?_)
  obtain ⟨rfl, hX, hk⟩ := hq
  obtain ⟨hM, hw⟩ := law_mid hM hw hk
  refine law_i (a_call J K _) (fun x hx => ?_)
  refine pv_in (fun hO => ?_)
  refine pv_aload_2 (pc := 779) dL_law_779 ?_
  refine pv_aload_0 (pc := 780) dL_law_780 ?_
  refine pv_iload_3 (pc := 781) dL_law_781 ?_
  refine pv_iconst (pc := 782) (v := 1) dL_law_782 (by decide) ?_
  refine pv_iadd (pc := 783) dL_law_783 ?_
  refine pl_ia (pc := 784) (k := 1) dL_law_784 hO hn hN (by decide) (by decide) ?_
  refine pv_callVq (pc := 785) dL_law_785 mgX12_call lv_L_83_12 (by decide) (sx_61 hX.1) (by omega) (c_X12_call hX.1 hX.2.1 hW hM (by omega)) rfl rfl (Nat.le_of_ble_eq_true rfl) (fun v t I L Rf hq => ?_)
  obtain ⟨rfl, rfl, rfl, hM, hkX⟩ := hq
  refine law_m hx ?_
  refine pv_icmp_eq (pc := 788) (tgt := 2221) dL_law_788 (by decide) (fun h788 => ?_) (fun h788 => absurd h788 (fun q => q rfl))
  exact next _ _ _ _ _ _ (law_fin (wf_call hW _) hX hM hw hkX)

set_option maxRecDepth 100000 in
set_option maxHeartbeats 4000000 in
theorem lc_judge {G : pv_G} {d mc ms bc bs n : Nat} {J : pv_I} {K : pv_L} {t : pv_T} {I : pv_I} {L : pv_L} {Rf : pv_R} (hF : fk_ok G) (hd : 200 ≤ d) (hn : n + 9 ≤ G.2.2.2.1) (hN : G.2.2.2.1 ≤ 4608) (hO : pv_X G t I) (h : LW J K t I L Rf) (next : ∀ J K t I L Rf, LW J K t I L Rf → pv_V G mL_law d mc ms q_L bc bs 2221 [.ref 0, .ref 16, .ref 61, .int (Int32.ofNat n)] [] t I L Rf) : pv_V G mL_law d mc ms q_L (bc + 0) (bs + 0) 793 [.ref 0, .ref 16, .ref 61, .int (Int32.ofNat n)] [] t I L Rf := by
  obtain ⟨hW, hX, hM, hw⟩ := h
  refine pv_aload_1 (pc := 793) dL_law_793 ?_
  refine pv_aload_0 (pc := 794) dL_law_794 ?_
  refine pv_iload_3 (pc := 795) dL_law_795 ?_
  refine pv_iconst (pc := 796) (v := 1) dL_law_796 (by decide) ?_
  refine pv_iadd (pc := 797) dL_law_797 ?_
  refine pl_ia (pc := 798) (k := 1) dL_law_798 hO hn hN (by decide) (by decide) ?_
  refine pv_aload_0 (pc := 799) dL_law_799 ?_
  refine pv_iload_3 (pc := 800) dL_law_800 ?_
  refine pv_iconst (pc := 801) (v := 2) dL_law_801 (by decide) ?_
  refine pv_iadd (pc := 802) dL_law_802 ?_
  refine pl_ia (pc := 803) (k := 2) dL_law_803 hO hn hN (by decide) (by decide) ?_
  refine pv_callVq (pc := 804) dL_law_804 mgX11_judge lv_L_84_11 (by decide) (sx_16 hX.1) (by omega) (c_X11_judge hW hX (by omega)) rfl rfl (Nat.le_of_ble_eq_true rfl) (fun v t I L Rf hq => ?_)
  obtain ⟨rfl, hX, hk⟩ := hq
  obtain ⟨hM, hw⟩ := law_mid hM hw hk
  refine law_i (a_judge J K _ _) (fun x hx => ?_)
  refine pv_in (fun hO => ?_)
  refine pv_aload_2 (pc := 807) dL_law_807 ?_
  refine pv_aload_0 (pc := 808) dL_law_808 ?_
  refine pv_iload_3 (pc := 809) dL_law_809 ?_
  refine pv_iconst (pc := 810) (v := 1) dL_law_810 (by decide) ?_
  refine pv_iadd (pc := 811) dL_law_811 ?_
  refine pl_ia (pc := 812) (k := 1) dL_law_812 hO hn hN (by decide) (by decide) ?_
  refine pv_aload_0 (pc := 813) dL_law_813 ?_
  refine pv_iload_3 (pc := 814) dL_law_814 ?_
  refine pv_iconst (pc := 815) (v := 2) dL_law_815 (by decide) ?_
  refine pv_iadd (pc := 816) dL_law_816 ?_
  refine pl_ia (pc := 817) (k := 2) dL_law_817 hO hn hN (by decide) (by decide) ?_
  refine pv_callVq (pc := 818) dL_law_818 mgX12_judge lv_L_87_12 (by decide) (sx_61 hX.1) (by omega) (c_X12_judge hX.1 hX.2.1 hW hM (by omega)) rfl rfl (Nat.le_of_ble_eq_true rfl) (fun v t I L Rf hq => ?_)
  obtain ⟨rfl, rfl, rfl, hM, hkX⟩ := hq
  refine law_m hx ?_
  refine pv_icmp_eq (pc := 821) (tgt := 2221) dL_law_821 (by decide) (fun h821 => ?_) (fun h821 => absurd h821 (fun q => q rfl))
  exact next _ _ _ _ _ _ (law_fin (wf_judge hW _ _) hX hM hw hkX)

set_option maxRecDepth 100000 in
set_option maxHeartbeats 4000000 in
theorem lc_told {G : pv_G} {d mc ms bc bs n : Nat} {J : pv_I} {K : pv_L} {t : pv_T} {I : pv_I} {L : pv_L} {Rf : pv_R} (hF : fk_ok G) (hd : 200 ≤ d) (hn : n + 9 ≤ G.2.2.2.1) (hN : G.2.2.2.1 ≤ 4608) (hO : pv_X G t I) (h : LW J K t I L Rf) (next : ∀ J K t I L Rf, LW J K t I L Rf → pv_V G mL_law d mc ms q_L bc bs 2221 [.ref 0, .ref 16, .ref 61, .int (Int32.ofNat n)] [] t I L Rf) : pv_V G mL_law d mc ms q_L (bc + 0) (bs + 0) 826 [.ref 0, .ref 16, .ref 61, .int (Int32.ofNat n)] [] t I L Rf := by
  obtain ⟨hW, hX, hM, hw⟩ := h
  refine pv_aload_1 (pc := 826) dL_law_826 ?_
  refine pv_aload_0 (pc := 827) dL_law_827 ?_
  refine pv_iload_3 (pc := 828) dL_law_828 ?_
  refine pv_iconst (pc := 829) (v := 1) dL_law_829 (by decide) ?_
  refine pv_iadd (pc := 830) dL_law_830 ?_
  refine pl_ia (pc := 831) (k := 1) dL_law_831 hO hn hN (by decide) (by decide) ?_
  refine pv_aload_0 (pc := 832) dL_law_832 ?_
  refine pv_iload_3 (pc := 833) dL_law_833 ?_
  refine pv_iconst (pc := 834) (v := 2) dL_law_834 (by decide) ?_
  refine pv_iadd (pc := 835) dL_law_835 ?_
  refine pl_ia (pc := 836) (k := 2) dL_law_836 hO hn hN (by decide) (by decide) ?_
  refine pv_aload_0 (pc := 837) dL_law_837 ?_
  refine pv_iload_3 (pc := 838) dL_law_838 ?_
  refine pv_iconst (pc := 839) (v := 3) dL_law_839 (by decide) ?_
  refine pv_iadd (pc := 840) dL_law_840 ?_
  refine pl_ia (pc := 841) (k := 3) dL_law_841 hO hn hN (by decide) (by decide) ?_
  refine pv_callVq (pc := 842) dL_law_842 mgX11_told lv_L_88_11 (by decide) (sx_16 hX.1) (by omega) (c_X11_told hW hX (by omega)) rfl rfl (Nat.le_of_ble_eq_true rfl) (fun v t I L Rf hq => ?_)
  obtain ⟨rfl, hX, hk⟩ := hq
  obtain ⟨hM, hw⟩ := law_mid hM hw hk
  refine law_l (a_told J K _ _ _) (fun x hx => ?_)
  refine pv_in (fun hO => ?_)
  refine pv_aload_2 (pc := 845) dL_law_845 ?_
  refine pv_aload_0 (pc := 846) dL_law_846 ?_
  refine pv_iload_3 (pc := 847) dL_law_847 ?_
  refine pv_iconst (pc := 848) (v := 1) dL_law_848 (by decide) ?_
  refine pv_iadd (pc := 849) dL_law_849 ?_
  refine pl_ia (pc := 850) (k := 1) dL_law_850 hO hn hN (by decide) (by decide) ?_
  refine pv_aload_0 (pc := 851) dL_law_851 ?_
  refine pv_iload_3 (pc := 852) dL_law_852 ?_
  refine pv_iconst (pc := 853) (v := 2) dL_law_853 (by decide) ?_
  refine pv_iadd (pc := 854) dL_law_854 ?_
  refine pl_ia (pc := 855) (k := 2) dL_law_855 hO hn hN (by decide) (by decide) ?_
  refine pv_aload_0 (pc := 856) dL_law_856 ?_
  refine pv_iload_3 (pc := 857) dL_law_857 ?_
  refine pv_iconst (pc := 858) (v := 3) dL_law_858 (by decide) ?_
  refine pv_iadd (pc := 859) dL_law_859 ?_
  refine pl_ia (pc := 860) (k := 3) dL_law_860 hO hn hN (by decide) (by decide) ?_
  refine pv_callVq (pc := 861) dL_law_861 mgX12_told lv_L_92_12 (by decide) (sx_61 hX.1) (by omega) (c_X12_told hX.1 hX.2.1 hW hM (by omega)) rfl rfl (Nat.le_of_ble_eq_true rfl) (fun v t I L Rf hq => ?_)
  obtain ⟨rfl, rfl, rfl, hM, hkX⟩ := hq
  refine law_m hx ?_
  refine pv_lcmp_eq (pc := 864) (tgt := 2221) dL_law_864 dL_law_865 (by decide) (fun h864 => ?_) (fun h864 => absurd h864 (fun q => q rfl))
  exact next _ _ _ _ _ _ (law_fin (wf_told hW _ _ _) hX hM hw hkX)

set_option maxRecDepth 100000 in
set_option maxHeartbeats 4000000 in
theorem lc_dances {G : pv_G} {d mc ms bc bs n : Nat} {J : pv_I} {K : pv_L} {t : pv_T} {I : pv_I} {L : pv_L} {Rf : pv_R} (hF : fk_ok G) (hd : 200 ≤ d) (hn : n + 9 ≤ G.2.2.2.1) (hN : G.2.2.2.1 ≤ 4608) (hO : pv_X G t I) (h : LW J K t I L Rf) (next : ∀ J K t I L Rf, LW J K t I L Rf → pv_V G mL_law d mc ms q_L bc bs 2221 [.ref 0, .ref 16, .ref 61, .int (Int32.ofNat n)] [] t I L Rf) : pv_V G mL_law d mc ms q_L (bc + 0) (bs + 0) 870 [.ref 0, .ref 16, .ref 61, .int (Int32.ofNat n)] [] t I L Rf := by
  obtain ⟨hW, hX, hM, hw⟩ := h
  refine pv_aload_1 (pc := 870) dL_law_870 ?_
  refine pv_aload_0 (pc := 871) dL_law_871 ?_
  refine pv_iload_3 (pc := 872) dL_law_872 ?_
  refine pv_iconst (pc := 873) (v := 1) dL_law_873 (by decide) ?_
  refine pv_iadd (pc := 874) dL_law_874 ?_
  refine pl_ia (pc := 875) (k := 1) dL_law_875 hO hn hN (by decide) (by decide) ?_
  refine pv_aload_0 (pc := 876) dL_law_876 ?_
  refine pv_iload_3 (pc := 877) dL_law_877 ?_
  refine pv_iconst (pc := 878) (v := 2) dL_law_878 (by decide) ?_
  refine pv_iadd (pc := 879) dL_law_879 ?_
  refine pl_ia (pc := 880) (k := 2) dL_law_880 hO hn hN (by decide) (by decide) ?_
  refine pv_callVq (pc := 881) dL_law_881 mgX11_dances lv_L_93_11 (by decide) (sx_16 hX.1) (by omega) (c_X11_dances hW hX (by omega)) rfl rfl (Nat.le_of_ble_eq_true rfl) (fun v t I L Rf hq => ?_)
  obtain ⟨rfl, hX, hk⟩ := hq
  obtain ⟨hM, hw⟩ := law_mid hM hw hk
  refine law_i (a_dances J K _ _) (fun x hx => ?_)
  refine pv_in (fun hO => ?_)
  refine pv_aload_2 (pc := 884) dL_law_884 ?_
  refine pv_aload_0 (pc := 885) dL_law_885 ?_
  refine pv_iload_3 (pc := 886) dL_law_886 ?_
  refine pv_iconst (pc := 887) (v := 1) dL_law_887 (by decide) ?_
  refine pv_iadd (pc := 888) dL_law_888 ?_
  refine pl_ia (pc := 889) (k := 1) dL_law_889 hO hn hN (by decide) (by decide) ?_
  refine pv_aload_0 (pc := 890) dL_law_890 ?_
  refine pv_iload_3 (pc := 891) dL_law_891 ?_
  refine pv_iconst (pc := 892) (v := 2) dL_law_892 (by decide) ?_
  refine pv_iadd (pc := 893) dL_law_893 ?_
  refine pl_ia (pc := 894) (k := 2) dL_law_894 hO hn hN (by decide) (by decide) ?_
  refine pv_callVq (pc := 895) dL_law_895 mgX12_dances lv_L_96_12 (by decide) (sx_61 hX.1) (by omega) (c_X12_dances hX.1 hX.2.1 hW hM (by omega)) rfl rfl (Nat.le_of_ble_eq_true rfl) (fun v t I L Rf hq => ?_)
  obtain ⟨rfl, rfl, rfl, hM, hkX⟩ := hq
  refine law_m hx ?_
  refine pv_icmp_eq (pc := 898) (tgt := 2221) dL_law_898 (by decide) (fun h898 => ?_) (fun h898 => absurd h898 (fun q => q rfl))
  exact next _ _ _ _ _ _ (law_fin (wf_dances hW _ _) hX hM hw hkX)

set_option maxRecDepth 100000 in
set_option maxHeartbeats 4000000 in
theorem lc_repeated {G : pv_G} {d mc ms bc bs n : Nat} {J : pv_I} {K : pv_L} {t : pv_T} {I : pv_I} {L : pv_L} {Rf : pv_R} (hF : fk_ok G) (hd : 200 ≤ d) (hn : n + 9 ≤ G.2.2.2.1) (hN : G.2.2.2.1 ≤ 4608) (hO : pv_X G t I) (h : LW J K t I L Rf) (next : ∀ J K t I L Rf, LW J K t I L Rf → pv_V G mL_law d mc ms q_L bc bs 2221 [.ref 0, .ref 16, .ref 61, .int (Int32.ofNat n)] [] t I L Rf) : pv_V G mL_law d mc ms q_L (bc + 0) (bs + 0) 903 [.ref 0, .ref 16, .ref 61, .int (Int32.ofNat n)] [] t I L Rf := by
  obtain ⟨hW, hX, hM, hw⟩ := h
  refine pv_aload_1 (pc := 903) dL_law_903 ?_
  refine pv_aload_0 (pc := 904) dL_law_904 ?_
  refine pv_iload_3 (pc := 905) dL_law_905 ?_
  refine pv_iconst (pc := 906) (v := 1) dL_law_906 (by decide) ?_
  refine pv_iadd (pc := 907) dL_law_907 ?_
  refine pl_ia (pc := 908) (k := 1) dL_law_908 hO hn hN (by decide) (by decide) ?_
  refine pv_aload_0 (pc := 909) dL_law_909 ?_
  refine pv_iload_3 (pc := 910) dL_law_910 ?_
  refine pv_iconst (pc := 911) (v := 2) dL_law_911 (by decide) ?_
  refine pv_iadd (pc := 912) dL_law_912 ?_
  refine pl_ia (pc := 913) (k := 2) dL_law_913 hO hn hN (by decide) (by decide) ?_
  refine pv_aload_0 (pc := 914) dL_law_914 ?_
  refine pv_iload_3 (pc := 915) dL_law_915 ?_
  refine pv_iconst (pc := 916) (v := 3) dL_law_916 (by decide) ?_
  refine pv_iadd (pc := 917) dL_law_917 ?_
  refine pl_ia (pc := 918) (k := 3) dL_law_918 hO hn hN (by decide) (by decide) ?_
  refine pv_aload_0 (pc := 919) dL_law_919 ?_
  refine pv_iload_3 (pc := 920) dL_law_920 ?_
  refine pv_iconst (pc := 921) (v := 4) dL_law_921 (by decide) ?_
  refine pv_iadd (pc := 922) dL_law_922 ?_
  refine pl_ia (pc := 923) (k := 4) dL_law_923 hO hn hN (by decide) (by decide) ?_
  refine pv_callVq (pc := 924) dL_law_924 mgX11_repeated lv_L_97_11 (by decide) (sx_16 hX.1) (by omega) (c_X11_repeated hW hX (by omega)) rfl rfl (Nat.le_of_ble_eq_true rfl) (fun v t I L Rf hq => ?_)
  obtain ⟨rfl, hX, hk⟩ := hq
  obtain ⟨hM, hw⟩ := law_mid hM hw hk
  refine law_l (a_repeated J K _ _ _ _) (fun x hx => ?_)
  refine pv_in (fun hO => ?_)
  refine pv_aload_2 (pc := 927) dL_law_927 ?_
  refine pv_aload_0 (pc := 928) dL_law_928 ?_
  refine pv_iload_3 (pc := 929) dL_law_929 ?_
  refine pv_iconst (pc := 930) (v := 1) dL_law_930 (by decide) ?_
  refine pv_iadd (pc := 931) dL_law_931 ?_
  refine pl_ia (pc := 932) (k := 1) dL_law_932 hO hn hN (by decide) (by decide) ?_
  refine pv_aload_0 (pc := 933) dL_law_933 ?_
  refine pv_iload_3 (pc := 934) dL_law_934 ?_
  refine pv_iconst (pc := 935) (v := 2) dL_law_935 (by decide) ?_
  refine pv_iadd (pc := 936) dL_law_936 ?_
  refine pl_ia (pc := 937) (k := 2) dL_law_937 hO hn hN (by decide) (by decide) ?_
  refine pv_aload_0 (pc := 938) dL_law_938 ?_
  refine pv_iload_3 (pc := 939) dL_law_939 ?_
  refine pv_iconst (pc := 940) (v := 3) dL_law_940 (by decide) ?_
  refine pv_iadd (pc := 941) dL_law_941 ?_
  refine pl_ia (pc := 942) (k := 3) dL_law_942 hO hn hN (by decide) (by decide) ?_
  refine pv_aload_0 (pc := 943) dL_law_943 ?_
  refine pv_iload_3 (pc := 944) dL_law_944 ?_
  refine pv_iconst (pc := 945) (v := 4) dL_law_945 (by decide) ?_
  refine pv_iadd (pc := 946) dL_law_946 ?_
  refine pl_ia (pc := 947) (k := 4) dL_law_947 hO hn hN (by decide) (by decide) ?_
  refine pv_callVq (pc := 948) dL_law_948 mgX12_repeated lv_L_101_12 (by decide) (sx_61 hX.1) (by omega) (c_X12_repeated hX.1 hX.2.1 hW hM (by omega)) rfl rfl (Nat.le_of_ble_eq_true rfl) (fun v t I L Rf hq => ?_)
  obtain ⟨rfl, rfl, rfl, hM, hkX⟩ := hq
  refine law_m hx ?_
  refine pv_lcmp_eq (pc := 951) (tgt := 2221) dL_law_951 dL_law_952 (by decide) (fun h951 => ?_) (fun h951 => absurd h951 (fun q => q rfl))
  exact next _ _ _ _ _ _ (law_fin (wf_repeated hW _ _ _ _) hX hM hw hkX)

set_option maxRecDepth 100000 in
set_option maxHeartbeats 4000000 in
theorem lc_same {G : pv_G} {d mc ms bc bs n : Nat} {J : pv_I} {K : pv_L} {t : pv_T} {I : pv_I} {L : pv_L} {Rf : pv_R} (hF : fk_ok G) (hd : 200 ≤ d) (hn : n + 9 ≤ G.2.2.2.1) (hN : G.2.2.2.1 ≤ 4608) (hO : pv_X G t I) (h : LW J K t I L Rf) (next : ∀ J K t I L Rf, LW J K t I L Rf → pv_V G mL_law d mc ms q_L bc bs 2221 [.ref 0, .ref 16, .ref 61, .int (Int32.ofNat n)] [] t I L Rf) : pv_V G mL_law d mc ms q_L (bc + 0) (bs + 0) 957 [.ref 0, .ref 16, .ref 61, .int (Int32.ofNat n)] [] t I L Rf := by
  obtain ⟨hW, hX, hM, hw⟩ := h
  refine pv_aload_1 (pc := 957) dL_law_957 ?_
  refine pv_aload_0 (pc := 958) dL_law_958 ?_
  refine pv_iload_3 (pc := 959) dL_law_959 ?_
  refine pv_iconst (pc := 960) (v := 1) dL_law_960 (by decide) ?_
  refine pv_iadd (pc := 961) dL_law_961 ?_
  refine pl_ia (pc := 962) (k := 1) dL_law_962 hO hn hN (by decide) (by decide) ?_
  refine pv_aload_0 (pc := 963) dL_law_963 ?_
  refine pv_iload_3 (pc := 964) dL_law_964 ?_
  refine pv_iconst (pc := 965) (v := 2) dL_law_965 (by decide) ?_
  refine pv_iadd (pc := 966) dL_law_966 ?_
  refine pl_ia (pc := 967) (k := 2) dL_law_967 hO hn hN (by decide) (by decide) ?_
  refine pv_aload_0 (pc := 968) dL_law_968 ?_
  refine pv_iload_3 (pc := 969) dL_law_969 ?_
  refine pv_iconst (pc := 970) (v := 3) dL_law_970 (by decide) ?_
  refine pv_iadd (pc := 971) dL_law_971 ?_
  refine pl_ia (pc := 972) (k := 3) dL_law_972 hO hn hN (by decide) (by decide) ?_
  refine pv_aload_0 (pc := 973) dL_law_973 ?_
  refine pv_iload_3 (pc := 974) dL_law_974 ?_
  refine pv_iconst (pc := 975) (v := 4) dL_law_975 (by decide) ?_
  refine pv_iadd (pc := 976) dL_law_976 ?_
  refine pl_ia (pc := 977) (k := 4) dL_law_977 hO hn hN (by decide) (by decide) ?_
  refine pv_if_eq (pc := 978) (tgt := 985) dL_law_978 (by decide) (fun h978 => ?_) (fun h978 => ?_)
  · refine pv_iconst (pc := 985) (v := 0) dL_law_985 (by decide) ?_
    refine pv_callVq (pc := 986) dL_law_986 mgX11_same lv_L_102_11 (by decide) (sx_16 hX.1) (by omega) (c_X11_same (o := false) hW hX (by omega)) rfl rfl (Nat.le_of_ble_eq_true rfl) (fun v t I L Rf hq => ?_)
    obtain ⟨rfl, hX, hk⟩ := hq
    obtain ⟨hM, hw⟩ := law_mid hM hw hk
    refine law_i (a_same J K _ _ _ false) (fun x hx => ?_)
    refine pv_in (fun hO => ?_)
    refine pv_aload_2 (pc := 989) dL_law_989 ?_
    refine pv_aload_0 (pc := 990) dL_law_990 ?_
    refine pv_iload_3 (pc := 991) dL_law_991 ?_
    refine pv_iconst (pc := 992) (v := 1) dL_law_992 (by decide) ?_
    refine pv_iadd (pc := 993) dL_law_993 ?_
    refine pl_ia (pc := 994) (k := 1) dL_law_994 hO hn hN (by decide) (by decide) ?_
    refine pv_aload_0 (pc := 995) dL_law_995 ?_
    refine pv_iload_3 (pc := 996) dL_law_996 ?_
    refine pv_iconst (pc := 997) (v := 2) dL_law_997 (by decide) ?_
    refine pv_iadd (pc := 998) dL_law_998 ?_
    refine pl_ia (pc := 999) (k := 2) dL_law_999 hO hn hN (by decide) (by decide) ?_
    refine pv_aload_0 (pc := 1000) dL_law_1000 ?_
    refine pv_iload_3 (pc := 1001) dL_law_1001 ?_
    refine pv_iconst (pc := 1002) (v := 3) dL_law_1002 (by decide) ?_
    refine pv_iadd (pc := 1003) dL_law_1003 ?_
    refine pl_ia (pc := 1004) (k := 3) dL_law_1004 hO hn hN (by decide) (by decide) ?_
    refine pv_aload_0 (pc := 1005) dL_law_1005 ?_
    refine pv_iload_3 (pc := 1006) dL_law_1006 ?_
    refine pv_iconst (pc := 1007) (v := 4) dL_law_1007 (by decide) ?_
    refine pv_iadd (pc := 1008) dL_law_1008 ?_
    refine pl_ia (pc := 1009) (k := 4) dL_law_1009 hO hn hN (by decide) (by decide) ?_
    refine pv_if_eq (pc := 1010) (tgt := 1017) dL_law_1010 (by decide) (fun h1010 => ?_) (fun h1010 => absurd h978 h1010)
    refine pv_iconst (pc := 1017) (v := 0) dL_law_1017 (by decide) ?_
    refine pv_callVq (pc := 1018) dL_law_1018 mgX12_same lv_L_106_12 (by decide) (sx_61 hX.1) (by omega) (c_X12_same (o := false) hX.1 hX.2.1 hW hM (by omega)) rfl rfl (Nat.le_of_ble_eq_true rfl) (fun v t I L Rf hq => ?_)
    obtain ⟨rfl, rfl, rfl, hM, hkX⟩ := hq
    refine law_m hx ?_
    refine pv_icmp_eq (pc := 1021) (tgt := 2221) dL_law_1021 (by decide) (fun h1021 => ?_) (fun h1021 => absurd h1021 (fun q => q rfl))
    exact next _ _ _ _ _ _ (law_fin (wf_same hW _ _ _ _) hX hM hw hkX)
  · refine pv_iconst (pc := 981) (v := 1) dL_law_981 (by decide) ?_
    refine pv_goto (pc := 982) (tgt := 986) dL_law_982 (by decide) ?_
    refine pv_callVq (pc := 986) dL_law_986 mgX11_same lv_L_102_11 (by decide) (sx_16 hX.1) (by omega) (c_X11_same (o := true) hW hX (by omega)) rfl rfl (Nat.le_of_ble_eq_true rfl) (fun v t I L Rf hq => ?_)
    obtain ⟨rfl, hX, hk⟩ := hq
    obtain ⟨hM, hw⟩ := law_mid hM hw hk
    refine law_i (a_same J K _ _ _ true) (fun x hx => ?_)
    refine pv_in (fun hO => ?_)
    refine pv_aload_2 (pc := 989) dL_law_989 ?_
    refine pv_aload_0 (pc := 990) dL_law_990 ?_
    refine pv_iload_3 (pc := 991) dL_law_991 ?_
    refine pv_iconst (pc := 992) (v := 1) dL_law_992 (by decide) ?_
    refine pv_iadd (pc := 993) dL_law_993 ?_
    refine pl_ia (pc := 994) (k := 1) dL_law_994 hO hn hN (by decide) (by decide) ?_
    refine pv_aload_0 (pc := 995) dL_law_995 ?_
    refine pv_iload_3 (pc := 996) dL_law_996 ?_
    refine pv_iconst (pc := 997) (v := 2) dL_law_997 (by decide) ?_
    refine pv_iadd (pc := 998) dL_law_998 ?_
    refine pl_ia (pc := 999) (k := 2) dL_law_999 hO hn hN (by decide) (by decide) ?_
    refine pv_aload_0 (pc := 1000) dL_law_1000 ?_
    refine pv_iload_3 (pc := 1001) dL_law_1001 ?_
    refine pv_iconst (pc := 1002) (v := 3) dL_law_1002 (by decide) ?_
    refine pv_iadd (pc := 1003) dL_law_1003 ?_
    refine pl_ia (pc := 1004) (k := 3) dL_law_1004 hO hn hN (by decide) (by decide) ?_
    refine pv_aload_0 (pc := 1005) dL_law_1005 ?_
    refine pv_iload_3 (pc := 1006) dL_law_1006 ?_
    refine pv_iconst (pc := 1007) (v := 4) dL_law_1007 (by decide) ?_
    refine pv_iadd (pc := 1008) dL_law_1008 ?_
    refine pl_ia (pc := 1009) (k := 4) dL_law_1009 hO hn hN (by decide) (by decide) ?_
    refine pv_if_eq (pc := 1010) (tgt := 1017) dL_law_1010 (by decide) (fun h1010 => absurd h1010 h978) (fun h1010 => ?_)
    refine pv_iconst (pc := 1013) (v := 1) dL_law_1013 (by decide) ?_
    refine pv_goto (pc := 1014) (tgt := 1018) dL_law_1014 (by decide) ?_
    refine pv_callVq (pc := 1018) dL_law_1018 mgX12_same lv_L_106_12 (by decide) (sx_61 hX.1) (by omega) (c_X12_same (o := true) hX.1 hX.2.1 hW hM (by omega)) rfl rfl (Nat.le_of_ble_eq_true rfl) (fun v t I L Rf hq => ?_)
    obtain ⟨rfl, rfl, rfl, hM, hkX⟩ := hq
    refine law_m hx ?_
    refine pv_icmp_eq (pc := 1021) (tgt := 2221) dL_law_1021 (by decide) (fun h1021 => ?_) (fun h1021 => absurd h1021 (fun q => q rfl))
    exact next _ _ _ _ _ _ (law_fin (wf_same hW _ _ _ _) hX hM hw hkX)

set_option maxRecDepth 100000 in
set_option maxHeartbeats 4000000 in
theorem lc_undo {G : pv_G} {d mc ms bc bs n : Nat} {J : pv_I} {K : pv_L} {t : pv_T} {I : pv_I} {L : pv_L} {Rf : pv_R} (hF : fk_ok G) (hd : 200 ≤ d) (hn : n + 9 ≤ G.2.2.2.1) (hN : G.2.2.2.1 ≤ 4608) (hO : pv_X G t I) (h : LW J K t I L Rf) (next : ∀ J K t I L Rf, LW J K t I L Rf → pv_V G mL_law d mc ms q_L bc bs 2221 [.ref 0, .ref 16, .ref 61, .int (Int32.ofNat n)] [] t I L Rf) : pv_V G mL_law d mc ms q_L (bc + 0) (bs + 0) 1026 [.ref 0, .ref 16, .ref 61, .int (Int32.ofNat n)] [] t I L Rf := by
  obtain ⟨hW, hX, hM, hw⟩ := h
  refine pv_aload_1 (pc := 1026) dL_law_1026 ?_
  refine pv_callVq (pc := 1027) dL_law_1027 mgX11_undo lv_L_107_11 (by decide) (sx_16 hX.1) (by omega) (c_X11_undo hW hX (by omega)) rfl rfl (Nat.le_of_ble_eq_true rfl) (fun v t I L Rf hq => ?_)
  obtain ⟨rfl, hX, hk⟩ := hq
  obtain ⟨hM, hw⟩ := law_mid hM hw hk
  refine law_l (a_undo J K) (fun x hx => ?_)
  refine pv_in (fun hO => ?_)
  refine pv_aload_2 (pc := 1030) dL_law_1030 ?_
  refine pv_callVq (pc := 1031) dL_law_1031 mgX12_undo lv_L_111_12 (by decide) (sx_61 hX.1) (by omega) (c_X12_undo hX.1 hX.2.1 hW hM (by omega)) rfl rfl (Nat.le_of_ble_eq_true rfl) (fun v t I L Rf hq => ?_)
  obtain ⟨rfl, rfl, rfl, hM, hkX⟩ := hq
  refine law_m hx ?_
  refine pv_lcmp_eq (pc := 1034) (tgt := 2221) dL_law_1034 dL_law_1035 (by decide) (fun h1034 => ?_) (fun h1034 => absurd h1034 (fun q => q rfl))
  exact next _ _ _ _ _ _ (law_fin (wf_undo hW ) hX hM hw hkX)

set_option maxRecDepth 100000 in
set_option maxHeartbeats 4000000 in
theorem lc_undoes {G : pv_G} {d mc ms bc bs n : Nat} {J : pv_I} {K : pv_L} {t : pv_T} {I : pv_I} {L : pv_L} {Rf : pv_R} (hF : fk_ok G) (hd : 200 ≤ d) (hn : n + 9 ≤ G.2.2.2.1) (hN : G.2.2.2.1 ≤ 4608) (hO : pv_X G t I) (h : LW J K t I L Rf) (next : ∀ J K t I L Rf, LW J K t I L Rf → pv_V G mL_law d mc ms q_L bc bs 2221 [.ref 0, .ref 16, .ref 61, .int (Int32.ofNat n)] [] t I L Rf) : pv_V G mL_law d mc ms q_L (bc + 0) (bs + 0) 1040 [.ref 0, .ref 16, .ref 61, .int (Int32.ofNat n)] [] t I L Rf := by
  obtain ⟨hW, hX, hM, hw⟩ := h
  refine pv_aload_1 (pc := 1040) dL_law_1040 ?_
  refine pv_aload_0 (pc := 1041) dL_law_1041 ?_
  refine pv_iload_3 (pc := 1042) dL_law_1042 ?_
  refine pv_iconst (pc := 1043) (v := 1) dL_law_1043 (by decide) ?_
  refine pv_iadd (pc := 1044) dL_law_1044 ?_
  refine pl_ia (pc := 1045) (k := 1) dL_law_1045 hO hn hN (by decide) (by decide) ?_
  refine pv_i2l (pc := 1046) dL_law_1046 ?_
  refine pv_bipush (pc := 1047) (v := 32) dL_law_1047 (by decide) ?_
  refine pv_lshl (pc := 1049) dL_law_1049 rfl ?_
  refine pv_aload_0 (pc := 1050) dL_law_1050 ?_
  refine pv_iload_3 (pc := 1051) dL_law_1051 ?_
  refine pv_iconst (pc := 1052) (v := 2) dL_law_1052 (by decide) ?_
  refine pv_iadd (pc := 1053) dL_law_1053 ?_
  refine pl_ia (pc := 1054) (k := 2) dL_law_1054 hO hn hN (by decide) (by decide) ?_
  refine pv_i2l (pc := 1055) dL_law_1055 ?_
  refine pv_ldc2 (pc := 1056) dL_law_1056 k_L_18 ?_
  refine pv_land (pc := 1059) dL_law_1059 ?_
  refine pv_lor (pc := 1060) dL_law_1060 ?_
  refine pv_callVq (pc := 1061) dL_law_1061 mgX11_undoes lv_L_112_11 (by decide) (sx_16 hX.1) (by omega) (c_X11_undoes hW hX (by omega)) rfl rfl (Nat.le_of_ble_eq_true rfl) (fun v t I L Rf hq => ?_)
  obtain ⟨rfl, hX, hk⟩ := hq
  obtain ⟨hM, hw⟩ := law_mid hM hw hk
  refine law_i (a_undoes J K _) (fun x hx => ?_)
  refine pv_in (fun hO => ?_)
  refine pv_aload_2 (pc := 1064) dL_law_1064 ?_
  refine pv_aload_0 (pc := 1065) dL_law_1065 ?_
  refine pv_iload_3 (pc := 1066) dL_law_1066 ?_
  refine pv_iconst (pc := 1067) (v := 1) dL_law_1067 (by decide) ?_
  refine pv_iadd (pc := 1068) dL_law_1068 ?_
  refine pl_ia (pc := 1069) (k := 1) dL_law_1069 hO hn hN (by decide) (by decide) ?_
  refine pv_i2l (pc := 1070) dL_law_1070 ?_
  refine pv_bipush (pc := 1071) (v := 32) dL_law_1071 (by decide) ?_
  refine pv_lshl (pc := 1073) dL_law_1073 rfl ?_
  refine pv_aload_0 (pc := 1074) dL_law_1074 ?_
  refine pv_iload_3 (pc := 1075) dL_law_1075 ?_
  refine pv_iconst (pc := 1076) (v := 2) dL_law_1076 (by decide) ?_
  refine pv_iadd (pc := 1077) dL_law_1077 ?_
  refine pl_ia (pc := 1078) (k := 2) dL_law_1078 hO hn hN (by decide) (by decide) ?_
  refine pv_i2l (pc := 1079) dL_law_1079 ?_
  refine pv_ldc2 (pc := 1080) dL_law_1080 k_L_18 ?_
  refine pv_land (pc := 1083) dL_law_1083 ?_
  refine pv_lor (pc := 1084) dL_law_1084 ?_
  refine pv_callVq (pc := 1085) dL_law_1085 mgX12_undoes lv_L_116_12 (by decide) (sx_61 hX.1) (by omega) (c_X12_undoes hX.1 hX.2.1 hW hM (by omega)) rfl rfl (Nat.le_of_ble_eq_true rfl) (fun v t I L Rf hq => ?_)
  obtain ⟨rfl, rfl, rfl, hM, hkX⟩ := hq
  refine law_m hx ?_
  refine pv_icmp_eq (pc := 1088) (tgt := 2221) dL_law_1088 (by decide) (fun h1088 => ?_) (fun h1088 => absurd h1088 (fun q => q rfl))
  exact next _ _ _ _ _ _ (law_fin (wf_undoes hW _) hX hM hw hkX)

set_option maxRecDepth 100000 in
set_option maxHeartbeats 4000000 in
theorem lc_made {G : pv_G} {d mc ms bc bs n : Nat} {J : pv_I} {K : pv_L} {t : pv_T} {I : pv_I} {L : pv_L} {Rf : pv_R} (hF : fk_ok G) (hd : 200 ≤ d) (hn : n + 9 ≤ G.2.2.2.1) (hN : G.2.2.2.1 ≤ 4608) (hO : pv_X G t I) (h : LW J K t I L Rf) (next : ∀ J K t I L Rf, LW J K t I L Rf → pv_V G mL_law d mc ms q_L bc bs 2221 [.ref 0, .ref 16, .ref 61, .int (Int32.ofNat n)] [] t I L Rf) : pv_V G mL_law d mc ms q_L (bc + 0) (bs + 0) 1093 [.ref 0, .ref 16, .ref 61, .int (Int32.ofNat n)] [] t I L Rf := by
  obtain ⟨hW, hX, hM, hw⟩ := h
  refine pv_aload_1 (pc := 1093) dL_law_1093 ?_
  refine pv_aload_0 (pc := 1094) dL_law_1094 ?_
  refine pv_iload_3 (pc := 1095) dL_law_1095 ?_
  refine pv_iconst (pc := 1096) (v := 1) dL_law_1096 (by decide) ?_
  refine pv_iadd (pc := 1097) dL_law_1097 ?_
  refine pl_ia (pc := 1098) (k := 1) dL_law_1098 hO hn hN (by decide) (by decide) ?_
  refine pv_i2l (pc := 1099) dL_law_1099 ?_
  refine pv_bipush (pc := 1100) (v := 32) dL_law_1100 (by decide) ?_
  refine pv_lshl (pc := 1102) dL_law_1102 rfl ?_
  refine pv_aload_0 (pc := 1103) dL_law_1103 ?_
  refine pv_iload_3 (pc := 1104) dL_law_1104 ?_
  refine pv_iconst (pc := 1105) (v := 2) dL_law_1105 (by decide) ?_
  refine pv_iadd (pc := 1106) dL_law_1106 ?_
  refine pl_ia (pc := 1107) (k := 2) dL_law_1107 hO hn hN (by decide) (by decide) ?_
  refine pv_i2l (pc := 1108) dL_law_1108 ?_
  refine pv_ldc2 (pc := 1109) dL_law_1109 k_L_18 ?_
  refine pv_land (pc := 1112) dL_law_1112 ?_
  refine pv_lor (pc := 1113) dL_law_1113 ?_
  refine pv_aload_0 (pc := 1114) dL_law_1114 ?_
  refine pv_iload_3 (pc := 1115) dL_law_1115 ?_
  refine pv_iconst (pc := 1116) (v := 3) dL_law_1116 (by decide) ?_
  refine pv_iadd (pc := 1117) dL_law_1117 ?_
  refine pl_ia (pc := 1118) (k := 3) dL_law_1118 hO hn hN (by decide) (by decide) ?_
  refine pv_i2l (pc := 1119) dL_law_1119 ?_
  refine pv_bipush (pc := 1120) (v := 32) dL_law_1120 (by decide) ?_
  refine pv_lshl (pc := 1122) dL_law_1122 rfl ?_
  refine pv_aload_0 (pc := 1123) dL_law_1123 ?_
  refine pv_iload_3 (pc := 1124) dL_law_1124 ?_
  refine pv_iconst (pc := 1125) (v := 4) dL_law_1125 (by decide) ?_
  refine pv_iadd (pc := 1126) dL_law_1126 ?_
  refine pl_ia (pc := 1127) (k := 4) dL_law_1127 hO hn hN (by decide) (by decide) ?_
  refine pv_i2l (pc := 1128) dL_law_1128 ?_
  refine pv_ldc2 (pc := 1129) dL_law_1129 k_L_18 ?_
  refine pv_land (pc := 1132) dL_law_1132 ?_
  refine pv_lor (pc := 1133) dL_law_1133 ?_
  refine pv_aload_0 (pc := 1134) dL_law_1134 ?_
  refine pv_iload_3 (pc := 1135) dL_law_1135 ?_
  refine pv_iconst (pc := 1136) (v := 5) dL_law_1136 (by decide) ?_
  refine pv_iadd (pc := 1137) dL_law_1137 ?_
  refine pl_ia (pc := 1138) (k := 5) dL_law_1138 hO hn hN (by decide) (by decide) ?_
  refine pv_i2l (pc := 1139) dL_law_1139 ?_
  refine pv_bipush (pc := 1140) (v := 32) dL_law_1140 (by decide) ?_
  refine pv_lshl (pc := 1142) dL_law_1142 rfl ?_
  refine pv_aload_0 (pc := 1143) dL_law_1143 ?_
  refine pv_iload_3 (pc := 1144) dL_law_1144 ?_
  refine pv_bipush (pc := 1145) (v := 6) dL_law_1145 (by decide) ?_
  refine pv_iadd (pc := 1147) dL_law_1147 ?_
  refine pl_ia (pc := 1148) (k := 6) dL_law_1148 hO hn hN (by decide) (by decide) ?_
  refine pv_i2l (pc := 1149) dL_law_1149 ?_
  refine pv_ldc2 (pc := 1150) dL_law_1150 k_L_18 ?_
  refine pv_land (pc := 1153) dL_law_1153 ?_
  refine pv_lor (pc := 1154) dL_law_1154 ?_
  refine pv_callVq (pc := 1155) dL_law_1155 mgX11_made lv_L_117_11 (by decide) (sx_16 hX.1) (by omega) (c_X11_made hW hX (by omega)) rfl rfl (Nat.le_of_ble_eq_true rfl) (fun v t I L Rf hq => ?_)
  obtain ⟨rfl, hX, hk⟩ := hq
  obtain ⟨hM, hw⟩ := law_mid hM hw hk
  refine law_i (a_made J K _ _ _) (fun x hx => ?_)
  refine pv_in (fun hO => ?_)
  refine pv_aload_2 (pc := 1158) dL_law_1158 ?_
  refine pv_aload_0 (pc := 1159) dL_law_1159 ?_
  refine pv_iload_3 (pc := 1160) dL_law_1160 ?_
  refine pv_iconst (pc := 1161) (v := 1) dL_law_1161 (by decide) ?_
  refine pv_iadd (pc := 1162) dL_law_1162 ?_
  refine pl_ia (pc := 1163) (k := 1) dL_law_1163 hO hn hN (by decide) (by decide) ?_
  refine pv_i2l (pc := 1164) dL_law_1164 ?_
  refine pv_bipush (pc := 1165) (v := 32) dL_law_1165 (by decide) ?_
  refine pv_lshl (pc := 1167) dL_law_1167 rfl ?_
  refine pv_aload_0 (pc := 1168) dL_law_1168 ?_
  refine pv_iload_3 (pc := 1169) dL_law_1169 ?_
  refine pv_iconst (pc := 1170) (v := 2) dL_law_1170 (by decide) ?_
  refine pv_iadd (pc := 1171) dL_law_1171 ?_
  refine pl_ia (pc := 1172) (k := 2) dL_law_1172 hO hn hN (by decide) (by decide) ?_
  refine pv_i2l (pc := 1173) dL_law_1173 ?_
  refine pv_ldc2 (pc := 1174) dL_law_1174 k_L_18 ?_
  refine pv_land (pc := 1177) dL_law_1177 ?_
  refine pv_lor (pc := 1178) dL_law_1178 ?_
  refine pv_aload_0 (pc := 1179) dL_law_1179 ?_
  refine pv_iload_3 (pc := 1180) dL_law_1180 ?_
  refine pv_iconst (pc := 1181) (v := 3) dL_law_1181 (by decide) ?_
  refine pv_iadd (pc := 1182) dL_law_1182 ?_
  refine pl_ia (pc := 1183) (k := 3) dL_law_1183 hO hn hN (by decide) (by decide) ?_
  refine pv_i2l (pc := 1184) dL_law_1184 ?_
  refine pv_bipush (pc := 1185) (v := 32) dL_law_1185 (by decide) ?_
  refine pv_lshl (pc := 1187) dL_law_1187 rfl ?_
  refine pv_aload_0 (pc := 1188) dL_law_1188 ?_
  refine pv_iload_3 (pc := 1189) dL_law_1189 ?_
  refine pv_iconst (pc := 1190) (v := 4) dL_law_1190 (by decide) ?_
  refine pv_iadd (pc := 1191) dL_law_1191 ?_
  refine pl_ia (pc := 1192) (k := 4) dL_law_1192 hO hn hN (by decide) (by decide) ?_
  refine pv_i2l (pc := 1193) dL_law_1193 ?_
  refine pv_ldc2 (pc := 1194) dL_law_1194 k_L_18 ?_
  refine pv_land (pc := 1197) dL_law_1197 ?_
  refine pv_lor (pc := 1198) dL_law_1198 ?_
  refine pv_aload_0 (pc := 1199) dL_law_1199 ?_
  refine pv_iload_3 (pc := 1200) dL_law_1200 ?_
  refine pv_iconst (pc := 1201) (v := 5) dL_law_1201 (by decide) ?_
  refine pv_iadd (pc := 1202) dL_law_1202 ?_
  refine pl_ia (pc := 1203) (k := 5) dL_law_1203 hO hn hN (by decide) (by decide) ?_
  refine pv_i2l (pc := 1204) dL_law_1204 ?_
  refine pv_bipush (pc := 1205) (v := 32) dL_law_1205 (by decide) ?_
  refine pv_lshl (pc := 1207) dL_law_1207 rfl ?_
  refine pv_aload_0 (pc := 1208) dL_law_1208 ?_
  refine pv_iload_3 (pc := 1209) dL_law_1209 ?_
  refine pv_bipush (pc := 1210) (v := 6) dL_law_1210 (by decide) ?_
  refine pv_iadd (pc := 1212) dL_law_1212 ?_
  refine pl_ia (pc := 1213) (k := 6) dL_law_1213 hO hn hN (by decide) (by decide) ?_
  refine pv_i2l (pc := 1214) dL_law_1214 ?_
  refine pv_ldc2 (pc := 1215) dL_law_1215 k_L_18 ?_
  refine pv_land (pc := 1218) dL_law_1218 ?_
  refine pv_lor (pc := 1219) dL_law_1219 ?_
  refine pv_callVq (pc := 1220) dL_law_1220 mgX12_made lv_L_121_12 (by decide) (sx_61 hX.1) (by omega) (c_X12_made hX.1 hX.2.1 hW hM (by omega)) rfl rfl (Nat.le_of_ble_eq_true rfl) (fun v t I L Rf hq => ?_)
  obtain ⟨rfl, rfl, rfl, hM, hkX⟩ := hq
  refine law_m hx ?_
  refine pv_icmp_eq (pc := 1223) (tgt := 2221) dL_law_1223 (by decide) (fun h1223 => ?_) (fun h1223 => absurd h1223 (fun q => q rfl))
  exact next _ _ _ _ _ _ (law_fin (wf_made hW _ _ _) hX hM hw hkX)

set_option maxRecDepth 100000 in
set_option maxHeartbeats 4000000 in
theorem lc_least {G : pv_G} {d mc ms bc bs n : Nat} {J : pv_I} {K : pv_L} {t : pv_T} {I : pv_I} {L : pv_L} {Rf : pv_R} (hF : fk_ok G) (hd : 200 ≤ d) (hn : n + 9 ≤ G.2.2.2.1) (hN : G.2.2.2.1 ≤ 4608) (hO : pv_X G t I) (h : LW J K t I L Rf) (next : ∀ J K t I L Rf, LW J K t I L Rf → pv_V G mL_law d mc ms q_L bc bs 2221 [.ref 0, .ref 16, .ref 61, .int (Int32.ofNat n)] [] t I L Rf) : pv_V G mL_law d mc ms q_L (bc + 0) (bs + 0) 1228 [.ref 0, .ref 16, .ref 61, .int (Int32.ofNat n)] [] t I L Rf := by
  obtain ⟨hW, hX, hM, hw⟩ := h
  refine pv_aload_1 (pc := 1228) dL_law_1228 ?_
  refine pv_aload_0 (pc := 1229) dL_law_1229 ?_
  refine pv_iload_3 (pc := 1230) dL_law_1230 ?_
  refine pv_iconst (pc := 1231) (v := 1) dL_law_1231 (by decide) ?_
  refine pv_iadd (pc := 1232) dL_law_1232 ?_
  refine pl_ia (pc := 1233) (k := 1) dL_law_1233 hO hn hN (by decide) (by decide) ?_
  refine pv_i2l (pc := 1234) dL_law_1234 ?_
  refine pv_bipush (pc := 1235) (v := 32) dL_law_1235 (by decide) ?_
  refine pv_lshl (pc := 1237) dL_law_1237 rfl ?_
  refine pv_aload_0 (pc := 1238) dL_law_1238 ?_
  refine pv_iload_3 (pc := 1239) dL_law_1239 ?_
  refine pv_iconst (pc := 1240) (v := 2) dL_law_1240 (by decide) ?_
  refine pv_iadd (pc := 1241) dL_law_1241 ?_
  refine pl_ia (pc := 1242) (k := 2) dL_law_1242 hO hn hN (by decide) (by decide) ?_
  refine pv_i2l (pc := 1243) dL_law_1243 ?_
  refine pv_ldc2 (pc := 1244) dL_law_1244 k_L_18 ?_
  refine pv_land (pc := 1247) dL_law_1247 ?_
  refine pv_lor (pc := 1248) dL_law_1248 ?_
  refine pv_aload_0 (pc := 1249) dL_law_1249 ?_
  refine pv_iload_3 (pc := 1250) dL_law_1250 ?_
  refine pv_iconst (pc := 1251) (v := 3) dL_law_1251 (by decide) ?_
  refine pv_iadd (pc := 1252) dL_law_1252 ?_
  refine pl_ia (pc := 1253) (k := 3) dL_law_1253 hO hn hN (by decide) (by decide) ?_
  refine pv_i2l (pc := 1254) dL_law_1254 ?_
  refine pv_bipush (pc := 1255) (v := 32) dL_law_1255 (by decide) ?_
  refine pv_lshl (pc := 1257) dL_law_1257 rfl ?_
  refine pv_aload_0 (pc := 1258) dL_law_1258 ?_
  refine pv_iload_3 (pc := 1259) dL_law_1259 ?_
  refine pv_iconst (pc := 1260) (v := 4) dL_law_1260 (by decide) ?_
  refine pv_iadd (pc := 1261) dL_law_1261 ?_
  refine pl_ia (pc := 1262) (k := 4) dL_law_1262 hO hn hN (by decide) (by decide) ?_
  refine pv_i2l (pc := 1263) dL_law_1263 ?_
  refine pv_ldc2 (pc := 1264) dL_law_1264 k_L_18 ?_
  refine pv_land (pc := 1267) dL_law_1267 ?_
  refine pv_lor (pc := 1268) dL_law_1268 ?_
  refine pv_aload_0 (pc := 1269) dL_law_1269 ?_
  refine pv_iload_3 (pc := 1270) dL_law_1270 ?_
  refine pv_iconst (pc := 1271) (v := 5) dL_law_1271 (by decide) ?_
  refine pv_iadd (pc := 1272) dL_law_1272 ?_
  refine pl_ia (pc := 1273) (k := 5) dL_law_1273 hO hn hN (by decide) (by decide) ?_
  refine pv_callVq (pc := 1274) dL_law_1274 mgX11_least lv_L_122_11 (by decide) (sx_16 hX.1) (by omega) (c_X11_least hW hX (by omega)) rfl rfl (Nat.le_of_ble_eq_true rfl) (fun v t I L Rf hq => ?_)
  obtain ⟨rfl, hX, hk⟩ := hq
  obtain ⟨hM, hw⟩ := law_mid hM hw hk
  refine law_i (a_least J K _ _ _) (fun x hx => ?_)
  refine pv_in (fun hO => ?_)
  refine pv_aload_2 (pc := 1277) dL_law_1277 ?_
  refine pv_aload_0 (pc := 1278) dL_law_1278 ?_
  refine pv_iload_3 (pc := 1279) dL_law_1279 ?_
  refine pv_iconst (pc := 1280) (v := 1) dL_law_1280 (by decide) ?_
  refine pv_iadd (pc := 1281) dL_law_1281 ?_
  refine pl_ia (pc := 1282) (k := 1) dL_law_1282 hO hn hN (by decide) (by decide) ?_
  refine pv_i2l (pc := 1283) dL_law_1283 ?_
  refine pv_bipush (pc := 1284) (v := 32) dL_law_1284 (by decide) ?_
  refine pv_lshl (pc := 1286) dL_law_1286 rfl ?_
  refine pv_aload_0 (pc := 1287) dL_law_1287 ?_
  refine pv_iload_3 (pc := 1288) dL_law_1288 ?_
  refine pv_iconst (pc := 1289) (v := 2) dL_law_1289 (by decide) ?_
  refine pv_iadd (pc := 1290) dL_law_1290 ?_
  refine pl_ia (pc := 1291) (k := 2) dL_law_1291 hO hn hN (by decide) (by decide) ?_
  refine pv_i2l (pc := 1292) dL_law_1292 ?_
  refine pv_ldc2 (pc := 1293) dL_law_1293 k_L_18 ?_
  refine pv_land (pc := 1296) dL_law_1296 ?_
  refine pv_lor (pc := 1297) dL_law_1297 ?_
  refine pv_aload_0 (pc := 1298) dL_law_1298 ?_
  refine pv_iload_3 (pc := 1299) dL_law_1299 ?_
  refine pv_iconst (pc := 1300) (v := 3) dL_law_1300 (by decide) ?_
  refine pv_iadd (pc := 1301) dL_law_1301 ?_
  refine pl_ia (pc := 1302) (k := 3) dL_law_1302 hO hn hN (by decide) (by decide) ?_
  refine pv_i2l (pc := 1303) dL_law_1303 ?_
  refine pv_bipush (pc := 1304) (v := 32) dL_law_1304 (by decide) ?_
  refine pv_lshl (pc := 1306) dL_law_1306 rfl ?_
  refine pv_aload_0 (pc := 1307) dL_law_1307 ?_
  refine pv_iload_3 (pc := 1308) dL_law_1308 ?_
  refine pv_iconst (pc := 1309) (v := 4) dL_law_1309 (by decide) ?_
  refine pv_iadd (pc := 1310) dL_law_1310 ?_
  refine pl_ia (pc := 1311) (k := 4) dL_law_1311 hO hn hN (by decide) (by decide) ?_
  refine pv_i2l (pc := 1312) dL_law_1312 ?_
  refine pv_ldc2 (pc := 1313) dL_law_1313 k_L_18 ?_
  refine pv_land (pc := 1316) dL_law_1316 ?_
  refine pv_lor (pc := 1317) dL_law_1317 ?_
  refine pv_aload_0 (pc := 1318) dL_law_1318 ?_
  refine pv_iload_3 (pc := 1319) dL_law_1319 ?_
  refine pv_iconst (pc := 1320) (v := 5) dL_law_1320 (by decide) ?_
  refine pv_iadd (pc := 1321) dL_law_1321 ?_
  refine pl_ia (pc := 1322) (k := 5) dL_law_1322 hO hn hN (by decide) (by decide) ?_
  refine pv_callVq (pc := 1323) dL_law_1323 mgX12_least lv_L_126_12 (by decide) (sx_61 hX.1) (by omega) (c_X12_least hX.1 hX.2.1 hW hM (by omega)) rfl rfl (Nat.le_of_ble_eq_true rfl) (fun v t I L Rf hq => ?_)
  obtain ⟨rfl, rfl, rfl, hM, hkX⟩ := hq
  refine law_m hx ?_
  refine pv_icmp_eq (pc := 1326) (tgt := 2221) dL_law_1326 (by decide) (fun h1326 => ?_) (fun h1326 => absurd h1326 (fun q => q rfl))
  exact next _ _ _ _ _ _ (law_fin (wf_least hW _ _ _) hX hM hw hkX)

set_option maxRecDepth 100000 in
set_option maxHeartbeats 4000000 in
theorem lc_cheapest {G : pv_G} {d mc ms bc bs n : Nat} {J : pv_I} {K : pv_L} {t : pv_T} {I : pv_I} {L : pv_L} {Rf : pv_R} (hF : fk_ok G) (hd : 200 ≤ d) (hn : n + 9 ≤ G.2.2.2.1) (hN : G.2.2.2.1 ≤ 4608) (hO : pv_X G t I) (h : LW J K t I L Rf) (next : ∀ J K t I L Rf, LW J K t I L Rf → pv_V G mL_law d mc ms q_L bc bs 2221 [.ref 0, .ref 16, .ref 61, .int (Int32.ofNat n)] [] t I L Rf) : pv_V G mL_law d mc ms q_L (bc + 0) (bs + 0) 1331 [.ref 0, .ref 16, .ref 61, .int (Int32.ofNat n)] [] t I L Rf := by
  obtain ⟨hW, hX, hM, hw⟩ := h
  refine pv_aload_1 (pc := 1331) dL_law_1331 ?_
  refine pv_aload_0 (pc := 1332) dL_law_1332 ?_
  refine pv_iload_3 (pc := 1333) dL_law_1333 ?_
  refine pv_iconst (pc := 1334) (v := 1) dL_law_1334 (by decide) ?_
  refine pv_iadd (pc := 1335) dL_law_1335 ?_
  refine pl_ia (pc := 1336) (k := 1) dL_law_1336 hO hn hN (by decide) (by decide) ?_
  refine pv_i2l (pc := 1337) dL_law_1337 ?_
  refine pv_bipush (pc := 1338) (v := 32) dL_law_1338 (by decide) ?_
  refine pv_lshl (pc := 1340) dL_law_1340 rfl ?_
  refine pv_aload_0 (pc := 1341) dL_law_1341 ?_
  refine pv_iload_3 (pc := 1342) dL_law_1342 ?_
  refine pv_iconst (pc := 1343) (v := 2) dL_law_1343 (by decide) ?_
  refine pv_iadd (pc := 1344) dL_law_1344 ?_
  refine pl_ia (pc := 1345) (k := 2) dL_law_1345 hO hn hN (by decide) (by decide) ?_
  refine pv_i2l (pc := 1346) dL_law_1346 ?_
  refine pv_ldc2 (pc := 1347) dL_law_1347 k_L_18 ?_
  refine pv_land (pc := 1350) dL_law_1350 ?_
  refine pv_lor (pc := 1351) dL_law_1351 ?_
  refine pv_aload_0 (pc := 1352) dL_law_1352 ?_
  refine pv_iload_3 (pc := 1353) dL_law_1353 ?_
  refine pv_iconst (pc := 1354) (v := 3) dL_law_1354 (by decide) ?_
  refine pv_iadd (pc := 1355) dL_law_1355 ?_
  refine pl_ia (pc := 1356) (k := 3) dL_law_1356 hO hn hN (by decide) (by decide) ?_
  refine pv_i2l (pc := 1357) dL_law_1357 ?_
  refine pv_bipush (pc := 1358) (v := 32) dL_law_1358 (by decide) ?_
  refine pv_lshl (pc := 1360) dL_law_1360 rfl ?_
  refine pv_aload_0 (pc := 1361) dL_law_1361 ?_
  refine pv_iload_3 (pc := 1362) dL_law_1362 ?_
  refine pv_iconst (pc := 1363) (v := 4) dL_law_1363 (by decide) ?_
  refine pv_iadd (pc := 1364) dL_law_1364 ?_
  refine pl_ia (pc := 1365) (k := 4) dL_law_1365 hO hn hN (by decide) (by decide) ?_
  refine pv_i2l (pc := 1366) dL_law_1366 ?_
  refine pv_ldc2 (pc := 1367) dL_law_1367 k_L_18 ?_
  refine pv_land (pc := 1370) dL_law_1370 ?_
  refine pv_lor (pc := 1371) dL_law_1371 ?_
  refine pv_aload_0 (pc := 1372) dL_law_1372 ?_
  refine pv_iload_3 (pc := 1373) dL_law_1373 ?_
  refine pv_iconst (pc := 1374) (v := 5) dL_law_1374 (by decide) ?_
  refine pv_iadd (pc := 1375) dL_law_1375 ?_
  refine pl_ia (pc := 1376) (k := 5) dL_law_1376 hO hn hN (by decide) (by decide) ?_
  refine pv_aload_0 (pc := 1377) dL_law_1377 ?_
  refine pv_iload_3 (pc := 1378) dL_law_1378 ?_
  refine pv_bipush (pc := 1379) (v := 6) dL_law_1379 (by decide) ?_
  refine pv_iadd (pc := 1381) dL_law_1381 ?_
  refine pl_ia (pc := 1382) (k := 6) dL_law_1382 hO hn hN (by decide) (by decide) ?_
  refine pv_aload_0 (pc := 1383) dL_law_1383 ?_
  refine pv_iload_3 (pc := 1384) dL_law_1384 ?_
  refine pv_bipush (pc := 1385) (v := 7) dL_law_1385 (by decide) ?_
  refine pv_iadd (pc := 1387) dL_law_1387 ?_
  refine pl_ia (pc := 1388) (k := 7) dL_law_1388 hO hn hN (by decide) (by decide) ?_
  refine pv_aload_0 (pc := 1389) dL_law_1389 ?_
  refine pv_iload_3 (pc := 1390) dL_law_1390 ?_
  refine pv_bipush (pc := 1391) (v := 8) dL_law_1391 (by decide) ?_
  refine pv_iadd (pc := 1393) dL_law_1393 ?_
  refine pl_ia (pc := 1394) (k := 8) dL_law_1394 hO hn hN (by decide) (by decide) ?_
  refine pv_callVq (pc := 1395) dL_law_1395 mgX11_cheapest lv_L_127_11 (by decide) (sx_16 hX.1) (by omega) (c_X11_cheapest hW hX (by omega)) rfl rfl (Nat.le_of_ble_eq_true rfl) (fun v t I L Rf hq => ?_)
  obtain ⟨rfl, hX, hk⟩ := hq
  obtain ⟨hM, hw⟩ := law_mid hM hw hk
  refine law_i (a_cheapest J K _ _ _ _ _ _) (fun x hx => ?_)
  refine pv_in (fun hO => ?_)
  refine pv_aload_2 (pc := 1398) dL_law_1398 ?_
  refine pv_aload_0 (pc := 1399) dL_law_1399 ?_
  refine pv_iload_3 (pc := 1400) dL_law_1400 ?_
  refine pv_iconst (pc := 1401) (v := 1) dL_law_1401 (by decide) ?_
  refine pv_iadd (pc := 1402) dL_law_1402 ?_
  refine pl_ia (pc := 1403) (k := 1) dL_law_1403 hO hn hN (by decide) (by decide) ?_
  refine pv_i2l (pc := 1404) dL_law_1404 ?_
  refine pv_bipush (pc := 1405) (v := 32) dL_law_1405 (by decide) ?_
  refine pv_lshl (pc := 1407) dL_law_1407 rfl ?_
  refine pv_aload_0 (pc := 1408) dL_law_1408 ?_
  refine pv_iload_3 (pc := 1409) dL_law_1409 ?_
  refine pv_iconst (pc := 1410) (v := 2) dL_law_1410 (by decide) ?_
  refine pv_iadd (pc := 1411) dL_law_1411 ?_
  refine pl_ia (pc := 1412) (k := 2) dL_law_1412 hO hn hN (by decide) (by decide) ?_
  refine pv_i2l (pc := 1413) dL_law_1413 ?_
  refine pv_ldc2 (pc := 1414) dL_law_1414 k_L_18 ?_
  refine pv_land (pc := 1417) dL_law_1417 ?_
  refine pv_lor (pc := 1418) dL_law_1418 ?_
  refine pv_aload_0 (pc := 1419) dL_law_1419 ?_
  refine pv_iload_3 (pc := 1420) dL_law_1420 ?_
  refine pv_iconst (pc := 1421) (v := 3) dL_law_1421 (by decide) ?_
  refine pv_iadd (pc := 1422) dL_law_1422 ?_
  refine pl_ia (pc := 1423) (k := 3) dL_law_1423 hO hn hN (by decide) (by decide) ?_
  refine pv_i2l (pc := 1424) dL_law_1424 ?_
  refine pv_bipush (pc := 1425) (v := 32) dL_law_1425 (by decide) ?_
  refine pv_lshl (pc := 1427) dL_law_1427 rfl ?_
  refine pv_aload_0 (pc := 1428) dL_law_1428 ?_
  refine pv_iload_3 (pc := 1429) dL_law_1429 ?_
  refine pv_iconst (pc := 1430) (v := 4) dL_law_1430 (by decide) ?_
  refine pv_iadd (pc := 1431) dL_law_1431 ?_
  refine pl_ia (pc := 1432) (k := 4) dL_law_1432 hO hn hN (by decide) (by decide) ?_
  refine pv_i2l (pc := 1433) dL_law_1433 ?_
  refine pv_ldc2 (pc := 1434) dL_law_1434 k_L_18 ?_
  refine pv_land (pc := 1437) dL_law_1437 ?_
  refine pv_lor (pc := 1438) dL_law_1438 ?_
  refine pv_aload_0 (pc := 1439) dL_law_1439 ?_
  refine pv_iload_3 (pc := 1440) dL_law_1440 ?_
  refine pv_iconst (pc := 1441) (v := 5) dL_law_1441 (by decide) ?_
  refine pv_iadd (pc := 1442) dL_law_1442 ?_
  refine pl_ia (pc := 1443) (k := 5) dL_law_1443 hO hn hN (by decide) (by decide) ?_
  refine pv_aload_0 (pc := 1444) dL_law_1444 ?_
  refine pv_iload_3 (pc := 1445) dL_law_1445 ?_
  refine pv_bipush (pc := 1446) (v := 6) dL_law_1446 (by decide) ?_
  refine pv_iadd (pc := 1448) dL_law_1448 ?_
  refine pl_ia (pc := 1449) (k := 6) dL_law_1449 hO hn hN (by decide) (by decide) ?_
  refine pv_aload_0 (pc := 1450) dL_law_1450 ?_
  refine pv_iload_3 (pc := 1451) dL_law_1451 ?_
  refine pv_bipush (pc := 1452) (v := 7) dL_law_1452 (by decide) ?_
  refine pv_iadd (pc := 1454) dL_law_1454 ?_
  refine pl_ia (pc := 1455) (k := 7) dL_law_1455 hO hn hN (by decide) (by decide) ?_
  refine pv_aload_0 (pc := 1456) dL_law_1456 ?_
  refine pv_iload_3 (pc := 1457) dL_law_1457 ?_
  refine pv_bipush (pc := 1458) (v := 8) dL_law_1458 (by decide) ?_
  refine pv_iadd (pc := 1460) dL_law_1460 ?_
  refine pl_ia (pc := 1461) (k := 8) dL_law_1461 hO hn hN (by decide) (by decide) ?_
  refine pv_callVq (pc := 1462) dL_law_1462 mgX12_cheapest lv_L_131_12 (by decide) (sx_61 hX.1) (by omega) (c_X12_cheapest hX.1 hX.2.1 hW hM (by omega)) rfl rfl (Nat.le_of_ble_eq_true rfl) (fun v t I L Rf hq => ?_)
  obtain ⟨rfl, rfl, rfl, hM, hkX⟩ := hq
  refine law_m hx ?_
  refine pv_icmp_eq (pc := 1465) (tgt := 2221) dL_law_1465 (by decide) (fun h1465 => ?_) (fun h1465 => absurd h1465 (fun q => q rfl))
  exact next _ _ _ _ _ _ (law_fin (wf_cheapest hW _ _ _ _ _ _) hX hM hw hkX)

set_option maxRecDepth 100000 in
set_option maxHeartbeats 4000000 in
theorem lc_side {G : pv_G} {d mc ms bc bs n : Nat} {J : pv_I} {K : pv_L} {t : pv_T} {I : pv_I} {L : pv_L} {Rf : pv_R} (hF : fk_ok G) (hd : 200 ≤ d) (hn : n + 9 ≤ G.2.2.2.1) (hN : G.2.2.2.1 ≤ 4608) (hO : pv_X G t I) (h : LW J K t I L Rf) (next : ∀ J K t I L Rf, LW J K t I L Rf → pv_V G mL_law d mc ms q_L bc bs 2221 [.ref 0, .ref 16, .ref 61, .int (Int32.ofNat n)] [] t I L Rf) : pv_V G mL_law d mc ms q_L (bc + 0) (bs + 0) 1470 [.ref 0, .ref 16, .ref 61, .int (Int32.ofNat n)] [] t I L Rf := by
  obtain ⟨hW, hX, hM, hw⟩ := h
  refine pv_aload_1 (pc := 1470) dL_law_1470 ?_
  refine pv_aload_0 (pc := 1471) dL_law_1471 ?_
  refine pv_iload_3 (pc := 1472) dL_law_1472 ?_
  refine pv_iconst (pc := 1473) (v := 1) dL_law_1473 (by decide) ?_
  refine pv_iadd (pc := 1474) dL_law_1474 ?_
  refine pl_ia (pc := 1475) (k := 1) dL_law_1475 hO hn hN (by decide) (by decide) ?_
  refine pv_i2l (pc := 1476) dL_law_1476 ?_
  refine pv_bipush (pc := 1477) (v := 32) dL_law_1477 (by decide) ?_
  refine pv_lshl (pc := 1479) dL_law_1479 rfl ?_
  refine pv_aload_0 (pc := 1480) dL_law_1480 ?_
  refine pv_iload_3 (pc := 1481) dL_law_1481 ?_
  refine pv_iconst (pc := 1482) (v := 2) dL_law_1482 (by decide) ?_
  refine pv_iadd (pc := 1483) dL_law_1483 ?_
  refine pl_ia (pc := 1484) (k := 2) dL_law_1484 hO hn hN (by decide) (by decide) ?_
  refine pv_i2l (pc := 1485) dL_law_1485 ?_
  refine pv_ldc2 (pc := 1486) dL_law_1486 k_L_18 ?_
  refine pv_land (pc := 1489) dL_law_1489 ?_
  refine pv_lor (pc := 1490) dL_law_1490 ?_
  refine pv_aload_0 (pc := 1491) dL_law_1491 ?_
  refine pv_iload_3 (pc := 1492) dL_law_1492 ?_
  refine pv_iconst (pc := 1493) (v := 3) dL_law_1493 (by decide) ?_
  refine pv_iadd (pc := 1494) dL_law_1494 ?_
  refine pl_ia (pc := 1495) (k := 3) dL_law_1495 hO hn hN (by decide) (by decide) ?_
  refine pv_i2l (pc := 1496) dL_law_1496 ?_
  refine pv_bipush (pc := 1497) (v := 32) dL_law_1497 (by decide) ?_
  refine pv_lshl (pc := 1499) dL_law_1499 rfl ?_
  refine pv_aload_0 (pc := 1500) dL_law_1500 ?_
  refine pv_iload_3 (pc := 1501) dL_law_1501 ?_
  refine pv_iconst (pc := 1502) (v := 4) dL_law_1502 (by decide) ?_
  refine pv_iadd (pc := 1503) dL_law_1503 ?_
  refine pl_ia (pc := 1504) (k := 4) dL_law_1504 hO hn hN (by decide) (by decide) ?_
  refine pv_i2l (pc := 1505) dL_law_1505 ?_
  refine pv_ldc2 (pc := 1506) dL_law_1506 k_L_18 ?_
  refine pv_land (pc := 1509) dL_law_1509 ?_
  refine pv_lor (pc := 1510) dL_law_1510 ?_
  refine pv_aload_0 (pc := 1511) dL_law_1511 ?_
  refine pv_iload_3 (pc := 1512) dL_law_1512 ?_
  refine pv_iconst (pc := 1513) (v := 5) dL_law_1513 (by decide) ?_
  refine pv_iadd (pc := 1514) dL_law_1514 ?_
  refine pl_ia (pc := 1515) (k := 5) dL_law_1515 hO hn hN (by decide) (by decide) ?_
  refine pv_callVq (pc := 1516) dL_law_1516 mgX11_side lv_L_132_11 (by decide) (sx_16 hX.1) (by omega) (c_X11_side hW hX (by omega)) rfl rfl (Nat.le_of_ble_eq_true rfl) (fun v t I L Rf hq => ?_)
  obtain ⟨rfl, hX, hk⟩ := hq
  obtain ⟨hM, hw⟩ := law_mid hM hw hk
  refine law_l (a_side J K _ _ _) (fun x hx => ?_)
  refine pv_in (fun hO => ?_)
  refine pv_aload_2 (pc := 1519) dL_law_1519 ?_
  refine pv_aload_0 (pc := 1520) dL_law_1520 ?_
  refine pv_iload_3 (pc := 1521) dL_law_1521 ?_
  refine pv_iconst (pc := 1522) (v := 1) dL_law_1522 (by decide) ?_
  refine pv_iadd (pc := 1523) dL_law_1523 ?_
  refine pl_ia (pc := 1524) (k := 1) dL_law_1524 hO hn hN (by decide) (by decide) ?_
  refine pv_i2l (pc := 1525) dL_law_1525 ?_
  refine pv_bipush (pc := 1526) (v := 32) dL_law_1526 (by decide) ?_
  refine pv_lshl (pc := 1528) dL_law_1528 rfl ?_
  refine pv_aload_0 (pc := 1529) dL_law_1529 ?_
  refine pv_iload_3 (pc := 1530) dL_law_1530 ?_
  refine pv_iconst (pc := 1531) (v := 2) dL_law_1531 (by decide) ?_
  refine pv_iadd (pc := 1532) dL_law_1532 ?_
  refine pl_ia (pc := 1533) (k := 2) dL_law_1533 hO hn hN (by decide) (by decide) ?_
  refine pv_i2l (pc := 1534) dL_law_1534 ?_
  refine pv_ldc2 (pc := 1535) dL_law_1535 k_L_18 ?_
  refine pv_land (pc := 1538) dL_law_1538 ?_
  refine pv_lor (pc := 1539) dL_law_1539 ?_
  refine pv_aload_0 (pc := 1540) dL_law_1540 ?_
  refine pv_iload_3 (pc := 1541) dL_law_1541 ?_
  refine pv_iconst (pc := 1542) (v := 3) dL_law_1542 (by decide) ?_
  refine pv_iadd (pc := 1543) dL_law_1543 ?_
  refine pl_ia (pc := 1544) (k := 3) dL_law_1544 hO hn hN (by decide) (by decide) ?_
  refine pv_i2l (pc := 1545) dL_law_1545 ?_
  refine pv_bipush (pc := 1546) (v := 32) dL_law_1546 (by decide) ?_
  refine pv_lshl (pc := 1548) dL_law_1548 rfl ?_
  refine pv_aload_0 (pc := 1549) dL_law_1549 ?_
  refine pv_iload_3 (pc := 1550) dL_law_1550 ?_
  refine pv_iconst (pc := 1551) (v := 4) dL_law_1551 (by decide) ?_
  refine pv_iadd (pc := 1552) dL_law_1552 ?_
  refine pl_ia (pc := 1553) (k := 4) dL_law_1553 hO hn hN (by decide) (by decide) ?_
  refine pv_i2l (pc := 1554) dL_law_1554 ?_
  refine pv_ldc2 (pc := 1555) dL_law_1555 k_L_18 ?_
  refine pv_land (pc := 1558) dL_law_1558 ?_
  refine pv_lor (pc := 1559) dL_law_1559 ?_
  refine pv_aload_0 (pc := 1560) dL_law_1560 ?_
  refine pv_iload_3 (pc := 1561) dL_law_1561 ?_
  refine pv_iconst (pc := 1562) (v := 5) dL_law_1562 (by decide) ?_
  refine pv_iadd (pc := 1563) dL_law_1563 ?_
  refine pl_ia (pc := 1564) (k := 5) dL_law_1564 hO hn hN (by decide) (by decide) ?_
  refine pv_callVq (pc := 1565) dL_law_1565 mgX12_side lv_L_136_12 (by decide) (sx_61 hX.1) (by omega) (c_X12_side hX.1 hX.2.1 hW hM (by omega)) rfl rfl (Nat.le_of_ble_eq_true rfl) (fun v t I L Rf hq => ?_)
  obtain ⟨rfl, rfl, rfl, hM, hkX⟩ := hq
  refine law_m hx ?_
  refine pv_lcmp_eq (pc := 1568) (tgt := 2221) dL_law_1568 dL_law_1569 (by decide) (fun h1568 => ?_) (fun h1568 => absurd h1568 (fun q => q rfl))
  exact next _ _ _ _ _ _ (law_fin (wf_side hW _ _ _) hX hM hw hkX)

set_option maxRecDepth 100000 in
set_option maxHeartbeats 4000000 in
theorem lc_over {G : pv_G} {d mc ms bc bs n : Nat} {J : pv_I} {K : pv_L} {t : pv_T} {I : pv_I} {L : pv_L} {Rf : pv_R} (hF : fk_ok G) (hd : 200 ≤ d) (hn : n + 9 ≤ G.2.2.2.1) (hN : G.2.2.2.1 ≤ 4608) (hO : pv_X G t I) (h : LW J K t I L Rf) (next : ∀ J K t I L Rf, LW J K t I L Rf → pv_V G mL_law d mc ms q_L bc bs 2221 [.ref 0, .ref 16, .ref 61, .int (Int32.ofNat n)] [] t I L Rf) : pv_V G mL_law d mc ms q_L (bc + 0) (bs + 0) 1574 [.ref 0, .ref 16, .ref 61, .int (Int32.ofNat n)] [] t I L Rf := by
  obtain ⟨hW, hX, hM, hw⟩ := h
  refine pv_aload_1 (pc := 1574) dL_law_1574 ?_
  refine pv_aload_0 (pc := 1575) dL_law_1575 ?_
  refine pv_iload_3 (pc := 1576) dL_law_1576 ?_
  refine pv_iconst (pc := 1577) (v := 1) dL_law_1577 (by decide) ?_
  refine pv_iadd (pc := 1578) dL_law_1578 ?_
  refine pl_ia (pc := 1579) (k := 1) dL_law_1579 hO hn hN (by decide) (by decide) ?_
  refine pv_i2l (pc := 1580) dL_law_1580 ?_
  refine pv_bipush (pc := 1581) (v := 32) dL_law_1581 (by decide) ?_
  refine pv_lshl (pc := 1583) dL_law_1583 rfl ?_
  refine pv_aload_0 (pc := 1584) dL_law_1584 ?_
  refine pv_iload_3 (pc := 1585) dL_law_1585 ?_
  refine pv_iconst (pc := 1586) (v := 2) dL_law_1586 (by decide) ?_
  refine pv_iadd (pc := 1587) dL_law_1587 ?_
  refine pl_ia (pc := 1588) (k := 2) dL_law_1588 hO hn hN (by decide) (by decide) ?_
  refine pv_i2l (pc := 1589) dL_law_1589 ?_
  refine pv_ldc2 (pc := 1590) dL_law_1590 k_L_18 ?_
  refine pv_land (pc := 1593) dL_law_1593 ?_
  refine pv_lor (pc := 1594) dL_law_1594 ?_
  refine pv_aload_0 (pc := 1595) dL_law_1595 ?_
  refine pv_iload_3 (pc := 1596) dL_law_1596 ?_
  refine pv_iconst (pc := 1597) (v := 3) dL_law_1597 (by decide) ?_
  refine pv_iadd (pc := 1598) dL_law_1598 ?_
  refine pl_ia (pc := 1599) (k := 3) dL_law_1599 hO hn hN (by decide) (by decide) ?_
  refine pv_i2l (pc := 1600) dL_law_1600 ?_
  refine pv_bipush (pc := 1601) (v := 32) dL_law_1601 (by decide) ?_
  refine pv_lshl (pc := 1603) dL_law_1603 rfl ?_
  refine pv_aload_0 (pc := 1604) dL_law_1604 ?_
  refine pv_iload_3 (pc := 1605) dL_law_1605 ?_
  refine pv_iconst (pc := 1606) (v := 4) dL_law_1606 (by decide) ?_
  refine pv_iadd (pc := 1607) dL_law_1607 ?_
  refine pl_ia (pc := 1608) (k := 4) dL_law_1608 hO hn hN (by decide) (by decide) ?_
  refine pv_i2l (pc := 1609) dL_law_1609 ?_
  refine pv_ldc2 (pc := 1610) dL_law_1610 k_L_18 ?_
  refine pv_land (pc := 1613) dL_law_1613 ?_
  refine pv_lor (pc := 1614) dL_law_1614 ?_
  refine pv_aload_0 (pc := 1615) dL_law_1615 ?_
  refine pv_iload_3 (pc := 1616) dL_law_1616 ?_
  refine pv_iconst (pc := 1617) (v := 5) dL_law_1617 (by decide) ?_
  refine pv_iadd (pc := 1618) dL_law_1618 ?_
  refine pl_ia (pc := 1619) (k := 5) dL_law_1619 hO hn hN (by decide) (by decide) ?_
  refine pv_callVq (pc := 1620) dL_law_1620 mgX11_over lv_L_137_11 (by decide) (sx_16 hX.1) (by omega) (c_X11_over hW hX (by omega)) rfl rfl (Nat.le_of_ble_eq_true rfl) (fun v t I L Rf hq => ?_)
  obtain ⟨rfl, hX, hk⟩ := hq
  obtain ⟨hM, hw⟩ := law_mid hM hw hk
  refine law_l (a_over J K _ _ _) (fun x hx => ?_)
  refine pv_in (fun hO => ?_)
  refine pv_aload_2 (pc := 1623) dL_law_1623 ?_
  refine pv_aload_0 (pc := 1624) dL_law_1624 ?_
  refine pv_iload_3 (pc := 1625) dL_law_1625 ?_
  refine pv_iconst (pc := 1626) (v := 1) dL_law_1626 (by decide) ?_
  refine pv_iadd (pc := 1627) dL_law_1627 ?_
  refine pl_ia (pc := 1628) (k := 1) dL_law_1628 hO hn hN (by decide) (by decide) ?_
  refine pv_i2l (pc := 1629) dL_law_1629 ?_
  refine pv_bipush (pc := 1630) (v := 32) dL_law_1630 (by decide) ?_
  refine pv_lshl (pc := 1632) dL_law_1632 rfl ?_
  refine pv_aload_0 (pc := 1633) dL_law_1633 ?_
  refine pv_iload_3 (pc := 1634) dL_law_1634 ?_
  refine pv_iconst (pc := 1635) (v := 2) dL_law_1635 (by decide) ?_
  refine pv_iadd (pc := 1636) dL_law_1636 ?_
  refine pl_ia (pc := 1637) (k := 2) dL_law_1637 hO hn hN (by decide) (by decide) ?_
  refine pv_i2l (pc := 1638) dL_law_1638 ?_
  refine pv_ldc2 (pc := 1639) dL_law_1639 k_L_18 ?_
  refine pv_land (pc := 1642) dL_law_1642 ?_
  refine pv_lor (pc := 1643) dL_law_1643 ?_
  refine pv_aload_0 (pc := 1644) dL_law_1644 ?_
  refine pv_iload_3 (pc := 1645) dL_law_1645 ?_
  refine pv_iconst (pc := 1646) (v := 3) dL_law_1646 (by decide) ?_
  refine pv_iadd (pc := 1647) dL_law_1647 ?_
  refine pl_ia (pc := 1648) (k := 3) dL_law_1648 hO hn hN (by decide) (by decide) ?_
  refine pv_i2l (pc := 1649) dL_law_1649 ?_
  refine pv_bipush (pc := 1650) (v := 32) dL_law_1650 (by decide) ?_
  refine pv_lshl (pc := 1652) dL_law_1652 rfl ?_
  refine pv_aload_0 (pc := 1653) dL_law_1653 ?_
  refine pv_iload_3 (pc := 1654) dL_law_1654 ?_
  refine pv_iconst (pc := 1655) (v := 4) dL_law_1655 (by decide) ?_
  refine pv_iadd (pc := 1656) dL_law_1656 ?_
  refine pl_ia (pc := 1657) (k := 4) dL_law_1657 hO hn hN (by decide) (by decide) ?_
  refine pv_i2l (pc := 1658) dL_law_1658 ?_
  refine pv_ldc2 (pc := 1659) dL_law_1659 k_L_18 ?_
  refine pv_land (pc := 1662) dL_law_1662 ?_
  refine pv_lor (pc := 1663) dL_law_1663 ?_
  refine pv_aload_0 (pc := 1664) dL_law_1664 ?_
  refine pv_iload_3 (pc := 1665) dL_law_1665 ?_
  refine pv_iconst (pc := 1666) (v := 5) dL_law_1666 (by decide) ?_
  refine pv_iadd (pc := 1667) dL_law_1667 ?_
  refine pl_ia (pc := 1668) (k := 5) dL_law_1668 hO hn hN (by decide) (by decide) ?_
  refine pv_callVq (pc := 1669) dL_law_1669 mgX12_over lv_L_140_12 (by decide) (sx_61 hX.1) (by omega) (c_X12_over hX.1 hX.2.1 hW hM (by omega)) rfl rfl (Nat.le_of_ble_eq_true rfl) (fun v t I L Rf hq => ?_)
  obtain ⟨rfl, rfl, rfl, hM, hkX⟩ := hq
  refine law_m hx ?_
  refine pv_lcmp_eq (pc := 1672) (tgt := 2221) dL_law_1672 dL_law_1673 (by decide) (fun h1672 => ?_) (fun h1672 => absurd h1672 (fun q => q rfl))
  exact next _ _ _ _ _ _ (law_fin (wf_over hW _ _ _) hX hM hw hkX)

set_option maxRecDepth 100000 in
set_option maxHeartbeats 4000000 in
theorem lc_closed {G : pv_G} {d mc ms bc bs n : Nat} {J : pv_I} {K : pv_L} {t : pv_T} {I : pv_I} {L : pv_L} {Rf : pv_R} (hF : fk_ok G) (hd : 200 ≤ d) (hn : n + 9 ≤ G.2.2.2.1) (hN : G.2.2.2.1 ≤ 4608) (hO : pv_X G t I) (h : LW J K t I L Rf) (next : ∀ J K t I L Rf, LW J K t I L Rf → pv_V G mL_law d mc ms q_L bc bs 2221 [.ref 0, .ref 16, .ref 61, .int (Int32.ofNat n)] [] t I L Rf) : pv_V G mL_law d mc ms q_L (bc + 0) (bs + 0) 1678 [.ref 0, .ref 16, .ref 61, .int (Int32.ofNat n)] [] t I L Rf := by
  obtain ⟨hW, hX, hM, hw⟩ := h
  refine pv_aload_1 (pc := 1678) dL_law_1678 ?_
  refine pv_aload_0 (pc := 1679) dL_law_1679 ?_
  refine pv_iload_3 (pc := 1680) dL_law_1680 ?_
  refine pv_iconst (pc := 1681) (v := 1) dL_law_1681 (by decide) ?_
  refine pv_iadd (pc := 1682) dL_law_1682 ?_
  refine pl_ia (pc := 1683) (k := 1) dL_law_1683 hO hn hN (by decide) (by decide) ?_
  refine pv_if_eq (pc := 1684) (tgt := 1691) dL_law_1684 (by decide) (fun h1684 => ?_) (fun h1684 => ?_)
  · refine pv_iconst (pc := 1691) (v := 0) dL_law_1691 (by decide) ?_
    refine pv_callVq (pc := 1692) dL_law_1692 mgX11_closed lv_L_141_11 (by decide) (sx_16 hX.1) (by omega) (c_X11_closed (o := false) hW hX (by omega)) rfl rfl (Nat.le_of_ble_eq_true rfl) (fun v t I L Rf hq => ?_)
    obtain ⟨rfl, hX, hk⟩ := hq
    obtain ⟨hM, hw⟩ := law_mid hM hw hk
    refine law_i (a_closed J K false) (fun x hx => ?_)
    refine pv_in (fun hO => ?_)
    refine pv_aload_2 (pc := 1695) dL_law_1695 ?_
    refine pv_aload_0 (pc := 1696) dL_law_1696 ?_
    refine pv_iload_3 (pc := 1697) dL_law_1697 ?_
    refine pv_iconst (pc := 1698) (v := 1) dL_law_1698 (by decide) ?_
    refine pv_iadd (pc := 1699) dL_law_1699 ?_
    refine pl_ia (pc := 1700) (k := 1) dL_law_1700 hO hn hN (by decide) (by decide) ?_
    refine pv_if_eq (pc := 1701) (tgt := 1708) dL_law_1701 (by decide) (fun h1701 => ?_) (fun h1701 => absurd h1684 h1701)
    refine pv_iconst (pc := 1708) (v := 0) dL_law_1708 (by decide) ?_
    refine pv_callVq (pc := 1709) dL_law_1709 mgX12_closed lv_L_145_12 (by decide) (sx_61 hX.1) (by omega) (c_X12_closed (o := false) hX.1 hX.2.1 hW hM (by omega)) rfl rfl (Nat.le_of_ble_eq_true rfl) (fun v t I L Rf hq => ?_)
    obtain ⟨rfl, rfl, rfl, hM, hkX⟩ := hq
    refine law_m hx ?_
    refine pv_icmp_eq (pc := 1712) (tgt := 2221) dL_law_1712 (by decide) (fun h1712 => ?_) (fun h1712 => absurd h1712 (fun q => q rfl))
    exact next _ _ _ _ _ _ (law_fin (wf_closed hW _) hX hM hw hkX)
  · refine pv_iconst (pc := 1687) (v := 1) dL_law_1687 (by decide) ?_
    refine pv_goto (pc := 1688) (tgt := 1692) dL_law_1688 (by decide) ?_
    refine pv_callVq (pc := 1692) dL_law_1692 mgX11_closed lv_L_141_11 (by decide) (sx_16 hX.1) (by omega) (c_X11_closed (o := true) hW hX (by omega)) rfl rfl (Nat.le_of_ble_eq_true rfl) (fun v t I L Rf hq => ?_)
    obtain ⟨rfl, hX, hk⟩ := hq
    obtain ⟨hM, hw⟩ := law_mid hM hw hk
    refine law_i (a_closed J K true) (fun x hx => ?_)
    refine pv_in (fun hO => ?_)
    refine pv_aload_2 (pc := 1695) dL_law_1695 ?_
    refine pv_aload_0 (pc := 1696) dL_law_1696 ?_
    refine pv_iload_3 (pc := 1697) dL_law_1697 ?_
    refine pv_iconst (pc := 1698) (v := 1) dL_law_1698 (by decide) ?_
    refine pv_iadd (pc := 1699) dL_law_1699 ?_
    refine pl_ia (pc := 1700) (k := 1) dL_law_1700 hO hn hN (by decide) (by decide) ?_
    refine pv_if_eq (pc := 1701) (tgt := 1708) dL_law_1701 (by decide) (fun h1701 => absurd h1701 h1684) (fun h1701 => ?_)
    refine pv_iconst (pc := 1704) (v := 1) dL_law_1704 (by decide) ?_
    refine pv_goto (pc := 1705) (tgt := 1709) dL_law_1705 (by decide) ?_
    refine pv_callVq (pc := 1709) dL_law_1709 mgX12_closed lv_L_145_12 (by decide) (sx_61 hX.1) (by omega) (c_X12_closed (o := true) hX.1 hX.2.1 hW hM (by omega)) rfl rfl (Nat.le_of_ble_eq_true rfl) (fun v t I L Rf hq => ?_)
    obtain ⟨rfl, rfl, rfl, hM, hkX⟩ := hq
    refine law_m hx ?_
    refine pv_icmp_eq (pc := 1712) (tgt := 2221) dL_law_1712 (by decide) (fun h1712 => ?_) (fun h1712 => absurd h1712 (fun q => q rfl))
    exact next _ _ _ _ _ _ (law_fin (wf_closed hW _) hX hM hw hkX)

set_option maxRecDepth 100000 in
set_option maxHeartbeats 4000000 in
theorem lc_coloured {G : pv_G} {d mc ms bc bs n : Nat} {J : pv_I} {K : pv_L} {t : pv_T} {I : pv_I} {L : pv_L} {Rf : pv_R} (hF : fk_ok G) (hd : 200 ≤ d) (hn : n + 9 ≤ G.2.2.2.1) (hN : G.2.2.2.1 ≤ 4608) (hO : pv_X G t I) (h : LW J K t I L Rf) (next : ∀ J K t I L Rf, LW J K t I L Rf → pv_V G mL_law d mc ms q_L bc bs 2221 [.ref 0, .ref 16, .ref 61, .int (Int32.ofNat n)] [] t I L Rf) : pv_V G mL_law d mc ms q_L (bc + 0) (bs + 0) 1717 [.ref 0, .ref 16, .ref 61, .int (Int32.ofNat n)] [] t I L Rf := by
  obtain ⟨hW, hX, hM, hw⟩ := h
  refine pv_aload_1 (pc := 1717) dL_law_1717 ?_
  refine pv_aload_0 (pc := 1718) dL_law_1718 ?_
  refine pv_iload_3 (pc := 1719) dL_law_1719 ?_
  refine pv_iconst (pc := 1720) (v := 1) dL_law_1720 (by decide) ?_
  refine pv_iadd (pc := 1721) dL_law_1721 ?_
  refine pl_ia (pc := 1722) (k := 1) dL_law_1722 hO hn hN (by decide) (by decide) ?_
  refine pv_callVq (pc := 1723) dL_law_1723 mgX11_coloured lv_L_146_11 (by decide) (sx_16 hX.1) (by omega) (c_X11_coloured hW hX (by omega)) rfl rfl (Nat.le_of_ble_eq_true rfl) (fun v t I L Rf hq => ?_)
  obtain ⟨rfl, hX, hk⟩ := hq
  obtain ⟨hM, hw⟩ := law_mid hM hw hk
  refine law_l (a_coloured J K _) (fun x hx => ?_)
  refine pv_in (fun hO => ?_)
  refine pv_aload_2 (pc := 1726) dL_law_1726 ?_
  refine pv_aload_0 (pc := 1727) dL_law_1727 ?_
  refine pv_iload_3 (pc := 1728) dL_law_1728 ?_
  refine pv_iconst (pc := 1729) (v := 1) dL_law_1729 (by decide) ?_
  refine pv_iadd (pc := 1730) dL_law_1730 ?_
  refine pl_ia (pc := 1731) (k := 1) dL_law_1731 hO hn hN (by decide) (by decide) ?_
  refine pv_callVq (pc := 1732) dL_law_1732 mgX12_coloured lv_L_149_12 (by decide) (sx_61 hX.1) (by omega) (c_X12_coloured hX.1 hX.2.1 hW hM (by omega)) rfl rfl (Nat.le_of_ble_eq_true rfl) (fun v t I L Rf hq => ?_)
  obtain ⟨rfl, rfl, rfl, hM, hkX⟩ := hq
  refine law_m hx ?_
  refine pv_lcmp_eq (pc := 1735) (tgt := 2221) dL_law_1735 dL_law_1736 (by decide) (fun h1735 => ?_) (fun h1735 => absurd h1735 (fun q => q rfl))
  exact next _ _ _ _ _ _ (law_fin (wf_coloured hW _) hX hM hw hkX)

set_option maxRecDepth 100000 in
set_option maxHeartbeats 4000000 in
theorem lc_forgot {G : pv_G} {d mc ms bc bs n : Nat} {J : pv_I} {K : pv_L} {t : pv_T} {I : pv_I} {L : pv_L} {Rf : pv_R} (hF : fk_ok G) (hd : 200 ≤ d) (hn : n + 9 ≤ G.2.2.2.1) (hN : G.2.2.2.1 ≤ 4608) (hO : pv_X G t I) (h : LW J K t I L Rf) (next : ∀ J K t I L Rf, LW J K t I L Rf → pv_V G mL_law d mc ms q_L bc bs 2221 [.ref 0, .ref 16, .ref 61, .int (Int32.ofNat n)] [] t I L Rf) : pv_V G mL_law d mc ms q_L (bc + 0) (bs + 0) 1741 [.ref 0, .ref 16, .ref 61, .int (Int32.ofNat n)] [] t I L Rf := by
  obtain ⟨hW, hX, hM, hw⟩ := h
  refine pv_aload_1 (pc := 1741) dL_law_1741 ?_
  refine pv_aload_0 (pc := 1742) dL_law_1742 ?_
  refine pv_iload_3 (pc := 1743) dL_law_1743 ?_
  refine pv_iconst (pc := 1744) (v := 1) dL_law_1744 (by decide) ?_
  refine pv_iadd (pc := 1745) dL_law_1745 ?_
  refine pl_ia (pc := 1746) (k := 1) dL_law_1746 hO hn hN (by decide) (by decide) ?_
  refine pv_aload_0 (pc := 1747) dL_law_1747 ?_
  refine pv_iload_3 (pc := 1748) dL_law_1748 ?_
  refine pv_iconst (pc := 1749) (v := 2) dL_law_1749 (by decide) ?_
  refine pv_iadd (pc := 1750) dL_law_1750 ?_
  refine pl_ia (pc := 1751) (k := 2) dL_law_1751 hO hn hN (by decide) (by decide) ?_
  refine pv_callVq (pc := 1752) dL_law_1752 mgX11_forgot lv_L_150_11 (by decide) (sx_16 hX.1) (by omega) (c_X11_forgot hW hX (by omega)) rfl rfl (Nat.le_of_ble_eq_true rfl) (fun v t I L Rf hq => ?_)
  obtain ⟨rfl, hX, hk⟩ := hq
  obtain ⟨hM, hw⟩ := law_mid hM hw hk
  refine law_i (a_forgot J K _ _) (fun x hx => ?_)
  refine pv_in (fun hO => ?_)
  refine pv_aload_2 (pc := 1755) dL_law_1755 ?_
  refine pv_aload_0 (pc := 1756) dL_law_1756 ?_
  refine pv_iload_3 (pc := 1757) dL_law_1757 ?_
  refine pv_iconst (pc := 1758) (v := 1) dL_law_1758 (by decide) ?_
  refine pv_iadd (pc := 1759) dL_law_1759 ?_
  refine pl_ia (pc := 1760) (k := 1) dL_law_1760 hO hn hN (by decide) (by decide) ?_
  refine pv_aload_0 (pc := 1761) dL_law_1761 ?_
  refine pv_iload_3 (pc := 1762) dL_law_1762 ?_
  refine pv_iconst (pc := 1763) (v := 2) dL_law_1763 (by decide) ?_
  refine pv_iadd (pc := 1764) dL_law_1764 ?_
  refine pl_ia (pc := 1765) (k := 2) dL_law_1765 hO hn hN (by decide) (by decide) ?_
  refine pv_callVq (pc := 1766) dL_law_1766 mgX12_forgot lv_L_153_12 (by decide) (sx_61 hX.1) (by omega) (c_X12_forgot hX.1 hX.2.1 hW hM (by omega)) rfl rfl (Nat.le_of_ble_eq_true rfl) (fun v t I L Rf hq => ?_)
  obtain ⟨rfl, rfl, rfl, hM, hkX⟩ := hq
  refine law_m hx ?_
  refine pv_icmp_eq (pc := 1769) (tgt := 2221) dL_law_1769 (by decide) (fun h1769 => ?_) (fun h1769 => absurd h1769 (fun q => q rfl))
  exact next _ _ _ _ _ _ (law_fin (wf_forgot hW _ _) hX hM hw hkX)

set_option maxRecDepth 100000 in
set_option maxHeartbeats 4000000 in
theorem lc_may {G : pv_G} {d mc ms bc bs n : Nat} {J : pv_I} {K : pv_L} {t : pv_T} {I : pv_I} {L : pv_L} {Rf : pv_R} (hF : fk_ok G) (hd : 200 ≤ d) (hn : n + 9 ≤ G.2.2.2.1) (hN : G.2.2.2.1 ≤ 4608) (hO : pv_X G t I) (h : LW J K t I L Rf) (next : ∀ J K t I L Rf, LW J K t I L Rf → pv_V G mL_law d mc ms q_L bc bs 2221 [.ref 0, .ref 16, .ref 61, .int (Int32.ofNat n)] [] t I L Rf) : pv_V G mL_law d mc ms q_L (bc + 0) (bs + 0) 1774 [.ref 0, .ref 16, .ref 61, .int (Int32.ofNat n)] [] t I L Rf := by
  obtain ⟨hW, hX, hM, hw⟩ := h
  refine pv_aload_1 (pc := 1774) dL_law_1774 ?_
  refine pv_aload_0 (pc := 1775) dL_law_1775 ?_
  refine pv_iload_3 (pc := 1776) dL_law_1776 ?_
  refine pv_iconst (pc := 1777) (v := 1) dL_law_1777 (by decide) ?_
  refine pv_iadd (pc := 1778) dL_law_1778 ?_
  refine pl_ia (pc := 1779) (k := 1) dL_law_1779 hO hn hN (by decide) (by decide) ?_
  refine pv_aload_0 (pc := 1780) dL_law_1780 ?_
  refine pv_iload_3 (pc := 1781) dL_law_1781 ?_
  refine pv_iconst (pc := 1782) (v := 2) dL_law_1782 (by decide) ?_
  refine pv_iadd (pc := 1783) dL_law_1783 ?_
  refine pl_ia (pc := 1784) (k := 2) dL_law_1784 hO hn hN (by decide) (by decide) ?_
  refine pv_aload_0 (pc := 1785) dL_law_1785 ?_
  refine pv_iload_3 (pc := 1786) dL_law_1786 ?_
  refine pv_iconst (pc := 1787) (v := 3) dL_law_1787 (by decide) ?_
  refine pv_iadd (pc := 1788) dL_law_1788 ?_
  refine pl_ia (pc := 1789) (k := 3) dL_law_1789 hO hn hN (by decide) (by decide) ?_
  refine pv_callVq (pc := 1790) dL_law_1790 mgX11_may lv_L_154_11 (by decide) (sx_16 hX.1) (by omega) (c_X11_may hW hX (by omega)) rfl rfl (Nat.le_of_ble_eq_true rfl) (fun v t I L Rf hq => ?_)
  obtain ⟨rfl, hX, hk⟩ := hq
  obtain ⟨hM, hw⟩ := law_mid hM hw hk
  refine law_l (a_may J K _ _ _) (fun x hx => ?_)
  refine pv_in (fun hO => ?_)
  refine pv_aload_2 (pc := 1793) dL_law_1793 ?_
  refine pv_aload_0 (pc := 1794) dL_law_1794 ?_
  refine pv_iload_3 (pc := 1795) dL_law_1795 ?_
  refine pv_iconst (pc := 1796) (v := 1) dL_law_1796 (by decide) ?_
  refine pv_iadd (pc := 1797) dL_law_1797 ?_
  refine pl_ia (pc := 1798) (k := 1) dL_law_1798 hO hn hN (by decide) (by decide) ?_
  refine pv_aload_0 (pc := 1799) dL_law_1799 ?_
  refine pv_iload_3 (pc := 1800) dL_law_1800 ?_
  refine pv_iconst (pc := 1801) (v := 2) dL_law_1801 (by decide) ?_
  refine pv_iadd (pc := 1802) dL_law_1802 ?_
  refine pl_ia (pc := 1803) (k := 2) dL_law_1803 hO hn hN (by decide) (by decide) ?_
  refine pv_aload_0 (pc := 1804) dL_law_1804 ?_
  refine pv_iload_3 (pc := 1805) dL_law_1805 ?_
  refine pv_iconst (pc := 1806) (v := 3) dL_law_1806 (by decide) ?_
  refine pv_iadd (pc := 1807) dL_law_1807 ?_
  refine pl_ia (pc := 1808) (k := 3) dL_law_1808 hO hn hN (by decide) (by decide) ?_
  refine pv_callVq (pc := 1809) dL_law_1809 mgX12_may lv_L_157_12 (by decide) (sx_61 hX.1) (by omega) (c_X12_may hX.1 hX.2.1 hW hM (by omega)) rfl rfl (Nat.le_of_ble_eq_true rfl) (fun v t I L Rf hq => ?_)
  obtain ⟨rfl, rfl, rfl, hM, hkX⟩ := hq
  refine law_m hx ?_
  refine pv_lcmp_eq (pc := 1812) (tgt := 2221) dL_law_1812 dL_law_1813 (by decide) (fun h1812 => ?_) (fun h1812 => absurd h1812 (fun q => q rfl))
  exact next _ _ _ _ _ _ (law_fin (wf_may hW _ _ _) hX hM hw hkX)

set_option maxRecDepth 100000 in
set_option maxHeartbeats 4000000 in
theorem lc_kept {G : pv_G} {d mc ms bc bs n : Nat} {J : pv_I} {K : pv_L} {t : pv_T} {I : pv_I} {L : pv_L} {Rf : pv_R} (hF : fk_ok G) (hd : 200 ≤ d) (hn : n + 9 ≤ G.2.2.2.1) (hN : G.2.2.2.1 ≤ 4608) (hO : pv_X G t I) (h : LW J K t I L Rf) (next : ∀ J K t I L Rf, LW J K t I L Rf → pv_V G mL_law d mc ms q_L bc bs 2221 [.ref 0, .ref 16, .ref 61, .int (Int32.ofNat n)] [] t I L Rf) : pv_V G mL_law d mc ms q_L (bc + 0) (bs + 0) 1818 [.ref 0, .ref 16, .ref 61, .int (Int32.ofNat n)] [] t I L Rf := by
  obtain ⟨hW, hX, hM, hw⟩ := h
  refine pv_aload_1 (pc := 1818) dL_law_1818 ?_
  refine pv_aload_0 (pc := 1819) dL_law_1819 ?_
  refine pv_iload_3 (pc := 1820) dL_law_1820 ?_
  refine pv_iconst (pc := 1821) (v := 1) dL_law_1821 (by decide) ?_
  refine pv_iadd (pc := 1822) dL_law_1822 ?_
  refine pl_ia (pc := 1823) (k := 1) dL_law_1823 hO hn hN (by decide) (by decide) ?_
  refine pv_aload_0 (pc := 1824) dL_law_1824 ?_
  refine pv_iload_3 (pc := 1825) dL_law_1825 ?_
  refine pv_iconst (pc := 1826) (v := 2) dL_law_1826 (by decide) ?_
  refine pv_iadd (pc := 1827) dL_law_1827 ?_
  refine pl_ia (pc := 1828) (k := 2) dL_law_1828 hO hn hN (by decide) (by decide) ?_
  refine pv_i2l (pc := 1829) dL_law_1829 ?_
  refine pv_bipush (pc := 1830) (v := 32) dL_law_1830 (by decide) ?_
  refine pv_lshl (pc := 1832) dL_law_1832 rfl ?_
  refine pv_aload_0 (pc := 1833) dL_law_1833 ?_
  refine pv_iload_3 (pc := 1834) dL_law_1834 ?_
  refine pv_iconst (pc := 1835) (v := 3) dL_law_1835 (by decide) ?_
  refine pv_iadd (pc := 1836) dL_law_1836 ?_
  refine pl_ia (pc := 1837) (k := 3) dL_law_1837 hO hn hN (by decide) (by decide) ?_
  refine pv_i2l (pc := 1838) dL_law_1838 ?_
  refine pv_ldc2 (pc := 1839) dL_law_1839 k_L_18 ?_
  refine pv_land (pc := 1842) dL_law_1842 ?_
  refine pv_lor (pc := 1843) dL_law_1843 ?_
  refine pv_callVq (pc := 1844) dL_law_1844 mgX11_kept lv_L_158_11 (by decide) (sx_16 hX.1) (by omega) (c_X11_kept hW hX (by omega)) rfl rfl (Nat.le_of_ble_eq_true rfl) (fun v t I L Rf hq => ?_)
  obtain ⟨rfl, hX, hk⟩ := hq
  obtain ⟨hM, hw⟩ := law_mid hM hw hk
  refine law_i (a_kept J K _ _) (fun x hx => ?_)
  refine pv_in (fun hO => ?_)
  refine pv_aload_2 (pc := 1847) dL_law_1847 ?_
  refine pv_aload_0 (pc := 1848) dL_law_1848 ?_
  refine pv_iload_3 (pc := 1849) dL_law_1849 ?_
  refine pv_iconst (pc := 1850) (v := 1) dL_law_1850 (by decide) ?_
  refine pv_iadd (pc := 1851) dL_law_1851 ?_
  refine pl_ia (pc := 1852) (k := 1) dL_law_1852 hO hn hN (by decide) (by decide) ?_
  refine pv_aload_0 (pc := 1853) dL_law_1853 ?_
  refine pv_iload_3 (pc := 1854) dL_law_1854 ?_
  refine pv_iconst (pc := 1855) (v := 2) dL_law_1855 (by decide) ?_
  refine pv_iadd (pc := 1856) dL_law_1856 ?_
  refine pl_ia (pc := 1857) (k := 2) dL_law_1857 hO hn hN (by decide) (by decide) ?_
  refine pv_i2l (pc := 1858) dL_law_1858 ?_
  refine pv_bipush (pc := 1859) (v := 32) dL_law_1859 (by decide) ?_
  refine pv_lshl (pc := 1861) dL_law_1861 rfl ?_
  refine pv_aload_0 (pc := 1862) dL_law_1862 ?_
  refine pv_iload_3 (pc := 1863) dL_law_1863 ?_
  refine pv_iconst (pc := 1864) (v := 3) dL_law_1864 (by decide) ?_
  refine pv_iadd (pc := 1865) dL_law_1865 ?_
  refine pl_ia (pc := 1866) (k := 3) dL_law_1866 hO hn hN (by decide) (by decide) ?_
  refine pv_i2l (pc := 1867) dL_law_1867 ?_
  refine pv_ldc2 (pc := 1868) dL_law_1868 k_L_18 ?_
  refine pv_land (pc := 1871) dL_law_1871 ?_
  refine pv_lor (pc := 1872) dL_law_1872 ?_
  refine pv_callVq (pc := 1873) dL_law_1873 mgX12_kept lv_L_162_12 (by decide) (sx_61 hX.1) (by omega) (c_X12_kept hX.1 hX.2.1 hW hM (by omega)) rfl rfl (Nat.le_of_ble_eq_true rfl) (fun v t I L Rf hq => ?_)
  obtain ⟨rfl, rfl, rfl, hM, hkX⟩ := hq
  refine law_m hx ?_
  refine pv_icmp_eq (pc := 1876) (tgt := 2221) dL_law_1876 (by decide) (fun h1876 => ?_) (fun h1876 => absurd h1876 (fun q => q rfl))
  exact next _ _ _ _ _ _ (law_fin (wf_kept hW _ _) hX hM hw hkX)

set_option maxRecDepth 100000 in
set_option maxHeartbeats 4000000 in
theorem lc_lot {G : pv_G} {d mc ms bc bs n : Nat} {J : pv_I} {K : pv_L} {t : pv_T} {I : pv_I} {L : pv_L} {Rf : pv_R} (hF : fk_ok G) (hd : 200 ≤ d) (hn : n + 9 ≤ G.2.2.2.1) (hN : G.2.2.2.1 ≤ 4608) (hO : pv_X G t I) (h : LW J K t I L Rf) (next : ∀ J K t I L Rf, LW J K t I L Rf → pv_V G mL_law d mc ms q_L bc bs 2221 [.ref 0, .ref 16, .ref 61, .int (Int32.ofNat n)] [] t I L Rf) : pv_V G mL_law d mc ms q_L (bc + 0) (bs + 0) 1881 [.ref 0, .ref 16, .ref 61, .int (Int32.ofNat n)] [] t I L Rf := by
  obtain ⟨hW, hX, hM, hw⟩ := h
  refine pv_aload_1 (pc := 1881) dL_law_1881 ?_
  refine pv_aload_0 (pc := 1882) dL_law_1882 ?_
  refine pv_iload_3 (pc := 1883) dL_law_1883 ?_
  refine pv_iconst (pc := 1884) (v := 1) dL_law_1884 (by decide) ?_
  refine pv_iadd (pc := 1885) dL_law_1885 ?_
  refine pl_ia (pc := 1886) (k := 1) dL_law_1886 hO hn hN (by decide) (by decide) ?_
  refine pv_aload_0 (pc := 1887) dL_law_1887 ?_
  refine pv_iload_3 (pc := 1888) dL_law_1888 ?_
  refine pv_iconst (pc := 1889) (v := 2) dL_law_1889 (by decide) ?_
  refine pv_iadd (pc := 1890) dL_law_1890 ?_
  refine pl_ia (pc := 1891) (k := 2) dL_law_1891 hO hn hN (by decide) (by decide) ?_
  refine pv_i2l (pc := 1892) dL_law_1892 ?_
  refine pv_bipush (pc := 1893) (v := 32) dL_law_1893 (by decide) ?_
  refine pv_lshl (pc := 1895) dL_law_1895 rfl ?_
  refine pv_aload_0 (pc := 1896) dL_law_1896 ?_
  refine pv_iload_3 (pc := 1897) dL_law_1897 ?_
  refine pv_iconst (pc := 1898) (v := 3) dL_law_1898 (by decide) ?_
  refine pv_iadd (pc := 1899) dL_law_1899 ?_
  refine pl_ia (pc := 1900) (k := 3) dL_law_1900 hO hn hN (by decide) (by decide) ?_
  refine pv_i2l (pc := 1901) dL_law_1901 ?_
  refine pv_ldc2 (pc := 1902) dL_law_1902 k_L_18 ?_
  refine pv_land (pc := 1905) dL_law_1905 ?_
  refine pv_lor (pc := 1906) dL_law_1906 ?_
  refine pv_aload_0 (pc := 1907) dL_law_1907 ?_
  refine pv_iload_3 (pc := 1908) dL_law_1908 ?_
  refine pv_iconst (pc := 1909) (v := 4) dL_law_1909 (by decide) ?_
  refine pv_iadd (pc := 1910) dL_law_1910 ?_
  refine pl_ia (pc := 1911) (k := 4) dL_law_1911 hO hn hN (by decide) (by decide) ?_
  refine pv_i2l (pc := 1912) dL_law_1912 ?_
  refine pv_bipush (pc := 1913) (v := 32) dL_law_1913 (by decide) ?_
  refine pv_lshl (pc := 1915) dL_law_1915 rfl ?_
  refine pv_aload_0 (pc := 1916) dL_law_1916 ?_
  refine pv_iload_3 (pc := 1917) dL_law_1917 ?_
  refine pv_iconst (pc := 1918) (v := 5) dL_law_1918 (by decide) ?_
  refine pv_iadd (pc := 1919) dL_law_1919 ?_
  refine pl_ia (pc := 1920) (k := 5) dL_law_1920 hO hn hN (by decide) (by decide) ?_
  refine pv_i2l (pc := 1921) dL_law_1921 ?_
  refine pv_ldc2 (pc := 1922) dL_law_1922 k_L_18 ?_
  refine pv_land (pc := 1925) dL_law_1925 ?_
  refine pv_lor (pc := 1926) dL_law_1926 ?_
  refine pv_callVq (pc := 1927) dL_law_1927 mgX11_lot lv_L_163_11 (by decide) (sx_16 hX.1) (by omega) (c_X11_lot hW hX (by omega)) rfl rfl (Nat.le_of_ble_eq_true rfl) (fun v t I L Rf hq => ?_)
  obtain ⟨rfl, hX, hk⟩ := hq
  obtain ⟨hM, hw⟩ := law_mid hM hw hk
  refine law_i (a_lot J K _ _ _) (fun x hx => ?_)
  refine pv_in (fun hO => ?_)
  refine pv_aload_2 (pc := 1930) dL_law_1930 ?_
  refine pv_aload_0 (pc := 1931) dL_law_1931 ?_
  refine pv_iload_3 (pc := 1932) dL_law_1932 ?_
  refine pv_iconst (pc := 1933) (v := 1) dL_law_1933 (by decide) ?_
  refine pv_iadd (pc := 1934) dL_law_1934 ?_
  refine pl_ia (pc := 1935) (k := 1) dL_law_1935 hO hn hN (by decide) (by decide) ?_
  refine pv_aload_0 (pc := 1936) dL_law_1936 ?_
  refine pv_iload_3 (pc := 1937) dL_law_1937 ?_
  refine pv_iconst (pc := 1938) (v := 2) dL_law_1938 (by decide) ?_
  refine pv_iadd (pc := 1939) dL_law_1939 ?_
  refine pl_ia (pc := 1940) (k := 2) dL_law_1940 hO hn hN (by decide) (by decide) ?_
  refine pv_i2l (pc := 1941) dL_law_1941 ?_
  refine pv_bipush (pc := 1942) (v := 32) dL_law_1942 (by decide) ?_
  refine pv_lshl (pc := 1944) dL_law_1944 rfl ?_
  refine pv_aload_0 (pc := 1945) dL_law_1945 ?_
  refine pv_iload_3 (pc := 1946) dL_law_1946 ?_
  refine pv_iconst (pc := 1947) (v := 3) dL_law_1947 (by decide) ?_
  refine pv_iadd (pc := 1948) dL_law_1948 ?_
  refine pl_ia (pc := 1949) (k := 3) dL_law_1949 hO hn hN (by decide) (by decide) ?_
  refine pv_i2l (pc := 1950) dL_law_1950 ?_
  refine pv_ldc2 (pc := 1951) dL_law_1951 k_L_18 ?_
  refine pv_land (pc := 1954) dL_law_1954 ?_
  refine pv_lor (pc := 1955) dL_law_1955 ?_
  refine pv_aload_0 (pc := 1956) dL_law_1956 ?_
  refine pv_iload_3 (pc := 1957) dL_law_1957 ?_
  refine pv_iconst (pc := 1958) (v := 4) dL_law_1958 (by decide) ?_
  refine pv_iadd (pc := 1959) dL_law_1959 ?_
  refine pl_ia (pc := 1960) (k := 4) dL_law_1960 hO hn hN (by decide) (by decide) ?_
  refine pv_i2l (pc := 1961) dL_law_1961 ?_
  refine pv_bipush (pc := 1962) (v := 32) dL_law_1962 (by decide) ?_
  refine pv_lshl (pc := 1964) dL_law_1964 rfl ?_
  refine pv_aload_0 (pc := 1965) dL_law_1965 ?_
  refine pv_iload_3 (pc := 1966) dL_law_1966 ?_
  refine pv_iconst (pc := 1967) (v := 5) dL_law_1967 (by decide) ?_
  refine pv_iadd (pc := 1968) dL_law_1968 ?_
  refine pl_ia (pc := 1969) (k := 5) dL_law_1969 hO hn hN (by decide) (by decide) ?_
  refine pv_i2l (pc := 1970) dL_law_1970 ?_
  refine pv_ldc2 (pc := 1971) dL_law_1971 k_L_18 ?_
  refine pv_land (pc := 1974) dL_law_1974 ?_
  refine pv_lor (pc := 1975) dL_law_1975 ?_
  refine pv_callVq (pc := 1976) dL_law_1976 mgX12_lot lv_L_167_12 (by decide) (sx_61 hX.1) (by omega) (c_X12_lot hX.1 hX.2.1 hW hM (by omega)) rfl rfl (Nat.le_of_ble_eq_true rfl) (fun v t I L Rf hq => ?_)
  obtain ⟨rfl, rfl, rfl, hM, hkX⟩ := hq
  refine law_m hx ?_
  refine pv_icmp_eq (pc := 1979) (tgt := 2221) dL_law_1979 (by decide) (fun h1979 => ?_) (fun h1979 => absurd h1979 (fun q => q rfl))
  exact next _ _ _ _ _ _ (law_fin (wf_lot hW _ _ _) hX hM hw hkX)

set_option maxRecDepth 100000 in
set_option maxHeartbeats 4000000 in
theorem lc_bag {G : pv_G} {d mc ms bc bs n : Nat} {J : pv_I} {K : pv_L} {t : pv_T} {I : pv_I} {L : pv_L} {Rf : pv_R} (hF : fk_ok G) (hd : 200 ≤ d) (hn : n + 9 ≤ G.2.2.2.1) (hN : G.2.2.2.1 ≤ 4608) (hO : pv_X G t I) (h : LW J K t I L Rf) (next : ∀ J K t I L Rf, LW J K t I L Rf → pv_V G mL_law d mc ms q_L bc bs 2221 [.ref 0, .ref 16, .ref 61, .int (Int32.ofNat n)] [] t I L Rf) : pv_V G mL_law d mc ms q_L (bc + 0) (bs + 0) 1984 [.ref 0, .ref 16, .ref 61, .int (Int32.ofNat n)] [] t I L Rf := by
  obtain ⟨hW, hX, hM, hw⟩ := h
  refine pv_aload_1 (pc := 1984) dL_law_1984 ?_
  refine pv_aload_0 (pc := 1985) dL_law_1985 ?_
  refine pv_iload_3 (pc := 1986) dL_law_1986 ?_
  refine pv_iconst (pc := 1987) (v := 1) dL_law_1987 (by decide) ?_
  refine pv_iadd (pc := 1988) dL_law_1988 ?_
  refine pl_ia (pc := 1989) (k := 1) dL_law_1989 hO hn hN (by decide) (by decide) ?_
  refine pv_aload_0 (pc := 1990) dL_law_1990 ?_
  refine pv_iload_3 (pc := 1991) dL_law_1991 ?_
  refine pv_iconst (pc := 1992) (v := 2) dL_law_1992 (by decide) ?_
  refine pv_iadd (pc := 1993) dL_law_1993 ?_
  refine pl_ia (pc := 1994) (k := 2) dL_law_1994 hO hn hN (by decide) (by decide) ?_
  refine pv_aload_0 (pc := 1995) dL_law_1995 ?_
  refine pv_iload_3 (pc := 1996) dL_law_1996 ?_
  refine pv_iconst (pc := 1997) (v := 3) dL_law_1997 (by decide) ?_
  refine pv_iadd (pc := 1998) dL_law_1998 ?_
  refine pl_ia (pc := 1999) (k := 3) dL_law_1999 hO hn hN (by decide) (by decide) ?_
  refine pv_aload_0 (pc := 2000) dL_law_2000 ?_
  refine pv_iload_3 (pc := 2001) dL_law_2001 ?_
  refine pv_iconst (pc := 2002) (v := 4) dL_law_2002 (by decide) ?_
  refine pv_iadd (pc := 2003) dL_law_2003 ?_
  refine pl_ia (pc := 2004) (k := 4) dL_law_2004 hO hn hN (by decide) (by decide) ?_
  refine pv_callVq (pc := 2005) dL_law_2005 mgX11_bag lv_L_168_11 (by decide) (sx_16 hX.1) (by omega) (c_X11_bag hW hX (by omega)) rfl rfl (Nat.le_of_ble_eq_true rfl) (fun v t I L Rf hq => ?_)
  obtain ⟨rfl, hX, hk⟩ := hq
  obtain ⟨hM, hw⟩ := law_mid hM hw hk
  refine law_i (a_bag J K _ _ _ _) (fun x hx => ?_)
  refine pv_in (fun hO => ?_)
  refine pv_aload_2 (pc := 2008) dL_law_2008 ?_
  refine pv_aload_0 (pc := 2009) dL_law_2009 ?_
  refine pv_iload_3 (pc := 2010) dL_law_2010 ?_
  refine pv_iconst (pc := 2011) (v := 1) dL_law_2011 (by decide) ?_
  refine pv_iadd (pc := 2012) dL_law_2012 ?_
  refine pl_ia (pc := 2013) (k := 1) dL_law_2013 hO hn hN (by decide) (by decide) ?_
  refine pv_aload_0 (pc := 2014) dL_law_2014 ?_
  refine pv_iload_3 (pc := 2015) dL_law_2015 ?_
  refine pv_iconst (pc := 2016) (v := 2) dL_law_2016 (by decide) ?_
  refine pv_iadd (pc := 2017) dL_law_2017 ?_
  refine pl_ia (pc := 2018) (k := 2) dL_law_2018 hO hn hN (by decide) (by decide) ?_
  refine pv_aload_0 (pc := 2019) dL_law_2019 ?_
  refine pv_iload_3 (pc := 2020) dL_law_2020 ?_
  refine pv_iconst (pc := 2021) (v := 3) dL_law_2021 (by decide) ?_
  refine pv_iadd (pc := 2022) dL_law_2022 ?_
  refine pl_ia (pc := 2023) (k := 3) dL_law_2023 hO hn hN (by decide) (by decide) ?_
  refine pv_aload_0 (pc := 2024) dL_law_2024 ?_
  refine pv_iload_3 (pc := 2025) dL_law_2025 ?_
  refine pv_iconst (pc := 2026) (v := 4) dL_law_2026 (by decide) ?_
  refine pv_iadd (pc := 2027) dL_law_2027 ?_
  refine pl_ia (pc := 2028) (k := 4) dL_law_2028 hO hn hN (by decide) (by decide) ?_
  refine pv_callVq (pc := 2029) dL_law_2029 mgX12_bag lv_L_172_12 (by decide) (sx_61 hX.1) (by omega) (c_X12_bag hX.1 hX.2.1 hW hM (by omega)) rfl rfl (Nat.le_of_ble_eq_true rfl) (fun v t I L Rf hq => ?_)
  obtain ⟨rfl, rfl, rfl, hM, hkX⟩ := hq
  refine law_m hx ?_
  refine pv_icmp_eq (pc := 2032) (tgt := 2221) dL_law_2032 (by decide) (fun h2032 => ?_) (fun h2032 => absurd h2032 (fun q => q rfl))
  exact next _ _ _ _ _ _ (law_fin (wf_bag hW _ _ _ _) hX hM hw hkX)

set_option maxRecDepth 100000 in
set_option maxHeartbeats 4000000 in
theorem lc_frees {G : pv_G} {d mc ms bc bs n : Nat} {J : pv_I} {K : pv_L} {t : pv_T} {I : pv_I} {L : pv_L} {Rf : pv_R} (hF : fk_ok G) (hd : 200 ≤ d) (hn : n + 9 ≤ G.2.2.2.1) (hN : G.2.2.2.1 ≤ 4608) (hO : pv_X G t I) (h : LW J K t I L Rf) (next : ∀ J K t I L Rf, LW J K t I L Rf → pv_V G mL_law d mc ms q_L bc bs 2221 [.ref 0, .ref 16, .ref 61, .int (Int32.ofNat n)] [] t I L Rf) : pv_V G mL_law d mc ms q_L (bc + 0) (bs + 0) 2037 [.ref 0, .ref 16, .ref 61, .int (Int32.ofNat n)] [] t I L Rf := by
  obtain ⟨hW, hX, hM, hw⟩ := h
  refine pv_aload_1 (pc := 2037) dL_law_2037 ?_
  refine pv_aload_0 (pc := 2038) dL_law_2038 ?_
  refine pv_iload_3 (pc := 2039) dL_law_2039 ?_
  refine pv_iconst (pc := 2040) (v := 1) dL_law_2040 (by decide) ?_
  refine pv_iadd (pc := 2041) dL_law_2041 ?_
  refine pl_ia (pc := 2042) (k := 1) dL_law_2042 hO hn hN (by decide) (by decide) ?_
  refine pv_callVq (pc := 2043) dL_law_2043 mgX11_frees lv_L_173_11 (by decide) (sx_16 hX.1) (by omega) (c_X11_frees hW hX (by omega)) rfl rfl (Nat.le_of_ble_eq_true rfl) (fun v t I L Rf hq => ?_)
  obtain ⟨rfl, hX, hk⟩ := hq
  obtain ⟨hM, hw⟩ := law_mid hM hw hk
  refine law_i (a_frees J K _) (fun x hx => ?_)
  refine pv_in (fun hO => ?_)
  refine pv_aload_2 (pc := 2046) dL_law_2046 ?_
  refine pv_aload_0 (pc := 2047) dL_law_2047 ?_
  refine pv_iload_3 (pc := 2048) dL_law_2048 ?_
  refine pv_iconst (pc := 2049) (v := 1) dL_law_2049 (by decide) ?_
  refine pv_iadd (pc := 2050) dL_law_2050 ?_
  refine pl_ia (pc := 2051) (k := 1) dL_law_2051 hO hn hN (by decide) (by decide) ?_
  refine pv_callVq (pc := 2052) dL_law_2052 mgX12_frees lv_L_176_12 (by decide) (sx_61 hX.1) (by omega) (c_X12_frees hX.1 hX.2.1 hW hM (by omega)) rfl rfl (Nat.le_of_ble_eq_true rfl) (fun v t I L Rf hq => ?_)
  obtain ⟨rfl, rfl, rfl, hM, hkX⟩ := hq
  refine law_m hx ?_
  refine pv_icmp_eq (pc := 2055) (tgt := 2221) dL_law_2055 (by decide) (fun h2055 => ?_) (fun h2055 => absurd h2055 (fun q => q rfl))
  exact next _ _ _ _ _ _ (law_fin (wf_frees hW _) hX hM hw hkX)

set_option maxRecDepth 100000 in
set_option maxHeartbeats 4000000 in
theorem lc_draws {G : pv_G} {d mc ms bc bs n : Nat} {J : pv_I} {K : pv_L} {t : pv_T} {I : pv_I} {L : pv_L} {Rf : pv_R} (hF : fk_ok G) (hd : 200 ≤ d) (hn : n + 9 ≤ G.2.2.2.1) (hN : G.2.2.2.1 ≤ 4608) (hO : pv_X G t I) (h : LW J K t I L Rf) (next : ∀ J K t I L Rf, LW J K t I L Rf → pv_V G mL_law d mc ms q_L bc bs 2221 [.ref 0, .ref 16, .ref 61, .int (Int32.ofNat n)] [] t I L Rf) : pv_V G mL_law d mc ms q_L (bc + 0) (bs + 0) 2060 [.ref 0, .ref 16, .ref 61, .int (Int32.ofNat n)] [] t I L Rf := by
  obtain ⟨hW, hX, hM, hw⟩ := h
  refine pv_aload_1 (pc := 2060) dL_law_2060 ?_
  refine pv_aload_0 (pc := 2061) dL_law_2061 ?_
  refine pv_iload_3 (pc := 2062) dL_law_2062 ?_
  refine pv_iconst (pc := 2063) (v := 1) dL_law_2063 (by decide) ?_
  refine pv_iadd (pc := 2064) dL_law_2064 ?_
  refine pl_ia (pc := 2065) (k := 1) dL_law_2065 hO hn hN (by decide) (by decide) ?_
  refine pv_callVq (pc := 2066) dL_law_2066 mgX11_draws lv_L_177_11 (by decide) (sx_16 hX.1) (by omega) (c_X11_draws hW hX (by omega)) rfl rfl (Nat.le_of_ble_eq_true rfl) (fun v t I L Rf hq => ?_)
  obtain ⟨rfl, hX, hk⟩ := hq
  obtain ⟨hM, hw⟩ := law_mid hM hw hk
  refine law_i (a_draws J K _) (fun x hx => ?_)
  refine pv_in (fun hO => ?_)
  refine pv_aload_2 (pc := 2069) dL_law_2069 ?_
  refine pv_aload_0 (pc := 2070) dL_law_2070 ?_
  refine pv_iload_3 (pc := 2071) dL_law_2071 ?_
  refine pv_iconst (pc := 2072) (v := 1) dL_law_2072 (by decide) ?_
  refine pv_iadd (pc := 2073) dL_law_2073 ?_
  refine pl_ia (pc := 2074) (k := 1) dL_law_2074 hO hn hN (by decide) (by decide) ?_
  refine pv_callVq (pc := 2075) dL_law_2075 mgX12_draws lv_L_180_12 (by decide) (sx_61 hX.1) (by omega) (c_X12_draws hX.1 hX.2.1 hW hM (by omega)) rfl rfl (Nat.le_of_ble_eq_true rfl) (fun v t I L Rf hq => ?_)
  obtain ⟨rfl, rfl, rfl, hM, hkX⟩ := hq
  refine law_m hx ?_
  refine pv_icmp_eq (pc := 2078) (tgt := 2221) dL_law_2078 (by decide) (fun h2078 => ?_) (fun h2078 => absurd h2078 (fun q => q rfl))
  exact next _ _ _ _ _ _ (law_fin (wf_draws hW _) hX hM hw hkX)

set_option maxRecDepth 100000 in
set_option maxHeartbeats 4000000 in
theorem lc_seed {G : pv_G} {d mc ms bc bs n : Nat} {J : pv_I} {K : pv_L} {t : pv_T} {I : pv_I} {L : pv_L} {Rf : pv_R} (hF : fk_ok G) (hd : 200 ≤ d) (hn : n + 9 ≤ G.2.2.2.1) (hN : G.2.2.2.1 ≤ 4608) (hO : pv_X G t I) (h : LW J K t I L Rf) (next : ∀ J K t I L Rf, LW J K t I L Rf → pv_V G mL_law d mc ms q_L bc bs 2221 [.ref 0, .ref 16, .ref 61, .int (Int32.ofNat n)] [] t I L Rf) : pv_V G mL_law d mc ms q_L (bc + 0) (bs + 0) 2083 [.ref 0, .ref 16, .ref 61, .int (Int32.ofNat n)] [] t I L Rf := by
  obtain ⟨hW, hX, hM, hw⟩ := h
  refine pv_aload_1 (pc := 2083) dL_law_2083 ?_
  refine pv_aload_0 (pc := 2084) dL_law_2084 ?_
  refine pv_iload_3 (pc := 2085) dL_law_2085 ?_
  refine pv_iconst (pc := 2086) (v := 1) dL_law_2086 (by decide) ?_
  refine pv_iadd (pc := 2087) dL_law_2087 ?_
  refine pl_ia (pc := 2088) (k := 1) dL_law_2088 hO hn hN (by decide) (by decide) ?_
  refine pv_callVq (pc := 2089) dL_law_2089 mgX11_seed lv_L_181_11 (by decide) (sx_16 hX.1) (by omega) (c_X11_seed hW hX (by omega)) rfl rfl (Nat.le_of_ble_eq_true rfl) (fun v t I L Rf hq => ?_)
  obtain ⟨rfl, hX, hk⟩ := hq
  obtain ⟨hM, hw⟩ := law_mid hM hw hk
  refine law_i (a_seed J K _) (fun x hx => ?_)
  refine pv_in (fun hO => ?_)
  refine pv_aload_2 (pc := 2092) dL_law_2092 ?_
  refine pv_aload_0 (pc := 2093) dL_law_2093 ?_
  refine pv_iload_3 (pc := 2094) dL_law_2094 ?_
  refine pv_iconst (pc := 2095) (v := 1) dL_law_2095 (by decide) ?_
  refine pv_iadd (pc := 2096) dL_law_2096 ?_
  refine pl_ia (pc := 2097) (k := 1) dL_law_2097 hO hn hN (by decide) (by decide) ?_
  refine pv_callVq (pc := 2098) dL_law_2098 mgX12_seed lv_L_184_12 (by decide) (sx_61 hX.1) (by omega) (c_X12_seed hX.1 hX.2.1 hW hM (by omega)) rfl rfl (Nat.le_of_ble_eq_true rfl) (fun v t I L Rf hq => ?_)
  obtain ⟨rfl, rfl, rfl, hM, hkX⟩ := hq
  refine law_m hx ?_
  refine pv_icmp_eq (pc := 2101) (tgt := 2221) dL_law_2101 (by decide) (fun h2101 => ?_) (fun h2101 => absurd h2101 (fun q => q rfl))
  exact next _ _ _ _ _ _ (law_fin (wf_seed hW _) hX hM hw hkX)

set_option maxRecDepth 100000 in
set_option maxHeartbeats 4000000 in
theorem lc_act {G : pv_G} {d mc ms bc bs n : Nat} {J : pv_I} {K : pv_L} {t : pv_T} {I : pv_I} {L : pv_L} {Rf : pv_R} (hF : fk_ok G) (hd : 200 ≤ d) (hn : n + 9 ≤ G.2.2.2.1) (hN : G.2.2.2.1 ≤ 4608) (hO : pv_X G t I) (h : LW J K t I L Rf) (next : ∀ J K t I L Rf, LW J K t I L Rf → pv_V G mL_law d mc ms q_L bc bs 2221 [.ref 0, .ref 16, .ref 61, .int (Int32.ofNat n)] [] t I L Rf) : pv_V G mL_law d mc ms q_L (bc + 0) (bs + 0) 2106 [.ref 0, .ref 16, .ref 61, .int (Int32.ofNat n)] [] t I L Rf := by
  obtain ⟨hW, hX, hM, hw⟩ := h
  refine pv_aload_1 (pc := 2106) dL_law_2106 ?_
  refine pv_aload_0 (pc := 2107) dL_law_2107 ?_
  refine pv_iload_3 (pc := 2108) dL_law_2108 ?_
  refine pv_iconst (pc := 2109) (v := 1) dL_law_2109 (by decide) ?_
  refine pv_iadd (pc := 2110) dL_law_2110 ?_
  refine pl_ia (pc := 2111) (k := 1) dL_law_2111 hO hn hN (by decide) (by decide) ?_
  refine pv_aload_0 (pc := 2112) dL_law_2112 ?_
  refine pv_iload_3 (pc := 2113) dL_law_2113 ?_
  refine pv_iconst (pc := 2114) (v := 2) dL_law_2114 (by decide) ?_
  refine pv_iadd (pc := 2115) dL_law_2115 ?_
  refine pl_ia (pc := 2116) (k := 2) dL_law_2116 hO hn hN (by decide) (by decide) ?_
  refine pv_aload_0 (pc := 2117) dL_law_2117 ?_
  refine pv_iload_3 (pc := 2118) dL_law_2118 ?_
  refine pv_iconst (pc := 2119) (v := 3) dL_law_2119 (by decide) ?_
  refine pv_iadd (pc := 2120) dL_law_2120 ?_
  refine pl_ia (pc := 2121) (k := 3) dL_law_2121 hO hn hN (by decide) (by decide) ?_
  refine pv_callVq (pc := 2122) dL_law_2122 mgX11_act lv_L_185_11 (by decide) (sx_16 hX.1) (by omega) (c_X11_act hW hX (by omega)) rfl rfl (Nat.le_of_ble_eq_true rfl) (fun v t I L Rf hq => ?_)
  obtain ⟨rfl, hX, hk⟩ := hq
  obtain ⟨hM, hw⟩ := law_mid hM hw hk
  refine law_i (a_act J K _ _ _) (fun x hx => ?_)
  refine pv_in (fun hO => ?_)
  refine pv_aload_2 (pc := 2125) dL_law_2125 ?_
  refine pv_aload_0 (pc := 2126) dL_law_2126 ?_
  refine pv_iload_3 (pc := 2127) dL_law_2127 ?_
  refine pv_iconst (pc := 2128) (v := 1) dL_law_2128 (by decide) ?_
  refine pv_iadd (pc := 2129) dL_law_2129 ?_
  refine pl_ia (pc := 2130) (k := 1) dL_law_2130 hO hn hN (by decide) (by decide) ?_
  refine pv_aload_0 (pc := 2131) dL_law_2131 ?_
  refine pv_iload_3 (pc := 2132) dL_law_2132 ?_
  refine pv_iconst (pc := 2133) (v := 2) dL_law_2133 (by decide) ?_
  refine pv_iadd (pc := 2134) dL_law_2134 ?_
  refine pl_ia (pc := 2135) (k := 2) dL_law_2135 hO hn hN (by decide) (by decide) ?_
  refine pv_aload_0 (pc := 2136) dL_law_2136 ?_
  refine pv_iload_3 (pc := 2137) dL_law_2137 ?_
  refine pv_iconst (pc := 2138) (v := 3) dL_law_2138 (by decide) ?_
  refine pv_iadd (pc := 2139) dL_law_2139 ?_
  refine pl_ia (pc := 2140) (k := 3) dL_law_2140 hO hn hN (by decide) (by decide) ?_
  refine pv_callVq (pc := 2141) dL_law_2141 mgX12_act lv_L_188_12 (by decide) (sx_61 hX.1) (by omega) (c_X12_act hX.1 hX.2.1 hW hM (by omega)) rfl rfl (Nat.le_of_ble_eq_true rfl) (fun v t I L Rf hq => ?_)
  obtain ⟨rfl, rfl, rfl, hM, hkX⟩ := hq
  refine law_m hx ?_
  refine pv_icmp_eq (pc := 2144) (tgt := 2221) dL_law_2144 (by decide) (fun h2144 => ?_) (fun h2144 => absurd h2144 (fun q => q rfl))
  exact next _ _ _ _ _ _ (law_fin (wf_act hW _ _ _) hX hM hw hkX)

set_option maxRecDepth 100000 in
set_option maxHeartbeats 4000000 in
theorem lc_trace {G : pv_G} {d mc ms bc bs n : Nat} {J : pv_I} {K : pv_L} {t : pv_T} {I : pv_I} {L : pv_L} {Rf : pv_R} (hF : fk_ok G) (hd : 200 ≤ d) (hn : n + 9 ≤ G.2.2.2.1) (hN : G.2.2.2.1 ≤ 4608) (hO : pv_X G t I) (h : LW J K t I L Rf) (next : ∀ J K t I L Rf, LW J K t I L Rf → pv_V G mL_law d mc ms q_L bc bs 2221 [.ref 0, .ref 16, .ref 61, .int (Int32.ofNat n)] [] t I L Rf) : pv_V G mL_law d mc ms q_L (bc + 0) (bs + 0) 2149 [.ref 0, .ref 16, .ref 61, .int (Int32.ofNat n)] [] t I L Rf := by
  obtain ⟨hW, hX, hM, hw⟩ := h
  refine pv_aload_1 (pc := 2149) dL_law_2149 ?_
  refine pv_aload_0 (pc := 2150) dL_law_2150 ?_
  refine pv_iload_3 (pc := 2151) dL_law_2151 ?_
  refine pv_iconst (pc := 2152) (v := 1) dL_law_2152 (by decide) ?_
  refine pv_iadd (pc := 2153) dL_law_2153 ?_
  refine pl_ia (pc := 2154) (k := 1) dL_law_2154 hO hn hN (by decide) (by decide) ?_
  refine pv_callVq (pc := 2155) dL_law_2155 mgX11_trace lv_L_189_11 (by decide) (sx_16 hX.1) (by omega) (c_X11_trace hW hX (by omega)) rfl rfl (Nat.le_of_ble_eq_true rfl) (fun v t I L Rf hq => ?_)
  obtain ⟨rfl, hX, hk⟩ := hq
  obtain ⟨hM, hw⟩ := law_mid hM hw hk
  refine law_i (a_trace J K _) (fun x hx => ?_)
  refine pv_in (fun hO => ?_)
  refine pv_aload_2 (pc := 2158) dL_law_2158 ?_
  refine pv_aload_0 (pc := 2159) dL_law_2159 ?_
  refine pv_iload_3 (pc := 2160) dL_law_2160 ?_
  refine pv_iconst (pc := 2161) (v := 1) dL_law_2161 (by decide) ?_
  refine pv_iadd (pc := 2162) dL_law_2162 ?_
  refine pl_ia (pc := 2163) (k := 1) dL_law_2163 hO hn hN (by decide) (by decide) ?_
  refine pv_callVq (pc := 2164) dL_law_2164 mgX12_trace lv_L_192_12 (by decide) (sx_61 hX.1) (by omega) (c_X12_trace hX.1 hX.2.1 hW hM (by omega)) rfl rfl (Nat.le_of_ble_eq_true rfl) (fun v t I L Rf hq => ?_)
  obtain ⟨rfl, rfl, rfl, hM, hkX⟩ := hq
  refine law_m hx ?_
  refine pv_icmp_eq (pc := 2167) (tgt := 2221) dL_law_2167 (by decide) (fun h2167 => ?_) (fun h2167 => absurd h2167 (fun q => q rfl))
  exact next _ _ _ _ _ _ (law_fin (wf_trace hW _) hX hM hw hkX)

set_option maxRecDepth 100000 in
set_option maxHeartbeats 4000000 in
theorem lc_image {G : pv_G} {d mc ms bc bs n : Nat} {J : pv_I} {K : pv_L} {t : pv_T} {I : pv_I} {L : pv_L} {Rf : pv_R} (hF : fk_ok G) (hd : 200 ≤ d) (hn : n + 9 ≤ G.2.2.2.1) (hN : G.2.2.2.1 ≤ 4608) (hO : pv_X G t I) (h : LW J K t I L Rf) (next : ∀ J K t I L Rf, LW J K t I L Rf → pv_V G mL_law d mc ms q_L bc bs 2221 [.ref 0, .ref 16, .ref 61, .int (Int32.ofNat n)] [] t I L Rf) : pv_V G mL_law d mc ms q_L (bc + 0) (bs + 0) 2172 [.ref 0, .ref 16, .ref 61, .int (Int32.ofNat n)] [] t I L Rf := by
  obtain ⟨hW, hX, hM, hw⟩ := h
  refine pv_aload_1 (pc := 2172) dL_law_2172 ?_
  refine pv_callVq (pc := 2173) dL_law_2173 mgX11_image lv_L_193_11 (by decide) (sx_16 hX.1) (by omega) (c_X11_image hW hX (by omega)) rfl rfl (Nat.le_of_ble_eq_true rfl) (fun v t I L Rf hq => ?_)
  obtain ⟨rfl, hX, hk⟩ := hq
  obtain ⟨hM, hw⟩ := law_mid hM hw hk
  refine law_i (a_image J K) (fun x hx => ?_)
  refine pv_in (fun hO => ?_)
  refine pv_aload_2 (pc := 2176) dL_law_2176 ?_
  refine pv_callVq (pc := 2177) dL_law_2177 mgX12_image lv_L_196_12 (by decide) (sx_61 hX.1) (by omega) (c_X12_image hX.1 hX.2.1 hW hM (by omega)) rfl rfl (Nat.le_of_ble_eq_true rfl) (fun v t I L Rf hq => ?_)
  obtain ⟨rfl, rfl, rfl, hM, hkX⟩ := hq
  refine law_m hx ?_
  refine pv_icmp_eq (pc := 2180) (tgt := 2221) dL_law_2180 (by decide) (fun h2180 => ?_) (fun h2180 => absurd h2180 (fun q => q rfl))
  exact next _ _ _ _ _ _ (law_fin (wf_image hW ) hX hM hw hkX)

set_option maxRecDepth 100000 in
set_option maxHeartbeats 4000000 in
theorem lc_restore {G : pv_G} {d mc ms bc bs n : Nat} {J : pv_I} {K : pv_L} {t : pv_T} {I : pv_I} {L : pv_L} {Rf : pv_R} (hF : fk_ok G) (hd : 200 ≤ d) (hn : n + 9 ≤ G.2.2.2.1) (hN : G.2.2.2.1 ≤ 4608) (hO : pv_X G t I) (h : LW J K t I L Rf) (next : ∀ J K t I L Rf, LW J K t I L Rf → pv_V G mL_law d mc ms q_L bc bs 2221 [.ref 0, .ref 16, .ref 61, .int (Int32.ofNat n)] [] t I L Rf) : pv_V G mL_law d mc ms q_L (bc + 0) (bs + 0) 2185 [.ref 0, .ref 16, .ref 61, .int (Int32.ofNat n)] [] t I L Rf := by
  obtain ⟨hW, hX, hM, hw⟩ := h
  refine pv_aload_1 (pc := 2185) dL_law_2185 ?_
  refine pv_callVq (pc := 2186) dL_law_2186 mgX11_restore lv_L_197_11 (by decide) (sx_16 hX.1) (by omega) (c_X11_restore hW hX (by omega)) rfl rfl (Nat.le_of_ble_eq_true rfl) (fun v t I L Rf hq => ?_)
  obtain ⟨rfl, hX, hk⟩ := hq
  obtain ⟨hM, hw⟩ := law_mid hM hw hk
  refine law_i (a_restore J K) (fun x hx => ?_)
  refine pv_in (fun hO => ?_)
  refine pv_aload_2 (pc := 2189) dL_law_2189 ?_
  refine pv_callVq (pc := 2190) dL_law_2190 mgX12_restore lv_L_200_12 (by decide) (sx_61 hX.1) (by omega) (c_X12_restore hX.1 hX.2.1 hW hM (by omega)) rfl rfl (Nat.le_of_ble_eq_true rfl) (fun v t I L Rf hq => ?_)
  obtain ⟨rfl, rfl, rfl, hM, hkX⟩ := hq
  refine law_m hx ?_
  refine pv_icmp_eq (pc := 2193) (tgt := 2221) dL_law_2193 (by decide) (fun h2193 => ?_) (fun h2193 => absurd h2193 (fun q => q rfl))
  exact next _ _ _ _ _ _ (law_fin (wf_restore hW ) hX hM hw hkX)

set_option maxRecDepth 100000 in
set_option maxHeartbeats 4000000 in
theorem lc_status {G : pv_G} {d mc ms bc bs n : Nat} {J : pv_I} {K : pv_L} {t : pv_T} {I : pv_I} {L : pv_L} {Rf : pv_R} (hF : fk_ok G) (hd : 200 ≤ d) (hn : n + 9 ≤ G.2.2.2.1) (hN : G.2.2.2.1 ≤ 4608) (hO : pv_X G t I) (h : LW J K t I L Rf) (next : ∀ J K t I L Rf, LW J K t I L Rf → pv_V G mL_law d mc ms q_L bc bs 2221 [.ref 0, .ref 16, .ref 61, .int (Int32.ofNat n)] [] t I L Rf) : pv_V G mL_law d mc ms q_L (bc + 0) (bs + 0) 2198 [.ref 0, .ref 16, .ref 61, .int (Int32.ofNat n)] [] t I L Rf := by
  obtain ⟨hW, hX, hM, hw⟩ := h
  refine pv_aload_1 (pc := 2198) dL_law_2198 ?_
  refine pv_aload_0 (pc := 2199) dL_law_2199 ?_
  refine pv_iload_3 (pc := 2200) dL_law_2200 ?_
  refine pv_iconst (pc := 2201) (v := 1) dL_law_2201 (by decide) ?_
  refine pv_iadd (pc := 2202) dL_law_2202 ?_
  refine pl_ia (pc := 2203) (k := 1) dL_law_2203 hO hn hN (by decide) (by decide) ?_
  refine pv_callVq (pc := 2204) dL_law_2204 mgX11_status lv_L_201_11 (by decide) (sx_16 hX.1) (by omega) (c_X11_status hW hX (by omega)) rfl rfl (Nat.le_of_ble_eq_true rfl) (fun v t I L Rf hq => ?_)
  obtain ⟨rfl, hX, hk⟩ := hq
  obtain ⟨hM, hw⟩ := law_mid hM hw hk
  refine law_i (a_status J K _) (fun x hx => ?_)
  refine pv_in (fun hO => ?_)
  refine pv_aload_2 (pc := 2207) dL_law_2207 ?_
  refine pv_aload_0 (pc := 2208) dL_law_2208 ?_
  refine pv_iload_3 (pc := 2209) dL_law_2209 ?_
  refine pv_iconst (pc := 2210) (v := 1) dL_law_2210 (by decide) ?_
  refine pv_iadd (pc := 2211) dL_law_2211 ?_
  refine pl_ia (pc := 2212) (k := 1) dL_law_2212 hO hn hN (by decide) (by decide) ?_
  refine pv_callVq (pc := 2213) dL_law_2213 mgX12_status lv_L_204_12 (by decide) (sx_61 hX.1) (by omega) (c_X12_status hX.1 hX.2.1 hW hM (by omega)) rfl rfl (Nat.le_of_ble_eq_true rfl) (fun v t I L Rf hq => ?_)
  obtain ⟨rfl, rfl, rfl, hM, hkX⟩ := hq
  refine law_m hx ?_
  refine pv_icmp_eq (pc := 2216) (tgt := 2221) dL_law_2216 (by decide) (fun h2216 => ?_) (fun h2216 => absurd h2216 (fun q => q rfl))
  exact next _ _ _ _ _ _ (law_fin (wf_status hW _) hX hM hw hkX)

