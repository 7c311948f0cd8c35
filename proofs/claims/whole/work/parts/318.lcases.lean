/-! the law's cases -/
abbrev lv0 (G : zG) (b : Nat) (i : Int32) : List (Nat × Value) := [(4, .int i), (3, .ref (G.2.2.2 177)), (2, .ref (G.2.2.2 139)), (1, .ref (G.2.2.2 0)), (0, .ref b)]
def lI (K : zK) (G : zG) (b L : Nat) (xs : Nat → Int32) (j k n : Nat) : Prop := kC K G (lA K) cL_law RL 7 15 590 601024 7293034 ∧ lX K G b L xs ∧ 7 * j + 7 ≤ L ∧ L ≤ 3584 ∧ k + 1 ≤ 601024 ∧ n + 6 ≤ 7293034
def lFin (K : zK) (G : zG) (b j k n : Nat) : Prop := ∀ h', Rel h' → kW K G (lA K) 7 1171 (lv0 G b (nI (7 * j))) [] (zL G h') (k + 1) (n + 6)
theorem lX_D {K : zK} {G : zG} {b L : Nat} {xs : Nat → Int32} (hX : lX K G b L xs) : zD G := by
  obtain ⟨p, l, e, R, s, m, args, below, meth, c, Q⟩ := K
  exact hX.1
def lng (a b : Int32) : Int64 := (a.toInt64 <<< ((32 : Int32).toInt64 &&& 63)) ||| (b.toInt64 &&& 4294967295)
section La
variable {K : zK} {G : zG} {b L j k n k' n' : Nat} {xs : Nat → Int32} {rest : List Value} {ws : va_W} {lv : List (Nat × Value)}
theorem l_arg (hI : lI K G b L xs j k n) (p0 p4 : Nat) {pc q : Nat} {kk : Int} (h0 : lv[p0]? = some (0, .ref b)) (h4 : lv[p4]? = some (4, .int (nI (7 * j)))) (hq : q < 7) (d0 : decode cL_law pc = .ok (.aload_n 0, 1)) (d1 : decode cL_law (pc + 1) = .ok (.iload 4, 2)) (d3 : decode cL_law (pc + 3) = .ok (.iconst kk, 1)) (hkk : Int32.ofInt kk = nI q) (d4 : decode cL_law (pc + 4) = .ok (.iadd, 1)) (d5 : decode cL_law (pc + 5) = .ok (.iaload, 1)) (c : kW K G (lA K) 7 (pc + 6) lv (.int (xs (7 * j + q)) :: rest) ws k' n') : kW K G (lA K) 7 pc lv rest ws k' n' := by
  obtain ⟨hK, hX, hj, hL, -, -⟩ := hI
  refine k_aload_n hK p0 d0 h0 ?_
  refine k_iload hK p4 d1 h4 ?_
  refine k_iconst hK d3 hkk ?_
  refine k_iadd hK d4 ?_
  refine k_name (v := nI (7 * j + q)) (nI_add _ _).symm ?_
  refine k_sld hK hX (zin_t (by omega) (by omega)) d5 ?_
  refine k_name (v := xs (7 * j + q)) (by rw [zx_nI (by omega)]) ?_
  exact c
theorem l_argB (hI : lI K G b L xs j k n) (p0 p4 : Nat) {pc q : Nat} {kk : Int} (h0 : lv[p0]? = some (0, .ref b)) (h4 : lv[p4]? = some (4, .int (nI (7 * j)))) (hq : q < 7) (d0 : decode cL_law pc = .ok (.aload_n 0, 1)) (d1 : decode cL_law (pc + 1) = .ok (.iload 4, 2)) (d3 : decode cL_law (pc + 3) = .ok (.bipush kk, 2)) (hkk : (Int8.ofInt kk).toInt32 = nI q) (d5 : decode cL_law (pc + 5) = .ok (.iadd, 1)) (d6 : decode cL_law (pc + 6) = .ok (.iaload, 1)) (c : kW K G (lA K) 7 (pc + 7) lv (.int (xs (7 * j + q)) :: rest) ws k' n') : kW K G (lA K) 7 pc lv rest ws k' n' := by
  obtain ⟨hK, hX, hj, hL, -, -⟩ := hI
  refine k_aload_n hK p0 d0 h0 ?_
  refine k_iload hK p4 d1 h4 ?_
  refine k_bipush hK d3 hkk ?_
  refine k_iadd hK d5 ?_
  refine k_name (v := nI (7 * j + q)) (nI_add _ _).symm ?_
  refine k_sld hK hX (zin_t (by omega) (by omega)) d6 ?_
  refine k_name (v := xs (7 * j + q)) (by rw [zx_nI (by omega)]) ?_
  exact c
end La
set_option maxHeartbeats 1000000 in
theorem lc_0 {K : zK} {G : zG} {b L j k n : Nat} {xs : Nat → Int32} {h : zH} (hI : lI K G b L xs j k n) (hF : lFin K G b j k n) (H : Rel h) : kW K G (lA K) 7 176 (lv0 G b (nI (7 * j))) [] (zL G h) k n := by
  obtain ⟨hK, hX, hj, hL, hk, hn⟩ := id hI
  have hG := lX_D hX
  obtain ⟨v, h1, h2, e1, e2, H2⟩ := ok_feed H (lng (xs (7 * j + 1)) (xs (7 * j + 2))) (lng (xs (7 * j + 3)) (xs (7 * j + 4))) (lng (xs (7 * j + 5)) (xs (7 * j + 6)))
  refine k_aload_n hK 3 dL_law_176 rfl ?_
  refine l_arg hI 4 0 (q := 1) rfl rfl (by decide) dL_law_177 dL_law_178 dL_law_180 (by decide) dL_law_181 dL_law_182 ?_
  refine k_i2l hK dL_law_183 ?_
  refine k_bipush (v := 32) hK dL_law_184 (by decide) ?_
  refine k_lshl hK dL_law_186 ?_
  refine l_arg hI 4 0 (q := 2) rfl rfl (by decide) dL_law_187 dL_law_188 dL_law_190 (by decide) dL_law_191 dL_law_192 ?_
  refine k_i2l hK dL_law_193 ?_
  refine k_ldc2 hK q_1895 dL_law_194 ?_
  refine k_land hK dL_law_197 ?_
  refine k_lor hK dL_law_198 ?_
  refine l_arg hI 4 0 (q := 3) rfl rfl (by decide) dL_law_199 dL_law_200 dL_law_202 (by decide) dL_law_203 dL_law_204 ?_
  refine k_i2l hK dL_law_205 ?_
  refine k_bipush (v := 32) hK dL_law_206 (by decide) ?_
  refine k_lshl hK dL_law_208 ?_
  refine l_arg hI 4 0 (q := 4) rfl rfl (by decide) dL_law_209 dL_law_210 dL_law_212 (by decide) dL_law_213 dL_law_214 ?_
  refine k_i2l hK dL_law_215 ?_
  refine k_ldc2 hK q_1895 dL_law_216 ?_
  refine k_land hK dL_law_219 ?_
  refine k_lor hK dL_law_220 ?_
  refine l_arg hI 4 0 (q := 5) rfl rfl (by decide) dL_law_221 dL_law_222 dL_law_224 (by decide) dL_law_225 dL_law_226 ?_
  refine k_i2l hK dL_law_227 ?_
  refine k_bipush (v := 32) hK dL_law_228 (by decide) ?_
  refine k_lshl hK dL_law_230 ?_
  refine l_argB hI 4 0 (q := 6) rfl rfl (by decide) dL_law_231 dL_law_232 dL_law_234 (by decide) dL_law_236 dL_law_237 ?_
  refine k_i2l hK dL_law_238 ?_
  refine k_ldc2 hK q_1895 dL_law_239 ?_
  refine k_land hK dL_law_242 ?_
  refine k_lor hK dL_law_243 ?_
  refine l_callV hK hX (t := 0) [.long (lng (xs (7 * j + 1)) (xs (7 * j + 2))), .long (lng (xs (7 * j + 3)) (xs (7 * j + 4))), .long (lng (xs (7 * j + 5)) (xs (7 * j + 6)))] (m_X11_feed hG z_0 e1) sv_X11_feed q_494 z_0 rfl [] rfl (Nat.le_of_ble_eq_true rfl) ⟨by decide, by decide⟩ dL_law_244 (by omega) (by omega) ?_
  refine k_aload_n hK 2 dL_law_247 rfl ?_
  refine l_arg hI 4 0 (q := 1) rfl rfl (by decide) dL_law_248 dL_law_249 dL_law_251 (by decide) dL_law_252 dL_law_253 ?_
  refine k_i2l hK dL_law_254 ?_
  refine k_bipush (v := 32) hK dL_law_255 (by decide) ?_
  refine k_lshl hK dL_law_257 ?_
  refine l_arg hI 4 0 (q := 2) rfl rfl (by decide) dL_law_258 dL_law_259 dL_law_261 (by decide) dL_law_262 dL_law_263 ?_
  refine k_i2l hK dL_law_264 ?_
  refine k_ldc2 hK q_1895 dL_law_265 ?_
  refine k_land hK dL_law_268 ?_
  refine k_lor hK dL_law_269 ?_
  refine l_arg hI 4 0 (q := 3) rfl rfl (by decide) dL_law_270 dL_law_271 dL_law_273 (by decide) dL_law_274 dL_law_275 ?_
  refine k_i2l hK dL_law_276 ?_
  refine k_bipush (v := 32) hK dL_law_277 (by decide) ?_
  refine k_lshl hK dL_law_279 ?_
  refine l_arg hI 4 0 (q := 4) rfl rfl (by decide) dL_law_280 dL_law_281 dL_law_283 (by decide) dL_law_284 dL_law_285 ?_
  refine k_i2l hK dL_law_286 ?_
  refine k_ldc2 hK q_1895 dL_law_287 ?_
  refine k_land hK dL_law_290 ?_
  refine k_lor hK dL_law_291 ?_
  refine l_arg hI 4 0 (q := 5) rfl rfl (by decide) dL_law_292 dL_law_293 dL_law_295 (by decide) dL_law_296 dL_law_297 ?_
  refine k_i2l hK dL_law_298 ?_
  refine k_bipush (v := 32) hK dL_law_299 (by decide) ?_
  refine k_lshl hK dL_law_301 ?_
  refine l_argB hI 4 0 (q := 6) rfl rfl (by decide) dL_law_302 dL_law_303 dL_law_305 (by decide) dL_law_307 dL_law_308 ?_
  refine k_i2l hK dL_law_309 ?_
  refine k_ldc2 hK q_1895 dL_law_310 ?_
  refine k_land hK dL_law_313 ?_
  refine k_lor hK dL_law_314 ?_
  refine l_callV hK hX (t := 139) [.long (lng (xs (7 * j + 1)) (xs (7 * j + 2))), .long (lng (xs (7 * j + 3)) (xs (7 * j + 4))), .long (lng (xs (7 * j + 5)) (xs (7 * j + 6)))] (m_X12_feed hG z_139 e2) sv_X12_feed q_1457 z_139 rfl [.int v] rfl (Nat.le_of_ble_eq_true rfl) ⟨by decide, by decide⟩ dL_law_315 (by omega) (by omega) ?_
  exact k_icmp_eq hK 1171 dL_law_318 (by decide) (fun _ => k_widen (by omega) (by omega) (hF _ H2)) (fun q => absurd rfl q)
set_option maxHeartbeats 1000000 in
theorem lc_1 {K : zK} {G : zG} {b L j k n : Nat} {xs : Nat → Int32} {h : zH} (hI : lI K G b L xs j k n) (hF : lFin K G b j k n) (H : Rel h) : kW K G (lA K) 7 323 (lv0 G b (nI (7 * j))) [] (zL G h) k n := by
  obtain ⟨hK, hX, hj, hL, hk, hn⟩ := id hI
  have hG := lX_D hX
  obtain ⟨v, h1, h2, e1, e2, H2⟩ := ok_republic H
  refine k_aload_n hK 3 dL_law_323 rfl ?_
  refine l_callV hK hX (t := 0) [] (m_X11_republic hG z_0 e1) sv_X11_republic q_502 z_0 rfl [] rfl (Nat.le_of_ble_eq_true rfl) ⟨by decide, by decide⟩ dL_law_324 (by omega) (by omega) ?_
  refine k_aload_n hK 2 dL_law_327 rfl ?_
  refine l_callV hK hX (t := 139) [] (m_X12_republic hG z_139 e2) sv_X12_republic q_1462 z_139 rfl [.int v] rfl (Nat.le_of_ble_eq_true rfl) ⟨by decide, by decide⟩ dL_law_328 (by omega) (by omega) ?_
  exact k_icmp_eq hK 1171 dL_law_331 (by decide) (fun _ => k_widen (by omega) (by omega) (hF _ H2)) (fun q => absurd rfl q)
set_option maxHeartbeats 1000000 in
theorem lc_2 {K : zK} {G : zG} {b L j k n : Nat} {xs : Nat → Int32} {h : zH} (hI : lI K G b L xs j k n) (hF : lFin K G b j k n) (H : Rel h) : kW K G (lA K) 7 336 (lv0 G b (nI (7 * j))) [] (zL G h) k n := by
  obtain ⟨hK, hX, hj, hL, hk, hn⟩ := id hI
  have hG := lX_D hX
  obtain ⟨v, h1, h2, e1, e2, H2⟩ := ok_years H
  refine k_aload_n hK 3 dL_law_336 rfl ?_
  refine l_callV hK hX (t := 0) [] (m_X11_years hG z_0 e1) sv_X11_years q_859 z_0 rfl [] rfl (Nat.le_of_ble_eq_true rfl) ⟨by decide, by decide⟩ dL_law_337 (by omega) (by omega) ?_
  refine k_aload_n hK 2 dL_law_340 rfl ?_
  refine l_callV hK hX (t := 139) [] (m_X12_years hG z_139 e2) sv_X12_years q_1604 z_139 rfl [.int v] rfl (Nat.le_of_ble_eq_true rfl) ⟨by decide, by decide⟩ dL_law_341 (by omega) (by omega) ?_
  exact k_icmp_eq hK 1171 dL_law_344 (by decide) (fun _ => k_widen (by omega) (by omega) (hF _ H2)) (fun q => absurd rfl q)
set_option maxHeartbeats 1000000 in
theorem lc_3 {K : zK} {G : zG} {b L j k n : Nat} {xs : Nat → Int32} {h : zH} (hI : lI K G b L xs j k n) (hF : lFin K G b j k n) (H : Rel h) : kW K G (lA K) 7 349 (lv0 G b (nI (7 * j))) [] (zL G h) k n := by
  obtain ⟨hK, hX, hj, hL, hk, hn⟩ := id hI
  have hG := lX_D hX
  obtain ⟨v, h2, e1, e2, H2⟩ := ok_person H (xs (7 * j + 1)) (xs (7 * j + 2))
  refine k_aload_n hK 3 dL_law_349 rfl ?_
  refine l_arg hI 4 0 (q := 1) rfl rfl (by decide) dL_law_350 dL_law_351 dL_law_353 (by decide) dL_law_354 dL_law_355 ?_
  refine l_arg hI 4 0 (q := 2) rfl rfl (by decide) dL_law_356 dL_law_357 dL_law_359 (by decide) dL_law_360 dL_law_361 ?_
  refine l_callV hK hX (t := 0) [.int (xs (7 * j + 1)), .int (xs (7 * j + 2))] (m_X11_person hG z_0 e1) sv_X11_person q_871 z_0 rfl [] rfl (Nat.le_of_ble_eq_true rfl) ⟨by decide, by decide⟩ dL_law_362 (by omega) (by omega) ?_
  refine k_aload_n hK 2 dL_law_365 rfl ?_
  refine l_arg hI 4 0 (q := 1) rfl rfl (by decide) dL_law_366 dL_law_367 dL_law_369 (by decide) dL_law_370 dL_law_371 ?_
  refine l_arg hI 4 0 (q := 2) rfl rfl (by decide) dL_law_372 dL_law_373 dL_law_375 (by decide) dL_law_376 dL_law_377 ?_
  refine l_callV hK hX (t := 139) [.int (xs (7 * j + 1)), .int (xs (7 * j + 2))] (m_X12_person hG z_139 e2) sv_X12_person q_1616 z_139 rfl [.int v] rfl (Nat.le_of_ble_eq_true rfl) ⟨by decide, by decide⟩ dL_law_378 (by omega) (by omega) ?_
  exact k_icmp_eq hK 1171 dL_law_381 (by decide) (fun _ => k_widen (by omega) (by omega) (hF _ H2)) (fun q => absurd rfl q)
set_option maxHeartbeats 1000000 in
theorem lc_4 {K : zK} {G : zG} {b L j k n : Nat} {xs : Nat → Int32} {h : zH} (hI : lI K G b L xs j k n) (hF : lFin K G b j k n) (H : Rel h) : kW K G (lA K) 7 386 (lv0 G b (nI (7 * j))) [] (zL G h) k n := by
  obtain ⟨hK, hX, hj, hL, hk, hn⟩ := id hI
  have hG := lX_D hX
  obtain ⟨v, h2, e1, e2, H2⟩ := ok_grudge H (xs (7 * j + 1)) (xs (7 * j + 2))
  refine k_aload_n hK 3 dL_law_386 rfl ?_
  refine l_arg hI 4 0 (q := 1) rfl rfl (by decide) dL_law_387 dL_law_388 dL_law_390 (by decide) dL_law_391 dL_law_392 ?_
  refine l_arg hI 4 0 (q := 2) rfl rfl (by decide) dL_law_393 dL_law_394 dL_law_396 (by decide) dL_law_397 dL_law_398 ?_
  refine l_callV hK hX (t := 0) [.int (xs (7 * j + 1)), .int (xs (7 * j + 2))] (m_X11_grudge hG z_0 e1) sv_X11_grudge q_892 z_0 rfl [] rfl (Nat.le_of_ble_eq_true rfl) ⟨by decide, by decide⟩ dL_law_399 (by omega) (by omega) ?_
  refine k_aload_n hK 2 dL_law_402 rfl ?_
  refine l_arg hI 4 0 (q := 1) rfl rfl (by decide) dL_law_403 dL_law_404 dL_law_406 (by decide) dL_law_407 dL_law_408 ?_
  refine l_arg hI 4 0 (q := 2) rfl rfl (by decide) dL_law_409 dL_law_410 dL_law_412 (by decide) dL_law_413 dL_law_414 ?_
  refine l_callV hK hX (t := 139) [.int (xs (7 * j + 1)), .int (xs (7 * j + 2))] (m_X12_grudge hG z_139 e2) sv_X12_grudge q_1636 z_139 rfl [.int v] rfl (Nat.le_of_ble_eq_true rfl) ⟨by decide, by decide⟩ dL_law_415 (by omega) (by omega) ?_
  exact k_icmp_eq hK 1171 dL_law_418 (by decide) (fun _ => k_widen (by omega) (by omega) (hF _ H2)) (fun q => absurd rfl q)
set_option maxHeartbeats 1000000 in
theorem lc_5 {K : zK} {G : zG} {b L j k n : Nat} {xs : Nat → Int32} {h : zH} (hI : lI K G b L xs j k n) (hF : lFin K G b j k n) (H : Rel h) : kW K G (lA K) 7 423 (lv0 G b (nI (7 * j))) [] (zL G h) k n := by
  obtain ⟨hK, hX, hj, hL, hk, hn⟩ := id hI
  have hG := lX_D hX
  obtain ⟨v, h2, e1, e2, H2⟩ := ok_against H (xs (7 * j + 1)) (xs (7 * j + 2))
  refine k_aload_n hK 3 dL_law_423 rfl ?_
  refine l_arg hI 4 0 (q := 1) rfl rfl (by decide) dL_law_424 dL_law_425 dL_law_427 (by decide) dL_law_428 dL_law_429 ?_
  refine l_arg hI 4 0 (q := 2) rfl rfl (by decide) dL_law_430 dL_law_431 dL_law_433 (by decide) dL_law_434 dL_law_435 ?_
  refine l_callV hK hX (t := 0) [.int (xs (7 * j + 1)), .int (xs (7 * j + 2))] (m_X11_against hG z_0 e1) sv_X11_against q_901 z_0 rfl [] rfl (Nat.le_of_ble_eq_true rfl) ⟨by decide, by decide⟩ dL_law_436 (by omega) (by omega) ?_
  refine k_aload_n hK 2 dL_law_439 rfl ?_
  refine l_arg hI 4 0 (q := 1) rfl rfl (by decide) dL_law_440 dL_law_441 dL_law_443 (by decide) dL_law_444 dL_law_445 ?_
  refine l_arg hI 4 0 (q := 2) rfl rfl (by decide) dL_law_446 dL_law_447 dL_law_449 (by decide) dL_law_450 dL_law_451 ?_
  refine l_callV hK hX (t := 139) [.int (xs (7 * j + 1)), .int (xs (7 * j + 2))] (m_X12_against hG z_139 e2) sv_X12_against q_1644 z_139 rfl [.int v] rfl (Nat.le_of_ble_eq_true rfl) ⟨by decide, by decide⟩ dL_law_452 (by omega) (by omega) ?_
  exact k_icmp_eq hK 1171 dL_law_455 (by decide) (fun _ => k_widen (by omega) (by omega) (hF _ H2)) (fun q => absurd rfl q)
set_option maxHeartbeats 1000000 in
theorem lc_6 {K : zK} {G : zG} {b L j k n : Nat} {xs : Nat → Int32} {h : zH} (hI : lI K G b L xs j k n) (hF : lFin K G b j k n) (H : Rel h) : kW K G (lA K) 7 460 (lv0 G b (nI (7 * j))) [] (zL G h) k n := by
  obtain ⟨hK, hX, hj, hL, hk, hn⟩ := id hI
  have hG := lX_D hX
  obtain ⟨v, h2, e1, e2, H2⟩ := ok_governs H
  refine k_aload_n hK 3 dL_law_460 rfl ?_
  refine l_callV hK hX (t := 0) [] (m_X11_governs hG z_0 e1) sv_X11_governs q_905 z_0 rfl [] rfl (Nat.le_of_ble_eq_true rfl) ⟨by decide, by decide⟩ dL_law_461 (by omega) (by omega) ?_
  refine k_aload_n hK 2 dL_law_464 rfl ?_
  refine l_callV hK hX (t := 139) [] (m_X12_governs hG z_139 e2) sv_X12_governs q_1648 z_139 rfl [.int v] rfl (Nat.le_of_ble_eq_true rfl) ⟨by decide, by decide⟩ dL_law_465 (by omega) (by omega) ?_
  exact k_icmp_eq hK 1171 dL_law_468 (by decide) (fun _ => k_widen (by omega) (by omega) (hF _ H2)) (fun q => absurd rfl q)
set_option maxHeartbeats 1000000 in
theorem lc_7 {K : zK} {G : zG} {b L j k n : Nat} {xs : Nat → Int32} {h : zH} (hI : lI K G b L xs j k n) (hF : lFin K G b j k n) (H : Rel h) : kW K G (lA K) 7 473 (lv0 G b (nI (7 * j))) [] (zL G h) k n := by
  obtain ⟨hK, hX, hj, hL, hk, hn⟩ := id hI
  have hG := lX_D hX
  obtain ⟨v, h1, h2, e1, e2, H2⟩ := ok_tax H
  refine k_aload_n hK 3 dL_law_473 rfl ?_
  refine l_callV hK hX (t := 0) [] (m_X11_tax hG z_0 e1) sv_X11_tax q_922 z_0 rfl [] rfl (Nat.le_of_ble_eq_true rfl) ⟨by decide, by decide⟩ dL_law_474 (by omega) (by omega) ?_
  refine k_aload_n hK 2 dL_law_477 rfl ?_
  refine l_callV hK hX (t := 139) [] (m_X12_tax hG z_139 e2) sv_X12_tax q_1664 z_139 rfl [.int v] rfl (Nat.le_of_ble_eq_true rfl) ⟨by decide, by decide⟩ dL_law_478 (by omega) (by omega) ?_
  exact k_icmp_eq hK 1171 dL_law_481 (by decide) (fun _ => k_widen (by omega) (by omega) (hF _ H2)) (fun q => absurd rfl q)
set_option maxHeartbeats 1000000 in
theorem lc_8 {K : zK} {G : zG} {b L j k n : Nat} {xs : Nat → Int32} {h : zH} (hI : lI K G b L xs j k n) (hF : lFin K G b j k n) (H : Rel h) : kW K G (lA K) 7 486 (lv0 G b (nI (7 * j))) [] (zL G h) k n := by
  obtain ⟨hK, hX, hj, hL, hk, hn⟩ := id hI
  have hG := lX_D hX
  obtain ⟨v, h1, h2, e1, e2, H2⟩ := ok_gift H (xs (7 * j + 1)) (xs (7 * j + 2))
  refine k_aload_n hK 3 dL_law_486 rfl ?_
  refine l_arg hI 4 0 (q := 1) rfl rfl (by decide) dL_law_487 dL_law_488 dL_law_490 (by decide) dL_law_491 dL_law_492 ?_
  refine l_arg hI 4 0 (q := 2) rfl rfl (by decide) dL_law_493 dL_law_494 dL_law_496 (by decide) dL_law_497 dL_law_498 ?_
  refine l_callV hK hX (t := 0) [.int (xs (7 * j + 1)), .int (xs (7 * j + 2))] (m_X11_gift hG z_0 e1) sv_X11_gift q_979 z_0 rfl [] rfl (Nat.le_of_ble_eq_true rfl) ⟨by decide, by decide⟩ dL_law_499 (by omega) (by omega) ?_
  refine k_aload_n hK 2 dL_law_502 rfl ?_
  refine l_arg hI 4 0 (q := 1) rfl rfl (by decide) dL_law_503 dL_law_504 dL_law_506 (by decide) dL_law_507 dL_law_508 ?_
  refine l_arg hI 4 0 (q := 2) rfl rfl (by decide) dL_law_509 dL_law_510 dL_law_512 (by decide) dL_law_513 dL_law_514 ?_
  refine l_callV hK hX (t := 139) [.int (xs (7 * j + 1)), .int (xs (7 * j + 2))] (m_X12_gift hG z_139 e2) sv_X12_gift q_1707 z_139 rfl [.int v] rfl (Nat.le_of_ble_eq_true rfl) ⟨by decide, by decide⟩ dL_law_515 (by omega) (by omega) ?_
  exact k_icmp_eq hK 1171 dL_law_518 (by decide) (fun _ => k_widen (by omega) (by omega) (hF _ H2)) (fun q => absurd rfl q)
set_option maxHeartbeats 1000000 in
theorem lc_9 {K : zK} {G : zG} {b L j k n : Nat} {xs : Nat → Int32} {h : zH} (hI : lI K G b L xs j k n) (hF : lFin K G b j k n) (H : Rel h) : kW K G (lA K) 7 523 (lv0 G b (nI (7 * j))) [] (zL G h) k n := by
  obtain ⟨hK, hX, hj, hL, hk, hn⟩ := id hI
  have hG := lX_D hX
  obtain ⟨v, h1, h2, e1, e2, H2⟩ := ok_cast H (xs (7 * j + 1)) (xs (7 * j + 2))
  refine k_aload_n hK 3 dL_law_523 rfl ?_
  refine l_arg hI 4 0 (q := 1) rfl rfl (by decide) dL_law_524 dL_law_525 dL_law_527 (by decide) dL_law_528 dL_law_529 ?_
  refine l_arg hI 4 0 (q := 2) rfl rfl (by decide) dL_law_530 dL_law_531 dL_law_533 (by decide) dL_law_534 dL_law_535 ?_
  refine l_callV hK hX (t := 0) [.int (xs (7 * j + 1)), .int (xs (7 * j + 2))] (m_X11_cast hG z_0 e1) sv_X11_cast q_995 z_0 rfl [] rfl (Nat.le_of_ble_eq_true rfl) ⟨by decide, by decide⟩ dL_law_536 (by omega) (by omega) ?_
  refine k_aload_n hK 2 dL_law_539 rfl ?_
  refine l_arg hI 4 0 (q := 1) rfl rfl (by decide) dL_law_540 dL_law_541 dL_law_543 (by decide) dL_law_544 dL_law_545 ?_
  refine l_arg hI 4 0 (q := 2) rfl rfl (by decide) dL_law_546 dL_law_547 dL_law_549 (by decide) dL_law_550 dL_law_551 ?_
  refine l_callV hK hX (t := 139) [.int (xs (7 * j + 1)), .int (xs (7 * j + 2))] (m_X12_cast hG z_139 e2) sv_X12_cast q_1720 z_139 rfl [.int v] rfl (Nat.le_of_ble_eq_true rfl) ⟨by decide, by decide⟩ dL_law_552 (by omega) (by omega) ?_
  exact k_icmp_eq hK 1171 dL_law_555 (by decide) (fun _ => k_widen (by omega) (by omega) (hF _ H2)) (fun q => absurd rfl q)
set_option maxHeartbeats 1000000 in
theorem lc_10 {K : zK} {G : zG} {b L j k n : Nat} {xs : Nat → Int32} {h : zH} (hI : lI K G b L xs j k n) (hF : lFin K G b j k n) (H : Rel h) : kW K G (lA K) 7 560 (lv0 G b (nI (7 * j))) [] (zL G h) k n := by
  obtain ⟨hK, hX, hj, hL, hk, hn⟩ := id hI
  have hG := lX_D hX
  obtain ⟨v, h1, h2, e1, e2, H2⟩ := ok_die H (xs (7 * j + 1))
  refine k_aload_n hK 3 dL_law_560 rfl ?_
  refine l_arg hI 4 0 (q := 1) rfl rfl (by decide) dL_law_561 dL_law_562 dL_law_564 (by decide) dL_law_565 dL_law_566 ?_
  refine l_callV hK hX (t := 0) [.int (xs (7 * j + 1))] (m_X11_die hG z_0 e1) sv_X11_die q_1008 z_0 rfl [] rfl (Nat.le_of_ble_eq_true rfl) ⟨by decide, by decide⟩ dL_law_567 (by omega) (by omega) ?_
  refine k_aload_n hK 2 dL_law_570 rfl ?_
  refine l_arg hI 4 0 (q := 1) rfl rfl (by decide) dL_law_571 dL_law_572 dL_law_574 (by decide) dL_law_575 dL_law_576 ?_
  refine l_callV hK hX (t := 139) [.int (xs (7 * j + 1))] (m_X12_die hG z_139 e2) sv_X12_die q_1728 z_139 rfl [.int v] rfl (Nat.le_of_ble_eq_true rfl) ⟨by decide, by decide⟩ dL_law_577 (by omega) (by omega) ?_
  exact k_icmp_eq hK 1171 dL_law_580 (by decide) (fun _ => k_widen (by omega) (by omega) (hF _ H2)) (fun q => absurd rfl q)
set_option maxHeartbeats 1000000 in
theorem lc_11 {K : zK} {G : zG} {b L j k n : Nat} {xs : Nat → Int32} {h : zH} (hI : lI K G b L xs j k n) (hF : lFin K G b j k n) (H : Rel h) : kW K G (lA K) 7 585 (lv0 G b (nI (7 * j))) [] (zL G h) k n := by
  obtain ⟨hK, hX, hj, hL, hk, hn⟩ := id hI
  have hG := lX_D hX
  obtain ⟨v, h1, h2, e1, e2, H2⟩ := ok_day H
  refine k_aload_n hK 3 dL_law_585 rfl ?_
  refine l_callV hK hX (t := 0) [] (m_X11_day hG z_0 e1) sv_X11_day q_1016 z_0 rfl [] rfl (Nat.le_of_ble_eq_true rfl) ⟨by decide, by decide⟩ dL_law_586 (by omega) (by omega) ?_
  refine k_aload_n hK 2 dL_law_589 rfl ?_
  refine l_callV hK hX (t := 139) [] (m_X12_day hG z_139 e2) sv_X12_day q_1736 z_139 rfl [.int v] rfl (Nat.le_of_ble_eq_true rfl) ⟨by decide, by decide⟩ dL_law_590 (by omega) (by omega) ?_
  exact k_icmp_eq hK 1171 dL_law_593 (by decide) (fun _ => k_widen (by omega) (by omega) (hF _ H2)) (fun q => absurd rfl q)
set_option maxHeartbeats 1000000 in
theorem lc_12 {K : zK} {G : zG} {b L j k n : Nat} {xs : Nat → Int32} {h : zH} (hI : lI K G b L xs j k n) (hF : lFin K G b j k n) (H : Rel h) : kW K G (lA K) 7 598 (lv0 G b (nI (7 * j))) [] (zL G h) k n := by
  obtain ⟨hK, hX, hj, hL, hk, hn⟩ := id hI
  have hG := lX_D hX
  obtain ⟨v, h1, h2, e1, e2, H2⟩ := ok_undo H
  refine k_aload_n hK 3 dL_law_598 rfl ?_
  refine l_callV hK hX (t := 0) [] (m_X11_undo hG z_0 e1) sv_X11_undo q_1042 z_0 rfl [] rfl (Nat.le_of_ble_eq_true rfl) ⟨by decide, by decide⟩ dL_law_599 (by omega) (by omega) ?_
  refine k_aload_n hK 2 dL_law_602 rfl ?_
  refine l_callV hK hX (t := 139) [] (m_X12_undo hG z_139 e2) sv_X12_undo q_1760 z_139 rfl [.int (zb v)] rfl (Nat.le_of_ble_eq_true rfl) ⟨by decide, by decide⟩ dL_law_603 (by omega) (by omega) ?_
  exact k_icmp_eq hK 1171 dL_law_606 (by decide) (fun _ => k_widen (by omega) (by omega) (hF _ H2)) (fun q => absurd rfl q)
set_option maxHeartbeats 1000000 in
theorem lc_13 {K : zK} {G : zG} {b L j k n : Nat} {xs : Nat → Int32} {h : zH} (hI : lI K G b L xs j k n) (hF : lFin K G b j k n) (H : Rel h) : kW K G (lA K) 7 611 (lv0 G b (nI (7 * j))) [] (zL G h) k n := by
  obtain ⟨hK, hX, hj, hL, hk, hn⟩ := id hI
  have hG := lX_D hX
  obtain ⟨v, h1, h2, e1, e2, H2⟩ := ok_judged H (xs (7 * j + 1))
  refine k_aload_n hK 3 dL_law_611 rfl ?_
  refine l_arg hI 4 0 (q := 1) rfl rfl (by decide) dL_law_612 dL_law_613 dL_law_615 (by decide) dL_law_616 dL_law_617 ?_
  refine l_callV hK hX (t := 0) [.int (xs (7 * j + 1))] (m_X11_judged hG z_0 e1) sv_X11_judged q_1050 z_0 rfl [] rfl (Nat.le_of_ble_eq_true rfl) ⟨by decide, by decide⟩ dL_law_618 (by omega) (by omega) ?_
  refine k_aload_n hK 2 dL_law_621 rfl ?_
  refine l_arg hI 4 0 (q := 1) rfl rfl (by decide) dL_law_622 dL_law_623 dL_law_625 (by decide) dL_law_626 dL_law_627 ?_
  refine l_callV hK hX (t := 139) [.int (xs (7 * j + 1))] (m_X12_judged hG z_139 e2) sv_X12_judged q_1764 z_139 rfl [.int v] rfl (Nat.le_of_ble_eq_true rfl) ⟨by decide, by decide⟩ dL_law_628 (by omega) (by omega) ?_
  exact k_icmp_eq hK 1171 dL_law_631 (by decide) (fun _ => k_widen (by omega) (by omega) (hF _ H2)) (fun q => absurd rfl q)
set_option maxHeartbeats 1000000 in
theorem lc_14 {K : zK} {G : zG} {b L j k n : Nat} {xs : Nat → Int32} {h : zH} (hI : lI K G b L xs j k n) (hF : lFin K G b j k n) (H : Rel h) : kW K G (lA K) 7 636 (lv0 G b (nI (7 * j))) [] (zL G h) k n := by
  obtain ⟨hK, hX, hj, hL, hk, hn⟩ := id hI
  have hG := lX_D hX
  obtain ⟨v, h2, e1, e2, H2⟩ := ok_next H (xs (7 * j + 1))
  refine k_aload_n hK 3 dL_law_636 rfl ?_
  refine l_arg hI 4 0 (q := 1) rfl rfl (by decide) dL_law_637 dL_law_638 dL_law_640 (by decide) dL_law_641 dL_law_642 ?_
  refine l_callV hK hX (t := 0) [.int (xs (7 * j + 1))] (m_X11_next hG z_0 e1) sv_X11_next q_1069 z_0 rfl [] rfl (Nat.le_of_ble_eq_true rfl) ⟨by decide, by decide⟩ dL_law_643 (by omega) (by omega) ?_
  refine k_aload_n hK 2 dL_law_646 rfl ?_
  refine l_arg hI 4 0 (q := 1) rfl rfl (by decide) dL_law_647 dL_law_648 dL_law_650 (by decide) dL_law_651 dL_law_652 ?_
  refine l_callV hK hX (t := 139) [.int (xs (7 * j + 1))] (m_X12_next hG z_139 e2) sv_X12_next q_1772 z_139 rfl [.int v] rfl (Nat.le_of_ble_eq_true rfl) ⟨by decide, by decide⟩ dL_law_653 (by omega) (by omega) ?_
  exact k_icmp_eq hK 1171 dL_law_656 (by decide) (fun _ => k_widen (by omega) (by omega) (hF _ H2)) (fun q => absurd rfl q)
set_option maxHeartbeats 1000000 in
theorem lc_15 {K : zK} {G : zG} {b L j k n : Nat} {xs : Nat → Int32} {h : zH} (hI : lI K G b L xs j k n) (hF : lFin K G b j k n) (H : Rel h) : kW K G (lA K) 7 661 (lv0 G b (nI (7 * j))) [] (zL G h) k n := by
  obtain ⟨hK, hX, hj, hL, hk, hn⟩ := id hI
  have hG := lX_D hX
  obtain ⟨v, h2, e1, e2, H2⟩ := ok_bring H (xs (7 * j + 1))
  refine k_aload_n hK 3 dL_law_661 rfl ?_
  refine l_arg hI 4 0 (q := 1) rfl rfl (by decide) dL_law_662 dL_law_663 dL_law_665 (by decide) dL_law_666 dL_law_667 ?_
  refine l_callV hK hX (t := 0) [.int (xs (7 * j + 1))] (m_X11_bring hG z_0 e1) sv_X11_bring q_1074 z_0 rfl [] rfl (Nat.le_of_ble_eq_true rfl) ⟨by decide, by decide⟩ dL_law_668 (by omega) (by omega) ?_
  refine k_aload_n hK 2 dL_law_671 rfl ?_
  refine l_arg hI 4 0 (q := 1) rfl rfl (by decide) dL_law_672 dL_law_673 dL_law_675 (by decide) dL_law_676 dL_law_677 ?_
  refine l_callV hK hX (t := 139) [.int (xs (7 * j + 1))] (m_X12_bring hG z_139 e2) sv_X12_bring q_1776 z_139 rfl [.int v] rfl (Nat.le_of_ble_eq_true rfl) ⟨by decide, by decide⟩ dL_law_678 (by omega) (by omega) ?_
  exact k_icmp_eq hK 1171 dL_law_681 (by decide) (fun _ => k_widen (by omega) (by omega) (hF _ H2)) (fun q => absurd rfl q)
set_option maxHeartbeats 1000000 in
theorem lc_16 {K : zK} {G : zG} {b L j k n : Nat} {xs : Nat → Int32} {h : zH} (hI : lI K G b L xs j k n) (hF : lFin K G b j k n) (H : Rel h) : kW K G (lA K) 7 686 (lv0 G b (nI (7 * j))) [] (zL G h) k n := by
  obtain ⟨hK, hX, hj, hL, hk, hn⟩ := id hI
  have hG := lX_D hX
  obtain ⟨v, h2, e1, e2, H2⟩ := ok_bears H (xs (7 * j + 1))
  refine k_aload_n hK 3 dL_law_686 rfl ?_
  refine l_arg hI 4 0 (q := 1) rfl rfl (by decide) dL_law_687 dL_law_688 dL_law_690 (by decide) dL_law_691 dL_law_692 ?_
  refine l_callV hK hX (t := 0) [.int (xs (7 * j + 1))] (m_X11_bears hG z_0 e1) sv_X11_bears q_1086 z_0 rfl [] rfl (Nat.le_of_ble_eq_true rfl) ⟨by decide, by decide⟩ dL_law_693 (by omega) (by omega) ?_
  refine k_aload_n hK 2 dL_law_696 rfl ?_
  refine l_arg hI 4 0 (q := 1) rfl rfl (by decide) dL_law_697 dL_law_698 dL_law_700 (by decide) dL_law_701 dL_law_702 ?_
  refine l_callV hK hX (t := 139) [.int (xs (7 * j + 1))] (m_X12_bears hG z_139 e2) sv_X12_bears q_1784 z_139 rfl [.int v] rfl (Nat.le_of_ble_eq_true rfl) ⟨by decide, by decide⟩ dL_law_703 (by omega) (by omega) ?_
  exact k_icmp_eq hK 1171 dL_law_706 (by decide) (fun _ => k_widen (by omega) (by omega) (hF _ H2)) (fun q => absurd rfl q)
set_option maxHeartbeats 1000000 in
theorem lc_17 {K : zK} {G : zG} {b L j k n : Nat} {xs : Nat → Int32} {h : zH} (hI : lI K G b L xs j k n) (hF : lFin K G b j k n) (H : Rel h) : kW K G (lA K) 7 711 (lv0 G b (nI (7 * j))) [] (zL G h) k n := by
  obtain ⟨hK, hX, hj, hL, hk, hn⟩ := id hI
  have hG := lX_D hX
  obtain ⟨v, h1, h2, e1, e2, H2⟩ := ok_falls H
  refine k_aload_n hK 3 dL_law_711 rfl ?_
  refine l_callV hK hX (t := 0) [] (m_X11_falls hG z_0 e1) sv_X11_falls q_1094 z_0 rfl [] rfl (Nat.le_of_ble_eq_true rfl) ⟨by decide, by decide⟩ dL_law_712 (by omega) (by omega) ?_
  refine k_aload_n hK 2 dL_law_715 rfl ?_
  refine l_callV hK hX (t := 139) [] (m_X12_falls hG z_139 e2) sv_X12_falls q_1792 z_139 rfl [.int v] rfl (Nat.le_of_ble_eq_true rfl) ⟨by decide, by decide⟩ dL_law_716 (by omega) (by omega) ?_
  exact k_icmp_eq hK 1171 dL_law_719 (by decide) (fun _ => k_widen (by omega) (by omega) (hF _ H2)) (fun q => absurd rfl q)
set_option maxHeartbeats 1000000 in
theorem lc_18 {K : zK} {G : zG} {b L j k n : Nat} {xs : Nat → Int32} {h : zH} (hI : lI K G b L xs j k n) (hF : lFin K G b j k n) (H : Rel h) : kW K G (lA K) 7 724 (lv0 G b (nI (7 * j))) [] (zL G h) k n := by
  obtain ⟨hK, hX, hj, hL, hk, hn⟩ := id hI
  have hG := lX_D hX
  obtain ⟨v, h1, h2, e1, e2, H2⟩ := ok_quiets H
  refine k_aload_n hK 3 dL_law_724 rfl ?_
  refine l_callV hK hX (t := 0) [] (m_X11_quiets hG z_0 e1) sv_X11_quiets q_1102 z_0 rfl [] rfl (Nat.le_of_ble_eq_true rfl) ⟨by decide, by decide⟩ dL_law_725 (by omega) (by omega) ?_
  refine k_aload_n hK 2 dL_law_728 rfl ?_
  refine l_callV hK hX (t := 139) [] (m_X12_quiets hG z_139 e2) sv_X12_quiets q_1800 z_139 rfl [.int v] rfl (Nat.le_of_ble_eq_true rfl) ⟨by decide, by decide⟩ dL_law_729 (by omega) (by omega) ?_
  exact k_icmp_eq hK 1171 dL_law_732 (by decide) (fun _ => k_widen (by omega) (by omega) (hF _ H2)) (fun q => absurd rfl q)
set_option maxHeartbeats 1000000 in
theorem lc_19 {K : zK} {G : zG} {b L j k n : Nat} {xs : Nat → Int32} {h : zH} (hI : lI K G b L xs j k n) (hF : lFin K G b j k n) (H : Rel h) : kW K G (lA K) 7 737 (lv0 G b (nI (7 * j))) [] (zL G h) k n := by
  obtain ⟨hK, hX, hj, hL, hk, hn⟩ := id hI
  have hG := lX_D hX
  obtain ⟨v, h1, h2, e1, e2, H2⟩ := ok_should H (xs (7 * j + 1))
  refine k_aload_n hK 3 dL_law_737 rfl ?_
  refine l_arg hI 4 0 (q := 1) rfl rfl (by decide) dL_law_738 dL_law_739 dL_law_741 (by decide) dL_law_742 dL_law_743 ?_
  refine l_callV hK hX (t := 0) [.int (xs (7 * j + 1))] (m_X11_should hG z_0 e1) sv_X11_should q_1110 z_0 rfl [] rfl (Nat.le_of_ble_eq_true rfl) ⟨by decide, by decide⟩ dL_law_744 (by omega) (by omega) ?_
  refine k_aload_n hK 2 dL_law_747 rfl ?_
  refine l_arg hI 4 0 (q := 1) rfl rfl (by decide) dL_law_748 dL_law_749 dL_law_751 (by decide) dL_law_752 dL_law_753 ?_
  refine l_callV hK hX (t := 139) [.int (xs (7 * j + 1))] (m_X12_should hG z_139 e2) sv_X12_should q_1808 z_139 rfl [.int v] rfl (Nat.le_of_ble_eq_true rfl) ⟨by decide, by decide⟩ dL_law_754 (by omega) (by omega) ?_
  exact k_icmp_eq hK 1171 dL_law_757 (by decide) (fun _ => k_widen (by omega) (by omega) (hF _ H2)) (fun q => absurd rfl q)
set_option maxHeartbeats 1000000 in
theorem lc_20 {K : zK} {G : zG} {b L j k n : Nat} {xs : Nat → Int32} {h : zH} (hI : lI K G b L xs j k n) (hF : lFin K G b j k n) (H : Rel h) : kW K G (lA K) 7 762 (lv0 G b (nI (7 * j))) [] (zL G h) k n := by
  obtain ⟨hK, hX, hj, hL, hk, hn⟩ := id hI
  have hG := lX_D hX
  by_cases hz : xs (7 * j + 2) = 0
  · obtain ⟨v, h1, h2, e1, e2, H2⟩ := ok_hear H (xs (7 * j + 1)) false
    refine k_aload_n hK 3 dL_law_762 rfl ?_
    refine l_arg hI 4 0 (q := 1) rfl rfl (by decide) dL_law_763 dL_law_764 dL_law_766 (by decide) dL_law_767 dL_law_768 ?_
    refine l_arg hI 4 0 (q := 2) rfl rfl (by decide) dL_law_769 dL_law_770 dL_law_772 (by decide) dL_law_773 dL_law_774 ?_
    refine k_if_eq hK 782 dL_law_775 (by decide) (fun _ => ?_) (fun q => absurd hz q)
    refine k_iconst (v := 0) hK dL_law_782 (by decide) ?_
    refine l_callV hK hX (t := 0) [.int (xs (7 * j + 1)), .int 0] (m_X11_hear hG z_0 e1) sv_X11_hear q_1114 z_0 rfl [] rfl (Nat.le_of_ble_eq_true rfl) ⟨by decide, by decide⟩ dL_law_783 (by omega) (by omega) ?_
    refine k_aload_n hK 2 dL_law_786 rfl ?_
    refine l_arg hI 4 0 (q := 1) rfl rfl (by decide) dL_law_787 dL_law_788 dL_law_790 (by decide) dL_law_791 dL_law_792 ?_
    refine l_arg hI 4 0 (q := 2) rfl rfl (by decide) dL_law_793 dL_law_794 dL_law_796 (by decide) dL_law_797 dL_law_798 ?_
    refine k_if_eq hK 806 dL_law_799 (by decide) (fun _ => ?_) (fun q => absurd hz q)
    refine k_iconst (v := 0) hK dL_law_806 (by decide) ?_
    refine l_callV hK hX (t := 139) [.int (xs (7 * j + 1)), .int 0] (m_X12_hear hG z_139 e2) sv_X12_hear q_1812 z_139 rfl [.int (zb v)] rfl (Nat.le_of_ble_eq_true rfl) ⟨by decide, by decide⟩ dL_law_807 (by omega) (by omega) ?_
    exact k_icmp_eq hK 1171 dL_law_810 (by decide) (fun _ => k_widen (by omega) (by omega) (hF _ H2)) (fun q => absurd rfl q)
  · obtain ⟨v, h1, h2, e1, e2, H2⟩ := ok_hear H (xs (7 * j + 1)) true
    refine k_aload_n hK 3 dL_law_762 rfl ?_
    refine l_arg hI 4 0 (q := 1) rfl rfl (by decide) dL_law_763 dL_law_764 dL_law_766 (by decide) dL_law_767 dL_law_768 ?_
    refine l_arg hI 4 0 (q := 2) rfl rfl (by decide) dL_law_769 dL_law_770 dL_law_772 (by decide) dL_law_773 dL_law_774 ?_
    refine k_if_eq hK 782 dL_law_775 (by decide) (fun q => absurd q hz) (fun _ => ?_)
    refine k_iconst (v := 1) hK dL_law_778 (by decide) ?_
    refine k_goto hK 783 dL_law_779 (by decide) ?_
    refine l_callV hK hX (t := 0) [.int (xs (7 * j + 1)), .int 1] (m_X11_hear hG z_0 e1) sv_X11_hear q_1114 z_0 rfl [] rfl (Nat.le_of_ble_eq_true rfl) ⟨by decide, by decide⟩ dL_law_783 (by omega) (by omega) ?_
    refine k_aload_n hK 2 dL_law_786 rfl ?_
    refine l_arg hI 4 0 (q := 1) rfl rfl (by decide) dL_law_787 dL_law_788 dL_law_790 (by decide) dL_law_791 dL_law_792 ?_
    refine l_arg hI 4 0 (q := 2) rfl rfl (by decide) dL_law_793 dL_law_794 dL_law_796 (by decide) dL_law_797 dL_law_798 ?_
    refine k_if_eq hK 806 dL_law_799 (by decide) (fun q => absurd q hz) (fun _ => ?_)
    refine k_iconst (v := 1) hK dL_law_802 (by decide) ?_
    refine k_goto hK 807 dL_law_803 (by decide) ?_
    refine l_callV hK hX (t := 139) [.int (xs (7 * j + 1)), .int 1] (m_X12_hear hG z_139 e2) sv_X12_hear q_1812 z_139 rfl [.int (zb v)] rfl (Nat.le_of_ble_eq_true rfl) ⟨by decide, by decide⟩ dL_law_807 (by omega) (by omega) ?_
    exact k_icmp_eq hK 1171 dL_law_810 (by decide) (fun _ => k_widen (by omega) (by omega) (hF _ H2)) (fun q => absurd rfl q)
set_option maxHeartbeats 1000000 in
theorem lc_21 {K : zK} {G : zG} {b L j k n : Nat} {xs : Nat → Int32} {h : zH} (hI : lI K G b L xs j k n) (hF : lFin K G b j k n) (H : Rel h) : kW K G (lA K) 7 815 (lv0 G b (nI (7 * j))) [] (zL G h) k n := by
  obtain ⟨hK, hX, hj, hL, hk, hn⟩ := id hI
  have hG := lX_D hX
  obtain ⟨v, h2, e1, e2, H2⟩ := ok_bars H (xs (7 * j + 1))
  refine k_aload_n hK 3 dL_law_815 rfl ?_
  refine l_arg hI 4 0 (q := 1) rfl rfl (by decide) dL_law_816 dL_law_817 dL_law_819 (by decide) dL_law_820 dL_law_821 ?_
  refine l_callV hK hX (t := 0) [.int (xs (7 * j + 1))] (m_X11_bars hG z_0 e1) sv_X11_bars q_1124 z_0 rfl [] rfl (Nat.le_of_ble_eq_true rfl) ⟨by decide, by decide⟩ dL_law_822 (by omega) (by omega) ?_
  refine k_aload_n hK 2 dL_law_825 rfl ?_
  refine l_arg hI 4 0 (q := 1) rfl rfl (by decide) dL_law_826 dL_law_827 dL_law_829 (by decide) dL_law_830 dL_law_831 ?_
  refine l_callV hK hX (t := 139) [.int (xs (7 * j + 1))] (m_X12_bars hG z_139 e2) sv_X12_bars q_1816 z_139 rfl [.int v] rfl (Nat.le_of_ble_eq_true rfl) ⟨by decide, by decide⟩ dL_law_832 (by omega) (by omega) ?_
  exact k_icmp_eq hK 1171 dL_law_835 (by decide) (fun _ => k_widen (by omega) (by omega) (hF _ H2)) (fun q => absurd rfl q)
set_option maxHeartbeats 1000000 in
theorem lc_22 {K : zK} {G : zG} {b L j k n : Nat} {xs : Nat → Int32} {h : zH} (hI : lI K G b L xs j k n) (hF : lFin K G b j k n) (H : Rel h) : kW K G (lA K) 7 840 (lv0 G b (nI (7 * j))) [] (zL G h) k n := by
  obtain ⟨hK, hX, hj, hL, hk, hn⟩ := id hI
  have hG := lX_D hX
  obtain ⟨v, h2, e1, e2, H2⟩ := ok_ask H
  refine k_aload_n hK 3 dL_law_840 rfl ?_
  refine l_callV hK hX (t := 0) [] (m_X11_ask hG z_0 e1) sv_X11_ask q_1141 z_0 rfl [] rfl (Nat.le_of_ble_eq_true rfl) ⟨by decide, by decide⟩ dL_law_841 (by omega) (by omega) ?_
  refine k_aload_n hK 2 dL_law_844 rfl ?_
  refine l_callV hK hX (t := 139) [] (m_X12_ask hG z_139 e2) sv_X12_ask q_1824 z_139 rfl [.int v] rfl (Nat.le_of_ble_eq_true rfl) ⟨by decide, by decide⟩ dL_law_845 (by omega) (by omega) ?_
  exact k_icmp_eq hK 1171 dL_law_848 (by decide) (fun _ => k_widen (by omega) (by omega) (hF _ H2)) (fun q => absurd rfl q)
set_option maxHeartbeats 1000000 in
theorem lc_23 {K : zK} {G : zG} {b L j k n : Nat} {xs : Nat → Int32} {h : zH} (hI : lI K G b L xs j k n) (hF : lFin K G b j k n) (H : Rel h) : kW K G (lA K) 7 853 (lv0 G b (nI (7 * j))) [] (zL G h) k n := by
  obtain ⟨hK, hX, hj, hL, hk, hn⟩ := id hI
  have hG := lX_D hX
  obtain ⟨v, h1, h2, e1, e2, H2⟩ := ok_sets H (xs (7 * j + 1)) (xs (7 * j + 2)) (xs (7 * j + 3))
  refine k_aload_n hK 3 dL_law_853 rfl ?_
  refine l_arg hI 4 0 (q := 1) rfl rfl (by decide) dL_law_854 dL_law_855 dL_law_857 (by decide) dL_law_858 dL_law_859 ?_
  refine l_arg hI 4 0 (q := 2) rfl rfl (by decide) dL_law_860 dL_law_861 dL_law_863 (by decide) dL_law_864 dL_law_865 ?_
  refine l_arg hI 4 0 (q := 3) rfl rfl (by decide) dL_law_866 dL_law_867 dL_law_869 (by decide) dL_law_870 dL_law_871 ?_
  refine l_callV hK hX (t := 0) [.int (xs (7 * j + 1)), .int (xs (7 * j + 2)), .int (xs (7 * j + 3))] (m_X11_sets hG z_0 e1) sv_X11_sets q_1146 z_0 rfl [] rfl (Nat.le_of_ble_eq_true rfl) ⟨by decide, by decide⟩ dL_law_872 (by omega) (by omega) ?_
  refine k_aload_n hK 2 dL_law_875 rfl ?_
  refine l_arg hI 4 0 (q := 1) rfl rfl (by decide) dL_law_876 dL_law_877 dL_law_879 (by decide) dL_law_880 dL_law_881 ?_
  refine l_arg hI 4 0 (q := 2) rfl rfl (by decide) dL_law_882 dL_law_883 dL_law_885 (by decide) dL_law_886 dL_law_887 ?_
  refine l_arg hI 4 0 (q := 3) rfl rfl (by decide) dL_law_888 dL_law_889 dL_law_891 (by decide) dL_law_892 dL_law_893 ?_
  refine l_callV hK hX (t := 139) [.int (xs (7 * j + 1)), .int (xs (7 * j + 2)), .int (xs (7 * j + 3))] (m_X12_sets hG z_139 e2) sv_X12_sets q_1829 z_139 rfl [.int v] rfl (Nat.le_of_ble_eq_true rfl) ⟨by decide, by decide⟩ dL_law_894 (by omega) (by omega) ?_
  exact k_icmp_eq hK 1171 dL_law_897 (by decide) (fun _ => k_widen (by omega) (by omega) (hF _ H2)) (fun q => absurd rfl q)
set_option maxHeartbeats 1000000 in
theorem lc_24 {K : zK} {G : zG} {b L j k n : Nat} {xs : Nat → Int32} {h : zH} (hI : lI K G b L xs j k n) (hF : lFin K G b j k n) (H : Rel h) : kW K G (lA K) 7 902 (lv0 G b (nI (7 * j))) [] (zL G h) k n := by
  obtain ⟨hK, hX, hj, hL, hk, hn⟩ := id hI
  have hG := lX_D hX
  obtain ⟨v, h2, e1, e2, H2⟩ := ok_ease H
  refine k_aload_n hK 3 dL_law_902 rfl ?_
  refine l_callV hK hX (t := 0) [] (m_X11_ease hG z_0 e1) sv_X11_ease q_1158 z_0 rfl [] rfl (Nat.le_of_ble_eq_true rfl) ⟨by decide, by decide⟩ dL_law_903 (by omega) (by omega) ?_
  refine k_aload_n hK 2 dL_law_906 rfl ?_
  refine l_callV hK hX (t := 139) [] (m_X12_ease hG z_139 e2) sv_X12_ease q_1844 z_139 rfl [.int v] rfl (Nat.le_of_ble_eq_true rfl) ⟨by decide, by decide⟩ dL_law_907 (by omega) (by omega) ?_
  exact k_icmp_eq hK 1171 dL_law_910 (by decide) (fun _ => k_widen (by omega) (by omega) (hF _ H2)) (fun q => absurd rfl q)
set_option maxHeartbeats 1000000 in
theorem lc_26 {K : zK} {G : zG} {b L j k n : Nat} {xs : Nat → Int32} {h : zH} (hI : lI K G b L xs j k n) (hF : lFin K G b j k n) (H : Rel h) : kW K G (lA K) 7 1007 (lv0 G b (nI (7 * j))) [] (zL G h) k n := by
  obtain ⟨hK, hX, hj, hL, hk, hn⟩ := id hI
  have hG := lX_D hX
  obtain ⟨v, h1, h2, e1, e2, H2⟩ := ok_rule H (xs (7 * j + 1)) (xs (7 * j + 2))
  refine k_aload_n hK 3 dL_law_1007 rfl ?_
  refine l_arg hI 4 0 (q := 1) rfl rfl (by decide) dL_law_1008 dL_law_1009 dL_law_1011 (by decide) dL_law_1012 dL_law_1013 ?_
  refine l_arg hI 4 0 (q := 2) rfl rfl (by decide) dL_law_1014 dL_law_1015 dL_law_1017 (by decide) dL_law_1018 dL_law_1019 ?_
  refine l_callV hK hX (t := 0) [.int (xs (7 * j + 1)), .int (xs (7 * j + 2))] (m_X11_rule hG z_0 e1) sv_X11_rule q_1166 z_0 rfl [] rfl (Nat.le_of_ble_eq_true rfl) ⟨by decide, by decide⟩ dL_law_1020 (by omega) (by omega) ?_
  refine k_aload_n hK 2 dL_law_1023 rfl ?_
  refine l_arg hI 4 0 (q := 1) rfl rfl (by decide) dL_law_1024 dL_law_1025 dL_law_1027 (by decide) dL_law_1028 dL_law_1029 ?_
  refine l_arg hI 4 0 (q := 2) rfl rfl (by decide) dL_law_1030 dL_law_1031 dL_law_1033 (by decide) dL_law_1034 dL_law_1035 ?_
  refine l_callV hK hX (t := 139) [.int (xs (7 * j + 1)), .int (xs (7 * j + 2))] (m_X12_rule hG z_139 e2) sv_X12_rule q_1855 z_139 rfl [.int v] rfl (Nat.le_of_ble_eq_true rfl) ⟨by decide, by decide⟩ dL_law_1036 (by omega) (by omega) ?_
  exact k_icmp_eq hK 1171 dL_law_1039 (by decide) (fun _ => k_widen (by omega) (by omega) (hF _ H2)) (fun q => absurd rfl q)
set_option maxHeartbeats 1000000 in
theorem lc_27 {K : zK} {G : zG} {b L j k n : Nat} {xs : Nat → Int32} {h : zH} (hI : lI K G b L xs j k n) (hF : lFin K G b j k n) (H : Rel h) : kW K G (lA K) 7 1044 (lv0 G b (nI (7 * j))) [] (zL G h) k n := by
  obtain ⟨hK, hX, hj, hL, hk, hn⟩ := id hI
  have hG := lX_D hX
  obtain ⟨v, h1, h2, e1, e2, H2⟩ := ok_ages H (xs (7 * j + 1)) (xs (7 * j + 2)) (xs (7 * j + 3))
  refine k_aload_n hK 3 dL_law_1044 rfl ?_
  refine l_arg hI 4 0 (q := 1) rfl rfl (by decide) dL_law_1045 dL_law_1046 dL_law_1048 (by decide) dL_law_1049 dL_law_1050 ?_
  refine l_arg hI 4 0 (q := 2) rfl rfl (by decide) dL_law_1051 dL_law_1052 dL_law_1054 (by decide) dL_law_1055 dL_law_1056 ?_
  refine l_arg hI 4 0 (q := 3) rfl rfl (by decide) dL_law_1057 dL_law_1058 dL_law_1060 (by decide) dL_law_1061 dL_law_1062 ?_
  refine l_callV hK hX (t := 0) [.int (xs (7 * j + 1)), .int (xs (7 * j + 2)), .int (xs (7 * j + 3))] (m_X11_ages hG z_0 e1) sv_X11_ages q_1170 z_0 rfl [] rfl (Nat.le_of_ble_eq_true rfl) ⟨by decide, by decide⟩ dL_law_1063 (by omega) (by omega) ?_
  refine k_aload_n hK 2 dL_law_1066 rfl ?_
  refine l_arg hI 4 0 (q := 1) rfl rfl (by decide) dL_law_1067 dL_law_1068 dL_law_1070 (by decide) dL_law_1071 dL_law_1072 ?_
  refine l_arg hI 4 0 (q := 2) rfl rfl (by decide) dL_law_1073 dL_law_1074 dL_law_1076 (by decide) dL_law_1077 dL_law_1078 ?_
  refine l_arg hI 4 0 (q := 3) rfl rfl (by decide) dL_law_1079 dL_law_1080 dL_law_1082 (by decide) dL_law_1083 dL_law_1084 ?_
  refine l_callV hK hX (t := 139) [.int (xs (7 * j + 1)), .int (xs (7 * j + 2)), .int (xs (7 * j + 3))] (m_X12_ages hG z_139 e2) sv_X12_ages q_1859 z_139 rfl [.int v] rfl (Nat.le_of_ble_eq_true rfl) ⟨by decide, by decide⟩ dL_law_1085 (by omega) (by omega) ?_
  exact k_icmp_eq hK 1171 dL_law_1088 (by decide) (fun _ => k_widen (by omega) (by omega) (hF _ H2)) (fun q => absurd rfl q)
set_option maxHeartbeats 1000000 in
theorem lc_28 {K : zK} {G : zG} {b L j k n : Nat} {xs : Nat → Int32} {h : zH} (hI : lI K G b L xs j k n) (hF : lFin K G b j k n) (H : Rel h) : kW K G (lA K) 7 1093 (lv0 G b (nI (7 * j))) [] (zL G h) k n := by
  obtain ⟨hK, hX, hj, hL, hk, hn⟩ := id hI
  have hG := lX_D hX
  by_cases hz : xs (7 * j + 2) = 0
  · obtain ⟨v, h1, h2, e1, e2, H2⟩ := ok_mark H (xs (7 * j + 1)) false
    refine k_aload_n hK 3 dL_law_1093 rfl ?_
    refine l_arg hI 4 0 (q := 1) rfl rfl (by decide) dL_law_1094 dL_law_1095 dL_law_1097 (by decide) dL_law_1098 dL_law_1099 ?_
    refine l_arg hI 4 0 (q := 2) rfl rfl (by decide) dL_law_1100 dL_law_1101 dL_law_1103 (by decide) dL_law_1104 dL_law_1105 ?_
    refine k_if_eq hK 1113 dL_law_1106 (by decide) (fun _ => ?_) (fun q => absurd hz q)
    refine k_iconst (v := 0) hK dL_law_1113 (by decide) ?_
    refine l_callV hK hX (t := 0) [.int (xs (7 * j + 1)), .int 0] (m_X11_mark hG z_0 e1) sv_X11_mark q_1186 z_0 rfl [] rfl (Nat.le_of_ble_eq_true rfl) ⟨by decide, by decide⟩ dL_law_1114 (by omega) (by omega) ?_
    refine k_aload_n hK 2 dL_law_1117 rfl ?_
    refine l_arg hI 4 0 (q := 1) rfl rfl (by decide) dL_law_1118 dL_law_1119 dL_law_1121 (by decide) dL_law_1122 dL_law_1123 ?_
    refine l_arg hI 4 0 (q := 2) rfl rfl (by decide) dL_law_1124 dL_law_1125 dL_law_1127 (by decide) dL_law_1128 dL_law_1129 ?_
    refine k_if_eq hK 1137 dL_law_1130 (by decide) (fun _ => ?_) (fun q => absurd hz q)
    refine k_iconst (v := 0) hK dL_law_1137 (by decide) ?_
    refine l_callV hK hX (t := 139) [.int (xs (7 * j + 1)), .int 0] (m_X12_mark hG z_139 e2) sv_X12_mark q_1875 z_139 rfl [.int (zb v)] rfl (Nat.le_of_ble_eq_true rfl) ⟨by decide, by decide⟩ dL_law_1138 (by omega) (by omega) ?_
    exact k_icmp_eq hK 1171 dL_law_1141 (by decide) (fun _ => k_widen (by omega) (by omega) (hF _ H2)) (fun q => absurd rfl q)
  · obtain ⟨v, h1, h2, e1, e2, H2⟩ := ok_mark H (xs (7 * j + 1)) true
    refine k_aload_n hK 3 dL_law_1093 rfl ?_
    refine l_arg hI 4 0 (q := 1) rfl rfl (by decide) dL_law_1094 dL_law_1095 dL_law_1097 (by decide) dL_law_1098 dL_law_1099 ?_
    refine l_arg hI 4 0 (q := 2) rfl rfl (by decide) dL_law_1100 dL_law_1101 dL_law_1103 (by decide) dL_law_1104 dL_law_1105 ?_
    refine k_if_eq hK 1113 dL_law_1106 (by decide) (fun q => absurd q hz) (fun _ => ?_)
    refine k_iconst (v := 1) hK dL_law_1109 (by decide) ?_
    refine k_goto hK 1114 dL_law_1110 (by decide) ?_
    refine l_callV hK hX (t := 0) [.int (xs (7 * j + 1)), .int 1] (m_X11_mark hG z_0 e1) sv_X11_mark q_1186 z_0 rfl [] rfl (Nat.le_of_ble_eq_true rfl) ⟨by decide, by decide⟩ dL_law_1114 (by omega) (by omega) ?_
    refine k_aload_n hK 2 dL_law_1117 rfl ?_
    refine l_arg hI 4 0 (q := 1) rfl rfl (by decide) dL_law_1118 dL_law_1119 dL_law_1121 (by decide) dL_law_1122 dL_law_1123 ?_
    refine l_arg hI 4 0 (q := 2) rfl rfl (by decide) dL_law_1124 dL_law_1125 dL_law_1127 (by decide) dL_law_1128 dL_law_1129 ?_
    refine k_if_eq hK 1137 dL_law_1130 (by decide) (fun q => absurd q hz) (fun _ => ?_)
    refine k_iconst (v := 1) hK dL_law_1133 (by decide) ?_
    refine k_goto hK 1138 dL_law_1134 (by decide) ?_
    refine l_callV hK hX (t := 139) [.int (xs (7 * j + 1)), .int 1] (m_X12_mark hG z_139 e2) sv_X12_mark q_1875 z_139 rfl [.int (zb v)] rfl (Nat.le_of_ble_eq_true rfl) ⟨by decide, by decide⟩ dL_law_1138 (by omega) (by omega) ?_
    exact k_icmp_eq hK 1171 dL_law_1141 (by decide) (fun _ => k_widen (by omega) (by omega) (hF _ H2)) (fun q => absurd rfl q)
set_option maxHeartbeats 1000000 in
theorem lc_29 {K : zK} {G : zG} {b L j k n : Nat} {xs : Nat → Int32} {h : zH} (hI : lI K G b L xs j k n) (hF : lFin K G b j k n) (H : Rel h) : kW K G (lA K) 7 1146 (lv0 G b (nI (7 * j))) [] (zL G h) k n := by
  obtain ⟨hK, hX, hj, hL, hk, hn⟩ := id hI
  have hG := lX_D hX
  obtain ⟨v, h2, e1, e2, H2⟩ := ok_count H (xs (7 * j + 1))
  refine k_aload_n hK 3 dL_law_1146 rfl ?_
  refine l_arg hI 4 0 (q := 1) rfl rfl (by decide) dL_law_1147 dL_law_1148 dL_law_1150 (by decide) dL_law_1151 dL_law_1152 ?_
  refine l_callV hK hX (t := 0) [.int (xs (7 * j + 1))] (m_X11_count hG z_0 e1) sv_X11_count q_1196 z_0 rfl [] rfl (Nat.le_of_ble_eq_true rfl) ⟨by decide, by decide⟩ dL_law_1153 (by omega) (by omega) ?_
  refine k_aload_n hK 2 dL_law_1156 rfl ?_
  refine l_arg hI 4 0 (q := 1) rfl rfl (by decide) dL_law_1157 dL_law_1158 dL_law_1160 (by decide) dL_law_1161 dL_law_1162 ?_
  refine l_callV hK hX (t := 139) [.int (xs (7 * j + 1))] (m_X12_count hG z_139 e2) sv_X12_count q_1883 z_139 rfl [.int v] rfl (Nat.le_of_ble_eq_true rfl) ⟨by decide, by decide⟩ dL_law_1163 (by omega) (by omega) ?_
  exact k_icmp_eq hK 1171 dL_law_1166 (by decide) (fun _ => k_widen (by omega) (by omega) (hF _ H2)) (fun q => absurd rfl q)
theorem lcmp_self (x : Int64) : lg_cmp x x = 0 := by
  unfold lg_cmp
  rw [if_neg (fun z => absurd z (by simp)), if_pos rfl]
set_option maxHeartbeats 1000000 in
theorem lc_25 {K : zK} {G : zG} {b L j k n : Nat} {xs : Nat → Int32} {h : zH} (hI : lI K G b L xs j k n) (hF : lFin K G b j k n) (H : Rel h) : kW K G (lA K) 7 915 (lv0 G b (nI (7 * j))) [] (zL G h) k n := by
  obtain ⟨hK, hX, hj, hL, hk, hn⟩ := id hI
  have hG := lX_D hX
  obtain ⟨v, h2, e1, e2, e3, H2⟩ := ok_rests H (xs (7 * j + 1)) (xs (7 * j + 2)) (xs (7 * j + 3)) (xs (7 * j + 4))
  refine k_aload_n hK 3 dL_law_915 rfl ?_
  refine l_arg hI 4 0 (q := 1) rfl rfl (by decide) dL_law_916 dL_law_917 dL_law_919 (by decide) dL_law_920 dL_law_921 ?_
  refine l_arg hI 4 0 (q := 2) rfl rfl (by decide) dL_law_922 dL_law_923 dL_law_925 (by decide) dL_law_926 dL_law_927 ?_
  refine l_arg hI 4 0 (q := 3) rfl rfl (by decide) dL_law_928 dL_law_929 dL_law_931 (by decide) dL_law_932 dL_law_933 ?_
  refine l_arg hI 4 0 (q := 4) rfl rfl (by decide) dL_law_934 dL_law_935 dL_law_937 (by decide) dL_law_938 dL_law_939 ?_
  refine k_aload_n hK 1 dL_law_940 rfl ?_
  refine l_callR hK hX ⟨by decide, by decide⟩ dL_law_941 hk hn ?_
  refine k_istore (lv' := (5, .int (gL h (xs (7 * j + 1)) (xs (7 * j + 2)) (xs (7 * j + 3)) (xs (7 * j + 4))).1) :: lv0 G b (nI (7 * j))) hK dL_law_944 (by decide) rfl ?_
  refine k_aload_n hK 3 dL_law_946 rfl ?_
  refine l_arg hI 5 1 (q := 1) rfl rfl (by decide) dL_law_947 dL_law_948 dL_law_950 (by decide) dL_law_951 dL_law_952 ?_
  refine l_arg hI 5 1 (q := 2) rfl rfl (by decide) dL_law_953 dL_law_954 dL_law_956 (by decide) dL_law_957 dL_law_958 ?_
  refine l_arg hI 5 1 (q := 3) rfl rfl (by decide) dL_law_959 dL_law_960 dL_law_962 (by decide) dL_law_963 dL_law_964 ?_
  refine l_arg hI 5 1 (q := 4) rfl rfl (by decide) dL_law_965 dL_law_966 dL_law_968 (by decide) dL_law_969 dL_law_970 ?_
  refine l_callV hK hX (t := 139) [.int (xs (7 * j + 1)), .int (xs (7 * j + 2)), .int (xs (7 * j + 3)), .int (xs (7 * j + 4))] (m_X12_rests hG z_139 e1) sv_X12_rests q_1848 z_139 rfl [] rfl (Nat.le_of_ble_eq_true rfl) ⟨by decide, by decide⟩ dL_law_971 (by omega) (by omega) ?_
  refine k_istore (lv' := (6, .int v) :: (5, .int (gL h (xs (7 * j + 1)) (xs (7 * j + 2)) (xs (7 * j + 3)) (xs (7 * j + 4))).1) :: lv0 G b (nI (7 * j))) hK dL_law_974 (by decide) rfl ?_
  refine k_aload_n hK 4 dL_law_976 rfl ?_
  refine l_callV hK hX (t := 139) [] (m_X12_thrown hG z_139 (r := h2.1 139 0) rfl) sv_X12_thrown q_1453 z_139 rfl [] rfl (Nat.le_of_ble_eq_true rfl) ⟨by decide, by decide⟩ dL_law_977 (by omega) (by omega) ?_
  have fin : kW K G (lA K) 7 1004 ((6, .int v) :: (5, .int (gL h (xs (7 * j + 1)) (xs (7 * j + 2)) (xs (7 * j + 3)) (xs (7 * j + 4))).1) :: lv0 G b (nI (7 * j))) [] (zL G h2) (k + 1) (n + 6) := k_goto hK 1171 dL_law_1004 (by decide) (k_sub [2, 3, 4, 5, 6] rfl (hF h2 H2))
  refine k_iload hK 1 dL_law_980 rfl ?_
  refine k_icmp_eq hK 987 dL_law_982 (by decide) (fun _ => ?_) (fun q => absurd e2 q)
  refine k_iload hK 1 dL_law_987 rfl ?_
  refine k_if_ne hK 1004 dL_law_989 (by decide) (fun _ => fin) (fun q => ?_)
  refine k_aload_n hK 3 dL_law_992 rfl ?_
  refine k_iconst (v := 0) hK dL_law_993 (by decide) ?_
  refine k_lald hK z_177 (by decide) dL_law_994 ?_
  refine k_iload hK 0 dL_law_995 rfl ?_
  refine k_i2l hK dL_law_997 ?_
  refine k_lcmp hK dL_law_998 ?_
  exact k_if_eq hK 1004 dL_law_999 (by decide) (fun _ => fin) (fun q2 => absurd (by rw [zxl_0, e3 q]; exact lcmp_self _) q2)
