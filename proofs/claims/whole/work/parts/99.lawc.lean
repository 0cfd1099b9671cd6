theorem v_sx {F : x_F} {K : x_K} {pc pc' : Nat} {ls : List (Option Value)} {st : List Value} {S : x_S} {P : x_P} {I : x_I} {J : x_J} {n cs sl : Nat} {i : Int32} {N : Nat} {xs : Nat → Int32} (j : Nat) (hd : x_d F.1 1 pc .iaload pc') (hi : i = nI j) (hs : S 0 = .inr (9, N)) (hj : x_in j N) (h0 : I 0 = xs) (kk : x_V F K pc' ls (.int (xs j) :: st) S P I J n cs sl) : x_V F K pc ls (.int i :: .ref 0 :: st) S P I J n cs sl := v_sld j hd hi hs hj (by rw [h0]; exact kk)

theorem u2_same (I : x_I) : x_u2 I 39 1 (I 39 1) = I := by
  funext a k
  rw [x_u2_at]
  by_cases e : a = 39 ∧ k = 1
  · rw [if_pos e, e.1, e.2]
  · rw [if_neg e]

set_option maxRecDepth 100000 in
set_option maxHeartbeats 4000000 in
theorem lw_c_surface {K : x_K} {S : x_S} {P : x_P} {I : x_I} {J : x_J} {n cs sl N i : Nat} {xs : Nat → Int32} {fa : Nat → Nat} {bd : Nat} (hs0 : S 0 = .inr (9, N)) (hxs : I 0 = xs) (hi : i + 8 ≤ N) (hN : N ≤ 4096) (hR : c_R fa bd I S P I J n) (mi : m_I I) (hcs : cs + 3 ≤ 600000) (hsl : sl + 76 ≤ 7302250)
    (hnx : ∀ (S' : x_S) (P' : x_P) (I' : x_I) (J' : x_J) (n' cs' sl' : Nat), S' 0 = .inr (9, N) → I' 0 = xs → c_S I' S' P' I' J' n' → m_I I' → cs' ≤ cs + 3 → sl' ≤ sl + 76 → x_V f_L_law K 1520 [some (.ref 0), some (.ref 1), some (.ref 39), some (.int (nI i))] [] S' P' I' J' n' cs' sl') : x_V f_L_law K 188 [some (.ref 0), some (.ref 1), some (.ref 39), some (.int (nI i))] [] S P I J n cs sl := by
  have hS := hR.hS
  have hP := hR.hP
  have kb := k_beg hR mi
  refine v_aload_n d_L_law_188 rfl ?_
  refine v_aload_n d_L_law_189 rfl ?_
  refine v_iload_n d_L_law_190 rfl ?_
  refine v_iconst (v := nI 1) d_L_law_191 x_ic_1 ?_
  first | refine v_iaddN d_L_law_192 ?_ | refine v_iadd d_L_law_192 ?_
  refine v_sx _ d_L_law_193 (rfl) (hs0) (⟨by omega, by omega⟩) hxs ?_
  refine v_aload_n d_L_law_194 rfl ?_
  refine v_iload_n d_L_law_195 rfl ?_
  refine v_iconst (v := nI 2) d_L_law_196 x_ic_2 ?_
  first | refine v_iaddN d_L_law_197 ?_ | refine v_iadd d_L_law_197 ?_
  refine v_sx _ d_L_law_198 (rfl) (hs0) (⟨by omega, by omega⟩) hxs ?_
  refine v_aload_n d_L_law_199 rfl ?_
  refine v_iload_n d_L_law_200 rfl ?_
  refine v_iconst (v := nI 3) d_L_law_201 x_ic_3 ?_
  first | refine v_iaddN d_L_law_202 ?_ | refine v_iadd d_L_law_202 ?_
  refine v_sx _ d_L_law_203 (rfl) (hs0) (⟨by omega, by omega⟩) hxs ?_
  refine v_aload_n d_L_law_204 rfl ?_
  refine v_iload_n d_L_law_205 rfl ?_
  refine v_iconst (v := nI 4) d_L_law_206 x_ic_4 ?_
  first | refine v_iaddN d_L_law_207 ?_ | refine v_iadd d_L_law_207 ?_
  refine v_sx _ d_L_law_208 (rfl) (hs0) (⟨by omega, by omega⟩) hxs ?_
  refine v_aload_n d_L_law_209 rfl ?_
  refine v_iload_n d_L_law_210 rfl ?_
  refine v_iconst (v := nI 5) d_L_law_211 x_ic_5 ?_
  first | refine v_iaddN d_L_law_212 ?_ | refine v_iadd d_L_law_212 ?_
  refine v_sx _ d_L_law_213 (rfl) (hs0) (⟨by omega, by omega⟩) hxs ?_
  refine v_aload_n d_L_law_214 rfl ?_
  refine v_iload_n d_L_law_215 rfl ?_
  refine v_bipush (v := nI 6) d_L_law_216 x_bp_6 ?_
  first | refine v_iaddN d_L_law_218 ?_ | refine v_iadd d_L_law_218 ?_
  refine v_sx _ d_L_law_219 (rfl) (hs0) (⟨by omega, by omega⟩) hxs ?_
  refine v_aload_n d_L_law_220 rfl ?_
  refine v_iload_n d_L_law_221 rfl ?_
  refine v_bipush (v := nI 7) d_L_law_222 x_bp_7 ?_
  first | refine v_iaddN d_L_law_224 ?_ | refine v_iadd d_L_law_224 ?_
  refine v_sx _ d_L_law_225 (rfl) (hs0) (⟨by omega, by omega⟩) hxs ?_
  refine v_cv (as := [_, _, _, _, _, _, _]) (rest := []) d_L_law_226 lv_L_13_11 (hS _ _ rfl) rfl ⟨by decide, by decide⟩ rfl (Nat.le_of_ble_eq_true rfl) (by show cs + 3 ≤ 600000; omega) (by show sl + 76 ≤ 7302250; omega) ?_
  refine x_Call.keep (t_X11_surface kb.1 kb.2 (fun S1 P1 I1 J1 n1 hc1 hx1 hn1 g0 g1 => ?_))
  have mi1 := k_mi1 hx1 mi
  have hs0 : S1 0 = .inr (9, N) := g0.trans hs0
  have hxs : I1 0 = xs := g1.trans hxs
  rw [← k_mid hx1, z_surface_pr] at hc1
  have hq : q_surface (m_pr I) (xs (i + 1)) (xs (i + 2)) (xs (i + 3)) (xs (i + 4)) (xs (i + 5)) (xs (i + 6)) (xs (i + 7)) = q_surface I1 (xs (i + 1)) (xs (i + 2)) (xs (i + 3)) (xs (i + 4)) (xs (i + 5)) (xs (i + 6)) (xs (i + 7)) := by rw [← k_mid hx1, q_surface_pr]
  rw [hq]
  obtain ⟨fa1, bd1, hR1⟩ := id hc1
  have hS := hR1.hS
  have hP := hR1.hP
  refine v_aload_n d_L_law_229 rfl ?_
  refine v_aload_n d_L_law_230 rfl ?_
  refine v_iload_n d_L_law_231 rfl ?_
  refine v_iconst (v := nI 1) d_L_law_232 x_ic_1 ?_
  first | refine v_iaddN d_L_law_233 ?_ | refine v_iadd d_L_law_233 ?_
  refine v_sx _ d_L_law_234 (rfl) (hs0) (⟨by omega, by omega⟩) hxs ?_
  refine v_aload_n d_L_law_235 rfl ?_
  refine v_iload_n d_L_law_236 rfl ?_
  refine v_iconst (v := nI 2) d_L_law_237 x_ic_2 ?_
  first | refine v_iaddN d_L_law_238 ?_ | refine v_iadd d_L_law_238 ?_
  refine v_sx _ d_L_law_239 (rfl) (hs0) (⟨by omega, by omega⟩) hxs ?_
  refine v_aload_n d_L_law_240 rfl ?_
  refine v_iload_n d_L_law_241 rfl ?_
  refine v_iconst (v := nI 3) d_L_law_242 x_ic_3 ?_
  first | refine v_iaddN d_L_law_243 ?_ | refine v_iadd d_L_law_243 ?_
  refine v_sx _ d_L_law_244 (rfl) (hs0) (⟨by omega, by omega⟩) hxs ?_
  refine v_aload_n d_L_law_245 rfl ?_
  refine v_iload_n d_L_law_246 rfl ?_
  refine v_iconst (v := nI 4) d_L_law_247 x_ic_4 ?_
  first | refine v_iaddN d_L_law_248 ?_ | refine v_iadd d_L_law_248 ?_
  refine v_sx _ d_L_law_249 (rfl) (hs0) (⟨by omega, by omega⟩) hxs ?_
  refine v_aload_n d_L_law_250 rfl ?_
  refine v_iload_n d_L_law_251 rfl ?_
  refine v_iconst (v := nI 5) d_L_law_252 x_ic_5 ?_
  first | refine v_iaddN d_L_law_253 ?_ | refine v_iadd d_L_law_253 ?_
  refine v_sx _ d_L_law_254 (rfl) (hs0) (⟨by omega, by omega⟩) hxs ?_
  refine v_aload_n d_L_law_255 rfl ?_
  refine v_iload_n d_L_law_256 rfl ?_
  refine v_bipush (v := nI 6) d_L_law_257 x_bp_6 ?_
  first | refine v_iaddN d_L_law_259 ?_ | refine v_iadd d_L_law_259 ?_
  refine v_sx _ d_L_law_260 (rfl) (hs0) (⟨by omega, by omega⟩) hxs ?_
  refine v_aload_n d_L_law_261 rfl ?_
  refine v_iload_n d_L_law_262 rfl ?_
  refine v_bipush (v := nI 7) d_L_law_263 x_bp_7 ?_
  first | refine v_iaddN d_L_law_265 ?_ | refine v_iadd d_L_law_265 ?_
  refine v_sx _ d_L_law_266 (rfl) (hs0) (⟨by omega, by omega⟩) hxs ?_
  refine v_cv (as := [_, _, _, _, _, _, _]) (rest := [_]) d_L_law_267 lv_L_17_12 (hS _ _ rfl) rfl ⟨by decide, by decide⟩ rfl (Nat.le_of_ble_eq_true rfl) (by show cs + 3 + 0 ≤ 600000; omega) (by show sl + 76 + 0 ≤ 7302250; omega) ?_
  refine x_Call.keep (t_X12_surface mi1.hn hS hP (fun g2 g3 => ?_))
  refine w_icmp_eq d_L_law_270 (fun aeq => ?_) (fun aeq => False.elim (by exact aeq rfl))
  have kf := k_fin (z := (z_surface I1 (xs (i + 1)) (xs (i + 2)) (xs (i + 3)) (xs (i + 4)) (xs (i + 5)) (xs (i + 6)) (xs (i + 7)))) (I2 := (z_surface I1 (xs (i + 1)) (xs (i + 2)) (xs (i + 3)) (xs (i + 4)) (xs (i + 5)) (xs (i + 6)) (xs (i + 7)))) (J2 := J1) hc1 (z_surface_mi mi1) (fun a k ha => z_surface_out I1 (xs (i + 1)) (xs (i + 2)) (xs (i + 3)) (xs (i + 4)) (xs (i + 5)) (xs (i + 6)) (xs (i + 7)) a k ha) x_ex.rf
  refine hnx S1 P1 _ _ n1 _ _ hs0 (g3.trans hxs) kf.1 kf.2 ?_ ?_
  · show cs + 3 + 0 ≤ cs + 3; omega
  · show sl + 76 + 0 ≤ sl + 76; omega

set_option maxRecDepth 100000 in
set_option maxHeartbeats 4000000 in
theorem lw_c_about {K : x_K} {S : x_S} {P : x_P} {I : x_I} {J : x_J} {n cs sl N i : Nat} {xs : Nat → Int32} {fa : Nat → Nat} {bd : Nat} (hs0 : S 0 = .inr (9, N)) (hxs : I 0 = xs) (hi : i + 8 ≤ N) (hN : N ≤ 4096) (hR : c_R fa bd I S P I J n) (mi : m_I I) (hcs : cs + 3 ≤ 600000) (hsl : sl + 76 ≤ 7302250)
    (hnx : ∀ (S' : x_S) (P' : x_P) (I' : x_I) (J' : x_J) (n' cs' sl' : Nat), S' 0 = .inr (9, N) → I' 0 = xs → c_S I' S' P' I' J' n' → m_I I' → cs' ≤ cs + 3 → sl' ≤ sl + 76 → x_V f_L_law K 1520 [some (.ref 0), some (.ref 1), some (.ref 39), some (.int (nI i))] [] S' P' I' J' n' cs' sl') : x_V f_L_law K 275 [some (.ref 0), some (.ref 1), some (.ref 39), some (.int (nI i))] [] S P I J n cs sl := by
  have hS := hR.hS
  have hP := hR.hP
  have kb := k_beg hR mi
  refine v_aload_n d_L_law_275 rfl ?_
  refine v_aload_n d_L_law_276 rfl ?_
  refine v_iload_n d_L_law_277 rfl ?_
  refine v_iconst (v := nI 1) d_L_law_278 x_ic_1 ?_
  first | refine v_iaddN d_L_law_279 ?_ | refine v_iadd d_L_law_279 ?_
  refine v_sx _ d_L_law_280 (rfl) (hs0) (⟨by omega, by omega⟩) hxs ?_
  refine v_aload_n d_L_law_281 rfl ?_
  refine v_iload_n d_L_law_282 rfl ?_
  refine v_iconst (v := nI 2) d_L_law_283 x_ic_2 ?_
  first | refine v_iaddN d_L_law_284 ?_ | refine v_iadd d_L_law_284 ?_
  refine v_sx _ d_L_law_285 (rfl) (hs0) (⟨by omega, by omega⟩) hxs ?_
  refine v_cv (as := [_, _]) (rest := []) d_L_law_286 lv_L_18_11 (hS _ _ rfl) rfl ⟨by decide, by decide⟩ rfl (Nat.le_of_ble_eq_true rfl) (by show cs + 0 ≤ 600000; omega) (by show sl + 0 ≤ 7302250; omega) ?_
  refine x_Call.keep (t_X11_about kb.1 kb.2 (fun S1 P1 I1 J1 n1 hc1 hx1 hn1 g0 g1 => ?_))
  have mi1 := k_mi1 hx1 mi
  have hs0 : S1 0 = .inr (9, N) := g0.trans hs0
  have hxs : I1 0 = xs := g1.trans hxs
  rw [← k_mid hx1] at hc1
  have hq : q_about (m_pr I) (xs (i + 1)) (xs (i + 2)) = q_about I1 (xs (i + 1)) (xs (i + 2)) := by rw [← k_mid hx1, q_about_pr]
  rw [hq]
  obtain ⟨fa1, bd1, hR1⟩ := id hc1
  have hS := hR1.hS
  have hP := hR1.hP
  refine v_aload_n d_L_law_289 rfl ?_
  refine v_aload_n d_L_law_290 rfl ?_
  refine v_iload_n d_L_law_291 rfl ?_
  refine v_iconst (v := nI 1) d_L_law_292 x_ic_1 ?_
  first | refine v_iaddN d_L_law_293 ?_ | refine v_iadd d_L_law_293 ?_
  refine v_sx _ d_L_law_294 (rfl) (hs0) (⟨by omega, by omega⟩) hxs ?_
  refine v_aload_n d_L_law_295 rfl ?_
  refine v_iload_n d_L_law_296 rfl ?_
  refine v_iconst (v := nI 2) d_L_law_297 x_ic_2 ?_
  first | refine v_iaddN d_L_law_298 ?_ | refine v_iadd d_L_law_298 ?_
  refine v_sx _ d_L_law_299 (rfl) (hs0) (⟨by omega, by omega⟩) hxs ?_
  refine v_cv (as := [_, _]) (rest := [_]) d_L_law_300 lv_L_22_12 (hS _ _ rfl) rfl ⟨by decide, by decide⟩ rfl (Nat.le_of_ble_eq_true rfl) (by show cs + 0 + 0 ≤ 600000; omega) (by show sl + 0 + 0 ≤ 7302250; omega) ?_
  refine x_Call.keep (t_X12_about mi1.hn mi1.fo hS hP (fun g2 g3 => ?_))
  refine w_icmp_eq d_L_law_303 (fun aeq => ?_) (fun aeq => False.elim (by exact aeq rfl))
  have kf := k_fin (z := I1) (I2 := I1) (J2 := J1) hc1 mi1 (fun a k ha => rfl) x_ex.rf
  refine hnx S1 P1 _ _ n1 _ _ hs0 (g3.trans hxs) kf.1 kf.2 ?_ ?_
  · show cs + 0 + 0 ≤ cs + 3; omega
  · show sl + 0 + 0 ≤ sl + 76; omega

set_option maxRecDepth 100000 in
set_option maxHeartbeats 4000000 in
theorem lw_c_board {K : x_K} {S : x_S} {P : x_P} {I : x_I} {J : x_J} {n cs sl N i : Nat} {xs : Nat → Int32} {fa : Nat → Nat} {bd : Nat} (hs0 : S 0 = .inr (9, N)) (hxs : I 0 = xs) (hi : i + 8 ≤ N) (hN : N ≤ 4096) (hR : c_R fa bd I S P I J n) (mi : m_I I) (hcs : cs + 3 ≤ 600000) (hsl : sl + 76 ≤ 7302250)
    (hnx : ∀ (S' : x_S) (P' : x_P) (I' : x_I) (J' : x_J) (n' cs' sl' : Nat), S' 0 = .inr (9, N) → I' 0 = xs → c_S I' S' P' I' J' n' → m_I I' → cs' ≤ cs + 3 → sl' ≤ sl + 76 → x_V f_L_law K 1520 [some (.ref 0), some (.ref 1), some (.ref 39), some (.int (nI i))] [] S' P' I' J' n' cs' sl') : x_V f_L_law K 308 [some (.ref 0), some (.ref 1), some (.ref 39), some (.int (nI i))] [] S P I J n cs sl := by
  have hS := hR.hS
  have hP := hR.hP
  have kb := k_beg hR mi
  refine v_aload_n d_L_law_308 rfl ?_
  refine v_aload_n d_L_law_309 rfl ?_
  refine v_iload_n d_L_law_310 rfl ?_
  refine v_iconst (v := nI 1) d_L_law_311 x_ic_1 ?_
  first | refine v_iaddN d_L_law_312 ?_ | refine v_iadd d_L_law_312 ?_
  refine v_sx _ d_L_law_313 (rfl) (hs0) (⟨by omega, by omega⟩) hxs ?_
  refine v_aload_n d_L_law_314 rfl ?_
  refine v_iload_n d_L_law_315 rfl ?_
  refine v_iconst (v := nI 2) d_L_law_316 x_ic_2 ?_
  first | refine v_iaddN d_L_law_317 ?_ | refine v_iadd d_L_law_317 ?_
  refine v_sx _ d_L_law_318 (rfl) (hs0) (⟨by omega, by omega⟩) hxs ?_
  refine v_aload_n d_L_law_319 rfl ?_
  refine v_iload_n d_L_law_320 rfl ?_
  refine v_iconst (v := nI 3) d_L_law_321 x_ic_3 ?_
  first | refine v_iaddN d_L_law_322 ?_ | refine v_iadd d_L_law_322 ?_
  refine v_sx _ d_L_law_323 (rfl) (hs0) (⟨by omega, by omega⟩) hxs ?_
  refine v_aload_n d_L_law_324 rfl ?_
  refine v_iload_n d_L_law_325 rfl ?_
  refine v_iconst (v := nI 4) d_L_law_326 x_ic_4 ?_
  first | refine v_iaddN d_L_law_327 ?_ | refine v_iadd d_L_law_327 ?_
  refine v_sx _ d_L_law_328 (rfl) (hs0) (⟨by omega, by omega⟩) hxs ?_
  refine v_aload_n d_L_law_329 rfl ?_
  refine v_iload_n d_L_law_330 rfl ?_
  refine v_iconst (v := nI 5) d_L_law_331 x_ic_5 ?_
  first | refine v_iaddN d_L_law_332 ?_ | refine v_iadd d_L_law_332 ?_
  refine v_sx _ d_L_law_333 (rfl) (hs0) (⟨by omega, by omega⟩) hxs ?_
  refine v_aload_n d_L_law_334 rfl ?_
  refine v_iload_n d_L_law_335 rfl ?_
  refine v_bipush (v := nI 6) d_L_law_336 x_bp_6 ?_
  first | refine v_iaddN d_L_law_338 ?_ | refine v_iadd d_L_law_338 ?_
  refine v_sx _ d_L_law_339 (rfl) (hs0) (⟨by omega, by omega⟩) hxs ?_
  refine v_cv (as := [_, _, _, _, _, _]) (rest := []) d_L_law_340 lv_L_23_11 (hS _ _ rfl) rfl ⟨by decide, by decide⟩ rfl (Nat.le_of_ble_eq_true rfl) (by show cs + 1 ≤ 600000; omega) (by show sl + 9 ≤ 7302250; omega) ?_
  refine x_Call.keep (t_X11_board kb.1 kb.2 (fun S1 P1 I1 J1 n1 hc1 hx1 hn1 g0 g1 => ?_))
  have mi1 := k_mi1 hx1 mi
  have hs0 : S1 0 = .inr (9, N) := g0.trans hs0
  have hxs : I1 0 = xs := g1.trans hxs
  rw [← k_mid hx1, z_board_pr] at hc1
  obtain ⟨fa1, bd1, hR1⟩ := id hc1
  have hS := hR1.hS
  have hP := hR1.hP
  refine v_aload_n d_L_law_343 rfl ?_
  refine v_aload_n d_L_law_344 rfl ?_
  refine v_iload_n d_L_law_345 rfl ?_
  refine v_iconst (v := nI 1) d_L_law_346 x_ic_1 ?_
  first | refine v_iaddN d_L_law_347 ?_ | refine v_iadd d_L_law_347 ?_
  refine v_sx _ d_L_law_348 (rfl) (hs0) (⟨by omega, by omega⟩) hxs ?_
  refine v_aload_n d_L_law_349 rfl ?_
  refine v_iload_n d_L_law_350 rfl ?_
  refine v_iconst (v := nI 2) d_L_law_351 x_ic_2 ?_
  first | refine v_iaddN d_L_law_352 ?_ | refine v_iadd d_L_law_352 ?_
  refine v_sx _ d_L_law_353 (rfl) (hs0) (⟨by omega, by omega⟩) hxs ?_
  refine v_aload_n d_L_law_354 rfl ?_
  refine v_iload_n d_L_law_355 rfl ?_
  refine v_iconst (v := nI 3) d_L_law_356 x_ic_3 ?_
  first | refine v_iaddN d_L_law_357 ?_ | refine v_iadd d_L_law_357 ?_
  refine v_sx _ d_L_law_358 (rfl) (hs0) (⟨by omega, by omega⟩) hxs ?_
  refine v_aload_n d_L_law_359 rfl ?_
  refine v_iload_n d_L_law_360 rfl ?_
  refine v_iconst (v := nI 4) d_L_law_361 x_ic_4 ?_
  first | refine v_iaddN d_L_law_362 ?_ | refine v_iadd d_L_law_362 ?_
  refine v_sx _ d_L_law_363 (rfl) (hs0) (⟨by omega, by omega⟩) hxs ?_
  refine v_aload_n d_L_law_364 rfl ?_
  refine v_iload_n d_L_law_365 rfl ?_
  refine v_iconst (v := nI 5) d_L_law_366 x_ic_5 ?_
  first | refine v_iaddN d_L_law_367 ?_ | refine v_iadd d_L_law_367 ?_
  refine v_sx _ d_L_law_368 (rfl) (hs0) (⟨by omega, by omega⟩) hxs ?_
  refine v_aload_n d_L_law_369 rfl ?_
  refine v_iload_n d_L_law_370 rfl ?_
  refine v_bipush (v := nI 6) d_L_law_371 x_bp_6 ?_
  first | refine v_iaddN d_L_law_373 ?_ | refine v_iadd d_L_law_373 ?_
  refine v_sx _ d_L_law_374 (rfl) (hs0) (⟨by omega, by omega⟩) hxs ?_
  refine v_cv (as := [_, _, _, _, _, _]) (rest := [_]) d_L_law_375 lv_L_27_12 (hS _ _ rfl) rfl ⟨by decide, by decide⟩ rfl (Nat.le_of_ble_eq_true rfl) (by show cs + 1 + 0 ≤ 600000; omega) (by show sl + 9 + 0 ≤ 7302250; omega) ?_
  refine x_Call.keep (t_X12_board hS hP (fun g2 g3 => ?_))
  refine w_icmp_eq d_L_law_378 (fun aeq => ?_) (fun aeq => False.elim (by exact aeq rfl))
  have kf := k_fin (z := (z_board I1 (xs (i + 1)) (xs (i + 2)) (xs (i + 3)) (xs (i + 4)) (xs (i + 5)) (xs (i + 6)))) (I2 := (z_board I1 (xs (i + 1)) (xs (i + 2)) (xs (i + 3)) (xs (i + 4)) (xs (i + 5)) (xs (i + 6)))) (J2 := J1) hc1 (z_board_mi mi1) (fun a k ha => z_board_out I1 (xs (i + 1)) (xs (i + 2)) (xs (i + 3)) (xs (i + 4)) (xs (i + 5)) (xs (i + 6)) a k ha) x_ex.rf
  refine hnx S1 P1 _ _ n1 _ _ hs0 (g3.trans hxs) kf.1 kf.2 ?_ ?_
  · show cs + 1 + 0 ≤ cs + 3; omega
  · show sl + 9 + 0 ≤ sl + 76; omega

set_option maxRecDepth 100000 in
set_option maxHeartbeats 4000000 in
theorem lw_c_eye {K : x_K} {S : x_S} {P : x_P} {I : x_I} {J : x_J} {n cs sl N i : Nat} {xs : Nat → Int32} {fa : Nat → Nat} {bd : Nat} (hs0 : S 0 = .inr (9, N)) (hxs : I 0 = xs) (hi : i + 8 ≤ N) (hN : N ≤ 4096) (hR : c_R fa bd I S P I J n) (mi : m_I I) (hcs : cs + 3 ≤ 600000) (hsl : sl + 76 ≤ 7302250)
    (hnx : ∀ (S' : x_S) (P' : x_P) (I' : x_I) (J' : x_J) (n' cs' sl' : Nat), S' 0 = .inr (9, N) → I' 0 = xs → c_S I' S' P' I' J' n' → m_I I' → cs' ≤ cs + 3 → sl' ≤ sl + 76 → x_V f_L_law K 1520 [some (.ref 0), some (.ref 1), some (.ref 39), some (.int (nI i))] [] S' P' I' J' n' cs' sl') : x_V f_L_law K 383 [some (.ref 0), some (.ref 1), some (.ref 39), some (.int (nI i))] [] S P I J n cs sl := by
  have hS := hR.hS
  have hP := hR.hP
  have kb := k_beg hR mi
  refine v_aload_n d_L_law_383 rfl ?_
  refine v_aload_n d_L_law_384 rfl ?_
  refine v_iload_n d_L_law_385 rfl ?_
  refine v_iconst (v := nI 1) d_L_law_386 x_ic_1 ?_
  first | refine v_iaddN d_L_law_387 ?_ | refine v_iadd d_L_law_387 ?_
  refine v_sx _ d_L_law_388 (rfl) (hs0) (⟨by omega, by omega⟩) hxs ?_
  refine v_aload_n d_L_law_389 rfl ?_
  refine v_iload_n d_L_law_390 rfl ?_
  refine v_iconst (v := nI 2) d_L_law_391 x_ic_2 ?_
  first | refine v_iaddN d_L_law_392 ?_ | refine v_iadd d_L_law_392 ?_
  refine v_sx _ d_L_law_393 (rfl) (hs0) (⟨by omega, by omega⟩) hxs ?_
  refine v_aload_n d_L_law_394 rfl ?_
  refine v_iload_n d_L_law_395 rfl ?_
  refine v_iconst (v := nI 3) d_L_law_396 x_ic_3 ?_
  first | refine v_iaddN d_L_law_397 ?_ | refine v_iadd d_L_law_397 ?_
  refine v_sx _ d_L_law_398 (rfl) (hs0) (⟨by omega, by omega⟩) hxs ?_
  refine v_aload_n d_L_law_399 rfl ?_
  refine v_iload_n d_L_law_400 rfl ?_
  refine v_iconst (v := nI 4) d_L_law_401 x_ic_4 ?_
  first | refine v_iaddN d_L_law_402 ?_ | refine v_iadd d_L_law_402 ?_
  refine v_sx _ d_L_law_403 (rfl) (hs0) (⟨by omega, by omega⟩) hxs ?_
  refine v_cv (as := [_, _, _, _]) (rest := []) d_L_law_404 lv_L_28_11 (hS _ _ rfl) rfl ⟨by decide, by decide⟩ rfl (Nat.le_of_ble_eq_true rfl) (by show cs + 0 ≤ 600000; omega) (by show sl + 0 ≤ 7302250; omega) ?_
  refine x_Call.keep (t_X11_eye kb.1 kb.2 (fun S1 P1 I1 J1 n1 hc1 hx1 hn1 g0 g1 => ?_))
  have mi1 := k_mi1 hx1 mi
  have hs0 : S1 0 = .inr (9, N) := g0.trans hs0
  have hxs : I1 0 = xs := g1.trans hxs
  rw [← k_mid hx1, z_eye_pr] at hc1
  obtain ⟨fa1, bd1, hR1⟩ := id hc1
  have hS := hR1.hS
  have hP := hR1.hP
  refine v_aload_n d_L_law_407 rfl ?_
  refine v_aload_n d_L_law_408 rfl ?_
  refine v_iload_n d_L_law_409 rfl ?_
  refine v_iconst (v := nI 1) d_L_law_410 x_ic_1 ?_
  first | refine v_iaddN d_L_law_411 ?_ | refine v_iadd d_L_law_411 ?_
  refine v_sx _ d_L_law_412 (rfl) (hs0) (⟨by omega, by omega⟩) hxs ?_
  refine v_aload_n d_L_law_413 rfl ?_
  refine v_iload_n d_L_law_414 rfl ?_
  refine v_iconst (v := nI 2) d_L_law_415 x_ic_2 ?_
  first | refine v_iaddN d_L_law_416 ?_ | refine v_iadd d_L_law_416 ?_
  refine v_sx _ d_L_law_417 (rfl) (hs0) (⟨by omega, by omega⟩) hxs ?_
  refine v_aload_n d_L_law_418 rfl ?_
  refine v_iload_n d_L_law_419 rfl ?_
  refine v_iconst (v := nI 3) d_L_law_420 x_ic_3 ?_
  first | refine v_iaddN d_L_law_421 ?_ | refine v_iadd d_L_law_421 ?_
  refine v_sx _ d_L_law_422 (rfl) (hs0) (⟨by omega, by omega⟩) hxs ?_
  refine v_aload_n d_L_law_423 rfl ?_
  refine v_iload_n d_L_law_424 rfl ?_
  refine v_iconst (v := nI 4) d_L_law_425 x_ic_4 ?_
  first | refine v_iaddN d_L_law_426 ?_ | refine v_iadd d_L_law_426 ?_
  refine v_sx _ d_L_law_427 (rfl) (hs0) (⟨by omega, by omega⟩) hxs ?_
  refine v_cv (as := [_, _, _, _]) (rest := [_]) d_L_law_428 lv_L_32_12 (hS _ _ rfl) rfl ⟨by decide, by decide⟩ rfl (Nat.le_of_ble_eq_true rfl) (by show cs + 0 + 0 ≤ 600000; omega) (by show sl + 0 + 0 ≤ 7302250; omega) ?_
  refine x_Call.keep (t_X12_eye hS hP (fun g2 g3 => ?_))
  refine w_icmp_eq d_L_law_431 (fun aeq => ?_) (fun aeq => False.elim (by exact aeq rfl))
  have kf := k_fin (z := (z_eye I1 (xs (i + 1)) (xs (i + 2)) (xs (i + 3)) (xs (i + 4)))) (I2 := (z_eye I1 (xs (i + 1)) (xs (i + 2)) (xs (i + 3)) (xs (i + 4)))) (J2 := J1) hc1 (z_eye_mi mi1) (fun a k ha => z_eye_out I1 (xs (i + 1)) (xs (i + 2)) (xs (i + 3)) (xs (i + 4)) a k ha) x_ex.rf
  refine hnx S1 P1 _ _ n1 _ _ hs0 (g3.trans hxs) kf.1 kf.2 ?_ ?_
  · show cs + 0 + 0 ≤ cs + 3; omega
  · show sl + 0 + 0 ≤ sl + 76; omega

set_option maxRecDepth 100000 in
set_option maxHeartbeats 4000000 in
theorem lw_c_picture {K : x_K} {S : x_S} {P : x_P} {I : x_I} {J : x_J} {n cs sl N i : Nat} {xs : Nat → Int32} {fa : Nat → Nat} {bd : Nat} (hs0 : S 0 = .inr (9, N)) (hxs : I 0 = xs) (hi : i + 8 ≤ N) (hN : N ≤ 4096) (hR : c_R fa bd I S P I J n) (mi : m_I I) (hcs : cs + 3 ≤ 600000) (hsl : sl + 76 ≤ 7302250)
    (hnx : ∀ (S' : x_S) (P' : x_P) (I' : x_I) (J' : x_J) (n' cs' sl' : Nat), S' 0 = .inr (9, N) → I' 0 = xs → c_S I' S' P' I' J' n' → m_I I' → cs' ≤ cs + 3 → sl' ≤ sl + 76 → x_V f_L_law K 1520 [some (.ref 0), some (.ref 1), some (.ref 39), some (.int (nI i))] [] S' P' I' J' n' cs' sl') : x_V f_L_law K 436 [some (.ref 0), some (.ref 1), some (.ref 39), some (.int (nI i))] [] S P I J n cs sl := by
  have hS := hR.hS
  have hP := hR.hP
  have kb := k_beg hR mi
  refine v_aload_n d_L_law_436 rfl ?_
  refine v_aload_n d_L_law_437 rfl ?_
  refine v_iload_n d_L_law_438 rfl ?_
  refine v_iconst (v := nI 1) d_L_law_439 x_ic_1 ?_
  first | refine v_iaddN d_L_law_440 ?_ | refine v_iadd d_L_law_440 ?_
  refine v_sx _ d_L_law_441 (rfl) (hs0) (⟨by omega, by omega⟩) hxs ?_
  refine v_aload_n d_L_law_442 rfl ?_
  refine v_iload_n d_L_law_443 rfl ?_
  refine v_iconst (v := nI 2) d_L_law_444 x_ic_2 ?_
  first | refine v_iaddN d_L_law_445 ?_ | refine v_iadd d_L_law_445 ?_
  refine v_sx _ d_L_law_446 (rfl) (hs0) (⟨by omega, by omega⟩) hxs ?_
  refine v_aload_n d_L_law_447 rfl ?_
  refine v_iload_n d_L_law_448 rfl ?_
  refine v_iconst (v := nI 3) d_L_law_449 x_ic_3 ?_
  first | refine v_iaddN d_L_law_450 ?_ | refine v_iadd d_L_law_450 ?_
  refine v_sx _ d_L_law_451 (rfl) (hs0) (⟨by omega, by omega⟩) hxs ?_
  refine v_aload_n d_L_law_452 rfl ?_
  refine v_iload_n d_L_law_453 rfl ?_
  refine v_iconst (v := nI 4) d_L_law_454 x_ic_4 ?_
  first | refine v_iaddN d_L_law_455 ?_ | refine v_iadd d_L_law_455 ?_
  refine v_sx _ d_L_law_456 (rfl) (hs0) (⟨by omega, by omega⟩) hxs ?_
  refine v_cv (as := [_, _, _, _]) (rest := []) d_L_law_457 lv_L_33_11 (hS _ _ rfl) rfl ⟨by decide, by decide⟩ rfl (Nat.le_of_ble_eq_true rfl) (by show cs + 0 ≤ 600000; omega) (by show sl + 0 ≤ 7302250; omega) ?_
  refine x_Call.keep (t_X11_picture kb.1 kb.2 (fun S1 P1 I1 J1 n1 hc1 hx1 hn1 g0 g1 => ?_))
  have mi1 := k_mi1 hx1 mi
  have hs0 : S1 0 = .inr (9, N) := g0.trans hs0
  have hxs : I1 0 = xs := g1.trans hxs
  rw [← k_mid hx1, z_picture_pr] at hc1
  have hq : q_picture (m_pr I) (xs (i + 1)) (xs (i + 2)) (xs (i + 3)) (xs (i + 4)) = q_picture I1 (xs (i + 1)) (xs (i + 2)) (xs (i + 3)) (xs (i + 4)) := by rw [← k_mid hx1, q_picture_pr]
  rw [hq]
  obtain ⟨fa1, bd1, hR1⟩ := id hc1
  have hS := hR1.hS
  have hP := hR1.hP
  refine v_aload_n d_L_law_460 rfl ?_
  refine v_aload_n d_L_law_461 rfl ?_
  refine v_iload_n d_L_law_462 rfl ?_
  refine v_iconst (v := nI 1) d_L_law_463 x_ic_1 ?_
  first | refine v_iaddN d_L_law_464 ?_ | refine v_iadd d_L_law_464 ?_
  refine v_sx _ d_L_law_465 (rfl) (hs0) (⟨by omega, by omega⟩) hxs ?_
  refine v_aload_n d_L_law_466 rfl ?_
  refine v_iload_n d_L_law_467 rfl ?_
  refine v_iconst (v := nI 2) d_L_law_468 x_ic_2 ?_
  first | refine v_iaddN d_L_law_469 ?_ | refine v_iadd d_L_law_469 ?_
  refine v_sx _ d_L_law_470 (rfl) (hs0) (⟨by omega, by omega⟩) hxs ?_
  refine v_aload_n d_L_law_471 rfl ?_
  refine v_iload_n d_L_law_472 rfl ?_
  refine v_iconst (v := nI 3) d_L_law_473 x_ic_3 ?_
  first | refine v_iaddN d_L_law_474 ?_ | refine v_iadd d_L_law_474 ?_
  refine v_sx _ d_L_law_475 (rfl) (hs0) (⟨by omega, by omega⟩) hxs ?_
  refine v_aload_n d_L_law_476 rfl ?_
  refine v_iload_n d_L_law_477 rfl ?_
  refine v_iconst (v := nI 4) d_L_law_478 x_ic_4 ?_
  first | refine v_iaddN d_L_law_479 ?_ | refine v_iadd d_L_law_479 ?_
  refine v_sx _ d_L_law_480 (rfl) (hs0) (⟨by omega, by omega⟩) hxs ?_
  refine v_cv (as := [_, _, _, _]) (rest := [_]) d_L_law_481 lv_L_36_12 (hS _ _ rfl) rfl ⟨by decide, by decide⟩ rfl (Nat.le_of_ble_eq_true rfl) (by show cs + 0 + 0 ≤ 600000; omega) (by show sl + 0 + 0 ≤ 7302250; omega) ?_
  refine x_Call.keep (t_X12_picture (fun k hk => (mi1.la k hk).2) (mi1.f0 (f := nI 0)).bo hS hP (fun g2 g3 => ?_))
  refine w_icmp_eq d_L_law_484 (fun aeq => ?_) (fun aeq => False.elim (by exact aeq rfl))
  have kf := k_fin (z := (z_picture I1 (xs (i + 1)) (xs (i + 2)) (xs (i + 3)) (xs (i + 4)))) (I2 := (z_picture I1 (xs (i + 1)) (xs (i + 2)) (xs (i + 3)) (xs (i + 4)))) (J2 := J1) hc1 (z_picture_mi mi1) (fun a k ha => z_picture_out I1 (xs (i + 1)) (xs (i + 2)) (xs (i + 3)) (xs (i + 4)) a k ha) x_ex.rf
  refine hnx S1 P1 _ _ n1 _ _ hs0 (g3.trans hxs) kf.1 kf.2 ?_ ?_
  · show cs + 0 + 0 ≤ cs + 3; omega
  · show sl + 0 + 0 ≤ sl + 76; omega

set_option maxRecDepth 100000 in
set_option maxHeartbeats 4000000 in
theorem lw_c_wish {K : x_K} {S : x_S} {P : x_P} {I : x_I} {J : x_J} {n cs sl N i : Nat} {xs : Nat → Int32} {fa : Nat → Nat} {bd : Nat} (hs0 : S 0 = .inr (9, N)) (hxs : I 0 = xs) (hi : i + 8 ≤ N) (hN : N ≤ 4096) (hR : c_R fa bd I S P I J n) (mi : m_I I) (hcs : cs + 3 ≤ 600000) (hsl : sl + 76 ≤ 7302250)
    (hnx : ∀ (S' : x_S) (P' : x_P) (I' : x_I) (J' : x_J) (n' cs' sl' : Nat), S' 0 = .inr (9, N) → I' 0 = xs → c_S I' S' P' I' J' n' → m_I I' → cs' ≤ cs + 3 → sl' ≤ sl + 76 → x_V f_L_law K 1520 [some (.ref 0), some (.ref 1), some (.ref 39), some (.int (nI i))] [] S' P' I' J' n' cs' sl') : x_V f_L_law K 489 [some (.ref 0), some (.ref 1), some (.ref 39), some (.int (nI i))] [] S P I J n cs sl := by
  have hS := hR.hS
  have hP := hR.hP
  have kb := k_beg hR mi
  refine v_aload_n d_L_law_489 rfl ?_
  refine v_aload_n d_L_law_490 rfl ?_
  refine v_iload_n d_L_law_491 rfl ?_
  refine v_iconst (v := nI 1) d_L_law_492 x_ic_1 ?_
  first | refine v_iaddN d_L_law_493 ?_ | refine v_iadd d_L_law_493 ?_
  refine v_sx _ d_L_law_494 (rfl) (hs0) (⟨by omega, by omega⟩) hxs ?_
  refine v_aload_n d_L_law_495 rfl ?_
  refine v_iload_n d_L_law_496 rfl ?_
  refine v_iconst (v := nI 2) d_L_law_497 x_ic_2 ?_
  first | refine v_iaddN d_L_law_498 ?_ | refine v_iadd d_L_law_498 ?_
  refine v_sx _ d_L_law_499 (rfl) (hs0) (⟨by omega, by omega⟩) hxs ?_
  refine v_cv (as := [_, _]) (rest := []) d_L_law_500 lv_L_37_11 (hS _ _ rfl) rfl ⟨by decide, by decide⟩ rfl (Nat.le_of_ble_eq_true rfl) (by show cs + 0 ≤ 600000; omega) (by show sl + 0 ≤ 7302250; omega) ?_
  refine x_Call.keep (t_X11_wish kb.1 kb.2 (fun S1 P1 I1 J1 n1 hc1 hx1 hn1 g0 g1 => ?_))
  have mi1 := k_mi1 hx1 mi
  have hs0 : S1 0 = .inr (9, N) := g0.trans hs0
  have hxs : I1 0 = xs := g1.trans hxs
  rw [← k_mid hx1, z_wish_pr] at hc1
  have hq : q_wish (m_pr I) (xs (i + 1)) (xs (i + 2)) = q_wish I1 (xs (i + 1)) (xs (i + 2)) := by rw [← k_mid hx1, q_wish_pr]
  rw [hq]
  obtain ⟨fa1, bd1, hR1⟩ := id hc1
  have hS := hR1.hS
  have hP := hR1.hP
  refine v_aload_n d_L_law_503 rfl ?_
  refine v_aload_n d_L_law_504 rfl ?_
  refine v_iload_n d_L_law_505 rfl ?_
  refine v_iconst (v := nI 1) d_L_law_506 x_ic_1 ?_
  first | refine v_iaddN d_L_law_507 ?_ | refine v_iadd d_L_law_507 ?_
  refine v_sx _ d_L_law_508 (rfl) (hs0) (⟨by omega, by omega⟩) hxs ?_
  refine v_aload_n d_L_law_509 rfl ?_
  refine v_iload_n d_L_law_510 rfl ?_
  refine v_iconst (v := nI 2) d_L_law_511 x_ic_2 ?_
  first | refine v_iaddN d_L_law_512 ?_ | refine v_iadd d_L_law_512 ?_
  refine v_sx _ d_L_law_513 (rfl) (hs0) (⟨by omega, by omega⟩) hxs ?_
  refine v_cv (as := [_, _]) (rest := [_]) d_L_law_514 lv_L_40_12 (hS _ _ rfl) rfl ⟨by decide, by decide⟩ rfl (Nat.le_of_ble_eq_true rfl) (by show cs + 0 + 0 ≤ 600000; omega) (by show sl + 0 + 0 ≤ 7302250; omega) ?_
  refine x_Call.keep (t_X12_wish mi1.bo hS hP (fun g2 g3 => ?_))
  refine w_icmp_eq d_L_law_517 (fun aeq => ?_) (fun aeq => False.elim (by exact aeq rfl))
  have kf := k_fin (z := (z_wish I1 (xs (i + 1)))) (I2 := (z_wish I1 (xs (i + 1)))) (J2 := J1) hc1 (z_wish_mi mi1) (fun a k ha => z_wish_out I1 (xs (i + 1)) a k ha) x_ex.rf
  refine hnx S1 P1 _ _ n1 _ _ hs0 (g3.trans hxs) kf.1 kf.2 ?_ ?_
  · show cs + 0 + 0 ≤ cs + 3; omega
  · show sl + 0 + 0 ≤ sl + 76; omega

set_option maxRecDepth 100000 in
set_option maxHeartbeats 4000000 in
theorem lw_c_paint {K : x_K} {S : x_S} {P : x_P} {I : x_I} {J : x_J} {n cs sl N i : Nat} {xs : Nat → Int32} {fa : Nat → Nat} {bd : Nat} (hs0 : S 0 = .inr (9, N)) (hxs : I 0 = xs) (hi : i + 8 ≤ N) (hN : N ≤ 4096) (hR : c_R fa bd I S P I J n) (mi : m_I I) (hcs : cs + 3 ≤ 600000) (hsl : sl + 76 ≤ 7302250)
    (hnx : ∀ (S' : x_S) (P' : x_P) (I' : x_I) (J' : x_J) (n' cs' sl' : Nat), S' 0 = .inr (9, N) → I' 0 = xs → c_S I' S' P' I' J' n' → m_I I' → cs' ≤ cs + 3 → sl' ≤ sl + 76 → x_V f_L_law K 1520 [some (.ref 0), some (.ref 1), some (.ref 39), some (.int (nI i))] [] S' P' I' J' n' cs' sl') : x_V f_L_law K 522 [some (.ref 0), some (.ref 1), some (.ref 39), some (.int (nI i))] [] S P I J n cs sl := by
  have hS := hR.hS
  have hP := hR.hP
  have kb := k_beg hR mi
  refine v_aload_n d_L_law_522 rfl ?_
  refine v_aload_n d_L_law_523 rfl ?_
  refine v_iload_n d_L_law_524 rfl ?_
  refine v_iconst (v := nI 1) d_L_law_525 x_ic_1 ?_
  first | refine v_iaddN d_L_law_526 ?_ | refine v_iadd d_L_law_526 ?_
  refine v_sx _ d_L_law_527 (rfl) (hs0) (⟨by omega, by omega⟩) hxs ?_
  refine v_aload_n d_L_law_528 rfl ?_
  refine v_iload_n d_L_law_529 rfl ?_
  refine v_iconst (v := nI 2) d_L_law_530 x_ic_2 ?_
  first | refine v_iaddN d_L_law_531 ?_ | refine v_iadd d_L_law_531 ?_
  refine v_sx _ d_L_law_532 (rfl) (hs0) (⟨by omega, by omega⟩) hxs ?_
  refine v_aload_n d_L_law_533 rfl ?_
  refine v_iload_n d_L_law_534 rfl ?_
  refine v_iconst (v := nI 3) d_L_law_535 x_ic_3 ?_
  first | refine v_iaddN d_L_law_536 ?_ | refine v_iadd d_L_law_536 ?_
  refine v_sx _ d_L_law_537 (rfl) (hs0) (⟨by omega, by omega⟩) hxs ?_
  refine v_cv (as := [_, _, _]) (rest := []) d_L_law_538 lv_L_41_11 (hS _ _ rfl) rfl ⟨by decide, by decide⟩ rfl (Nat.le_of_ble_eq_true rfl) (by show cs + 0 ≤ 600000; omega) (by show sl + 0 ≤ 7302250; omega) ?_
  refine x_Call.keep (t_X11_paint kb.1 kb.2 (fun S1 P1 I1 J1 n1 hc1 hx1 hn1 g0 g1 => ?_))
  have mi1 := k_mi1 hx1 mi
  have hs0 : S1 0 = .inr (9, N) := g0.trans hs0
  have hxs : I1 0 = xs := g1.trans hxs
  rw [← k_mid hx1, z_paint_pr] at hc1
  have hq : q_paint (m_pr I) (xs (i + 1)) (xs (i + 2)) (xs (i + 3)) = q_paint I1 (xs (i + 1)) (xs (i + 2)) (xs (i + 3)) := by rw [← k_mid hx1, q_paint_pr]
  rw [hq]
  obtain ⟨fa1, bd1, hR1⟩ := id hc1
  have hS := hR1.hS
  have hP := hR1.hP
  refine v_aload_n d_L_law_541 rfl ?_
  refine v_aload_n d_L_law_542 rfl ?_
  refine v_iload_n d_L_law_543 rfl ?_
  refine v_iconst (v := nI 1) d_L_law_544 x_ic_1 ?_
  first | refine v_iaddN d_L_law_545 ?_ | refine v_iadd d_L_law_545 ?_
  refine v_sx _ d_L_law_546 (rfl) (hs0) (⟨by omega, by omega⟩) hxs ?_
  refine v_aload_n d_L_law_547 rfl ?_
  refine v_iload_n d_L_law_548 rfl ?_
  refine v_iconst (v := nI 2) d_L_law_549 x_ic_2 ?_
  first | refine v_iaddN d_L_law_550 ?_ | refine v_iadd d_L_law_550 ?_
  refine v_sx _ d_L_law_551 (rfl) (hs0) (⟨by omega, by omega⟩) hxs ?_
  refine v_aload_n d_L_law_552 rfl ?_
  refine v_iload_n d_L_law_553 rfl ?_
  refine v_iconst (v := nI 3) d_L_law_554 x_ic_3 ?_
  first | refine v_iaddN d_L_law_555 ?_ | refine v_iadd d_L_law_555 ?_
  refine v_sx _ d_L_law_556 (rfl) (hs0) (⟨by omega, by omega⟩) hxs ?_
  refine v_cv (as := [_, _, _]) (rest := [_]) d_L_law_557 lv_L_45_12 (hS _ _ rfl) rfl ⟨by decide, by decide⟩ rfl (Nat.le_of_ble_eq_true rfl) (by show cs + 0 + 0 ≤ 600000; omega) (by show sl + 0 + 0 ≤ 7302250; omega) ?_
  refine x_Call.keep (t_X12_paint mi1.hn mi1.fo hS hP (fun g2 g3 => ?_))
  refine w_icmp_eq d_L_law_560 (fun aeq => ?_) (fun aeq => False.elim (by exact aeq rfl))
  have kf := k_fin (z := (z_paint I1 (xs (i + 1)) (xs (i + 2)) (xs (i + 3)))) (I2 := (z_paint I1 (xs (i + 1)) (xs (i + 2)) (xs (i + 3)))) (J2 := J1) hc1 (z_paint_mi mi1) (fun a k ha => z_paint_out I1 (xs (i + 1)) (xs (i + 2)) (xs (i + 3)) a k ha) x_ex.rf
  refine hnx S1 P1 _ _ n1 _ _ hs0 (g3.trans hxs) kf.1 kf.2 ?_ ?_
  · show cs + 0 + 0 ≤ cs + 3; omega
  · show sl + 0 + 0 ≤ sl + 76; omega

set_option maxRecDepth 100000 in
set_option maxHeartbeats 4000000 in
theorem lw_c_colour {K : x_K} {S : x_S} {P : x_P} {I : x_I} {J : x_J} {n cs sl N i : Nat} {xs : Nat → Int32} {fa : Nat → Nat} {bd : Nat} (hs0 : S 0 = .inr (9, N)) (hxs : I 0 = xs) (hi : i + 8 ≤ N) (hN : N ≤ 4096) (hR : c_R fa bd I S P I J n) (mi : m_I I) (hcs : cs + 3 ≤ 600000) (hsl : sl + 76 ≤ 7302250)
    (hnx : ∀ (S' : x_S) (P' : x_P) (I' : x_I) (J' : x_J) (n' cs' sl' : Nat), S' 0 = .inr (9, N) → I' 0 = xs → c_S I' S' P' I' J' n' → m_I I' → cs' ≤ cs + 3 → sl' ≤ sl + 76 → x_V f_L_law K 1520 [some (.ref 0), some (.ref 1), some (.ref 39), some (.int (nI i))] [] S' P' I' J' n' cs' sl') : x_V f_L_law K 565 [some (.ref 0), some (.ref 1), some (.ref 39), some (.int (nI i))] [] S P I J n cs sl := by
  have hS := hR.hS
  have hP := hR.hP
  have kb := k_beg hR mi
  refine v_aload_n d_L_law_565 rfl ?_
  refine v_aload_n d_L_law_566 rfl ?_
  refine v_iload_n d_L_law_567 rfl ?_
  refine v_iconst (v := nI 1) d_L_law_568 x_ic_1 ?_
  first | refine v_iaddN d_L_law_569 ?_ | refine v_iadd d_L_law_569 ?_
  refine v_sx _ d_L_law_570 (rfl) (hs0) (⟨by omega, by omega⟩) hxs ?_
  refine v_aload_n d_L_law_571 rfl ?_
  refine v_iload_n d_L_law_572 rfl ?_
  refine v_iconst (v := nI 2) d_L_law_573 x_ic_2 ?_
  first | refine v_iaddN d_L_law_574 ?_ | refine v_iadd d_L_law_574 ?_
  refine v_sx _ d_L_law_575 (rfl) (hs0) (⟨by omega, by omega⟩) hxs ?_
  refine v_cv (as := [_, _]) (rest := []) d_L_law_576 lv_L_46_11 (hS _ _ rfl) rfl ⟨by decide, by decide⟩ rfl (Nat.le_of_ble_eq_true rfl) (by show cs + 0 ≤ 600000; omega) (by show sl + 0 ≤ 7302250; omega) ?_
  refine x_Call.keep (t_X11_colour kb.1 kb.2 (fun S1 P1 I1 J1 n1 hc1 hx1 hn1 g0 g1 => ?_))
  have mi1 := k_mi1 hx1 mi
  have hs0 : S1 0 = .inr (9, N) := g0.trans hs0
  have hxs : I1 0 = xs := g1.trans hxs
  rw [← k_mid hx1] at hc1
  have hq : q_colour (m_pr I) (xs (i + 1)) (xs (i + 2)) = q_colour I1 (xs (i + 1)) (xs (i + 2)) := by rw [← k_mid hx1, q_colour_pr]
  rw [hq]
  obtain ⟨fa1, bd1, hR1⟩ := id hc1
  have hS := hR1.hS
  have hP := hR1.hP
  refine v_aload_n d_L_law_579 rfl ?_
  refine v_aload_n d_L_law_580 rfl ?_
  refine v_iload_n d_L_law_581 rfl ?_
  refine v_iconst (v := nI 1) d_L_law_582 x_ic_1 ?_
  first | refine v_iaddN d_L_law_583 ?_ | refine v_iadd d_L_law_583 ?_
  refine v_sx _ d_L_law_584 (rfl) (hs0) (⟨by omega, by omega⟩) hxs ?_
  refine v_aload_n d_L_law_585 rfl ?_
  refine v_iload_n d_L_law_586 rfl ?_
  refine v_iconst (v := nI 2) d_L_law_587 x_ic_2 ?_
  first | refine v_iaddN d_L_law_588 ?_ | refine v_iadd d_L_law_588 ?_
  refine v_sx _ d_L_law_589 (rfl) (hs0) (⟨by omega, by omega⟩) hxs ?_
  refine v_cv (as := [_, _]) (rest := [_]) d_L_law_590 lv_L_49_12 (hS _ _ rfl) rfl ⟨by decide, by decide⟩ rfl (Nat.le_of_ble_eq_true rfl) (by show cs + 0 + 0 ≤ 600000; omega) (by show sl + 0 + 0 ≤ 7302250; omega) ?_
  refine x_Call.keep (t_X12_colour mi1.hn mi1.fo hS hP (fun g2 g3 => ?_))
  refine w_icmp_eq d_L_law_593 (fun aeq => ?_) (fun aeq => False.elim (by exact aeq rfl))
  have kf := k_fin (z := I1) (I2 := I1) (J2 := J1) hc1 mi1 (fun a k ha => rfl) x_ex.rf
  refine hnx S1 P1 _ _ n1 _ _ hs0 (g3.trans hxs) kf.1 kf.2 ?_ ?_
  · show cs + 0 + 0 ≤ cs + 3; omega
  · show sl + 0 + 0 ≤ sl + 76; omega

set_option maxRecDepth 100000 in
set_option maxHeartbeats 4000000 in
theorem lw_c_ray {K : x_K} {S : x_S} {P : x_P} {I : x_I} {J : x_J} {n cs sl N i : Nat} {xs : Nat → Int32} {fa : Nat → Nat} {bd : Nat} (hs0 : S 0 = .inr (9, N)) (hxs : I 0 = xs) (hi : i + 8 ≤ N) (hN : N ≤ 4096) (hR : c_R fa bd I S P I J n) (mi : m_I I) (hcs : cs + 3 ≤ 600000) (hsl : sl + 76 ≤ 7302250)
    (hnx : ∀ (S' : x_S) (P' : x_P) (I' : x_I) (J' : x_J) (n' cs' sl' : Nat), S' 0 = .inr (9, N) → I' 0 = xs → c_S I' S' P' I' J' n' → m_I I' → cs' ≤ cs + 3 → sl' ≤ sl + 76 → x_V f_L_law K 1520 [some (.ref 0), some (.ref 1), some (.ref 39), some (.int (nI i))] [] S' P' I' J' n' cs' sl') : x_V f_L_law K 598 [some (.ref 0), some (.ref 1), some (.ref 39), some (.int (nI i))] [] S P I J n cs sl := by
  have hS := hR.hS
  have hP := hR.hP
  have kb := k_beg hR mi
  refine v_aload_n d_L_law_598 rfl ?_
  refine v_aload_n d_L_law_599 rfl ?_
  refine v_iload_n d_L_law_600 rfl ?_
  refine v_iconst (v := nI 1) d_L_law_601 x_ic_1 ?_
  first | refine v_iaddN d_L_law_602 ?_ | refine v_iadd d_L_law_602 ?_
  refine v_sx _ d_L_law_603 (rfl) (hs0) (⟨by omega, by omega⟩) hxs ?_
  refine v_aload_n d_L_law_604 rfl ?_
  refine v_iload_n d_L_law_605 rfl ?_
  refine v_iconst (v := nI 2) d_L_law_606 x_ic_2 ?_
  first | refine v_iaddN d_L_law_607 ?_ | refine v_iadd d_L_law_607 ?_
  refine v_sx _ d_L_law_608 (rfl) (hs0) (⟨by omega, by omega⟩) hxs ?_
  refine v_aload_n d_L_law_609 rfl ?_
  refine v_iload_n d_L_law_610 rfl ?_
  refine v_iconst (v := nI 3) d_L_law_611 x_ic_3 ?_
  first | refine v_iaddN d_L_law_612 ?_ | refine v_iadd d_L_law_612 ?_
  refine v_sx _ d_L_law_613 (rfl) (hs0) (⟨by omega, by omega⟩) hxs ?_
  refine v_aload_n d_L_law_614 rfl ?_
  refine v_iload_n d_L_law_615 rfl ?_
  refine v_iconst (v := nI 4) d_L_law_616 x_ic_4 ?_
  first | refine v_iaddN d_L_law_617 ?_ | refine v_iadd d_L_law_617 ?_
  refine v_sx _ d_L_law_618 (rfl) (hs0) (⟨by omega, by omega⟩) hxs ?_
  refine v_aload_n d_L_law_619 rfl ?_
  refine v_iload_n d_L_law_620 rfl ?_
  refine v_iconst (v := nI 5) d_L_law_621 x_ic_5 ?_
  first | refine v_iaddN d_L_law_622 ?_ | refine v_iadd d_L_law_622 ?_
  refine v_sx _ d_L_law_623 (rfl) (hs0) (⟨by omega, by omega⟩) hxs ?_
  refine v_aload_n d_L_law_624 rfl ?_
  refine v_iload_n d_L_law_625 rfl ?_
  refine v_bipush (v := nI 6) d_L_law_626 x_bp_6 ?_
  first | refine v_iaddN d_L_law_628 ?_ | refine v_iadd d_L_law_628 ?_
  refine v_sx _ d_L_law_629 (rfl) (hs0) (⟨by omega, by omega⟩) hxs ?_
  refine v_cv (as := [_, _, _, _, _, _]) (rest := []) d_L_law_630 lv_L_50_11 (hS _ _ rfl) rfl ⟨by decide, by decide⟩ rfl (Nat.le_of_ble_eq_true rfl) (by show cs + 0 ≤ 600000; omega) (by show sl + 0 ≤ 7302250; omega) ?_
  refine x_Call.keep (t_X11_ray kb.1 kb.2 (fun S1 P1 I1 J1 n1 hc1 hx1 hn1 g0 g1 => ?_))
  have mi1 := k_mi1 hx1 mi
  have hs0 : S1 0 = .inr (9, N) := g0.trans hs0
  have hxs : I1 0 = xs := g1.trans hxs
  rw [← k_mid hx1] at hc1
  have hq : q_ray (m_pr I) (xs (i + 1)) (xs (i + 2)) (xs (i + 3)) (xs (i + 4)) (xs (i + 5)) (xs (i + 6)) = q_ray I1 (xs (i + 1)) (xs (i + 2)) (xs (i + 3)) (xs (i + 4)) (xs (i + 5)) (xs (i + 6)) := by rw [← k_mid hx1, q_ray_pr]
  rw [hq]
  obtain ⟨fa1, bd1, hR1⟩ := id hc1
  have hS := hR1.hS
  have hP := hR1.hP
  refine v_aload_n d_L_law_633 rfl ?_
  refine v_aload_n d_L_law_634 rfl ?_
  refine v_iload_n d_L_law_635 rfl ?_
  refine v_iconst (v := nI 1) d_L_law_636 x_ic_1 ?_
  first | refine v_iaddN d_L_law_637 ?_ | refine v_iadd d_L_law_637 ?_
  refine v_sx _ d_L_law_638 (rfl) (hs0) (⟨by omega, by omega⟩) hxs ?_
  refine v_aload_n d_L_law_639 rfl ?_
  refine v_iload_n d_L_law_640 rfl ?_
  refine v_iconst (v := nI 2) d_L_law_641 x_ic_2 ?_
  first | refine v_iaddN d_L_law_642 ?_ | refine v_iadd d_L_law_642 ?_
  refine v_sx _ d_L_law_643 (rfl) (hs0) (⟨by omega, by omega⟩) hxs ?_
  refine v_aload_n d_L_law_644 rfl ?_
  refine v_iload_n d_L_law_645 rfl ?_
  refine v_iconst (v := nI 3) d_L_law_646 x_ic_3 ?_
  first | refine v_iaddN d_L_law_647 ?_ | refine v_iadd d_L_law_647 ?_
  refine v_sx _ d_L_law_648 (rfl) (hs0) (⟨by omega, by omega⟩) hxs ?_
  refine v_aload_n d_L_law_649 rfl ?_
  refine v_iload_n d_L_law_650 rfl ?_
  refine v_iconst (v := nI 4) d_L_law_651 x_ic_4 ?_
  first | refine v_iaddN d_L_law_652 ?_ | refine v_iadd d_L_law_652 ?_
  refine v_sx _ d_L_law_653 (rfl) (hs0) (⟨by omega, by omega⟩) hxs ?_
  refine v_aload_n d_L_law_654 rfl ?_
  refine v_iload_n d_L_law_655 rfl ?_
  refine v_iconst (v := nI 5) d_L_law_656 x_ic_5 ?_
  first | refine v_iaddN d_L_law_657 ?_ | refine v_iadd d_L_law_657 ?_
  refine v_sx _ d_L_law_658 (rfl) (hs0) (⟨by omega, by omega⟩) hxs ?_
  refine v_aload_n d_L_law_659 rfl ?_
  refine v_iload_n d_L_law_660 rfl ?_
  refine v_bipush (v := nI 6) d_L_law_661 x_bp_6 ?_
  first | refine v_iaddN d_L_law_663 ?_ | refine v_iadd d_L_law_663 ?_
  refine v_sx _ d_L_law_664 (rfl) (hs0) (⟨by omega, by omega⟩) hxs ?_
  refine v_cv (as := [_, _, _, _, _, _]) (rest := [_]) d_L_law_665 lv_L_53_12 (hS _ _ rfl) rfl ⟨by decide, by decide⟩ rfl (Nat.le_of_ble_eq_true rfl) (by show cs + 0 + 0 ≤ 600000; omega) (by show sl + 0 + 0 ≤ 7302250; omega) ?_
  refine x_Call.keep (t_X12_ray mi1.hn mi1.fo hS hP (fun I2 J2 hx2 g2 g3 => ?_))
  refine w_icmp_eq d_L_law_668 (fun aeq => ?_) (fun aeq => False.elim (by exact aeq rfl))
  have kf := k_fin (z := I1) (I2 := I2) (J2 := J2) hc1 mi1 (fun a k ha => rfl) hx2.up
  refine hnx S1 P1 _ _ n1 _ _ hs0 (g3.trans hxs) kf.1 kf.2 ?_ ?_
  · show cs + 0 + 0 ≤ cs + 3; omega
  · show sl + 0 + 0 ≤ sl + 76; omega

set_option maxRecDepth 100000 in
set_option maxHeartbeats 4000000 in
theorem lw_c_bounces {K : x_K} {S : x_S} {P : x_P} {I : x_I} {J : x_J} {n cs sl N i : Nat} {xs : Nat → Int32} {fa : Nat → Nat} {bd : Nat} (hs0 : S 0 = .inr (9, N)) (hxs : I 0 = xs) (hi : i + 8 ≤ N) (hN : N ≤ 4096) (hR : c_R fa bd I S P I J n) (mi : m_I I) (hcs : cs + 3 ≤ 600000) (hsl : sl + 76 ≤ 7302250)
    (hnx : ∀ (S' : x_S) (P' : x_P) (I' : x_I) (J' : x_J) (n' cs' sl' : Nat), S' 0 = .inr (9, N) → I' 0 = xs → c_S I' S' P' I' J' n' → m_I I' → cs' ≤ cs + 3 → sl' ≤ sl + 76 → x_V f_L_law K 1520 [some (.ref 0), some (.ref 1), some (.ref 39), some (.int (nI i))] [] S' P' I' J' n' cs' sl') : x_V f_L_law K 673 [some (.ref 0), some (.ref 1), some (.ref 39), some (.int (nI i))] [] S P I J n cs sl := by
  have hS := hR.hS
  have hP := hR.hP
  have kb := k_beg hR mi
  refine v_aload_n d_L_law_673 rfl ?_
  refine v_aload_n d_L_law_674 rfl ?_
  refine v_iload_n d_L_law_675 rfl ?_
  refine v_iconst (v := nI 1) d_L_law_676 x_ic_1 ?_
  first | refine v_iaddN d_L_law_677 ?_ | refine v_iadd d_L_law_677 ?_
  refine v_sx _ d_L_law_678 (rfl) (hs0) (⟨by omega, by omega⟩) hxs ?_
  refine v_aload_n d_L_law_679 rfl ?_
  refine v_iload_n d_L_law_680 rfl ?_
  refine v_iconst (v := nI 2) d_L_law_681 x_ic_2 ?_
  first | refine v_iaddN d_L_law_682 ?_ | refine v_iadd d_L_law_682 ?_
  refine v_sx _ d_L_law_683 (rfl) (hs0) (⟨by omega, by omega⟩) hxs ?_
  refine v_aload_n d_L_law_684 rfl ?_
  refine v_iload_n d_L_law_685 rfl ?_
  refine v_iconst (v := nI 3) d_L_law_686 x_ic_3 ?_
  first | refine v_iaddN d_L_law_687 ?_ | refine v_iadd d_L_law_687 ?_
  refine v_sx _ d_L_law_688 (rfl) (hs0) (⟨by omega, by omega⟩) hxs ?_
  refine v_aload_n d_L_law_689 rfl ?_
  refine v_iload_n d_L_law_690 rfl ?_
  refine v_iconst (v := nI 4) d_L_law_691 x_ic_4 ?_
  first | refine v_iaddN d_L_law_692 ?_ | refine v_iadd d_L_law_692 ?_
  refine v_sx _ d_L_law_693 (rfl) (hs0) (⟨by omega, by omega⟩) hxs ?_
  refine v_aload_n d_L_law_694 rfl ?_
  refine v_iload_n d_L_law_695 rfl ?_
  refine v_iconst (v := nI 5) d_L_law_696 x_ic_5 ?_
  first | refine v_iaddN d_L_law_697 ?_ | refine v_iadd d_L_law_697 ?_
  refine v_sx _ d_L_law_698 (rfl) (hs0) (⟨by omega, by omega⟩) hxs ?_
  refine v_aload_n d_L_law_699 rfl ?_
  refine v_iload_n d_L_law_700 rfl ?_
  refine v_bipush (v := nI 6) d_L_law_701 x_bp_6 ?_
  first | refine v_iaddN d_L_law_703 ?_ | refine v_iadd d_L_law_703 ?_
  refine v_sx _ d_L_law_704 (rfl) (hs0) (⟨by omega, by omega⟩) hxs ?_
  refine v_cv (as := [_, _, _, _, _, _]) (rest := []) d_L_law_705 lv_L_54_11 (hS _ _ rfl) rfl ⟨by decide, by decide⟩ rfl (Nat.le_of_ble_eq_true rfl) (by show cs + 0 ≤ 600000; omega) (by show sl + 0 ≤ 7302250; omega) ?_
  refine x_Call.keep (t_X11_bounces kb.1 kb.2 (fun S1 P1 I1 J1 n1 hc1 hx1 hn1 g0 g1 => ?_))
  have mi1 := k_mi1 hx1 mi
  have hs0 : S1 0 = .inr (9, N) := g0.trans hs0
  have hxs : I1 0 = xs := g1.trans hxs
  rw [← k_mid hx1] at hc1
  have hq : q_bounces (m_pr I) (xs (i + 1)) (xs (i + 2)) (xs (i + 3)) (xs (i + 4)) (xs (i + 5)) (xs (i + 6)) = q_bounces I1 (xs (i + 1)) (xs (i + 2)) (xs (i + 3)) (xs (i + 4)) (xs (i + 5)) (xs (i + 6)) := by rw [← k_mid hx1, q_bounces_pr]
  rw [hq]
  obtain ⟨fa1, bd1, hR1⟩ := id hc1
  have hS := hR1.hS
  have hP := hR1.hP
  refine v_aload_n d_L_law_708 rfl ?_
  refine v_aload_n d_L_law_709 rfl ?_
  refine v_iload_n d_L_law_710 rfl ?_
  refine v_iconst (v := nI 1) d_L_law_711 x_ic_1 ?_
  first | refine v_iaddN d_L_law_712 ?_ | refine v_iadd d_L_law_712 ?_
  refine v_sx _ d_L_law_713 (rfl) (hs0) (⟨by omega, by omega⟩) hxs ?_
  refine v_aload_n d_L_law_714 rfl ?_
  refine v_iload_n d_L_law_715 rfl ?_
  refine v_iconst (v := nI 2) d_L_law_716 x_ic_2 ?_
  first | refine v_iaddN d_L_law_717 ?_ | refine v_iadd d_L_law_717 ?_
  refine v_sx _ d_L_law_718 (rfl) (hs0) (⟨by omega, by omega⟩) hxs ?_
  refine v_aload_n d_L_law_719 rfl ?_
  refine v_iload_n d_L_law_720 rfl ?_
  refine v_iconst (v := nI 3) d_L_law_721 x_ic_3 ?_
  first | refine v_iaddN d_L_law_722 ?_ | refine v_iadd d_L_law_722 ?_
  refine v_sx _ d_L_law_723 (rfl) (hs0) (⟨by omega, by omega⟩) hxs ?_
  refine v_aload_n d_L_law_724 rfl ?_
  refine v_iload_n d_L_law_725 rfl ?_
  refine v_iconst (v := nI 4) d_L_law_726 x_ic_4 ?_
  first | refine v_iaddN d_L_law_727 ?_ | refine v_iadd d_L_law_727 ?_
  refine v_sx _ d_L_law_728 (rfl) (hs0) (⟨by omega, by omega⟩) hxs ?_
  refine v_aload_n d_L_law_729 rfl ?_
  refine v_iload_n d_L_law_730 rfl ?_
  refine v_iconst (v := nI 5) d_L_law_731 x_ic_5 ?_
  first | refine v_iaddN d_L_law_732 ?_ | refine v_iadd d_L_law_732 ?_
  refine v_sx _ d_L_law_733 (rfl) (hs0) (⟨by omega, by omega⟩) hxs ?_
  refine v_aload_n d_L_law_734 rfl ?_
  refine v_iload_n d_L_law_735 rfl ?_
  refine v_bipush (v := nI 6) d_L_law_736 x_bp_6 ?_
  first | refine v_iaddN d_L_law_738 ?_ | refine v_iadd d_L_law_738 ?_
  refine v_sx _ d_L_law_739 (rfl) (hs0) (⟨by omega, by omega⟩) hxs ?_
  refine v_cv (as := [_, _, _, _, _, _]) (rest := [_]) d_L_law_740 lv_L_57_12 (hS _ _ rfl) rfl ⟨by decide, by decide⟩ rfl (Nat.le_of_ble_eq_true rfl) (by show cs + 0 + 0 ≤ 600000; omega) (by show sl + 0 + 0 ≤ 7302250; omega) ?_
  refine x_Call.keep (t_X12_bounces mi1.hn mi1.fo hS hP (fun I2 J2 hx2 g2 g3 => ?_))
  refine w_icmp_eq d_L_law_743 (fun aeq => ?_) (fun aeq => False.elim (by exact aeq rfl))
  have kf := k_fin (z := I1) (I2 := I2) (J2 := J2) hc1 mi1 (fun a k ha => rfl) hx2.up
  refine hnx S1 P1 _ _ n1 _ _ hs0 (g3.trans hxs) kf.1 kf.2 ?_ ?_
  · show cs + 0 + 0 ≤ cs + 3; omega
  · show sl + 0 + 0 ≤ sl + 76; omega

set_option maxRecDepth 100000 in
set_option maxHeartbeats 4000000 in
theorem lw_c_seen {K : x_K} {S : x_S} {P : x_P} {I : x_I} {J : x_J} {n cs sl N i : Nat} {xs : Nat → Int32} {fa : Nat → Nat} {bd : Nat} (hs0 : S 0 = .inr (9, N)) (hxs : I 0 = xs) (hi : i + 8 ≤ N) (hN : N ≤ 4096) (hR : c_R fa bd I S P I J n) (mi : m_I I) (hcs : cs + 3 ≤ 600000) (hsl : sl + 76 ≤ 7302250)
    (hnx : ∀ (S' : x_S) (P' : x_P) (I' : x_I) (J' : x_J) (n' cs' sl' : Nat), S' 0 = .inr (9, N) → I' 0 = xs → c_S I' S' P' I' J' n' → m_I I' → cs' ≤ cs + 3 → sl' ≤ sl + 76 → x_V f_L_law K 1520 [some (.ref 0), some (.ref 1), some (.ref 39), some (.int (nI i))] [] S' P' I' J' n' cs' sl') : x_V f_L_law K 748 [some (.ref 0), some (.ref 1), some (.ref 39), some (.int (nI i))] [] S P I J n cs sl := by
  have hS := hR.hS
  have hP := hR.hP
  have kb := k_beg hR mi
  refine v_aload_n d_L_law_748 rfl ?_
  refine v_aload_n d_L_law_749 rfl ?_
  refine v_iload_n d_L_law_750 rfl ?_
  refine v_iconst (v := nI 1) d_L_law_751 x_ic_1 ?_
  first | refine v_iaddN d_L_law_752 ?_ | refine v_iadd d_L_law_752 ?_
  refine v_sx _ d_L_law_753 (rfl) (hs0) (⟨by omega, by omega⟩) hxs ?_
  refine v_aload_n d_L_law_754 rfl ?_
  refine v_iload_n d_L_law_755 rfl ?_
  refine v_iconst (v := nI 2) d_L_law_756 x_ic_2 ?_
  first | refine v_iaddN d_L_law_757 ?_ | refine v_iadd d_L_law_757 ?_
  refine v_sx _ d_L_law_758 (rfl) (hs0) (⟨by omega, by omega⟩) hxs ?_
  refine v_cv (as := [_, _]) (rest := []) d_L_law_759 lv_L_58_11 (hS _ _ rfl) rfl ⟨by decide, by decide⟩ rfl (Nat.le_of_ble_eq_true rfl) (by show cs + 0 ≤ 600000; omega) (by show sl + 0 ≤ 7302250; omega) ?_
  refine x_Call.keep (t_X11_seen kb.1 kb.2 (fun S1 P1 I1 J1 n1 hc1 hx1 hn1 g0 g1 => ?_))
  have mi1 := k_mi1 hx1 mi
  have hs0 : S1 0 = .inr (9, N) := g0.trans hs0
  have hxs : I1 0 = xs := g1.trans hxs
  rw [← k_mid hx1, z_wish_pr] at hc1
  have hq : q_seen (m_pr I) (xs (i + 1)) (xs (i + 2)) = q_seen I1 (xs (i + 1)) (xs (i + 2)) := by rw [← k_mid hx1, q_seen_pr]
  rw [hq]
  obtain ⟨fa1, bd1, hR1⟩ := id hc1
  have hS := hR1.hS
  have hP := hR1.hP
  refine v_aload_n d_L_law_762 rfl ?_
  refine v_aload_n d_L_law_763 rfl ?_
  refine v_iload_n d_L_law_764 rfl ?_
  refine v_iconst (v := nI 1) d_L_law_765 x_ic_1 ?_
  first | refine v_iaddN d_L_law_766 ?_ | refine v_iadd d_L_law_766 ?_
  refine v_sx _ d_L_law_767 (rfl) (hs0) (⟨by omega, by omega⟩) hxs ?_
  refine v_aload_n d_L_law_768 rfl ?_
  refine v_iload_n d_L_law_769 rfl ?_
  refine v_iconst (v := nI 2) d_L_law_770 x_ic_2 ?_
  first | refine v_iaddN d_L_law_771 ?_ | refine v_iadd d_L_law_771 ?_
  refine v_sx _ d_L_law_772 (rfl) (hs0) (⟨by omega, by omega⟩) hxs ?_
  refine v_cv (as := [_, _]) (rest := [_]) d_L_law_773 lv_L_61_12 (hS _ _ rfl) rfl ⟨by decide, by decide⟩ rfl (Nat.le_of_ble_eq_true rfl) (by show cs + 0 + 0 ≤ 600000; omega) (by show sl + 0 + 0 ≤ 7302250; omega) ?_
  refine x_Call.keep (t_X12_seen mi1.nb.es mi1.bo mi1.nb.hn mi1.nb.fo hS hP (fun I2 J2 hx2 g2 g3 => ?_))
  refine w_icmp_eq d_L_law_776 (fun aeq => ?_) (fun aeq => False.elim (by exact aeq rfl))
  have kf := k_fin (z := (z_wish I1 (xs (i + 1)))) (I2 := I2) (J2 := J2) hc1 (z_wish_mi mi1) (fun a k ha => z_wish_out I1 (xs (i + 1)) a k ha) hx2.up
  refine hnx S1 P1 _ _ n1 _ _ hs0 (g3.trans hxs) kf.1 kf.2 ?_ ?_
  · show cs + 0 + 0 ≤ cs + 3; omega
  · show sl + 0 + 0 ≤ sl + 76; omega

set_option maxRecDepth 100000 in
set_option maxHeartbeats 4000000 in
theorem lw_c_wishes {K : x_K} {S : x_S} {P : x_P} {I : x_I} {J : x_J} {n cs sl N i : Nat} {xs : Nat → Int32} {fa : Nat → Nat} {bd : Nat} (hs0 : S 0 = .inr (9, N)) (hxs : I 0 = xs) (hi : i + 8 ≤ N) (hN : N ≤ 4096) (hR : c_R fa bd I S P I J n) (mi : m_I I) (hcs : cs + 3 ≤ 600000) (hsl : sl + 76 ≤ 7302250)
    (hnx : ∀ (S' : x_S) (P' : x_P) (I' : x_I) (J' : x_J) (n' cs' sl' : Nat), S' 0 = .inr (9, N) → I' 0 = xs → c_S I' S' P' I' J' n' → m_I I' → cs' ≤ cs + 3 → sl' ≤ sl + 76 → x_V f_L_law K 1520 [some (.ref 0), some (.ref 1), some (.ref 39), some (.int (nI i))] [] S' P' I' J' n' cs' sl') : x_V f_L_law K 781 [some (.ref 0), some (.ref 1), some (.ref 39), some (.int (nI i))] [] S P I J n cs sl := by
  have hS := hR.hS
  have hP := hR.hP
  have kb := k_beg hR mi
  refine v_aload_n d_L_law_781 rfl ?_
  refine v_aload_n d_L_law_782 rfl ?_
  refine v_iload_n d_L_law_783 rfl ?_
  refine v_iconst (v := nI 1) d_L_law_784 x_ic_1 ?_
  first | refine v_iaddN d_L_law_785 ?_ | refine v_iadd d_L_law_785 ?_
  refine v_sx _ d_L_law_786 (rfl) (hs0) (⟨by omega, by omega⟩) hxs ?_
  refine v_aload_n d_L_law_787 rfl ?_
  refine v_iload_n d_L_law_788 rfl ?_
  refine v_iconst (v := nI 2) d_L_law_789 x_ic_2 ?_
  first | refine v_iaddN d_L_law_790 ?_ | refine v_iadd d_L_law_790 ?_
  refine v_sx _ d_L_law_791 (rfl) (hs0) (⟨by omega, by omega⟩) hxs ?_
  refine v_cv (as := [_, _]) (rest := []) d_L_law_792 lv_L_62_11 (hS _ _ rfl) rfl ⟨by decide, by decide⟩ rfl (Nat.le_of_ble_eq_true rfl) (by show cs + 0 ≤ 600000; omega) (by show sl + 0 ≤ 7302250; omega) ?_
  refine x_Call.keep (t_X11_wishes kb.1 kb.2 (fun S1 P1 I1 J1 n1 hc1 hx1 hn1 g0 g1 => ?_))
  have mi1 := k_mi1 hx1 mi
  have hs0 : S1 0 = .inr (9, N) := g0.trans hs0
  have hxs : I1 0 = xs := g1.trans hxs
  rw [← k_mid hx1, z_wishes_pr] at hc1
  have hq : q_wishes (m_pr I) (xs (i + 1)) (xs (i + 2)) = q_wishes I1 (xs (i + 1)) (xs (i + 2)) := by rw [← k_mid hx1, q_wishes_pr]
  rw [hq]
  obtain ⟨fa1, bd1, hR1⟩ := id hc1
  have hS := hR1.hS
  have hP := hR1.hP
  refine v_aload_n d_L_law_795 rfl ?_
  refine v_aload_n d_L_law_796 rfl ?_
  refine v_iload_n d_L_law_797 rfl ?_
  refine v_iconst (v := nI 1) d_L_law_798 x_ic_1 ?_
  first | refine v_iaddN d_L_law_799 ?_ | refine v_iadd d_L_law_799 ?_
  refine v_sx _ d_L_law_800 (rfl) (hs0) (⟨by omega, by omega⟩) hxs ?_
  refine v_aload_n d_L_law_801 rfl ?_
  refine v_iload_n d_L_law_802 rfl ?_
  refine v_iconst (v := nI 2) d_L_law_803 x_ic_2 ?_
  first | refine v_iaddN d_L_law_804 ?_ | refine v_iadd d_L_law_804 ?_
  refine v_sx _ d_L_law_805 (rfl) (hs0) (⟨by omega, by omega⟩) hxs ?_
  refine v_cv (as := [_, _]) (rest := [_]) d_L_law_806 lv_L_65_12 (hS _ _ rfl) rfl ⟨by decide, by decide⟩ rfl (Nat.le_of_ble_eq_true rfl) (by show cs + 0 + 0 ≤ 600000; omega) (by show sl + 0 + 0 ≤ 7302250; omega) ?_
  refine x_Call.keep (t_X12_wishes mi1.nb.es mi1.bo mi1.nb.hn mi1.nb.fo hS hP (fun I2 J2 hx2 g2 g3 => ?_))
  refine w_icmp_eq d_L_law_809 (fun aeq => ?_) (fun aeq => False.elim (by exact aeq rfl))
  have kf := k_fin (z := (z_wishes I1 (xs (i + 1)) (xs (i + 2)))) (I2 := I2) (J2 := J2) hc1 (z_wishes_mi mi1) (fun a k ha => z_wishes_out I1 (xs (i + 1)) (xs (i + 2)) a k ha) hx2.up
  refine hnx S1 P1 _ _ n1 _ _ hs0 (g3.trans hxs) kf.1 kf.2 ?_ ?_
  · show cs + 0 + 0 ≤ cs + 3; omega
  · show sl + 0 + 0 ≤ sl + 76; omega

set_option maxRecDepth 100000 in
set_option maxHeartbeats 4000000 in
theorem lw_c_painting {K : x_K} {S : x_S} {P : x_P} {I : x_I} {J : x_J} {n cs sl N i : Nat} {xs : Nat → Int32} {fa : Nat → Nat} {bd : Nat} (hs0 : S 0 = .inr (9, N)) (hxs : I 0 = xs) (hi : i + 8 ≤ N) (hN : N ≤ 4096) (hR : c_R fa bd I S P I J n) (mi : m_I I) (hcs : cs + 3 ≤ 600000) (hsl : sl + 76 ≤ 7302250)
    (hnx : ∀ (S' : x_S) (P' : x_P) (I' : x_I) (J' : x_J) (n' cs' sl' : Nat), S' 0 = .inr (9, N) → I' 0 = xs → c_S I' S' P' I' J' n' → m_I I' → cs' ≤ cs + 3 → sl' ≤ sl + 76 → x_V f_L_law K 1520 [some (.ref 0), some (.ref 1), some (.ref 39), some (.int (nI i))] [] S' P' I' J' n' cs' sl') : x_V f_L_law K 814 [some (.ref 0), some (.ref 1), some (.ref 39), some (.int (nI i))] [] S P I J n cs sl := by
  have hS := hR.hS
  have hP := hR.hP
  have kb := k_beg hR mi
  refine v_aload_n d_L_law_814 rfl ?_
  refine v_aload_n d_L_law_815 rfl ?_
  refine v_iload_n d_L_law_816 rfl ?_
  refine v_iconst (v := nI 1) d_L_law_817 x_ic_1 ?_
  first | refine v_iaddN d_L_law_818 ?_ | refine v_iadd d_L_law_818 ?_
  refine v_sx _ d_L_law_819 (rfl) (hs0) (⟨by omega, by omega⟩) hxs ?_
  refine v_cv (as := [_]) (rest := []) d_L_law_820 lv_L_66_11 (hS _ _ rfl) rfl ⟨by decide, by decide⟩ rfl (Nat.le_of_ble_eq_true rfl) (by show cs + 0 ≤ 600000; omega) (by show sl + 0 ≤ 7302250; omega) ?_
  refine x_Call.keep (t_X11_painting kb.1 kb.2 (fun S1 P1 I1 J1 n1 hc1 hx1 hn1 g0 g1 => ?_))
  have mi1 := k_mi1 hx1 mi
  have hs0 : S1 0 = .inr (9, N) := g0.trans hs0
  have hxs : I1 0 = xs := g1.trans hxs
  rw [← k_mid hx1, z_painting_pr] at hc1
  have hq : q_painting (m_pr I) (xs (i + 1)) = q_painting I1 (xs (i + 1)) := by rw [← k_mid hx1, q_painting_pr]
  rw [hq]
  obtain ⟨fa1, bd1, hR1⟩ := id hc1
  have hS := hR1.hS
  have hP := hR1.hP
  refine v_aload_n d_L_law_823 rfl ?_
  refine v_aload_n d_L_law_824 rfl ?_
  refine v_iload_n d_L_law_825 rfl ?_
  refine v_iconst (v := nI 1) d_L_law_826 x_ic_1 ?_
  first | refine v_iaddN d_L_law_827 ?_ | refine v_iadd d_L_law_827 ?_
  refine v_sx _ d_L_law_828 (rfl) (hs0) (⟨by omega, by omega⟩) hxs ?_
  refine v_cv (as := [_]) (rest := [_]) d_L_law_829 lv_L_70_12 (hS _ _ rfl) rfl ⟨by decide, by decide⟩ rfl (Nat.le_of_ble_eq_true rfl) (by show cs + 0 + 0 ≤ 600000; omega) (by show sl + 0 + 0 ≤ 7302250; omega) ?_
  refine x_Call.keep (t_X12_painting (wash_mi mi1).nb.es (wash_mi mi1).nb.pc (wash_mi mi1).bo (wash_mi mi1).nb.hn (wash_mi mi1).nb.fo mi1.hn mi1.fo hS hP (fun I2 J2 hx2 g2 g3 => ?_))
  refine w_icmp_eq d_L_law_832 (fun aeq => ?_) (fun aeq => False.elim (by exact aeq rfl))
  have kf := k_fin (z := (z_painting I1 (xs (i + 1)))) (I2 := I2) (J2 := J2) hc1 (z_painting_mi mi1) (fun a k ha => z_painting_out I1 (xs (i + 1)) a k ha) hx2
  refine hnx S1 P1 _ _ n1 _ _ hs0 (g3.trans hxs) kf.1 kf.2 ?_ ?_
  · show cs + 0 + 0 ≤ cs + 3; omega
  · show sl + 0 + 0 ≤ sl + 76; omega

set_option maxRecDepth 100000 in
set_option maxHeartbeats 4000000 in
theorem lw_c_wash {K : x_K} {S : x_S} {P : x_P} {I : x_I} {J : x_J} {n cs sl N i : Nat} {xs : Nat → Int32} {fa : Nat → Nat} {bd : Nat} (hs0 : S 0 = .inr (9, N)) (hxs : I 0 = xs) (hi : i + 8 ≤ N) (hN : N ≤ 4096) (hR : c_R fa bd I S P I J n) (mi : m_I I) (hcs : cs + 3 ≤ 600000) (hsl : sl + 76 ≤ 7302250)
    (hnx : ∀ (S' : x_S) (P' : x_P) (I' : x_I) (J' : x_J) (n' cs' sl' : Nat), S' 0 = .inr (9, N) → I' 0 = xs → c_S I' S' P' I' J' n' → m_I I' → cs' ≤ cs + 3 → sl' ≤ sl + 76 → x_V f_L_law K 1520 [some (.ref 0), some (.ref 1), some (.ref 39), some (.int (nI i))] [] S' P' I' J' n' cs' sl') : x_V f_L_law K 837 [some (.ref 0), some (.ref 1), some (.ref 39), some (.int (nI i))] [] S P I J n cs sl := by
  have hS := hR.hS
  have hP := hR.hP
  have kb := k_beg hR mi
  refine v_aload_n d_L_law_837 rfl ?_
  refine v_cv (as := []) (rest := []) d_L_law_838 lv_L_71_11 (hS _ _ rfl) rfl ⟨by decide, by decide⟩ rfl (Nat.le_of_ble_eq_true rfl) (by show cs + 0 ≤ 600000; omega) (by show sl + 0 ≤ 7302250; omega) ?_
  refine x_Call.keep (t_X11_wash kb.1 kb.2 (fun S1 P1 I1 J1 n1 hc1 hx1 hn1 g0 g1 => ?_))
  have mi1 := k_mi1 hx1 mi
  have hs0 : S1 0 = .inr (9, N) := g0.trans hs0
  have hxs : I1 0 = xs := g1.trans hxs
  rw [← k_mid hx1, fi_pr42] at hc1
  have hq : x_sm (m_pa (m_pr I)) (m_ns (m_pr I)) = x_sm (m_pa I1) (m_ns I1) := by rw [← k_mid hx1]; rfl
  rw [hq]
  obtain ⟨fa1, bd1, hR1⟩ := id hc1
  have hS := hR1.hS
  have hP := hR1.hP
  refine v_aload_n d_L_law_841 rfl ?_
  refine v_cv (as := []) (rest := [_]) d_L_law_842 lv_L_75_12 (hS _ _ rfl) rfl ⟨by decide, by decide⟩ rfl (Nat.le_of_ble_eq_true rfl) (by show cs + 0 + 0 ≤ 600000; omega) (by show sl + 0 + 0 ≤ 7302250; omega) ?_
  refine x_Call.keep (t_X12_wash mi1.hn mi1.fo hS hP (fun g2 g3 => ?_))
  refine w_icmp_eq d_L_law_845 (fun aeq => ?_) (fun aeq => False.elim (by exact aeq rfl))
  have kf := k_fin (z := (x_fi I1 42 0 640 0)) (I2 := (x_fi I1 42 0 640 0)) (J2 := J1) hc1 (wash_mi mi1) (fun a k ha => fi_out (by have := pr_rg ha; omega) rfl) x_ex.rf
  refine hnx S1 P1 _ _ n1 _ _ hs0 (g3.trans hxs) kf.1 kf.2 ?_ ?_
  · show cs + 0 + 0 ≤ cs + 3; omega
  · show sl + 0 + 0 ≤ sl + 76; omega

set_option maxRecDepth 100000 in
set_option maxHeartbeats 4000000 in
theorem lw_c_idle {K : x_K} {S : x_S} {P : x_P} {I : x_I} {J : x_J} {n cs sl N i : Nat} {xs : Nat → Int32} {fa : Nat → Nat} {bd : Nat} (hs0 : S 0 = .inr (9, N)) (hxs : I 0 = xs) (hi : i + 8 ≤ N) (hN : N ≤ 4096) (hR : c_R fa bd I S P I J n) (mi : m_I I) (hcs : cs + 3 ≤ 600000) (hsl : sl + 76 ≤ 7302250)
    (hnx : ∀ (S' : x_S) (P' : x_P) (I' : x_I) (J' : x_J) (n' cs' sl' : Nat), S' 0 = .inr (9, N) → I' 0 = xs → c_S I' S' P' I' J' n' → m_I I' → cs' ≤ cs + 3 → sl' ≤ sl + 76 → x_V f_L_law K 1520 [some (.ref 0), some (.ref 1), some (.ref 39), some (.int (nI i))] [] S' P' I' J' n' cs' sl') : x_V f_L_law K 850 [some (.ref 0), some (.ref 1), some (.ref 39), some (.int (nI i))] [] S P I J n cs sl := by
  have hS := hR.hS
  have hP := hR.hP
  have kb := k_beg hR mi
  refine v_aload_n d_L_law_850 rfl ?_
  refine v_aload_n d_L_law_851 rfl ?_
  refine v_iload_n d_L_law_852 rfl ?_
  refine v_iconst (v := nI 1) d_L_law_853 x_ic_1 ?_
  first | refine v_iaddN d_L_law_854 ?_ | refine v_iadd d_L_law_854 ?_
  refine v_sx _ d_L_law_855 (rfl) (hs0) (⟨by omega, by omega⟩) hxs ?_
  refine v_cv (as := [_]) (rest := []) d_L_law_856 lv_L_76_11 (hS _ _ rfl) rfl ⟨by decide, by decide⟩ rfl (Nat.le_of_ble_eq_true rfl) (by show cs + 0 ≤ 600000; omega) (by show sl + 0 ≤ 7302250; omega) ?_
  refine x_Call.keep (t_X11_idle kb.1 kb.2 (fun S1 P1 I1 J1 n1 hc1 hx1 hn1 g0 g1 => ?_))
  have mi1 := k_mi1 hx1 mi
  have hs0 : S1 0 = .inr (9, N) := g0.trans hs0
  have hxs : I1 0 = xs := g1.trans hxs
  rw [← k_mid hx1, z_idle_pr] at hc1
  have hq : q_idle (m_pr I) (xs (i + 1)) = q_idle I1 (xs (i + 1)) := by rw [← k_mid hx1, q_idle_pr]
  rw [hq]
  obtain ⟨fa1, bd1, hR1⟩ := id hc1
  have hS := hR1.hS
  have hP := hR1.hP
  refine v_aload_n d_L_law_859 rfl ?_
  refine v_aload_n d_L_law_860 rfl ?_
  refine v_iload_n d_L_law_861 rfl ?_
  refine v_iconst (v := nI 1) d_L_law_862 x_ic_1 ?_
  first | refine v_iaddN d_L_law_863 ?_ | refine v_iadd d_L_law_863 ?_
  refine v_sx _ d_L_law_864 (rfl) (hs0) (⟨by omega, by omega⟩) hxs ?_
  refine v_cv (as := [_]) (rest := [_]) d_L_law_865 lv_L_79_12 (hS _ _ rfl) rfl ⟨by decide, by decide⟩ rfl (Nat.le_of_ble_eq_true rfl) (by show cs + 0 + 0 ≤ 600000; omega) (by show sl + 0 + 0 ≤ 7302250; omega) ?_
  refine x_Call.keep (t_X12_idle mi1.nb.es mi1.bo mi1.nb.hn mi1.nb.fo hS hP (fun I2 J2 hx2 g2 g3 => ?_))
  refine w_icmp_eq d_L_law_868 (fun aeq => ?_) (fun aeq => False.elim (by exact aeq rfl))
  have kf := k_fin (z := (z_idle I1 (xs (i + 1)))) (I2 := I2) (J2 := J2) hc1 (z_idle_mi mi1) (fun a k ha => z_idle_out I1 (xs (i + 1)) a k ha) hx2
  refine hnx S1 P1 _ _ n1 _ _ hs0 (g3.trans hxs) kf.1 kf.2 ?_ ?_
  · show cs + 0 + 0 ≤ cs + 3; omega
  · show sl + 0 + 0 ≤ sl + 76; omega

set_option maxRecDepth 100000 in
set_option maxHeartbeats 4000000 in
theorem lw_c_sway {K : x_K} {S : x_S} {P : x_P} {I : x_I} {J : x_J} {n cs sl N i : Nat} {xs : Nat → Int32} {fa : Nat → Nat} {bd : Nat} (hs0 : S 0 = .inr (9, N)) (hxs : I 0 = xs) (hi : i + 8 ≤ N) (hN : N ≤ 4096) (hR : c_R fa bd I S P I J n) (mi : m_I I) (hcs : cs + 3 ≤ 600000) (hsl : sl + 76 ≤ 7302250)
    (hnx : ∀ (S' : x_S) (P' : x_P) (I' : x_I) (J' : x_J) (n' cs' sl' : Nat), S' 0 = .inr (9, N) → I' 0 = xs → c_S I' S' P' I' J' n' → m_I I' → cs' ≤ cs + 3 → sl' ≤ sl + 76 → x_V f_L_law K 1520 [some (.ref 0), some (.ref 1), some (.ref 39), some (.int (nI i))] [] S' P' I' J' n' cs' sl') : x_V f_L_law K 873 [some (.ref 0), some (.ref 1), some (.ref 39), some (.int (nI i))] [] S P I J n cs sl := by
  have hS := hR.hS
  have hP := hR.hP
  have kb := k_beg hR mi
  refine v_aload_n d_L_law_873 rfl ?_
  refine v_aload_n d_L_law_874 rfl ?_
  refine v_iload_n d_L_law_875 rfl ?_
  refine v_iconst (v := nI 1) d_L_law_876 x_ic_1 ?_
  first | refine v_iaddN d_L_law_877 ?_ | refine v_iadd d_L_law_877 ?_
  refine v_sx _ d_L_law_878 (rfl) (hs0) (⟨by omega, by omega⟩) hxs ?_
  refine v_aload_n d_L_law_879 rfl ?_
  refine v_iload_n d_L_law_880 rfl ?_
  refine v_iconst (v := nI 2) d_L_law_881 x_ic_2 ?_
  first | refine v_iaddN d_L_law_882 ?_ | refine v_iadd d_L_law_882 ?_
  refine v_sx _ d_L_law_883 (rfl) (hs0) (⟨by omega, by omega⟩) hxs ?_
  refine v_aload_n d_L_law_884 rfl ?_
  refine v_iload_n d_L_law_885 rfl ?_
  refine v_iconst (v := nI 3) d_L_law_886 x_ic_3 ?_
  first | refine v_iaddN d_L_law_887 ?_ | refine v_iadd d_L_law_887 ?_
  refine v_sx _ d_L_law_888 (rfl) (hs0) (⟨by omega, by omega⟩) hxs ?_
  refine v_cv (as := [_, _, _]) (rest := []) d_L_law_889 lv_L_80_11 (hS _ _ rfl) rfl ⟨by decide, by decide⟩ rfl (Nat.le_of_ble_eq_true rfl) (by show cs + 0 ≤ 600000; omega) (by show sl + 0 ≤ 7302250; omega) ?_
  refine x_Call.keep (t_X11_sway kb.1 kb.2 (fun r1 hr1 S1 P1 I1 J1 n1 hc1 hx1 hn1 g0 g1 => ?_))
  have mi1 := k_mi1 hx1 mi
  have hs0 : S1 0 = .inr (9, N) := g0.trans hs0
  have hxs : I1 0 = xs := g1.trans hxs
  rw [← k_mid hx1, z_sway_pr] at hc1
  have zr1 : r1.toInt = q_sway I1 (xs (i + 1)) (xs (i + 2)) (xs (i + 3)) := by rw [hr1, ← k_mid hx1, q_sway_pr]
  obtain ⟨fa1, bd1, hR1⟩ := id hc1
  have hS := hR1.hS
  have hP := hR1.hP
  refine v_aload_n d_L_law_892 rfl ?_
  refine v_aload_n d_L_law_893 rfl ?_
  refine v_iload_n d_L_law_894 rfl ?_
  refine v_iconst (v := nI 1) d_L_law_895 x_ic_1 ?_
  first | refine v_iaddN d_L_law_896 ?_ | refine v_iadd d_L_law_896 ?_
  refine v_sx _ d_L_law_897 (rfl) (hs0) (⟨by omega, by omega⟩) hxs ?_
  refine v_aload_n d_L_law_898 rfl ?_
  refine v_iload_n d_L_law_899 rfl ?_
  refine v_iconst (v := nI 2) d_L_law_900 x_ic_2 ?_
  first | refine v_iaddN d_L_law_901 ?_ | refine v_iadd d_L_law_901 ?_
  refine v_sx _ d_L_law_902 (rfl) (hs0) (⟨by omega, by omega⟩) hxs ?_
  refine v_aload_n d_L_law_903 rfl ?_
  refine v_iload_n d_L_law_904 rfl ?_
  refine v_iconst (v := nI 3) d_L_law_905 x_ic_3 ?_
  first | refine v_iaddN d_L_law_906 ?_ | refine v_iadd d_L_law_906 ?_
  refine v_sx _ d_L_law_907 (rfl) (hs0) (⟨by omega, by omega⟩) hxs ?_
  refine v_cv (as := [_, _, _]) (rest := [_]) d_L_law_908 lv_L_83_12 (hS _ _ rfl) rfl ⟨by decide, by decide⟩ rfl (Nat.le_of_ble_eq_true rfl) (by show cs + 0 + 0 ≤ 600000; omega) (by show sl + 0 + 0 ≤ 7302250; omega) ?_
  refine x_Call.keep (t_X12_sway mi1.nb.es mi1.bo mi1.nb.hn mi1.nb.fo hS hP (fun r2 hr2 I2 J2 hx2 g2 g3 => ?_))
  refine w_icmp_eq d_L_law_911 (fun aeq => ?_) (fun aeq => False.elim (by exact aeq (zr1.trans hr2.symm)))
  have kf := k_fin (z := (z_sway I1 (xs (i + 1)) (xs (i + 2)) (xs (i + 3)))) (I2 := I2) (J2 := J2) hc1 (z_sway_mi mi1) (fun a k ha => z_sway_out I1 (xs (i + 1)) (xs (i + 2)) (xs (i + 3)) a k ha) hx2.up
  refine hnx S1 P1 _ _ n1 _ _ hs0 (g3.trans hxs) kf.1 kf.2 ?_ ?_
  · show cs + 0 + 0 ≤ cs + 3; omega
  · show sl + 0 + 0 ≤ sl + 76; omega

set_option maxRecDepth 100000 in
set_option maxHeartbeats 4000000 in
theorem lw_c_hour {K : x_K} {S : x_S} {P : x_P} {I : x_I} {J : x_J} {n cs sl N i : Nat} {xs : Nat → Int32} {fa : Nat → Nat} {bd : Nat} (hs0 : S 0 = .inr (9, N)) (hxs : I 0 = xs) (hi : i + 8 ≤ N) (hN : N ≤ 4096) (hR : c_R fa bd I S P I J n) (mi : m_I I) (hcs : cs + 3 ≤ 600000) (hsl : sl + 76 ≤ 7302250)
    (hnx : ∀ (S' : x_S) (P' : x_P) (I' : x_I) (J' : x_J) (n' cs' sl' : Nat), S' 0 = .inr (9, N) → I' 0 = xs → c_S I' S' P' I' J' n' → m_I I' → cs' ≤ cs + 3 → sl' ≤ sl + 76 → x_V f_L_law K 1520 [some (.ref 0), some (.ref 1), some (.ref 39), some (.int (nI i))] [] S' P' I' J' n' cs' sl') : x_V f_L_law K 916 [some (.ref 0), some (.ref 1), some (.ref 39), some (.int (nI i))] [] S P I J n cs sl := by
  have hS := hR.hS
  have hP := hR.hP
  have kb := k_beg hR mi
  refine v_aload_n d_L_law_916 rfl ?_
  refine v_aload_n d_L_law_917 rfl ?_
  refine v_iload_n d_L_law_918 rfl ?_
  refine v_iconst (v := nI 1) d_L_law_919 x_ic_1 ?_
  first | refine v_iaddN d_L_law_920 ?_ | refine v_iadd d_L_law_920 ?_
  refine v_sx _ d_L_law_921 (rfl) (hs0) (⟨by omega, by omega⟩) hxs ?_
  refine v_aload_n d_L_law_922 rfl ?_
  refine v_iload_n d_L_law_923 rfl ?_
  refine v_iconst (v := nI 2) d_L_law_924 x_ic_2 ?_
  first | refine v_iaddN d_L_law_925 ?_ | refine v_iadd d_L_law_925 ?_
  refine v_sx _ d_L_law_926 (rfl) (hs0) (⟨by omega, by omega⟩) hxs ?_
  refine v_aload_n d_L_law_927 rfl ?_
  refine v_iload_n d_L_law_928 rfl ?_
  refine v_iconst (v := nI 3) d_L_law_929 x_ic_3 ?_
  first | refine v_iaddN d_L_law_930 ?_ | refine v_iadd d_L_law_930 ?_
  refine v_sx _ d_L_law_931 (rfl) (hs0) (⟨by omega, by omega⟩) hxs ?_
  refine v_cv (as := [_, _, _]) (rest := []) d_L_law_932 lv_L_84_11 (hS _ _ rfl) rfl ⟨by decide, by decide⟩ rfl (Nat.le_of_ble_eq_true rfl) (by show cs + 0 ≤ 600000; omega) (by show sl + 0 ≤ 7302250; omega) ?_
  refine x_Call.keep (t_X11_hour kb.1 kb.2 (fun S1 P1 I1 J1 n1 hc1 hx1 hn1 g0 g1 => ?_))
  have mi1 := k_mi1 hx1 mi
  have hs0 : S1 0 = .inr (9, N) := g0.trans hs0
  have hxs : I1 0 = xs := g1.trans hxs
  rw [← k_mid hx1, z_hour_pr] at hc1
  have hq : q_hour (m_pr I) (xs (i + 1)) (xs (i + 2)) (xs (i + 3)) = q_hour I1 (xs (i + 1)) (xs (i + 2)) (xs (i + 3)) := by rw [← k_mid hx1, q_hour_pr]
  rw [hq]
  obtain ⟨fa1, bd1, hR1⟩ := id hc1
  have hS := hR1.hS
  have hP := hR1.hP
  refine v_aload_n d_L_law_935 rfl ?_
  refine v_aload_n d_L_law_936 rfl ?_
  refine v_iload_n d_L_law_937 rfl ?_
  refine v_iconst (v := nI 1) d_L_law_938 x_ic_1 ?_
  first | refine v_iaddN d_L_law_939 ?_ | refine v_iadd d_L_law_939 ?_
  refine v_sx _ d_L_law_940 (rfl) (hs0) (⟨by omega, by omega⟩) hxs ?_
  refine v_aload_n d_L_law_941 rfl ?_
  refine v_iload_n d_L_law_942 rfl ?_
  refine v_iconst (v := nI 2) d_L_law_943 x_ic_2 ?_
  first | refine v_iaddN d_L_law_944 ?_ | refine v_iadd d_L_law_944 ?_
  refine v_sx _ d_L_law_945 (rfl) (hs0) (⟨by omega, by omega⟩) hxs ?_
  refine v_aload_n d_L_law_946 rfl ?_
  refine v_iload_n d_L_law_947 rfl ?_
  refine v_iconst (v := nI 3) d_L_law_948 x_ic_3 ?_
  first | refine v_iaddN d_L_law_949 ?_ | refine v_iadd d_L_law_949 ?_
  refine v_sx _ d_L_law_950 (rfl) (hs0) (⟨by omega, by omega⟩) hxs ?_
  refine v_cv (as := [_, _, _]) (rest := [_]) d_L_law_951 lv_L_87_12 (hS _ _ rfl) rfl ⟨by decide, by decide⟩ rfl (Nat.le_of_ble_eq_true rfl) (by show cs + 0 + 0 ≤ 600000; omega) (by show sl + 0 + 0 ≤ 7302250; omega) ?_
  refine x_Call.keep (t_X12_hour mi1.hh hS hP (fun g2 g3 => ?_))
  refine w_icmp_eq d_L_law_954 (fun aeq => ?_) (fun aeq => False.elim (by exact aeq rfl))
  have kf := k_fin (z := (z_hour I1 (xs (i + 1)) (xs (i + 2)) (xs (i + 3)))) (I2 := (z_hour I1 (xs (i + 1)) (xs (i + 2)) (xs (i + 3)))) (J2 := J1) hc1 (z_hour_mi mi1) (fun a k ha => z_hour_out I1 (xs (i + 1)) (xs (i + 2)) (xs (i + 3)) a k ha) x_ex.rf
  refine hnx S1 P1 _ _ n1 _ _ hs0 (g3.trans hxs) kf.1 kf.2 ?_ ?_
  · show cs + 0 + 0 ≤ cs + 3; omega
  · show sl + 0 + 0 ≤ sl + 76; omega

set_option maxRecDepth 100000 in
set_option maxHeartbeats 4000000 in
theorem lw_c_plate {K : x_K} {S : x_S} {P : x_P} {I : x_I} {J : x_J} {n cs sl N i : Nat} {xs : Nat → Int32} {fa : Nat → Nat} {bd : Nat} (hs0 : S 0 = .inr (9, N)) (hxs : I 0 = xs) (hi : i + 8 ≤ N) (hN : N ≤ 4096) (hR : c_R fa bd I S P I J n) (mi : m_I I) (hcs : cs + 3 ≤ 600000) (hsl : sl + 76 ≤ 7302250)
    (hnx : ∀ (S' : x_S) (P' : x_P) (I' : x_I) (J' : x_J) (n' cs' sl' : Nat), S' 0 = .inr (9, N) → I' 0 = xs → c_S I' S' P' I' J' n' → m_I I' → cs' ≤ cs + 3 → sl' ≤ sl + 76 → x_V f_L_law K 1520 [some (.ref 0), some (.ref 1), some (.ref 39), some (.int (nI i))] [] S' P' I' J' n' cs' sl') : x_V f_L_law K 959 [some (.ref 0), some (.ref 1), some (.ref 39), some (.int (nI i))] [] S P I J n cs sl := by
  have hS := hR.hS
  have hP := hR.hP
  have kb := k_beg hR mi
  refine v_aload_n d_L_law_959 rfl ?_
  refine v_aload_n d_L_law_960 rfl ?_
  refine v_iload_n d_L_law_961 rfl ?_
  refine v_iconst (v := nI 1) d_L_law_962 x_ic_1 ?_
  first | refine v_iaddN d_L_law_963 ?_ | refine v_iadd d_L_law_963 ?_
  refine v_sx _ d_L_law_964 (rfl) (hs0) (⟨by omega, by omega⟩) hxs ?_
  refine v_cv (as := [_]) (rest := []) d_L_law_965 lv_L_88_11 (hS _ _ rfl) rfl ⟨by decide, by decide⟩ rfl (Nat.le_of_ble_eq_true rfl) (by show cs + 0 ≤ 600000; omega) (by show sl + 0 ≤ 7302250; omega) ?_
  refine x_Call.keep (t_X11_plate kb.1 kb.2 (fun S1 P1 I1 J1 n1 hc1 hx1 hn1 g0 g1 => ?_))
  have mi1 := k_mi1 hx1 mi
  have hs0 : S1 0 = .inr (9, N) := g0.trans hs0
  have hxs : I1 0 = xs := g1.trans hxs
  rw [← k_mid hx1, z_plate_pr] at hc1
  have hq : q_plate (m_pr I) (xs (i + 1)) = q_plate I1 (xs (i + 1)) := by rw [← k_mid hx1, q_plate_pr]
  rw [hq]
  obtain ⟨fa1, bd1, hR1⟩ := id hc1
  have hS := hR1.hS
  have hP := hR1.hP
  refine v_aload_n d_L_law_968 rfl ?_
  refine v_aload_n d_L_law_969 rfl ?_
  refine v_iload_n d_L_law_970 rfl ?_
  refine v_iconst (v := nI 1) d_L_law_971 x_ic_1 ?_
  first | refine v_iaddN d_L_law_972 ?_ | refine v_iadd d_L_law_972 ?_
  refine v_sx _ d_L_law_973 (rfl) (hs0) (⟨by omega, by omega⟩) hxs ?_
  refine v_cv (as := [_]) (rest := [_]) d_L_law_974 lv_L_91_12 (hS _ _ rfl) rfl ⟨by decide, by decide⟩ rfl (Nat.le_of_ble_eq_true rfl) (by show cs + 0 + 0 ≤ 600000; omega) (by show sl + 0 + 0 ≤ 7302250; omega) ?_
  refine x_Call.keep (t_X12_plate hS hP (fun g2 g3 => ?_))
  refine w_icmp_eq d_L_law_977 (fun aeq => ?_) (fun aeq => False.elim (by exact aeq rfl))
  have kf := k_fin (z := (z_plate I1 (xs (i + 1)))) (I2 := (z_plate I1 (xs (i + 1)))) (J2 := J1) hc1 (z_plate_mi mi1) (fun a k ha => z_plate_out I1 (xs (i + 1)) a k ha) x_ex.rf
  refine hnx S1 P1 _ _ n1 _ _ hs0 (g3.trans hxs) kf.1 kf.2 ?_ ?_
  · show cs + 0 + 0 ≤ cs + 3; omega
  · show sl + 0 + 0 ≤ sl + 76; omega

set_option maxRecDepth 100000 in
set_option maxHeartbeats 4000000 in
theorem lw_c_want {K : x_K} {S : x_S} {P : x_P} {I : x_I} {J : x_J} {n cs sl N i : Nat} {xs : Nat → Int32} {fa : Nat → Nat} {bd : Nat} (hs0 : S 0 = .inr (9, N)) (hxs : I 0 = xs) (hi : i + 8 ≤ N) (hN : N ≤ 4096) (hR : c_R fa bd I S P I J n) (mi : m_I I) (hcs : cs + 3 ≤ 600000) (hsl : sl + 76 ≤ 7302250)
    (hnx : ∀ (S' : x_S) (P' : x_P) (I' : x_I) (J' : x_J) (n' cs' sl' : Nat), S' 0 = .inr (9, N) → I' 0 = xs → c_S I' S' P' I' J' n' → m_I I' → cs' ≤ cs + 3 → sl' ≤ sl + 76 → x_V f_L_law K 1520 [some (.ref 0), some (.ref 1), some (.ref 39), some (.int (nI i))] [] S' P' I' J' n' cs' sl') : x_V f_L_law K 982 [some (.ref 0), some (.ref 1), some (.ref 39), some (.int (nI i))] [] S P I J n cs sl := by
  have hS := hR.hS
  have hP := hR.hP
  have kb := k_beg hR mi
  by_cases hb : (xs (i + 4)).toInt = 0
  · refine v_aload_n d_L_law_982 rfl ?_
    refine v_aload_n d_L_law_983 rfl ?_
    refine v_iload_n d_L_law_984 rfl ?_
    refine v_iconst (v := nI 1) d_L_law_985 x_ic_1 ?_
    first | refine v_iaddN d_L_law_986 ?_ | refine v_iadd d_L_law_986 ?_
    refine v_sx _ d_L_law_987 (rfl) (hs0) (⟨by omega, by omega⟩) hxs ?_
    refine v_aload_n d_L_law_988 rfl ?_
    refine v_iload_n d_L_law_989 rfl ?_
    refine v_iconst (v := nI 2) d_L_law_990 x_ic_2 ?_
    first | refine v_iaddN d_L_law_991 ?_ | refine v_iadd d_L_law_991 ?_
    refine v_sx _ d_L_law_992 (rfl) (hs0) (⟨by omega, by omega⟩) hxs ?_
    refine v_aload_n d_L_law_993 rfl ?_
    refine v_iload_n d_L_law_994 rfl ?_
    refine v_iconst (v := nI 3) d_L_law_995 x_ic_3 ?_
    first | refine v_iaddN d_L_law_996 ?_ | refine v_iadd d_L_law_996 ?_
    refine v_sx _ d_L_law_997 (rfl) (hs0) (⟨by omega, by omega⟩) hxs ?_
    refine v_aload_n d_L_law_998 rfl ?_
    refine v_iload_n d_L_law_999 rfl ?_
    refine v_iconst (v := nI 4) d_L_law_1000 x_ic_4 ?_
    first | refine v_iaddN d_L_law_1001 ?_ | refine v_iadd d_L_law_1001 ?_
    refine v_sx _ d_L_law_1002 (rfl) (hs0) (⟨by omega, by omega⟩) hxs ?_
    refine w_if_eq d_L_law_1003 (fun a1003 => ?_) (fun a1003 => False.elim (by exact a1003 hb))
    refine v_iconst (v := nI 0) d_L_law_1010 x_ic_0 ?_
    refine v_cv (as := [_, _, _, _]) (rest := []) d_L_law_1011 lv_L_92_11 (hS _ _ rfl) rfl ⟨by decide, by decide⟩ rfl (Nat.le_of_ble_eq_true rfl) (by show cs + 0 ≤ 600000; omega) (by show sl + 0 ≤ 7302250; omega) ?_
    refine x_Call.keep (t_X11_want (Or.inl (by decide)) kb.1 kb.2 (fun S1 P1 I1 J1 n1 hc1 hx1 hn1 g0 g1 => ?_))
    have mi1 := k_mi1 hx1 mi
    have hs0 : S1 0 = .inr (9, N) := g0.trans hs0
    have hxs : I1 0 = xs := g1.trans hxs
    rw [← k_mid hx1, z_want_pr] at hc1
    have hq : q_want (m_pr I) (xs (i + 1)) (xs (i + 2)) (xs (i + 3)) (nI 0) = q_want I1 (xs (i + 1)) (xs (i + 2)) (xs (i + 3)) (nI 0) := by rw [← k_mid hx1, q_want_pr]
    rw [hq]
    obtain ⟨fa1, bd1, hR1⟩ := id hc1
    have hS := hR1.hS
    have hP := hR1.hP
    refine v_aload_n d_L_law_1014 rfl ?_
    refine v_aload_n d_L_law_1015 rfl ?_
    refine v_iload_n d_L_law_1016 rfl ?_
    refine v_iconst (v := nI 1) d_L_law_1017 x_ic_1 ?_
    first | refine v_iaddN d_L_law_1018 ?_ | refine v_iadd d_L_law_1018 ?_
    refine v_sx _ d_L_law_1019 (rfl) (hs0) (⟨by omega, by omega⟩) hxs ?_
    refine v_aload_n d_L_law_1020 rfl ?_
    refine v_iload_n d_L_law_1021 rfl ?_
    refine v_iconst (v := nI 2) d_L_law_1022 x_ic_2 ?_
    first | refine v_iaddN d_L_law_1023 ?_ | refine v_iadd d_L_law_1023 ?_
    refine v_sx _ d_L_law_1024 (rfl) (hs0) (⟨by omega, by omega⟩) hxs ?_
    refine v_aload_n d_L_law_1025 rfl ?_
    refine v_iload_n d_L_law_1026 rfl ?_
    refine v_iconst (v := nI 3) d_L_law_1027 x_ic_3 ?_
    first | refine v_iaddN d_L_law_1028 ?_ | refine v_iadd d_L_law_1028 ?_
    refine v_sx _ d_L_law_1029 (rfl) (hs0) (⟨by omega, by omega⟩) hxs ?_
    refine v_aload_n d_L_law_1030 rfl ?_
    refine v_iload_n d_L_law_1031 rfl ?_
    refine v_iconst (v := nI 4) d_L_law_1032 x_ic_4 ?_
    first | refine v_iaddN d_L_law_1033 ?_ | refine v_iadd d_L_law_1033 ?_
    refine v_sx _ d_L_law_1034 (rfl) (hs0) (⟨by omega, by omega⟩) hxs ?_
    refine w_if_eq d_L_law_1035 (fun a1035 => ?_) (fun a1035 => False.elim (by exact a1035 hb))
    refine v_iconst (v := nI 0) d_L_law_1042 x_ic_0 ?_
    refine v_cv (as := [_, _, _, _]) (rest := [_]) d_L_law_1043 lv_L_96_12 (hS _ _ rfl) rfl ⟨by decide, by decide⟩ rfl (Nat.le_of_ble_eq_true rfl) (by show cs + 0 + 0 ≤ 600000; omega) (by show sl + 0 + 0 ≤ 7302250; omega) ?_
    refine x_Call.keep (t_X12_want (by decide) mi1.hh.2 mi1.hn mi1.fo hS hP (fun g2 g3 => ?_))
    refine w_icmp_eq d_L_law_1046 (fun aeq => ?_) (fun aeq => False.elim (by exact aeq rfl))
    have kf := k_fin (z := (z_want I1 (xs (i + 1)) (xs (i + 2)) (xs (i + 3)) (nI 0))) (I2 := (z_want I1 (xs (i + 1)) (xs (i + 2)) (xs (i + 3)) (nI 0))) (J2 := J1) hc1 (z_want_mi mi1 (Or.inl (by decide))) (fun a k ha => z_want_out I1 (xs (i + 1)) (xs (i + 2)) (xs (i + 3)) (nI 0) a k ha) x_ex.rf
    refine hnx S1 P1 _ _ n1 _ _ hs0 (g3.trans hxs) kf.1 kf.2 ?_ ?_
    · show cs + 0 + 0 ≤ cs + 3; omega
    · show sl + 0 + 0 ≤ sl + 76; omega
  · refine v_aload_n d_L_law_982 rfl ?_
    refine v_aload_n d_L_law_983 rfl ?_
    refine v_iload_n d_L_law_984 rfl ?_
    refine v_iconst (v := nI 1) d_L_law_985 x_ic_1 ?_
    first | refine v_iaddN d_L_law_986 ?_ | refine v_iadd d_L_law_986 ?_
    refine v_sx _ d_L_law_987 (rfl) (hs0) (⟨by omega, by omega⟩) hxs ?_
    refine v_aload_n d_L_law_988 rfl ?_
    refine v_iload_n d_L_law_989 rfl ?_
    refine v_iconst (v := nI 2) d_L_law_990 x_ic_2 ?_
    first | refine v_iaddN d_L_law_991 ?_ | refine v_iadd d_L_law_991 ?_
    refine v_sx _ d_L_law_992 (rfl) (hs0) (⟨by omega, by omega⟩) hxs ?_
    refine v_aload_n d_L_law_993 rfl ?_
    refine v_iload_n d_L_law_994 rfl ?_
    refine v_iconst (v := nI 3) d_L_law_995 x_ic_3 ?_
    first | refine v_iaddN d_L_law_996 ?_ | refine v_iadd d_L_law_996 ?_
    refine v_sx _ d_L_law_997 (rfl) (hs0) (⟨by omega, by omega⟩) hxs ?_
    refine v_aload_n d_L_law_998 rfl ?_
    refine v_iload_n d_L_law_999 rfl ?_
    refine v_iconst (v := nI 4) d_L_law_1000 x_ic_4 ?_
    first | refine v_iaddN d_L_law_1001 ?_ | refine v_iadd d_L_law_1001 ?_
    refine v_sx _ d_L_law_1002 (rfl) (hs0) (⟨by omega, by omega⟩) hxs ?_
    refine w_if_eq d_L_law_1003 (fun a1003 => False.elim (by exact hb a1003)) (fun a1003 => ?_)
    refine v_iconst (v := nI 1) d_L_law_1006 x_ic_1 ?_
    refine v_goto d_L_law_1007 ?_
    refine v_cv (as := [_, _, _, _]) (rest := []) d_L_law_1011 lv_L_92_11 (hS _ _ rfl) rfl ⟨by decide, by decide⟩ rfl (Nat.le_of_ble_eq_true rfl) (by show cs + 0 ≤ 600000; omega) (by show sl + 0 ≤ 7302250; omega) ?_
    refine x_Call.keep (t_X11_want (Or.inr (by decide)) kb.1 kb.2 (fun S1 P1 I1 J1 n1 hc1 hx1 hn1 g0 g1 => ?_))
    have mi1 := k_mi1 hx1 mi
    have hs0 : S1 0 = .inr (9, N) := g0.trans hs0
    have hxs : I1 0 = xs := g1.trans hxs
    rw [← k_mid hx1, z_want_pr] at hc1
    have hq : q_want (m_pr I) (xs (i + 1)) (xs (i + 2)) (xs (i + 3)) (nI 1) = q_want I1 (xs (i + 1)) (xs (i + 2)) (xs (i + 3)) (nI 1) := by rw [← k_mid hx1, q_want_pr]
    rw [hq]
    obtain ⟨fa1, bd1, hR1⟩ := id hc1
    have hS := hR1.hS
    have hP := hR1.hP
    refine v_aload_n d_L_law_1014 rfl ?_
    refine v_aload_n d_L_law_1015 rfl ?_
    refine v_iload_n d_L_law_1016 rfl ?_
    refine v_iconst (v := nI 1) d_L_law_1017 x_ic_1 ?_
    first | refine v_iaddN d_L_law_1018 ?_ | refine v_iadd d_L_law_1018 ?_
    refine v_sx _ d_L_law_1019 (rfl) (hs0) (⟨by omega, by omega⟩) hxs ?_
    refine v_aload_n d_L_law_1020 rfl ?_
    refine v_iload_n d_L_law_1021 rfl ?_
    refine v_iconst (v := nI 2) d_L_law_1022 x_ic_2 ?_
    first | refine v_iaddN d_L_law_1023 ?_ | refine v_iadd d_L_law_1023 ?_
    refine v_sx _ d_L_law_1024 (rfl) (hs0) (⟨by omega, by omega⟩) hxs ?_
    refine v_aload_n d_L_law_1025 rfl ?_
    refine v_iload_n d_L_law_1026 rfl ?_
    refine v_iconst (v := nI 3) d_L_law_1027 x_ic_3 ?_
    first | refine v_iaddN d_L_law_1028 ?_ | refine v_iadd d_L_law_1028 ?_
    refine v_sx _ d_L_law_1029 (rfl) (hs0) (⟨by omega, by omega⟩) hxs ?_
    refine v_aload_n d_L_law_1030 rfl ?_
    refine v_iload_n d_L_law_1031 rfl ?_
    refine v_iconst (v := nI 4) d_L_law_1032 x_ic_4 ?_
    first | refine v_iaddN d_L_law_1033 ?_ | refine v_iadd d_L_law_1033 ?_
    refine v_sx _ d_L_law_1034 (rfl) (hs0) (⟨by omega, by omega⟩) hxs ?_
    refine w_if_eq d_L_law_1035 (fun a1035 => False.elim (by exact hb a1035)) (fun a1035 => ?_)
    refine v_iconst (v := nI 1) d_L_law_1038 x_ic_1 ?_
    refine v_goto d_L_law_1039 ?_
    refine v_cv (as := [_, _, _, _]) (rest := [_]) d_L_law_1043 lv_L_96_12 (hS _ _ rfl) rfl ⟨by decide, by decide⟩ rfl (Nat.le_of_ble_eq_true rfl) (by show cs + 0 + 0 ≤ 600000; omega) (by show sl + 0 + 0 ≤ 7302250; omega) ?_
    refine x_Call.keep (t_X12_want (by decide) mi1.hh.2 mi1.hn mi1.fo hS hP (fun g2 g3 => ?_))
    refine w_icmp_eq d_L_law_1046 (fun aeq => ?_) (fun aeq => False.elim (by exact aeq rfl))
    have kf := k_fin (z := (z_want I1 (xs (i + 1)) (xs (i + 2)) (xs (i + 3)) (nI 1))) (I2 := (z_want I1 (xs (i + 1)) (xs (i + 2)) (xs (i + 3)) (nI 1))) (J2 := J1) hc1 (z_want_mi mi1 (Or.inr (by decide))) (fun a k ha => z_want_out I1 (xs (i + 1)) (xs (i + 2)) (xs (i + 3)) (nI 1) a k ha) x_ex.rf
    refine hnx S1 P1 _ _ n1 _ _ hs0 (g3.trans hxs) kf.1 kf.2 ?_ ?_
    · show cs + 0 + 0 ≤ cs + 3; omega
    · show sl + 0 + 0 ≤ sl + 76; omega

set_option maxRecDepth 100000 in
set_option maxHeartbeats 4000000 in
theorem lw_c_wanted {K : x_K} {S : x_S} {P : x_P} {I : x_I} {J : x_J} {n cs sl N i : Nat} {xs : Nat → Int32} {fa : Nat → Nat} {bd : Nat} (hs0 : S 0 = .inr (9, N)) (hxs : I 0 = xs) (hi : i + 8 ≤ N) (hN : N ≤ 4096) (hR : c_R fa bd I S P I J n) (mi : m_I I) (hcs : cs + 3 ≤ 600000) (hsl : sl + 76 ≤ 7302250)
    (hnx : ∀ (S' : x_S) (P' : x_P) (I' : x_I) (J' : x_J) (n' cs' sl' : Nat), S' 0 = .inr (9, N) → I' 0 = xs → c_S I' S' P' I' J' n' → m_I I' → cs' ≤ cs + 3 → sl' ≤ sl + 76 → x_V f_L_law K 1520 [some (.ref 0), some (.ref 1), some (.ref 39), some (.int (nI i))] [] S' P' I' J' n' cs' sl') : x_V f_L_law K 1051 [some (.ref 0), some (.ref 1), some (.ref 39), some (.int (nI i))] [] S P I J n cs sl := by
  have hS := hR.hS
  have hP := hR.hP
  have kb := k_beg hR mi
  refine v_aload_n d_L_law_1051 rfl ?_
  refine v_aload_n d_L_law_1052 rfl ?_
  refine v_iload_n d_L_law_1053 rfl ?_
  refine v_iconst (v := nI 1) d_L_law_1054 x_ic_1 ?_
  first | refine v_iaddN d_L_law_1055 ?_ | refine v_iadd d_L_law_1055 ?_
  refine v_sx _ d_L_law_1056 (rfl) (hs0) (⟨by omega, by omega⟩) hxs ?_
  refine v_aload_n d_L_law_1057 rfl ?_
  refine v_iload_n d_L_law_1058 rfl ?_
  refine v_iconst (v := nI 2) d_L_law_1059 x_ic_2 ?_
  first | refine v_iaddN d_L_law_1060 ?_ | refine v_iadd d_L_law_1060 ?_
  refine v_sx _ d_L_law_1061 (rfl) (hs0) (⟨by omega, by omega⟩) hxs ?_
  refine v_aload_n d_L_law_1062 rfl ?_
  refine v_iload_n d_L_law_1063 rfl ?_
  refine v_iconst (v := nI 3) d_L_law_1064 x_ic_3 ?_
  first | refine v_iaddN d_L_law_1065 ?_ | refine v_iadd d_L_law_1065 ?_
  refine v_sx _ d_L_law_1066 (rfl) (hs0) (⟨by omega, by omega⟩) hxs ?_
  refine v_aload_n d_L_law_1067 rfl ?_
  refine v_iload_n d_L_law_1068 rfl ?_
  refine v_iconst (v := nI 4) d_L_law_1069 x_ic_4 ?_
  first | refine v_iaddN d_L_law_1070 ?_ | refine v_iadd d_L_law_1070 ?_
  refine v_sx _ d_L_law_1071 (rfl) (hs0) (⟨by omega, by omega⟩) hxs ?_
  refine v_aload_n d_L_law_1072 rfl ?_
  refine v_iload_n d_L_law_1073 rfl ?_
  refine v_iconst (v := nI 5) d_L_law_1074 x_ic_5 ?_
  first | refine v_iaddN d_L_law_1075 ?_ | refine v_iadd d_L_law_1075 ?_
  refine v_sx _ d_L_law_1076 (rfl) (hs0) (⟨by omega, by omega⟩) hxs ?_
  refine v_cv (as := [_, _, _, _, _]) (rest := []) d_L_law_1077 lv_L_97_11 (hS _ _ rfl) rfl ⟨by decide, by decide⟩ rfl (Nat.le_of_ble_eq_true rfl) (by show cs + 0 ≤ 600000; omega) (by show sl + 0 ≤ 7302250; omega) ?_
  refine x_Call.keep (t_X11_wanted kb.1 kb.2 (fun S1 P1 I1 J1 n1 hc1 hx1 hn1 g0 g1 => ?_))
  have mi1 := k_mi1 hx1 mi
  have hs0 : S1 0 = .inr (9, N) := g0.trans hs0
  have hxs : I1 0 = xs := g1.trans hxs
  rw [← k_mid hx1, z_wanted_pr] at hc1
  have hq : q_wanted (m_pr I) (xs (i + 1)) (xs (i + 2)) (xs (i + 3)) (xs (i + 4)) (xs (i + 5)) = q_wanted I1 (xs (i + 1)) (xs (i + 2)) (xs (i + 3)) (xs (i + 4)) (xs (i + 5)) := by rw [← k_mid hx1, q_wanted_pr]
  rw [hq]
  obtain ⟨fa1, bd1, hR1⟩ := id hc1
  have hS := hR1.hS
  have hP := hR1.hP
  refine v_aload_n d_L_law_1080 rfl ?_
  refine v_aload_n d_L_law_1081 rfl ?_
  refine v_iload_n d_L_law_1082 rfl ?_
  refine v_iconst (v := nI 1) d_L_law_1083 x_ic_1 ?_
  first | refine v_iaddN d_L_law_1084 ?_ | refine v_iadd d_L_law_1084 ?_
  refine v_sx _ d_L_law_1085 (rfl) (hs0) (⟨by omega, by omega⟩) hxs ?_
  refine v_aload_n d_L_law_1086 rfl ?_
  refine v_iload_n d_L_law_1087 rfl ?_
  refine v_iconst (v := nI 2) d_L_law_1088 x_ic_2 ?_
  first | refine v_iaddN d_L_law_1089 ?_ | refine v_iadd d_L_law_1089 ?_
  refine v_sx _ d_L_law_1090 (rfl) (hs0) (⟨by omega, by omega⟩) hxs ?_
  refine v_aload_n d_L_law_1091 rfl ?_
  refine v_iload_n d_L_law_1092 rfl ?_
  refine v_iconst (v := nI 3) d_L_law_1093 x_ic_3 ?_
  first | refine v_iaddN d_L_law_1094 ?_ | refine v_iadd d_L_law_1094 ?_
  refine v_sx _ d_L_law_1095 (rfl) (hs0) (⟨by omega, by omega⟩) hxs ?_
  refine v_aload_n d_L_law_1096 rfl ?_
  refine v_iload_n d_L_law_1097 rfl ?_
  refine v_iconst (v := nI 4) d_L_law_1098 x_ic_4 ?_
  first | refine v_iaddN d_L_law_1099 ?_ | refine v_iadd d_L_law_1099 ?_
  refine v_sx _ d_L_law_1100 (rfl) (hs0) (⟨by omega, by omega⟩) hxs ?_
  refine v_aload_n d_L_law_1101 rfl ?_
  refine v_iload_n d_L_law_1102 rfl ?_
  refine v_iconst (v := nI 5) d_L_law_1103 x_ic_5 ?_
  first | refine v_iaddN d_L_law_1104 ?_ | refine v_iadd d_L_law_1104 ?_
  refine v_sx _ d_L_law_1105 (rfl) (hs0) (⟨by omega, by omega⟩) hxs ?_
  refine v_cv (as := [_, _, _, _, _]) (rest := [_]) d_L_law_1106 lv_L_101_12 (hS _ _ rfl) rfl ⟨by decide, by decide⟩ rfl (Nat.le_of_ble_eq_true rfl) (by show cs + 0 + 0 ≤ 600000; omega) (by show sl + 0 + 0 ≤ 7302250; omega) ?_
  refine x_Call.keep (t_X12_wanted (fun k hk => (mi1.la k hk).2) mi1.hh.2 mi1.hn mi1.fo hS hP (fun g2 g3 => ?_))
  refine w_icmp_eq d_L_law_1109 (fun aeq => ?_) (fun aeq => False.elim (by exact aeq rfl))
  have kf := k_fin (z := (z_wanted I1 (xs (i + 1)) (xs (i + 2)) (xs (i + 3)) (xs (i + 4)) (xs (i + 5)))) (I2 := (z_wanted I1 (xs (i + 1)) (xs (i + 2)) (xs (i + 3)) (xs (i + 4)) (xs (i + 5)))) (J2 := J1) hc1 (z_wanted_mi mi1) (fun a k ha => z_wanted_out I1 (xs (i + 1)) (xs (i + 2)) (xs (i + 3)) (xs (i + 4)) (xs (i + 5)) a k ha) x_ex.rf
  refine hnx S1 P1 _ _ n1 _ _ hs0 (g3.trans hxs) kf.1 kf.2 ?_ ?_
  · show cs + 0 + 0 ≤ cs + 3; omega
  · show sl + 0 + 0 ≤ sl + 76; omega

set_option maxRecDepth 100000 in
set_option maxHeartbeats 4000000 in
theorem lw_c_lit {K : x_K} {S : x_S} {P : x_P} {I : x_I} {J : x_J} {n cs sl N i : Nat} {xs : Nat → Int32} {fa : Nat → Nat} {bd : Nat} (hs0 : S 0 = .inr (9, N)) (hxs : I 0 = xs) (hi : i + 8 ≤ N) (hN : N ≤ 4096) (hR : c_R fa bd I S P I J n) (mi : m_I I) (hcs : cs + 3 ≤ 600000) (hsl : sl + 76 ≤ 7302250)
    (hnx : ∀ (S' : x_S) (P' : x_P) (I' : x_I) (J' : x_J) (n' cs' sl' : Nat), S' 0 = .inr (9, N) → I' 0 = xs → c_S I' S' P' I' J' n' → m_I I' → cs' ≤ cs + 3 → sl' ≤ sl + 76 → x_V f_L_law K 1520 [some (.ref 0), some (.ref 1), some (.ref 39), some (.int (nI i))] [] S' P' I' J' n' cs' sl') : x_V f_L_law K 1114 [some (.ref 0), some (.ref 1), some (.ref 39), some (.int (nI i))] [] S P I J n cs sl := by
  have hS := hR.hS
  have hP := hR.hP
  have kb := k_beg hR mi
  refine v_aload_n d_L_law_1114 rfl ?_
  refine v_aload_n d_L_law_1115 rfl ?_
  refine v_iload_n d_L_law_1116 rfl ?_
  refine v_iconst (v := nI 1) d_L_law_1117 x_ic_1 ?_
  first | refine v_iaddN d_L_law_1118 ?_ | refine v_iadd d_L_law_1118 ?_
  refine v_sx _ d_L_law_1119 (rfl) (hs0) (⟨by omega, by omega⟩) hxs ?_
  refine v_aload_n d_L_law_1120 rfl ?_
  refine v_iload_n d_L_law_1121 rfl ?_
  refine v_iconst (v := nI 2) d_L_law_1122 x_ic_2 ?_
  first | refine v_iaddN d_L_law_1123 ?_ | refine v_iadd d_L_law_1123 ?_
  refine v_sx _ d_L_law_1124 (rfl) (hs0) (⟨by omega, by omega⟩) hxs ?_
  refine v_cv (as := [_, _]) (rest := []) d_L_law_1125 lv_L_102_11 (hS _ _ rfl) rfl ⟨by decide, by decide⟩ rfl (Nat.le_of_ble_eq_true rfl) (by show cs + 0 ≤ 600000; omega) (by show sl + 0 ≤ 7302250; omega) ?_
  refine x_Call.keep (t_X11_lit kb.1 kb.2 (fun S1 P1 I1 J1 n1 hc1 hx1 hn1 g0 g1 => ?_))
  have mi1 := k_mi1 hx1 mi
  have hs0 : S1 0 = .inr (9, N) := g0.trans hs0
  have hxs : I1 0 = xs := g1.trans hxs
  rw [← k_mid hx1] at hc1
  have hq : q_lit (m_pr I) (xs (i + 1)) (xs (i + 2)) = q_lit I1 (xs (i + 1)) (xs (i + 2)) := by rw [← k_mid hx1, q_lit_pr]
  rw [hq]
  obtain ⟨fa1, bd1, hR1⟩ := id hc1
  have hS := hR1.hS
  have hP := hR1.hP
  refine v_aload_n d_L_law_1128 rfl ?_
  refine v_aload_n d_L_law_1129 rfl ?_
  refine v_iload_n d_L_law_1130 rfl ?_
  refine v_iconst (v := nI 1) d_L_law_1131 x_ic_1 ?_
  first | refine v_iaddN d_L_law_1132 ?_ | refine v_iadd d_L_law_1132 ?_
  refine v_sx _ d_L_law_1133 (rfl) (hs0) (⟨by omega, by omega⟩) hxs ?_
  refine v_aload_n d_L_law_1134 rfl ?_
  refine v_iload_n d_L_law_1135 rfl ?_
  refine v_iconst (v := nI 2) d_L_law_1136 x_ic_2 ?_
  first | refine v_iaddN d_L_law_1137 ?_ | refine v_iadd d_L_law_1137 ?_
  refine v_sx _ d_L_law_1138 (rfl) (hs0) (⟨by omega, by omega⟩) hxs ?_
  refine v_cv (as := [_, _]) (rest := [_]) d_L_law_1139 lv_L_105_12 (hS _ _ rfl) rfl ⟨by decide, by decide⟩ rfl (Nat.le_of_ble_eq_true rfl) (by show cs + 0 + 0 ≤ 600000; omega) (by show sl + 0 + 0 ≤ 7302250; omega) ?_
  refine x_Call.keep (t_X12_lit mi1.hh mi1.ws mi1.hn mi1.fo hS hP (fun I2 J2 hx2 g2 g3 => ?_))
  refine w_icmp_eq d_L_law_1142 (fun aeq => ?_) (fun aeq => False.elim (by exact aeq rfl))
  have kf := k_fin (z := I1) (I2 := I2) (J2 := J2) hc1 mi1 (fun a k ha => rfl) hx2.up
  refine hnx S1 P1 _ _ n1 _ _ hs0 (g3.trans hxs) kf.1 kf.2 ?_ ?_
  · show cs + 0 + 0 ≤ cs + 3; omega
  · show sl + 0 + 0 ≤ sl + 76; omega

set_option maxRecDepth 100000 in
set_option maxHeartbeats 4000000 in
theorem lw_c_may {K : x_K} {S : x_S} {P : x_P} {I : x_I} {J : x_J} {n cs sl N i : Nat} {xs : Nat → Int32} {fa : Nat → Nat} {bd : Nat} (hs0 : S 0 = .inr (9, N)) (hxs : I 0 = xs) (hi : i + 8 ≤ N) (hN : N ≤ 4096) (hR : c_R fa bd I S P I J n) (mi : m_I I) (hcs : cs + 3 ≤ 600000) (hsl : sl + 76 ≤ 7302250)
    (hnx : ∀ (S' : x_S) (P' : x_P) (I' : x_I) (J' : x_J) (n' cs' sl' : Nat), S' 0 = .inr (9, N) → I' 0 = xs → c_S I' S' P' I' J' n' → m_I I' → cs' ≤ cs + 3 → sl' ≤ sl + 76 → x_V f_L_law K 1520 [some (.ref 0), some (.ref 1), some (.ref 39), some (.int (nI i))] [] S' P' I' J' n' cs' sl') : x_V f_L_law K 1147 [some (.ref 0), some (.ref 1), some (.ref 39), some (.int (nI i))] [] S P I J n cs sl := by
  have hS := hR.hS
  have hP := hR.hP
  have kb := k_beg hR mi
  refine v_aload_n d_L_law_1147 rfl ?_
  refine v_aload_n d_L_law_1148 rfl ?_
  refine v_iload_n d_L_law_1149 rfl ?_
  refine v_iconst (v := nI 1) d_L_law_1150 x_ic_1 ?_
  first | refine v_iaddN d_L_law_1151 ?_ | refine v_iadd d_L_law_1151 ?_
  refine v_sx _ d_L_law_1152 (rfl) (hs0) (⟨by omega, by omega⟩) hxs ?_
  refine v_cv (as := [_]) (rest := []) d_L_law_1153 lv_L_106_11 (hS _ _ rfl) rfl ⟨by decide, by decide⟩ rfl (Nat.le_of_ble_eq_true rfl) (by show cs + 0 ≤ 600000; omega) (by show sl + 0 ≤ 7302250; omega) ?_
  refine x_Call.keep (t_X11_may kb.1 kb.2 (fun S1 P1 I1 J1 n1 hc1 hx1 hn1 g0 g1 => ?_))
  have mi1 := k_mi1 hx1 mi
  have hs0 : S1 0 = .inr (9, N) := g0.trans hs0
  have hxs : I1 0 = xs := g1.trans hxs
  rw [← k_mid hx1] at hc1
  have hq : q_may (m_pr I) (xs (i + 1)) = q_may I1 (xs (i + 1)) := by rw [← k_mid hx1, q_may_pr]
  rw [hq]
  obtain ⟨fa1, bd1, hR1⟩ := id hc1
  have hS := hR1.hS
  have hP := hR1.hP
  refine v_aload_n d_L_law_1156 rfl ?_
  refine v_aload_n d_L_law_1157 rfl ?_
  refine v_iload_n d_L_law_1158 rfl ?_
  refine v_iconst (v := nI 1) d_L_law_1159 x_ic_1 ?_
  first | refine v_iaddN d_L_law_1160 ?_ | refine v_iadd d_L_law_1160 ?_
  refine v_sx _ d_L_law_1161 (rfl) (hs0) (⟨by omega, by omega⟩) hxs ?_
  refine v_cv (as := [_]) (rest := [_]) d_L_law_1162 lv_L_109_12 (hS _ _ rfl) rfl ⟨by decide, by decide⟩ rfl (Nat.le_of_ble_eq_true rfl) (by show cs + 0 + 0 ≤ 600000; omega) (by show sl + 0 + 0 ≤ 7302250; omega) ?_
  refine x_Call.keep (t_X12_may mi1.hh mi1.ws mi1.hn mi1.fo hS hP (fun I2 J2 hx2 g2 g3 => ?_))
  refine w_icmp_eq d_L_law_1165 (fun aeq => ?_) (fun aeq => False.elim (by exact aeq rfl))
  have kf := k_fin (z := I1) (I2 := I2) (J2 := J2) hc1 mi1 (fun a k ha => rfl) hx2
  refine hnx S1 P1 _ _ n1 _ _ hs0 (g3.trans hxs) kf.1 kf.2 ?_ ?_
  · show cs + 0 + 0 ≤ cs + 3; omega
  · show sl + 0 + 0 ≤ sl + 76; omega

set_option maxRecDepth 100000 in
set_option maxHeartbeats 4000000 in
theorem lw_c_fewest {K : x_K} {S : x_S} {P : x_P} {I : x_I} {J : x_J} {n cs sl N i : Nat} {xs : Nat → Int32} {fa : Nat → Nat} {bd : Nat} (hs0 : S 0 = .inr (9, N)) (hxs : I 0 = xs) (hi : i + 8 ≤ N) (hN : N ≤ 4096) (hR : c_R fa bd I S P I J n) (mi : m_I I) (hcs : cs + 3 ≤ 600000) (hsl : sl + 76 ≤ 7302250)
    (hnx : ∀ (S' : x_S) (P' : x_P) (I' : x_I) (J' : x_J) (n' cs' sl' : Nat), S' 0 = .inr (9, N) → I' 0 = xs → c_S I' S' P' I' J' n' → m_I I' → cs' ≤ cs + 3 → sl' ≤ sl + 76 → x_V f_L_law K 1520 [some (.ref 0), some (.ref 1), some (.ref 39), some (.int (nI i))] [] S' P' I' J' n' cs' sl') : x_V f_L_law K 1170 [some (.ref 0), some (.ref 1), some (.ref 39), some (.int (nI i))] [] S P I J n cs sl := by
  have hS := hR.hS
  have hP := hR.hP
  have kb := k_beg hR mi
  refine v_aload_n d_L_law_1170 rfl ?_
  refine v_cv (as := []) (rest := []) d_L_law_1171 lv_L_110_11 (hS _ _ rfl) rfl ⟨by decide, by decide⟩ rfl (Nat.le_of_ble_eq_true rfl) (by show cs + 0 ≤ 600000; omega) (by show sl + 0 ≤ 7302250; omega) ?_
  refine x_Call.keep (t_X11_fewest kb.1 kb.2 (fun S1 P1 I1 J1 n1 hc1 hx1 hn1 g0 g1 => ?_))
  have mi1 := k_mi1 hx1 mi
  have hs0 : S1 0 = .inr (9, N) := g0.trans hs0
  have hxs : I1 0 = xs := g1.trans hxs
  rw [← k_mid hx1] at hc1
  have hq : q_fewest (m_pr I)  = q_fewest I1  := by rw [← k_mid hx1, q_fewest_pr]
  rw [hq]
  obtain ⟨fa1, bd1, hR1⟩ := id hc1
  have hS := hR1.hS
  have hP := hR1.hP
  refine v_aload_n d_L_law_1174 rfl ?_
  refine v_cv (as := []) (rest := [_]) d_L_law_1175 lv_L_113_12 (hS _ _ rfl) rfl ⟨by decide, by decide⟩ rfl (Nat.le_of_ble_eq_true rfl) (by show cs + 0 + 0 ≤ 600000; omega) (by show sl + 0 + 0 ≤ 7302250; omega) ?_
  refine x_Call.keep (t_X12_fewest mi1 hS hP (fun I2 J2 hx2 g2 g3 => ?_))
  refine w_icmp_eq d_L_law_1178 (fun aeq => ?_) (fun aeq => False.elim (by exact aeq rfl))
  have kf := k_fin (z := I1) (I2 := I2) (J2 := J2) hc1 mi1 (fun a k ha => rfl) hx2
  refine hnx S1 P1 _ _ n1 _ _ hs0 (g3.trans hxs) kf.1 kf.2 ?_ ?_
  · show cs + 0 + 0 ≤ cs + 3; omega
  · show sl + 0 + 0 ≤ sl + 76; omega

set_option maxRecDepth 100000 in
set_option maxHeartbeats 4000000 in
theorem lw_c_hole {K : x_K} {S : x_S} {P : x_P} {I : x_I} {J : x_J} {n cs sl N i : Nat} {xs : Nat → Int32} {fa : Nat → Nat} {bd : Nat} (hs0 : S 0 = .inr (9, N)) (hxs : I 0 = xs) (hi : i + 8 ≤ N) (hN : N ≤ 4096) (hR : c_R fa bd I S P I J n) (mi : m_I I) (hcs : cs + 3 ≤ 600000) (hsl : sl + 76 ≤ 7302250)
    (hnx : ∀ (S' : x_S) (P' : x_P) (I' : x_I) (J' : x_J) (n' cs' sl' : Nat), S' 0 = .inr (9, N) → I' 0 = xs → c_S I' S' P' I' J' n' → m_I I' → cs' ≤ cs + 3 → sl' ≤ sl + 76 → x_V f_L_law K 1520 [some (.ref 0), some (.ref 1), some (.ref 39), some (.int (nI i))] [] S' P' I' J' n' cs' sl') : x_V f_L_law K 1183 [some (.ref 0), some (.ref 1), some (.ref 39), some (.int (nI i))] [] S P I J n cs sl := by
  have hS := hR.hS
  have hP := hR.hP
  have kb := k_beg hR mi
  refine v_aload_n d_L_law_1183 rfl ?_
  refine v_aload_n d_L_law_1184 rfl ?_
  refine v_iload_n d_L_law_1185 rfl ?_
  refine v_iconst (v := nI 1) d_L_law_1186 x_ic_1 ?_
  first | refine v_iaddN d_L_law_1187 ?_ | refine v_iadd d_L_law_1187 ?_
  refine v_sx _ d_L_law_1188 (rfl) (hs0) (⟨by omega, by omega⟩) hxs ?_
  refine v_cv (as := [_]) (rest := []) d_L_law_1189 lv_L_114_11 (hS _ _ rfl) rfl ⟨by decide, by decide⟩ rfl (Nat.le_of_ble_eq_true rfl) (by show cs + 0 ≤ 600000; omega) (by show sl + 0 ≤ 7302250; omega) ?_
  refine x_Call.keep (t_X11_hole kb.1 kb.2 (fun S1 P1 I1 J1 n1 hc1 hx1 hn1 g0 g1 => ?_))
  have mi1 := k_mi1 hx1 mi
  have hs0 : S1 0 = .inr (9, N) := g0.trans hs0
  have hxs : I1 0 = xs := g1.trans hxs
  rw [← k_mid hx1] at hc1
  have hq : q_hole (m_pr I) (xs (i + 1)) = q_hole I1 (xs (i + 1)) := by rw [← k_mid hx1, q_hole_pr]
  rw [hq]
  obtain ⟨fa1, bd1, hR1⟩ := id hc1
  have hS := hR1.hS
  have hP := hR1.hP
  refine v_aload_n d_L_law_1192 rfl ?_
  refine v_aload_n d_L_law_1193 rfl ?_
  refine v_iload_n d_L_law_1194 rfl ?_
  refine v_iconst (v := nI 1) d_L_law_1195 x_ic_1 ?_
  first | refine v_iaddN d_L_law_1196 ?_ | refine v_iadd d_L_law_1196 ?_
  refine v_sx _ d_L_law_1197 (rfl) (hs0) (⟨by omega, by omega⟩) hxs ?_
  refine v_cv (as := [_]) (rest := [_]) d_L_law_1198 lv_L_117_12 (hS _ _ rfl) rfl ⟨by decide, by decide⟩ rfl (Nat.le_of_ble_eq_true rfl) (by show cs + 0 + 0 ≤ 600000; omega) (by show sl + 0 + 0 ≤ 7302250; omega) ?_
  refine x_Call.keep (t_X12_hole mi1 hS hP (fun I2 J2 hx2 g2 g3 => ?_))
  refine w_icmp_eq d_L_law_1201 (fun aeq => ?_) (fun aeq => False.elim (by exact aeq rfl))
  have kf := k_fin (z := I1) (I2 := I2) (J2 := J2) hc1 mi1 (fun a k ha => rfl) hx2
  refine hnx S1 P1 _ _ n1 _ _ hs0 (g3.trans hxs) kf.1 kf.2 ?_ ?_
  · show cs + 0 + 0 ≤ cs + 3; omega
  · show sl + 0 + 0 ≤ sl + 76; omega

set_option maxRecDepth 100000 in
set_option maxHeartbeats 4000000 in
theorem lw_c_few {K : x_K} {S : x_S} {P : x_P} {I : x_I} {J : x_J} {n cs sl N i : Nat} {xs : Nat → Int32} {fa : Nat → Nat} {bd : Nat} (hs0 : S 0 = .inr (9, N)) (hxs : I 0 = xs) (hi : i + 8 ≤ N) (hN : N ≤ 4096) (hR : c_R fa bd I S P I J n) (mi : m_I I) (hcs : cs + 3 ≤ 600000) (hsl : sl + 76 ≤ 7302250)
    (hnx : ∀ (S' : x_S) (P' : x_P) (I' : x_I) (J' : x_J) (n' cs' sl' : Nat), S' 0 = .inr (9, N) → I' 0 = xs → c_S I' S' P' I' J' n' → m_I I' → cs' ≤ cs + 3 → sl' ≤ sl + 76 → x_V f_L_law K 1520 [some (.ref 0), some (.ref 1), some (.ref 39), some (.int (nI i))] [] S' P' I' J' n' cs' sl') : x_V f_L_law K 1206 [some (.ref 0), some (.ref 1), some (.ref 39), some (.int (nI i))] [] S P I J n cs sl := by
  have hS := hR.hS
  have hP := hR.hP
  have kb := k_beg hR mi
  refine v_aload_n d_L_law_1206 rfl ?_
  refine v_aload_n d_L_law_1207 rfl ?_
  refine v_iload_n d_L_law_1208 rfl ?_
  refine v_iconst (v := nI 1) d_L_law_1209 x_ic_1 ?_
  first | refine v_iaddN d_L_law_1210 ?_ | refine v_iadd d_L_law_1210 ?_
  refine v_sx _ d_L_law_1211 (rfl) (hs0) (⟨by omega, by omega⟩) hxs ?_
  refine v_aload_n d_L_law_1212 rfl ?_
  refine v_iload_n d_L_law_1213 rfl ?_
  refine v_iconst (v := nI 2) d_L_law_1214 x_ic_2 ?_
  first | refine v_iaddN d_L_law_1215 ?_ | refine v_iadd d_L_law_1215 ?_
  refine v_sx _ d_L_law_1216 (rfl) (hs0) (⟨by omega, by omega⟩) hxs ?_
  refine v_cv (as := [_, _]) (rest := []) d_L_law_1217 lv_L_118_11 (hS _ _ rfl) rfl ⟨by decide, by decide⟩ rfl (Nat.le_of_ble_eq_true rfl) (by show cs + 0 ≤ 600000; omega) (by show sl + 0 ≤ 7302250; omega) ?_
  refine x_Call.keep (t_X11_few kb.1 kb.2 (fun S1 P1 I1 J1 n1 hc1 hx1 hn1 g0 g1 => ?_))
  have mi1 := k_mi1 hx1 mi
  have hs0 : S1 0 = .inr (9, N) := g0.trans hs0
  have hxs : I1 0 = xs := g1.trans hxs
  rw [← k_mid hx1] at hc1
  have hq : q_few (m_pr I) (xs (i + 1)) (xs (i + 2)) = q_few I1 (xs (i + 1)) (xs (i + 2)) := by rw [← k_mid hx1, q_few_pr]
  rw [hq]
  obtain ⟨fa1, bd1, hR1⟩ := id hc1
  have hS := hR1.hS
  have hP := hR1.hP
  refine v_aload_n d_L_law_1220 rfl ?_
  refine v_aload_n d_L_law_1221 rfl ?_
  refine v_iload_n d_L_law_1222 rfl ?_
  refine v_iconst (v := nI 1) d_L_law_1223 x_ic_1 ?_
  first | refine v_iaddN d_L_law_1224 ?_ | refine v_iadd d_L_law_1224 ?_
  refine v_sx _ d_L_law_1225 (rfl) (hs0) (⟨by omega, by omega⟩) hxs ?_
  refine v_aload_n d_L_law_1226 rfl ?_
  refine v_iload_n d_L_law_1227 rfl ?_
  refine v_iconst (v := nI 2) d_L_law_1228 x_ic_2 ?_
  first | refine v_iaddN d_L_law_1229 ?_ | refine v_iadd d_L_law_1229 ?_
  refine v_sx _ d_L_law_1230 (rfl) (hs0) (⟨by omega, by omega⟩) hxs ?_
  refine v_cv (as := [_, _]) (rest := [_]) d_L_law_1231 lv_L_121_12 (hS _ _ rfl) rfl ⟨by decide, by decide⟩ rfl (Nat.le_of_ble_eq_true rfl) (by show cs + 0 + 0 ≤ 600000; omega) (by show sl + 0 + 0 ≤ 7302250; omega) ?_
  refine x_Call.keep (t_X12_few mi1.pc hS hP (fun I2 J2 hx2 g2 g3 => ?_))
  refine w_icmp_eq d_L_law_1234 (fun aeq => ?_) (fun aeq => False.elim (by exact aeq rfl))
  have kf := k_fin (z := I1) (I2 := I2) (J2 := J2) hc1 mi1 (fun a k ha => rfl) hx2
  refine hnx S1 P1 _ _ n1 _ _ hs0 (g3.trans hxs) kf.1 kf.2 ?_ ?_
  · show cs + 0 + 0 ≤ cs + 3; omega
  · show sl + 0 + 0 ≤ sl + 76; omega

set_option maxRecDepth 100000 in
set_option maxHeartbeats 4000000 in
theorem lw_c_sheet {K : x_K} {S : x_S} {P : x_P} {I : x_I} {J : x_J} {n cs sl N i : Nat} {xs : Nat → Int32} {fa : Nat → Nat} {bd : Nat} (hs0 : S 0 = .inr (9, N)) (hxs : I 0 = xs) (hi : i + 8 ≤ N) (hN : N ≤ 4096) (hR : c_R fa bd I S P I J n) (mi : m_I I) (hcs : cs + 3 ≤ 600000) (hsl : sl + 76 ≤ 7302250)
    (hnx : ∀ (S' : x_S) (P' : x_P) (I' : x_I) (J' : x_J) (n' cs' sl' : Nat), S' 0 = .inr (9, N) → I' 0 = xs → c_S I' S' P' I' J' n' → m_I I' → cs' ≤ cs + 3 → sl' ≤ sl + 76 → x_V f_L_law K 1520 [some (.ref 0), some (.ref 1), some (.ref 39), some (.int (nI i))] [] S' P' I' J' n' cs' sl') : x_V f_L_law K 1239 [some (.ref 0), some (.ref 1), some (.ref 39), some (.int (nI i))] [] S P I J n cs sl := by
  have hS := hR.hS
  have hP := hR.hP
  have kb := k_beg hR mi
  refine v_aload_n d_L_law_1239 rfl ?_
  refine v_aload_n d_L_law_1240 rfl ?_
  refine v_iload_n d_L_law_1241 rfl ?_
  refine v_iconst (v := nI 1) d_L_law_1242 x_ic_1 ?_
  first | refine v_iaddN d_L_law_1243 ?_ | refine v_iadd d_L_law_1243 ?_
  refine v_sx _ d_L_law_1244 (rfl) (hs0) (⟨by omega, by omega⟩) hxs ?_
  refine v_aload_n d_L_law_1245 rfl ?_
  refine v_iload_n d_L_law_1246 rfl ?_
  refine v_iconst (v := nI 2) d_L_law_1247 x_ic_2 ?_
  first | refine v_iaddN d_L_law_1248 ?_ | refine v_iadd d_L_law_1248 ?_
  refine v_sx _ d_L_law_1249 (rfl) (hs0) (⟨by omega, by omega⟩) hxs ?_
  refine v_aload_n d_L_law_1250 rfl ?_
  refine v_iload_n d_L_law_1251 rfl ?_
  refine v_iconst (v := nI 3) d_L_law_1252 x_ic_3 ?_
  first | refine v_iaddN d_L_law_1253 ?_ | refine v_iadd d_L_law_1253 ?_
  refine v_sx _ d_L_law_1254 (rfl) (hs0) (⟨by omega, by omega⟩) hxs ?_
  refine v_cv (as := [_, _, _]) (rest := []) d_L_law_1255 lv_L_122_11 (hS _ _ rfl) rfl ⟨by decide, by decide⟩ rfl (Nat.le_of_ble_eq_true rfl) (by show cs + 0 ≤ 600000; omega) (by show sl + 0 ≤ 7302250; omega) ?_
  refine x_Call.keep (t_X11_sheet kb.1 kb.2 (fun S1 P1 I1 J1 n1 hc1 hx1 hn1 g0 g1 => ?_))
  have mi1 := k_mi1 hx1 mi
  have hs0 : S1 0 = .inr (9, N) := g0.trans hs0
  have hxs : I1 0 = xs := g1.trans hxs
  rw [← k_mid hx1, z_sheet_pr] at hc1
  obtain ⟨fa1, bd1, hR1⟩ := id hc1
  have hS := hR1.hS
  have hP := hR1.hP
  refine v_aload_n d_L_law_1258 rfl ?_
  refine v_aload_n d_L_law_1259 rfl ?_
  refine v_iload_n d_L_law_1260 rfl ?_
  refine v_iconst (v := nI 1) d_L_law_1261 x_ic_1 ?_
  first | refine v_iaddN d_L_law_1262 ?_ | refine v_iadd d_L_law_1262 ?_
  refine v_sx _ d_L_law_1263 (rfl) (hs0) (⟨by omega, by omega⟩) hxs ?_
  refine v_aload_n d_L_law_1264 rfl ?_
  refine v_iload_n d_L_law_1265 rfl ?_
  refine v_iconst (v := nI 2) d_L_law_1266 x_ic_2 ?_
  first | refine v_iaddN d_L_law_1267 ?_ | refine v_iadd d_L_law_1267 ?_
  refine v_sx _ d_L_law_1268 (rfl) (hs0) (⟨by omega, by omega⟩) hxs ?_
  refine v_aload_n d_L_law_1269 rfl ?_
  refine v_iload_n d_L_law_1270 rfl ?_
  refine v_iconst (v := nI 3) d_L_law_1271 x_ic_3 ?_
  first | refine v_iaddN d_L_law_1272 ?_ | refine v_iadd d_L_law_1272 ?_
  refine v_sx _ d_L_law_1273 (rfl) (hs0) (⟨by omega, by omega⟩) hxs ?_
  refine v_cv (as := [_, _, _]) (rest := [_]) d_L_law_1274 lv_L_125_12 (hS _ _ rfl) rfl ⟨by decide, by decide⟩ rfl (Nat.le_of_ble_eq_true rfl) (by show cs + 0 + 0 ≤ 600000; omega) (by show sl + 0 + 0 ≤ 7302250; omega) ?_
  refine x_Call.keep (t_X12_sheet hS hP (fun g2 g3 => ?_))
  refine w_icmp_eq d_L_law_1277 (fun aeq => ?_) (fun aeq => False.elim (by exact aeq rfl))
  have kf := k_fin (z := (z_sheet I1 (xs (i + 1)) (xs (i + 2)) (xs (i + 3)))) (I2 := (z_sheet I1 (xs (i + 1)) (xs (i + 2)) (xs (i + 3)))) (J2 := J1) hc1 (z_sheet_mi mi1) (fun a k ha => z_sheet_out I1 (xs (i + 1)) (xs (i + 2)) (xs (i + 3)) a k ha) x_ex.rf
  refine hnx S1 P1 _ _ n1 _ _ hs0 (g3.trans hxs) kf.1 kf.2 ?_ ?_
  · show cs + 0 + 0 ≤ cs + 3; omega
  · show sl + 0 + 0 ≤ sl + 76; omega

set_option maxRecDepth 100000 in
set_option maxHeartbeats 4000000 in
theorem lw_c_lose {K : x_K} {S : x_S} {P : x_P} {I : x_I} {J : x_J} {n cs sl N i : Nat} {xs : Nat → Int32} {fa : Nat → Nat} {bd : Nat} (hs0 : S 0 = .inr (9, N)) (hxs : I 0 = xs) (hi : i + 8 ≤ N) (hN : N ≤ 4096) (hR : c_R fa bd I S P I J n) (mi : m_I I) (hcs : cs + 3 ≤ 600000) (hsl : sl + 76 ≤ 7302250)
    (hnx : ∀ (S' : x_S) (P' : x_P) (I' : x_I) (J' : x_J) (n' cs' sl' : Nat), S' 0 = .inr (9, N) → I' 0 = xs → c_S I' S' P' I' J' n' → m_I I' → cs' ≤ cs + 3 → sl' ≤ sl + 76 → x_V f_L_law K 1520 [some (.ref 0), some (.ref 1), some (.ref 39), some (.int (nI i))] [] S' P' I' J' n' cs' sl') : x_V f_L_law K 1282 [some (.ref 0), some (.ref 1), some (.ref 39), some (.int (nI i))] [] S P I J n cs sl := by
  have hS := hR.hS
  have hP := hR.hP
  have kb := k_beg hR mi
  refine v_aload_n d_L_law_1282 rfl ?_
  refine v_aload_n d_L_law_1283 rfl ?_
  refine v_iload_n d_L_law_1284 rfl ?_
  refine v_iconst (v := nI 1) d_L_law_1285 x_ic_1 ?_
  first | refine v_iaddN d_L_law_1286 ?_ | refine v_iadd d_L_law_1286 ?_
  refine v_sx _ d_L_law_1287 (rfl) (hs0) (⟨by omega, by omega⟩) hxs ?_
  refine v_cv (as := [_]) (rest := []) d_L_law_1288 lv_L_126_11 (hS _ _ rfl) rfl ⟨by decide, by decide⟩ rfl (Nat.le_of_ble_eq_true rfl) (by show cs + 0 ≤ 600000; omega) (by show sl + 0 ≤ 7302250; omega) ?_
  refine x_Call.keep (t_X11_lose kb.1 kb.2 (fun S1 P1 I1 J1 n1 hc1 hx1 hn1 g0 g1 => ?_))
  have mi1 := k_mi1 hx1 mi
  have hs0 : S1 0 = .inr (9, N) := g0.trans hs0
  have hxs : I1 0 = xs := g1.trans hxs
  rw [← k_mid hx1, z_lose_pr] at hc1
  have hq : q_lose (m_pr I) (xs (i + 1)) = q_lose I1 (xs (i + 1)) := by rw [← k_mid hx1, q_lose_pr]
  rw [hq]
  obtain ⟨fa1, bd1, hR1⟩ := id hc1
  have hS := hR1.hS
  have hP := hR1.hP
  refine v_aload_n d_L_law_1291 rfl ?_
  refine v_aload_n d_L_law_1292 rfl ?_
  refine v_iload_n d_L_law_1293 rfl ?_
  refine v_iconst (v := nI 1) d_L_law_1294 x_ic_1 ?_
  first | refine v_iaddN d_L_law_1295 ?_ | refine v_iadd d_L_law_1295 ?_
  refine v_sx _ d_L_law_1296 (rfl) (hs0) (⟨by omega, by omega⟩) hxs ?_
  refine v_cv (as := [_]) (rest := [_]) d_L_law_1297 lv_L_129_12 (hS _ _ rfl) rfl ⟨by decide, by decide⟩ rfl (Nat.le_of_ble_eq_true rfl) (by show cs + 0 + 0 ≤ 600000; omega) (by show sl + 0 + 0 ≤ 7302250; omega) ?_
  refine x_Call.keep (t_X12_lose hS hP (fun g2 g3 => ?_))
  refine w_icmp_eq d_L_law_1300 (fun aeq => ?_) (fun aeq => False.elim (by exact aeq rfl))
  have kf := k_fin (z := (z_lose I1 (xs (i + 1)))) (I2 := (z_lose I1 (xs (i + 1)))) (J2 := J1) hc1 (z_lose_mi mi1) (fun a k ha => z_lose_out I1 (xs (i + 1)) a k ha) x_ex.rf
  refine hnx S1 P1 _ _ n1 _ _ hs0 (g3.trans hxs) kf.1 kf.2 ?_ ?_
  · show cs + 0 + 0 ≤ cs + 3; omega
  · show sl + 0 + 0 ≤ sl + 76; omega

set_option maxRecDepth 100000 in
set_option maxHeartbeats 4000000 in
theorem lw_c_put {K : x_K} {S : x_S} {P : x_P} {I : x_I} {J : x_J} {n cs sl N i : Nat} {xs : Nat → Int32} {fa : Nat → Nat} {bd : Nat} (hs0 : S 0 = .inr (9, N)) (hxs : I 0 = xs) (hi : i + 8 ≤ N) (hN : N ≤ 4096) (hR : c_R fa bd I S P I J n) (mi : m_I I) (hcs : cs + 3 ≤ 600000) (hsl : sl + 76 ≤ 7302250)
    (hnx : ∀ (S' : x_S) (P' : x_P) (I' : x_I) (J' : x_J) (n' cs' sl' : Nat), S' 0 = .inr (9, N) → I' 0 = xs → c_S I' S' P' I' J' n' → m_I I' → cs' ≤ cs + 3 → sl' ≤ sl + 76 → x_V f_L_law K 1520 [some (.ref 0), some (.ref 1), some (.ref 39), some (.int (nI i))] [] S' P' I' J' n' cs' sl') : x_V f_L_law K 1305 [some (.ref 0), some (.ref 1), some (.ref 39), some (.int (nI i))] [] S P I J n cs sl := by
  have hS := hR.hS
  have hP := hR.hP
  have kb := k_beg hR mi
  refine v_aload_n d_L_law_1305 rfl ?_
  refine v_aload_n d_L_law_1306 rfl ?_
  refine v_iload_n d_L_law_1307 rfl ?_
  refine v_iconst (v := nI 1) d_L_law_1308 x_ic_1 ?_
  first | refine v_iaddN d_L_law_1309 ?_ | refine v_iadd d_L_law_1309 ?_
  refine v_sx _ d_L_law_1310 (rfl) (hs0) (⟨by omega, by omega⟩) hxs ?_
  refine v_aload_n d_L_law_1311 rfl ?_
  refine v_iload_n d_L_law_1312 rfl ?_
  refine v_iconst (v := nI 2) d_L_law_1313 x_ic_2 ?_
  first | refine v_iaddN d_L_law_1314 ?_ | refine v_iadd d_L_law_1314 ?_
  refine v_sx _ d_L_law_1315 (rfl) (hs0) (⟨by omega, by omega⟩) hxs ?_
  refine v_aload_n d_L_law_1316 rfl ?_
  refine v_iload_n d_L_law_1317 rfl ?_
  refine v_iconst (v := nI 3) d_L_law_1318 x_ic_3 ?_
  first | refine v_iaddN d_L_law_1319 ?_ | refine v_iadd d_L_law_1319 ?_
  refine v_sx _ d_L_law_1320 (rfl) (hs0) (⟨by omega, by omega⟩) hxs ?_
  refine v_cv (as := [_, _, _]) (rest := []) d_L_law_1321 lv_L_130_11 (hS _ _ rfl) rfl ⟨by decide, by decide⟩ rfl (Nat.le_of_ble_eq_true rfl) (by show cs + 0 ≤ 600000; omega) (by show sl + 0 ≤ 7302250; omega) ?_
  refine x_Call.keep (t_X11_put kb.1 kb.2 (fun S1 P1 I1 J1 n1 hc1 hx1 hn1 g0 g1 => ?_))
  have mi1 := k_mi1 hx1 mi
  have hs0 : S1 0 = .inr (9, N) := g0.trans hs0
  have hxs : I1 0 = xs := g1.trans hxs
  rw [← k_mid hx1, z_put_pr] at hc1
  have hq : q_put (m_pr I) (xs (i + 1)) (xs (i + 2)) (xs (i + 3)) = q_put I1 (xs (i + 1)) (xs (i + 2)) (xs (i + 3)) := by rw [← k_mid hx1, q_put_pr]
  rw [hq]
  obtain ⟨fa1, bd1, hR1⟩ := id hc1
  have hS := hR1.hS
  have hP := hR1.hP
  refine v_aload_n d_L_law_1324 rfl ?_
  refine v_aload_n d_L_law_1325 rfl ?_
  refine v_iload_n d_L_law_1326 rfl ?_
  refine v_iconst (v := nI 1) d_L_law_1327 x_ic_1 ?_
  first | refine v_iaddN d_L_law_1328 ?_ | refine v_iadd d_L_law_1328 ?_
  refine v_sx _ d_L_law_1329 (rfl) (hs0) (⟨by omega, by omega⟩) hxs ?_
  refine v_aload_n d_L_law_1330 rfl ?_
  refine v_iload_n d_L_law_1331 rfl ?_
  refine v_iconst (v := nI 2) d_L_law_1332 x_ic_2 ?_
  first | refine v_iaddN d_L_law_1333 ?_ | refine v_iadd d_L_law_1333 ?_
  refine v_sx _ d_L_law_1334 (rfl) (hs0) (⟨by omega, by omega⟩) hxs ?_
  refine v_aload_n d_L_law_1335 rfl ?_
  refine v_iload_n d_L_law_1336 rfl ?_
  refine v_iconst (v := nI 3) d_L_law_1337 x_ic_3 ?_
  first | refine v_iaddN d_L_law_1338 ?_ | refine v_iadd d_L_law_1338 ?_
  refine v_sx _ d_L_law_1339 (rfl) (hs0) (⟨by omega, by omega⟩) hxs ?_
  refine v_cv (as := [_, _, _]) (rest := [_]) d_L_law_1340 lv_L_133_12 (hS _ _ rfl) rfl ⟨by decide, by decide⟩ rfl (Nat.le_of_ble_eq_true rfl) (by show cs + 0 + 0 ≤ 600000; omega) (by show sl + 0 + 0 ≤ 7302250; omega) ?_
  refine x_Call.keep (t_X12_put (fun k hk => (mi1.la k hk).2) hS hP (fun g2 g3 => ?_))
  refine w_icmp_eq d_L_law_1343 (fun aeq => ?_) (fun aeq => False.elim (by exact aeq rfl))
  have kf := k_fin (z := (z_put I1 (xs (i + 1)) (xs (i + 2)) (xs (i + 3)))) (I2 := (z_put I1 (xs (i + 1)) (xs (i + 2)) (xs (i + 3)))) (J2 := J1) hc1 (z_put_mi mi1) (fun a k ha => z_put_out I1 (xs (i + 1)) (xs (i + 2)) (xs (i + 3)) a k ha) x_ex.rf
  refine hnx S1 P1 _ _ n1 _ _ hs0 (g3.trans hxs) kf.1 kf.2 ?_ ?_
  · show cs + 0 + 0 ≤ cs + 3; omega
  · show sl + 0 + 0 ≤ sl + 76; omega

set_option maxRecDepth 100000 in
set_option maxHeartbeats 4000000 in
theorem lw_c_at {K : x_K} {S : x_S} {P : x_P} {I : x_I} {J : x_J} {n cs sl N i : Nat} {xs : Nat → Int32} {fa : Nat → Nat} {bd : Nat} (hs0 : S 0 = .inr (9, N)) (hxs : I 0 = xs) (hi : i + 8 ≤ N) (hN : N ≤ 4096) (hR : c_R fa bd I S P I J n) (mi : m_I I) (hcs : cs + 3 ≤ 600000) (hsl : sl + 76 ≤ 7302250)
    (hnx : ∀ (S' : x_S) (P' : x_P) (I' : x_I) (J' : x_J) (n' cs' sl' : Nat), S' 0 = .inr (9, N) → I' 0 = xs → c_S I' S' P' I' J' n' → m_I I' → cs' ≤ cs + 3 → sl' ≤ sl + 76 → x_V f_L_law K 1520 [some (.ref 0), some (.ref 1), some (.ref 39), some (.int (nI i))] [] S' P' I' J' n' cs' sl') : x_V f_L_law K 1348 [some (.ref 0), some (.ref 1), some (.ref 39), some (.int (nI i))] [] S P I J n cs sl := by
  have hS := hR.hS
  have hP := hR.hP
  have kb := k_beg hR mi
  refine v_aload_n d_L_law_1348 rfl ?_
  refine v_aload_n d_L_law_1349 rfl ?_
  refine v_iload_n d_L_law_1350 rfl ?_
  refine v_iconst (v := nI 1) d_L_law_1351 x_ic_1 ?_
  first | refine v_iaddN d_L_law_1352 ?_ | refine v_iadd d_L_law_1352 ?_
  refine v_sx _ d_L_law_1353 (rfl) (hs0) (⟨by omega, by omega⟩) hxs ?_
  refine v_aload_n d_L_law_1354 rfl ?_
  refine v_iload_n d_L_law_1355 rfl ?_
  refine v_iconst (v := nI 2) d_L_law_1356 x_ic_2 ?_
  first | refine v_iaddN d_L_law_1357 ?_ | refine v_iadd d_L_law_1357 ?_
  refine v_sx _ d_L_law_1358 (rfl) (hs0) (⟨by omega, by omega⟩) hxs ?_
  refine v_aload_n d_L_law_1359 rfl ?_
  refine v_iload_n d_L_law_1360 rfl ?_
  refine v_iconst (v := nI 3) d_L_law_1361 x_ic_3 ?_
  first | refine v_iaddN d_L_law_1362 ?_ | refine v_iadd d_L_law_1362 ?_
  refine v_sx _ d_L_law_1363 (rfl) (hs0) (⟨by omega, by omega⟩) hxs ?_
  refine v_cv (as := [_, _, _]) (rest := []) d_L_law_1364 lv_L_134_11 (hS _ _ rfl) rfl ⟨by decide, by decide⟩ rfl (Nat.le_of_ble_eq_true rfl) (by show cs + 0 ≤ 600000; omega) (by show sl + 0 ≤ 7302250; omega) ?_
  refine x_Call.keep (t_X11_at kb.1 kb.2 (fun S1 P1 I1 J1 n1 hc1 hx1 hn1 g0 g1 => ?_))
  have mi1 := k_mi1 hx1 mi
  have hs0 : S1 0 = .inr (9, N) := g0.trans hs0
  have hxs : I1 0 = xs := g1.trans hxs
  rw [← k_mid hx1, z_at_pr] at hc1
  have hq : q_at (m_pr I) (xs (i + 1)) (xs (i + 2)) (xs (i + 3)) = q_at I1 (xs (i + 1)) (xs (i + 2)) (xs (i + 3)) := by rw [← k_mid hx1, q_at_pr]
  rw [hq]
  obtain ⟨fa1, bd1, hR1⟩ := id hc1
  have hS := hR1.hS
  have hP := hR1.hP
  refine v_aload_n d_L_law_1367 rfl ?_
  refine v_aload_n d_L_law_1368 rfl ?_
  refine v_iload_n d_L_law_1369 rfl ?_
  refine v_iconst (v := nI 1) d_L_law_1370 x_ic_1 ?_
  first | refine v_iaddN d_L_law_1371 ?_ | refine v_iadd d_L_law_1371 ?_
  refine v_sx _ d_L_law_1372 (rfl) (hs0) (⟨by omega, by omega⟩) hxs ?_
  refine v_aload_n d_L_law_1373 rfl ?_
  refine v_iload_n d_L_law_1374 rfl ?_
  refine v_iconst (v := nI 2) d_L_law_1375 x_ic_2 ?_
  first | refine v_iaddN d_L_law_1376 ?_ | refine v_iadd d_L_law_1376 ?_
  refine v_sx _ d_L_law_1377 (rfl) (hs0) (⟨by omega, by omega⟩) hxs ?_
  refine v_aload_n d_L_law_1378 rfl ?_
  refine v_iload_n d_L_law_1379 rfl ?_
  refine v_iconst (v := nI 3) d_L_law_1380 x_ic_3 ?_
  first | refine v_iaddN d_L_law_1381 ?_ | refine v_iadd d_L_law_1381 ?_
  refine v_sx _ d_L_law_1382 (rfl) (hs0) (⟨by omega, by omega⟩) hxs ?_
  refine v_cv (as := [_, _, _]) (rest := [_]) d_L_law_1383 lv_L_138_12 (hS _ _ rfl) rfl ⟨by decide, by decide⟩ rfl (Nat.le_of_ble_eq_true rfl) (by show cs + 0 + 0 ≤ 600000; omega) (by show sl + 0 + 0 ≤ 7302250; omega) ?_
  refine x_Call.keep (t_X12_at (fun k hk => (mi1.la k hk).2) hS hP (fun g2 g3 => ?_))
  refine w_lc_eq d_L_law_1386 d_L_law_1387 (fun aeq => ?_) (fun aeq => False.elim (by exact aeq rfl))
  have kf := k_fin (z := (z_at I1 (xs (i + 1)) (xs (i + 2)) (xs (i + 3)))) (I2 := (z_at I1 (xs (i + 1)) (xs (i + 2)) (xs (i + 3)))) (J2 := J1) hc1 (z_at_mi mi1) (fun a k ha => z_at_out I1 (xs (i + 1)) (xs (i + 2)) (xs (i + 3)) a k ha) x_ex.rf
  refine hnx S1 P1 _ _ n1 _ _ hs0 (g3.trans hxs) kf.1 kf.2 ?_ ?_
  · show cs + 0 + 0 ≤ cs + 3; omega
  · show sl + 0 + 0 ≤ sl + 76; omega

set_option maxRecDepth 100000 in
set_option maxHeartbeats 4000000 in
theorem lw_c_tell {K : x_K} {S : x_S} {P : x_P} {I : x_I} {J : x_J} {n cs sl N i : Nat} {xs : Nat → Int32} {fa : Nat → Nat} {bd : Nat} (hs0 : S 0 = .inr (9, N)) (hxs : I 0 = xs) (hi : i + 8 ≤ N) (hN : N ≤ 4096) (hR : c_R fa bd I S P I J n) (mi : m_I I) (hcs : cs + 3 ≤ 600000) (hsl : sl + 76 ≤ 7302250)
    (hnx : ∀ (S' : x_S) (P' : x_P) (I' : x_I) (J' : x_J) (n' cs' sl' : Nat), S' 0 = .inr (9, N) → I' 0 = xs → c_S I' S' P' I' J' n' → m_I I' → cs' ≤ cs + 3 → sl' ≤ sl + 76 → x_V f_L_law K 1520 [some (.ref 0), some (.ref 1), some (.ref 39), some (.int (nI i))] [] S' P' I' J' n' cs' sl') : x_V f_L_law K 1392 [some (.ref 0), some (.ref 1), some (.ref 39), some (.int (nI i))] [] S P I J n cs sl := by
  have hS := hR.hS
  have hP := hR.hP
  have kb := k_beg hR mi
  refine v_aload_n d_L_law_1392 rfl ?_
  refine v_aload_n d_L_law_1393 rfl ?_
  refine v_iload_n d_L_law_1394 rfl ?_
  refine v_iconst (v := nI 1) d_L_law_1395 x_ic_1 ?_
  first | refine v_iaddN d_L_law_1396 ?_ | refine v_iadd d_L_law_1396 ?_
  refine v_sx _ d_L_law_1397 (rfl) (hs0) (⟨by omega, by omega⟩) hxs ?_
  refine v_cv (as := [_]) (rest := []) d_L_law_1398 lv_L_139_11 (hS _ _ rfl) rfl ⟨by decide, by decide⟩ rfl (Nat.le_of_ble_eq_true rfl) (by show cs + 0 ≤ 600000; omega) (by show sl + 0 ≤ 7302250; omega) ?_
  refine x_Call.keep (t_X11_tell kb.1 kb.2 (fun S1 P1 I1 J1 n1 hc1 hx1 hn1 g0 g1 => ?_))
  have mi1 := k_mi1 hx1 mi
  have hs0 : S1 0 = .inr (9, N) := g0.trans hs0
  have hxs : I1 0 = xs := g1.trans hxs
  rw [← k_mid hx1, q_tlt_pr, u2_pr39] at hc1
  have hq : q_tell (m_pr I) (xs (i + 1)) = q_tell I1 (xs (i + 1)) := by rw [← k_mid hx1, q_tell_pr]
  rw [hq]
  obtain ⟨fa1, bd1, hR1⟩ := id hc1
  have hS := hR1.hS
  have hP := hR1.hP
  refine v_aload_n d_L_law_1401 rfl ?_
  refine v_aload_n d_L_law_1402 rfl ?_
  refine v_iload_n d_L_law_1403 rfl ?_
  refine v_iconst (v := nI 1) d_L_law_1404 x_ic_1 ?_
  first | refine v_iaddN d_L_law_1405 ?_ | refine v_iadd d_L_law_1405 ?_
  refine v_sx _ d_L_law_1406 (rfl) (hs0) (⟨by omega, by omega⟩) hxs ?_
  refine v_cv (as := [_]) (rest := [_]) d_L_law_1407 lv_L_142_12 (hS _ _ rfl) rfl ⟨by decide, by decide⟩ rfl (Nat.le_of_ble_eq_true rfl) (by show cs + 0 + 0 ≤ 600000; omega) (by show sl + 0 + 0 ≤ 7302250; omega) ?_
  refine x_Call.keep (t_X12_tell mi1.kd mi1.hn mi1.fo hS hP (fun g2 g3 => ?_) (u2_same _))
  refine w_icmp_eq d_L_law_1410 (fun aeq => ?_) (fun aeq => False.elim (by exact aeq rfl))
  have kf := k_fin (z := (x_u2 I1 39 1 (q_tlt I1 (xs (i + 1))))) (I2 := (x_u2 I1 39 1 (q_tlt I1 (xs (i + 1))))) (J2 := J1) hc1 mi1.t1 (fun a k ha => u2_out (by have := pr_rg ha; omega) rfl) x_ex.rf
  refine hnx S1 P1 _ _ n1 _ _ hs0 (g3.trans hxs) kf.1 kf.2 ?_ ?_
  · show cs + 0 + 0 ≤ cs + 3; omega
  · show sl + 0 + 0 ≤ sl + 76; omega

set_option maxRecDepth 100000 in
set_option maxHeartbeats 4000000 in
theorem lw_c_name {K : x_K} {S : x_S} {P : x_P} {I : x_I} {J : x_J} {n cs sl N i : Nat} {xs : Nat → Int32} {fa : Nat → Nat} {bd : Nat} (hs0 : S 0 = .inr (9, N)) (hxs : I 0 = xs) (hi : i + 8 ≤ N) (hN : N ≤ 4096) (hR : c_R fa bd I S P I J n) (mi : m_I I) (hcs : cs + 3 ≤ 600000) (hsl : sl + 76 ≤ 7302250)
    (hnx : ∀ (S' : x_S) (P' : x_P) (I' : x_I) (J' : x_J) (n' cs' sl' : Nat), S' 0 = .inr (9, N) → I' 0 = xs → c_S I' S' P' I' J' n' → m_I I' → cs' ≤ cs + 3 → sl' ≤ sl + 76 → x_V f_L_law K 1520 [some (.ref 0), some (.ref 1), some (.ref 39), some (.int (nI i))] [] S' P' I' J' n' cs' sl') : x_V f_L_law K 1415 [some (.ref 0), some (.ref 1), some (.ref 39), some (.int (nI i))] [] S P I J n cs sl := by
  have hS := hR.hS
  have hP := hR.hP
  have kb := k_beg hR mi
  refine v_aload_n d_L_law_1415 rfl ?_
  refine v_aload_n d_L_law_1416 rfl ?_
  refine v_iload_n d_L_law_1417 rfl ?_
  refine v_iconst (v := nI 1) d_L_law_1418 x_ic_1 ?_
  first | refine v_iaddN d_L_law_1419 ?_ | refine v_iadd d_L_law_1419 ?_
  refine v_sx _ d_L_law_1420 (rfl) (hs0) (⟨by omega, by omega⟩) hxs ?_
  refine v_cv (as := [_]) (rest := []) d_L_law_1421 lv_L_143_11 (hS _ _ rfl) rfl ⟨by decide, by decide⟩ rfl (Nat.le_of_ble_eq_true rfl) (by show cs + 0 ≤ 600000; omega) (by show sl + 0 ≤ 7302250; omega) ?_
  refine x_Call.keep (t_X11_name kb.1 kb.2 (fun S1 P1 I1 J1 n1 hc1 hx1 hn1 g0 g1 => ?_))
  have mi1 := k_mi1 hx1 mi
  have hs0 : S1 0 = .inr (9, N) := g0.trans hs0
  have hxs : I1 0 = xs := g1.trans hxs
  rw [← k_mid hx1, q_nmt_pr, u2_pr39] at hc1
  have hq : q_name (m_pr I) (xs (i + 1)) = q_name I1 (xs (i + 1)) := by rw [← k_mid hx1, q_name_pr]
  rw [hq]
  obtain ⟨fa1, bd1, hR1⟩ := id hc1
  have hS := hR1.hS
  have hP := hR1.hP
  refine v_aload_n d_L_law_1424 rfl ?_
  refine v_aload_n d_L_law_1425 rfl ?_
  refine v_iload_n d_L_law_1426 rfl ?_
  refine v_iconst (v := nI 1) d_L_law_1427 x_ic_1 ?_
  first | refine v_iaddN d_L_law_1428 ?_ | refine v_iadd d_L_law_1428 ?_
  refine v_sx _ d_L_law_1429 (rfl) (hs0) (⟨by omega, by omega⟩) hxs ?_
  refine v_cv (as := [_]) (rest := [_]) d_L_law_1430 lv_L_146_12 (hS _ _ rfl) rfl ⟨by decide, by decide⟩ rfl (Nat.le_of_ble_eq_true rfl) (by show cs + 0 + 0 ≤ 600000; omega) (by show sl + 0 + 0 ≤ 7302250; omega) ?_
  refine x_Call.keep (t_X12_name mi1.hn mi1.fo hS hP (fun g2 g3 => ?_) (u2_same _))
  refine w_icmp_eq d_L_law_1433 (fun aeq => ?_) (fun aeq => False.elim (by exact aeq rfl))
  have kf := k_fin (z := (x_u2 I1 39 1 (q_nmt I1 (xs (i + 1))))) (I2 := (x_u2 I1 39 1 (q_nmt I1 (xs (i + 1))))) (J2 := J1) hc1 mi1.t1 (fun a k ha => u2_out (by have := pr_rg ha; omega) rfl) x_ex.rf
  refine hnx S1 P1 _ _ n1 _ _ hs0 (g3.trans hxs) kf.1 kf.2 ?_ ?_
  · show cs + 0 + 0 ≤ cs + 3; omega
  · show sl + 0 + 0 ≤ sl + 76; omega

set_option maxRecDepth 100000 in
set_option maxHeartbeats 4000000 in
theorem lw_c_as {K : x_K} {S : x_S} {P : x_P} {I : x_I} {J : x_J} {n cs sl N i : Nat} {xs : Nat → Int32} {fa : Nat → Nat} {bd : Nat} (hs0 : S 0 = .inr (9, N)) (hxs : I 0 = xs) (hi : i + 8 ≤ N) (hN : N ≤ 4096) (hR : c_R fa bd I S P I J n) (mi : m_I I) (hcs : cs + 3 ≤ 600000) (hsl : sl + 76 ≤ 7302250)
    (hnx : ∀ (S' : x_S) (P' : x_P) (I' : x_I) (J' : x_J) (n' cs' sl' : Nat), S' 0 = .inr (9, N) → I' 0 = xs → c_S I' S' P' I' J' n' → m_I I' → cs' ≤ cs + 3 → sl' ≤ sl + 76 → x_V f_L_law K 1520 [some (.ref 0), some (.ref 1), some (.ref 39), some (.int (nI i))] [] S' P' I' J' n' cs' sl') : x_V f_L_law K 1438 [some (.ref 0), some (.ref 1), some (.ref 39), some (.int (nI i))] [] S P I J n cs sl := by
  have hS := hR.hS
  have hP := hR.hP
  have kb := k_beg hR mi
  refine v_aload_n d_L_law_1438 rfl ?_
  refine v_aload_n d_L_law_1439 rfl ?_
  refine v_iload_n d_L_law_1440 rfl ?_
  refine v_iconst (v := nI 1) d_L_law_1441 x_ic_1 ?_
  first | refine v_iaddN d_L_law_1442 ?_ | refine v_iadd d_L_law_1442 ?_
  refine v_sx _ d_L_law_1443 (rfl) (hs0) (⟨by omega, by omega⟩) hxs ?_
  refine v_aload_n d_L_law_1444 rfl ?_
  refine v_iload_n d_L_law_1445 rfl ?_
  refine v_iconst (v := nI 2) d_L_law_1446 x_ic_2 ?_
  first | refine v_iaddN d_L_law_1447 ?_ | refine v_iadd d_L_law_1447 ?_
  refine v_sx _ d_L_law_1448 (rfl) (hs0) (⟨by omega, by omega⟩) hxs ?_
  refine v_cv (as := [_, _]) (rest := []) d_L_law_1449 lv_L_147_11 (hS _ _ rfl) rfl ⟨by decide, by decide⟩ rfl (Nat.le_of_ble_eq_true rfl) (by show cs + 0 ≤ 600000; omega) (by show sl + 0 ≤ 7302250; omega) ?_
  refine x_Call.keep (t_X11_as kb.1 kb.2 (fun S1 P1 I1 J1 n1 hc1 hx1 hn1 g0 g1 => ?_))
  have mi1 := k_mi1 hx1 mi
  have hs0 : S1 0 = .inr (9, N) := g0.trans hs0
  have hxs : I1 0 = xs := g1.trans hxs
  rw [← k_mid hx1, z_as_pr] at hc1
  have hq : q_as (m_pr I) (xs (i + 1)) (xs (i + 2)) = q_as I1 (xs (i + 1)) (xs (i + 2)) := by rw [← k_mid hx1, q_as_pr]
  rw [hq]
  obtain ⟨fa1, bd1, hR1⟩ := id hc1
  have hS := hR1.hS
  have hP := hR1.hP
  refine v_aload_n d_L_law_1452 rfl ?_
  refine v_aload_n d_L_law_1453 rfl ?_
  refine v_iload_n d_L_law_1454 rfl ?_
  refine v_iconst (v := nI 1) d_L_law_1455 x_ic_1 ?_
  first | refine v_iaddN d_L_law_1456 ?_ | refine v_iadd d_L_law_1456 ?_
  refine v_sx _ d_L_law_1457 (rfl) (hs0) (⟨by omega, by omega⟩) hxs ?_
  refine v_aload_n d_L_law_1458 rfl ?_
  refine v_iload_n d_L_law_1459 rfl ?_
  refine v_iconst (v := nI 2) d_L_law_1460 x_ic_2 ?_
  first | refine v_iaddN d_L_law_1461 ?_ | refine v_iadd d_L_law_1461 ?_
  refine v_sx _ d_L_law_1462 (rfl) (hs0) (⟨by omega, by omega⟩) hxs ?_
  refine v_cv (as := [_, _]) (rest := [_]) d_L_law_1463 lv_L_150_12 (hS _ _ rfl) rfl ⟨by decide, by decide⟩ rfl (Nat.le_of_ble_eq_true rfl) (by show cs + 0 + 0 ≤ 600000; omega) (by show sl + 0 + 0 ≤ 7302250; omega) ?_
  refine x_Call.keep (t_X12_as mi1.hn mi1.fo hS hP (fun g2 g3 => ?_))
  refine w_icmp_eq d_L_law_1466 (fun aeq => ?_) (fun aeq => False.elim (by exact aeq rfl))
  have kf := k_fin (z := (z_as I1 (xs (i + 1)) (xs (i + 2)))) (I2 := (z_as I1 (xs (i + 1)) (xs (i + 2)))) (J2 := J1) hc1 (z_as_mi mi1) (fun a k ha => z_as_out I1 (xs (i + 1)) (xs (i + 2)) a k ha) x_ex.rf
  refine hnx S1 P1 _ _ n1 _ _ hs0 (g3.trans hxs) kf.1 kf.2 ?_ ?_
  · show cs + 0 + 0 ≤ cs + 3; omega
  · show sl + 0 + 0 ≤ sl + 76; omega

set_option maxRecDepth 100000 in
set_option maxHeartbeats 4000000 in
theorem lw_c_trace {K : x_K} {S : x_S} {P : x_P} {I : x_I} {J : x_J} {n cs sl N i : Nat} {xs : Nat → Int32} {fa : Nat → Nat} {bd : Nat} (hs0 : S 0 = .inr (9, N)) (hxs : I 0 = xs) (hi : i + 8 ≤ N) (hN : N ≤ 4096) (hR : c_R fa bd I S P I J n) (mi : m_I I) (hcs : cs + 3 ≤ 600000) (hsl : sl + 76 ≤ 7302250)
    (hnx : ∀ (S' : x_S) (P' : x_P) (I' : x_I) (J' : x_J) (n' cs' sl' : Nat), S' 0 = .inr (9, N) → I' 0 = xs → c_S I' S' P' I' J' n' → m_I I' → cs' ≤ cs + 3 → sl' ≤ sl + 76 → x_V f_L_law K 1520 [some (.ref 0), some (.ref 1), some (.ref 39), some (.int (nI i))] [] S' P' I' J' n' cs' sl') : x_V f_L_law K 1471 [some (.ref 0), some (.ref 1), some (.ref 39), some (.int (nI i))] [] S P I J n cs sl := by
  have hS := hR.hS
  have hP := hR.hP
  have kb := k_beg hR mi
  refine v_aload_n d_L_law_1471 rfl ?_
  refine v_cv (as := []) (rest := []) d_L_law_1472 lv_L_151_11 (hS _ _ rfl) rfl ⟨by decide, by decide⟩ rfl (Nat.le_of_ble_eq_true rfl) (by show cs + 0 ≤ 600000; omega) (by show sl + 0 ≤ 7302250; omega) ?_
  refine x_Call.keep (t_X11_trace kb.1 kb.2 (fun S1 P1 I1 J1 n1 hc1 hx1 hn1 g0 g1 => ?_))
  have mi1 := k_mi1 hx1 mi
  have hs0 : S1 0 = .inr (9, N) := g0.trans hs0
  have hxs : I1 0 = xs := g1.trans hxs
  rw [← k_mid hx1] at hc1
  have hq : m_pr I 39 1 = I1 39 1 := by rw [← k_mid hx1]; rfl
  rw [hq]
  obtain ⟨fa1, bd1, hR1⟩ := id hc1
  have hS := hR1.hS
  have hP := hR1.hP
  refine v_aload_n d_L_law_1475 rfl ?_
  refine v_cv (as := []) (rest := [_]) d_L_law_1476 lv_L_154_12 (hS _ _ rfl) rfl ⟨by decide, by decide⟩ rfl (Nat.le_of_ble_eq_true rfl) (by show cs + 0 + 0 ≤ 600000; omega) (by show sl + 0 + 0 ≤ 7302250; omega) ?_
  refine x_Call.keep (t_X12_trace hS hP (fun g2 g3 => ?_))
  refine w_icmp_eq d_L_law_1479 (fun aeq => ?_) (fun aeq => False.elim (by exact aeq rfl))
  have kf := k_fin (z := I1) (I2 := I1) (J2 := J1) hc1 mi1 (fun a k ha => rfl) x_ex.rf
  refine hnx S1 P1 _ _ n1 _ _ hs0 (g3.trans hxs) kf.1 kf.2 ?_ ?_
  · show cs + 0 + 0 ≤ cs + 3; omega
  · show sl + 0 + 0 ≤ sl + 76; omega

set_option maxRecDepth 100000 in
set_option maxHeartbeats 4000000 in
theorem lw_c_fault {K : x_K} {S : x_S} {P : x_P} {I : x_I} {J : x_J} {n cs sl N i : Nat} {xs : Nat → Int32} {fa : Nat → Nat} {bd : Nat} (hs0 : S 0 = .inr (9, N)) (hxs : I 0 = xs) (hi : i + 8 ≤ N) (hN : N ≤ 4096) (hR : c_R fa bd I S P I J n) (mi : m_I I) (hcs : cs + 3 ≤ 600000) (hsl : sl + 76 ≤ 7302250)
    (hnx : ∀ (S' : x_S) (P' : x_P) (I' : x_I) (J' : x_J) (n' cs' sl' : Nat), S' 0 = .inr (9, N) → I' 0 = xs → c_S I' S' P' I' J' n' → m_I I' → cs' ≤ cs + 3 → sl' ≤ sl + 76 → x_V f_L_law K 1520 [some (.ref 0), some (.ref 1), some (.ref 39), some (.int (nI i))] [] S' P' I' J' n' cs' sl') : x_V f_L_law K 1484 [some (.ref 0), some (.ref 1), some (.ref 39), some (.int (nI i))] [] S P I J n cs sl := by
  have hS := hR.hS
  have hP := hR.hP
  have kb := k_beg hR mi
  refine v_aload_n d_L_law_1484 rfl ?_
  refine v_cv (as := []) (rest := []) d_L_law_1485 lv_L_155_11 (hS _ _ rfl) rfl ⟨by decide, by decide⟩ rfl (Nat.le_of_ble_eq_true rfl) (by show cs + 0 ≤ 600000; omega) (by show sl + 0 ≤ 7302250; omega) ?_
  refine x_Call.keep (t_X11_fault kb.1 kb.2 (fun S1 P1 I1 J1 n1 hc1 hx1 hn1 g0 g1 => ?_))
  have mi1 := k_mi1 hx1 mi
  have hs0 : S1 0 = .inr (9, N) := g0.trans hs0
  have hxs : I1 0 = xs := g1.trans hxs
  rw [← k_mid hx1] at hc1
  have hq : m_pr I 39 0 = I1 39 0 := by rw [← k_mid hx1]; rfl
  rw [hq]
  obtain ⟨fa1, bd1, hR1⟩ := id hc1
  have hS := hR1.hS
  have hP := hR1.hP
  refine v_aload_n d_L_law_1488 rfl ?_
  refine v_cv (as := []) (rest := [_]) d_L_law_1489 lv_L_158_12 (hS _ _ rfl) rfl ⟨by decide, by decide⟩ rfl (Nat.le_of_ble_eq_true rfl) (by show cs + 0 + 0 ≤ 600000; omega) (by show sl + 0 + 0 ≤ 7302250; omega) ?_
  refine x_Call.keep (t_X12_fault hS hP (fun g2 g3 => ?_))
  refine w_icmp_eq d_L_law_1492 (fun aeq => ?_) (fun aeq => False.elim (by exact aeq rfl))
  have kf := k_fin (z := I1) (I2 := I1) (J2 := J1) hc1 mi1 (fun a k ha => rfl) x_ex.rf
  refine hnx S1 P1 _ _ n1 _ _ hs0 (g3.trans hxs) kf.1 kf.2 ?_ ?_
  · show cs + 0 + 0 ≤ cs + 3; omega
  · show sl + 0 + 0 ≤ sl + 76; omega

set_option maxRecDepth 100000 in
set_option maxHeartbeats 4000000 in
theorem lw_c_many {K : x_K} {S : x_S} {P : x_P} {I : x_I} {J : x_J} {n cs sl N i : Nat} {xs : Nat → Int32} {fa : Nat → Nat} {bd : Nat} (hs0 : S 0 = .inr (9, N)) (hxs : I 0 = xs) (hi : i + 8 ≤ N) (hN : N ≤ 4096) (hR : c_R fa bd I S P I J n) (mi : m_I I) (hcs : cs + 3 ≤ 600000) (hsl : sl + 76 ≤ 7302250)
    (hnx : ∀ (S' : x_S) (P' : x_P) (I' : x_I) (J' : x_J) (n' cs' sl' : Nat), S' 0 = .inr (9, N) → I' 0 = xs → c_S I' S' P' I' J' n' → m_I I' → cs' ≤ cs + 3 → sl' ≤ sl + 76 → x_V f_L_law K 1520 [some (.ref 0), some (.ref 1), some (.ref 39), some (.int (nI i))] [] S' P' I' J' n' cs' sl') : x_V f_L_law K 1497 [some (.ref 0), some (.ref 1), some (.ref 39), some (.int (nI i))] [] S P I J n cs sl := by
  have hS := hR.hS
  have hP := hR.hP
  have kb := k_beg hR mi
  refine v_aload_n d_L_law_1497 rfl ?_
  refine v_aload_n d_L_law_1498 rfl ?_
  refine v_iload_n d_L_law_1499 rfl ?_
  refine v_iconst (v := nI 1) d_L_law_1500 x_ic_1 ?_
  first | refine v_iaddN d_L_law_1501 ?_ | refine v_iadd d_L_law_1501 ?_
  refine v_sx _ d_L_law_1502 (rfl) (hs0) (⟨by omega, by omega⟩) hxs ?_
  refine v_cv (as := [_]) (rest := []) d_L_law_1503 lv_L_159_11 (hS _ _ rfl) rfl ⟨by decide, by decide⟩ rfl (Nat.le_of_ble_eq_true rfl) (by show cs + 0 ≤ 600000; omega) (by show sl + 0 ≤ 7302250; omega) ?_
  refine x_Call.keep (t_X11_many kb.1 kb.2 (fun S1 P1 I1 J1 n1 hc1 hx1 hn1 g0 g1 => ?_))
  have mi1 := k_mi1 hx1 mi
  have hs0 : S1 0 = .inr (9, N) := g0.trans hs0
  have hxs : I1 0 = xs := g1.trans hxs
  rw [← k_mid hx1, z_many_pr] at hc1
  have hq : q_many (m_pr I) (xs (i + 1)) = q_many I1 (xs (i + 1)) := by rw [← k_mid hx1, q_many_pr]
  rw [hq]
  obtain ⟨fa1, bd1, hR1⟩ := id hc1
  have hS := hR1.hS
  have hP := hR1.hP
  refine v_aload_n d_L_law_1506 rfl ?_
  refine v_aload_n d_L_law_1507 rfl ?_
  refine v_iload_n d_L_law_1508 rfl ?_
  refine v_iconst (v := nI 1) d_L_law_1509 x_ic_1 ?_
  first | refine v_iaddN d_L_law_1510 ?_ | refine v_iadd d_L_law_1510 ?_
  refine v_sx _ d_L_law_1511 (rfl) (hs0) (⟨by omega, by omega⟩) hxs ?_
  refine v_cv (as := [_]) (rest := [_]) d_L_law_1512 lv_L_162_12 (hS _ _ rfl) rfl ⟨by decide, by decide⟩ rfl (Nat.le_of_ble_eq_true rfl) (by show cs + 0 + 0 ≤ 600000; omega) (by show sl + 0 + 0 ≤ 7302250; omega) ?_
  refine x_Call.keep (t_X12_many mi1.hn mi1.fo hS hP (fun g2 g3 => ?_))
  refine w_icmp_eq d_L_law_1515 (fun aeq => ?_) (fun aeq => False.elim (by exact aeq rfl))
  have kf := k_fin (z := (z_many I1 (xs (i + 1)))) (I2 := (z_many I1 (xs (i + 1)))) (J2 := J1) hc1 (z_many_mi mi1) (fun a k ha => z_many_out I1 (xs (i + 1)) a k ha) x_ex.rf
  refine hnx S1 P1 _ _ n1 _ _ hs0 (g3.trans hxs) kf.1 kf.2 ?_ ?_
  · show cs + 0 + 0 ≤ cs + 3; omega
  · show sl + 0 + 0 ≤ sl + 76; omega

