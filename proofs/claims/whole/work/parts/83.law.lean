/-! THE LAW: one step of a script -/
abbrev eL_law (rm : Room) : mE := (RL, code, 4, (some .boolean), rm, false)
set_option maxRecDepth 100000 in
theorem law_coin {G : mG} {I : Nat → Nat → Int32} {J : Nat → Nat → Int64} {t c B : Nat} {S : aS} {Q : Option Value → mM → Prop} (hC : InvC I S) (hM : InvM I S) (hw : wfS B S) (hB : B + 242 < 1000000) (hL : G.2.2.2.2.1 ≤ 100000) (hc : 6 * c + 5 < G.2.2.2.2.1) (k : ∀ I' J' t' S', InvC I' S' → InvM I' S' → wfS (B + 242) S' → zV G (eL_law room_1) (90, 5102) 1788 [(0, .ref 1301), (1, .ref 0), (2, .ref 76), (3, .int (nI (6 * c)))] [] (mm I' J' t') Q) : zV G (eL_law room_1) (90, 5102) 248 [(0, .ref 1301), (1, .ref 0), (2, .ref 76), (3, .int (nI (6 * c)))] [] (mm I J t) Q := by
  refine zV_aload_n dL_law_248 rfl 1 rfl rfl ?_
  refine zV_aload_n dL_law_249 rfl 0 rfl rfl ?_
  refine zV_iload_n dL_law_250 rfl 3 rfl rfl ?_
  refine zV_iconst (v := (nI 1)) dL_law_251 rfl rfl ?_
  refine zA_iadd (z := (nI ((6 * c) + 1))) dL_law_252 rfl  (nI_add _ _) ?_
  refine zV_script ((6 * c) + 1) dL_law_253 rfl rfl (by omega) hL ?_
  refine zV_aload_n dL_law_254 rfl 0 rfl rfl ?_
  refine zV_iload_n dL_law_255 rfl 3 rfl rfl ?_
  refine zV_iconst (v := (nI 2)) dL_law_256 rfl rfl ?_
  refine zA_iadd (z := (nI ((6 * c) + 2))) dL_law_257 rfl  (nI_add _ _) ?_
  refine zV_script ((6 * c) + 2) dL_law_258 rfl rfl (by omega) hL ?_
  refine zV_aload_n dL_law_259 rfl 0 rfl rfl ?_
  refine zV_iload_n dL_law_260 rfl 3 rfl rfl ?_
  refine zV_iconst (v := (nI 3)) dL_law_261 rfl rfl ?_
  refine zA_iadd (z := (nI ((6 * c) + 3))) dL_law_262 rfl  (nI_add _ _) ?_
  refine zV_script ((6 * c) + 3) dL_law_263 rfl rfl (by omega) hL ?_
  refine zV_callV (E' := eX6_coin (g_rmv 2)) (av := [.int (G.2.2.2.2.2 ((6 * c) + 1)), .int (G.2.2.2.2.2 ((6 * c) + 2)), .int (G.2.2.2.2.2 ((6 * c) + 3))]) (st := []) (b := 0) dL_law_264 rfl (k_RL_13 _) rfl ⟨by decide, by decide⟩ ⟨by decide, by decide⟩ (Or.inl rfl) rfl (Nat.le_of_ble_eq_true rfl) rfl rfl rfl (p_coin hC hw) (fun r264 M264 z => ?_)
  obtain ⟨I1, J1, t1, rfl, rfl, hC1, hf1⟩ := z
  show zV G (eL_law room_1) (90, 5102) 267 [(0, .ref 1301), (1, .ref 0), (2, .ref 76), (3, .int (nI (6 * c)))] [.int ((op_coin S (G.2.2.2.2.2 ((6 * c) + 1)) (G.2.2.2.2.2 ((6 * c) + 2)) (G.2.2.2.2.2 ((6 * c) + 3))).1)] (mm I1 J1 t1) _
  refine zV_aload_n dL_law_267 rfl 2 rfl rfl ?_
  refine zV_aload_n dL_law_268 rfl 0 rfl rfl ?_
  refine zV_iload_n dL_law_269 rfl 3 rfl rfl ?_
  refine zV_iconst (v := (nI 1)) dL_law_270 rfl rfl ?_
  refine zA_iadd (z := (nI ((6 * c) + 1))) dL_law_271 rfl  (nI_add _ _) ?_
  refine zV_script ((6 * c) + 1) dL_law_272 rfl rfl (by omega) hL ?_
  refine zV_aload_n dL_law_273 rfl 0 rfl rfl ?_
  refine zV_iload_n dL_law_274 rfl 3 rfl rfl ?_
  refine zV_iconst (v := (nI 2)) dL_law_275 rfl rfl ?_
  refine zA_iadd (z := (nI ((6 * c) + 2))) dL_law_276 rfl  (nI_add _ _) ?_
  refine zV_script ((6 * c) + 2) dL_law_277 rfl rfl (by omega) hL ?_
  refine zV_aload_n dL_law_278 rfl 0 rfl rfl ?_
  refine zV_iload_n dL_law_279 rfl 3 rfl rfl ?_
  refine zV_iconst (v := (nI 3)) dL_law_280 rfl rfl ?_
  refine zA_iadd (z := (nI ((6 * c) + 3))) dL_law_281 rfl  (nI_add _ _) ?_
  refine zV_script ((6 * c) + 3) dL_law_282 rfl rfl (by omega) hL ?_
  refine zV_callV (E' := eX7_coin (g_rmv 2)) (av := [.int (G.2.2.2.2.2 ((6 * c) + 1)), .int (G.2.2.2.2.2 ((6 * c) + 2)), .int (G.2.2.2.2.2 ((6 * c) + 3))]) (st := [.int ((op_coin S (G.2.2.2.2.2 ((6 * c) + 1)) (G.2.2.2.2.2 ((6 * c) + 2)) (G.2.2.2.2.2 ((6 * c) + 3))).1)]) (b := 76) dL_law_283 rfl (k_RL_17 _) rfl ⟨by decide, by decide⟩ ⟨by decide, by decide⟩ (Or.inl rfl) rfl (Nat.le_of_ble_eq_true rfl) rfl rfl rfl (q_coin (hM.fr hf1) hw) (fun r283 M283 z => ?_)
  obtain ⟨I2, J2, t2, rfl, rfl, hM2, hf2⟩ := z
  show zV G (eL_law room_1) (90, 5102) 286 [(0, .ref 1301), (1, .ref 0), (2, .ref 76), (3, .int (nI (6 * c)))] [.int ((op_coin S (G.2.2.2.2.2 ((6 * c) + 1)) (G.2.2.2.2.2 ((6 * c) + 2)) (G.2.2.2.2.2 ((6 * c) + 3))).1), .int ((op_coin S (G.2.2.2.2.2 ((6 * c) + 1)) (G.2.2.2.2.2 ((6 * c) + 2)) (G.2.2.2.2.2 ((6 * c) + 3))).1)] (mm I2 J2 t2) _
  refine zV_icmp_eq (tgt := 1788) dL_law_286 rfl rfl  (fun _ => ?_) (fun z => absurd z (fun z => z rfl))
  exact k _ _ _ _ (hC1.fr (B := B + 0) (w_coin hw) hf2) hM2 ((w_coin hw).up (by omega) (by omega))
set_option maxRecDepth 100000 in
theorem law_of {G : mG} {I : Nat → Nat → Int32} {J : Nat → Nat → Int64} {t c B : Nat} {S : aS} {Q : Option Value → mM → Prop} (hC : InvC I S) (hM : InvM I S) (hw : wfS B S) (hB : B + 242 < 1000000) (hL : G.2.2.2.2.1 ≤ 100000) (hc : 6 * c + 5 < G.2.2.2.2.1) (k : ∀ I' J' t' S', InvC I' S' → InvM I' S' → wfS (B + 242) S' → zV G (eL_law room_1) (90, 5102) 1788 [(0, .ref 1301), (1, .ref 0), (2, .ref 76), (3, .int (nI (6 * c)))] [] (mm I' J' t') Q) : zV G (eL_law room_1) (90, 5102) 291 [(0, .ref 1301), (1, .ref 0), (2, .ref 76), (3, .int (nI (6 * c)))] [] (mm I J t) Q := by
  refine zV_aload_n dL_law_291 rfl 1 rfl rfl ?_
  refine zV_aload_n dL_law_292 rfl 0 rfl rfl ?_
  refine zV_iload_n dL_law_293 rfl 3 rfl rfl ?_
  refine zV_iconst (v := (nI 1)) dL_law_294 rfl rfl ?_
  refine zA_iadd (z := (nI ((6 * c) + 1))) dL_law_295 rfl  (nI_add _ _) ?_
  refine zV_script ((6 * c) + 1) dL_law_296 rfl rfl (by omega) hL ?_
  refine zV_aload_n dL_law_297 rfl 0 rfl rfl ?_
  refine zV_iload_n dL_law_298 rfl 3 rfl rfl ?_
  refine zV_iconst (v := (nI 2)) dL_law_299 rfl rfl ?_
  refine zA_iadd (z := (nI ((6 * c) + 2))) dL_law_300 rfl  (nI_add _ _) ?_
  refine zV_script ((6 * c) + 2) dL_law_301 rfl rfl (by omega) hL ?_
  refine zV_callV (E' := eX6_of (g_rmv 3)) (av := [.int (G.2.2.2.2.2 ((6 * c) + 1)), .int (G.2.2.2.2.2 ((6 * c) + 2))]) (st := []) (b := 0) dL_law_302 rfl (k_RL_18 _) rfl ⟨by decide, by decide⟩ ⟨by decide, by decide⟩ (Or.inl rfl) rfl (Nat.le_of_ble_eq_true rfl) rfl rfl rfl (p_of hC hw) (fun r302 M302 z => ?_)
  obtain ⟨I1, J1, t1, rfl, rfl, hC1, hf1⟩ := z
  show zV G (eL_law room_1) (90, 5102) 305 [(0, .ref 1301), (1, .ref 0), (2, .ref 76), (3, .int (nI (6 * c)))] [.int ((op_of S (G.2.2.2.2.2 ((6 * c) + 1)) (G.2.2.2.2.2 ((6 * c) + 2))).1)] (mm I1 J1 t1) _
  refine zV_aload_n dL_law_305 rfl 2 rfl rfl ?_
  refine zV_aload_n dL_law_306 rfl 0 rfl rfl ?_
  refine zV_iload_n dL_law_307 rfl 3 rfl rfl ?_
  refine zV_iconst (v := (nI 1)) dL_law_308 rfl rfl ?_
  refine zA_iadd (z := (nI ((6 * c) + 1))) dL_law_309 rfl  (nI_add _ _) ?_
  refine zV_script ((6 * c) + 1) dL_law_310 rfl rfl (by omega) hL ?_
  refine zV_aload_n dL_law_311 rfl 0 rfl rfl ?_
  refine zV_iload_n dL_law_312 rfl 3 rfl rfl ?_
  refine zV_iconst (v := (nI 2)) dL_law_313 rfl rfl ?_
  refine zA_iadd (z := (nI ((6 * c) + 2))) dL_law_314 rfl  (nI_add _ _) ?_
  refine zV_script ((6 * c) + 2) dL_law_315 rfl rfl (by omega) hL ?_
  refine zV_callV (E' := eX7_of (g_rmv 4)) (av := [.int (G.2.2.2.2.2 ((6 * c) + 1)), .int (G.2.2.2.2.2 ((6 * c) + 2))]) (st := [.int ((op_of S (G.2.2.2.2.2 ((6 * c) + 1)) (G.2.2.2.2.2 ((6 * c) + 2))).1)]) (b := 76) dL_law_316 rfl (k_RL_22 _) rfl ⟨by decide, by decide⟩ ⟨by decide, by decide⟩ (Or.inl rfl) rfl (Nat.le_of_ble_eq_true rfl) rfl rfl rfl (q_of (hM.fr hf1) hw) (fun r316 M316 z => ?_)
  obtain ⟨I2, J2, t2, rfl, rfl, hM2, hf2⟩ := z
  show zV G (eL_law room_1) (90, 5102) 319 [(0, .ref 1301), (1, .ref 0), (2, .ref 76), (3, .int (nI (6 * c)))] [.int ((op_of S (G.2.2.2.2.2 ((6 * c) + 1)) (G.2.2.2.2.2 ((6 * c) + 2))).1), .int ((op_of S (G.2.2.2.2.2 ((6 * c) + 1)) (G.2.2.2.2.2 ((6 * c) + 2))).1)] (mm I2 J2 t2) _
  refine zV_icmp_eq (tgt := 1788) dL_law_319 rfl rfl  (fun _ => ?_) (fun z => absurd z (fun z => z rfl))
  exact k _ _ _ _ (hC1.fr (B := B + 0) (w_of hw) hf2) hM2 ((w_of hw).up (by omega) (by omega))
set_option maxRecDepth 100000 in
theorem law_change {G : mG} {I : Nat → Nat → Int32} {J : Nat → Nat → Int64} {t c B : Nat} {S : aS} {Q : Option Value → mM → Prop} (hC : InvC I S) (hM : InvM I S) (hw : wfS B S) (hB : B + 242 < 1000000) (hL : G.2.2.2.2.1 ≤ 100000) (hc : 6 * c + 5 < G.2.2.2.2.1) (k : ∀ I' J' t' S', InvC I' S' → InvM I' S' → wfS (B + 242) S' → zV G (eL_law room_1) (90, 5102) 1788 [(0, .ref 1301), (1, .ref 0), (2, .ref 76), (3, .int (nI (6 * c)))] [] (mm I' J' t') Q) : zV G (eL_law room_1) (90, 5102) 324 [(0, .ref 1301), (1, .ref 0), (2, .ref 76), (3, .int (nI (6 * c)))] [] (mm I J t) Q := by
  refine zV_aload_n dL_law_324 rfl 1 rfl rfl ?_
  refine zV_aload_n dL_law_325 rfl 0 rfl rfl ?_
  refine zV_iload_n dL_law_326 rfl 3 rfl rfl ?_
  refine zV_iconst (v := (nI 1)) dL_law_327 rfl rfl ?_
  refine zA_iadd (z := (nI ((6 * c) + 1))) dL_law_328 rfl  (nI_add _ _) ?_
  refine zV_script ((6 * c) + 1) dL_law_329 rfl rfl (by omega) hL ?_
  refine zV_aload_n dL_law_330 rfl 0 rfl rfl ?_
  refine zV_iload_n dL_law_331 rfl 3 rfl rfl ?_
  refine zV_iconst (v := (nI 2)) dL_law_332 rfl rfl ?_
  refine zA_iadd (z := (nI ((6 * c) + 2))) dL_law_333 rfl  (nI_add _ _) ?_
  refine zV_script ((6 * c) + 2) dL_law_334 rfl rfl (by omega) hL ?_
  refine zV_aload_n dL_law_335 rfl 0 rfl rfl ?_
  refine zV_iload_n dL_law_336 rfl 3 rfl rfl ?_
  refine zV_iconst (v := (nI 3)) dL_law_337 rfl rfl ?_
  refine zA_iadd (z := (nI ((6 * c) + 3))) dL_law_338 rfl  (nI_add _ _) ?_
  refine zV_script ((6 * c) + 3) dL_law_339 rfl rfl (by omega) hL ?_
  refine zV_callV (E' := eX6_change (g_rmv 2)) (av := [.int (G.2.2.2.2.2 ((6 * c) + 1)), .int (G.2.2.2.2.2 ((6 * c) + 2)), .int (G.2.2.2.2.2 ((6 * c) + 3))]) (st := []) (b := 0) dL_law_340 rfl (k_RL_23 _) rfl ⟨by decide, by decide⟩ ⟨by decide, by decide⟩ (Or.inl rfl) rfl (Nat.le_of_ble_eq_true rfl) rfl rfl rfl (p_change hC hw) (fun r340 M340 z => ?_)
  obtain ⟨I1, J1, t1, rfl, rfl, hC1, hf1⟩ := z
  show zV G (eL_law room_1) (90, 5102) 343 [(0, .ref 1301), (1, .ref 0), (2, .ref 76), (3, .int (nI (6 * c)))] [.int ((op_change S (G.2.2.2.2.2 ((6 * c) + 1)) (G.2.2.2.2.2 ((6 * c) + 2)) (G.2.2.2.2.2 ((6 * c) + 3))).1)] (mm I1 J1 t1) _
  refine zV_aload_n dL_law_343 rfl 2 rfl rfl ?_
  refine zV_aload_n dL_law_344 rfl 0 rfl rfl ?_
  refine zV_iload_n dL_law_345 rfl 3 rfl rfl ?_
  refine zV_iconst (v := (nI 1)) dL_law_346 rfl rfl ?_
  refine zA_iadd (z := (nI ((6 * c) + 1))) dL_law_347 rfl  (nI_add _ _) ?_
  refine zV_script ((6 * c) + 1) dL_law_348 rfl rfl (by omega) hL ?_
  refine zV_aload_n dL_law_349 rfl 0 rfl rfl ?_
  refine zV_iload_n dL_law_350 rfl 3 rfl rfl ?_
  refine zV_iconst (v := (nI 2)) dL_law_351 rfl rfl ?_
  refine zA_iadd (z := (nI ((6 * c) + 2))) dL_law_352 rfl  (nI_add _ _) ?_
  refine zV_script ((6 * c) + 2) dL_law_353 rfl rfl (by omega) hL ?_
  refine zV_aload_n dL_law_354 rfl 0 rfl rfl ?_
  refine zV_iload_n dL_law_355 rfl 3 rfl rfl ?_
  refine zV_iconst (v := (nI 3)) dL_law_356 rfl rfl ?_
  refine zA_iadd (z := (nI ((6 * c) + 3))) dL_law_357 rfl  (nI_add _ _) ?_
  refine zV_script ((6 * c) + 3) dL_law_358 rfl rfl (by omega) hL ?_
  refine zV_callV (E' := eX7_change (g_rmv 2)) (av := [.int (G.2.2.2.2.2 ((6 * c) + 1)), .int (G.2.2.2.2.2 ((6 * c) + 2)), .int (G.2.2.2.2.2 ((6 * c) + 3))]) (st := [.int ((op_change S (G.2.2.2.2.2 ((6 * c) + 1)) (G.2.2.2.2.2 ((6 * c) + 2)) (G.2.2.2.2.2 ((6 * c) + 3))).1)]) (b := 76) dL_law_359 rfl (k_RL_26 _) rfl ⟨by decide, by decide⟩ ⟨by decide, by decide⟩ (Or.inl rfl) rfl (Nat.le_of_ble_eq_true rfl) rfl rfl rfl (q_change (hM.fr hf1) hw) (fun r359 M359 z => ?_)
  obtain ⟨I2, J2, t2, rfl, rfl, hM2, hf2⟩ := z
  show zV G (eL_law room_1) (90, 5102) 362 [(0, .ref 1301), (1, .ref 0), (2, .ref 76), (3, .int (nI (6 * c)))] [.int ((op_change S (G.2.2.2.2.2 ((6 * c) + 1)) (G.2.2.2.2.2 ((6 * c) + 2)) (G.2.2.2.2.2 ((6 * c) + 3))).1), .int ((op_change S (G.2.2.2.2.2 ((6 * c) + 1)) (G.2.2.2.2.2 ((6 * c) + 2)) (G.2.2.2.2.2 ((6 * c) + 3))).1)] (mm I2 J2 t2) _
  refine zV_icmp_eq (tgt := 1788) dL_law_362 rfl rfl  (fun _ => ?_) (fun z => absurd z (fun z => z rfl))
  exact k _ _ _ _ (hC1.fr (B := B + 0) (w_change hw) hf2) hM2 ((w_change hw).up (by omega) (by omega))
set_option maxRecDepth 100000 in
theorem law_turn {G : mG} {I : Nat → Nat → Int32} {J : Nat → Nat → Int64} {t c B : Nat} {S : aS} {Q : Option Value → mM → Prop} (hC : InvC I S) (hM : InvM I S) (hw : wfS B S) (hB : B + 242 < 1000000) (hL : G.2.2.2.2.1 ≤ 100000) (hc : 6 * c + 5 < G.2.2.2.2.1) (k : ∀ I' J' t' S', InvC I' S' → InvM I' S' → wfS (B + 242) S' → zV G (eL_law room_1) (90, 5102) 1788 [(0, .ref 1301), (1, .ref 0), (2, .ref 76), (3, .int (nI (6 * c)))] [] (mm I' J' t') Q) : zV G (eL_law room_1) (90, 5102) 367 [(0, .ref 1301), (1, .ref 0), (2, .ref 76), (3, .int (nI (6 * c)))] [] (mm I J t) Q := by
  refine zV_aload_n dL_law_367 rfl 1 rfl rfl ?_
  refine zV_aload_n dL_law_368 rfl 0 rfl rfl ?_
  refine zV_iload_n dL_law_369 rfl 3 rfl rfl ?_
  refine zV_iconst (v := (nI 1)) dL_law_370 rfl rfl ?_
  refine zA_iadd (z := (nI ((6 * c) + 1))) dL_law_371 rfl  (nI_add _ _) ?_
  refine zV_script ((6 * c) + 1) dL_law_372 rfl rfl (by omega) hL ?_
  refine zV_callV (E' := eX6_turn (g_rmv 3)) (av := [.int (G.2.2.2.2.2 ((6 * c) + 1))]) (st := []) (b := 0) dL_law_373 rfl (k_RL_27 _) rfl ⟨by decide, by decide⟩ ⟨by decide, by decide⟩ (Or.inl rfl) rfl (Nat.le_of_ble_eq_true rfl) rfl rfl rfl (p_turn hC hw (by omega)) (fun r373 M373 z => ?_)
  obtain ⟨I1, J1, t1, rfl, rfl, hC1, hf1⟩ := z
  show zV G (eL_law room_1) (90, 5102) 376 [(0, .ref 1301), (1, .ref 0), (2, .ref 76), (3, .int (nI (6 * c)))] [.int ((op_turn S (G.2.2.2.2.2 ((6 * c) + 1))).1)] (mm I1 J1 t1) _
  refine zV_aload_n dL_law_376 rfl 2 rfl rfl ?_
  refine zV_aload_n dL_law_377 rfl 0 rfl rfl ?_
  refine zV_iload_n dL_law_378 rfl 3 rfl rfl ?_
  refine zV_iconst (v := (nI 1)) dL_law_379 rfl rfl ?_
  refine zA_iadd (z := (nI ((6 * c) + 1))) dL_law_380 rfl  (nI_add _ _) ?_
  refine zV_script ((6 * c) + 1) dL_law_381 rfl rfl (by omega) hL ?_
  refine zV_callV (E' := eX7_turn (g_rmv 4)) (av := [.int (G.2.2.2.2.2 ((6 * c) + 1))]) (st := [.int ((op_turn S (G.2.2.2.2.2 ((6 * c) + 1))).1)]) (b := 76) dL_law_382 rfl (k_RL_31 _) rfl ⟨by decide, by decide⟩ ⟨by decide, by decide⟩ (Or.inl rfl) rfl (Nat.le_of_ble_eq_true rfl) rfl rfl rfl (q_turn (hM.fr hf1) hw (by omega)) (fun r382 M382 z => ?_)
  obtain ⟨I2, J2, t2, rfl, rfl, hM2, hf2⟩ := z
  show zV G (eL_law room_1) (90, 5102) 385 [(0, .ref 1301), (1, .ref 0), (2, .ref 76), (3, .int (nI (6 * c)))] [.int ((op_turn S (G.2.2.2.2.2 ((6 * c) + 1))).1), .int ((op_turn S (G.2.2.2.2.2 ((6 * c) + 1))).1)] (mm I2 J2 t2) _
  refine zV_icmp_eq (tgt := 1788) dL_law_385 rfl rfl  (fun _ => ?_) (fun z => absurd z (fun z => z rfl))
  exact k _ _ _ _ (hC1.fr (B := B + 2) (w_turn hw (by omega)) hf2) hM2 ((w_turn hw (by omega)).up (by omega) (by omega))
set_option maxRecDepth 100000 in
theorem law_purse {G : mG} {I : Nat → Nat → Int32} {J : Nat → Nat → Int64} {t c B : Nat} {S : aS} {Q : Option Value → mM → Prop} (hC : InvC I S) (hM : InvM I S) (hw : wfS B S) (hB : B + 242 < 1000000) (hL : G.2.2.2.2.1 ≤ 100000) (hc : 6 * c + 5 < G.2.2.2.2.1) (k : ∀ I' J' t' S', InvC I' S' → InvM I' S' → wfS (B + 242) S' → zV G (eL_law room_1) (90, 5102) 1788 [(0, .ref 1301), (1, .ref 0), (2, .ref 76), (3, .int (nI (6 * c)))] [] (mm I' J' t') Q) : zV G (eL_law room_1) (90, 5102) 390 [(0, .ref 1301), (1, .ref 0), (2, .ref 76), (3, .int (nI (6 * c)))] [] (mm I J t) Q := by
  refine zV_aload_n dL_law_390 rfl 1 rfl rfl ?_
  refine zV_aload_n dL_law_391 rfl 0 rfl rfl ?_
  refine zV_iload_n dL_law_392 rfl 3 rfl rfl ?_
  refine zV_iconst (v := (nI 1)) dL_law_393 rfl rfl ?_
  refine zA_iadd (z := (nI ((6 * c) + 1))) dL_law_394 rfl  (nI_add _ _) ?_
  refine zV_script ((6 * c) + 1) dL_law_395 rfl rfl (by omega) hL ?_
  refine zV_aload_n dL_law_396 rfl 0 rfl rfl ?_
  refine zV_iload_n dL_law_397 rfl 3 rfl rfl ?_
  refine zV_iconst (v := (nI 2)) dL_law_398 rfl rfl ?_
  refine zA_iadd (z := (nI ((6 * c) + 2))) dL_law_399 rfl  (nI_add _ _) ?_
  refine zV_script ((6 * c) + 2) dL_law_400 rfl rfl (by omega) hL ?_
  refine zV_callV (E' := eX6_purse (g_rmv 4)) (av := [.int (G.2.2.2.2.2 ((6 * c) + 1)), .int (G.2.2.2.2.2 ((6 * c) + 2))]) (st := []) (b := 0) dL_law_401 rfl (k_RL_32 _) rfl ⟨by decide, by decide⟩ ⟨by decide, by decide⟩ (Or.inl rfl) rfl (Nat.le_of_ble_eq_true rfl) rfl rfl rfl (p_purse hC hw) (fun r401 M401 z => ?_)
  obtain ⟨I1, J1, t1, rfl, rfl, hC1, hf1⟩ := z
  show zV G (eL_law room_1) (90, 5102) 404 [(0, .ref 1301), (1, .ref 0), (2, .ref 76), (3, .int (nI (6 * c)))] [.int ((op_purse S (G.2.2.2.2.2 ((6 * c) + 1)) (G.2.2.2.2.2 ((6 * c) + 2))).1)] (mm I1 J1 t1) _
  refine zV_aload_n dL_law_404 rfl 2 rfl rfl ?_
  refine zV_aload_n dL_law_405 rfl 0 rfl rfl ?_
  refine zV_iload_n dL_law_406 rfl 3 rfl rfl ?_
  refine zV_iconst (v := (nI 1)) dL_law_407 rfl rfl ?_
  refine zA_iadd (z := (nI ((6 * c) + 1))) dL_law_408 rfl  (nI_add _ _) ?_
  refine zV_script ((6 * c) + 1) dL_law_409 rfl rfl (by omega) hL ?_
  refine zV_aload_n dL_law_410 rfl 0 rfl rfl ?_
  refine zV_iload_n dL_law_411 rfl 3 rfl rfl ?_
  refine zV_iconst (v := (nI 2)) dL_law_412 rfl rfl ?_
  refine zA_iadd (z := (nI ((6 * c) + 2))) dL_law_413 rfl  (nI_add _ _) ?_
  refine zV_script ((6 * c) + 2) dL_law_414 rfl rfl (by omega) hL ?_
  refine zV_callV (E' := eX7_purse (g_rmv 5)) (av := [.int (G.2.2.2.2.2 ((6 * c) + 1)), .int (G.2.2.2.2.2 ((6 * c) + 2))]) (st := [.int ((op_purse S (G.2.2.2.2.2 ((6 * c) + 1)) (G.2.2.2.2.2 ((6 * c) + 2))).1)]) (b := 76) dL_law_415 rfl (k_RL_35 _) rfl ⟨by decide, by decide⟩ ⟨by decide, by decide⟩ (Or.inl rfl) rfl (Nat.le_of_ble_eq_true rfl) rfl rfl rfl (q_purse (hM.fr hf1) hw) (fun r415 M415 z => ?_)
  obtain ⟨I2, J2, t2, rfl, rfl, hM2, hf2⟩ := z
  show zV G (eL_law room_1) (90, 5102) 418 [(0, .ref 1301), (1, .ref 0), (2, .ref 76), (3, .int (nI (6 * c)))] [.int ((op_purse S (G.2.2.2.2.2 ((6 * c) + 1)) (G.2.2.2.2.2 ((6 * c) + 2))).1), .int ((op_purse S (G.2.2.2.2.2 ((6 * c) + 1)) (G.2.2.2.2.2 ((6 * c) + 2))).1)] (mm I2 J2 t2) _
  refine zV_icmp_eq (tgt := 1788) dL_law_418 rfl rfl  (fun _ => ?_) (fun z => absurd z (fun z => z rfl))
  exact k _ _ _ _ (hC1.fr (B := B + 0) (w_purse hw) hf2) hM2 ((w_purse hw).up (by omega) (by omega))
set_option maxRecDepth 100000 in
theorem law_sum {G : mG} {I : Nat → Nat → Int32} {J : Nat → Nat → Int64} {t c B : Nat} {S : aS} {Q : Option Value → mM → Prop} (hC : InvC I S) (hM : InvM I S) (hw : wfS B S) (hB : B + 242 < 1000000) (hL : G.2.2.2.2.1 ≤ 100000) (hc : 6 * c + 5 < G.2.2.2.2.1) (k : ∀ I' J' t' S', InvC I' S' → InvM I' S' → wfS (B + 242) S' → zV G (eL_law room_1) (90, 5102) 1788 [(0, .ref 1301), (1, .ref 0), (2, .ref 76), (3, .int (nI (6 * c)))] [] (mm I' J' t') Q) : zV G (eL_law room_1) (90, 5102) 423 [(0, .ref 1301), (1, .ref 0), (2, .ref 76), (3, .int (nI (6 * c)))] [] (mm I J t) Q := by
  refine zV_aload_n dL_law_423 rfl 1 rfl rfl ?_
  refine zV_aload_n dL_law_424 rfl 0 rfl rfl ?_
  refine zV_iload_n dL_law_425 rfl 3 rfl rfl ?_
  refine zV_iconst (v := (nI 1)) dL_law_426 rfl rfl ?_
  refine zA_iadd (z := (nI ((6 * c) + 1))) dL_law_427 rfl  (nI_add _ _) ?_
  refine zV_script ((6 * c) + 1) dL_law_428 rfl rfl (by omega) hL ?_
  refine zV_callV (E' := eX6_sum (g_rmv 4)) (av := [.int (G.2.2.2.2.2 ((6 * c) + 1))]) (st := []) (b := 0) dL_law_429 rfl (k_RL_36 _) rfl ⟨by decide, by decide⟩ ⟨by decide, by decide⟩ (Or.inl rfl) rfl (Nat.le_of_ble_eq_true rfl) rfl rfl rfl (p_sum hC hw) (fun r429 M429 z => ?_)
  obtain ⟨I1, J1, t1, rfl, rfl, hC1, hf1⟩ := z
  show zV G (eL_law room_1) (90, 5102) 432 [(0, .ref 1301), (1, .ref 0), (2, .ref 76), (3, .int (nI (6 * c)))] [.int ((op_sum S (G.2.2.2.2.2 ((6 * c) + 1))).1)] (mm I1 J1 t1) _
  refine zV_aload_n dL_law_432 rfl 2 rfl rfl ?_
  refine zV_aload_n dL_law_433 rfl 0 rfl rfl ?_
  refine zV_iload_n dL_law_434 rfl 3 rfl rfl ?_
  refine zV_iconst (v := (nI 1)) dL_law_435 rfl rfl ?_
  refine zA_iadd (z := (nI ((6 * c) + 1))) dL_law_436 rfl  (nI_add _ _) ?_
  refine zV_script ((6 * c) + 1) dL_law_437 rfl rfl (by omega) hL ?_
  refine zV_callV (E' := eX7_sum (g_rmv 5)) (av := [.int (G.2.2.2.2.2 ((6 * c) + 1))]) (st := [.int ((op_sum S (G.2.2.2.2.2 ((6 * c) + 1))).1)]) (b := 76) dL_law_438 rfl (k_RL_39 _) rfl ⟨by decide, by decide⟩ ⟨by decide, by decide⟩ (Or.inl rfl) rfl (Nat.le_of_ble_eq_true rfl) rfl rfl rfl (q_sum (hM.fr hf1) hw) (fun r438 M438 z => ?_)
  obtain ⟨I2, J2, t2, rfl, rfl, hM2, hf2⟩ := z
  show zV G (eL_law room_1) (90, 5102) 441 [(0, .ref 1301), (1, .ref 0), (2, .ref 76), (3, .int (nI (6 * c)))] [.int ((op_sum S (G.2.2.2.2.2 ((6 * c) + 1))).1), .int ((op_sum S (G.2.2.2.2.2 ((6 * c) + 1))).1)] (mm I2 J2 t2) _
  refine zV_icmp_eq (tgt := 1788) dL_law_441 rfl rfl  (fun _ => ?_) (fun z => absurd z (fun z => z rfl))
  exact k _ _ _ _ (hC1.fr (B := B + 0) (w_sum hw) hf2) hM2 ((w_sum hw).up (by omega) (by omega))
set_option maxRecDepth 100000 in
theorem law_pay {G : mG} {I : Nat → Nat → Int32} {J : Nat → Nat → Int64} {t c B : Nat} {S : aS} {Q : Option Value → mM → Prop} (hC : InvC I S) (hM : InvM I S) (hw : wfS B S) (hB : B + 242 < 1000000) (hL : G.2.2.2.2.1 ≤ 100000) (hc : 6 * c + 5 < G.2.2.2.2.1) (k : ∀ I' J' t' S', InvC I' S' → InvM I' S' → wfS (B + 242) S' → zV G (eL_law room_1) (90, 5102) 1788 [(0, .ref 1301), (1, .ref 0), (2, .ref 76), (3, .int (nI (6 * c)))] [] (mm I' J' t') Q) : zV G (eL_law room_1) (90, 5102) 446 [(0, .ref 1301), (1, .ref 0), (2, .ref 76), (3, .int (nI (6 * c)))] [] (mm I J t) Q := by
  refine zV_aload_n dL_law_446 rfl 1 rfl rfl ?_
  refine zV_aload_n dL_law_447 rfl 0 rfl rfl ?_
  refine zV_iload_n dL_law_448 rfl 3 rfl rfl ?_
  refine zV_iconst (v := (nI 1)) dL_law_449 rfl rfl ?_
  refine zA_iadd (z := (nI ((6 * c) + 1))) dL_law_450 rfl  (nI_add _ _) ?_
  refine zV_script ((6 * c) + 1) dL_law_451 rfl rfl (by omega) hL ?_
  refine zV_aload_n dL_law_452 rfl 0 rfl rfl ?_
  refine zV_iload_n dL_law_453 rfl 3 rfl rfl ?_
  refine zV_iconst (v := (nI 2)) dL_law_454 rfl rfl ?_
  refine zA_iadd (z := (nI ((6 * c) + 2))) dL_law_455 rfl  (nI_add _ _) ?_
  refine zV_script ((6 * c) + 2) dL_law_456 rfl rfl (by omega) hL ?_
  refine zV_aload_n dL_law_457 rfl 0 rfl rfl ?_
  refine zV_iload_n dL_law_458 rfl 3 rfl rfl ?_
  refine zV_iconst (v := (nI 3)) dL_law_459 rfl rfl ?_
  refine zA_iadd (z := (nI ((6 * c) + 3))) dL_law_460 rfl  (nI_add _ _) ?_
  refine zV_script ((6 * c) + 3) dL_law_461 rfl rfl (by omega) hL ?_
  refine zV_callV (E' := eX6_pay (g_rmv 4)) (av := [.int (G.2.2.2.2.2 ((6 * c) + 1)), .int (G.2.2.2.2.2 ((6 * c) + 2)), .int (G.2.2.2.2.2 ((6 * c) + 3))]) (st := []) (b := 0) dL_law_462 rfl (k_RL_40 _) rfl ⟨by decide, by decide⟩ ⟨by decide, by decide⟩ (Or.inl rfl) rfl (Nat.le_of_ble_eq_true rfl) rfl rfl rfl (p_pay hC hw (by omega)) (fun r462 M462 z => ?_)
  obtain ⟨I1, J1, t1, rfl, rfl, hC1, hf1⟩ := z
  show zV G (eL_law room_1) (90, 5102) 465 [(0, .ref 1301), (1, .ref 0), (2, .ref 76), (3, .int (nI (6 * c)))] [.int ((op_pay S (G.2.2.2.2.2 ((6 * c) + 1)) (G.2.2.2.2.2 ((6 * c) + 2)) (G.2.2.2.2.2 ((6 * c) + 3))).1)] (mm I1 J1 t1) _
  refine zV_aload_n dL_law_465 rfl 2 rfl rfl ?_
  refine zV_aload_n dL_law_466 rfl 0 rfl rfl ?_
  refine zV_iload_n dL_law_467 rfl 3 rfl rfl ?_
  refine zV_iconst (v := (nI 1)) dL_law_468 rfl rfl ?_
  refine zA_iadd (z := (nI ((6 * c) + 1))) dL_law_469 rfl  (nI_add _ _) ?_
  refine zV_script ((6 * c) + 1) dL_law_470 rfl rfl (by omega) hL ?_
  refine zV_aload_n dL_law_471 rfl 0 rfl rfl ?_
  refine zV_iload_n dL_law_472 rfl 3 rfl rfl ?_
  refine zV_iconst (v := (nI 2)) dL_law_473 rfl rfl ?_
  refine zA_iadd (z := (nI ((6 * c) + 2))) dL_law_474 rfl  (nI_add _ _) ?_
  refine zV_script ((6 * c) + 2) dL_law_475 rfl rfl (by omega) hL ?_
  refine zV_aload_n dL_law_476 rfl 0 rfl rfl ?_
  refine zV_iload_n dL_law_477 rfl 3 rfl rfl ?_
  refine zV_iconst (v := (nI 3)) dL_law_478 rfl rfl ?_
  refine zA_iadd (z := (nI ((6 * c) + 3))) dL_law_479 rfl  (nI_add _ _) ?_
  refine zV_script ((6 * c) + 3) dL_law_480 rfl rfl (by omega) hL ?_
  refine zV_callV (E' := eX7_pay (g_rmv 6)) (av := [.int (G.2.2.2.2.2 ((6 * c) + 1)), .int (G.2.2.2.2.2 ((6 * c) + 2)), .int (G.2.2.2.2.2 ((6 * c) + 3))]) (st := [.int ((op_pay S (G.2.2.2.2.2 ((6 * c) + 1)) (G.2.2.2.2.2 ((6 * c) + 2)) (G.2.2.2.2.2 ((6 * c) + 3))).1)]) (b := 76) dL_law_481 rfl (k_RL_43 _) rfl ⟨by decide, by decide⟩ ⟨by decide, by decide⟩ (Or.inl rfl) rfl (Nat.le_of_ble_eq_true rfl) rfl rfl rfl (q_pay (hM.fr hf1) hw (by omega)) (fun r481 M481 z => ?_)
  obtain ⟨I2, J2, t2, rfl, rfl, hM2, hf2⟩ := z
  show zV G (eL_law room_1) (90, 5102) 484 [(0, .ref 1301), (1, .ref 0), (2, .ref 76), (3, .int (nI (6 * c)))] [.int ((op_pay S (G.2.2.2.2.2 ((6 * c) + 1)) (G.2.2.2.2.2 ((6 * c) + 2)) (G.2.2.2.2.2 ((6 * c) + 3))).1), .int ((op_pay S (G.2.2.2.2.2 ((6 * c) + 1)) (G.2.2.2.2.2 ((6 * c) + 2)) (G.2.2.2.2.2 ((6 * c) + 3))).1)] (mm I2 J2 t2) _
  refine zV_icmp_eq (tgt := 1788) dL_law_484 rfl rfl  (fun _ => ?_) (fun z => absurd z (fun z => z rfl))
  exact k _ _ _ _ (hC1.fr (B := B + 2) (w_pay hw (by omega)) hf2) hM2 ((w_pay hw (by omega)).up (by omega) (by omega))
set_option maxRecDepth 100000 in
theorem law_there {G : mG} {I : Nat → Nat → Int32} {J : Nat → Nat → Int64} {t c B : Nat} {S : aS} {Q : Option Value → mM → Prop} (hC : InvC I S) (hM : InvM I S) (hw : wfS B S) (hB : B + 242 < 1000000) (hL : G.2.2.2.2.1 ≤ 100000) (hc : 6 * c + 5 < G.2.2.2.2.1) (k : ∀ I' J' t' S', InvC I' S' → InvM I' S' → wfS (B + 242) S' → zV G (eL_law room_1) (90, 5102) 1788 [(0, .ref 1301), (1, .ref 0), (2, .ref 76), (3, .int (nI (6 * c)))] [] (mm I' J' t') Q) : zV G (eL_law room_1) (90, 5102) 489 [(0, .ref 1301), (1, .ref 0), (2, .ref 76), (3, .int (nI (6 * c)))] [] (mm I J t) Q := by
  refine zV_aload_n dL_law_489 rfl 1 rfl rfl ?_
  refine zV_aload_n dL_law_490 rfl 0 rfl rfl ?_
  refine zV_iload_n dL_law_491 rfl 3 rfl rfl ?_
  refine zV_iconst (v := (nI 1)) dL_law_492 rfl rfl ?_
  refine zA_iadd (z := (nI ((6 * c) + 1))) dL_law_493 rfl  (nI_add _ _) ?_
  refine zV_script ((6 * c) + 1) dL_law_494 rfl rfl (by omega) hL ?_
  refine zV_aload_n dL_law_495 rfl 0 rfl rfl ?_
  refine zV_iload_n dL_law_496 rfl 3 rfl rfl ?_
  refine zV_iconst (v := (nI 2)) dL_law_497 rfl rfl ?_
  refine zA_iadd (z := (nI ((6 * c) + 2))) dL_law_498 rfl  (nI_add _ _) ?_
  refine zV_script ((6 * c) + 2) dL_law_499 rfl rfl (by omega) hL ?_
  refine zV_callV (E' := eX6_there (g_rmv 4)) (av := [.int (G.2.2.2.2.2 ((6 * c) + 1)), .int (G.2.2.2.2.2 ((6 * c) + 2))]) (st := []) (b := 0) dL_law_500 rfl (k_RL_44 _) rfl ⟨by decide, by decide⟩ ⟨by decide, by decide⟩ (Or.inl rfl) rfl (Nat.le_of_ble_eq_true rfl) rfl rfl rfl (p_there hC hw (by omega)) (fun r500 M500 z => ?_)
  obtain ⟨I1, J1, t1, rfl, rfl, hC1, hf1⟩ := z
  show zV G (eL_law room_1) (90, 5102) 503 [(0, .ref 1301), (1, .ref 0), (2, .ref 76), (3, .int (nI (6 * c)))] [.int ((op_there S (G.2.2.2.2.2 ((6 * c) + 1)) (G.2.2.2.2.2 ((6 * c) + 2))).1)] (mm I1 J1 t1) _
  refine zV_aload_n dL_law_503 rfl 2 rfl rfl ?_
  refine zV_aload_n dL_law_504 rfl 0 rfl rfl ?_
  refine zV_iload_n dL_law_505 rfl 3 rfl rfl ?_
  refine zV_iconst (v := (nI 1)) dL_law_506 rfl rfl ?_
  refine zA_iadd (z := (nI ((6 * c) + 1))) dL_law_507 rfl  (nI_add _ _) ?_
  refine zV_script ((6 * c) + 1) dL_law_508 rfl rfl (by omega) hL ?_
  refine zV_aload_n dL_law_509 rfl 0 rfl rfl ?_
  refine zV_iload_n dL_law_510 rfl 3 rfl rfl ?_
  refine zV_iconst (v := (nI 2)) dL_law_511 rfl rfl ?_
  refine zA_iadd (z := (nI ((6 * c) + 2))) dL_law_512 rfl  (nI_add _ _) ?_
  refine zV_script ((6 * c) + 2) dL_law_513 rfl rfl (by omega) hL ?_
  refine zV_callV (E' := eX7_there (g_rmv 6)) (av := [.int (G.2.2.2.2.2 ((6 * c) + 1)), .int (G.2.2.2.2.2 ((6 * c) + 2))]) (st := [.int ((op_there S (G.2.2.2.2.2 ((6 * c) + 1)) (G.2.2.2.2.2 ((6 * c) + 2))).1)]) (b := 76) dL_law_514 rfl (k_RL_47 _) rfl ⟨by decide, by decide⟩ ⟨by decide, by decide⟩ (Or.inl rfl) rfl (Nat.le_of_ble_eq_true rfl) rfl rfl rfl (q_there (hM.fr hf1) hw (by omega)) (fun r514 M514 z => ?_)
  obtain ⟨I2, J2, t2, rfl, rfl, hM2, hf2⟩ := z
  show zV G (eL_law room_1) (90, 5102) 517 [(0, .ref 1301), (1, .ref 0), (2, .ref 76), (3, .int (nI (6 * c)))] [.int ((op_there S (G.2.2.2.2.2 ((6 * c) + 1)) (G.2.2.2.2.2 ((6 * c) + 2))).1), .int ((op_there S (G.2.2.2.2.2 ((6 * c) + 1)) (G.2.2.2.2.2 ((6 * c) + 2))).1)] (mm I2 J2 t2) _
  refine zV_icmp_eq (tgt := 1788) dL_law_517 rfl rfl  (fun _ => ?_) (fun z => absurd z (fun z => z rfl))
  exact k _ _ _ _ (hC1.fr (B := B + 4) (w_there hw (by omega)) hf2) hM2 ((w_there hw (by omega)).up (by omega) (by omega))
set_option maxRecDepth 100000 in
theorem law_can {G : mG} {I : Nat → Nat → Int32} {J : Nat → Nat → Int64} {t c B : Nat} {S : aS} {Q : Option Value → mM → Prop} (hC : InvC I S) (hM : InvM I S) (hw : wfS B S) (hB : B + 242 < 1000000) (hL : G.2.2.2.2.1 ≤ 100000) (hc : 6 * c + 5 < G.2.2.2.2.1) (k : ∀ I' J' t' S', InvC I' S' → InvM I' S' → wfS (B + 242) S' → zV G (eL_law room_1) (90, 5102) 1788 [(0, .ref 1301), (1, .ref 0), (2, .ref 76), (3, .int (nI (6 * c)))] [] (mm I' J' t') Q) : zV G (eL_law room_1) (90, 5102) 522 [(0, .ref 1301), (1, .ref 0), (2, .ref 76), (3, .int (nI (6 * c)))] [] (mm I J t) Q := by
  refine zV_aload_n dL_law_522 rfl 1 rfl rfl ?_
  refine zV_aload_n dL_law_523 rfl 0 rfl rfl ?_
  refine zV_iload_n dL_law_524 rfl 3 rfl rfl ?_
  refine zV_iconst (v := (nI 1)) dL_law_525 rfl rfl ?_
  refine zA_iadd (z := (nI ((6 * c) + 1))) dL_law_526 rfl  (nI_add _ _) ?_
  refine zV_script ((6 * c) + 1) dL_law_527 rfl rfl (by omega) hL ?_
  refine zV_aload_n dL_law_528 rfl 0 rfl rfl ?_
  refine zV_iload_n dL_law_529 rfl 3 rfl rfl ?_
  refine zV_iconst (v := (nI 2)) dL_law_530 rfl rfl ?_
  refine zA_iadd (z := (nI ((6 * c) + 2))) dL_law_531 rfl  (nI_add _ _) ?_
  refine zV_script ((6 * c) + 2) dL_law_532 rfl rfl (by omega) hL ?_
  refine zV_callV (E' := eX6_can (g_rmv 4)) (av := [.int (G.2.2.2.2.2 ((6 * c) + 1)), .int (G.2.2.2.2.2 ((6 * c) + 2))]) (st := []) (b := 0) dL_law_533 rfl (k_RL_48 _) rfl ⟨by decide, by decide⟩ ⟨by decide, by decide⟩ (Or.inl rfl) rfl (Nat.le_of_ble_eq_true rfl) rfl rfl rfl (p_can hC hw) (fun r533 M533 z => ?_)
  obtain ⟨I1, J1, t1, rfl, rfl, hC1, hf1⟩ := z
  show zV G (eL_law room_1) (90, 5102) 536 [(0, .ref 1301), (1, .ref 0), (2, .ref 76), (3, .int (nI (6 * c)))] [.int ((op_can S (G.2.2.2.2.2 ((6 * c) + 1)) (G.2.2.2.2.2 ((6 * c) + 2))).1)] (mm I1 J1 t1) _
  refine zV_aload_n dL_law_536 rfl 2 rfl rfl ?_
  refine zV_aload_n dL_law_537 rfl 0 rfl rfl ?_
  refine zV_iload_n dL_law_538 rfl 3 rfl rfl ?_
  refine zV_iconst (v := (nI 1)) dL_law_539 rfl rfl ?_
  refine zA_iadd (z := (nI ((6 * c) + 1))) dL_law_540 rfl  (nI_add _ _) ?_
  refine zV_script ((6 * c) + 1) dL_law_541 rfl rfl (by omega) hL ?_
  refine zV_aload_n dL_law_542 rfl 0 rfl rfl ?_
  refine zV_iload_n dL_law_543 rfl 3 rfl rfl ?_
  refine zV_iconst (v := (nI 2)) dL_law_544 rfl rfl ?_
  refine zA_iadd (z := (nI ((6 * c) + 2))) dL_law_545 rfl  (nI_add _ _) ?_
  refine zV_script ((6 * c) + 2) dL_law_546 rfl rfl (by omega) hL ?_
  refine zV_callV (E' := eX7_can (g_rmv 6)) (av := [.int (G.2.2.2.2.2 ((6 * c) + 1)), .int (G.2.2.2.2.2 ((6 * c) + 2))]) (st := [.int ((op_can S (G.2.2.2.2.2 ((6 * c) + 1)) (G.2.2.2.2.2 ((6 * c) + 2))).1)]) (b := 76) dL_law_547 rfl (k_RL_51 _) rfl ⟨by decide, by decide⟩ ⟨by decide, by decide⟩ (Or.inl rfl) rfl (Nat.le_of_ble_eq_true rfl) rfl rfl rfl (q_can (hM.fr hf1) hw) (fun r547 M547 z => ?_)
  obtain ⟨I2, J2, t2, rfl, rfl, hM2, hf2⟩ := z
  show zV G (eL_law room_1) (90, 5102) 550 [(0, .ref 1301), (1, .ref 0), (2, .ref 76), (3, .int (nI (6 * c)))] [.int ((op_can S (G.2.2.2.2.2 ((6 * c) + 1)) (G.2.2.2.2.2 ((6 * c) + 2))).1), .int ((op_can S (G.2.2.2.2.2 ((6 * c) + 1)) (G.2.2.2.2.2 ((6 * c) + 2))).1)] (mm I2 J2 t2) _
  refine zV_icmp_eq (tgt := 1788) dL_law_550 rfl rfl  (fun _ => ?_) (fun z => absurd z (fun z => z rfl))
  exact k _ _ _ _ (hC1.fr (B := B + 0) (w_can hw) hf2) hM2 ((w_can hw).up (by omega) (by omega))
set_option maxRecDepth 100000 in
theorem law_with {G : mG} {I : Nat → Nat → Int32} {J : Nat → Nat → Int64} {t c B : Nat} {S : aS} {Q : Option Value → mM → Prop} (hC : InvC I S) (hM : InvM I S) (hw : wfS B S) (hB : B + 242 < 1000000) (hL : G.2.2.2.2.1 ≤ 100000) (hc : 6 * c + 5 < G.2.2.2.2.1) (k : ∀ I' J' t' S', InvC I' S' → InvM I' S' → wfS (B + 242) S' → zV G (eL_law room_1) (90, 5102) 1788 [(0, .ref 1301), (1, .ref 0), (2, .ref 76), (3, .int (nI (6 * c)))] [] (mm I' J' t') Q) : zV G (eL_law room_1) (90, 5102) 555 [(0, .ref 1301), (1, .ref 0), (2, .ref 76), (3, .int (nI (6 * c)))] [] (mm I J t) Q := by
  refine zV_aload_n dL_law_555 rfl 1 rfl rfl ?_
  refine zV_aload_n dL_law_556 rfl 0 rfl rfl ?_
  refine zV_iload_n dL_law_557 rfl 3 rfl rfl ?_
  refine zV_iconst (v := (nI 1)) dL_law_558 rfl rfl ?_
  refine zA_iadd (z := (nI ((6 * c) + 1))) dL_law_559 rfl  (nI_add _ _) ?_
  refine zV_script ((6 * c) + 1) dL_law_560 rfl rfl (by omega) hL ?_
  refine zV_aload_n dL_law_561 rfl 0 rfl rfl ?_
  refine zV_iload_n dL_law_562 rfl 3 rfl rfl ?_
  refine zV_iconst (v := (nI 2)) dL_law_563 rfl rfl ?_
  refine zA_iadd (z := (nI ((6 * c) + 2))) dL_law_564 rfl  (nI_add _ _) ?_
  refine zV_script ((6 * c) + 2) dL_law_565 rfl rfl (by omega) hL ?_
  refine zV_callV (E' := eX6_with (g_rmv 4)) (av := [.int (G.2.2.2.2.2 ((6 * c) + 1)), .int (G.2.2.2.2.2 ((6 * c) + 2))]) (st := []) (b := 0) dL_law_566 rfl (k_RL_52 _) rfl ⟨by decide, by decide⟩ ⟨by decide, by decide⟩ (Or.inl rfl) rfl (Nat.le_of_ble_eq_true rfl) rfl rfl rfl (p_with hC hw) (fun r566 M566 z => ?_)
  obtain ⟨I1, J1, t1, rfl, rfl, hC1, hf1⟩ := z
  show zV G (eL_law room_1) (90, 5102) 569 [(0, .ref 1301), (1, .ref 0), (2, .ref 76), (3, .int (nI (6 * c)))] [.int ((op_with S (G.2.2.2.2.2 ((6 * c) + 1)) (G.2.2.2.2.2 ((6 * c) + 2))).1)] (mm I1 J1 t1) _
  refine zV_aload_n dL_law_569 rfl 2 rfl rfl ?_
  refine zV_aload_n dL_law_570 rfl 0 rfl rfl ?_
  refine zV_iload_n dL_law_571 rfl 3 rfl rfl ?_
  refine zV_iconst (v := (nI 1)) dL_law_572 rfl rfl ?_
  refine zA_iadd (z := (nI ((6 * c) + 1))) dL_law_573 rfl  (nI_add _ _) ?_
  refine zV_script ((6 * c) + 1) dL_law_574 rfl rfl (by omega) hL ?_
  refine zV_aload_n dL_law_575 rfl 0 rfl rfl ?_
  refine zV_iload_n dL_law_576 rfl 3 rfl rfl ?_
  refine zV_iconst (v := (nI 2)) dL_law_577 rfl rfl ?_
  refine zA_iadd (z := (nI ((6 * c) + 2))) dL_law_578 rfl  (nI_add _ _) ?_
  refine zV_script ((6 * c) + 2) dL_law_579 rfl rfl (by omega) hL ?_
  refine zV_callV (E' := eX7_with (g_rmv 6)) (av := [.int (G.2.2.2.2.2 ((6 * c) + 1)), .int (G.2.2.2.2.2 ((6 * c) + 2))]) (st := [.int ((op_with S (G.2.2.2.2.2 ((6 * c) + 1)) (G.2.2.2.2.2 ((6 * c) + 2))).1)]) (b := 76) dL_law_580 rfl (k_RL_55 _) rfl ⟨by decide, by decide⟩ ⟨by decide, by decide⟩ (Or.inl rfl) rfl (Nat.le_of_ble_eq_true rfl) rfl rfl rfl (q_with (hM.fr hf1) hw) (fun r580 M580 z => ?_)
  obtain ⟨I2, J2, t2, rfl, rfl, hM2, hf2⟩ := z
  show zV G (eL_law room_1) (90, 5102) 583 [(0, .ref 1301), (1, .ref 0), (2, .ref 76), (3, .int (nI (6 * c)))] [.int ((op_with S (G.2.2.2.2.2 ((6 * c) + 1)) (G.2.2.2.2.2 ((6 * c) + 2))).1), .int ((op_with S (G.2.2.2.2.2 ((6 * c) + 1)) (G.2.2.2.2.2 ((6 * c) + 2))).1)] (mm I2 J2 t2) _
  refine zV_icmp_eq (tgt := 1788) dL_law_583 rfl rfl  (fun _ => ?_) (fun z => absurd z (fun z => z rfl))
  exact k _ _ _ _ (hC1.fr (B := B + 0) (w_with hw) hf2) hM2 ((w_with hw).up (by omega) (by omega))
set_option maxRecDepth 100000 in
theorem law_sums {G : mG} {I : Nat → Nat → Int32} {J : Nat → Nat → Int64} {t c B : Nat} {S : aS} {Q : Option Value → mM → Prop} (hC : InvC I S) (hM : InvM I S) (hw : wfS B S) (hB : B + 242 < 1000000) (hL : G.2.2.2.2.1 ≤ 100000) (hc : 6 * c + 5 < G.2.2.2.2.1) (k : ∀ I' J' t' S', InvC I' S' → InvM I' S' → wfS (B + 242) S' → zV G (eL_law room_1) (90, 5102) 1788 [(0, .ref 1301), (1, .ref 0), (2, .ref 76), (3, .int (nI (6 * c)))] [] (mm I' J' t') Q) : zV G (eL_law room_1) (90, 5102) 588 [(0, .ref 1301), (1, .ref 0), (2, .ref 76), (3, .int (nI (6 * c)))] [] (mm I J t) Q := by
  refine zV_aload_n dL_law_588 rfl 1 rfl rfl ?_
  refine zV_aload_n dL_law_589 rfl 0 rfl rfl ?_
  refine zV_iload_n dL_law_590 rfl 3 rfl rfl ?_
  refine zV_iconst (v := (nI 1)) dL_law_591 rfl rfl ?_
  refine zA_iadd (z := (nI ((6 * c) + 1))) dL_law_592 rfl  (nI_add _ _) ?_
  refine zV_script ((6 * c) + 1) dL_law_593 rfl rfl (by omega) hL ?_
  refine zV_callV (E' := eX6_sums (g_rmv 4)) (av := [.int (G.2.2.2.2.2 ((6 * c) + 1))]) (st := []) (b := 0) dL_law_594 rfl (k_RL_56 _) rfl ⟨by decide, by decide⟩ ⟨by decide, by decide⟩ (Or.inl rfl) rfl (Nat.le_of_ble_eq_true rfl) rfl rfl rfl (p_sums hC hw) (fun r594 M594 z => ?_)
  obtain ⟨I1, J1, t1, rfl, rfl, hC1, hf1⟩ := z
  show zV G (eL_law room_1) (90, 5102) 597 [(0, .ref 1301), (1, .ref 0), (2, .ref 76), (3, .int (nI (6 * c)))] [.int ((op_sums S (G.2.2.2.2.2 ((6 * c) + 1))).1)] (mm I1 J1 t1) _
  refine zV_aload_n dL_law_597 rfl 2 rfl rfl ?_
  refine zV_aload_n dL_law_598 rfl 0 rfl rfl ?_
  refine zV_iload_n dL_law_599 rfl 3 rfl rfl ?_
  refine zV_iconst (v := (nI 1)) dL_law_600 rfl rfl ?_
  refine zA_iadd (z := (nI ((6 * c) + 1))) dL_law_601 rfl  (nI_add _ _) ?_
  refine zV_script ((6 * c) + 1) dL_law_602 rfl rfl (by omega) hL ?_
  refine zV_callV (E' := eX7_sums (g_rmv 6)) (av := [.int (G.2.2.2.2.2 ((6 * c) + 1))]) (st := [.int ((op_sums S (G.2.2.2.2.2 ((6 * c) + 1))).1)]) (b := 76) dL_law_603 rfl (k_RL_59 _) rfl ⟨by decide, by decide⟩ ⟨by decide, by decide⟩ (Or.inl rfl) rfl (Nat.le_of_ble_eq_true rfl) rfl rfl rfl (q_sums (hM.fr hf1) hw) (fun r603 M603 z => ?_)
  obtain ⟨I2, J2, t2, rfl, rfl, hM2, hf2⟩ := z
  show zV G (eL_law room_1) (90, 5102) 606 [(0, .ref 1301), (1, .ref 0), (2, .ref 76), (3, .int (nI (6 * c)))] [.int ((op_sums S (G.2.2.2.2.2 ((6 * c) + 1))).1), .int ((op_sums S (G.2.2.2.2.2 ((6 * c) + 1))).1)] (mm I2 J2 t2) _
  refine zV_icmp_eq (tgt := 1788) dL_law_606 rfl rfl  (fun _ => ?_) (fun z => absurd z (fun z => z rfl))
  exact k _ _ _ _ (hC1.fr (B := B + 0) (w_sums hw) hf2) hM2 ((w_sums hw).up (by omega) (by omega))
set_option maxRecDepth 100000 in
theorem law_cannot {G : mG} {I : Nat → Nat → Int32} {J : Nat → Nat → Int64} {t c B : Nat} {S : aS} {Q : Option Value → mM → Prop} (hC : InvC I S) (hM : InvM I S) (hw : wfS B S) (hB : B + 242 < 1000000) (hL : G.2.2.2.2.1 ≤ 100000) (hc : 6 * c + 5 < G.2.2.2.2.1) (k : ∀ I' J' t' S', InvC I' S' → InvM I' S' → wfS (B + 242) S' → zV G (eL_law room_1) (90, 5102) 1788 [(0, .ref 1301), (1, .ref 0), (2, .ref 76), (3, .int (nI (6 * c)))] [] (mm I' J' t') Q) : zV G (eL_law room_1) (90, 5102) 611 [(0, .ref 1301), (1, .ref 0), (2, .ref 76), (3, .int (nI (6 * c)))] [] (mm I J t) Q := by
  refine zV_aload_n dL_law_611 rfl 1 rfl rfl ?_
  refine zV_aload_n dL_law_612 rfl 0 rfl rfl ?_
  refine zV_iload_n dL_law_613 rfl 3 rfl rfl ?_
  refine zV_iconst (v := (nI 1)) dL_law_614 rfl rfl ?_
  refine zA_iadd (z := (nI ((6 * c) + 1))) dL_law_615 rfl  (nI_add _ _) ?_
  refine zV_script ((6 * c) + 1) dL_law_616 rfl rfl (by omega) hL ?_
  refine zV_callV (E' := eX6_cannot (g_rmv 4)) (av := [.int (G.2.2.2.2.2 ((6 * c) + 1))]) (st := []) (b := 0) dL_law_617 rfl (k_RL_60 _) rfl ⟨by decide, by decide⟩ ⟨by decide, by decide⟩ (Or.inl rfl) rfl (Nat.le_of_ble_eq_true rfl) rfl rfl rfl (p_cannot hC hw) (fun r617 M617 z => ?_)
  obtain ⟨I1, J1, t1, rfl, rfl, hC1, hf1⟩ := z
  show zV G (eL_law room_1) (90, 5102) 620 [(0, .ref 1301), (1, .ref 0), (2, .ref 76), (3, .int (nI (6 * c)))] [.int ((op_cannot S (G.2.2.2.2.2 ((6 * c) + 1))).1)] (mm I1 J1 t1) _
  refine zV_aload_n dL_law_620 rfl 2 rfl rfl ?_
  refine zV_aload_n dL_law_621 rfl 0 rfl rfl ?_
  refine zV_iload_n dL_law_622 rfl 3 rfl rfl ?_
  refine zV_iconst (v := (nI 1)) dL_law_623 rfl rfl ?_
  refine zA_iadd (z := (nI ((6 * c) + 1))) dL_law_624 rfl  (nI_add _ _) ?_
  refine zV_script ((6 * c) + 1) dL_law_625 rfl rfl (by omega) hL ?_
  refine zV_callV (E' := eX7_cannot (g_rmv 6)) (av := [.int (G.2.2.2.2.2 ((6 * c) + 1))]) (st := [.int ((op_cannot S (G.2.2.2.2.2 ((6 * c) + 1))).1)]) (b := 76) dL_law_626 rfl (k_RL_63 _) rfl ⟨by decide, by decide⟩ ⟨by decide, by decide⟩ (Or.inl rfl) rfl (Nat.le_of_ble_eq_true rfl) rfl rfl rfl (q_cannot (hM.fr hf1) hw) (fun r626 M626 z => ?_)
  obtain ⟨I2, J2, t2, rfl, rfl, hM2, hf2⟩ := z
  show zV G (eL_law room_1) (90, 5102) 629 [(0, .ref 1301), (1, .ref 0), (2, .ref 76), (3, .int (nI (6 * c)))] [.int ((op_cannot S (G.2.2.2.2.2 ((6 * c) + 1))).1), .int ((op_cannot S (G.2.2.2.2.2 ((6 * c) + 1))).1)] (mm I2 J2 t2) _
  refine zV_icmp_eq (tgt := 1788) dL_law_629 rfl rfl  (fun _ => ?_) (fun z => absurd z (fun z => z rfl))
  exact k _ _ _ _ (hC1.fr (B := B + 0) (w_cannot hw) hf2) hM2 ((w_cannot hw).up (by omega) (by omega))
set_option maxRecDepth 100000 in
theorem law_cost {G : mG} {I : Nat → Nat → Int32} {J : Nat → Nat → Int64} {t c B : Nat} {S : aS} {Q : Option Value → mM → Prop} (hC : InvC I S) (hM : InvM I S) (hw : wfS B S) (hB : B + 242 < 1000000) (hL : G.2.2.2.2.1 ≤ 100000) (hc : 6 * c + 5 < G.2.2.2.2.1) (k : ∀ I' J' t' S', InvC I' S' → InvM I' S' → wfS (B + 242) S' → zV G (eL_law room_1) (90, 5102) 1788 [(0, .ref 1301), (1, .ref 0), (2, .ref 76), (3, .int (nI (6 * c)))] [] (mm I' J' t') Q) : zV G (eL_law room_1) (90, 5102) 634 [(0, .ref 1301), (1, .ref 0), (2, .ref 76), (3, .int (nI (6 * c)))] [] (mm I J t) Q := by
  refine zV_aload_n dL_law_634 rfl 1 rfl rfl ?_
  refine zV_aload_n dL_law_635 rfl 0 rfl rfl ?_
  refine zV_iload_n dL_law_636 rfl 3 rfl rfl ?_
  refine zV_iconst (v := (nI 1)) dL_law_637 rfl rfl ?_
  refine zA_iadd (z := (nI ((6 * c) + 1))) dL_law_638 rfl  (nI_add _ _) ?_
  refine zV_script ((6 * c) + 1) dL_law_639 rfl rfl (by omega) hL ?_
  refine zV_aload_n dL_law_640 rfl 0 rfl rfl ?_
  refine zV_iload_n dL_law_641 rfl 3 rfl rfl ?_
  refine zV_iconst (v := (nI 2)) dL_law_642 rfl rfl ?_
  refine zA_iadd (z := (nI ((6 * c) + 2))) dL_law_643 rfl  (nI_add _ _) ?_
  refine zV_script ((6 * c) + 2) dL_law_644 rfl rfl (by omega) hL ?_
  refine zV_aload_n dL_law_645 rfl 0 rfl rfl ?_
  refine zV_iload_n dL_law_646 rfl 3 rfl rfl ?_
  refine zV_iconst (v := (nI 3)) dL_law_647 rfl rfl ?_
  refine zA_iadd (z := (nI ((6 * c) + 3))) dL_law_648 rfl  (nI_add _ _) ?_
  refine zV_script ((6 * c) + 3) dL_law_649 rfl rfl (by omega) hL ?_
  refine zV_callV (E' := eX6_cost (g_rmv 6)) (av := [.int (G.2.2.2.2.2 ((6 * c) + 1)), .int (G.2.2.2.2.2 ((6 * c) + 2)), .int (G.2.2.2.2.2 ((6 * c) + 3))]) (st := []) (b := 0) dL_law_650 rfl (k_RL_64 _) rfl ⟨by decide, by decide⟩ ⟨by decide, by decide⟩ (Or.inl rfl) rfl (Nat.le_of_ble_eq_true rfl) rfl rfl rfl (p_cost hC hw) (fun r650 M650 z => ?_)
  obtain ⟨I1, J1, t1, rfl, rfl, hC1, hf1⟩ := z
  show zV G (eL_law room_1) (90, 5102) 653 [(0, .ref 1301), (1, .ref 0), (2, .ref 76), (3, .int (nI (6 * c)))] [.int ((op_cost S (G.2.2.2.2.2 ((6 * c) + 1)) (G.2.2.2.2.2 ((6 * c) + 2)) (G.2.2.2.2.2 ((6 * c) + 3))).1)] (mm I1 J1 t1) _
  refine zV_aload_n dL_law_653 rfl 2 rfl rfl ?_
  refine zV_aload_n dL_law_654 rfl 0 rfl rfl ?_
  refine zV_iload_n dL_law_655 rfl 3 rfl rfl ?_
  refine zV_iconst (v := (nI 1)) dL_law_656 rfl rfl ?_
  refine zA_iadd (z := (nI ((6 * c) + 1))) dL_law_657 rfl  (nI_add _ _) ?_
  refine zV_script ((6 * c) + 1) dL_law_658 rfl rfl (by omega) hL ?_
  refine zV_aload_n dL_law_659 rfl 0 rfl rfl ?_
  refine zV_iload_n dL_law_660 rfl 3 rfl rfl ?_
  refine zV_iconst (v := (nI 2)) dL_law_661 rfl rfl ?_
  refine zA_iadd (z := (nI ((6 * c) + 2))) dL_law_662 rfl  (nI_add _ _) ?_
  refine zV_script ((6 * c) + 2) dL_law_663 rfl rfl (by omega) hL ?_
  refine zV_aload_n dL_law_664 rfl 0 rfl rfl ?_
  refine zV_iload_n dL_law_665 rfl 3 rfl rfl ?_
  refine zV_iconst (v := (nI 3)) dL_law_666 rfl rfl ?_
  refine zA_iadd (z := (nI ((6 * c) + 3))) dL_law_667 rfl  (nI_add _ _) ?_
  refine zV_script ((6 * c) + 3) dL_law_668 rfl rfl (by omega) hL ?_
  refine zV_callV (E' := eX7_cost (g_rmv 7)) (av := [.int (G.2.2.2.2.2 ((6 * c) + 1)), .int (G.2.2.2.2.2 ((6 * c) + 2)), .int (G.2.2.2.2.2 ((6 * c) + 3))]) (st := [.int ((op_cost S (G.2.2.2.2.2 ((6 * c) + 1)) (G.2.2.2.2.2 ((6 * c) + 2)) (G.2.2.2.2.2 ((6 * c) + 3))).1)]) (b := 76) dL_law_669 rfl (k_RL_67 _) rfl ⟨by decide, by decide⟩ ⟨by decide, by decide⟩ (Or.inl rfl) rfl (Nat.le_of_ble_eq_true rfl) rfl rfl rfl (q_cost (hM.fr hf1) hw) (fun r669 M669 z => ?_)
  obtain ⟨I2, J2, t2, rfl, rfl, hM2, hf2⟩ := z
  show zV G (eL_law room_1) (90, 5102) 672 [(0, .ref 1301), (1, .ref 0), (2, .ref 76), (3, .int (nI (6 * c)))] [.int ((op_cost S (G.2.2.2.2.2 ((6 * c) + 1)) (G.2.2.2.2.2 ((6 * c) + 2)) (G.2.2.2.2.2 ((6 * c) + 3))).1), .int ((op_cost S (G.2.2.2.2.2 ((6 * c) + 1)) (G.2.2.2.2.2 ((6 * c) + 2)) (G.2.2.2.2.2 ((6 * c) + 3))).1)] (mm I2 J2 t2) _
  refine zV_icmp_eq (tgt := 1788) dL_law_672 rfl rfl  (fun _ => ?_) (fun z => absurd z (fun z => z rfl))
  exact k _ _ _ _ (hC1.fr (B := B + 0) (w_cost hw) hf2) hM2 ((w_cost hw).up (by omega) (by omega))
set_option maxRecDepth 100000 in
theorem law_given {G : mG} {I : Nat → Nat → Int32} {J : Nat → Nat → Int64} {t c B : Nat} {S : aS} {Q : Option Value → mM → Prop} (hC : InvC I S) (hM : InvM I S) (hw : wfS B S) (hB : B + 242 < 1000000) (hL : G.2.2.2.2.1 ≤ 100000) (hc : 6 * c + 5 < G.2.2.2.2.1) (k : ∀ I' J' t' S', InvC I' S' → InvM I' S' → wfS (B + 242) S' → zV G (eL_law room_1) (90, 5102) 1788 [(0, .ref 1301), (1, .ref 0), (2, .ref 76), (3, .int (nI (6 * c)))] [] (mm I' J' t') Q) : zV G (eL_law room_1) (90, 5102) 677 [(0, .ref 1301), (1, .ref 0), (2, .ref 76), (3, .int (nI (6 * c)))] [] (mm I J t) Q := by
  refine zV_aload_n dL_law_677 rfl 1 rfl rfl ?_
  refine zV_aload_n dL_law_678 rfl 0 rfl rfl ?_
  refine zV_iload_n dL_law_679 rfl 3 rfl rfl ?_
  refine zV_iconst (v := (nI 1)) dL_law_680 rfl rfl ?_
  refine zA_iadd (z := (nI ((6 * c) + 1))) dL_law_681 rfl  (nI_add _ _) ?_
  refine zV_script ((6 * c) + 1) dL_law_682 rfl rfl (by omega) hL ?_
  refine zV_aload_n dL_law_683 rfl 0 rfl rfl ?_
  refine zV_iload_n dL_law_684 rfl 3 rfl rfl ?_
  refine zV_iconst (v := (nI 2)) dL_law_685 rfl rfl ?_
  refine zA_iadd (z := (nI ((6 * c) + 2))) dL_law_686 rfl  (nI_add _ _) ?_
  refine zV_script ((6 * c) + 2) dL_law_687 rfl rfl (by omega) hL ?_
  refine zV_aload_n dL_law_688 rfl 0 rfl rfl ?_
  refine zV_iload_n dL_law_689 rfl 3 rfl rfl ?_
  refine zV_iconst (v := (nI 3)) dL_law_690 rfl rfl ?_
  refine zA_iadd (z := (nI ((6 * c) + 3))) dL_law_691 rfl  (nI_add _ _) ?_
  refine zV_script ((6 * c) + 3) dL_law_692 rfl rfl (by omega) hL ?_
  refine zV_callV (E' := eX6_given (g_rmv 6)) (av := [.int (G.2.2.2.2.2 ((6 * c) + 1)), .int (G.2.2.2.2.2 ((6 * c) + 2)), .int (G.2.2.2.2.2 ((6 * c) + 3))]) (st := []) (b := 0) dL_law_693 rfl (k_RL_68 _) rfl ⟨by decide, by decide⟩ ⟨by decide, by decide⟩ (Or.inl rfl) rfl (Nat.le_of_ble_eq_true rfl) rfl rfl rfl (p_given hC hw) (fun r693 M693 z => ?_)
  obtain ⟨I1, J1, t1, rfl, rfl, hC1, hf1⟩ := z
  show zV G (eL_law room_1) (90, 5102) 696 [(0, .ref 1301), (1, .ref 0), (2, .ref 76), (3, .int (nI (6 * c)))] [.int ((op_given S (G.2.2.2.2.2 ((6 * c) + 1)) (G.2.2.2.2.2 ((6 * c) + 2)) (G.2.2.2.2.2 ((6 * c) + 3))).1)] (mm I1 J1 t1) _
  refine zV_aload_n dL_law_696 rfl 2 rfl rfl ?_
  refine zV_aload_n dL_law_697 rfl 0 rfl rfl ?_
  refine zV_iload_n dL_law_698 rfl 3 rfl rfl ?_
  refine zV_iconst (v := (nI 1)) dL_law_699 rfl rfl ?_
  refine zA_iadd (z := (nI ((6 * c) + 1))) dL_law_700 rfl  (nI_add _ _) ?_
  refine zV_script ((6 * c) + 1) dL_law_701 rfl rfl (by omega) hL ?_
  refine zV_aload_n dL_law_702 rfl 0 rfl rfl ?_
  refine zV_iload_n dL_law_703 rfl 3 rfl rfl ?_
  refine zV_iconst (v := (nI 2)) dL_law_704 rfl rfl ?_
  refine zA_iadd (z := (nI ((6 * c) + 2))) dL_law_705 rfl  (nI_add _ _) ?_
  refine zV_script ((6 * c) + 2) dL_law_706 rfl rfl (by omega) hL ?_
  refine zV_aload_n dL_law_707 rfl 0 rfl rfl ?_
  refine zV_iload_n dL_law_708 rfl 3 rfl rfl ?_
  refine zV_iconst (v := (nI 3)) dL_law_709 rfl rfl ?_
  refine zA_iadd (z := (nI ((6 * c) + 3))) dL_law_710 rfl  (nI_add _ _) ?_
  refine zV_script ((6 * c) + 3) dL_law_711 rfl rfl (by omega) hL ?_
  refine zV_callV (E' := eX7_given (g_rmv 7)) (av := [.int (G.2.2.2.2.2 ((6 * c) + 1)), .int (G.2.2.2.2.2 ((6 * c) + 2)), .int (G.2.2.2.2.2 ((6 * c) + 3))]) (st := [.int ((op_given S (G.2.2.2.2.2 ((6 * c) + 1)) (G.2.2.2.2.2 ((6 * c) + 2)) (G.2.2.2.2.2 ((6 * c) + 3))).1)]) (b := 76) dL_law_712 rfl (k_RL_71 _) rfl ⟨by decide, by decide⟩ ⟨by decide, by decide⟩ (Or.inl rfl) rfl (Nat.le_of_ble_eq_true rfl) rfl rfl rfl (q_given (hM.fr hf1) hw) (fun r712 M712 z => ?_)
  obtain ⟨I2, J2, t2, rfl, rfl, hM2, hf2⟩ := z
  show zV G (eL_law room_1) (90, 5102) 715 [(0, .ref 1301), (1, .ref 0), (2, .ref 76), (3, .int (nI (6 * c)))] [.int ((op_given S (G.2.2.2.2.2 ((6 * c) + 1)) (G.2.2.2.2.2 ((6 * c) + 2)) (G.2.2.2.2.2 ((6 * c) + 3))).1), .int ((op_given S (G.2.2.2.2.2 ((6 * c) + 1)) (G.2.2.2.2.2 ((6 * c) + 2)) (G.2.2.2.2.2 ((6 * c) + 3))).1)] (mm I2 J2 t2) _
  refine zV_icmp_eq (tgt := 1788) dL_law_715 rfl rfl  (fun _ => ?_) (fun z => absurd z (fun z => z rfl))
  exact k _ _ _ _ (hC1.fr (B := B + 0) (w_given hw) hf2) hM2 ((w_given hw).up (by omega) (by omega))
set_option maxRecDepth 100000 in
theorem law_back {G : mG} {I : Nat → Nat → Int32} {J : Nat → Nat → Int64} {t c B : Nat} {S : aS} {Q : Option Value → mM → Prop} (hC : InvC I S) (hM : InvM I S) (hw : wfS B S) (hB : B + 242 < 1000000) (hL : G.2.2.2.2.1 ≤ 100000) (hc : 6 * c + 5 < G.2.2.2.2.1) (k : ∀ I' J' t' S', InvC I' S' → InvM I' S' → wfS (B + 242) S' → zV G (eL_law room_1) (90, 5102) 1788 [(0, .ref 1301), (1, .ref 0), (2, .ref 76), (3, .int (nI (6 * c)))] [] (mm I' J' t') Q) : zV G (eL_law room_1) (90, 5102) 720 [(0, .ref 1301), (1, .ref 0), (2, .ref 76), (3, .int (nI (6 * c)))] [] (mm I J t) Q := by
  refine zV_aload_n dL_law_720 rfl 1 rfl rfl ?_
  refine zV_aload_n dL_law_721 rfl 0 rfl rfl ?_
  refine zV_iload_n dL_law_722 rfl 3 rfl rfl ?_
  refine zV_iconst (v := (nI 1)) dL_law_723 rfl rfl ?_
  refine zA_iadd (z := (nI ((6 * c) + 1))) dL_law_724 rfl  (nI_add _ _) ?_
  refine zV_script ((6 * c) + 1) dL_law_725 rfl rfl (by omega) hL ?_
  refine zV_aload_n dL_law_726 rfl 0 rfl rfl ?_
  refine zV_iload_n dL_law_727 rfl 3 rfl rfl ?_
  refine zV_iconst (v := (nI 2)) dL_law_728 rfl rfl ?_
  refine zA_iadd (z := (nI ((6 * c) + 2))) dL_law_729 rfl  (nI_add _ _) ?_
  refine zV_script ((6 * c) + 2) dL_law_730 rfl rfl (by omega) hL ?_
  refine zV_aload_n dL_law_731 rfl 0 rfl rfl ?_
  refine zV_iload_n dL_law_732 rfl 3 rfl rfl ?_
  refine zV_iconst (v := (nI 3)) dL_law_733 rfl rfl ?_
  refine zA_iadd (z := (nI ((6 * c) + 3))) dL_law_734 rfl  (nI_add _ _) ?_
  refine zV_script ((6 * c) + 3) dL_law_735 rfl rfl (by omega) hL ?_
  refine zV_callV (E' := eX6_back (g_rmv 6)) (av := [.int (G.2.2.2.2.2 ((6 * c) + 1)), .int (G.2.2.2.2.2 ((6 * c) + 2)), .int (G.2.2.2.2.2 ((6 * c) + 3))]) (st := []) (b := 0) dL_law_736 rfl (k_RL_72 _) rfl ⟨by decide, by decide⟩ ⟨by decide, by decide⟩ (Or.inl rfl) rfl (Nat.le_of_ble_eq_true rfl) rfl rfl rfl (p_back hC hw) (fun r736 M736 z => ?_)
  obtain ⟨I1, J1, t1, rfl, rfl, hC1, hf1⟩ := z
  show zV G (eL_law room_1) (90, 5102) 739 [(0, .ref 1301), (1, .ref 0), (2, .ref 76), (3, .int (nI (6 * c)))] [.int ((op_back S (G.2.2.2.2.2 ((6 * c) + 1)) (G.2.2.2.2.2 ((6 * c) + 2)) (G.2.2.2.2.2 ((6 * c) + 3))).1)] (mm I1 J1 t1) _
  refine zV_aload_n dL_law_739 rfl 2 rfl rfl ?_
  refine zV_aload_n dL_law_740 rfl 0 rfl rfl ?_
  refine zV_iload_n dL_law_741 rfl 3 rfl rfl ?_
  refine zV_iconst (v := (nI 1)) dL_law_742 rfl rfl ?_
  refine zA_iadd (z := (nI ((6 * c) + 1))) dL_law_743 rfl  (nI_add _ _) ?_
  refine zV_script ((6 * c) + 1) dL_law_744 rfl rfl (by omega) hL ?_
  refine zV_aload_n dL_law_745 rfl 0 rfl rfl ?_
  refine zV_iload_n dL_law_746 rfl 3 rfl rfl ?_
  refine zV_iconst (v := (nI 2)) dL_law_747 rfl rfl ?_
  refine zA_iadd (z := (nI ((6 * c) + 2))) dL_law_748 rfl  (nI_add _ _) ?_
  refine zV_script ((6 * c) + 2) dL_law_749 rfl rfl (by omega) hL ?_
  refine zV_aload_n dL_law_750 rfl 0 rfl rfl ?_
  refine zV_iload_n dL_law_751 rfl 3 rfl rfl ?_
  refine zV_iconst (v := (nI 3)) dL_law_752 rfl rfl ?_
  refine zA_iadd (z := (nI ((6 * c) + 3))) dL_law_753 rfl  (nI_add _ _) ?_
  refine zV_script ((6 * c) + 3) dL_law_754 rfl rfl (by omega) hL ?_
  refine zV_callV (E' := eX7_back (g_rmv 7)) (av := [.int (G.2.2.2.2.2 ((6 * c) + 1)), .int (G.2.2.2.2.2 ((6 * c) + 2)), .int (G.2.2.2.2.2 ((6 * c) + 3))]) (st := [.int ((op_back S (G.2.2.2.2.2 ((6 * c) + 1)) (G.2.2.2.2.2 ((6 * c) + 2)) (G.2.2.2.2.2 ((6 * c) + 3))).1)]) (b := 76) dL_law_755 rfl (k_RL_75 _) rfl ⟨by decide, by decide⟩ ⟨by decide, by decide⟩ (Or.inl rfl) rfl (Nat.le_of_ble_eq_true rfl) rfl rfl rfl (q_back (hM.fr hf1) hw) (fun r755 M755 z => ?_)
  obtain ⟨I2, J2, t2, rfl, rfl, hM2, hf2⟩ := z
  show zV G (eL_law room_1) (90, 5102) 758 [(0, .ref 1301), (1, .ref 0), (2, .ref 76), (3, .int (nI (6 * c)))] [.int ((op_back S (G.2.2.2.2.2 ((6 * c) + 1)) (G.2.2.2.2.2 ((6 * c) + 2)) (G.2.2.2.2.2 ((6 * c) + 3))).1), .int ((op_back S (G.2.2.2.2.2 ((6 * c) + 1)) (G.2.2.2.2.2 ((6 * c) + 2)) (G.2.2.2.2.2 ((6 * c) + 3))).1)] (mm I2 J2 t2) _
  refine zV_icmp_eq (tgt := 1788) dL_law_758 rfl rfl  (fun _ => ?_) (fun z => absurd z (fun z => z rfl))
  exact k _ _ _ _ (hC1.fr (B := B + 0) (w_back hw) hf2) hM2 ((w_back hw).up (by omega) (by omega))
set_option maxRecDepth 100000 in
theorem law_buy {G : mG} {I : Nat → Nat → Int32} {J : Nat → Nat → Int64} {t c B : Nat} {S : aS} {Q : Option Value → mM → Prop} (hC : InvC I S) (hM : InvM I S) (hw : wfS B S) (hB : B + 242 < 1000000) (hL : G.2.2.2.2.1 ≤ 100000) (hc : 6 * c + 5 < G.2.2.2.2.1) (k : ∀ I' J' t' S', InvC I' S' → InvM I' S' → wfS (B + 242) S' → zV G (eL_law room_1) (90, 5102) 1788 [(0, .ref 1301), (1, .ref 0), (2, .ref 76), (3, .int (nI (6 * c)))] [] (mm I' J' t') Q) : zV G (eL_law room_1) (90, 5102) 763 [(0, .ref 1301), (1, .ref 0), (2, .ref 76), (3, .int (nI (6 * c)))] [] (mm I J t) Q := by
  refine zV_aload_n dL_law_763 rfl 1 rfl rfl ?_
  refine zV_aload_n dL_law_764 rfl 0 rfl rfl ?_
  refine zV_iload_n dL_law_765 rfl 3 rfl rfl ?_
  refine zV_iconst (v := (nI 1)) dL_law_766 rfl rfl ?_
  refine zA_iadd (z := (nI ((6 * c) + 1))) dL_law_767 rfl  (nI_add _ _) ?_
  refine zV_script ((6 * c) + 1) dL_law_768 rfl rfl (by omega) hL ?_
  refine zV_aload_n dL_law_769 rfl 0 rfl rfl ?_
  refine zV_iload_n dL_law_770 rfl 3 rfl rfl ?_
  refine zV_iconst (v := (nI 2)) dL_law_771 rfl rfl ?_
  refine zA_iadd (z := (nI ((6 * c) + 2))) dL_law_772 rfl  (nI_add _ _) ?_
  refine zV_script ((6 * c) + 2) dL_law_773 rfl rfl (by omega) hL ?_
  refine zV_aload_n dL_law_774 rfl 0 rfl rfl ?_
  refine zV_iload_n dL_law_775 rfl 3 rfl rfl ?_
  refine zV_iconst (v := (nI 3)) dL_law_776 rfl rfl ?_
  refine zA_iadd (z := (nI ((6 * c) + 3))) dL_law_777 rfl  (nI_add _ _) ?_
  refine zV_script ((6 * c) + 3) dL_law_778 rfl rfl (by omega) hL ?_
  refine zV_callV (E' := eX6_buy (g_rmv 6)) (av := [.int (G.2.2.2.2.2 ((6 * c) + 1)), .int (G.2.2.2.2.2 ((6 * c) + 2)), .int (G.2.2.2.2.2 ((6 * c) + 3))]) (st := []) (b := 0) dL_law_779 rfl (k_RL_76 _) rfl ⟨by decide, by decide⟩ ⟨by decide, by decide⟩ (Or.inl rfl) rfl (Nat.le_of_ble_eq_true rfl) rfl rfl rfl (p_buy hC hw (by omega)) (fun r779 M779 z => ?_)
  obtain ⟨I1, J1, t1, rfl, rfl, hC1, hf1⟩ := z
  show zV G (eL_law room_1) (90, 5102) 782 [(0, .ref 1301), (1, .ref 0), (2, .ref 76), (3, .int (nI (6 * c)))] [.int ((op_buy S (G.2.2.2.2.2 ((6 * c) + 1)) (G.2.2.2.2.2 ((6 * c) + 2)) (G.2.2.2.2.2 ((6 * c) + 3))).1)] (mm I1 J1 t1) _
  refine zV_aload_n dL_law_782 rfl 2 rfl rfl ?_
  refine zV_aload_n dL_law_783 rfl 0 rfl rfl ?_
  refine zV_iload_n dL_law_784 rfl 3 rfl rfl ?_
  refine zV_iconst (v := (nI 1)) dL_law_785 rfl rfl ?_
  refine zA_iadd (z := (nI ((6 * c) + 1))) dL_law_786 rfl  (nI_add _ _) ?_
  refine zV_script ((6 * c) + 1) dL_law_787 rfl rfl (by omega) hL ?_
  refine zV_aload_n dL_law_788 rfl 0 rfl rfl ?_
  refine zV_iload_n dL_law_789 rfl 3 rfl rfl ?_
  refine zV_iconst (v := (nI 2)) dL_law_790 rfl rfl ?_
  refine zA_iadd (z := (nI ((6 * c) + 2))) dL_law_791 rfl  (nI_add _ _) ?_
  refine zV_script ((6 * c) + 2) dL_law_792 rfl rfl (by omega) hL ?_
  refine zV_aload_n dL_law_793 rfl 0 rfl rfl ?_
  refine zV_iload_n dL_law_794 rfl 3 rfl rfl ?_
  refine zV_iconst (v := (nI 3)) dL_law_795 rfl rfl ?_
  refine zA_iadd (z := (nI ((6 * c) + 3))) dL_law_796 rfl  (nI_add _ _) ?_
  refine zV_script ((6 * c) + 3) dL_law_797 rfl rfl (by omega) hL ?_
  refine zV_callV (E' := eX7_buy (g_rmv 7)) (av := [.int (G.2.2.2.2.2 ((6 * c) + 1)), .int (G.2.2.2.2.2 ((6 * c) + 2)), .int (G.2.2.2.2.2 ((6 * c) + 3))]) (st := [.int ((op_buy S (G.2.2.2.2.2 ((6 * c) + 1)) (G.2.2.2.2.2 ((6 * c) + 2)) (G.2.2.2.2.2 ((6 * c) + 3))).1)]) (b := 76) dL_law_798 rfl (k_RL_79 _) rfl ⟨by decide, by decide⟩ ⟨by decide, by decide⟩ (Or.inl rfl) rfl (Nat.le_of_ble_eq_true rfl) rfl rfl rfl (q_buy (hM.fr hf1) hw (by omega)) (fun r798 M798 z => ?_)
  obtain ⟨I2, J2, t2, rfl, rfl, hM2, hf2⟩ := z
  show zV G (eL_law room_1) (90, 5102) 801 [(0, .ref 1301), (1, .ref 0), (2, .ref 76), (3, .int (nI (6 * c)))] [.int ((op_buy S (G.2.2.2.2.2 ((6 * c) + 1)) (G.2.2.2.2.2 ((6 * c) + 2)) (G.2.2.2.2.2 ((6 * c) + 3))).1), .int ((op_buy S (G.2.2.2.2.2 ((6 * c) + 1)) (G.2.2.2.2.2 ((6 * c) + 2)) (G.2.2.2.2.2 ((6 * c) + 3))).1)] (mm I2 J2 t2) _
  refine zV_icmp_eq (tgt := 1788) dL_law_801 rfl rfl  (fun _ => ?_) (fun z => absurd z (fun z => z rfl))
  exact k _ _ _ _ (hC1.fr (B := B + 4) (w_buy hw (by omega)) hf2) hM2 ((w_buy hw (by omega)).up (by omega) (by omega))
set_option maxRecDepth 100000 in
theorem law_fewest {G : mG} {I : Nat → Nat → Int32} {J : Nat → Nat → Int64} {t c B : Nat} {S : aS} {Q : Option Value → mM → Prop} (hC : InvC I S) (hM : InvM I S) (hw : wfS B S) (hB : B + 242 < 1000000) (hL : G.2.2.2.2.1 ≤ 100000) (hc : 6 * c + 5 < G.2.2.2.2.1) (k : ∀ I' J' t' S', InvC I' S' → InvM I' S' → wfS (B + 242) S' → zV G (eL_law room_1) (90, 5102) 1788 [(0, .ref 1301), (1, .ref 0), (2, .ref 76), (3, .int (nI (6 * c)))] [] (mm I' J' t') Q) : zV G (eL_law room_1) (90, 5102) 806 [(0, .ref 1301), (1, .ref 0), (2, .ref 76), (3, .int (nI (6 * c)))] [] (mm I J t) Q := by
  refine zV_aload_n dL_law_806 rfl 1 rfl rfl ?_
  refine zV_aload_n dL_law_807 rfl 0 rfl rfl ?_
  refine zV_iload_n dL_law_808 rfl 3 rfl rfl ?_
  refine zV_iconst (v := (nI 1)) dL_law_809 rfl rfl ?_
  refine zA_iadd (z := (nI ((6 * c) + 1))) dL_law_810 rfl  (nI_add _ _) ?_
  refine zV_script ((6 * c) + 1) dL_law_811 rfl rfl (by omega) hL ?_
  refine zV_aload_n dL_law_812 rfl 0 rfl rfl ?_
  refine zV_iload_n dL_law_813 rfl 3 rfl rfl ?_
  refine zV_iconst (v := (nI 2)) dL_law_814 rfl rfl ?_
  refine zA_iadd (z := (nI ((6 * c) + 2))) dL_law_815 rfl  (nI_add _ _) ?_
  refine zV_script ((6 * c) + 2) dL_law_816 rfl rfl (by omega) hL ?_
  refine zV_aload_n dL_law_817 rfl 0 rfl rfl ?_
  refine zV_iload_n dL_law_818 rfl 3 rfl rfl ?_
  refine zV_iconst (v := (nI 3)) dL_law_819 rfl rfl ?_
  refine zA_iadd (z := (nI ((6 * c) + 3))) dL_law_820 rfl  (nI_add _ _) ?_
  refine zV_script ((6 * c) + 3) dL_law_821 rfl rfl (by omega) hL ?_
  refine zV_callV (E' := eX6_fewest (g_rmv 5)) (av := [.int (G.2.2.2.2.2 ((6 * c) + 1)), .int (G.2.2.2.2.2 ((6 * c) + 2)), .int (G.2.2.2.2.2 ((6 * c) + 3))]) (st := []) (b := 0) dL_law_822 rfl (k_RL_80 _) rfl ⟨by decide, by decide⟩ ⟨by decide, by decide⟩ (Or.inl rfl) rfl (Nat.le_of_ble_eq_true rfl) rfl rfl rfl (p_fewest hC hw) (fun r822 M822 z => ?_)
  obtain ⟨I1, J1, t1, rfl, rfl, hC1, hf1⟩ := z
  show zV G (eL_law room_1) (90, 5102) 825 [(0, .ref 1301), (1, .ref 0), (2, .ref 76), (3, .int (nI (6 * c)))] [.int ((op_fewest S (G.2.2.2.2.2 ((6 * c) + 1)) (G.2.2.2.2.2 ((6 * c) + 2)) (G.2.2.2.2.2 ((6 * c) + 3))).1)] (mm I1 J1 t1) _
  refine zV_aload_n dL_law_825 rfl 2 rfl rfl ?_
  refine zV_aload_n dL_law_826 rfl 0 rfl rfl ?_
  refine zV_iload_n dL_law_827 rfl 3 rfl rfl ?_
  refine zV_iconst (v := (nI 1)) dL_law_828 rfl rfl ?_
  refine zA_iadd (z := (nI ((6 * c) + 1))) dL_law_829 rfl  (nI_add _ _) ?_
  refine zV_script ((6 * c) + 1) dL_law_830 rfl rfl (by omega) hL ?_
  refine zV_aload_n dL_law_831 rfl 0 rfl rfl ?_
  refine zV_iload_n dL_law_832 rfl 3 rfl rfl ?_
  refine zV_iconst (v := (nI 2)) dL_law_833 rfl rfl ?_
  refine zA_iadd (z := (nI ((6 * c) + 2))) dL_law_834 rfl  (nI_add _ _) ?_
  refine zV_script ((6 * c) + 2) dL_law_835 rfl rfl (by omega) hL ?_
  refine zV_aload_n dL_law_836 rfl 0 rfl rfl ?_
  refine zV_iload_n dL_law_837 rfl 3 rfl rfl ?_
  refine zV_iconst (v := (nI 3)) dL_law_838 rfl rfl ?_
  refine zA_iadd (z := (nI ((6 * c) + 3))) dL_law_839 rfl  (nI_add _ _) ?_
  refine zV_script ((6 * c) + 3) dL_law_840 rfl rfl (by omega) hL ?_
  refine zV_callV (E' := eX7_fewest (g_rmv 5)) (av := [.int (G.2.2.2.2.2 ((6 * c) + 1)), .int (G.2.2.2.2.2 ((6 * c) + 2)), .int (G.2.2.2.2.2 ((6 * c) + 3))]) (st := [.int ((op_fewest S (G.2.2.2.2.2 ((6 * c) + 1)) (G.2.2.2.2.2 ((6 * c) + 2)) (G.2.2.2.2.2 ((6 * c) + 3))).1)]) (b := 76) dL_law_841 rfl (k_RL_83 _) rfl ⟨by decide, by decide⟩ ⟨by decide, by decide⟩ (Or.inl rfl) rfl (Nat.le_of_ble_eq_true rfl) rfl rfl rfl (q_fewest (hM.fr hf1) hw) (fun r841 M841 z => ?_)
  obtain ⟨I2, J2, t2, rfl, rfl, hM2, hf2⟩ := z
  show zV G (eL_law room_1) (90, 5102) 844 [(0, .ref 1301), (1, .ref 0), (2, .ref 76), (3, .int (nI (6 * c)))] [.int ((op_fewest S (G.2.2.2.2.2 ((6 * c) + 1)) (G.2.2.2.2.2 ((6 * c) + 2)) (G.2.2.2.2.2 ((6 * c) + 3))).1), .int ((op_fewest S (G.2.2.2.2.2 ((6 * c) + 1)) (G.2.2.2.2.2 ((6 * c) + 2)) (G.2.2.2.2.2 ((6 * c) + 3))).1)] (mm I2 J2 t2) _
  refine zV_icmp_eq (tgt := 1788) dL_law_844 rfl rfl  (fun _ => ?_) (fun z => absurd z (fun z => z rfl))
  exact k _ _ _ _ (hC1.fr (B := B + 0) (w_fewest hw) hf2) hM2 ((w_fewest hw).up (by omega) (by omega))
set_option maxRecDepth 100000 in
theorem law_dearth {G : mG} {I : Nat → Nat → Int32} {J : Nat → Nat → Int64} {t c B : Nat} {S : aS} {Q : Option Value → mM → Prop} (hC : InvC I S) (hM : InvM I S) (hw : wfS B S) (hB : B + 242 < 1000000) (hL : G.2.2.2.2.1 ≤ 100000) (hc : 6 * c + 5 < G.2.2.2.2.1) (k : ∀ I' J' t' S', InvC I' S' → InvM I' S' → wfS (B + 242) S' → zV G (eL_law room_1) (90, 5102) 1788 [(0, .ref 1301), (1, .ref 0), (2, .ref 76), (3, .int (nI (6 * c)))] [] (mm I' J' t') Q) : zV G (eL_law room_1) (90, 5102) 849 [(0, .ref 1301), (1, .ref 0), (2, .ref 76), (3, .int (nI (6 * c)))] [] (mm I J t) Q := by
  refine zV_aload_n dL_law_849 rfl 1 rfl rfl ?_
  refine zV_aload_n dL_law_850 rfl 0 rfl rfl ?_
  refine zV_iload_n dL_law_851 rfl 3 rfl rfl ?_
  refine zV_iconst (v := (nI 1)) dL_law_852 rfl rfl ?_
  refine zA_iadd (z := (nI ((6 * c) + 1))) dL_law_853 rfl  (nI_add _ _) ?_
  refine zV_script ((6 * c) + 1) dL_law_854 rfl rfl (by omega) hL ?_
  refine zV_aload_n dL_law_855 rfl 0 rfl rfl ?_
  refine zV_iload_n dL_law_856 rfl 3 rfl rfl ?_
  refine zV_iconst (v := (nI 2)) dL_law_857 rfl rfl ?_
  refine zA_iadd (z := (nI ((6 * c) + 2))) dL_law_858 rfl  (nI_add _ _) ?_
  refine zV_script ((6 * c) + 2) dL_law_859 rfl rfl (by omega) hL ?_
  refine zV_callV (E' := eX6_dearth (g_rmv 4)) (av := [.int (G.2.2.2.2.2 ((6 * c) + 1)), .int (G.2.2.2.2.2 ((6 * c) + 2))]) (st := []) (b := 0) dL_law_860 rfl (k_RL_84 _) rfl ⟨by decide, by decide⟩ ⟨by decide, by decide⟩ (Or.inl rfl) rfl (Nat.le_of_ble_eq_true rfl) rfl rfl rfl (p_dearth hC hw) (fun r860 M860 z => ?_)
  obtain ⟨I1, J1, t1, rfl, rfl, hC1, hf1⟩ := z
  show zV G (eL_law room_1) (90, 5102) 863 [(0, .ref 1301), (1, .ref 0), (2, .ref 76), (3, .int (nI (6 * c)))] [.int ((op_dearth S (G.2.2.2.2.2 ((6 * c) + 1)) (G.2.2.2.2.2 ((6 * c) + 2))).1)] (mm I1 J1 t1) _
  refine zV_aload_n dL_law_863 rfl 2 rfl rfl ?_
  refine zV_aload_n dL_law_864 rfl 0 rfl rfl ?_
  refine zV_iload_n dL_law_865 rfl 3 rfl rfl ?_
  refine zV_iconst (v := (nI 1)) dL_law_866 rfl rfl ?_
  refine zA_iadd (z := (nI ((6 * c) + 1))) dL_law_867 rfl  (nI_add _ _) ?_
  refine zV_script ((6 * c) + 1) dL_law_868 rfl rfl (by omega) hL ?_
  refine zV_aload_n dL_law_869 rfl 0 rfl rfl ?_
  refine zV_iload_n dL_law_870 rfl 3 rfl rfl ?_
  refine zV_iconst (v := (nI 2)) dL_law_871 rfl rfl ?_
  refine zA_iadd (z := (nI ((6 * c) + 2))) dL_law_872 rfl  (nI_add _ _) ?_
  refine zV_script ((6 * c) + 2) dL_law_873 rfl rfl (by omega) hL ?_
  refine zV_callV (E' := eX7_dearth (g_rmv 5)) (av := [.int (G.2.2.2.2.2 ((6 * c) + 1)), .int (G.2.2.2.2.2 ((6 * c) + 2))]) (st := [.int ((op_dearth S (G.2.2.2.2.2 ((6 * c) + 1)) (G.2.2.2.2.2 ((6 * c) + 2))).1)]) (b := 76) dL_law_874 rfl (k_RL_87 _) rfl ⟨by decide, by decide⟩ ⟨by decide, by decide⟩ (Or.inl rfl) rfl (Nat.le_of_ble_eq_true rfl) rfl rfl rfl (q_dearth (hM.fr hf1) hw) (fun r874 M874 z => ?_)
  obtain ⟨I2, J2, t2, rfl, rfl, hM2, hf2⟩ := z
  show zV G (eL_law room_1) (90, 5102) 877 [(0, .ref 1301), (1, .ref 0), (2, .ref 76), (3, .int (nI (6 * c)))] [.int ((op_dearth S (G.2.2.2.2.2 ((6 * c) + 1)) (G.2.2.2.2.2 ((6 * c) + 2))).1), .int ((op_dearth S (G.2.2.2.2.2 ((6 * c) + 1)) (G.2.2.2.2.2 ((6 * c) + 2))).1)] (mm I2 J2 t2) _
  refine zV_icmp_eq (tgt := 1788) dL_law_877 rfl rfl  (fun _ => ?_) (fun z => absurd z (fun z => z rfl))
  exact k _ _ _ _ (hC1.fr (B := B + 0) (w_dearth hw) hf2) hM2 ((w_dearth hw).up (by omega) (by omega))
set_option maxRecDepth 100000 in
theorem law_gain {G : mG} {I : Nat → Nat → Int32} {J : Nat → Nat → Int64} {t c B : Nat} {S : aS} {Q : Option Value → mM → Prop} (hC : InvC I S) (hM : InvM I S) (hw : wfS B S) (hB : B + 242 < 1000000) (hL : G.2.2.2.2.1 ≤ 100000) (hc : 6 * c + 5 < G.2.2.2.2.1) (k : ∀ I' J' t' S', InvC I' S' → InvM I' S' → wfS (B + 242) S' → zV G (eL_law room_1) (90, 5102) 1788 [(0, .ref 1301), (1, .ref 0), (2, .ref 76), (3, .int (nI (6 * c)))] [] (mm I' J' t') Q) : zV G (eL_law room_1) (90, 5102) 882 [(0, .ref 1301), (1, .ref 0), (2, .ref 76), (3, .int (nI (6 * c)))] [] (mm I J t) Q := by
  refine zV_aload_n dL_law_882 rfl 1 rfl rfl ?_
  refine zV_aload_n dL_law_883 rfl 0 rfl rfl ?_
  refine zV_iload_n dL_law_884 rfl 3 rfl rfl ?_
  refine zV_iconst (v := (nI 1)) dL_law_885 rfl rfl ?_
  refine zA_iadd (z := (nI ((6 * c) + 1))) dL_law_886 rfl  (nI_add _ _) ?_
  refine zV_script ((6 * c) + 1) dL_law_887 rfl rfl (by omega) hL ?_
  refine zV_aload_n dL_law_888 rfl 0 rfl rfl ?_
  refine zV_iload_n dL_law_889 rfl 3 rfl rfl ?_
  refine zV_iconst (v := (nI 2)) dL_law_890 rfl rfl ?_
  refine zA_iadd (z := (nI ((6 * c) + 2))) dL_law_891 rfl  (nI_add _ _) ?_
  refine zV_script ((6 * c) + 2) dL_law_892 rfl rfl (by omega) hL ?_
  refine zV_callV (E' := eX6_gain (g_rmv 6)) (av := [.int (G.2.2.2.2.2 ((6 * c) + 1)), .int (G.2.2.2.2.2 ((6 * c) + 2))]) (st := []) (b := 0) dL_law_893 rfl (k_RL_88 _) rfl ⟨by decide, by decide⟩ ⟨by decide, by decide⟩ (Or.inl rfl) rfl (Nat.le_of_ble_eq_true rfl) rfl rfl rfl (p_gain hC hw) (fun r893 M893 z => ?_)
  obtain ⟨I1, J1, t1, rfl, rfl, hC1, hf1⟩ := z
  show zV G (eL_law room_1) (90, 5102) 896 [(0, .ref 1301), (1, .ref 0), (2, .ref 76), (3, .int (nI (6 * c)))] [.int ((op_gain S (G.2.2.2.2.2 ((6 * c) + 1)) (G.2.2.2.2.2 ((6 * c) + 2))).1)] (mm I1 J1 t1) _
  refine zV_aload_n dL_law_896 rfl 2 rfl rfl ?_
  refine zV_aload_n dL_law_897 rfl 0 rfl rfl ?_
  refine zV_iload_n dL_law_898 rfl 3 rfl rfl ?_
  refine zV_iconst (v := (nI 1)) dL_law_899 rfl rfl ?_
  refine zA_iadd (z := (nI ((6 * c) + 1))) dL_law_900 rfl  (nI_add _ _) ?_
  refine zV_script ((6 * c) + 1) dL_law_901 rfl rfl (by omega) hL ?_
  refine zV_aload_n dL_law_902 rfl 0 rfl rfl ?_
  refine zV_iload_n dL_law_903 rfl 3 rfl rfl ?_
  refine zV_iconst (v := (nI 2)) dL_law_904 rfl rfl ?_
  refine zA_iadd (z := (nI ((6 * c) + 2))) dL_law_905 rfl  (nI_add _ _) ?_
  refine zV_script ((6 * c) + 2) dL_law_906 rfl rfl (by omega) hL ?_
  refine zV_callV (E' := eX7_gain (g_rmv 6)) (av := [.int (G.2.2.2.2.2 ((6 * c) + 1)), .int (G.2.2.2.2.2 ((6 * c) + 2))]) (st := [.int ((op_gain S (G.2.2.2.2.2 ((6 * c) + 1)) (G.2.2.2.2.2 ((6 * c) + 2))).1)]) (b := 76) dL_law_907 rfl (k_RL_91 _) rfl ⟨by decide, by decide⟩ ⟨by decide, by decide⟩ (Or.inl rfl) rfl (Nat.le_of_ble_eq_true rfl) rfl rfl rfl (q_gain (hM.fr hf1) hw) (fun r907 M907 z => ?_)
  obtain ⟨I2, J2, t2, rfl, rfl, hM2, hf2⟩ := z
  show zV G (eL_law room_1) (90, 5102) 910 [(0, .ref 1301), (1, .ref 0), (2, .ref 76), (3, .int (nI (6 * c)))] [.int ((op_gain S (G.2.2.2.2.2 ((6 * c) + 1)) (G.2.2.2.2.2 ((6 * c) + 2))).1), .int ((op_gain S (G.2.2.2.2.2 ((6 * c) + 1)) (G.2.2.2.2.2 ((6 * c) + 2))).1)] (mm I2 J2 t2) _
  refine zV_icmp_eq (tgt := 1788) dL_law_910 rfl rfl  (fun _ => ?_) (fun z => absurd z (fun z => z rfl))
  exact k _ _ _ _ (hC1.fr (B := B + 0) (w_gain hw) hf2) hM2 ((w_gain hw).up (by omega) (by omega))
set_option maxRecDepth 100000 in
theorem law_lot {G : mG} {I : Nat → Nat → Int32} {J : Nat → Nat → Int64} {t c B : Nat} {S : aS} {Q : Option Value → mM → Prop} (hC : InvC I S) (hM : InvM I S) (hw : wfS B S) (hB : B + 242 < 1000000) (hL : G.2.2.2.2.1 ≤ 100000) (hc : 6 * c + 5 < G.2.2.2.2.1) (k : ∀ I' J' t' S', InvC I' S' → InvM I' S' → wfS (B + 242) S' → zV G (eL_law room_1) (90, 5102) 1788 [(0, .ref 1301), (1, .ref 0), (2, .ref 76), (3, .int (nI (6 * c)))] [] (mm I' J' t') Q) : zV G (eL_law room_1) (90, 5102) 915 [(0, .ref 1301), (1, .ref 0), (2, .ref 76), (3, .int (nI (6 * c)))] [] (mm I J t) Q := by
  refine zV_aload_n dL_law_915 rfl 1 rfl rfl ?_
  refine zV_aload_n dL_law_916 rfl 0 rfl rfl ?_
  refine zV_iload_n dL_law_917 rfl 3 rfl rfl ?_
  refine zV_iconst (v := (nI 1)) dL_law_918 rfl rfl ?_
  refine zA_iadd (z := (nI ((6 * c) + 1))) dL_law_919 rfl  (nI_add _ _) ?_
  refine zV_script ((6 * c) + 1) dL_law_920 rfl rfl (by omega) hL ?_
  refine zV_aload_n dL_law_921 rfl 0 rfl rfl ?_
  refine zV_iload_n dL_law_922 rfl 3 rfl rfl ?_
  refine zV_iconst (v := (nI 2)) dL_law_923 rfl rfl ?_
  refine zA_iadd (z := (nI ((6 * c) + 2))) dL_law_924 rfl  (nI_add _ _) ?_
  refine zV_script ((6 * c) + 2) dL_law_925 rfl rfl (by omega) hL ?_
  refine zV_callV (E' := eX6_lot (g_rmv 6)) (av := [.int (G.2.2.2.2.2 ((6 * c) + 1)), .int (G.2.2.2.2.2 ((6 * c) + 2))]) (st := []) (b := 0) dL_law_926 rfl (k_RL_92 _) rfl ⟨by decide, by decide⟩ ⟨by decide, by decide⟩ (Or.inl rfl) rfl (Nat.le_of_ble_eq_true rfl) rfl rfl rfl (p_lot hC hw) (fun r926 M926 z => ?_)
  obtain ⟨I1, J1, t1, rfl, rfl, hC1, hf1⟩ := z
  show zV G (eL_law room_1) (90, 5102) 929 [(0, .ref 1301), (1, .ref 0), (2, .ref 76), (3, .int (nI (6 * c)))] [.int ((op_lot S (G.2.2.2.2.2 ((6 * c) + 1)) (G.2.2.2.2.2 ((6 * c) + 2))).1)] (mm I1 J1 t1) _
  refine zV_aload_n dL_law_929 rfl 2 rfl rfl ?_
  refine zV_aload_n dL_law_930 rfl 0 rfl rfl ?_
  refine zV_iload_n dL_law_931 rfl 3 rfl rfl ?_
  refine zV_iconst (v := (nI 1)) dL_law_932 rfl rfl ?_
  refine zA_iadd (z := (nI ((6 * c) + 1))) dL_law_933 rfl  (nI_add _ _) ?_
  refine zV_script ((6 * c) + 1) dL_law_934 rfl rfl (by omega) hL ?_
  refine zV_aload_n dL_law_935 rfl 0 rfl rfl ?_
  refine zV_iload_n dL_law_936 rfl 3 rfl rfl ?_
  refine zV_iconst (v := (nI 2)) dL_law_937 rfl rfl ?_
  refine zA_iadd (z := (nI ((6 * c) + 2))) dL_law_938 rfl  (nI_add _ _) ?_
  refine zV_script ((6 * c) + 2) dL_law_939 rfl rfl (by omega) hL ?_
  refine zV_callV (E' := eX7_lot (g_rmv 6)) (av := [.int (G.2.2.2.2.2 ((6 * c) + 1)), .int (G.2.2.2.2.2 ((6 * c) + 2))]) (st := [.int ((op_lot S (G.2.2.2.2.2 ((6 * c) + 1)) (G.2.2.2.2.2 ((6 * c) + 2))).1)]) (b := 76) dL_law_940 rfl (k_RL_95 _) rfl ⟨by decide, by decide⟩ ⟨by decide, by decide⟩ (Or.inl rfl) rfl (Nat.le_of_ble_eq_true rfl) rfl rfl rfl (q_lot (hM.fr hf1) hw) (fun r940 M940 z => ?_)
  obtain ⟨I2, J2, t2, rfl, rfl, hM2, hf2⟩ := z
  show zV G (eL_law room_1) (90, 5102) 943 [(0, .ref 1301), (1, .ref 0), (2, .ref 76), (3, .int (nI (6 * c)))] [.int ((op_lot S (G.2.2.2.2.2 ((6 * c) + 1)) (G.2.2.2.2.2 ((6 * c) + 2))).1), .int ((op_lot S (G.2.2.2.2.2 ((6 * c) + 1)) (G.2.2.2.2.2 ((6 * c) + 2))).1)] (mm I2 J2 t2) _
  refine zV_icmp_eq (tgt := 1788) dL_law_943 rfl rfl  (fun _ => ?_) (fun z => absurd z (fun z => z rfl))
  exact k _ _ _ _ (hC1.fr (B := B + 0) (w_lot hw) hf2) hM2 ((w_lot hw).up (by omega) (by omega))
set_option maxRecDepth 100000 in
theorem law_deal {G : mG} {I : Nat → Nat → Int32} {J : Nat → Nat → Int64} {t c B : Nat} {S : aS} {Q : Option Value → mM → Prop} (hC : InvC I S) (hM : InvM I S) (hw : wfS B S) (hB : B + 242 < 1000000) (hL : G.2.2.2.2.1 ≤ 100000) (hc : 6 * c + 5 < G.2.2.2.2.1) (k : ∀ I' J' t' S', InvC I' S' → InvM I' S' → wfS (B + 242) S' → zV G (eL_law room_1) (90, 5102) 1788 [(0, .ref 1301), (1, .ref 0), (2, .ref 76), (3, .int (nI (6 * c)))] [] (mm I' J' t') Q) : zV G (eL_law room_1) (90, 5102) 948 [(0, .ref 1301), (1, .ref 0), (2, .ref 76), (3, .int (nI (6 * c)))] [] (mm I J t) Q := by
  refine zV_aload_n dL_law_948 rfl 1 rfl rfl ?_
  refine zV_aload_n dL_law_949 rfl 0 rfl rfl ?_
  refine zV_iload_n dL_law_950 rfl 3 rfl rfl ?_
  refine zV_iconst (v := (nI 1)) dL_law_951 rfl rfl ?_
  refine zA_iadd (z := (nI ((6 * c) + 1))) dL_law_952 rfl  (nI_add _ _) ?_
  refine zV_script ((6 * c) + 1) dL_law_953 rfl rfl (by omega) hL ?_
  refine zV_aload_n dL_law_954 rfl 0 rfl rfl ?_
  refine zV_iload_n dL_law_955 rfl 3 rfl rfl ?_
  refine zV_iconst (v := (nI 2)) dL_law_956 rfl rfl ?_
  refine zA_iadd (z := (nI ((6 * c) + 2))) dL_law_957 rfl  (nI_add _ _) ?_
  refine zV_script ((6 * c) + 2) dL_law_958 rfl rfl (by omega) hL ?_
  refine zV_callV (E' := eX6_deal (g_rmv 6)) (av := [.int (G.2.2.2.2.2 ((6 * c) + 1)), .int (G.2.2.2.2.2 ((6 * c) + 2))]) (st := []) (b := 0) dL_law_959 rfl (k_RL_96 _) rfl ⟨by decide, by decide⟩ ⟨by decide, by decide⟩ (Or.inl rfl) rfl (Nat.le_of_ble_eq_true rfl) rfl rfl rfl (p_deal hC hw (by omega)) (fun r959 M959 z => ?_)
  obtain ⟨I1, J1, t1, rfl, rfl, hC1, hf1⟩ := z
  show zV G (eL_law room_1) (90, 5102) 962 [(0, .ref 1301), (1, .ref 0), (2, .ref 76), (3, .int (nI (6 * c)))] [.int ((op_deal S (G.2.2.2.2.2 ((6 * c) + 1)) (G.2.2.2.2.2 ((6 * c) + 2))).1)] (mm I1 J1 t1) _
  refine zV_aload_n dL_law_962 rfl 2 rfl rfl ?_
  refine zV_aload_n dL_law_963 rfl 0 rfl rfl ?_
  refine zV_iload_n dL_law_964 rfl 3 rfl rfl ?_
  refine zV_iconst (v := (nI 1)) dL_law_965 rfl rfl ?_
  refine zA_iadd (z := (nI ((6 * c) + 1))) dL_law_966 rfl  (nI_add _ _) ?_
  refine zV_script ((6 * c) + 1) dL_law_967 rfl rfl (by omega) hL ?_
  refine zV_aload_n dL_law_968 rfl 0 rfl rfl ?_
  refine zV_iload_n dL_law_969 rfl 3 rfl rfl ?_
  refine zV_iconst (v := (nI 2)) dL_law_970 rfl rfl ?_
  refine zA_iadd (z := (nI ((6 * c) + 2))) dL_law_971 rfl  (nI_add _ _) ?_
  refine zV_script ((6 * c) + 2) dL_law_972 rfl rfl (by omega) hL ?_
  refine zV_callV (E' := eX7_deal (g_rmv 7)) (av := [.int (G.2.2.2.2.2 ((6 * c) + 1)), .int (G.2.2.2.2.2 ((6 * c) + 2))]) (st := [.int ((op_deal S (G.2.2.2.2.2 ((6 * c) + 1)) (G.2.2.2.2.2 ((6 * c) + 2))).1)]) (b := 76) dL_law_973 rfl (k_RL_99 _) rfl ⟨by decide, by decide⟩ ⟨by decide, by decide⟩ (Or.inl rfl) rfl (Nat.le_of_ble_eq_true rfl) rfl rfl rfl (q_deal (hM.fr hf1) hw (by omega)) (fun r973 M973 z => ?_)
  obtain ⟨I2, J2, t2, rfl, rfl, hM2, hf2⟩ := z
  show zV G (eL_law room_1) (90, 5102) 976 [(0, .ref 1301), (1, .ref 0), (2, .ref 76), (3, .int (nI (6 * c)))] [.int ((op_deal S (G.2.2.2.2.2 ((6 * c) + 1)) (G.2.2.2.2.2 ((6 * c) + 2))).1), .int ((op_deal S (G.2.2.2.2.2 ((6 * c) + 1)) (G.2.2.2.2.2 ((6 * c) + 2))).1)] (mm I2 J2 t2) _
  refine zV_icmp_eq (tgt := 1788) dL_law_976 rfl rfl  (fun _ => ?_) (fun z => absurd z (fun z => z rfl))
  exact k _ _ _ _ (hC1.fr (B := B + 4) (w_deal hw (by omega)) hf2) hM2 ((w_deal hw (by omega)).up (by omega) (by omega))
set_option maxRecDepth 100000 in
theorem law_deals {G : mG} {I : Nat → Nat → Int32} {J : Nat → Nat → Int64} {t c B : Nat} {S : aS} {Q : Option Value → mM → Prop} (hC : InvC I S) (hM : InvM I S) (hw : wfS B S) (hB : B + 242 < 1000000) (hL : G.2.2.2.2.1 ≤ 100000) (hc : 6 * c + 5 < G.2.2.2.2.1) (k : ∀ I' J' t' S', InvC I' S' → InvM I' S' → wfS (B + 242) S' → zV G (eL_law room_1) (90, 5102) 1788 [(0, .ref 1301), (1, .ref 0), (2, .ref 76), (3, .int (nI (6 * c)))] [] (mm I' J' t') Q) : zV G (eL_law room_1) (90, 5102) 981 [(0, .ref 1301), (1, .ref 0), (2, .ref 76), (3, .int (nI (6 * c)))] [] (mm I J t) Q := by
  refine zV_aload_n dL_law_981 rfl 1 rfl rfl ?_
  refine zV_aload_n dL_law_982 rfl 0 rfl rfl ?_
  refine zV_iload_n dL_law_983 rfl 3 rfl rfl ?_
  refine zV_iconst (v := (nI 1)) dL_law_984 rfl rfl ?_
  refine zA_iadd (z := (nI ((6 * c) + 1))) dL_law_985 rfl  (nI_add _ _) ?_
  refine zV_script ((6 * c) + 1) dL_law_986 rfl rfl (by omega) hL ?_
  refine zV_aload_n dL_law_987 rfl 0 rfl rfl ?_
  refine zV_iload_n dL_law_988 rfl 3 rfl rfl ?_
  refine zV_iconst (v := (nI 2)) dL_law_989 rfl rfl ?_
  refine zA_iadd (z := (nI ((6 * c) + 2))) dL_law_990 rfl  (nI_add _ _) ?_
  refine zV_script ((6 * c) + 2) dL_law_991 rfl rfl (by omega) hL ?_
  refine zV_callV (E' := eX6_deals (g_rmv 5)) (av := [.int (G.2.2.2.2.2 ((6 * c) + 1)), .int (G.2.2.2.2.2 ((6 * c) + 2))]) (st := []) (b := 0) dL_law_992 rfl (k_RL_100 _) rfl ⟨by decide, by decide⟩ ⟨by decide, by decide⟩ (Or.inl rfl) rfl (Nat.le_of_ble_eq_true rfl) rfl rfl rfl (p_deals hC hw (by omega)) (fun r992 M992 z => ?_)
  obtain ⟨I1, J1, t1, rfl, rfl, hC1, hf1⟩ := z
  show zV G (eL_law room_1) (90, 5102) 995 [(0, .ref 1301), (1, .ref 0), (2, .ref 76), (3, .int (nI (6 * c)))] [.int ((op_deals S (G.2.2.2.2.2 ((6 * c) + 1)) (G.2.2.2.2.2 ((6 * c) + 2))).1)] (mm I1 J1 t1) _
  refine zV_aload_n dL_law_995 rfl 2 rfl rfl ?_
  refine zV_aload_n dL_law_996 rfl 0 rfl rfl ?_
  refine zV_iload_n dL_law_997 rfl 3 rfl rfl ?_
  refine zV_iconst (v := (nI 1)) dL_law_998 rfl rfl ?_
  refine zA_iadd (z := (nI ((6 * c) + 1))) dL_law_999 rfl  (nI_add _ _) ?_
  refine zV_script ((6 * c) + 1) dL_law_1000 rfl rfl (by omega) hL ?_
  refine zV_aload_n dL_law_1001 rfl 0 rfl rfl ?_
  refine zV_iload_n dL_law_1002 rfl 3 rfl rfl ?_
  refine zV_iconst (v := (nI 2)) dL_law_1003 rfl rfl ?_
  refine zA_iadd (z := (nI ((6 * c) + 2))) dL_law_1004 rfl  (nI_add _ _) ?_
  refine zV_script ((6 * c) + 2) dL_law_1005 rfl rfl (by omega) hL ?_
  refine zV_callV (E' := eX7_deals (g_rmv 7)) (av := [.int (G.2.2.2.2.2 ((6 * c) + 1)), .int (G.2.2.2.2.2 ((6 * c) + 2))]) (st := [.int ((op_deals S (G.2.2.2.2.2 ((6 * c) + 1)) (G.2.2.2.2.2 ((6 * c) + 2))).1)]) (b := 76) dL_law_1006 rfl (k_RL_103 _) rfl ⟨by decide, by decide⟩ ⟨by decide, by decide⟩ (Or.inl rfl) rfl (Nat.le_of_ble_eq_true rfl) rfl rfl rfl (q_deals (hM.fr hf1) hw (by omega)) (fun r1006 M1006 z => ?_)
  obtain ⟨I2, J2, t2, rfl, rfl, hM2, hf2⟩ := z
  show zV G (eL_law room_1) (90, 5102) 1009 [(0, .ref 1301), (1, .ref 0), (2, .ref 76), (3, .int (nI (6 * c)))] [.int ((op_deals S (G.2.2.2.2.2 ((6 * c) + 1)) (G.2.2.2.2.2 ((6 * c) + 2))).1), .int ((op_deals S (G.2.2.2.2.2 ((6 * c) + 1)) (G.2.2.2.2.2 ((6 * c) + 2))).1)] (mm I2 J2 t2) _
  refine zV_icmp_eq (tgt := 1788) dL_law_1009 rfl rfl  (fun _ => ?_) (fun z => absurd z (fun z => z rfl))
  exact k _ _ _ _ (hC1.fr (B := B + 0) (w_deals hw) hf2) hM2 ((w_deals hw).up (by omega) (by omega))
set_option maxRecDepth 100000 in
theorem law_partner {G : mG} {I : Nat → Nat → Int32} {J : Nat → Nat → Int64} {t c B : Nat} {S : aS} {Q : Option Value → mM → Prop} (hC : InvC I S) (hM : InvM I S) (hw : wfS B S) (hB : B + 242 < 1000000) (hL : G.2.2.2.2.1 ≤ 100000) (hc : 6 * c + 5 < G.2.2.2.2.1) (k : ∀ I' J' t' S', InvC I' S' → InvM I' S' → wfS (B + 242) S' → zV G (eL_law room_1) (90, 5102) 1788 [(0, .ref 1301), (1, .ref 0), (2, .ref 76), (3, .int (nI (6 * c)))] [] (mm I' J' t') Q) : zV G (eL_law room_1) (90, 5102) 1014 [(0, .ref 1301), (1, .ref 0), (2, .ref 76), (3, .int (nI (6 * c)))] [] (mm I J t) Q := by
  refine zV_aload_n dL_law_1014 rfl 1 rfl rfl ?_
  refine zV_aload_n dL_law_1015 rfl 0 rfl rfl ?_
  refine zV_iload_n dL_law_1016 rfl 3 rfl rfl ?_
  refine zV_iconst (v := (nI 1)) dL_law_1017 rfl rfl ?_
  refine zA_iadd (z := (nI ((6 * c) + 1))) dL_law_1018 rfl  (nI_add _ _) ?_
  refine zV_script ((6 * c) + 1) dL_law_1019 rfl rfl (by omega) hL ?_
  refine zV_callV (E' := eX6_partner (g_rmv 5)) (av := [.int (G.2.2.2.2.2 ((6 * c) + 1))]) (st := []) (b := 0) dL_law_1020 rfl (k_RL_104 _) rfl ⟨by decide, by decide⟩ ⟨by decide, by decide⟩ (Or.inl rfl) rfl (Nat.le_of_ble_eq_true rfl) rfl rfl rfl (p_partner hC hw) (fun r1020 M1020 z => ?_)
  obtain ⟨I1, J1, t1, rfl, rfl, hC1, hf1⟩ := z
  show zV G (eL_law room_1) (90, 5102) 1023 [(0, .ref 1301), (1, .ref 0), (2, .ref 76), (3, .int (nI (6 * c)))] [.int ((op_partner S (G.2.2.2.2.2 ((6 * c) + 1))).1)] (mm I1 J1 t1) _
  refine zV_aload_n dL_law_1023 rfl 2 rfl rfl ?_
  refine zV_aload_n dL_law_1024 rfl 0 rfl rfl ?_
  refine zV_iload_n dL_law_1025 rfl 3 rfl rfl ?_
  refine zV_iconst (v := (nI 1)) dL_law_1026 rfl rfl ?_
  refine zA_iadd (z := (nI ((6 * c) + 1))) dL_law_1027 rfl  (nI_add _ _) ?_
  refine zV_script ((6 * c) + 1) dL_law_1028 rfl rfl (by omega) hL ?_
  refine zV_callV (E' := eX7_partner (g_rmv 6)) (av := [.int (G.2.2.2.2.2 ((6 * c) + 1))]) (st := [.int ((op_partner S (G.2.2.2.2.2 ((6 * c) + 1))).1)]) (b := 76) dL_law_1029 rfl (k_RL_107 _) rfl ⟨by decide, by decide⟩ ⟨by decide, by decide⟩ (Or.inl rfl) rfl (Nat.le_of_ble_eq_true rfl) rfl rfl rfl (q_partner (hM.fr hf1) hw) (fun r1029 M1029 z => ?_)
  obtain ⟨I2, J2, t2, rfl, rfl, hM2, hf2⟩ := z
  show zV G (eL_law room_1) (90, 5102) 1032 [(0, .ref 1301), (1, .ref 0), (2, .ref 76), (3, .int (nI (6 * c)))] [.int ((op_partner S (G.2.2.2.2.2 ((6 * c) + 1))).1), .int ((op_partner S (G.2.2.2.2.2 ((6 * c) + 1))).1)] (mm I2 J2 t2) _
  refine zV_icmp_eq (tgt := 1788) dL_law_1032 rfl rfl  (fun _ => ?_) (fun z => absurd z (fun z => z rfl))
  exact k _ _ _ _ (hC1.fr (B := B + 0) (w_partner hw) hf2) hM2 ((w_partner hw).up (by omega) (by omega))
set_option maxRecDepth 100000 in
theorem law_round {G : mG} {I : Nat → Nat → Int32} {J : Nat → Nat → Int64} {t c B : Nat} {S : aS} {Q : Option Value → mM → Prop} (hC : InvC I S) (hM : InvM I S) (hw : wfS B S) (hB : B + 242 < 1000000) (hL : G.2.2.2.2.1 ≤ 100000) (hc : 6 * c + 5 < G.2.2.2.2.1) (k : ∀ I' J' t' S', InvC I' S' → InvM I' S' → wfS (B + 242) S' → zV G (eL_law room_1) (90, 5102) 1788 [(0, .ref 1301), (1, .ref 0), (2, .ref 76), (3, .int (nI (6 * c)))] [] (mm I' J' t') Q) : zV G (eL_law room_1) (90, 5102) 1037 [(0, .ref 1301), (1, .ref 0), (2, .ref 76), (3, .int (nI (6 * c)))] [] (mm I J t) Q := by
  refine zV_aload_n dL_law_1037 rfl 1 rfl rfl ?_
  refine zV_aload_n dL_law_1038 rfl 0 rfl rfl ?_
  refine zV_iload_n dL_law_1039 rfl 3 rfl rfl ?_
  refine zV_iconst (v := (nI 1)) dL_law_1040 rfl rfl ?_
  refine zA_iadd (z := (nI ((6 * c) + 1))) dL_law_1041 rfl  (nI_add _ _) ?_
  refine zV_script ((6 * c) + 1) dL_law_1042 rfl rfl (by omega) hL ?_
  refine zV_aload_n dL_law_1043 rfl 0 rfl rfl ?_
  refine zV_iload_n dL_law_1044 rfl 3 rfl rfl ?_
  refine zV_iconst (v := (nI 2)) dL_law_1045 rfl rfl ?_
  refine zA_iadd (z := (nI ((6 * c) + 2))) dL_law_1046 rfl  (nI_add _ _) ?_
  refine zV_script ((6 * c) + 2) dL_law_1047 rfl rfl (by omega) hL ?_
  refine zV_callV (E' := eX6_round (g_rmv 3)) (av := [.int (G.2.2.2.2.2 ((6 * c) + 1)), .int (G.2.2.2.2.2 ((6 * c) + 2))]) (st := []) (b := 0) dL_law_1048 rfl (k_RL_108 _) rfl ⟨by decide, by decide⟩ ⟨by decide, by decide⟩ (Or.inl rfl) rfl (Nat.le_of_ble_eq_true rfl) rfl rfl rfl (p_round hC hw (by omega)) (fun r1048 M1048 z => ?_)
  obtain ⟨I1, J1, t1, rfl, rfl, hC1, hf1⟩ := z
  show zV G (eL_law room_1) (90, 5102) 1051 [(0, .ref 1301), (1, .ref 0), (2, .ref 76), (3, .int (nI (6 * c)))] [.int ((op_round S (G.2.2.2.2.2 ((6 * c) + 1)) (G.2.2.2.2.2 ((6 * c) + 2))).1)] (mm I1 J1 t1) _
  refine zV_aload_n dL_law_1051 rfl 2 rfl rfl ?_
  refine zV_aload_n dL_law_1052 rfl 0 rfl rfl ?_
  refine zV_iload_n dL_law_1053 rfl 3 rfl rfl ?_
  refine zV_iconst (v := (nI 1)) dL_law_1054 rfl rfl ?_
  refine zA_iadd (z := (nI ((6 * c) + 1))) dL_law_1055 rfl  (nI_add _ _) ?_
  refine zV_script ((6 * c) + 1) dL_law_1056 rfl rfl (by omega) hL ?_
  refine zV_aload_n dL_law_1057 rfl 0 rfl rfl ?_
  refine zV_iload_n dL_law_1058 rfl 3 rfl rfl ?_
  refine zV_iconst (v := (nI 2)) dL_law_1059 rfl rfl ?_
  refine zA_iadd (z := (nI ((6 * c) + 2))) dL_law_1060 rfl  (nI_add _ _) ?_
  refine zV_script ((6 * c) + 2) dL_law_1061 rfl rfl (by omega) hL ?_
  refine zV_callV (E' := eX7_round (g_rmv 5)) (av := [.int (G.2.2.2.2.2 ((6 * c) + 1)), .int (G.2.2.2.2.2 ((6 * c) + 2))]) (st := [.int ((op_round S (G.2.2.2.2.2 ((6 * c) + 1)) (G.2.2.2.2.2 ((6 * c) + 2))).1)]) (b := 76) dL_law_1062 rfl (k_RL_111 _) rfl ⟨by decide, by decide⟩ ⟨by decide, by decide⟩ (Or.inl rfl) rfl (Nat.le_of_ble_eq_true rfl) rfl rfl rfl (q_round (hM.fr hf1) hw (by omega)) (fun r1062 M1062 z => ?_)
  obtain ⟨I2, J2, t2, rfl, rfl, hM2, hf2⟩ := z
  show zV G (eL_law room_1) (90, 5102) 1065 [(0, .ref 1301), (1, .ref 0), (2, .ref 76), (3, .int (nI (6 * c)))] [.int ((op_round S (G.2.2.2.2.2 ((6 * c) + 1)) (G.2.2.2.2.2 ((6 * c) + 2))).1), .int ((op_round S (G.2.2.2.2.2 ((6 * c) + 1)) (G.2.2.2.2.2 ((6 * c) + 2))).1)] (mm I2 J2 t2) _
  refine zV_icmp_eq (tgt := 1788) dL_law_1065 rfl rfl  (fun _ => ?_) (fun z => absurd z (fun z => z rfl))
  exact k _ _ _ _ (hC1.fr (B := B + 0) (w_round hw) hf2) hM2 ((w_round hw).up (by omega) (by omega))
set_option maxRecDepth 100000 in
theorem law_flip {G : mG} {I : Nat → Nat → Int32} {J : Nat → Nat → Int64} {t c B : Nat} {S : aS} {Q : Option Value → mM → Prop} (hC : InvC I S) (hM : InvM I S) (hw : wfS B S) (hB : B + 242 < 1000000) (hL : G.2.2.2.2.1 ≤ 100000) (hc : 6 * c + 5 < G.2.2.2.2.1) (k : ∀ I' J' t' S', InvC I' S' → InvM I' S' → wfS (B + 242) S' → zV G (eL_law room_1) (90, 5102) 1788 [(0, .ref 1301), (1, .ref 0), (2, .ref 76), (3, .int (nI (6 * c)))] [] (mm I' J' t') Q) : zV G (eL_law room_1) (90, 5102) 1070 [(0, .ref 1301), (1, .ref 0), (2, .ref 76), (3, .int (nI (6 * c)))] [] (mm I J t) Q := by
  refine zV_aload_n dL_law_1070 rfl 1 rfl rfl ?_
  refine zV_aload_n dL_law_1071 rfl 0 rfl rfl ?_
  refine zV_iload_n dL_law_1072 rfl 3 rfl rfl ?_
  refine zV_iconst (v := (nI 1)) dL_law_1073 rfl rfl ?_
  refine zA_iadd (z := (nI ((6 * c) + 1))) dL_law_1074 rfl  (nI_add _ _) ?_
  refine zV_script ((6 * c) + 1) dL_law_1075 rfl rfl (by omega) hL ?_
  refine zV_aload_n dL_law_1076 rfl 0 rfl rfl ?_
  refine zV_iload_n dL_law_1077 rfl 3 rfl rfl ?_
  refine zV_iconst (v := (nI 2)) dL_law_1078 rfl rfl ?_
  refine zA_iadd (z := (nI ((6 * c) + 2))) dL_law_1079 rfl  (nI_add _ _) ?_
  refine zV_script ((6 * c) + 2) dL_law_1080 rfl rfl (by omega) hL ?_
  refine zV_callV (E' := eX6_flip (g_rmv 13)) (av := [.int (G.2.2.2.2.2 ((6 * c) + 1)), .int (G.2.2.2.2.2 ((6 * c) + 2))]) (st := []) (b := 0) dL_law_1081 rfl (k_RL_112 _) rfl ⟨by decide, by decide⟩ ⟨by decide, by decide⟩ (Or.inl rfl) rfl (Nat.le_of_ble_eq_true rfl) rfl rfl rfl (p_flip hC hw) (fun r1081 M1081 z => ?_)
  obtain ⟨I1, J1, t1, rfl, rfl, hC1, hf1⟩ := z
  show zV G (eL_law room_1) (90, 5102) 1084 [(0, .ref 1301), (1, .ref 0), (2, .ref 76), (3, .int (nI (6 * c)))] [.int ((op_flip S (G.2.2.2.2.2 ((6 * c) + 1)) (G.2.2.2.2.2 ((6 * c) + 2))).1)] (mm I1 J1 t1) _
  refine zV_aload_n dL_law_1084 rfl 2 rfl rfl ?_
  refine zV_aload_n dL_law_1085 rfl 0 rfl rfl ?_
  refine zV_iload_n dL_law_1086 rfl 3 rfl rfl ?_
  refine zV_iconst (v := (nI 1)) dL_law_1087 rfl rfl ?_
  refine zA_iadd (z := (nI ((6 * c) + 1))) dL_law_1088 rfl  (nI_add _ _) ?_
  refine zV_script ((6 * c) + 1) dL_law_1089 rfl rfl (by omega) hL ?_
  refine zV_aload_n dL_law_1090 rfl 0 rfl rfl ?_
  refine zV_iload_n dL_law_1091 rfl 3 rfl rfl ?_
  refine zV_iconst (v := (nI 2)) dL_law_1092 rfl rfl ?_
  refine zA_iadd (z := (nI ((6 * c) + 2))) dL_law_1093 rfl  (nI_add _ _) ?_
  refine zV_script ((6 * c) + 2) dL_law_1094 rfl rfl (by omega) hL ?_
  refine zV_callV (E' := eX7_flip (g_rmv 6)) (av := [.int (G.2.2.2.2.2 ((6 * c) + 1)), .int (G.2.2.2.2.2 ((6 * c) + 2))]) (st := [.int ((op_flip S (G.2.2.2.2.2 ((6 * c) + 1)) (G.2.2.2.2.2 ((6 * c) + 2))).1)]) (b := 76) dL_law_1095 rfl (k_RL_115 _) rfl ⟨by decide, by decide⟩ ⟨by decide, by decide⟩ (Or.inl rfl) rfl (Nat.le_of_ble_eq_true rfl) rfl rfl rfl (q_flip (hM.fr hf1) hw) (fun r1095 M1095 z => ?_)
  obtain ⟨I2, J2, t2, rfl, rfl, hM2, hf2⟩ := z
  show zV G (eL_law room_1) (90, 5102) 1098 [(0, .ref 1301), (1, .ref 0), (2, .ref 76), (3, .int (nI (6 * c)))] [.int ((op_flip S (G.2.2.2.2.2 ((6 * c) + 1)) (G.2.2.2.2.2 ((6 * c) + 2))).1), .int ((op_flip S (G.2.2.2.2.2 ((6 * c) + 1)) (G.2.2.2.2.2 ((6 * c) + 2))).1)] (mm I2 J2 t2) _
  refine zV_icmp_eq (tgt := 1788) dL_law_1098 rfl rfl  (fun _ => ?_) (fun z => absurd z (fun z => z rfl))
  exact k _ _ _ _ (hC1.fr (B := B + 0) (w_flip hw) hf2) hM2 ((w_flip hw).up (by omega) (by omega))
set_option maxRecDepth 100000 in
theorem law_highest {G : mG} {I : Nat → Nat → Int32} {J : Nat → Nat → Int64} {t c B : Nat} {S : aS} {Q : Option Value → mM → Prop} (hC : InvC I S) (hM : InvM I S) (hw : wfS B S) (hB : B + 242 < 1000000) (hL : G.2.2.2.2.1 ≤ 100000) (hc : 6 * c + 5 < G.2.2.2.2.1) (k : ∀ I' J' t' S', InvC I' S' → InvM I' S' → wfS (B + 242) S' → zV G (eL_law room_1) (90, 5102) 1788 [(0, .ref 1301), (1, .ref 0), (2, .ref 76), (3, .int (nI (6 * c)))] [] (mm I' J' t') Q) : zV G (eL_law room_1) (90, 5102) 1103 [(0, .ref 1301), (1, .ref 0), (2, .ref 76), (3, .int (nI (6 * c)))] [] (mm I J t) Q := by
  refine zV_aload_n dL_law_1103 rfl 1 rfl rfl ?_
  refine zV_aload_n dL_law_1104 rfl 0 rfl rfl ?_
  refine zV_iload_n dL_law_1105 rfl 3 rfl rfl ?_
  refine zV_iconst (v := (nI 1)) dL_law_1106 rfl rfl ?_
  refine zA_iadd (z := (nI ((6 * c) + 1))) dL_law_1107 rfl  (nI_add _ _) ?_
  refine zV_script ((6 * c) + 1) dL_law_1108 rfl rfl (by omega) hL ?_
  refine zV_callV (E' := eX6_highest (g_rmv 3)) (av := [.int (G.2.2.2.2.2 ((6 * c) + 1))]) (st := []) (b := 0) dL_law_1109 rfl (k_RL_116 _) rfl ⟨by decide, by decide⟩ ⟨by decide, by decide⟩ (Or.inl rfl) rfl (Nat.le_of_ble_eq_true rfl) rfl rfl rfl (p_highest hC hw) (fun r1109 M1109 z => ?_)
  obtain ⟨I1, J1, t1, rfl, rfl, hC1, hf1⟩ := z
  show zV G (eL_law room_1) (90, 5102) 1112 [(0, .ref 1301), (1, .ref 0), (2, .ref 76), (3, .int (nI (6 * c)))] [.int ((op_highest S (G.2.2.2.2.2 ((6 * c) + 1))).1)] (mm I1 J1 t1) _
  refine zV_aload_n dL_law_1112 rfl 2 rfl rfl ?_
  refine zV_aload_n dL_law_1113 rfl 0 rfl rfl ?_
  refine zV_iload_n dL_law_1114 rfl 3 rfl rfl ?_
  refine zV_iconst (v := (nI 1)) dL_law_1115 rfl rfl ?_
  refine zA_iadd (z := (nI ((6 * c) + 1))) dL_law_1116 rfl  (nI_add _ _) ?_
  refine zV_script ((6 * c) + 1) dL_law_1117 rfl rfl (by omega) hL ?_
  refine zV_callV (E' := eX7_highest (g_rmv 4)) (av := [.int (G.2.2.2.2.2 ((6 * c) + 1))]) (st := [.int ((op_highest S (G.2.2.2.2.2 ((6 * c) + 1))).1)]) (b := 76) dL_law_1118 rfl (k_RL_119 _) rfl ⟨by decide, by decide⟩ ⟨by decide, by decide⟩ (Or.inl rfl) rfl (Nat.le_of_ble_eq_true rfl) rfl rfl rfl (q_highest (hM.fr hf1) hw) (fun r1118 M1118 z => ?_)
  obtain ⟨I2, J2, t2, rfl, rfl, hM2, hf2⟩ := z
  show zV G (eL_law room_1) (90, 5102) 1121 [(0, .ref 1301), (1, .ref 0), (2, .ref 76), (3, .int (nI (6 * c)))] [.int ((op_highest S (G.2.2.2.2.2 ((6 * c) + 1))).1), .int ((op_highest S (G.2.2.2.2.2 ((6 * c) + 1))).1)] (mm I2 J2 t2) _
  refine zV_icmp_eq (tgt := 1788) dL_law_1121 rfl rfl  (fun _ => ?_) (fun z => absurd z (fun z => z rfl))
  exact k _ _ _ _ (hC1.fr (B := B + 0) (w_highest hw) hf2) hM2 ((w_highest hw).up (by omega) (by omega))
set_option maxRecDepth 100000 in
theorem law_wrong {G : mG} {I : Nat → Nat → Int32} {J : Nat → Nat → Int64} {t c B : Nat} {S : aS} {Q : Option Value → mM → Prop} (hC : InvC I S) (hM : InvM I S) (hw : wfS B S) (hB : B + 242 < 1000000) (hL : G.2.2.2.2.1 ≤ 100000) (hc : 6 * c + 5 < G.2.2.2.2.1) (k : ∀ I' J' t' S', InvC I' S' → InvM I' S' → wfS (B + 242) S' → zV G (eL_law room_1) (90, 5102) 1788 [(0, .ref 1301), (1, .ref 0), (2, .ref 76), (3, .int (nI (6 * c)))] [] (mm I' J' t') Q) : zV G (eL_law room_1) (90, 5102) 1126 [(0, .ref 1301), (1, .ref 0), (2, .ref 76), (3, .int (nI (6 * c)))] [] (mm I J t) Q := by
  refine zV_aload_n dL_law_1126 rfl 1 rfl rfl ?_
  refine zV_callV (E' := eX6_wrong (g_rmv 3)) (av := []) (st := []) (b := 0) dL_law_1127 rfl (k_RL_120 _) rfl ⟨by decide, by decide⟩ ⟨by decide, by decide⟩ (Or.inl rfl) rfl (Nat.le_of_ble_eq_true rfl) rfl rfl rfl (p_wrong hC hw) (fun r1127 M1127 z => ?_)
  obtain ⟨I1, J1, t1, rfl, rfl, hC1, hf1⟩ := z
  show zV G (eL_law room_1) (90, 5102) 1130 [(0, .ref 1301), (1, .ref 0), (2, .ref 76), (3, .int (nI (6 * c)))] [.int ((op_wrong S).1)] (mm I1 J1 t1) _
  refine zV_aload_n dL_law_1130 rfl 2 rfl rfl ?_
  refine zV_callV (E' := eX7_wrong (g_rmv 4)) (av := []) (st := [.int ((op_wrong S).1)]) (b := 76) dL_law_1131 rfl (k_RL_124 _) rfl ⟨by decide, by decide⟩ ⟨by decide, by decide⟩ (Or.inl rfl) rfl (Nat.le_of_ble_eq_true rfl) rfl rfl rfl (q_wrong (hM.fr hf1) hw) (fun r1131 M1131 z => ?_)
  obtain ⟨I2, J2, t2, rfl, rfl, hM2, hf2⟩ := z
  show zV G (eL_law room_1) (90, 5102) 1134 [(0, .ref 1301), (1, .ref 0), (2, .ref 76), (3, .int (nI (6 * c)))] [.int ((op_wrong S).1), .int ((op_wrong S).1)] (mm I2 J2 t2) _
  refine zV_icmp_eq (tgt := 1788) dL_law_1134 rfl rfl  (fun _ => ?_) (fun z => absurd z (fun z => z rfl))
  exact k _ _ _ _ (hC1.fr (B := B + 0) (w_wrong hw) hf2) hM2 ((w_wrong hw).up (by omega) (by omega))
set_option maxRecDepth 100000 in
theorem law_ways {G : mG} {I : Nat → Nat → Int32} {J : Nat → Nat → Int64} {t c B : Nat} {S : aS} {Q : Option Value → mM → Prop} (hC : InvC I S) (hM : InvM I S) (hw : wfS B S) (hB : B + 242 < 1000000) (hL : G.2.2.2.2.1 ≤ 100000) (hc : 6 * c + 5 < G.2.2.2.2.1) (k : ∀ I' J' t' S', InvC I' S' → InvM I' S' → wfS (B + 242) S' → zV G (eL_law room_1) (90, 5102) 1788 [(0, .ref 1301), (1, .ref 0), (2, .ref 76), (3, .int (nI (6 * c)))] [] (mm I' J' t') Q) : zV G (eL_law room_1) (90, 5102) 1139 [(0, .ref 1301), (1, .ref 0), (2, .ref 76), (3, .int (nI (6 * c)))] [] (mm I J t) Q := by
  refine zV_aload_n dL_law_1139 rfl 1 rfl rfl ?_
  refine zV_aload_n dL_law_1140 rfl 0 rfl rfl ?_
  refine zV_iload_n dL_law_1141 rfl 3 rfl rfl ?_
  refine zV_iconst (v := (nI 1)) dL_law_1142 rfl rfl ?_
  refine zA_iadd (z := (nI ((6 * c) + 1))) dL_law_1143 rfl  (nI_add _ _) ?_
  refine zV_script ((6 * c) + 1) dL_law_1144 rfl rfl (by omega) hL ?_
  refine zV_aload_n dL_law_1145 rfl 0 rfl rfl ?_
  refine zV_iload_n dL_law_1146 rfl 3 rfl rfl ?_
  refine zV_iconst (v := (nI 2)) dL_law_1147 rfl rfl ?_
  refine zA_iadd (z := (nI ((6 * c) + 2))) dL_law_1148 rfl  (nI_add _ _) ?_
  refine zV_script ((6 * c) + 2) dL_law_1149 rfl rfl (by omega) hL ?_
  refine zV_callV (E' := eX6_ways (g_rmv 5)) (av := [.int (G.2.2.2.2.2 ((6 * c) + 1)), .int (G.2.2.2.2.2 ((6 * c) + 2))]) (st := []) (b := 0) dL_law_1150 rfl (k_RL_125 _) rfl ⟨by decide, by decide⟩ ⟨by decide, by decide⟩ (Or.inl rfl) rfl (Nat.le_of_ble_eq_true rfl) rfl rfl rfl (p_ways hC hw) (fun r1150 M1150 z => ?_)
  obtain ⟨I1, J1, t1, rfl, rfl, hC1, hf1⟩ := z
  show zV G (eL_law room_1) (90, 5102) 1153 [(0, .ref 1301), (1, .ref 0), (2, .ref 76), (3, .int (nI (6 * c)))] [.int ((op_ways S (G.2.2.2.2.2 ((6 * c) + 1)) (G.2.2.2.2.2 ((6 * c) + 2))).1)] (mm I1 J1 t1) _
  refine zV_aload_n dL_law_1153 rfl 2 rfl rfl ?_
  refine zV_aload_n dL_law_1154 rfl 0 rfl rfl ?_
  refine zV_iload_n dL_law_1155 rfl 3 rfl rfl ?_
  refine zV_iconst (v := (nI 1)) dL_law_1156 rfl rfl ?_
  refine zA_iadd (z := (nI ((6 * c) + 1))) dL_law_1157 rfl  (nI_add _ _) ?_
  refine zV_script ((6 * c) + 1) dL_law_1158 rfl rfl (by omega) hL ?_
  refine zV_aload_n dL_law_1159 rfl 0 rfl rfl ?_
  refine zV_iload_n dL_law_1160 rfl 3 rfl rfl ?_
  refine zV_iconst (v := (nI 2)) dL_law_1161 rfl rfl ?_
  refine zA_iadd (z := (nI ((6 * c) + 2))) dL_law_1162 rfl  (nI_add _ _) ?_
  refine zV_script ((6 * c) + 2) dL_law_1163 rfl rfl (by omega) hL ?_
  refine zV_callV (E' := eX7_ways (g_rmv 5)) (av := [.int (G.2.2.2.2.2 ((6 * c) + 1)), .int (G.2.2.2.2.2 ((6 * c) + 2))]) (st := [.int ((op_ways S (G.2.2.2.2.2 ((6 * c) + 1)) (G.2.2.2.2.2 ((6 * c) + 2))).1)]) (b := 76) dL_law_1164 rfl (k_RL_128 _) rfl ⟨by decide, by decide⟩ ⟨by decide, by decide⟩ (Or.inl rfl) rfl (Nat.le_of_ble_eq_true rfl) rfl rfl rfl (q_ways (hM.fr hf1) hw) (fun r1164 M1164 z => ?_)
  obtain ⟨I2, J2, t2, rfl, rfl, hM2, hf2⟩ := z
  show zV G (eL_law room_1) (90, 5102) 1167 [(0, .ref 1301), (1, .ref 0), (2, .ref 76), (3, .int (nI (6 * c)))] [.int ((op_ways S (G.2.2.2.2.2 ((6 * c) + 1)) (G.2.2.2.2.2 ((6 * c) + 2))).1), .int ((op_ways S (G.2.2.2.2.2 ((6 * c) + 1)) (G.2.2.2.2.2 ((6 * c) + 2))).1)] (mm I2 J2 t2) _
  refine zV_icmp_eq (tgt := 1788) dL_law_1167 rfl rfl  (fun _ => ?_) (fun z => absurd z (fun z => z rfl))
  exact k _ _ _ _ (hC1.fr (B := B + 0) (w_ways hw) hf2) hM2 ((w_ways hw).up (by omega) (by omega))
set_option maxRecDepth 100000 in
theorem law_kindFor {G : mG} {I : Nat → Nat → Int32} {J : Nat → Nat → Int64} {t c B : Nat} {S : aS} {Q : Option Value → mM → Prop} (hC : InvC I S) (hM : InvM I S) (hw : wfS B S) (hB : B + 242 < 1000000) (hL : G.2.2.2.2.1 ≤ 100000) (hc : 6 * c + 5 < G.2.2.2.2.1) (k : ∀ I' J' t' S', InvC I' S' → InvM I' S' → wfS (B + 242) S' → zV G (eL_law room_1) (90, 5102) 1788 [(0, .ref 1301), (1, .ref 0), (2, .ref 76), (3, .int (nI (6 * c)))] [] (mm I' J' t') Q) : zV G (eL_law room_1) (90, 5102) 1172 [(0, .ref 1301), (1, .ref 0), (2, .ref 76), (3, .int (nI (6 * c)))] [] (mm I J t) Q := by
  refine zV_aload_n dL_law_1172 rfl 1 rfl rfl ?_
  refine zV_aload_n dL_law_1173 rfl 0 rfl rfl ?_
  refine zV_iload_n dL_law_1174 rfl 3 rfl rfl ?_
  refine zV_iconst (v := (nI 1)) dL_law_1175 rfl rfl ?_
  refine zA_iadd (z := (nI ((6 * c) + 1))) dL_law_1176 rfl  (nI_add _ _) ?_
  refine zV_script ((6 * c) + 1) dL_law_1177 rfl rfl (by omega) hL ?_
  refine zV_callV (E' := eX6_kindFor (g_rmv 3)) (av := [.int (G.2.2.2.2.2 ((6 * c) + 1))]) (st := []) (b := 0) dL_law_1178 rfl (k_RL_129 _) rfl ⟨by decide, by decide⟩ ⟨by decide, by decide⟩ (Or.inl rfl) rfl (Nat.le_of_ble_eq_true rfl) rfl rfl rfl (p_kindFor hC hw) (fun r1178 M1178 z => ?_)
  obtain ⟨I1, J1, t1, rfl, rfl, hC1, hf1⟩ := z
  show zV G (eL_law room_1) (90, 5102) 1181 [(0, .ref 1301), (1, .ref 0), (2, .ref 76), (3, .int (nI (6 * c)))] [.int ((op_kindFor S (G.2.2.2.2.2 ((6 * c) + 1))).1)] (mm I1 J1 t1) _
  refine zV_aload_n dL_law_1181 rfl 2 rfl rfl ?_
  refine zV_aload_n dL_law_1182 rfl 0 rfl rfl ?_
  refine zV_iload_n dL_law_1183 rfl 3 rfl rfl ?_
  refine zV_iconst (v := (nI 1)) dL_law_1184 rfl rfl ?_
  refine zA_iadd (z := (nI ((6 * c) + 1))) dL_law_1185 rfl  (nI_add _ _) ?_
  refine zV_script ((6 * c) + 1) dL_law_1186 rfl rfl (by omega) hL ?_
  refine zV_callV (E' := eX7_kindFor (g_rmv 3)) (av := [.int (G.2.2.2.2.2 ((6 * c) + 1))]) (st := [.int ((op_kindFor S (G.2.2.2.2.2 ((6 * c) + 1))).1)]) (b := 76) dL_law_1187 rfl (k_RL_132 _) rfl ⟨by decide, by decide⟩ ⟨by decide, by decide⟩ (Or.inl rfl) rfl (Nat.le_of_ble_eq_true rfl) rfl rfl rfl (q_kindFor (hM.fr hf1) hw) (fun r1187 M1187 z => ?_)
  obtain ⟨I2, J2, t2, rfl, rfl, hM2, hf2⟩ := z
  show zV G (eL_law room_1) (90, 5102) 1190 [(0, .ref 1301), (1, .ref 0), (2, .ref 76), (3, .int (nI (6 * c)))] [.int ((op_kindFor S (G.2.2.2.2.2 ((6 * c) + 1))).1), .int ((op_kindFor S (G.2.2.2.2.2 ((6 * c) + 1))).1)] (mm I2 J2 t2) _
  refine zV_icmp_eq (tgt := 1788) dL_law_1190 rfl rfl  (fun _ => ?_) (fun z => absurd z (fun z => z rfl))
  exact k _ _ _ _ (hC1.fr (B := B + 0) (w_kindFor hw) hf2) hM2 ((w_kindFor hw).up (by omega) (by omega))
set_option maxRecDepth 100000 in
theorem law_days {G : mG} {I : Nat → Nat → Int32} {J : Nat → Nat → Int64} {t c B : Nat} {S : aS} {Q : Option Value → mM → Prop} (hC : InvC I S) (hM : InvM I S) (hw : wfS B S) (hB : B + 242 < 1000000) (hL : G.2.2.2.2.1 ≤ 100000) (hc : 6 * c + 5 < G.2.2.2.2.1) (k : ∀ I' J' t' S', InvC I' S' → InvM I' S' → wfS (B + 242) S' → zV G (eL_law room_1) (90, 5102) 1788 [(0, .ref 1301), (1, .ref 0), (2, .ref 76), (3, .int (nI (6 * c)))] [] (mm I' J' t') Q) : zV G (eL_law room_1) (90, 5102) 1195 [(0, .ref 1301), (1, .ref 0), (2, .ref 76), (3, .int (nI (6 * c)))] [] (mm I J t) Q := by
  refine zV_aload_n dL_law_1195 rfl 1 rfl rfl ?_
  refine zV_aload_n dL_law_1196 rfl 0 rfl rfl ?_
  refine zV_iload_n dL_law_1197 rfl 3 rfl rfl ?_
  refine zV_iconst (v := (nI 1)) dL_law_1198 rfl rfl ?_
  refine zA_iadd (z := (nI ((6 * c) + 1))) dL_law_1199 rfl  (nI_add _ _) ?_
  refine zV_script ((6 * c) + 1) dL_law_1200 rfl rfl (by omega) hL ?_
  refine zV_callV (E' := eX6_days (g_rmv 4)) (av := [.int (G.2.2.2.2.2 ((6 * c) + 1))]) (st := []) (b := 0) dL_law_1201 rfl (k_RL_133 _) rfl ⟨by decide, by decide⟩ ⟨by decide, by decide⟩ (Or.inl rfl) rfl (Nat.le_of_ble_eq_true rfl) rfl rfl rfl (p_days hC hw (by omega)) (fun r1201 M1201 z => ?_)
  obtain ⟨I1, J1, t1, rfl, rfl, hC1, hf1⟩ := z
  show zV G (eL_law room_1) (90, 5102) 1204 [(0, .ref 1301), (1, .ref 0), (2, .ref 76), (3, .int (nI (6 * c)))] [.int ((op_days S (G.2.2.2.2.2 ((6 * c) + 1))).1)] (mm I1 J1 t1) _
  refine zV_aload_n dL_law_1204 rfl 2 rfl rfl ?_
  refine zV_aload_n dL_law_1205 rfl 0 rfl rfl ?_
  refine zV_iload_n dL_law_1206 rfl 3 rfl rfl ?_
  refine zV_iconst (v := (nI 1)) dL_law_1207 rfl rfl ?_
  refine zA_iadd (z := (nI ((6 * c) + 1))) dL_law_1208 rfl  (nI_add _ _) ?_
  refine zV_script ((6 * c) + 1) dL_law_1209 rfl rfl (by omega) hL ?_
  refine zV_callV (E' := eX7_days (g_rmv 5)) (av := [.int (G.2.2.2.2.2 ((6 * c) + 1))]) (st := [.int ((op_days S (G.2.2.2.2.2 ((6 * c) + 1))).1)]) (b := 76) dL_law_1210 rfl (k_RL_136 _) rfl ⟨by decide, by decide⟩ ⟨by decide, by decide⟩ (Or.inl rfl) rfl (Nat.le_of_ble_eq_true rfl) rfl rfl rfl (q_days (hM.fr hf1) hw (by omega)) (fun r1210 M1210 z => ?_)
  obtain ⟨I2, J2, t2, rfl, rfl, hM2, hf2⟩ := z
  show zV G (eL_law room_1) (90, 5102) 1213 [(0, .ref 1301), (1, .ref 0), (2, .ref 76), (3, .int (nI (6 * c)))] [.int ((op_days S (G.2.2.2.2.2 ((6 * c) + 1))).1), .int ((op_days S (G.2.2.2.2.2 ((6 * c) + 1))).1)] (mm I2 J2 t2) _
  refine zV_icmp_eq (tgt := 1788) dL_law_1213 rfl rfl  (fun _ => ?_) (fun z => absurd z (fun z => z rfl))
  exact k _ _ _ _ (hC1.fr (B := B + 120) (w_days hw (by omega)) hf2) hM2 ((w_days hw (by omega)).up (by omega) (by omega))
set_option maxRecDepth 100000 in
theorem law_ahead {G : mG} {I : Nat → Nat → Int32} {J : Nat → Nat → Int64} {t c B : Nat} {S : aS} {Q : Option Value → mM → Prop} (hC : InvC I S) (hM : InvM I S) (hw : wfS B S) (hB : B + 242 < 1000000) (hL : G.2.2.2.2.1 ≤ 100000) (hc : 6 * c + 5 < G.2.2.2.2.1) (k : ∀ I' J' t' S', InvC I' S' → InvM I' S' → wfS (B + 242) S' → zV G (eL_law room_1) (90, 5102) 1788 [(0, .ref 1301), (1, .ref 0), (2, .ref 76), (3, .int (nI (6 * c)))] [] (mm I' J' t') Q) : zV G (eL_law room_1) (90, 5102) 1218 [(0, .ref 1301), (1, .ref 0), (2, .ref 76), (3, .int (nI (6 * c)))] [] (mm I J t) Q := by
  refine zV_aload_n dL_law_1218 rfl 1 rfl rfl ?_
  refine zV_aload_n dL_law_1219 rfl 0 rfl rfl ?_
  refine zV_iload_n dL_law_1220 rfl 3 rfl rfl ?_
  refine zV_iconst (v := (nI 1)) dL_law_1221 rfl rfl ?_
  refine zA_iadd (z := (nI ((6 * c) + 1))) dL_law_1222 rfl  (nI_add _ _) ?_
  refine zV_script ((6 * c) + 1) dL_law_1223 rfl rfl (by omega) hL ?_
  refine zV_aload_n dL_law_1224 rfl 0 rfl rfl ?_
  refine zV_iload_n dL_law_1225 rfl 3 rfl rfl ?_
  refine zV_iconst (v := (nI 2)) dL_law_1226 rfl rfl ?_
  refine zA_iadd (z := (nI ((6 * c) + 2))) dL_law_1227 rfl  (nI_add _ _) ?_
  refine zV_script ((6 * c) + 2) dL_law_1228 rfl rfl (by omega) hL ?_
  refine zV_callV (E' := eX6_ahead (g_rmv 4)) (av := [.int (G.2.2.2.2.2 ((6 * c) + 1)), .int (G.2.2.2.2.2 ((6 * c) + 2))]) (st := []) (b := 0) dL_law_1229 rfl (k_RL_137 _) rfl ⟨by decide, by decide⟩ ⟨by decide, by decide⟩ (Or.inl rfl) rfl (Nat.le_of_ble_eq_true rfl) rfl rfl rfl (p_ahead hC hw (by omega)) (fun r1229 M1229 z => ?_)
  obtain ⟨I1, J1, t1, rfl, rfl, hC1, hf1⟩ := z
  show zV G (eL_law room_1) (90, 5102) 1232 [(0, .ref 1301), (1, .ref 0), (2, .ref 76), (3, .int (nI (6 * c)))] [.int ((op_ahead S (G.2.2.2.2.2 ((6 * c) + 1)) (G.2.2.2.2.2 ((6 * c) + 2))).1)] (mm I1 J1 t1) _
  refine zV_aload_n dL_law_1232 rfl 2 rfl rfl ?_
  refine zV_aload_n dL_law_1233 rfl 0 rfl rfl ?_
  refine zV_iload_n dL_law_1234 rfl 3 rfl rfl ?_
  refine zV_iconst (v := (nI 1)) dL_law_1235 rfl rfl ?_
  refine zA_iadd (z := (nI ((6 * c) + 1))) dL_law_1236 rfl  (nI_add _ _) ?_
  refine zV_script ((6 * c) + 1) dL_law_1237 rfl rfl (by omega) hL ?_
  refine zV_aload_n dL_law_1238 rfl 0 rfl rfl ?_
  refine zV_iload_n dL_law_1239 rfl 3 rfl rfl ?_
  refine zV_iconst (v := (nI 2)) dL_law_1240 rfl rfl ?_
  refine zA_iadd (z := (nI ((6 * c) + 2))) dL_law_1241 rfl  (nI_add _ _) ?_
  refine zV_script ((6 * c) + 2) dL_law_1242 rfl rfl (by omega) hL ?_
  refine zV_callV (E' := eX7_ahead (g_rmv 5)) (av := [.int (G.2.2.2.2.2 ((6 * c) + 1)), .int (G.2.2.2.2.2 ((6 * c) + 2))]) (st := [.int ((op_ahead S (G.2.2.2.2.2 ((6 * c) + 1)) (G.2.2.2.2.2 ((6 * c) + 2))).1)]) (b := 76) dL_law_1243 rfl (k_RL_140 _) rfl ⟨by decide, by decide⟩ ⟨by decide, by decide⟩ (Or.inl rfl) rfl (Nat.le_of_ble_eq_true rfl) rfl rfl rfl (q_ahead (hM.fr hf1) hw (by omega)) (fun r1243 M1243 z => ?_)
  obtain ⟨I2, J2, t2, rfl, rfl, hM2, hf2⟩ := z
  show zV G (eL_law room_1) (90, 5102) 1246 [(0, .ref 1301), (1, .ref 0), (2, .ref 76), (3, .int (nI (6 * c)))] [.int ((op_ahead S (G.2.2.2.2.2 ((6 * c) + 1)) (G.2.2.2.2.2 ((6 * c) + 2))).1), .int ((op_ahead S (G.2.2.2.2.2 ((6 * c) + 1)) (G.2.2.2.2.2 ((6 * c) + 2))).1)] (mm I2 J2 t2) _
  refine zV_icmp_eq (tgt := 1788) dL_law_1246 rfl rfl  (fun _ => ?_) (fun z => absurd z (fun z => z rfl))
  exact k _ _ _ _ (hC1.fr (B := B + 0) (w_ahead hw) hf2) hM2 ((w_ahead hw).up (by omega) (by omega))
set_option maxRecDepth 100000 in
theorem law_market {G : mG} {I : Nat → Nat → Int32} {J : Nat → Nat → Int64} {t c B : Nat} {S : aS} {Q : Option Value → mM → Prop} (hC : InvC I S) (hM : InvM I S) (hw : wfS B S) (hB : B + 242 < 1000000) (hL : G.2.2.2.2.1 ≤ 100000) (hc : 6 * c + 5 < G.2.2.2.2.1) (k : ∀ I' J' t' S', InvC I' S' → InvM I' S' → wfS (B + 242) S' → zV G (eL_law room_1) (90, 5102) 1788 [(0, .ref 1301), (1, .ref 0), (2, .ref 76), (3, .int (nI (6 * c)))] [] (mm I' J' t') Q) : zV G (eL_law room_1) (90, 5102) 1251 [(0, .ref 1301), (1, .ref 0), (2, .ref 76), (3, .int (nI (6 * c)))] [] (mm I J t) Q := by
  refine zV_aload_n dL_law_1251 rfl 1 rfl rfl ?_
  refine zV_aload_n dL_law_1252 rfl 0 rfl rfl ?_
  refine zV_iload_n dL_law_1253 rfl 3 rfl rfl ?_
  refine zV_iconst (v := (nI 1)) dL_law_1254 rfl rfl ?_
  refine zA_iadd (z := (nI ((6 * c) + 1))) dL_law_1255 rfl  (nI_add _ _) ?_
  refine zV_script ((6 * c) + 1) dL_law_1256 rfl rfl (by omega) hL ?_
  refine zV_callV (E' := eX6_market (g_rmv 4)) (av := [.int (G.2.2.2.2.2 ((6 * c) + 1))]) (st := []) (b := 0) dL_law_1257 rfl (k_RL_141 _) rfl ⟨by decide, by decide⟩ ⟨by decide, by decide⟩ (Or.inl rfl) rfl (Nat.le_of_ble_eq_true rfl) rfl rfl rfl (p_market hC hw (by omega)) (fun r1257 M1257 z => ?_)
  obtain ⟨I1, J1, t1, rfl, rfl, hC1, hf1⟩ := z
  show zV G (eL_law room_1) (90, 5102) 1260 [(0, .ref 1301), (1, .ref 0), (2, .ref 76), (3, .int (nI (6 * c)))] [.int ((op_market S (G.2.2.2.2.2 ((6 * c) + 1))).1)] (mm I1 J1 t1) _
  refine zV_aload_n dL_law_1260 rfl 2 rfl rfl ?_
  refine zV_aload_n dL_law_1261 rfl 0 rfl rfl ?_
  refine zV_iload_n dL_law_1262 rfl 3 rfl rfl ?_
  refine zV_iconst (v := (nI 1)) dL_law_1263 rfl rfl ?_
  refine zA_iadd (z := (nI ((6 * c) + 1))) dL_law_1264 rfl  (nI_add _ _) ?_
  refine zV_script ((6 * c) + 1) dL_law_1265 rfl rfl (by omega) hL ?_
  refine zV_callV (E' := eX7_market (g_rmv 5)) (av := [.int (G.2.2.2.2.2 ((6 * c) + 1))]) (st := [.int ((op_market S (G.2.2.2.2.2 ((6 * c) + 1))).1)]) (b := 76) dL_law_1266 rfl (k_RL_144 _) rfl ⟨by decide, by decide⟩ ⟨by decide, by decide⟩ (Or.inl rfl) rfl (Nat.le_of_ble_eq_true rfl) rfl rfl rfl (q_market (hM.fr hf1) hw (by omega)) (fun r1266 M1266 z => ?_)
  obtain ⟨I2, J2, t2, rfl, rfl, hM2, hf2⟩ := z
  show zV G (eL_law room_1) (90, 5102) 1269 [(0, .ref 1301), (1, .ref 0), (2, .ref 76), (3, .int (nI (6 * c)))] [.int ((op_market S (G.2.2.2.2.2 ((6 * c) + 1))).1), .int ((op_market S (G.2.2.2.2.2 ((6 * c) + 1))).1)] (mm I2 J2 t2) _
  refine zV_icmp_eq (tgt := 1788) dL_law_1269 rfl rfl  (fun _ => ?_) (fun z => absurd z (fun z => z rfl))
  exact k _ _ _ _ (hC1.fr (B := B + 24) (w_market hw (by omega)) hf2) hM2 ((w_market hw (by omega)).up (by omega) (by omega))
set_option maxRecDepth 100000 in
theorem law_toss {G : mG} {I : Nat → Nat → Int32} {J : Nat → Nat → Int64} {t c B : Nat} {S : aS} {Q : Option Value → mM → Prop} (hC : InvC I S) (hM : InvM I S) (hw : wfS B S) (hB : B + 242 < 1000000) (hL : G.2.2.2.2.1 ≤ 100000) (hc : 6 * c + 5 < G.2.2.2.2.1) (k : ∀ I' J' t' S', InvC I' S' → InvM I' S' → wfS (B + 242) S' → zV G (eL_law room_1) (90, 5102) 1788 [(0, .ref 1301), (1, .ref 0), (2, .ref 76), (3, .int (nI (6 * c)))] [] (mm I' J' t') Q) : zV G (eL_law room_1) (90, 5102) 1274 [(0, .ref 1301), (1, .ref 0), (2, .ref 76), (3, .int (nI (6 * c)))] [] (mm I J t) Q := by
  refine zV_aload_n dL_law_1274 rfl 1 rfl rfl ?_
  refine zV_aload_n dL_law_1275 rfl 0 rfl rfl ?_
  refine zV_iload_n dL_law_1276 rfl 3 rfl rfl ?_
  refine zV_iconst (v := (nI 1)) dL_law_1277 rfl rfl ?_
  refine zA_iadd (z := (nI ((6 * c) + 1))) dL_law_1278 rfl  (nI_add _ _) ?_
  refine zV_script ((6 * c) + 1) dL_law_1279 rfl rfl (by omega) hL ?_
  refine zV_aload_n dL_law_1280 rfl 0 rfl rfl ?_
  refine zV_iload_n dL_law_1281 rfl 3 rfl rfl ?_
  refine zV_iconst (v := (nI 2)) dL_law_1282 rfl rfl ?_
  refine zA_iadd (z := (nI ((6 * c) + 2))) dL_law_1283 rfl  (nI_add _ _) ?_
  refine zV_script ((6 * c) + 2) dL_law_1284 rfl rfl (by omega) hL ?_
  refine zV_callV (E' := eX6_toss (g_rmv 2)) (av := [.int (G.2.2.2.2.2 ((6 * c) + 1)), .int (G.2.2.2.2.2 ((6 * c) + 2))]) (st := []) (b := 0) dL_law_1285 rfl (k_RL_145 _) rfl ⟨by decide, by decide⟩ ⟨by decide, by decide⟩ (Or.inl rfl) rfl (Nat.le_of_ble_eq_true rfl) rfl rfl rfl (p_toss hC hw) (fun r1285 M1285 z => ?_)
  obtain ⟨I1, J1, t1, rfl, rfl, hC1, hf1⟩ := z
  show zV G (eL_law room_1) (90, 5102) 1288 [(0, .ref 1301), (1, .ref 0), (2, .ref 76), (3, .int (nI (6 * c)))] [.int ((op_toss S (G.2.2.2.2.2 ((6 * c) + 1)) (G.2.2.2.2.2 ((6 * c) + 2))).1)] (mm I1 J1 t1) _
  refine zV_aload_n dL_law_1288 rfl 2 rfl rfl ?_
  refine zV_aload_n dL_law_1289 rfl 0 rfl rfl ?_
  refine zV_iload_n dL_law_1290 rfl 3 rfl rfl ?_
  refine zV_iconst (v := (nI 1)) dL_law_1291 rfl rfl ?_
  refine zA_iadd (z := (nI ((6 * c) + 1))) dL_law_1292 rfl  (nI_add _ _) ?_
  refine zV_script ((6 * c) + 1) dL_law_1293 rfl rfl (by omega) hL ?_
  refine zV_aload_n dL_law_1294 rfl 0 rfl rfl ?_
  refine zV_iload_n dL_law_1295 rfl 3 rfl rfl ?_
  refine zV_iconst (v := (nI 2)) dL_law_1296 rfl rfl ?_
  refine zA_iadd (z := (nI ((6 * c) + 2))) dL_law_1297 rfl  (nI_add _ _) ?_
  refine zV_script ((6 * c) + 2) dL_law_1298 rfl rfl (by omega) hL ?_
  refine zV_callV (E' := eX7_toss (g_rmv 2)) (av := [.int (G.2.2.2.2.2 ((6 * c) + 1)), .int (G.2.2.2.2.2 ((6 * c) + 2))]) (st := [.int ((op_toss S (G.2.2.2.2.2 ((6 * c) + 1)) (G.2.2.2.2.2 ((6 * c) + 2))).1)]) (b := 76) dL_law_1299 rfl (k_RL_148 _) rfl ⟨by decide, by decide⟩ ⟨by decide, by decide⟩ (Or.inl rfl) rfl (Nat.le_of_ble_eq_true rfl) rfl rfl rfl (q_toss (hM.fr hf1) hw) (fun r1299 M1299 z => ?_)
  obtain ⟨I2, J2, t2, rfl, rfl, hM2, hf2⟩ := z
  show zV G (eL_law room_1) (90, 5102) 1302 [(0, .ref 1301), (1, .ref 0), (2, .ref 76), (3, .int (nI (6 * c)))] [.int ((op_toss S (G.2.2.2.2.2 ((6 * c) + 1)) (G.2.2.2.2.2 ((6 * c) + 2))).1), .int ((op_toss S (G.2.2.2.2.2 ((6 * c) + 1)) (G.2.2.2.2.2 ((6 * c) + 2))).1)] (mm I2 J2 t2) _
  refine zV_icmp_eq (tgt := 1788) dL_law_1302 rfl rfl  (fun _ => ?_) (fun z => absurd z (fun z => z rfl))
  exact k _ _ _ _ (hC1.fr (B := B + 0) (w_toss hw) hf2) hM2 ((w_toss hw).up (by omega) (by omega))
set_option maxRecDepth 100000 in
theorem law_seed {G : mG} {I : Nat → Nat → Int32} {J : Nat → Nat → Int64} {t c B : Nat} {S : aS} {Q : Option Value → mM → Prop} (hC : InvC I S) (hM : InvM I S) (hw : wfS B S) (hB : B + 242 < 1000000) (hL : G.2.2.2.2.1 ≤ 100000) (hc : 6 * c + 5 < G.2.2.2.2.1) (k : ∀ I' J' t' S', InvC I' S' → InvM I' S' → wfS (B + 242) S' → zV G (eL_law room_1) (90, 5102) 1788 [(0, .ref 1301), (1, .ref 0), (2, .ref 76), (3, .int (nI (6 * c)))] [] (mm I' J' t') Q) : zV G (eL_law room_1) (90, 5102) 1307 [(0, .ref 1301), (1, .ref 0), (2, .ref 76), (3, .int (nI (6 * c)))] [] (mm I J t) Q := by
  refine zV_aload_n dL_law_1307 rfl 1 rfl rfl ?_
  refine zV_aload_n dL_law_1308 rfl 0 rfl rfl ?_
  refine zV_iload_n dL_law_1309 rfl 3 rfl rfl ?_
  refine zV_iconst (v := (nI 1)) dL_law_1310 rfl rfl ?_
  refine zA_iadd (z := (nI ((6 * c) + 1))) dL_law_1311 rfl  (nI_add _ _) ?_
  refine zV_script ((6 * c) + 1) dL_law_1312 rfl rfl (by omega) hL ?_
  refine zV_callV (E' := eX6_seed (g_rmv 0)) (av := [.int (G.2.2.2.2.2 ((6 * c) + 1))]) (st := []) (b := 0) dL_law_1313 rfl (k_RL_149 _) rfl ⟨by decide, by decide⟩ ⟨by decide, by decide⟩ (Or.inl rfl) rfl (Nat.le_of_ble_eq_true rfl) rfl rfl rfl (p_seed hC hw) (fun r1313 M1313 z => ?_)
  obtain ⟨I1, J1, t1, rfl, rfl, hC1, hf1⟩ := z
  show zV G (eL_law room_1) (90, 5102) 1316 [(0, .ref 1301), (1, .ref 0), (2, .ref 76), (3, .int (nI (6 * c)))] [.int ((op_seed S (G.2.2.2.2.2 ((6 * c) + 1))).1)] (mm I1 J1 t1) _
  refine zV_aload_n dL_law_1316 rfl 2 rfl rfl ?_
  refine zV_aload_n dL_law_1317 rfl 0 rfl rfl ?_
  refine zV_iload_n dL_law_1318 rfl 3 rfl rfl ?_
  refine zV_iconst (v := (nI 1)) dL_law_1319 rfl rfl ?_
  refine zA_iadd (z := (nI ((6 * c) + 1))) dL_law_1320 rfl  (nI_add _ _) ?_
  refine zV_script ((6 * c) + 1) dL_law_1321 rfl rfl (by omega) hL ?_
  refine zV_callV (E' := eX7_seed (g_rmv 1)) (av := [.int (G.2.2.2.2.2 ((6 * c) + 1))]) (st := [.int ((op_seed S (G.2.2.2.2.2 ((6 * c) + 1))).1)]) (b := 76) dL_law_1322 rfl (k_RL_152 _) rfl ⟨by decide, by decide⟩ ⟨by decide, by decide⟩ (Or.inl rfl) rfl (Nat.le_of_ble_eq_true rfl) rfl rfl rfl (q_seed (hM.fr hf1) hw) (fun r1322 M1322 z => ?_)
  obtain ⟨I2, J2, t2, rfl, rfl, hM2, hf2⟩ := z
  show zV G (eL_law room_1) (90, 5102) 1325 [(0, .ref 1301), (1, .ref 0), (2, .ref 76), (3, .int (nI (6 * c)))] [.int ((op_seed S (G.2.2.2.2.2 ((6 * c) + 1))).1), .int ((op_seed S (G.2.2.2.2.2 ((6 * c) + 1))).1)] (mm I2 J2 t2) _
  refine zV_icmp_eq (tgt := 1788) dL_law_1325 rfl rfl  (fun _ => ?_) (fun z => absurd z (fun z => z rfl))
  exact k _ _ _ _ (hC1.fr (B := B + 0) (w_seed hw) hf2) hM2 ((w_seed hw).up (by omega) (by omega))
set_option maxRecDepth 100000 in
theorem law_feed {G : mG} {I : Nat → Nat → Int32} {J : Nat → Nat → Int64} {t c B : Nat} {S : aS} {Q : Option Value → mM → Prop} (hC : InvC I S) (hM : InvM I S) (hw : wfS B S) (hB : B + 242 < 1000000) (hL : G.2.2.2.2.1 ≤ 100000) (hc : 6 * c + 5 < G.2.2.2.2.1) (k : ∀ I' J' t' S', InvC I' S' → InvM I' S' → wfS (B + 242) S' → zV G (eL_law room_1) (90, 5102) 1788 [(0, .ref 1301), (1, .ref 0), (2, .ref 76), (3, .int (nI (6 * c)))] [] (mm I' J' t') Q) : zV G (eL_law room_1) (90, 5102) 1330 [(0, .ref 1301), (1, .ref 0), (2, .ref 76), (3, .int (nI (6 * c)))] [] (mm I J t) Q := by
  refine zV_aload_n dL_law_1330 rfl 1 rfl rfl ?_
  refine zV_aload_n dL_law_1331 rfl 0 rfl rfl ?_
  refine zV_iload_n dL_law_1332 rfl 3 rfl rfl ?_
  refine zV_iconst (v := (nI 1)) dL_law_1333 rfl rfl ?_
  refine zA_iadd (z := (nI ((6 * c) + 1))) dL_law_1334 rfl  (nI_add _ _) ?_
  refine zV_script ((6 * c) + 1) dL_law_1335 rfl rfl (by omega) hL ?_
  refine zV_aload_n dL_law_1336 rfl 0 rfl rfl ?_
  refine zV_iload_n dL_law_1337 rfl 3 rfl rfl ?_
  refine zV_iconst (v := (nI 2)) dL_law_1338 rfl rfl ?_
  refine zA_iadd (z := (nI ((6 * c) + 2))) dL_law_1339 rfl  (nI_add _ _) ?_
  refine zV_script ((6 * c) + 2) dL_law_1340 rfl rfl (by omega) hL ?_
  refine zV_callV (E' := eX6_feed (g_rmv 2)) (av := [.int (G.2.2.2.2.2 ((6 * c) + 1)), .int (G.2.2.2.2.2 ((6 * c) + 2))]) (st := []) (b := 0) dL_law_1341 rfl (k_RL_153 _) rfl ⟨by decide, by decide⟩ ⟨by decide, by decide⟩ (Or.inl rfl) rfl (Nat.le_of_ble_eq_true rfl) rfl rfl rfl (p_feed hC hw) (fun r1341 M1341 z => ?_)
  obtain ⟨I1, J1, t1, rfl, rfl, hC1, hf1⟩ := z
  show zV G (eL_law room_1) (90, 5102) 1344 [(0, .ref 1301), (1, .ref 0), (2, .ref 76), (3, .int (nI (6 * c)))] [.int ((op_feed S (G.2.2.2.2.2 ((6 * c) + 1)) (G.2.2.2.2.2 ((6 * c) + 2))).1)] (mm I1 J1 t1) _
  refine zV_aload_n dL_law_1344 rfl 2 rfl rfl ?_
  refine zV_aload_n dL_law_1345 rfl 0 rfl rfl ?_
  refine zV_iload_n dL_law_1346 rfl 3 rfl rfl ?_
  refine zV_iconst (v := (nI 1)) dL_law_1347 rfl rfl ?_
  refine zA_iadd (z := (nI ((6 * c) + 1))) dL_law_1348 rfl  (nI_add _ _) ?_
  refine zV_script ((6 * c) + 1) dL_law_1349 rfl rfl (by omega) hL ?_
  refine zV_aload_n dL_law_1350 rfl 0 rfl rfl ?_
  refine zV_iload_n dL_law_1351 rfl 3 rfl rfl ?_
  refine zV_iconst (v := (nI 2)) dL_law_1352 rfl rfl ?_
  refine zA_iadd (z := (nI ((6 * c) + 2))) dL_law_1353 rfl  (nI_add _ _) ?_
  refine zV_script ((6 * c) + 2) dL_law_1354 rfl rfl (by omega) hL ?_
  refine zV_callV (E' := eX7_feed (g_rmv 1)) (av := [.int (G.2.2.2.2.2 ((6 * c) + 1)), .int (G.2.2.2.2.2 ((6 * c) + 2))]) (st := [.int ((op_feed S (G.2.2.2.2.2 ((6 * c) + 1)) (G.2.2.2.2.2 ((6 * c) + 2))).1)]) (b := 76) dL_law_1355 rfl (k_RL_156 _) rfl ⟨by decide, by decide⟩ ⟨by decide, by decide⟩ (Or.inl rfl) rfl (Nat.le_of_ble_eq_true rfl) rfl rfl rfl (q_feed (hM.fr hf1) hw) (fun r1355 M1355 z => ?_)
  obtain ⟨I2, J2, t2, rfl, rfl, hM2, hf2⟩ := z
  show zV G (eL_law room_1) (90, 5102) 1358 [(0, .ref 1301), (1, .ref 0), (2, .ref 76), (3, .int (nI (6 * c)))] [.int ((op_feed S (G.2.2.2.2.2 ((6 * c) + 1)) (G.2.2.2.2.2 ((6 * c) + 2))).1), .int ((op_feed S (G.2.2.2.2.2 ((6 * c) + 1)) (G.2.2.2.2.2 ((6 * c) + 2))).1)] (mm I2 J2 t2) _
  refine zV_icmp_eq (tgt := 1788) dL_law_1358 rfl rfl  (fun _ => ?_) (fun z => absurd z (fun z => z rfl))
  exact k _ _ _ _ (hC1.fr (B := B + 0) (w_feed hw) hf2) hM2 ((w_feed hw).up (by omega) (by omega))
set_option maxRecDepth 100000 in
theorem law_wipe {G : mG} {I : Nat → Nat → Int32} {J : Nat → Nat → Int64} {t c B : Nat} {S : aS} {Q : Option Value → mM → Prop} (hC : InvC I S) (hM : InvM I S) (hw : wfS B S) (hB : B + 242 < 1000000) (hL : G.2.2.2.2.1 ≤ 100000) (hc : 6 * c + 5 < G.2.2.2.2.1) (k : ∀ I' J' t' S', InvC I' S' → InvM I' S' → wfS (B + 242) S' → zV G (eL_law room_1) (90, 5102) 1788 [(0, .ref 1301), (1, .ref 0), (2, .ref 76), (3, .int (nI (6 * c)))] [] (mm I' J' t') Q) : zV G (eL_law room_1) (90, 5102) 1363 [(0, .ref 1301), (1, .ref 0), (2, .ref 76), (3, .int (nI (6 * c)))] [] (mm I J t) Q := by
  refine zV_aload_n dL_law_1363 rfl 1 rfl rfl ?_
  refine zV_callV (E' := eX6_wipe (g_rmv 0)) (av := []) (st := []) (b := 0) dL_law_1364 rfl (k_RL_157 _) rfl ⟨by decide, by decide⟩ ⟨by decide, by decide⟩ (Or.inl rfl) rfl (Nat.le_of_ble_eq_true rfl) rfl rfl rfl (p_wipe hC hw) (fun r1364 M1364 z => ?_)
  obtain ⟨I1, J1, t1, rfl, rfl, hC1, hf1⟩ := z
  show zV G (eL_law room_1) (90, 5102) 1367 [(0, .ref 1301), (1, .ref 0), (2, .ref 76), (3, .int (nI (6 * c)))] [.int ((op_wipe S).1)] (mm I1 J1 t1) _
  refine zV_aload_n dL_law_1367 rfl 2 rfl rfl ?_
  refine zV_callV (E' := eX7_wipe (g_rmv 0)) (av := []) (st := [.int ((op_wipe S).1)]) (b := 76) dL_law_1368 rfl (k_RL_160 _) rfl ⟨by decide, by decide⟩ ⟨by decide, by decide⟩ (Or.inl rfl) rfl (Nat.le_of_ble_eq_true rfl) rfl rfl rfl (q_wipe (hM.fr hf1) hw) (fun r1368 M1368 z => ?_)
  obtain ⟨I2, J2, t2, rfl, rfl, hM2, hf2⟩ := z
  show zV G (eL_law room_1) (90, 5102) 1371 [(0, .ref 1301), (1, .ref 0), (2, .ref 76), (3, .int (nI (6 * c)))] [.int ((op_wipe S).1), .int ((op_wipe S).1)] (mm I2 J2 t2) _
  refine zV_icmp_eq (tgt := 1788) dL_law_1371 rfl rfl  (fun _ => ?_) (fun z => absurd z (fun z => z rfl))
  exact k _ _ _ _ (hC1.fr (B := B + 0) (w_wipe hw) hf2) hM2 ((w_wipe hw).up (by omega) (by omega))
set_option maxRecDepth 100000 in
theorem law_text {G : mG} {I : Nat → Nat → Int32} {J : Nat → Nat → Int64} {t c B : Nat} {S : aS} {Q : Option Value → mM → Prop} (hC : InvC I S) (hM : InvM I S) (hw : wfS B S) (hB : B + 242 < 1000000) (hL : G.2.2.2.2.1 ≤ 100000) (hc : 6 * c + 5 < G.2.2.2.2.1) (k : ∀ I' J' t' S', InvC I' S' → InvM I' S' → wfS (B + 242) S' → zV G (eL_law room_1) (90, 5102) 1788 [(0, .ref 1301), (1, .ref 0), (2, .ref 76), (3, .int (nI (6 * c)))] [] (mm I' J' t') Q) : zV G (eL_law room_1) (90, 5102) 1376 [(0, .ref 1301), (1, .ref 0), (2, .ref 76), (3, .int (nI (6 * c)))] [] (mm I J t) Q := by
  refine zV_aload_n dL_law_1376 rfl 1 rfl rfl ?_
  refine zV_callV (E' := eX6_text (g_rmv 9)) (av := []) (st := []) (b := 0) dL_law_1377 rfl (k_RL_161 _) rfl ⟨by decide, by decide⟩ ⟨by decide, by decide⟩ (Or.inl rfl) rfl (Nat.le_of_ble_eq_true rfl) rfl rfl rfl (p_text hC hw (by omega)) (fun r1377 M1377 z => ?_)
  obtain ⟨I1, J1, t1, rfl, rfl, hC1, hf1⟩ := z
  show zV G (eL_law room_1) (90, 5102) 1380 [(0, .ref 1301), (1, .ref 0), (2, .ref 76), (3, .int (nI (6 * c)))] [.int ((op_text S).1)] (mm I1 J1 t1) _
  refine zV_aload_n dL_law_1380 rfl 2 rfl rfl ?_
  refine zV_callV (E' := eX7_text (g_rmv 8)) (av := []) (st := [.int ((op_text S).1)]) (b := 76) dL_law_1381 rfl (k_RL_164 _) rfl ⟨by decide, by decide⟩ ⟨by decide, by decide⟩ (Or.inl rfl) rfl (Nat.le_of_ble_eq_true rfl) rfl rfl rfl (q_text (hM.fr hf1) hw (by omega) rfl rfl) (fun r1381 M1381 z => ?_)
  obtain ⟨I2, J2, t2, rfl, rfl, hM2, hf2⟩ := z
  show zV G (eL_law room_1) (90, 5102) 1384 [(0, .ref 1301), (1, .ref 0), (2, .ref 76), (3, .int (nI (6 * c)))] [.int ((op_text S).1), .int ((op_text S).1)] (mm I2 J2 t2) _
  refine zV_icmp_eq (tgt := 1788) dL_law_1384 rfl rfl  (fun _ => ?_) (fun z => absurd z (fun z => z rfl))
  exact k _ _ _ _ (hC1.fr (B := B + 242) (w_text hw (by omega)) hf2) hM2 ((w_text hw (by omega)).up (by omega) (by omega))
set_option maxRecDepth 100000 in
theorem law_hold {G : mG} {I : Nat → Nat → Int32} {J : Nat → Nat → Int64} {t c B : Nat} {S : aS} {Q : Option Value → mM → Prop} (hC : InvC I S) (hM : InvM I S) (hw : wfS B S) (hB : B + 242 < 1000000) (hL : G.2.2.2.2.1 ≤ 100000) (hc : 6 * c + 5 < G.2.2.2.2.1) (k : ∀ I' J' t' S', InvC I' S' → InvM I' S' → wfS (B + 242) S' → zV G (eL_law room_1) (90, 5102) 1788 [(0, .ref 1301), (1, .ref 0), (2, .ref 76), (3, .int (nI (6 * c)))] [] (mm I' J' t') Q) : zV G (eL_law room_1) (90, 5102) 1389 [(0, .ref 1301), (1, .ref 0), (2, .ref 76), (3, .int (nI (6 * c)))] [] (mm I J t) Q := by
  refine zV_aload_n dL_law_1389 rfl 1 rfl rfl ?_
  refine zV_aload_n dL_law_1390 rfl 0 rfl rfl ?_
  refine zV_iload_n dL_law_1391 rfl 3 rfl rfl ?_
  refine zV_iconst (v := (nI 1)) dL_law_1392 rfl rfl ?_
  refine zA_iadd (z := (nI ((6 * c) + 1))) dL_law_1393 rfl  (nI_add _ _) ?_
  refine zV_script ((6 * c) + 1) dL_law_1394 rfl rfl (by omega) hL ?_
  refine zV_aload_n dL_law_1395 rfl 0 rfl rfl ?_
  refine zV_iload_n dL_law_1396 rfl 3 rfl rfl ?_
  refine zV_iconst (v := (nI 2)) dL_law_1397 rfl rfl ?_
  refine zA_iadd (z := (nI ((6 * c) + 2))) dL_law_1398 rfl  (nI_add _ _) ?_
  refine zV_script ((6 * c) + 2) dL_law_1399 rfl rfl (by omega) hL ?_
  refine zV_callV (E' := eX6_hold (g_rmv 2)) (av := [.int (G.2.2.2.2.2 ((6 * c) + 1)), .int (G.2.2.2.2.2 ((6 * c) + 2))]) (st := []) (b := 0) dL_law_1400 rfl (k_RL_165 _) rfl ⟨by decide, by decide⟩ ⟨by decide, by decide⟩ (Or.inl rfl) rfl (Nat.le_of_ble_eq_true rfl) rfl rfl rfl (p_hold hC hw) (fun r1400 M1400 z => ?_)
  obtain ⟨I1, J1, t1, rfl, rfl, hC1, hf1⟩ := z
  show zV G (eL_law room_1) (90, 5102) 1403 [(0, .ref 1301), (1, .ref 0), (2, .ref 76), (3, .int (nI (6 * c)))] [.int ((op_hold S (G.2.2.2.2.2 ((6 * c) + 1)) (G.2.2.2.2.2 ((6 * c) + 2))).1)] (mm I1 J1 t1) _
  refine zV_aload_n dL_law_1403 rfl 2 rfl rfl ?_
  refine zV_aload_n dL_law_1404 rfl 0 rfl rfl ?_
  refine zV_iload_n dL_law_1405 rfl 3 rfl rfl ?_
  refine zV_iconst (v := (nI 1)) dL_law_1406 rfl rfl ?_
  refine zA_iadd (z := (nI ((6 * c) + 1))) dL_law_1407 rfl  (nI_add _ _) ?_
  refine zV_script ((6 * c) + 1) dL_law_1408 rfl rfl (by omega) hL ?_
  refine zV_aload_n dL_law_1409 rfl 0 rfl rfl ?_
  refine zV_iload_n dL_law_1410 rfl 3 rfl rfl ?_
  refine zV_iconst (v := (nI 2)) dL_law_1411 rfl rfl ?_
  refine zA_iadd (z := (nI ((6 * c) + 2))) dL_law_1412 rfl  (nI_add _ _) ?_
  refine zV_script ((6 * c) + 2) dL_law_1413 rfl rfl (by omega) hL ?_
  refine zV_callV (E' := eX7_hold (g_rmv 2)) (av := [.int (G.2.2.2.2.2 ((6 * c) + 1)), .int (G.2.2.2.2.2 ((6 * c) + 2))]) (st := [.int ((op_hold S (G.2.2.2.2.2 ((6 * c) + 1)) (G.2.2.2.2.2 ((6 * c) + 2))).1)]) (b := 76) dL_law_1414 rfl (k_RL_168 _) rfl ⟨by decide, by decide⟩ ⟨by decide, by decide⟩ (Or.inl rfl) rfl (Nat.le_of_ble_eq_true rfl) rfl rfl rfl (q_hold (hM.fr hf1) hw) (fun r1414 M1414 z => ?_)
  obtain ⟨I2, J2, t2, rfl, rfl, hM2, hf2⟩ := z
  show zV G (eL_law room_1) (90, 5102) 1417 [(0, .ref 1301), (1, .ref 0), (2, .ref 76), (3, .int (nI (6 * c)))] [.int ((op_hold S (G.2.2.2.2.2 ((6 * c) + 1)) (G.2.2.2.2.2 ((6 * c) + 2))).1), .int ((op_hold S (G.2.2.2.2.2 ((6 * c) + 1)) (G.2.2.2.2.2 ((6 * c) + 2))).1)] (mm I2 J2 t2) _
  refine zV_icmp_eq (tgt := 1788) dL_law_1417 rfl rfl  (fun _ => ?_) (fun z => absurd z (fun z => z rfl))
  exact k _ _ _ _ (hC1.fr (B := B + 0) (w_hold hw) hf2) hM2 ((w_hold hw).up (by omega) (by omega))
set_option maxRecDepth 100000 in
theorem law_as {G : mG} {I : Nat → Nat → Int32} {J : Nat → Nat → Int64} {t c B : Nat} {S : aS} {Q : Option Value → mM → Prop} (hC : InvC I S) (hM : InvM I S) (hw : wfS B S) (hB : B + 242 < 1000000) (hL : G.2.2.2.2.1 ≤ 100000) (hc : 6 * c + 5 < G.2.2.2.2.1) (k : ∀ I' J' t' S', InvC I' S' → InvM I' S' → wfS (B + 242) S' → zV G (eL_law room_1) (90, 5102) 1788 [(0, .ref 1301), (1, .ref 0), (2, .ref 76), (3, .int (nI (6 * c)))] [] (mm I' J' t') Q) : zV G (eL_law room_1) (90, 5102) 1422 [(0, .ref 1301), (1, .ref 0), (2, .ref 76), (3, .int (nI (6 * c)))] [] (mm I J t) Q := by
  refine zV_aload_n dL_law_1422 rfl 1 rfl rfl ?_
  refine zV_aload_n dL_law_1423 rfl 0 rfl rfl ?_
  refine zV_iload_n dL_law_1424 rfl 3 rfl rfl ?_
  refine zV_iconst (v := (nI 1)) dL_law_1425 rfl rfl ?_
  refine zA_iadd (z := (nI ((6 * c) + 1))) dL_law_1426 rfl  (nI_add _ _) ?_
  refine zV_script ((6 * c) + 1) dL_law_1427 rfl rfl (by omega) hL ?_
  refine zV_aload_n dL_law_1428 rfl 0 rfl rfl ?_
  refine zV_iload_n dL_law_1429 rfl 3 rfl rfl ?_
  refine zV_iconst (v := (nI 2)) dL_law_1430 rfl rfl ?_
  refine zA_iadd (z := (nI ((6 * c) + 2))) dL_law_1431 rfl  (nI_add _ _) ?_
  refine zV_script ((6 * c) + 2) dL_law_1432 rfl rfl (by omega) hL ?_
  refine zV_callV (E' := eX6_as (g_rmv 2)) (av := [.int (G.2.2.2.2.2 ((6 * c) + 1)), .int (G.2.2.2.2.2 ((6 * c) + 2))]) (st := []) (b := 0) dL_law_1433 rfl (k_RL_169 _) rfl ⟨by decide, by decide⟩ ⟨by decide, by decide⟩ (Or.inl rfl) rfl (Nat.le_of_ble_eq_true rfl) rfl rfl rfl (p_as hC hw) (fun r1433 M1433 z => ?_)
  obtain ⟨I1, J1, t1, rfl, rfl, hC1, hf1⟩ := z
  show zV G (eL_law room_1) (90, 5102) 1436 [(0, .ref 1301), (1, .ref 0), (2, .ref 76), (3, .int (nI (6 * c)))] [.int ((op_as S (G.2.2.2.2.2 ((6 * c) + 1)) (G.2.2.2.2.2 ((6 * c) + 2))).1)] (mm I1 J1 t1) _
  refine zV_aload_n dL_law_1436 rfl 2 rfl rfl ?_
  refine zV_aload_n dL_law_1437 rfl 0 rfl rfl ?_
  refine zV_iload_n dL_law_1438 rfl 3 rfl rfl ?_
  refine zV_iconst (v := (nI 1)) dL_law_1439 rfl rfl ?_
  refine zA_iadd (z := (nI ((6 * c) + 1))) dL_law_1440 rfl  (nI_add _ _) ?_
  refine zV_script ((6 * c) + 1) dL_law_1441 rfl rfl (by omega) hL ?_
  refine zV_aload_n dL_law_1442 rfl 0 rfl rfl ?_
  refine zV_iload_n dL_law_1443 rfl 3 rfl rfl ?_
  refine zV_iconst (v := (nI 2)) dL_law_1444 rfl rfl ?_
  refine zA_iadd (z := (nI ((6 * c) + 2))) dL_law_1445 rfl  (nI_add _ _) ?_
  refine zV_script ((6 * c) + 2) dL_law_1446 rfl rfl (by omega) hL ?_
  refine zV_callV (E' := eX7_as (g_rmv 2)) (av := [.int (G.2.2.2.2.2 ((6 * c) + 1)), .int (G.2.2.2.2.2 ((6 * c) + 2))]) (st := [.int ((op_as S (G.2.2.2.2.2 ((6 * c) + 1)) (G.2.2.2.2.2 ((6 * c) + 2))).1)]) (b := 76) dL_law_1447 rfl (k_RL_172 _) rfl ⟨by decide, by decide⟩ ⟨by decide, by decide⟩ (Or.inl rfl) rfl (Nat.le_of_ble_eq_true rfl) rfl rfl rfl (q_as (hM.fr hf1) hw) (fun r1447 M1447 z => ?_)
  obtain ⟨I2, J2, t2, rfl, rfl, hM2, hf2⟩ := z
  show zV G (eL_law room_1) (90, 5102) 1450 [(0, .ref 1301), (1, .ref 0), (2, .ref 76), (3, .int (nI (6 * c)))] [.int ((op_as S (G.2.2.2.2.2 ((6 * c) + 1)) (G.2.2.2.2.2 ((6 * c) + 2))).1), .int ((op_as S (G.2.2.2.2.2 ((6 * c) + 1)) (G.2.2.2.2.2 ((6 * c) + 2))).1)] (mm I2 J2 t2) _
  refine zV_icmp_eq (tgt := 1788) dL_law_1450 rfl rfl  (fun _ => ?_) (fun z => absurd z (fun z => z rfl))
  exact k _ _ _ _ (hC1.fr (B := B + 0) (w_as hw) hf2) hM2 ((w_as hw).up (by omega) (by omega))
set_option maxRecDepth 100000 in
theorem law_sheet {G : mG} {I : Nat → Nat → Int32} {J : Nat → Nat → Int64} {t c B : Nat} {S : aS} {Q : Option Value → mM → Prop} (hC : InvC I S) (hM : InvM I S) (hw : wfS B S) (hB : B + 242 < 1000000) (hL : G.2.2.2.2.1 ≤ 100000) (hc : 6 * c + 5 < G.2.2.2.2.1) (k : ∀ I' J' t' S', InvC I' S' → InvM I' S' → wfS (B + 242) S' → zV G (eL_law room_1) (90, 5102) 1788 [(0, .ref 1301), (1, .ref 0), (2, .ref 76), (3, .int (nI (6 * c)))] [] (mm I' J' t') Q) : zV G (eL_law room_1) (90, 5102) 1455 [(0, .ref 1301), (1, .ref 0), (2, .ref 76), (3, .int (nI (6 * c)))] [] (mm I J t) Q := by
  refine zV_aload_n dL_law_1455 rfl 1 rfl rfl ?_
  refine zV_aload_n dL_law_1456 rfl 0 rfl rfl ?_
  refine zV_iload_n dL_law_1457 rfl 3 rfl rfl ?_
  refine zV_iconst (v := (nI 1)) dL_law_1458 rfl rfl ?_
  refine zA_iadd (z := (nI ((6 * c) + 1))) dL_law_1459 rfl  (nI_add _ _) ?_
  refine zV_script ((6 * c) + 1) dL_law_1460 rfl rfl (by omega) hL ?_
  refine zV_aload_n dL_law_1461 rfl 0 rfl rfl ?_
  refine zV_iload_n dL_law_1462 rfl 3 rfl rfl ?_
  refine zV_iconst (v := (nI 2)) dL_law_1463 rfl rfl ?_
  refine zA_iadd (z := (nI ((6 * c) + 2))) dL_law_1464 rfl  (nI_add _ _) ?_
  refine zV_script ((6 * c) + 2) dL_law_1465 rfl rfl (by omega) hL ?_
  refine zV_aload_n dL_law_1466 rfl 0 rfl rfl ?_
  refine zV_iload_n dL_law_1467 rfl 3 rfl rfl ?_
  refine zV_iconst (v := (nI 3)) dL_law_1468 rfl rfl ?_
  refine zA_iadd (z := (nI ((6 * c) + 3))) dL_law_1469 rfl  (nI_add _ _) ?_
  refine zV_script ((6 * c) + 3) dL_law_1470 rfl rfl (by omega) hL ?_
  refine zV_callV (E' := eX6_sheet (g_rmv 2)) (av := [.int (G.2.2.2.2.2 ((6 * c) + 1)), .int (G.2.2.2.2.2 ((6 * c) + 2)), .int (G.2.2.2.2.2 ((6 * c) + 3))]) (st := []) (b := 0) dL_law_1471 rfl (k_RL_173 _) rfl ⟨by decide, by decide⟩ ⟨by decide, by decide⟩ (Or.inl rfl) rfl (Nat.le_of_ble_eq_true rfl) rfl rfl rfl (p_sheet hC hw) (fun r1471 M1471 z => ?_)
  obtain ⟨I1, J1, t1, rfl, rfl, hC1, hf1⟩ := z
  show zV G (eL_law room_1) (90, 5102) 1474 [(0, .ref 1301), (1, .ref 0), (2, .ref 76), (3, .int (nI (6 * c)))] [.int ((op_sheet S (G.2.2.2.2.2 ((6 * c) + 1)) (G.2.2.2.2.2 ((6 * c) + 2)) (G.2.2.2.2.2 ((6 * c) + 3))).1)] (mm I1 J1 t1) _
  refine zV_aload_n dL_law_1474 rfl 2 rfl rfl ?_
  refine zV_aload_n dL_law_1475 rfl 0 rfl rfl ?_
  refine zV_iload_n dL_law_1476 rfl 3 rfl rfl ?_
  refine zV_iconst (v := (nI 1)) dL_law_1477 rfl rfl ?_
  refine zA_iadd (z := (nI ((6 * c) + 1))) dL_law_1478 rfl  (nI_add _ _) ?_
  refine zV_script ((6 * c) + 1) dL_law_1479 rfl rfl (by omega) hL ?_
  refine zV_aload_n dL_law_1480 rfl 0 rfl rfl ?_
  refine zV_iload_n dL_law_1481 rfl 3 rfl rfl ?_
  refine zV_iconst (v := (nI 2)) dL_law_1482 rfl rfl ?_
  refine zA_iadd (z := (nI ((6 * c) + 2))) dL_law_1483 rfl  (nI_add _ _) ?_
  refine zV_script ((6 * c) + 2) dL_law_1484 rfl rfl (by omega) hL ?_
  refine zV_aload_n dL_law_1485 rfl 0 rfl rfl ?_
  refine zV_iload_n dL_law_1486 rfl 3 rfl rfl ?_
  refine zV_iconst (v := (nI 3)) dL_law_1487 rfl rfl ?_
  refine zA_iadd (z := (nI ((6 * c) + 3))) dL_law_1488 rfl  (nI_add _ _) ?_
  refine zV_script ((6 * c) + 3) dL_law_1489 rfl rfl (by omega) hL ?_
  refine zV_callV (E' := eX7_sheet (g_rmv 2)) (av := [.int (G.2.2.2.2.2 ((6 * c) + 1)), .int (G.2.2.2.2.2 ((6 * c) + 2)), .int (G.2.2.2.2.2 ((6 * c) + 3))]) (st := [.int ((op_sheet S (G.2.2.2.2.2 ((6 * c) + 1)) (G.2.2.2.2.2 ((6 * c) + 2)) (G.2.2.2.2.2 ((6 * c) + 3))).1)]) (b := 76) dL_law_1490 rfl (k_RL_176 _) rfl ⟨by decide, by decide⟩ ⟨by decide, by decide⟩ (Or.inl rfl) rfl (Nat.le_of_ble_eq_true rfl) rfl rfl rfl (q_sheet (hM.fr hf1) hw) (fun r1490 M1490 z => ?_)
  obtain ⟨I2, J2, t2, rfl, rfl, hM2, hf2⟩ := z
  show zV G (eL_law room_1) (90, 5102) 1493 [(0, .ref 1301), (1, .ref 0), (2, .ref 76), (3, .int (nI (6 * c)))] [.int ((op_sheet S (G.2.2.2.2.2 ((6 * c) + 1)) (G.2.2.2.2.2 ((6 * c) + 2)) (G.2.2.2.2.2 ((6 * c) + 3))).1), .int ((op_sheet S (G.2.2.2.2.2 ((6 * c) + 1)) (G.2.2.2.2.2 ((6 * c) + 2)) (G.2.2.2.2.2 ((6 * c) + 3))).1)] (mm I2 J2 t2) _
  refine zV_icmp_eq (tgt := 1788) dL_law_1493 rfl rfl  (fun _ => ?_) (fun z => absurd z (fun z => z rfl))
  exact k _ _ _ _ (hC1.fr (B := B + 0) (w_sheet hw) hf2) hM2 ((w_sheet hw).up (by omega) (by omega))
set_option maxRecDepth 100000 in
theorem law_write {G : mG} {I : Nat → Nat → Int32} {J : Nat → Nat → Int64} {t c B : Nat} {S : aS} {Q : Option Value → mM → Prop} (hC : InvC I S) (hM : InvM I S) (hw : wfS B S) (hB : B + 242 < 1000000) (hL : G.2.2.2.2.1 ≤ 100000) (hc : 6 * c + 5 < G.2.2.2.2.1) (k : ∀ I' J' t' S', InvC I' S' → InvM I' S' → wfS (B + 242) S' → zV G (eL_law room_1) (90, 5102) 1788 [(0, .ref 1301), (1, .ref 0), (2, .ref 76), (3, .int (nI (6 * c)))] [] (mm I' J' t') Q) : zV G (eL_law room_1) (90, 5102) 1498 [(0, .ref 1301), (1, .ref 0), (2, .ref 76), (3, .int (nI (6 * c)))] [] (mm I J t) Q := by
  refine zV_aload_n dL_law_1498 rfl 1 rfl rfl ?_
  refine zV_aload_n dL_law_1499 rfl 0 rfl rfl ?_
  refine zV_iload_n dL_law_1500 rfl 3 rfl rfl ?_
  refine zV_iconst (v := (nI 1)) dL_law_1501 rfl rfl ?_
  refine zA_iadd (z := (nI ((6 * c) + 1))) dL_law_1502 rfl  (nI_add _ _) ?_
  refine zV_script ((6 * c) + 1) dL_law_1503 rfl rfl (by omega) hL ?_
  refine zV_aload_n dL_law_1504 rfl 0 rfl rfl ?_
  refine zV_iload_n dL_law_1505 rfl 3 rfl rfl ?_
  refine zV_iconst (v := (nI 2)) dL_law_1506 rfl rfl ?_
  refine zA_iadd (z := (nI ((6 * c) + 2))) dL_law_1507 rfl  (nI_add _ _) ?_
  refine zV_script ((6 * c) + 2) dL_law_1508 rfl rfl (by omega) hL ?_
  refine zV_aload_n dL_law_1509 rfl 0 rfl rfl ?_
  refine zV_iload_n dL_law_1510 rfl 3 rfl rfl ?_
  refine zV_iconst (v := (nI 3)) dL_law_1511 rfl rfl ?_
  refine zA_iadd (z := (nI ((6 * c) + 3))) dL_law_1512 rfl  (nI_add _ _) ?_
  refine zV_script ((6 * c) + 3) dL_law_1513 rfl rfl (by omega) hL ?_
  refine zV_callV (E' := eX6_write (g_rmv 3)) (av := [.int (G.2.2.2.2.2 ((6 * c) + 1)), .int (G.2.2.2.2.2 ((6 * c) + 2)), .int (G.2.2.2.2.2 ((6 * c) + 3))]) (st := []) (b := 0) dL_law_1514 rfl (k_RL_177 _) rfl ⟨by decide, by decide⟩ ⟨by decide, by decide⟩ (Or.inl rfl) rfl (Nat.le_of_ble_eq_true rfl) rfl rfl rfl (p_write hC hw) (fun r1514 M1514 z => ?_)
  obtain ⟨I1, J1, t1, rfl, rfl, hC1, hf1⟩ := z
  show zV G (eL_law room_1) (90, 5102) 1517 [(0, .ref 1301), (1, .ref 0), (2, .ref 76), (3, .int (nI (6 * c)))] [.int ((op_write S (G.2.2.2.2.2 ((6 * c) + 1)) (G.2.2.2.2.2 ((6 * c) + 2)) (G.2.2.2.2.2 ((6 * c) + 3))).1)] (mm I1 J1 t1) _
  refine zV_aload_n dL_law_1517 rfl 2 rfl rfl ?_
  refine zV_aload_n dL_law_1518 rfl 0 rfl rfl ?_
  refine zV_iload_n dL_law_1519 rfl 3 rfl rfl ?_
  refine zV_iconst (v := (nI 1)) dL_law_1520 rfl rfl ?_
  refine zA_iadd (z := (nI ((6 * c) + 1))) dL_law_1521 rfl  (nI_add _ _) ?_
  refine zV_script ((6 * c) + 1) dL_law_1522 rfl rfl (by omega) hL ?_
  refine zV_aload_n dL_law_1523 rfl 0 rfl rfl ?_
  refine zV_iload_n dL_law_1524 rfl 3 rfl rfl ?_
  refine zV_iconst (v := (nI 2)) dL_law_1525 rfl rfl ?_
  refine zA_iadd (z := (nI ((6 * c) + 2))) dL_law_1526 rfl  (nI_add _ _) ?_
  refine zV_script ((6 * c) + 2) dL_law_1527 rfl rfl (by omega) hL ?_
  refine zV_aload_n dL_law_1528 rfl 0 rfl rfl ?_
  refine zV_iload_n dL_law_1529 rfl 3 rfl rfl ?_
  refine zV_iconst (v := (nI 3)) dL_law_1530 rfl rfl ?_
  refine zA_iadd (z := (nI ((6 * c) + 3))) dL_law_1531 rfl  (nI_add _ _) ?_
  refine zV_script ((6 * c) + 3) dL_law_1532 rfl rfl (by omega) hL ?_
  refine zV_callV (E' := eX7_write (g_rmv 2)) (av := [.int (G.2.2.2.2.2 ((6 * c) + 1)), .int (G.2.2.2.2.2 ((6 * c) + 2)), .int (G.2.2.2.2.2 ((6 * c) + 3))]) (st := [.int ((op_write S (G.2.2.2.2.2 ((6 * c) + 1)) (G.2.2.2.2.2 ((6 * c) + 2)) (G.2.2.2.2.2 ((6 * c) + 3))).1)]) (b := 76) dL_law_1533 rfl (k_RL_180 _) rfl ⟨by decide, by decide⟩ ⟨by decide, by decide⟩ (Or.inl rfl) rfl (Nat.le_of_ble_eq_true rfl) rfl rfl rfl (q_write (hM.fr hf1) hw) (fun r1533 M1533 z => ?_)
  obtain ⟨I2, J2, t2, rfl, rfl, hM2, hf2⟩ := z
  show zV G (eL_law room_1) (90, 5102) 1536 [(0, .ref 1301), (1, .ref 0), (2, .ref 76), (3, .int (nI (6 * c)))] [.int ((op_write S (G.2.2.2.2.2 ((6 * c) + 1)) (G.2.2.2.2.2 ((6 * c) + 2)) (G.2.2.2.2.2 ((6 * c) + 3))).1), .int ((op_write S (G.2.2.2.2.2 ((6 * c) + 1)) (G.2.2.2.2.2 ((6 * c) + 2)) (G.2.2.2.2.2 ((6 * c) + 3))).1)] (mm I2 J2 t2) _
  refine zV_icmp_eq (tgt := 1788) dL_law_1536 rfl rfl  (fun _ => ?_) (fun z => absurd z (fun z => z rfl))
  exact k _ _ _ _ (hC1.fr (B := B + 0) (w_write hw) hf2) hM2 ((w_write hw).up (by omega) (by omega))
set_option maxRecDepth 100000 in
theorem law_copy {G : mG} {I : Nat → Nat → Int32} {J : Nat → Nat → Int64} {t c B : Nat} {S : aS} {Q : Option Value → mM → Prop} (hC : InvC I S) (hM : InvM I S) (hw : wfS B S) (hB : B + 242 < 1000000) (hL : G.2.2.2.2.1 ≤ 100000) (hc : 6 * c + 5 < G.2.2.2.2.1) (k : ∀ I' J' t' S', InvC I' S' → InvM I' S' → wfS (B + 242) S' → zV G (eL_law room_1) (90, 5102) 1788 [(0, .ref 1301), (1, .ref 0), (2, .ref 76), (3, .int (nI (6 * c)))] [] (mm I' J' t') Q) : zV G (eL_law room_1) (90, 5102) 1541 [(0, .ref 1301), (1, .ref 0), (2, .ref 76), (3, .int (nI (6 * c)))] [] (mm I J t) Q := by
  refine zV_aload_n dL_law_1541 rfl 1 rfl rfl ?_
  refine zV_aload_n dL_law_1542 rfl 0 rfl rfl ?_
  refine zV_iload_n dL_law_1543 rfl 3 rfl rfl ?_
  refine zV_iconst (v := (nI 1)) dL_law_1544 rfl rfl ?_
  refine zA_iadd (z := (nI ((6 * c) + 1))) dL_law_1545 rfl  (nI_add _ _) ?_
  refine zV_script ((6 * c) + 1) dL_law_1546 rfl rfl (by omega) hL ?_
  refine zV_aload_n dL_law_1547 rfl 0 rfl rfl ?_
  refine zV_iload_n dL_law_1548 rfl 3 rfl rfl ?_
  refine zV_iconst (v := (nI 2)) dL_law_1549 rfl rfl ?_
  refine zA_iadd (z := (nI ((6 * c) + 2))) dL_law_1550 rfl  (nI_add _ _) ?_
  refine zV_script ((6 * c) + 2) dL_law_1551 rfl rfl (by omega) hL ?_
  refine zV_aload_n dL_law_1552 rfl 0 rfl rfl ?_
  refine zV_iload_n dL_law_1553 rfl 3 rfl rfl ?_
  refine zV_iconst (v := (nI 3)) dL_law_1554 rfl rfl ?_
  refine zA_iadd (z := (nI ((6 * c) + 3))) dL_law_1555 rfl  (nI_add _ _) ?_
  refine zV_script ((6 * c) + 3) dL_law_1556 rfl rfl (by omega) hL ?_
  refine zV_aload_n dL_law_1557 rfl 0 rfl rfl ?_
  refine zV_iload_n dL_law_1558 rfl 3 rfl rfl ?_
  refine zV_iconst (v := (nI 4)) dL_law_1559 rfl rfl ?_
  refine zA_iadd (z := (nI ((6 * c) + 4))) dL_law_1560 rfl  (nI_add _ _) ?_
  refine zV_script ((6 * c) + 4) dL_law_1561 rfl rfl (by omega) hL ?_
  refine zV_aload_n dL_law_1562 rfl 0 rfl rfl ?_
  refine zV_iload_n dL_law_1563 rfl 3 rfl rfl ?_
  refine zV_iconst (v := (nI 5)) dL_law_1564 rfl rfl ?_
  refine zA_iadd (z := (nI ((6 * c) + 5))) dL_law_1565 rfl  (nI_add _ _) ?_
  refine zV_script ((6 * c) + 5) dL_law_1566 rfl rfl (by omega) hL ?_
  refine zV_callV (E' := eX6_copy (g_rmv 2)) (av := [.int (G.2.2.2.2.2 ((6 * c) + 1)), .int (G.2.2.2.2.2 ((6 * c) + 2)), .int (G.2.2.2.2.2 ((6 * c) + 3)), .int (G.2.2.2.2.2 ((6 * c) + 4)), .int (G.2.2.2.2.2 ((6 * c) + 5))]) (st := []) (b := 0) dL_law_1567 rfl (k_RL_181 _) rfl ⟨by decide, by decide⟩ ⟨by decide, by decide⟩ (Or.inl rfl) rfl (Nat.le_of_ble_eq_true rfl) rfl rfl rfl (p_copy hC hw) (fun r1567 M1567 z => ?_)
  obtain ⟨I1, J1, t1, rfl, rfl, hC1, hf1⟩ := z
  show zV G (eL_law room_1) (90, 5102) 1570 [(0, .ref 1301), (1, .ref 0), (2, .ref 76), (3, .int (nI (6 * c)))] [.int ((op_copy S (G.2.2.2.2.2 ((6 * c) + 1)) (G.2.2.2.2.2 ((6 * c) + 2)) (G.2.2.2.2.2 ((6 * c) + 3)) (G.2.2.2.2.2 ((6 * c) + 4)) (G.2.2.2.2.2 ((6 * c) + 5))).1)] (mm I1 J1 t1) _
  refine zV_aload_n dL_law_1570 rfl 2 rfl rfl ?_
  refine zV_aload_n dL_law_1571 rfl 0 rfl rfl ?_
  refine zV_iload_n dL_law_1572 rfl 3 rfl rfl ?_
  refine zV_iconst (v := (nI 1)) dL_law_1573 rfl rfl ?_
  refine zA_iadd (z := (nI ((6 * c) + 1))) dL_law_1574 rfl  (nI_add _ _) ?_
  refine zV_script ((6 * c) + 1) dL_law_1575 rfl rfl (by omega) hL ?_
  refine zV_aload_n dL_law_1576 rfl 0 rfl rfl ?_
  refine zV_iload_n dL_law_1577 rfl 3 rfl rfl ?_
  refine zV_iconst (v := (nI 2)) dL_law_1578 rfl rfl ?_
  refine zA_iadd (z := (nI ((6 * c) + 2))) dL_law_1579 rfl  (nI_add _ _) ?_
  refine zV_script ((6 * c) + 2) dL_law_1580 rfl rfl (by omega) hL ?_
  refine zV_aload_n dL_law_1581 rfl 0 rfl rfl ?_
  refine zV_iload_n dL_law_1582 rfl 3 rfl rfl ?_
  refine zV_iconst (v := (nI 3)) dL_law_1583 rfl rfl ?_
  refine zA_iadd (z := (nI ((6 * c) + 3))) dL_law_1584 rfl  (nI_add _ _) ?_
  refine zV_script ((6 * c) + 3) dL_law_1585 rfl rfl (by omega) hL ?_
  refine zV_aload_n dL_law_1586 rfl 0 rfl rfl ?_
  refine zV_iload_n dL_law_1587 rfl 3 rfl rfl ?_
  refine zV_iconst (v := (nI 4)) dL_law_1588 rfl rfl ?_
  refine zA_iadd (z := (nI ((6 * c) + 4))) dL_law_1589 rfl  (nI_add _ _) ?_
  refine zV_script ((6 * c) + 4) dL_law_1590 rfl rfl (by omega) hL ?_
  refine zV_aload_n dL_law_1591 rfl 0 rfl rfl ?_
  refine zV_iload_n dL_law_1592 rfl 3 rfl rfl ?_
  refine zV_iconst (v := (nI 5)) dL_law_1593 rfl rfl ?_
  refine zA_iadd (z := (nI ((6 * c) + 5))) dL_law_1594 rfl  (nI_add _ _) ?_
  refine zV_script ((6 * c) + 5) dL_law_1595 rfl rfl (by omega) hL ?_
  refine zV_callV (E' := eX7_copy (g_rmv 2)) (av := [.int (G.2.2.2.2.2 ((6 * c) + 1)), .int (G.2.2.2.2.2 ((6 * c) + 2)), .int (G.2.2.2.2.2 ((6 * c) + 3)), .int (G.2.2.2.2.2 ((6 * c) + 4)), .int (G.2.2.2.2.2 ((6 * c) + 5))]) (st := [.int ((op_copy S (G.2.2.2.2.2 ((6 * c) + 1)) (G.2.2.2.2.2 ((6 * c) + 2)) (G.2.2.2.2.2 ((6 * c) + 3)) (G.2.2.2.2.2 ((6 * c) + 4)) (G.2.2.2.2.2 ((6 * c) + 5))).1)]) (b := 76) dL_law_1596 rfl (k_RL_185 _) rfl ⟨by decide, by decide⟩ ⟨by decide, by decide⟩ (Or.inl rfl) rfl (Nat.le_of_ble_eq_true rfl) rfl rfl rfl (q_copy (hM.fr hf1) hw) (fun r1596 M1596 z => ?_)
  obtain ⟨I2, J2, t2, rfl, rfl, hM2, hf2⟩ := z
  show zV G (eL_law room_1) (90, 5102) 1599 [(0, .ref 1301), (1, .ref 0), (2, .ref 76), (3, .int (nI (6 * c)))] [.int ((op_copy S (G.2.2.2.2.2 ((6 * c) + 1)) (G.2.2.2.2.2 ((6 * c) + 2)) (G.2.2.2.2.2 ((6 * c) + 3)) (G.2.2.2.2.2 ((6 * c) + 4)) (G.2.2.2.2.2 ((6 * c) + 5))).1), .int ((op_copy S (G.2.2.2.2.2 ((6 * c) + 1)) (G.2.2.2.2.2 ((6 * c) + 2)) (G.2.2.2.2.2 ((6 * c) + 3)) (G.2.2.2.2.2 ((6 * c) + 4)) (G.2.2.2.2.2 ((6 * c) + 5))).1)] (mm I2 J2 t2) _
  refine zV_icmp_eq (tgt := 1788) dL_law_1599 rfl rfl  (fun _ => ?_) (fun z => absurd z (fun z => z rfl))
  exact k _ _ _ _ (hC1.fr (B := B + 0) (w_copy hw) hf2) hM2 ((w_copy hw).up (by omega) (by omega))
set_option maxRecDepth 100000 in
theorem law_load {G : mG} {I : Nat → Nat → Int32} {J : Nat → Nat → Int64} {t c B : Nat} {S : aS} {Q : Option Value → mM → Prop} (hC : InvC I S) (hM : InvM I S) (hw : wfS B S) (hB : B + 242 < 1000000) (hL : G.2.2.2.2.1 ≤ 100000) (hc : 6 * c + 5 < G.2.2.2.2.1) (k : ∀ I' J' t' S', InvC I' S' → InvM I' S' → wfS (B + 242) S' → zV G (eL_law room_1) (90, 5102) 1788 [(0, .ref 1301), (1, .ref 0), (2, .ref 76), (3, .int (nI (6 * c)))] [] (mm I' J' t') Q) : zV G (eL_law room_1) (90, 5102) 1604 [(0, .ref 1301), (1, .ref 0), (2, .ref 76), (3, .int (nI (6 * c)))] [] (mm I J t) Q := by
  refine zV_aload_n dL_law_1604 rfl 1 rfl rfl ?_
  refine zV_aload_n dL_law_1605 rfl 0 rfl rfl ?_
  refine zV_iload_n dL_law_1606 rfl 3 rfl rfl ?_
  refine zV_iconst (v := (nI 1)) dL_law_1607 rfl rfl ?_
  refine zA_iadd (z := (nI ((6 * c) + 1))) dL_law_1608 rfl  (nI_add _ _) ?_
  refine zV_script ((6 * c) + 1) dL_law_1609 rfl rfl (by omega) hL ?_
  refine zV_callV (E' := eX6_load (g_rmv 3)) (av := [.int (G.2.2.2.2.2 ((6 * c) + 1))]) (st := []) (b := 0) dL_law_1610 rfl (k_RL_186 _) rfl ⟨by decide, by decide⟩ ⟨by decide, by decide⟩ (Or.inl rfl) rfl (Nat.le_of_ble_eq_true rfl) rfl rfl rfl (p_load hC hw) (fun r1610 M1610 z => ?_)
  obtain ⟨I1, J1, t1, rfl, rfl, hC1, hf1⟩ := z
  show zV G (eL_law room_1) (90, 5102) 1613 [(0, .ref 1301), (1, .ref 0), (2, .ref 76), (3, .int (nI (6 * c)))] [.int ((op_load S (G.2.2.2.2.2 ((6 * c) + 1))).1)] (mm I1 J1 t1) _
  refine zV_aload_n dL_law_1613 rfl 2 rfl rfl ?_
  refine zV_aload_n dL_law_1614 rfl 0 rfl rfl ?_
  refine zV_iload_n dL_law_1615 rfl 3 rfl rfl ?_
  refine zV_iconst (v := (nI 1)) dL_law_1616 rfl rfl ?_
  refine zA_iadd (z := (nI ((6 * c) + 1))) dL_law_1617 rfl  (nI_add _ _) ?_
  refine zV_script ((6 * c) + 1) dL_law_1618 rfl rfl (by omega) hL ?_
  refine zV_callV (E' := eX7_load (g_rmv 2)) (av := [.int (G.2.2.2.2.2 ((6 * c) + 1))]) (st := [.int ((op_load S (G.2.2.2.2.2 ((6 * c) + 1))).1)]) (b := 76) dL_law_1619 rfl (k_RL_189 _) rfl ⟨by decide, by decide⟩ ⟨by decide, by decide⟩ (Or.inl rfl) rfl (Nat.le_of_ble_eq_true rfl) rfl rfl rfl (q_load (hM.fr hf1) hw) (fun r1619 M1619 z => ?_)
  obtain ⟨I2, J2, t2, rfl, rfl, hM2, hf2⟩ := z
  show zV G (eL_law room_1) (90, 5102) 1622 [(0, .ref 1301), (1, .ref 0), (2, .ref 76), (3, .int (nI (6 * c)))] [.int ((op_load S (G.2.2.2.2.2 ((6 * c) + 1))).1), .int ((op_load S (G.2.2.2.2.2 ((6 * c) + 1))).1)] (mm I2 J2 t2) _
  refine zV_icmp_eq (tgt := 1788) dL_law_1622 rfl rfl  (fun _ => ?_) (fun z => absurd z (fun z => z rfl))
  exact k _ _ _ _ (hC1.fr (B := B + 0) (w_load hw) hf2) hM2 ((w_load hw).up (by omega) (by omega))
set_option maxRecDepth 100000 in
theorem law_strike {G : mG} {I : Nat → Nat → Int32} {J : Nat → Nat → Int64} {t c B : Nat} {S : aS} {Q : Option Value → mM → Prop} (hC : InvC I S) (hM : InvM I S) (hw : wfS B S) (hB : B + 242 < 1000000) (hL : G.2.2.2.2.1 ≤ 100000) (hc : 6 * c + 5 < G.2.2.2.2.1) (k : ∀ I' J' t' S', InvC I' S' → InvM I' S' → wfS (B + 242) S' → zV G (eL_law room_1) (90, 5102) 1788 [(0, .ref 1301), (1, .ref 0), (2, .ref 76), (3, .int (nI (6 * c)))] [] (mm I' J' t') Q) : zV G (eL_law room_1) (90, 5102) 1627 [(0, .ref 1301), (1, .ref 0), (2, .ref 76), (3, .int (nI (6 * c)))] [] (mm I J t) Q := by
  refine zV_aload_n dL_law_1627 rfl 1 rfl rfl ?_
  refine zV_aload_n dL_law_1628 rfl 0 rfl rfl ?_
  refine zV_iload_n dL_law_1629 rfl 3 rfl rfl ?_
  refine zV_iconst (v := (nI 1)) dL_law_1630 rfl rfl ?_
  refine zA_iadd (z := (nI ((6 * c) + 1))) dL_law_1631 rfl  (nI_add _ _) ?_
  refine zV_script ((6 * c) + 1) dL_law_1632 rfl rfl (by omega) hL ?_
  refine zV_aload_n dL_law_1633 rfl 0 rfl rfl ?_
  refine zV_iload_n dL_law_1634 rfl 3 rfl rfl ?_
  refine zV_iconst (v := (nI 2)) dL_law_1635 rfl rfl ?_
  refine zA_iadd (z := (nI ((6 * c) + 2))) dL_law_1636 rfl  (nI_add _ _) ?_
  refine zV_script ((6 * c) + 2) dL_law_1637 rfl rfl (by omega) hL ?_
  refine zV_callV (E' := eX6_strike (g_rmv 13)) (av := [.int (G.2.2.2.2.2 ((6 * c) + 1)), .int (G.2.2.2.2.2 ((6 * c) + 2))]) (st := []) (b := 0) dL_law_1638 rfl (k_RL_190 _) rfl ⟨by decide, by decide⟩ ⟨by decide, by decide⟩ (Or.inl rfl) rfl (Nat.le_of_ble_eq_true rfl) rfl rfl rfl (p_strike hC hw) (fun r1638 M1638 z => ?_)
  obtain ⟨I1, J1, t1, rfl, rfl, hC1, hf1⟩ := z
  show zV G (eL_law room_1) (90, 5102) 1641 [(0, .ref 1301), (1, .ref 0), (2, .ref 76), (3, .int (nI (6 * c)))] [.int ((op_strike S (G.2.2.2.2.2 ((6 * c) + 1)) (G.2.2.2.2.2 ((6 * c) + 2))).1)] (mm I1 J1 t1) _
  refine zV_aload_n dL_law_1641 rfl 2 rfl rfl ?_
  refine zV_aload_n dL_law_1642 rfl 0 rfl rfl ?_
  refine zV_iload_n dL_law_1643 rfl 3 rfl rfl ?_
  refine zV_iconst (v := (nI 1)) dL_law_1644 rfl rfl ?_
  refine zA_iadd (z := (nI ((6 * c) + 1))) dL_law_1645 rfl  (nI_add _ _) ?_
  refine zV_script ((6 * c) + 1) dL_law_1646 rfl rfl (by omega) hL ?_
  refine zV_aload_n dL_law_1647 rfl 0 rfl rfl ?_
  refine zV_iload_n dL_law_1648 rfl 3 rfl rfl ?_
  refine zV_iconst (v := (nI 2)) dL_law_1649 rfl rfl ?_
  refine zA_iadd (z := (nI ((6 * c) + 2))) dL_law_1650 rfl  (nI_add _ _) ?_
  refine zV_script ((6 * c) + 2) dL_law_1651 rfl rfl (by omega) hL ?_
  refine zV_callV (E' := eX7_strike (g_rmv 6)) (av := [.int (G.2.2.2.2.2 ((6 * c) + 1)), .int (G.2.2.2.2.2 ((6 * c) + 2))]) (st := [.int ((op_strike S (G.2.2.2.2.2 ((6 * c) + 1)) (G.2.2.2.2.2 ((6 * c) + 2))).1)]) (b := 76) dL_law_1652 rfl (k_RL_193 _) rfl ⟨by decide, by decide⟩ ⟨by decide, by decide⟩ (Or.inl rfl) rfl (Nat.le_of_ble_eq_true rfl) rfl rfl rfl (q_strike (hM.fr hf1) hw) (fun r1652 M1652 z => ?_)
  obtain ⟨I2, J2, t2, rfl, rfl, hM2, hf2⟩ := z
  show zV G (eL_law room_1) (90, 5102) 1655 [(0, .ref 1301), (1, .ref 0), (2, .ref 76), (3, .int (nI (6 * c)))] [.int ((op_strike S (G.2.2.2.2.2 ((6 * c) + 1)) (G.2.2.2.2.2 ((6 * c) + 2))).1), .int ((op_strike S (G.2.2.2.2.2 ((6 * c) + 1)) (G.2.2.2.2.2 ((6 * c) + 2))).1)] (mm I2 J2 t2) _
  refine zV_icmp_eq (tgt := 1788) dL_law_1655 rfl rfl  (fun _ => ?_) (fun z => absurd z (fun z => z rfl))
  exact k _ _ _ _ (hC1.fr (B := B + 0) (w_strike hw) hf2) hM2 ((w_strike hw).up (by omega) (by omega))
set_option maxRecDepth 100000 in
theorem law_judge {G : mG} {I : Nat → Nat → Int32} {J : Nat → Nat → Int64} {t c B : Nat} {S : aS} {Q : Option Value → mM → Prop} (hC : InvC I S) (hM : InvM I S) (hw : wfS B S) (hB : B + 242 < 1000000) (hL : G.2.2.2.2.1 ≤ 100000) (hc : 6 * c + 5 < G.2.2.2.2.1) (k : ∀ I' J' t' S', InvC I' S' → InvM I' S' → wfS (B + 242) S' → zV G (eL_law room_1) (90, 5102) 1788 [(0, .ref 1301), (1, .ref 0), (2, .ref 76), (3, .int (nI (6 * c)))] [] (mm I' J' t') Q) : zV G (eL_law room_1) (90, 5102) 1660 [(0, .ref 1301), (1, .ref 0), (2, .ref 76), (3, .int (nI (6 * c)))] [] (mm I J t) Q := by
  refine zV_aload_n dL_law_1660 rfl 1 rfl rfl ?_
  refine zV_aload_n dL_law_1661 rfl 0 rfl rfl ?_
  refine zV_iload_n dL_law_1662 rfl 3 rfl rfl ?_
  refine zV_iconst (v := (nI 1)) dL_law_1663 rfl rfl ?_
  refine zA_iadd (z := (nI ((6 * c) + 1))) dL_law_1664 rfl  (nI_add _ _) ?_
  refine zV_script ((6 * c) + 1) dL_law_1665 rfl rfl (by omega) hL ?_
  refine zV_aload_n dL_law_1666 rfl 0 rfl rfl ?_
  refine zV_iload_n dL_law_1667 rfl 3 rfl rfl ?_
  refine zV_iconst (v := (nI 2)) dL_law_1668 rfl rfl ?_
  refine zA_iadd (z := (nI ((6 * c) + 2))) dL_law_1669 rfl  (nI_add _ _) ?_
  refine zV_script ((6 * c) + 2) dL_law_1670 rfl rfl (by omega) hL ?_
  refine zV_aload_n dL_law_1671 rfl 0 rfl rfl ?_
  refine zV_iload_n dL_law_1672 rfl 3 rfl rfl ?_
  refine zV_iconst (v := (nI 3)) dL_law_1673 rfl rfl ?_
  refine zA_iadd (z := (nI ((6 * c) + 3))) dL_law_1674 rfl  (nI_add _ _) ?_
  refine zV_script ((6 * c) + 3) dL_law_1675 rfl rfl (by omega) hL ?_
  refine zV_callV (E' := eX6_judge (g_rmv 5)) (av := [.int (G.2.2.2.2.2 ((6 * c) + 1)), .int (G.2.2.2.2.2 ((6 * c) + 2)), .int (G.2.2.2.2.2 ((6 * c) + 3))]) (st := []) (b := 0) dL_law_1676 rfl (k_RL_194 _) rfl ⟨by decide, by decide⟩ ⟨by decide, by decide⟩ (Or.inl rfl) rfl (Nat.le_of_ble_eq_true rfl) rfl rfl rfl (p_judge hC hw (by omega)) (fun r1676 M1676 z => ?_)
  obtain ⟨I1, J1, t1, rfl, rfl, hC1, hf1⟩ := z
  show zV G (eL_law room_1) (90, 5102) 1679 [(0, .ref 1301), (1, .ref 0), (2, .ref 76), (3, .int (nI (6 * c)))] [.int ((op_judge S (G.2.2.2.2.2 ((6 * c) + 1)) (G.2.2.2.2.2 ((6 * c) + 2)) (G.2.2.2.2.2 ((6 * c) + 3))).1)] (mm I1 J1 t1) _
  refine zV_aload_n dL_law_1679 rfl 2 rfl rfl ?_
  refine zV_aload_n dL_law_1680 rfl 0 rfl rfl ?_
  refine zV_iload_n dL_law_1681 rfl 3 rfl rfl ?_
  refine zV_iconst (v := (nI 1)) dL_law_1682 rfl rfl ?_
  refine zA_iadd (z := (nI ((6 * c) + 1))) dL_law_1683 rfl  (nI_add _ _) ?_
  refine zV_script ((6 * c) + 1) dL_law_1684 rfl rfl (by omega) hL ?_
  refine zV_aload_n dL_law_1685 rfl 0 rfl rfl ?_
  refine zV_iload_n dL_law_1686 rfl 3 rfl rfl ?_
  refine zV_iconst (v := (nI 2)) dL_law_1687 rfl rfl ?_
  refine zA_iadd (z := (nI ((6 * c) + 2))) dL_law_1688 rfl  (nI_add _ _) ?_
  refine zV_script ((6 * c) + 2) dL_law_1689 rfl rfl (by omega) hL ?_
  refine zV_aload_n dL_law_1690 rfl 0 rfl rfl ?_
  refine zV_iload_n dL_law_1691 rfl 3 rfl rfl ?_
  refine zV_iconst (v := (nI 3)) dL_law_1692 rfl rfl ?_
  refine zA_iadd (z := (nI ((6 * c) + 3))) dL_law_1693 rfl  (nI_add _ _) ?_
  refine zV_script ((6 * c) + 3) dL_law_1694 rfl rfl (by omega) hL ?_
  refine zV_callV (E' := eX7_judge (g_rmv 7)) (av := [.int (G.2.2.2.2.2 ((6 * c) + 1)), .int (G.2.2.2.2.2 ((6 * c) + 2)), .int (G.2.2.2.2.2 ((6 * c) + 3))]) (st := [.int ((op_judge S (G.2.2.2.2.2 ((6 * c) + 1)) (G.2.2.2.2.2 ((6 * c) + 2)) (G.2.2.2.2.2 ((6 * c) + 3))).1)]) (b := 76) dL_law_1695 rfl (k_RL_197 _) rfl ⟨by decide, by decide⟩ ⟨by decide, by decide⟩ (Or.inl rfl) rfl (Nat.le_of_ble_eq_true rfl) rfl rfl rfl (q_judge (hM.fr hf1) hw (by omega)) (fun r1695 M1695 z => ?_)
  obtain ⟨I2, J2, t2, rfl, rfl, hM2, hf2⟩ := z
  show zV G (eL_law room_1) (90, 5102) 1698 [(0, .ref 1301), (1, .ref 0), (2, .ref 76), (3, .int (nI (6 * c)))] [.int ((op_judge S (G.2.2.2.2.2 ((6 * c) + 1)) (G.2.2.2.2.2 ((6 * c) + 2)) (G.2.2.2.2.2 ((6 * c) + 3))).1), .int ((op_judge S (G.2.2.2.2.2 ((6 * c) + 1)) (G.2.2.2.2.2 ((6 * c) + 2)) (G.2.2.2.2.2 ((6 * c) + 3))).1)] (mm I2 J2 t2) _
  refine zV_icmp_eq (tgt := 1788) dL_law_1698 rfl rfl  (fun _ => ?_) (fun z => absurd z (fun z => z rfl))
  exact k _ _ _ _ (hC1.fr (B := B + 0) (w_judge hw) hf2) hM2 ((w_judge hw).up (by omega) (by omega))
set_option maxRecDepth 100000 in
theorem law_image {G : mG} {I : Nat → Nat → Int32} {J : Nat → Nat → Int64} {t c B : Nat} {S : aS} {Q : Option Value → mM → Prop} (hC : InvC I S) (hM : InvM I S) (hw : wfS B S) (hB : B + 242 < 1000000) (hL : G.2.2.2.2.1 ≤ 100000) (hc : 6 * c + 5 < G.2.2.2.2.1) (k : ∀ I' J' t' S', InvC I' S' → InvM I' S' → wfS (B + 242) S' → zV G (eL_law room_1) (90, 5102) 1788 [(0, .ref 1301), (1, .ref 0), (2, .ref 76), (3, .int (nI (6 * c)))] [] (mm I' J' t') Q) : zV G (eL_law room_1) (90, 5102) 1703 [(0, .ref 1301), (1, .ref 0), (2, .ref 76), (3, .int (nI (6 * c)))] [] (mm I J t) Q := by
  refine zV_aload_n dL_law_1703 rfl 1 rfl rfl ?_
  refine zV_callV (E' := eX6_image (g_rmv 2)) (av := []) (st := []) (b := 0) dL_law_1704 rfl (k_RL_198 _) rfl ⟨by decide, by decide⟩ ⟨by decide, by decide⟩ (Or.inl rfl) rfl (Nat.le_of_ble_eq_true rfl) rfl rfl rfl (p_image hC hw) (fun r1704 M1704 z => ?_)
  obtain ⟨I1, J1, t1, rfl, rfl, hC1, hf1⟩ := z
  show zV G (eL_law room_1) (90, 5102) 1707 [(0, .ref 1301), (1, .ref 0), (2, .ref 76), (3, .int (nI (6 * c)))] [.int ((op_image S).1)] (mm I1 J1 t1) _
  refine zV_aload_n dL_law_1707 rfl 2 rfl rfl ?_
  refine zV_callV (E' := eX7_image (g_rmv 1)) (av := []) (st := [.int ((op_image S).1)]) (b := 76) dL_law_1708 rfl (k_RL_201 _) rfl ⟨by decide, by decide⟩ ⟨by decide, by decide⟩ (Or.inl rfl) rfl (Nat.le_of_ble_eq_true rfl) rfl rfl rfl (q_image (hM.fr hf1) hw) (fun r1708 M1708 z => ?_)
  obtain ⟨I2, J2, t2, rfl, rfl, hM2, hf2⟩ := z
  show zV G (eL_law room_1) (90, 5102) 1711 [(0, .ref 1301), (1, .ref 0), (2, .ref 76), (3, .int (nI (6 * c)))] [.int ((op_image S).1), .int ((op_image S).1)] (mm I2 J2 t2) _
  refine zV_icmp_eq (tgt := 1788) dL_law_1711 rfl rfl  (fun _ => ?_) (fun z => absurd z (fun z => z rfl))
  exact k _ _ _ _ (hC1.fr (B := B + 0) (w_image hw) hf2) hM2 ((w_image hw).up (by omega) (by omega))
set_option maxRecDepth 100000 in
theorem law_undo {G : mG} {I : Nat → Nat → Int32} {J : Nat → Nat → Int64} {t c B : Nat} {S : aS} {Q : Option Value → mM → Prop} (hC : InvC I S) (hM : InvM I S) (hw : wfS B S) (hB : B + 242 < 1000000) (hL : G.2.2.2.2.1 ≤ 100000) (hc : 6 * c + 5 < G.2.2.2.2.1) (k : ∀ I' J' t' S', InvC I' S' → InvM I' S' → wfS (B + 242) S' → zV G (eL_law room_1) (90, 5102) 1788 [(0, .ref 1301), (1, .ref 0), (2, .ref 76), (3, .int (nI (6 * c)))] [] (mm I' J' t') Q) : zV G (eL_law room_1) (90, 5102) 1716 [(0, .ref 1301), (1, .ref 0), (2, .ref 76), (3, .int (nI (6 * c)))] [] (mm I J t) Q := by
  refine zV_aload_n dL_law_1716 rfl 1 rfl rfl ?_
  refine zV_callV (E' := eX6_undo (g_rmv 2)) (av := []) (st := []) (b := 0) dL_law_1717 rfl (k_RL_202 _) rfl ⟨by decide, by decide⟩ ⟨by decide, by decide⟩ (Or.inl rfl) rfl (Nat.le_of_ble_eq_true rfl) rfl rfl rfl (p_undo hC hw) (fun r1717 M1717 z => ?_)
  obtain ⟨I1, J1, t1, rfl, rfl, hC1, hf1⟩ := z
  show zV G (eL_law room_1) (90, 5102) 1720 [(0, .ref 1301), (1, .ref 0), (2, .ref 76), (3, .int (nI (6 * c)))] [.int ((op_undo S).1)] (mm I1 J1 t1) _
  refine zV_aload_n dL_law_1720 rfl 2 rfl rfl ?_
  refine zV_callV (E' := eX7_undo (g_rmv 1)) (av := []) (st := [.int ((op_undo S).1)]) (b := 76) dL_law_1721 rfl (k_RL_205 _) rfl ⟨by decide, by decide⟩ ⟨by decide, by decide⟩ (Or.inl rfl) rfl (Nat.le_of_ble_eq_true rfl) rfl rfl rfl (q_undo (hM.fr hf1) hw) (fun r1721 M1721 z => ?_)
  obtain ⟨I2, J2, t2, rfl, rfl, hM2, hf2⟩ := z
  show zV G (eL_law room_1) (90, 5102) 1724 [(0, .ref 1301), (1, .ref 0), (2, .ref 76), (3, .int (nI (6 * c)))] [.int ((op_undo S).1), .int ((op_undo S).1)] (mm I2 J2 t2) _
  refine zV_icmp_eq (tgt := 1788) dL_law_1724 rfl rfl  (fun _ => ?_) (fun z => absurd z (fun z => z rfl))
  exact k _ _ _ _ (hC1.fr (B := B + 0) (w_undo hw) hf2) hM2 ((w_undo hw).up (by omega) (by omega))
set_option maxRecDepth 100000 in
theorem law_tear {G : mG} {I : Nat → Nat → Int32} {J : Nat → Nat → Int64} {t c B : Nat} {S : aS} {Q : Option Value → mM → Prop} (hC : InvC I S) (hM : InvM I S) (hw : wfS B S) (hB : B + 242 < 1000000) (hL : G.2.2.2.2.1 ≤ 100000) (hc : 6 * c + 5 < G.2.2.2.2.1) (k : ∀ I' J' t' S', InvC I' S' → InvM I' S' → wfS (B + 242) S' → zV G (eL_law room_1) (90, 5102) 1788 [(0, .ref 1301), (1, .ref 0), (2, .ref 76), (3, .int (nI (6 * c)))] [] (mm I' J' t') Q) : zV G (eL_law room_1) (90, 5102) 1729 [(0, .ref 1301), (1, .ref 0), (2, .ref 76), (3, .int (nI (6 * c)))] [] (mm I J t) Q := by
  refine zV_aload_n dL_law_1729 rfl 1 rfl rfl ?_
  refine zV_callV (E' := eX6_tear (g_rmv 0)) (av := []) (st := []) (b := 0) dL_law_1730 rfl (k_RL_206 _) rfl ⟨by decide, by decide⟩ ⟨by decide, by decide⟩ (Or.inl rfl) rfl (Nat.le_of_ble_eq_true rfl) rfl rfl rfl (p_tear hC hw) (fun r1730 M1730 z => ?_)
  obtain ⟨I1, J1, t1, rfl, rfl, hC1, hf1⟩ := z
  show zV G (eL_law room_1) (90, 5102) 1733 [(0, .ref 1301), (1, .ref 0), (2, .ref 76), (3, .int (nI (6 * c)))] [.int ((op_tear S).1)] (mm I1 J1 t1) _
  refine zV_aload_n dL_law_1733 rfl 2 rfl rfl ?_
  refine zV_callV (E' := eX7_tear (g_rmv 0)) (av := []) (st := [.int ((op_tear S).1)]) (b := 76) dL_law_1734 rfl (k_RL_209 _) rfl ⟨by decide, by decide⟩ ⟨by decide, by decide⟩ (Or.inl rfl) rfl (Nat.le_of_ble_eq_true rfl) rfl rfl rfl (q_tear (hM.fr hf1) hw) (fun r1734 M1734 z => ?_)
  obtain ⟨I2, J2, t2, rfl, rfl, hM2, hf2⟩ := z
  show zV G (eL_law room_1) (90, 5102) 1737 [(0, .ref 1301), (1, .ref 0), (2, .ref 76), (3, .int (nI (6 * c)))] [.int ((op_tear S).1), .int ((op_tear S).1)] (mm I2 J2 t2) _
  refine zV_icmp_eq (tgt := 1788) dL_law_1737 rfl rfl  (fun _ => ?_) (fun z => absurd z (fun z => z rfl))
  exact k _ _ _ _ (hC1.fr (B := B + 0) (w_tear hw) hf2) hM2 ((w_tear hw).up (by omega) (by omega))
set_option maxRecDepth 100000 in
theorem law_count {G : mG} {I : Nat → Nat → Int32} {J : Nat → Nat → Int64} {t c B : Nat} {S : aS} {Q : Option Value → mM → Prop} (hC : InvC I S) (hM : InvM I S) (hw : wfS B S) (hB : B + 242 < 1000000) (hL : G.2.2.2.2.1 ≤ 100000) (hc : 6 * c + 5 < G.2.2.2.2.1) (k : ∀ I' J' t' S', InvC I' S' → InvM I' S' → wfS (B + 242) S' → zV G (eL_law room_1) (90, 5102) 1788 [(0, .ref 1301), (1, .ref 0), (2, .ref 76), (3, .int (nI (6 * c)))] [] (mm I' J' t') Q) : zV G (eL_law room_1) (90, 5102) 1742 [(0, .ref 1301), (1, .ref 0), (2, .ref 76), (3, .int (nI (6 * c)))] [] (mm I J t) Q := by
  refine zV_aload_n dL_law_1742 rfl 1 rfl rfl ?_
  refine zV_aload_n dL_law_1743 rfl 0 rfl rfl ?_
  refine zV_iload_n dL_law_1744 rfl 3 rfl rfl ?_
  refine zV_iconst (v := (nI 1)) dL_law_1745 rfl rfl ?_
  refine zA_iadd (z := (nI ((6 * c) + 1))) dL_law_1746 rfl  (nI_add _ _) ?_
  refine zV_script ((6 * c) + 1) dL_law_1747 rfl rfl (by omega) hL ?_
  refine zV_callV (E' := eX6_count (g_rmv 4)) (av := [.int (G.2.2.2.2.2 ((6 * c) + 1))]) (st := []) (b := 0) dL_law_1748 rfl (k_RL_210 _) rfl ⟨by decide, by decide⟩ ⟨by decide, by decide⟩ (Or.inl rfl) rfl (Nat.le_of_ble_eq_true rfl) rfl rfl rfl (p_count hC hw) (fun r1748 M1748 z => ?_)
  obtain ⟨I1, J1, t1, rfl, rfl, hC1, hf1⟩ := z
  show zV G (eL_law room_1) (90, 5102) 1751 [(0, .ref 1301), (1, .ref 0), (2, .ref 76), (3, .int (nI (6 * c)))] [.int ((op_count S (G.2.2.2.2.2 ((6 * c) + 1))).1)] (mm I1 J1 t1) _
  refine zV_aload_n dL_law_1751 rfl 2 rfl rfl ?_
  refine zV_aload_n dL_law_1752 rfl 0 rfl rfl ?_
  refine zV_iload_n dL_law_1753 rfl 3 rfl rfl ?_
  refine zV_iconst (v := (nI 1)) dL_law_1754 rfl rfl ?_
  refine zA_iadd (z := (nI ((6 * c) + 1))) dL_law_1755 rfl  (nI_add _ _) ?_
  refine zV_script ((6 * c) + 1) dL_law_1756 rfl rfl (by omega) hL ?_
  refine zV_callV (E' := eX7_count (g_rmv 5)) (av := [.int (G.2.2.2.2.2 ((6 * c) + 1))]) (st := [.int ((op_count S (G.2.2.2.2.2 ((6 * c) + 1))).1)]) (b := 76) dL_law_1757 rfl (k_RL_213 _) rfl ⟨by decide, by decide⟩ ⟨by decide, by decide⟩ (Or.inl rfl) rfl (Nat.le_of_ble_eq_true rfl) rfl rfl rfl (q_count (hM.fr hf1) hw) (fun r1757 M1757 z => ?_)
  obtain ⟨I2, J2, t2, rfl, rfl, hM2, hf2⟩ := z
  show zV G (eL_law room_1) (90, 5102) 1760 [(0, .ref 1301), (1, .ref 0), (2, .ref 76), (3, .int (nI (6 * c)))] [.int ((op_count S (G.2.2.2.2.2 ((6 * c) + 1))).1), .int ((op_count S (G.2.2.2.2.2 ((6 * c) + 1))).1)] (mm I2 J2 t2) _
  refine zV_icmp_eq (tgt := 1788) dL_law_1760 rfl rfl  (fun _ => ?_) (fun z => absurd z (fun z => z rfl))
  exact k _ _ _ _ (hC1.fr (B := B + 0) (w_count hw) hf2) hM2 ((w_count hw).up (by omega) (by omega))
set_option maxRecDepth 100000 in
theorem law_status {G : mG} {I : Nat → Nat → Int32} {J : Nat → Nat → Int64} {t c B : Nat} {S : aS} {Q : Option Value → mM → Prop} (hC : InvC I S) (hM : InvM I S) (hw : wfS B S) (hB : B + 242 < 1000000) (hL : G.2.2.2.2.1 ≤ 100000) (hc : 6 * c + 5 < G.2.2.2.2.1) (k : ∀ I' J' t' S', InvC I' S' → InvM I' S' → wfS (B + 242) S' → zV G (eL_law room_1) (90, 5102) 1788 [(0, .ref 1301), (1, .ref 0), (2, .ref 76), (3, .int (nI (6 * c)))] [] (mm I' J' t') Q) : zV G (eL_law room_1) (90, 5102) 1765 [(0, .ref 1301), (1, .ref 0), (2, .ref 76), (3, .int (nI (6 * c)))] [] (mm I J t) Q := by
  refine zV_aload_n dL_law_1765 rfl 1 rfl rfl ?_
  refine zV_aload_n dL_law_1766 rfl 0 rfl rfl ?_
  refine zV_iload_n dL_law_1767 rfl 3 rfl rfl ?_
  refine zV_iconst (v := (nI 1)) dL_law_1768 rfl rfl ?_
  refine zA_iadd (z := (nI ((6 * c) + 1))) dL_law_1769 rfl  (nI_add _ _) ?_
  refine zV_script ((6 * c) + 1) dL_law_1770 rfl rfl (by omega) hL ?_
  refine zV_callV (E' := eX6_status (g_rmv 2)) (av := [.int (G.2.2.2.2.2 ((6 * c) + 1))]) (st := []) (b := 0) dL_law_1771 rfl (k_RL_214 _) rfl ⟨by decide, by decide⟩ ⟨by decide, by decide⟩ (Or.inl rfl) rfl (Nat.le_of_ble_eq_true rfl) rfl rfl rfl (p_status hC hw) (fun r1771 M1771 z => ?_)
  obtain ⟨I1, J1, t1, rfl, rfl, hC1, hf1⟩ := z
  show zV G (eL_law room_1) (90, 5102) 1774 [(0, .ref 1301), (1, .ref 0), (2, .ref 76), (3, .int (nI (6 * c)))] [.int ((op_status S (G.2.2.2.2.2 ((6 * c) + 1))).1)] (mm I1 J1 t1) _
  refine zV_aload_n dL_law_1774 rfl 2 rfl rfl ?_
  refine zV_aload_n dL_law_1775 rfl 0 rfl rfl ?_
  refine zV_iload_n dL_law_1776 rfl 3 rfl rfl ?_
  refine zV_iconst (v := (nI 1)) dL_law_1777 rfl rfl ?_
  refine zA_iadd (z := (nI ((6 * c) + 1))) dL_law_1778 rfl  (nI_add _ _) ?_
  refine zV_script ((6 * c) + 1) dL_law_1779 rfl rfl (by omega) hL ?_
  refine zV_callV (E' := eX7_status (g_rmv 1)) (av := [.int (G.2.2.2.2.2 ((6 * c) + 1))]) (st := [.int ((op_status S (G.2.2.2.2.2 ((6 * c) + 1))).1)]) (b := 76) dL_law_1780 rfl (k_RL_217 _) rfl ⟨by decide, by decide⟩ ⟨by decide, by decide⟩ (Or.inl rfl) rfl (Nat.le_of_ble_eq_true rfl) rfl rfl rfl (q_status (hM.fr hf1) hw) (fun r1780 M1780 z => ?_)
  obtain ⟨I2, J2, t2, rfl, rfl, hM2, hf2⟩ := z
  show zV G (eL_law room_1) (90, 5102) 1783 [(0, .ref 1301), (1, .ref 0), (2, .ref 76), (3, .int (nI (6 * c)))] [.int ((op_status S (G.2.2.2.2.2 ((6 * c) + 1))).1), .int ((op_status S (G.2.2.2.2.2 ((6 * c) + 1))).1)] (mm I2 J2 t2) _
  refine zV_icmp_eq (tgt := 1788) dL_law_1783 rfl rfl  (fun _ => ?_) (fun z => absurd z (fun z => z rfl))
  exact k _ _ _ _ (hC1.fr (B := B + 0) (w_status hw) hf2) hM2 ((w_status hw).up (by omega) (by omega))