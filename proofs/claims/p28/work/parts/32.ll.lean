/-! the law, from its first act on the object that was made -/
set_option maxHeartbeats 4000000 in
set_option maxRecDepth 20000 in
theorem law_es {n0 : Nat} {xs : Nat → Int32} {μ : ev_M} {S : gS} (hR : RepC μ S) (h1 : H1 S 0 0) (hz : ∀ k, k < 10 → S.1 (11 + k) = nI 0) : es (ev_CALL 7) 9 cL_law (some .boolean) 0 (n0 + 1, xs, [(0, 0, 0, 0)]) (fun (r : ev_R) (_ : ev_M) => r = (some (.int (nI 1)), 0)) 8 [.ref 200, .ref 0, .null, .null, .null, .null, .null, .null, .null] [] μ 0 := by
  obtain ⟨C, hC⟩ : ∃ q : Nat → Int32, q = ev_sc (n0 + 1, xs, [(0, 0, 0, 0)]) := ⟨_, rfl⟩
  refine es_iconstN (pc := 8) 1 dL_law_8 ic_1 ?_
  refine es_aload_n (pc := 9) dL_law_9 rfl ?_
  refine es_iconstN (pc := 10) 0 dL_law_10 ic_0 ?_
  refine es_cellc (pc := 11) dL_law_11 mr_9_60 (List.cons_ne_nil _ _) (by omega) (Nat.le_of_ble_eq_true rfl) ?_
  rw [← hC]
  refine es_iconstN (pc := 14) 4 dL_law_14 ic_4 ?_
  refine es_cs2_p (pc := 15) dL_law_15 mr_9_64 rfl rfl rfl (Nat.le_of_ble_eq_true rfl) (Nat.zero_le _) (L_low_ok) ?_
  refine es_iaddN (pc := 18) dL_law_18 ?_
  obtain ⟨n, hn⟩ : ∃ q : Nat, q = 1 + low (C 0) 4 := ⟨_, rfl⟩
  rw [← hn]
  have hn4 : n ≤ 4 := by have := low_lt (v := C 0) (n := 4) (by decide); omega
  have hn1 : 1 ≤ n := by omega
  refine es_istore_n (pc := 19) dL_law_19 (ok1_2 rfl) ?_
  dsimp only [List.set]
  have hl22 : ∀ (n9 : Nat) (ν : ev_M) (S : gS) (t : Nat) , n9 = 10 - t → (RepC ν S) → (H1 S 0 0) → (∀ k, t ≤ k → k < 10 → S.1 (11 + k) = nI 0) → (t ≤ 10) → es (ev_CALL 7) 9 cL_law (some .boolean) 0 (n0 + 1, xs, [(0, 0, 0, 0)]) (fun (r : ev_R) (_ : ev_M) => r = (some (.int (nI 1)), 0)) 22 [.ref 200, .ref 0, .int (nI n), .int (nI t), .null, .null, .null, .null, .null] [] ν 0 := by
    intro n9
    induction n9 using Nat.strongRecOn with
    | ind n9 ih22 =>
      intro ν S t hn9 hR h1 hz ht
      subst hn9
      have ih := ih22
      refine es_iload_n (pc := 22) dL_law_22 rfl ?_
      refine es_bipushN (pc := 23) 10 dL_law_23 bp_10 ?_
      refine es_icmp_geN (pc := 25) 56 dL_law_25 (by decide) (by omega) (by omega) (fun c25 => ?_) (fun c25 => ?_)
      · refine es_aload_n (pc := 56) dL_law_56 rfl ?_
        refine es_iconstN (pc := 57) 0 dL_law_57 ic_0 ?_
        refine es_iconstN (pc := 58) 1 dL_law_58 ic_1 ?_
        refine es_aload_n (pc := 59) dL_law_59 rfl ?_
        refine es_bipushN (pc := 60) 11 dL_law_60 bp_11 ?_
        refine es_cellc (pc := 62) dL_law_62 mr_9_60 (List.cons_ne_nil _ _) (by omega) (Nat.le_of_ble_eq_true rfl) ?_
        rw [← hC]
        refine es_bipushN (pc := 65) 20 dL_law_65 bp_20 ?_
        refine es_cs2_p (pc := 67) dL_law_67 mr_9_64 rfl rfl rfl (Nat.le_of_ble_eq_true rfl) (Nat.zero_le _) (L_low_ok) ?_
        refine es_iaddN (pc := 70) dL_law_70 ?_
        refine es_cv2_i (pc := 71) dL_law_71 mr_9_70 rfl rfl (by decide) (by decide) rfl (Nat.le_of_ble_eq_true rfl) (Nat.zero_le _) (O_set hR h1.1 (k := 0) (h1 := (show gm_lo 0 ≤ 1 + low (C 11) 20 from by show 1 ≤ _; omega)) (h2 := (show 1 + low (C 11) 20 ≤ gm_up 0 from by have := low_lt (v := C 11) (n := 20) (by decide); show _ ≤ 20; omega)) (hu := by decide)) (fun x71 μ71 h71 => ?_)
        obtain ⟨-, hR⟩ := h71
        replace h1 := h1.set (k := 0) (by decide) (show gm_lo 0 ≤ 1 + low (C 11) 20 from by show 1 ≤ _; omega) (show 1 + low (C 11) 20 ≤ gm_up 0 from by have := low_lt (v := C 11) (n := 20) (by decide); show _ ≤ 20; omega) (by decide)
        refine es_pop (pc := 74) dL_law_74 rfl ?_
        refine es_aload_n (pc := 75) dL_law_75 rfl ?_
        refine es_iconstN (pc := 76) 1 dL_law_76 ic_1 ?_
        refine es_aload_n (pc := 77) dL_law_77 rfl ?_
        refine es_bipushN (pc := 78) 12 dL_law_78 bp_12 ?_
        refine es_cellc (pc := 80) dL_law_80 mr_9_60 (List.cons_ne_nil _ _) (by omega) (Nat.le_of_ble_eq_true rfl) ?_
        rw [← hC]
        refine es_iconstN (pc := 83) 4 dL_law_83 ic_4 ?_
        refine es_cs2_p (pc := 84) dL_law_84 mr_9_64 rfl rfl rfl (Nat.le_of_ble_eq_true rfl) (Nat.zero_le _) (L_low_ok) ?_
        refine es_cv2_i (pc := 87) dL_law_87 mr_9_70 rfl rfl (by decide) (by decide) rfl (Nat.le_of_ble_eq_true rfl) (Nat.zero_le _) (O_set hR h1.1 (k := 1) (h1 := (show gm_lo 1 ≤ low (C 12) 4 from Nat.zero_le _)) (h2 := (show low (C 12) 4 ≤ gm_up 1 from by have := low_lt (v := C 12) (n := 4) (by decide); show _ ≤ 9; omega)) (hu := by decide)) (fun x87 μ87 h87 => ?_)
        obtain ⟨-, hR⟩ := h87
        replace h1 := h1.set (k := 1) (by decide) (show gm_lo 1 ≤ low (C 12) 4 from Nat.zero_le _) (show low (C 12) 4 ≤ gm_up 1 from by have := low_lt (v := C 12) (n := 4) (by decide); show _ ≤ 9; omega) (by decide)
        refine es_pop (pc := 90) dL_law_90 rfl ?_
        refine es_aload_n (pc := 91) dL_law_91 rfl ?_
        refine es_iconstN (pc := 92) 2 dL_law_92 ic_2 ?_
        refine es_aload_n (pc := 93) dL_law_93 rfl ?_
        refine es_bipushN (pc := 94) 13 dL_law_94 bp_13 ?_
        refine es_cellc (pc := 96) dL_law_96 mr_9_60 (List.cons_ne_nil _ _) (by omega) (Nat.le_of_ble_eq_true rfl) ?_
        rw [← hC]
        refine es_bipushN (pc := 99) 12 dL_law_99 bp_12 ?_
        refine es_cs2_p (pc := 101) dL_law_101 mr_9_64 rfl rfl rfl (Nat.le_of_ble_eq_true rfl) (Nat.zero_le _) (L_low_ok) ?_
        refine es_cv2_i (pc := 104) dL_law_104 mr_9_70 rfl rfl (by decide) (by decide) rfl (Nat.le_of_ble_eq_true rfl) (Nat.zero_le _) (O_set hR h1.1 (k := 2) (h1 := (show gm_lo 2 ≤ low (C 13) 12 from Nat.zero_le _)) (h2 := (show low (C 13) 12 ≤ gm_up 2 from by have := low_lt (v := C 13) (n := 12) (by decide); show _ ≤ 20; omega)) (hu := by decide)) (fun x104 μ104 h104 => ?_)
        obtain ⟨-, hR⟩ := h104
        replace h1 := h1.set (k := 2) (by decide) (show gm_lo 2 ≤ low (C 13) 12 from Nat.zero_le _) (show low (C 13) 12 ≤ gm_up 2 from by have := low_lt (v := C 13) (n := 12) (by decide); show _ ≤ 20; omega) (by decide)
        refine es_pop (pc := 107) dL_law_107 rfl ?_
        refine es_aload_n (pc := 108) dL_law_108 rfl ?_
        refine es_iconstN (pc := 109) 3 dL_law_109 ic_3 ?_
        refine es_aload_n (pc := 110) dL_law_110 rfl ?_
        refine es_bipushN (pc := 111) 14 dL_law_111 bp_14 ?_
        refine es_cellc (pc := 113) dL_law_113 mr_9_60 (List.cons_ne_nil _ _) (by omega) (Nat.le_of_ble_eq_true rfl) ?_
        rw [← hC]
        refine es_bipushN (pc := 116) 10 dL_law_116 bp_10 ?_
        refine es_cs2_p (pc := 118) dL_law_118 mr_9_64 rfl rfl rfl (Nat.le_of_ble_eq_true rfl) (Nat.zero_le _) (L_low_ok) ?_
        refine es_cv2_i (pc := 121) dL_law_121 mr_9_70 rfl rfl (by decide) (by decide) rfl (Nat.le_of_ble_eq_true rfl) (Nat.zero_le _) (O_set hR h1.1 (k := 3) (h1 := (show gm_lo 3 ≤ low (C 14) 10 from Nat.zero_le _)) (h2 := (show low (C 14) 10 ≤ gm_up 3 from by have := low_lt (v := C 14) (n := 10) (by decide); show _ ≤ 9; omega)) (hu := by decide)) (fun x121 μ121 h121 => ?_)
        obtain ⟨-, hR⟩ := h121
        replace h1 := h1.set (k := 3) (by decide) (show gm_lo 3 ≤ low (C 14) 10 from Nat.zero_le _) (show low (C 14) 10 ≤ gm_up 3 from by have := low_lt (v := C 14) (n := 10) (by decide); show _ ≤ 9; omega) (by decide)
        refine es_pop (pc := 124) dL_law_124 rfl ?_
        have hl130 : ∀ (n9 : Nat) (ν : ev_M) (S : gS) (br p : Nat) (j5 : Value), n9 = n - p → (RepC ν S) → (H1 S p br) → (p ≤ n) → es (ev_CALL 7) 9 cL_law (some .boolean) 0 (n0 + 1, xs, [(0, 0, 0, 0)]) (fun (r : ev_R) (_ : ev_M) => r = (some (.int (nI 1)), 0)) 130 [.ref 200, .ref 0, .int (nI n), .int (nI br), .int (nI p), j5, .null, .null, .null] [] ν 0 := by
          intro n9
          induction n9 using Nat.strongRecOn with
          | ind n9 ih130 =>
            intro ν S br p j5 hn9 hR h1 hp
            subst hn9
            have ih := ih130
            refine es_iload (pc := 130) dL_law_130 rfl ?_
            refine es_iload_n (pc := 132) dL_law_132 rfl ?_
            refine es_icmp_geN (pc := 133) 241 dL_law_133 (by decide) (by omega) (by omega) (fun c133 => ?_) (fun c133 => ?_)
            · have hl244 : ∀ (n9 : Nat) (ν : ev_M) (S : gS) (br k : Nat) (j5 j6 j7 j8 : Value), n9 = 44 - k → (RepC ν S) → (HS S n k) → (k ≤ 44) → es (ev_CALL 7) 9 cL_law (some .boolean) 0 (n0 + 1, xs, [(0, 0, 0, 0)]) (fun (r : ev_R) (_ : ev_M) => r = (some (.int (nI 1)), 0)) 244 [.ref 200, .ref 0, .int (nI n), .int (nI br), .int (nI k), j5, j6, j7, j8] [] ν 0 := by
                intro n9
                induction n9 using Nat.strongRecOn with
                | ind n9 ih244 =>
                  intro ν S br k j5 j6 j7 j8 hn9 hR H hk
                  subst hn9
                  have ih := ih244
                  refine es_iload (pc := 244) dL_law_244 rfl ?_
                  refine es_bipushN (pc := 246) 44 dL_law_246 bp_44 ?_
                  refine es_icmp_geN (pc := 248) 409 dL_law_248 (by decide) (by omega) (by omega) (fun c248 => ?_) (fun c248 => ?_)
                  · refine es_iconstN (pc := 409) 1 dL_law_409 ic_1 ?_
                    refine es_ireturn (pc := 410) dL_law_410 rfl (rfl) (by decide) ?_
                    exact rfl
                  · refine es_aload_n (pc := 251) dL_law_251 rfl ?_
                    refine es_bipushN (pc := 252) 20 dL_law_252 bp_20 ?_
                    refine es_iload (pc := 254) dL_law_254 rfl ?_
                    refine es_iaddN (pc := 256) dL_law_256 ?_
                    refine es_cellc (pc := 257) dL_law_257 mr_9_60 (List.cons_ne_nil _ _) (by omega) (Nat.le_of_ble_eq_true rfl) ?_
                    rw [← hC]
                    refine es_istore (pc := 260) dL_law_260 (ok1_5 rfl) ?_
                    dsimp only [List.set]
                    refine es_iload (pc := 262) dL_law_262 rfl ?_
                    refine es_bipushN (pc := 264) 11 dL_law_264 bp_11 ?_
                    refine es_cs2_p (pc := 266) dL_law_266 mr_9_64 rfl rfl rfl (Nat.le_of_ble_eq_true rfl) (Nat.zero_le _) (L_low_ok) ?_
                    have hw := low_lt (v := C (20 + k)) (n := 11) (by decide)
                    refine es_istore (pc := 269) dL_law_269 (ok1_6 rfl) ?_
                    dsimp only [List.set]
                    refine es_iload (pc := 271) dL_law_271 rfl ?_
                    refine es_iconstN (pc := 273) 3 dL_law_273 ic_3 ?_
                    refine es_icmp_geN (pc := 274) 281 dL_law_274 (by decide) (by omega) (by omega) (fun c274 => ?_) (fun c274 => ?_)
                    · refine es_iload (pc := 281) dL_law_281 rfl ?_
                      refine es_bipushN (pc := 283) 7 dL_law_283 bp_7 ?_
                      refine es_icmp_geN (pc := 285) 292 dL_law_285 (by decide) (by omega) (by omega) (fun c285 => ?_) (fun c285 => ?_)
                      · refine es_iload (pc := 292) dL_law_292 rfl ?_
                        refine es_bipushN (pc := 294) 7 dL_law_294 bp_7 ?_
                        refine es_icmp_neN (pc := 296) 303 dL_law_296 (by decide) (by omega) (by omega) (fun c296 => ?_) (fun c296 => ?_)
                        · refine es_iconstN (pc := 303) 3 dL_law_303 ic_3 ?_
                          refine es_istore (pc := 304) dL_law_304 (ok1_7 rfl) ?_
                          dsimp only [List.set]
                          refine es_iload (pc := 306) dL_law_306 rfl ?_
                          refine es_bipushN (pc := 308) 10 dL_law_308 bp_10 ?_
                          refine es_icmp_neN (pc := 310) 347 dL_law_310 (by decide) (by omega) (by omega) (fun c310 => ?_) (fun c310 => ?_)
                          · refine es_aload_n (pc := 347) dL_law_347 rfl ?_
                            refine es_iload (pc := 348) dL_law_348 rfl ?_
                            refine es_iload (pc := 350) dL_law_350 rfl ?_
                            refine es_iconstN (pc := 352) 4 dL_law_352 ic_4 ?_
                            refine es_ishr (pc := 353) dL_law_353 ?_
                            refine es_iload (pc := 354) dL_law_354 rfl ?_
                            refine es_iconstN (pc := 356) 3 dL_law_356 ic_3 ?_
                            refine es_icmp_neN (pc := 357) 364 dL_law_357 (by decide) (by omega) (by omega) (fun c357 => ?_) (fun c357 => ?_)
                            · exact absurd c357 (by decide)
                            · refine es_iload_n (pc := 360) dL_law_360 rfl ?_
                              refine es_goto (pc := 361) (tgt := 366) dL_law_361 (by decide) ?_
                              refine es_cs2_p (pc := 366) dL_law_366 mr_9_64 rfl rfl rfl (Nat.le_of_ble_eq_true rfl) (Nat.zero_le _) (L_low_ok) ?_
                              refine es_cs3_i (pc := 369) dL_law_369 mr_9_76 rfl rfl rfl (Nat.le_of_ble_eq_true rfl) (Nat.zero_le _) (L_mv_3 hR H (ht := low_lt (by omega))) (fun x369 μ369 h369 => ?_)
                              obtain ⟨rfl, S3, hR3, H3⟩ := h369
                              refine es_istore (pc := 372) dL_law_372 (ok1_8 rfl) ?_
                              dsimp only [List.set]
                              refine es_iload (pc := 374) dL_law_374 rfl ?_
                              refine es_if_eqB (pc := 376) 401 dL_law_376 (by decide) (fun c376 => ?_) (fun c376 => ?_)
                              · exact absurd c376 (by decide)
                              · refine es_aload_n (pc := 379) dL_law_379 rfl ?_
                                refine es_cs1_p (pc := 380) dL_law_380 mr_9_79 rfl rfl rfl (Nat.le_of_ble_eq_true rfl) (Nat.zero_le _) (L_towers_ok hR3 H3.1 H3.inv) ?_
                                refine es_if_eqB (pc := 383) 401 dL_law_383 (by decide) (fun c383 => ?_) (fun c383 => ?_)
                                · exact absurd c383 (by decide)
                                · refine es_iload (pc := 386) dL_law_386 rfl ?_
                                  refine es_iconstN (pc := 388) 4 dL_law_388 ic_4 ?_
                                  refine es_iremN (pc := 389) dL_law_389 (by omega) (by omega) (by omega) ?_
                                  refine es_iconstN (pc := 390) 3 dL_law_390 ic_3 ?_
                                  refine es_icmp_neN (pc := 391) 403 dL_law_391 (by decide) (by omega) (by omega) (fun c391 => ?_) (fun c391 => ?_)
                                  · refine es_iincN (pc := 403) 1 dL_law_403 ic_1 rfl (ok1_4 rfl) ?_
                                    dsimp only [List.set]
                                    refine es_goto (pc := 406) (tgt := 244) dL_law_406 (by decide) ?_
                                    exact ih244 _ (by omega) _ _ _ (k + 1) _ _ _ _ rfl hR3 H3 (by omega)
                                  · refine es_aload_n (pc := 394) dL_law_394 rfl ?_
                                    refine es_cs1_p (pc := 395) dL_law_395 mr_9_83 rfl rfl rfl (Nat.le_of_ble_eq_true rfl) (Nat.zero_le _) (L_reasons_ok hR3 H3.1) ?_
                                    refine es_if_neB (pc := 398) 403 dL_law_398 (by decide) (fun c398 => ?_) (fun c398 => ?_)
                                    · refine es_iincN (pc := 403) 1 dL_law_403 ic_1 rfl (ok1_4 rfl) ?_
                                      dsimp only [List.set]
                                      refine es_goto (pc := 406) (tgt := 244) dL_law_406 (by decide) ?_
                                      exact ih244 _ (by omega) _ _ _ (k + 1) _ _ _ _ rfl hR3 H3 (by omega)
                                    · exact absurd c398 (by decide)
                          · refine es_aload_n (pc := 313) dL_law_313 rfl ?_
                            refine es_iload (pc := 314) dL_law_314 rfl ?_
                            refine es_iconstN (pc := 316) 4 dL_law_316 ic_4 ?_
                            refine es_ishr (pc := 317) dL_law_317 ?_
                            refine es_bipushN (pc := 318) 10 dL_law_318 bp_10 ?_
                            refine es_cs2_p (pc := 320) dL_law_320 mr_9_64 rfl rfl rfl (Nat.le_of_ble_eq_true rfl) (Nat.zero_le _) (L_low_ok) ?_
                            refine es_iload (pc := 323) dL_law_323 rfl ?_
                            refine es_bipushN (pc := 325) 8 dL_law_325 bp_8 ?_
                            refine es_ishr (pc := 327) dL_law_327 ?_
                            refine es_bipushN (pc := 328) 10 dL_law_328 bp_10 ?_
                            refine es_cs2_p (pc := 330) dL_law_330 mr_9_64 rfl rfl rfl (Nat.le_of_ble_eq_true rfl) (Nat.zero_le _) (L_low_ok) ?_
                            refine es_cv2_i (pc := 333) dL_law_333 mr_9_67 rfl rfl (by decide) (by decide) rfl (Nat.le_of_ble_eq_true rfl) (Nat.zero_le _) (O_height hR H.1 (ht := low_lt (by decide)) (hh := low_lt (by decide))) (fun x333 μ333 h333 => ?_)
                            obtain ⟨hx333, hR3⟩ := h333
                            have H3 := H.high (t := low (C (20 + k) >>> (nI 4 &&& 31)) 10) (h := low (C (20 + k) >>> (nI 8 &&& 31)) 10) (low_lt (by decide)) (low_lt (by decide))
                            refine es_if_lt (pc := 336) (tgt := 343) dL_law_336 (by decide) (fun c336 => ?_) (fun c336 => ?_)
                            · exact absurd (by rw [← hx333]; exact c336) (hi_0 H.1.1 (k := low (C (20 + k) >>> (nI 4 &&& 31)) 10) (low_lt (by decide)))
                            · refine es_iconstN (pc := 339) 1 dL_law_339 ic_1 ?_
                              refine es_goto (pc := 340) (tgt := 372) dL_law_340 (by decide) ?_
                              refine es_istore (pc := 372) dL_law_372 (ok1_8 rfl) ?_
                              dsimp only [List.set]
                              refine es_iload (pc := 374) dL_law_374 rfl ?_
                              refine es_if_eq (pc := 376) (tgt := 401) dL_law_376 (by decide) (fun c376 => ?_) (fun c376 => ?_)
                              · exact absurd c376 (by decide)
                              · refine es_aload_n (pc := 379) dL_law_379 rfl ?_
                                refine es_cs1_p (pc := 380) dL_law_380 mr_9_79 rfl rfl rfl (Nat.le_of_ble_eq_true rfl) (Nat.zero_le _) (L_towers_ok hR3 H3.1 H3.inv) ?_
                                refine es_if_eqB (pc := 383) 401 dL_law_383 (by decide) (fun c383 => ?_) (fun c383 => ?_)
                                · exact absurd c383 (by decide)
                                · refine es_iload (pc := 386) dL_law_386 rfl ?_
                                  refine es_iconstN (pc := 388) 4 dL_law_388 ic_4 ?_
                                  refine es_iremN (pc := 389) dL_law_389 (by omega) (by omega) (by omega) ?_
                                  refine es_iconstN (pc := 390) 3 dL_law_390 ic_3 ?_
                                  refine es_icmp_neN (pc := 391) 403 dL_law_391 (by decide) (by omega) (by omega) (fun c391 => ?_) (fun c391 => ?_)
                                  · refine es_iincN (pc := 403) 1 dL_law_403 ic_1 rfl (ok1_4 rfl) ?_
                                    dsimp only [List.set]
                                    refine es_goto (pc := 406) (tgt := 244) dL_law_406 (by decide) ?_
                                    exact ih244 _ (by omega) _ _ _ (k + 1) _ _ _ _ rfl hR3 H3 (by omega)
                                  · refine es_aload_n (pc := 394) dL_law_394 rfl ?_
                                    refine es_cs1_p (pc := 395) dL_law_395 mr_9_83 rfl rfl rfl (Nat.le_of_ble_eq_true rfl) (Nat.zero_le _) (L_reasons_ok hR3 H3.1) ?_
                                    refine es_if_neB (pc := 398) 403 dL_law_398 (by decide) (fun c398 => ?_) (fun c398 => ?_)
                                    · refine es_iincN (pc := 403) 1 dL_law_403 ic_1 rfl (ok1_4 rfl) ?_
                                      dsimp only [List.set]
                                      refine es_goto (pc := 406) (tgt := 244) dL_law_406 (by decide) ?_
                                      exact ih244 _ (by omega) _ _ _ (k + 1) _ _ _ _ rfl hR3 H3 (by omega)
                                    · exact absurd c398 (by decide)
                        · refine es_iconstN (pc := 299) 2 dL_law_299 ic_2 ?_
                          refine es_goto (pc := 300) (tgt := 304) dL_law_300 (by decide) ?_
                          refine es_istore (pc := 304) dL_law_304 (ok1_7 rfl) ?_
                          dsimp only [List.set]
                          refine es_iload (pc := 306) dL_law_306 rfl ?_
                          refine es_bipushN (pc := 308) 10 dL_law_308 bp_10 ?_
                          refine es_icmp_neN (pc := 310) 347 dL_law_310 (by decide) (by omega) (by omega) (fun c310 => ?_) (fun c310 => ?_)
                          · refine es_aload_n (pc := 347) dL_law_347 rfl ?_
                            refine es_iload (pc := 348) dL_law_348 rfl ?_
                            refine es_iload (pc := 350) dL_law_350 rfl ?_
                            refine es_iconstN (pc := 352) 4 dL_law_352 ic_4 ?_
                            refine es_ishr (pc := 353) dL_law_353 ?_
                            refine es_iload (pc := 354) dL_law_354 rfl ?_
                            refine es_iconstN (pc := 356) 3 dL_law_356 ic_3 ?_
                            refine es_icmp_neN (pc := 357) 364 dL_law_357 (by decide) (by omega) (by omega) (fun c357 => ?_) (fun c357 => ?_)
                            · refine es_bipushN (pc := 364) 10 dL_law_364 bp_10 ?_
                              refine es_cs2_p (pc := 366) dL_law_366 mr_9_64 rfl rfl rfl (Nat.le_of_ble_eq_true rfl) (Nat.zero_le _) (L_low_ok) ?_
                              refine es_cs3_i (pc := 369) dL_law_369 mr_9_76 rfl rfl rfl (Nat.le_of_ble_eq_true rfl) (Nat.zero_le _) (L_mv_2 hR H (ht := low_lt (by decide))) (fun x369 μ369 h369 => ?_)
                              obtain ⟨rfl, S3, hR3, H3⟩ := h369
                              refine es_istore (pc := 372) dL_law_372 (ok1_8 rfl) ?_
                              dsimp only [List.set]
                              refine es_iload (pc := 374) dL_law_374 rfl ?_
                              refine es_if_eqB (pc := 376) 401 dL_law_376 (by decide) (fun c376 => ?_) (fun c376 => ?_)
                              · exact absurd c376 (by decide)
                              · refine es_aload_n (pc := 379) dL_law_379 rfl ?_
                                refine es_cs1_p (pc := 380) dL_law_380 mr_9_79 rfl rfl rfl (Nat.le_of_ble_eq_true rfl) (Nat.zero_le _) (L_towers_ok hR3 H3.1 H3.inv) ?_
                                refine es_if_eqB (pc := 383) 401 dL_law_383 (by decide) (fun c383 => ?_) (fun c383 => ?_)
                                · exact absurd c383 (by decide)
                                · refine es_iload (pc := 386) dL_law_386 rfl ?_
                                  refine es_iconstN (pc := 388) 4 dL_law_388 ic_4 ?_
                                  refine es_iremN (pc := 389) dL_law_389 (by omega) (by omega) (by omega) ?_
                                  refine es_iconstN (pc := 390) 3 dL_law_390 ic_3 ?_
                                  refine es_icmp_neN (pc := 391) 403 dL_law_391 (by decide) (by omega) (by omega) (fun c391 => ?_) (fun c391 => ?_)
                                  · refine es_iincN (pc := 403) 1 dL_law_403 ic_1 rfl (ok1_4 rfl) ?_
                                    dsimp only [List.set]
                                    refine es_goto (pc := 406) (tgt := 244) dL_law_406 (by decide) ?_
                                    exact ih244 _ (by omega) _ _ _ (k + 1) _ _ _ _ rfl hR3 H3 (by omega)
                                  · refine es_aload_n (pc := 394) dL_law_394 rfl ?_
                                    refine es_cs1_p (pc := 395) dL_law_395 mr_9_83 rfl rfl rfl (Nat.le_of_ble_eq_true rfl) (Nat.zero_le _) (L_reasons_ok hR3 H3.1) ?_
                                    refine es_if_neB (pc := 398) 403 dL_law_398 (by decide) (fun c398 => ?_) (fun c398 => ?_)
                                    · refine es_iincN (pc := 403) 1 dL_law_403 ic_1 rfl (ok1_4 rfl) ?_
                                      dsimp only [List.set]
                                      refine es_goto (pc := 406) (tgt := 244) dL_law_406 (by decide) ?_
                                      exact ih244 _ (by omega) _ _ _ (k + 1) _ _ _ _ rfl hR3 H3 (by omega)
                                    · exact absurd c398 (by decide)
                            · exact absurd c357 (by decide)
                          · exact absurd c310 (by omega)
                      · refine es_iconstN (pc := 288) 1 dL_law_288 ic_1 ?_
                        refine es_goto (pc := 289) (tgt := 304) dL_law_289 (by decide) ?_
                        refine es_istore (pc := 304) dL_law_304 (ok1_7 rfl) ?_
                        dsimp only [List.set]
                        refine es_iload (pc := 306) dL_law_306 rfl ?_
                        refine es_bipushN (pc := 308) 10 dL_law_308 bp_10 ?_
                        refine es_icmp_neN (pc := 310) 347 dL_law_310 (by decide) (by omega) (by omega) (fun c310 => ?_) (fun c310 => ?_)
                        · refine es_aload_n (pc := 347) dL_law_347 rfl ?_
                          refine es_iload (pc := 348) dL_law_348 rfl ?_
                          refine es_iload (pc := 350) dL_law_350 rfl ?_
                          refine es_iconstN (pc := 352) 4 dL_law_352 ic_4 ?_
                          refine es_ishr (pc := 353) dL_law_353 ?_
                          refine es_iload (pc := 354) dL_law_354 rfl ?_
                          refine es_iconstN (pc := 356) 3 dL_law_356 ic_3 ?_
                          refine es_icmp_neN (pc := 357) 364 dL_law_357 (by decide) (by omega) (by omega) (fun c357 => ?_) (fun c357 => ?_)
                          · refine es_bipushN (pc := 364) 10 dL_law_364 bp_10 ?_
                            refine es_cs2_p (pc := 366) dL_law_366 mr_9_64 rfl rfl rfl (Nat.le_of_ble_eq_true rfl) (Nat.zero_le _) (L_low_ok) ?_
                            refine es_cs3_i (pc := 369) dL_law_369 mr_9_76 rfl rfl rfl (Nat.le_of_ble_eq_true rfl) (Nat.zero_le _) (L_mv_1 hR H (ht := low_lt (by decide))) (fun x369 μ369 h369 => ?_)
                            obtain ⟨rfl, S3, hR3, H3⟩ := h369
                            refine es_istore (pc := 372) dL_law_372 (ok1_8 rfl) ?_
                            dsimp only [List.set]
                            refine es_iload (pc := 374) dL_law_374 rfl ?_
                            refine es_if_eqB (pc := 376) 401 dL_law_376 (by decide) (fun c376 => ?_) (fun c376 => ?_)
                            · exact absurd c376 (by decide)
                            · refine es_aload_n (pc := 379) dL_law_379 rfl ?_
                              refine es_cs1_p (pc := 380) dL_law_380 mr_9_79 rfl rfl rfl (Nat.le_of_ble_eq_true rfl) (Nat.zero_le _) (L_towers_ok hR3 H3.1 H3.inv) ?_
                              refine es_if_eqB (pc := 383) 401 dL_law_383 (by decide) (fun c383 => ?_) (fun c383 => ?_)
                              · exact absurd c383 (by decide)
                              · refine es_iload (pc := 386) dL_law_386 rfl ?_
                                refine es_iconstN (pc := 388) 4 dL_law_388 ic_4 ?_
                                refine es_iremN (pc := 389) dL_law_389 (by omega) (by omega) (by omega) ?_
                                refine es_iconstN (pc := 390) 3 dL_law_390 ic_3 ?_
                                refine es_icmp_neN (pc := 391) 403 dL_law_391 (by decide) (by omega) (by omega) (fun c391 => ?_) (fun c391 => ?_)
                                · refine es_iincN (pc := 403) 1 dL_law_403 ic_1 rfl (ok1_4 rfl) ?_
                                  dsimp only [List.set]
                                  refine es_goto (pc := 406) (tgt := 244) dL_law_406 (by decide) ?_
                                  exact ih244 _ (by omega) _ _ _ (k + 1) _ _ _ _ rfl hR3 H3 (by omega)
                                · refine es_aload_n (pc := 394) dL_law_394 rfl ?_
                                  refine es_cs1_p (pc := 395) dL_law_395 mr_9_83 rfl rfl rfl (Nat.le_of_ble_eq_true rfl) (Nat.zero_le _) (L_reasons_ok hR3 H3.1) ?_
                                  refine es_if_neB (pc := 398) 403 dL_law_398 (by decide) (fun c398 => ?_) (fun c398 => ?_)
                                  · refine es_iincN (pc := 403) 1 dL_law_403 ic_1 rfl (ok1_4 rfl) ?_
                                    dsimp only [List.set]
                                    refine es_goto (pc := 406) (tgt := 244) dL_law_406 (by decide) ?_
                                    exact ih244 _ (by omega) _ _ _ (k + 1) _ _ _ _ rfl hR3 H3 (by omega)
                                  · exact absurd c398 (by decide)
                          · exact absurd c357 (by decide)
                        · exact absurd c310 (by omega)
                    · refine es_iconstN (pc := 277) 0 dL_law_277 ic_0 ?_
                      refine es_goto (pc := 278) (tgt := 304) dL_law_278 (by decide) ?_
                      refine es_istore (pc := 304) dL_law_304 (ok1_7 rfl) ?_
                      dsimp only [List.set]
                      refine es_iload (pc := 306) dL_law_306 rfl ?_
                      refine es_bipushN (pc := 308) 10 dL_law_308 bp_10 ?_
                      refine es_icmp_neN (pc := 310) 347 dL_law_310 (by decide) (by omega) (by omega) (fun c310 => ?_) (fun c310 => ?_)
                      · refine es_aload_n (pc := 347) dL_law_347 rfl ?_
                        refine es_iload (pc := 348) dL_law_348 rfl ?_
                        refine es_iload (pc := 350) dL_law_350 rfl ?_
                        refine es_iconstN (pc := 352) 4 dL_law_352 ic_4 ?_
                        refine es_ishr (pc := 353) dL_law_353 ?_
                        refine es_iload (pc := 354) dL_law_354 rfl ?_
                        refine es_iconstN (pc := 356) 3 dL_law_356 ic_3 ?_
                        refine es_icmp_neN (pc := 357) 364 dL_law_357 (by decide) (by omega) (by omega) (fun c357 => ?_) (fun c357 => ?_)
                        · refine es_bipushN (pc := 364) 10 dL_law_364 bp_10 ?_
                          refine es_cs2_p (pc := 366) dL_law_366 mr_9_64 rfl rfl rfl (Nat.le_of_ble_eq_true rfl) (Nat.zero_le _) (L_low_ok) ?_
                          refine es_cs3_i (pc := 369) dL_law_369 mr_9_76 rfl rfl rfl (Nat.le_of_ble_eq_true rfl) (Nat.zero_le _) (L_mv_0 hR H (ht := low_lt (by decide))) (fun x369 μ369 h369 => ?_)
                          obtain ⟨rfl, S3, hR3, H3⟩ := h369
                          refine es_istore (pc := 372) dL_law_372 (ok1_8 rfl) ?_
                          dsimp only [List.set]
                          refine es_iload (pc := 374) dL_law_374 rfl ?_
                          refine es_if_eqB (pc := 376) 401 dL_law_376 (by decide) (fun c376 => ?_) (fun c376 => ?_)
                          · exact absurd c376 (by decide)
                          · refine es_aload_n (pc := 379) dL_law_379 rfl ?_
                            refine es_cs1_p (pc := 380) dL_law_380 mr_9_79 rfl rfl rfl (Nat.le_of_ble_eq_true rfl) (Nat.zero_le _) (L_towers_ok hR3 H3.1 H3.inv) ?_
                            refine es_if_eqB (pc := 383) 401 dL_law_383 (by decide) (fun c383 => ?_) (fun c383 => ?_)
                            · exact absurd c383 (by decide)
                            · refine es_iload (pc := 386) dL_law_386 rfl ?_
                              refine es_iconstN (pc := 388) 4 dL_law_388 ic_4 ?_
                              refine es_iremN (pc := 389) dL_law_389 (by omega) (by omega) (by omega) ?_
                              refine es_iconstN (pc := 390) 3 dL_law_390 ic_3 ?_
                              refine es_icmp_neN (pc := 391) 403 dL_law_391 (by decide) (by omega) (by omega) (fun c391 => ?_) (fun c391 => ?_)
                              · refine es_iincN (pc := 403) 1 dL_law_403 ic_1 rfl (ok1_4 rfl) ?_
                                dsimp only [List.set]
                                refine es_goto (pc := 406) (tgt := 244) dL_law_406 (by decide) ?_
                                exact ih244 _ (by omega) _ _ _ (k + 1) _ _ _ _ rfl hR3 H3 (by omega)
                              · refine es_aload_n (pc := 394) dL_law_394 rfl ?_
                                refine es_cs1_p (pc := 395) dL_law_395 mr_9_83 rfl rfl rfl (Nat.le_of_ble_eq_true rfl) (Nat.zero_le _) (L_reasons_ok hR3 H3.1) ?_
                                refine es_if_neB (pc := 398) 403 dL_law_398 (by decide) (fun c398 => ?_) (fun c398 => ?_)
                                · refine es_iincN (pc := 403) 1 dL_law_403 ic_1 rfl (ok1_4 rfl) ?_
                                  dsimp only [List.set]
                                  refine es_goto (pc := 406) (tgt := 244) dL_law_406 (by decide) ?_
                                  exact ih244 _ (by omega) _ _ _ (k + 1) _ _ _ _ rfl hR3 H3 (by omega)
                                · exact absurd c398 (by decide)
                        · exact absurd c357 (by decide)
                      · exact absurd c310 (by omega)
              refine es_iconstN (pc := 241) 0 dL_law_241 ic_0 ?_
              refine es_istore (pc := 242) dL_law_242 (ok1_4 rfl) ?_
              dsimp only [List.set]
              exact hl244 _ _ _ _ 0 _ _ _ _ rfl hR (by have h9 := h1.hs (by omega); rw [show p = n by omega] at h9; exact h9) (by omega)
            · refine es_aload_n (pc := 136) dL_law_136 rfl ?_
              refine es_bipushN (pc := 137) 15 dL_law_137 bp_15 ?_
              refine es_iload (pc := 139) dL_law_139 rfl ?_
              refine es_iaddN (pc := 141) dL_law_141 ?_
              refine es_cellc (pc := 142) dL_law_142 mr_9_60 (List.cons_ne_nil _ _) (by omega) (Nat.le_of_ble_eq_true rfl) ?_
              rw [← hC]
              refine es_iconstN (pc := 145) 4 dL_law_145 ic_4 ?_
              refine es_ishr (pc := 146) dL_law_146 ?_
              refine es_sipushN (pc := 147) 201 dL_law_147 sp_201 ?_
              refine es_cs2_p (pc := 150) dL_law_150 mr_9_64 rfl rfl rfl (Nat.le_of_ble_eq_true rfl) (Nat.zero_le _) (L_low_ok) ?_
              refine es_istore (pc := 153) dL_law_153 (ok1_5 rfl) ?_
              dsimp only [List.set]
              refine es_iload_n (pc := 155) dL_law_155 rfl ?_
              refine es_iload (pc := 156) dL_law_156 rfl ?_
              refine es_iaddN (pc := 158) dL_law_158 ?_
              refine es_istore_n (pc := 159) dL_law_159 (ok1_3 rfl) ?_
              dsimp only [List.set]
              refine es_aload_n (pc := 160) dL_law_160 rfl ?_
              refine es_aload_n (pc := 161) dL_law_161 rfl ?_
              refine es_bipushN (pc := 162) 15 dL_law_162 bp_15 ?_
              refine es_iload (pc := 164) dL_law_164 rfl ?_
              refine es_iaddN (pc := 166) dL_law_166 ?_
              refine es_cellc (pc := 167) dL_law_167 mr_9_60 (List.cons_ne_nil _ _) (by omega) (Nat.le_of_ble_eq_true rfl) ?_
              rw [← hC]
              refine es_bipushN (pc := 170) 10 dL_law_170 bp_10 ?_
              refine es_cs2_p (pc := 172) dL_law_172 mr_9_64 rfl rfl rfl (Nat.le_of_ble_eq_true rfl) (Nat.zero_le _) (L_low_ok) ?_
              refine es_iload (pc := 175) dL_law_175 rfl ?_
              refine es_cv2_i (pc := 177) dL_law_177 mr_9_73 rfl rfl (by decide) (by decide) rfl (Nat.le_of_ble_eq_true rfl) (Nat.zero_le _) (O_player hR h1.1 (by rw [h1.2.1]; omega) (low_lt (by decide)) (low_lt (by decide))) (fun x177 μ177 h177 => ?_)
              obtain ⟨hx177, hR⟩ := h177
              obtain ⟨h2, ha, hb⟩ := h1.add (t := low (C (15 + p)) 10) (v := low (C (15 + p) >>> (nI 4 &&& 31)) 201) (by omega) (low_lt (by decide)) (low_lt (by decide))
              have hP2 := h2.2.1
              have hPx := h1.2.1
              refine es_iload (pc := 180) dL_law_180 rfl ?_
              refine es_icmp_ne (pc := 182) (tgt := 233) dL_law_182 (by decide) (fun c182 => ?_) (fun c182 => ?_)
              · exact absurd (hx177.trans (by rw [hPx])) c182
              · refine es_aload_n (pc := 185) dL_law_185 rfl ?_
                refine es_iload (pc := 186) dL_law_186 rfl ?_
                refine es_iconstN (pc := 188) 1 dL_law_188 ic_1 ?_
                refine es_cv2_p (pc := 189) dL_law_189 mr_9_31 rfl rfl (by decide) (by decide) rfl (Nat.le_of_ble_eq_true rfl) (Nat.zero_le _) (G_playerOf hR h2.1 (hp := by omega)) ?_
                refine es_iload (pc := 192) dL_law_192 rfl ?_
                refine es_icmp_ne (pc := 194) (tgt := 233) dL_law_194 (by decide) (fun c194 => ?_) (fun c194 => ?_)
                · exact absurd ha c194
                · refine es_aload_n (pc := 197) dL_law_197 rfl ?_
                  refine es_iload (pc := 198) dL_law_198 rfl ?_
                  refine es_iconstN (pc := 200) 2 dL_law_200 ic_2 ?_
                  refine es_cv2_p (pc := 201) dL_law_201 mr_9_31 rfl rfl (by decide) (by decide) rfl (Nat.le_of_ble_eq_true rfl) (Nat.zero_le _) (G_playerOf hR h2.1 (hp := by omega)) ?_
                  refine es_if_ne (pc := 204) (tgt := 233) dL_law_204 (by decide) (fun c204 => ?_) (fun c204 => ?_)
                  · exact absurd (hb.trans nI_0) c204
                  · refine es_aload_n (pc := 207) dL_law_207 rfl ?_
                    refine es_iconstN (pc := 208) 1 dL_law_208 ic_1 ?_
                    refine es_cv1_p (pc := 209) dL_law_209 mr_9_24 rfl rfl (by decide) (by decide) rfl (Nat.le_of_ble_eq_true rfl) (Nat.zero_le _) (C_1 hR h2.1) ?_
                    refine es_if_ne (pc := 212) (tgt := 233) dL_law_212 (by decide) (fun c212 => ?_) (fun c212 => ?_)
                    · exact absurd (((wf_n h2.1.1).2.2.2.symm.trans h2.2.2.2.2.1).trans nI_0) c212
                    · refine es_aload_n (pc := 215) dL_law_215 rfl ?_
                      refine es_iconstN (pc := 216) 2 dL_law_216 ic_2 ?_
                      refine es_cv1_p (pc := 217) dL_law_217 mr_9_24 rfl rfl (by decide) (by decide) rfl (Nat.le_of_ble_eq_true rfl) (Nat.zero_le _) (C_2 hR h2.1) ?_
                      refine es_if_ne (pc := 220) (tgt := 233) dL_law_220 (by decide) (fun c220 => ?_) (fun c220 => ?_)
                      · exact absurd (((wf_n h2.1.1).2.1.symm.trans h2.2.2.2.2.2.1).trans nI_0) c220
                      · refine es_aload_n (pc := 223) dL_law_223 rfl ?_
                        refine es_bipushN (pc := 224) 9 dL_law_224 bp_9 ?_
                        refine es_cv1_p (pc := 226) dL_law_226 mr_9_24 rfl rfl (by decide) (by decide) rfl (Nat.le_of_ble_eq_true rfl) (Nat.zero_le _) (G_count hR h2.1) ?_
                        refine es_iload_n (pc := 229) dL_law_229 rfl ?_
                        refine es_icmp_eq (pc := 230) (tgt := 235) dL_law_230 (by decide) (fun c230 => ?_) (fun c230 => ?_)
                        · refine es_iincN (pc := 235) 1 dL_law_235 ic_1 rfl (ok1_4 rfl) ?_
                          dsimp only [List.set]
                          refine es_goto (pc := 238) (tgt := 130) dL_law_238 (by decide) ?_
                          exact ih130 _ (by omega) _ _ _ (p + 1) _ rfl hR h2 (by omega)
                        · exact absurd h2.2.2.2.2.2.2 c230
        refine es_iconstN (pc := 125) 0 dL_law_125 ic_0 ?_
        refine es_istore_n (pc := 126) dL_law_126 (ok1_3 rfl) ?_
        dsimp only [List.set]
        refine es_iconstN (pc := 127) 0 dL_law_127 ic_0 ?_
        refine es_istore (pc := 128) dL_law_128 (ok1_4 rfl) ?_
        dsimp only [List.set]
        exact hl130 _ _ _ 0 0 _ rfl hR h1 (by omega)
      · refine es_aload_n (pc := 28) dL_law_28 rfl ?_
        refine es_iload_n (pc := 29) dL_law_29 rfl ?_
        refine es_aload_n (pc := 30) dL_law_30 rfl ?_
        refine es_iconstN (pc := 31) 1 dL_law_31 ic_1 ?_
        refine es_iload_n (pc := 32) dL_law_32 rfl ?_
        refine es_iaddN (pc := 33) dL_law_33 ?_
        refine es_cellc (pc := 34) dL_law_34 mr_9_60 (List.cons_ne_nil _ _) (by omega) (Nat.le_of_ble_eq_true rfl) ?_
        rw [← hC]
        refine es_bipushN (pc := 37) 10 dL_law_37 bp_10 ?_
        refine es_cs2_p (pc := 39) dL_law_39 mr_9_64 rfl rfl rfl (Nat.le_of_ble_eq_true rfl) (Nat.zero_le _) (L_low_ok) ?_
        refine es_cv2_i (pc := 42) dL_law_42 mr_9_67 rfl rfl (by decide) (by decide) rfl (Nat.le_of_ble_eq_true rfl) (Nat.zero_le _) (O_height hR h1.1 (hh := low_lt (by decide))) (fun x42 μ42 h42 => ?_)
        obtain ⟨hx42, hR42⟩ := h42
        have h142 := h1.high (t := t) (v := low (C (1 + t)) 10) (by omega) (low_lt (by decide))
        refine es_if_eq (pc := 45) (tgt := 50) dL_law_45 (by decide) (fun c45 => ?_) (fun c45 => ?_)
        · refine es_iincN (pc := 50) 1 dL_law_50 ic_1 rfl (ok1_3 rfl) ?_
          dsimp only [List.set]
          refine es_goto (pc := 53) (tgt := 22) dL_law_53 (by decide) ?_
          exact ih22 _ (by omega) _ _ (t + 1) rfl hR42 h142 (fun k hk1 hk2 => (upd_ne (by omega)).trans (hz k (by omega) hk2)) (by omega)
        · exact absurd (hx42.trans ((hz t (Nat.le_refl _) (by omega)).trans nI_0)) c45
  refine es_iconstN (pc := 20) 0 dL_law_20 ic_0 ?_
  refine es_istore_n (pc := 21) dL_law_21 (ok1_3 rfl) ?_
  dsimp only [List.set]
  exact hl22 _ μ S 0 rfl hR h1 (fun k _ hk => hz k hk) (by omega)
