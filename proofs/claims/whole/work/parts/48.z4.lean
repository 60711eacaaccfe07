set_option maxHeartbeats 2000000 in
set_option maxRecDepth 20000 in
theorem Jx_isNaN_ok {d : Nat} {μ : ev_M} {a : UInt64} (h : FP.Core.val64 a ≠ .nan) (hd : 1 ≤ d := by omega) : ev_CALL d 171 [.double a] μ (some (.int (bI false)), 0) μ := by
  obtain ⟨d, rfl⟩ : ∃ q, d = q + 1 := ⟨d - 1, by omega⟩
  refine SPp.of (Nat.le_of_ble_eq_true rfl) ?_
  show es (ev_CALL d) 8 cJxe99ae_isNaN_b9ae7 (some .boolean) 0 (0, fun _ => 0, []) (fun r μ2 => r = (some (.int (bI false)), 0) ∧ μ2 = μ) 0 [.double a, .null] [] μ 0
  have hc : Op.cmpValue (FP.dcmp a a) .l = 0 := by
    rw [show FP.dcmp a a = FP.Core.dcmp a a from rfl, FP.Core.dcmp_refl ((FP.Core.notNaN_iff a).mpr h)]
    rfl
  refine es_dload_n (pc := 0) dJxe99ae_isNaN_b9ae7_0 rfl ?_
  refine es_dload_n (pc := 1) dJxe99ae_isNaN_b9ae7_1 rfl ?_
  refine es_dcmp (pc := 2) dJxe99ae_isNaN_b9ae7_2 ?_
  refine es_if_eq (pc := 3) (tgt := 10) dJxe99ae_isNaN_b9ae7_3 (by decide) (fun c3 => ?_) (fun c3 => ?_)
  · refine es_iconstN (pc := 10) 0 dJxe99ae_isNaN_b9ae7_10 ic_0 ?_
    refine es_ireturn (pc := 11) dJxe99ae_isNaN_b9ae7_11 rfl (rfl) (by decide) ?_
    exact ⟨rfl, rfl⟩
  · exact absurd hc c3
set_option maxHeartbeats 2000000 in
set_option maxRecDepth 20000 in
theorem Jx_bits_ok {d : Nat} {μ : ev_M} {a : UInt64} (h : FP.Core.val64 a ≠ .nan) (hd : 2 ≤ d := by omega) : ev_CALL d 170 [.double a] μ (some (.long (a.toInt64)), 0) μ := by
  obtain ⟨d, rfl⟩ : ∃ q, d = q + 1 := ⟨d - 1, by omega⟩
  refine SPp.of (Nat.le_of_ble_eq_true rfl) ?_
  show es (ev_CALL d) 8 cJxe99ae_doubleToLongBits_ccdee (some .long) 0 (0, fun _ => 0, []) (fun r μ2 => r = (some (.long (a.toInt64)), 0) ∧ μ2 = μ) 0 [.double a, .null] [] μ 0
  refine es_dload_n (pc := 0) dJxe99ae_doubleToLongBits_ccdee_0 rfl ?_
  refine es_cs1_p (pc := 1) dJxe99ae_doubleToLongBits_ccdee_1 mr_8_122 rfl rfl rfl (Nat.le_of_ble_eq_true rfl) (Nat.zero_le _) (Jx_isNaN_ok h) ?_
  refine es_if_neB (pc := 4) 12 dJxe99ae_doubleToLongBits_ccdee_4 (by decide) (fun c4 => ?_) (fun c4 => ?_)
  · exact absurd c4 (by decide)
  · refine es_dload_n (pc := 7) dJxe99ae_doubleToLongBits_ccdee_7 rfl ?_
    refine es_rawl (pc := 8) dJxe99ae_doubleToLongBits_ccdee_8 mr_8_134 (Nat.le_of_ble_eq_true rfl) ?_
    refine es_lreturn (pc := 11) dJxe99ae_doubleToLongBits_ccdee_11 rfl (by decide) ?_
    exact ⟨rfl, rfl⟩
set_option maxHeartbeats 2000000 in
set_option maxRecDepth 20000 in
theorem X6_digest_ok {d : Nat} {μ : ev_M} {S : gS} (hR : RepM μ S) (hW : WFS S) (hd : 9 ≤ d := by omega) : SPl (ev_CALL d) 169 [.ref 14] μ (fun x μ2 => x = dgS S ∧ RepM μ2 S ∧ FrM μ μ2) := by
  obtain ⟨d, rfl⟩ : ∃ q, d = q + 1 := ⟨d - 1, by omega⟩
  refine SPl.of (Nat.le_of_ble_eq_true rfl) ?_
  show es (ev_CALL d) 6 cX6_digest (some .long) 0 (0, fun _ => 0, []) (fun r μ2 => ∃ x9 : Int64, r = (some (.long x9), 0) ∧ (fun x μ2 => x = dgS S ∧ RepM μ2 S ∧ FrM μ μ2) x9 μ2) 0 [.ref 14, .null, .null, .null, .null] [] μ 0
  have hR0 := hR.t (x := nI 0)
  have hm6 := hR.m
  obtain ⟨wP, wP4, -⟩ := WM.of (r := S.1) hR.g hW.1
  refine es_aload_n (pc := 0) dX6_digest_0 rfl ?_
  refine es_iconstN (pc := 1) 0 dX6_digest_1 ic_0 ?_
  refine es_putI (pc := 2) dX6_digest_2 fr_6_35 fld_14_8 ?_
  refine es_ldc2 (pc := 5) dX6_digest_5 cl_6_201 ?_
  refine es_lstore_n (pc := 8) dX6_digest_8 (ok2_1 rfl) ?_
  have hl11 : ∀ (n9 : Nat) (ga : Int64) (ka : Nat) (j : Value), n9 = 11 - ka → (ka ≤ 11) → (ga = dgl (sNum S) ka 3229) → es (ev_CALL d) 6 cX6_digest (some .long) 0 (0, fun _ => 0, []) (fun r μ2 => ∃ x9 : Int64, r = (some (.long x9), 0) ∧ (fun x μ2 => x = dgS S ∧ RepM μ2 S ∧ FrM μ μ2) x9 μ2) 11 [.ref 14, .long ga, .null, .int (nI ka), j] [] (ev_ms μ 14 8 (nI 0)) 0 := by
    intro n9
    induction n9 using Nat.strongRecOn with
    | ind n9 ih11 =>
      intro ga ka j hn9 hka hga
      subst hn9
      have ih := ih11
      refine es_iload_n (pc := 11) dX6_digest_11 rfl ?_
      refine es_bipushN (pc := 12) 10 dX6_digest_12 bp_10 ?_
      refine es_icmp_gtN (pc := 14) 36 dX6_digest_14 (by decide) (by omega) (by omega) (fun c14 => ?_) (fun c14 => ?_)
      · have hl38 : ∀ (n9 : Nat) (gb : Int64) (kb : Nat) (j : Value), n9 = 4 - kb → (kb ≤ 4) → (gb = dgl S.1 kb (dgl (sNum S) 11 3229)) → es (ev_CALL d) 6 cX6_digest (some .long) 0 (0, fun _ => 0, []) (fun r μ2 => ∃ x9 : Int64, r = (some (.long x9), 0) ∧ (fun x μ2 => x = dgS S ∧ RepM μ2 S ∧ FrM μ μ2) x9 μ2) 38 [.ref 14, .long gb, .null, .int (nI kb), j] [] (ev_ms μ 14 8 (nI 0)) 0 := by
          intro n9
          induction n9 using Nat.strongRecOn with
          | ind n9 ih38 =>
            intro gb kb j hn9 hkb hgb
            subst hn9
            have ih := ih38
            refine es_iload_n (pc := 38) dX6_digest_38 rfl ?_
            refine es_iconstN (pc := 39) 4 dX6_digest_39 ic_4 ?_
            refine es_icmp_geN (pc := 40) 63 dX6_digest_40 (by decide) (by omega) (by omega) (fun c40 => ?_) (fun c40 => ?_)
            · have hl65 : ∀ (n9 : Nat) (νt : ev_M) (gt : Int64) (kt : Nat) (j : Value), n9 = 10 - kt → (RepM νt S) → (FrM μ νt) → (kt ≤ 10) → (gt = dgT S.1 kt (dgl S.1 4 (dgl (sNum S) 11 3229))) → es (ev_CALL d) 6 cX6_digest (some .long) 0 (0, fun _ => 0, []) (fun r μ2 => ∃ x9 : Int64, r = (some (.long x9), 0) ∧ (fun x μ2 => x = dgS S ∧ RepM μ2 S ∧ FrM μ μ2) x9 μ2) 65 [.ref 14, .long gt, .null, .int (nI kt), j] [] νt 0 := by
                intro n9
                induction n9 using Nat.strongRecOn with
                | ind n9 ih65 =>
                  intro νt gt kt j hn9 hRt hft hkt hgt
                  subst hn9
                  have ih := ih65
                  refine es_iload_n (pc := 65) dX6_digest_65 rfl ?_
                  refine es_bipushN (pc := 66) 10 dX6_digest_66 bp_10 ?_
                  refine es_icmp_geN (pc := 68) 135 dX6_digest_68 (by decide) (by omega) (by omega) (fun c68 => ?_) (fun c68 => ?_)
                  · have hl137 : ∀ (n9 : Nat) (νp : ev_M) (gp : Int64) (kp : Nat) (j : Value), n9 = rP S.1 - kp → (RepM νp S) → (FrM μ νp) → (kp ≤ rP S.1) → (gp = dgP S.1 kp (dgT S.1 10 (dgl S.1 4 (dgl (sNum S) 11 3229)))) → es (ev_CALL d) 6 cX6_digest (some .long) 0 (0, fun _ => 0, []) (fun r μ2 => ∃ x9 : Int64, r = (some (.long x9), 0) ∧ (fun x μ2 => x = dgS S ∧ RepM μ2 S ∧ FrM μ μ2) x9 μ2) 137 [.ref 14, .long gp, .null, .int (nI kp), j] [] νp 0 := by
                      intro n9
                      induction n9 using Nat.strongRecOn with
                      | ind n9 ih137 =>
                        intro νp gp kp j hn9 hRp hfp hkp hgp
                        subst hn9
                        have ih := ih137
                        obtain ⟨zP, -⟩ := WM.of (r := S.1) hRp.g hW.1
                        refine es_iload_n (pc := 137) dX6_digest_137 rfl ?_
                        refine es_aload_n (pc := 138) dX6_digest_138 rfl ?_
                        refine es_getR (pc := 139) dX6_digest_139 fr_6_7 fld_14_0 ?_
                        refine es_iconstN (pc := 142) 4 dX6_digest_142 ic_4 ?_
                        refine es_iald (pc := 143) dX6_digest_143 lay_15 (by omega) ?_
                        refine es_top (zP) ?_
                        refine es_icmp_geN (pc := 144) 230 dX6_digest_144 (by decide) (by omega) (by omega) (fun c144 => ?_) (fun c144 => ?_)
                        · refine es_ldc2 (pc := 230) dX6_digest_230 cl_6_203 ?_
                          refine es_lload_n (pc := 233) dX6_digest_233 rfl ?_
                          refine es_lmul (pc := 234) dX6_digest_234 ?_
                          refine es_aload_n (pc := 235) dX6_digest_235 rfl ?_
                          refine es_cv0_p (pc := 236) dX6_digest_236 mr_6_188 rfl rfl (by decide) (by decide) rfl (Nat.le_of_ble_eq_true rfl) (Nat.zero_le _) (X6_huntable_ok (R := S.1) hRp.g hW.1) ?_
                          refine es_i2l (pc := 239) dX6_digest_239 ?_
                          refine es_ladd (pc := 240) dX6_digest_240 ?_
                          refine es_lstore_n (pc := 241) dX6_digest_241 (ok2_1 rfl) ?_
                          refine es_ldc2 (pc := 242) dX6_digest_242 cl_6_203 ?_
                          refine es_lload_n (pc := 245) dX6_digest_245 rfl ?_
                          refine es_lmul (pc := 246) dX6_digest_246 ?_
                          refine es_aload_n (pc := 247) dX6_digest_247 rfl ?_
                          refine es_cv0_p (pc := 248) dX6_digest_248 mr_6_194 rfl rfl (by decide) (by decide) rfl (Nat.le_of_ble_eq_true rfl) (Nat.zero_le _) (X6_widest_ok (R := S.1) hRp.g hW.1) ?_
                          refine es_i2l (pc := 251) dX6_digest_251 ?_
                          refine es_ladd (pc := 252) dX6_digest_252 ?_
                          refine es_lstore_n (pc := 253) dX6_digest_253 (ok2_1 rfl) ?_
                          refine es_ldc2 (pc := 254) dX6_digest_254 cl_6_203 ?_
                          refine es_lload_n (pc := 257) dX6_digest_257 rfl ?_
                          refine es_lmul (pc := 258) dX6_digest_258 ?_
                          refine es_aload_n (pc := 259) dX6_digest_259 rfl ?_
                          refine es_cv0_p (pc := 260) dX6_digest_260 mr_6_197 rfl rfl (by decide) (by decide) rfl (Nat.le_of_ble_eq_true rfl) (Nat.zero_le _) (X6_share_ok (R := S.1) hRp.g hW.1 (sh_cs hW.1).1 (sh_cs hW.1).2.1) ?_
                          refine es_cs1_p (pc := 263) dX6_digest_263 mr_6_205 rfl rfl rfl (Nat.le_of_ble_eq_true rfl) (Nat.zero_le _) (Jx_bits_ok (sh_nan hW.1)) ?_
                          refine es_ladd (pc := 266) dX6_digest_266 ?_
                          refine es_lstore_n (pc := 267) dX6_digest_267 (ok2_1 rfl) ?_
                          have hl270 : ∀ (n9 : Nat) (gd : Int64) (kd : Nat) (j : Value), n9 = 2 - kd → (kd ≤ 2) → (gd = dgl (fun s => bI (S.2.2.1.1 s)) kd (31 * dgh (dgh (dgP S.1 (rP S.1) (dgT S.1 10 (dgl S.1 4 (dgl (sNum S) 11 3229)))) (rPrey S.1)) (nI (rLook S.1)) + (rShare S.1).toInt64)) → es (ev_CALL d) 6 cX6_digest (some .long) 0 (0, fun _ => 0, []) (fun r μ2 => ∃ x9 : Int64, r = (some (.long x9), 0) ∧ (fun x μ2 => x = dgS S ∧ RepM μ2 S ∧ FrM μ μ2) x9 μ2) 270 [.ref 14, .long gd, .null, .int (nI kd), j] [] νp 0 := by
                            intro n9
                            induction n9 using Nat.strongRecOn with
                            | ind n9 ih270 =>
                              intro gd kd j hn9 hkd hgd
                              subst hn9
                              have ih := ih270
                              refine es_iload_n (pc := 270) dX6_digest_270 rfl ?_
                              refine es_iconstN (pc := 271) 2 dX6_digest_271 ic_2 ?_
                              refine es_icmp_geN (pc := 272) 303 dX6_digest_272 (by decide) (by omega) (by omega) (fun c272 => ?_) (fun c272 => ?_)
                              · refine es_ldc2 (pc := 303) dX6_digest_303 cl_6_203 ?_
                                refine es_lload_n (pc := 306) dX6_digest_306 rfl ?_
                                refine es_lmul (pc := 307) dX6_digest_307 ?_
                                refine es_aload_n (pc := 308) dX6_digest_308 rfl ?_
                                refine es_getI (pc := 309) dX6_digest_309 fr_6_132 fld_14_7 ?_
                                refine es_top hRp.l ?_
                                refine es_i2l (pc := 312) dX6_digest_312 ?_
                                refine es_ladd (pc := 313) dX6_digest_313 ?_
                                refine es_lstore_n (pc := 314) dX6_digest_314 (ok2_1 rfl) ?_
                                have hl317 : ∀ (n9 : Nat) (ge : Int64) (ke : Nat) (j : Value), n9 = S.2.2.2.1 - ke → (ke ≤ S.2.2.2.1) → (ge = dgl S.2.2.2.2 ke (dgh (dgl (fun s => bI (S.2.2.1.1 s)) 2 (31 * dgh (dgh (dgP S.1 (rP S.1) (dgT S.1 10 (dgl S.1 4 (dgl (sNum S) 11 3229)))) (rPrey S.1)) (nI (rLook S.1)) + (rShare S.1).toInt64)) (nI S.2.2.2.1))) → es (ev_CALL d) 6 cX6_digest (some .long) 0 (0, fun _ => 0, []) (fun r μ2 => ∃ x9 : Int64, r = (some (.long x9), 0) ∧ (fun x μ2 => x = dgS S ∧ RepM μ2 S ∧ FrM μ μ2) x9 μ2) 317 [.ref 14, .long ge, .null, .int (nI ke), j] [] νp 0 := by
                                  intro n9
                                  induction n9 using Nat.strongRecOn with
                                  | ind n9 ih317 =>
                                    intro ge ke j hn9 hke hge
                                    subst hn9
                                    have ih := ih317
                                    refine es_iload_n (pc := 317) dX6_digest_317 rfl ?_
                                    refine es_aload_n (pc := 318) dX6_digest_318 rfl ?_
                                    refine es_getI (pc := 319) dX6_digest_319 fr_6_132 fld_14_7 ?_
                                    refine es_top hRp.l ?_
                                    refine es_icmp_geN (pc := 322) 345 dX6_digest_322 (by decide) (by omega) (by omega) (fun c322 => ?_) (fun c322 => ?_)
                                    · refine es_lload_n (pc := 345) dX6_digest_345 rfl ?_
                                      refine es_lreturn (pc := 346) dX6_digest_346 rfl (by decide) ?_
                                      exact ⟨_, rfl, by rw [hge, show ke = S.2.2.2.1 by omega]; rfl, hRp, hfp⟩
                                    · refine es_ldc2 (pc := 325) dX6_digest_325 cl_6_203 ?_
                                      refine es_lload_n (pc := 328) dX6_digest_328 rfl ?_
                                      refine es_lmul (pc := 329) dX6_digest_329 ?_
                                      refine es_aload_n (pc := 330) dX6_digest_330 rfl ?_
                                      refine es_getR (pc := 331) dX6_digest_331 fr_6_26 fld_14_6 ?_
                                      refine es_iload_n (pc := 334) dX6_digest_334 rfl ?_
                                      refine es_iald (pc := 335) dX6_digest_335 lay_20 (by omega) ?_
                                      refine es_i2l (pc := 336) dX6_digest_336 ?_
                                      refine es_ladd (pc := 337) dX6_digest_337 ?_
                                      refine es_lstore_n (pc := 338) dX6_digest_338 (ok2_1 rfl) ?_
                                      refine es_iincN (pc := 339) 1 dX6_digest_339 ic_1 rfl (ok1_3 rfl) ?_
                                      refine es_goto (pc := 342) (tgt := 317) dX6_digest_342 (by decide) ?_
                                      exact ih317 _ (by omega) _ (ke + 1) _ rfl (by omega) (by rw [hge, hRp.c]; rfl)
                                refine es_iconstN (pc := 315) 0 dX6_digest_315 ic_0 ?_
                                refine es_istore_n (pc := 316) dX6_digest_316 (ok1_3 rfl) ?_
                                exact hl317 _ _ 0 _ rfl (by omega) (by rw [hgd, show kd = 2 by omega]; rfl)
                              · refine es_ldc2 (pc := 275) dX6_digest_275 cl_6_203 ?_
                                refine es_lload_n (pc := 278) dX6_digest_278 rfl ?_
                                refine es_lmul (pc := 279) dX6_digest_279 ?_
                                refine es_aload_n (pc := 280) dX6_digest_280 rfl ?_
                                refine es_getR (pc := 281) dX6_digest_281 fr_6_22 fld_14_4 ?_
                                refine es_iload_n (pc := 284) dX6_digest_284 rfl ?_
                                refine es_zald (pc := 285) dX6_digest_285 lay_19 (by omega) ?_
                                refine es_top ((hRp.s (s := kd) (by omega))) ?_
                                refine es_if_eqB (pc := 286) 293 dX6_digest_286 (by decide) (fun c286 => ?_) (fun c286 => ?_)
                                · refine es_iconstN (pc := 293) 0 dX6_digest_293 ic_0 ?_
                                  refine es_i2l (pc := 294) dX6_digest_294 ?_
                                  refine es_ladd (pc := 295) dX6_digest_295 ?_
                                  refine es_lstore_n (pc := 296) dX6_digest_296 (ok2_1 rfl) ?_
                                  refine es_iincN (pc := 297) 1 dX6_digest_297 ic_1 rfl (ok1_3 rfl) ?_
                                  refine es_goto (pc := 300) (tgt := 270) dX6_digest_300 (by decide) ?_
                                  exact ih270 _ (by omega) _ (kd + 1) _ rfl (by omega) (by rw [hgd]; show _ = dgh _ (bI (S.2.2.1.1 kd)); rw [c286]; rfl)
                                · refine es_iconstN (pc := 289) 1 dX6_digest_289 ic_1 ?_
                                  refine es_goto (pc := 290) (tgt := 294) dX6_digest_290 (by decide) ?_
                                  refine es_i2l (pc := 294) dX6_digest_294 ?_
                                  refine es_ladd (pc := 295) dX6_digest_295 ?_
                                  refine es_lstore_n (pc := 296) dX6_digest_296 (ok2_1 rfl) ?_
                                  refine es_iincN (pc := 297) 1 dX6_digest_297 ic_1 rfl (ok1_3 rfl) ?_
                                  refine es_goto (pc := 300) (tgt := 270) dX6_digest_300 (by decide) ?_
                                  exact ih270 _ (by omega) _ (kd + 1) _ rfl (by omega) (by rw [hgd]; show _ = dgh _ (bI (S.2.2.1.1 kd)); rw [c286]; rfl)
                          refine es_iconstN (pc := 268) 0 dX6_digest_268 ic_0 ?_
                          refine es_istore_n (pc := 269) dX6_digest_269 (ok1_3 rfl) ?_
                          exact hl270 _ _ 0 _ rfl (by omega) (by rw [hgp, show kp = rP S.1 by omega]; rfl)
                        · have hl150 : ∀ (n9 : Nat) (νq : ev_M) (gq : Int64) (kq : Nat), n9 = 9 - kq → (RepM νq S) → (FrM μ νq) → (kq ≤ 9) → (gq = dgl (rPlayer S.1 kp) kq (dgP S.1 kp (dgT S.1 10 (dgl S.1 4 (dgl (sNum S) 11 3229))))) → es (ev_CALL d) 6 cX6_digest (some .long) 0 (0, fun _ => 0, []) (fun r μ2 => ∃ x9 : Int64, r = (some (.long x9), 0) ∧ (fun x μ2 => x = dgS S ∧ RepM μ2 S ∧ FrM μ μ2) x9 μ2) 150 [.ref 14, .long gq, .null, .int (nI kp), .int (nI kq)] [] νq 0 := by
                            intro n9
                            induction n9 using Nat.strongRecOn with
                            | ind n9 ih150 =>
                              intro νq gq kq hn9 hRq hfq hkq hgq
                              subst hn9
                              have ih := ih150
                              refine es_iload (pc := 150) dX6_digest_150 rfl ?_
                              refine es_bipushN (pc := 152) 8 dX6_digest_152 bp_8 ?_
                              refine es_icmp_gtN (pc := 154) 178 dX6_digest_154 (by decide) (by omega) (by omega) (fun c154 => ?_) (fun c154 => ?_)
                              · have hl181 : ∀ (n9 : Nat) (νs : ev_M) (gs : Int64) (ks : Nat), n9 = 10 - ks → (RepM νs S) → (FrM μ νs) → (ks ≤ 10) → (gs = dgl (fun t => rm_why S.1 kp t) ks (dgl (rPlayer S.1 kp) 9 (dgP S.1 kp (dgT S.1 10 (dgl S.1 4 (dgl (sNum S) 11 3229)))))) → es (ev_CALL d) 6 cX6_digest (some .long) 0 (0, fun _ => 0, []) (fun r μ2 => ∃ x9 : Int64, r = (some (.long x9), 0) ∧ (fun x μ2 => x = dgS S ∧ RepM μ2 S ∧ FrM μ μ2) x9 μ2) 181 [.ref 14, .long gs, .null, .int (nI kp), .int (nI ks)] [] νs 0 := by
                                  intro n9
                                  induction n9 using Nat.strongRecOn with
                                  | ind n9 ih181 =>
                                    intro νs gs ks hn9 hRs hfs hks hgs
                                    subst hn9
                                    have ih := ih181
                                    refine es_iload (pc := 181) dX6_digest_181 rfl ?_
                                    refine es_bipushN (pc := 183) 10 dX6_digest_183 bp_10 ?_
                                    refine es_icmp_geN (pc := 185) 209 dX6_digest_185 (by decide) (by omega) (by omega) (fun c185 => ?_) (fun c185 => ?_)
                                    · refine es_ldc2 (pc := 209) dX6_digest_209 cl_6_203 ?_
                                      refine es_lload_n (pc := 212) dX6_digest_212 rfl ?_
                                      refine es_lmul (pc := 213) dX6_digest_213 ?_
                                      refine es_aload_n (pc := 214) dX6_digest_214 rfl ?_
                                      refine es_iload_n (pc := 215) dX6_digest_215 rfl ?_
                                      refine es_bipushN (pc := 216) 9 dX6_digest_216 bp_9 ?_
                                      refine es_cv2_i (pc := 218) dX6_digest_218 mr_6_185 rfl rfl (by decide) (by decide) rfl (Nat.le_of_ble_eq_true rfl) (Nat.zero_le _) (X6_fewest_ok (R := S.1) hRs.g hW.1) (fun x218 μ218 h218 => ?_)
                                      refine es_i2l (pc := 221) dX6_digest_221 ?_
                                      refine es_ladd (pc := 222) dX6_digest_222 ?_
                                      refine es_lstore_n (pc := 223) dX6_digest_223 (ok2_1 rfl) ?_
                                      refine es_iincN (pc := 224) 1 dX6_digest_224 ic_1 rfl (ok1_3 rfl) ?_
                                      refine es_goto (pc := 227) (tgt := 137) dX6_digest_227 (by decide) ?_
                                      exact ih137 _ (by omega) μ218 _ (kp + 1) _ rfl (hRs.fg h218.2) (FrM.tr hfs h218.2.fr) (by omega) (by rw [h218.1, hgs, show ks = 10 by omega]; rfl)
                                    · refine es_ldc2 (pc := 188) dX6_digest_188 cl_6_203 ?_
                                      refine es_lload_n (pc := 191) dX6_digest_191 rfl ?_
                                      refine es_lmul (pc := 192) dX6_digest_192 ?_
                                      refine es_aload_n (pc := 193) dX6_digest_193 rfl ?_
                                      refine es_iload_n (pc := 194) dX6_digest_194 rfl ?_
                                      refine es_iload (pc := 195) dX6_digest_195 rfl ?_
                                      refine es_cv2_i (pc := 197) dX6_digest_197 mr_6_159 rfl rfl (by decide) (by decide) rfl (Nat.le_of_ble_eq_true rfl) (Nat.zero_le _) (X6_reasonOf_ok (R := S.1) hRs.g hW.1) (fun x197 μ197 h197 => ?_)
                                      refine es_i2l (pc := 200) dX6_digest_200 ?_
                                      refine es_ladd (pc := 201) dX6_digest_201 ?_
                                      refine es_lstore_n (pc := 202) dX6_digest_202 (ok2_1 rfl) ?_
                                      refine es_iincN (pc := 203) 1 dX6_digest_203 ic_1 rfl (ok1_4 rfl) ?_
                                      refine es_goto (pc := 206) (tgt := 181) dX6_digest_206 (by decide) ?_
                                      exact ih181 _ (by omega) μ197 _ (ks + 1) rfl (hRs.fg h197.2) (FrM.tr hfs h197.2.fr) (by omega) (by rw [hgs, h197.1]; rfl)
                                refine es_iconstN (pc := 178) 0 dX6_digest_178 ic_0 ?_
                                refine es_istore (pc := 179) dX6_digest_179 (ok1_4 rfl) ?_
                                exact hl181 _ νq _ 0 rfl hRq hfq (by omega) (by rw [hgq, show kq = 9 by omega]; rfl)
                              · refine es_ldc2 (pc := 157) dX6_digest_157 cl_6_203 ?_
                                refine es_lload_n (pc := 160) dX6_digest_160 rfl ?_
                                refine es_lmul (pc := 161) dX6_digest_161 ?_
                                refine es_aload_n (pc := 162) dX6_digest_162 rfl ?_
                                refine es_iload_n (pc := 163) dX6_digest_163 rfl ?_
                                refine es_iload (pc := 164) dX6_digest_164 rfl ?_
                                refine es_cv2_i (pc := 166) dX6_digest_166 mr_6_165 rfl rfl (by decide) (by decide) rfl (Nat.le_of_ble_eq_true rfl) (Nat.zero_le _) (X6_propertyOf_ok (R := S.1) hRq.g hW.1) (fun x166 μ166 h166 => ?_)
                                refine es_i2l (pc := 169) dX6_digest_169 ?_
                                refine es_ladd (pc := 170) dX6_digest_170 ?_
                                refine es_lstore_n (pc := 171) dX6_digest_171 (ok2_1 rfl) ?_
                                refine es_iincN (pc := 172) 1 dX6_digest_172 ic_1 rfl (ok1_4 rfl) ?_
                                refine es_goto (pc := 175) (tgt := 150) dX6_digest_175 (by decide) ?_
                                exact ih150 _ (by omega) μ166 _ (kq + 1) rfl (hRq.fg h166.2) (FrM.tr hfq h166.2.fr) (by omega) (by rw [hgq, h166.1]; rfl)
                          refine es_iconstN (pc := 147) 0 dX6_digest_147 ic_0 ?_
                          refine es_istore (pc := 148) dX6_digest_148 (ok1_4 rfl) ?_
                          exact hl150 _ νp _ 0 rfl hRp hfp (by omega) hgp
                    refine es_iconstN (pc := 135) 0 dX6_digest_135 ic_0 ?_
                    refine es_istore_n (pc := 136) dX6_digest_136 (ok1_3 rfl) ?_
                    exact hl137 _ νt _ 0 _ rfl hRt hft (by omega) (by rw [hgt, show kt = 10 by omega]; rfl)
                  · have hl74 : ∀ (n9 : Nat) (gu : Int64) (ku : Nat), n9 = 4 - ku → (ku ≤ 4) → (gu = dgl (rTower S.1 kt) ku (dgT S.1 kt (dgl S.1 4 (dgl (sNum S) 11 3229)))) → es (ev_CALL d) 6 cX6_digest (some .long) 0 (0, fun _ => 0, []) (fun r μ2 => ∃ x9 : Int64, r = (some (.long x9), 0) ∧ (fun x μ2 => x = dgS S ∧ RepM μ2 S ∧ FrM μ μ2) x9 μ2) 74 [.ref 14, .long gu, .null, .int (nI kt), .int (nI ku)] [] νt 0 := by
                      intro n9
                      induction n9 using Nat.strongRecOn with
                      | ind n9 ih74 =>
                        intro gu ku hn9 hku hgu
                        subst hn9
                        have ih := ih74
                        refine es_iload (pc := 74) dX6_digest_74 rfl ?_
                        refine es_iconstN (pc := 76) 4 dX6_digest_76 ic_4 ?_
                        refine es_icmp_geN (pc := 77) 101 dX6_digest_77 (by decide) (by omega) (by omega) (fun c77 => ?_) (fun c77 => ?_)
                        · refine es_ldc2 (pc := 101) dX6_digest_101 cl_6_203 ?_
                          refine es_lload_n (pc := 104) dX6_digest_104 rfl ?_
                          refine es_lmul (pc := 105) dX6_digest_105 ?_
                          refine es_aload_n (pc := 106) dX6_digest_106 rfl ?_
                          refine es_iconstN (pc := 107) 0 dX6_digest_107 ic_0 ?_
                          refine es_iload_n (pc := 108) dX6_digest_108 rfl ?_
                          refine es_cv2_i (pc := 109) dX6_digest_109 mr_6_178 rfl rfl (by decide) (by decide) rfl (Nat.le_of_ble_eq_true rfl) (Nat.zero_le _) (X6_cheapest_ok (R := S.1) (a := 0) hRt.g hW.1) (fun x109 μ109 h109 => ?_)
                          have hRa := hRt.cong (μ2 := μ109) (fun k hk => h109.2 k (by omega)) (by rw [h109.2 14 (by decide)]) (by rw [h109.2 14 (by decide)])
                          refine es_i2l (pc := 112) dX6_digest_112 ?_
                          refine es_ladd (pc := 113) dX6_digest_113 ?_
                          refine es_lstore_n (pc := 114) dX6_digest_114 (ok2_1 rfl) ?_
                          refine es_ldc2 (pc := 115) dX6_digest_115 cl_6_203 ?_
                          refine es_lload_n (pc := 118) dX6_digest_118 rfl ?_
                          refine es_lmul (pc := 119) dX6_digest_119 ?_
                          refine es_aload_n (pc := 120) dX6_digest_120 rfl ?_
                          refine es_iconstN (pc := 121) 0 dX6_digest_121 ic_0 ?_
                          refine es_iload_n (pc := 122) dX6_digest_122 rfl ?_
                          refine es_cv2_i (pc := 123) dX6_digest_123 mr_6_178 rfl rfl (by decide) (by decide) rfl (Nat.le_of_ble_eq_true rfl) (Nat.zero_le _) (X6_cheapest_ok (R := S.1) (a := 0) hRa.g hW.1) (fun x123 μ123 h123 => ?_)
                          have hRb := hRa.cong (μ2 := μ123) (fun k hk => h123.2 k (by omega)) (by rw [h123.2 14 (by decide)]) (by rw [h123.2 14 (by decide)])
                          refine es_i2l (pc := 126) dX6_digest_126 ?_
                          refine es_ladd (pc := 127) dX6_digest_127 ?_
                          refine es_lstore_n (pc := 128) dX6_digest_128 (ok2_1 rfl) ?_
                          refine es_iincN (pc := 129) 1 dX6_digest_129 ic_1 rfl (ok1_3 rfl) ?_
                          refine es_goto (pc := 132) (tgt := 65) dX6_digest_132 (by decide) ?_
                          exact ih65 _ (by omega) μ123 _ (kt + 1) _ rfl hRb (FrM.tr (FrM.tr hft (fun k hk => h109.2 k (by omega))) (fun k hk => h123.2 k (by omega))) (by omega) (by rw [h123.1, h109.1, hgu, show ku = 4 by omega, ← rPr_fw (z := 0) hW.1 (by omega) (by omega)]; rw [rPr_fw (z := 0) hW.1 (by omega) (by omega)]; show _ = dgh (dgh _ (rPr S.1 0 0 kt)) (rPr S.1 (nI 1) 0 kt); rw [rPr_fw hW.1 (by omega) (by omega), rPr_fw hW.1 (by omega) (by omega)]; rfl)
                        · refine es_ldc2 (pc := 80) dX6_digest_80 cl_6_203 ?_
                          refine es_lload_n (pc := 83) dX6_digest_83 rfl ?_
                          refine es_lmul (pc := 84) dX6_digest_84 ?_
                          refine es_aload_n (pc := 85) dX6_digest_85 rfl ?_
                          refine es_iload_n (pc := 86) dX6_digest_86 rfl ?_
                          refine es_iload (pc := 87) dX6_digest_87 rfl ?_
                          refine es_cv2_p (pc := 89) dX6_digest_89 mr_6_156 rfl rfl (by decide) (by decide) rfl (Nat.le_of_ble_eq_true rfl) (Nat.zero_le _) (X6_towerOf_ok (R := S.1) hRt.g hW.1) ?_
                          refine es_i2l (pc := 92) dX6_digest_92 ?_
                          refine es_ladd (pc := 93) dX6_digest_93 ?_
                          refine es_lstore_n (pc := 94) dX6_digest_94 (ok2_1 rfl) ?_
                          refine es_iincN (pc := 95) 1 dX6_digest_95 ic_1 rfl (ok1_4 rfl) ?_
                          refine es_goto (pc := 98) (tgt := 74) dX6_digest_98 (by decide) ?_
                          exact ih74 _ (by omega) _ (ku + 1) rfl (by omega) (by rw [hgu]; rfl)
                    refine es_iconstN (pc := 71) 0 dX6_digest_71 ic_0 ?_
                    refine es_istore (pc := 72) dX6_digest_72 (ok1_4 rfl) ?_
                    exact hl74 _ _ 0 rfl (by omega) hgt
              refine es_iconstN (pc := 63) 0 dX6_digest_63 ic_0 ?_
              refine es_istore_n (pc := 64) dX6_digest_64 (ok1_3 rfl) ?_
              exact hl65 _ _ _ 0 _ rfl hR0 (FrM.rf.ms (by decide)) (by omega) (by rw [hgb, show kb = 4 by omega]; rfl)
            · refine es_ldc2 (pc := 43) dX6_digest_43 cl_6_203 ?_
              refine es_lload_n (pc := 46) dX6_digest_46 rfl ?_
              refine es_lmul (pc := 47) dX6_digest_47 ?_
              refine es_aload_n (pc := 48) dX6_digest_48 rfl ?_
              refine es_getR (pc := 49) dX6_digest_49 fr_6_7 fld_14_0 ?_
              refine es_iload_n (pc := 52) dX6_digest_52 rfl ?_
              refine es_iald (pc := 53) dX6_digest_53 lay_15 (by omega) ?_
              refine es_i2l (pc := 54) dX6_digest_54 ?_
              refine es_ladd (pc := 55) dX6_digest_55 ?_
              refine es_lstore_n (pc := 56) dX6_digest_56 (ok2_1 rfl) ?_
              refine es_iincN (pc := 57) 1 dX6_digest_57 ic_1 rfl (ok1_3 rfl) ?_
              refine es_goto (pc := 60) (tgt := 38) dX6_digest_60 (by decide) ?_
              exact ih38 _ (by omega) _ (kb + 1) _ rfl (by omega) (by rw [hgb, show ev_ms μ 14 8 (nI 0) 15 kb = S.1 kb by rw [← hR0.g, mR_r (by omega)]]; rfl)
        refine es_iconstN (pc := 36) 0 dX6_digest_36 ic_0 ?_
        refine es_istore_n (pc := 37) dX6_digest_37 (ok1_3 rfl) ?_
        exact hl38 _ _ 0 _ rfl (by omega) (by rw [hga, show ka = 11 by omega]; rfl)
      · refine es_ldc2 (pc := 17) dX6_digest_17 cl_6_203 ?_
        refine es_lload_n (pc := 20) dX6_digest_20 rfl ?_
        refine es_lmul (pc := 21) dX6_digest_21 ?_
        refine es_aload_n (pc := 22) dX6_digest_22 rfl ?_
        refine es_iload_n (pc := 23) dX6_digest_23 rfl ?_
        refine es_cv1_p (pc := 24) dX6_digest_24 mr_6_174 rfl rfl (by decide) (by decide) rfl (Nat.le_of_ble_eq_true rfl) (Nat.zero_le _) (X6_numberOf_ok hR0 hW) ?_
        refine es_i2l (pc := 27) dX6_digest_27 ?_
        refine es_ladd (pc := 28) dX6_digest_28 ?_
        refine es_lstore_n (pc := 29) dX6_digest_29 (ok2_1 rfl) ?_
        refine es_iincN (pc := 30) 1 dX6_digest_30 ic_1 rfl (ok1_3 rfl) ?_
        refine es_goto (pc := 33) (tgt := 11) dX6_digest_33 (by decide) ?_
        exact ih11 _ (by omega) _ (ka + 1) _ rfl (by omega) (by rw [hga]; rfl)
  refine es_iconstN (pc := 9) 0 dX6_digest_9 ic_0 ?_
  refine es_istore_n (pc := 10) dX6_digest_10 (ok1_3 rfl) ?_
  exact hl11 _ _ 0 _ rfl (by omega) rfl
