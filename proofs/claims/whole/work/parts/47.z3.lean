def dgS (S : gS) : Int64 := dgl S.2.2.2.2 S.2.2.2.1 (dgh (dgl (fun s => bI (S.2.2.1.1 s)) 2 (31 * dgh (dgh (dgP S.1 (rP S.1) (dgT S.1 10 (dgl S.1 4 (dgl (sNum S) 11 3229)))) (rPrey S.1)) (nI (rLook S.1)) + (rShare S.1).toInt64)) (nI S.2.2.2.1))
theorem bI_1 {b : Bool} (h : b = true) : Int64.ofNat ((1 : Fin 2) : Nat) = (bI b).toInt64 := by rw [h]; decide
theorem bI_0' {b : Bool} (h : b = false) : Int64.ofNat ((0 : Fin 2) : Nat) = (bI b).toInt64 := by rw [h]; decide
set_option maxHeartbeats 2000000 in
set_option maxRecDepth 20000 in
theorem X5_belowShare_ok {d : Nat} {μ : ev_M} {S : gS} (hR : RepC μ S) (hW : WFS S) (hd : 4 ≤ d := by omega) : ev_CALL d 14 [.ref 0] μ (some (.double (rShare S.1)), 0) μ := by
  obtain ⟨d, rfl⟩ : ∃ q, d = q + 1 := ⟨d - 1, by omega⟩
  refine SPp.of (Nat.le_of_ble_eq_true rfl) ?_
  show es (ev_CALL d) 5 cX5_belowShare (some .double) 0 (0, fun _ => 0, []) (fun r μ2 => r = (some (.double (rShare S.1)), 0) ∧ μ2 = μ) 0 [.ref 0] [] μ 0
  have hm6 := hR.m
  obtain ⟨ol, ho, ho6, hn, hn6, hsv⟩ := hR.2.1
  obtain ⟨wP, wP4, won, won4, wit, wit4, wpl, wpb⟩ := WG.of (r := S.1) hR.g hW.1
  refine es_aload_n (pc := 0) dX5_belowShare_0 rfl ?_
  refine es_getR (pc := 1) dX5_belowShare_1 fr_5_10 fld_0_0 ?_
  refine es_cv0_p (pc := 4) dX5_belowShare_4 mr_5_227 rfl rfl (by decide) (by decide) rfl (Nat.le_of_ble_eq_true rfl) (Nat.zero_le _) (X0_shareOfSandBelow_ok wP (fun h9 => by rw [rGl_c hR.g wP4] at h9; rw [rGl_c hR.g wP4, rBl_c hR.g wP4]; exact (sh_cs hW.1).2.1 (fun e => h9 (by rw [e]; decide)))) ?_
  refine es_dreturn (pc := 7) dX5_belowShare_7 rfl (by decide) ?_
  exact ⟨by rw [rGl_c hR.g wP4, rBl_c hR.g wP4]; rfl, rfl⟩
set_option maxHeartbeats 2000000 in
set_option maxRecDepth 20000 in
theorem X5_digest_ok {d : Nat} {μ : ev_M} {S : gS} (hR : RepC μ S) (hW : WFS S) (hd : 18 ≤ d := by omega) : SPl (ev_CALL d) 18 [.ref 0] μ (fun x μ2 => x = dgS S ∧ RepC μ2 S ∧ Fr5 μ μ2) := by
  obtain ⟨d, rfl⟩ : ∃ q, d = q + 1 := ⟨d - 1, by omega⟩
  refine SPl.of (Nat.le_of_ble_eq_true rfl) ?_
  show es (ev_CALL d) 5 cX5_digest (some .long) 0 (0, fun _ => 0, []) (fun r μ2 => ∃ x9 : Int64, r = (some (.long x9), 0) ∧ (fun x μ2 => x = dgS S ∧ RepC μ2 S ∧ Fr5 μ μ2) x9 μ2) 0 [.ref 0, .null, .null, .null] [] μ 0
  have hm6 := hR.m
  obtain ⟨ol, ho, ho6, hn, hn6, hsv⟩ := hR.2.1
  obtain ⟨wP, wP4, won, won4, wit, wit4, wpl, wpb⟩ := WG.of (r := S.1) hR.g hW.1
  refine es_ldc2 (pc := 0) dX5_digest_0 cl_5_231 ?_
  refine es_lstore_n (pc := 3) dX5_digest_3 (ok2_1 rfl) ?_
  have hl6 : ∀ (n9 : Nat) (ga : Int64) (ka : Nat), n9 = 11 - ka → (ka ≤ 11) → (ga = dgl (sNum S) ka 3229) → es (ev_CALL d) 5 cX5_digest (some .long) 0 (0, fun _ => 0, []) (fun r μ2 => ∃ x9 : Int64, r = (some (.long x9), 0) ∧ (fun x μ2 => x = dgS S ∧ RepC μ2 S ∧ Fr5 μ μ2) x9 μ2) 6 [.ref 0, .long ga, .null, .int (nI ka)] [] μ 0 := by
    intro n9
    induction n9 using Nat.strongRecOn with
    | ind n9 ih6 =>
      intro ga ka hn9 hka hga
      subst hn9
      have ih := ih6
      refine es_iload_n (pc := 6) dX5_digest_6 rfl ?_
      refine es_bipushN (pc := 7) 11 dX5_digest_7 bp_11 ?_
      refine es_icmp_geN (pc := 9) 31 dX5_digest_9 (by decide) (by omega) (by omega) (fun c9 => ?_) (fun c9 => ?_)
      · have hl33 : ∀ (n9 : Nat) (gb : Int64) (kb : Nat), n9 = 4 - kb → (kb ≤ 4) → (gb = dgl S.1 kb (dgl (sNum S) 11 3229)) → es (ev_CALL d) 5 cX5_digest (some .long) 0 (0, fun _ => 0, []) (fun r μ2 => ∃ x9 : Int64, r = (some (.long x9), 0) ∧ (fun x μ2 => x = dgS S ∧ RepC μ2 S ∧ Fr5 μ μ2) x9 μ2) 33 [.ref 0, .long gb, .null, .int (nI kb)] [] μ 0 := by
          intro n9
          induction n9 using Nat.strongRecOn with
          | ind n9 ih33 =>
            intro gb kb hn9 hkb hgb
            subst hn9
            have ih := ih33
            refine es_iload_n (pc := 33) dX5_digest_33 rfl ?_
            refine es_iconstN (pc := 34) 4 dX5_digest_34 ic_4 ?_
            refine es_icmp_geN (pc := 35) 61 dX5_digest_35 (by decide) (by omega) (by omega) (fun c35 => ?_) (fun c35 => ?_)
            · refine es_aload_n (pc := 61) dX5_digest_61 rfl ?_
              refine es_getR (pc := 62) dX5_digest_62 fr_5_41 fld_0_5 ?_
              refine es_aload_n (pc := 65) dX5_digest_65 rfl ?_
              refine es_getR (pc := 66) dX5_digest_66 fr_5_10 fld_0_0 ?_
              refine es_cv1_v (pc := 69) dX5_digest_69 mr_5_203 rfl rfl (by decide) (by decide) rfl (Nat.le_of_ble_eq_true rfl) (Nat.zero_le _) (X4_layOut_ok) (fun μ69 h69 => ?_)
              obtain ⟨g1, g2⟩ := h69
              have hQ := rq_c hR.g hW.1 g1
              have hR2 := hR.cong (μ2 := μ69) (fun k hk => g2 k (by unfold gNo at hk; omega))
              have f2 : Fr5 μ μ69 := fun k _ _ => g2 k (by omega)
              obtain ⟨vP, vP4, von, von4, vit, vit4, vpl, vpb⟩ := WG.of (r := S.1) hR2.g hW.1
              refine es_aload_n (pc := 72) dX5_digest_72 rfl ?_
              refine es_lload_n (pc := 73) dX5_digest_73 rfl ?_
              refine es_cv1_l (pc := 74) dX5_digest_74 mr_5_235 rfl rfl (by decide) (by decide) rfl (Nat.le_of_ble_eq_true rfl) (Nat.zero_le _) (X5_withTowers_ok hR2 hW hQ) (fun x74 μ74 h74 => ?_)
              obtain ⟨w1, w2⟩ := h74
              have hR3 := w2.r hR2
              have f3 := f2.tr w2.f
              have hQ3 : ∀ f t, f < 10 → t < 10 → μ74 (24 + f) t = nI (rq S.1 f t) := fun f t a b => by rw [w2 _ (by omega), hQ f t a b]
              refine es_lstore_n (pc := 77) dX5_digest_77 (ok2_1 rfl) ?_
              have hl80 : ∀ (n9 : Nat) (ν : ev_M) (gc : Int64) (kc : Nat), n9 = rP S.1 - kc → (Fr24 μ74 ν) → (kc ≤ rP S.1) → (gc = dgP S.1 kc (dgT S.1 10 (dgl S.1 4 (dgl (sNum S) 11 3229)))) → es (ev_CALL d) 5 cX5_digest (some .long) 0 (0, fun _ => 0, []) (fun r μ2 => ∃ x9 : Int64, r = (some (.long x9), 0) ∧ (fun x μ2 => x = dgS S ∧ RepC μ2 S ∧ Fr5 μ μ2) x9 μ2) 80 [.ref 0, .long gc, .null, .int (nI kc)] [] ν 0 := by
                intro n9
                induction n9 using Nat.strongRecOn with
                | ind n9 ih80 =>
                  intro ν gc kc hn9 hF hkc hgc
                  subst hn9
                  have ih := ih80
                  have hRn := hF.r hR3
                  have hQn : ∀ f t, f < 10 → t < 10 → ν (24 + f) t = nI (rq S.1 f t) := fun f t a b => by rw [hF _ (by omega), hQ3 f t a b]
                  obtain ⟨zP, zP4, zon, zon4, zit, zit4, zpl, zpb⟩ := WG.of (r := S.1) hRn.g hW.1
                  refine es_iload_n (pc := 80) dX5_digest_80 rfl ?_
                  refine es_aload_n (pc := 81) dX5_digest_81 rfl ?_
                  refine es_getR (pc := 82) dX5_digest_82 fr_5_10 fld_0_0 ?_
                  refine es_getI (pc := 85) dX5_digest_85 fr_5_78 fld_44_10 ?_
                  refine es_top zP ?_
                  refine es_icmp_geN (pc := 88) 104 dX5_digest_88 (by decide) (by omega) (by omega) (fun c88 => ?_) (fun c88 => ?_)
                  · refine es_ldc2 (pc := 104) dX5_digest_104 cl_5_233 ?_
                    refine es_lload_n (pc := 107) dX5_digest_107 rfl ?_
                    refine es_lmul (pc := 108) dX5_digest_108 ?_
                    refine es_aload_n (pc := 109) dX5_digest_109 rfl ?_
                    refine es_getR (pc := 110) dX5_digest_110 fr_5_10 fld_0_0 ?_
                    refine es_cv0_p (pc := 113) dX5_digest_113 mr_5_221 rfl rfl (by decide) (by decide) rfl (Nat.le_of_ble_eq_true rfl) (Nat.zero_le _) (X0_playersInReachOfIt_ok (pl := rPl S.1) zP zit zpl zpb) ?_
                    rw [mPrey_c hRn.g zP4 zpb]
                    refine es_i2l (pc := 116) dX5_digest_116 ?_
                    refine es_ladd (pc := 117) dX5_digest_117 ?_
                    refine es_lstore_n (pc := 118) dX5_digest_118 (ok2_1 rfl) ?_
                    refine es_ldc2 (pc := 119) dX5_digest_119 cl_5_233 ?_
                    refine es_lload_n (pc := 122) dX5_digest_122 rfl ?_
                    refine es_lmul (pc := 123) dX5_digest_123 ?_
                    refine es_aload_n (pc := 124) dX5_digest_124 rfl ?_
                    refine es_getR (pc := 125) dX5_digest_125 fr_5_10 fld_0_0 ?_
                    refine es_cv0_p (pc := 128) dX5_digest_128 mr_5_224 rfl rfl (by decide) (by decide) rfl (Nat.le_of_ble_eq_true rfl) (Nat.zero_le _) (X0_towerThatSeesMost_ok) ?_
                    rw [rLook_c hRn.g]
                    refine es_i2l (pc := 131) dX5_digest_131 ?_
                    refine es_ladd (pc := 132) dX5_digest_132 ?_
                    refine es_lstore_n (pc := 133) dX5_digest_133 (ok2_1 rfl) ?_
                    refine es_ldc2 (pc := 134) dX5_digest_134 cl_5_233 ?_
                    refine es_lload_n (pc := 137) dX5_digest_137 rfl ?_
                    refine es_lmul (pc := 138) dX5_digest_138 ?_
                    refine es_aload_n (pc := 139) dX5_digest_139 rfl ?_
                    refine es_getR (pc := 140) dX5_digest_140 fr_5_10 fld_0_0 ?_
                    refine es_cv0_p (pc := 143) dX5_digest_143 mr_5_227 rfl rfl (by decide) (by decide) rfl (Nat.le_of_ble_eq_true rfl) (Nat.zero_le _) (X0_shareOfSandBelow_ok zP (fun h9 => by rw [rGl_c hRn.g zP4] at h9; rw [rGl_c hRn.g zP4, rBl_c hRn.g zP4]; exact (sh_cs hW.1).2.1 (fun e => h9 (by rw [e]; decide)))) ?_
                    rw [rGl_c hRn.g zP4, rBl_c hRn.g zP4, show gm_share (gm_sum (fun p => S.1 (31 + 7 * p + 2)) (nI 0) (rP S.1)) (rGl S.1) = rShare S.1 from rfl]
                    refine es_cs1_p (pc := 146) dX5_digest_146 mr_5_243 rfl rfl rfl (Nat.le_of_ble_eq_true rfl) (Nat.zero_le _) (X5_bits_share hW.1) ?_
                    refine es_ladd (pc := 149) dX5_digest_149 ?_
                    refine es_lstore_n (pc := 150) dX5_digest_150 (ok2_1 rfl) ?_
                    have hl153 : ∀ (n9 : Nat) (gd : Int64) (kd : Nat), n9 = 2 - kd → (kd ≤ 2) → (gd = dgl (fun s => bI (S.2.2.1.1 s)) kd (31 * dgh (dgh (dgP S.1 (rP S.1) (dgT S.1 10 (dgl S.1 4 (dgl (sNum S) 11 3229)))) (rPrey S.1)) (nI (rLook S.1)) + (rShare S.1).toInt64)) → es (ev_CALL d) 5 cX5_digest (some .long) 0 (0, fun _ => 0, []) (fun r μ2 => ∃ x9 : Int64, r = (some (.long x9), 0) ∧ (fun x μ2 => x = dgS S ∧ RepC μ2 S ∧ Fr5 μ μ2) x9 μ2) 153 [.ref 0, .long gd, .null, .int (nI kd)] [] ν 0 := by
                      intro n9
                      induction n9 using Nat.strongRecOn with
                      | ind n9 ih153 =>
                        intro gd kd hn9 hkd hgd
                        subst hn9
                        have ih := ih153
                        refine es_iload_n (pc := 153) dX5_digest_153 rfl ?_
                        refine es_iconstN (pc := 154) 2 dX5_digest_154 ic_2 ?_
                        refine es_icmp_geN (pc := 155) 185 dX5_digest_155 (by decide) (by omega) (by omega) (fun c155 => ?_) (fun c155 => ?_)
                        · refine es_ldc2 (pc := 185) dX5_digest_185 cl_5_233 ?_
                          refine es_lload_n (pc := 188) dX5_digest_188 rfl ?_
                          refine es_lmul (pc := 189) dX5_digest_189 ?_
                          refine es_aload_n (pc := 190) dX5_digest_190 rfl ?_
                          refine es_getR (pc := 191) dX5_digest_191 fr_5_34 fld_0_4 ?_
                          refine es_getI (pc := 194) dX5_digest_194 fr_5_136 fld_5_1 ?_
                          refine es_top hRn.l ?_
                          refine es_i2l (pc := 197) dX5_digest_197 ?_
                          refine es_ladd (pc := 198) dX5_digest_198 ?_
                          refine es_lstore_n (pc := 199) dX5_digest_199 (ok2_1 rfl) ?_
                          have hl202 : ∀ (n9 : Nat) (ge : Int64) (ke : Nat), n9 = S.2.2.2.1 - ke → (ke ≤ S.2.2.2.1) → (ge = dgl S.2.2.2.2 ke (dgh (dgl (fun s => bI (S.2.2.1.1 s)) 2 (31 * dgh (dgh (dgP S.1 (rP S.1) (dgT S.1 10 (dgl S.1 4 (dgl (sNum S) 11 3229)))) (rPrey S.1)) (nI (rLook S.1)) + (rShare S.1).toInt64)) (nI S.2.2.2.1))) → es (ev_CALL d) 5 cX5_digest (some .long) 0 (0, fun _ => 0, []) (fun r μ2 => ∃ x9 : Int64, r = (some (.long x9), 0) ∧ (fun x μ2 => x = dgS S ∧ RepC μ2 S ∧ Fr5 μ μ2) x9 μ2) 202 [.ref 0, .long ge, .null, .int (nI ke)] [] ν 0 := by
                            intro n9
                            induction n9 using Nat.strongRecOn with
                            | ind n9 ih202 =>
                              intro ge ke hn9 hke hge
                              subst hn9
                              have ih := ih202
                              refine es_iload_n (pc := 202) dX5_digest_202 rfl ?_
                              refine es_aload_n (pc := 203) dX5_digest_203 rfl ?_
                              refine es_getR (pc := 204) dX5_digest_204 fr_5_34 fld_0_4 ?_
                              refine es_getI (pc := 207) dX5_digest_207 fr_5_136 fld_5_1 ?_
                              refine es_top hRn.l ?_
                              refine es_icmp_geN (pc := 210) 235 dX5_digest_210 (by decide) (by omega) (by omega) (fun c210 => ?_) (fun c210 => ?_)
                              · refine es_lload_n (pc := 235) dX5_digest_235 rfl ?_
                                refine es_lreturn (pc := 236) dX5_digest_236 rfl (by decide) ?_
                                exact ⟨_, rfl, by rw [hge, show ke = S.2.2.2.1 by omega]; rfl, hRn, f3.tr hF.f⟩
                              · refine es_ldc2 (pc := 213) dX5_digest_213 cl_5_233 ?_
                                refine es_lload_n (pc := 216) dX5_digest_216 rfl ?_
                                refine es_lmul (pc := 217) dX5_digest_217 ?_
                                refine es_aload_n (pc := 218) dX5_digest_218 rfl ?_
                                refine es_getR (pc := 219) dX5_digest_219 fr_5_34 fld_0_4 ?_
                                refine es_iload_n (pc := 222) dX5_digest_222 rfl ?_
                                refine es_cv1_p (pc := 223) dX5_digest_223 mr_5_155 rfl rfl (by decide) (by decide) rfl (Nat.le_of_ble_eq_true rfl) (Nat.zero_le _) (X2_codeAt_ok hRn.l) ?_
                                refine es_i2l (pc := 226) dX5_digest_226 ?_
                                refine es_ladd (pc := 227) dX5_digest_227 ?_
                                refine es_lstore_n (pc := 228) dX5_digest_228 (ok2_1 rfl) ?_
                                refine es_iincN (pc := 229) 1 dX5_digest_229 ic_1 rfl (ok1_3 rfl) ?_
                                refine es_goto (pc := 232) (tgt := 202) dX5_digest_232 (by decide) ?_
                                exact ih202 _ (by omega) _ (ke + 1) rfl (by omega) (by rw [hge, gm_cd, if_pos c210, hRn.c]; rfl)
                          refine es_iconstN (pc := 200) 0 dX5_digest_200 ic_0 ?_
                          refine es_istore_n (pc := 201) dX5_digest_201 (ok1_3 rfl) ?_
                          exact hl202 _ _ 0 rfl (by omega) (by rw [hgd, show kd = 2 by omega]; rfl)
                        · refine es_ldc2 (pc := 158) dX5_digest_158 cl_5_233 ?_
                          refine es_lload_n (pc := 161) dX5_digest_161 rfl ?_
                          refine es_lmul (pc := 162) dX5_digest_162 ?_
                          refine es_aload_n (pc := 163) dX5_digest_163 rfl ?_
                          refine es_getR (pc := 164) dX5_digest_164 fr_5_20 fld_0_2 ?_
                          refine es_iload_n (pc := 167) dX5_digest_167 rfl ?_
                          refine es_zald (pc := 168) dX5_digest_168 lay_2 (by omega) ?_
                          refine es_top ((hRn.s (s := kd) (by omega))) ?_
                          refine es_if_eqB (pc := 169) 176 dX5_digest_169 (by decide) (fun c169 => ?_) (fun c169 => ?_)
                          · refine es_lconst (pc := 176) dX5_digest_176 ?_
                            refine es_ladd (pc := 177) dX5_digest_177 ?_
                            refine es_lstore_n (pc := 178) dX5_digest_178 (ok2_1 rfl) ?_
                            refine es_iincN (pc := 179) 1 dX5_digest_179 ic_1 rfl (ok1_3 rfl) ?_
                            refine es_goto (pc := 182) (tgt := 153) dX5_digest_182 (by decide) ?_
                            rw [bI_0' c169]
                            exact ih153 _ (by omega) _ (kd + 1) rfl (by omega) (by rw [hgd]; rfl)
                          · refine es_lconst (pc := 172) dX5_digest_172 ?_
                            refine es_goto (pc := 173) (tgt := 177) dX5_digest_173 (by decide) ?_
                            refine es_ladd (pc := 177) dX5_digest_177 ?_
                            refine es_lstore_n (pc := 178) dX5_digest_178 (ok2_1 rfl) ?_
                            refine es_iincN (pc := 179) 1 dX5_digest_179 ic_1 rfl (ok1_3 rfl) ?_
                            refine es_goto (pc := 182) (tgt := 153) dX5_digest_182 (by decide) ?_
                            rw [bI_1 c169]
                            exact ih153 _ (by omega) _ (kd + 1) rfl (by omega) (by rw [hgd]; rfl)
                    refine es_iconstN (pc := 151) 0 dX5_digest_151 ic_0 ?_
                    refine es_istore_n (pc := 152) dX5_digest_152 (ok1_3 rfl) ?_
                    exact hl153 _ _ 0 rfl (by omega) (by rw [hgc, show kc = rP S.1 by omega]; rfl)
                  · refine es_aload_n (pc := 91) dX5_digest_91 rfl ?_
                    refine es_lload_n (pc := 92) dX5_digest_92 rfl ?_
                    refine es_iload_n (pc := 93) dX5_digest_93 rfl ?_
                    refine es_cv2_l (pc := 94) dX5_digest_94 mr_5_239 rfl rfl (by decide) (by decide) rfl (Nat.le_of_ble_eq_true rfl) (Nat.zero_le _) (X5_withPlayer_ok hRn hW hQn) (fun x94 μ94 h94 => ?_)
                    refine es_lstore_n (pc := 97) dX5_digest_97 (ok2_1 rfl) ?_
                    refine es_iincN (pc := 98) 1 dX5_digest_98 ic_1 rfl (ok1_3 rfl) ?_
                    refine es_goto (pc := 101) (tgt := 80) dX5_digest_101 (by decide) ?_
                    exact ih80 _ (by omega) μ94 _ (kc + 1) rfl (hF.tr h94.2) (by omega) (by rw [h94.1, hgc]; rfl)
              refine es_iconstN (pc := 78) 0 dX5_digest_78 ic_0 ?_
              refine es_istore_n (pc := 79) dX5_digest_79 (ok1_3 rfl) ?_
              exact hl80 _ μ74 _ 0 rfl (fun _ _ => rfl) (by omega) (by rw [w1, hgb, show kb = 4 by omega]; rfl)
            · refine es_ldc2 (pc := 38) dX5_digest_38 cl_5_233 ?_
              refine es_lload_n (pc := 41) dX5_digest_41 rfl ?_
              refine es_lmul (pc := 42) dX5_digest_42 ?_
              refine es_aload_n (pc := 43) dX5_digest_43 rfl ?_
              refine es_getR (pc := 44) dX5_digest_44 fr_5_10 fld_0_0 ?_
              refine es_getR (pc := 47) dX5_digest_47 fr_5_104 fld_44_2 ?_
              refine es_iload_n (pc := 50) dX5_digest_50 rfl ?_
              refine es_iald (pc := 51) dX5_digest_51 lay_47 (by omega) ?_
              refine es_i2l (pc := 52) dX5_digest_52 ?_
              refine es_ladd (pc := 53) dX5_digest_53 ?_
              refine es_lstore_n (pc := 54) dX5_digest_54 (ok2_1 rfl) ?_
              refine es_iincN (pc := 55) 1 dX5_digest_55 ic_1 rfl (ok1_3 rfl) ?_
              refine es_goto (pc := 58) (tgt := 33) dX5_digest_58 (by decide) ?_
              exact ih33 _ (by omega) _ (kb + 1) rfl (by omega) (by rw [hgb, show μ 47 kb = S.1 kb by rw [← r44_s (μ := μ) (by omega), hR.g]]; rfl)
        refine es_iconstN (pc := 31) 0 dX5_digest_31 ic_0 ?_
        refine es_istore_n (pc := 32) dX5_digest_32 (ok1_3 rfl) ?_
        exact hl33 _ _ 0 rfl (by omega) (by rw [hga, show ka = 11 by omega]; rfl)
      · refine es_ldc2 (pc := 12) dX5_digest_12 cl_5_233 ?_
        refine es_lload_n (pc := 15) dX5_digest_15 rfl ?_
        refine es_lmul (pc := 16) dX5_digest_16 ?_
        refine es_aload_n (pc := 17) dX5_digest_17 rfl ?_
        refine es_iload_n (pc := 18) dX5_digest_18 rfl ?_
        refine es_cv1_p (pc := 19) dX5_digest_19 mr_5_198 rfl rfl (by decide) (by decide) rfl (Nat.le_of_ble_eq_true rfl) (Nat.zero_le _) (X5_number_ok hR hW) ?_
        refine es_i2l (pc := 22) dX5_digest_22 ?_
        refine es_ladd (pc := 23) dX5_digest_23 ?_
        refine es_lstore_n (pc := 24) dX5_digest_24 (ok2_1 rfl) ?_
        refine es_iincN (pc := 25) 1 dX5_digest_25 ic_1 rfl (ok1_3 rfl) ?_
        refine es_goto (pc := 28) (tgt := 6) dX5_digest_28 (by decide) ?_
        exact ih6 _ (by omega) _ (ka + 1) rfl (by omega) (by rw [hga]; rfl)
  refine es_iconstN (pc := 4) 0 dX5_digest_4 ic_0 ?_
  refine es_istore_n (pc := 5) dX5_digest_5 (ok1_3 rfl) ?_
  exact hl6 _ _ 0 rfl (by omega) rfl
