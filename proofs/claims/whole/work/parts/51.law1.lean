/-! the law's own loop: a case each -/
abbrev lwS (d L : Nat) (xs : Nat → Int32) : Nat → List Value → List Value → ev_M → Nat → Prop := es (ev_CALL d) 9 cL_law (some .boolean) 512 (L + 1, xs, []) (fun r _ => r = (some (.int (nI 1)), 0))
abbrev lwL (i : Nat) : List Value := [.ref 200, .ref 0, .ref 14, .ref 23, .int (nI i), .null, .null, .null, .null]
theorem lw_cmp0 (x : Int64) : lg_cmp x x = 0 := by
  unfold lg_cmp
  rw [if_neg (by intro h; exact absurd h (by simp [Int64.lt_iff_toInt_lt])), if_pos rfl]
theorem wfs_clear {S : gS} (h : WFS S) : WFS (gClr S) := ⟨h.1, h.2.1, h.2.2.1, h.2.2.2.1, Nat.zero_le _⟩
theorem o3_height {S : gS} {x y : Int32} : (op_height S x y).1 ≤ 3 := by
  unfold op_height
  repeat' split
  all_goals exact Nat.le_of_ble_eq_true rfl
theorem o3_player {S : gS} {x y : Int32} : (op_player S x y).1 ≤ 3 := by
  unfold op_player
  repeat' split
  all_goals exact Nat.le_of_ble_eq_true rfl
theorem o3_set {S : gS} {x y : Int32} : (op_set S x y).1 ≤ 3 := by
  unfold op_set
  repeat' split
  all_goals exact Nat.le_of_ble_eq_true rfl
theorem o3_rest {S : gS} : (op_rest S).1 ≤ 3 := by
  unfold op_rest
  repeat' split
  all_goals exact Nat.le_of_ble_eq_true rfl
theorem o3_stride {S : gS} {x : Int32} : (op_stride S x).1 ≤ 3 := by
  unfold op_stride
  repeat' split
  all_goals exact Nat.le_of_ble_eq_true rfl
theorem o3_turnOver {S : gS} : (op_turn S).1 ≤ 3 := by
  unfold op_turn
  repeat' split
  all_goals exact Nat.le_of_ble_eq_true rfl
theorem o3_tag {S : gS} {x : Int32} : (op_tag S x).1 ≤ 3 := by
  unfold op_tag
  repeat' split
  all_goals exact Nat.le_of_ble_eq_true rfl
theorem o3_append {S : gS} {x : Int32} : (op_append S x).1 ≤ 3 := by
  unfold op_append
  repeat' split
  all_goals exact Nat.le_of_ble_eq_true rfl
theorem o3_run {S : gS} : (op_run S).1 ≤ 3 := by
  unfold op_run
  repeat' split
  all_goals exact Nat.le_of_ble_eq_true rfl
theorem o3_keep {S : gS} {x : Int32} : (op_keep S x).1 ≤ 3 := by
  unfold op_keep
  repeat' split
  all_goals exact Nat.le_of_ble_eq_true rfl
theorem o3_goBack {S : gS} {x : Int32} : (op_back S x).1 ≤ 3 := by
  unfold op_back
  repeat' split
  all_goals exact Nat.le_of_ble_eq_true rfl
theorem o3_undo {S : gS} : (op_undo S).1 ≤ 3 := by
  unfold op_undo
  repeat' split
  all_goals exact Nat.le_of_ble_eq_true rfl
theorem o3_tower {S : gS} {x y : Int32} : (op_tower S x y).1 ≤ 3 := by
  unfold op_tower
  repeat' split
  all_goals exact Nat.le_of_ble_eq_true rfl
theorem o3_playerOf {S : gS} {x y : Int32} : (op_playerOf S x y).1 ≤ 3 := by
  unfold op_playerOf
  repeat' split
  all_goals exact Nat.le_of_ble_eq_true rfl
theorem o3_count {S : gS} {x : Int32} : (op_count S x).1 ≤ 3 := by
  unfold op_count
  repeat' split
  all_goals exact Nat.le_of_ble_eq_true rfl
theorem o3_setting {S : gS} {x : Int32} : (op_setting S x).1 ≤ 3 := by
  unfold op_setting
  repeat' split
  all_goals exact Nat.le_of_ble_eq_true rfl
theorem o3_price {S : gS} {x y z : Int32} : (op_price S x y z).1 ≤ 3 := by
  unfold op_price
  repeat' split
  all_goals exact Nat.le_of_ble_eq_true rfl
theorem o3_whyNot {S : gS} {x y : Int32} : (op_whyNot S x y).1 ≤ 3 := by
  unfold op_whyNot
  repeat' split
  all_goals exact Nat.le_of_ble_eq_true rfl
theorem o3_movesTo {S : gS} {x y : Int32} : (op_moves S x y).1 ≤ 3 := by
  unfold op_moves
  repeat' split
  all_goals exact Nat.le_of_ble_eq_true rfl
set_option maxHeartbeats 2000000 in
set_option maxRecDepth 20000 in
theorem law_c0 {d L i a : Nat} {xs : Nat → Int32} {μ : ev_M} {S : gS} (hd : 20 ≤ d) (hi : i + 4 ≤ L) (hL : L ≤ 2048) (ha : a + 1 ≤ 512) (h : gLS μ S) (k : ∀ (μ2 : ev_M) (S2 : gS) (a2 : Nat), a2 ≤ a + 1 → gLS μ2 S2 → lwS d L xs 1383 (lwL i) [] μ2 a2) : lwS d L xs 152 (lwL i) [] μ a := by
  obtain ⟨hW, hC, hM⟩ := h
  refine es_aload_n (pc := 152) dL_law_152 rfl ?_
  refine es_aload_n (pc := 153) dL_law_153 rfl ?_
  refine es_iload (pc := 154) dL_law_154 rfl ?_
  refine es_iconstN (pc := 156) 1 dL_law_156 ic_1 ?_
  refine es_iaddN (pc := 157) dL_law_157 ?_
  refine es_sald (pc := 158) dL_law_158 (by show i + 1 + 1 < L + 1; omega) ?_
  refine es_aload_n (pc := 159) dL_law_159 rfl ?_
  refine es_iload (pc := 160) dL_law_160 rfl ?_
  refine es_iconstN (pc := 162) 2 dL_law_162 ic_2 ?_
  refine es_iaddN (pc := 163) dL_law_163 ?_
  refine es_sald (pc := 164) dL_law_164 (by show i + 2 + 1 < L + 1; omega) ?_
  refine es_aload_n (pc := 165) dL_law_165 rfl ?_
  refine es_w4_i (pc := 166) dL_law_166 mr_9_80 rfl rfl rfl (Nat.le_of_ble_eq_true rfl) ha (L_height_ok hC hW) (fun x1 μ1 h1 => ?_)
  refine es_istore (pc := 169) dL_law_169 (ok1_5 rfl) ?_
  refine es_aload_n (pc := 171) dL_law_171 rfl ?_
  refine es_aload_n (pc := 172) dL_law_172 rfl ?_
  refine es_iload (pc := 173) dL_law_173 rfl ?_
  refine es_iconstN (pc := 175) 1 dL_law_175 ic_1 ?_
  refine es_iaddN (pc := 176) dL_law_176 ?_
  refine es_sald (pc := 177) dL_law_177 (by show i + 1 + 1 < L + 1; omega) ?_
  refine es_aload_n (pc := 178) dL_law_178 rfl ?_
  refine es_iload (pc := 179) dL_law_179 rfl ?_
  refine es_iconstN (pc := 181) 2 dL_law_181 ic_2 ?_
  refine es_iaddN (pc := 182) dL_law_182 ?_
  refine es_sald (pc := 183) dL_law_183 (by show i + 2 + 1 < L + 1; omega) ?_
  refine es_cv2_i (pc := 184) dL_law_184 mr_9_85 rfl rfl (by decide) (by decide) rfl (Nat.le_of_ble_eq_true rfl) ha (X6_height_ok (h1.m hM) hW) (fun x2 μ2 h2 => ?_)
  obtain ⟨g1, g2, g3, g4⟩ := gLS.two h1 h2 (wfs_height hW)
  refine es_istore (pc := 187) dL_law_187 (ok1_6 rfl) ?_
  refine es_aload_n (pc := 189) dL_law_189 rfl ?_
  refine es_cv0_p (pc := 190) dL_law_190 mr_9_86 rfl rfl (by decide) (by decide) rfl (Nat.le_of_ble_eq_true rfl) ha X6_thrown_ok ?_
  refine es_iload (pc := 193) dL_law_193 rfl ?_
  refine es_icmp_eq (pc := 195) (tgt := 200) dL_law_195 (by decide) (fun _ => ?_) (fun c => absurd g2 c)
  refine es_iload (pc := 200) dL_law_200 rfl ?_
  have hg : ∀ (x5 x6 : Int32), lwS d L xs 217 [.ref 200, .ref 0, .ref 14, .ref 23, .int (nI i), .int x5, .int x6, .null, .null] [] μ2 (a + 1) := by
    intro x5 x6
    refine es_goto (pc := 217) (tgt := 1383) dL_law_217 (by decide) ?_
    refine es_forget (L2 := lwL i) (by simp [ev_wk]) ?_
    exact k _ _ _ (Nat.le_refl _) g1
  refine es_if_ne (pc := 202) (tgt := 217) dL_law_202 (by decide) (fun _ => hg _ _) (fun c => ?_)
  have hx : x2 = μ2 23 0 := by
    rcases g3 (c.trans nI_0.symm) with q | q
    · exact (g4 q).symm
    · exact absurd (Nat.le_trans q o3_height) (by omega)
  subst hx
  refine es_aload_n (pc := 205) dL_law_205 rfl ?_
  refine es_iconstN (pc := 206) 0 dL_law_206 ic_0 ?_
  refine es_lald (pc := 207) dL_law_207 lay_23 (by decide) ?_
  refine es_iload (pc := 208) dL_law_208 rfl ?_
  refine es_i2l (pc := 210) dL_law_210 ?_
  refine es_lcmp (pc := 211) dL_law_211 ?_
  refine es_if_eq (pc := 212) (tgt := 217) dL_law_212 (by decide) (fun _ => hg _ _) (fun c => absurd (lw_cmp0 _) c)
set_option maxHeartbeats 2000000 in
set_option maxRecDepth 20000 in
theorem law_c1 {d L i a : Nat} {xs : Nat → Int32} {μ : ev_M} {S : gS} (hd : 20 ≤ d) (hi : i + 4 ≤ L) (hL : L ≤ 2048) (ha : a + 1 ≤ 512) (h : gLS μ S) (k : ∀ (μ2 : ev_M) (S2 : gS) (a2 : Nat), a2 ≤ a + 1 → gLS μ2 S2 → lwS d L xs 1383 (lwL i) [] μ2 a2) : lwS d L xs 220 (lwL i) [] μ a := by
  obtain ⟨hW, hC, hM⟩ := h
  refine es_aload_n (pc := 220) dL_law_220 rfl ?_
  refine es_aload_n (pc := 221) dL_law_221 rfl ?_
  refine es_iload (pc := 222) dL_law_222 rfl ?_
  refine es_iconstN (pc := 224) 1 dL_law_224 ic_1 ?_
  refine es_iaddN (pc := 225) dL_law_225 ?_
  refine es_sald (pc := 226) dL_law_226 (by show i + 1 + 1 < L + 1; omega) ?_
  refine es_aload_n (pc := 227) dL_law_227 rfl ?_
  refine es_iload (pc := 228) dL_law_228 rfl ?_
  refine es_iconstN (pc := 230) 2 dL_law_230 ic_2 ?_
  refine es_iaddN (pc := 231) dL_law_231 ?_
  refine es_sald (pc := 232) dL_law_232 (by show i + 2 + 1 < L + 1; omega) ?_
  refine es_aload_n (pc := 233) dL_law_233 rfl ?_
  refine es_w4_i (pc := 234) dL_law_234 mr_9_89 rfl rfl rfl (Nat.le_of_ble_eq_true rfl) ha (L_player_ok hC hW) (fun x1 μ1 h1 => ?_)
  refine es_istore (pc := 237) dL_law_237 (ok1_5 rfl) ?_
  refine es_aload_n (pc := 239) dL_law_239 rfl ?_
  refine es_aload_n (pc := 240) dL_law_240 rfl ?_
  refine es_iload (pc := 241) dL_law_241 rfl ?_
  refine es_iconstN (pc := 243) 1 dL_law_243 ic_1 ?_
  refine es_iaddN (pc := 244) dL_law_244 ?_
  refine es_sald (pc := 245) dL_law_245 (by show i + 1 + 1 < L + 1; omega) ?_
  refine es_aload_n (pc := 246) dL_law_246 rfl ?_
  refine es_iload (pc := 247) dL_law_247 rfl ?_
  refine es_iconstN (pc := 249) 2 dL_law_249 ic_2 ?_
  refine es_iaddN (pc := 250) dL_law_250 ?_
  refine es_sald (pc := 251) dL_law_251 (by show i + 2 + 1 < L + 1; omega) ?_
  refine es_cv2_i (pc := 252) dL_law_252 mr_9_91 rfl rfl (by decide) (by decide) rfl (Nat.le_of_ble_eq_true rfl) ha (X6_player_ok (h1.m hM) hW) (fun x2 μ2 h2 => ?_)
  obtain ⟨g1, g2, g3, g4⟩ := gLS.two h1 h2 (wfs_player hW)
  refine es_istore (pc := 255) dL_law_255 (ok1_6 rfl) ?_
  refine es_aload_n (pc := 257) dL_law_257 rfl ?_
  refine es_cv0_p (pc := 258) dL_law_258 mr_9_86 rfl rfl (by decide) (by decide) rfl (Nat.le_of_ble_eq_true rfl) ha X6_thrown_ok ?_
  refine es_iload (pc := 261) dL_law_261 rfl ?_
  refine es_icmp_eq (pc := 263) (tgt := 268) dL_law_263 (by decide) (fun _ => ?_) (fun c => absurd g2 c)
  refine es_iload (pc := 268) dL_law_268 rfl ?_
  have hg : ∀ (x5 x6 : Int32), lwS d L xs 285 [.ref 200, .ref 0, .ref 14, .ref 23, .int (nI i), .int x5, .int x6, .null, .null] [] μ2 (a + 1) := by
    intro x5 x6
    refine es_goto (pc := 285) (tgt := 1383) dL_law_285 (by decide) ?_
    refine es_forget (L2 := lwL i) (by simp [ev_wk]) ?_
    exact k _ _ _ (Nat.le_refl _) g1
  refine es_if_ne (pc := 270) (tgt := 285) dL_law_270 (by decide) (fun _ => hg _ _) (fun c => ?_)
  have hx : x2 = μ2 23 0 := by
    rcases g3 (c.trans nI_0.symm) with q | q
    · exact (g4 q).symm
    · exact absurd (Nat.le_trans q o3_player) (by omega)
  subst hx
  refine es_aload_n (pc := 273) dL_law_273 rfl ?_
  refine es_iconstN (pc := 274) 0 dL_law_274 ic_0 ?_
  refine es_lald (pc := 275) dL_law_275 lay_23 (by decide) ?_
  refine es_iload (pc := 276) dL_law_276 rfl ?_
  refine es_i2l (pc := 278) dL_law_278 ?_
  refine es_lcmp (pc := 279) dL_law_279 ?_
  refine es_if_eq (pc := 280) (tgt := 285) dL_law_280 (by decide) (fun _ => hg _ _) (fun c => absurd (lw_cmp0 _) c)
set_option maxHeartbeats 2000000 in
set_option maxRecDepth 20000 in
theorem law_c2 {d L i a : Nat} {xs : Nat → Int32} {μ : ev_M} {S : gS} (hd : 20 ≤ d) (hi : i + 4 ≤ L) (hL : L ≤ 2048) (ha : a + 1 ≤ 512) (h : gLS μ S) (k : ∀ (μ2 : ev_M) (S2 : gS) (a2 : Nat), a2 ≤ a + 1 → gLS μ2 S2 → lwS d L xs 1383 (lwL i) [] μ2 a2) : lwS d L xs 288 (lwL i) [] μ a := by
  obtain ⟨hW, hC, hM⟩ := h
  refine es_aload_n (pc := 288) dL_law_288 rfl ?_
  refine es_aload_n (pc := 289) dL_law_289 rfl ?_
  refine es_iload (pc := 290) dL_law_290 rfl ?_
  refine es_iconstN (pc := 292) 1 dL_law_292 ic_1 ?_
  refine es_iaddN (pc := 293) dL_law_293 ?_
  refine es_sald (pc := 294) dL_law_294 (by show i + 1 + 1 < L + 1; omega) ?_
  refine es_aload_n (pc := 295) dL_law_295 rfl ?_
  refine es_iload (pc := 296) dL_law_296 rfl ?_
  refine es_iconstN (pc := 298) 2 dL_law_298 ic_2 ?_
  refine es_iaddN (pc := 299) dL_law_299 ?_
  refine es_sald (pc := 300) dL_law_300 (by show i + 2 + 1 < L + 1; omega) ?_
  refine es_aload_n (pc := 301) dL_law_301 rfl ?_
  refine es_w4_i (pc := 302) dL_law_302 mr_9_92 rfl rfl rfl (Nat.le_of_ble_eq_true rfl) ha (L_set_ok hC hW) (fun x1 μ1 h1 => ?_)
  refine es_istore (pc := 305) dL_law_305 (ok1_5 rfl) ?_
  refine es_aload_n (pc := 307) dL_law_307 rfl ?_
  refine es_aload_n (pc := 308) dL_law_308 rfl ?_
  refine es_iload (pc := 309) dL_law_309 rfl ?_
  refine es_iconstN (pc := 311) 1 dL_law_311 ic_1 ?_
  refine es_iaddN (pc := 312) dL_law_312 ?_
  refine es_sald (pc := 313) dL_law_313 (by show i + 1 + 1 < L + 1; omega) ?_
  refine es_aload_n (pc := 314) dL_law_314 rfl ?_
  refine es_iload (pc := 315) dL_law_315 rfl ?_
  refine es_iconstN (pc := 317) 2 dL_law_317 ic_2 ?_
  refine es_iaddN (pc := 318) dL_law_318 ?_
  refine es_sald (pc := 319) dL_law_319 (by show i + 2 + 1 < L + 1; omega) ?_
  refine es_cv2_i (pc := 320) dL_law_320 mr_9_94 rfl rfl (by decide) (by decide) rfl (Nat.le_of_ble_eq_true rfl) ha (X6_set_ok (h1.m hM) hW) (fun x2 μ2 h2 => ?_)
  obtain ⟨g1, g2, g3, g4⟩ := gLS.two h1 h2 (wfs_set hW)
  refine es_istore (pc := 323) dL_law_323 (ok1_6 rfl) ?_
  refine es_aload_n (pc := 325) dL_law_325 rfl ?_
  refine es_cv0_p (pc := 326) dL_law_326 mr_9_86 rfl rfl (by decide) (by decide) rfl (Nat.le_of_ble_eq_true rfl) ha X6_thrown_ok ?_
  refine es_iload (pc := 329) dL_law_329 rfl ?_
  refine es_icmp_eq (pc := 331) (tgt := 336) dL_law_331 (by decide) (fun _ => ?_) (fun c => absurd g2 c)
  refine es_iload (pc := 336) dL_law_336 rfl ?_
  have hg : ∀ (x5 x6 : Int32), lwS d L xs 353 [.ref 200, .ref 0, .ref 14, .ref 23, .int (nI i), .int x5, .int x6, .null, .null] [] μ2 (a + 1) := by
    intro x5 x6
    refine es_goto (pc := 353) (tgt := 1383) dL_law_353 (by decide) ?_
    refine es_forget (L2 := lwL i) (by simp [ev_wk]) ?_
    exact k _ _ _ (Nat.le_refl _) g1
  refine es_if_ne (pc := 338) (tgt := 353) dL_law_338 (by decide) (fun _ => hg _ _) (fun c => ?_)
  have hx : x2 = μ2 23 0 := by
    rcases g3 (c.trans nI_0.symm) with q | q
    · exact (g4 q).symm
    · exact absurd (Nat.le_trans q o3_set) (by omega)
  subst hx
  refine es_aload_n (pc := 341) dL_law_341 rfl ?_
  refine es_iconstN (pc := 342) 0 dL_law_342 ic_0 ?_
  refine es_lald (pc := 343) dL_law_343 lay_23 (by decide) ?_
  refine es_iload (pc := 344) dL_law_344 rfl ?_
  refine es_i2l (pc := 346) dL_law_346 ?_
  refine es_lcmp (pc := 347) dL_law_347 ?_
  refine es_if_eq (pc := 348) (tgt := 353) dL_law_348 (by decide) (fun _ => hg _ _) (fun c => absurd (lw_cmp0 _) c)
set_option maxHeartbeats 2000000 in
set_option maxRecDepth 20000 in
theorem law_c3 {d L i a : Nat} {xs : Nat → Int32} {μ : ev_M} {S : gS} (hd : 20 ≤ d) (hi : i + 4 ≤ L) (hL : L ≤ 2048) (ha : a + 1 ≤ 512) (h : gLS μ S) (k : ∀ (μ2 : ev_M) (S2 : gS) (a2 : Nat), a2 ≤ a + 1 → gLS μ2 S2 → lwS d L xs 1383 (lwL i) [] μ2 a2) : lwS d L xs 356 (lwL i) [] μ a := by
  obtain ⟨hW, hC, hM⟩ := h
  refine es_aload_n (pc := 356) dL_law_356 rfl ?_
  refine es_aload_n (pc := 357) dL_law_357 rfl ?_
  refine es_w2_i (pc := 358) dL_law_358 mr_9_95 rfl rfl rfl (Nat.le_of_ble_eq_true rfl) ha (L_rest_ok hC hW) (fun x1 μ1 h1 => ?_)
  refine es_istore (pc := 361) dL_law_361 (ok1_5 rfl) ?_
  refine es_aload_n (pc := 363) dL_law_363 rfl ?_
  refine es_cv0_i (pc := 364) dL_law_364 mr_9_98 rfl rfl (by decide) (by decide) rfl (Nat.le_of_ble_eq_true rfl) ha (X6_rest_ok (h1.m hM) hW) (fun x2 μ2 h2 => ?_)
  obtain ⟨g1, g2, g3, g4⟩ := gLS.two h1 h2 (wfs_rest hW)
  refine es_istore (pc := 367) dL_law_367 (ok1_6 rfl) ?_
  refine es_aload_n (pc := 369) dL_law_369 rfl ?_
  refine es_cv0_p (pc := 370) dL_law_370 mr_9_86 rfl rfl (by decide) (by decide) rfl (Nat.le_of_ble_eq_true rfl) ha X6_thrown_ok ?_
  refine es_iload (pc := 373) dL_law_373 rfl ?_
  refine es_icmp_eq (pc := 375) (tgt := 380) dL_law_375 (by decide) (fun _ => ?_) (fun c => absurd g2 c)
  refine es_iload (pc := 380) dL_law_380 rfl ?_
  have hg : ∀ (x5 x6 : Int32), lwS d L xs 397 [.ref 200, .ref 0, .ref 14, .ref 23, .int (nI i), .int x5, .int x6, .null, .null] [] μ2 (a + 1) := by
    intro x5 x6
    refine es_goto (pc := 397) (tgt := 1383) dL_law_397 (by decide) ?_
    refine es_forget (L2 := lwL i) (by simp [ev_wk]) ?_
    exact k _ _ _ (Nat.le_refl _) g1
  refine es_if_ne (pc := 382) (tgt := 397) dL_law_382 (by decide) (fun _ => hg _ _) (fun c => ?_)
  have hx : x2 = μ2 23 0 := by
    rcases g3 (c.trans nI_0.symm) with q | q
    · exact (g4 q).symm
    · exact absurd (Nat.le_trans q o3_rest) (by omega)
  subst hx
  refine es_aload_n (pc := 385) dL_law_385 rfl ?_
  refine es_iconstN (pc := 386) 0 dL_law_386 ic_0 ?_
  refine es_lald (pc := 387) dL_law_387 lay_23 (by decide) ?_
  refine es_iload (pc := 388) dL_law_388 rfl ?_
  refine es_i2l (pc := 390) dL_law_390 ?_
  refine es_lcmp (pc := 391) dL_law_391 ?_
  refine es_if_eq (pc := 392) (tgt := 397) dL_law_392 (by decide) (fun _ => hg _ _) (fun c => absurd (lw_cmp0 _) c)
set_option maxHeartbeats 2000000 in
set_option maxRecDepth 20000 in
theorem law_c4 {d L i a : Nat} {xs : Nat → Int32} {μ : ev_M} {S : gS} (hd : 20 ≤ d) (hi : i + 4 ≤ L) (hL : L ≤ 2048) (ha : a + 1 ≤ 512) (h : gLS μ S) (k : ∀ (μ2 : ev_M) (S2 : gS) (a2 : Nat), a2 ≤ a + 1 → gLS μ2 S2 → lwS d L xs 1383 (lwL i) [] μ2 a2) : lwS d L xs 400 (lwL i) [] μ a := by
  obtain ⟨hW, hC, hM⟩ := h
  refine es_aload_n (pc := 400) dL_law_400 rfl ?_
  refine es_aload_n (pc := 401) dL_law_401 rfl ?_
  refine es_iload (pc := 402) dL_law_402 rfl ?_
  refine es_iconstN (pc := 404) 1 dL_law_404 ic_1 ?_
  refine es_iaddN (pc := 405) dL_law_405 ?_
  refine es_sald (pc := 406) dL_law_406 (by show i + 1 + 1 < L + 1; omega) ?_
  refine es_aload_n (pc := 407) dL_law_407 rfl ?_
  refine es_w3_i (pc := 408) dL_law_408 mr_9_99 rfl rfl rfl (Nat.le_of_ble_eq_true rfl) ha (L_stride_ok hC hW) (fun x1 μ1 h1 => ?_)
  refine es_istore (pc := 411) dL_law_411 (ok1_5 rfl) ?_
  refine es_aload_n (pc := 413) dL_law_413 rfl ?_
  refine es_aload_n (pc := 414) dL_law_414 rfl ?_
  refine es_iload (pc := 415) dL_law_415 rfl ?_
  refine es_iconstN (pc := 417) 1 dL_law_417 ic_1 ?_
  refine es_iaddN (pc := 418) dL_law_418 ?_
  refine es_sald (pc := 419) dL_law_419 (by show i + 1 + 1 < L + 1; omega) ?_
  refine es_cv1_i (pc := 420) dL_law_420 mr_9_102 rfl rfl (by decide) (by decide) rfl (Nat.le_of_ble_eq_true rfl) ha (X6_stride_ok (h1.m hM) hW) (fun x2 μ2 h2 => ?_)
  obtain ⟨g1, g2, g3, g4⟩ := gLS.two h1 h2 (wfs_stride hW)
  refine es_istore (pc := 423) dL_law_423 (ok1_6 rfl) ?_
  refine es_aload_n (pc := 425) dL_law_425 rfl ?_
  refine es_cv0_p (pc := 426) dL_law_426 mr_9_86 rfl rfl (by decide) (by decide) rfl (Nat.le_of_ble_eq_true rfl) ha X6_thrown_ok ?_
  refine es_iload (pc := 429) dL_law_429 rfl ?_
  refine es_icmp_eq (pc := 431) (tgt := 436) dL_law_431 (by decide) (fun _ => ?_) (fun c => absurd g2 c)
  refine es_iload (pc := 436) dL_law_436 rfl ?_
  have hg : ∀ (x5 x6 : Int32), lwS d L xs 453 [.ref 200, .ref 0, .ref 14, .ref 23, .int (nI i), .int x5, .int x6, .null, .null] [] μ2 (a + 1) := by
    intro x5 x6
    refine es_goto (pc := 453) (tgt := 1383) dL_law_453 (by decide) ?_
    refine es_forget (L2 := lwL i) (by simp [ev_wk]) ?_
    exact k _ _ _ (Nat.le_refl _) g1
  refine es_if_ne (pc := 438) (tgt := 453) dL_law_438 (by decide) (fun _ => hg _ _) (fun c => ?_)
  have hx : x2 = μ2 23 0 := by
    rcases g3 (c.trans nI_0.symm) with q | q
    · exact (g4 q).symm
    · exact absurd (Nat.le_trans q o3_stride) (by omega)
  subst hx
  refine es_aload_n (pc := 441) dL_law_441 rfl ?_
  refine es_iconstN (pc := 442) 0 dL_law_442 ic_0 ?_
  refine es_lald (pc := 443) dL_law_443 lay_23 (by decide) ?_
  refine es_iload (pc := 444) dL_law_444 rfl ?_
  refine es_i2l (pc := 446) dL_law_446 ?_
  refine es_lcmp (pc := 447) dL_law_447 ?_
  refine es_if_eq (pc := 448) (tgt := 453) dL_law_448 (by decide) (fun _ => hg _ _) (fun c => absurd (lw_cmp0 _) c)
set_option maxHeartbeats 2000000 in
set_option maxRecDepth 20000 in
theorem law_c5 {d L i a : Nat} {xs : Nat → Int32} {μ : ev_M} {S : gS} (hd : 20 ≤ d) (hi : i + 4 ≤ L) (hL : L ≤ 2048) (ha : a + 1 ≤ 512) (h : gLS μ S) (k : ∀ (μ2 : ev_M) (S2 : gS) (a2 : Nat), a2 ≤ a + 1 → gLS μ2 S2 → lwS d L xs 1383 (lwL i) [] μ2 a2) : lwS d L xs 456 (lwL i) [] μ a := by
  obtain ⟨hW, hC, hM⟩ := h
  refine es_aload_n (pc := 456) dL_law_456 rfl ?_
  refine es_aload_n (pc := 457) dL_law_457 rfl ?_
  refine es_w2_i (pc := 458) dL_law_458 mr_9_103 rfl rfl rfl (Nat.le_of_ble_eq_true rfl) ha (L_turnOver_ok hC hW) (fun x1 μ1 h1 => ?_)
  refine es_istore (pc := 461) dL_law_461 (ok1_5 rfl) ?_
  refine es_aload_n (pc := 463) dL_law_463 rfl ?_
  refine es_cv0_i (pc := 464) dL_law_464 mr_9_105 rfl rfl (by decide) (by decide) rfl (Nat.le_of_ble_eq_true rfl) ha (X6_turnOver_ok (h1.m hM) hW) (fun x2 μ2 h2 => ?_)
  obtain ⟨g1, g2, g3, g4⟩ := gLS.two h1 h2 (wfs_turn hW)
  refine es_istore (pc := 467) dL_law_467 (ok1_6 rfl) ?_
  refine es_aload_n (pc := 469) dL_law_469 rfl ?_
  refine es_cv0_p (pc := 470) dL_law_470 mr_9_86 rfl rfl (by decide) (by decide) rfl (Nat.le_of_ble_eq_true rfl) ha X6_thrown_ok ?_
  refine es_iload (pc := 473) dL_law_473 rfl ?_
  refine es_icmp_eq (pc := 475) (tgt := 480) dL_law_475 (by decide) (fun _ => ?_) (fun c => absurd g2 c)
  refine es_iload (pc := 480) dL_law_480 rfl ?_
  have hg : ∀ (x5 x6 : Int32), lwS d L xs 497 [.ref 200, .ref 0, .ref 14, .ref 23, .int (nI i), .int x5, .int x6, .null, .null] [] μ2 (a + 1) := by
    intro x5 x6
    refine es_goto (pc := 497) (tgt := 1383) dL_law_497 (by decide) ?_
    refine es_forget (L2 := lwL i) (by simp [ev_wk]) ?_
    exact k _ _ _ (Nat.le_refl _) g1
  refine es_if_ne (pc := 482) (tgt := 497) dL_law_482 (by decide) (fun _ => hg _ _) (fun c => ?_)
  have hx : x2 = μ2 23 0 := by
    rcases g3 (c.trans nI_0.symm) with q | q
    · exact (g4 q).symm
    · exact absurd (Nat.le_trans q o3_turnOver) (by omega)
  subst hx
  refine es_aload_n (pc := 485) dL_law_485 rfl ?_
  refine es_iconstN (pc := 486) 0 dL_law_486 ic_0 ?_
  refine es_lald (pc := 487) dL_law_487 lay_23 (by decide) ?_
  refine es_iload (pc := 488) dL_law_488 rfl ?_
  refine es_i2l (pc := 490) dL_law_490 ?_
  refine es_lcmp (pc := 491) dL_law_491 ?_
  refine es_if_eq (pc := 492) (tgt := 497) dL_law_492 (by decide) (fun _ => hg _ _) (fun c => absurd (lw_cmp0 _) c)
set_option maxHeartbeats 2000000 in
set_option maxRecDepth 20000 in
theorem law_c6 {d L i a : Nat} {xs : Nat → Int32} {μ : ev_M} {S : gS} (hd : 20 ≤ d) (hi : i + 4 ≤ L) (hL : L ≤ 2048) (ha : a + 1 ≤ 512) (h : gLS μ S) (k : ∀ (μ2 : ev_M) (S2 : gS) (a2 : Nat), a2 ≤ a + 1 → gLS μ2 S2 → lwS d L xs 1383 (lwL i) [] μ2 a2) : lwS d L xs 500 (lwL i) [] μ a := by
  obtain ⟨hW, hC, hM⟩ := h
  refine es_aload_n (pc := 500) dL_law_500 rfl ?_
  refine es_aload_n (pc := 501) dL_law_501 rfl ?_
  refine es_iload (pc := 502) dL_law_502 rfl ?_
  refine es_iconstN (pc := 504) 1 dL_law_504 ic_1 ?_
  refine es_iaddN (pc := 505) dL_law_505 ?_
  refine es_sald (pc := 506) dL_law_506 (by show i + 1 + 1 < L + 1; omega) ?_
  refine es_aload_n (pc := 507) dL_law_507 rfl ?_
  refine es_w3_i (pc := 508) dL_law_508 mr_9_106 rfl rfl rfl (Nat.le_of_ble_eq_true rfl) ha (L_tag_ok hC hW) (fun x1 μ1 h1 => ?_)
  refine es_istore (pc := 511) dL_law_511 (ok1_5 rfl) ?_
  refine es_aload_n (pc := 513) dL_law_513 rfl ?_
  refine es_aload_n (pc := 514) dL_law_514 rfl ?_
  refine es_iload (pc := 515) dL_law_515 rfl ?_
  refine es_iconstN (pc := 517) 1 dL_law_517 ic_1 ?_
  refine es_iaddN (pc := 518) dL_law_518 ?_
  refine es_sald (pc := 519) dL_law_519 (by show i + 1 + 1 < L + 1; omega) ?_
  refine es_cv1_i (pc := 520) dL_law_520 mr_9_108 rfl rfl (by decide) (by decide) rfl (Nat.le_of_ble_eq_true rfl) ha (X6_tag_ok (h1.m hM) hW) (fun x2 μ2 h2 => ?_)
  obtain ⟨g1, g2, g3, g4⟩ := gLS.two h1 h2 (wfs_tag hW)
  refine es_istore (pc := 523) dL_law_523 (ok1_6 rfl) ?_
  refine es_aload_n (pc := 525) dL_law_525 rfl ?_
  refine es_cv0_p (pc := 526) dL_law_526 mr_9_86 rfl rfl (by decide) (by decide) rfl (Nat.le_of_ble_eq_true rfl) ha X6_thrown_ok ?_
  refine es_iload (pc := 529) dL_law_529 rfl ?_
  refine es_icmp_eq (pc := 531) (tgt := 536) dL_law_531 (by decide) (fun _ => ?_) (fun c => absurd g2 c)
  refine es_iload (pc := 536) dL_law_536 rfl ?_
  have hg : ∀ (x5 x6 : Int32), lwS d L xs 553 [.ref 200, .ref 0, .ref 14, .ref 23, .int (nI i), .int x5, .int x6, .null, .null] [] μ2 (a + 1) := by
    intro x5 x6
    refine es_goto (pc := 553) (tgt := 1383) dL_law_553 (by decide) ?_
    refine es_forget (L2 := lwL i) (by simp [ev_wk]) ?_
    exact k _ _ _ (Nat.le_refl _) g1
  refine es_if_ne (pc := 538) (tgt := 553) dL_law_538 (by decide) (fun _ => hg _ _) (fun c => ?_)
  have hx : x2 = μ2 23 0 := by
    rcases g3 (c.trans nI_0.symm) with q | q
    · exact (g4 q).symm
    · exact absurd (Nat.le_trans q o3_tag) (by omega)
  subst hx
  refine es_aload_n (pc := 541) dL_law_541 rfl ?_
  refine es_iconstN (pc := 542) 0 dL_law_542 ic_0 ?_
  refine es_lald (pc := 543) dL_law_543 lay_23 (by decide) ?_
  refine es_iload (pc := 544) dL_law_544 rfl ?_
  refine es_i2l (pc := 546) dL_law_546 ?_
  refine es_lcmp (pc := 547) dL_law_547 ?_
  refine es_if_eq (pc := 548) (tgt := 553) dL_law_548 (by decide) (fun _ => hg _ _) (fun c => absurd (lw_cmp0 _) c)
set_option maxHeartbeats 2000000 in
set_option maxRecDepth 20000 in
theorem law_c7 {d L i a : Nat} {xs : Nat → Int32} {μ : ev_M} {S : gS} (hd : 20 ≤ d) (hi : i + 4 ≤ L) (hL : L ≤ 2048) (ha : a + 1 ≤ 512) (h : gLS μ S) (k : ∀ (μ2 : ev_M) (S2 : gS) (a2 : Nat), a2 ≤ a + 1 → gLS μ2 S2 → lwS d L xs 1383 (lwL i) [] μ2 a2) : lwS d L xs 556 (lwL i) [] μ a := by
  obtain ⟨hW, hC, hM⟩ := h
  refine es_aload_n (pc := 556) dL_law_556 rfl ?_
  refine es_aload_n (pc := 557) dL_law_557 rfl ?_
  refine es_iload (pc := 558) dL_law_558 rfl ?_
  refine es_iconstN (pc := 560) 1 dL_law_560 ic_1 ?_
  refine es_iaddN (pc := 561) dL_law_561 ?_
  refine es_sald (pc := 562) dL_law_562 (by show i + 1 + 1 < L + 1; omega) ?_
  refine es_aload_n (pc := 563) dL_law_563 rfl ?_
  refine es_w3_i (pc := 564) dL_law_564 mr_9_109 rfl rfl rfl (Nat.le_of_ble_eq_true rfl) ha (L_append_ok hC hW) (fun x1 μ1 h1 => ?_)
  refine es_istore (pc := 567) dL_law_567 (ok1_5 rfl) ?_
  refine es_aload_n (pc := 569) dL_law_569 rfl ?_
  refine es_aload_n (pc := 570) dL_law_570 rfl ?_
  refine es_iload (pc := 571) dL_law_571 rfl ?_
  refine es_iconstN (pc := 573) 1 dL_law_573 ic_1 ?_
  refine es_iaddN (pc := 574) dL_law_574 ?_
  refine es_sald (pc := 575) dL_law_575 (by show i + 1 + 1 < L + 1; omega) ?_
  refine es_cv1_i (pc := 576) dL_law_576 mr_9_111 rfl rfl (by decide) (by decide) rfl (Nat.le_of_ble_eq_true rfl) ha (X6_append_ok (h1.m hM) hW) (fun x2 μ2 h2 => ?_)
  obtain ⟨g1, g2, g3, g4⟩ := gLS.two h1 h2 (wfs_append hW)
  refine es_istore (pc := 579) dL_law_579 (ok1_6 rfl) ?_
  refine es_aload_n (pc := 581) dL_law_581 rfl ?_
  refine es_cv0_p (pc := 582) dL_law_582 mr_9_86 rfl rfl (by decide) (by decide) rfl (Nat.le_of_ble_eq_true rfl) ha X6_thrown_ok ?_
  refine es_iload (pc := 585) dL_law_585 rfl ?_
  refine es_icmp_eq (pc := 587) (tgt := 592) dL_law_587 (by decide) (fun _ => ?_) (fun c => absurd g2 c)
  refine es_iload (pc := 592) dL_law_592 rfl ?_
  have hg : ∀ (x5 x6 : Int32), lwS d L xs 609 [.ref 200, .ref 0, .ref 14, .ref 23, .int (nI i), .int x5, .int x6, .null, .null] [] μ2 (a + 1) := by
    intro x5 x6
    refine es_goto (pc := 609) (tgt := 1383) dL_law_609 (by decide) ?_
    refine es_forget (L2 := lwL i) (by simp [ev_wk]) ?_
    exact k _ _ _ (Nat.le_refl _) g1
  refine es_if_ne (pc := 594) (tgt := 609) dL_law_594 (by decide) (fun _ => hg _ _) (fun c => ?_)
  have hx : x2 = μ2 23 0 := by
    rcases g3 (c.trans nI_0.symm) with q | q
    · exact (g4 q).symm
    · exact absurd (Nat.le_trans q o3_append) (by omega)
  subst hx
  refine es_aload_n (pc := 597) dL_law_597 rfl ?_
  refine es_iconstN (pc := 598) 0 dL_law_598 ic_0 ?_
  refine es_lald (pc := 599) dL_law_599 lay_23 (by decide) ?_
  refine es_iload (pc := 600) dL_law_600 rfl ?_
  refine es_i2l (pc := 602) dL_law_602 ?_
  refine es_lcmp (pc := 603) dL_law_603 ?_
  refine es_if_eq (pc := 604) (tgt := 609) dL_law_604 (by decide) (fun _ => hg _ _) (fun c => absurd (lw_cmp0 _) c)
set_option maxHeartbeats 2000000 in
set_option maxRecDepth 20000 in
theorem law_c8 {d L i a : Nat} {xs : Nat → Int32} {μ : ev_M} {S : gS} (hd : 20 ≤ d) (hi : i + 4 ≤ L) (hL : L ≤ 2048) (ha : a + 1 ≤ 512) (h : gLS μ S) (k : ∀ (μ2 : ev_M) (S2 : gS) (a2 : Nat), a2 ≤ a + 1 → gLS μ2 S2 → lwS d L xs 1383 (lwL i) [] μ2 a2) : lwS d L xs 612 (lwL i) [] μ a := by
  obtain ⟨hW, hC, hM⟩ := h
  refine es_aload_n (pc := 612) dL_law_612 rfl ?_
  refine es_cv0_i (pc := 613) dL_law_613 mr_9_112 rfl rfl (by decide) (by decide) rfl (Nat.le_of_ble_eq_true rfl) (Nat.le_of_succ_le ha) (X5_clearBuffer_ok hC hW) (fun x1 μ1 h1 => ?_)
  refine es_aload_n (pc := 616) dL_law_616 rfl ?_
  refine es_cv0_i (pc := 617) dL_law_617 mr_9_115 rfl rfl (by decide) (by decide) rfl (Nat.le_of_ble_eq_true rfl) (Nat.le_of_succ_le ha) (X6_clearBuffer_ok (h1.m hM) hW) (fun x2 μ2 h2 => ?_)
  have e : x1 = x2 := by rw [h1.2.1, h2.2.1 rfl]
  refine es_icmp_eq (pc := 620) (tgt := 1383) dL_law_620 (by decide) (fun _ => k _ (gClr S) _ (Nat.le_succ a) ⟨wfs_clear hW, FrM.c h2.2.2.2 h1.2.2.1, h2.2.2.1⟩) (fun c => absurd e c)
set_option maxHeartbeats 2000000 in
set_option maxRecDepth 20000 in
theorem law_c9 {d L i a : Nat} {xs : Nat → Int32} {μ : ev_M} {S : gS} (hd : 20 ≤ d) (hi : i + 4 ≤ L) (hL : L ≤ 2048) (ha : a + 1 ≤ 512) (h : gLS μ S) (k : ∀ (μ2 : ev_M) (S2 : gS) (a2 : Nat), a2 ≤ a + 1 → gLS μ2 S2 → lwS d L xs 1383 (lwL i) [] μ2 a2) : lwS d L xs 625 (lwL i) [] μ a := by
  obtain ⟨hW, hC, hM⟩ := h
  refine es_aload_n (pc := 625) dL_law_625 rfl ?_
  refine es_cv0_i (pc := 626) dL_law_626 mr_9_116 rfl rfl (by decide) (by decide) rfl (Nat.le_of_ble_eq_true rfl) (Nat.le_of_succ_le ha) (X5_firstError_ok hC hW) (fun x1 μ1 h1 => ?_)
  refine es_aload_n (pc := 629) dL_law_629 rfl ?_
  refine es_cv0_i (pc := 630) dL_law_630 mr_9_119 rfl rfl (by decide) (by decide) rfl (Nat.le_of_ble_eq_true rfl) (Nat.le_of_succ_le ha) (X6_firstError_ok (h1.m hM) hW) (fun x2 μ2 h2 => ?_)
  have e : x1 = x2 := by rw [h1.2.1, h2.2.1 rfl]
  refine es_icmp_eq (pc := 633) (tgt := 1383) dL_law_633 (by decide) (fun _ => k _ (S) _ (Nat.le_succ a) ⟨hW, FrM.c h2.2.2.2 h1.2.2.1, h2.2.2.1⟩) (fun c => absurd e c)
set_option maxHeartbeats 2000000 in
set_option maxRecDepth 20000 in
theorem law_c10 {d L i a : Nat} {xs : Nat → Int32} {μ : ev_M} {S : gS} (hd : 20 ≤ d) (hi : i + 4 ≤ L) (hL : L ≤ 2048) (ha : a + 1 ≤ 512) (h : gLS μ S) (k : ∀ (μ2 : ev_M) (S2 : gS) (a2 : Nat), a2 ≤ a + 1 → gLS μ2 S2 → lwS d L xs 1383 (lwL i) [] μ2 a2) : lwS d L xs 638 (lwL i) [] μ a := by
  obtain ⟨hW, hC, hM⟩ := h
  refine es_aload_n (pc := 638) dL_law_638 rfl ?_
  refine es_aload_n (pc := 639) dL_law_639 rfl ?_
  refine es_w2_i (pc := 640) dL_law_640 mr_9_120 rfl rfl rfl (Nat.le_of_ble_eq_true rfl) ha (L_run_ok hC hW) (fun x1 μ1 h1 => ?_)
  refine es_istore (pc := 643) dL_law_643 (ok1_5 rfl) ?_
  refine es_aload_n (pc := 645) dL_law_645 rfl ?_
  refine es_cv0_i (pc := 646) dL_law_646 mr_9_122 rfl rfl (by decide) (by decide) rfl (Nat.le_of_ble_eq_true rfl) ha (X6_run_ok (h1.m hM) hW) (fun x2 μ2 h2 => ?_)
  obtain ⟨g1, g2, g3, g4⟩ := gLS.two h1 h2 (wfs_run hW)
  refine es_istore (pc := 649) dL_law_649 (ok1_6 rfl) ?_
  refine es_aload_n (pc := 651) dL_law_651 rfl ?_
  refine es_cv0_p (pc := 652) dL_law_652 mr_9_86 rfl rfl (by decide) (by decide) rfl (Nat.le_of_ble_eq_true rfl) ha X6_thrown_ok ?_
  refine es_iload (pc := 655) dL_law_655 rfl ?_
  refine es_icmp_eq (pc := 657) (tgt := 662) dL_law_657 (by decide) (fun _ => ?_) (fun c => absurd g2 c)
  refine es_iload (pc := 662) dL_law_662 rfl ?_
  have hg : ∀ (x5 x6 : Int32), lwS d L xs 679 [.ref 200, .ref 0, .ref 14, .ref 23, .int (nI i), .int x5, .int x6, .null, .null] [] μ2 (a + 1) := by
    intro x5 x6
    refine es_goto (pc := 679) (tgt := 1383) dL_law_679 (by decide) ?_
    refine es_forget (L2 := lwL i) (by simp [ev_wk]) ?_
    exact k _ _ _ (Nat.le_refl _) g1
  refine es_if_ne (pc := 664) (tgt := 679) dL_law_664 (by decide) (fun _ => hg _ _) (fun c => ?_)
  have hx : x2 = μ2 23 0 := by
    rcases g3 (c.trans nI_0.symm) with q | q
    · exact (g4 q).symm
    · exact absurd (Nat.le_trans q o3_run) (by omega)
  subst hx
  refine es_aload_n (pc := 667) dL_law_667 rfl ?_
  refine es_iconstN (pc := 668) 0 dL_law_668 ic_0 ?_
  refine es_lald (pc := 669) dL_law_669 lay_23 (by decide) ?_
  refine es_iload (pc := 670) dL_law_670 rfl ?_
  refine es_i2l (pc := 672) dL_law_672 ?_
  refine es_lcmp (pc := 673) dL_law_673 ?_
  refine es_if_eq (pc := 674) (tgt := 679) dL_law_674 (by decide) (fun _ => hg _ _) (fun c => absurd (lw_cmp0 _) c)
set_option maxHeartbeats 2000000 in
set_option maxRecDepth 20000 in
theorem law_c11 {d L i a : Nat} {xs : Nat → Int32} {μ : ev_M} {S : gS} (hd : 20 ≤ d) (hi : i + 4 ≤ L) (hL : L ≤ 2048) (ha : a + 1 ≤ 512) (h : gLS μ S) (k : ∀ (μ2 : ev_M) (S2 : gS) (a2 : Nat), a2 ≤ a + 1 → gLS μ2 S2 → lwS d L xs 1383 (lwL i) [] μ2 a2) : lwS d L xs 682 (lwL i) [] μ a := by
  obtain ⟨hW, hC, hM⟩ := h
  refine es_aload_n (pc := 682) dL_law_682 rfl ?_
  refine es_aload_n (pc := 683) dL_law_683 rfl ?_
  refine es_iload (pc := 684) dL_law_684 rfl ?_
  refine es_iconstN (pc := 686) 1 dL_law_686 ic_1 ?_
  refine es_iaddN (pc := 687) dL_law_687 ?_
  refine es_sald (pc := 688) dL_law_688 (by show i + 1 + 1 < L + 1; omega) ?_
  refine es_aload_n (pc := 689) dL_law_689 rfl ?_
  refine es_w3_i (pc := 690) dL_law_690 mr_9_123 rfl rfl rfl (Nat.le_of_ble_eq_true rfl) ha (L_keep_ok hC hW) (fun x1 μ1 h1 => ?_)
  refine es_istore (pc := 693) dL_law_693 (ok1_5 rfl) ?_
  refine es_aload_n (pc := 695) dL_law_695 rfl ?_
  refine es_aload_n (pc := 696) dL_law_696 rfl ?_
  refine es_iload (pc := 697) dL_law_697 rfl ?_
  refine es_iconstN (pc := 699) 1 dL_law_699 ic_1 ?_
  refine es_iaddN (pc := 700) dL_law_700 ?_
  refine es_sald (pc := 701) dL_law_701 (by show i + 1 + 1 < L + 1; omega) ?_
  refine es_cv1_i (pc := 702) dL_law_702 mr_9_125 rfl rfl (by decide) (by decide) rfl (Nat.le_of_ble_eq_true rfl) ha (X6_keep_ok (h1.m hM) hW) (fun x2 μ2 h2 => ?_)
  obtain ⟨g1, g2, g3, g4⟩ := gLS.two h1 h2 (wfs_keep hW)
  refine es_istore (pc := 705) dL_law_705 (ok1_6 rfl) ?_
  refine es_aload_n (pc := 707) dL_law_707 rfl ?_
  refine es_cv0_p (pc := 708) dL_law_708 mr_9_86 rfl rfl (by decide) (by decide) rfl (Nat.le_of_ble_eq_true rfl) ha X6_thrown_ok ?_
  refine es_iload (pc := 711) dL_law_711 rfl ?_
  refine es_icmp_eq (pc := 713) (tgt := 718) dL_law_713 (by decide) (fun _ => ?_) (fun c => absurd g2 c)
  refine es_iload (pc := 718) dL_law_718 rfl ?_
  have hg : ∀ (x5 x6 : Int32), lwS d L xs 735 [.ref 200, .ref 0, .ref 14, .ref 23, .int (nI i), .int x5, .int x6, .null, .null] [] μ2 (a + 1) := by
    intro x5 x6
    refine es_goto (pc := 735) (tgt := 1383) dL_law_735 (by decide) ?_
    refine es_forget (L2 := lwL i) (by simp [ev_wk]) ?_
    exact k _ _ _ (Nat.le_refl _) g1
  refine es_if_ne (pc := 720) (tgt := 735) dL_law_720 (by decide) (fun _ => hg _ _) (fun c => ?_)
  have hx : x2 = μ2 23 0 := by
    rcases g3 (c.trans nI_0.symm) with q | q
    · exact (g4 q).symm
    · exact absurd (Nat.le_trans q o3_keep) (by omega)
  subst hx
  refine es_aload_n (pc := 723) dL_law_723 rfl ?_
  refine es_iconstN (pc := 724) 0 dL_law_724 ic_0 ?_
  refine es_lald (pc := 725) dL_law_725 lay_23 (by decide) ?_
  refine es_iload (pc := 726) dL_law_726 rfl ?_
  refine es_i2l (pc := 728) dL_law_728 ?_
  refine es_lcmp (pc := 729) dL_law_729 ?_
  refine es_if_eq (pc := 730) (tgt := 735) dL_law_730 (by decide) (fun _ => hg _ _) (fun c => absurd (lw_cmp0 _) c)
set_option maxHeartbeats 2000000 in
set_option maxRecDepth 20000 in
theorem law_c12 {d L i a : Nat} {xs : Nat → Int32} {μ : ev_M} {S : gS} (hd : 20 ≤ d) (hi : i + 4 ≤ L) (hL : L ≤ 2048) (ha : a + 1 ≤ 512) (h : gLS μ S) (k : ∀ (μ2 : ev_M) (S2 : gS) (a2 : Nat), a2 ≤ a + 1 → gLS μ2 S2 → lwS d L xs 1383 (lwL i) [] μ2 a2) : lwS d L xs 738 (lwL i) [] μ a := by
  obtain ⟨hW, hC, hM⟩ := h
  refine es_aload_n (pc := 738) dL_law_738 rfl ?_
  refine es_aload_n (pc := 739) dL_law_739 rfl ?_
  refine es_iload (pc := 740) dL_law_740 rfl ?_
  refine es_iconstN (pc := 742) 1 dL_law_742 ic_1 ?_
  refine es_iaddN (pc := 743) dL_law_743 ?_
  refine es_sald (pc := 744) dL_law_744 (by show i + 1 + 1 < L + 1; omega) ?_
  refine es_aload_n (pc := 745) dL_law_745 rfl ?_
  refine es_w3_i (pc := 746) dL_law_746 mr_9_126 rfl rfl rfl (Nat.le_of_ble_eq_true rfl) ha (L_goBack_ok hC hW) (fun x1 μ1 h1 => ?_)
  refine es_istore (pc := 749) dL_law_749 (ok1_5 rfl) ?_
  refine es_aload_n (pc := 751) dL_law_751 rfl ?_
  refine es_aload_n (pc := 752) dL_law_752 rfl ?_
  refine es_iload (pc := 753) dL_law_753 rfl ?_
  refine es_iconstN (pc := 755) 1 dL_law_755 ic_1 ?_
  refine es_iaddN (pc := 756) dL_law_756 ?_
  refine es_sald (pc := 757) dL_law_757 (by show i + 1 + 1 < L + 1; omega) ?_
  refine es_cv1_i (pc := 758) dL_law_758 mr_9_128 rfl rfl (by decide) (by decide) rfl (Nat.le_of_ble_eq_true rfl) ha (X6_goBack_ok (h1.m hM) hW) (fun x2 μ2 h2 => ?_)
  obtain ⟨g1, g2, g3, g4⟩ := gLS.two h1 h2 (wfs_back hW)
  refine es_istore (pc := 761) dL_law_761 (ok1_6 rfl) ?_
  refine es_aload_n (pc := 763) dL_law_763 rfl ?_
  refine es_cv0_p (pc := 764) dL_law_764 mr_9_86 rfl rfl (by decide) (by decide) rfl (Nat.le_of_ble_eq_true rfl) ha X6_thrown_ok ?_
  refine es_iload (pc := 767) dL_law_767 rfl ?_
  refine es_icmp_eq (pc := 769) (tgt := 774) dL_law_769 (by decide) (fun _ => ?_) (fun c => absurd g2 c)
  refine es_iload (pc := 774) dL_law_774 rfl ?_
  have hg : ∀ (x5 x6 : Int32), lwS d L xs 791 [.ref 200, .ref 0, .ref 14, .ref 23, .int (nI i), .int x5, .int x6, .null, .null] [] μ2 (a + 1) := by
    intro x5 x6
    refine es_goto (pc := 791) (tgt := 1383) dL_law_791 (by decide) ?_
    refine es_forget (L2 := lwL i) (by simp [ev_wk]) ?_
    exact k _ _ _ (Nat.le_refl _) g1
  refine es_if_ne (pc := 776) (tgt := 791) dL_law_776 (by decide) (fun _ => hg _ _) (fun c => ?_)
  have hx : x2 = μ2 23 0 := by
    rcases g3 (c.trans nI_0.symm) with q | q
    · exact (g4 q).symm
    · exact absurd (Nat.le_trans q o3_goBack) (by omega)
  subst hx
  refine es_aload_n (pc := 779) dL_law_779 rfl ?_
  refine es_iconstN (pc := 780) 0 dL_law_780 ic_0 ?_
  refine es_lald (pc := 781) dL_law_781 lay_23 (by decide) ?_
  refine es_iload (pc := 782) dL_law_782 rfl ?_
  refine es_i2l (pc := 784) dL_law_784 ?_
  refine es_lcmp (pc := 785) dL_law_785 ?_
  refine es_if_eq (pc := 786) (tgt := 791) dL_law_786 (by decide) (fun _ => hg _ _) (fun c => absurd (lw_cmp0 _) c)
set_option maxHeartbeats 2000000 in
set_option maxRecDepth 20000 in
theorem law_c13 {d L i a : Nat} {xs : Nat → Int32} {μ : ev_M} {S : gS} (hd : 20 ≤ d) (hi : i + 4 ≤ L) (hL : L ≤ 2048) (ha : a + 1 ≤ 512) (h : gLS μ S) (k : ∀ (μ2 : ev_M) (S2 : gS) (a2 : Nat), a2 ≤ a + 1 → gLS μ2 S2 → lwS d L xs 1383 (lwL i) [] μ2 a2) : lwS d L xs 794 (lwL i) [] μ a := by
  obtain ⟨hW, hC, hM⟩ := h
  refine es_aload_n (pc := 794) dL_law_794 rfl ?_
  refine es_aload_n (pc := 795) dL_law_795 rfl ?_
  refine es_w2_i (pc := 796) dL_law_796 mr_9_129 rfl rfl rfl (Nat.le_of_ble_eq_true rfl) ha (L_undo_ok hC hW) (fun x1 μ1 h1 => ?_)
  refine es_istore (pc := 799) dL_law_799 (ok1_5 rfl) ?_
  refine es_aload_n (pc := 801) dL_law_801 rfl ?_
  refine es_cv0_i (pc := 802) dL_law_802 mr_9_131 rfl rfl (by decide) (by decide) rfl (Nat.le_of_ble_eq_true rfl) ha (X6_undo_ok (h1.m hM) hW) (fun x2 μ2 h2 => ?_)
  obtain ⟨g1, g2, g3, g4⟩ := gLS.two h1 h2 (wfs_undo hW)
  refine es_istore (pc := 805) dL_law_805 (ok1_6 rfl) ?_
  refine es_aload_n (pc := 807) dL_law_807 rfl ?_
  refine es_cv0_p (pc := 808) dL_law_808 mr_9_86 rfl rfl (by decide) (by decide) rfl (Nat.le_of_ble_eq_true rfl) ha X6_thrown_ok ?_
  refine es_iload (pc := 811) dL_law_811 rfl ?_
  refine es_icmp_eq (pc := 813) (tgt := 818) dL_law_813 (by decide) (fun _ => ?_) (fun c => absurd g2 c)
  refine es_iload (pc := 818) dL_law_818 rfl ?_
  have hg : ∀ (x5 x6 : Int32), lwS d L xs 835 [.ref 200, .ref 0, .ref 14, .ref 23, .int (nI i), .int x5, .int x6, .null, .null] [] μ2 (a + 1) := by
    intro x5 x6
    refine es_goto (pc := 835) (tgt := 1383) dL_law_835 (by decide) ?_
    refine es_forget (L2 := lwL i) (by simp [ev_wk]) ?_
    exact k _ _ _ (Nat.le_refl _) g1
  refine es_if_ne (pc := 820) (tgt := 835) dL_law_820 (by decide) (fun _ => hg _ _) (fun c => ?_)
  have hx : x2 = μ2 23 0 := by
    rcases g3 (c.trans nI_0.symm) with q | q
    · exact (g4 q).symm
    · exact absurd (Nat.le_trans q o3_undo) (by omega)
  subst hx
  refine es_aload_n (pc := 823) dL_law_823 rfl ?_
  refine es_iconstN (pc := 824) 0 dL_law_824 ic_0 ?_
  refine es_lald (pc := 825) dL_law_825 lay_23 (by decide) ?_
  refine es_iload (pc := 826) dL_law_826 rfl ?_
  refine es_i2l (pc := 828) dL_law_828 ?_
  refine es_lcmp (pc := 829) dL_law_829 ?_
  refine es_if_eq (pc := 830) (tgt := 835) dL_law_830 (by decide) (fun _ => hg _ _) (fun c => absurd (lw_cmp0 _) c)
set_option maxHeartbeats 2000000 in
set_option maxRecDepth 20000 in
theorem law_c14 {d L i a : Nat} {xs : Nat → Int32} {μ : ev_M} {S : gS} (hd : 20 ≤ d) (hi : i + 4 ≤ L) (hL : L ≤ 2048) (ha : a + 1 ≤ 512) (h : gLS μ S) (k : ∀ (μ2 : ev_M) (S2 : gS) (a2 : Nat), a2 ≤ a + 1 → gLS μ2 S2 → lwS d L xs 1383 (lwL i) [] μ2 a2) : lwS d L xs 838 (lwL i) [] μ a := by
  obtain ⟨hW, hC, hM⟩ := h
  refine es_aload_n (pc := 838) dL_law_838 rfl ?_
  refine es_aload_n (pc := 839) dL_law_839 rfl ?_
  refine es_iload (pc := 840) dL_law_840 rfl ?_
  refine es_iconstN (pc := 842) 1 dL_law_842 ic_1 ?_
  refine es_iaddN (pc := 843) dL_law_843 ?_
  refine es_sald (pc := 844) dL_law_844 (by show i + 1 + 1 < L + 1; omega) ?_
  refine es_aload_n (pc := 845) dL_law_845 rfl ?_
  refine es_iload (pc := 846) dL_law_846 rfl ?_
  refine es_iconstN (pc := 848) 2 dL_law_848 ic_2 ?_
  refine es_iaddN (pc := 849) dL_law_849 ?_
  refine es_sald (pc := 850) dL_law_850 (by show i + 2 + 1 < L + 1; omega) ?_
  refine es_aload_n (pc := 851) dL_law_851 rfl ?_
  refine es_w4_i (pc := 852) dL_law_852 mr_9_132 rfl rfl rfl (Nat.le_of_ble_eq_true rfl) ha (L_tower_ok hC hW) (fun x1 μ1 h1 => ?_)
  refine es_istore (pc := 855) dL_law_855 (ok1_5 rfl) ?_
  refine es_aload_n (pc := 857) dL_law_857 rfl ?_
  refine es_aload_n (pc := 858) dL_law_858 rfl ?_
  refine es_iload (pc := 859) dL_law_859 rfl ?_
  refine es_iconstN (pc := 861) 1 dL_law_861 ic_1 ?_
  refine es_iaddN (pc := 862) dL_law_862 ?_
  refine es_sald (pc := 863) dL_law_863 (by show i + 1 + 1 < L + 1; omega) ?_
  refine es_aload_n (pc := 864) dL_law_864 rfl ?_
  refine es_iload (pc := 865) dL_law_865 rfl ?_
  refine es_iconstN (pc := 867) 2 dL_law_867 ic_2 ?_
  refine es_iaddN (pc := 868) dL_law_868 ?_
  refine es_sald (pc := 869) dL_law_869 (by show i + 2 + 1 < L + 1; omega) ?_
  refine es_cv2_i (pc := 870) dL_law_870 mr_9_134 rfl rfl (by decide) (by decide) rfl (Nat.le_of_ble_eq_true rfl) ha (X6_tower_ok (h1.m hM) hW) (fun x2 μ2 h2 => ?_)
  obtain ⟨g1, g2, g3, g4⟩ := gLS.two h1 h2 (wfs_q hW q_tower)
  refine es_istore (pc := 873) dL_law_873 (ok1_6 rfl) ?_
  refine es_aload_n (pc := 875) dL_law_875 rfl ?_
  refine es_cv0_p (pc := 876) dL_law_876 mr_9_86 rfl rfl (by decide) (by decide) rfl (Nat.le_of_ble_eq_true rfl) ha X6_thrown_ok ?_
  refine es_iload (pc := 879) dL_law_879 rfl ?_
  refine es_icmp_eq (pc := 881) (tgt := 886) dL_law_881 (by decide) (fun _ => ?_) (fun c => absurd g2 c)
  refine es_iload (pc := 886) dL_law_886 rfl ?_
  have hg : ∀ (x5 x6 : Int32), lwS d L xs 903 [.ref 200, .ref 0, .ref 14, .ref 23, .int (nI i), .int x5, .int x6, .null, .null] [] μ2 (a + 1) := by
    intro x5 x6
    refine es_goto (pc := 903) (tgt := 1383) dL_law_903 (by decide) ?_
    refine es_forget (L2 := lwL i) (by simp [ev_wk]) ?_
    exact k _ _ _ (Nat.le_refl _) g1
  refine es_if_ne (pc := 888) (tgt := 903) dL_law_888 (by decide) (fun _ => hg _ _) (fun c => ?_)
  have hx : x2 = μ2 23 0 := by
    rcases g3 (c.trans nI_0.symm) with q | q
    · exact (g4 q).symm
    · exact absurd (Nat.le_trans q o3_tower) (by omega)
  subst hx
  refine es_aload_n (pc := 891) dL_law_891 rfl ?_
  refine es_iconstN (pc := 892) 0 dL_law_892 ic_0 ?_
  refine es_lald (pc := 893) dL_law_893 lay_23 (by decide) ?_
  refine es_iload (pc := 894) dL_law_894 rfl ?_
  refine es_i2l (pc := 896) dL_law_896 ?_
  refine es_lcmp (pc := 897) dL_law_897 ?_
  refine es_if_eq (pc := 898) (tgt := 903) dL_law_898 (by decide) (fun _ => hg _ _) (fun c => absurd (lw_cmp0 _) c)
set_option maxHeartbeats 2000000 in
set_option maxRecDepth 20000 in
theorem law_c15 {d L i a : Nat} {xs : Nat → Int32} {μ : ev_M} {S : gS} (hd : 20 ≤ d) (hi : i + 4 ≤ L) (hL : L ≤ 2048) (ha : a + 1 ≤ 512) (h : gLS μ S) (k : ∀ (μ2 : ev_M) (S2 : gS) (a2 : Nat), a2 ≤ a + 1 → gLS μ2 S2 → lwS d L xs 1383 (lwL i) [] μ2 a2) : lwS d L xs 906 (lwL i) [] μ a := by
  obtain ⟨hW, hC, hM⟩ := h
  refine es_aload_n (pc := 906) dL_law_906 rfl ?_
  refine es_aload_n (pc := 907) dL_law_907 rfl ?_
  refine es_iload (pc := 908) dL_law_908 rfl ?_
  refine es_iconstN (pc := 910) 1 dL_law_910 ic_1 ?_
  refine es_iaddN (pc := 911) dL_law_911 ?_
  refine es_sald (pc := 912) dL_law_912 (by show i + 1 + 1 < L + 1; omega) ?_
  refine es_aload_n (pc := 913) dL_law_913 rfl ?_
  refine es_iload (pc := 914) dL_law_914 rfl ?_
  refine es_iconstN (pc := 916) 2 dL_law_916 ic_2 ?_
  refine es_iaddN (pc := 917) dL_law_917 ?_
  refine es_sald (pc := 918) dL_law_918 (by show i + 2 + 1 < L + 1; omega) ?_
  refine es_aload_n (pc := 919) dL_law_919 rfl ?_
  refine es_w4_i (pc := 920) dL_law_920 mr_9_135 rfl rfl rfl (Nat.le_of_ble_eq_true rfl) ha (L_playerOf_ok hC hW) (fun x1 μ1 h1 => ?_)
  refine es_istore (pc := 923) dL_law_923 (ok1_5 rfl) ?_
  refine es_aload_n (pc := 925) dL_law_925 rfl ?_
  refine es_aload_n (pc := 926) dL_law_926 rfl ?_
  refine es_iload (pc := 927) dL_law_927 rfl ?_
  refine es_iconstN (pc := 929) 1 dL_law_929 ic_1 ?_
  refine es_iaddN (pc := 930) dL_law_930 ?_
  refine es_sald (pc := 931) dL_law_931 (by show i + 1 + 1 < L + 1; omega) ?_
  refine es_aload_n (pc := 932) dL_law_932 rfl ?_
  refine es_iload (pc := 933) dL_law_933 rfl ?_
  refine es_iconstN (pc := 935) 2 dL_law_935 ic_2 ?_
  refine es_iaddN (pc := 936) dL_law_936 ?_
  refine es_sald (pc := 937) dL_law_937 (by show i + 2 + 1 < L + 1; omega) ?_
  refine es_cv2_i (pc := 938) dL_law_938 mr_9_137 rfl rfl (by decide) (by decide) rfl (Nat.le_of_ble_eq_true rfl) ha (X6_playerOf_ok (h1.m hM) hW) (fun x2 μ2 h2 => ?_)
  obtain ⟨g1, g2, g3, g4⟩ := gLS.two h1 h2 (wfs_q hW q_playerOf)
  refine es_istore (pc := 941) dL_law_941 (ok1_6 rfl) ?_
  refine es_aload_n (pc := 943) dL_law_943 rfl ?_
  refine es_cv0_p (pc := 944) dL_law_944 mr_9_86 rfl rfl (by decide) (by decide) rfl (Nat.le_of_ble_eq_true rfl) ha X6_thrown_ok ?_
  refine es_iload (pc := 947) dL_law_947 rfl ?_
  refine es_icmp_eq (pc := 949) (tgt := 954) dL_law_949 (by decide) (fun _ => ?_) (fun c => absurd g2 c)
  refine es_iload (pc := 954) dL_law_954 rfl ?_
  have hg : ∀ (x5 x6 : Int32), lwS d L xs 971 [.ref 200, .ref 0, .ref 14, .ref 23, .int (nI i), .int x5, .int x6, .null, .null] [] μ2 (a + 1) := by
    intro x5 x6
    refine es_goto (pc := 971) (tgt := 1383) dL_law_971 (by decide) ?_
    refine es_forget (L2 := lwL i) (by simp [ev_wk]) ?_
    exact k _ _ _ (Nat.le_refl _) g1
  refine es_if_ne (pc := 956) (tgt := 971) dL_law_956 (by decide) (fun _ => hg _ _) (fun c => ?_)
  have hx : x2 = μ2 23 0 := by
    rcases g3 (c.trans nI_0.symm) with q | q
    · exact (g4 q).symm
    · exact absurd (Nat.le_trans q o3_playerOf) (by omega)
  subst hx
  refine es_aload_n (pc := 959) dL_law_959 rfl ?_
  refine es_iconstN (pc := 960) 0 dL_law_960 ic_0 ?_
  refine es_lald (pc := 961) dL_law_961 lay_23 (by decide) ?_
  refine es_iload (pc := 962) dL_law_962 rfl ?_
  refine es_i2l (pc := 964) dL_law_964 ?_
  refine es_lcmp (pc := 965) dL_law_965 ?_
  refine es_if_eq (pc := 966) (tgt := 971) dL_law_966 (by decide) (fun _ => hg _ _) (fun c => absurd (lw_cmp0 _) c)
set_option maxHeartbeats 2000000 in
set_option maxRecDepth 20000 in
theorem law_c16 {d L i a : Nat} {xs : Nat → Int32} {μ : ev_M} {S : gS} (hd : 20 ≤ d) (hi : i + 4 ≤ L) (hL : L ≤ 2048) (ha : a + 1 ≤ 512) (h : gLS μ S) (k : ∀ (μ2 : ev_M) (S2 : gS) (a2 : Nat), a2 ≤ a + 1 → gLS μ2 S2 → lwS d L xs 1383 (lwL i) [] μ2 a2) : lwS d L xs 974 (lwL i) [] μ a := by
  obtain ⟨hW, hC, hM⟩ := h
  refine es_aload_n (pc := 974) dL_law_974 rfl ?_
  refine es_aload_n (pc := 975) dL_law_975 rfl ?_
  refine es_iload (pc := 976) dL_law_976 rfl ?_
  refine es_iconstN (pc := 978) 1 dL_law_978 ic_1 ?_
  refine es_iaddN (pc := 979) dL_law_979 ?_
  refine es_sald (pc := 980) dL_law_980 (by show i + 1 + 1 < L + 1; omega) ?_
  refine es_aload_n (pc := 981) dL_law_981 rfl ?_
  refine es_w3_i (pc := 982) dL_law_982 mr_9_138 rfl rfl rfl (Nat.le_of_ble_eq_true rfl) ha (L_count_ok hC hW) (fun x1 μ1 h1 => ?_)
  refine es_istore (pc := 985) dL_law_985 (ok1_5 rfl) ?_
  refine es_aload_n (pc := 987) dL_law_987 rfl ?_
  refine es_aload_n (pc := 988) dL_law_988 rfl ?_
  refine es_iload (pc := 989) dL_law_989 rfl ?_
  refine es_iconstN (pc := 991) 1 dL_law_991 ic_1 ?_
  refine es_iaddN (pc := 992) dL_law_992 ?_
  refine es_sald (pc := 993) dL_law_993 (by show i + 1 + 1 < L + 1; omega) ?_
  refine es_cv1_i (pc := 994) dL_law_994 mr_9_140 rfl rfl (by decide) (by decide) rfl (Nat.le_of_ble_eq_true rfl) ha (X6_count_ok (h1.m hM) hW) (fun x2 μ2 h2 => ?_)
  obtain ⟨g1, g2, g3, g4⟩ := gLS.two h1 h2 (wfs_q hW q_count)
  refine es_istore (pc := 997) dL_law_997 (ok1_6 rfl) ?_
  refine es_aload_n (pc := 999) dL_law_999 rfl ?_
  refine es_cv0_p (pc := 1000) dL_law_1000 mr_9_86 rfl rfl (by decide) (by decide) rfl (Nat.le_of_ble_eq_true rfl) ha X6_thrown_ok ?_
  refine es_iload (pc := 1003) dL_law_1003 rfl ?_
  refine es_icmp_eq (pc := 1005) (tgt := 1010) dL_law_1005 (by decide) (fun _ => ?_) (fun c => absurd g2 c)
  refine es_iload (pc := 1010) dL_law_1010 rfl ?_
  have hg : ∀ (x5 x6 : Int32), lwS d L xs 1027 [.ref 200, .ref 0, .ref 14, .ref 23, .int (nI i), .int x5, .int x6, .null, .null] [] μ2 (a + 1) := by
    intro x5 x6
    refine es_goto (pc := 1027) (tgt := 1383) dL_law_1027 (by decide) ?_
    refine es_forget (L2 := lwL i) (by simp [ev_wk]) ?_
    exact k _ _ _ (Nat.le_refl _) g1
  refine es_if_ne (pc := 1012) (tgt := 1027) dL_law_1012 (by decide) (fun _ => hg _ _) (fun c => ?_)
  have hx : x2 = μ2 23 0 := by
    rcases g3 (c.trans nI_0.symm) with q | q
    · exact (g4 q).symm
    · exact absurd (Nat.le_trans q o3_count) (by omega)
  subst hx
  refine es_aload_n (pc := 1015) dL_law_1015 rfl ?_
  refine es_iconstN (pc := 1016) 0 dL_law_1016 ic_0 ?_
  refine es_lald (pc := 1017) dL_law_1017 lay_23 (by decide) ?_
  refine es_iload (pc := 1018) dL_law_1018 rfl ?_
  refine es_i2l (pc := 1020) dL_law_1020 ?_
  refine es_lcmp (pc := 1021) dL_law_1021 ?_
  refine es_if_eq (pc := 1022) (tgt := 1027) dL_law_1022 (by decide) (fun _ => hg _ _) (fun c => absurd (lw_cmp0 _) c)
set_option maxHeartbeats 2000000 in
set_option maxRecDepth 20000 in
theorem law_c17 {d L i a : Nat} {xs : Nat → Int32} {μ : ev_M} {S : gS} (hd : 20 ≤ d) (hi : i + 4 ≤ L) (hL : L ≤ 2048) (ha : a + 1 ≤ 512) (h : gLS μ S) (k : ∀ (μ2 : ev_M) (S2 : gS) (a2 : Nat), a2 ≤ a + 1 → gLS μ2 S2 → lwS d L xs 1383 (lwL i) [] μ2 a2) : lwS d L xs 1030 (lwL i) [] μ a := by
  obtain ⟨hW, hC, hM⟩ := h
  refine es_aload_n (pc := 1030) dL_law_1030 rfl ?_
  refine es_aload_n (pc := 1031) dL_law_1031 rfl ?_
  refine es_iload (pc := 1032) dL_law_1032 rfl ?_
  refine es_iconstN (pc := 1034) 1 dL_law_1034 ic_1 ?_
  refine es_iaddN (pc := 1035) dL_law_1035 ?_
  refine es_sald (pc := 1036) dL_law_1036 (by show i + 1 + 1 < L + 1; omega) ?_
  refine es_aload_n (pc := 1037) dL_law_1037 rfl ?_
  refine es_w3_i (pc := 1038) dL_law_1038 mr_9_141 rfl rfl rfl (Nat.le_of_ble_eq_true rfl) ha (L_setting_ok hC hW) (fun x1 μ1 h1 => ?_)
  refine es_istore (pc := 1041) dL_law_1041 (ok1_5 rfl) ?_
  refine es_aload_n (pc := 1043) dL_law_1043 rfl ?_
  refine es_aload_n (pc := 1044) dL_law_1044 rfl ?_
  refine es_iload (pc := 1045) dL_law_1045 rfl ?_
  refine es_iconstN (pc := 1047) 1 dL_law_1047 ic_1 ?_
  refine es_iaddN (pc := 1048) dL_law_1048 ?_
  refine es_sald (pc := 1049) dL_law_1049 (by show i + 1 + 1 < L + 1; omega) ?_
  refine es_cv1_i (pc := 1050) dL_law_1050 mr_9_143 rfl rfl (by decide) (by decide) rfl (Nat.le_of_ble_eq_true rfl) ha (X6_setting_ok (h1.m hM) hW) (fun x2 μ2 h2 => ?_)
  obtain ⟨g1, g2, g3, g4⟩ := gLS.two h1 h2 (wfs_q hW q_setting)
  refine es_istore (pc := 1053) dL_law_1053 (ok1_6 rfl) ?_
  refine es_aload_n (pc := 1055) dL_law_1055 rfl ?_
  refine es_cv0_p (pc := 1056) dL_law_1056 mr_9_86 rfl rfl (by decide) (by decide) rfl (Nat.le_of_ble_eq_true rfl) ha X6_thrown_ok ?_
  refine es_iload (pc := 1059) dL_law_1059 rfl ?_
  refine es_icmp_eq (pc := 1061) (tgt := 1066) dL_law_1061 (by decide) (fun _ => ?_) (fun c => absurd g2 c)
  refine es_iload (pc := 1066) dL_law_1066 rfl ?_
  have hg : ∀ (x5 x6 : Int32), lwS d L xs 1083 [.ref 200, .ref 0, .ref 14, .ref 23, .int (nI i), .int x5, .int x6, .null, .null] [] μ2 (a + 1) := by
    intro x5 x6
    refine es_goto (pc := 1083) (tgt := 1383) dL_law_1083 (by decide) ?_
    refine es_forget (L2 := lwL i) (by simp [ev_wk]) ?_
    exact k _ _ _ (Nat.le_refl _) g1
  refine es_if_ne (pc := 1068) (tgt := 1083) dL_law_1068 (by decide) (fun _ => hg _ _) (fun c => ?_)
  have hx : x2 = μ2 23 0 := by
    rcases g3 (c.trans nI_0.symm) with q | q
    · exact (g4 q).symm
    · exact absurd (Nat.le_trans q o3_setting) (by omega)
  subst hx
  refine es_aload_n (pc := 1071) dL_law_1071 rfl ?_
  refine es_iconstN (pc := 1072) 0 dL_law_1072 ic_0 ?_
  refine es_lald (pc := 1073) dL_law_1073 lay_23 (by decide) ?_
  refine es_iload (pc := 1074) dL_law_1074 rfl ?_
  refine es_i2l (pc := 1076) dL_law_1076 ?_
  refine es_lcmp (pc := 1077) dL_law_1077 ?_
  refine es_if_eq (pc := 1078) (tgt := 1083) dL_law_1078 (by decide) (fun _ => hg _ _) (fun c => absurd (lw_cmp0 _) c)
set_option maxHeartbeats 2000000 in
set_option maxRecDepth 20000 in
theorem law_c18 {d L i a : Nat} {xs : Nat → Int32} {μ : ev_M} {S : gS} (hd : 20 ≤ d) (hi : i + 4 ≤ L) (hL : L ≤ 2048) (ha : a + 1 ≤ 512) (h : gLS μ S) (k : ∀ (μ2 : ev_M) (S2 : gS) (a2 : Nat), a2 ≤ a + 1 → gLS μ2 S2 → lwS d L xs 1383 (lwL i) [] μ2 a2) : lwS d L xs 1086 (lwL i) [] μ a := by
  obtain ⟨hW, hC, hM⟩ := h
  refine es_aload_n (pc := 1086) dL_law_1086 rfl ?_
  refine es_aload_n (pc := 1087) dL_law_1087 rfl ?_
  refine es_iload (pc := 1088) dL_law_1088 rfl ?_
  refine es_iconstN (pc := 1090) 1 dL_law_1090 ic_1 ?_
  refine es_iaddN (pc := 1091) dL_law_1091 ?_
  refine es_sald (pc := 1092) dL_law_1092 (by show i + 1 + 1 < L + 1; omega) ?_
  refine es_aload_n (pc := 1093) dL_law_1093 rfl ?_
  refine es_iload (pc := 1094) dL_law_1094 rfl ?_
  refine es_iconstN (pc := 1096) 2 dL_law_1096 ic_2 ?_
  refine es_iaddN (pc := 1097) dL_law_1097 ?_
  refine es_sald (pc := 1098) dL_law_1098 (by show i + 2 + 1 < L + 1; omega) ?_
  refine es_aload_n (pc := 1099) dL_law_1099 rfl ?_
  refine es_iload (pc := 1100) dL_law_1100 rfl ?_
  refine es_iconstN (pc := 1102) 3 dL_law_1102 ic_3 ?_
  refine es_iaddN (pc := 1103) dL_law_1103 ?_
  refine es_sald (pc := 1104) dL_law_1104 (by show i + 3 + 1 < L + 1; omega) ?_
  refine es_aload_n (pc := 1105) dL_law_1105 rfl ?_
  refine es_w5_i (pc := 1106) dL_law_1106 mr_9_144 rfl rfl rfl (Nat.le_of_ble_eq_true rfl) ha (L_price_ok hC hW) (fun x1 μ1 h1 => ?_)
  refine es_istore (pc := 1109) dL_law_1109 (ok1_5 rfl) ?_
  refine es_aload_n (pc := 1111) dL_law_1111 rfl ?_
  refine es_aload_n (pc := 1112) dL_law_1112 rfl ?_
  refine es_iload (pc := 1113) dL_law_1113 rfl ?_
  refine es_iconstN (pc := 1115) 1 dL_law_1115 ic_1 ?_
  refine es_iaddN (pc := 1116) dL_law_1116 ?_
  refine es_sald (pc := 1117) dL_law_1117 (by show i + 1 + 1 < L + 1; omega) ?_
  refine es_aload_n (pc := 1118) dL_law_1118 rfl ?_
  refine es_iload (pc := 1119) dL_law_1119 rfl ?_
  refine es_iconstN (pc := 1121) 2 dL_law_1121 ic_2 ?_
  refine es_iaddN (pc := 1122) dL_law_1122 ?_
  refine es_sald (pc := 1123) dL_law_1123 (by show i + 2 + 1 < L + 1; omega) ?_
  refine es_aload_n (pc := 1124) dL_law_1124 rfl ?_
  refine es_iload (pc := 1125) dL_law_1125 rfl ?_
  refine es_iconstN (pc := 1127) 3 dL_law_1127 ic_3 ?_
  refine es_iaddN (pc := 1128) dL_law_1128 ?_
  refine es_sald (pc := 1129) dL_law_1129 (by show i + 3 + 1 < L + 1; omega) ?_
  refine es_cv3_i (pc := 1130) dL_law_1130 mr_9_147 rfl rfl (by decide) (by decide) rfl (Nat.le_of_ble_eq_true rfl) ha (X6_price_ok (h1.m hM) hW) (fun x2 μ2 h2 => ?_)
  obtain ⟨g1, g2, g3, g4⟩ := gLS.two h1 h2 (wfs_q hW q_price)
  refine es_istore (pc := 1133) dL_law_1133 (ok1_6 rfl) ?_
  refine es_aload_n (pc := 1135) dL_law_1135 rfl ?_
  refine es_cv0_p (pc := 1136) dL_law_1136 mr_9_86 rfl rfl (by decide) (by decide) rfl (Nat.le_of_ble_eq_true rfl) ha X6_thrown_ok ?_
  refine es_iload (pc := 1139) dL_law_1139 rfl ?_
  refine es_icmp_eq (pc := 1141) (tgt := 1146) dL_law_1141 (by decide) (fun _ => ?_) (fun c => absurd g2 c)
  refine es_iload (pc := 1146) dL_law_1146 rfl ?_
  have hg : ∀ (x5 x6 : Int32), lwS d L xs 1163 [.ref 200, .ref 0, .ref 14, .ref 23, .int (nI i), .int x5, .int x6, .null, .null] [] μ2 (a + 1) := by
    intro x5 x6
    refine es_goto (pc := 1163) (tgt := 1383) dL_law_1163 (by decide) ?_
    refine es_forget (L2 := lwL i) (by simp [ev_wk]) ?_
    exact k _ _ _ (Nat.le_refl _) g1
  refine es_if_ne (pc := 1148) (tgt := 1163) dL_law_1148 (by decide) (fun _ => hg _ _) (fun c => ?_)
  have hx : x2 = μ2 23 0 := by
    rcases g3 (c.trans nI_0.symm) with q | q
    · exact (g4 q).symm
    · exact absurd (Nat.le_trans q o3_price) (by omega)
  subst hx
  refine es_aload_n (pc := 1151) dL_law_1151 rfl ?_
  refine es_iconstN (pc := 1152) 0 dL_law_1152 ic_0 ?_
  refine es_lald (pc := 1153) dL_law_1153 lay_23 (by decide) ?_
  refine es_iload (pc := 1154) dL_law_1154 rfl ?_
  refine es_i2l (pc := 1156) dL_law_1156 ?_
  refine es_lcmp (pc := 1157) dL_law_1157 ?_
  refine es_if_eq (pc := 1158) (tgt := 1163) dL_law_1158 (by decide) (fun _ => hg _ _) (fun c => absurd (lw_cmp0 _) c)
set_option maxHeartbeats 2000000 in
set_option maxRecDepth 20000 in
theorem law_c19 {d L i a : Nat} {xs : Nat → Int32} {μ : ev_M} {S : gS} (hd : 20 ≤ d) (hi : i + 4 ≤ L) (hL : L ≤ 2048) (ha : a + 1 ≤ 512) (h : gLS μ S) (k : ∀ (μ2 : ev_M) (S2 : gS) (a2 : Nat), a2 ≤ a + 1 → gLS μ2 S2 → lwS d L xs 1383 (lwL i) [] μ2 a2) : lwS d L xs 1166 (lwL i) [] μ a := by
  obtain ⟨hW, hC, hM⟩ := h
  refine es_aload_n (pc := 1166) dL_law_1166 rfl ?_
  refine es_aload_n (pc := 1167) dL_law_1167 rfl ?_
  refine es_iload (pc := 1168) dL_law_1168 rfl ?_
  refine es_iconstN (pc := 1170) 1 dL_law_1170 ic_1 ?_
  refine es_iaddN (pc := 1171) dL_law_1171 ?_
  refine es_sald (pc := 1172) dL_law_1172 (by show i + 1 + 1 < L + 1; omega) ?_
  refine es_aload_n (pc := 1173) dL_law_1173 rfl ?_
  refine es_iload (pc := 1174) dL_law_1174 rfl ?_
  refine es_iconstN (pc := 1176) 2 dL_law_1176 ic_2 ?_
  refine es_iaddN (pc := 1177) dL_law_1177 ?_
  refine es_sald (pc := 1178) dL_law_1178 (by show i + 2 + 1 < L + 1; omega) ?_
  refine es_aload_n (pc := 1179) dL_law_1179 rfl ?_
  refine es_w4_i (pc := 1180) dL_law_1180 mr_9_148 rfl rfl rfl (Nat.le_of_ble_eq_true rfl) ha (L_whyNot_ok hC hW) (fun x1 μ1 h1 => ?_)
  refine es_istore (pc := 1183) dL_law_1183 (ok1_5 rfl) ?_
  refine es_aload_n (pc := 1185) dL_law_1185 rfl ?_
  refine es_aload_n (pc := 1186) dL_law_1186 rfl ?_
  refine es_iload (pc := 1187) dL_law_1187 rfl ?_
  refine es_iconstN (pc := 1189) 1 dL_law_1189 ic_1 ?_
  refine es_iaddN (pc := 1190) dL_law_1190 ?_
  refine es_sald (pc := 1191) dL_law_1191 (by show i + 1 + 1 < L + 1; omega) ?_
  refine es_aload_n (pc := 1192) dL_law_1192 rfl ?_
  refine es_iload (pc := 1193) dL_law_1193 rfl ?_
  refine es_iconstN (pc := 1195) 2 dL_law_1195 ic_2 ?_
  refine es_iaddN (pc := 1196) dL_law_1196 ?_
  refine es_sald (pc := 1197) dL_law_1197 (by show i + 2 + 1 < L + 1; omega) ?_
  refine es_cv2_i (pc := 1198) dL_law_1198 mr_9_150 rfl rfl (by decide) (by decide) rfl (Nat.le_of_ble_eq_true rfl) ha (X6_whyNot_ok (h1.m hM) hW) (fun x2 μ2 h2 => ?_)
  obtain ⟨g1, g2, g3, g4⟩ := gLS.two h1 h2 (wfs_q hW q_whyNot)
  refine es_istore (pc := 1201) dL_law_1201 (ok1_6 rfl) ?_
  refine es_aload_n (pc := 1203) dL_law_1203 rfl ?_
  refine es_cv0_p (pc := 1204) dL_law_1204 mr_9_86 rfl rfl (by decide) (by decide) rfl (Nat.le_of_ble_eq_true rfl) ha X6_thrown_ok ?_
  refine es_iload (pc := 1207) dL_law_1207 rfl ?_
  refine es_icmp_eq (pc := 1209) (tgt := 1214) dL_law_1209 (by decide) (fun _ => ?_) (fun c => absurd g2 c)
  refine es_iload (pc := 1214) dL_law_1214 rfl ?_
  have hg : ∀ (x5 x6 : Int32), lwS d L xs 1231 [.ref 200, .ref 0, .ref 14, .ref 23, .int (nI i), .int x5, .int x6, .null, .null] [] μ2 (a + 1) := by
    intro x5 x6
    refine es_goto (pc := 1231) (tgt := 1383) dL_law_1231 (by decide) ?_
    refine es_forget (L2 := lwL i) (by simp [ev_wk]) ?_
    exact k _ _ _ (Nat.le_refl _) g1
  refine es_if_ne (pc := 1216) (tgt := 1231) dL_law_1216 (by decide) (fun _ => hg _ _) (fun c => ?_)
  have hx : x2 = μ2 23 0 := by
    rcases g3 (c.trans nI_0.symm) with q | q
    · exact (g4 q).symm
    · exact absurd (Nat.le_trans q o3_whyNot) (by omega)
  subst hx
  refine es_aload_n (pc := 1219) dL_law_1219 rfl ?_
  refine es_iconstN (pc := 1220) 0 dL_law_1220 ic_0 ?_
  refine es_lald (pc := 1221) dL_law_1221 lay_23 (by decide) ?_
  refine es_iload (pc := 1222) dL_law_1222 rfl ?_
  refine es_i2l (pc := 1224) dL_law_1224 ?_
  refine es_lcmp (pc := 1225) dL_law_1225 ?_
  refine es_if_eq (pc := 1226) (tgt := 1231) dL_law_1226 (by decide) (fun _ => hg _ _) (fun c => absurd (lw_cmp0 _) c)
set_option maxHeartbeats 2000000 in
set_option maxRecDepth 20000 in
theorem law_c20 {d L i a : Nat} {xs : Nat → Int32} {μ : ev_M} {S : gS} (hd : 20 ≤ d) (hi : i + 4 ≤ L) (hL : L ≤ 2048) (ha : a + 1 ≤ 512) (h : gLS μ S) (k : ∀ (μ2 : ev_M) (S2 : gS) (a2 : Nat), a2 ≤ a + 1 → gLS μ2 S2 → lwS d L xs 1383 (lwL i) [] μ2 a2) : lwS d L xs 1234 (lwL i) [] μ a := by
  obtain ⟨hW, hC, hM⟩ := h
  refine es_aload_n (pc := 1234) dL_law_1234 rfl ?_
  refine es_aload_n (pc := 1235) dL_law_1235 rfl ?_
  refine es_iload (pc := 1236) dL_law_1236 rfl ?_
  refine es_iconstN (pc := 1238) 1 dL_law_1238 ic_1 ?_
  refine es_iaddN (pc := 1239) dL_law_1239 ?_
  refine es_sald (pc := 1240) dL_law_1240 (by show i + 1 + 1 < L + 1; omega) ?_
  refine es_aload_n (pc := 1241) dL_law_1241 rfl ?_
  refine es_iload (pc := 1242) dL_law_1242 rfl ?_
  refine es_iconstN (pc := 1244) 2 dL_law_1244 ic_2 ?_
  refine es_iaddN (pc := 1245) dL_law_1245 ?_
  refine es_sald (pc := 1246) dL_law_1246 (by show i + 2 + 1 < L + 1; omega) ?_
  refine es_aload_n (pc := 1247) dL_law_1247 rfl ?_
  refine es_w4_i (pc := 1248) dL_law_1248 mr_9_151 rfl rfl rfl (Nat.le_of_ble_eq_true rfl) ha (L_movesTo_ok hC hW) (fun x1 μ1 h1 => ?_)
  refine es_istore (pc := 1251) dL_law_1251 (ok1_5 rfl) ?_
  refine es_aload_n (pc := 1253) dL_law_1253 rfl ?_
  refine es_aload_n (pc := 1254) dL_law_1254 rfl ?_
  refine es_iload (pc := 1255) dL_law_1255 rfl ?_
  refine es_iconstN (pc := 1257) 1 dL_law_1257 ic_1 ?_
  refine es_iaddN (pc := 1258) dL_law_1258 ?_
  refine es_sald (pc := 1259) dL_law_1259 (by show i + 1 + 1 < L + 1; omega) ?_
  refine es_aload_n (pc := 1260) dL_law_1260 rfl ?_
  refine es_iload (pc := 1261) dL_law_1261 rfl ?_
  refine es_iconstN (pc := 1263) 2 dL_law_1263 ic_2 ?_
  refine es_iaddN (pc := 1264) dL_law_1264 ?_
  refine es_sald (pc := 1265) dL_law_1265 (by show i + 2 + 1 < L + 1; omega) ?_
  refine es_cv2_i (pc := 1266) dL_law_1266 mr_9_153 rfl rfl (by decide) (by decide) rfl (Nat.le_of_ble_eq_true rfl) ha (X6_movesTo_ok (h1.m hM) hW) (fun x2 μ2 h2 => ?_)
  obtain ⟨g1, g2, g3, g4⟩ := gLS.two h1 h2 (wfs_q hW q_moves)
  refine es_istore (pc := 1269) dL_law_1269 (ok1_6 rfl) ?_
  refine es_aload_n (pc := 1271) dL_law_1271 rfl ?_
  refine es_cv0_p (pc := 1272) dL_law_1272 mr_9_86 rfl rfl (by decide) (by decide) rfl (Nat.le_of_ble_eq_true rfl) ha X6_thrown_ok ?_
  refine es_iload (pc := 1275) dL_law_1275 rfl ?_
  refine es_icmp_eq (pc := 1277) (tgt := 1282) dL_law_1277 (by decide) (fun _ => ?_) (fun c => absurd g2 c)
  refine es_iload (pc := 1282) dL_law_1282 rfl ?_
  have hg : ∀ (x5 x6 : Int32), lwS d L xs 1299 [.ref 200, .ref 0, .ref 14, .ref 23, .int (nI i), .int x5, .int x6, .null, .null] [] μ2 (a + 1) := by
    intro x5 x6
    refine es_goto (pc := 1299) (tgt := 1383) dL_law_1299 (by decide) ?_
    refine es_forget (L2 := lwL i) (by simp [ev_wk]) ?_
    exact k _ _ _ (Nat.le_refl _) g1
  refine es_if_ne (pc := 1284) (tgt := 1299) dL_law_1284 (by decide) (fun _ => hg _ _) (fun c => ?_)
  have hx : x2 = μ2 23 0 := by
    rcases g3 (c.trans nI_0.symm) with q | q
    · exact (g4 q).symm
    · exact absurd (Nat.le_trans q o3_movesTo) (by omega)
  subst hx
  refine es_aload_n (pc := 1287) dL_law_1287 rfl ?_
  refine es_iconstN (pc := 1288) 0 dL_law_1288 ic_0 ?_
  refine es_lald (pc := 1289) dL_law_1289 lay_23 (by decide) ?_
  refine es_iload (pc := 1290) dL_law_1290 rfl ?_
  refine es_i2l (pc := 1292) dL_law_1292 ?_
  refine es_lcmp (pc := 1293) dL_law_1293 ?_
  refine es_if_eq (pc := 1294) (tgt := 1299) dL_law_1294 (by decide) (fun _ => hg _ _) (fun c => absurd (lw_cmp0 _) c)
set_option maxHeartbeats 2000000 in
set_option maxRecDepth 20000 in
theorem law_c21 {d L i a : Nat} {xs : Nat → Int32} {μ : ev_M} {S : gS} (hd : 20 ≤ d) (hi : i + 4 ≤ L) (hL : L ≤ 2048) (ha : a + 1 ≤ 512) (h : gLS μ S) (k : ∀ (μ2 : ev_M) (S2 : gS) (a2 : Nat), a2 ≤ a + 1 → gLS μ2 S2 → lwS d L xs 1383 (lwL i) [] μ2 a2) : lwS d L xs 1302 (lwL i) [] μ a := by
  obtain ⟨hW, hC, hM⟩ := h
  refine es_aload_n (pc := 1302) dL_law_1302 rfl ?_
  refine es_cv0_p (pc := 1303) dL_law_1303 mr_9_154 rfl rfl (by decide) (by decide) rfl (Nat.le_of_ble_eq_true rfl) (Nat.le_of_succ_le ha) (X5_prey_ok hC hW) ?_
  refine es_aload_n (pc := 1306) dL_law_1306 rfl ?_
  refine es_cv0_i (pc := 1307) dL_law_1307 mr_9_157 rfl rfl (by decide) (by decide) rfl (Nat.le_of_ble_eq_true rfl) (Nat.le_of_succ_le ha) (X6_prey_ok hM hW) (fun x2 μ2 h2 => ?_)
  refine es_icmp_eq (pc := 1310) (tgt := 1383) dL_law_1310 (by decide) (fun _ => k _ S _ (Nat.le_succ a) ⟨hW, FrM.c h2.2.2.2 hC, h2.2.2.1⟩) (fun c => absurd (h2.2.1 rfl).symm c)
set_option maxHeartbeats 2000000 in
set_option maxRecDepth 20000 in
theorem law_c22 {d L i a : Nat} {xs : Nat → Int32} {μ : ev_M} {S : gS} (hd : 20 ≤ d) (hi : i + 4 ≤ L) (hL : L ≤ 2048) (ha : a + 1 ≤ 512) (h : gLS μ S) (k : ∀ (μ2 : ev_M) (S2 : gS) (a2 : Nat), a2 ≤ a + 1 → gLS μ2 S2 → lwS d L xs 1383 (lwL i) [] μ2 a2) : lwS d L xs 1315 (lwL i) [] μ a := by
  obtain ⟨hW, hC, hM⟩ := h
  refine es_aload_n (pc := 1315) dL_law_1315 rfl ?_
  refine es_cv0_p (pc := 1316) dL_law_1316 mr_9_158 rfl rfl (by decide) (by decide) rfl (Nat.le_of_ble_eq_true rfl) (Nat.le_of_succ_le ha) (X5_lookout_ok hC hW) ?_
  refine es_aload_n (pc := 1319) dL_law_1319 rfl ?_
  refine es_cv0_i (pc := 1320) dL_law_1320 mr_9_161 rfl rfl (by decide) (by decide) rfl (Nat.le_of_ble_eq_true rfl) (Nat.le_of_succ_le ha) (X6_lookout_ok hM hW) (fun x2 μ2 h2 => ?_)
  refine es_icmp_eq (pc := 1323) (tgt := 1383) dL_law_1323 (by decide) (fun _ => k _ S _ (Nat.le_succ a) ⟨hW, FrM.c h2.2.2.2 hC, h2.2.2.1⟩) (fun c => absurd (h2.2.1 rfl).symm c)
set_option maxHeartbeats 2000000 in
set_option maxRecDepth 20000 in
theorem law_c23 {d L i a : Nat} {xs : Nat → Int32} {μ : ev_M} {S : gS} (hd : 20 ≤ d) (hi : i + 4 ≤ L) (hL : L ≤ 2048) (ha : a + 1 ≤ 512) (h : gLS μ S) (k : ∀ (μ2 : ev_M) (S2 : gS) (a2 : Nat), a2 ≤ a + 1 → gLS μ2 S2 → lwS d L xs 1383 (lwL i) [] μ2 a2) : lwS d L xs 1328 (lwL i) [] μ a := by
  obtain ⟨hW, hC, hM⟩ := h
  refine es_aload_n (pc := 1328) dL_law_1328 rfl ?_
  refine es_cv0_p (pc := 1329) dL_law_1329 mr_9_162 rfl rfl (by decide) (by decide) rfl (Nat.le_of_ble_eq_true rfl) (Nat.le_of_succ_le ha) (X5_belowShare_ok hC hW) ?_
  refine es_dstore (pc := 1332) dL_law_1332 (ok2_5 rfl) ?_
  refine es_aload_n (pc := 1334) dL_law_1334 rfl ?_
  refine es_cv0_d (pc := 1335) dL_law_1335 mr_9_166 rfl rfl (by decide) (by decide) rfl (Nat.le_of_ble_eq_true rfl) (Nat.le_of_succ_le ha) (X6_belowShare_ok hM hW) (fun x2 μ2 h2 => ?_)
  obtain ⟨rfl, h3, h4⟩ := h2
  refine es_dstore (pc := 1338) dL_law_1338 (ok2_7 rfl) ?_
  refine es_dload (pc := 1340) dL_law_1340 rfl ?_
  refine es_dload (pc := 1342) dL_law_1342 rfl ?_
  refine es_dcmp (pc := 1344) dL_law_1344 ?_
  generalize hv : Op.cmpValue (FP.dcmp (rShare S.1) (rShare S.1)) .l = v
  have hg : lwS d L xs 1366 [.ref 200, .ref 0, .ref 14, .ref 23, .int (nI i), .double (rShare S.1), .null, .double (rShare S.1), .null] [] μ2 a := by
    refine es_goto (pc := 1366) (tgt := 1383) dL_law_1366 (by decide) ?_
    refine es_forget (L2 := lwL i) (by simp [ev_wk]) ?_
    exact k _ S _ (Nat.le_succ a) ⟨hW, FrM.c h4 hC, h3⟩
  refine es_if_eq (pc := 1345) (tgt := 1366) dL_law_1345 (by decide) (fun _ => hg) (fun c1 => ?_)
  refine es_dload (pc := 1348) dL_law_1348 rfl ?_
  refine es_dload (pc := 1350) dL_law_1350 rfl ?_
  refine es_dcmp (pc := 1352) dL_law_1352 ?_
  rw [hv]
  refine es_if_eq (pc := 1353) (tgt := 1364) dL_law_1353 (by decide) (fun c => absurd c c1) (fun _ => ?_)
  refine es_dload (pc := 1356) dL_law_1356 rfl ?_
  refine es_dload (pc := 1358) dL_law_1358 rfl ?_
  refine es_dcmp (pc := 1360) dL_law_1360 ?_
  rw [hv]
  exact es_if_ne (pc := 1361) (tgt := 1366) dL_law_1361 (by decide) (fun _ => hg) (fun c => absurd c c1)
set_option maxHeartbeats 2000000 in
set_option maxRecDepth 20000 in
theorem law_c24 {d L i a : Nat} {xs : Nat → Int32} {μ : ev_M} {S : gS} (hd : 20 ≤ d) (hi : i + 4 ≤ L) (hL : L ≤ 2048) (ha : a + 1 ≤ 512) (h : gLS μ S) (k : ∀ (μ2 : ev_M) (S2 : gS) (a2 : Nat), a2 ≤ a + 1 → gLS μ2 S2 → lwS d L xs 1383 (lwL i) [] μ2 a2) : lwS d L xs 1369 (lwL i) [] μ a := by
  obtain ⟨hW, hC, hM⟩ := h
  refine es_aload_n (pc := 1369) dL_law_1369 rfl ?_
  refine es_cv0_l (pc := 1370) dL_law_1370 mr_9_167 rfl rfl (by decide) (by decide) rfl (Nat.le_of_ble_eq_true rfl) (Nat.le_of_succ_le ha) (X5_digest_ok hC hW) (fun x1 μ1 h1 => ?_)
  obtain ⟨rfl, h5, h6⟩ := h1
  refine es_aload_n (pc := 1373) dL_law_1373 rfl ?_
  refine es_cv0_l (pc := 1374) dL_law_1374 mr_9_171 rfl rfl (by decide) (by decide) rfl (Nat.le_of_ble_eq_true rfl) (Nat.le_of_succ_le ha) (X6_digest_ok (h6.m hM) hW) (fun x2 μ2 h2 => ?_)
  obtain ⟨rfl, h3, h4⟩ := h2
  refine es_lcmp (pc := 1377) dL_law_1377 ?_
  exact es_if_eq (pc := 1378) (tgt := 1383) dL_law_1378 (by decide) (fun _ => k _ S _ (Nat.le_succ a) ⟨hW, FrM.c h4 h5, h3⟩) (fun c => absurd (lw_cmp0 _) c)
