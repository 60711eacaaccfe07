theorem vI {a b : Int32} (h : a = b) : ((some (Value.int a), 0) : ev_R) = (some (.int b), 0) := by rw [h]
theorem mOn_c {μ : ev_M} {r : gm_R} {t : Nat} (hg : gR μ 44 = r) (h4 : rP r ≤ 4) : gm_mask (fun k => decide (μ 48 k = nI t)) (rP r) = gm_mask (fun k => decide (r (31 + 7 * k) = nI t)) (rP r) := by
  subst hg
  exact gm_mask_cong (fun k hk => by rw [r44_place (by omega)])
theorem mSee_c {μ : ev_M} {r : gm_R} {t : Nat} (hg : gR μ 44 = r) (ht : t < 10) : gm_mask (gm_sees (μ 45) t) 10 = gm_mask (gm_sees (rH r) t) 10 := gm_mask_cong (fun k hk => gm_sees_cong (rH_44 hg) ht hk)
theorem mWhy_c {μ : ev_M} {r : gm_R} {p : Nat} (hg : gR μ 44 = r) (hp : p < 4) (ha : rPl r p < 10) : gm_mask (fun t => decide (gm_why (μ 47 1) (μ 45) (μ 50 p) (rPl r p) t = 0)) 10 = gm_mask (fun t => decide (rm_why r p t = 0)) 10 := gm_mask_cong (fun k hk => by rw [rm_why_c hg hp hk ha])
theorem mPrey_c {μ : ev_M} {r : gm_R} (hg : gR μ 44 = r) (h4 : rP r ≤ 4) (hb : ∀ p, rPl r p < 10) : gm_mask (fun k => decide (gm_tagw (μ 45) (μ 47 3) (rIt r) (rIt r) k (rPl r (rIt r)) (rPl r k) = 0)) (rP r) = rPrey r := gm_mask_cong (fun k hk => by rw [rm_tagw_c hg (hb _) (hb _)])
theorem rLook_c {μ : ev_M} {r : gm_R} (hg : gR μ 44 = r) : (gm_look (fun t => gm_bc (gm_mask (gm_sees (μ 45) t) 10)) 10).1 = rLook r := by
  unfold rLook
  rw [gm_look_cong (fun t ht => by rw [mSee_c hg ht])]
theorem rGl_c {μ : ev_M} {r : gm_R} (hg : gR μ 44 = r) (h4 : rP r ≤ 4) : gm_sum (μ 49) (gm_sum (μ 50) (nI 0) (rP r)) (rP r) = rGl r := by
  subst hg
  unfold rGl
  rw [gm_sum_cong (f := μ 50) (g := fun p => gR μ 44 (31 + 7 * p + 2)) (fun k hk => (r44_below (by omega)).symm), gm_sum_cong (f := μ 49) (g := fun p => gR μ 44 (31 + 7 * p + 1)) (fun k hk => (r44_above (by omega)).symm)]
theorem rBl_c {μ : ev_M} {r : gm_R} (hg : gR μ 44 = r) (h4 : rP r ≤ 4) : gm_sum (μ 50) (nI 0) (rP r) = gm_sum (fun p => r (31 + 7 * p + 2)) (nI 0) (rP r) := by
  subst hg
  exact gm_sum_cong (fun k hk => (r44_below (by omega)).symm)
theorem rTw_c {μ : ev_M} {r : gm_R} (hg : gR μ 44 = r) : gm_sum (μ 46) (nI 0) 10 = rTw r := by
  subst hg
  exact gm_sum_cong (fun k hk => (r44_l hk).symm)
theorem lk_no {c : Int32} (h1 : c ≠ nI 111) (h2 : c ≠ nI 115) (h3 : c ≠ nI 119) : Op.lookupswitch.offset [(111, 45), (115, 61), (119, 35)] 85 c.toInt = 85 := by
  have q : ∀ k : Nat, k < 200 → c ≠ nI k → (k : Int) ≠ c.toInt := fun k hk h e => h (Int32.toInt_inj.mp (by rw [nI_toInt (by omega), e]))
  have q1 := q 111 (by decide) h1
  have q2 := q 115 (by decide) h2
  have q3 := q 119 (by decide) h3
  simp [Op.lookupswitch.offset] at q1 q2 q3 ⊢
  simp [q1, q2, q3]
set_option maxHeartbeats 2000000 in
set_option maxRecDepth 20000 in
theorem X5_number_ok {d : Nat} {μ : ev_M} {S : gS} {w : Nat} (hR : RepC μ S) (hW : WFS S) (hw : w < 11 := by omega) (hd : 3 ≤ d := by omega) : ev_CALL d 19 [.ref 0, .int (nI w)] μ (some (.int (sNum S w)), 0) μ := by
  obtain ⟨d, rfl⟩ : ∃ q, d = q + 1 := ⟨d - 1, by omega⟩
  refine SPp.of (Nat.le_of_ble_eq_true rfl) ?_
  show es (ev_CALL d) 5 cX5_number (some .int) 0 (0, fun _ => 0, []) (fun r μ2 => r = (some (.int (sNum S w)), 0) ∧ μ2 = μ) 0 [.ref 0, .int (nI w)] [] μ 0
  have hm6 := hR.m
  obtain ⟨ol, ho, ho6, hn, hn6, hsv⟩ := hR.2.1
  obtain ⟨wP, wP4, won, won4, wit, wit4, wpl, wpb⟩ := WG.of (r := S.1) hR.g hW.1
  refine es_iload_n (pc := 0) dX5_number_0 rfl ?_
  rcases (show w = 0 ∨ w = 1 ∨ w = 2 ∨ w = 3 ∨ w = 4 ∨ w = 5 ∨ w = 6 ∨ w = 7 ∨ w = 8 ∨ w = 9 ∨ w = 10 by omega) with rfl | rfl | rfl | rfl | rfl | rfl | rfl | rfl | rfl | rfl | rfl
  · refine es_tabin (pc := 1) (tgt := 56) (off := 55) dX5_number_1 (by decide) (by decide) (by decide) (by decide) ?_
    refine es_aload_n (pc := 56) dX5_number_56 rfl ?_
    refine es_getR (pc := 57) dX5_number_57 fr_5_10 fld_0_0 ?_
    refine es_getI (pc := 60) dX5_number_60 fr_5_78 fld_44_10 ?_
    refine es_ireturn (pc := 63) dX5_number_63 rfl (vp_nar_int _) (by decide) ?_
    exact ⟨vI (by rw [← r44_players (μ := μ), hR.g]; rfl), rfl⟩
  · refine es_tabin (pc := 1) (tgt := 64) (off := 63) dX5_number_1 (by decide) (by decide) (by decide) (by decide) ?_
    refine es_aload_n (pc := 64) dX5_number_64 rfl ?_
    refine es_getR (pc := 65) dX5_number_65 fr_5_10 fld_0_0 ?_
    refine es_getI (pc := 68) dX5_number_68 fr_5_78 fld_44_10 ?_
    refine es_if_le (pc := 71) (tgt := 84) dX5_number_71 (by decide) (fun c71 => ?_) (fun c71 => ?_)
    · refine es_iconstM (pc := 84) dX5_number_84 (-1) ic_m1 ?_
      refine es_ireturn (pc := 85) dX5_number_85 rfl (vp_nar_int _) (by decide) ?_
      exact ⟨vI ((if_pos (c := S.1 4 ≤ 0) (t := (-1 : Int32)) (e := S.1 5) (by rw [← hR.g, r44_players]; exact c71)).symm), rfl⟩
    · refine es_aload_n (pc := 74) dX5_number_74 rfl ?_
      refine es_getR (pc := 75) dX5_number_75 fr_5_10 fld_0_0 ?_
      refine es_getI (pc := 78) dX5_number_78 fr_5_283 fld_44_11 ?_
      refine es_goto (pc := 81) (tgt := 85) dX5_number_81 (by decide) ?_
      refine es_ireturn (pc := 85) dX5_number_85 rfl (vp_nar_int _) (by decide) ?_
      exact ⟨vI (by rw [← r44_onMove (μ := μ), hR.g]; exact (if_neg (c := S.1 4 ≤ 0) (t := (-1 : Int32)) (e := S.1 5) (by rw [← hR.g, r44_players]; exact c71)).symm), rfl⟩
  · refine es_tabin (pc := 1) (tgt := 86) (off := 85) dX5_number_1 (by decide) (by decide) (by decide) (by decide) ?_
    refine es_aload_n (pc := 86) dX5_number_86 rfl ?_
    refine es_getR (pc := 87) dX5_number_87 fr_5_10 fld_0_0 ?_
    refine es_getI (pc := 90) dX5_number_90 fr_5_78 fld_44_10 ?_
    refine es_if_le (pc := 93) (tgt := 106) dX5_number_93 (by decide) (fun c93 => ?_) (fun c93 => ?_)
    · refine es_iconstM (pc := 106) dX5_number_106 (-1) ic_m1 ?_
      refine es_ireturn (pc := 107) dX5_number_107 rfl (vp_nar_int _) (by decide) ?_
      exact ⟨vI ((if_pos (c := S.1 4 ≤ 0) (t := (-1 : Int32)) (e := S.1 6) (by rw [← hR.g, r44_players]; exact c93)).symm), rfl⟩
    · refine es_aload_n (pc := 96) dX5_number_96 rfl ?_
      refine es_getR (pc := 97) dX5_number_97 fr_5_10 fld_0_0 ?_
      refine es_getI (pc := 100) dX5_number_100 fr_5_265 fld_44_12 ?_
      refine es_goto (pc := 103) (tgt := 107) dX5_number_103 (by decide) ?_
      refine es_ireturn (pc := 107) dX5_number_107 rfl (vp_nar_int _) (by decide) ?_
      exact ⟨vI (by rw [← r44_it (μ := μ), hR.g]; exact (if_neg (c := S.1 4 ≤ 0) (t := (-1 : Int32)) (e := S.1 6) (by rw [← hR.g, r44_players]; exact c93)).symm), rfl⟩
  · refine es_tabin (pc := 1) (tgt := 108) (off := 107) dX5_number_1 (by decide) (by decide) (by decide) (by decide) ?_
    refine es_aload_n (pc := 108) dX5_number_108 rfl ?_
    refine es_getR (pc := 109) dX5_number_109 fr_5_10 fld_0_0 ?_
    refine es_getI (pc := 112) dX5_number_112 fr_5_173 fld_44_13 ?_
    refine es_ireturn (pc := 115) dX5_number_115 rfl (vp_nar_int _) (by decide) ?_
    exact ⟨vI (by rw [← r44_moves (μ := μ), hR.g]; rfl), rfl⟩
  · refine es_tabin (pc := 1) (tgt := 116) (off := 115) dX5_number_1 (by decide) (by decide) (by decide) (by decide) ?_
    refine es_aload_n (pc := 116) dX5_number_116 rfl ?_
    refine es_getR (pc := 117) dX5_number_117 fr_5_10 fld_0_0 ?_
    refine es_getI (pc := 120) dX5_number_120 fr_5_286 fld_44_14 ?_
    refine es_ireturn (pc := 123) dX5_number_123 rfl (vp_nar_int _) (by decide) ?_
    exact ⟨vI (by rw [← r44_refused (μ := μ), hR.g]; rfl), rfl⟩
  · refine es_tabin (pc := 1) (tgt := 124) (off := 123) dX5_number_1 (by decide) (by decide) (by decide) (by decide) ?_
    refine es_aload_n (pc := 124) dX5_number_124 rfl ?_
    refine es_getR (pc := 125) dX5_number_125 fr_5_10 fld_0_0 ?_
    refine es_getI (pc := 128) dX5_number_128 fr_5_289 fld_44_15 ?_
    refine es_ireturn (pc := 131) dX5_number_131 rfl (vp_nar_int _) (by decide) ?_
    exact ⟨vI (by rw [← r44_tags (μ := μ), hR.g]; rfl), rfl⟩
  · refine es_tabin (pc := 1) (tgt := 132) (off := 131) dX5_number_1 (by decide) (by decide) (by decide) (by decide) ?_
    refine es_aload_n (pc := 132) dX5_number_132 rfl ?_
    refine es_getR (pc := 133) dX5_number_133 fr_5_10 fld_0_0 ?_
    refine es_cv0_p (pc := 136) dX5_number_136 mr_5_292 rfl rfl (by decide) (by decide) rfl (Nat.le_of_ble_eq_true rfl) (Nat.zero_le _) (X0_sandInGlasses_ok wP) ?_
    refine es_aload_n (pc := 139) dX5_number_139 rfl ?_
    refine es_getR (pc := 140) dX5_number_140 fr_5_10 fld_0_0 ?_
    refine es_cv0_p (pc := 143) dX5_number_143 mr_5_295 rfl rfl (by decide) (by decide) rfl (Nat.le_of_ble_eq_true rfl) (Nat.zero_le _) (X0_sandOnTowers_ok) ?_
    refine es_iadd (pc := 146) dX5_number_146 ?_
    refine es_ireturn (pc := 147) dX5_number_147 rfl (vp_nar_int _) (by decide) ?_
    exact ⟨vI (by rw [rGl_c hR.g wP4, rTw_c hR.g]; rfl), rfl⟩
  · refine es_tabin (pc := 1) (tgt := 148) (off := 147) dX5_number_1 (by decide) (by decide) (by decide) (by decide) ?_
    refine es_aload_n (pc := 148) dX5_number_148 rfl ?_
    refine es_getR (pc := 149) dX5_number_149 fr_5_10 fld_0_0 ?_
    refine es_cv0_p (pc := 152) dX5_number_152 mr_5_292 rfl rfl (by decide) (by decide) rfl (Nat.le_of_ble_eq_true rfl) (Nat.zero_le _) (X0_sandInGlasses_ok wP) ?_
    refine es_ireturn (pc := 155) dX5_number_155 rfl (vp_nar_int _) (by decide) ?_
    exact ⟨vI (by rw [rGl_c hR.g wP4]; rfl), rfl⟩
  · refine es_tabin (pc := 1) (tgt := 156) (off := 155) dX5_number_1 (by decide) (by decide) (by decide) (by decide) ?_
    refine es_aload_n (pc := 156) dX5_number_156 rfl ?_
    refine es_getR (pc := 157) dX5_number_157 fr_5_10 fld_0_0 ?_
    refine es_cv0_p (pc := 160) dX5_number_160 mr_5_295 rfl rfl (by decide) (by decide) rfl (Nat.le_of_ble_eq_true rfl) (Nat.zero_le _) (X0_sandOnTowers_ok) ?_
    refine es_ireturn (pc := 163) dX5_number_163 rfl (vp_nar_int _) (by decide) ?_
    exact ⟨vI (by rw [rTw_c hR.g]; rfl), rfl⟩
  · refine es_tabin (pc := 1) (tgt := 164) (off := 163) dX5_number_1 (by decide) (by decide) (by decide) (by decide) ?_
    refine es_aload_n (pc := 164) dX5_number_164 rfl ?_
    refine es_getR (pc := 165) dX5_number_165 fr_5_10 fld_0_0 ?_
    refine es_getI (pc := 168) dX5_number_168 fr_5_298 fld_44_16 ?_
    refine es_ireturn (pc := 171) dX5_number_171 rfl (vp_nar_int _) (by decide) ?_
    exact ⟨vI (by rw [← r44_brought (μ := μ), hR.g]; rfl), rfl⟩
  · refine es_tabout (pc := 1) (tgt := 172) dX5_number_1 (Or.inr (by decide)) (by decide) ?_
    refine es_aload_n (pc := 172) dX5_number_172 rfl ?_
    refine es_getR (pc := 173) dX5_number_173 fr_5_27 fld_0_3 ?_
    refine es_getI (pc := 176) dX5_number_176 fr_5_178 fld_3_2 ?_
    refine es_ireturn (pc := 179) dX5_number_179 rfl (vp_nar_int _) (by decide) ?_
    exact ⟨vI (hn), rfl⟩
set_option maxHeartbeats 2000000 in
set_option maxRecDepth 20000 in
theorem X5_towerProperty_ok {d : Nat} {μ : ev_M} {S : gS} {t w : Nat} (hR : RepC μ S) (hW : WFS S) (ht : t < 10 := by omega) (hw : w < 4 := by omega) (hd : 3 ≤ d := by omega) : ev_CALL d 24 [.ref 0, .int (nI t), .int (nI w)] μ (some (.int (rTower S.1 t w)), 0) μ := by
  obtain ⟨d, rfl⟩ : ∃ q, d = q + 1 := ⟨d - 1, by omega⟩
  refine SPp.of (Nat.le_of_ble_eq_true rfl) ?_
  show es (ev_CALL d) 5 cX5_towerProperty (some .int) 0 (0, fun _ => 0, []) (fun r μ2 => r = (some (.int (rTower S.1 t w)), 0) ∧ μ2 = μ) 0 [.ref 0, .int (nI t), .int (nI w)] [] μ 0
  have hm6 := hR.m
  obtain ⟨ol, ho, ho6, hn, hn6, hsv⟩ := hR.2.1
  obtain ⟨wP, wP4, won, won4, wit, wit4, wpl, wpb⟩ := WG.of (r := S.1) hR.g hW.1
  refine es_iload_n (pc := 0) dX5_towerProperty_0 rfl ?_
  rcases (show w = 0 ∨ w = 1 ∨ w = 2 ∨ w = 3 by omega) with rfl | rfl | rfl | rfl
  · refine es_tabin (pc := 1) (tgt := 28) (off := 27) dX5_towerProperty_1 (by decide) (by decide) (by decide) (by decide) ?_
    refine es_aload_n (pc := 28) dX5_towerProperty_28 rfl ?_
    refine es_getR (pc := 29) dX5_towerProperty_29 fr_5_10 fld_0_0 ?_
    refine es_getR (pc := 32) dX5_towerProperty_32 fr_5_72 fld_44_0 ?_
    refine es_iload_n (pc := 35) dX5_towerProperty_35 rfl ?_
    refine es_iald (pc := 36) dX5_towerProperty_36 lay_45 (by omega) ?_
    refine es_ireturn (pc := 37) dX5_towerProperty_37 rfl (vp_nar_int _) (by decide) ?_
    exact ⟨vI (by rw [← r44_h (μ := μ) ht, hR.g]; rfl), rfl⟩
  · refine es_tabin (pc := 1) (tgt := 38) (off := 37) dX5_towerProperty_1 (by decide) (by decide) (by decide) (by decide) ?_
    refine es_aload_n (pc := 38) dX5_towerProperty_38 rfl ?_
    refine es_getR (pc := 39) dX5_towerProperty_39 fr_5_10 fld_0_0 ?_
    refine es_getR (pc := 42) dX5_towerProperty_42 fr_5_247 fld_44_1 ?_
    refine es_iload_n (pc := 45) dX5_towerProperty_45 rfl ?_
    refine es_iald (pc := 46) dX5_towerProperty_46 lay_46 (by omega) ?_
    refine es_ireturn (pc := 47) dX5_towerProperty_47 rfl (vp_nar_int _) (by decide) ?_
    exact ⟨vI (by rw [← r44_l (μ := μ) ht, hR.g]; rfl), rfl⟩
  · refine es_tabin (pc := 1) (tgt := 48) (off := 47) dX5_towerProperty_1 (by decide) (by decide) (by decide) (by decide) ?_
    refine es_aload_n (pc := 48) dX5_towerProperty_48 rfl ?_
    refine es_getR (pc := 49) dX5_towerProperty_49 fr_5_10 fld_0_0 ?_
    refine es_iload_n (pc := 52) dX5_towerProperty_52 rfl ?_
    refine es_cv1_p (pc := 53) dX5_towerProperty_53 mr_5_250 rfl rfl (by decide) (by decide) rfl (Nat.le_of_ble_eq_true rfl) (Nat.zero_le _) (X0_playersOn_ok wP) ?_
    refine es_ireturn (pc := 56) dX5_towerProperty_56 rfl (vp_nar_int _) (by decide) ?_
    exact ⟨vI (by rw [mOn_c hR.g wP4]; rfl), rfl⟩
  · refine es_tabout (pc := 1) (tgt := 57) dX5_towerProperty_1 (Or.inr (by decide)) (by decide) ?_
    refine es_aload_n (pc := 57) dX5_towerProperty_57 rfl ?_
    refine es_getR (pc := 58) dX5_towerProperty_58 fr_5_10 fld_0_0 ?_
    refine es_iload_n (pc := 61) dX5_towerProperty_61 rfl ?_
    refine es_cv1_p (pc := 62) dX5_towerProperty_62 mr_5_253 rfl rfl (by decide) (by decide) rfl (Nat.le_of_ble_eq_true rfl) (Nat.zero_le _) (X0_towersSeenFrom_ok) ?_
    refine es_ireturn (pc := 65) dX5_towerProperty_65 rfl (vp_nar_int _) (by decide) ?_
    exact ⟨vI (by rw [mSee_c hR.g ht]; rfl), rfl⟩
set_option maxHeartbeats 2000000 in
set_option maxRecDepth 20000 in
theorem X5_playerProperty_ok {d : Nat} {μ : ev_M} {S : gS} {p w : Nat} (hR : RepC μ S) (hW : WFS S) (hp : p < 4 := by omega) (hw : w < 9 := by omega) (hd : 4 ≤ d := by omega) : ev_CALL d 31 [.ref 0, .int (nI p), .int (nI w)] μ (some (.int (rPlayer S.1 p w)), 0) μ := by
  obtain ⟨d, rfl⟩ : ∃ q, d = q + 1 := ⟨d - 1, by omega⟩
  refine SPp.of (Nat.le_of_ble_eq_true rfl) ?_
  show es (ev_CALL d) 5 cX5_playerProperty (some .int) 0 (0, fun _ => 0, []) (fun r μ2 => r = (some (.int (rPlayer S.1 p w)), 0) ∧ μ2 = μ) 0 [.ref 0, .int (nI p), .int (nI w)] [] μ 0
  have hm6 := hR.m
  obtain ⟨ol, ho, ho6, hn, hn6, hsv⟩ := hR.2.1
  obtain ⟨wP, wP4, won, won4, wit, wit4, wpl, wpb⟩ := WG.of (r := S.1) hR.g hW.1
  refine es_iload_n (pc := 0) dX5_playerProperty_0 rfl ?_
  rcases (show w = 0 ∨ w = 1 ∨ w = 2 ∨ w = 3 ∨ w = 4 ∨ w = 5 ∨ w = 6 ∨ w = 7 ∨ w = 8 by omega) with rfl | rfl | rfl | rfl | rfl | rfl | rfl | rfl | rfl
  · refine es_tabin (pc := 1) (tgt := 48) (off := 47) dX5_playerProperty_1 (by decide) (by decide) (by decide) (by decide) ?_
    refine es_aload_n (pc := 48) dX5_playerProperty_48 rfl ?_
    refine es_getR (pc := 49) dX5_playerProperty_49 fr_5_10 fld_0_0 ?_
    refine es_getR (pc := 52) dX5_playerProperty_52 fr_5_256 fld_44_3 ?_
    refine es_iload_n (pc := 55) dX5_playerProperty_55 rfl ?_
    refine es_iald (pc := 56) dX5_playerProperty_56 lay_48 (by omega) ?_
    refine es_ireturn (pc := 57) dX5_playerProperty_57 rfl (vp_nar_int _) (by decide) ?_
    exact ⟨vI (by rw [← r44_place (μ := μ) hp, hR.g]; rfl), rfl⟩
  · refine es_tabin (pc := 1) (tgt := 58) (off := 57) dX5_playerProperty_1 (by decide) (by decide) (by decide) (by decide) ?_
    refine es_aload_n (pc := 58) dX5_playerProperty_58 rfl ?_
    refine es_getR (pc := 59) dX5_playerProperty_59 fr_5_10 fld_0_0 ?_
    refine es_getR (pc := 62) dX5_playerProperty_62 fr_5_259 fld_44_4 ?_
    refine es_iload_n (pc := 65) dX5_playerProperty_65 rfl ?_
    refine es_iald (pc := 66) dX5_playerProperty_66 lay_49 (by omega) ?_
    refine es_ireturn (pc := 67) dX5_playerProperty_67 rfl (vp_nar_int _) (by decide) ?_
    exact ⟨vI (by rw [← r44_above (μ := μ) hp, hR.g]; rfl), rfl⟩
  · refine es_tabin (pc := 1) (tgt := 68) (off := 67) dX5_playerProperty_1 (by decide) (by decide) (by decide) (by decide) ?_
    refine es_aload_n (pc := 68) dX5_playerProperty_68 rfl ?_
    refine es_getR (pc := 69) dX5_playerProperty_69 fr_5_10 fld_0_0 ?_
    refine es_getR (pc := 72) dX5_playerProperty_72 fr_5_262 fld_44_5 ?_
    refine es_iload_n (pc := 75) dX5_playerProperty_75 rfl ?_
    refine es_iald (pc := 76) dX5_playerProperty_76 lay_50 (by omega) ?_
    refine es_ireturn (pc := 77) dX5_playerProperty_77 rfl (vp_nar_int _) (by decide) ?_
    exact ⟨vI (by rw [← r44_below (μ := μ) hp, hR.g]; rfl), rfl⟩
  · refine es_tabin (pc := 1) (tgt := 78) (off := 77) dX5_playerProperty_1 (by decide) (by decide) (by decide) (by decide) ?_
    refine es_aload_n (pc := 78) dX5_playerProperty_78 rfl ?_
    refine es_getR (pc := 79) dX5_playerProperty_79 fr_5_10 fld_0_0 ?_
    refine es_getI (pc := 82) dX5_playerProperty_82 fr_5_265 fld_44_12 ?_
    refine es_iload_n (pc := 85) dX5_playerProperty_85 rfl ?_
    refine es_icmp_ne (pc := 86) (tgt := 93) dX5_playerProperty_86 (by decide) (fun c86 => ?_) (fun c86 => ?_)
    · refine es_iconstN (pc := 93) 0 dX5_playerProperty_93 ic_0 ?_
      refine es_ireturn (pc := 94) dX5_playerProperty_94 rfl (vp_nar_int _) (by decide) ?_
      exact ⟨vI (by have c9 := c86; rw [← r44_it (μ := μ), hR.g] at c9; simp [rPlayer, c9, bI, nI_0]), rfl⟩
    · refine es_iconstN (pc := 89) 1 dX5_playerProperty_89 ic_1 ?_
      refine es_goto (pc := 90) (tgt := 94) dX5_playerProperty_90 (by decide) ?_
      refine es_ireturn (pc := 94) dX5_playerProperty_94 rfl (vp_nar_int _) (by decide) ?_
      exact ⟨vI (by have c9 := c86; rw [← r44_it (μ := μ), hR.g] at c9; simp [rPlayer, c9, bI, nI_one]), rfl⟩
  · refine es_tabin (pc := 1) (tgt := 95) (off := 94) dX5_playerProperty_1 (by decide) (by decide) (by decide) (by decide) ?_
    refine es_aload_n (pc := 95) dX5_playerProperty_95 rfl ?_
    refine es_getR (pc := 96) dX5_playerProperty_96 fr_5_10 fld_0_0 ?_
    refine es_getR (pc := 99) dX5_playerProperty_99 fr_5_268 fld_44_6 ?_
    refine es_iload_n (pc := 102) dX5_playerProperty_102 rfl ?_
    refine es_iald (pc := 103) dX5_playerProperty_103 lay_51 (by omega) ?_
    refine es_ireturn (pc := 104) dX5_playerProperty_104 rfl (vp_nar_int _) (by decide) ?_
    exact ⟨vI (by rw [← r44_made (μ := μ) hp, hR.g]; rfl), rfl⟩
  · refine es_tabin (pc := 1) (tgt := 105) (off := 104) dX5_playerProperty_1 (by decide) (by decide) (by decide) (by decide) ?_
    refine es_aload_n (pc := 105) dX5_playerProperty_105 rfl ?_
    refine es_getR (pc := 106) dX5_playerProperty_106 fr_5_10 fld_0_0 ?_
    refine es_getR (pc := 109) dX5_playerProperty_109 fr_5_271 fld_44_7 ?_
    refine es_iload_n (pc := 112) dX5_playerProperty_112 rfl ?_
    refine es_iald (pc := 113) dX5_playerProperty_113 lay_52 (by omega) ?_
    refine es_ireturn (pc := 114) dX5_playerProperty_114 rfl (vp_nar_int _) (by decide) ?_
    exact ⟨vI (by rw [← r44_tagged (μ := μ) hp, hR.g]; rfl), rfl⟩
  · refine es_tabin (pc := 1) (tgt := 115) (off := 114) dX5_playerProperty_1 (by decide) (by decide) (by decide) (by decide) ?_
    refine es_aload_n (pc := 115) dX5_playerProperty_115 rfl ?_
    refine es_getR (pc := 116) dX5_playerProperty_116 fr_5_10 fld_0_0 ?_
    refine es_getR (pc := 119) dX5_playerProperty_119 fr_5_274 fld_44_8 ?_
    refine es_iload_n (pc := 122) dX5_playerProperty_122 rfl ?_
    refine es_iald (pc := 123) dX5_playerProperty_123 lay_53 (by omega) ?_
    refine es_ireturn (pc := 124) dX5_playerProperty_124 rfl (vp_nar_int _) (by decide) ?_
    exact ⟨vI (by rw [← r44_was (μ := μ) hp, hR.g]; rfl), rfl⟩
  · refine es_tabin (pc := 1) (tgt := 125) (off := 124) dX5_playerProperty_1 (by decide) (by decide) (by decide) (by decide) ?_
    refine es_aload_n (pc := 125) dX5_playerProperty_125 rfl ?_
    refine es_getR (pc := 126) dX5_playerProperty_126 fr_5_10 fld_0_0 ?_
    refine es_getR (pc := 129) dX5_playerProperty_129 fr_5_277 fld_44_9 ?_
    refine es_iload_n (pc := 132) dX5_playerProperty_132 rfl ?_
    refine es_iald (pc := 133) dX5_playerProperty_133 lay_54 (by omega) ?_
    refine es_ireturn (pc := 134) dX5_playerProperty_134 rfl (vp_nar_int _) (by decide) ?_
    exact ⟨vI (by rw [← r44_paid (μ := μ) hp, hR.g]; rfl), rfl⟩
  · refine es_tabout (pc := 1) (tgt := 135) dX5_playerProperty_1 (Or.inr (by decide)) (by decide) ?_
    refine es_aload_n (pc := 135) dX5_playerProperty_135 rfl ?_
    refine es_getR (pc := 136) dX5_playerProperty_136 fr_5_10 fld_0_0 ?_
    refine es_iload_n (pc := 139) dX5_playerProperty_139 rfl ?_
    refine es_cv1_p (pc := 140) dX5_playerProperty_140 mr_5_280 rfl rfl (by decide) (by decide) rfl (Nat.le_of_ble_eq_true rfl) (Nat.zero_le _) (X0_towersToStrideTo_ok (wpl _ hp) (ha := wpb _)) ?_
    refine es_ireturn (pc := 143) dX5_playerProperty_143 rfl (vp_nar_int _) (by decide) ?_
    exact ⟨vI (by rw [mWhy_c hR.g hp (wpb _)]; rfl), rfl⟩
set_option maxHeartbeats 2000000 in
set_option maxRecDepth 20000 in
theorem X5_tower_ok {d : Nat} {μ : ev_M} {S : gS} {x y : Int32} (hR : RepC μ S) (hW : WFS S) (hd : 5 ≤ d := by omega) : SPx (ev_CALL d) 86 [.ref 0, .int x, .int y] μ (QC (op_tower S x y) μ) (QE [0, 1] (op_tower S x y) μ) := by
  obtain ⟨d, rfl⟩ : ∃ q, d = q + 1 := ⟨d - 1, by omega⟩
  refine SPx.of (Nat.le_of_ble_eq_true rfl) ?_
  show es (ev_CALL d) 5 cX5_tower (some .int) 1 (0, fun _ => 0, []) (fun r μ2 => (∃ x9 : Int32, r = (some (.int x9), 0) ∧ (QC (op_tower S x y) μ) x9 μ2) ∨ (∃ E9 : Nat, r = (none, E9 + 1) ∧ (QE [0, 1] (op_tower S x y) μ) E9 μ2)) 0 [.ref 0, .int x, .int y] [] μ 0
  have hm6 := hR.m
  obtain ⟨ol, ho, ho6, hn, hn6, hsv⟩ := hR.2.1
  obtain ⟨wP, wP4, won, won4, wit, wit4, wpl, wpb⟩ := WG.of (r := S.1) hR.g hW.1
  refine es_iload_n (pc := 0) dX5_tower_0 rfl ?_
  refine es_cs1_p (pc := 1) dX5_tower_1 mr_5_52 rfl rfl rfl (Nat.le_of_ble_eq_true rfl) (Nat.zero_le _) (X5_isTower_ok) ?_
  refine es_if_neB (pc := 4) 17 dX5_tower_4 (by decide) (fun c4 => ?_) (fun c4 => ?_)
  · obtain ⟨t, ht, rfl⟩ := gm_is_t c4 (by decide)
    refine es_iload_n (pc := 17) dX5_tower_17 rfl ?_
    refine es_if_lt (pc := 18) (tgt := 26) dX5_tower_18 (by decide) (fun c18 => ?_) (fun c18 => ?_)
    · refine es_throw (pc := 26) (E := 1) dX5_tower_26 dX5_tower_29 dX5_tower_30 dX5_tower_32 dX5_tower_35 (by decide +kernel) (by decide) ?_
      exact Or.inr ⟨_, rfl, QE.of 1 (by rw [op_tower, if_neg (by simp [c4]), if_pos (gm_is_neg c18)]) rfl hR⟩
    · refine es_iload_n (pc := 21) dX5_tower_21 rfl ?_
      refine es_iconstN (pc := 22) 4 dX5_tower_22 ic_4 ?_
      refine es_icmp_lt (pc := 23) (tgt := 36) dX5_tower_23 (by decide) (fun c23 => ?_) (fun c23 => ?_)
      · obtain ⟨w, hw, rfl⟩ := gm_is_t (gm_is_ok2 (n := 4) c18 (Int32.not_le.mpr c23) (by decide)) (by decide)
        refine es_aload_n (pc := 36) dX5_tower_36 rfl ?_
        refine es_iload_n (pc := 37) dX5_tower_37 rfl ?_
        refine es_iload_n (pc := 38) dX5_tower_38 rfl ?_
        refine es_cv2_p (pc := 39) dX5_tower_39 mr_5_188 rfl rfl (by decide) (by decide) rfl (Nat.le_of_ble_eq_true rfl) (Nat.zero_le _) (X5_towerProperty_ok hR hW) ?_
        refine es_ireturn (pc := 42) dX5_tower_42 rfl (vp_nar_int _) (by decide) ?_
        exact Or.inl ⟨_, rfl, QC.of (by rw [op_tower, if_neg (by simp [c4]), if_neg (by rw [gm_is_nI (by omega)]; simp [hw]), cl_nI (by omega), cl_nI (by omega)] <;> rfl) (rfl) (hR) (Fr5.rf)⟩
      · refine es_throw (pc := 26) (E := 1) dX5_tower_26 dX5_tower_29 dX5_tower_30 dX5_tower_32 dX5_tower_35 (by decide +kernel) (by decide) ?_
        exact Or.inr ⟨_, rfl, QE.of 1 (by rw [op_tower, if_neg (by simp [c4]), if_pos (gm_is_ge (Int32.not_lt.mp c23) (by decide))]) rfl hR⟩
  · refine es_throw (pc := 7) (E := 0) dX5_tower_7 dX5_tower_10 dX5_tower_11 dX5_tower_13 dX5_tower_16 (by decide +kernel) (by decide) ?_
    exact Or.inr ⟨_, rfl, QE.of 0 (by rw [op_tower, if_pos c4]) rfl hR⟩
set_option maxHeartbeats 2000000 in
set_option maxRecDepth 20000 in
theorem X5_playerOf_ok {d : Nat} {μ : ev_M} {S : gS} {x y : Int32} (hR : RepC μ S) (hW : WFS S) (hd : 6 ≤ d := by omega) : SPx (ev_CALL d) 88 [.ref 0, .int x, .int y] μ (QC (op_playerOf S x y) μ) (QE [0, 1] (op_playerOf S x y) μ) := by
  obtain ⟨d, rfl⟩ : ∃ q, d = q + 1 := ⟨d - 1, by omega⟩
  refine SPx.of (Nat.le_of_ble_eq_true rfl) ?_
  show es (ev_CALL d) 5 cX5_playerOf (some .int) 1 (0, fun _ => 0, []) (fun r μ2 => (∃ x9 : Int32, r = (some (.int x9), 0) ∧ (QC (op_playerOf S x y) μ) x9 μ2) ∨ (∃ E9 : Nat, r = (none, E9 + 1) ∧ (QE [0, 1] (op_playerOf S x y) μ) E9 μ2)) 0 [.ref 0, .int x, .int y] [] μ 0
  have hm6 := hR.m
  obtain ⟨ol, ho, ho6, hn, hn6, hsv⟩ := hR.2.1
  obtain ⟨wP, wP4, won, won4, wit, wit4, wpl, wpb⟩ := WG.of (r := S.1) hR.g hW.1
  refine es_aload_n (pc := 0) dX5_playerOf_0 rfl ?_
  refine es_getR (pc := 1) dX5_playerOf_1 fr_5_10 fld_0_0 ?_
  refine es_iload_n (pc := 4) dX5_playerOf_4 rfl ?_
  refine es_cv1_p (pc := 5) dX5_playerOf_5 mr_5_124 rfl rfl (by decide) (by decide) rfl (Nat.le_of_ble_eq_true rfl) (Nat.zero_le _) (X0_hasPlayer_ok) ?_
  rw [wP, gm_is_c (by omega)]
  refine es_if_neB (pc := 8) 21 dX5_playerOf_8 (by decide) (fun c8 => ?_) (fun c8 => ?_)
  · obtain ⟨t, ht, rfl⟩ := gm_is_t c8 (by omega)
    refine es_iload_n (pc := 21) dX5_playerOf_21 rfl ?_
    refine es_if_lt (pc := 22) (tgt := 31) dX5_playerOf_22 (by decide) (fun c22 => ?_) (fun c22 => ?_)
    · refine es_throw (pc := 31) (E := 1) dX5_playerOf_31 dX5_playerOf_34 dX5_playerOf_35 dX5_playerOf_37 dX5_playerOf_40 (by decide +kernel) (by decide) ?_
      exact Or.inr ⟨_, rfl, QE.of 1 (by rw [op_playerOf, if_neg (by simp [c8]), if_pos (gm_is_neg c22)]) rfl hR⟩
    · refine es_iload_n (pc := 25) dX5_playerOf_25 rfl ?_
      refine es_bipushN (pc := 26) 9 dX5_playerOf_26 bp_9 ?_
      refine es_icmp_lt (pc := 28) (tgt := 41) dX5_playerOf_28 (by decide) (fun c28 => ?_) (fun c28 => ?_)
      · obtain ⟨w, hw, rfl⟩ := gm_is_t (gm_is_ok2 (n := 9) c22 (Int32.not_le.mpr c28) (by decide)) (by decide)
        refine es_aload_n (pc := 41) dX5_playerOf_41 rfl ?_
        refine es_iload_n (pc := 42) dX5_playerOf_42 rfl ?_
        refine es_iload_n (pc := 43) dX5_playerOf_43 rfl ?_
        refine es_cv2_p (pc := 44) dX5_playerOf_44 mr_5_193 rfl rfl (by decide) (by decide) rfl (Nat.le_of_ble_eq_true rfl) (Nat.zero_le _) (X5_playerProperty_ok hR hW) ?_
        refine es_ireturn (pc := 47) dX5_playerOf_47 rfl (vp_nar_int _) (by decide) ?_
        exact Or.inl ⟨_, rfl, QC.of (by rw [op_playerOf, if_neg (by simp [c8]), if_neg (by rw [gm_is_nI (by omega)]; simp [hw]), cl_nI (by omega), cl_nI (by omega)] <;> rfl) (rfl) (hR) (Fr5.rf)⟩
      · refine es_throw (pc := 31) (E := 1) dX5_playerOf_31 dX5_playerOf_34 dX5_playerOf_35 dX5_playerOf_37 dX5_playerOf_40 (by decide +kernel) (by decide) ?_
        exact Or.inr ⟨_, rfl, QE.of 1 (by rw [op_playerOf, if_neg (by simp [c8]), if_pos (gm_is_ge (Int32.not_lt.mp c28) (by decide))]) rfl hR⟩
  · refine es_throw (pc := 11) (E := 0) dX5_playerOf_11 dX5_playerOf_14 dX5_playerOf_15 dX5_playerOf_17 dX5_playerOf_20 (by decide +kernel) (by decide) ?_
    exact Or.inr ⟨_, rfl, QE.of 0 (by rw [op_playerOf, if_pos c8]) rfl hR⟩
set_option maxHeartbeats 2000000 in
set_option maxRecDepth 20000 in
theorem X5_count_ok {d : Nat} {μ : ev_M} {S : gS} {x : Int32} (hR : RepC μ S) (hW : WFS S) (hd : 5 ≤ d := by omega) : SPx (ev_CALL d) 90 [.ref 0, .int x] μ (QC (op_count S x) μ) (QE [1] (op_count S x) μ) := by
  obtain ⟨d, rfl⟩ : ∃ q, d = q + 1 := ⟨d - 1, by omega⟩
  refine SPx.of (Nat.le_of_ble_eq_true rfl) ?_
  show es (ev_CALL d) 5 cX5_count (some .int) 1 (0, fun _ => 0, []) (fun r μ2 => (∃ x9 : Int32, r = (some (.int x9), 0) ∧ (QC (op_count S x) μ) x9 μ2) ∨ (∃ E9 : Nat, r = (none, E9 + 1) ∧ (QE [1] (op_count S x) μ) E9 μ2)) 0 [.ref 0, .int x] [] μ 0
  have hm6 := hR.m
  obtain ⟨ol, ho, ho6, hn, hn6, hsv⟩ := hR.2.1
  obtain ⟨wP, wP4, won, won4, wit, wit4, wpl, wpb⟩ := WG.of (r := S.1) hR.g hW.1
  refine es_iload_n (pc := 0) dX5_count_0 rfl ?_
  refine es_if_lt (pc := 1) (tgt := 10) dX5_count_1 (by decide) (fun c1 => ?_) (fun c1 => ?_)
  · refine es_throw (pc := 10) (E := 1) dX5_count_10 dX5_count_13 dX5_count_14 dX5_count_16 dX5_count_19 (by decide +kernel) (by decide) ?_
    exact Or.inr ⟨_, rfl, QE.of 0 (by rw [op_count, if_pos (gm_is_neg c1)]) rfl hR⟩
  · refine es_iload_n (pc := 4) dX5_count_4 rfl ?_
    refine es_bipushN (pc := 5) 11 dX5_count_5 bp_11 ?_
    refine es_icmp_lt (pc := 7) (tgt := 20) dX5_count_7 (by decide) (fun c7 => ?_) (fun c7 => ?_)
    · obtain ⟨w, hw, rfl⟩ := gm_is_t (gm_is_ok2 (n := 11) c1 (Int32.not_le.mpr c7) (by decide)) (by decide)
      refine es_aload_n (pc := 20) dX5_count_20 rfl ?_
      refine es_iload_n (pc := 21) dX5_count_21 rfl ?_
      refine es_cv1_p (pc := 22) dX5_count_22 mr_5_198 rfl rfl (by decide) (by decide) rfl (Nat.le_of_ble_eq_true rfl) (Nat.zero_le _) (X5_number_ok hR hW) ?_
      refine es_ireturn (pc := 25) dX5_count_25 rfl (vp_nar_int _) (by decide) ?_
      exact Or.inl ⟨_, rfl, QC.of (by rw [op_count, if_neg (by rw [gm_is_nI (by omega)]; simp [hw]), cl_nI (by omega)] <;> rfl) (rfl) (hR) (Fr5.rf)⟩
    · refine es_throw (pc := 10) (E := 1) dX5_count_10 dX5_count_13 dX5_count_14 dX5_count_16 dX5_count_19 (by decide +kernel) (by decide) ?_
      exact Or.inr ⟨_, rfl, QE.of 0 (by rw [op_count, if_pos (gm_is_ge (Int32.not_lt.mp c7) (by decide))]) rfl hR⟩
set_option maxHeartbeats 2000000 in
set_option maxRecDepth 20000 in
theorem X5_setting_ok {d : Nat} {μ : ev_M} {S : gS} {x : Int32} (hR : RepC μ S) (hW : WFS S) (hd : 3 ≤ d := by omega) : SPx (ev_CALL d) 92 [.ref 0, .int x] μ (QC (op_setting S x) μ) (QE [0] (op_setting S x) μ) := by
  obtain ⟨d, rfl⟩ : ∃ q, d = q + 1 := ⟨d - 1, by omega⟩
  refine SPx.of (Nat.le_of_ble_eq_true rfl) ?_
  show es (ev_CALL d) 5 cX5_setting (some .int) 1 (0, fun _ => 0, []) (fun r μ2 => (∃ x9 : Int32, r = (some (.int x9), 0) ∧ (QC (op_setting S x) μ) x9 μ2) ∨ (∃ E9 : Nat, r = (none, E9 + 1) ∧ (QE [0] (op_setting S x) μ) E9 μ2)) 0 [.ref 0, .int x] [] μ 0
  have hm6 := hR.m
  obtain ⟨ol, ho, ho6, hn, hn6, hsv⟩ := hR.2.1
  obtain ⟨wP, wP4, won, won4, wit, wit4, wpl, wpb⟩ := WG.of (r := S.1) hR.g hW.1
  refine es_iload_n (pc := 0) dX5_setting_0 rfl ?_
  refine es_cs1_p (pc := 1) dX5_setting_1 mr_5_91 rfl rfl rfl (Nat.le_of_ble_eq_true rfl) (Nat.zero_le _) (X5_isSetting_ok) ?_
  refine es_if_neB (pc := 4) 17 dX5_setting_4 (by decide) (fun c4 => ?_) (fun c4 => ?_)
  · obtain ⟨t, ht, rfl⟩ := gm_is_t c4 (by decide)
    refine es_aload_n (pc := 17) dX5_setting_17 rfl ?_
    refine es_getR (pc := 18) dX5_setting_18 fr_5_10 fld_0_0 ?_
    refine es_getR (pc := 21) dX5_setting_21 fr_5_104 fld_44_2 ?_
    refine es_iload_n (pc := 24) dX5_setting_24 rfl ?_
    refine es_iald (pc := 25) dX5_setting_25 lay_47 (by omega) ?_
    refine es_ireturn (pc := 26) dX5_setting_26 rfl (vp_nar_int _) (by decide) ?_
    exact Or.inl ⟨_, rfl, QC.of (by rw [op_setting, if_neg (by simp [c4]), cl_nI (by omega)] <;> rfl) (by rw [← r44_s (μ := μ) ht, hR.g]) (hR) (Fr5.rf)⟩
  · refine es_throw (pc := 7) (E := 0) dX5_setting_7 dX5_setting_10 dX5_setting_11 dX5_setting_13 dX5_setting_16 (by decide +kernel) (by decide) ?_
    exact Or.inr ⟨_, rfl, QE.of 0 (by rw [op_setting, if_pos c4]) rfl hR⟩
set_option maxHeartbeats 2000000 in
set_option maxRecDepth 20000 in
theorem X5_whyNot_ok {d : Nat} {μ : ev_M} {S : gS} {x y : Int32} (hR : RepC μ S) (hW : WFS S) (hd : 5 ≤ d := by omega) : SPx (ev_CALL d) 96 [.ref 0, .int x, .int y] μ (QC (op_whyNot S x y) μ) (QE [0] (op_whyNot S x y) μ) := by
  obtain ⟨d, rfl⟩ : ∃ q, d = q + 1 := ⟨d - 1, by omega⟩
  refine SPx.of (Nat.le_of_ble_eq_true rfl) ?_
  show es (ev_CALL d) 5 cX5_whyNot (some .int) 1 (0, fun _ => 0, []) (fun r μ2 => (∃ x9 : Int32, r = (some (.int x9), 0) ∧ (QC (op_whyNot S x y) μ) x9 μ2) ∨ (∃ E9 : Nat, r = (none, E9 + 1) ∧ (QE [0] (op_whyNot S x y) μ) E9 μ2)) 0 [.ref 0, .int x, .int y] [] μ 0
  have hm6 := hR.m
  obtain ⟨ol, ho, ho6, hn, hn6, hsv⟩ := hR.2.1
  obtain ⟨wP, wP4, won, won4, wit, wit4, wpl, wpb⟩ := WG.of (r := S.1) hR.g hW.1
  refine es_aload_n (pc := 0) dX5_whyNot_0 rfl ?_
  refine es_getR (pc := 1) dX5_whyNot_1 fr_5_10 fld_0_0 ?_
  refine es_iload_n (pc := 4) dX5_whyNot_4 rfl ?_
  refine es_cv1_p (pc := 5) dX5_whyNot_5 mr_5_124 rfl rfl (by decide) (by decide) rfl (Nat.le_of_ble_eq_true rfl) (Nat.zero_le _) (X0_hasPlayer_ok) ?_
  rw [wP, gm_is_c (by omega)]
  refine es_if_eqB (pc := 8) 18 dX5_whyNot_8 (by decide) (fun c8 => ?_) (fun c8 => ?_)
  · refine es_throw (pc := 18) (E := 0) dX5_whyNot_18 dX5_whyNot_21 dX5_whyNot_22 dX5_whyNot_24 dX5_whyNot_27 (by decide +kernel) (by decide) ?_
    exact Or.inr ⟨_, rfl, QE.of 0 (by rw [op_whyNot, if_pos (by simp [c8])]) rfl hR⟩
  · refine es_iload_n (pc := 11) dX5_whyNot_11 rfl ?_
    refine es_cs1_p (pc := 12) dX5_whyNot_12 mr_5_52 rfl rfl rfl (Nat.le_of_ble_eq_true rfl) (Nat.zero_le _) (X5_isTower_ok) ?_
    refine es_if_neB (pc := 15) 28 dX5_whyNot_15 (by decide) (fun c15 => ?_) (fun c15 => ?_)
    · obtain ⟨p, hp, rfl⟩ := gm_is_t c8 (by omega)
      obtain ⟨t, ht, rfl⟩ := gm_is_t c15 (by omega)
      refine es_aload_n (pc := 28) dX5_whyNot_28 rfl ?_
      refine es_getR (pc := 29) dX5_whyNot_29 fr_5_10 fld_0_0 ?_
      refine es_iload_n (pc := 32) dX5_whyNot_32 rfl ?_
      refine es_iload_n (pc := 33) dX5_whyNot_33 rfl ?_
      refine es_cv2_p (pc := 34) dX5_whyNot_34 mr_5_214 rfl rfl (by decide) (by decide) rfl (Nat.le_of_ble_eq_true rfl) (Nat.zero_le _) (X0_refusalOfStride_ok (wpl _ (by omega)) (ha := wpb _)) ?_
      refine es_ireturn (pc := 37) dX5_whyNot_37 rfl (vp_nar_int _) (by decide) ?_
      exact Or.inl ⟨_, rfl, QC.of (by rw [op_whyNot, if_neg (by simp [c8, c15]), cl_nI (by omega), cl_nI (by omega)] <;> rfl) (rm_why_c hR.g (by omega) ht (wpb _)) (hR) (Fr5.rf)⟩
    · refine es_throw (pc := 18) (E := 0) dX5_whyNot_18 dX5_whyNot_21 dX5_whyNot_22 dX5_whyNot_24 dX5_whyNot_27 (by decide +kernel) (by decide) ?_
      exact Or.inr ⟨_, rfl, QE.of 0 (by rw [op_whyNot, if_pos (by simp [c15])]) rfl hR⟩
theorem gm_is_2 {z : Int32} (h0 : z ≠ 0) (h1 : z ≠ nI 1) : gm_is z 2 = false := by
  by_cases h : gm_is z 2 = true
  · obtain ⟨k, hk, rfl⟩ := gm_is_t h (by decide)
    rcases (show k = 0 ∨ k = 1 by omega) with rfl | rfl
    · exact absurd nI_0 h0
    · exact absurd rfl h1
  · simpa using h
set_option maxHeartbeats 2000000 in
set_option maxRecDepth 20000 in
theorem X5_prey_ok {d : Nat} {μ : ev_M} {S : gS} (hR : RepC μ S) (hW : WFS S) (hd : 5 ≤ d := by omega) : ev_CALL d 6 [.ref 0] μ (some (.int (rPrey S.1)), 0) μ := by
  obtain ⟨d, rfl⟩ : ∃ q, d = q + 1 := ⟨d - 1, by omega⟩
  refine SPp.of (Nat.le_of_ble_eq_true rfl) ?_
  show es (ev_CALL d) 5 cX5_prey (some .int) 0 (0, fun _ => 0, []) (fun r μ2 => r = (some (.int (rPrey S.1)), 0) ∧ μ2 = μ) 0 [.ref 0] [] μ 0
  have hm6 := hR.m
  obtain ⟨ol, ho, ho6, hn, hn6, hsv⟩ := hR.2.1
  obtain ⟨wP, wP4, won, won4, wit, wit4, wpl, wpb⟩ := WG.of (r := S.1) hR.g hW.1
  refine es_aload_n (pc := 0) dX5_prey_0 rfl ?_
  refine es_getR (pc := 1) dX5_prey_1 fr_5_10 fld_0_0 ?_
  refine es_cv0_p (pc := 4) dX5_prey_4 mr_5_221 rfl rfl (by decide) (by decide) rfl (Nat.le_of_ble_eq_true rfl) (Nat.zero_le _) (X0_playersInReachOfIt_ok (pl := rPl S.1) wP wit wpl wpb) ?_
  refine es_ireturn (pc := 7) dX5_prey_7 rfl (vp_nar_int _) (by decide) ?_
  exact ⟨vI (mPrey_c hR.g wP4 wpb), rfl⟩
set_option maxHeartbeats 2000000 in
set_option maxRecDepth 20000 in
theorem X5_lookout_ok {d : Nat} {μ : ev_M} {S : gS} (hR : RepC μ S) (hW : WFS S) (hd : 5 ≤ d := by omega) : ev_CALL d 10 [.ref 0] μ (some (.int (nI (rLook S.1))), 0) μ := by
  obtain ⟨d, rfl⟩ : ∃ q, d = q + 1 := ⟨d - 1, by omega⟩
  refine SPp.of (Nat.le_of_ble_eq_true rfl) ?_
  show es (ev_CALL d) 5 cX5_lookout (some .int) 0 (0, fun _ => 0, []) (fun r μ2 => r = (some (.int (nI (rLook S.1))), 0) ∧ μ2 = μ) 0 [.ref 0] [] μ 0
  have hm6 := hR.m
  obtain ⟨ol, ho, ho6, hn, hn6, hsv⟩ := hR.2.1
  obtain ⟨wP, wP4, won, won4, wit, wit4, wpl, wpb⟩ := WG.of (r := S.1) hR.g hW.1
  refine es_aload_n (pc := 0) dX5_lookout_0 rfl ?_
  refine es_getR (pc := 1) dX5_lookout_1 fr_5_10 fld_0_0 ?_
  refine es_cv0_p (pc := 4) dX5_lookout_4 mr_5_224 rfl rfl (by decide) (by decide) rfl (Nat.le_of_ble_eq_true rfl) (Nat.zero_le _) (X0_towerThatSeesMost_ok) ?_
  refine es_ireturn (pc := 7) dX5_lookout_7 rfl (vp_nar_int _) (by decide) ?_
  exact ⟨vI (by rw [rLook_c hR.g]), rfl⟩
