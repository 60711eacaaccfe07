/-! what the class answers, asked within bounds: the world as it was -/
theorem nI_n0 {k : Nat} (h : k < 2 ^ 31) : ¬ nI k < 0 := by
  rw [Int32.lt_iff_toInt_lt, nI_toInt h]
  show ¬ (k : Int) < 0
  omega
theorem is_f {k n : Nat} (h : gm_is (nI k) n = false) (hk : k < 2 ^ 31) (hn : k < n) : False := by
  rw [gm_is_nI hk] at h
  simp at h
  omega
set_option maxHeartbeats 2000000 in
set_option maxRecDepth 20000 in
theorem G_tower {d : Nat} {μ : ev_M} {S : gS} {t w : Nat} (hR : RepC μ S) (hW : WFS S) (ht : t < 10 := by omega) (hw : w < 4 := by omega) (hd : 5 ≤ d := by omega) : ev_CALL d 86 [.ref 0, .int (nI t), .int (nI w)] μ (some (.int (rTower S.1 t w)), 0) μ := by
  obtain ⟨d, rfl⟩ : ∃ q, d = q + 1 := ⟨d - 1, by omega⟩
  refine SPp.of (Nat.le_of_ble_eq_true rfl) ?_
  show es (ev_CALL d) 5 cX5_tower (some .int) 1 (0, fun _ => 0, []) (fun r μ2 => r = (some (.int (rTower S.1 t w)), 0) ∧ μ2 = μ) 0 [.ref 0, .int (nI t), .int (nI w)] [] μ 0
  refine es_iload_n (pc := 0) dX5_tower_0 rfl ?_
  refine es_cs1_p (pc := 1) dX5_tower_1 mr_5_52 rfl rfl rfl (Nat.le_of_ble_eq_true rfl) (Nat.zero_le _) (X5_isTower_ok) ?_
  refine es_if_neB (pc := 4) 17 dX5_tower_4 (by decide) (fun c4 => ?_) (fun c4 => ?_)
  · refine es_iload_n (pc := 17) dX5_tower_17 rfl ?_
    refine es_if_lt (pc := 18) (tgt := 26) dX5_tower_18 (by decide) (fun c18 => ?_) (fun c18 => ?_)
    · exact absurd c18 (nI_n0 (by omega))
    · refine es_iload_n (pc := 21) dX5_tower_21 rfl ?_
      refine es_iconstN (pc := 22) 4 dX5_tower_22 ic_4 ?_
      refine es_icmp_ltN (pc := 23) 36 dX5_tower_23 (by decide) (by omega) (by omega) (fun c23 => ?_) (fun c23 => ?_)
      · refine es_aload_n (pc := 36) dX5_tower_36 rfl ?_
        refine es_iload_n (pc := 37) dX5_tower_37 rfl ?_
        refine es_iload_n (pc := 38) dX5_tower_38 rfl ?_
        refine es_cv2_p (pc := 39) dX5_tower_39 mr_5_188 rfl rfl (by decide) (by decide) rfl (Nat.le_of_ble_eq_true rfl) (Nat.zero_le _) (X5_towerProperty_ok hR hW) ?_
        refine es_ireturn (pc := 42) dX5_tower_42 rfl (vp_nar_int _) (by decide) ?_
        exact ⟨rfl, rfl⟩
      · exact absurd c23 (by omega)
  · exact absurd (is_f c4 (by omega) ht) id
set_option maxHeartbeats 2000000 in
set_option maxRecDepth 20000 in
theorem G_playerOf {d : Nat} {μ : ev_M} {S : gS} {p w : Nat} (hR : RepC μ S) (hW : WFS S) (hp : p < rP S.1 := by omega) (hw : w < 9 := by omega) (hd : 6 ≤ d := by omega) : ev_CALL d 88 [.ref 0, .int (nI p), .int (nI w)] μ (some (.int (rPlayer S.1 p w)), 0) μ := by
  obtain ⟨d, rfl⟩ : ∃ q, d = q + 1 := ⟨d - 1, by omega⟩
  refine SPp.of (Nat.le_of_ble_eq_true rfl) ?_
  show es (ev_CALL d) 5 cX5_playerOf (some .int) 1 (0, fun _ => 0, []) (fun r μ2 => r = (some (.int (rPlayer S.1 p w)), 0) ∧ μ2 = μ) 0 [.ref 0, .int (nI p), .int (nI w)] [] μ 0
  have hm6 := hR.m
  obtain ⟨wP, wP4, won, won4, wit, wit4, wpl, wpb⟩ := WG.of (r := S.1) hR.g hW.1
  refine es_aload_n (pc := 0) dX5_playerOf_0 rfl ?_
  refine es_getR (pc := 1) dX5_playerOf_1 fr_5_10 fld_0_0 ?_
  refine es_iload_n (pc := 4) dX5_playerOf_4 rfl ?_
  refine es_cv1_p (pc := 5) dX5_playerOf_5 mr_5_124 rfl rfl (by decide) (by decide) rfl (Nat.le_of_ble_eq_true rfl) (Nat.zero_le _) (X0_hasPlayer_ok) ?_
  rw [wP, gm_is_c (by omega)]
  refine es_if_neB (pc := 8) 21 dX5_playerOf_8 (by decide) (fun c8 => ?_) (fun c8 => ?_)
  · refine es_iload_n (pc := 21) dX5_playerOf_21 rfl ?_
    refine es_if_lt (pc := 22) (tgt := 31) dX5_playerOf_22 (by decide) (fun c22 => ?_) (fun c22 => ?_)
    · exact absurd c22 (nI_n0 (by omega))
    · refine es_iload_n (pc := 25) dX5_playerOf_25 rfl ?_
      refine es_bipushN (pc := 26) 9 dX5_playerOf_26 bp_9 ?_
      refine es_icmp_ltN (pc := 28) 41 dX5_playerOf_28 (by decide) (by omega) (by omega) (fun c28 => ?_) (fun c28 => ?_)
      · refine es_aload_n (pc := 41) dX5_playerOf_41 rfl ?_
        refine es_iload_n (pc := 42) dX5_playerOf_42 rfl ?_
        refine es_iload_n (pc := 43) dX5_playerOf_43 rfl ?_
        refine es_cv2_p (pc := 44) dX5_playerOf_44 mr_5_193 rfl rfl (by decide) (by decide) rfl (Nat.le_of_ble_eq_true rfl) (Nat.zero_le _) (X5_playerProperty_ok hR hW) ?_
        refine es_ireturn (pc := 47) dX5_playerOf_47 rfl (vp_nar_int _) (by decide) ?_
        exact ⟨rfl, rfl⟩
      · exact absurd c28 (by omega)
  · exact absurd (is_f c8 (by omega) hp) id
set_option maxHeartbeats 2000000 in
set_option maxRecDepth 20000 in
theorem G_count {d : Nat} {μ : ev_M} {S : gS} {w : Nat} (hR : RepC μ S) (hW : WFS S) (hw : w < 11 := by omega) (hd : 5 ≤ d := by omega) : ev_CALL d 90 [.ref 0, .int (nI w)] μ (some (.int (sNum S w)), 0) μ := by
  obtain ⟨d, rfl⟩ : ∃ q, d = q + 1 := ⟨d - 1, by omega⟩
  refine SPp.of (Nat.le_of_ble_eq_true rfl) ?_
  show es (ev_CALL d) 5 cX5_count (some .int) 1 (0, fun _ => 0, []) (fun r μ2 => r = (some (.int (sNum S w)), 0) ∧ μ2 = μ) 0 [.ref 0, .int (nI w)] [] μ 0
  refine es_iload_n (pc := 0) dX5_count_0 rfl ?_
  refine es_if_lt (pc := 1) (tgt := 10) dX5_count_1 (by decide) (fun c1 => ?_) (fun c1 => ?_)
  · exact absurd c1 (nI_n0 (by omega))
  · refine es_iload_n (pc := 4) dX5_count_4 rfl ?_
    refine es_bipushN (pc := 5) 11 dX5_count_5 bp_11 ?_
    refine es_icmp_ltN (pc := 7) 20 dX5_count_7 (by decide) (by omega) (by omega) (fun c7 => ?_) (fun c7 => ?_)
    · refine es_aload_n (pc := 20) dX5_count_20 rfl ?_
      refine es_iload_n (pc := 21) dX5_count_21 rfl ?_
      refine es_cv1_p (pc := 22) dX5_count_22 mr_5_198 rfl rfl (by decide) (by decide) rfl (Nat.le_of_ble_eq_true rfl) (Nat.zero_le _) (X5_number_ok hR hW) ?_
      refine es_ireturn (pc := 25) dX5_count_25 rfl (vp_nar_int _) (by decide) ?_
      exact ⟨rfl, rfl⟩
    · exact absurd c7 (by omega)
set_option maxHeartbeats 2000000 in
set_option maxRecDepth 20000 in
theorem G_setting {d : Nat} {μ : ev_M} {S : gS} {w : Nat} (hR : RepC μ S) (hW : WFS S) (ht : w < 4 := by omega) (hd : 3 ≤ d := by omega) : ev_CALL d 92 [.ref 0, .int (nI w)] μ (some (.int (S.1 w)), 0) μ := by
  obtain ⟨d, rfl⟩ : ∃ q, d = q + 1 := ⟨d - 1, by omega⟩
  refine SPp.of (Nat.le_of_ble_eq_true rfl) ?_
  show es (ev_CALL d) 5 cX5_setting (some .int) 1 (0, fun _ => 0, []) (fun r μ2 => r = (some (.int (S.1 w)), 0) ∧ μ2 = μ) 0 [.ref 0, .int (nI w)] [] μ 0
  refine es_iload_n (pc := 0) dX5_setting_0 rfl ?_
  refine es_cs1_p (pc := 1) dX5_setting_1 mr_5_91 rfl rfl rfl (Nat.le_of_ble_eq_true rfl) (Nat.zero_le _) (X5_isSetting_ok) ?_
  refine es_if_neB (pc := 4) 17 dX5_setting_4 (by decide) (fun c4 => ?_) (fun c4 => ?_)
  · refine es_aload_n (pc := 17) dX5_setting_17 rfl ?_
    refine es_getR (pc := 18) dX5_setting_18 fr_5_10 fld_0_0 ?_
    refine es_getR (pc := 21) dX5_setting_21 fr_5_104 fld_44_2 ?_
    refine es_iload_n (pc := 24) dX5_setting_24 rfl ?_
    refine es_iald (pc := 25) dX5_setting_25 lay_47 (by omega) ?_
    refine es_ireturn (pc := 26) dX5_setting_26 rfl (vp_nar_int _) (by decide) ?_
    exact ⟨vI (by rw [← r44_s (μ := μ) ht, hR.g]), rfl⟩
  · exact absurd (is_f c4 (by omega) ht) id
set_option maxHeartbeats 2000000 in
set_option maxRecDepth 20000 in
theorem G_whyNot {d : Nat} {μ : ev_M} {S : gS} {p t : Nat} (hR : RepC μ S) (hW : WFS S) (hp : p < rP S.1 := by omega) (ht : t < 10 := by omega) (hd : 5 ≤ d := by omega) : ev_CALL d 96 [.ref 0, .int (nI p), .int (nI t)] μ (some (.int (rm_why S.1 p t)), 0) μ := by
  obtain ⟨d, rfl⟩ : ∃ q, d = q + 1 := ⟨d - 1, by omega⟩
  refine SPp.of (Nat.le_of_ble_eq_true rfl) ?_
  show es (ev_CALL d) 5 cX5_whyNot (some .int) 1 (0, fun _ => 0, []) (fun r μ2 => r = (some (.int (rm_why S.1 p t)), 0) ∧ μ2 = μ) 0 [.ref 0, .int (nI p), .int (nI t)] [] μ 0
  have hm6 := hR.m
  obtain ⟨wP, wP4, won, won4, wit, wit4, wpl, wpb⟩ := WG.of (r := S.1) hR.g hW.1
  refine es_aload_n (pc := 0) dX5_whyNot_0 rfl ?_
  refine es_getR (pc := 1) dX5_whyNot_1 fr_5_10 fld_0_0 ?_
  refine es_iload_n (pc := 4) dX5_whyNot_4 rfl ?_
  refine es_cv1_p (pc := 5) dX5_whyNot_5 mr_5_124 rfl rfl (by decide) (by decide) rfl (Nat.le_of_ble_eq_true rfl) (Nat.zero_le _) (X0_hasPlayer_ok) ?_
  rw [wP, gm_is_c (by omega)]
  refine es_if_eqB (pc := 8) 18 dX5_whyNot_8 (by decide) (fun c8 => ?_) (fun c8 => ?_)
  · exact absurd (is_f c8 (by omega) hp) id
  · refine es_iload_n (pc := 11) dX5_whyNot_11 rfl ?_
    refine es_cs1_p (pc := 12) dX5_whyNot_12 mr_5_52 rfl rfl rfl (Nat.le_of_ble_eq_true rfl) (Nat.zero_le _) (X5_isTower_ok) ?_
    refine es_if_neB (pc := 15) 28 dX5_whyNot_15 (by decide) (fun c15 => ?_) (fun c15 => ?_)
    · refine es_aload_n (pc := 28) dX5_whyNot_28 rfl ?_
      refine es_getR (pc := 29) dX5_whyNot_29 fr_5_10 fld_0_0 ?_
      refine es_iload_n (pc := 32) dX5_whyNot_32 rfl ?_
      refine es_iload_n (pc := 33) dX5_whyNot_33 rfl ?_
      refine es_cv2_p (pc := 34) dX5_whyNot_34 mr_5_214 rfl rfl (by decide) (by decide) rfl (Nat.le_of_ble_eq_true rfl) (Nat.zero_le _) (X0_refusalOfStride_ok (wpl _ (by omega)) (ha := wpb _)) ?_
      refine es_ireturn (pc := 37) dX5_whyNot_37 rfl (vp_nar_int _) (by decide) ?_
      exact ⟨vI (rm_why_c hR.g (by omega) ht (wpb _)), rfl⟩
    · exact absurd (is_f c15 (by omega) ht) id
