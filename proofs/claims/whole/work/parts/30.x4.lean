theorem in10 {x : Int32} : (decide (nI 0 ≤ x) && decide (x ≤ nI 9)) = gm_is x 10 := gm_is_m (n := 10) (by decide) (by decide)
theorem in4 {x : Int32} : (decide (nI 0 ≤ x) && decide (x ≤ nI 3)) = gm_is x 4 := gm_is_m (n := 4) (by decide) (by decide)
theorem in2 {x : Int32} : (decide (nI 0 ≤ x) && decide (x ≤ nI 1)) = gm_is x 2 := gm_is_m (n := 2) (by decide) (by decide)
theorem in9 {x : Int32} : (decide (nI 0 ≤ x) && decide (x ≤ nI 8)) = gm_is x 9 := gm_is_m (n := 9) (by decide) (by decide)
theorem in11 {x : Int32} : (decide (nI 0 ≤ x) && decide (x ≤ nI 10)) = gm_is x 11 := gm_is_m (n := 11) (by decide) (by decide)
theorem in201 {x : Int32} : (decide (nI 0 ≤ x) && decide (x ≤ nI 200)) = gm_is x 201 := gm_is_m (n := 201) (by decide) (by decide)
set_option maxHeartbeats 2000000 in
set_option maxRecDepth 20000 in
theorem X6_height_ok {d : Nat} {μ : ev_M} {S : gS} {x y : Int32} (hR : RepM μ S) (hW : WFS S) (hd : 4 ≤ d := by omega) : SPi (ev_CALL d) 107 [.ref 14, .int x, .int y] μ (QM (op_height S x y) μ) := by
  obtain ⟨d, rfl⟩ : ∃ q, d = q + 1 := ⟨d - 1, by omega⟩
  refine SPi.of (Nat.le_of_ble_eq_true rfl) ?_
  show es (ev_CALL d) 6 cX6_height (some .int) 0 (0, fun _ => 0, []) (fun r μ2 => ∃ x9 : Int32, r = (some (.int x9), 0) ∧ (QM (op_height S x y) μ) x9 μ2) 0 [.ref 14, .int x, .int y, .null] [] μ 0
  have hR0 := hR.t (x := nI 0)
  have hn6 := hR.n6
  have hm6 := hR.m
  obtain ⟨wP, wP4, won, won4, wit, wit4, wpl, wpb, wlt⟩ := WM.of (r := S.1) hR.g hW.1
  have w0 : ev_ms μ 14 8 (nI 0) 15 4 = nI (rP S.1) := by rw [ms_ne (by decide)]; exact wP
  refine es_aload_n (pc := 0) dX6_height_0 rfl ?_
  refine es_iconstN (pc := 1) 0 dX6_height_1 ic_0 ?_
  refine es_putI (pc := 2) dX6_height_2 fr_6_35 fld_14_8 ?_
  refine es_iload_n (pc := 5) dX6_height_5 rfl ?_
  refine es_iconstN (pc := 6) 0 dX6_height_6 ic_0 ?_
  refine es_bipushN (pc := 7) 9 dX6_height_7 bp_9 ?_
  refine es_cs3_p (pc := 9) dX6_height_9 mr_6_39 rfl rfl rfl (Nat.le_of_ble_eq_true rfl) (Nat.zero_le _) (X6_in_ok) ?_
  rw [in10]
  refine es_if_neB (pc := 12) 21 dX6_height_12 (by decide) (fun c12 => ?_) (fun c12 => ?_)
  · obtain ⟨t, ht, rfl⟩ := gm_is_t c12 (by decide)
    refine es_iload_n (pc := 21) dX6_height_21 rfl ?_
    refine es_iconstN (pc := 22) 0 dX6_height_22 ic_0 ?_
    refine es_bipushN (pc := 23) 9 dX6_height_23 bp_9 ?_
    refine es_cs3_p (pc := 25) dX6_height_25 mr_6_39 rfl rfl rfl (Nat.le_of_ble_eq_true rfl) (Nat.zero_le _) (X6_in_ok) ?_
    rw [in10]
    refine es_if_neB (pc := 28) 37 dX6_height_28 (by decide) (fun c28 => ?_) (fun c28 => ?_)
    · refine es_aload_n (pc := 37) dX6_height_37 rfl ?_
      refine es_cv0_v (pc := 38) dX6_height_38 mr_6_50 rfl rfl (by decide) (by decide) rfl (Nat.le_of_ble_eq_true rfl) (Nat.zero_le _) (X6_remember_ok) (fun μ38 h38 => ?_)
      have m38 : RM (ev_ms μ 14 8 (nI 0)) μ38 := h38
      have R1 := m38.rep hR0
      have e38 := R1.g
      refine es_aload_n (pc := 41) dX6_height_41 rfl ?_
      refine es_getR (pc := 42) dX6_height_42 fr_6_7 fld_14_0 ?_
      refine es_bipushN (pc := 45) 11 dX6_height_45 bp_11 ?_
      refine es_iload_n (pc := 47) dX6_height_47 rfl ?_
      refine es_iaddN (pc := 48) dX6_height_48 ?_
      refine es_iald (pc := 49) dX6_height_49 lay_15 (by omega) ?_
      refine es_istore_n (pc := 50) dX6_height_50 (ok1_3 rfl) ?_
      refine es_aload_n (pc := 51) dX6_height_51 rfl ?_
      refine es_getR (pc := 52) dX6_height_52 fr_6_7 fld_14_0 ?_
      refine es_bipushN (pc := 55) 11 dX6_height_55 bp_11 ?_
      refine es_iload_n (pc := 57) dX6_height_57 rfl ?_
      refine es_iaddN (pc := 58) dX6_height_58 ?_
      refine es_iload_n (pc := 59) dX6_height_59 rfl ?_
      refine es_iast (pc := 60) dX6_height_60 lay_15 (by omega) ?_
      refine es_aload_n (pc := 61) dX6_height_61 rfl ?_
      refine es_iload_n (pc := 62) dX6_height_62 rfl ?_
      refine es_cv1_i (pc := 63) dX6_height_63 mr_6_53 rfl rfl (by decide) (by decide) rfl (Nat.le_of_ble_eq_true rfl) (Nat.zero_le _) (X6_record_ok (n := S.2.1.1) (by rw [ms_ne (by decide)]; exact R1.n)) (fun x63 μ63 h63 => ?_)
      refine es_ireturn (pc := 66) dX6_height_66 rfl (vp_nar_int _) (by decide) ?_
      exact ⟨_, rfl, QM.sv hR m38 FH.rf.w (by rw [mR_w (by omega), e38]) h63.2 (by rw [op_height, if_neg (by simp [c12]), if_neg (by simp [c28]), cl_nI (by omega)]) (by rw [h63.1, ← mR_r (μ := μ38) (by omega), e38])⟩
    · refine es_aload_n (pc := 31) dX6_height_31 rfl ?_
      refine es_iconstN (pc := 32) 2 dX6_height_32 ic_2 ?_
      refine es_cv1_i (pc := 33) dX6_height_33 mr_6_46 rfl rfl (by decide) (by decide) rfl (Nat.le_of_ble_eq_true rfl) (Nat.zero_le _) (X6_wrong_ok) (fun x33 μ33 h33 => ?_)
      refine es_ireturn (pc := 36) dX6_height_36 rfl (vp_nar_int _) (by decide) ?_
      exact ⟨_, rfl, QM.no (k := 1) (by rw [op_height, if_neg (by simp [c12]), if_pos c28] <;> rfl) hR h33.2⟩
  · refine es_aload_n (pc := 15) dX6_height_15 rfl ?_
    refine es_iconstN (pc := 16) 1 dX6_height_16 ic_1 ?_
    refine es_cv1_i (pc := 17) dX6_height_17 mr_6_46 rfl rfl (by decide) (by decide) rfl (Nat.le_of_ble_eq_true rfl) (Nat.zero_le _) (X6_wrong_ok) (fun x17 μ17 h17 => ?_)
    refine es_ireturn (pc := 20) dX6_height_20 rfl (vp_nar_int _) (by decide) ?_
    exact ⟨_, rfl, QM.no (k := 0) (by rw [op_height, if_pos c12] <;> rfl) hR h17.2⟩
set_option maxHeartbeats 2000000 in
set_option maxRecDepth 20000 in
theorem X6_player_ok {d : Nat} {μ : ev_M} {S : gS} {x y : Int32} (hR : RepM μ S) (hW : WFS S) (hd : 4 ≤ d := by omega) : SPi (ev_CALL d) 108 [.ref 14, .int x, .int y] μ (QM (op_player S x y) μ) := by
  obtain ⟨d, rfl⟩ : ∃ q, d = q + 1 := ⟨d - 1, by omega⟩
  refine SPi.of (Nat.le_of_ble_eq_true rfl) ?_
  show es (ev_CALL d) 6 cX6_player (some .int) 0 (0, fun _ => 0, []) (fun r μ2 => ∃ x9 : Int32, r = (some (.int x9), 0) ∧ (QM (op_player S x y) μ) x9 μ2) 0 [.ref 14, .int x, .int y, .null] [] μ 0
  have hR0 := hR.t (x := nI 0)
  have hn6 := hR.n6
  have hm6 := hR.m
  obtain ⟨wP, wP4, won, won4, wit, wit4, wpl, wpb, wlt⟩ := WM.of (r := S.1) hR.g hW.1
  have w0 : ev_ms μ 14 8 (nI 0) 15 4 = nI (rP S.1) := by rw [ms_ne (by decide)]; exact wP
  refine es_aload_n (pc := 0) dX6_player_0 rfl ?_
  refine es_iconstN (pc := 1) 0 dX6_player_1 ic_0 ?_
  refine es_putI (pc := 2) dX6_player_2 fr_6_35 fld_14_8 ?_
  refine es_iload_n (pc := 5) dX6_player_5 rfl ?_
  refine es_iconstN (pc := 6) 0 dX6_player_6 ic_0 ?_
  refine es_bipushN (pc := 7) 9 dX6_player_7 bp_9 ?_
  refine es_cs3_p (pc := 9) dX6_player_9 mr_6_39 rfl rfl rfl (Nat.le_of_ble_eq_true rfl) (Nat.zero_le _) (X6_in_ok) ?_
  rw [in10]
  refine es_if_neB (pc := 12) 21 dX6_player_12 (by decide) (fun c12 => ?_) (fun c12 => ?_)
  · obtain ⟨t, ht, rfl⟩ := gm_is_t c12 (by decide)
    refine es_iload_n (pc := 21) dX6_player_21 rfl ?_
    refine es_iconstN (pc := 22) 0 dX6_player_22 ic_0 ?_
    refine es_sipushN (pc := 23) 200 dX6_player_23 sp_200 ?_
    refine es_cs3_p (pc := 26) dX6_player_26 mr_6_39 rfl rfl rfl (Nat.le_of_ble_eq_true rfl) (Nat.zero_le _) (X6_in_ok) ?_
    rw [in201]
    refine es_if_neB (pc := 29) 38 dX6_player_29 (by decide) (fun c29 => ?_) (fun c29 => ?_)
    · refine es_aload_n (pc := 38) dX6_player_38 rfl ?_
      refine es_getR (pc := 39) dX6_player_39 fr_6_7 fld_14_0 ?_
      refine es_iconstN (pc := 42) 4 dX6_player_42 ic_4 ?_
      refine es_iald (pc := 43) dX6_player_43 lay_15 (by omega) ?_
      refine es_top (w0) ?_
      refine es_istore_n (pc := 44) dX6_player_44 (ok1_3 rfl) ?_
      refine es_iload_n (pc := 45) dX6_player_45 rfl ?_
      refine es_iconstN (pc := 46) 4 dX6_player_46 ic_4 ?_
      refine es_icmp_neN (pc := 47) 56 dX6_player_47 (by decide) (by omega) (by omega) (fun c47 => ?_) (fun c47 => ?_)
      · have hp4 : rP S.1 < 4 := by omega
        refine es_aload_n (pc := 56) dX6_player_56 rfl ?_
        refine es_cv0_v (pc := 57) dX6_player_57 mr_6_50 rfl rfl (by decide) (by decide) rfl (Nat.le_of_ble_eq_true rfl) (Nat.zero_le _) (X6_remember_ok) (fun μ57 h57 => ?_)
        have m57 : RM (ev_ms μ 14 8 (nI 0)) μ57 := h57
        have R1 := m57.rep hR0
        have e57 := R1.g
        refine es_aload_n (pc := 60) dX6_player_60 rfl ?_
        refine es_getR (pc := 61) dX6_player_61 fr_6_7 fld_14_0 ?_
        refine es_bipushN (pc := 64) 31 dX6_player_64 bp_31 ?_
        refine es_bipushN (pc := 66) 7 dX6_player_66 bp_7 ?_
        refine es_iload_n (pc := 68) dX6_player_68 rfl ?_
        refine es_imulN (pc := 69) dX6_player_69 ?_
        refine es_iaddN (pc := 70) dX6_player_70 ?_
        refine es_iconstN (pc := 71) 0 dX6_player_71 ic_0 ?_
        refine es_iaddN (pc := 72) dX6_player_72 ?_
        refine es_iload_n (pc := 73) dX6_player_73 rfl ?_
        refine es_iast (pc := 74) dX6_player_74 lay_15 (by omega) ?_
        refine es_aload_n (pc := 75) dX6_player_75 rfl ?_
        refine es_getR (pc := 76) dX6_player_76 fr_6_7 fld_14_0 ?_
        refine es_bipushN (pc := 79) 31 dX6_player_79 bp_31 ?_
        refine es_bipushN (pc := 81) 7 dX6_player_81 bp_7 ?_
        refine es_iload_n (pc := 83) dX6_player_83 rfl ?_
        refine es_imulN (pc := 84) dX6_player_84 ?_
        refine es_iaddN (pc := 85) dX6_player_85 ?_
        refine es_iconstN (pc := 86) 1 dX6_player_86 ic_1 ?_
        refine es_iaddN (pc := 87) dX6_player_87 ?_
        refine es_iload_n (pc := 88) dX6_player_88 rfl ?_
        refine es_iast (pc := 89) dX6_player_89 lay_15 (by omega) ?_
        refine es_aload_n (pc := 90) dX6_player_90 rfl ?_
        refine es_getR (pc := 91) dX6_player_91 fr_6_7 fld_14_0 ?_
        refine es_bipushN (pc := 94) 10 dX6_player_94 bp_10 ?_
        refine es_dup2 (pc := 96) dX6_player_96 rfl rfl ?_
        refine es_iald (pc := 97) dX6_player_97 lay_15 (by omega) ?_
        refine es_top (show _ = S.1 10 by rw [ms_at, if_neg (by omega), ms_at, if_neg (by omega), ← mR_r (μ := μ57) (by decide), e57]) ?_
        refine es_iload_n (pc := 98) dX6_player_98 rfl ?_
        refine es_iadd (pc := 99) dX6_player_99 ?_
        refine es_iast (pc := 100) dX6_player_100 lay_15 (by omega) ?_
        refine es_aload_n (pc := 101) dX6_player_101 rfl ?_
        refine es_getR (pc := 102) dX6_player_102 fr_6_7 fld_14_0 ?_
        refine es_iconstN (pc := 105) 4 dX6_player_105 ic_4 ?_
        refine es_dup2 (pc := 106) dX6_player_106 rfl rfl ?_
        refine es_iald (pc := 107) dX6_player_107 lay_15 (by omega) ?_
        refine es_top (show _ = nI (rP S.1) by rw [ms_at, if_neg (by decide), ms_at, if_neg (by omega), ms_at, if_neg (by omega), m57.2 15 (by decide), w0]) ?_
        refine es_iconstN (pc := 108) 1 dX6_player_108 ic_1 ?_
        refine es_iaddN (pc := 109) dX6_player_109 ?_
        refine es_iast (pc := 110) dX6_player_110 lay_15 (by omega) ?_
        refine es_aload_n (pc := 111) dX6_player_111 rfl ?_
        refine es_iload_n (pc := 112) dX6_player_112 rfl ?_
        refine es_cv1_i (pc := 113) dX6_player_113 mr_6_53 rfl rfl (by decide) (by decide) rfl (Nat.le_of_ble_eq_true rfl) (Nat.zero_le _) (X6_record_ok (n := S.2.1.1) (by rw [ms_ne (by decide), ms_ne (by decide), ms_ne (by decide), ms_ne (by decide)]; exact R1.n)) (fun x113 μ113 h113 => ?_)
        refine es_ireturn (pc := 116) dX6_player_116 rfl (vp_nar_int _) (by decide) ?_
        exact ⟨_, rfl, QM.sv (r := gm_add S.1 (rP S.1) t y) hR m57 FH.rf.w.w.w.w (by rw [mR_w (by omega), mR_w (by omega), mR_w (by omega), mR_w (by omega), e57]; rfl) h113.2 (by rw [op_player, if_neg (by simp [c12]), if_neg (by simp [c29]), if_neg (by omega), cl_nI (by omega)]) h113.1⟩
      · refine es_aload_n (pc := 50) dX6_player_50 rfl ?_
        refine es_iconstN (pc := 51) 3 dX6_player_51 ic_3 ?_
        refine es_cv1_i (pc := 52) dX6_player_52 mr_6_46 rfl rfl (by decide) (by decide) rfl (Nat.le_of_ble_eq_true rfl) (Nat.zero_le _) (X6_wrong_ok) (fun x52 μ52 h52 => ?_)
        refine es_ireturn (pc := 55) dX6_player_55 rfl (vp_nar_int _) (by decide) ?_
        exact ⟨_, rfl, QM.no (k := 2) (by rw [op_player, if_neg (by simp [c12]), if_neg (by simp [c29]), if_pos (by omega)] <;> rfl) hR h52.2⟩
    · refine es_aload_n (pc := 32) dX6_player_32 rfl ?_
      refine es_iconstN (pc := 33) 2 dX6_player_33 ic_2 ?_
      refine es_cv1_i (pc := 34) dX6_player_34 mr_6_46 rfl rfl (by decide) (by decide) rfl (Nat.le_of_ble_eq_true rfl) (Nat.zero_le _) (X6_wrong_ok) (fun x34 μ34 h34 => ?_)
      refine es_ireturn (pc := 37) dX6_player_37 rfl (vp_nar_int _) (by decide) ?_
      exact ⟨_, rfl, QM.no (k := 1) (by rw [op_player, if_neg (by simp [c12]), if_pos c29] <;> rfl) hR h34.2⟩
  · refine es_aload_n (pc := 15) dX6_player_15 rfl ?_
    refine es_iconstN (pc := 16) 1 dX6_player_16 ic_1 ?_
    refine es_cv1_i (pc := 17) dX6_player_17 mr_6_46 rfl rfl (by decide) (by decide) rfl (Nat.le_of_ble_eq_true rfl) (Nat.zero_le _) (X6_wrong_ok) (fun x17 μ17 h17 => ?_)
    refine es_ireturn (pc := 20) dX6_player_20 rfl (vp_nar_int _) (by decide) ?_
    exact ⟨_, rfl, QM.no (k := 0) (by rw [op_player, if_pos c12] <;> rfl) hR h17.2⟩
set_option maxHeartbeats 2000000 in
set_option maxRecDepth 20000 in
theorem X6_set_ok {d : Nat} {μ : ev_M} {S : gS} {x y : Int32} (hR : RepM μ S) (hW : WFS S) (hd : 4 ≤ d := by omega) : SPi (ev_CALL d) 109 [.ref 14, .int x, .int y] μ (QM (op_set S x y) μ) := by
  obtain ⟨d, rfl⟩ : ∃ q, d = q + 1 := ⟨d - 1, by omega⟩
  refine SPi.of (Nat.le_of_ble_eq_true rfl) ?_
  show es (ev_CALL d) 6 cX6_set (some .int) 0 (0, fun _ => 0, []) (fun r μ2 => ∃ x9 : Int32, r = (some (.int x9), 0) ∧ (QM (op_set S x y) μ) x9 μ2) 0 [.ref 14, .int x, .int y, .null] [] μ 0
  have hR0 := hR.t (x := nI 0)
  have hn6 := hR.n6
  have hm6 := hR.m
  obtain ⟨wP, wP4, won, won4, wit, wit4, wpl, wpb, wlt⟩ := WM.of (r := S.1) hR.g hW.1
  have w0 : ev_ms μ 14 8 (nI 0) 15 4 = nI (rP S.1) := by rw [ms_ne (by decide)]; exact wP
  refine es_aload_n (pc := 0) dX6_set_0 rfl ?_
  refine es_iconstN (pc := 1) 0 dX6_set_1 ic_0 ?_
  refine es_putI (pc := 2) dX6_set_2 fr_6_35 fld_14_8 ?_
  refine es_iload_n (pc := 5) dX6_set_5 rfl ?_
  refine es_iconstN (pc := 6) 0 dX6_set_6 ic_0 ?_
  refine es_iconstN (pc := 7) 3 dX6_set_7 ic_3 ?_
  refine es_cs3_p (pc := 8) dX6_set_8 mr_6_39 rfl rfl rfl (Nat.le_of_ble_eq_true rfl) (Nat.zero_le _) (X6_in_ok) ?_
  rw [in4]
  refine es_if_neB (pc := 11) 20 dX6_set_11 (by decide) (fun c11 => ?_) (fun c11 => ?_)
  · obtain ⟨t, ht, rfl⟩ := gm_is_t c11 (by decide)
    refine es_iload_n (pc := 20) dX6_set_20 rfl ?_
    refine es_iload_n (pc := 21) dX6_set_21 rfl ?_
    refine es_if_neN (pc := 22) 29 dX6_set_22 (by decide) (by omega) (fun c22 => ?_) (fun c22 => ?_)
    · refine es_iconstN (pc := 29) 0 dX6_set_29 ic_0 ?_
      refine es_top (show _ = nI (gm_lo t) by rw [gm_lo, if_neg (by omega)]) ?_
      refine es_iload_n (pc := 30) dX6_set_30 rfl ?_
      refine es_if_eqN (pc := 31) 39 dX6_set_31 (by decide) (by omega) (fun c31 => ?_) (fun c31 => ?_)
      · refine es_bipushN (pc := 39) 20 dX6_set_39 bp_20 ?_
        refine es_goto (pc := 41) (tgt := 46) dX6_set_41 (by decide) ?_
        refine es_top (show _ = nI (gm_up t) by rw [c31]; rfl) ?_
        refine es_cs3_p (pc := 46) dX6_set_46 mr_6_39 rfl rfl rfl (Nat.le_of_ble_eq_true rfl) (Nat.zero_le _) (X6_in_ok) ?_
        refine es_if_neB (pc := 49) 58 dX6_set_49 (by decide) (fun c49 => ?_) (fun c49 => ?_)
        · refine es_aload_n (pc := 58) dX6_set_58 rfl ?_
          refine es_cv0_v (pc := 59) dX6_set_59 mr_6_50 rfl rfl (by decide) (by decide) rfl (Nat.le_of_ble_eq_true rfl) (Nat.zero_le _) (X6_remember_ok) (fun μ59 h59 => ?_)
          have m59 : RM (ev_ms μ 14 8 (nI 0)) μ59 := h59
          have R1 := m59.rep hR0
          have e59 := R1.g
          refine es_aload_n (pc := 62) dX6_set_62 rfl ?_
          refine es_getR (pc := 63) dX6_set_63 fr_6_7 fld_14_0 ?_
          refine es_iload_n (pc := 66) dX6_set_66 rfl ?_
          refine es_iald (pc := 67) dX6_set_67 lay_15 (by omega) ?_
          refine es_istore_n (pc := 68) dX6_set_68 (ok1_3 rfl) ?_
          refine es_aload_n (pc := 69) dX6_set_69 rfl ?_
          refine es_getR (pc := 70) dX6_set_70 fr_6_7 fld_14_0 ?_
          refine es_iload_n (pc := 73) dX6_set_73 rfl ?_
          refine es_iload_n (pc := 74) dX6_set_74 rfl ?_
          refine es_iast (pc := 75) dX6_set_75 lay_15 (by omega) ?_
          refine es_aload_n (pc := 76) dX6_set_76 rfl ?_
          refine es_iload_n (pc := 77) dX6_set_77 rfl ?_
          refine es_cv1_i (pc := 78) dX6_set_78 mr_6_53 rfl rfl (by decide) (by decide) rfl (Nat.le_of_ble_eq_true rfl) (Nat.zero_le _) (X6_record_ok (n := S.2.1.1) (by rw [ms_ne (by decide)]; exact R1.n)) (fun x78 μ78 h78 => ?_)
          refine es_ireturn (pc := 81) dX6_set_81 rfl (vp_nar_int _) (by decide) ?_
          exact ⟨_, rfl, QM.sv hR m59 FH.rf.w (by rw [mR_w (by omega), e59]) h78.2 (by rw [op_set, if_neg (by simp [c11]), if_neg (by rw [cl_nI (by omega)]; simp [c49]), cl_nI (by omega)]) (by rw [h78.1, ← mR_r (μ := μ59) (by omega), e59])⟩
        · refine es_aload_n (pc := 52) dX6_set_52 rfl ?_
          refine es_iconstN (pc := 53) 2 dX6_set_53 ic_2 ?_
          refine es_cv1_i (pc := 54) dX6_set_54 mr_6_46 rfl rfl (by decide) (by decide) rfl (Nat.le_of_ble_eq_true rfl) (Nat.zero_le _) (X6_wrong_ok) (fun x54 μ54 h54 => ?_)
          refine es_ireturn (pc := 57) dX6_set_57 rfl (vp_nar_int _) (by decide) ?_
          exact ⟨_, rfl, QM.no (k := 1) (by rw [op_set, if_neg (by simp [c11]), if_pos (by rw [cl_nI (by omega)]; exact c49)] <;> rfl) hR h54.2⟩
      · refine es_iload_n (pc := 34) dX6_set_34 rfl ?_
        refine es_iconstN (pc := 35) 2 dX6_set_35 ic_2 ?_
        refine es_icmp_neN (pc := 36) 44 dX6_set_36 (by decide) (by omega) (by omega) (fun c36 => ?_) (fun c36 => ?_)
        · refine es_bipushN (pc := 44) 9 dX6_set_44 bp_9 ?_
          refine es_top (show _ = nI (gm_up t) by rw [gm_up, if_neg (by omega), if_neg (by omega)]) ?_
          refine es_cs3_p (pc := 46) dX6_set_46 mr_6_39 rfl rfl rfl (Nat.le_of_ble_eq_true rfl) (Nat.zero_le _) (X6_in_ok) ?_
          refine es_if_neB (pc := 49) 58 dX6_set_49 (by decide) (fun c49 => ?_) (fun c49 => ?_)
          · refine es_aload_n (pc := 58) dX6_set_58 rfl ?_
            refine es_cv0_v (pc := 59) dX6_set_59 mr_6_50 rfl rfl (by decide) (by decide) rfl (Nat.le_of_ble_eq_true rfl) (Nat.zero_le _) (X6_remember_ok) (fun μ59 h59 => ?_)
            have m59 : RM (ev_ms μ 14 8 (nI 0)) μ59 := h59
            have R1 := m59.rep hR0
            have e59 := R1.g
            refine es_aload_n (pc := 62) dX6_set_62 rfl ?_
            refine es_getR (pc := 63) dX6_set_63 fr_6_7 fld_14_0 ?_
            refine es_iload_n (pc := 66) dX6_set_66 rfl ?_
            refine es_iald (pc := 67) dX6_set_67 lay_15 (by omega) ?_
            refine es_istore_n (pc := 68) dX6_set_68 (ok1_3 rfl) ?_
            refine es_aload_n (pc := 69) dX6_set_69 rfl ?_
            refine es_getR (pc := 70) dX6_set_70 fr_6_7 fld_14_0 ?_
            refine es_iload_n (pc := 73) dX6_set_73 rfl ?_
            refine es_iload_n (pc := 74) dX6_set_74 rfl ?_
            refine es_iast (pc := 75) dX6_set_75 lay_15 (by omega) ?_
            refine es_aload_n (pc := 76) dX6_set_76 rfl ?_
            refine es_iload_n (pc := 77) dX6_set_77 rfl ?_
            refine es_cv1_i (pc := 78) dX6_set_78 mr_6_53 rfl rfl (by decide) (by decide) rfl (Nat.le_of_ble_eq_true rfl) (Nat.zero_le _) (X6_record_ok (n := S.2.1.1) (by rw [ms_ne (by decide)]; exact R1.n)) (fun x78 μ78 h78 => ?_)
            refine es_ireturn (pc := 81) dX6_set_81 rfl (vp_nar_int _) (by decide) ?_
            exact ⟨_, rfl, QM.sv hR m59 FH.rf.w (by rw [mR_w (by omega), e59]) h78.2 (by rw [op_set, if_neg (by simp [c11]), if_neg (by rw [cl_nI (by omega)]; simp [c49]), cl_nI (by omega)]) (by rw [h78.1, ← mR_r (μ := μ59) (by omega), e59])⟩
          · refine es_aload_n (pc := 52) dX6_set_52 rfl ?_
            refine es_iconstN (pc := 53) 2 dX6_set_53 ic_2 ?_
            refine es_cv1_i (pc := 54) dX6_set_54 mr_6_46 rfl rfl (by decide) (by decide) rfl (Nat.le_of_ble_eq_true rfl) (Nat.zero_le _) (X6_wrong_ok) (fun x54 μ54 h54 => ?_)
            refine es_ireturn (pc := 57) dX6_set_57 rfl (vp_nar_int _) (by decide) ?_
            exact ⟨_, rfl, QM.no (k := 1) (by rw [op_set, if_neg (by simp [c11]), if_pos (by rw [cl_nI (by omega)]; exact c49)] <;> rfl) hR h54.2⟩
        · refine es_bipushN (pc := 39) 20 dX6_set_39 bp_20 ?_
          refine es_goto (pc := 41) (tgt := 46) dX6_set_41 (by decide) ?_
          refine es_top (show _ = nI (gm_up t) by rw [c36]; rfl) ?_
          refine es_cs3_p (pc := 46) dX6_set_46 mr_6_39 rfl rfl rfl (Nat.le_of_ble_eq_true rfl) (Nat.zero_le _) (X6_in_ok) ?_
          refine es_if_neB (pc := 49) 58 dX6_set_49 (by decide) (fun c49 => ?_) (fun c49 => ?_)
          · refine es_aload_n (pc := 58) dX6_set_58 rfl ?_
            refine es_cv0_v (pc := 59) dX6_set_59 mr_6_50 rfl rfl (by decide) (by decide) rfl (Nat.le_of_ble_eq_true rfl) (Nat.zero_le _) (X6_remember_ok) (fun μ59 h59 => ?_)
            have m59 : RM (ev_ms μ 14 8 (nI 0)) μ59 := h59
            have R1 := m59.rep hR0
            have e59 := R1.g
            refine es_aload_n (pc := 62) dX6_set_62 rfl ?_
            refine es_getR (pc := 63) dX6_set_63 fr_6_7 fld_14_0 ?_
            refine es_iload_n (pc := 66) dX6_set_66 rfl ?_
            refine es_iald (pc := 67) dX6_set_67 lay_15 (by omega) ?_
            refine es_istore_n (pc := 68) dX6_set_68 (ok1_3 rfl) ?_
            refine es_aload_n (pc := 69) dX6_set_69 rfl ?_
            refine es_getR (pc := 70) dX6_set_70 fr_6_7 fld_14_0 ?_
            refine es_iload_n (pc := 73) dX6_set_73 rfl ?_
            refine es_iload_n (pc := 74) dX6_set_74 rfl ?_
            refine es_iast (pc := 75) dX6_set_75 lay_15 (by omega) ?_
            refine es_aload_n (pc := 76) dX6_set_76 rfl ?_
            refine es_iload_n (pc := 77) dX6_set_77 rfl ?_
            refine es_cv1_i (pc := 78) dX6_set_78 mr_6_53 rfl rfl (by decide) (by decide) rfl (Nat.le_of_ble_eq_true rfl) (Nat.zero_le _) (X6_record_ok (n := S.2.1.1) (by rw [ms_ne (by decide)]; exact R1.n)) (fun x78 μ78 h78 => ?_)
            refine es_ireturn (pc := 81) dX6_set_81 rfl (vp_nar_int _) (by decide) ?_
            exact ⟨_, rfl, QM.sv hR m59 FH.rf.w (by rw [mR_w (by omega), e59]) h78.2 (by rw [op_set, if_neg (by simp [c11]), if_neg (by rw [cl_nI (by omega)]; simp [c49]), cl_nI (by omega)]) (by rw [h78.1, ← mR_r (μ := μ59) (by omega), e59])⟩
          · refine es_aload_n (pc := 52) dX6_set_52 rfl ?_
            refine es_iconstN (pc := 53) 2 dX6_set_53 ic_2 ?_
            refine es_cv1_i (pc := 54) dX6_set_54 mr_6_46 rfl rfl (by decide) (by decide) rfl (Nat.le_of_ble_eq_true rfl) (Nat.zero_le _) (X6_wrong_ok) (fun x54 μ54 h54 => ?_)
            refine es_ireturn (pc := 57) dX6_set_57 rfl (vp_nar_int _) (by decide) ?_
            exact ⟨_, rfl, QM.no (k := 1) (by rw [op_set, if_neg (by simp [c11]), if_pos (by rw [cl_nI (by omega)]; exact c49)] <;> rfl) hR h54.2⟩
    · refine es_iconstN (pc := 25) 1 dX6_set_25 ic_1 ?_
      refine es_goto (pc := 26) (tgt := 30) dX6_set_26 (by decide) ?_
      refine es_top (show _ = nI (gm_lo t) by rw [gm_lo, if_pos c22]) ?_
      refine es_iload_n (pc := 30) dX6_set_30 rfl ?_
      refine es_if_eqN (pc := 31) 39 dX6_set_31 (by decide) (by omega) (fun c31 => ?_) (fun c31 => ?_)
      · refine es_bipushN (pc := 39) 20 dX6_set_39 bp_20 ?_
        refine es_goto (pc := 41) (tgt := 46) dX6_set_41 (by decide) ?_
        refine es_top (show _ = nI (gm_up t) by rw [c31]; rfl) ?_
        refine es_cs3_p (pc := 46) dX6_set_46 mr_6_39 rfl rfl rfl (Nat.le_of_ble_eq_true rfl) (Nat.zero_le _) (X6_in_ok) ?_
        refine es_if_neB (pc := 49) 58 dX6_set_49 (by decide) (fun c49 => ?_) (fun c49 => ?_)
        · refine es_aload_n (pc := 58) dX6_set_58 rfl ?_
          refine es_cv0_v (pc := 59) dX6_set_59 mr_6_50 rfl rfl (by decide) (by decide) rfl (Nat.le_of_ble_eq_true rfl) (Nat.zero_le _) (X6_remember_ok) (fun μ59 h59 => ?_)
          have m59 : RM (ev_ms μ 14 8 (nI 0)) μ59 := h59
          have R1 := m59.rep hR0
          have e59 := R1.g
          refine es_aload_n (pc := 62) dX6_set_62 rfl ?_
          refine es_getR (pc := 63) dX6_set_63 fr_6_7 fld_14_0 ?_
          refine es_iload_n (pc := 66) dX6_set_66 rfl ?_
          refine es_iald (pc := 67) dX6_set_67 lay_15 (by omega) ?_
          refine es_istore_n (pc := 68) dX6_set_68 (ok1_3 rfl) ?_
          refine es_aload_n (pc := 69) dX6_set_69 rfl ?_
          refine es_getR (pc := 70) dX6_set_70 fr_6_7 fld_14_0 ?_
          refine es_iload_n (pc := 73) dX6_set_73 rfl ?_
          refine es_iload_n (pc := 74) dX6_set_74 rfl ?_
          refine es_iast (pc := 75) dX6_set_75 lay_15 (by omega) ?_
          refine es_aload_n (pc := 76) dX6_set_76 rfl ?_
          refine es_iload_n (pc := 77) dX6_set_77 rfl ?_
          refine es_cv1_i (pc := 78) dX6_set_78 mr_6_53 rfl rfl (by decide) (by decide) rfl (Nat.le_of_ble_eq_true rfl) (Nat.zero_le _) (X6_record_ok (n := S.2.1.1) (by rw [ms_ne (by decide)]; exact R1.n)) (fun x78 μ78 h78 => ?_)
          refine es_ireturn (pc := 81) dX6_set_81 rfl (vp_nar_int _) (by decide) ?_
          exact ⟨_, rfl, QM.sv hR m59 FH.rf.w (by rw [mR_w (by omega), e59]) h78.2 (by rw [op_set, if_neg (by simp [c11]), if_neg (by rw [cl_nI (by omega)]; simp [c49]), cl_nI (by omega)]) (by rw [h78.1, ← mR_r (μ := μ59) (by omega), e59])⟩
        · refine es_aload_n (pc := 52) dX6_set_52 rfl ?_
          refine es_iconstN (pc := 53) 2 dX6_set_53 ic_2 ?_
          refine es_cv1_i (pc := 54) dX6_set_54 mr_6_46 rfl rfl (by decide) (by decide) rfl (Nat.le_of_ble_eq_true rfl) (Nat.zero_le _) (X6_wrong_ok) (fun x54 μ54 h54 => ?_)
          refine es_ireturn (pc := 57) dX6_set_57 rfl (vp_nar_int _) (by decide) ?_
          exact ⟨_, rfl, QM.no (k := 1) (by rw [op_set, if_neg (by simp [c11]), if_pos (by rw [cl_nI (by omega)]; exact c49)] <;> rfl) hR h54.2⟩
      · refine es_iload_n (pc := 34) dX6_set_34 rfl ?_
        refine es_iconstN (pc := 35) 2 dX6_set_35 ic_2 ?_
        refine es_icmp_neN (pc := 36) 44 dX6_set_36 (by decide) (by omega) (by omega) (fun c36 => ?_) (fun c36 => ?_)
        · refine es_bipushN (pc := 44) 9 dX6_set_44 bp_9 ?_
          refine es_top (show _ = nI (gm_up t) by rw [gm_up, if_neg (by omega), if_neg (by omega)]) ?_
          refine es_cs3_p (pc := 46) dX6_set_46 mr_6_39 rfl rfl rfl (Nat.le_of_ble_eq_true rfl) (Nat.zero_le _) (X6_in_ok) ?_
          refine es_if_neB (pc := 49) 58 dX6_set_49 (by decide) (fun c49 => ?_) (fun c49 => ?_)
          · refine es_aload_n (pc := 58) dX6_set_58 rfl ?_
            refine es_cv0_v (pc := 59) dX6_set_59 mr_6_50 rfl rfl (by decide) (by decide) rfl (Nat.le_of_ble_eq_true rfl) (Nat.zero_le _) (X6_remember_ok) (fun μ59 h59 => ?_)
            have m59 : RM (ev_ms μ 14 8 (nI 0)) μ59 := h59
            have R1 := m59.rep hR0
            have e59 := R1.g
            refine es_aload_n (pc := 62) dX6_set_62 rfl ?_
            refine es_getR (pc := 63) dX6_set_63 fr_6_7 fld_14_0 ?_
            refine es_iload_n (pc := 66) dX6_set_66 rfl ?_
            refine es_iald (pc := 67) dX6_set_67 lay_15 (by omega) ?_
            refine es_istore_n (pc := 68) dX6_set_68 (ok1_3 rfl) ?_
            refine es_aload_n (pc := 69) dX6_set_69 rfl ?_
            refine es_getR (pc := 70) dX6_set_70 fr_6_7 fld_14_0 ?_
            refine es_iload_n (pc := 73) dX6_set_73 rfl ?_
            refine es_iload_n (pc := 74) dX6_set_74 rfl ?_
            refine es_iast (pc := 75) dX6_set_75 lay_15 (by omega) ?_
            refine es_aload_n (pc := 76) dX6_set_76 rfl ?_
            refine es_iload_n (pc := 77) dX6_set_77 rfl ?_
            refine es_cv1_i (pc := 78) dX6_set_78 mr_6_53 rfl rfl (by decide) (by decide) rfl (Nat.le_of_ble_eq_true rfl) (Nat.zero_le _) (X6_record_ok (n := S.2.1.1) (by rw [ms_ne (by decide)]; exact R1.n)) (fun x78 μ78 h78 => ?_)
            refine es_ireturn (pc := 81) dX6_set_81 rfl (vp_nar_int _) (by decide) ?_
            exact ⟨_, rfl, QM.sv hR m59 FH.rf.w (by rw [mR_w (by omega), e59]) h78.2 (by rw [op_set, if_neg (by simp [c11]), if_neg (by rw [cl_nI (by omega)]; simp [c49]), cl_nI (by omega)]) (by rw [h78.1, ← mR_r (μ := μ59) (by omega), e59])⟩
          · refine es_aload_n (pc := 52) dX6_set_52 rfl ?_
            refine es_iconstN (pc := 53) 2 dX6_set_53 ic_2 ?_
            refine es_cv1_i (pc := 54) dX6_set_54 mr_6_46 rfl rfl (by decide) (by decide) rfl (Nat.le_of_ble_eq_true rfl) (Nat.zero_le _) (X6_wrong_ok) (fun x54 μ54 h54 => ?_)
            refine es_ireturn (pc := 57) dX6_set_57 rfl (vp_nar_int _) (by decide) ?_
            exact ⟨_, rfl, QM.no (k := 1) (by rw [op_set, if_neg (by simp [c11]), if_pos (by rw [cl_nI (by omega)]; exact c49)] <;> rfl) hR h54.2⟩
        · refine es_bipushN (pc := 39) 20 dX6_set_39 bp_20 ?_
          refine es_goto (pc := 41) (tgt := 46) dX6_set_41 (by decide) ?_
          refine es_top (show _ = nI (gm_up t) by rw [c36]; rfl) ?_
          refine es_cs3_p (pc := 46) dX6_set_46 mr_6_39 rfl rfl rfl (Nat.le_of_ble_eq_true rfl) (Nat.zero_le _) (X6_in_ok) ?_
          refine es_if_neB (pc := 49) 58 dX6_set_49 (by decide) (fun c49 => ?_) (fun c49 => ?_)
          · refine es_aload_n (pc := 58) dX6_set_58 rfl ?_
            refine es_cv0_v (pc := 59) dX6_set_59 mr_6_50 rfl rfl (by decide) (by decide) rfl (Nat.le_of_ble_eq_true rfl) (Nat.zero_le _) (X6_remember_ok) (fun μ59 h59 => ?_)
            have m59 : RM (ev_ms μ 14 8 (nI 0)) μ59 := h59
            have R1 := m59.rep hR0
            have e59 := R1.g
            refine es_aload_n (pc := 62) dX6_set_62 rfl ?_
            refine es_getR (pc := 63) dX6_set_63 fr_6_7 fld_14_0 ?_
            refine es_iload_n (pc := 66) dX6_set_66 rfl ?_
            refine es_iald (pc := 67) dX6_set_67 lay_15 (by omega) ?_
            refine es_istore_n (pc := 68) dX6_set_68 (ok1_3 rfl) ?_
            refine es_aload_n (pc := 69) dX6_set_69 rfl ?_
            refine es_getR (pc := 70) dX6_set_70 fr_6_7 fld_14_0 ?_
            refine es_iload_n (pc := 73) dX6_set_73 rfl ?_
            refine es_iload_n (pc := 74) dX6_set_74 rfl ?_
            refine es_iast (pc := 75) dX6_set_75 lay_15 (by omega) ?_
            refine es_aload_n (pc := 76) dX6_set_76 rfl ?_
            refine es_iload_n (pc := 77) dX6_set_77 rfl ?_
            refine es_cv1_i (pc := 78) dX6_set_78 mr_6_53 rfl rfl (by decide) (by decide) rfl (Nat.le_of_ble_eq_true rfl) (Nat.zero_le _) (X6_record_ok (n := S.2.1.1) (by rw [ms_ne (by decide)]; exact R1.n)) (fun x78 μ78 h78 => ?_)
            refine es_ireturn (pc := 81) dX6_set_81 rfl (vp_nar_int _) (by decide) ?_
            exact ⟨_, rfl, QM.sv hR m59 FH.rf.w (by rw [mR_w (by omega), e59]) h78.2 (by rw [op_set, if_neg (by simp [c11]), if_neg (by rw [cl_nI (by omega)]; simp [c49]), cl_nI (by omega)]) (by rw [h78.1, ← mR_r (μ := μ59) (by omega), e59])⟩
          · refine es_aload_n (pc := 52) dX6_set_52 rfl ?_
            refine es_iconstN (pc := 53) 2 dX6_set_53 ic_2 ?_
            refine es_cv1_i (pc := 54) dX6_set_54 mr_6_46 rfl rfl (by decide) (by decide) rfl (Nat.le_of_ble_eq_true rfl) (Nat.zero_le _) (X6_wrong_ok) (fun x54 μ54 h54 => ?_)
            refine es_ireturn (pc := 57) dX6_set_57 rfl (vp_nar_int _) (by decide) ?_
            exact ⟨_, rfl, QM.no (k := 1) (by rw [op_set, if_neg (by simp [c11]), if_pos (by rw [cl_nI (by omega)]; exact c49)] <;> rfl) hR h54.2⟩
  · refine es_aload_n (pc := 14) dX6_set_14 rfl ?_
    refine es_iconstN (pc := 15) 1 dX6_set_15 ic_1 ?_
    refine es_cv1_i (pc := 16) dX6_set_16 mr_6_46 rfl rfl (by decide) (by decide) rfl (Nat.le_of_ble_eq_true rfl) (Nat.zero_le _) (X6_wrong_ok) (fun x16 μ16 h16 => ?_)
    refine es_ireturn (pc := 19) dX6_set_19 rfl (vp_nar_int _) (by decide) ?_
    exact ⟨_, rfl, QM.no (k := 0) (by rw [op_set, if_pos c11] <;> rfl) hR h16.2⟩
set_option maxHeartbeats 2000000 in
set_option maxRecDepth 20000 in
theorem X6_rest_ok {d : Nat} {μ : ev_M} {S : gS} (hR : RepM μ S) (hW : WFS S) (hd : 5 ≤ d := by omega) : SPi (ev_CALL d) 110 [.ref 14] μ (QM (op_rest S) μ) := by
  obtain ⟨d, rfl⟩ : ∃ q, d = q + 1 := ⟨d - 1, by omega⟩
  refine SPi.of (Nat.le_of_ble_eq_true rfl) ?_
  show es (ev_CALL d) 6 cX6_rest (some .int) 0 (0, fun _ => 0, []) (fun r μ2 => ∃ x9 : Int32, r = (some (.int x9), 0) ∧ (QM (op_rest S) μ) x9 μ2) 0 [.ref 14] [] μ 0
  have hR0 := hR.t (x := nI 0)
  have hn6 := hR.n6
  have hm6 := hR.m
  obtain ⟨wP, wP4, won, won4, wit, wit4, wpl, wpb, wlt⟩ := WM.of (r := S.1) hR.g hW.1
  have w0 : ev_ms μ 14 8 (nI 0) 15 4 = nI (rP S.1) := by rw [ms_ne (by decide)]; exact wP
  refine es_aload_n (pc := 0) dX6_rest_0 rfl ?_
  refine es_iconstN (pc := 1) 0 dX6_rest_1 ic_0 ?_
  refine es_putI (pc := 2) dX6_rest_2 fr_6_35 fld_14_8 ?_
  refine es_aload_n (pc := 5) dX6_rest_5 rfl ?_
  refine es_cv0_p (pc := 6) dX6_rest_6 mr_6_112 rfl rfl (by decide) (by decide) rfl (Nat.le_of_ble_eq_true rfl) (Nat.zero_le _) (X6_isOver_ok w0) ?_
  rw [hR0.g]
  refine es_if_eqB (pc := 9) 18 dX6_rest_9 (by decide) (fun c9 => ?_) (fun c9 => ?_)
  · have hov := c9
    refine es_aload_n (pc := 18) dX6_rest_18 rfl ?_
    refine es_cv0_v (pc := 19) dX6_rest_19 mr_6_50 rfl rfl (by decide) (by decide) rfl (Nat.le_of_ble_eq_true rfl) (Nat.zero_le _) (X6_remember_ok) (fun μ19 h19 => ?_)
    have m19 : RM (ev_ms μ 14 8 (nI 0)) μ19 := h19
    have R1 := m19.rep hR0
    have e19 := R1.g
    refine es_aload_n (pc := 22) dX6_rest_22 rfl ?_
    refine es_aload_n (pc := 23) dX6_rest_23 rfl ?_
    refine es_cv0_i (pc := 24) dX6_rest_24 mr_6_116 rfl rfl (by decide) (by decide) rfl (Nat.le_of_ble_eq_true rfl) (Nat.zero_le _) (X6_waits_ok (by rw [e19]; exact hW.1) (by rw [e19]; exact over_P hW.1 hov)) (fun x24 μ24 h24 => ?_)
    refine es_cv1_i (pc := 27) dX6_rest_27 mr_6_53 rfl rfl (by decide) (by decide) rfl (Nat.le_of_ble_eq_true rfl) (Nat.zero_le _) (X6_record_ok (n := S.2.1.1) (by rw [h24.2.2.2 5 (by decide)]; exact R1.n)) (fun x27 μ27 h27 => ?_)
    refine es_ireturn (pc := 30) dX6_rest_30 rfl (vp_nar_int _) (by decide) ?_
    exact ⟨_, rfl, QM.sv (r := rm_wait S.1) hR m19 h24.2.2 (by rw [h24.2.1, e19]) h27.2 (by rw [op_rest, if_neg (by simp [hov])]) (by rw [h27.1, h24.1, e19])⟩
  · refine es_aload_n (pc := 12) dX6_rest_12 rfl ?_
    refine es_iconstN (pc := 13) 1 dX6_rest_13 ic_1 ?_
    refine es_cv1_i (pc := 14) dX6_rest_14 mr_6_46 rfl rfl (by decide) (by decide) rfl (Nat.le_of_ble_eq_true rfl) (Nat.zero_le _) (X6_wrong_ok) (fun x14 μ14 h14 => ?_)
    refine es_ireturn (pc := 17) dX6_rest_17 rfl (vp_nar_int _) (by decide) ?_
    exact ⟨_, rfl, QM.no (k := 0) (by rw [op_rest, if_pos c9] <;> rfl) hR h14.2⟩
set_option maxHeartbeats 2000000 in
set_option maxRecDepth 20000 in
theorem X6_stride_ok {d : Nat} {μ : ev_M} {S : gS} {x : Int32} (hR : RepM μ S) (hW : WFS S) (hd : 6 ≤ d := by omega) : SPi (ev_CALL d) 119 [.ref 14, .int x] μ (QM (op_stride S x) μ) := by
  obtain ⟨d, rfl⟩ : ∃ q, d = q + 1 := ⟨d - 1, by omega⟩
  refine SPi.of (Nat.le_of_ble_eq_true rfl) ?_
  show es (ev_CALL d) 6 cX6_stride (some .int) 0 (0, fun _ => 0, []) (fun r μ2 => ∃ x9 : Int32, r = (some (.int x9), 0) ∧ (QM (op_stride S x) μ) x9 μ2) 0 [.ref 14, .int x] [] μ 0
  have hR0 := hR.t (x := nI 0)
  have hn6 := hR.n6
  have hm6 := hR.m
  obtain ⟨wP, wP4, won, won4, wit, wit4, wpl, wpb, wlt⟩ := WM.of (r := S.1) hR.g hW.1
  have w0 : ev_ms μ 14 8 (nI 0) 15 4 = nI (rP S.1) := by rw [ms_ne (by decide)]; exact wP
  refine es_aload_n (pc := 0) dX6_stride_0 rfl ?_
  refine es_iconstN (pc := 1) 0 dX6_stride_1 ic_0 ?_
  refine es_putI (pc := 2) dX6_stride_2 fr_6_35 fld_14_8 ?_
  refine es_iload_n (pc := 5) dX6_stride_5 rfl ?_
  refine es_iconstN (pc := 6) 0 dX6_stride_6 ic_0 ?_
  refine es_bipushN (pc := 7) 9 dX6_stride_7 bp_9 ?_
  refine es_cs3_p (pc := 9) dX6_stride_9 mr_6_39 rfl rfl rfl (Nat.le_of_ble_eq_true rfl) (Nat.zero_le _) (X6_in_ok) ?_
  rw [in10]
  refine es_if_neB (pc := 12) 21 dX6_stride_12 (by decide) (fun c12 => ?_) (fun c12 => ?_)
  · obtain ⟨t, ht, rfl⟩ := gm_is_t c12 (by decide)
    refine es_aload_n (pc := 21) dX6_stride_21 rfl ?_
    refine es_cv0_p (pc := 22) dX6_stride_22 mr_6_112 rfl rfl (by decide) (by decide) rfl (Nat.le_of_ble_eq_true rfl) (Nat.zero_le _) (X6_isOver_ok w0) ?_
    rw [hR0.g]
    refine es_if_eqB (pc := 25) 34 dX6_stride_25 (by decide) (fun c25 => ?_) (fun c25 => ?_)
    · have hov := c25
      refine es_aload_n (pc := 34) dX6_stride_34 rfl ?_
      refine es_cv0_v (pc := 35) dX6_stride_35 mr_6_50 rfl rfl (by decide) (by decide) rfl (Nat.le_of_ble_eq_true rfl) (Nat.zero_le _) (X6_remember_ok) (fun μ35 h35 => ?_)
      have m35 : RM (ev_ms μ 14 8 (nI 0)) μ35 := h35
      have R1 := m35.rep hR0
      have e35 := R1.g
      refine es_aload_n (pc := 38) dX6_stride_38 rfl ?_
      refine es_aload_n (pc := 39) dX6_stride_39 rfl ?_
      refine es_iload_n (pc := 40) dX6_stride_40 rfl ?_
      refine es_cv1_i (pc := 41) dX6_stride_41 mr_6_119 rfl rfl (by decide) (by decide) rfl (Nat.le_of_ble_eq_true rfl) (Nat.zero_le _) (X6_goes_ok (by rw [e35]; exact hW.1) (by rw [e35]; exact over_P hW.1 hov)) (fun x41 μ41 h41 => ?_)
      refine es_cv1_i (pc := 44) dX6_stride_44 mr_6_53 rfl rfl (by decide) (by decide) rfl (Nat.le_of_ble_eq_true rfl) (Nat.zero_le _) (X6_record_ok (n := S.2.1.1) (by rw [h41.2.2.2 5 (by decide)]; exact R1.n)) (fun x44 μ44 h44 => ?_)
      refine es_ireturn (pc := 47) dX6_stride_47 rfl (vp_nar_int _) (by decide) ?_
      exact ⟨_, rfl, QM.sv (r := (rm_stride S.1 t).2) hR m35 h41.2.2 (by rw [h41.2.1, e35]) h44.2 (by rw [op_stride, if_neg (by simp [c12]), if_neg (by simp [hov]), cl_nI (by omega)]) (by rw [h44.1, h41.1, e35])⟩
    · refine es_aload_n (pc := 28) dX6_stride_28 rfl ?_
      refine es_iconstN (pc := 29) 2 dX6_stride_29 ic_2 ?_
      refine es_cv1_i (pc := 30) dX6_stride_30 mr_6_46 rfl rfl (by decide) (by decide) rfl (Nat.le_of_ble_eq_true rfl) (Nat.zero_le _) (X6_wrong_ok) (fun x30 μ30 h30 => ?_)
      refine es_ireturn (pc := 33) dX6_stride_33 rfl (vp_nar_int _) (by decide) ?_
      exact ⟨_, rfl, QM.no (k := 1) (by rw [op_stride, if_neg (by simp [c12]), if_pos c25] <;> rfl) hR h30.2⟩
  · refine es_aload_n (pc := 15) dX6_stride_15 rfl ?_
    refine es_iconstN (pc := 16) 1 dX6_stride_16 ic_1 ?_
    refine es_cv1_i (pc := 17) dX6_stride_17 mr_6_46 rfl rfl (by decide) (by decide) rfl (Nat.le_of_ble_eq_true rfl) (Nat.zero_le _) (X6_wrong_ok) (fun x17 μ17 h17 => ?_)
    refine es_ireturn (pc := 20) dX6_stride_20 rfl (vp_nar_int _) (by decide) ?_
    exact ⟨_, rfl, QM.no (k := 0) (by rw [op_stride, if_pos c12] <;> rfl) hR h17.2⟩
set_option maxHeartbeats 2000000 in
set_option maxRecDepth 20000 in
theorem X6_turnOver_ok {d : Nat} {μ : ev_M} {S : gS} (hR : RepM μ S) (hW : WFS S) (hd : 6 ≤ d := by omega) : SPi (ev_CALL d) 127 [.ref 14] μ (QM (op_turn S) μ) := by
  obtain ⟨d, rfl⟩ : ∃ q, d = q + 1 := ⟨d - 1, by omega⟩
  refine SPi.of (Nat.le_of_ble_eq_true rfl) ?_
  show es (ev_CALL d) 6 cX6_turnOver (some .int) 0 (0, fun _ => 0, []) (fun r μ2 => ∃ x9 : Int32, r = (some (.int x9), 0) ∧ (QM (op_turn S) μ) x9 μ2) 0 [.ref 14] [] μ 0
  have hR0 := hR.t (x := nI 0)
  have hn6 := hR.n6
  have hm6 := hR.m
  obtain ⟨wP, wP4, won, won4, wit, wit4, wpl, wpb, wlt⟩ := WM.of (r := S.1) hR.g hW.1
  have w0 : ev_ms μ 14 8 (nI 0) 15 4 = nI (rP S.1) := by rw [ms_ne (by decide)]; exact wP
  refine es_aload_n (pc := 0) dX6_turnOver_0 rfl ?_
  refine es_iconstN (pc := 1) 0 dX6_turnOver_1 ic_0 ?_
  refine es_putI (pc := 2) dX6_turnOver_2 fr_6_35 fld_14_8 ?_
  refine es_aload_n (pc := 5) dX6_turnOver_5 rfl ?_
  refine es_cv0_p (pc := 6) dX6_turnOver_6 mr_6_112 rfl rfl (by decide) (by decide) rfl (Nat.le_of_ble_eq_true rfl) (Nat.zero_le _) (X6_isOver_ok w0) ?_
  rw [hR0.g]
  refine es_if_eqB (pc := 9) 18 dX6_turnOver_9 (by decide) (fun c9 => ?_) (fun c9 => ?_)
  · have hov := c9
    refine es_aload_n (pc := 18) dX6_turnOver_18 rfl ?_
    refine es_cv0_v (pc := 19) dX6_turnOver_19 mr_6_50 rfl rfl (by decide) (by decide) rfl (Nat.le_of_ble_eq_true rfl) (Nat.zero_le _) (X6_remember_ok) (fun μ19 h19 => ?_)
    have m19 : RM (ev_ms μ 14 8 (nI 0)) μ19 := h19
    have R1 := m19.rep hR0
    have e19 := R1.g
    refine es_aload_n (pc := 22) dX6_turnOver_22 rfl ?_
    refine es_aload_n (pc := 23) dX6_turnOver_23 rfl ?_
    refine es_cv0_i (pc := 24) dX6_turnOver_24 mr_6_122 rfl rfl (by decide) (by decide) rfl (Nat.le_of_ble_eq_true rfl) (Nat.zero_le _) (X6_overs_ok (by rw [e19]; exact hW.1) (by rw [e19]; exact over_P hW.1 hov)) (fun x24 μ24 h24 => ?_)
    refine es_cv1_i (pc := 27) dX6_turnOver_27 mr_6_53 rfl rfl (by decide) (by decide) rfl (Nat.le_of_ble_eq_true rfl) (Nat.zero_le _) (X6_record_ok (n := S.2.1.1) (by rw [h24.2.2.2 5 (by decide)]; exact R1.n)) (fun x27 μ27 h27 => ?_)
    refine es_ireturn (pc := 30) dX6_turnOver_30 rfl (vp_nar_int _) (by decide) ?_
    exact ⟨_, rfl, QM.sv (r := (rm_turn S.1).2) hR m19 h24.2.2 (by rw [h24.2.1, e19]) h27.2 (by rw [op_turn, if_neg (by simp [hov])]) (by rw [h27.1, h24.1, e19])⟩
  · refine es_aload_n (pc := 12) dX6_turnOver_12 rfl ?_
    refine es_iconstN (pc := 13) 1 dX6_turnOver_13 ic_1 ?_
    refine es_cv1_i (pc := 14) dX6_turnOver_14 mr_6_46 rfl rfl (by decide) (by decide) rfl (Nat.le_of_ble_eq_true rfl) (Nat.zero_le _) (X6_wrong_ok) (fun x14 μ14 h14 => ?_)
    refine es_ireturn (pc := 17) dX6_turnOver_17 rfl (vp_nar_int _) (by decide) ?_
    exact ⟨_, rfl, QM.no (k := 0) (by rw [op_turn, if_pos c9] <;> rfl) hR h14.2⟩
set_option maxHeartbeats 2000000 in
set_option maxRecDepth 20000 in
theorem X6_tag_ok {d : Nat} {μ : ev_M} {S : gS} {x : Int32} (hR : RepM μ S) (hW : WFS S) (hd : 6 ≤ d := by omega) : SPi (ev_CALL d) 130 [.ref 14, .int x] μ (QM (op_tag S x) μ) := by
  obtain ⟨d, rfl⟩ : ∃ q, d = q + 1 := ⟨d - 1, by omega⟩
  refine SPi.of (Nat.le_of_ble_eq_true rfl) ?_
  show es (ev_CALL d) 6 cX6_tag (some .int) 0 (0, fun _ => 0, []) (fun r μ2 => ∃ x9 : Int32, r = (some (.int x9), 0) ∧ (QM (op_tag S x) μ) x9 μ2) 0 [.ref 14, .int x] [] μ 0
  have hR0 := hR.t (x := nI 0)
  have hn6 := hR.n6
  have hm6 := hR.m
  obtain ⟨wP, wP4, won, won4, wit, wit4, wpl, wpb, wlt⟩ := WM.of (r := S.1) hR.g hW.1
  have w0 : ev_ms μ 14 8 (nI 0) 15 4 = nI (rP S.1) := by rw [ms_ne (by decide)]; exact wP
  refine es_aload_n (pc := 0) dX6_tag_0 rfl ?_
  refine es_iconstN (pc := 1) 0 dX6_tag_1 ic_0 ?_
  refine es_putI (pc := 2) dX6_tag_2 fr_6_35 fld_14_8 ?_
  refine es_aload_n (pc := 5) dX6_tag_5 rfl ?_
  refine es_iload_n (pc := 6) dX6_tag_6 rfl ?_
  refine es_cv1_p (pc := 7) dX6_tag_7 mr_6_125 rfl rfl (by decide) (by decide) rfl (Nat.le_of_ble_eq_true rfl) (Nat.zero_le _) (X6_isPlayer_ok w0) ?_
  refine es_if_neB (pc := 10) 19 dX6_tag_10 (by decide) (fun c10 => ?_) (fun c10 => ?_)
  · obtain ⟨t, ht, rfl⟩ := gm_is_t c10 (by omega)
    refine es_aload_n (pc := 19) dX6_tag_19 rfl ?_
    refine es_cv0_p (pc := 20) dX6_tag_20 mr_6_112 rfl rfl (by decide) (by decide) rfl (Nat.le_of_ble_eq_true rfl) (Nat.zero_le _) (X6_isOver_ok w0) ?_
    rw [hR0.g]
    refine es_if_eqB (pc := 23) 32 dX6_tag_23 (by decide) (fun c23 => ?_) (fun c23 => ?_)
    · have hov := c23
      refine es_aload_n (pc := 32) dX6_tag_32 rfl ?_
      refine es_cv0_v (pc := 33) dX6_tag_33 mr_6_50 rfl rfl (by decide) (by decide) rfl (Nat.le_of_ble_eq_true rfl) (Nat.zero_le _) (X6_remember_ok) (fun μ33 h33 => ?_)
      have m33 : RM (ev_ms μ 14 8 (nI 0)) μ33 := h33
      have R1 := m33.rep hR0
      have e33 := R1.g
      refine es_aload_n (pc := 36) dX6_tag_36 rfl ?_
      refine es_aload_n (pc := 37) dX6_tag_37 rfl ?_
      refine es_iload_n (pc := 38) dX6_tag_38 rfl ?_
      refine es_cv1_i (pc := 39) dX6_tag_39 mr_6_129 rfl rfl (by decide) (by decide) rfl (Nat.le_of_ble_eq_true rfl) (Nat.zero_le _) (X6_tags_ok (by rw [e33]; exact hW.1) (by rw [e33]; exact over_P hW.1 hov)) (fun x39 μ39 h39 => ?_)
      refine es_cv1_i (pc := 42) dX6_tag_42 mr_6_53 rfl rfl (by decide) (by decide) rfl (Nat.le_of_ble_eq_true rfl) (Nat.zero_le _) (X6_record_ok (n := S.2.1.1) (by rw [h39.2.2.2 5 (by decide)]; exact R1.n)) (fun x42 μ42 h42 => ?_)
      refine es_ireturn (pc := 45) dX6_tag_45 rfl (vp_nar_int _) (by decide) ?_
      exact ⟨_, rfl, QM.sv (r := (rm_tag S.1 t).2) hR m33 h39.2.2 (by rw [h39.2.1, e33]) h42.2 (by rw [op_tag, if_neg (by simp [c10]), if_neg (by simp [hov]), cl_nI (by omega)]) (by rw [h42.1, h39.1, e33])⟩
    · refine es_aload_n (pc := 26) dX6_tag_26 rfl ?_
      refine es_iconstN (pc := 27) 2 dX6_tag_27 ic_2 ?_
      refine es_cv1_i (pc := 28) dX6_tag_28 mr_6_46 rfl rfl (by decide) (by decide) rfl (Nat.le_of_ble_eq_true rfl) (Nat.zero_le _) (X6_wrong_ok) (fun x28 μ28 h28 => ?_)
      refine es_ireturn (pc := 31) dX6_tag_31 rfl (vp_nar_int _) (by decide) ?_
      exact ⟨_, rfl, QM.no (k := 1) (by rw [op_tag, if_neg (by simp [c10]), if_pos c23] <;> rfl) hR h28.2⟩
  · refine es_aload_n (pc := 13) dX6_tag_13 rfl ?_
    refine es_iconstN (pc := 14) 1 dX6_tag_14 ic_1 ?_
    refine es_cv1_i (pc := 15) dX6_tag_15 mr_6_46 rfl rfl (by decide) (by decide) rfl (Nat.le_of_ble_eq_true rfl) (Nat.zero_le _) (X6_wrong_ok) (fun x15 μ15 h15 => ?_)
    refine es_ireturn (pc := 18) dX6_tag_18 rfl (vp_nar_int _) (by decide) ?_
    exact ⟨_, rfl, QM.no (k := 0) (by rw [op_tag, if_pos c10] <;> rfl) hR h15.2⟩
theorem RepM.txt {μ : ev_M} {S : gS} {n : Nat} (hR : RepM μ S) (hn : n ≤ 60) : RepM (ev_ms μ 14 7 (nI n)) (S.1, S.2.1, S.2.2.1, (n, S.2.2.2.2)) := by
  obtain ⟨r1, ⟨r2, r3, r4⟩, r5, r6, r7, r8⟩ := hR
  refine ⟨by rw [mR_n (by decide)]; exact r1, ⟨by rw [ms_at, if_neg (by decide)]; exact r2, r3, fun i hi => by rw [← r4 i hi]; exact pR_cong (fun j _ => by rw [ms_ne (by decide)])⟩, fun s hs => ⟨by rw [ms_ne (by decide)]; exact (r5 s hs).1, fun hf => by rw [← (r5 s hs).2 hf]; exact pR_cong (fun j _ => by rw [ms_ne (by decide)])⟩, by rw [ms_at, if_pos rfl], hn, by rw [ms_ne (by decide)]; exact r8⟩
theorem RepM.code {μ : ev_M} {S : gS} {n : Nat} {x : Int32} (hR : RepM μ S) : RepM (ev_ms μ 20 n x) (S.1, S.2.1, S.2.2.1, (S.2.2.2.1, gCodes S.2.2.2.2 n x)) := by
  obtain ⟨r1, ⟨r2, r3, r4⟩, r5, r6, r7, r8⟩ := hR
  refine ⟨by rw [mR_n (by decide)]; exact r1, ⟨by rw [ms_ne (by decide)]; exact r2, r3, fun i hi => by rw [← r4 i hi]; exact pR_cong (fun j _ => by rw [ms_ne (by decide)])⟩, fun s hs => ⟨by rw [ms_ne (by decide)]; exact (r5 s hs).1, fun hf => by rw [← (r5 s hs).2 hf]; exact pR_cong (fun j _ => by rw [ms_ne (by decide)])⟩, by rw [ms_ne (by decide)]; exact r6, r7, ?_⟩
  funext j
  rw [ms_at]; unfold gCodes; rw [← r8]
set_option maxHeartbeats 2000000 in
set_option maxRecDepth 20000 in
theorem X6_append_ok {d : Nat} {μ : ev_M} {S : gS} {x : Int32} (hR : RepM μ S) (hW : WFS S) (hd : 2 ≤ d := by omega) : SPi (ev_CALL d) 134 [.ref 14, .int x] μ (QM (op_append S x) μ) := by
  obtain ⟨d, rfl⟩ : ∃ q, d = q + 1 := ⟨d - 1, by omega⟩
  refine SPi.of (Nat.le_of_ble_eq_true rfl) ?_
  show es (ev_CALL d) 6 cX6_append (some .int) 0 (0, fun _ => 0, []) (fun r μ2 => ∃ x9 : Int32, r = (some (.int x9), 0) ∧ (QM (op_append S x) μ) x9 μ2) 0 [.ref 14, .int x] [] μ 0
  have hR0 := hR.t (x := nI 0)
  have hn6 := hR.n6
  have hm6 := hR.m
  obtain ⟨wP, wP4, won, won4, wit, wit4, wpl, wpb, wlt⟩ := WM.of (r := S.1) hR.g hW.1
  have w0 : ev_ms μ 14 8 (nI 0) 15 4 = nI (rP S.1) := by rw [ms_ne (by decide)]; exact wP
  refine es_aload_n (pc := 0) dX6_append_0 rfl ?_
  refine es_iconstN (pc := 1) 0 dX6_append_1 ic_0 ?_
  refine es_putI (pc := 2) dX6_append_2 fr_6_35 fld_14_8 ?_
  refine es_iload_n (pc := 5) dX6_append_5 rfl ?_
  refine es_bipushN (pc := 6) 33 dX6_append_6 bp_33 ?_
  refine es_bipushN (pc := 8) 126 dX6_append_8 bp_126 ?_
  refine es_cs3_p (pc := 10) dX6_append_10 mr_6_39 rfl rfl rfl (Nat.le_of_ble_eq_true rfl) (Nat.zero_le _) (X6_in_ok) ?_
  refine es_if_neB (pc := 13) 22 dX6_append_13 (by decide) (fun c13 => ?_) (fun c13 => ?_)
  · refine es_aload_n (pc := 22) dX6_append_22 rfl ?_
    refine es_getI (pc := 23) dX6_append_23 fr_6_132 fld_14_7 ?_
    refine es_top (show ev_ms μ 14 8 (nI 0) 14 7 = nI S.2.2.2.1 from hR0.l) ?_
    refine es_bipushN (pc := 26) 60 dX6_append_26 bp_60 ?_
    refine es_icmp_neN (pc := 28) 37 dX6_append_28 (by decide) (by omega) (by omega) (fun c28 => ?_) (fun c28 => ?_)
    · refine es_aload_n (pc := 37) dX6_append_37 rfl ?_
      refine es_getR (pc := 38) dX6_append_38 fr_6_26 fld_14_6 ?_
      refine es_aload_n (pc := 41) dX6_append_41 rfl ?_
      refine es_getI (pc := 42) dX6_append_42 fr_6_132 fld_14_7 ?_
      refine es_top (show ev_ms μ 14 8 (nI 0) 14 7 = nI S.2.2.2.1 from hR0.l) ?_
      refine es_iload_n (pc := 45) dX6_append_45 rfl ?_
      refine es_iast (pc := 46) dX6_append_46 lay_20 (by omega) ?_
      refine es_aload_n (pc := 47) dX6_append_47 rfl ?_
      refine es_dup (pc := 48) dX6_append_48 rfl ?_
      refine es_getI (pc := 49) dX6_append_49 fr_6_132 fld_14_7 ?_
      refine es_top (show ev_ms (ev_ms μ 14 8 (nI 0)) 20 S.2.2.2.1 x 14 7 = nI S.2.2.2.1 by rw [ms_ne (by decide)]; exact hR0.l) ?_
      refine es_iconstN (pc := 52) 1 dX6_append_52 ic_1 ?_
      refine es_iaddN (pc := 53) dX6_append_53 ?_
      refine es_putI (pc := 54) dX6_append_54 fr_6_132 fld_14_7 ?_
      refine es_aload_n (pc := 57) dX6_append_57 rfl ?_
      refine es_getI (pc := 58) dX6_append_58 fr_6_132 fld_14_7 ?_
      refine es_top (show _ = nI (S.2.2.2.1 + 1) by rw [ms_at, if_pos rfl]) ?_
      refine es_ireturn (pc := 61) dX6_append_61 rfl (vp_nar_int _) (by decide) ?_
      exact ⟨_, rfl, QM.of (by rw [op_append, if_neg (by simp [c13]), if_neg (by omega)]) (by simp [ms_full]) rfl (RepM.txt hR0.code (by omega)) (((FrM.rf.ms (by decide)).ms (by decide)).ms (by decide))⟩
    · refine es_aload_n (pc := 31) dX6_append_31 rfl ?_
      refine es_iconstN (pc := 32) 2 dX6_append_32 ic_2 ?_
      refine es_cv1_i (pc := 33) dX6_append_33 mr_6_46 rfl rfl (by decide) (by decide) rfl (Nat.le_of_ble_eq_true rfl) (Nat.zero_le _) (X6_wrong_ok) (fun x33 μ33 h33 => ?_)
      refine es_ireturn (pc := 36) dX6_append_36 rfl (vp_nar_int _) (by decide) ?_
      exact ⟨_, rfl, QM.no (k := 1) (by rw [op_append, if_neg (by simp [c13]), if_pos (by omega)] <;> rfl) hR h33.2⟩
  · refine es_aload_n (pc := 16) dX6_append_16 rfl ?_
    refine es_iconstN (pc := 17) 1 dX6_append_17 ic_1 ?_
    refine es_cv1_i (pc := 18) dX6_append_18 mr_6_46 rfl rfl (by decide) (by decide) rfl (Nat.le_of_ble_eq_true rfl) (Nat.zero_le _) (X6_wrong_ok) (fun x18 μ18 h18 => ?_)
    refine es_ireturn (pc := 21) dX6_append_21 rfl (vp_nar_int _) (by decide) ?_
    exact ⟨_, rfl, QM.no (k := 0) (by rw [op_append, if_pos c13] <;> rfl) hR h18.2⟩
set_option maxHeartbeats 2000000 in
set_option maxRecDepth 20000 in
theorem X6_clearBuffer_ok {d : Nat} {μ : ev_M} {S : gS} (hR : RepM μ S) (hW : WFS S) (hd : 2 ≤ d := by omega) : SPi (ev_CALL d) 135 [.ref 14] μ (QM (op_clear S) μ) := by
  obtain ⟨d, rfl⟩ : ∃ q, d = q + 1 := ⟨d - 1, by omega⟩
  refine SPi.of (Nat.le_of_ble_eq_true rfl) ?_
  show es (ev_CALL d) 6 cX6_clearBuffer (some .int) 0 (0, fun _ => 0, []) (fun r μ2 => ∃ x9 : Int32, r = (some (.int x9), 0) ∧ (QM (op_clear S) μ) x9 μ2) 0 [.ref 14, .null] [] μ 0
  have hR0 := hR.t (x := nI 0)
  have hn6 := hR.n6
  have hm6 := hR.m
  obtain ⟨wP, wP4, won, won4, wit, wit4, wpl, wpb, wlt⟩ := WM.of (r := S.1) hR.g hW.1
  have w0 : ev_ms μ 14 8 (nI 0) 15 4 = nI (rP S.1) := by rw [ms_ne (by decide)]; exact wP
  refine es_aload_n (pc := 0) dX6_clearBuffer_0 rfl ?_
  refine es_iconstN (pc := 1) 0 dX6_clearBuffer_1 ic_0 ?_
  refine es_putI (pc := 2) dX6_clearBuffer_2 fr_6_35 fld_14_8 ?_
  refine es_aload_n (pc := 5) dX6_clearBuffer_5 rfl ?_
  refine es_getI (pc := 6) dX6_clearBuffer_6 fr_6_132 fld_14_7 ?_
  refine es_istore_n (pc := 9) dX6_clearBuffer_9 (ok1_1 rfl) ?_
  refine es_aload_n (pc := 10) dX6_clearBuffer_10 rfl ?_
  refine es_iconstN (pc := 11) 0 dX6_clearBuffer_11 ic_0 ?_
  refine es_putI (pc := 12) dX6_clearBuffer_12 fr_6_132 fld_14_7 ?_
  refine es_iload_n (pc := 15) dX6_clearBuffer_15 rfl ?_
  refine es_ireturn (pc := 16) dX6_clearBuffer_16 rfl (vp_nar_int _) (by decide) ?_
  exact ⟨_, rfl, QM.of rfl (by simp [ms_full]) hR0.l (RepM.txt hR0 (by omega)) ((FrM.rf.ms (by decide)).ms (by decide))⟩
set_option maxHeartbeats 2000000 in
set_option maxRecDepth 20000 in
theorem X6_undo_ok {d : Nat} {μ : ev_M} {S : gS} (hR : RepM μ S) (hW : WFS S) (hd : 2 ≤ d := by omega) : SPi (ev_CALL d) 100 [.ref 14] μ (QM (op_undo S) μ) := by
  obtain ⟨d, rfl⟩ : ∃ q, d = q + 1 := ⟨d - 1, by omega⟩
  refine SPi.of (Nat.le_of_ble_eq_true rfl) ?_
  show es (ev_CALL d) 6 cX6_undo (some .int) 0 (0, fun _ => 0, []) (fun r μ2 => ∃ x9 : Int32, r = (some (.int x9), 0) ∧ (QM (op_undo S) μ) x9 μ2) 0 [.ref 14, .null] [] μ 0
  have hR0 := hR.t (x := nI 0)
  have hn6 := hR.n6
  have hm6 := hR.m
  obtain ⟨wP, wP4, won, won4, wit, wit4, wpl, wpb, wlt⟩ := WM.of (r := S.1) hR.g hW.1
  have w0 : ev_ms μ 14 8 (nI 0) 15 4 = nI (rP S.1) := by rw [ms_ne (by decide)]; exact wP
  refine es_aload_n (pc := 0) dX6_undo_0 rfl ?_
  refine es_iconstN (pc := 1) 0 dX6_undo_1 ic_0 ?_
  refine es_putI (pc := 2) dX6_undo_2 fr_6_35 fld_14_8 ?_
  refine es_aload_n (pc := 5) dX6_undo_5 rfl ?_
  refine es_getI (pc := 6) dX6_undo_6 fr_6_43 fld_14_5 ?_
  refine es_top (show ev_ms μ 14 8 (nI 0) 14 5 = nI S.2.1.1 from hR0.n) ?_
  refine es_if_neN (pc := 9) 18 dX6_undo_9 (by decide) (by omega) (fun c9 => ?_) (fun c9 => ?_)
  · refine es_aload_n (pc := 18) dX6_undo_18 rfl ?_
    refine es_dup (pc := 19) dX6_undo_19 rfl ?_
    refine es_getI (pc := 20) dX6_undo_20 fr_6_43 fld_14_5 ?_
    refine es_top (show ev_ms μ 14 8 (nI 0) 14 5 = nI S.2.1.1 from hR0.n) ?_
    refine es_iconstN (pc := 23) 1 dX6_undo_23 ic_1 ?_
    refine es_isubN (pc := 24) dX6_undo_24 (by omega) ?_
    refine es_putI (pc := 25) dX6_undo_25 fr_6_43 fld_14_5 ?_
    have hl30 : ∀ (n9 : Nat) (ν : ev_M) (k : Nat), n9 = 59 - k → (k ≤ 59) → (∀ j, j < k → ν 15 j = μ 16 (59 * (S.2.1.1 - 1) + j)) → (∀ q, q ≠ 15 → ν q = (ev_ms (ev_ms μ 14 8 (nI 0)) 14 5 (nI (S.2.1.1 - 1))) q) → es (ev_CALL d) 6 cX6_undo (some .int) 0 (0, fun _ => 0, []) (fun r μ2 => ∃ x9 : Int32, r = (some (.int x9), 0) ∧ (QM (op_undo S) μ) x9 μ2) 30 [.ref 14, .int (nI k)] [] ν 0 := by
      intro n9
      induction n9 using Nat.strongRecOn with
      | ind n9 ih30 =>
        intro ν k hn9 hk h1 h2
        subst hn9
        have ih := ih30
        have hn14 : ν 14 5 = nI (S.2.1.1 - 1) := by rw [h2 14 (by decide), ms_at, if_pos rfl]
        refine es_iload_n (pc := 30) dX6_undo_30 rfl ?_
        refine es_bipushN (pc := 31) 59 dX6_undo_31 bp_59 ?_
        refine es_icmp_geN (pc := 33) 62 dX6_undo_33 (by decide) (by omega) (by omega) (fun c33 => ?_) (fun c33 => ?_)
        · refine es_aload_n (pc := 62) dX6_undo_62 rfl ?_
          refine es_getI (pc := 63) dX6_undo_63 fr_6_43 fld_14_5 ?_
          refine es_top hn14 ?_
          refine es_ireturn (pc := 66) dX6_undo_66 rfl (vp_nar_int _) (by decide) ?_
          refine ⟨_, rfl, QM.of (by rw [op_undo, if_neg (by omega)]) (by rw [h2 14 (by decide)]; simp [ms_full]) rfl ?_ (fun q hq => by rw [h2 q (by omega), ms_ne (by omega), ms_ne (by omega)])⟩
          obtain ⟨r1, ⟨r2, r3, r4⟩, r5, r6, r7, r8⟩ := hR
          refine ⟨?_, ⟨hn14, by dsimp only; omega, fun i hi => ?_⟩, fun s hs => ⟨by rw [h2 19 (by decide), ms_ne (by decide), ms_ne (by decide)]; exact (r5 s hs).1, fun hf => by rw [← (r5 s hs).2 hf]; exact pR_cong (fun j _ => by rw [h2 18 (by decide), ms_ne (by decide), ms_ne (by decide)])⟩, by rw [h2 14 (by decide)]; simp [ms_full, r6], r7, by rw [h2 20 (by decide), ms_ne (by decide), ms_ne (by decide)]; exact r8⟩
          · refine Eq.trans ?_ (r4 _ (by omega))
            funext j
            unfold mR pR
            by_cases hj : j < 59
            · rw [if_pos hj, if_pos hj, h1 j (by omega)]
            · rw [if_neg hj, if_neg hj]
          · dsimp only at hi
            rw [← r4 i (by omega)]
            exact pR_cong (fun j _ => by rw [h2 16 (by decide), ms_ne (by decide), ms_ne (by decide)])
        · refine es_aload_n (pc := 36) dX6_undo_36 rfl ?_
          refine es_getR (pc := 37) dX6_undo_37 fr_6_7 fld_14_0 ?_
          refine es_iload_n (pc := 40) dX6_undo_40 rfl ?_
          refine es_aload_n (pc := 41) dX6_undo_41 rfl ?_
          refine es_getR (pc := 42) dX6_undo_42 fr_6_13 fld_14_1 ?_
          refine es_bipushN (pc := 45) 59 dX6_undo_45 bp_59 ?_
          refine es_aload_n (pc := 47) dX6_undo_47 rfl ?_
          refine es_getI (pc := 48) dX6_undo_48 fr_6_43 fld_14_5 ?_
          refine es_top hn14 ?_
          refine es_imulN (pc := 51) dX6_undo_51 ?_
          refine es_iload_n (pc := 52) dX6_undo_52 rfl ?_
          refine es_iaddN (pc := 53) dX6_undo_53 ?_
          refine es_iald (pc := 54) dX6_undo_54 lay_16 (by omega) ?_
          refine es_iast (pc := 55) dX6_undo_55 lay_15 (by omega) ?_
          refine es_iincN (pc := 56) 1 dX6_undo_56 ic_1 rfl (ok1_1 rfl) ?_
          refine es_goto (pc := 59) (tgt := 30) dX6_undo_59 (by decide) ?_
          refine ih30 _ (by omega) _ (k + 1) rfl (by omega) (fun j hj => ?_) (fun q hq => by rw [ms_ne hq, h2 q hq])
          rw [ms_at]
          by_cases e : j = k
          · rw [if_pos e, e, h2 16 (by decide), ms_ne (by decide), ms_ne (by decide)]
          · rw [if_neg e, h1 j (by omega)]
    refine es_iconstN (pc := 28) 0 dX6_undo_28 ic_0 ?_
    refine es_istore_n (pc := 29) dX6_undo_29 (ok1_1 rfl) ?_
    exact hl30 _ _ 0 rfl (by omega) (fun j hj => absurd hj (Nat.not_lt_zero j)) (fun _ _ => rfl)
  · refine es_aload_n (pc := 12) dX6_undo_12 rfl ?_
    refine es_iconstN (pc := 13) 1 dX6_undo_13 ic_1 ?_
    refine es_cv1_i (pc := 14) dX6_undo_14 mr_6_46 rfl rfl (by decide) (by decide) rfl (Nat.le_of_ble_eq_true rfl) (Nat.zero_le _) (X6_wrong_ok) (fun x14 μ14 h14 => ?_)
    refine es_ireturn (pc := 17) dX6_undo_17 rfl (vp_nar_int _) (by decide) ?_
    exact ⟨_, rfl, QM.no (k := 0) (by rw [op_undo, if_pos (by omega)] <;> rfl) hR h14.2⟩
set_option maxHeartbeats 2000000 in
set_option maxRecDepth 20000 in
theorem X6_keep_ok {d : Nat} {μ : ev_M} {S : gS} {x : Int32} (hR : RepM μ S) (hW : WFS S) (hd : 2 ≤ d := by omega) : SPi (ev_CALL d) 102 [.ref 14, .int x] μ (QM (op_keep S x) μ) := by
  obtain ⟨d, rfl⟩ : ∃ q, d = q + 1 := ⟨d - 1, by omega⟩
  refine SPi.of (Nat.le_of_ble_eq_true rfl) ?_
  show es (ev_CALL d) 6 cX6_keep (some .int) 0 (0, fun _ => 0, []) (fun r μ2 => ∃ x9 : Int32, r = (some (.int x9), 0) ∧ (QM (op_keep S x) μ) x9 μ2) 0 [.ref 14, .int x, .null] [] μ 0
  have hR0 := hR.t (x := nI 0)
  have hn6 := hR.n6
  have hm6 := hR.m
  obtain ⟨wP, wP4, won, won4, wit, wit4, wpl, wpb, wlt⟩ := WM.of (r := S.1) hR.g hW.1
  have w0 : ev_ms μ 14 8 (nI 0) 15 4 = nI (rP S.1) := by rw [ms_ne (by decide)]; exact wP
  refine es_aload_n (pc := 0) dX6_keep_0 rfl ?_
  refine es_iconstN (pc := 1) 0 dX6_keep_1 ic_0 ?_
  refine es_putI (pc := 2) dX6_keep_2 fr_6_35 fld_14_8 ?_
  refine es_iload_n (pc := 5) dX6_keep_5 rfl ?_
  refine es_iconstN (pc := 6) 0 dX6_keep_6 ic_0 ?_
  refine es_iconstN (pc := 7) 1 dX6_keep_7 ic_1 ?_
  refine es_cs3_p (pc := 8) dX6_keep_8 mr_6_39 rfl rfl rfl (Nat.le_of_ble_eq_true rfl) (Nat.zero_le _) (X6_in_ok) ?_
  rw [in2]
  refine es_if_neB (pc := 11) 20 dX6_keep_11 (by decide) (fun c11 => ?_) (fun c11 => ?_)
  · obtain ⟨t, ht, rfl⟩ := gm_is_t c11 (by decide)
    refine es_iconstN (pc := 20) 0 dX6_keep_20 ic_0 ?_
    have hl22 : ∀ (n9 : Nat) (ν : ev_M) (k : Nat), n9 = 59 - k → (k ≤ 59) → (∀ j, j < k → ν 18 (59 * t + j) = μ 15 j) → (∀ j, (j < 59 * t ∨ 59 * t + 59 ≤ j) → ν 18 j = μ 18 j) → (∀ q, q ≠ 18 → ν q = (ev_ms μ 14 8 (nI 0)) q) → es (ev_CALL d) 6 cX6_keep (some .int) 0 (0, fun _ => 0, []) (fun r μ2 => ∃ x9 : Int32, r = (some (.int x9), 0) ∧ (QM (op_keep S (nI t)) μ) x9 μ2) 22 [.ref 14, .int (nI t), .int (nI k)] [] ν 0 := by
      intro n9
      induction n9 using Nat.strongRecOn with
      | ind n9 ih22 =>
        intro ν k hn9 hk h1 h3 h2
        subst hn9
        have ih := ih22
        refine es_iload_n (pc := 22) dX6_keep_22 rfl ?_
        refine es_bipushN (pc := 23) 59 dX6_keep_23 bp_59 ?_
        refine es_icmp_geN (pc := 25) 51 dX6_keep_25 (by decide) (by omega) (by omega) (fun c25 => ?_) (fun c25 => ?_)
        · refine es_aload_n (pc := 51) dX6_keep_51 rfl ?_
          refine es_getR (pc := 52) dX6_keep_52 fr_6_22 fld_14_4 ?_
          refine es_iload_n (pc := 55) dX6_keep_55 rfl ?_
          refine es_iconstN (pc := 56) 1 dX6_keep_56 ic_1 ?_
          refine es_zast (pc := 57) dX6_keep_57 lay_19 (by omega) rfl ?_
          refine es_aload_n (pc := 58) dX6_keep_58 rfl ?_
          refine es_getR (pc := 59) dX6_keep_59 fr_6_7 fld_14_0 ?_
          refine es_bipushN (pc := 62) 7 dX6_keep_62 bp_7 ?_
          refine es_iald (pc := 64) dX6_keep_64 lay_15 (by omega) ?_
          refine es_ireturn (pc := 65) dX6_keep_65 rfl (vp_nar_int _) (by decide) ?_
          refine ⟨_, rfl, QM.of (by rw [op_keep, if_neg (by simp [c11]), cl_nI (by omega)]) (by rw [ms_ne (by decide), h2 14 (by decide)]; simp [ms_full]) (by rw [ms_ne (by decide), h2 15 (by decide), ms_ne (by decide), ← mR_r (μ := μ) (by decide), hR.g]) ?_ (fun q hq => by rw [ms_ne (by omega), h2 q (by omega), ms_ne (by omega)])⟩
          obtain ⟨r1, ⟨r2, r3, r4⟩, r5, r6, r7, r8⟩ := hR
          refine ⟨?_, ⟨?_, r3, fun i hi => ?_⟩, fun s hs => ⟨?_, fun hf => ?_⟩, ?_, r7, ?_⟩
          · rw [mR_n (by decide), mR_cong (h2 15 (by decide)), mR_n (by decide), r1]
          · rw [ms_ne (by decide), h2 14 (by decide), ms_at, if_neg (by decide), r2]
          · rw [← r4 i hi]; exact pR_cong (fun j _ => by rw [ms_ne (by decide), h2 16 (by decide), ms_ne (by decide)])
          · rw [ms_at]
            by_cases e : s = t
            · rw [if_pos e]; simp [e, bI, nI_one]
            · rw [if_neg e, h2 19 (by decide), ms_ne (by decide), (r5 s hs).1]; simp [e]
          · dsimp only at hf ⊢
            by_cases e : s = t
            · rw [if_pos e, e, ← r1]
              funext j
              unfold pR mR
              by_cases hj : j < 59
              · rw [if_pos hj, if_pos hj, ms_ne (by decide), h1 j (by omega)]
              · rw [if_neg hj, if_neg hj]
            · rw [if_neg e, ← (r5 s hs).2 (by simpa [e] using hf)]
              exact pR_cong (fun j hj => by rw [ms_ne (by decide), h3 _ (by omega)])
          · rw [ms_ne (by decide), h2 14 (by decide), ms_at, if_neg (by decide), r6]
          · rw [ms_ne (by decide), h2 20 (by decide), ms_ne (by decide), r8]
        · refine es_aload_n (pc := 28) dX6_keep_28 rfl ?_
          refine es_getR (pc := 29) dX6_keep_29 fr_6_19 fld_14_3 ?_
          refine es_bipushN (pc := 32) 59 dX6_keep_32 bp_59 ?_
          refine es_iload_n (pc := 34) dX6_keep_34 rfl ?_
          refine es_imulN (pc := 35) dX6_keep_35 ?_
          refine es_iload_n (pc := 36) dX6_keep_36 rfl ?_
          refine es_iaddN (pc := 37) dX6_keep_37 ?_
          refine es_aload_n (pc := 38) dX6_keep_38 rfl ?_
          refine es_getR (pc := 39) dX6_keep_39 fr_6_7 fld_14_0 ?_
          refine es_iload_n (pc := 42) dX6_keep_42 rfl ?_
          refine es_iald (pc := 43) dX6_keep_43 lay_15 (by omega) ?_
          refine es_iast (pc := 44) dX6_keep_44 lay_18 (by omega) ?_
          refine es_iincN (pc := 45) 1 dX6_keep_45 ic_1 rfl (ok1_2 rfl) ?_
          refine es_goto (pc := 48) (tgt := 22) dX6_keep_48 (by decide) ?_
          refine ih22 _ (by omega) _ (k + 1) rfl (by omega) (fun j hj => ?_) (fun j hj => by rw [ms_at, if_neg (by omega), h3 j hj]) (fun q hq => by rw [ms_ne hq, h2 q hq])
          rw [ms_at]
          by_cases e : j = k
          · rw [if_pos (by omega), e, h2 15 (by decide), ms_ne (by decide)]
          · rw [if_neg (by omega), h1 j (by omega)]
    refine es_istore_n (pc := 21) dX6_keep_21 (ok1_2 rfl) ?_
    exact hl22 _ _ 0 rfl (by omega) (fun j hj => absurd hj (Nat.not_lt_zero j)) (fun j _ => by rw [ms_ne (by decide)]) (fun _ _ => rfl)
  · refine es_aload_n (pc := 14) dX6_keep_14 rfl ?_
    refine es_iconstN (pc := 15) 1 dX6_keep_15 ic_1 ?_
    refine es_cv1_i (pc := 16) dX6_keep_16 mr_6_46 rfl rfl (by decide) (by decide) rfl (Nat.le_of_ble_eq_true rfl) (Nat.zero_le _) (X6_wrong_ok) (fun x16 μ16 h16 => ?_)
    refine es_ireturn (pc := 19) dX6_keep_19 rfl (vp_nar_int _) (by decide) ?_
    exact ⟨_, rfl, QM.no (k := 0) (by rw [op_keep, if_pos c11] <;> rfl) hR h16.2⟩
set_option maxHeartbeats 2000000 in
set_option maxRecDepth 20000 in
theorem X6_goBack_ok {d : Nat} {μ : ev_M} {S : gS} {x : Int32} (hR : RepM μ S) (hW : WFS S) (hd : 3 ≤ d := by omega) : SPi (ev_CALL d) 104 [.ref 14, .int x] μ (QM (op_back S x) μ) := by
  obtain ⟨d, rfl⟩ : ∃ q, d = q + 1 := ⟨d - 1, by omega⟩
  refine SPi.of (Nat.le_of_ble_eq_true rfl) ?_
  show es (ev_CALL d) 6 cX6_goBack (some .int) 0 (0, fun _ => 0, []) (fun r μ2 => ∃ x9 : Int32, r = (some (.int x9), 0) ∧ (QM (op_back S x) μ) x9 μ2) 0 [.ref 14, .int x, .null] [] μ 0
  have hR0 := hR.t (x := nI 0)
  have hn6 := hR.n6
  have hm6 := hR.m
  obtain ⟨wP, wP4, won, won4, wit, wit4, wpl, wpb, wlt⟩ := WM.of (r := S.1) hR.g hW.1
  have w0 : ev_ms μ 14 8 (nI 0) 15 4 = nI (rP S.1) := by rw [ms_ne (by decide)]; exact wP
  refine es_aload_n (pc := 0) dX6_goBack_0 rfl ?_
  refine es_iconstN (pc := 1) 0 dX6_goBack_1 ic_0 ?_
  refine es_putI (pc := 2) dX6_goBack_2 fr_6_35 fld_14_8 ?_
  refine es_iload_n (pc := 5) dX6_goBack_5 rfl ?_
  refine es_iconstN (pc := 6) 0 dX6_goBack_6 ic_0 ?_
  refine es_iconstN (pc := 7) 1 dX6_goBack_7 ic_1 ?_
  refine es_cs3_p (pc := 8) dX6_goBack_8 mr_6_39 rfl rfl rfl (Nat.le_of_ble_eq_true rfl) (Nat.zero_le _) (X6_in_ok) ?_
  rw [in2]
  refine es_if_neB (pc := 11) 20 dX6_goBack_11 (by decide) (fun c11 => ?_) (fun c11 => ?_)
  · obtain ⟨t, ht, rfl⟩ := gm_is_t c11 (by decide)
    refine es_aload_n (pc := 20) dX6_goBack_20 rfl ?_
    refine es_getR (pc := 21) dX6_goBack_21 fr_6_22 fld_14_4 ?_
    refine es_iload_n (pc := 24) dX6_goBack_24 rfl ?_
    refine es_zald (pc := 25) dX6_goBack_25 lay_19 (by omega) ?_
    refine es_top ((show ev_ms μ 14 8 (nI 0) 19 t = bI (S.2.2.1.1 t) from hR0.s ht)) ?_
    refine es_if_neB (pc := 26) 35 dX6_goBack_26 (by decide) (fun c26 => ?_) (fun c26 => ?_)
    · refine es_aload_n (pc := 35) dX6_goBack_35 rfl ?_
      refine es_cv0_v (pc := 36) dX6_goBack_36 mr_6_50 rfl rfl (by decide) (by decide) rfl (Nat.le_of_ble_eq_true rfl) (Nat.zero_le _) (X6_remember_ok) (fun μ36 h36 => ?_)
      have m36 : RM (ev_ms μ 14 8 (nI 0)) μ36 := h36
      have R1 := m36.rep hR0
      have e36 := R1.g
      have hl41 : ∀ (n9 : Nat) (ν : ev_M) (k : Nat), n9 = 59 - k → (k ≤ 59) → (∀ j, j < k → ν 15 j = μ 18 (59 * t + j)) → (∀ q, q ≠ 15 → ν q = μ36 q) → es (ev_CALL d) 6 cX6_goBack (some .int) 0 (0, fun _ => 0, []) (fun r μ2 => ∃ x9 : Int32, r = (some (.int x9), 0) ∧ (QM (op_back S (nI t)) μ) x9 μ2) 41 [.ref 14, .int (nI t), .int (nI k)] [] ν 0 := by
        intro n9
        induction n9 using Nat.strongRecOn with
        | ind n9 ih41 =>
          intro ν k hn9 hk h1 h2
          subst hn9
          have ih := ih41
          refine es_iload_n (pc := 41) dX6_goBack_41 rfl ?_
          refine es_bipushN (pc := 42) 59 dX6_goBack_42 bp_59 ?_
          refine es_icmp_geN (pc := 44) 70 dX6_goBack_44 (by decide) (by omega) (by omega) (fun c44 => ?_) (fun c44 => ?_)
          · refine es_aload_n (pc := 70) dX6_goBack_70 rfl ?_
            refine es_aload_n (pc := 71) dX6_goBack_71 rfl ?_
            refine es_getR (pc := 72) dX6_goBack_72 fr_6_7 fld_14_0 ?_
            refine es_bipushN (pc := 75) 7 dX6_goBack_75 bp_7 ?_
            refine es_iald (pc := 77) dX6_goBack_77 lay_15 (by omega) ?_
            refine es_cv1_i (pc := 78) dX6_goBack_78 mr_6_53 rfl rfl (by decide) (by decide) rfl (Nat.le_of_ble_eq_true rfl) (Nat.zero_le _) (X6_record_ok (n := S.2.1.1) (by rw [h2 14 (by decide)]; exact R1.n)) (fun x78 μ78 h78 => ?_)
            refine es_ireturn (pc := 81) dX6_goBack_81 rfl (vp_nar_int _) (by decide) ?_
            have er : mR ν = S.2.2.1.2 t := by
              rw [← hR.s2 ht c26]
              funext j
              unfold mR pR
              by_cases hj : j < 59
              · rw [if_pos hj, if_pos hj, h1 j (by omega)]
              · rw [if_neg hj, if_neg hj]
            exact ⟨_, rfl, QM.sv (r := S.2.2.1.2 t) hR m36 ⟨fun q _ _ c => h2 q c, fun i _ => by rw [h2 14 (by decide)]⟩ er h78.2 (by rw [op_back, if_neg (by simp [c11]), if_neg (by rw [cl_nI (by omega)]; simp [c26]), cl_nI (by omega)]) (by rw [h78.1, ← mR_r (μ := ν) (by decide), er])⟩
          · refine es_aload_n (pc := 47) dX6_goBack_47 rfl ?_
            refine es_getR (pc := 48) dX6_goBack_48 fr_6_7 fld_14_0 ?_
            refine es_iload_n (pc := 51) dX6_goBack_51 rfl ?_
            refine es_aload_n (pc := 52) dX6_goBack_52 rfl ?_
            refine es_getR (pc := 53) dX6_goBack_53 fr_6_19 fld_14_3 ?_
            refine es_bipushN (pc := 56) 59 dX6_goBack_56 bp_59 ?_
            refine es_iload_n (pc := 58) dX6_goBack_58 rfl ?_
            refine es_imulN (pc := 59) dX6_goBack_59 ?_
            refine es_iload_n (pc := 60) dX6_goBack_60 rfl ?_
            refine es_iaddN (pc := 61) dX6_goBack_61 ?_
            refine es_iald (pc := 62) dX6_goBack_62 lay_18 (by omega) ?_
            refine es_iast (pc := 63) dX6_goBack_63 lay_15 (by omega) ?_
            refine es_iincN (pc := 64) 1 dX6_goBack_64 ic_1 rfl (ok1_2 rfl) ?_
            refine es_goto (pc := 67) (tgt := 41) dX6_goBack_67 (by decide) ?_
            refine ih41 _ (by omega) _ (k + 1) rfl (by omega) (fun j hj => ?_) (fun q hq => by rw [ms_ne hq, h2 q hq])
            rw [ms_at]
            by_cases e : j = k
            · rw [if_pos e, e, h2 18 (by decide), m36.2 18 (by decide), ms_ne (by decide)]
            · rw [if_neg e, h1 j (by omega)]
      refine es_iconstN (pc := 39) 0 dX6_goBack_39 ic_0 ?_
      refine es_istore_n (pc := 40) dX6_goBack_40 (ok1_2 rfl) ?_
      exact hl41 _ _ 0 rfl (by omega) (fun j hj => absurd hj (Nat.not_lt_zero j)) (fun _ _ => rfl)
    · refine es_aload_n (pc := 29) dX6_goBack_29 rfl ?_
      refine es_iconstN (pc := 30) 2 dX6_goBack_30 ic_2 ?_
      refine es_cv1_i (pc := 31) dX6_goBack_31 mr_6_46 rfl rfl (by decide) (by decide) rfl (Nat.le_of_ble_eq_true rfl) (Nat.zero_le _) (X6_wrong_ok) (fun x31 μ31 h31 => ?_)
      refine es_ireturn (pc := 34) dX6_goBack_34 rfl (vp_nar_int _) (by decide) ?_
      exact ⟨_, rfl, QM.no (k := 1) (by rw [op_back, if_neg (by simp [c11]), if_pos (by rw [cl_nI (by omega)]; exact c26)] <;> rfl) hR h31.2⟩
  · refine es_aload_n (pc := 14) dX6_goBack_14 rfl ?_
    refine es_iconstN (pc := 15) 1 dX6_goBack_15 ic_1 ?_
    refine es_cv1_i (pc := 16) dX6_goBack_16 mr_6_46 rfl rfl (by decide) (by decide) rfl (Nat.le_of_ble_eq_true rfl) (Nat.zero_le _) (X6_wrong_ok) (fun x16 μ16 h16 => ?_)
    refine es_ireturn (pc := 19) dX6_goBack_19 rfl (vp_nar_int _) (by decide) ?_
    exact ⟨_, rfl, QM.no (k := 0) (by rw [op_back, if_pos c11] <;> rfl) hR h16.2⟩
