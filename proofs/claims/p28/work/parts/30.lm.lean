theorem ok1_14 {x0 x1 x2 x3 x4 x5 x6 x7 x8 x9 x10 x11 x12 x13 x14 : Value} {t : List Value} (h : x13.category = 1) : ev_ok1 (x0 :: x1 :: x2 :: x3 :: x4 :: x5 :: x6 :: x7 :: x8 :: x9 :: x10 :: x11 :: x12 :: x13 :: x14 :: t) 14 := ⟨by simp, fun j v hj hv => by
  obtain rfl : j = 13 := by omega
  cases hv
  exact h⟩
theorem ok1_15 {x0 x1 x2 x3 x4 x5 x6 x7 x8 x9 x10 x11 x12 x13 x14 x15 : Value} {t : List Value} (h : x14.category = 1) : ev_ok1 (x0 :: x1 :: x2 :: x3 :: x4 :: x5 :: x6 :: x7 :: x8 :: x9 :: x10 :: x11 :: x12 :: x13 :: x14 :: x15 :: t) 15 := ⟨by simp, fun j v hj hv => by
  obtain rfl : j = 14 := by omega
  cases hv
  exact h⟩
theorem ok1_16 {x0 x1 x2 x3 x4 x5 x6 x7 x8 x9 x10 x11 x12 x13 x14 x15 x16 : Value} {t : List Value} (h : x15.category = 1) : ev_ok1 (x0 :: x1 :: x2 :: x3 :: x4 :: x5 :: x6 :: x7 :: x8 :: x9 :: x10 :: x11 :: x12 :: x13 :: x14 :: x15 :: x16 :: t) 16 := ⟨by simp, fun j v hj hv => by
  obtain rfl : j = 15 := by omega
  cases hv
  exact h⟩
theorem ok1_17 {x0 x1 x2 x3 x4 x5 x6 x7 x8 x9 x10 x11 x12 x13 x14 x15 x16 x17 : Value} {t : List Value} (h : x16.category = 1) : ev_ok1 (x0 :: x1 :: x2 :: x3 :: x4 :: x5 :: x6 :: x7 :: x8 :: x9 :: x10 :: x11 :: x12 :: x13 :: x14 :: x15 :: x16 :: x17 :: t) 17 := ⟨by simp, fun j v hj hv => by
  obtain rfl : j = 16 := by omega
  cases hv
  exact h⟩
theorem ok1_18 {x0 x1 x2 x3 x4 x5 x6 x7 x8 x9 x10 x11 x12 x13 x14 x15 x16 x17 x18 : Value} {t : List Value} (h : x17.category = 1) : ev_ok1 (x0 :: x1 :: x2 :: x3 :: x4 :: x5 :: x6 :: x7 :: x8 :: x9 :: x10 :: x11 :: x12 :: x13 :: x14 :: x15 :: x16 :: x17 :: x18 :: t) 18 := ⟨by simp, fun j v hj hv => by
  obtain rfl : j = 17 := by omega
  cases hv
  exact h⟩
theorem ok1_19 {x0 x1 x2 x3 x4 x5 x6 x7 x8 x9 x10 x11 x12 x13 x14 x15 x16 x17 x18 x19 : Value} {t : List Value} (h : x18.category = 1) : ev_ok1 (x0 :: x1 :: x2 :: x3 :: x4 :: x5 :: x6 :: x7 :: x8 :: x9 :: x10 :: x11 :: x12 :: x13 :: x14 :: x15 :: x16 :: x17 :: x18 :: x19 :: t) 19 := ⟨by simp, fun j v hj hv => by
  obtain rfl : j = 18 := by omega
  cases hv
  exact h⟩
theorem ok1_20 {x0 x1 x2 x3 x4 x5 x6 x7 x8 x9 x10 x11 x12 x13 x14 x15 x16 x17 x18 x19 x20 : Value} {t : List Value} (h : x19.category = 1) : ev_ok1 (x0 :: x1 :: x2 :: x3 :: x4 :: x5 :: x6 :: x7 :: x8 :: x9 :: x10 :: x11 :: x12 :: x13 :: x14 :: x15 :: x16 :: x17 :: x18 :: x19 :: x20 :: t) 20 := ⟨by simp, fun j v hj hv => by
  obtain rfl : j = 19 := by omega
  cases hv
  exact h⟩
theorem ok1_21 {x0 x1 x2 x3 x4 x5 x6 x7 x8 x9 x10 x11 x12 x13 x14 x15 x16 x17 x18 x19 x20 x21 : Value} {t : List Value} (h : x20.category = 1) : ev_ok1 (x0 :: x1 :: x2 :: x3 :: x4 :: x5 :: x6 :: x7 :: x8 :: x9 :: x10 :: x11 :: x12 :: x13 :: x14 :: x15 :: x16 :: x17 :: x18 :: x19 :: x20 :: x21 :: t) 21 := ⟨by simp, fun j v hj hv => by
  obtain rfl : j = 20 := by omega
  cases hv
  exact h⟩
theorem ok1_22 {x0 x1 x2 x3 x4 x5 x6 x7 x8 x9 x10 x11 x12 x13 x14 x15 x16 x17 x18 x19 x20 x21 x22 : Value} {t : List Value} (h : x21.category = 1) : ev_ok1 (x0 :: x1 :: x2 :: x3 :: x4 :: x5 :: x6 :: x7 :: x8 :: x9 :: x10 :: x11 :: x12 :: x13 :: x14 :: x15 :: x16 :: x17 :: x18 :: x19 :: x20 :: x21 :: x22 :: t) 22 := ⟨by simp, fun j v hj hv => by
  obtain rfl : j = 21 := by omega
  cases hv
  exact h⟩
/-! a move of the one on the move, kind by kind -/
theorem es_mv {r r2 : gm_R} {S : gS} : (gTo S r2).1 = r2 := rfl
theorem run_a {R : gm_R} {on : Nat} {x : Int32} (h : x = R 0) (hc : ¬ x ≤ R (31 + 7 * on + 1)) : R (31 + 7 * on + 1) = gm_run R on := by
  unfold gm_run
  rw [if_pos (by rw [← h]; exact Int32.not_le.mp hc)]
theorem run_b {R : gm_R} {on : Nat} {x : Int32} (h : x = R 0) (hc : x ≤ R (31 + 7 * on + 1)) : x = gm_run R on := by
  unfold gm_run
  rw [if_neg (by rw [← h]; exact Int32.not_lt.mpr hc), h]
theorem tg_5 {r : gm_R} {q : Nat} (h : rOn r ≠ rIt r) : nI 5 = rm_tagw r (rOn r) q := by
  unfold rm_tagw gm_tagw
  rw [if_pos h]
theorem tg_6 {r : gm_R} {q : Nat} (h : rOn r = rIt r) (h1 : rOn r = q) : nI 6 = rm_tagw r (rOn r) q := by
  unfold rm_tagw gm_tagw
  rw [if_neg (fun c => c h), if_pos h1]
theorem tg_2 {r : gm_R} {q : Nat} (h : rOn r = rIt r) (h1 : rOn r ≠ q) (h2 : gm_sees (rH r) (rPl r (rOn r)) (rPl r q) = false) : nI 2 = rm_tagw r (rOn r) q := by
  unfold rm_tagw gm_tagw
  rw [if_neg (fun c => c h), if_neg h1, if_pos h2]
theorem tg_7 {r : gm_R} {q : Nat} (h : rOn r = rIt r) (h1 : rOn r ≠ q) (h2 : gm_sees (rH r) (rPl r (rOn r)) (rPl r q) = true) (h3 : ¬ nI (if rPl r (rOn r) < rPl r q then rPl r q - rPl r (rOn r) else rPl r (rOn r) - rPl r q) ≤ r 3) : nI 7 = rm_tagw r (rOn r) q := by
  unfold rm_tagw gm_tagw
  rw [ds_comm] at h3
  rw [if_neg (fun c => c h), if_neg h1, if_neg (by rw [h2]; decide), if_pos (Int32.not_le.mp h3)]
theorem tg_0 {r : gm_R} {q : Nat} (h : rOn r = rIt r) (h1 : rOn r ≠ q) (h2 : gm_sees (rH r) (rPl r (rOn r)) (rPl r q) = true) (h3 : nI (if rPl r (rOn r) < rPl r q then rPl r q - rPl r (rOn r) else rPl r (rOn r) - rPl r q) ≤ r 3) : nI 0 = rm_tagw r (rOn r) q := by
  unfold rm_tagw gm_tagw
  rw [ds_comm] at h3
  rw [if_neg (fun c => c h), if_neg h1, if_neg (by rw [h2]; decide), if_neg (Int32.not_lt.mpr h3)]
theorem tn_4 {r : gm_R} (h : ¬ r 2 ≤ r (31 + 7 * rOn r + 2)) : nI 4 = (rm_turn r).1 := by
  unfold rm_turn
  rw [if_pos (Int32.not_le.mp h)]
theorem tn_0 {r : gm_R} (h : r 2 ≤ r (31 + 7 * rOn r + 2)) : nI 0 = (rm_turn r).1 := by
  unfold rm_turn
  rw [if_neg (Int32.not_lt.mpr h)]
theorem tn_r {r : gm_R} (h : (rm_turn r).1 = 0) : (rm_turn r).2 = gm_ends (gm_turn r (rOn r) (rPl r (rOn r))) (rP r) (rOn r) := by
  unfold rm_turn at h ⊢
  by_cases c : r (31 + 7 * rOn r + 2) < r 2
  · rw [if_pos c] at h
    exact absurd (show nI 4 = 0 from h) (by decide)
  · rw [if_neg c]
theorem tn_f {r : gm_R} (h : ¬ (rm_turn r).1 = 0) : (rm_turn r).2 = gm_ref r := by
  unfold rm_turn at h ⊢
  by_cases c : r (31 + 7 * rOn r + 2) < r 2
  · rw [if_pos c]
  · rw [if_neg c] at h
    exact absurd rfl h
theorem sr_r {r : gm_R} {t : Nat} (h : rm_why r (rOn r) t = 0) : (rm_stride r t).2 = gm_ends (gm_go r (rOn r) (rPl r (rOn r)) t (gm_price (r 1) (rH r) (rPl r (rOn r)) t)) (rP r) (rOn r) := if_pos h
theorem sr_f {r : gm_R} {t : Nat} (h : ¬ rm_why r (rOn r) t = 0) : (rm_stride r t).2 = gm_ref r := if_neg h
theorem tg_r {r : gm_R} {q : Nat} (h : rm_tagw r (rOn r) q = 0) : (rm_tag r q).2 = gm_ends (gm_tag r (rOn r) q) (rP r) (rOn r) := if_pos h
theorem tg_f {r : gm_R} {q : Nat} (h : ¬ rm_tagw r (rOn r) q = 0) : (rm_tag r q).2 = gm_ref r := if_neg h
theorem s_c2 {S : gS} {i : Nat} (hW : WFS S) (hp : 0 < rP S.1) (h : S.1 6 = nI i) : sNum S 2 = nI i := by
  show (if S.1 4 ≤ 0 then (-1 : Int32) else S.1 6) = _
  rw [(wf_n hW.1).1, if_neg (le_n0 hp (wf_on hW.1).1), h]
theorem s_c1 {S : gS} {i : Nat} (hW : WFS S) (hp : 0 < rP S.1) (h : S.1 5 = nI i) : sNum S 1 = nI i := by
  show (if S.1 4 ≤ 0 then (-1 : Int32) else S.1 5) = _
  rw [(wf_n hW.1).1, if_neg (le_n0 hp (wf_on hW.1).1), h]
set_option maxHeartbeats 2000000 in
set_option maxRecDepth 20000 in
theorem L_moves_0 {d : Nat} {μ : ev_M} {S : gS} {k to : Nat} (hR : RepC μ S) (hW : WFS S) (hH : HLD S.1 (rP S.1) k) (hk : k < 9999 := by omega) (ht : to < 10 := by omega) (hd : 7 ≤ d := by omega) : SPi (ev_CALL d) 179 [.ref 0, .int (nI 0), .int (nI to)] μ (fun x μ2 => x = bI true ∧ RepC μ2 (gTo S (rm_wait S.1))) := by
  obtain ⟨d, rfl⟩ : ∃ q, d = q + 1 := ⟨d - 1, by omega⟩
  refine SPi.of (Nat.le_of_ble_eq_true rfl) ?_
  show es (ev_CALL d) 9 cL_moves (some .boolean) 0 (0, fun _ => 0, []) (fun r μ2 => ∃ x9 : Int32, r = (some (.int x9), 0) ∧ (fun x μ2 => x = bI true ∧ RepC μ2 (gTo S (rm_wait S.1))) x9 μ2) 0 [.ref 0, .int (nI 0), .int (nI to), .null, .null, .null, .null, .null, .null, .null, .null, .null, .null, .null, .null, .null, .null, .null, .null, .null, .null, .null, .null] [] μ 0
  obtain ⟨hi1, hi2, hi3, hi5⟩ := wf_n hW.1
  obtain ⟨h4, hon4, hon⟩ := wf_on hW.1
  have h0 : 0 < rP S.1 := hH.2.2.1
  have ho := hon h0
  have hi := hi3 h0
  have hv := hH.over hk
  have ha := wf_pl hW.1 (rOn S.1)
  have hb := wf_pl hW.1 to
  obtain ⟨S2, hS2⟩ : ∃ q : gS, q = (gTo S (rm_wait S.1)) := ⟨_, rfl⟩
  have hW2 : WFS S2 := by
    have h9 := wfs_rest hW
    rw [op_rest, if_neg (by rw [hv]; decide)] at h9
    rw [hS2]
    exact h9
  have hH2 : HLD (rm_wait S.1) (rP S.1) (k + 1) := hH.wait
  have hP2 : rP S2.1 = rP S.1 := by rw [hS2]; exact hH2.2.1
  refine es_aload_n (pc := 0) dL_moves_0 rfl ?_
  refine es_iconstN (pc := 1) 0 dL_moves_1 ic_0 ?_
  refine es_cv1_p (pc := 2) dL_moves_2 mr_9_24 rfl rfl (by decide) (by decide) rfl (Nat.le_of_ble_eq_true rfl) (Nat.zero_le _) (C_0 hR hW) ?_
  refine es_istore_n (pc := 5) dL_moves_5 (ok1_3 rfl) ?_
  dsimp only [List.set]
  refine es_aload_n (pc := 6) dL_moves_6 rfl ?_
  refine es_iconstN (pc := 7) 1 dL_moves_7 ic_1 ?_
  refine es_cv1_p (pc := 8) dL_moves_8 mr_9_24 rfl rfl (by decide) (by decide) rfl (Nat.le_of_ble_eq_true rfl) (Nat.zero_le _) (C_1 hR hW) ?_
  refine es_istore (pc := 11) dL_moves_11 (ok1_4 rfl) ?_
  dsimp only [List.set]
  refine es_aload_n (pc := 13) dL_moves_13 rfl ?_
  refine es_iload (pc := 14) dL_moves_14 rfl ?_
  refine es_iconstN (pc := 16) 0 dL_moves_16 ic_0 ?_
  refine es_cv2_p (pc := 17) dL_moves_17 mr_9_31 rfl rfl (by decide) (by decide) rfl (Nat.le_of_ble_eq_true rfl) (Nat.zero_le _) (P_at hR hW) ?_
  refine es_istore (pc := 20) dL_moves_20 (ok1_5 rfl) ?_
  dsimp only [List.set]
  refine es_aload_n (pc := 22) dL_moves_22 rfl ?_
  refine es_iload (pc := 23) dL_moves_23 rfl ?_
  refine es_iconstN (pc := 25) 1 dL_moves_25 ic_1 ?_
  refine es_cv2_p (pc := 26) dL_moves_26 mr_9_31 rfl rfl (by decide) (by decide) rfl (Nat.le_of_ble_eq_true rfl) (Nat.zero_le _) (G_playerOf hR hW) ?_
  refine es_istore (pc := 29) dL_moves_29 (ok1_6 rfl) ?_
  dsimp only [List.set]
  refine es_aload_n (pc := 31) dL_moves_31 rfl ?_
  refine es_iload (pc := 32) dL_moves_32 rfl ?_
  refine es_iconstN (pc := 34) 2 dL_moves_34 ic_2 ?_
  refine es_cv2_p (pc := 35) dL_moves_35 mr_9_31 rfl rfl (by decide) (by decide) rfl (Nat.le_of_ble_eq_true rfl) (Nat.zero_le _) (G_playerOf hR hW) ?_
  refine es_istore (pc := 38) dL_moves_38 (ok1_7 rfl) ?_
  dsimp only [List.set]
  refine es_aload_n (pc := 40) dL_moves_40 rfl ?_
  refine es_iload (pc := 41) dL_moves_41 rfl ?_
  refine es_bipushN (pc := 43) 7 dL_moves_43 bp_7 ?_
  refine es_cv2_p (pc := 45) dL_moves_45 mr_9_31 rfl rfl (by decide) (by decide) rfl (Nat.le_of_ble_eq_true rfl) (Nat.zero_le _) (G_playerOf hR hW) ?_
  refine es_istore (pc := 48) dL_moves_48 (ok1_8 rfl) ?_
  dsimp only [List.set]
  refine es_aload_n (pc := 50) dL_moves_50 rfl ?_
  refine es_iload (pc := 51) dL_moves_51 rfl ?_
  refine es_iconstN (pc := 53) 1 dL_moves_53 ic_1 ?_
  refine es_cv2_p (pc := 54) dL_moves_54 mr_9_9 rfl rfl (by decide) (by decide) rfl (Nat.le_of_ble_eq_true rfl) (Nat.zero_le _) (G_tower hR hW) ?_
  refine es_istore (pc := 57) dL_moves_57 (ok1_9 rfl) ?_
  dsimp only [List.set]
  refine es_iload_n (pc := 59) dL_moves_59 rfl ?_
  refine es_iconstN (pc := 60) 3 dL_moves_60 ic_3 ?_
  refine es_icmp_neN (pc := 61) 68 dL_moves_61 (by decide) (by omega) (by omega) (fun c61 => ?_) (fun c61 => ?_)
  · refine es_iconstN (pc := 68) 0 dL_moves_68 ic_0 ?_
    refine es_istore (pc := 69) dL_moves_69 (ok1_10 rfl) ?_
    dsimp only [List.set]
    refine es_iload_n (pc := 71) dL_moves_71 rfl ?_
    refine es_iconstN (pc := 72) 3 dL_moves_72 ic_3 ?_
    refine es_icmp_neN (pc := 73) 86 dL_moves_73 (by decide) (by omega) (by omega) (fun c73 => ?_) (fun c73 => ?_)
    · refine es_iconstN (pc := 86) 0 dL_moves_86 ic_0 ?_
      refine es_istore (pc := 87) dL_moves_87 (ok1_11 rfl) ?_
      dsimp only [List.set]
      refine es_iload_n (pc := 89) dL_moves_89 rfl ?_
      refine es_iconstN (pc := 90) 1 dL_moves_90 ic_1 ?_
      refine es_icmp_neN (pc := 91) 103 dL_moves_91 (by decide) (by omega) (by omega) (fun c91 => ?_) (fun c91 => ?_)
      · refine es_iconstN (pc := 103) 0 dL_moves_103 ic_0 ?_
        refine es_istore (pc := 104) dL_moves_104 (ok1_12 rfl) ?_
        dsimp only [List.set]
        refine es_aload_n (pc := 106) dL_moves_106 rfl ?_
        refine es_iconstN (pc := 107) 2 dL_moves_107 ic_2 ?_
        refine es_cv1_p (pc := 108) dL_moves_108 mr_9_24 rfl rfl (by decide) (by decide) rfl (Nat.le_of_ble_eq_true rfl) (Nat.zero_le _) (C_2 hR hW) ?_
        refine es_istore (pc := 111) dL_moves_111 (ok1_13 rfl) ?_
        dsimp only [List.set]
        refine es_aload_n (pc := 113) dL_moves_113 rfl ?_
        refine es_iconstN (pc := 114) 4 dL_moves_114 ic_4 ?_
        refine es_cv1_p (pc := 115) dL_moves_115 mr_9_24 rfl rfl (by decide) (by decide) rfl (Nat.le_of_ble_eq_true rfl) (Nat.zero_le _) (G_count hR hW) ?_
        refine es_istore (pc := 118) dL_moves_118 (ok1_14 rfl) ?_
        dsimp only [List.set]
        refine es_aload_n (pc := 120) dL_moves_120 rfl ?_
        refine es_iconstN (pc := 121) 3 dL_moves_121 ic_3 ?_
        refine es_cv1_p (pc := 122) dL_moves_122 mr_9_24 rfl rfl (by decide) (by decide) rfl (Nat.le_of_ble_eq_true rfl) (Nat.zero_le _) (G_count hR hW) ?_
        refine es_istore (pc := 125) dL_moves_125 (ok1_15 rfl) ?_
        dsimp only [List.set]
        refine es_iload_n (pc := 127) dL_moves_127 rfl ?_
        refine es_iconstN (pc := 128) 3 dL_moves_128 ic_3 ?_
        refine es_icmp_neN (pc := 129) 148 dL_moves_129 (by decide) (by omega) (by omega) (fun c129 => ?_) (fun c129 => ?_)
        · refine es_iconstN (pc := 148) 0 dL_moves_148 ic_0 ?_
          refine es_istore (pc := 149) dL_moves_149 (ok1_16 rfl) ?_
          dsimp only [List.set]
          refine es_iload_n (pc := 151) dL_moves_151 rfl ?_
          refine es_iconstN (pc := 152) 1 dL_moves_152 ic_1 ?_
          refine es_icmp_neN (pc := 153) 166 dL_moves_153 (by decide) (by omega) (by omega) (fun c153 => ?_) (fun c153 => ?_)
          · refine es_iload_n (pc := 166) dL_moves_166 rfl ?_
            refine es_iconstN (pc := 167) 2 dL_moves_167 ic_2 ?_
            refine es_icmp_neN (pc := 168) 189 dL_moves_168 (by decide) (by omega) (by omega) (fun c168 => ?_) (fun c168 => ?_)
            · refine es_iload_n (pc := 189) dL_moves_189 rfl ?_
              refine es_iconstN (pc := 190) 3 dL_moves_190 ic_3 ?_
              refine es_icmp_neN (pc := 191) 256 dL_moves_191 (by decide) (by omega) (by omega) (fun c191 => ?_) (fun c191 => ?_)
              · refine es_iconstN (pc := 256) 0 dL_moves_256 ic_0 ?_
                refine es_istore (pc := 257) dL_moves_257 (ok1_17 rfl) ?_
                dsimp only [List.set]
                refine es_iload_n (pc := 259) dL_moves_259 rfl ?_
                refine es_iconstN (pc := 260) 1 dL_moves_260 ic_1 ?_
                refine es_icmp_neN (pc := 261) 274 dL_moves_261 (by decide) (by omega) (by omega) (fun c261 => ?_) (fun c261 => ?_)
                · refine es_iload_n (pc := 274) dL_moves_274 rfl ?_
                  refine es_iconstN (pc := 275) 2 dL_moves_275 ic_2 ?_
                  refine es_icmp_neN (pc := 276) 287 dL_moves_276 (by decide) (by omega) (by omega) (fun c276 => ?_) (fun c276 => ?_)
                  · refine es_iconstN (pc := 287) 0 dL_moves_287 ic_0 ?_
                    refine es_istore (pc := 288) dL_moves_288 (ok1_18 rfl) ?_
                    dsimp only [List.set]
                    refine es_iload_n (pc := 290) dL_moves_290 rfl ?_
                    refine es_if_ne (pc := 291) (tgt := 301) dL_moves_291 (by decide) (fun c291 => ?_) (fun c291 => ?_)
                    · exact absurd c291 (by decide)
                    · refine es_aload_n (pc := 294) dL_moves_294 rfl ?_
                      refine es_cv0_i (pc := 295) dL_moves_295 mr_9_48 rfl rfl (by decide) (by decide) rfl (Nat.le_of_ble_eq_true rfl) (Nat.zero_le _) (O_rest hR hW hv) (fun x295 μ295 h295 => ?_)
                      obtain ⟨rfl, hR2⟩ := h295
                      rw [← hS2] at hR2
                      refine es_goto (pc := 298) (tgt := 332) dL_moves_298 (by decide) ?_
                      refine es_istore (pc := 332) dL_moves_332 (ok1_19 rfl) ?_
                      dsimp only [List.set]
                      refine es_iload (pc := 334) dL_moves_334 rfl ?_
                      refine es_if_eq (pc := 336) (tgt := 430) dL_moves_336 (by decide) (fun c336 => ?_) (fun c336 => ?_)
                      · obtain ⟨R, hRR⟩ : ∃ q : gm_R, q = S.1 := ⟨_, rfl⟩
                        have e2 : S2.1 = gm_ends R (rP S.1) (rOn S.1) := by rw [hS2, hRR]; exact rfl
                        have r0 : R (31 + 7 * rOn S.1) = S.1 (31 + 7 * rOn S.1) := by rw [hRR]
                        have r1 : R (31 + 7 * rOn S.1 + 1) = S.1 (31 + 7 * rOn S.1 + 1) + nI 0 := by rw [hRR, nI_0, Int32.add_zero]
                        have r2 : R (31 + 7 * rOn S.1 + 2) = S.1 (31 + 7 * rOn S.1 + 2) - nI 0 := by rw [hRR, nI_0, Int32.sub_zero]
                        have r6 : R (31 + 7 * rOn S.1 + 6) = S.1 (31 + 7 * rOn S.1 + 6) + nI 0 := by rw [hRR, nI_0, Int32.add_zero]
                        have rT : R (21 + rPl S.1 (rOn S.1)) = S.1 (21 + rPl S.1 (rOn S.1)) + nI 0 := by rw [hRR, nI_0, Int32.add_zero]
                        have q7 : R 7 = S.1 7 := by rw [hRR]
                        have q8 : R 8 = S.1 8 := by rw [hRR]
                        have q6 : R 6 = S.1 6 := by rw [hRR]
                        have qk : ∀ k, k < 5 → R k = S.1 k := fun _ _ => by rw [hRR]
                        obtain ⟨m0, m1, m2, m6, mT, m5, m7, m8, mi, mq, mk⟩ := mv_endq ho e2
                        have k0 : S2.1 0 = R 0 := mk 0 (by decide)
                        refine es_iload (pc := 430) dL_moves_430 rfl ?_
                        refine es_iload (pc := 432) dL_moves_432 rfl ?_
                        refine es_isub (pc := 434) dL_moves_434 ?_
                        refine es_top ((show _ = R (31 + 7 * rOn S.1 + 2) from r2.symm)) ?_
                        refine es_istore (pc := 435) dL_moves_435 (ok1_7 rfl) ?_
                        dsimp only [List.set]
                        refine es_iload (pc := 437) dL_moves_437 rfl ?_
                        refine es_iconstN (pc := 439) 2 dL_moves_439 ic_2 ?_
                        refine es_idivN (pc := 440) dL_moves_440 (by omega) (by omega) (by omega) ?_
                        refine es_istore (pc := 441) dL_moves_441 (ok1_20 rfl) ?_
                        dsimp only [List.set]
                        refine es_iload (pc := 443) dL_moves_443 rfl ?_
                        refine es_iload_n (pc := 445) dL_moves_445 rfl ?_
                        refine es_iconstN (pc := 446) 1 dL_moves_446 ic_1 ?_
                        refine es_icmp_neN (pc := 447) 455 dL_moves_447 (by decide) (by omega) (by omega) (fun c447 => ?_) (fun c447 => ?_)
                        · refine es_iload_n (pc := 455) dL_moves_455 rfl ?_
                          refine es_iconstN (pc := 456) 3 dL_moves_456 ic_3 ?_
                          refine es_icmp_neN (pc := 457) 465 dL_moves_457 (by decide) (by omega) (by omega) (fun c457 => ?_) (fun c457 => ?_)
                          · refine es_iconstN (pc := 465) 0 dL_moves_465 ic_0 ?_
                            refine es_iadd (pc := 466) dL_moves_466 ?_
                            refine es_top ((show _ = R (31 + 7 * rOn S.1 + 1) from r1.symm)) ?_
                            refine es_istore (pc := 467) dL_moves_467 (ok1_6 rfl) ?_
                            dsimp only [List.set]
                            refine es_iload_n (pc := 469) dL_moves_469 rfl ?_
                            refine es_iconstN (pc := 470) 2 dL_moves_470 ic_2 ?_
                            refine es_icmp_neN (pc := 471) 486 dL_moves_471 (by decide) (by omega) (by omega) (fun c471 => ?_) (fun c471 => ?_)
                            · refine es_iload (pc := 486) dL_moves_486 rfl ?_
                              refine es_aload_n (pc := 488) dL_moves_488 rfl ?_
                              refine es_iconstN (pc := 489) 0 dL_moves_489 ic_0 ?_
                              refine es_cv1_p (pc := 490) dL_moves_490 mr_9_15 rfl rfl (by decide) (by decide) rfl (Nat.le_of_ble_eq_true rfl) (Nat.zero_le _) (G_setting hR2 hW2) ?_
                              refine es_icmp_ge (pc := 493) (tgt := 501) dL_moves_493 (by decide) (fun c493 => ?_) (fun c493 => ?_)
                              · refine es_aload_n (pc := 501) dL_moves_501 rfl ?_
                                refine es_iconstN (pc := 502) 0 dL_moves_502 ic_0 ?_
                                refine es_cv1_p (pc := 503) dL_moves_503 mr_9_15 rfl rfl (by decide) (by decide) rfl (Nat.le_of_ble_eq_true rfl) (Nat.zero_le _) (G_setting hR2 hW2) ?_
                                refine es_top (run_b k0 c493) ?_
                                refine es_istore (pc := 506) dL_moves_506 (ok1_21 rfl) ?_
                                dsimp only [List.set]
                                refine es_iload (pc := 508) dL_moves_508 rfl ?_
                                refine es_iload_n (pc := 510) dL_moves_510 rfl ?_
                                refine es_if_ne (pc := 511) (tgt := 519) dL_moves_511 (by decide) (fun c511 => ?_) (fun c511 => ?_)
                                · exact absurd c511 (by decide)
                                · refine es_iload (pc := 514) dL_moves_514 rfl ?_
                                  refine es_goto (pc := 516) (tgt := 520) dL_moves_516 (by decide) ?_
                                  refine es_icmp_ne (pc := 520) (tgt := 594) dL_moves_520 (by decide) (fun c520 => ?_) (fun c520 => ?_)
                                  · exact absurd (by rw [hRR]) c520
                                  · refine es_aload_n (pc := 523) dL_moves_523 rfl ?_
                                    refine es_iload (pc := 524) dL_moves_524 rfl ?_
                                    refine es_iconstN (pc := 526) 0 dL_moves_526 ic_0 ?_
                                    refine es_cv2_p (pc := 527) dL_moves_527 mr_9_31 rfl rfl (by decide) (by decide) rfl (Nat.le_of_ble_eq_true rfl) (Nat.zero_le _) (G_playerOf hR2 hW2 (hp := by omega)) ?_
                                    refine es_iload_n (pc := 530) dL_moves_530 rfl ?_
                                    refine es_iconstN (pc := 531) 1 dL_moves_531 ic_1 ?_
                                    refine es_icmp_neN (pc := 532) 539 dL_moves_532 (by decide) (by omega) (by omega) (fun c532 => ?_) (fun c532 => ?_)
                                    · refine es_iload (pc := 539) dL_moves_539 rfl ?_
                                      refine es_icmp_ne (pc := 541) (tgt := 594) dL_moves_541 (by decide) (fun c541 => ?_) (fun c541 => ?_)
                                      · exact absurd ((m0.trans r0).trans (wf_at hW.1 hon4).1) c541
                                      · refine es_aload_n (pc := 544) dL_moves_544 rfl ?_
                                        refine es_iload (pc := 545) dL_moves_545 rfl ?_
                                        refine es_iconstN (pc := 547) 1 dL_moves_547 ic_1 ?_
                                        refine es_cv2_p (pc := 548) dL_moves_548 mr_9_31 rfl rfl (by decide) (by decide) rfl (Nat.le_of_ble_eq_true rfl) (Nat.zero_le _) (G_playerOf hR2 hW2 (hp := by omega)) ?_
                                        refine es_iload (pc := 551) dL_moves_551 rfl ?_
                                        refine es_iload (pc := 553) dL_moves_553 rfl ?_
                                        refine es_isub (pc := 555) dL_moves_555 ?_
                                        refine es_icmp_ne (pc := 556) (tgt := 594) dL_moves_556 (by decide) (fun c556 => ?_) (fun c556 => ?_)
                                        · exact absurd m1 c556
                                        · refine es_aload_n (pc := 559) dL_moves_559 rfl ?_
                                          refine es_iload (pc := 560) dL_moves_560 rfl ?_
                                          refine es_iconstN (pc := 562) 2 dL_moves_562 ic_2 ?_
                                          refine es_cv2_p (pc := 563) dL_moves_563 mr_9_31 rfl rfl (by decide) (by decide) rfl (Nat.le_of_ble_eq_true rfl) (Nat.zero_le _) (G_playerOf hR2 hW2 (hp := by omega)) ?_
                                          refine es_iload (pc := 566) dL_moves_566 rfl ?_
                                          refine es_iload (pc := 568) dL_moves_568 rfl ?_
                                          refine es_iadd (pc := 570) dL_moves_570 ?_
                                          refine es_icmp_ne (pc := 571) (tgt := 594) dL_moves_571 (by decide) (fun c571 => ?_) (fun c571 => ?_)
                                          · exact absurd m2 c571
                                          · refine es_aload_n (pc := 574) dL_moves_574 rfl ?_
                                            refine es_iload (pc := 575) dL_moves_575 rfl ?_
                                            refine es_bipushN (pc := 577) 7 dL_moves_577 bp_7 ?_
                                            refine es_cv2_p (pc := 579) dL_moves_579 mr_9_31 rfl rfl (by decide) (by decide) rfl (Nat.le_of_ble_eq_true rfl) (Nat.zero_le _) (G_playerOf hR2 hW2 (hp := by omega)) ?_
                                            refine es_iload (pc := 582) dL_moves_582 rfl ?_
                                            refine es_iload (pc := 584) dL_moves_584 rfl ?_
                                            refine es_iadd (pc := 586) dL_moves_586 ?_
                                            refine es_icmp_ne (pc := 587) (tgt := 594) dL_moves_587 (by decide) (fun c587 => ?_) (fun c587 => ?_)
                                            · exact absurd (m6.trans r6) c587
                                            · refine es_iconstN (pc := 590) 1 dL_moves_590 ic_1 ?_
                                              refine es_goto (pc := 591) (tgt := 595) dL_moves_591 (by decide) ?_
                                              refine es_istore (pc := 595) dL_moves_595 (ok1_22 rfl) ?_
                                              dsimp only [List.set]
                                              refine es_iload (pc := 597) dL_moves_597 rfl ?_
                                              refine es_if_eq (pc := 599) (tgt := 671) dL_moves_599 (by decide) (fun c599 => ?_) (fun c599 => ?_)
                                              · exact absurd c599 (by decide)
                                              · refine es_aload_n (pc := 602) dL_moves_602 rfl ?_
                                                refine es_iload (pc := 603) dL_moves_603 rfl ?_
                                                refine es_iconstN (pc := 605) 1 dL_moves_605 ic_1 ?_
                                                refine es_cv2_p (pc := 606) dL_moves_606 mr_9_9 rfl rfl (by decide) (by decide) rfl (Nat.le_of_ble_eq_true rfl) (Nat.zero_le _) (G_tower hR2 hW2) ?_
                                                refine es_iload (pc := 609) dL_moves_609 rfl ?_
                                                refine es_iload (pc := 611) dL_moves_611 rfl ?_
                                                refine es_iadd (pc := 613) dL_moves_613 ?_
                                                refine es_icmp_ne (pc := 614) (tgt := 671) dL_moves_614 (by decide) (fun c614 => ?_) (fun c614 => ?_)
                                                · exact absurd ((mT _ ha).trans (rT)) c614
                                                · refine es_iload_n (pc := 617) dL_moves_617 rfl ?_
                                                  refine es_iconstN (pc := 618) 1 dL_moves_618 ic_1 ?_
                                                  refine es_icmp_neN (pc := 619) 631 dL_moves_619 (by decide) (by omega) (by omega) (fun c619 => ?_) (fun c619 => ?_)
                                                  · refine es_aload_n (pc := 631) dL_moves_631 rfl ?_
                                                    refine es_iconstN (pc := 632) 1 dL_moves_632 ic_1 ?_
                                                    refine es_cv1_p (pc := 633) dL_moves_633 mr_9_24 rfl rfl (by decide) (by decide) rfl (Nat.le_of_ble_eq_true rfl) (Nat.zero_le _) (G_count hR2 hW2) ?_
                                                    refine es_iload (pc := 636) dL_moves_636 rfl ?_
                                                    refine es_iconstN (pc := 638) 1 dL_moves_638 ic_1 ?_
                                                    refine es_iaddN (pc := 639) dL_moves_639 ?_
                                                    refine es_iload_n (pc := 640) dL_moves_640 rfl ?_
                                                    refine es_iremN (pc := 641) dL_moves_641 (by omega) (by omega) (by omega) ?_
                                                    refine es_icmp_ne (pc := 642) (tgt := 671) dL_moves_642 (by decide) (fun c642 => ?_) (fun c642 => ?_)
                                                    · exact absurd (s_c1 hW2 (by omega) m5) c642
                                                    · refine es_aload_n (pc := 645) dL_moves_645 rfl ?_
                                                      refine es_iconstN (pc := 646) 3 dL_moves_646 ic_3 ?_
                                                      refine es_cv1_p (pc := 647) dL_moves_647 mr_9_24 rfl rfl (by decide) (by decide) rfl (Nat.le_of_ble_eq_true rfl) (Nat.zero_le _) (G_count hR2 hW2) ?_
                                                      refine es_iload (pc := 650) dL_moves_650 rfl ?_
                                                      refine es_iconstN (pc := 652) 1 dL_moves_652 ic_1 ?_
                                                      refine es_iadd (pc := 653) dL_moves_653 ?_
                                                      refine es_icmp_ne (pc := 654) (tgt := 671) dL_moves_654 (by decide) (fun c654 => ?_) (fun c654 => ?_)
                                                      · exact absurd (m7.trans (by rw [q7]; rfl)) c654
                                                      · refine es_aload_n (pc := 657) dL_moves_657 rfl ?_
                                                        refine es_iconstN (pc := 658) 4 dL_moves_658 ic_4 ?_
                                                        refine es_cv1_p (pc := 659) dL_moves_659 mr_9_24 rfl rfl (by decide) (by decide) rfl (Nat.le_of_ble_eq_true rfl) (Nat.zero_le _) (G_count hR2 hW2) ?_
                                                        refine es_iload (pc := 662) dL_moves_662 rfl ?_
                                                        refine es_icmp_ne (pc := 664) (tgt := 671) dL_moves_664 (by decide) (fun c664 => ?_) (fun c664 => ?_)
                                                        · exact absurd (m8.trans q8) c664
                                                        · refine es_iconstN (pc := 667) 1 dL_moves_667 ic_1 ?_
                                                          refine es_goto (pc := 668) (tgt := 672) dL_moves_668 (by decide) ?_
                                                          refine es_istore (pc := 672) dL_moves_672 (ok1_22 rfl) ?_
                                                          dsimp only [List.set]
                                                          refine es_iload (pc := 674) dL_moves_674 rfl ?_
                                                          refine es_if_eq (pc := 676) (tgt := 723) dL_moves_676 (by decide) (fun c676 => ?_) (fun c676 => ?_)
                                                          · exact absurd c676 (by decide)
                                                          · refine es_aload_n (pc := 679) dL_moves_679 rfl ?_
                                                            refine es_iconstN (pc := 680) 2 dL_moves_680 ic_2 ?_
                                                            refine es_cv1_p (pc := 681) dL_moves_681 mr_9_24 rfl rfl (by decide) (by decide) rfl (Nat.le_of_ble_eq_true rfl) (Nat.zero_le _) (G_count hR2 hW2) ?_
                                                            refine es_iload_n (pc := 684) dL_moves_684 rfl ?_
                                                            refine es_iconstN (pc := 685) 3 dL_moves_685 ic_3 ?_
                                                            refine es_icmp_neN (pc := 686) 694 dL_moves_686 (by decide) (by omega) (by omega) (fun c686 => ?_) (fun c686 => ?_)
                                                            · refine es_iload (pc := 694) dL_moves_694 rfl ?_
                                                              refine es_icmp_ne (pc := 696) (tgt := 723) dL_moves_696 (by decide) (fun c696 => ?_) (fun c696 => ?_)
                                                              · exact absurd (s_c2 hW2 (by omega) (mi.trans (q6.trans hi2))) c696
                                                              · refine es_iload_n (pc := 699) dL_moves_699 rfl ?_
                                                                refine es_iconstN (pc := 700) 3 dL_moves_700 ic_3 ?_
                                                                refine es_icmp_neN (pc := 701) 719 dL_moves_701 (by decide) (by omega) (by omega) (fun c701 => ?_) (fun c701 => ?_)
                                                                · refine es_iconstN (pc := 719) 1 dL_moves_719 ic_1 ?_
                                                                  refine es_goto (pc := 720) (tgt := 724) dL_moves_720 (by decide) ?_
                                                                  refine es_ireturn (pc := 724) dL_moves_724 rfl (rfl) (by decide) ?_
                                                                  exact ⟨_, rfl, rfl, by rw [← hS2]; exact hR2⟩
                                                                · exact absurd c701 (by decide)
                                                            · exact absurd c686 (by decide)
                                                  · exact absurd c619 (by decide)
                                    · exact absurd c532 (by decide)
                              · refine es_iload (pc := 496) dL_moves_496 rfl ?_
                                refine es_goto (pc := 498) (tgt := 506) dL_moves_498 (by decide) ?_
                                refine es_top (run_a k0 c493) ?_
                                refine es_istore (pc := 506) dL_moves_506 (ok1_21 rfl) ?_
                                dsimp only [List.set]
                                refine es_iload (pc := 508) dL_moves_508 rfl ?_
                                refine es_iload_n (pc := 510) dL_moves_510 rfl ?_
                                refine es_if_ne (pc := 511) (tgt := 519) dL_moves_511 (by decide) (fun c511 => ?_) (fun c511 => ?_)
                                · exact absurd c511 (by decide)
                                · refine es_iload (pc := 514) dL_moves_514 rfl ?_
                                  refine es_goto (pc := 516) (tgt := 520) dL_moves_516 (by decide) ?_
                                  refine es_icmp_ne (pc := 520) (tgt := 594) dL_moves_520 (by decide) (fun c520 => ?_) (fun c520 => ?_)
                                  · exact absurd (by rw [hRR]) c520
                                  · refine es_aload_n (pc := 523) dL_moves_523 rfl ?_
                                    refine es_iload (pc := 524) dL_moves_524 rfl ?_
                                    refine es_iconstN (pc := 526) 0 dL_moves_526 ic_0 ?_
                                    refine es_cv2_p (pc := 527) dL_moves_527 mr_9_31 rfl rfl (by decide) (by decide) rfl (Nat.le_of_ble_eq_true rfl) (Nat.zero_le _) (G_playerOf hR2 hW2 (hp := by omega)) ?_
                                    refine es_iload_n (pc := 530) dL_moves_530 rfl ?_
                                    refine es_iconstN (pc := 531) 1 dL_moves_531 ic_1 ?_
                                    refine es_icmp_neN (pc := 532) 539 dL_moves_532 (by decide) (by omega) (by omega) (fun c532 => ?_) (fun c532 => ?_)
                                    · refine es_iload (pc := 539) dL_moves_539 rfl ?_
                                      refine es_icmp_ne (pc := 541) (tgt := 594) dL_moves_541 (by decide) (fun c541 => ?_) (fun c541 => ?_)
                                      · exact absurd ((m0.trans r0).trans (wf_at hW.1 hon4).1) c541
                                      · refine es_aload_n (pc := 544) dL_moves_544 rfl ?_
                                        refine es_iload (pc := 545) dL_moves_545 rfl ?_
                                        refine es_iconstN (pc := 547) 1 dL_moves_547 ic_1 ?_
                                        refine es_cv2_p (pc := 548) dL_moves_548 mr_9_31 rfl rfl (by decide) (by decide) rfl (Nat.le_of_ble_eq_true rfl) (Nat.zero_le _) (G_playerOf hR2 hW2 (hp := by omega)) ?_
                                        refine es_iload (pc := 551) dL_moves_551 rfl ?_
                                        refine es_iload (pc := 553) dL_moves_553 rfl ?_
                                        refine es_isub (pc := 555) dL_moves_555 ?_
                                        refine es_icmp_ne (pc := 556) (tgt := 594) dL_moves_556 (by decide) (fun c556 => ?_) (fun c556 => ?_)
                                        · exact absurd m1 c556
                                        · refine es_aload_n (pc := 559) dL_moves_559 rfl ?_
                                          refine es_iload (pc := 560) dL_moves_560 rfl ?_
                                          refine es_iconstN (pc := 562) 2 dL_moves_562 ic_2 ?_
                                          refine es_cv2_p (pc := 563) dL_moves_563 mr_9_31 rfl rfl (by decide) (by decide) rfl (Nat.le_of_ble_eq_true rfl) (Nat.zero_le _) (G_playerOf hR2 hW2 (hp := by omega)) ?_
                                          refine es_iload (pc := 566) dL_moves_566 rfl ?_
                                          refine es_iload (pc := 568) dL_moves_568 rfl ?_
                                          refine es_iadd (pc := 570) dL_moves_570 ?_
                                          refine es_icmp_ne (pc := 571) (tgt := 594) dL_moves_571 (by decide) (fun c571 => ?_) (fun c571 => ?_)
                                          · exact absurd m2 c571
                                          · refine es_aload_n (pc := 574) dL_moves_574 rfl ?_
                                            refine es_iload (pc := 575) dL_moves_575 rfl ?_
                                            refine es_bipushN (pc := 577) 7 dL_moves_577 bp_7 ?_
                                            refine es_cv2_p (pc := 579) dL_moves_579 mr_9_31 rfl rfl (by decide) (by decide) rfl (Nat.le_of_ble_eq_true rfl) (Nat.zero_le _) (G_playerOf hR2 hW2 (hp := by omega)) ?_
                                            refine es_iload (pc := 582) dL_moves_582 rfl ?_
                                            refine es_iload (pc := 584) dL_moves_584 rfl ?_
                                            refine es_iadd (pc := 586) dL_moves_586 ?_
                                            refine es_icmp_ne (pc := 587) (tgt := 594) dL_moves_587 (by decide) (fun c587 => ?_) (fun c587 => ?_)
                                            · exact absurd (m6.trans r6) c587
                                            · refine es_iconstN (pc := 590) 1 dL_moves_590 ic_1 ?_
                                              refine es_goto (pc := 591) (tgt := 595) dL_moves_591 (by decide) ?_
                                              refine es_istore (pc := 595) dL_moves_595 (ok1_22 rfl) ?_
                                              dsimp only [List.set]
                                              refine es_iload (pc := 597) dL_moves_597 rfl ?_
                                              refine es_if_eq (pc := 599) (tgt := 671) dL_moves_599 (by decide) (fun c599 => ?_) (fun c599 => ?_)
                                              · exact absurd c599 (by decide)
                                              · refine es_aload_n (pc := 602) dL_moves_602 rfl ?_
                                                refine es_iload (pc := 603) dL_moves_603 rfl ?_
                                                refine es_iconstN (pc := 605) 1 dL_moves_605 ic_1 ?_
                                                refine es_cv2_p (pc := 606) dL_moves_606 mr_9_9 rfl rfl (by decide) (by decide) rfl (Nat.le_of_ble_eq_true rfl) (Nat.zero_le _) (G_tower hR2 hW2) ?_
                                                refine es_iload (pc := 609) dL_moves_609 rfl ?_
                                                refine es_iload (pc := 611) dL_moves_611 rfl ?_
                                                refine es_iadd (pc := 613) dL_moves_613 ?_
                                                refine es_icmp_ne (pc := 614) (tgt := 671) dL_moves_614 (by decide) (fun c614 => ?_) (fun c614 => ?_)
                                                · exact absurd ((mT _ ha).trans (rT)) c614
                                                · refine es_iload_n (pc := 617) dL_moves_617 rfl ?_
                                                  refine es_iconstN (pc := 618) 1 dL_moves_618 ic_1 ?_
                                                  refine es_icmp_neN (pc := 619) 631 dL_moves_619 (by decide) (by omega) (by omega) (fun c619 => ?_) (fun c619 => ?_)
                                                  · refine es_aload_n (pc := 631) dL_moves_631 rfl ?_
                                                    refine es_iconstN (pc := 632) 1 dL_moves_632 ic_1 ?_
                                                    refine es_cv1_p (pc := 633) dL_moves_633 mr_9_24 rfl rfl (by decide) (by decide) rfl (Nat.le_of_ble_eq_true rfl) (Nat.zero_le _) (G_count hR2 hW2) ?_
                                                    refine es_iload (pc := 636) dL_moves_636 rfl ?_
                                                    refine es_iconstN (pc := 638) 1 dL_moves_638 ic_1 ?_
                                                    refine es_iaddN (pc := 639) dL_moves_639 ?_
                                                    refine es_iload_n (pc := 640) dL_moves_640 rfl ?_
                                                    refine es_iremN (pc := 641) dL_moves_641 (by omega) (by omega) (by omega) ?_
                                                    refine es_icmp_ne (pc := 642) (tgt := 671) dL_moves_642 (by decide) (fun c642 => ?_) (fun c642 => ?_)
                                                    · exact absurd (s_c1 hW2 (by omega) m5) c642
                                                    · refine es_aload_n (pc := 645) dL_moves_645 rfl ?_
                                                      refine es_iconstN (pc := 646) 3 dL_moves_646 ic_3 ?_
                                                      refine es_cv1_p (pc := 647) dL_moves_647 mr_9_24 rfl rfl (by decide) (by decide) rfl (Nat.le_of_ble_eq_true rfl) (Nat.zero_le _) (G_count hR2 hW2) ?_
                                                      refine es_iload (pc := 650) dL_moves_650 rfl ?_
                                                      refine es_iconstN (pc := 652) 1 dL_moves_652 ic_1 ?_
                                                      refine es_iadd (pc := 653) dL_moves_653 ?_
                                                      refine es_icmp_ne (pc := 654) (tgt := 671) dL_moves_654 (by decide) (fun c654 => ?_) (fun c654 => ?_)
                                                      · exact absurd (m7.trans (by rw [q7]; rfl)) c654
                                                      · refine es_aload_n (pc := 657) dL_moves_657 rfl ?_
                                                        refine es_iconstN (pc := 658) 4 dL_moves_658 ic_4 ?_
                                                        refine es_cv1_p (pc := 659) dL_moves_659 mr_9_24 rfl rfl (by decide) (by decide) rfl (Nat.le_of_ble_eq_true rfl) (Nat.zero_le _) (G_count hR2 hW2) ?_
                                                        refine es_iload (pc := 662) dL_moves_662 rfl ?_
                                                        refine es_icmp_ne (pc := 664) (tgt := 671) dL_moves_664 (by decide) (fun c664 => ?_) (fun c664 => ?_)
                                                        · exact absurd (m8.trans q8) c664
                                                        · refine es_iconstN (pc := 667) 1 dL_moves_667 ic_1 ?_
                                                          refine es_goto (pc := 668) (tgt := 672) dL_moves_668 (by decide) ?_
                                                          refine es_istore (pc := 672) dL_moves_672 (ok1_22 rfl) ?_
                                                          dsimp only [List.set]
                                                          refine es_iload (pc := 674) dL_moves_674 rfl ?_
                                                          refine es_if_eq (pc := 676) (tgt := 723) dL_moves_676 (by decide) (fun c676 => ?_) (fun c676 => ?_)
                                                          · exact absurd c676 (by decide)
                                                          · refine es_aload_n (pc := 679) dL_moves_679 rfl ?_
                                                            refine es_iconstN (pc := 680) 2 dL_moves_680 ic_2 ?_
                                                            refine es_cv1_p (pc := 681) dL_moves_681 mr_9_24 rfl rfl (by decide) (by decide) rfl (Nat.le_of_ble_eq_true rfl) (Nat.zero_le _) (G_count hR2 hW2) ?_
                                                            refine es_iload_n (pc := 684) dL_moves_684 rfl ?_
                                                            refine es_iconstN (pc := 685) 3 dL_moves_685 ic_3 ?_
                                                            refine es_icmp_neN (pc := 686) 694 dL_moves_686 (by decide) (by omega) (by omega) (fun c686 => ?_) (fun c686 => ?_)
                                                            · refine es_iload (pc := 694) dL_moves_694 rfl ?_
                                                              refine es_icmp_ne (pc := 696) (tgt := 723) dL_moves_696 (by decide) (fun c696 => ?_) (fun c696 => ?_)
                                                              · exact absurd (s_c2 hW2 (by omega) (mi.trans (q6.trans hi2))) c696
                                                              · refine es_iload_n (pc := 699) dL_moves_699 rfl ?_
                                                                refine es_iconstN (pc := 700) 3 dL_moves_700 ic_3 ?_
                                                                refine es_icmp_neN (pc := 701) 719 dL_moves_701 (by decide) (by omega) (by omega) (fun c701 => ?_) (fun c701 => ?_)
                                                                · refine es_iconstN (pc := 719) 1 dL_moves_719 ic_1 ?_
                                                                  refine es_goto (pc := 720) (tgt := 724) dL_moves_720 (by decide) ?_
                                                                  refine es_ireturn (pc := 724) dL_moves_724 rfl (rfl) (by decide) ?_
                                                                  exact ⟨_, rfl, rfl, by rw [← hS2]; exact hR2⟩
                                                                · exact absurd c701 (by decide)
                                                            · exact absurd c686 (by decide)
                                                  · exact absurd c619 (by decide)
                                    · exact absurd c532 (by decide)
                            · exact absurd c471 (by decide)
                          · exact absurd c457 (by decide)
                        · exact absurd c447 (by decide)
                      · exact absurd rfl c336
                  · exact absurd c276 (by decide)
                · exact absurd c261 (by decide)
              · exact absurd c191 (by decide)
            · exact absurd c168 (by decide)
          · exact absurd c153 (by decide)
        · exact absurd c129 (by decide)
      · exact absurd c91 (by decide)
    · exact absurd c73 (by decide)
  · exact absurd c61 (by decide)
set_option maxHeartbeats 2000000 in
set_option maxRecDepth 20000 in
theorem L_moves_1 {d : Nat} {μ : ev_M} {S : gS} {k to : Nat} (hR : RepC μ S) (hW : WFS S) (hH : HLD S.1 (rP S.1) k) (hk : k < 9999 := by omega) (ht : to < 10 := by omega) (hd : 7 ≤ d := by omega) : SPi (ev_CALL d) 179 [.ref 0, .int (nI 1), .int (nI to)] μ (fun x μ2 => x = bI true ∧ RepC μ2 (gTo S ((rm_stride S.1 to).2))) := by
  obtain ⟨d, rfl⟩ : ∃ q, d = q + 1 := ⟨d - 1, by omega⟩
  refine SPi.of (Nat.le_of_ble_eq_true rfl) ?_
  show es (ev_CALL d) 9 cL_moves (some .boolean) 0 (0, fun _ => 0, []) (fun r μ2 => ∃ x9 : Int32, r = (some (.int x9), 0) ∧ (fun x μ2 => x = bI true ∧ RepC μ2 (gTo S ((rm_stride S.1 to).2))) x9 μ2) 0 [.ref 0, .int (nI 1), .int (nI to), .null, .null, .null, .null, .null, .null, .null, .null, .null, .null, .null, .null, .null, .null, .null, .null, .null, .null, .null, .null] [] μ 0
  obtain ⟨hi1, hi2, hi3, hi5⟩ := wf_n hW.1
  obtain ⟨h4, hon4, hon⟩ := wf_on hW.1
  have h0 : 0 < rP S.1 := hH.2.2.1
  have ho := hon h0
  have hi := hi3 h0
  have hv := hH.over hk
  have ha := wf_pl hW.1 (rOn S.1)
  have hb := wf_pl hW.1 to
  obtain ⟨S2, hS2⟩ : ∃ q : gS, q = (gTo S ((rm_stride S.1 to).2)) := ⟨_, rfl⟩
  have hW2 : WFS S2 := by
    have h9 := wfs_stride (x := nI to) hW
    rw [op_stride, gm_is_nI (by omega), decide_eq_true ht, if_neg (by decide), if_neg (by rw [hv]; decide), cl_nI (by omega)] at h9
    rw [hS2]
    exact h9
  have hH2 : HLD ((rm_stride S.1 to).2) (rP S.1) (k + 1) := hH.stride ht
  have hP2 : rP S2.1 = rP S.1 := by rw [hS2]; exact hH2.2.1
  refine es_aload_n (pc := 0) dL_moves_0 rfl ?_
  refine es_iconstN (pc := 1) 0 dL_moves_1 ic_0 ?_
  refine es_cv1_p (pc := 2) dL_moves_2 mr_9_24 rfl rfl (by decide) (by decide) rfl (Nat.le_of_ble_eq_true rfl) (Nat.zero_le _) (C_0 hR hW) ?_
  refine es_istore_n (pc := 5) dL_moves_5 (ok1_3 rfl) ?_
  dsimp only [List.set]
  refine es_aload_n (pc := 6) dL_moves_6 rfl ?_
  refine es_iconstN (pc := 7) 1 dL_moves_7 ic_1 ?_
  refine es_cv1_p (pc := 8) dL_moves_8 mr_9_24 rfl rfl (by decide) (by decide) rfl (Nat.le_of_ble_eq_true rfl) (Nat.zero_le _) (C_1 hR hW) ?_
  refine es_istore (pc := 11) dL_moves_11 (ok1_4 rfl) ?_
  dsimp only [List.set]
  refine es_aload_n (pc := 13) dL_moves_13 rfl ?_
  refine es_iload (pc := 14) dL_moves_14 rfl ?_
  refine es_iconstN (pc := 16) 0 dL_moves_16 ic_0 ?_
  refine es_cv2_p (pc := 17) dL_moves_17 mr_9_31 rfl rfl (by decide) (by decide) rfl (Nat.le_of_ble_eq_true rfl) (Nat.zero_le _) (P_at hR hW) ?_
  refine es_istore (pc := 20) dL_moves_20 (ok1_5 rfl) ?_
  dsimp only [List.set]
  refine es_aload_n (pc := 22) dL_moves_22 rfl ?_
  refine es_iload (pc := 23) dL_moves_23 rfl ?_
  refine es_iconstN (pc := 25) 1 dL_moves_25 ic_1 ?_
  refine es_cv2_p (pc := 26) dL_moves_26 mr_9_31 rfl rfl (by decide) (by decide) rfl (Nat.le_of_ble_eq_true rfl) (Nat.zero_le _) (G_playerOf hR hW) ?_
  refine es_istore (pc := 29) dL_moves_29 (ok1_6 rfl) ?_
  dsimp only [List.set]
  refine es_aload_n (pc := 31) dL_moves_31 rfl ?_
  refine es_iload (pc := 32) dL_moves_32 rfl ?_
  refine es_iconstN (pc := 34) 2 dL_moves_34 ic_2 ?_
  refine es_cv2_p (pc := 35) dL_moves_35 mr_9_31 rfl rfl (by decide) (by decide) rfl (Nat.le_of_ble_eq_true rfl) (Nat.zero_le _) (G_playerOf hR hW) ?_
  refine es_istore (pc := 38) dL_moves_38 (ok1_7 rfl) ?_
  dsimp only [List.set]
  refine es_aload_n (pc := 40) dL_moves_40 rfl ?_
  refine es_iload (pc := 41) dL_moves_41 rfl ?_
  refine es_bipushN (pc := 43) 7 dL_moves_43 bp_7 ?_
  refine es_cv2_p (pc := 45) dL_moves_45 mr_9_31 rfl rfl (by decide) (by decide) rfl (Nat.le_of_ble_eq_true rfl) (Nat.zero_le _) (G_playerOf hR hW) ?_
  refine es_istore (pc := 48) dL_moves_48 (ok1_8 rfl) ?_
  dsimp only [List.set]
  refine es_aload_n (pc := 50) dL_moves_50 rfl ?_
  refine es_iload (pc := 51) dL_moves_51 rfl ?_
  refine es_iconstN (pc := 53) 1 dL_moves_53 ic_1 ?_
  refine es_cv2_p (pc := 54) dL_moves_54 mr_9_9 rfl rfl (by decide) (by decide) rfl (Nat.le_of_ble_eq_true rfl) (Nat.zero_le _) (G_tower hR hW) ?_
  refine es_istore (pc := 57) dL_moves_57 (ok1_9 rfl) ?_
  dsimp only [List.set]
  refine es_iload_n (pc := 59) dL_moves_59 rfl ?_
  refine es_iconstN (pc := 60) 3 dL_moves_60 ic_3 ?_
  refine es_icmp_neN (pc := 61) 68 dL_moves_61 (by decide) (by omega) (by omega) (fun c61 => ?_) (fun c61 => ?_)
  · refine es_iconstN (pc := 68) 0 dL_moves_68 ic_0 ?_
    refine es_istore (pc := 69) dL_moves_69 (ok1_10 rfl) ?_
    dsimp only [List.set]
    refine es_iload_n (pc := 71) dL_moves_71 rfl ?_
    refine es_iconstN (pc := 72) 3 dL_moves_72 ic_3 ?_
    refine es_icmp_neN (pc := 73) 86 dL_moves_73 (by decide) (by omega) (by omega) (fun c73 => ?_) (fun c73 => ?_)
    · refine es_iconstN (pc := 86) 0 dL_moves_86 ic_0 ?_
      refine es_istore (pc := 87) dL_moves_87 (ok1_11 rfl) ?_
      dsimp only [List.set]
      refine es_iload_n (pc := 89) dL_moves_89 rfl ?_
      refine es_iconstN (pc := 90) 1 dL_moves_90 ic_1 ?_
      refine es_icmp_neN (pc := 91) 103 dL_moves_91 (by decide) (by omega) (by omega) (fun c91 => ?_) (fun c91 => ?_)
      · exact absurd c91 (by decide)
      · refine es_aload_n (pc := 94) dL_moves_94 rfl ?_
        refine es_iload_n (pc := 95) dL_moves_95 rfl ?_
        refine es_iconstN (pc := 96) 1 dL_moves_96 ic_1 ?_
        refine es_cv2_p (pc := 97) dL_moves_97 mr_9_9 rfl rfl (by decide) (by decide) rfl (Nat.le_of_ble_eq_true rfl) (Nat.zero_le _) (G_tower hR hW) ?_
        refine es_goto (pc := 100) (tgt := 104) dL_moves_100 (by decide) ?_
        refine es_istore (pc := 104) dL_moves_104 (ok1_12 rfl) ?_
        dsimp only [List.set]
        refine es_aload_n (pc := 106) dL_moves_106 rfl ?_
        refine es_iconstN (pc := 107) 2 dL_moves_107 ic_2 ?_
        refine es_cv1_p (pc := 108) dL_moves_108 mr_9_24 rfl rfl (by decide) (by decide) rfl (Nat.le_of_ble_eq_true rfl) (Nat.zero_le _) (C_2 hR hW) ?_
        refine es_istore (pc := 111) dL_moves_111 (ok1_13 rfl) ?_
        dsimp only [List.set]
        refine es_aload_n (pc := 113) dL_moves_113 rfl ?_
        refine es_iconstN (pc := 114) 4 dL_moves_114 ic_4 ?_
        refine es_cv1_p (pc := 115) dL_moves_115 mr_9_24 rfl rfl (by decide) (by decide) rfl (Nat.le_of_ble_eq_true rfl) (Nat.zero_le _) (G_count hR hW) ?_
        refine es_istore (pc := 118) dL_moves_118 (ok1_14 rfl) ?_
        dsimp only [List.set]
        refine es_aload_n (pc := 120) dL_moves_120 rfl ?_
        refine es_iconstN (pc := 121) 3 dL_moves_121 ic_3 ?_
        refine es_cv1_p (pc := 122) dL_moves_122 mr_9_24 rfl rfl (by decide) (by decide) rfl (Nat.le_of_ble_eq_true rfl) (Nat.zero_le _) (G_count hR hW) ?_
        refine es_istore (pc := 125) dL_moves_125 (ok1_15 rfl) ?_
        dsimp only [List.set]
        refine es_iload_n (pc := 127) dL_moves_127 rfl ?_
        refine es_iconstN (pc := 128) 3 dL_moves_128 ic_3 ?_
        refine es_icmp_neN (pc := 129) 148 dL_moves_129 (by decide) (by omega) (by omega) (fun c129 => ?_) (fun c129 => ?_)
        · refine es_iconstN (pc := 148) 0 dL_moves_148 ic_0 ?_
          refine es_istore (pc := 149) dL_moves_149 (ok1_16 rfl) ?_
          dsimp only [List.set]
          refine es_iload_n (pc := 151) dL_moves_151 rfl ?_
          refine es_iconstN (pc := 152) 1 dL_moves_152 ic_1 ?_
          refine es_icmp_neN (pc := 153) 166 dL_moves_153 (by decide) (by omega) (by omega) (fun c153 => ?_) (fun c153 => ?_)
          · exact absurd c153 (by decide)
          · refine es_aload_n (pc := 156) dL_moves_156 rfl ?_
            refine es_iload (pc := 157) dL_moves_157 rfl ?_
            refine es_iload_n (pc := 159) dL_moves_159 rfl ?_
            refine es_cv2_p (pc := 160) dL_moves_160 mr_9_42 rfl rfl (by decide) (by decide) rfl (Nat.le_of_ble_eq_true rfl) (Nat.zero_le _) (G_whyNot hR hW) ?_
            refine es_goto (pc := 163) (tgt := 257) dL_moves_163 (by decide) ?_
            refine es_istore (pc := 257) dL_moves_257 (ok1_17 rfl) ?_
            dsimp only [List.set]
            refine es_iload_n (pc := 259) dL_moves_259 rfl ?_
            refine es_iconstN (pc := 260) 1 dL_moves_260 ic_1 ?_
            refine es_icmp_neN (pc := 261) 274 dL_moves_261 (by decide) (by omega) (by omega) (fun c261 => ?_) (fun c261 => ?_)
            · exact absurd c261 (by decide)
            · refine es_aload_n (pc := 264) dL_moves_264 rfl ?_
              refine es_iload (pc := 265) dL_moves_265 rfl ?_
              refine es_iload_n (pc := 267) dL_moves_267 rfl ?_
              refine es_cs3_p (pc := 268) dL_moves_268 mr_9_38 rfl rfl rfl (Nat.le_of_ble_eq_true rfl) (Nat.zero_le _) (L_stride_ok hR hW (ha := ha)) ?_
              refine es_goto (pc := 271) (tgt := 288) dL_moves_271 (by decide) ?_
              refine es_istore (pc := 288) dL_moves_288 (ok1_18 rfl) ?_
              dsimp only [List.set]
              refine es_iload_n (pc := 290) dL_moves_290 rfl ?_
              refine es_if_ne (pc := 291) (tgt := 301) dL_moves_291 (by decide) (fun c291 => ?_) (fun c291 => ?_)
              · refine es_iload_n (pc := 301) dL_moves_301 rfl ?_
                refine es_iconstN (pc := 302) 1 dL_moves_302 ic_1 ?_
                refine es_icmp_neN (pc := 303) 314 dL_moves_303 (by decide) (by omega) (by omega) (fun c303 => ?_) (fun c303 => ?_)
                · exact absurd c303 (by decide)
                · refine es_aload_n (pc := 306) dL_moves_306 rfl ?_
                  refine es_iload_n (pc := 307) dL_moves_307 rfl ?_
                  refine es_cv1_i (pc := 308) dL_moves_308 mr_9_51 rfl rfl (by decide) (by decide) rfl (Nat.le_of_ble_eq_true rfl) (Nat.zero_le _) (O_stride hR hW hv) (fun x308 μ308 h308 => ?_)
                  obtain ⟨rfl, hR2⟩ := h308
                  rw [← hS2] at hR2
                  refine es_goto (pc := 311) (tgt := 332) dL_moves_311 (by decide) ?_
                  refine es_istore (pc := 332) dL_moves_332 (ok1_19 rfl) ?_
                  dsimp only [List.set]
                  refine es_iload (pc := 334) dL_moves_334 rfl ?_
                  refine es_if_eq (pc := 336) (tgt := 430) dL_moves_336 (by decide) (fun c336 => ?_) (fun c336 => ?_)
                  · obtain ⟨R, hRR⟩ : ∃ q : gm_R, q = (gm_go S.1 (rOn S.1) (rPl S.1 (rOn S.1)) to (gm_price (S.1 1) (rH S.1) (rPl S.1 (rOn S.1)) to)) := ⟨_, rfl⟩
                    have e2 : S2.1 = gm_ends R (rP S.1) (rOn S.1) := by rw [hS2, hRR]; exact sr_r c336
                    obtain ⟨r0, r1, r2, r6, rT, rU, q7, q8, q6, qk⟩ := mv_go (r := S.1) (on := rOn S.1) (t := to) (g := gm_price (S.1 1) (rH S.1) (rPl S.1 (rOn S.1)) to) ha ht (why_ne c336) hRR
                    obtain ⟨m0, m1, m2, m6, mT, m5, m7, m8, mi, mq, mk⟩ := mv_endq ho e2
                    have k0 : S2.1 0 = R 0 := mk 0 (by decide)
                    refine es_iload (pc := 430) dL_moves_430 rfl ?_
                    refine es_iload (pc := 432) dL_moves_432 rfl ?_
                    refine es_isub (pc := 434) dL_moves_434 ?_
                    refine es_top ((show _ = R (31 + 7 * rOn S.1 + 2) from r2.symm)) ?_
                    refine es_istore (pc := 435) dL_moves_435 (ok1_7 rfl) ?_
                    dsimp only [List.set]
                    refine es_iload (pc := 437) dL_moves_437 rfl ?_
                    refine es_iconstN (pc := 439) 2 dL_moves_439 ic_2 ?_
                    refine es_idivN (pc := 440) dL_moves_440 (by omega) (by omega) (by omega) ?_
                    refine es_istore (pc := 441) dL_moves_441 (ok1_20 rfl) ?_
                    dsimp only [List.set]
                    refine es_iload (pc := 443) dL_moves_443 rfl ?_
                    refine es_iload_n (pc := 445) dL_moves_445 rfl ?_
                    refine es_iconstN (pc := 446) 1 dL_moves_446 ic_1 ?_
                    refine es_icmp_neN (pc := 447) 455 dL_moves_447 (by decide) (by omega) (by omega) (fun c447 => ?_) (fun c447 => ?_)
                    · exact absurd c447 (by decide)
                    · refine es_iload (pc := 450) dL_moves_450 rfl ?_
                      refine es_goto (pc := 452) (tgt := 466) dL_moves_452 (by decide) ?_
                      refine es_iadd (pc := 466) dL_moves_466 ?_
                      refine es_top ((show _ = R (31 + 7 * rOn S.1 + 1) from r1.symm)) ?_
                      refine es_istore (pc := 467) dL_moves_467 (ok1_6 rfl) ?_
                      dsimp only [List.set]
                      refine es_iload_n (pc := 469) dL_moves_469 rfl ?_
                      refine es_iconstN (pc := 470) 2 dL_moves_470 ic_2 ?_
                      refine es_icmp_neN (pc := 471) 486 dL_moves_471 (by decide) (by omega) (by omega) (fun c471 => ?_) (fun c471 => ?_)
                      · refine es_iload (pc := 486) dL_moves_486 rfl ?_
                        refine es_aload_n (pc := 488) dL_moves_488 rfl ?_
                        refine es_iconstN (pc := 489) 0 dL_moves_489 ic_0 ?_
                        refine es_cv1_p (pc := 490) dL_moves_490 mr_9_15 rfl rfl (by decide) (by decide) rfl (Nat.le_of_ble_eq_true rfl) (Nat.zero_le _) (G_setting hR2 hW2) ?_
                        refine es_icmp_ge (pc := 493) (tgt := 501) dL_moves_493 (by decide) (fun c493 => ?_) (fun c493 => ?_)
                        · refine es_aload_n (pc := 501) dL_moves_501 rfl ?_
                          refine es_iconstN (pc := 502) 0 dL_moves_502 ic_0 ?_
                          refine es_cv1_p (pc := 503) dL_moves_503 mr_9_15 rfl rfl (by decide) (by decide) rfl (Nat.le_of_ble_eq_true rfl) (Nat.zero_le _) (G_setting hR2 hW2) ?_
                          refine es_top (run_b k0 c493) ?_
                          refine es_istore (pc := 506) dL_moves_506 (ok1_21 rfl) ?_
                          dsimp only [List.set]
                          refine es_iload (pc := 508) dL_moves_508 rfl ?_
                          refine es_iload_n (pc := 510) dL_moves_510 rfl ?_
                          refine es_if_ne (pc := 511) (tgt := 519) dL_moves_511 (by decide) (fun c511 => ?_) (fun c511 => ?_)
                          · refine es_iconstN (pc := 519) 0 dL_moves_519 ic_0 ?_
                            refine es_icmp_ne (pc := 520) (tgt := 594) dL_moves_520 (by decide) (fun c520 => ?_) (fun c520 => ?_)
                            · exact absurd (c336.trans nI_0.symm) c520
                            · refine es_aload_n (pc := 523) dL_moves_523 rfl ?_
                              refine es_iload (pc := 524) dL_moves_524 rfl ?_
                              refine es_iconstN (pc := 526) 0 dL_moves_526 ic_0 ?_
                              refine es_cv2_p (pc := 527) dL_moves_527 mr_9_31 rfl rfl (by decide) (by decide) rfl (Nat.le_of_ble_eq_true rfl) (Nat.zero_le _) (G_playerOf hR2 hW2 (hp := by omega)) ?_
                              refine es_iload_n (pc := 530) dL_moves_530 rfl ?_
                              refine es_iconstN (pc := 531) 1 dL_moves_531 ic_1 ?_
                              refine es_icmp_neN (pc := 532) 539 dL_moves_532 (by decide) (by omega) (by omega) (fun c532 => ?_) (fun c532 => ?_)
                              · exact absurd c532 (by decide)
                              · refine es_iload_n (pc := 535) dL_moves_535 rfl ?_
                                refine es_goto (pc := 536) (tgt := 541) dL_moves_536 (by decide) ?_
                                refine es_icmp_ne (pc := 541) (tgt := 594) dL_moves_541 (by decide) (fun c541 => ?_) (fun c541 => ?_)
                                · exact absurd (m0.trans r0) c541
                                · refine es_aload_n (pc := 544) dL_moves_544 rfl ?_
                                  refine es_iload (pc := 545) dL_moves_545 rfl ?_
                                  refine es_iconstN (pc := 547) 1 dL_moves_547 ic_1 ?_
                                  refine es_cv2_p (pc := 548) dL_moves_548 mr_9_31 rfl rfl (by decide) (by decide) rfl (Nat.le_of_ble_eq_true rfl) (Nat.zero_le _) (G_playerOf hR2 hW2 (hp := by omega)) ?_
                                  refine es_iload (pc := 551) dL_moves_551 rfl ?_
                                  refine es_iload (pc := 553) dL_moves_553 rfl ?_
                                  refine es_isub (pc := 555) dL_moves_555 ?_
                                  refine es_icmp_ne (pc := 556) (tgt := 594) dL_moves_556 (by decide) (fun c556 => ?_) (fun c556 => ?_)
                                  · exact absurd m1 c556
                                  · refine es_aload_n (pc := 559) dL_moves_559 rfl ?_
                                    refine es_iload (pc := 560) dL_moves_560 rfl ?_
                                    refine es_iconstN (pc := 562) 2 dL_moves_562 ic_2 ?_
                                    refine es_cv2_p (pc := 563) dL_moves_563 mr_9_31 rfl rfl (by decide) (by decide) rfl (Nat.le_of_ble_eq_true rfl) (Nat.zero_le _) (G_playerOf hR2 hW2 (hp := by omega)) ?_
                                    refine es_iload (pc := 566) dL_moves_566 rfl ?_
                                    refine es_iload (pc := 568) dL_moves_568 rfl ?_
                                    refine es_iadd (pc := 570) dL_moves_570 ?_
                                    refine es_icmp_ne (pc := 571) (tgt := 594) dL_moves_571 (by decide) (fun c571 => ?_) (fun c571 => ?_)
                                    · exact absurd m2 c571
                                    · refine es_aload_n (pc := 574) dL_moves_574 rfl ?_
                                      refine es_iload (pc := 575) dL_moves_575 rfl ?_
                                      refine es_bipushN (pc := 577) 7 dL_moves_577 bp_7 ?_
                                      refine es_cv2_p (pc := 579) dL_moves_579 mr_9_31 rfl rfl (by decide) (by decide) rfl (Nat.le_of_ble_eq_true rfl) (Nat.zero_le _) (G_playerOf hR2 hW2 (hp := by omega)) ?_
                                      refine es_iload (pc := 582) dL_moves_582 rfl ?_
                                      refine es_iload (pc := 584) dL_moves_584 rfl ?_
                                      refine es_iadd (pc := 586) dL_moves_586 ?_
                                      refine es_icmp_ne (pc := 587) (tgt := 594) dL_moves_587 (by decide) (fun c587 => ?_) (fun c587 => ?_)
                                      · exact absurd (m6.trans r6) c587
                                      · refine es_iconstN (pc := 590) 1 dL_moves_590 ic_1 ?_
                                        refine es_goto (pc := 591) (tgt := 595) dL_moves_591 (by decide) ?_
                                        refine es_istore (pc := 595) dL_moves_595 (ok1_22 rfl) ?_
                                        dsimp only [List.set]
                                        refine es_iload (pc := 597) dL_moves_597 rfl ?_
                                        refine es_if_eq (pc := 599) (tgt := 671) dL_moves_599 (by decide) (fun c599 => ?_) (fun c599 => ?_)
                                        · exact absurd c599 (by decide)
                                        · refine es_aload_n (pc := 602) dL_moves_602 rfl ?_
                                          refine es_iload (pc := 603) dL_moves_603 rfl ?_
                                          refine es_iconstN (pc := 605) 1 dL_moves_605 ic_1 ?_
                                          refine es_cv2_p (pc := 606) dL_moves_606 mr_9_9 rfl rfl (by decide) (by decide) rfl (Nat.le_of_ble_eq_true rfl) (Nat.zero_le _) (G_tower hR2 hW2) ?_
                                          refine es_iload (pc := 609) dL_moves_609 rfl ?_
                                          refine es_iload (pc := 611) dL_moves_611 rfl ?_
                                          refine es_iadd (pc := 613) dL_moves_613 ?_
                                          refine es_icmp_ne (pc := 614) (tgt := 671) dL_moves_614 (by decide) (fun c614 => ?_) (fun c614 => ?_)
                                          · exact absurd ((mT _ ha).trans (rT)) c614
                                          · refine es_iload_n (pc := 617) dL_moves_617 rfl ?_
                                            refine es_iconstN (pc := 618) 1 dL_moves_618 ic_1 ?_
                                            refine es_icmp_neN (pc := 619) 631 dL_moves_619 (by decide) (by omega) (by omega) (fun c619 => ?_) (fun c619 => ?_)
                                            · exact absurd c619 (by decide)
                                            · refine es_aload_n (pc := 622) dL_moves_622 rfl ?_
                                              refine es_iload_n (pc := 623) dL_moves_623 rfl ?_
                                              refine es_iconstN (pc := 624) 1 dL_moves_624 ic_1 ?_
                                              refine es_cv2_p (pc := 625) dL_moves_625 mr_9_9 rfl rfl (by decide) (by decide) rfl (Nat.le_of_ble_eq_true rfl) (Nat.zero_le _) (G_tower hR2 hW2) ?_
                                              refine es_if_ne (pc := 628) (tgt := 671) dL_moves_628 (by decide) (fun c628 => ?_) (fun c628 => ?_)
                                              · exact absurd (((mT _ ht).trans rU).trans nI_0) c628
                                              · refine es_aload_n (pc := 631) dL_moves_631 rfl ?_
                                                refine es_iconstN (pc := 632) 1 dL_moves_632 ic_1 ?_
                                                refine es_cv1_p (pc := 633) dL_moves_633 mr_9_24 rfl rfl (by decide) (by decide) rfl (Nat.le_of_ble_eq_true rfl) (Nat.zero_le _) (G_count hR2 hW2) ?_
                                                refine es_iload (pc := 636) dL_moves_636 rfl ?_
                                                refine es_iconstN (pc := 638) 1 dL_moves_638 ic_1 ?_
                                                refine es_iaddN (pc := 639) dL_moves_639 ?_
                                                refine es_iload_n (pc := 640) dL_moves_640 rfl ?_
                                                refine es_iremN (pc := 641) dL_moves_641 (by omega) (by omega) (by omega) ?_
                                                refine es_icmp_ne (pc := 642) (tgt := 671) dL_moves_642 (by decide) (fun c642 => ?_) (fun c642 => ?_)
                                                · exact absurd (s_c1 hW2 (by omega) m5) c642
                                                · refine es_aload_n (pc := 645) dL_moves_645 rfl ?_
                                                  refine es_iconstN (pc := 646) 3 dL_moves_646 ic_3 ?_
                                                  refine es_cv1_p (pc := 647) dL_moves_647 mr_9_24 rfl rfl (by decide) (by decide) rfl (Nat.le_of_ble_eq_true rfl) (Nat.zero_le _) (G_count hR2 hW2) ?_
                                                  refine es_iload (pc := 650) dL_moves_650 rfl ?_
                                                  refine es_iconstN (pc := 652) 1 dL_moves_652 ic_1 ?_
                                                  refine es_iadd (pc := 653) dL_moves_653 ?_
                                                  refine es_icmp_ne (pc := 654) (tgt := 671) dL_moves_654 (by decide) (fun c654 => ?_) (fun c654 => ?_)
                                                  · exact absurd (m7.trans (by rw [q7]; rfl)) c654
                                                  · refine es_aload_n (pc := 657) dL_moves_657 rfl ?_
                                                    refine es_iconstN (pc := 658) 4 dL_moves_658 ic_4 ?_
                                                    refine es_cv1_p (pc := 659) dL_moves_659 mr_9_24 rfl rfl (by decide) (by decide) rfl (Nat.le_of_ble_eq_true rfl) (Nat.zero_le _) (G_count hR2 hW2) ?_
                                                    refine es_iload (pc := 662) dL_moves_662 rfl ?_
                                                    refine es_icmp_ne (pc := 664) (tgt := 671) dL_moves_664 (by decide) (fun c664 => ?_) (fun c664 => ?_)
                                                    · exact absurd (m8.trans q8) c664
                                                    · refine es_iconstN (pc := 667) 1 dL_moves_667 ic_1 ?_
                                                      refine es_goto (pc := 668) (tgt := 672) dL_moves_668 (by decide) ?_
                                                      refine es_istore (pc := 672) dL_moves_672 (ok1_22 rfl) ?_
                                                      dsimp only [List.set]
                                                      refine es_iload (pc := 674) dL_moves_674 rfl ?_
                                                      refine es_if_eq (pc := 676) (tgt := 723) dL_moves_676 (by decide) (fun c676 => ?_) (fun c676 => ?_)
                                                      · exact absurd c676 (by decide)
                                                      · refine es_aload_n (pc := 679) dL_moves_679 rfl ?_
                                                        refine es_iconstN (pc := 680) 2 dL_moves_680 ic_2 ?_
                                                        refine es_cv1_p (pc := 681) dL_moves_681 mr_9_24 rfl rfl (by decide) (by decide) rfl (Nat.le_of_ble_eq_true rfl) (Nat.zero_le _) (G_count hR2 hW2) ?_
                                                        refine es_iload_n (pc := 684) dL_moves_684 rfl ?_
                                                        refine es_iconstN (pc := 685) 3 dL_moves_685 ic_3 ?_
                                                        refine es_icmp_neN (pc := 686) 694 dL_moves_686 (by decide) (by omega) (by omega) (fun c686 => ?_) (fun c686 => ?_)
                                                        · refine es_iload (pc := 694) dL_moves_694 rfl ?_
                                                          refine es_icmp_ne (pc := 696) (tgt := 723) dL_moves_696 (by decide) (fun c696 => ?_) (fun c696 => ?_)
                                                          · exact absurd (s_c2 hW2 (by omega) (mi.trans (q6.trans hi2))) c696
                                                          · refine es_iload_n (pc := 699) dL_moves_699 rfl ?_
                                                            refine es_iconstN (pc := 700) 3 dL_moves_700 ic_3 ?_
                                                            refine es_icmp_neN (pc := 701) 719 dL_moves_701 (by decide) (by omega) (by omega) (fun c701 => ?_) (fun c701 => ?_)
                                                            · refine es_iconstN (pc := 719) 1 dL_moves_719 ic_1 ?_
                                                              refine es_goto (pc := 720) (tgt := 724) dL_moves_720 (by decide) ?_
                                                              refine es_ireturn (pc := 724) dL_moves_724 rfl (rfl) (by decide) ?_
                                                              exact ⟨_, rfl, rfl, by rw [← hS2]; exact hR2⟩
                                                            · exact absurd c701 (by decide)
                                                        · exact absurd c686 (by decide)
                          · exact absurd c511 (by decide)
                        · refine es_iload (pc := 496) dL_moves_496 rfl ?_
                          refine es_goto (pc := 498) (tgt := 506) dL_moves_498 (by decide) ?_
                          refine es_top (run_a k0 c493) ?_
                          refine es_istore (pc := 506) dL_moves_506 (ok1_21 rfl) ?_
                          dsimp only [List.set]
                          refine es_iload (pc := 508) dL_moves_508 rfl ?_
                          refine es_iload_n (pc := 510) dL_moves_510 rfl ?_
                          refine es_if_ne (pc := 511) (tgt := 519) dL_moves_511 (by decide) (fun c511 => ?_) (fun c511 => ?_)
                          · refine es_iconstN (pc := 519) 0 dL_moves_519 ic_0 ?_
                            refine es_icmp_ne (pc := 520) (tgt := 594) dL_moves_520 (by decide) (fun c520 => ?_) (fun c520 => ?_)
                            · exact absurd (c336.trans nI_0.symm) c520
                            · refine es_aload_n (pc := 523) dL_moves_523 rfl ?_
                              refine es_iload (pc := 524) dL_moves_524 rfl ?_
                              refine es_iconstN (pc := 526) 0 dL_moves_526 ic_0 ?_
                              refine es_cv2_p (pc := 527) dL_moves_527 mr_9_31 rfl rfl (by decide) (by decide) rfl (Nat.le_of_ble_eq_true rfl) (Nat.zero_le _) (G_playerOf hR2 hW2 (hp := by omega)) ?_
                              refine es_iload_n (pc := 530) dL_moves_530 rfl ?_
                              refine es_iconstN (pc := 531) 1 dL_moves_531 ic_1 ?_
                              refine es_icmp_neN (pc := 532) 539 dL_moves_532 (by decide) (by omega) (by omega) (fun c532 => ?_) (fun c532 => ?_)
                              · exact absurd c532 (by decide)
                              · refine es_iload_n (pc := 535) dL_moves_535 rfl ?_
                                refine es_goto (pc := 536) (tgt := 541) dL_moves_536 (by decide) ?_
                                refine es_icmp_ne (pc := 541) (tgt := 594) dL_moves_541 (by decide) (fun c541 => ?_) (fun c541 => ?_)
                                · exact absurd (m0.trans r0) c541
                                · refine es_aload_n (pc := 544) dL_moves_544 rfl ?_
                                  refine es_iload (pc := 545) dL_moves_545 rfl ?_
                                  refine es_iconstN (pc := 547) 1 dL_moves_547 ic_1 ?_
                                  refine es_cv2_p (pc := 548) dL_moves_548 mr_9_31 rfl rfl (by decide) (by decide) rfl (Nat.le_of_ble_eq_true rfl) (Nat.zero_le _) (G_playerOf hR2 hW2 (hp := by omega)) ?_
                                  refine es_iload (pc := 551) dL_moves_551 rfl ?_
                                  refine es_iload (pc := 553) dL_moves_553 rfl ?_
                                  refine es_isub (pc := 555) dL_moves_555 ?_
                                  refine es_icmp_ne (pc := 556) (tgt := 594) dL_moves_556 (by decide) (fun c556 => ?_) (fun c556 => ?_)
                                  · exact absurd m1 c556
                                  · refine es_aload_n (pc := 559) dL_moves_559 rfl ?_
                                    refine es_iload (pc := 560) dL_moves_560 rfl ?_
                                    refine es_iconstN (pc := 562) 2 dL_moves_562 ic_2 ?_
                                    refine es_cv2_p (pc := 563) dL_moves_563 mr_9_31 rfl rfl (by decide) (by decide) rfl (Nat.le_of_ble_eq_true rfl) (Nat.zero_le _) (G_playerOf hR2 hW2 (hp := by omega)) ?_
                                    refine es_iload (pc := 566) dL_moves_566 rfl ?_
                                    refine es_iload (pc := 568) dL_moves_568 rfl ?_
                                    refine es_iadd (pc := 570) dL_moves_570 ?_
                                    refine es_icmp_ne (pc := 571) (tgt := 594) dL_moves_571 (by decide) (fun c571 => ?_) (fun c571 => ?_)
                                    · exact absurd m2 c571
                                    · refine es_aload_n (pc := 574) dL_moves_574 rfl ?_
                                      refine es_iload (pc := 575) dL_moves_575 rfl ?_
                                      refine es_bipushN (pc := 577) 7 dL_moves_577 bp_7 ?_
                                      refine es_cv2_p (pc := 579) dL_moves_579 mr_9_31 rfl rfl (by decide) (by decide) rfl (Nat.le_of_ble_eq_true rfl) (Nat.zero_le _) (G_playerOf hR2 hW2 (hp := by omega)) ?_
                                      refine es_iload (pc := 582) dL_moves_582 rfl ?_
                                      refine es_iload (pc := 584) dL_moves_584 rfl ?_
                                      refine es_iadd (pc := 586) dL_moves_586 ?_
                                      refine es_icmp_ne (pc := 587) (tgt := 594) dL_moves_587 (by decide) (fun c587 => ?_) (fun c587 => ?_)
                                      · exact absurd (m6.trans r6) c587
                                      · refine es_iconstN (pc := 590) 1 dL_moves_590 ic_1 ?_
                                        refine es_goto (pc := 591) (tgt := 595) dL_moves_591 (by decide) ?_
                                        refine es_istore (pc := 595) dL_moves_595 (ok1_22 rfl) ?_
                                        dsimp only [List.set]
                                        refine es_iload (pc := 597) dL_moves_597 rfl ?_
                                        refine es_if_eq (pc := 599) (tgt := 671) dL_moves_599 (by decide) (fun c599 => ?_) (fun c599 => ?_)
                                        · exact absurd c599 (by decide)
                                        · refine es_aload_n (pc := 602) dL_moves_602 rfl ?_
                                          refine es_iload (pc := 603) dL_moves_603 rfl ?_
                                          refine es_iconstN (pc := 605) 1 dL_moves_605 ic_1 ?_
                                          refine es_cv2_p (pc := 606) dL_moves_606 mr_9_9 rfl rfl (by decide) (by decide) rfl (Nat.le_of_ble_eq_true rfl) (Nat.zero_le _) (G_tower hR2 hW2) ?_
                                          refine es_iload (pc := 609) dL_moves_609 rfl ?_
                                          refine es_iload (pc := 611) dL_moves_611 rfl ?_
                                          refine es_iadd (pc := 613) dL_moves_613 ?_
                                          refine es_icmp_ne (pc := 614) (tgt := 671) dL_moves_614 (by decide) (fun c614 => ?_) (fun c614 => ?_)
                                          · exact absurd ((mT _ ha).trans (rT)) c614
                                          · refine es_iload_n (pc := 617) dL_moves_617 rfl ?_
                                            refine es_iconstN (pc := 618) 1 dL_moves_618 ic_1 ?_
                                            refine es_icmp_neN (pc := 619) 631 dL_moves_619 (by decide) (by omega) (by omega) (fun c619 => ?_) (fun c619 => ?_)
                                            · exact absurd c619 (by decide)
                                            · refine es_aload_n (pc := 622) dL_moves_622 rfl ?_
                                              refine es_iload_n (pc := 623) dL_moves_623 rfl ?_
                                              refine es_iconstN (pc := 624) 1 dL_moves_624 ic_1 ?_
                                              refine es_cv2_p (pc := 625) dL_moves_625 mr_9_9 rfl rfl (by decide) (by decide) rfl (Nat.le_of_ble_eq_true rfl) (Nat.zero_le _) (G_tower hR2 hW2) ?_
                                              refine es_if_ne (pc := 628) (tgt := 671) dL_moves_628 (by decide) (fun c628 => ?_) (fun c628 => ?_)
                                              · exact absurd (((mT _ ht).trans rU).trans nI_0) c628
                                              · refine es_aload_n (pc := 631) dL_moves_631 rfl ?_
                                                refine es_iconstN (pc := 632) 1 dL_moves_632 ic_1 ?_
                                                refine es_cv1_p (pc := 633) dL_moves_633 mr_9_24 rfl rfl (by decide) (by decide) rfl (Nat.le_of_ble_eq_true rfl) (Nat.zero_le _) (G_count hR2 hW2) ?_
                                                refine es_iload (pc := 636) dL_moves_636 rfl ?_
                                                refine es_iconstN (pc := 638) 1 dL_moves_638 ic_1 ?_
                                                refine es_iaddN (pc := 639) dL_moves_639 ?_
                                                refine es_iload_n (pc := 640) dL_moves_640 rfl ?_
                                                refine es_iremN (pc := 641) dL_moves_641 (by omega) (by omega) (by omega) ?_
                                                refine es_icmp_ne (pc := 642) (tgt := 671) dL_moves_642 (by decide) (fun c642 => ?_) (fun c642 => ?_)
                                                · exact absurd (s_c1 hW2 (by omega) m5) c642
                                                · refine es_aload_n (pc := 645) dL_moves_645 rfl ?_
                                                  refine es_iconstN (pc := 646) 3 dL_moves_646 ic_3 ?_
                                                  refine es_cv1_p (pc := 647) dL_moves_647 mr_9_24 rfl rfl (by decide) (by decide) rfl (Nat.le_of_ble_eq_true rfl) (Nat.zero_le _) (G_count hR2 hW2) ?_
                                                  refine es_iload (pc := 650) dL_moves_650 rfl ?_
                                                  refine es_iconstN (pc := 652) 1 dL_moves_652 ic_1 ?_
                                                  refine es_iadd (pc := 653) dL_moves_653 ?_
                                                  refine es_icmp_ne (pc := 654) (tgt := 671) dL_moves_654 (by decide) (fun c654 => ?_) (fun c654 => ?_)
                                                  · exact absurd (m7.trans (by rw [q7]; rfl)) c654
                                                  · refine es_aload_n (pc := 657) dL_moves_657 rfl ?_
                                                    refine es_iconstN (pc := 658) 4 dL_moves_658 ic_4 ?_
                                                    refine es_cv1_p (pc := 659) dL_moves_659 mr_9_24 rfl rfl (by decide) (by decide) rfl (Nat.le_of_ble_eq_true rfl) (Nat.zero_le _) (G_count hR2 hW2) ?_
                                                    refine es_iload (pc := 662) dL_moves_662 rfl ?_
                                                    refine es_icmp_ne (pc := 664) (tgt := 671) dL_moves_664 (by decide) (fun c664 => ?_) (fun c664 => ?_)
                                                    · exact absurd (m8.trans q8) c664
                                                    · refine es_iconstN (pc := 667) 1 dL_moves_667 ic_1 ?_
                                                      refine es_goto (pc := 668) (tgt := 672) dL_moves_668 (by decide) ?_
                                                      refine es_istore (pc := 672) dL_moves_672 (ok1_22 rfl) ?_
                                                      dsimp only [List.set]
                                                      refine es_iload (pc := 674) dL_moves_674 rfl ?_
                                                      refine es_if_eq (pc := 676) (tgt := 723) dL_moves_676 (by decide) (fun c676 => ?_) (fun c676 => ?_)
                                                      · exact absurd c676 (by decide)
                                                      · refine es_aload_n (pc := 679) dL_moves_679 rfl ?_
                                                        refine es_iconstN (pc := 680) 2 dL_moves_680 ic_2 ?_
                                                        refine es_cv1_p (pc := 681) dL_moves_681 mr_9_24 rfl rfl (by decide) (by decide) rfl (Nat.le_of_ble_eq_true rfl) (Nat.zero_le _) (G_count hR2 hW2) ?_
                                                        refine es_iload_n (pc := 684) dL_moves_684 rfl ?_
                                                        refine es_iconstN (pc := 685) 3 dL_moves_685 ic_3 ?_
                                                        refine es_icmp_neN (pc := 686) 694 dL_moves_686 (by decide) (by omega) (by omega) (fun c686 => ?_) (fun c686 => ?_)
                                                        · refine es_iload (pc := 694) dL_moves_694 rfl ?_
                                                          refine es_icmp_ne (pc := 696) (tgt := 723) dL_moves_696 (by decide) (fun c696 => ?_) (fun c696 => ?_)
                                                          · exact absurd (s_c2 hW2 (by omega) (mi.trans (q6.trans hi2))) c696
                                                          · refine es_iload_n (pc := 699) dL_moves_699 rfl ?_
                                                            refine es_iconstN (pc := 700) 3 dL_moves_700 ic_3 ?_
                                                            refine es_icmp_neN (pc := 701) 719 dL_moves_701 (by decide) (by omega) (by omega) (fun c701 => ?_) (fun c701 => ?_)
                                                            · refine es_iconstN (pc := 719) 1 dL_moves_719 ic_1 ?_
                                                              refine es_goto (pc := 720) (tgt := 724) dL_moves_720 (by decide) ?_
                                                              refine es_ireturn (pc := 724) dL_moves_724 rfl (rfl) (by decide) ?_
                                                              exact ⟨_, rfl, rfl, by rw [← hS2]; exact hR2⟩
                                                            · exact absurd c701 (by decide)
                                                        · exact absurd c686 (by decide)
                          · exact absurd c511 (by decide)
                      · exact absurd c471 (by decide)
                  · have e2 : S2.1 = gm_ref S.1 := by rw [hS2]; exact sr_f c336
                    have e : ∀ j, j ≠ 8 → S2.1 j = S.1 j := fun j hj => by rw [e2]; exact upd_ne hj
                    have e8 : S2.1 8 = S.1 8 + nI 1 := by rw [e2]; exact upd_eq
                    refine es_iload (pc := 339) dL_moves_339 rfl ?_
                    refine es_iload (pc := 341) dL_moves_341 rfl ?_
                    refine es_icmp_ne (pc := 343) (tgt := 428) dL_moves_343 (by decide) (fun c343 => ?_) (fun c343 => ?_)
                    · exact absurd rfl c343
                    · refine es_aload_n (pc := 346) dL_moves_346 rfl ?_
                      refine es_iconstN (pc := 347) 4 dL_moves_347 ic_4 ?_
                      refine es_cv1_p (pc := 348) dL_moves_348 mr_9_24 rfl rfl (by decide) (by decide) rfl (Nat.le_of_ble_eq_true rfl) (Nat.zero_le _) (G_count hR2 hW2) ?_
                      refine es_iload (pc := 351) dL_moves_351 rfl ?_
                      refine es_iconstN (pc := 353) 1 dL_moves_353 ic_1 ?_
                      refine es_iadd (pc := 354) dL_moves_354 ?_
                      refine es_icmp_ne (pc := 355) (tgt := 428) dL_moves_355 (by decide) (fun c355 => ?_) (fun c355 => ?_)
                      · exact absurd e8 c355
                      · refine es_aload_n (pc := 358) dL_moves_358 rfl ?_
                        refine es_iconstN (pc := 359) 3 dL_moves_359 ic_3 ?_
                        refine es_cv1_p (pc := 360) dL_moves_360 mr_9_24 rfl rfl (by decide) (by decide) rfl (Nat.le_of_ble_eq_true rfl) (Nat.zero_le _) (G_count hR2 hW2) ?_
                        refine es_iload (pc := 363) dL_moves_363 rfl ?_
                        refine es_icmp_ne (pc := 365) (tgt := 428) dL_moves_365 (by decide) (fun c365 => ?_) (fun c365 => ?_)
                        · exact absurd (e 7 (by decide)) c365
                        · refine es_aload_n (pc := 368) dL_moves_368 rfl ?_
                          refine es_iconstN (pc := 369) 1 dL_moves_369 ic_1 ?_
                          refine es_cv1_p (pc := 370) dL_moves_370 mr_9_24 rfl rfl (by decide) (by decide) rfl (Nat.le_of_ble_eq_true rfl) (Nat.zero_le _) (G_count hR2 hW2) ?_
                          refine es_iload (pc := 373) dL_moves_373 rfl ?_
                          refine es_icmp_ne (pc := 375) (tgt := 428) dL_moves_375 (by decide) (fun c375 => ?_) (fun c375 => ?_)
                          · exact absurd (s_c1 hW2 (by omega) ((e 5 (by decide)).trans hi5)) c375
                          · refine es_aload_n (pc := 378) dL_moves_378 rfl ?_
                            refine es_iload (pc := 379) dL_moves_379 rfl ?_
                            refine es_iconstN (pc := 381) 0 dL_moves_381 ic_0 ?_
                            refine es_cv2_p (pc := 382) dL_moves_382 mr_9_31 rfl rfl (by decide) (by decide) rfl (Nat.le_of_ble_eq_true rfl) (Nat.zero_le _) (G_playerOf hR2 hW2 (hp := by omega)) ?_
                            refine es_iload (pc := 385) dL_moves_385 rfl ?_
                            refine es_icmp_ne (pc := 387) (tgt := 428) dL_moves_387 (by decide) (fun c387 => ?_) (fun c387 => ?_)
                            · exact absurd ((e (31 + 7 * rOn S.1) (by omega)).trans (wf_at hW.1 hon4).1) c387
                            · refine es_aload_n (pc := 390) dL_moves_390 rfl ?_
                              refine es_iload (pc := 391) dL_moves_391 rfl ?_
                              refine es_iconstN (pc := 393) 1 dL_moves_393 ic_1 ?_
                              refine es_cv2_p (pc := 394) dL_moves_394 mr_9_31 rfl rfl (by decide) (by decide) rfl (Nat.le_of_ble_eq_true rfl) (Nat.zero_le _) (G_playerOf hR2 hW2 (hp := by omega)) ?_
                              refine es_iload (pc := 397) dL_moves_397 rfl ?_
                              refine es_icmp_ne (pc := 399) (tgt := 428) dL_moves_399 (by decide) (fun c399 => ?_) (fun c399 => ?_)
                              · exact absurd (e (31 + 7 * rOn S.1 + 1) (by omega)) c399
                              · refine es_aload_n (pc := 402) dL_moves_402 rfl ?_
                                refine es_iload (pc := 403) dL_moves_403 rfl ?_
                                refine es_iconstN (pc := 405) 2 dL_moves_405 ic_2 ?_
                                refine es_cv2_p (pc := 406) dL_moves_406 mr_9_31 rfl rfl (by decide) (by decide) rfl (Nat.le_of_ble_eq_true rfl) (Nat.zero_le _) (G_playerOf hR2 hW2 (hp := by omega)) ?_
                                refine es_iload (pc := 409) dL_moves_409 rfl ?_
                                refine es_icmp_ne (pc := 411) (tgt := 428) dL_moves_411 (by decide) (fun c411 => ?_) (fun c411 => ?_)
                                · exact absurd (e (31 + 7 * rOn S.1 + 2) (by omega)) c411
                                · refine es_aload_n (pc := 414) dL_moves_414 rfl ?_
                                  refine es_iconstN (pc := 415) 2 dL_moves_415 ic_2 ?_
                                  refine es_cv1_p (pc := 416) dL_moves_416 mr_9_24 rfl rfl (by decide) (by decide) rfl (Nat.le_of_ble_eq_true rfl) (Nat.zero_le _) (G_count hR2 hW2) ?_
                                  refine es_iload (pc := 419) dL_moves_419 rfl ?_
                                  refine es_icmp_ne (pc := 421) (tgt := 428) dL_moves_421 (by decide) (fun c421 => ?_) (fun c421 => ?_)
                                  · exact absurd (s_c2 hW2 (by omega) ((e 6 (by decide)).trans hi2)) c421
                                  · refine es_iconstN (pc := 424) 1 dL_moves_424 ic_1 ?_
                                    refine es_goto (pc := 425) (tgt := 429) dL_moves_425 (by decide) ?_
                                    refine es_ireturn (pc := 429) dL_moves_429 rfl (rfl) (by decide) ?_
                                    exact ⟨_, rfl, rfl, by rw [← hS2]; exact hR2⟩
              · exact absurd c291 (by decide)
        · exact absurd c129 (by decide)
    · exact absurd c73 (by decide)
  · exact absurd c61 (by decide)
set_option maxHeartbeats 2000000 in
set_option maxRecDepth 20000 in
theorem L_moves_2 {d : Nat} {μ : ev_M} {S : gS} {k to : Nat} (hR : RepC μ S) (hW : WFS S) (hH : HLD S.1 (rP S.1) k) (hk : k < 9999 := by omega) (ht : to < 10 := by omega) (hd : 7 ≤ d := by omega) : SPi (ev_CALL d) 179 [.ref 0, .int (nI 2), .int (nI to)] μ (fun x μ2 => x = bI true ∧ RepC μ2 (gTo S ((rm_turn S.1).2))) := by
  obtain ⟨d, rfl⟩ : ∃ q, d = q + 1 := ⟨d - 1, by omega⟩
  refine SPi.of (Nat.le_of_ble_eq_true rfl) ?_
  show es (ev_CALL d) 9 cL_moves (some .boolean) 0 (0, fun _ => 0, []) (fun r μ2 => ∃ x9 : Int32, r = (some (.int x9), 0) ∧ (fun x μ2 => x = bI true ∧ RepC μ2 (gTo S ((rm_turn S.1).2))) x9 μ2) 0 [.ref 0, .int (nI 2), .int (nI to), .null, .null, .null, .null, .null, .null, .null, .null, .null, .null, .null, .null, .null, .null, .null, .null, .null, .null, .null, .null] [] μ 0
  obtain ⟨hi1, hi2, hi3, hi5⟩ := wf_n hW.1
  obtain ⟨h4, hon4, hon⟩ := wf_on hW.1
  have h0 : 0 < rP S.1 := hH.2.2.1
  have ho := hon h0
  have hi := hi3 h0
  have hv := hH.over hk
  have ha := wf_pl hW.1 (rOn S.1)
  have hb := wf_pl hW.1 to
  obtain ⟨S2, hS2⟩ : ∃ q : gS, q = (gTo S ((rm_turn S.1).2)) := ⟨_, rfl⟩
  have hW2 : WFS S2 := by
    have h9 := wfs_turn hW
    rw [op_turn, if_neg (by rw [hv]; decide)] at h9
    rw [hS2]
    exact h9
  have hH2 : HLD ((rm_turn S.1).2) (rP S.1) (k + 1) := hH.turn
  have hP2 : rP S2.1 = rP S.1 := by rw [hS2]; exact hH2.2.1
  refine es_aload_n (pc := 0) dL_moves_0 rfl ?_
  refine es_iconstN (pc := 1) 0 dL_moves_1 ic_0 ?_
  refine es_cv1_p (pc := 2) dL_moves_2 mr_9_24 rfl rfl (by decide) (by decide) rfl (Nat.le_of_ble_eq_true rfl) (Nat.zero_le _) (C_0 hR hW) ?_
  refine es_istore_n (pc := 5) dL_moves_5 (ok1_3 rfl) ?_
  dsimp only [List.set]
  refine es_aload_n (pc := 6) dL_moves_6 rfl ?_
  refine es_iconstN (pc := 7) 1 dL_moves_7 ic_1 ?_
  refine es_cv1_p (pc := 8) dL_moves_8 mr_9_24 rfl rfl (by decide) (by decide) rfl (Nat.le_of_ble_eq_true rfl) (Nat.zero_le _) (C_1 hR hW) ?_
  refine es_istore (pc := 11) dL_moves_11 (ok1_4 rfl) ?_
  dsimp only [List.set]
  refine es_aload_n (pc := 13) dL_moves_13 rfl ?_
  refine es_iload (pc := 14) dL_moves_14 rfl ?_
  refine es_iconstN (pc := 16) 0 dL_moves_16 ic_0 ?_
  refine es_cv2_p (pc := 17) dL_moves_17 mr_9_31 rfl rfl (by decide) (by decide) rfl (Nat.le_of_ble_eq_true rfl) (Nat.zero_le _) (P_at hR hW) ?_
  refine es_istore (pc := 20) dL_moves_20 (ok1_5 rfl) ?_
  dsimp only [List.set]
  refine es_aload_n (pc := 22) dL_moves_22 rfl ?_
  refine es_iload (pc := 23) dL_moves_23 rfl ?_
  refine es_iconstN (pc := 25) 1 dL_moves_25 ic_1 ?_
  refine es_cv2_p (pc := 26) dL_moves_26 mr_9_31 rfl rfl (by decide) (by decide) rfl (Nat.le_of_ble_eq_true rfl) (Nat.zero_le _) (G_playerOf hR hW) ?_
  refine es_istore (pc := 29) dL_moves_29 (ok1_6 rfl) ?_
  dsimp only [List.set]
  refine es_aload_n (pc := 31) dL_moves_31 rfl ?_
  refine es_iload (pc := 32) dL_moves_32 rfl ?_
  refine es_iconstN (pc := 34) 2 dL_moves_34 ic_2 ?_
  refine es_cv2_p (pc := 35) dL_moves_35 mr_9_31 rfl rfl (by decide) (by decide) rfl (Nat.le_of_ble_eq_true rfl) (Nat.zero_le _) (G_playerOf hR hW) ?_
  refine es_istore (pc := 38) dL_moves_38 (ok1_7 rfl) ?_
  dsimp only [List.set]
  refine es_aload_n (pc := 40) dL_moves_40 rfl ?_
  refine es_iload (pc := 41) dL_moves_41 rfl ?_
  refine es_bipushN (pc := 43) 7 dL_moves_43 bp_7 ?_
  refine es_cv2_p (pc := 45) dL_moves_45 mr_9_31 rfl rfl (by decide) (by decide) rfl (Nat.le_of_ble_eq_true rfl) (Nat.zero_le _) (G_playerOf hR hW) ?_
  refine es_istore (pc := 48) dL_moves_48 (ok1_8 rfl) ?_
  dsimp only [List.set]
  refine es_aload_n (pc := 50) dL_moves_50 rfl ?_
  refine es_iload (pc := 51) dL_moves_51 rfl ?_
  refine es_iconstN (pc := 53) 1 dL_moves_53 ic_1 ?_
  refine es_cv2_p (pc := 54) dL_moves_54 mr_9_9 rfl rfl (by decide) (by decide) rfl (Nat.le_of_ble_eq_true rfl) (Nat.zero_le _) (G_tower hR hW) ?_
  refine es_istore (pc := 57) dL_moves_57 (ok1_9 rfl) ?_
  dsimp only [List.set]
  refine es_iload_n (pc := 59) dL_moves_59 rfl ?_
  refine es_iconstN (pc := 60) 3 dL_moves_60 ic_3 ?_
  refine es_icmp_neN (pc := 61) 68 dL_moves_61 (by decide) (by omega) (by omega) (fun c61 => ?_) (fun c61 => ?_)
  · refine es_iconstN (pc := 68) 0 dL_moves_68 ic_0 ?_
    refine es_istore (pc := 69) dL_moves_69 (ok1_10 rfl) ?_
    dsimp only [List.set]
    refine es_iload_n (pc := 71) dL_moves_71 rfl ?_
    refine es_iconstN (pc := 72) 3 dL_moves_72 ic_3 ?_
    refine es_icmp_neN (pc := 73) 86 dL_moves_73 (by decide) (by omega) (by omega) (fun c73 => ?_) (fun c73 => ?_)
    · refine es_iconstN (pc := 86) 0 dL_moves_86 ic_0 ?_
      refine es_istore (pc := 87) dL_moves_87 (ok1_11 rfl) ?_
      dsimp only [List.set]
      refine es_iload_n (pc := 89) dL_moves_89 rfl ?_
      refine es_iconstN (pc := 90) 1 dL_moves_90 ic_1 ?_
      refine es_icmp_neN (pc := 91) 103 dL_moves_91 (by decide) (by omega) (by omega) (fun c91 => ?_) (fun c91 => ?_)
      · refine es_iconstN (pc := 103) 0 dL_moves_103 ic_0 ?_
        refine es_istore (pc := 104) dL_moves_104 (ok1_12 rfl) ?_
        dsimp only [List.set]
        refine es_aload_n (pc := 106) dL_moves_106 rfl ?_
        refine es_iconstN (pc := 107) 2 dL_moves_107 ic_2 ?_
        refine es_cv1_p (pc := 108) dL_moves_108 mr_9_24 rfl rfl (by decide) (by decide) rfl (Nat.le_of_ble_eq_true rfl) (Nat.zero_le _) (C_2 hR hW) ?_
        refine es_istore (pc := 111) dL_moves_111 (ok1_13 rfl) ?_
        dsimp only [List.set]
        refine es_aload_n (pc := 113) dL_moves_113 rfl ?_
        refine es_iconstN (pc := 114) 4 dL_moves_114 ic_4 ?_
        refine es_cv1_p (pc := 115) dL_moves_115 mr_9_24 rfl rfl (by decide) (by decide) rfl (Nat.le_of_ble_eq_true rfl) (Nat.zero_le _) (G_count hR hW) ?_
        refine es_istore (pc := 118) dL_moves_118 (ok1_14 rfl) ?_
        dsimp only [List.set]
        refine es_aload_n (pc := 120) dL_moves_120 rfl ?_
        refine es_iconstN (pc := 121) 3 dL_moves_121 ic_3 ?_
        refine es_cv1_p (pc := 122) dL_moves_122 mr_9_24 rfl rfl (by decide) (by decide) rfl (Nat.le_of_ble_eq_true rfl) (Nat.zero_le _) (G_count hR hW) ?_
        refine es_istore (pc := 125) dL_moves_125 (ok1_15 rfl) ?_
        dsimp only [List.set]
        refine es_iload_n (pc := 127) dL_moves_127 rfl ?_
        refine es_iconstN (pc := 128) 3 dL_moves_128 ic_3 ?_
        refine es_icmp_neN (pc := 129) 148 dL_moves_129 (by decide) (by omega) (by omega) (fun c129 => ?_) (fun c129 => ?_)
        · refine es_iconstN (pc := 148) 0 dL_moves_148 ic_0 ?_
          refine es_istore (pc := 149) dL_moves_149 (ok1_16 rfl) ?_
          dsimp only [List.set]
          refine es_iload_n (pc := 151) dL_moves_151 rfl ?_
          refine es_iconstN (pc := 152) 1 dL_moves_152 ic_1 ?_
          refine es_icmp_neN (pc := 153) 166 dL_moves_153 (by decide) (by omega) (by omega) (fun c153 => ?_) (fun c153 => ?_)
          · refine es_iload_n (pc := 166) dL_moves_166 rfl ?_
            refine es_iconstN (pc := 167) 2 dL_moves_167 ic_2 ?_
            refine es_icmp_neN (pc := 168) 189 dL_moves_168 (by decide) (by omega) (by omega) (fun c168 => ?_) (fun c168 => ?_)
            · exact absurd c168 (by decide)
            · refine es_aload_n (pc := 171) dL_moves_171 rfl ?_
              refine es_iconstN (pc := 172) 2 dL_moves_172 ic_2 ?_
              refine es_cv1_p (pc := 173) dL_moves_173 mr_9_15 rfl rfl (by decide) (by decide) rfl (Nat.le_of_ble_eq_true rfl) (Nat.zero_le _) (G_setting hR hW) ?_
              refine es_iload (pc := 176) dL_moves_176 rfl ?_
              refine es_icmp_le (pc := 178) (tgt := 185) dL_moves_178 (by decide) (fun c178 => ?_) (fun c178 => ?_)
              · refine es_iconstN (pc := 185) 0 dL_moves_185 ic_0 ?_
                refine es_goto (pc := 186) (tgt := 257) dL_moves_186 (by decide) ?_
                refine es_top (tn_0 c178) ?_
                refine es_istore (pc := 257) dL_moves_257 (ok1_17 rfl) ?_
                dsimp only [List.set]
                refine es_iload_n (pc := 259) dL_moves_259 rfl ?_
                refine es_iconstN (pc := 260) 1 dL_moves_260 ic_1 ?_
                refine es_icmp_neN (pc := 261) 274 dL_moves_261 (by decide) (by omega) (by omega) (fun c261 => ?_) (fun c261 => ?_)
                · refine es_iload_n (pc := 274) dL_moves_274 rfl ?_
                  refine es_iconstN (pc := 275) 2 dL_moves_275 ic_2 ?_
                  refine es_icmp_neN (pc := 276) 287 dL_moves_276 (by decide) (by omega) (by omega) (fun c276 => ?_) (fun c276 => ?_)
                  · exact absurd c276 (by decide)
                  · refine es_aload_n (pc := 279) dL_moves_279 rfl ?_
                    refine es_iconstN (pc := 280) 2 dL_moves_280 ic_2 ?_
                    refine es_cv1_p (pc := 281) dL_moves_281 mr_9_15 rfl rfl (by decide) (by decide) rfl (Nat.le_of_ble_eq_true rfl) (Nat.zero_le _) (G_setting hR hW) ?_
                    refine es_goto (pc := 284) (tgt := 288) dL_moves_284 (by decide) ?_
                    refine es_istore (pc := 288) dL_moves_288 (ok1_18 rfl) ?_
                    dsimp only [List.set]
                    refine es_iload_n (pc := 290) dL_moves_290 rfl ?_
                    refine es_if_ne (pc := 291) (tgt := 301) dL_moves_291 (by decide) (fun c291 => ?_) (fun c291 => ?_)
                    · refine es_iload_n (pc := 301) dL_moves_301 rfl ?_
                      refine es_iconstN (pc := 302) 1 dL_moves_302 ic_1 ?_
                      refine es_icmp_neN (pc := 303) 314 dL_moves_303 (by decide) (by omega) (by omega) (fun c303 => ?_) (fun c303 => ?_)
                      · refine es_iload_n (pc := 314) dL_moves_314 rfl ?_
                        refine es_iconstN (pc := 315) 2 dL_moves_315 ic_2 ?_
                        refine es_icmp_neN (pc := 316) 326 dL_moves_316 (by decide) (by omega) (by omega) (fun c316 => ?_) (fun c316 => ?_)
                        · exact absurd c316 (by decide)
                        · refine es_aload_n (pc := 319) dL_moves_319 rfl ?_
                          refine es_cv0_i (pc := 320) dL_moves_320 mr_9_53 rfl rfl (by decide) (by decide) rfl (Nat.le_of_ble_eq_true rfl) (Nat.zero_le _) (O_turn hR hW hv) (fun x320 μ320 h320 => ?_)
                          obtain ⟨rfl, hR2⟩ := h320
                          rw [← hS2] at hR2
                          refine es_goto (pc := 323) (tgt := 332) dL_moves_323 (by decide) ?_
                          refine es_istore (pc := 332) dL_moves_332 (ok1_19 rfl) ?_
                          dsimp only [List.set]
                          refine es_iload (pc := 334) dL_moves_334 rfl ?_
                          refine es_if_eq (pc := 336) (tgt := 430) dL_moves_336 (by decide) (fun c336 => ?_) (fun c336 => ?_)
                          · obtain ⟨R, hRR⟩ : ∃ q : gm_R, q = (gm_turn S.1 (rOn S.1) (rPl S.1 (rOn S.1))) := ⟨_, rfl⟩
                            have e2 : S2.1 = gm_ends R (rP S.1) (rOn S.1) := by rw [hS2, hRR]; exact tn_r c336
                            obtain ⟨r0, r1, r2, r6, rT, q7, q8, q6, qk⟩ := mv_turn (r := S.1) (on := rOn S.1) ha hRR
                            obtain ⟨m0, m1, m2, m6, mT, m5, m7, m8, mi, mq, mk⟩ := mv_endq ho e2
                            have k0 : S2.1 0 = R 0 := mk 0 (by decide)
                            refine es_iload (pc := 430) dL_moves_430 rfl ?_
                            refine es_iload (pc := 432) dL_moves_432 rfl ?_
                            refine es_isub (pc := 434) dL_moves_434 ?_
                            refine es_top ((show _ = R (31 + 7 * rOn S.1 + 1) from r1.symm)) ?_
                            refine es_istore (pc := 435) dL_moves_435 (ok1_7 rfl) ?_
                            dsimp only [List.set]
                            refine es_iload (pc := 437) dL_moves_437 rfl ?_
                            refine es_iconstN (pc := 439) 2 dL_moves_439 ic_2 ?_
                            refine es_idivN (pc := 440) dL_moves_440 (by omega) (by omega) (by omega) ?_
                            refine es_istore (pc := 441) dL_moves_441 (ok1_20 rfl) ?_
                            dsimp only [List.set]
                            refine es_iload (pc := 443) dL_moves_443 rfl ?_
                            refine es_iload_n (pc := 445) dL_moves_445 rfl ?_
                            refine es_iconstN (pc := 446) 1 dL_moves_446 ic_1 ?_
                            refine es_icmp_neN (pc := 447) 455 dL_moves_447 (by decide) (by omega) (by omega) (fun c447 => ?_) (fun c447 => ?_)
                            · refine es_iload_n (pc := 455) dL_moves_455 rfl ?_
                              refine es_iconstN (pc := 456) 3 dL_moves_456 ic_3 ?_
                              refine es_icmp_neN (pc := 457) 465 dL_moves_457 (by decide) (by omega) (by omega) (fun c457 => ?_) (fun c457 => ?_)
                              · refine es_iconstN (pc := 465) 0 dL_moves_465 ic_0 ?_
                                refine es_iadd (pc := 466) dL_moves_466 ?_
                                refine es_top ((show _ = R (31 + 7 * rOn S.1 + 2) from by rw [r2, nI_0]; exact Int32.add_zero _)) ?_
                                refine es_istore (pc := 467) dL_moves_467 (ok1_6 rfl) ?_
                                dsimp only [List.set]
                                refine es_iload_n (pc := 469) dL_moves_469 rfl ?_
                                refine es_iconstN (pc := 470) 2 dL_moves_470 ic_2 ?_
                                refine es_icmp_neN (pc := 471) 486 dL_moves_471 (by decide) (by omega) (by omega) (fun c471 => ?_) (fun c471 => ?_)
                                · exact absurd c471 (by decide)
                                · refine es_iload (pc := 474) dL_moves_474 rfl ?_
                                  refine es_istore (pc := 476) dL_moves_476 (ok1_21 rfl) ?_
                                  dsimp only [List.set]
                                  refine es_iload (pc := 478) dL_moves_478 rfl ?_
                                  refine es_istore (pc := 480) dL_moves_480 (ok1_6 rfl) ?_
                                  dsimp only [List.set]
                                  refine es_iload (pc := 482) dL_moves_482 rfl ?_
                                  refine es_istore (pc := 484) dL_moves_484 (ok1_7 rfl) ?_
                                  dsimp only [List.set]
                                  refine es_iload (pc := 486) dL_moves_486 rfl ?_
                                  refine es_aload_n (pc := 488) dL_moves_488 rfl ?_
                                  refine es_iconstN (pc := 489) 0 dL_moves_489 ic_0 ?_
                                  refine es_cv1_p (pc := 490) dL_moves_490 mr_9_15 rfl rfl (by decide) (by decide) rfl (Nat.le_of_ble_eq_true rfl) (Nat.zero_le _) (G_setting hR2 hW2) ?_
                                  refine es_icmp_ge (pc := 493) (tgt := 501) dL_moves_493 (by decide) (fun c493 => ?_) (fun c493 => ?_)
                                  · refine es_aload_n (pc := 501) dL_moves_501 rfl ?_
                                    refine es_iconstN (pc := 502) 0 dL_moves_502 ic_0 ?_
                                    refine es_cv1_p (pc := 503) dL_moves_503 mr_9_15 rfl rfl (by decide) (by decide) rfl (Nat.le_of_ble_eq_true rfl) (Nat.zero_le _) (G_setting hR2 hW2) ?_
                                    refine es_top (run_b k0 c493) ?_
                                    refine es_istore (pc := 506) dL_moves_506 (ok1_21 rfl) ?_
                                    dsimp only [List.set]
                                    refine es_iload (pc := 508) dL_moves_508 rfl ?_
                                    refine es_iload_n (pc := 510) dL_moves_510 rfl ?_
                                    refine es_if_ne (pc := 511) (tgt := 519) dL_moves_511 (by decide) (fun c511 => ?_) (fun c511 => ?_)
                                    · refine es_iconstN (pc := 519) 0 dL_moves_519 ic_0 ?_
                                      refine es_icmp_ne (pc := 520) (tgt := 594) dL_moves_520 (by decide) (fun c520 => ?_) (fun c520 => ?_)
                                      · exact absurd (c336.trans nI_0.symm) c520
                                      · refine es_aload_n (pc := 523) dL_moves_523 rfl ?_
                                        refine es_iload (pc := 524) dL_moves_524 rfl ?_
                                        refine es_iconstN (pc := 526) 0 dL_moves_526 ic_0 ?_
                                        refine es_cv2_p (pc := 527) dL_moves_527 mr_9_31 rfl rfl (by decide) (by decide) rfl (Nat.le_of_ble_eq_true rfl) (Nat.zero_le _) (G_playerOf hR2 hW2 (hp := by omega)) ?_
                                        refine es_iload_n (pc := 530) dL_moves_530 rfl ?_
                                        refine es_iconstN (pc := 531) 1 dL_moves_531 ic_1 ?_
                                        refine es_icmp_neN (pc := 532) 539 dL_moves_532 (by decide) (by omega) (by omega) (fun c532 => ?_) (fun c532 => ?_)
                                        · refine es_iload (pc := 539) dL_moves_539 rfl ?_
                                          refine es_icmp_ne (pc := 541) (tgt := 594) dL_moves_541 (by decide) (fun c541 => ?_) (fun c541 => ?_)
                                          · exact absurd ((m0.trans r0).trans (wf_at hW.1 hon4).1) c541
                                          · refine es_aload_n (pc := 544) dL_moves_544 rfl ?_
                                            refine es_iload (pc := 545) dL_moves_545 rfl ?_
                                            refine es_iconstN (pc := 547) 1 dL_moves_547 ic_1 ?_
                                            refine es_cv2_p (pc := 548) dL_moves_548 mr_9_31 rfl rfl (by decide) (by decide) rfl (Nat.le_of_ble_eq_true rfl) (Nat.zero_le _) (G_playerOf hR2 hW2 (hp := by omega)) ?_
                                            refine es_iload (pc := 551) dL_moves_551 rfl ?_
                                            refine es_iload (pc := 553) dL_moves_553 rfl ?_
                                            refine es_isub (pc := 555) dL_moves_555 ?_
                                            refine es_icmp_ne (pc := 556) (tgt := 594) dL_moves_556 (by decide) (fun c556 => ?_) (fun c556 => ?_)
                                            · exact absurd m1 c556
                                            · refine es_aload_n (pc := 559) dL_moves_559 rfl ?_
                                              refine es_iload (pc := 560) dL_moves_560 rfl ?_
                                              refine es_iconstN (pc := 562) 2 dL_moves_562 ic_2 ?_
                                              refine es_cv2_p (pc := 563) dL_moves_563 mr_9_31 rfl rfl (by decide) (by decide) rfl (Nat.le_of_ble_eq_true rfl) (Nat.zero_le _) (G_playerOf hR2 hW2 (hp := by omega)) ?_
                                              refine es_iload (pc := 566) dL_moves_566 rfl ?_
                                              refine es_iload (pc := 568) dL_moves_568 rfl ?_
                                              refine es_iadd (pc := 570) dL_moves_570 ?_
                                              refine es_icmp_ne (pc := 571) (tgt := 594) dL_moves_571 (by decide) (fun c571 => ?_) (fun c571 => ?_)
                                              · exact absurd m2 c571
                                              · refine es_aload_n (pc := 574) dL_moves_574 rfl ?_
                                                refine es_iload (pc := 575) dL_moves_575 rfl ?_
                                                refine es_bipushN (pc := 577) 7 dL_moves_577 bp_7 ?_
                                                refine es_cv2_p (pc := 579) dL_moves_579 mr_9_31 rfl rfl (by decide) (by decide) rfl (Nat.le_of_ble_eq_true rfl) (Nat.zero_le _) (G_playerOf hR2 hW2 (hp := by omega)) ?_
                                                refine es_iload (pc := 582) dL_moves_582 rfl ?_
                                                refine es_iload (pc := 584) dL_moves_584 rfl ?_
                                                refine es_iadd (pc := 586) dL_moves_586 ?_
                                                refine es_icmp_ne (pc := 587) (tgt := 594) dL_moves_587 (by decide) (fun c587 => ?_) (fun c587 => ?_)
                                                · exact absurd (m6.trans r6) c587
                                                · refine es_iconstN (pc := 590) 1 dL_moves_590 ic_1 ?_
                                                  refine es_goto (pc := 591) (tgt := 595) dL_moves_591 (by decide) ?_
                                                  refine es_istore (pc := 595) dL_moves_595 (ok1_22 rfl) ?_
                                                  dsimp only [List.set]
                                                  refine es_iload (pc := 597) dL_moves_597 rfl ?_
                                                  refine es_if_eq (pc := 599) (tgt := 671) dL_moves_599 (by decide) (fun c599 => ?_) (fun c599 => ?_)
                                                  · exact absurd c599 (by decide)
                                                  · refine es_aload_n (pc := 602) dL_moves_602 rfl ?_
                                                    refine es_iload (pc := 603) dL_moves_603 rfl ?_
                                                    refine es_iconstN (pc := 605) 1 dL_moves_605 ic_1 ?_
                                                    refine es_cv2_p (pc := 606) dL_moves_606 mr_9_9 rfl rfl (by decide) (by decide) rfl (Nat.le_of_ble_eq_true rfl) (Nat.zero_le _) (G_tower hR2 hW2) ?_
                                                    refine es_iload (pc := 609) dL_moves_609 rfl ?_
                                                    refine es_iload (pc := 611) dL_moves_611 rfl ?_
                                                    refine es_iadd (pc := 613) dL_moves_613 ?_
                                                    refine es_icmp_ne (pc := 614) (tgt := 671) dL_moves_614 (by decide) (fun c614 => ?_) (fun c614 => ?_)
                                                    · exact absurd ((mT _ ha).trans (rT)) c614
                                                    · refine es_iload_n (pc := 617) dL_moves_617 rfl ?_
                                                      refine es_iconstN (pc := 618) 1 dL_moves_618 ic_1 ?_
                                                      refine es_icmp_neN (pc := 619) 631 dL_moves_619 (by decide) (by omega) (by omega) (fun c619 => ?_) (fun c619 => ?_)
                                                      · refine es_aload_n (pc := 631) dL_moves_631 rfl ?_
                                                        refine es_iconstN (pc := 632) 1 dL_moves_632 ic_1 ?_
                                                        refine es_cv1_p (pc := 633) dL_moves_633 mr_9_24 rfl rfl (by decide) (by decide) rfl (Nat.le_of_ble_eq_true rfl) (Nat.zero_le _) (G_count hR2 hW2) ?_
                                                        refine es_iload (pc := 636) dL_moves_636 rfl ?_
                                                        refine es_iconstN (pc := 638) 1 dL_moves_638 ic_1 ?_
                                                        refine es_iaddN (pc := 639) dL_moves_639 ?_
                                                        refine es_iload_n (pc := 640) dL_moves_640 rfl ?_
                                                        refine es_iremN (pc := 641) dL_moves_641 (by omega) (by omega) (by omega) ?_
                                                        refine es_icmp_ne (pc := 642) (tgt := 671) dL_moves_642 (by decide) (fun c642 => ?_) (fun c642 => ?_)
                                                        · exact absurd (s_c1 hW2 (by omega) m5) c642
                                                        · refine es_aload_n (pc := 645) dL_moves_645 rfl ?_
                                                          refine es_iconstN (pc := 646) 3 dL_moves_646 ic_3 ?_
                                                          refine es_cv1_p (pc := 647) dL_moves_647 mr_9_24 rfl rfl (by decide) (by decide) rfl (Nat.le_of_ble_eq_true rfl) (Nat.zero_le _) (G_count hR2 hW2) ?_
                                                          refine es_iload (pc := 650) dL_moves_650 rfl ?_
                                                          refine es_iconstN (pc := 652) 1 dL_moves_652 ic_1 ?_
                                                          refine es_iadd (pc := 653) dL_moves_653 ?_
                                                          refine es_icmp_ne (pc := 654) (tgt := 671) dL_moves_654 (by decide) (fun c654 => ?_) (fun c654 => ?_)
                                                          · exact absurd (m7.trans (by rw [q7]; rfl)) c654
                                                          · refine es_aload_n (pc := 657) dL_moves_657 rfl ?_
                                                            refine es_iconstN (pc := 658) 4 dL_moves_658 ic_4 ?_
                                                            refine es_cv1_p (pc := 659) dL_moves_659 mr_9_24 rfl rfl (by decide) (by decide) rfl (Nat.le_of_ble_eq_true rfl) (Nat.zero_le _) (G_count hR2 hW2) ?_
                                                            refine es_iload (pc := 662) dL_moves_662 rfl ?_
                                                            refine es_icmp_ne (pc := 664) (tgt := 671) dL_moves_664 (by decide) (fun c664 => ?_) (fun c664 => ?_)
                                                            · exact absurd (m8.trans q8) c664
                                                            · refine es_iconstN (pc := 667) 1 dL_moves_667 ic_1 ?_
                                                              refine es_goto (pc := 668) (tgt := 672) dL_moves_668 (by decide) ?_
                                                              refine es_istore (pc := 672) dL_moves_672 (ok1_22 rfl) ?_
                                                              dsimp only [List.set]
                                                              refine es_iload (pc := 674) dL_moves_674 rfl ?_
                                                              refine es_if_eq (pc := 676) (tgt := 723) dL_moves_676 (by decide) (fun c676 => ?_) (fun c676 => ?_)
                                                              · exact absurd c676 (by decide)
                                                              · refine es_aload_n (pc := 679) dL_moves_679 rfl ?_
                                                                refine es_iconstN (pc := 680) 2 dL_moves_680 ic_2 ?_
                                                                refine es_cv1_p (pc := 681) dL_moves_681 mr_9_24 rfl rfl (by decide) (by decide) rfl (Nat.le_of_ble_eq_true rfl) (Nat.zero_le _) (G_count hR2 hW2) ?_
                                                                refine es_iload_n (pc := 684) dL_moves_684 rfl ?_
                                                                refine es_iconstN (pc := 685) 3 dL_moves_685 ic_3 ?_
                                                                refine es_icmp_neN (pc := 686) 694 dL_moves_686 (by decide) (by omega) (by omega) (fun c686 => ?_) (fun c686 => ?_)
                                                                · refine es_iload (pc := 694) dL_moves_694 rfl ?_
                                                                  refine es_icmp_ne (pc := 696) (tgt := 723) dL_moves_696 (by decide) (fun c696 => ?_) (fun c696 => ?_)
                                                                  · exact absurd (s_c2 hW2 (by omega) (mi.trans (q6.trans hi2))) c696
                                                                  · refine es_iload_n (pc := 699) dL_moves_699 rfl ?_
                                                                    refine es_iconstN (pc := 700) 3 dL_moves_700 ic_3 ?_
                                                                    refine es_icmp_neN (pc := 701) 719 dL_moves_701 (by decide) (by omega) (by omega) (fun c701 => ?_) (fun c701 => ?_)
                                                                    · refine es_iconstN (pc := 719) 1 dL_moves_719 ic_1 ?_
                                                                      refine es_goto (pc := 720) (tgt := 724) dL_moves_720 (by decide) ?_
                                                                      refine es_ireturn (pc := 724) dL_moves_724 rfl (rfl) (by decide) ?_
                                                                      exact ⟨_, rfl, rfl, by rw [← hS2]; exact hR2⟩
                                                                    · exact absurd c701 (by decide)
                                                                · exact absurd c686 (by decide)
                                                      · exact absurd c619 (by decide)
                                        · exact absurd c532 (by decide)
                                    · exact absurd c511 (by decide)
                                  · refine es_iload (pc := 496) dL_moves_496 rfl ?_
                                    refine es_goto (pc := 498) (tgt := 506) dL_moves_498 (by decide) ?_
                                    refine es_top (run_a k0 c493) ?_
                                    refine es_istore (pc := 506) dL_moves_506 (ok1_21 rfl) ?_
                                    dsimp only [List.set]
                                    refine es_iload (pc := 508) dL_moves_508 rfl ?_
                                    refine es_iload_n (pc := 510) dL_moves_510 rfl ?_
                                    refine es_if_ne (pc := 511) (tgt := 519) dL_moves_511 (by decide) (fun c511 => ?_) (fun c511 => ?_)
                                    · refine es_iconstN (pc := 519) 0 dL_moves_519 ic_0 ?_
                                      refine es_icmp_ne (pc := 520) (tgt := 594) dL_moves_520 (by decide) (fun c520 => ?_) (fun c520 => ?_)
                                      · exact absurd (c336.trans nI_0.symm) c520
                                      · refine es_aload_n (pc := 523) dL_moves_523 rfl ?_
                                        refine es_iload (pc := 524) dL_moves_524 rfl ?_
                                        refine es_iconstN (pc := 526) 0 dL_moves_526 ic_0 ?_
                                        refine es_cv2_p (pc := 527) dL_moves_527 mr_9_31 rfl rfl (by decide) (by decide) rfl (Nat.le_of_ble_eq_true rfl) (Nat.zero_le _) (G_playerOf hR2 hW2 (hp := by omega)) ?_
                                        refine es_iload_n (pc := 530) dL_moves_530 rfl ?_
                                        refine es_iconstN (pc := 531) 1 dL_moves_531 ic_1 ?_
                                        refine es_icmp_neN (pc := 532) 539 dL_moves_532 (by decide) (by omega) (by omega) (fun c532 => ?_) (fun c532 => ?_)
                                        · refine es_iload (pc := 539) dL_moves_539 rfl ?_
                                          refine es_icmp_ne (pc := 541) (tgt := 594) dL_moves_541 (by decide) (fun c541 => ?_) (fun c541 => ?_)
                                          · exact absurd ((m0.trans r0).trans (wf_at hW.1 hon4).1) c541
                                          · refine es_aload_n (pc := 544) dL_moves_544 rfl ?_
                                            refine es_iload (pc := 545) dL_moves_545 rfl ?_
                                            refine es_iconstN (pc := 547) 1 dL_moves_547 ic_1 ?_
                                            refine es_cv2_p (pc := 548) dL_moves_548 mr_9_31 rfl rfl (by decide) (by decide) rfl (Nat.le_of_ble_eq_true rfl) (Nat.zero_le _) (G_playerOf hR2 hW2 (hp := by omega)) ?_
                                            refine es_iload (pc := 551) dL_moves_551 rfl ?_
                                            refine es_iload (pc := 553) dL_moves_553 rfl ?_
                                            refine es_isub (pc := 555) dL_moves_555 ?_
                                            refine es_icmp_ne (pc := 556) (tgt := 594) dL_moves_556 (by decide) (fun c556 => ?_) (fun c556 => ?_)
                                            · exact absurd m1 c556
                                            · refine es_aload_n (pc := 559) dL_moves_559 rfl ?_
                                              refine es_iload (pc := 560) dL_moves_560 rfl ?_
                                              refine es_iconstN (pc := 562) 2 dL_moves_562 ic_2 ?_
                                              refine es_cv2_p (pc := 563) dL_moves_563 mr_9_31 rfl rfl (by decide) (by decide) rfl (Nat.le_of_ble_eq_true rfl) (Nat.zero_le _) (G_playerOf hR2 hW2 (hp := by omega)) ?_
                                              refine es_iload (pc := 566) dL_moves_566 rfl ?_
                                              refine es_iload (pc := 568) dL_moves_568 rfl ?_
                                              refine es_iadd (pc := 570) dL_moves_570 ?_
                                              refine es_icmp_ne (pc := 571) (tgt := 594) dL_moves_571 (by decide) (fun c571 => ?_) (fun c571 => ?_)
                                              · exact absurd m2 c571
                                              · refine es_aload_n (pc := 574) dL_moves_574 rfl ?_
                                                refine es_iload (pc := 575) dL_moves_575 rfl ?_
                                                refine es_bipushN (pc := 577) 7 dL_moves_577 bp_7 ?_
                                                refine es_cv2_p (pc := 579) dL_moves_579 mr_9_31 rfl rfl (by decide) (by decide) rfl (Nat.le_of_ble_eq_true rfl) (Nat.zero_le _) (G_playerOf hR2 hW2 (hp := by omega)) ?_
                                                refine es_iload (pc := 582) dL_moves_582 rfl ?_
                                                refine es_iload (pc := 584) dL_moves_584 rfl ?_
                                                refine es_iadd (pc := 586) dL_moves_586 ?_
                                                refine es_icmp_ne (pc := 587) (tgt := 594) dL_moves_587 (by decide) (fun c587 => ?_) (fun c587 => ?_)
                                                · exact absurd (m6.trans r6) c587
                                                · refine es_iconstN (pc := 590) 1 dL_moves_590 ic_1 ?_
                                                  refine es_goto (pc := 591) (tgt := 595) dL_moves_591 (by decide) ?_
                                                  refine es_istore (pc := 595) dL_moves_595 (ok1_22 rfl) ?_
                                                  dsimp only [List.set]
                                                  refine es_iload (pc := 597) dL_moves_597 rfl ?_
                                                  refine es_if_eq (pc := 599) (tgt := 671) dL_moves_599 (by decide) (fun c599 => ?_) (fun c599 => ?_)
                                                  · exact absurd c599 (by decide)
                                                  · refine es_aload_n (pc := 602) dL_moves_602 rfl ?_
                                                    refine es_iload (pc := 603) dL_moves_603 rfl ?_
                                                    refine es_iconstN (pc := 605) 1 dL_moves_605 ic_1 ?_
                                                    refine es_cv2_p (pc := 606) dL_moves_606 mr_9_9 rfl rfl (by decide) (by decide) rfl (Nat.le_of_ble_eq_true rfl) (Nat.zero_le _) (G_tower hR2 hW2) ?_
                                                    refine es_iload (pc := 609) dL_moves_609 rfl ?_
                                                    refine es_iload (pc := 611) dL_moves_611 rfl ?_
                                                    refine es_iadd (pc := 613) dL_moves_613 ?_
                                                    refine es_icmp_ne (pc := 614) (tgt := 671) dL_moves_614 (by decide) (fun c614 => ?_) (fun c614 => ?_)
                                                    · exact absurd ((mT _ ha).trans (rT)) c614
                                                    · refine es_iload_n (pc := 617) dL_moves_617 rfl ?_
                                                      refine es_iconstN (pc := 618) 1 dL_moves_618 ic_1 ?_
                                                      refine es_icmp_neN (pc := 619) 631 dL_moves_619 (by decide) (by omega) (by omega) (fun c619 => ?_) (fun c619 => ?_)
                                                      · refine es_aload_n (pc := 631) dL_moves_631 rfl ?_
                                                        refine es_iconstN (pc := 632) 1 dL_moves_632 ic_1 ?_
                                                        refine es_cv1_p (pc := 633) dL_moves_633 mr_9_24 rfl rfl (by decide) (by decide) rfl (Nat.le_of_ble_eq_true rfl) (Nat.zero_le _) (G_count hR2 hW2) ?_
                                                        refine es_iload (pc := 636) dL_moves_636 rfl ?_
                                                        refine es_iconstN (pc := 638) 1 dL_moves_638 ic_1 ?_
                                                        refine es_iaddN (pc := 639) dL_moves_639 ?_
                                                        refine es_iload_n (pc := 640) dL_moves_640 rfl ?_
                                                        refine es_iremN (pc := 641) dL_moves_641 (by omega) (by omega) (by omega) ?_
                                                        refine es_icmp_ne (pc := 642) (tgt := 671) dL_moves_642 (by decide) (fun c642 => ?_) (fun c642 => ?_)
                                                        · exact absurd (s_c1 hW2 (by omega) m5) c642
                                                        · refine es_aload_n (pc := 645) dL_moves_645 rfl ?_
                                                          refine es_iconstN (pc := 646) 3 dL_moves_646 ic_3 ?_
                                                          refine es_cv1_p (pc := 647) dL_moves_647 mr_9_24 rfl rfl (by decide) (by decide) rfl (Nat.le_of_ble_eq_true rfl) (Nat.zero_le _) (G_count hR2 hW2) ?_
                                                          refine es_iload (pc := 650) dL_moves_650 rfl ?_
                                                          refine es_iconstN (pc := 652) 1 dL_moves_652 ic_1 ?_
                                                          refine es_iadd (pc := 653) dL_moves_653 ?_
                                                          refine es_icmp_ne (pc := 654) (tgt := 671) dL_moves_654 (by decide) (fun c654 => ?_) (fun c654 => ?_)
                                                          · exact absurd (m7.trans (by rw [q7]; rfl)) c654
                                                          · refine es_aload_n (pc := 657) dL_moves_657 rfl ?_
                                                            refine es_iconstN (pc := 658) 4 dL_moves_658 ic_4 ?_
                                                            refine es_cv1_p (pc := 659) dL_moves_659 mr_9_24 rfl rfl (by decide) (by decide) rfl (Nat.le_of_ble_eq_true rfl) (Nat.zero_le _) (G_count hR2 hW2) ?_
                                                            refine es_iload (pc := 662) dL_moves_662 rfl ?_
                                                            refine es_icmp_ne (pc := 664) (tgt := 671) dL_moves_664 (by decide) (fun c664 => ?_) (fun c664 => ?_)
                                                            · exact absurd (m8.trans q8) c664
                                                            · refine es_iconstN (pc := 667) 1 dL_moves_667 ic_1 ?_
                                                              refine es_goto (pc := 668) (tgt := 672) dL_moves_668 (by decide) ?_
                                                              refine es_istore (pc := 672) dL_moves_672 (ok1_22 rfl) ?_
                                                              dsimp only [List.set]
                                                              refine es_iload (pc := 674) dL_moves_674 rfl ?_
                                                              refine es_if_eq (pc := 676) (tgt := 723) dL_moves_676 (by decide) (fun c676 => ?_) (fun c676 => ?_)
                                                              · exact absurd c676 (by decide)
                                                              · refine es_aload_n (pc := 679) dL_moves_679 rfl ?_
                                                                refine es_iconstN (pc := 680) 2 dL_moves_680 ic_2 ?_
                                                                refine es_cv1_p (pc := 681) dL_moves_681 mr_9_24 rfl rfl (by decide) (by decide) rfl (Nat.le_of_ble_eq_true rfl) (Nat.zero_le _) (G_count hR2 hW2) ?_
                                                                refine es_iload_n (pc := 684) dL_moves_684 rfl ?_
                                                                refine es_iconstN (pc := 685) 3 dL_moves_685 ic_3 ?_
                                                                refine es_icmp_neN (pc := 686) 694 dL_moves_686 (by decide) (by omega) (by omega) (fun c686 => ?_) (fun c686 => ?_)
                                                                · refine es_iload (pc := 694) dL_moves_694 rfl ?_
                                                                  refine es_icmp_ne (pc := 696) (tgt := 723) dL_moves_696 (by decide) (fun c696 => ?_) (fun c696 => ?_)
                                                                  · exact absurd (s_c2 hW2 (by omega) (mi.trans (q6.trans hi2))) c696
                                                                  · refine es_iload_n (pc := 699) dL_moves_699 rfl ?_
                                                                    refine es_iconstN (pc := 700) 3 dL_moves_700 ic_3 ?_
                                                                    refine es_icmp_neN (pc := 701) 719 dL_moves_701 (by decide) (by omega) (by omega) (fun c701 => ?_) (fun c701 => ?_)
                                                                    · refine es_iconstN (pc := 719) 1 dL_moves_719 ic_1 ?_
                                                                      refine es_goto (pc := 720) (tgt := 724) dL_moves_720 (by decide) ?_
                                                                      refine es_ireturn (pc := 724) dL_moves_724 rfl (rfl) (by decide) ?_
                                                                      exact ⟨_, rfl, rfl, by rw [← hS2]; exact hR2⟩
                                                                    · exact absurd c701 (by decide)
                                                                · exact absurd c686 (by decide)
                                                      · exact absurd c619 (by decide)
                                        · exact absurd c532 (by decide)
                                    · exact absurd c511 (by decide)
                              · exact absurd c457 (by decide)
                            · exact absurd c447 (by decide)
                          · exact absurd (tn_0 c178).symm c336
                      · exact absurd c303 (by decide)
                    · exact absurd c291 (by decide)
                · exact absurd c261 (by decide)
              · refine es_iconstN (pc := 181) 4 dL_moves_181 ic_4 ?_
                refine es_goto (pc := 182) (tgt := 257) dL_moves_182 (by decide) ?_
                refine es_top (tn_4 c178) ?_
                refine es_istore (pc := 257) dL_moves_257 (ok1_17 rfl) ?_
                dsimp only [List.set]
                refine es_iload_n (pc := 259) dL_moves_259 rfl ?_
                refine es_iconstN (pc := 260) 1 dL_moves_260 ic_1 ?_
                refine es_icmp_neN (pc := 261) 274 dL_moves_261 (by decide) (by omega) (by omega) (fun c261 => ?_) (fun c261 => ?_)
                · refine es_iload_n (pc := 274) dL_moves_274 rfl ?_
                  refine es_iconstN (pc := 275) 2 dL_moves_275 ic_2 ?_
                  refine es_icmp_neN (pc := 276) 287 dL_moves_276 (by decide) (by omega) (by omega) (fun c276 => ?_) (fun c276 => ?_)
                  · exact absurd c276 (by decide)
                  · refine es_aload_n (pc := 279) dL_moves_279 rfl ?_
                    refine es_iconstN (pc := 280) 2 dL_moves_280 ic_2 ?_
                    refine es_cv1_p (pc := 281) dL_moves_281 mr_9_15 rfl rfl (by decide) (by decide) rfl (Nat.le_of_ble_eq_true rfl) (Nat.zero_le _) (G_setting hR hW) ?_
                    refine es_goto (pc := 284) (tgt := 288) dL_moves_284 (by decide) ?_
                    refine es_istore (pc := 288) dL_moves_288 (ok1_18 rfl) ?_
                    dsimp only [List.set]
                    refine es_iload_n (pc := 290) dL_moves_290 rfl ?_
                    refine es_if_ne (pc := 291) (tgt := 301) dL_moves_291 (by decide) (fun c291 => ?_) (fun c291 => ?_)
                    · refine es_iload_n (pc := 301) dL_moves_301 rfl ?_
                      refine es_iconstN (pc := 302) 1 dL_moves_302 ic_1 ?_
                      refine es_icmp_neN (pc := 303) 314 dL_moves_303 (by decide) (by omega) (by omega) (fun c303 => ?_) (fun c303 => ?_)
                      · refine es_iload_n (pc := 314) dL_moves_314 rfl ?_
                        refine es_iconstN (pc := 315) 2 dL_moves_315 ic_2 ?_
                        refine es_icmp_neN (pc := 316) 326 dL_moves_316 (by decide) (by omega) (by omega) (fun c316 => ?_) (fun c316 => ?_)
                        · exact absurd c316 (by decide)
                        · refine es_aload_n (pc := 319) dL_moves_319 rfl ?_
                          refine es_cv0_i (pc := 320) dL_moves_320 mr_9_53 rfl rfl (by decide) (by decide) rfl (Nat.le_of_ble_eq_true rfl) (Nat.zero_le _) (O_turn hR hW hv) (fun x320 μ320 h320 => ?_)
                          obtain ⟨rfl, hR2⟩ := h320
                          rw [← hS2] at hR2
                          refine es_goto (pc := 323) (tgt := 332) dL_moves_323 (by decide) ?_
                          refine es_istore (pc := 332) dL_moves_332 (ok1_19 rfl) ?_
                          dsimp only [List.set]
                          refine es_iload (pc := 334) dL_moves_334 rfl ?_
                          refine es_if_eq (pc := 336) (tgt := 430) dL_moves_336 (by decide) (fun c336 => ?_) (fun c336 => ?_)
                          · exact absurd ((tn_4 c178).trans c336) (by decide)
                          · have e2 : S2.1 = gm_ref S.1 := by rw [hS2]; exact tn_f c336
                            have e : ∀ j, j ≠ 8 → S2.1 j = S.1 j := fun j hj => by rw [e2]; exact upd_ne hj
                            have e8 : S2.1 8 = S.1 8 + nI 1 := by rw [e2]; exact upd_eq
                            refine es_iload (pc := 339) dL_moves_339 rfl ?_
                            refine es_iload (pc := 341) dL_moves_341 rfl ?_
                            refine es_icmp_ne (pc := 343) (tgt := 428) dL_moves_343 (by decide) (fun c343 => ?_) (fun c343 => ?_)
                            · exact absurd rfl c343
                            · refine es_aload_n (pc := 346) dL_moves_346 rfl ?_
                              refine es_iconstN (pc := 347) 4 dL_moves_347 ic_4 ?_
                              refine es_cv1_p (pc := 348) dL_moves_348 mr_9_24 rfl rfl (by decide) (by decide) rfl (Nat.le_of_ble_eq_true rfl) (Nat.zero_le _) (G_count hR2 hW2) ?_
                              refine es_iload (pc := 351) dL_moves_351 rfl ?_
                              refine es_iconstN (pc := 353) 1 dL_moves_353 ic_1 ?_
                              refine es_iadd (pc := 354) dL_moves_354 ?_
                              refine es_icmp_ne (pc := 355) (tgt := 428) dL_moves_355 (by decide) (fun c355 => ?_) (fun c355 => ?_)
                              · exact absurd e8 c355
                              · refine es_aload_n (pc := 358) dL_moves_358 rfl ?_
                                refine es_iconstN (pc := 359) 3 dL_moves_359 ic_3 ?_
                                refine es_cv1_p (pc := 360) dL_moves_360 mr_9_24 rfl rfl (by decide) (by decide) rfl (Nat.le_of_ble_eq_true rfl) (Nat.zero_le _) (G_count hR2 hW2) ?_
                                refine es_iload (pc := 363) dL_moves_363 rfl ?_
                                refine es_icmp_ne (pc := 365) (tgt := 428) dL_moves_365 (by decide) (fun c365 => ?_) (fun c365 => ?_)
                                · exact absurd (e 7 (by decide)) c365
                                · refine es_aload_n (pc := 368) dL_moves_368 rfl ?_
                                  refine es_iconstN (pc := 369) 1 dL_moves_369 ic_1 ?_
                                  refine es_cv1_p (pc := 370) dL_moves_370 mr_9_24 rfl rfl (by decide) (by decide) rfl (Nat.le_of_ble_eq_true rfl) (Nat.zero_le _) (G_count hR2 hW2) ?_
                                  refine es_iload (pc := 373) dL_moves_373 rfl ?_
                                  refine es_icmp_ne (pc := 375) (tgt := 428) dL_moves_375 (by decide) (fun c375 => ?_) (fun c375 => ?_)
                                  · exact absurd (s_c1 hW2 (by omega) ((e 5 (by decide)).trans hi5)) c375
                                  · refine es_aload_n (pc := 378) dL_moves_378 rfl ?_
                                    refine es_iload (pc := 379) dL_moves_379 rfl ?_
                                    refine es_iconstN (pc := 381) 0 dL_moves_381 ic_0 ?_
                                    refine es_cv2_p (pc := 382) dL_moves_382 mr_9_31 rfl rfl (by decide) (by decide) rfl (Nat.le_of_ble_eq_true rfl) (Nat.zero_le _) (G_playerOf hR2 hW2 (hp := by omega)) ?_
                                    refine es_iload (pc := 385) dL_moves_385 rfl ?_
                                    refine es_icmp_ne (pc := 387) (tgt := 428) dL_moves_387 (by decide) (fun c387 => ?_) (fun c387 => ?_)
                                    · exact absurd ((e (31 + 7 * rOn S.1) (by omega)).trans (wf_at hW.1 hon4).1) c387
                                    · refine es_aload_n (pc := 390) dL_moves_390 rfl ?_
                                      refine es_iload (pc := 391) dL_moves_391 rfl ?_
                                      refine es_iconstN (pc := 393) 1 dL_moves_393 ic_1 ?_
                                      refine es_cv2_p (pc := 394) dL_moves_394 mr_9_31 rfl rfl (by decide) (by decide) rfl (Nat.le_of_ble_eq_true rfl) (Nat.zero_le _) (G_playerOf hR2 hW2 (hp := by omega)) ?_
                                      refine es_iload (pc := 397) dL_moves_397 rfl ?_
                                      refine es_icmp_ne (pc := 399) (tgt := 428) dL_moves_399 (by decide) (fun c399 => ?_) (fun c399 => ?_)
                                      · exact absurd (e (31 + 7 * rOn S.1 + 1) (by omega)) c399
                                      · refine es_aload_n (pc := 402) dL_moves_402 rfl ?_
                                        refine es_iload (pc := 403) dL_moves_403 rfl ?_
                                        refine es_iconstN (pc := 405) 2 dL_moves_405 ic_2 ?_
                                        refine es_cv2_p (pc := 406) dL_moves_406 mr_9_31 rfl rfl (by decide) (by decide) rfl (Nat.le_of_ble_eq_true rfl) (Nat.zero_le _) (G_playerOf hR2 hW2 (hp := by omega)) ?_
                                        refine es_iload (pc := 409) dL_moves_409 rfl ?_
                                        refine es_icmp_ne (pc := 411) (tgt := 428) dL_moves_411 (by decide) (fun c411 => ?_) (fun c411 => ?_)
                                        · exact absurd (e (31 + 7 * rOn S.1 + 2) (by omega)) c411
                                        · refine es_aload_n (pc := 414) dL_moves_414 rfl ?_
                                          refine es_iconstN (pc := 415) 2 dL_moves_415 ic_2 ?_
                                          refine es_cv1_p (pc := 416) dL_moves_416 mr_9_24 rfl rfl (by decide) (by decide) rfl (Nat.le_of_ble_eq_true rfl) (Nat.zero_le _) (G_count hR2 hW2) ?_
                                          refine es_iload (pc := 419) dL_moves_419 rfl ?_
                                          refine es_icmp_ne (pc := 421) (tgt := 428) dL_moves_421 (by decide) (fun c421 => ?_) (fun c421 => ?_)
                                          · exact absurd (s_c2 hW2 (by omega) ((e 6 (by decide)).trans hi2)) c421
                                          · refine es_iconstN (pc := 424) 1 dL_moves_424 ic_1 ?_
                                            refine es_goto (pc := 425) (tgt := 429) dL_moves_425 (by decide) ?_
                                            refine es_ireturn (pc := 429) dL_moves_429 rfl (rfl) (by decide) ?_
                                            exact ⟨_, rfl, rfl, by rw [← hS2]; exact hR2⟩
                      · exact absurd c303 (by decide)
                    · exact absurd c291 (by decide)
                · exact absurd c261 (by decide)
          · exact absurd c153 (by decide)
        · exact absurd c129 (by decide)
      · exact absurd c91 (by decide)
    · exact absurd c73 (by decide)
  · exact absurd c61 (by decide)
set_option maxHeartbeats 2000000 in
set_option maxRecDepth 20000 in
theorem L_moves_3 {d : Nat} {μ : ev_M} {S : gS} {k to : Nat} (hR : RepC μ S) (hW : WFS S) (hH : HLD S.1 (rP S.1) k) (hk : k < 9999 := by omega) (hq : to < rP S.1 := by omega) (hd : 7 ≤ d := by omega) : SPi (ev_CALL d) 179 [.ref 0, .int (nI 3), .int (nI to)] μ (fun x μ2 => x = bI true ∧ RepC μ2 (gTo S ((rm_tag S.1 to).2))) := by
  obtain ⟨d, rfl⟩ : ∃ q, d = q + 1 := ⟨d - 1, by omega⟩
  refine SPi.of (Nat.le_of_ble_eq_true rfl) ?_
  show es (ev_CALL d) 9 cL_moves (some .boolean) 0 (0, fun _ => 0, []) (fun r μ2 => ∃ x9 : Int32, r = (some (.int x9), 0) ∧ (fun x μ2 => x = bI true ∧ RepC μ2 (gTo S ((rm_tag S.1 to).2))) x9 μ2) 0 [.ref 0, .int (nI 3), .int (nI to), .null, .null, .null, .null, .null, .null, .null, .null, .null, .null, .null, .null, .null, .null, .null, .null, .null, .null, .null, .null] [] μ 0
  obtain ⟨hi1, hi2, hi3, hi5⟩ := wf_n hW.1
  obtain ⟨h4, hon4, hon⟩ := wf_on hW.1
  have h0 : 0 < rP S.1 := hH.2.2.1
  have ho := hon h0
  have hi := hi3 h0
  have hv := hH.over hk
  have ha := wf_pl hW.1 (rOn S.1)
  have hb := wf_pl hW.1 to
  obtain ⟨S2, hS2⟩ : ∃ q : gS, q = (gTo S ((rm_tag S.1 to).2)) := ⟨_, rfl⟩
  have hW2 : WFS S2 := by
    have h9 := wfs_tag (x := nI to) hW
    rw [op_tag, gm_is_nI (by omega), decide_eq_true hq, if_neg (by decide), if_neg (by rw [hv]; decide), cl_nI (by omega)] at h9
    rw [hS2]
    exact h9
  have hH2 : HLD ((rm_tag S.1 to).2) (rP S.1) (k + 1) := hH.tag hq
  have hP2 : rP S2.1 = rP S.1 := by rw [hS2]; exact hH2.2.1
  refine es_aload_n (pc := 0) dL_moves_0 rfl ?_
  refine es_iconstN (pc := 1) 0 dL_moves_1 ic_0 ?_
  refine es_cv1_p (pc := 2) dL_moves_2 mr_9_24 rfl rfl (by decide) (by decide) rfl (Nat.le_of_ble_eq_true rfl) (Nat.zero_le _) (C_0 hR hW) ?_
  refine es_istore_n (pc := 5) dL_moves_5 (ok1_3 rfl) ?_
  dsimp only [List.set]
  refine es_aload_n (pc := 6) dL_moves_6 rfl ?_
  refine es_iconstN (pc := 7) 1 dL_moves_7 ic_1 ?_
  refine es_cv1_p (pc := 8) dL_moves_8 mr_9_24 rfl rfl (by decide) (by decide) rfl (Nat.le_of_ble_eq_true rfl) (Nat.zero_le _) (C_1 hR hW) ?_
  refine es_istore (pc := 11) dL_moves_11 (ok1_4 rfl) ?_
  dsimp only [List.set]
  refine es_aload_n (pc := 13) dL_moves_13 rfl ?_
  refine es_iload (pc := 14) dL_moves_14 rfl ?_
  refine es_iconstN (pc := 16) 0 dL_moves_16 ic_0 ?_
  refine es_cv2_p (pc := 17) dL_moves_17 mr_9_31 rfl rfl (by decide) (by decide) rfl (Nat.le_of_ble_eq_true rfl) (Nat.zero_le _) (P_at hR hW) ?_
  refine es_istore (pc := 20) dL_moves_20 (ok1_5 rfl) ?_
  dsimp only [List.set]
  refine es_aload_n (pc := 22) dL_moves_22 rfl ?_
  refine es_iload (pc := 23) dL_moves_23 rfl ?_
  refine es_iconstN (pc := 25) 1 dL_moves_25 ic_1 ?_
  refine es_cv2_p (pc := 26) dL_moves_26 mr_9_31 rfl rfl (by decide) (by decide) rfl (Nat.le_of_ble_eq_true rfl) (Nat.zero_le _) (G_playerOf hR hW) ?_
  refine es_istore (pc := 29) dL_moves_29 (ok1_6 rfl) ?_
  dsimp only [List.set]
  refine es_aload_n (pc := 31) dL_moves_31 rfl ?_
  refine es_iload (pc := 32) dL_moves_32 rfl ?_
  refine es_iconstN (pc := 34) 2 dL_moves_34 ic_2 ?_
  refine es_cv2_p (pc := 35) dL_moves_35 mr_9_31 rfl rfl (by decide) (by decide) rfl (Nat.le_of_ble_eq_true rfl) (Nat.zero_le _) (G_playerOf hR hW) ?_
  refine es_istore (pc := 38) dL_moves_38 (ok1_7 rfl) ?_
  dsimp only [List.set]
  refine es_aload_n (pc := 40) dL_moves_40 rfl ?_
  refine es_iload (pc := 41) dL_moves_41 rfl ?_
  refine es_bipushN (pc := 43) 7 dL_moves_43 bp_7 ?_
  refine es_cv2_p (pc := 45) dL_moves_45 mr_9_31 rfl rfl (by decide) (by decide) rfl (Nat.le_of_ble_eq_true rfl) (Nat.zero_le _) (G_playerOf hR hW) ?_
  refine es_istore (pc := 48) dL_moves_48 (ok1_8 rfl) ?_
  dsimp only [List.set]
  refine es_aload_n (pc := 50) dL_moves_50 rfl ?_
  refine es_iload (pc := 51) dL_moves_51 rfl ?_
  refine es_iconstN (pc := 53) 1 dL_moves_53 ic_1 ?_
  refine es_cv2_p (pc := 54) dL_moves_54 mr_9_9 rfl rfl (by decide) (by decide) rfl (Nat.le_of_ble_eq_true rfl) (Nat.zero_le _) (G_tower hR hW) ?_
  refine es_istore (pc := 57) dL_moves_57 (ok1_9 rfl) ?_
  dsimp only [List.set]
  refine es_iload_n (pc := 59) dL_moves_59 rfl ?_
  refine es_iconstN (pc := 60) 3 dL_moves_60 ic_3 ?_
  refine es_icmp_neN (pc := 61) 68 dL_moves_61 (by decide) (by omega) (by omega) (fun c61 => ?_) (fun c61 => ?_)
  · exact absurd c61 (by decide)
  · refine es_iload_n (pc := 64) dL_moves_64 rfl ?_
    refine es_goto (pc := 65) (tgt := 69) dL_moves_65 (by decide) ?_
    refine es_istore (pc := 69) dL_moves_69 (ok1_10 rfl) ?_
    dsimp only [List.set]
    refine es_iload_n (pc := 71) dL_moves_71 rfl ?_
    refine es_iconstN (pc := 72) 3 dL_moves_72 ic_3 ?_
    refine es_icmp_neN (pc := 73) 86 dL_moves_73 (by decide) (by omega) (by omega) (fun c73 => ?_) (fun c73 => ?_)
    · exact absurd c73 (by decide)
    · refine es_aload_n (pc := 76) dL_moves_76 rfl ?_
      refine es_iload (pc := 77) dL_moves_77 rfl ?_
      refine es_iconstN (pc := 79) 2 dL_moves_79 ic_2 ?_
      refine es_cv2_p (pc := 80) dL_moves_80 mr_9_31 rfl rfl (by decide) (by decide) rfl (Nat.le_of_ble_eq_true rfl) (Nat.zero_le _) (G_playerOf hR hW) ?_
      refine es_goto (pc := 83) (tgt := 87) dL_moves_83 (by decide) ?_
      refine es_istore (pc := 87) dL_moves_87 (ok1_11 rfl) ?_
      dsimp only [List.set]
      refine es_iload_n (pc := 89) dL_moves_89 rfl ?_
      refine es_iconstN (pc := 90) 1 dL_moves_90 ic_1 ?_
      refine es_icmp_neN (pc := 91) 103 dL_moves_91 (by decide) (by omega) (by omega) (fun c91 => ?_) (fun c91 => ?_)
      · refine es_iconstN (pc := 103) 0 dL_moves_103 ic_0 ?_
        refine es_istore (pc := 104) dL_moves_104 (ok1_12 rfl) ?_
        dsimp only [List.set]
        refine es_aload_n (pc := 106) dL_moves_106 rfl ?_
        refine es_iconstN (pc := 107) 2 dL_moves_107 ic_2 ?_
        refine es_cv1_p (pc := 108) dL_moves_108 mr_9_24 rfl rfl (by decide) (by decide) rfl (Nat.le_of_ble_eq_true rfl) (Nat.zero_le _) (C_2 hR hW) ?_
        refine es_istore (pc := 111) dL_moves_111 (ok1_13 rfl) ?_
        dsimp only [List.set]
        refine es_aload_n (pc := 113) dL_moves_113 rfl ?_
        refine es_iconstN (pc := 114) 4 dL_moves_114 ic_4 ?_
        refine es_cv1_p (pc := 115) dL_moves_115 mr_9_24 rfl rfl (by decide) (by decide) rfl (Nat.le_of_ble_eq_true rfl) (Nat.zero_le _) (G_count hR hW) ?_
        refine es_istore (pc := 118) dL_moves_118 (ok1_14 rfl) ?_
        dsimp only [List.set]
        refine es_aload_n (pc := 120) dL_moves_120 rfl ?_
        refine es_iconstN (pc := 121) 3 dL_moves_121 ic_3 ?_
        refine es_cv1_p (pc := 122) dL_moves_122 mr_9_24 rfl rfl (by decide) (by decide) rfl (Nat.le_of_ble_eq_true rfl) (Nat.zero_le _) (G_count hR hW) ?_
        refine es_istore (pc := 125) dL_moves_125 (ok1_15 rfl) ?_
        dsimp only [List.set]
        refine es_iload_n (pc := 127) dL_moves_127 rfl ?_
        refine es_iconstN (pc := 128) 3 dL_moves_128 ic_3 ?_
        refine es_icmp_neN (pc := 129) 148 dL_moves_129 (by decide) (by omega) (by omega) (fun c129 => ?_) (fun c129 => ?_)
        · exact absurd c129 (by decide)
        · refine es_iload (pc := 132) dL_moves_132 rfl ?_
          refine es_aload_n (pc := 134) dL_moves_134 rfl ?_
          refine es_iload (pc := 135) dL_moves_135 rfl ?_
          refine es_iconstN (pc := 137) 0 dL_moves_137 ic_0 ?_
          refine es_cv2_p (pc := 138) dL_moves_138 mr_9_31 rfl rfl (by decide) (by decide) rfl (Nat.le_of_ble_eq_true rfl) (Nat.zero_le _) (P_at hR hW) ?_
          refine es_isub (pc := 141) dL_moves_141 ?_
          refine es_cs1_p (pc := 142) dL_moves_142 mr_9_19 rfl rfl rfl (Nat.le_of_ble_eq_true rfl) (Nat.zero_le _) (L_size_ok) ?_
          refine es_top (sz_n (by omega) (by omega)) ?_
          refine es_goto (pc := 145) (tgt := 149) dL_moves_145 (by decide) ?_
          refine es_istore (pc := 149) dL_moves_149 (ok1_16 rfl) ?_
          dsimp only [List.set]
          refine es_iload_n (pc := 151) dL_moves_151 rfl ?_
          refine es_iconstN (pc := 152) 1 dL_moves_152 ic_1 ?_
          refine es_icmp_neN (pc := 153) 166 dL_moves_153 (by decide) (by omega) (by omega) (fun c153 => ?_) (fun c153 => ?_)
          · refine es_iload_n (pc := 166) dL_moves_166 rfl ?_
            refine es_iconstN (pc := 167) 2 dL_moves_167 ic_2 ?_
            refine es_icmp_neN (pc := 168) 189 dL_moves_168 (by decide) (by omega) (by omega) (fun c168 => ?_) (fun c168 => ?_)
            · refine es_iload_n (pc := 189) dL_moves_189 rfl ?_
              refine es_iconstN (pc := 190) 3 dL_moves_190 ic_3 ?_
              refine es_icmp_neN (pc := 191) 256 dL_moves_191 (by decide) (by omega) (by omega) (fun c191 => ?_) (fun c191 => ?_)
              · exact absurd c191 (by decide)
              · refine es_iload (pc := 194) dL_moves_194 rfl ?_
                refine es_iload (pc := 196) dL_moves_196 rfl ?_
                refine es_icmp_eqN (pc := 198) 205 dL_moves_198 (by decide) (by omega) (by omega) (fun c198 => ?_) (fun c198 => ?_)
                · refine es_iload (pc := 205) dL_moves_205 rfl ?_
                  refine es_iload (pc := 207) dL_moves_207 rfl ?_
                  refine es_icmp_neN (pc := 209) 217 dL_moves_209 (by decide) (by omega) (by omega) (fun c209 => ?_) (fun c209 => ?_)
                  · refine es_aload_n (pc := 217) dL_moves_217 rfl ?_
                    refine es_iload (pc := 218) dL_moves_218 rfl ?_
                    refine es_aload_n (pc := 220) dL_moves_220 rfl ?_
                    refine es_iload (pc := 221) dL_moves_221 rfl ?_
                    refine es_iconstN (pc := 223) 0 dL_moves_223 ic_0 ?_
                    refine es_cv2_p (pc := 224) dL_moves_224 mr_9_31 rfl rfl (by decide) (by decide) rfl (Nat.le_of_ble_eq_true rfl) (Nat.zero_le _) (P_at hR hW) ?_
                    refine es_cs3_p (pc := 227) dL_moves_227 mr_9_27 rfl rfl rfl (Nat.le_of_ble_eq_true rfl) (Nat.zero_le _) (L_sees_ok hR hW (ha := ha) (hb := hb)) ?_
                    refine es_if_neB (pc := 230) 237 dL_moves_230 (by decide) (fun c230 => ?_) (fun c230 => ?_)
                    · refine es_iload (pc := 237) dL_moves_237 rfl ?_
                      refine es_aload_n (pc := 239) dL_moves_239 rfl ?_
                      refine es_iconstN (pc := 240) 3 dL_moves_240 ic_3 ?_
                      refine es_cv1_p (pc := 241) dL_moves_241 mr_9_15 rfl rfl (by decide) (by decide) rfl (Nat.le_of_ble_eq_true rfl) (Nat.zero_le _) (G_setting hR hW) ?_
                      refine es_icmp_le (pc := 244) (tgt := 252) dL_moves_244 (by decide) (fun c244 => ?_) (fun c244 => ?_)
                      · refine es_iconstN (pc := 252) 0 dL_moves_252 ic_0 ?_
                        refine es_goto (pc := 253) (tgt := 257) dL_moves_253 (by decide) ?_
                        refine es_top (tg_0 c198 c209 c230 c244) ?_
                        refine es_istore (pc := 257) dL_moves_257 (ok1_17 rfl) ?_
                        dsimp only [List.set]
                        refine es_iload_n (pc := 259) dL_moves_259 rfl ?_
                        refine es_iconstN (pc := 260) 1 dL_moves_260 ic_1 ?_
                        refine es_icmp_neN (pc := 261) 274 dL_moves_261 (by decide) (by omega) (by omega) (fun c261 => ?_) (fun c261 => ?_)
                        · refine es_iload_n (pc := 274) dL_moves_274 rfl ?_
                          refine es_iconstN (pc := 275) 2 dL_moves_275 ic_2 ?_
                          refine es_icmp_neN (pc := 276) 287 dL_moves_276 (by decide) (by omega) (by omega) (fun c276 => ?_) (fun c276 => ?_)
                          · refine es_iconstN (pc := 287) 0 dL_moves_287 ic_0 ?_
                            refine es_istore (pc := 288) dL_moves_288 (ok1_18 rfl) ?_
                            dsimp only [List.set]
                            refine es_iload_n (pc := 290) dL_moves_290 rfl ?_
                            refine es_if_ne (pc := 291) (tgt := 301) dL_moves_291 (by decide) (fun c291 => ?_) (fun c291 => ?_)
                            · refine es_iload_n (pc := 301) dL_moves_301 rfl ?_
                              refine es_iconstN (pc := 302) 1 dL_moves_302 ic_1 ?_
                              refine es_icmp_neN (pc := 303) 314 dL_moves_303 (by decide) (by omega) (by omega) (fun c303 => ?_) (fun c303 => ?_)
                              · refine es_iload_n (pc := 314) dL_moves_314 rfl ?_
                                refine es_iconstN (pc := 315) 2 dL_moves_315 ic_2 ?_
                                refine es_icmp_neN (pc := 316) 326 dL_moves_316 (by decide) (by omega) (by omega) (fun c316 => ?_) (fun c316 => ?_)
                                · refine es_aload_n (pc := 326) dL_moves_326 rfl ?_
                                  refine es_iload (pc := 327) dL_moves_327 rfl ?_
                                  refine es_cv1_i (pc := 329) dL_moves_329 mr_9_56 rfl rfl (by decide) (by decide) rfl (Nat.le_of_ble_eq_true rfl) (Nat.zero_le _) (O_tag hR hW hv) (fun x329 μ329 h329 => ?_)
                                  obtain ⟨rfl, hR2⟩ := h329
                                  rw [← hS2] at hR2
                                  refine es_istore (pc := 332) dL_moves_332 (ok1_19 rfl) ?_
                                  dsimp only [List.set]
                                  refine es_iload (pc := 334) dL_moves_334 rfl ?_
                                  refine es_if_eq (pc := 336) (tgt := 430) dL_moves_336 (by decide) (fun c336 => ?_) (fun c336 => ?_)
                                  · obtain ⟨R, hRR⟩ : ∃ q : gm_R, q = (gm_tag S.1 (rOn S.1) to) := ⟨_, rfl⟩
                                    have e2 : S2.1 = gm_ends R (rP S.1) (rOn S.1) := by rw [hS2, hRR]; exact tg_r c336
                                    obtain ⟨r0, r1, r2, r6, rTT, q7, q8, q6, rQ, qk⟩ := mv_tag (r := S.1) (tagw_ne c336).2 hRR
                                    have rT := rTT _ ha
                                    obtain ⟨m0, m1, m2, m6, mT, m5, m7, m8, mi, mq, mk⟩ := mv_endq ho e2
                                    have k0 : S2.1 0 = R 0 := mk 0 (by decide)
                                    refine es_iload (pc := 430) dL_moves_430 rfl ?_
                                    refine es_iload (pc := 432) dL_moves_432 rfl ?_
                                    refine es_isub (pc := 434) dL_moves_434 ?_
                                    refine es_top ((show _ = R (31 + 7 * rOn S.1 + 2) from by rw [r2, nI_0]; exact Int32.sub_zero _)) ?_
                                    refine es_istore (pc := 435) dL_moves_435 (ok1_7 rfl) ?_
                                    dsimp only [List.set]
                                    refine es_iload (pc := 437) dL_moves_437 rfl ?_
                                    refine es_iconstN (pc := 439) 2 dL_moves_439 ic_2 ?_
                                    refine es_idiv (pc := 440) dL_moves_440 (by decide) ?_
                                    refine es_istore (pc := 441) dL_moves_441 (ok1_20 rfl) ?_
                                    dsimp only [List.set]
                                    refine es_iload (pc := 443) dL_moves_443 rfl ?_
                                    refine es_iload_n (pc := 445) dL_moves_445 rfl ?_
                                    refine es_iconstN (pc := 446) 1 dL_moves_446 ic_1 ?_
                                    refine es_icmp_neN (pc := 447) 455 dL_moves_447 (by decide) (by omega) (by omega) (fun c447 => ?_) (fun c447 => ?_)
                                    · refine es_iload_n (pc := 455) dL_moves_455 rfl ?_
                                      refine es_iconstN (pc := 456) 3 dL_moves_456 ic_3 ?_
                                      refine es_icmp_neN (pc := 457) 465 dL_moves_457 (by decide) (by omega) (by omega) (fun c457 => ?_) (fun c457 => ?_)
                                      · exact absurd c457 (by decide)
                                      · refine es_iload (pc := 460) dL_moves_460 rfl ?_
                                        refine es_goto (pc := 462) (tgt := 466) dL_moves_462 (by decide) ?_
                                        refine es_iadd (pc := 466) dL_moves_466 ?_
                                        refine es_top ((show _ = R (31 + 7 * rOn S.1 + 1) from r1.symm)) ?_
                                        refine es_istore (pc := 467) dL_moves_467 (ok1_6 rfl) ?_
                                        dsimp only [List.set]
                                        refine es_iload_n (pc := 469) dL_moves_469 rfl ?_
                                        refine es_iconstN (pc := 470) 2 dL_moves_470 ic_2 ?_
                                        refine es_icmp_neN (pc := 471) 486 dL_moves_471 (by decide) (by omega) (by omega) (fun c471 => ?_) (fun c471 => ?_)
                                        · refine es_iload (pc := 486) dL_moves_486 rfl ?_
                                          refine es_aload_n (pc := 488) dL_moves_488 rfl ?_
                                          refine es_iconstN (pc := 489) 0 dL_moves_489 ic_0 ?_
                                          refine es_cv1_p (pc := 490) dL_moves_490 mr_9_15 rfl rfl (by decide) (by decide) rfl (Nat.le_of_ble_eq_true rfl) (Nat.zero_le _) (G_setting hR2 hW2) ?_
                                          refine es_icmp_ge (pc := 493) (tgt := 501) dL_moves_493 (by decide) (fun c493 => ?_) (fun c493 => ?_)
                                          · refine es_aload_n (pc := 501) dL_moves_501 rfl ?_
                                            refine es_iconstN (pc := 502) 0 dL_moves_502 ic_0 ?_
                                            refine es_cv1_p (pc := 503) dL_moves_503 mr_9_15 rfl rfl (by decide) (by decide) rfl (Nat.le_of_ble_eq_true rfl) (Nat.zero_le _) (G_setting hR2 hW2) ?_
                                            refine es_top (run_b k0 c493) ?_
                                            refine es_istore (pc := 506) dL_moves_506 (ok1_21 rfl) ?_
                                            dsimp only [List.set]
                                            refine es_iload (pc := 508) dL_moves_508 rfl ?_
                                            refine es_iload_n (pc := 510) dL_moves_510 rfl ?_
                                            refine es_if_ne (pc := 511) (tgt := 519) dL_moves_511 (by decide) (fun c511 => ?_) (fun c511 => ?_)
                                            · refine es_iconstN (pc := 519) 0 dL_moves_519 ic_0 ?_
                                              refine es_icmp_ne (pc := 520) (tgt := 594) dL_moves_520 (by decide) (fun c520 => ?_) (fun c520 => ?_)
                                              · exact absurd (c336.trans nI_0.symm) c520
                                              · refine es_aload_n (pc := 523) dL_moves_523 rfl ?_
                                                refine es_iload (pc := 524) dL_moves_524 rfl ?_
                                                refine es_iconstN (pc := 526) 0 dL_moves_526 ic_0 ?_
                                                refine es_cv2_p (pc := 527) dL_moves_527 mr_9_31 rfl rfl (by decide) (by decide) rfl (Nat.le_of_ble_eq_true rfl) (Nat.zero_le _) (G_playerOf hR2 hW2 (hp := by omega)) ?_
                                                refine es_iload_n (pc := 530) dL_moves_530 rfl ?_
                                                refine es_iconstN (pc := 531) 1 dL_moves_531 ic_1 ?_
                                                refine es_icmp_neN (pc := 532) 539 dL_moves_532 (by decide) (by omega) (by omega) (fun c532 => ?_) (fun c532 => ?_)
                                                · refine es_iload (pc := 539) dL_moves_539 rfl ?_
                                                  refine es_icmp_ne (pc := 541) (tgt := 594) dL_moves_541 (by decide) (fun c541 => ?_) (fun c541 => ?_)
                                                  · exact absurd ((m0.trans r0).trans (wf_at hW.1 hon4).1) c541
                                                  · refine es_aload_n (pc := 544) dL_moves_544 rfl ?_
                                                    refine es_iload (pc := 545) dL_moves_545 rfl ?_
                                                    refine es_iconstN (pc := 547) 1 dL_moves_547 ic_1 ?_
                                                    refine es_cv2_p (pc := 548) dL_moves_548 mr_9_31 rfl rfl (by decide) (by decide) rfl (Nat.le_of_ble_eq_true rfl) (Nat.zero_le _) (G_playerOf hR2 hW2 (hp := by omega)) ?_
                                                    refine es_iload (pc := 551) dL_moves_551 rfl ?_
                                                    refine es_iload (pc := 553) dL_moves_553 rfl ?_
                                                    refine es_isub (pc := 555) dL_moves_555 ?_
                                                    refine es_icmp_ne (pc := 556) (tgt := 594) dL_moves_556 (by decide) (fun c556 => ?_) (fun c556 => ?_)
                                                    · exact absurd m1 c556
                                                    · refine es_aload_n (pc := 559) dL_moves_559 rfl ?_
                                                      refine es_iload (pc := 560) dL_moves_560 rfl ?_
                                                      refine es_iconstN (pc := 562) 2 dL_moves_562 ic_2 ?_
                                                      refine es_cv2_p (pc := 563) dL_moves_563 mr_9_31 rfl rfl (by decide) (by decide) rfl (Nat.le_of_ble_eq_true rfl) (Nat.zero_le _) (G_playerOf hR2 hW2 (hp := by omega)) ?_
                                                      refine es_iload (pc := 566) dL_moves_566 rfl ?_
                                                      refine es_iload (pc := 568) dL_moves_568 rfl ?_
                                                      refine es_iadd (pc := 570) dL_moves_570 ?_
                                                      refine es_icmp_ne (pc := 571) (tgt := 594) dL_moves_571 (by decide) (fun c571 => ?_) (fun c571 => ?_)
                                                      · exact absurd m2 c571
                                                      · refine es_aload_n (pc := 574) dL_moves_574 rfl ?_
                                                        refine es_iload (pc := 575) dL_moves_575 rfl ?_
                                                        refine es_bipushN (pc := 577) 7 dL_moves_577 bp_7 ?_
                                                        refine es_cv2_p (pc := 579) dL_moves_579 mr_9_31 rfl rfl (by decide) (by decide) rfl (Nat.le_of_ble_eq_true rfl) (Nat.zero_le _) (G_playerOf hR2 hW2 (hp := by omega)) ?_
                                                        refine es_iload (pc := 582) dL_moves_582 rfl ?_
                                                        refine es_iload (pc := 584) dL_moves_584 rfl ?_
                                                        refine es_iadd (pc := 586) dL_moves_586 ?_
                                                        refine es_icmp_ne (pc := 587) (tgt := 594) dL_moves_587 (by decide) (fun c587 => ?_) (fun c587 => ?_)
                                                        · exact absurd ((m6.trans r6).trans (by rw [nI_0]; exact (Int32.add_zero _).symm)) c587
                                                        · refine es_iconstN (pc := 590) 1 dL_moves_590 ic_1 ?_
                                                          refine es_goto (pc := 591) (tgt := 595) dL_moves_591 (by decide) ?_
                                                          refine es_istore (pc := 595) dL_moves_595 (ok1_22 rfl) ?_
                                                          dsimp only [List.set]
                                                          refine es_iload (pc := 597) dL_moves_597 rfl ?_
                                                          refine es_if_eq (pc := 599) (tgt := 671) dL_moves_599 (by decide) (fun c599 => ?_) (fun c599 => ?_)
                                                          · exact absurd c599 (by decide)
                                                          · refine es_aload_n (pc := 602) dL_moves_602 rfl ?_
                                                            refine es_iload (pc := 603) dL_moves_603 rfl ?_
                                                            refine es_iconstN (pc := 605) 1 dL_moves_605 ic_1 ?_
                                                            refine es_cv2_p (pc := 606) dL_moves_606 mr_9_9 rfl rfl (by decide) (by decide) rfl (Nat.le_of_ble_eq_true rfl) (Nat.zero_le _) (G_tower hR2 hW2) ?_
                                                            refine es_iload (pc := 609) dL_moves_609 rfl ?_
                                                            refine es_iload (pc := 611) dL_moves_611 rfl ?_
                                                            refine es_iadd (pc := 613) dL_moves_613 ?_
                                                            refine es_icmp_ne (pc := 614) (tgt := 671) dL_moves_614 (by decide) (fun c614 => ?_) (fun c614 => ?_)
                                                            · exact absurd ((mT _ ha).trans (rT.trans (by rw [nI_0]; exact (Int32.add_zero _).symm))) c614
                                                            · refine es_iload_n (pc := 617) dL_moves_617 rfl ?_
                                                              refine es_iconstN (pc := 618) 1 dL_moves_618 ic_1 ?_
                                                              refine es_icmp_neN (pc := 619) 631 dL_moves_619 (by decide) (by omega) (by omega) (fun c619 => ?_) (fun c619 => ?_)
                                                              · refine es_aload_n (pc := 631) dL_moves_631 rfl ?_
                                                                refine es_iconstN (pc := 632) 1 dL_moves_632 ic_1 ?_
                                                                refine es_cv1_p (pc := 633) dL_moves_633 mr_9_24 rfl rfl (by decide) (by decide) rfl (Nat.le_of_ble_eq_true rfl) (Nat.zero_le _) (G_count hR2 hW2) ?_
                                                                refine es_iload (pc := 636) dL_moves_636 rfl ?_
                                                                refine es_iconstN (pc := 638) 1 dL_moves_638 ic_1 ?_
                                                                refine es_iaddN (pc := 639) dL_moves_639 ?_
                                                                refine es_iload_n (pc := 640) dL_moves_640 rfl ?_
                                                                refine es_iremN (pc := 641) dL_moves_641 (by omega) (by omega) (by omega) ?_
                                                                refine es_icmp_ne (pc := 642) (tgt := 671) dL_moves_642 (by decide) (fun c642 => ?_) (fun c642 => ?_)
                                                                · exact absurd (s_c1 hW2 (by omega) m5) c642
                                                                · refine es_aload_n (pc := 645) dL_moves_645 rfl ?_
                                                                  refine es_iconstN (pc := 646) 3 dL_moves_646 ic_3 ?_
                                                                  refine es_cv1_p (pc := 647) dL_moves_647 mr_9_24 rfl rfl (by decide) (by decide) rfl (Nat.le_of_ble_eq_true rfl) (Nat.zero_le _) (G_count hR2 hW2) ?_
                                                                  refine es_iload (pc := 650) dL_moves_650 rfl ?_
                                                                  refine es_iconstN (pc := 652) 1 dL_moves_652 ic_1 ?_
                                                                  refine es_iadd (pc := 653) dL_moves_653 ?_
                                                                  refine es_icmp_ne (pc := 654) (tgt := 671) dL_moves_654 (by decide) (fun c654 => ?_) (fun c654 => ?_)
                                                                  · exact absurd (m7.trans (by rw [q7]; rfl)) c654
                                                                  · refine es_aload_n (pc := 657) dL_moves_657 rfl ?_
                                                                    refine es_iconstN (pc := 658) 4 dL_moves_658 ic_4 ?_
                                                                    refine es_cv1_p (pc := 659) dL_moves_659 mr_9_24 rfl rfl (by decide) (by decide) rfl (Nat.le_of_ble_eq_true rfl) (Nat.zero_le _) (G_count hR2 hW2) ?_
                                                                    refine es_iload (pc := 662) dL_moves_662 rfl ?_
                                                                    refine es_icmp_ne (pc := 664) (tgt := 671) dL_moves_664 (by decide) (fun c664 => ?_) (fun c664 => ?_)
                                                                    · exact absurd (m8.trans q8) c664
                                                                    · refine es_iconstN (pc := 667) 1 dL_moves_667 ic_1 ?_
                                                                      refine es_goto (pc := 668) (tgt := 672) dL_moves_668 (by decide) ?_
                                                                      refine es_istore (pc := 672) dL_moves_672 (ok1_22 rfl) ?_
                                                                      dsimp only [List.set]
                                                                      refine es_iload (pc := 674) dL_moves_674 rfl ?_
                                                                      refine es_if_eq (pc := 676) (tgt := 723) dL_moves_676 (by decide) (fun c676 => ?_) (fun c676 => ?_)
                                                                      · exact absurd c676 (by decide)
                                                                      · refine es_aload_n (pc := 679) dL_moves_679 rfl ?_
                                                                        refine es_iconstN (pc := 680) 2 dL_moves_680 ic_2 ?_
                                                                        refine es_cv1_p (pc := 681) dL_moves_681 mr_9_24 rfl rfl (by decide) (by decide) rfl (Nat.le_of_ble_eq_true rfl) (Nat.zero_le _) (G_count hR2 hW2) ?_
                                                                        refine es_iload_n (pc := 684) dL_moves_684 rfl ?_
                                                                        refine es_iconstN (pc := 685) 3 dL_moves_685 ic_3 ?_
                                                                        refine es_icmp_neN (pc := 686) 694 dL_moves_686 (by decide) (by omega) (by omega) (fun c686 => ?_) (fun c686 => ?_)
                                                                        · exact absurd c686 (by decide)
                                                                        · refine es_iload (pc := 689) dL_moves_689 rfl ?_
                                                                          refine es_goto (pc := 691) (tgt := 696) dL_moves_691 (by decide) ?_
                                                                          refine es_icmp_ne (pc := 696) (tgt := 723) dL_moves_696 (by decide) (fun c696 => ?_) (fun c696 => ?_)
                                                                          · exact absurd (s_c2 hW2 (by omega) (mi.trans q6)) c696
                                                                          · refine es_iload_n (pc := 699) dL_moves_699 rfl ?_
                                                                            refine es_iconstN (pc := 700) 3 dL_moves_700 ic_3 ?_
                                                                            refine es_icmp_neN (pc := 701) 719 dL_moves_701 (by decide) (by omega) (by omega) (fun c701 => ?_) (fun c701 => ?_)
                                                                            · exact absurd c701 (by decide)
                                                                            · refine es_aload_n (pc := 704) dL_moves_704 rfl ?_
                                                                              refine es_iload (pc := 705) dL_moves_705 rfl ?_
                                                                              refine es_iconstN (pc := 707) 2 dL_moves_707 ic_2 ?_
                                                                              refine es_cv2_p (pc := 708) dL_moves_708 mr_9_31 rfl rfl (by decide) (by decide) rfl (Nat.le_of_ble_eq_true rfl) (Nat.zero_le _) (G_playerOf hR2 hW2 (hp := by omega)) ?_
                                                                              refine es_iload (pc := 711) dL_moves_711 rfl ?_
                                                                              refine es_iload (pc := 713) dL_moves_713 rfl ?_
                                                                              refine es_isub (pc := 715) dL_moves_715 ?_
                                                                              refine es_icmp_ne (pc := 716) (tgt := 723) dL_moves_716 (by decide) (fun c716 => ?_) (fun c716 => ?_)
                                                                              · exact absurd ((mq to (fun q => (tagw_ne c336).2 q.symm)).trans rQ) c716
                                                                              · refine es_iconstN (pc := 719) 1 dL_moves_719 ic_1 ?_
                                                                                refine es_goto (pc := 720) (tgt := 724) dL_moves_720 (by decide) ?_
                                                                                refine es_ireturn (pc := 724) dL_moves_724 rfl (rfl) (by decide) ?_
                                                                                exact ⟨_, rfl, rfl, by rw [← hS2]; exact hR2⟩
                                                              · exact absurd c619 (by decide)
                                                · exact absurd c532 (by decide)
                                            · exact absurd c511 (by decide)
                                          · refine es_iload (pc := 496) dL_moves_496 rfl ?_
                                            refine es_goto (pc := 498) (tgt := 506) dL_moves_498 (by decide) ?_
                                            refine es_top (run_a k0 c493) ?_
                                            refine es_istore (pc := 506) dL_moves_506 (ok1_21 rfl) ?_
                                            dsimp only [List.set]
                                            refine es_iload (pc := 508) dL_moves_508 rfl ?_
                                            refine es_iload_n (pc := 510) dL_moves_510 rfl ?_
                                            refine es_if_ne (pc := 511) (tgt := 519) dL_moves_511 (by decide) (fun c511 => ?_) (fun c511 => ?_)
                                            · refine es_iconstN (pc := 519) 0 dL_moves_519 ic_0 ?_
                                              refine es_icmp_ne (pc := 520) (tgt := 594) dL_moves_520 (by decide) (fun c520 => ?_) (fun c520 => ?_)
                                              · exact absurd (c336.trans nI_0.symm) c520
                                              · refine es_aload_n (pc := 523) dL_moves_523 rfl ?_
                                                refine es_iload (pc := 524) dL_moves_524 rfl ?_
                                                refine es_iconstN (pc := 526) 0 dL_moves_526 ic_0 ?_
                                                refine es_cv2_p (pc := 527) dL_moves_527 mr_9_31 rfl rfl (by decide) (by decide) rfl (Nat.le_of_ble_eq_true rfl) (Nat.zero_le _) (G_playerOf hR2 hW2 (hp := by omega)) ?_
                                                refine es_iload_n (pc := 530) dL_moves_530 rfl ?_
                                                refine es_iconstN (pc := 531) 1 dL_moves_531 ic_1 ?_
                                                refine es_icmp_neN (pc := 532) 539 dL_moves_532 (by decide) (by omega) (by omega) (fun c532 => ?_) (fun c532 => ?_)
                                                · refine es_iload (pc := 539) dL_moves_539 rfl ?_
                                                  refine es_icmp_ne (pc := 541) (tgt := 594) dL_moves_541 (by decide) (fun c541 => ?_) (fun c541 => ?_)
                                                  · exact absurd ((m0.trans r0).trans (wf_at hW.1 hon4).1) c541
                                                  · refine es_aload_n (pc := 544) dL_moves_544 rfl ?_
                                                    refine es_iload (pc := 545) dL_moves_545 rfl ?_
                                                    refine es_iconstN (pc := 547) 1 dL_moves_547 ic_1 ?_
                                                    refine es_cv2_p (pc := 548) dL_moves_548 mr_9_31 rfl rfl (by decide) (by decide) rfl (Nat.le_of_ble_eq_true rfl) (Nat.zero_le _) (G_playerOf hR2 hW2 (hp := by omega)) ?_
                                                    refine es_iload (pc := 551) dL_moves_551 rfl ?_
                                                    refine es_iload (pc := 553) dL_moves_553 rfl ?_
                                                    refine es_isub (pc := 555) dL_moves_555 ?_
                                                    refine es_icmp_ne (pc := 556) (tgt := 594) dL_moves_556 (by decide) (fun c556 => ?_) (fun c556 => ?_)
                                                    · exact absurd m1 c556
                                                    · refine es_aload_n (pc := 559) dL_moves_559 rfl ?_
                                                      refine es_iload (pc := 560) dL_moves_560 rfl ?_
                                                      refine es_iconstN (pc := 562) 2 dL_moves_562 ic_2 ?_
                                                      refine es_cv2_p (pc := 563) dL_moves_563 mr_9_31 rfl rfl (by decide) (by decide) rfl (Nat.le_of_ble_eq_true rfl) (Nat.zero_le _) (G_playerOf hR2 hW2 (hp := by omega)) ?_
                                                      refine es_iload (pc := 566) dL_moves_566 rfl ?_
                                                      refine es_iload (pc := 568) dL_moves_568 rfl ?_
                                                      refine es_iadd (pc := 570) dL_moves_570 ?_
                                                      refine es_icmp_ne (pc := 571) (tgt := 594) dL_moves_571 (by decide) (fun c571 => ?_) (fun c571 => ?_)
                                                      · exact absurd m2 c571
                                                      · refine es_aload_n (pc := 574) dL_moves_574 rfl ?_
                                                        refine es_iload (pc := 575) dL_moves_575 rfl ?_
                                                        refine es_bipushN (pc := 577) 7 dL_moves_577 bp_7 ?_
                                                        refine es_cv2_p (pc := 579) dL_moves_579 mr_9_31 rfl rfl (by decide) (by decide) rfl (Nat.le_of_ble_eq_true rfl) (Nat.zero_le _) (G_playerOf hR2 hW2 (hp := by omega)) ?_
                                                        refine es_iload (pc := 582) dL_moves_582 rfl ?_
                                                        refine es_iload (pc := 584) dL_moves_584 rfl ?_
                                                        refine es_iadd (pc := 586) dL_moves_586 ?_
                                                        refine es_icmp_ne (pc := 587) (tgt := 594) dL_moves_587 (by decide) (fun c587 => ?_) (fun c587 => ?_)
                                                        · exact absurd ((m6.trans r6).trans (by rw [nI_0]; exact (Int32.add_zero _).symm)) c587
                                                        · refine es_iconstN (pc := 590) 1 dL_moves_590 ic_1 ?_
                                                          refine es_goto (pc := 591) (tgt := 595) dL_moves_591 (by decide) ?_
                                                          refine es_istore (pc := 595) dL_moves_595 (ok1_22 rfl) ?_
                                                          dsimp only [List.set]
                                                          refine es_iload (pc := 597) dL_moves_597 rfl ?_
                                                          refine es_if_eq (pc := 599) (tgt := 671) dL_moves_599 (by decide) (fun c599 => ?_) (fun c599 => ?_)
                                                          · exact absurd c599 (by decide)
                                                          · refine es_aload_n (pc := 602) dL_moves_602 rfl ?_
                                                            refine es_iload (pc := 603) dL_moves_603 rfl ?_
                                                            refine es_iconstN (pc := 605) 1 dL_moves_605 ic_1 ?_
                                                            refine es_cv2_p (pc := 606) dL_moves_606 mr_9_9 rfl rfl (by decide) (by decide) rfl (Nat.le_of_ble_eq_true rfl) (Nat.zero_le _) (G_tower hR2 hW2) ?_
                                                            refine es_iload (pc := 609) dL_moves_609 rfl ?_
                                                            refine es_iload (pc := 611) dL_moves_611 rfl ?_
                                                            refine es_iadd (pc := 613) dL_moves_613 ?_
                                                            refine es_icmp_ne (pc := 614) (tgt := 671) dL_moves_614 (by decide) (fun c614 => ?_) (fun c614 => ?_)
                                                            · exact absurd ((mT _ ha).trans (rT.trans (by rw [nI_0]; exact (Int32.add_zero _).symm))) c614
                                                            · refine es_iload_n (pc := 617) dL_moves_617 rfl ?_
                                                              refine es_iconstN (pc := 618) 1 dL_moves_618 ic_1 ?_
                                                              refine es_icmp_neN (pc := 619) 631 dL_moves_619 (by decide) (by omega) (by omega) (fun c619 => ?_) (fun c619 => ?_)
                                                              · refine es_aload_n (pc := 631) dL_moves_631 rfl ?_
                                                                refine es_iconstN (pc := 632) 1 dL_moves_632 ic_1 ?_
                                                                refine es_cv1_p (pc := 633) dL_moves_633 mr_9_24 rfl rfl (by decide) (by decide) rfl (Nat.le_of_ble_eq_true rfl) (Nat.zero_le _) (G_count hR2 hW2) ?_
                                                                refine es_iload (pc := 636) dL_moves_636 rfl ?_
                                                                refine es_iconstN (pc := 638) 1 dL_moves_638 ic_1 ?_
                                                                refine es_iaddN (pc := 639) dL_moves_639 ?_
                                                                refine es_iload_n (pc := 640) dL_moves_640 rfl ?_
                                                                refine es_iremN (pc := 641) dL_moves_641 (by omega) (by omega) (by omega) ?_
                                                                refine es_icmp_ne (pc := 642) (tgt := 671) dL_moves_642 (by decide) (fun c642 => ?_) (fun c642 => ?_)
                                                                · exact absurd (s_c1 hW2 (by omega) m5) c642
                                                                · refine es_aload_n (pc := 645) dL_moves_645 rfl ?_
                                                                  refine es_iconstN (pc := 646) 3 dL_moves_646 ic_3 ?_
                                                                  refine es_cv1_p (pc := 647) dL_moves_647 mr_9_24 rfl rfl (by decide) (by decide) rfl (Nat.le_of_ble_eq_true rfl) (Nat.zero_le _) (G_count hR2 hW2) ?_
                                                                  refine es_iload (pc := 650) dL_moves_650 rfl ?_
                                                                  refine es_iconstN (pc := 652) 1 dL_moves_652 ic_1 ?_
                                                                  refine es_iadd (pc := 653) dL_moves_653 ?_
                                                                  refine es_icmp_ne (pc := 654) (tgt := 671) dL_moves_654 (by decide) (fun c654 => ?_) (fun c654 => ?_)
                                                                  · exact absurd (m7.trans (by rw [q7]; rfl)) c654
                                                                  · refine es_aload_n (pc := 657) dL_moves_657 rfl ?_
                                                                    refine es_iconstN (pc := 658) 4 dL_moves_658 ic_4 ?_
                                                                    refine es_cv1_p (pc := 659) dL_moves_659 mr_9_24 rfl rfl (by decide) (by decide) rfl (Nat.le_of_ble_eq_true rfl) (Nat.zero_le _) (G_count hR2 hW2) ?_
                                                                    refine es_iload (pc := 662) dL_moves_662 rfl ?_
                                                                    refine es_icmp_ne (pc := 664) (tgt := 671) dL_moves_664 (by decide) (fun c664 => ?_) (fun c664 => ?_)
                                                                    · exact absurd (m8.trans q8) c664
                                                                    · refine es_iconstN (pc := 667) 1 dL_moves_667 ic_1 ?_
                                                                      refine es_goto (pc := 668) (tgt := 672) dL_moves_668 (by decide) ?_
                                                                      refine es_istore (pc := 672) dL_moves_672 (ok1_22 rfl) ?_
                                                                      dsimp only [List.set]
                                                                      refine es_iload (pc := 674) dL_moves_674 rfl ?_
                                                                      refine es_if_eq (pc := 676) (tgt := 723) dL_moves_676 (by decide) (fun c676 => ?_) (fun c676 => ?_)
                                                                      · exact absurd c676 (by decide)
                                                                      · refine es_aload_n (pc := 679) dL_moves_679 rfl ?_
                                                                        refine es_iconstN (pc := 680) 2 dL_moves_680 ic_2 ?_
                                                                        refine es_cv1_p (pc := 681) dL_moves_681 mr_9_24 rfl rfl (by decide) (by decide) rfl (Nat.le_of_ble_eq_true rfl) (Nat.zero_le _) (G_count hR2 hW2) ?_
                                                                        refine es_iload_n (pc := 684) dL_moves_684 rfl ?_
                                                                        refine es_iconstN (pc := 685) 3 dL_moves_685 ic_3 ?_
                                                                        refine es_icmp_neN (pc := 686) 694 dL_moves_686 (by decide) (by omega) (by omega) (fun c686 => ?_) (fun c686 => ?_)
                                                                        · exact absurd c686 (by decide)
                                                                        · refine es_iload (pc := 689) dL_moves_689 rfl ?_
                                                                          refine es_goto (pc := 691) (tgt := 696) dL_moves_691 (by decide) ?_
                                                                          refine es_icmp_ne (pc := 696) (tgt := 723) dL_moves_696 (by decide) (fun c696 => ?_) (fun c696 => ?_)
                                                                          · exact absurd (s_c2 hW2 (by omega) (mi.trans q6)) c696
                                                                          · refine es_iload_n (pc := 699) dL_moves_699 rfl ?_
                                                                            refine es_iconstN (pc := 700) 3 dL_moves_700 ic_3 ?_
                                                                            refine es_icmp_neN (pc := 701) 719 dL_moves_701 (by decide) (by omega) (by omega) (fun c701 => ?_) (fun c701 => ?_)
                                                                            · exact absurd c701 (by decide)
                                                                            · refine es_aload_n (pc := 704) dL_moves_704 rfl ?_
                                                                              refine es_iload (pc := 705) dL_moves_705 rfl ?_
                                                                              refine es_iconstN (pc := 707) 2 dL_moves_707 ic_2 ?_
                                                                              refine es_cv2_p (pc := 708) dL_moves_708 mr_9_31 rfl rfl (by decide) (by decide) rfl (Nat.le_of_ble_eq_true rfl) (Nat.zero_le _) (G_playerOf hR2 hW2 (hp := by omega)) ?_
                                                                              refine es_iload (pc := 711) dL_moves_711 rfl ?_
                                                                              refine es_iload (pc := 713) dL_moves_713 rfl ?_
                                                                              refine es_isub (pc := 715) dL_moves_715 ?_
                                                                              refine es_icmp_ne (pc := 716) (tgt := 723) dL_moves_716 (by decide) (fun c716 => ?_) (fun c716 => ?_)
                                                                              · exact absurd ((mq to (fun q => (tagw_ne c336).2 q.symm)).trans rQ) c716
                                                                              · refine es_iconstN (pc := 719) 1 dL_moves_719 ic_1 ?_
                                                                                refine es_goto (pc := 720) (tgt := 724) dL_moves_720 (by decide) ?_
                                                                                refine es_ireturn (pc := 724) dL_moves_724 rfl (rfl) (by decide) ?_
                                                                                exact ⟨_, rfl, rfl, by rw [← hS2]; exact hR2⟩
                                                              · exact absurd c619 (by decide)
                                                · exact absurd c532 (by decide)
                                            · exact absurd c511 (by decide)
                                        · exact absurd c471 (by decide)
                                    · exact absurd c447 (by decide)
                                  · exact absurd (tg_0 c198 c209 c230 c244).symm c336
                                · exact absurd c316 (by decide)
                              · exact absurd c303 (by decide)
                            · exact absurd c291 (by decide)
                          · exact absurd c276 (by decide)
                        · exact absurd c261 (by decide)
                      · refine es_bipushN (pc := 247) 7 dL_moves_247 bp_7 ?_
                        refine es_goto (pc := 249) (tgt := 257) dL_moves_249 (by decide) ?_
                        refine es_top (tg_7 c198 c209 c230 c244) ?_
                        refine es_istore (pc := 257) dL_moves_257 (ok1_17 rfl) ?_
                        dsimp only [List.set]
                        refine es_iload_n (pc := 259) dL_moves_259 rfl ?_
                        refine es_iconstN (pc := 260) 1 dL_moves_260 ic_1 ?_
                        refine es_icmp_neN (pc := 261) 274 dL_moves_261 (by decide) (by omega) (by omega) (fun c261 => ?_) (fun c261 => ?_)
                        · refine es_iload_n (pc := 274) dL_moves_274 rfl ?_
                          refine es_iconstN (pc := 275) 2 dL_moves_275 ic_2 ?_
                          refine es_icmp_neN (pc := 276) 287 dL_moves_276 (by decide) (by omega) (by omega) (fun c276 => ?_) (fun c276 => ?_)
                          · refine es_iconstN (pc := 287) 0 dL_moves_287 ic_0 ?_
                            refine es_istore (pc := 288) dL_moves_288 (ok1_18 rfl) ?_
                            dsimp only [List.set]
                            refine es_iload_n (pc := 290) dL_moves_290 rfl ?_
                            refine es_if_ne (pc := 291) (tgt := 301) dL_moves_291 (by decide) (fun c291 => ?_) (fun c291 => ?_)
                            · refine es_iload_n (pc := 301) dL_moves_301 rfl ?_
                              refine es_iconstN (pc := 302) 1 dL_moves_302 ic_1 ?_
                              refine es_icmp_neN (pc := 303) 314 dL_moves_303 (by decide) (by omega) (by omega) (fun c303 => ?_) (fun c303 => ?_)
                              · refine es_iload_n (pc := 314) dL_moves_314 rfl ?_
                                refine es_iconstN (pc := 315) 2 dL_moves_315 ic_2 ?_
                                refine es_icmp_neN (pc := 316) 326 dL_moves_316 (by decide) (by omega) (by omega) (fun c316 => ?_) (fun c316 => ?_)
                                · refine es_aload_n (pc := 326) dL_moves_326 rfl ?_
                                  refine es_iload (pc := 327) dL_moves_327 rfl ?_
                                  refine es_cv1_i (pc := 329) dL_moves_329 mr_9_56 rfl rfl (by decide) (by decide) rfl (Nat.le_of_ble_eq_true rfl) (Nat.zero_le _) (O_tag hR hW hv) (fun x329 μ329 h329 => ?_)
                                  obtain ⟨rfl, hR2⟩ := h329
                                  rw [← hS2] at hR2
                                  refine es_istore (pc := 332) dL_moves_332 (ok1_19 rfl) ?_
                                  dsimp only [List.set]
                                  refine es_iload (pc := 334) dL_moves_334 rfl ?_
                                  refine es_if_eq (pc := 336) (tgt := 430) dL_moves_336 (by decide) (fun c336 => ?_) (fun c336 => ?_)
                                  · exact absurd ((tg_7 c198 c209 c230 c244).trans c336) (by decide)
                                  · have e2 : S2.1 = gm_ref S.1 := by rw [hS2]; exact tg_f c336
                                    have e : ∀ j, j ≠ 8 → S2.1 j = S.1 j := fun j hj => by rw [e2]; exact upd_ne hj
                                    have e8 : S2.1 8 = S.1 8 + nI 1 := by rw [e2]; exact upd_eq
                                    refine es_iload (pc := 339) dL_moves_339 rfl ?_
                                    refine es_iload (pc := 341) dL_moves_341 rfl ?_
                                    refine es_icmp_ne (pc := 343) (tgt := 428) dL_moves_343 (by decide) (fun c343 => ?_) (fun c343 => ?_)
                                    · exact absurd rfl c343
                                    · refine es_aload_n (pc := 346) dL_moves_346 rfl ?_
                                      refine es_iconstN (pc := 347) 4 dL_moves_347 ic_4 ?_
                                      refine es_cv1_p (pc := 348) dL_moves_348 mr_9_24 rfl rfl (by decide) (by decide) rfl (Nat.le_of_ble_eq_true rfl) (Nat.zero_le _) (G_count hR2 hW2) ?_
                                      refine es_iload (pc := 351) dL_moves_351 rfl ?_
                                      refine es_iconstN (pc := 353) 1 dL_moves_353 ic_1 ?_
                                      refine es_iadd (pc := 354) dL_moves_354 ?_
                                      refine es_icmp_ne (pc := 355) (tgt := 428) dL_moves_355 (by decide) (fun c355 => ?_) (fun c355 => ?_)
                                      · exact absurd e8 c355
                                      · refine es_aload_n (pc := 358) dL_moves_358 rfl ?_
                                        refine es_iconstN (pc := 359) 3 dL_moves_359 ic_3 ?_
                                        refine es_cv1_p (pc := 360) dL_moves_360 mr_9_24 rfl rfl (by decide) (by decide) rfl (Nat.le_of_ble_eq_true rfl) (Nat.zero_le _) (G_count hR2 hW2) ?_
                                        refine es_iload (pc := 363) dL_moves_363 rfl ?_
                                        refine es_icmp_ne (pc := 365) (tgt := 428) dL_moves_365 (by decide) (fun c365 => ?_) (fun c365 => ?_)
                                        · exact absurd (e 7 (by decide)) c365
                                        · refine es_aload_n (pc := 368) dL_moves_368 rfl ?_
                                          refine es_iconstN (pc := 369) 1 dL_moves_369 ic_1 ?_
                                          refine es_cv1_p (pc := 370) dL_moves_370 mr_9_24 rfl rfl (by decide) (by decide) rfl (Nat.le_of_ble_eq_true rfl) (Nat.zero_le _) (G_count hR2 hW2) ?_
                                          refine es_iload (pc := 373) dL_moves_373 rfl ?_
                                          refine es_icmp_ne (pc := 375) (tgt := 428) dL_moves_375 (by decide) (fun c375 => ?_) (fun c375 => ?_)
                                          · exact absurd (s_c1 hW2 (by omega) ((e 5 (by decide)).trans hi5)) c375
                                          · refine es_aload_n (pc := 378) dL_moves_378 rfl ?_
                                            refine es_iload (pc := 379) dL_moves_379 rfl ?_
                                            refine es_iconstN (pc := 381) 0 dL_moves_381 ic_0 ?_
                                            refine es_cv2_p (pc := 382) dL_moves_382 mr_9_31 rfl rfl (by decide) (by decide) rfl (Nat.le_of_ble_eq_true rfl) (Nat.zero_le _) (G_playerOf hR2 hW2 (hp := by omega)) ?_
                                            refine es_iload (pc := 385) dL_moves_385 rfl ?_
                                            refine es_icmp_ne (pc := 387) (tgt := 428) dL_moves_387 (by decide) (fun c387 => ?_) (fun c387 => ?_)
                                            · exact absurd ((e (31 + 7 * rOn S.1) (by omega)).trans (wf_at hW.1 hon4).1) c387
                                            · refine es_aload_n (pc := 390) dL_moves_390 rfl ?_
                                              refine es_iload (pc := 391) dL_moves_391 rfl ?_
                                              refine es_iconstN (pc := 393) 1 dL_moves_393 ic_1 ?_
                                              refine es_cv2_p (pc := 394) dL_moves_394 mr_9_31 rfl rfl (by decide) (by decide) rfl (Nat.le_of_ble_eq_true rfl) (Nat.zero_le _) (G_playerOf hR2 hW2 (hp := by omega)) ?_
                                              refine es_iload (pc := 397) dL_moves_397 rfl ?_
                                              refine es_icmp_ne (pc := 399) (tgt := 428) dL_moves_399 (by decide) (fun c399 => ?_) (fun c399 => ?_)
                                              · exact absurd (e (31 + 7 * rOn S.1 + 1) (by omega)) c399
                                              · refine es_aload_n (pc := 402) dL_moves_402 rfl ?_
                                                refine es_iload (pc := 403) dL_moves_403 rfl ?_
                                                refine es_iconstN (pc := 405) 2 dL_moves_405 ic_2 ?_
                                                refine es_cv2_p (pc := 406) dL_moves_406 mr_9_31 rfl rfl (by decide) (by decide) rfl (Nat.le_of_ble_eq_true rfl) (Nat.zero_le _) (G_playerOf hR2 hW2 (hp := by omega)) ?_
                                                refine es_iload (pc := 409) dL_moves_409 rfl ?_
                                                refine es_icmp_ne (pc := 411) (tgt := 428) dL_moves_411 (by decide) (fun c411 => ?_) (fun c411 => ?_)
                                                · exact absurd (e (31 + 7 * rOn S.1 + 2) (by omega)) c411
                                                · refine es_aload_n (pc := 414) dL_moves_414 rfl ?_
                                                  refine es_iconstN (pc := 415) 2 dL_moves_415 ic_2 ?_
                                                  refine es_cv1_p (pc := 416) dL_moves_416 mr_9_24 rfl rfl (by decide) (by decide) rfl (Nat.le_of_ble_eq_true rfl) (Nat.zero_le _) (G_count hR2 hW2) ?_
                                                  refine es_iload (pc := 419) dL_moves_419 rfl ?_
                                                  refine es_icmp_ne (pc := 421) (tgt := 428) dL_moves_421 (by decide) (fun c421 => ?_) (fun c421 => ?_)
                                                  · exact absurd (s_c2 hW2 (by omega) ((e 6 (by decide)).trans hi2)) c421
                                                  · refine es_iconstN (pc := 424) 1 dL_moves_424 ic_1 ?_
                                                    refine es_goto (pc := 425) (tgt := 429) dL_moves_425 (by decide) ?_
                                                    refine es_ireturn (pc := 429) dL_moves_429 rfl (rfl) (by decide) ?_
                                                    exact ⟨_, rfl, rfl, by rw [← hS2]; exact hR2⟩
                                · exact absurd c316 (by decide)
                              · exact absurd c303 (by decide)
                            · exact absurd c291 (by decide)
                          · exact absurd c276 (by decide)
                        · exact absurd c261 (by decide)
                    · refine es_iconstN (pc := 233) 2 dL_moves_233 ic_2 ?_
                      refine es_goto (pc := 234) (tgt := 257) dL_moves_234 (by decide) ?_
                      refine es_top (tg_2 c198 c209 c230) ?_
                      refine es_istore (pc := 257) dL_moves_257 (ok1_17 rfl) ?_
                      dsimp only [List.set]
                      refine es_iload_n (pc := 259) dL_moves_259 rfl ?_
                      refine es_iconstN (pc := 260) 1 dL_moves_260 ic_1 ?_
                      refine es_icmp_neN (pc := 261) 274 dL_moves_261 (by decide) (by omega) (by omega) (fun c261 => ?_) (fun c261 => ?_)
                      · refine es_iload_n (pc := 274) dL_moves_274 rfl ?_
                        refine es_iconstN (pc := 275) 2 dL_moves_275 ic_2 ?_
                        refine es_icmp_neN (pc := 276) 287 dL_moves_276 (by decide) (by omega) (by omega) (fun c276 => ?_) (fun c276 => ?_)
                        · refine es_iconstN (pc := 287) 0 dL_moves_287 ic_0 ?_
                          refine es_istore (pc := 288) dL_moves_288 (ok1_18 rfl) ?_
                          dsimp only [List.set]
                          refine es_iload_n (pc := 290) dL_moves_290 rfl ?_
                          refine es_if_ne (pc := 291) (tgt := 301) dL_moves_291 (by decide) (fun c291 => ?_) (fun c291 => ?_)
                          · refine es_iload_n (pc := 301) dL_moves_301 rfl ?_
                            refine es_iconstN (pc := 302) 1 dL_moves_302 ic_1 ?_
                            refine es_icmp_neN (pc := 303) 314 dL_moves_303 (by decide) (by omega) (by omega) (fun c303 => ?_) (fun c303 => ?_)
                            · refine es_iload_n (pc := 314) dL_moves_314 rfl ?_
                              refine es_iconstN (pc := 315) 2 dL_moves_315 ic_2 ?_
                              refine es_icmp_neN (pc := 316) 326 dL_moves_316 (by decide) (by omega) (by omega) (fun c316 => ?_) (fun c316 => ?_)
                              · refine es_aload_n (pc := 326) dL_moves_326 rfl ?_
                                refine es_iload (pc := 327) dL_moves_327 rfl ?_
                                refine es_cv1_i (pc := 329) dL_moves_329 mr_9_56 rfl rfl (by decide) (by decide) rfl (Nat.le_of_ble_eq_true rfl) (Nat.zero_le _) (O_tag hR hW hv) (fun x329 μ329 h329 => ?_)
                                obtain ⟨rfl, hR2⟩ := h329
                                rw [← hS2] at hR2
                                refine es_istore (pc := 332) dL_moves_332 (ok1_19 rfl) ?_
                                dsimp only [List.set]
                                refine es_iload (pc := 334) dL_moves_334 rfl ?_
                                refine es_if_eq (pc := 336) (tgt := 430) dL_moves_336 (by decide) (fun c336 => ?_) (fun c336 => ?_)
                                · exact absurd ((tg_2 c198 c209 c230).trans c336) (by decide)
                                · have e2 : S2.1 = gm_ref S.1 := by rw [hS2]; exact tg_f c336
                                  have e : ∀ j, j ≠ 8 → S2.1 j = S.1 j := fun j hj => by rw [e2]; exact upd_ne hj
                                  have e8 : S2.1 8 = S.1 8 + nI 1 := by rw [e2]; exact upd_eq
                                  refine es_iload (pc := 339) dL_moves_339 rfl ?_
                                  refine es_iload (pc := 341) dL_moves_341 rfl ?_
                                  refine es_icmp_ne (pc := 343) (tgt := 428) dL_moves_343 (by decide) (fun c343 => ?_) (fun c343 => ?_)
                                  · exact absurd rfl c343
                                  · refine es_aload_n (pc := 346) dL_moves_346 rfl ?_
                                    refine es_iconstN (pc := 347) 4 dL_moves_347 ic_4 ?_
                                    refine es_cv1_p (pc := 348) dL_moves_348 mr_9_24 rfl rfl (by decide) (by decide) rfl (Nat.le_of_ble_eq_true rfl) (Nat.zero_le _) (G_count hR2 hW2) ?_
                                    refine es_iload (pc := 351) dL_moves_351 rfl ?_
                                    refine es_iconstN (pc := 353) 1 dL_moves_353 ic_1 ?_
                                    refine es_iadd (pc := 354) dL_moves_354 ?_
                                    refine es_icmp_ne (pc := 355) (tgt := 428) dL_moves_355 (by decide) (fun c355 => ?_) (fun c355 => ?_)
                                    · exact absurd e8 c355
                                    · refine es_aload_n (pc := 358) dL_moves_358 rfl ?_
                                      refine es_iconstN (pc := 359) 3 dL_moves_359 ic_3 ?_
                                      refine es_cv1_p (pc := 360) dL_moves_360 mr_9_24 rfl rfl (by decide) (by decide) rfl (Nat.le_of_ble_eq_true rfl) (Nat.zero_le _) (G_count hR2 hW2) ?_
                                      refine es_iload (pc := 363) dL_moves_363 rfl ?_
                                      refine es_icmp_ne (pc := 365) (tgt := 428) dL_moves_365 (by decide) (fun c365 => ?_) (fun c365 => ?_)
                                      · exact absurd (e 7 (by decide)) c365
                                      · refine es_aload_n (pc := 368) dL_moves_368 rfl ?_
                                        refine es_iconstN (pc := 369) 1 dL_moves_369 ic_1 ?_
                                        refine es_cv1_p (pc := 370) dL_moves_370 mr_9_24 rfl rfl (by decide) (by decide) rfl (Nat.le_of_ble_eq_true rfl) (Nat.zero_le _) (G_count hR2 hW2) ?_
                                        refine es_iload (pc := 373) dL_moves_373 rfl ?_
                                        refine es_icmp_ne (pc := 375) (tgt := 428) dL_moves_375 (by decide) (fun c375 => ?_) (fun c375 => ?_)
                                        · exact absurd (s_c1 hW2 (by omega) ((e 5 (by decide)).trans hi5)) c375
                                        · refine es_aload_n (pc := 378) dL_moves_378 rfl ?_
                                          refine es_iload (pc := 379) dL_moves_379 rfl ?_
                                          refine es_iconstN (pc := 381) 0 dL_moves_381 ic_0 ?_
                                          refine es_cv2_p (pc := 382) dL_moves_382 mr_9_31 rfl rfl (by decide) (by decide) rfl (Nat.le_of_ble_eq_true rfl) (Nat.zero_le _) (G_playerOf hR2 hW2 (hp := by omega)) ?_
                                          refine es_iload (pc := 385) dL_moves_385 rfl ?_
                                          refine es_icmp_ne (pc := 387) (tgt := 428) dL_moves_387 (by decide) (fun c387 => ?_) (fun c387 => ?_)
                                          · exact absurd ((e (31 + 7 * rOn S.1) (by omega)).trans (wf_at hW.1 hon4).1) c387
                                          · refine es_aload_n (pc := 390) dL_moves_390 rfl ?_
                                            refine es_iload (pc := 391) dL_moves_391 rfl ?_
                                            refine es_iconstN (pc := 393) 1 dL_moves_393 ic_1 ?_
                                            refine es_cv2_p (pc := 394) dL_moves_394 mr_9_31 rfl rfl (by decide) (by decide) rfl (Nat.le_of_ble_eq_true rfl) (Nat.zero_le _) (G_playerOf hR2 hW2 (hp := by omega)) ?_
                                            refine es_iload (pc := 397) dL_moves_397 rfl ?_
                                            refine es_icmp_ne (pc := 399) (tgt := 428) dL_moves_399 (by decide) (fun c399 => ?_) (fun c399 => ?_)
                                            · exact absurd (e (31 + 7 * rOn S.1 + 1) (by omega)) c399
                                            · refine es_aload_n (pc := 402) dL_moves_402 rfl ?_
                                              refine es_iload (pc := 403) dL_moves_403 rfl ?_
                                              refine es_iconstN (pc := 405) 2 dL_moves_405 ic_2 ?_
                                              refine es_cv2_p (pc := 406) dL_moves_406 mr_9_31 rfl rfl (by decide) (by decide) rfl (Nat.le_of_ble_eq_true rfl) (Nat.zero_le _) (G_playerOf hR2 hW2 (hp := by omega)) ?_
                                              refine es_iload (pc := 409) dL_moves_409 rfl ?_
                                              refine es_icmp_ne (pc := 411) (tgt := 428) dL_moves_411 (by decide) (fun c411 => ?_) (fun c411 => ?_)
                                              · exact absurd (e (31 + 7 * rOn S.1 + 2) (by omega)) c411
                                              · refine es_aload_n (pc := 414) dL_moves_414 rfl ?_
                                                refine es_iconstN (pc := 415) 2 dL_moves_415 ic_2 ?_
                                                refine es_cv1_p (pc := 416) dL_moves_416 mr_9_24 rfl rfl (by decide) (by decide) rfl (Nat.le_of_ble_eq_true rfl) (Nat.zero_le _) (G_count hR2 hW2) ?_
                                                refine es_iload (pc := 419) dL_moves_419 rfl ?_
                                                refine es_icmp_ne (pc := 421) (tgt := 428) dL_moves_421 (by decide) (fun c421 => ?_) (fun c421 => ?_)
                                                · exact absurd (s_c2 hW2 (by omega) ((e 6 (by decide)).trans hi2)) c421
                                                · refine es_iconstN (pc := 424) 1 dL_moves_424 ic_1 ?_
                                                  refine es_goto (pc := 425) (tgt := 429) dL_moves_425 (by decide) ?_
                                                  refine es_ireturn (pc := 429) dL_moves_429 rfl (rfl) (by decide) ?_
                                                  exact ⟨_, rfl, rfl, by rw [← hS2]; exact hR2⟩
                              · exact absurd c316 (by decide)
                            · exact absurd c303 (by decide)
                          · exact absurd c291 (by decide)
                        · exact absurd c276 (by decide)
                      · exact absurd c261 (by decide)
                  · refine es_bipushN (pc := 212) 6 dL_moves_212 bp_6 ?_
                    refine es_goto (pc := 214) (tgt := 257) dL_moves_214 (by decide) ?_
                    refine es_top (tg_6 c198 c209) ?_
                    refine es_istore (pc := 257) dL_moves_257 (ok1_17 rfl) ?_
                    dsimp only [List.set]
                    refine es_iload_n (pc := 259) dL_moves_259 rfl ?_
                    refine es_iconstN (pc := 260) 1 dL_moves_260 ic_1 ?_
                    refine es_icmp_neN (pc := 261) 274 dL_moves_261 (by decide) (by omega) (by omega) (fun c261 => ?_) (fun c261 => ?_)
                    · refine es_iload_n (pc := 274) dL_moves_274 rfl ?_
                      refine es_iconstN (pc := 275) 2 dL_moves_275 ic_2 ?_
                      refine es_icmp_neN (pc := 276) 287 dL_moves_276 (by decide) (by omega) (by omega) (fun c276 => ?_) (fun c276 => ?_)
                      · refine es_iconstN (pc := 287) 0 dL_moves_287 ic_0 ?_
                        refine es_istore (pc := 288) dL_moves_288 (ok1_18 rfl) ?_
                        dsimp only [List.set]
                        refine es_iload_n (pc := 290) dL_moves_290 rfl ?_
                        refine es_if_ne (pc := 291) (tgt := 301) dL_moves_291 (by decide) (fun c291 => ?_) (fun c291 => ?_)
                        · refine es_iload_n (pc := 301) dL_moves_301 rfl ?_
                          refine es_iconstN (pc := 302) 1 dL_moves_302 ic_1 ?_
                          refine es_icmp_neN (pc := 303) 314 dL_moves_303 (by decide) (by omega) (by omega) (fun c303 => ?_) (fun c303 => ?_)
                          · refine es_iload_n (pc := 314) dL_moves_314 rfl ?_
                            refine es_iconstN (pc := 315) 2 dL_moves_315 ic_2 ?_
                            refine es_icmp_neN (pc := 316) 326 dL_moves_316 (by decide) (by omega) (by omega) (fun c316 => ?_) (fun c316 => ?_)
                            · refine es_aload_n (pc := 326) dL_moves_326 rfl ?_
                              refine es_iload (pc := 327) dL_moves_327 rfl ?_
                              refine es_cv1_i (pc := 329) dL_moves_329 mr_9_56 rfl rfl (by decide) (by decide) rfl (Nat.le_of_ble_eq_true rfl) (Nat.zero_le _) (O_tag hR hW hv) (fun x329 μ329 h329 => ?_)
                              obtain ⟨rfl, hR2⟩ := h329
                              rw [← hS2] at hR2
                              refine es_istore (pc := 332) dL_moves_332 (ok1_19 rfl) ?_
                              dsimp only [List.set]
                              refine es_iload (pc := 334) dL_moves_334 rfl ?_
                              refine es_if_eq (pc := 336) (tgt := 430) dL_moves_336 (by decide) (fun c336 => ?_) (fun c336 => ?_)
                              · exact absurd ((tg_6 c198 c209).trans c336) (by decide)
                              · have e2 : S2.1 = gm_ref S.1 := by rw [hS2]; exact tg_f c336
                                have e : ∀ j, j ≠ 8 → S2.1 j = S.1 j := fun j hj => by rw [e2]; exact upd_ne hj
                                have e8 : S2.1 8 = S.1 8 + nI 1 := by rw [e2]; exact upd_eq
                                refine es_iload (pc := 339) dL_moves_339 rfl ?_
                                refine es_iload (pc := 341) dL_moves_341 rfl ?_
                                refine es_icmp_ne (pc := 343) (tgt := 428) dL_moves_343 (by decide) (fun c343 => ?_) (fun c343 => ?_)
                                · exact absurd rfl c343
                                · refine es_aload_n (pc := 346) dL_moves_346 rfl ?_
                                  refine es_iconstN (pc := 347) 4 dL_moves_347 ic_4 ?_
                                  refine es_cv1_p (pc := 348) dL_moves_348 mr_9_24 rfl rfl (by decide) (by decide) rfl (Nat.le_of_ble_eq_true rfl) (Nat.zero_le _) (G_count hR2 hW2) ?_
                                  refine es_iload (pc := 351) dL_moves_351 rfl ?_
                                  refine es_iconstN (pc := 353) 1 dL_moves_353 ic_1 ?_
                                  refine es_iadd (pc := 354) dL_moves_354 ?_
                                  refine es_icmp_ne (pc := 355) (tgt := 428) dL_moves_355 (by decide) (fun c355 => ?_) (fun c355 => ?_)
                                  · exact absurd e8 c355
                                  · refine es_aload_n (pc := 358) dL_moves_358 rfl ?_
                                    refine es_iconstN (pc := 359) 3 dL_moves_359 ic_3 ?_
                                    refine es_cv1_p (pc := 360) dL_moves_360 mr_9_24 rfl rfl (by decide) (by decide) rfl (Nat.le_of_ble_eq_true rfl) (Nat.zero_le _) (G_count hR2 hW2) ?_
                                    refine es_iload (pc := 363) dL_moves_363 rfl ?_
                                    refine es_icmp_ne (pc := 365) (tgt := 428) dL_moves_365 (by decide) (fun c365 => ?_) (fun c365 => ?_)
                                    · exact absurd (e 7 (by decide)) c365
                                    · refine es_aload_n (pc := 368) dL_moves_368 rfl ?_
                                      refine es_iconstN (pc := 369) 1 dL_moves_369 ic_1 ?_
                                      refine es_cv1_p (pc := 370) dL_moves_370 mr_9_24 rfl rfl (by decide) (by decide) rfl (Nat.le_of_ble_eq_true rfl) (Nat.zero_le _) (G_count hR2 hW2) ?_
                                      refine es_iload (pc := 373) dL_moves_373 rfl ?_
                                      refine es_icmp_ne (pc := 375) (tgt := 428) dL_moves_375 (by decide) (fun c375 => ?_) (fun c375 => ?_)
                                      · exact absurd (s_c1 hW2 (by omega) ((e 5 (by decide)).trans hi5)) c375
                                      · refine es_aload_n (pc := 378) dL_moves_378 rfl ?_
                                        refine es_iload (pc := 379) dL_moves_379 rfl ?_
                                        refine es_iconstN (pc := 381) 0 dL_moves_381 ic_0 ?_
                                        refine es_cv2_p (pc := 382) dL_moves_382 mr_9_31 rfl rfl (by decide) (by decide) rfl (Nat.le_of_ble_eq_true rfl) (Nat.zero_le _) (G_playerOf hR2 hW2 (hp := by omega)) ?_
                                        refine es_iload (pc := 385) dL_moves_385 rfl ?_
                                        refine es_icmp_ne (pc := 387) (tgt := 428) dL_moves_387 (by decide) (fun c387 => ?_) (fun c387 => ?_)
                                        · exact absurd ((e (31 + 7 * rOn S.1) (by omega)).trans (wf_at hW.1 hon4).1) c387
                                        · refine es_aload_n (pc := 390) dL_moves_390 rfl ?_
                                          refine es_iload (pc := 391) dL_moves_391 rfl ?_
                                          refine es_iconstN (pc := 393) 1 dL_moves_393 ic_1 ?_
                                          refine es_cv2_p (pc := 394) dL_moves_394 mr_9_31 rfl rfl (by decide) (by decide) rfl (Nat.le_of_ble_eq_true rfl) (Nat.zero_le _) (G_playerOf hR2 hW2 (hp := by omega)) ?_
                                          refine es_iload (pc := 397) dL_moves_397 rfl ?_
                                          refine es_icmp_ne (pc := 399) (tgt := 428) dL_moves_399 (by decide) (fun c399 => ?_) (fun c399 => ?_)
                                          · exact absurd (e (31 + 7 * rOn S.1 + 1) (by omega)) c399
                                          · refine es_aload_n (pc := 402) dL_moves_402 rfl ?_
                                            refine es_iload (pc := 403) dL_moves_403 rfl ?_
                                            refine es_iconstN (pc := 405) 2 dL_moves_405 ic_2 ?_
                                            refine es_cv2_p (pc := 406) dL_moves_406 mr_9_31 rfl rfl (by decide) (by decide) rfl (Nat.le_of_ble_eq_true rfl) (Nat.zero_le _) (G_playerOf hR2 hW2 (hp := by omega)) ?_
                                            refine es_iload (pc := 409) dL_moves_409 rfl ?_
                                            refine es_icmp_ne (pc := 411) (tgt := 428) dL_moves_411 (by decide) (fun c411 => ?_) (fun c411 => ?_)
                                            · exact absurd (e (31 + 7 * rOn S.1 + 2) (by omega)) c411
                                            · refine es_aload_n (pc := 414) dL_moves_414 rfl ?_
                                              refine es_iconstN (pc := 415) 2 dL_moves_415 ic_2 ?_
                                              refine es_cv1_p (pc := 416) dL_moves_416 mr_9_24 rfl rfl (by decide) (by decide) rfl (Nat.le_of_ble_eq_true rfl) (Nat.zero_le _) (G_count hR2 hW2) ?_
                                              refine es_iload (pc := 419) dL_moves_419 rfl ?_
                                              refine es_icmp_ne (pc := 421) (tgt := 428) dL_moves_421 (by decide) (fun c421 => ?_) (fun c421 => ?_)
                                              · exact absurd (s_c2 hW2 (by omega) ((e 6 (by decide)).trans hi2)) c421
                                              · refine es_iconstN (pc := 424) 1 dL_moves_424 ic_1 ?_
                                                refine es_goto (pc := 425) (tgt := 429) dL_moves_425 (by decide) ?_
                                                refine es_ireturn (pc := 429) dL_moves_429 rfl (rfl) (by decide) ?_
                                                exact ⟨_, rfl, rfl, by rw [← hS2]; exact hR2⟩
                            · exact absurd c316 (by decide)
                          · exact absurd c303 (by decide)
                        · exact absurd c291 (by decide)
                      · exact absurd c276 (by decide)
                    · exact absurd c261 (by decide)
                · refine es_iconstN (pc := 201) 5 dL_moves_201 ic_5 ?_
                  refine es_goto (pc := 202) (tgt := 257) dL_moves_202 (by decide) ?_
                  refine es_top (tg_5 (q := to) c198) ?_
                  refine es_istore (pc := 257) dL_moves_257 (ok1_17 rfl) ?_
                  dsimp only [List.set]
                  refine es_iload_n (pc := 259) dL_moves_259 rfl ?_
                  refine es_iconstN (pc := 260) 1 dL_moves_260 ic_1 ?_
                  refine es_icmp_neN (pc := 261) 274 dL_moves_261 (by decide) (by omega) (by omega) (fun c261 => ?_) (fun c261 => ?_)
                  · refine es_iload_n (pc := 274) dL_moves_274 rfl ?_
                    refine es_iconstN (pc := 275) 2 dL_moves_275 ic_2 ?_
                    refine es_icmp_neN (pc := 276) 287 dL_moves_276 (by decide) (by omega) (by omega) (fun c276 => ?_) (fun c276 => ?_)
                    · refine es_iconstN (pc := 287) 0 dL_moves_287 ic_0 ?_
                      refine es_istore (pc := 288) dL_moves_288 (ok1_18 rfl) ?_
                      dsimp only [List.set]
                      refine es_iload_n (pc := 290) dL_moves_290 rfl ?_
                      refine es_if_ne (pc := 291) (tgt := 301) dL_moves_291 (by decide) (fun c291 => ?_) (fun c291 => ?_)
                      · refine es_iload_n (pc := 301) dL_moves_301 rfl ?_
                        refine es_iconstN (pc := 302) 1 dL_moves_302 ic_1 ?_
                        refine es_icmp_neN (pc := 303) 314 dL_moves_303 (by decide) (by omega) (by omega) (fun c303 => ?_) (fun c303 => ?_)
                        · refine es_iload_n (pc := 314) dL_moves_314 rfl ?_
                          refine es_iconstN (pc := 315) 2 dL_moves_315 ic_2 ?_
                          refine es_icmp_neN (pc := 316) 326 dL_moves_316 (by decide) (by omega) (by omega) (fun c316 => ?_) (fun c316 => ?_)
                          · refine es_aload_n (pc := 326) dL_moves_326 rfl ?_
                            refine es_iload (pc := 327) dL_moves_327 rfl ?_
                            refine es_cv1_i (pc := 329) dL_moves_329 mr_9_56 rfl rfl (by decide) (by decide) rfl (Nat.le_of_ble_eq_true rfl) (Nat.zero_le _) (O_tag hR hW hv) (fun x329 μ329 h329 => ?_)
                            obtain ⟨rfl, hR2⟩ := h329
                            rw [← hS2] at hR2
                            refine es_istore (pc := 332) dL_moves_332 (ok1_19 rfl) ?_
                            dsimp only [List.set]
                            refine es_iload (pc := 334) dL_moves_334 rfl ?_
                            refine es_if_eq (pc := 336) (tgt := 430) dL_moves_336 (by decide) (fun c336 => ?_) (fun c336 => ?_)
                            · exact absurd ((tg_5 (q := to) c198).trans c336) (by decide)
                            · have e2 : S2.1 = gm_ref S.1 := by rw [hS2]; exact tg_f c336
                              have e : ∀ j, j ≠ 8 → S2.1 j = S.1 j := fun j hj => by rw [e2]; exact upd_ne hj
                              have e8 : S2.1 8 = S.1 8 + nI 1 := by rw [e2]; exact upd_eq
                              refine es_iload (pc := 339) dL_moves_339 rfl ?_
                              refine es_iload (pc := 341) dL_moves_341 rfl ?_
                              refine es_icmp_ne (pc := 343) (tgt := 428) dL_moves_343 (by decide) (fun c343 => ?_) (fun c343 => ?_)
                              · exact absurd rfl c343
                              · refine es_aload_n (pc := 346) dL_moves_346 rfl ?_
                                refine es_iconstN (pc := 347) 4 dL_moves_347 ic_4 ?_
                                refine es_cv1_p (pc := 348) dL_moves_348 mr_9_24 rfl rfl (by decide) (by decide) rfl (Nat.le_of_ble_eq_true rfl) (Nat.zero_le _) (G_count hR2 hW2) ?_
                                refine es_iload (pc := 351) dL_moves_351 rfl ?_
                                refine es_iconstN (pc := 353) 1 dL_moves_353 ic_1 ?_
                                refine es_iadd (pc := 354) dL_moves_354 ?_
                                refine es_icmp_ne (pc := 355) (tgt := 428) dL_moves_355 (by decide) (fun c355 => ?_) (fun c355 => ?_)
                                · exact absurd e8 c355
                                · refine es_aload_n (pc := 358) dL_moves_358 rfl ?_
                                  refine es_iconstN (pc := 359) 3 dL_moves_359 ic_3 ?_
                                  refine es_cv1_p (pc := 360) dL_moves_360 mr_9_24 rfl rfl (by decide) (by decide) rfl (Nat.le_of_ble_eq_true rfl) (Nat.zero_le _) (G_count hR2 hW2) ?_
                                  refine es_iload (pc := 363) dL_moves_363 rfl ?_
                                  refine es_icmp_ne (pc := 365) (tgt := 428) dL_moves_365 (by decide) (fun c365 => ?_) (fun c365 => ?_)
                                  · exact absurd (e 7 (by decide)) c365
                                  · refine es_aload_n (pc := 368) dL_moves_368 rfl ?_
                                    refine es_iconstN (pc := 369) 1 dL_moves_369 ic_1 ?_
                                    refine es_cv1_p (pc := 370) dL_moves_370 mr_9_24 rfl rfl (by decide) (by decide) rfl (Nat.le_of_ble_eq_true rfl) (Nat.zero_le _) (G_count hR2 hW2) ?_
                                    refine es_iload (pc := 373) dL_moves_373 rfl ?_
                                    refine es_icmp_ne (pc := 375) (tgt := 428) dL_moves_375 (by decide) (fun c375 => ?_) (fun c375 => ?_)
                                    · exact absurd (s_c1 hW2 (by omega) ((e 5 (by decide)).trans hi5)) c375
                                    · refine es_aload_n (pc := 378) dL_moves_378 rfl ?_
                                      refine es_iload (pc := 379) dL_moves_379 rfl ?_
                                      refine es_iconstN (pc := 381) 0 dL_moves_381 ic_0 ?_
                                      refine es_cv2_p (pc := 382) dL_moves_382 mr_9_31 rfl rfl (by decide) (by decide) rfl (Nat.le_of_ble_eq_true rfl) (Nat.zero_le _) (G_playerOf hR2 hW2 (hp := by omega)) ?_
                                      refine es_iload (pc := 385) dL_moves_385 rfl ?_
                                      refine es_icmp_ne (pc := 387) (tgt := 428) dL_moves_387 (by decide) (fun c387 => ?_) (fun c387 => ?_)
                                      · exact absurd ((e (31 + 7 * rOn S.1) (by omega)).trans (wf_at hW.1 hon4).1) c387
                                      · refine es_aload_n (pc := 390) dL_moves_390 rfl ?_
                                        refine es_iload (pc := 391) dL_moves_391 rfl ?_
                                        refine es_iconstN (pc := 393) 1 dL_moves_393 ic_1 ?_
                                        refine es_cv2_p (pc := 394) dL_moves_394 mr_9_31 rfl rfl (by decide) (by decide) rfl (Nat.le_of_ble_eq_true rfl) (Nat.zero_le _) (G_playerOf hR2 hW2 (hp := by omega)) ?_
                                        refine es_iload (pc := 397) dL_moves_397 rfl ?_
                                        refine es_icmp_ne (pc := 399) (tgt := 428) dL_moves_399 (by decide) (fun c399 => ?_) (fun c399 => ?_)
                                        · exact absurd (e (31 + 7 * rOn S.1 + 1) (by omega)) c399
                                        · refine es_aload_n (pc := 402) dL_moves_402 rfl ?_
                                          refine es_iload (pc := 403) dL_moves_403 rfl ?_
                                          refine es_iconstN (pc := 405) 2 dL_moves_405 ic_2 ?_
                                          refine es_cv2_p (pc := 406) dL_moves_406 mr_9_31 rfl rfl (by decide) (by decide) rfl (Nat.le_of_ble_eq_true rfl) (Nat.zero_le _) (G_playerOf hR2 hW2 (hp := by omega)) ?_
                                          refine es_iload (pc := 409) dL_moves_409 rfl ?_
                                          refine es_icmp_ne (pc := 411) (tgt := 428) dL_moves_411 (by decide) (fun c411 => ?_) (fun c411 => ?_)
                                          · exact absurd (e (31 + 7 * rOn S.1 + 2) (by omega)) c411
                                          · refine es_aload_n (pc := 414) dL_moves_414 rfl ?_
                                            refine es_iconstN (pc := 415) 2 dL_moves_415 ic_2 ?_
                                            refine es_cv1_p (pc := 416) dL_moves_416 mr_9_24 rfl rfl (by decide) (by decide) rfl (Nat.le_of_ble_eq_true rfl) (Nat.zero_le _) (G_count hR2 hW2) ?_
                                            refine es_iload (pc := 419) dL_moves_419 rfl ?_
                                            refine es_icmp_ne (pc := 421) (tgt := 428) dL_moves_421 (by decide) (fun c421 => ?_) (fun c421 => ?_)
                                            · exact absurd (s_c2 hW2 (by omega) ((e 6 (by decide)).trans hi2)) c421
                                            · refine es_iconstN (pc := 424) 1 dL_moves_424 ic_1 ?_
                                              refine es_goto (pc := 425) (tgt := 429) dL_moves_425 (by decide) ?_
                                              refine es_ireturn (pc := 429) dL_moves_429 rfl (rfl) (by decide) ?_
                                              exact ⟨_, rfl, rfl, by rw [← hS2]; exact hR2⟩
                          · exact absurd c316 (by decide)
                        · exact absurd c303 (by decide)
                      · exact absurd c291 (by decide)
                    · exact absurd c276 (by decide)
                  · exact absurd c261 (by decide)
            · exact absurd c168 (by decide)
          · exact absurd c153 (by decide)
      · exact absurd c91 (by decide)
