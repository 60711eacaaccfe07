theorem WM.of {μ : ev_M} {r : gm_R} (hg : mR μ = r) (hW : WFr r) : μ 15 4 = nI (rP r) ∧ rP r ≤ 4 ∧ μ 15 5 = nI (rOn r) ∧ rOn r < 4 ∧ μ 15 6 = nI (rIt r) ∧ rIt r < 4 ∧ (∀ p, p < 4 → μ 15 (31 + 7 * p) = nI (rPl r p)) ∧ (∀ p, rPl r p < 10) ∧ (0 < rP r → rOn r < rP r) := by
  obtain ⟨P, on, it, br, s0, s1, s2, s3, hh, sd, pl, ab, bl, ⟨a1, a2, a3, a4, a5, a6, a7, a8, a9⟩, ⟨b1, b2, b3, b4, b5, b6, b7, b8, b9, b10⟩, ⟨c1, c2, c3⟩, ⟨d1, d2, d3, d4, d5⟩, e1, e2, e3⟩ := hW
  have q1 : rP r = P := by unfold rP; rw [b1, cl_nI (by omega)]
  have q2 : rOn r = on := by unfold rOn; rw [b3, cl_nI (by omega)]
  have q3 : rIt r = it := by unfold rIt; rw [b7, cl_nI (by omega)]
  have q4 : ∀ p, p < 4 → rPl r p = pl p := fun p hp => by unfold rPl; rw [d1 p hp, cl_nI (by have := d2 p; omega)]
  refine ⟨?_, by omega, ?_, by omega, ?_, by omega, fun p hp => ?_, fun p => ?_, by rw [q1, q2]; exact b5⟩
  · rw [← mR_r (μ := μ) (by decide), hg, q1, b1]
  · rw [← mR_r (μ := μ) (by decide), hg, q2, b3]
  · rw [← mR_r (μ := μ) (by decide), hg, q3, b7]
  · rw [← mR_r (μ := μ) (by omega), hg, q4 p hp, d1 p hp]
  · by_cases hp : p < 4
    · rw [q4 p hp]; exact d2 p
    · unfold rPl; rw [e3 _ (by omega)]; decide
theorem take_rg {μ μ2 : ev_M} {p : Nat} {r : gm_R} (hg : mR μ = r) (hp : p < 4) (ha : μ 15 (31 + 7 * p) = nI (rPl r p)) (h : μ2 14 9 = μ 15 (31 + 7 * p) ∧ μ2 14 10 = μ 15 (31 + 7 * p + 1) ∧ μ2 14 11 = μ 15 (31 + 7 * p + 2) ∧ (∀ k, k < 10 → μ2 21 k = μ 15 (21 + k)) ∧ (∀ i, i < 9 → μ2 14 i = μ 14 i) ∧ ∀ q, q ≠ 14 → q ≠ 21 → μ2 q = μ q) : RG μ2 (rPl r p) (r (31 + 7 * p + 1)) (r (31 + 7 * p + 2)) (fun k => r (21 + k)) ∧ FG μ μ2 := by
  obtain ⟨h1, h2, h3, h4, h5, h6⟩ := h
  subst hg
  exact ⟨⟨h1.trans ha, by rw [h2, mR_r (by omega)], by rw [h3, mR_r (by omega)], fun k hk => (h4 k hk).trans (mR_r (by omega)).symm⟩, h6, h5⟩
theorem rm_price_m {μ : ev_M} {r : gm_R} {a t : Nat} (h : mR μ = r) (ha : a < 10) (ht : t < 10) : gm_price (μ 15 1) (fun k => μ 15 (11 + k)) a t = gm_price (r 1) (rH r) a t := by
  subst h
  rw [gm_price_cong (fun k hk => mH k hk) ha ht, mR_r (by decide)]
theorem rm_why_m {μ : ev_M} {r : gm_R} {p t : Nat} {bl : Int32} (h : mR μ = r) (ht : t < 10) (ha : rPl r p < 10) (hb : bl = r (31 + 7 * p + 2)) : gm_why (μ 15 1) (fun k => μ 15 (11 + k)) bl (rPl r p) t = rm_why r p t := by
  subst h
  unfold rm_why
  rw [gm_why_cong (fun k hk => mH k hk) ha ht, mR_r (by decide), hb]
theorem rm_tagw_m {μ : ev_M} {r : gm_R} {p q : Nat} (h : mR μ = r) (ha : rPl r p < 10) (hb : rPl r q < 10) : gm_tagw (fun k => μ 15 (11 + k)) (μ 15 3) (rIt r) p q (rPl r p) (rPl r q) = rm_tagw r p q := by
  subst h
  unfold rm_tagw
  rw [gm_tagw_cong (fun k hk => mH k hk) ha hb, mR_r (by decide)]
set_option maxHeartbeats 2000000 in
set_option maxRecDepth 20000 in
theorem X6_waits_ok {d : Nat} {μ : ev_M} (hW : WFr (mR μ)) (h0 : 0 < rP (mR μ)) (hd : 3 ≤ d := by omega) : SPi (ev_CALL d) 112 [.ref 14] μ (fun x μ2 => x = gm_run (mR μ) (rOn (mR μ)) ∧ mR μ2 = rm_wait (mR μ) ∧ FH μ μ2) := by
  obtain ⟨d, rfl⟩ : ∃ q, d = q + 1 := ⟨d - 1, by omega⟩
  refine SPi.of (Nat.le_of_ble_eq_true rfl) ?_
  show es (ev_CALL d) 6 cX6_waits (some .int) 0 (0, fun _ => 0, []) (fun r μ2 => ∃ x9 : Int32, r = (some (.int x9), 0) ∧ (fun x μ2 => x = gm_run (mR μ) (rOn (mR μ)) ∧ mR μ2 = rm_wait (mR μ) ∧ FH μ μ2) x9 μ2) 0 [.ref 14] [] μ 0
  generalize hr : mR μ = r at hW h0 ⊢
  obtain ⟨wP, wP4, won, won4, wit, wit4, wpl, wpb, wlt⟩ := WM.of hr hW
  have wo := wlt h0
  have hpl : ∀ p, p < 4 → r (31 + 7 * p) = nI (rPl r p) := fun p hp => (congrFun hr _).symm.trans ((mR_r (by omega)).trans (wpl p hp))
  refine es_aload_n (pc := 0) dX6_waits_0 rfl ?_
  refine es_aload_n (pc := 1) dX6_waits_1 rfl ?_
  refine es_getR (pc := 2) dX6_waits_2 fr_6_7 fld_14_0 ?_
  refine es_iconstN (pc := 5) 5 dX6_waits_5 ic_5 ?_
  refine es_iald (pc := 6) dX6_waits_6 lay_15 (by omega) ?_
  refine es_top (won) ?_
  refine es_cv1_v (pc := 7) dX6_waits_7 mr_6_91 rfl rfl (by decide) (by decide) rfl (Nat.le_of_ble_eq_true rfl) (Nat.zero_le _) (X6_take_ok) (fun μ7 h7 => ?_)
  obtain ⟨g1, g2⟩ := take_rg hr won4 (wpl _ won4) h7
  have hr7 : mR μ7 = r := by rw [g2.row, hr]
  obtain ⟨vP, vP4, von, von4, vit, vit4, vpl, vpb, vlt⟩ := WM.of hr7 hW
  refine es_aload_n (pc := 10) dX6_waits_10 rfl ?_
  refine es_cv0_i (pc := 11) dX6_waits_11 mr_6_94 rfl rfl (by decide) (by decide) rfl (Nat.le_of_ble_eq_true rfl) (Nat.zero_le _) (X6_ends_ok vP von g1) (fun x11 μ11 h11 => ?_)
  refine es_ireturn (pc := 14) dX6_waits_14 rfl (vp_nar_int _) (by decide) ?_
  refine ⟨_, rfl, ?_, ?_, g2.h.tr h11.2.2⟩
  · rw [h11.1, ← mR_r (μ := μ7) (by decide), hr7]; rfl
  · rw [h11.2.1, hr7]
    exact mw_ends won4 (hpl _ won4) rfl rfl (fun _ _ => rfl) (fun _ _ _ _ _ => rfl)
set_option maxHeartbeats 2000000 in
set_option maxRecDepth 20000 in
theorem X6_goes_ok {d : Nat} {μ : ev_M} {t : Nat} (hW : WFr (mR μ)) (h0 : 0 < rP (mR μ)) (ht : t < 10 := by omega) (hd : 4 ≤ d := by omega) : SPi (ev_CALL d) 120 [.ref 14, .int (nI t)] μ (fun x μ2 => x = (rm_stride (mR μ) t).1 ∧ mR μ2 = (rm_stride (mR μ) t).2 ∧ FH μ μ2) := by
  obtain ⟨d, rfl⟩ : ∃ q, d = q + 1 := ⟨d - 1, by omega⟩
  refine SPi.of (Nat.le_of_ble_eq_true rfl) ?_
  show es (ev_CALL d) 6 cX6_goes (some .int) 0 (0, fun _ => 0, []) (fun r μ2 => ∃ x9 : Int32, r = (some (.int x9), 0) ∧ (fun x μ2 => x = (rm_stride (mR μ) t).1 ∧ mR μ2 = (rm_stride (mR μ) t).2 ∧ FH μ μ2) x9 μ2) 0 [.ref 14, .int (nI t), .null, .null, .null] [] μ 0
  generalize hr : mR μ = r at hW h0 ⊢
  obtain ⟨wP, wP4, won, won4, wit, wit4, wpl, wpb, wlt⟩ := WM.of hr hW
  have wo := wlt h0
  have hpl : ∀ p, p < 4 → r (31 + 7 * p) = nI (rPl r p) := fun p hp => (congrFun hr _).symm.trans ((mR_r (by omega)).trans (wpl p hp))
  have wpo := wpb (rOn r)
  refine es_aload_n (pc := 0) dX6_goes_0 rfl ?_
  refine es_getR (pc := 1) dX6_goes_1 fr_6_7 fld_14_0 ?_
  refine es_iconstN (pc := 4) 5 dX6_goes_4 ic_5 ?_
  refine es_iald (pc := 5) dX6_goes_5 lay_15 (by omega) ?_
  refine es_top (won) ?_
  refine es_istore_n (pc := 6) dX6_goes_6 (ok1_2 rfl) ?_
  refine es_aload_n (pc := 7) dX6_goes_7 rfl ?_
  refine es_iload_n (pc := 8) dX6_goes_8 rfl ?_
  refine es_cv1_v (pc := 9) dX6_goes_9 mr_6_91 rfl rfl (by decide) (by decide) rfl (Nat.le_of_ble_eq_true rfl) (Nat.zero_le _) (X6_take_ok) (fun μ9 h9 => ?_)
  obtain ⟨g1, g2⟩ := take_rg hr won4 (wpl _ won4) h9
  have hr9 : mR μ9 = r := by rw [g2.row, hr]
  obtain ⟨vP, vP4, von, von4, vit, vit4, vpl, vpb, vlt⟩ := WM.of hr9 hW
  refine es_aload_n (pc := 12) dX6_goes_12 rfl ?_
  refine es_iload_n (pc := 13) dX6_goes_13 rfl ?_
  refine es_cv1_p (pc := 14) dX6_goes_14 mr_6_97 rfl rfl (by decide) (by decide) rfl (Nat.le_of_ble_eq_true rfl) (Nat.zero_le _) (X6_strideReason_ok g1.1) ?_
  rw [rm_why_m hr9 ht wpo g1.2.2.1]
  refine es_istore_n (pc := 17) dX6_goes_17 (ok1_3 rfl) ?_
  refine es_iload_n (pc := 18) dX6_goes_18 rfl ?_
  refine es_if_eq (pc := 19) (tgt := 28) dX6_goes_19 (by decide) (fun c19 => ?_) (fun c19 => ?_)
  · refine es_aload_n (pc := 28) dX6_goes_28 rfl ?_
    refine es_iload_n (pc := 29) dX6_goes_29 rfl ?_
    refine es_bipushN (pc := 30) 6 dX6_goes_30 bp_6 ?_
    refine es_aload_n (pc := 32) dX6_goes_32 rfl ?_
    refine es_aload_n (pc := 33) dX6_goes_33 rfl ?_
    refine es_getI (pc := 34) dX6_goes_34 fr_6_67 fld_14_9 ?_
    refine es_top g1.1 ?_
    refine es_iload_n (pc := 37) dX6_goes_37 rfl ?_
    refine es_cv2_p (pc := 38) dX6_goes_38 mr_6_76 rfl rfl (by decide) (by decide) rfl (Nat.le_of_ble_eq_true rfl) (Nat.zero_le _) (X6_strideOf_ok) ?_
    refine es_cv3_v (pc := 41) dX6_goes_41 mr_6_87 rfl rfl (by decide) (by decide) rfl (Nat.le_of_ble_eq_true rfl) (Nat.zero_le _) (X6_more_ok) (fun μ41 h41 => ?_)
    have hr41 : mR μ41 = upd r (31 + 7 * rOn r + 6) (r (31 + 7 * rOn r + 6) + gm_price (r 1) (rH r) (rPl r (rOn r)) t) := by rw [h41, mR_w (by omega), hr9, rm_price_m hr9 wpo ht, ← mR_r (μ := μ9) (by omega), hr9]
    have g41 : RG μ41 (rPl r (rOn r)) (r (31 + 7 * rOn r + 1)) (r (31 + 7 * rOn r + 2)) (fun k => r (21 + k)) := by rw [h41]; exact g1.w15
    have p41 : gm_price (μ41 15 1) (fun k => μ41 15 (11 + k)) (rPl r (rOn r)) t = gm_price (r 1) (rH r) (rPl r (rOn r)) t := by
      rw [← mR_r (μ := μ41) (by decide), hr41, upd_ne (by omega)]
      exact gm_price_cong (fun k hk => by rw [← mR_r (μ := μ41) (by omega), hr41, upd_ne (by omega)]; rfl) wpo ht
    refine es_aload_n (pc := 44) dX6_goes_44 rfl ?_
    refine es_iload_n (pc := 45) dX6_goes_45 rfl ?_
    refine es_cv1_v (pc := 46) dX6_goes_46 mr_6_103 rfl rfl (by decide) (by decide) rfl (Nat.le_of_ble_eq_true rfl) (Nat.zero_le _) (X6_strides_ok g41) (fun μ46 h46 => ?_)
    obtain ⟨k1, k2⟩ := h46
    rw [p41] at k1
    have hr46 := k2.row
    have vP9 : μ46 15 4 = nI (rP r) := by rw [← mR_r (μ := μ46) (by decide), hr46, hr41, upd_ne (by omega), ← hr9, mR_r (by decide), hr9, vP]
    have von9 : μ46 15 5 = nI (rOn r) := by rw [← mR_r (μ := μ46) (by decide), hr46, hr41, upd_ne (by omega), ← hr9, mR_r (by decide), hr9, von]
    refine es_aload_n (pc := 49) dX6_goes_49 rfl ?_
    refine es_cv0_i (pc := 50) dX6_goes_50 mr_6_94 rfl rfl (by decide) (by decide) rfl (Nat.le_of_ble_eq_true rfl) (Nat.zero_le _) (X6_ends_ok vP9 von9 k1) (fun x50 μ50 h50 => ?_)
    refine es_istore (pc := 53) dX6_goes_53 (ok1_4 rfl) ?_
    refine es_iconstN (pc := 55) 0 dX6_goes_55 ic_0 ?_
    refine es_ireturn (pc := 56) dX6_goes_56 rfl (vp_nar_int _) (by decide) ?_
    have e : rm_stride r t = (0, gm_ends (gm_go r (rOn r) (rPl r (rOn r)) t (gm_price (r 1) (rH r) (rPl r (rOn r)) t)) (rP r) (rOn r)) := by unfold rm_stride; rw [c19, if_pos rfl]
    exact ⟨_, rfl, by rw [e, nI_0], by rw [e, h50.2.1, hr46, hr41]; exact mw_go won4 wpo ht, ((g2.h.tr (by rw [h41]; exact FH.rf.w)).tr k2.h).tr h50.2.2⟩
  · refine es_aload_n (pc := 22) dX6_goes_22 rfl ?_
    refine es_iload_n (pc := 23) dX6_goes_23 rfl ?_
    refine es_cv1_i (pc := 24) dX6_goes_24 mr_6_100 rfl rfl (by decide) (by decide) rfl (Nat.le_of_ble_eq_true rfl) (Nat.zero_le _) (X6_refuses_ok) (fun x24 μ24 h24 => ?_)
    refine es_ireturn (pc := 27) dX6_goes_27 rfl (vp_nar_int _) (by decide) ?_
    have e : rm_stride r t = (rm_why r (rOn r) t, gm_ref r) := by unfold rm_stride; rw [if_neg c19]
    exact ⟨_, rfl, by rw [e, h24.1], by rw [e, h24.2, mR_w (by decide), hr9, ← mR_r (μ := μ9) (by decide), hr9]; rfl, by rw [h24.2]; exact g2.h.w⟩
set_option maxHeartbeats 2000000 in
set_option maxRecDepth 20000 in
theorem X6_overs_ok {d : Nat} {μ : ev_M} (hW : WFr (mR μ)) (h0 : 0 < rP (mR μ)) (hd : 4 ≤ d := by omega) : SPi (ev_CALL d) 128 [.ref 14] μ (fun x μ2 => x = (rm_turn (mR μ)).1 ∧ mR μ2 = (rm_turn (mR μ)).2 ∧ FH μ μ2) := by
  obtain ⟨d, rfl⟩ : ∃ q, d = q + 1 := ⟨d - 1, by omega⟩
  refine SPi.of (Nat.le_of_ble_eq_true rfl) ?_
  show es (ev_CALL d) 6 cX6_overs (some .int) 0 (0, fun _ => 0, []) (fun r μ2 => ∃ x9 : Int32, r = (some (.int x9), 0) ∧ (fun x μ2 => x = (rm_turn (mR μ)).1 ∧ mR μ2 = (rm_turn (mR μ)).2 ∧ FH μ μ2) x9 μ2) 0 [.ref 14, .null, .null] [] μ 0
  generalize hr : mR μ = r at hW h0 ⊢
  obtain ⟨wP, wP4, won, won4, wit, wit4, wpl, wpb, wlt⟩ := WM.of hr hW
  have wo := wlt h0
  have hpl : ∀ p, p < 4 → r (31 + 7 * p) = nI (rPl r p) := fun p hp => (congrFun hr _).symm.trans ((mR_r (by omega)).trans (wpl p hp))
  have wpo := wpb (rOn r)
  refine es_aload_n (pc := 0) dX6_overs_0 rfl ?_
  refine es_getR (pc := 1) dX6_overs_1 fr_6_7 fld_14_0 ?_
  refine es_iconstN (pc := 4) 5 dX6_overs_4 ic_5 ?_
  refine es_iald (pc := 5) dX6_overs_5 lay_15 (by omega) ?_
  refine es_top (won) ?_
  refine es_istore_n (pc := 6) dX6_overs_6 (ok1_1 rfl) ?_
  refine es_aload_n (pc := 7) dX6_overs_7 rfl ?_
  refine es_iload_n (pc := 8) dX6_overs_8 rfl ?_
  refine es_cv1_v (pc := 9) dX6_overs_9 mr_6_91 rfl rfl (by decide) (by decide) rfl (Nat.le_of_ble_eq_true rfl) (Nat.zero_le _) (X6_take_ok) (fun μ9 h9 => ?_)
  obtain ⟨g1, g2⟩ := take_rg hr won4 (wpl _ won4) h9
  have hr9 : mR μ9 = r := by rw [g2.row, hr]
  obtain ⟨vP, vP4, von, von4, vit, vit4, vpl, vpb, vlt⟩ := WM.of hr9 hW
  refine es_aload_n (pc := 12) dX6_overs_12 rfl ?_
  refine es_getR (pc := 13) dX6_overs_13 fr_6_7 fld_14_0 ?_
  refine es_iconstN (pc := 16) 2 dX6_overs_16 ic_2 ?_
  refine es_iald (pc := 17) dX6_overs_17 lay_15 (by omega) ?_
  refine es_aload_n (pc := 18) dX6_overs_18 rfl ?_
  refine es_getI (pc := 19) dX6_overs_19 fr_6_73 fld_14_11 ?_
  rw [show μ9 15 2 = r 2 by rw [← mR_r (μ := μ9) (by decide), hr9], g1.2.2.1]
  refine es_icmp_le (pc := 22) (tgt := 31) dX6_overs_22 (by decide) (fun c22 => ?_) (fun c22 => ?_)
  · refine es_aload_n (pc := 31) dX6_overs_31 rfl ?_
    refine es_iload_n (pc := 32) dX6_overs_32 rfl ?_
    refine es_bipushN (pc := 33) 6 dX6_overs_33 bp_6 ?_
    refine es_aload_n (pc := 35) dX6_overs_35 rfl ?_
    refine es_getR (pc := 36) dX6_overs_36 fr_6_7 fld_14_0 ?_
    refine es_iconstN (pc := 39) 2 dX6_overs_39 ic_2 ?_
    refine es_iald (pc := 40) dX6_overs_40 lay_15 (by omega) ?_
    refine es_cv3_v (pc := 41) dX6_overs_41 mr_6_87 rfl rfl (by decide) (by decide) rfl (Nat.le_of_ble_eq_true rfl) (Nat.zero_le _) (X6_more_ok) (fun μ41 h41 => ?_)
    have hr41 : mR μ41 = upd r (31 + 7 * rOn r + 6) (r (31 + 7 * rOn r + 6) + r 2) := by rw [h41, mR_w (by omega), hr9, ← mR_r (μ := μ9) (by omega), ← mR_r (μ := μ9) (j := 2) (by omega), hr9]
    have g41 : RG μ41 (rPl r (rOn r)) (r (31 + 7 * rOn r + 1)) (r (31 + 7 * rOn r + 2)) (fun k => r (21 + k)) := by rw [h41]; exact g1.w15
    have t41 : μ41 15 2 = r 2 := by rw [← mR_r (μ := μ41) (by decide), hr41, upd_ne (by omega)]
    refine es_aload_n (pc := 44) dX6_overs_44 rfl ?_
    refine es_cv0_v (pc := 45) dX6_overs_45 mr_6_106 rfl rfl (by decide) (by decide) rfl (Nat.le_of_ble_eq_true rfl) (Nat.zero_le _) (X6_turns_ok g41) (fun μ45 h45 => ?_)
    obtain ⟨k1, k2⟩ := h45
    rw [t41] at k1
    have hr46 := k2.row
    have vP9 : μ45 15 4 = nI (rP r) := by rw [← mR_r (μ := μ45) (by decide), hr46, hr41, upd_ne (by omega), ← hr9, mR_r (by decide), hr9, vP]
    have von9 : μ45 15 5 = nI (rOn r) := by rw [← mR_r (μ := μ45) (by decide), hr46, hr41, upd_ne (by omega), ← hr9, mR_r (by decide), hr9, von]
    refine es_aload_n (pc := 48) dX6_overs_48 rfl ?_
    refine es_cv0_i (pc := 49) dX6_overs_49 mr_6_94 rfl rfl (by decide) (by decide) rfl (Nat.le_of_ble_eq_true rfl) (Nat.zero_le _) (X6_ends_ok vP9 von9 k1) (fun x49 μ49 h49 => ?_)
    refine es_istore_n (pc := 52) dX6_overs_52 (ok1_2 rfl) ?_
    refine es_iconstN (pc := 53) 0 dX6_overs_53 ic_0 ?_
    refine es_ireturn (pc := 54) dX6_overs_54 rfl (vp_nar_int _) (by decide) ?_
    have e : rm_turn r = (nI 0, gm_ends (gm_turn r (rOn r) (rPl r (rOn r))) (rP r) (rOn r)) := by unfold rm_turn; rw [if_neg (Int32.not_lt.mpr c22)]
    exact ⟨_, rfl, by rw [e], by rw [e, h49.2.1, hr46, hr41]; exact mw_turn won4 wpo (hpl _ won4), ((g2.h.tr (by rw [h41]; exact FH.rf.w)).tr k2.h).tr h49.2.2⟩
  · refine es_aload_n (pc := 25) dX6_overs_25 rfl ?_
    refine es_iconstN (pc := 26) 4 dX6_overs_26 ic_4 ?_
    refine es_cv1_i (pc := 27) dX6_overs_27 mr_6_100 rfl rfl (by decide) (by decide) rfl (Nat.le_of_ble_eq_true rfl) (Nat.zero_le _) (X6_refuses_ok) (fun x27 μ27 h27 => ?_)
    refine es_ireturn (pc := 30) dX6_overs_30 rfl (vp_nar_int _) (by decide) ?_
    have e : rm_turn r = (nI 4, gm_ref r) := by unfold rm_turn; rw [if_pos (Int32.not_le.mp c22)]
    exact ⟨_, rfl, by rw [e, h27.1], by rw [e, h27.2, mR_w (by decide), hr9, ← mR_r (μ := μ9) (by decide), hr9]; rfl, by rw [h27.2]; exact g2.h.w⟩
set_option maxHeartbeats 2000000 in
set_option maxRecDepth 20000 in
theorem X6_tags_ok {d : Nat} {μ : ev_M} {q : Nat} (hW : WFr (mR μ)) (h0 : 0 < rP (mR μ)) (hq : q < 4 := by omega) (hd : 4 ≤ d := by omega) : SPi (ev_CALL d) 132 [.ref 14, .int (nI q)] μ (fun x μ2 => x = (rm_tag (mR μ) q).1 ∧ mR μ2 = (rm_tag (mR μ) q).2 ∧ FH μ μ2) := by
  obtain ⟨d, rfl⟩ : ∃ q, d = q + 1 := ⟨d - 1, by omega⟩
  refine SPi.of (Nat.le_of_ble_eq_true rfl) ?_
  show es (ev_CALL d) 6 cX6_tags (some .int) 0 (0, fun _ => 0, []) (fun r μ2 => ∃ x9 : Int32, r = (some (.int x9), 0) ∧ (fun x μ2 => x = (rm_tag (mR μ) q).1 ∧ mR μ2 = (rm_tag (mR μ) q).2 ∧ FH μ μ2) x9 μ2) 0 [.ref 14, .int (nI q), .null, .null, .null, .null] [] μ 0
  generalize hr : mR μ = r at hW h0 ⊢
  obtain ⟨wP, wP4, won, won4, wit, wit4, wpl, wpb, wlt⟩ := WM.of hr hW
  have wo := wlt h0
  have hpl : ∀ p, p < 4 → r (31 + 7 * p) = nI (rPl r p) := fun p hp => (congrFun hr _).symm.trans ((mR_r (by omega)).trans (wpl p hp))
  have wpo := wpb (rOn r)
  refine es_aload_n (pc := 0) dX6_tags_0 rfl ?_
  refine es_getR (pc := 1) dX6_tags_1 fr_6_7 fld_14_0 ?_
  refine es_iconstN (pc := 4) 5 dX6_tags_4 ic_5 ?_
  refine es_iald (pc := 5) dX6_tags_5 lay_15 (by omega) ?_
  refine es_top (won) ?_
  refine es_istore_n (pc := 6) dX6_tags_6 (ok1_2 rfl) ?_
  refine es_aload_n (pc := 7) dX6_tags_7 rfl ?_
  refine es_iload_n (pc := 8) dX6_tags_8 rfl ?_
  refine es_iload_n (pc := 9) dX6_tags_9 rfl ?_
  refine es_cv2_p (pc := 10) dX6_tags_10 mr_6_109 rfl rfl (by decide) (by decide) rfl (Nat.le_of_ble_eq_true rfl) (Nat.zero_le _) (X6_tagReason_ok wit (wpl _ won4) (wpl _ hq) (ha := wpb _) (hb := wpb _)) ?_
  rw [rm_tagw_m hr (wpb _) (wpb _)]
  refine es_istore_n (pc := 13) dX6_tags_13 (ok1_3 rfl) ?_
  refine es_iload_n (pc := 14) dX6_tags_14 rfl ?_
  refine es_if_eq (pc := 15) (tgt := 24) dX6_tags_15 (by decide) (fun c15 => ?_) (fun c15 => ?_)
  · refine es_aload_n (pc := 24) dX6_tags_24 rfl ?_
    refine es_iload_n (pc := 25) dX6_tags_25 rfl ?_
    refine es_iconstN (pc := 26) 2 dX6_tags_26 ic_2 ?_
    refine es_cv2_p (pc := 27) dX6_tags_27 mr_6_63 rfl rfl (by decide) (by decide) rfl (Nat.le_of_ble_eq_true rfl) (Nat.zero_le _) (X6_its_ok) ?_
    refine es_iconstN (pc := 30) 2 dX6_tags_30 ic_2 ?_
    refine es_idiv (pc := 31) dX6_tags_31 (by decide) ?_
    refine es_istore (pc := 32) dX6_tags_32 (ok1_4 rfl) ?_
    refine es_aload_n (pc := 34) dX6_tags_34 rfl ?_
    refine es_iload_n (pc := 35) dX6_tags_35 rfl ?_
    refine es_iconstN (pc := 36) 2 dX6_tags_36 ic_2 ?_
    refine es_iload (pc := 37) dX6_tags_37 rfl ?_
    refine es_ineg (pc := 39) dX6_tags_39 ?_
    refine es_cv3_v (pc := 40) dX6_tags_40 mr_6_87 rfl rfl (by decide) (by decide) rfl (Nat.le_of_ble_eq_true rfl) (Nat.zero_le _) (X6_more_ok) (fun μ40 h40 => ?_)
    have b40 : μ40 = ev_ms μ 15 (31 + 7 * q + 2) (μ 15 (31 + 7 * q + 2) + -(μ 15 (31 + 7 * q + 2) / nI 2)) := h40
    have hr40 : mR μ40 = upd r (31 + 7 * q + 2) (r (31 + 7 * q + 2) - gm_half r q) := by rw [b40, mR_w (by omega), ← mR_r (μ := μ) (by omega), hr, Int32.sub_eq_add_neg]; rfl
    have f40 : FH μ μ40 := by rw [b40]; exact FH.rf.w
    refine es_aload_n (pc := 43) dX6_tags_43 rfl ?_
    refine es_iload_n (pc := 44) dX6_tags_44 rfl ?_
    refine es_iconstN (pc := 45) 1 dX6_tags_45 ic_1 ?_
    refine es_iload (pc := 46) dX6_tags_46 rfl ?_
    refine es_cv3_v (pc := 48) dX6_tags_48 mr_6_87 rfl rfl (by decide) (by decide) rfl (Nat.le_of_ble_eq_true rfl) (Nat.zero_le _) (X6_more_ok) (fun μ48 h48 => ?_)
    have hr48 : mR μ48 = upd (upd r (31 + 7 * q + 2) (r (31 + 7 * q + 2) - gm_half r q)) (31 + 7 * rOn r + 1) (r (31 + 7 * rOn r + 1) + gm_half r q) := by rw [h48, mR_w (by omega), ← mR_r (μ := μ40) (by omega), hr40, upd_ne (by omega), show μ 15 (31 + 7 * q + 2) / nI 2 = gm_half r q by rw [gm_half, ← hr, mR_r (by omega)]]
    have f48 : FH μ μ48 := by rw [h48]; exact f40.w
    refine es_aload_n (pc := 51) dX6_tags_51 rfl ?_
    refine es_iload_n (pc := 52) dX6_tags_52 rfl ?_
    refine es_iconstN (pc := 53) 4 dX6_tags_53 ic_4 ?_
    refine es_iconstN (pc := 54) 1 dX6_tags_54 ic_1 ?_
    refine es_cv3_v (pc := 55) dX6_tags_55 mr_6_87 rfl rfl (by decide) (by decide) rfl (Nat.le_of_ble_eq_true rfl) (Nat.zero_le _) (X6_more_ok) (fun μ55 h55 => ?_)
    have hr55 : mR μ55 = upd (upd (upd r (31 + 7 * q + 2) (r (31 + 7 * q + 2) - gm_half r q)) (31 + 7 * rOn r + 1) (r (31 + 7 * rOn r + 1) + gm_half r q)) (31 + 7 * rOn r + 4) (r (31 + 7 * rOn r + 4) + nI 1) := by rw [h55, mR_w (by omega), ← mR_r (μ := μ48) (by omega), hr48, upd_ne (by omega), upd_ne (by omega)]
    have f55 : FH μ μ55 := by rw [h55]; exact f48.w
    refine es_aload_n (pc := 58) dX6_tags_58 rfl ?_
    refine es_iload_n (pc := 59) dX6_tags_59 rfl ?_
    refine es_iconstN (pc := 60) 5 dX6_tags_60 ic_5 ?_
    refine es_iconstN (pc := 61) 1 dX6_tags_61 ic_1 ?_
    refine es_cv3_v (pc := 62) dX6_tags_62 mr_6_87 rfl rfl (by decide) (by decide) rfl (Nat.le_of_ble_eq_true rfl) (Nat.zero_le _) (X6_more_ok) (fun μ62 h62 => ?_)
    have hr62 : mR μ62 = upd (upd (upd (upd r (31 + 7 * q + 2) (r (31 + 7 * q + 2) - gm_half r q)) (31 + 7 * rOn r + 1) (r (31 + 7 * rOn r + 1) + gm_half r q)) (31 + 7 * rOn r + 4) (r (31 + 7 * rOn r + 4) + nI 1)) (31 + 7 * q + 5) (r (31 + 7 * q + 5) + nI 1) := by rw [h62, mR_w (by omega), ← mR_r (μ := μ55) (by omega), hr55, upd_ne (by omega), upd_ne (by omega), upd_ne (by omega)]
    have f62 : FH μ μ62 := by rw [h62]; exact f55.w
    refine es_aload_n (pc := 65) dX6_tags_65 rfl ?_
    refine es_getR (pc := 66) dX6_tags_66 fr_6_7 fld_14_0 ?_
    refine es_bipushN (pc := 69) 9 dX6_tags_69 bp_9 ?_
    refine es_dup2 (pc := 71) dX6_tags_71 rfl rfl ?_
    refine es_iald (pc := 72) dX6_tags_72 lay_15 (by omega) ?_
    refine es_iconstN (pc := 73) 1 dX6_tags_73 ic_1 ?_
    refine es_iadd (pc := 74) dX6_tags_74 ?_
    refine es_iast (pc := 75) dX6_tags_75 lay_15 (by omega) ?_
    refine es_aload_n (pc := 76) dX6_tags_76 rfl ?_
    refine es_getR (pc := 77) dX6_tags_77 fr_6_7 fld_14_0 ?_
    refine es_bipushN (pc := 80) 6 dX6_tags_80 bp_6 ?_
    refine es_iload_n (pc := 82) dX6_tags_82 rfl ?_
    refine es_iast (pc := 83) dX6_tags_83 lay_15 (by omega) ?_
    generalize hν : ev_ms (ev_ms μ62 15 9 _) 15 6 _ = ν
    have hrν : mR ν = gm_tag r (rOn r) q := by rw [← hν, mR_w (by decide), mR_w (by decide), ← mR_r (μ := μ62) (by decide), hr62]; unfold gm_tag; congr 2; rw [upd_ne (by omega), upd_ne (by omega), upd_ne (by omega), upd_ne (by omega)]
    have fν : FH μ ν := by rw [← hν]; exact f62.w.w
    have q0 : ∀ j, (j < 6 ∨ j = 31 + 7 * rOn r) → gm_tag r (rOn r) q j = r j := fun j hj => by unfold gm_tag; rw [upd_ne (by omega), upd_ne (by omega), upd_ne (by omega), upd_ne (by omega), upd_ne (by omega), upd_ne (by omega)]
    have nP : ν 15 4 = nI (rP r) := by rw [← mR_r (μ := ν) (by decide), hrν, q0 4 (by omega), ← hr, mR_r (by decide), hr, wP]
    have non : ν 15 5 = nI (rOn r) := by rw [← mR_r (μ := ν) (by decide), hrν, q0 5 (by omega), ← hr, mR_r (by decide), hr, won]
    have npl : ν 15 (31 + 7 * rOn r) = nI (rPl r (rOn r)) := by rw [← mR_r (μ := ν) (by omega), hrν, q0 _ (by omega), hpl _ won4]
    have epl : rPl (gm_tag r (rOn r) q) (rOn r) = rPl r (rOn r) := by unfold rPl; rw [q0 _ (by omega)]
    refine es_aload_n (pc := 84) dX6_tags_84 rfl ?_
    refine es_iload_n (pc := 85) dX6_tags_85 rfl ?_
    refine es_cv1_v (pc := 86) dX6_tags_86 mr_6_91 rfl rfl (by decide) (by decide) rfl (Nat.le_of_ble_eq_true rfl) (Nat.zero_le _) (X6_take_ok) (fun μ86 h86 => ?_)
    obtain ⟨g1, g2⟩ := take_rg hrν won4 (by rw [epl]; exact npl) h86
    have hr86 : mR μ86 = gm_tag r (rOn r) q := by rw [g2.row, hrν]
    have vP9 : μ86 15 4 = nI (rP r) := by rw [g2.1 15 (by decide) (by decide), nP]
    have von9 : μ86 15 5 = nI (rOn r) := by rw [g2.1 15 (by decide) (by decide), non]
    refine es_aload_n (pc := 89) dX6_tags_89 rfl ?_
    refine es_cv0_i (pc := 90) dX6_tags_90 mr_6_94 rfl rfl (by decide) (by decide) rfl (Nat.le_of_ble_eq_true rfl) (Nat.zero_le _) (X6_ends_ok vP9 von9 g1 (P := rP r)) (fun x90 μ90 h90 => ?_)
    refine es_istore (pc := 93) dX6_tags_93 (ok1_5 rfl) ?_
    refine es_iconstN (pc := 95) 0 dX6_tags_95 ic_0 ?_
    refine es_ireturn (pc := 96) dX6_tags_96 rfl (vp_nar_int _) (by decide) ?_
    have e : rm_tag r q = (0, gm_ends (gm_tag r (rOn r) q) (rP r) (rOn r)) := by unfold rm_tag; rw [c15, if_pos rfl]
    exact ⟨_, rfl, by rw [e, nI_0], by rw [e, h90.2.1, hr86]; exact mw_ends won4 (by rw [epl, ← hrν, mR_r (by omega), npl]) rfl rfl (fun _ _ => rfl) (fun _ _ _ _ _ => rfl), (fν.tr g2.h).tr h90.2.2⟩
  · refine es_aload_n (pc := 18) dX6_tags_18 rfl ?_
    refine es_iload_n (pc := 19) dX6_tags_19 rfl ?_
    refine es_cv1_i (pc := 20) dX6_tags_20 mr_6_100 rfl rfl (by decide) (by decide) rfl (Nat.le_of_ble_eq_true rfl) (Nat.zero_le _) (X6_refuses_ok) (fun x20 μ20 h20 => ?_)
    refine es_ireturn (pc := 23) dX6_tags_23 rfl (vp_nar_int _) (by decide) ?_
    have e : rm_tag r q = (rm_tagw r (rOn r) q, gm_ref r) := by unfold rm_tag; rw [if_neg c15]
    exact ⟨_, rfl, by rw [e, h20.1], by rw [e, h20.2, mR_w (by decide), hr, ← mR_r (μ := μ) (by decide), hr]; rfl, by rw [h20.2]; exact FH.rf.w⟩
