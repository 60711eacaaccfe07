/-- what a wrapper answers: the code; the answer in the long cell -/
def QW (o : gA) (μ : ev_M) (x : Int32) (μ2 : ev_M) : Prop := x = nI o.1 ∧ (o.1 = 0 → μ2 23 0 = o.2.1) ∧ RepC μ2 o.2.2 ∧ ∀ k, 14 ≤ k → k < 23 → μ2 k = μ k
theorem QW.ok {o : gA} {μ μ2 : ev_M} {x : Int32} (h : QC o μ x μ2) : QW o μ (nI 0) (ev_ms μ2 23 0 x) := ⟨by rw [h.1], fun _ => by rw [ms_at, if_pos rfl]; exact h.2.1, h.2.2.1.cong (fun k hk => by unfold gNo at hk; rw [ms_ne (by omega)]), fun k h1 h2 => by rw [ms_ne (by omega), h.2.2.2 k h1 (by omega)]⟩
theorem QW.er {o : gA} {μ μ2 : ev_M} {c : Nat} {x : Int32} (h1 : o.1 = c + 1) (hx : x = nI (c + 1)) (h3 : RepC μ2 o.2.2) (h4 : Fr5 μ μ2) : QW o μ x μ2 := ⟨by rw [h1, hx], fun h => by omega, h3, fun k a b => h4 k a (by omega)⟩
set_option maxHeartbeats 2000000 in
set_option maxRecDepth 20000 in
theorem L_append_ok {d : Nat} {μ : ev_M} {S : gS} {x : Int32} (hR : RepC μ S) (hW : WFS S) (hd : 5 ≤ d := by omega) : SPi (ev_CALL d) 68 [.ref 0, .int x, .ref 23] μ (QW (op_append S x) μ) := by
  obtain ⟨d, rfl⟩ : ∃ q, d = q + 1 := ⟨d - 1, by omega⟩
  refine SPi.of (Nat.le_of_ble_eq_true rfl) ?_
  show es (ev_CALL d) 9 cL_append (some .int) 1 (0, fun _ => 0, [(0, 9, 12, 15), (0, 9, 15, 20)]) (fun r μ2 => ∃ x9 : Int32, r = (some (.int x9), 0) ∧ (QW (op_append S x) μ) x9 μ2) 0 [.ref 0, .int x, .ref 23, .null] [] μ 0
  refine es_aload_n (pc := 0) dL_append_0 rfl ?_
  refine es_iconstN (pc := 1) 0 dL_append_1 ic_0 ?_
  refine es_aload_n (pc := 2) dL_append_2 rfl ?_
  refine es_iload_n (pc := 3) dL_append_3 rfl ?_
  refine es_x1n (pc := 4) (hp := (fun E => if E = 1 then 12 else if E = 2 then 15 else 0)) (val := (fun E => if E = 1 then 1 else if E = 2 then 2 else 0)) (k9 := 3) dL_append_4 mr_9_39 rfl rfl (by decide) (by decide) rfl rfl rfl rfl (Nat.le_of_ble_eq_true rfl) (by decide) (X5_append_ok hR hW) (Nat.le_of_ble_eq_true rfl) ?_ (fun x4 μ4 h4 => ?_)
  · rintro E9 μ9 ⟨⟨c9, h1, h2⟩, h3, h4⟩
    rcases c9 with _ | _ | c9
    · cases h2
      exact ⟨by decide, by decide +kernel, by decide +kernel, dL_append_12, dL_append_13, dL_append_14, _, rfl, QW.er (c := 0) h1 (by decide) h3 h4⟩
    · cases h2
      exact ⟨by decide, by decide +kernel, by decide +kernel, dL_append_15, dL_append_16, dL_append_17, _, rfl, QW.er (c := 1) h1 (by decide) h3 h4⟩
    · simp at h2
  refine es_i2l (pc := 7) dL_append_7 ?_
  refine es_last (pc := 8) dL_append_8 lay_23 (by omega) ?_
  refine es_goto (pc := 9) (tgt := 18) dL_append_9 (by decide) ?_
  refine es_iconstN (pc := 18) 0 dL_append_18 ic_0 ?_
  refine es_ireturn (pc := 19) dL_append_19 rfl (vp_nar_int _) (by decide) ?_
  exact ⟨_, rfl, QW.ok h4⟩
set_option maxHeartbeats 2000000 in
set_option maxRecDepth 20000 in
theorem L_count_ok {d : Nat} {μ : ev_M} {S : gS} {x : Int32} (hR : RepC μ S) (hW : WFS S) (hd : 6 ≤ d := by omega) : SPi (ev_CALL d) 89 [.ref 0, .int x, .ref 23] μ (QW (op_count S x) μ) := by
  obtain ⟨d, rfl⟩ : ∃ q, d = q + 1 := ⟨d - 1, by omega⟩
  refine SPi.of (Nat.le_of_ble_eq_true rfl) ?_
  show es (ev_CALL d) 9 cL_count (some .int) 1 (0, fun _ => 0, [(0, 9, 12, 15)]) (fun r μ2 => ∃ x9 : Int32, r = (some (.int x9), 0) ∧ (QW (op_count S x) μ) x9 μ2) 0 [.ref 0, .int x, .ref 23, .null] [] μ 0
  refine es_aload_n (pc := 0) dL_count_0 rfl ?_
  refine es_iconstN (pc := 1) 0 dL_count_1 ic_0 ?_
  refine es_aload_n (pc := 2) dL_count_2 rfl ?_
  refine es_iload_n (pc := 3) dL_count_3 rfl ?_
  refine es_x1n (pc := 4) (hp := (fun E => if E = 1 then 12 else 0)) (val := (fun E => if E = 1 then 1 else 0)) (k9 := 3) dL_count_4 mr_9_60 rfl rfl (by decide) (by decide) rfl rfl rfl rfl (Nat.le_of_ble_eq_true rfl) (by decide) (X5_count_ok hR hW) (Nat.le_of_ble_eq_true rfl) ?_ (fun x4 μ4 h4 => ?_)
  · rintro E9 μ9 ⟨⟨c9, h1, h2⟩, h3, h4⟩
    rcases c9 with _ | c9
    · cases h2
      exact ⟨by decide, by decide +kernel, by decide +kernel, dL_count_12, dL_count_13, dL_count_14, _, rfl, QW.er (c := 0) h1 (by decide) h3 h4⟩
    · simp at h2
  refine es_i2l (pc := 7) dL_count_7 ?_
  refine es_last (pc := 8) dL_count_8 lay_23 (by omega) ?_
  refine es_goto (pc := 9) (tgt := 15) dL_count_9 (by decide) ?_
  refine es_iconstN (pc := 15) 0 dL_count_15 ic_0 ?_
  refine es_ireturn (pc := 16) dL_count_16 rfl (vp_nar_int _) (by decide) ?_
  exact ⟨_, rfl, QW.ok h4⟩
set_option maxHeartbeats 2000000 in
set_option maxRecDepth 20000 in
theorem L_goBack_ok {d : Nat} {μ : ev_M} {S : gS} {x : Int32} (hR : RepC μ S) (hW : WFS S) (hd : 5 ≤ d := by omega) : SPi (ev_CALL d) 80 [.ref 0, .int x, .ref 23] μ (QW (op_back S x) μ) := by
  obtain ⟨d, rfl⟩ : ∃ q, d = q + 1 := ⟨d - 1, by omega⟩
  refine SPi.of (Nat.le_of_ble_eq_true rfl) ?_
  show es (ev_CALL d) 9 cL_goBack (some .int) 1 (0, fun _ => 0, [(0, 9, 12, 15), (0, 9, 15, 20)]) (fun r μ2 => ∃ x9 : Int32, r = (some (.int x9), 0) ∧ (QW (op_back S x) μ) x9 μ2) 0 [.ref 0, .int x, .ref 23, .null] [] μ 0
  refine es_aload_n (pc := 0) dL_goBack_0 rfl ?_
  refine es_iconstN (pc := 1) 0 dL_goBack_1 ic_0 ?_
  refine es_aload_n (pc := 2) dL_goBack_2 rfl ?_
  refine es_iload_n (pc := 3) dL_goBack_3 rfl ?_
  refine es_x1n (pc := 4) (hp := (fun E => if E = 1 then 12 else if E = 2 then 15 else 0)) (val := (fun E => if E = 1 then 1 else if E = 2 then 2 else 0)) (k9 := 3) dL_goBack_4 mr_9_48 rfl rfl (by decide) (by decide) rfl rfl rfl rfl (Nat.le_of_ble_eq_true rfl) (by decide) (X5_goBack_ok hR hW) (Nat.le_of_ble_eq_true rfl) ?_ (fun x4 μ4 h4 => ?_)
  · rintro E9 μ9 ⟨⟨c9, h1, h2⟩, h3, h4⟩
    rcases c9 with _ | _ | c9
    · cases h2
      exact ⟨by decide, by decide +kernel, by decide +kernel, dL_goBack_12, dL_goBack_13, dL_goBack_14, _, rfl, QW.er (c := 0) h1 (by decide) h3 h4⟩
    · cases h2
      exact ⟨by decide, by decide +kernel, by decide +kernel, dL_goBack_15, dL_goBack_16, dL_goBack_17, _, rfl, QW.er (c := 1) h1 (by decide) h3 h4⟩
    · simp at h2
  refine es_i2l (pc := 7) dL_goBack_7 ?_
  refine es_last (pc := 8) dL_goBack_8 lay_23 (by omega) ?_
  refine es_goto (pc := 9) (tgt := 18) dL_goBack_9 (by decide) ?_
  refine es_iconstN (pc := 18) 0 dL_goBack_18 ic_0 ?_
  refine es_ireturn (pc := 19) dL_goBack_19 rfl (vp_nar_int _) (by decide) ?_
  exact ⟨_, rfl, QW.ok h4⟩
set_option maxHeartbeats 2000000 in
set_option maxRecDepth 20000 in
theorem L_height_ok {d : Nat} {μ : ev_M} {S : gS} {x y : Int32} (hR : RepC μ S) (hW : WFS S) (hd : 5 ≤ d := by omega) : SPi (ev_CALL d) 41 [.ref 0, .int x, .int y, .ref 23] μ (QW (op_height S x y) μ) := by
  obtain ⟨d, rfl⟩ : ∃ q, d = q + 1 := ⟨d - 1, by omega⟩
  refine SPi.of (Nat.le_of_ble_eq_true rfl) ?_
  show es (ev_CALL d) 9 cL_height (some .int) 1 (0, fun _ => 0, [(0, 10, 13, 13), (0, 10, 17, 15)]) (fun r μ2 => ∃ x9 : Int32, r = (some (.int x9), 0) ∧ (QW (op_height S x y) μ) x9 μ2) 0 [.ref 0, .int x, .int y, .ref 23, .null] [] μ 0
  refine es_aload_n (pc := 0) dL_height_0 rfl ?_
  refine es_iconstN (pc := 1) 0 dL_height_1 ic_0 ?_
  refine es_aload_n (pc := 2) dL_height_2 rfl ?_
  refine es_iload_n (pc := 3) dL_height_3 rfl ?_
  refine es_iload_n (pc := 4) dL_height_4 rfl ?_
  refine es_x2 (pc := 5) (hp := (fun E => if E = 0 then 13 else if E = 1 then 17 else 0)) (val := (fun E => if E = 0 then 1 else if E = 1 then 2 else 0)) (k9 := 4) dL_height_5 mr_9_7 rfl rfl (by decide) (by decide) rfl rfl rfl rfl (Nat.le_of_ble_eq_true rfl) (by decide) (X5_height_ok hR hW) (Nat.le_of_ble_eq_true rfl) ?_ (fun x5 μ5 h5 => ?_)
  · rintro E9 μ9 ⟨⟨c9, h1, h2⟩, h3, h4⟩
    rcases c9 with _ | _ | c9
    · cases h2
      exact ⟨by decide, by decide +kernel, by decide +kernel, dL_height_13, dL_height_15, dL_height_16, _, rfl, QW.er (c := 0) h1 (by decide) h3 h4⟩
    · cases h2
      exact ⟨by decide, by decide +kernel, by decide +kernel, dL_height_17, dL_height_19, dL_height_20, _, rfl, QW.er (c := 1) h1 (by decide) h3 h4⟩
    · simp at h2
  refine es_i2l (pc := 8) dL_height_8 ?_
  refine es_last (pc := 9) dL_height_9 lay_23 (by omega) ?_
  refine es_goto (pc := 10) (tgt := 21) dL_height_10 (by decide) ?_
  refine es_iconstN (pc := 21) 0 dL_height_21 ic_0 ?_
  refine es_ireturn (pc := 22) dL_height_22 rfl (vp_nar_int _) (by decide) ?_
  exact ⟨_, rfl, QW.ok h5⟩
set_option maxHeartbeats 2000000 in
set_option maxRecDepth 20000 in
theorem L_keep_ok {d : Nat} {μ : ev_M} {S : gS} {x : Int32} (hR : RepC μ S) (hW : WFS S) (hd : 5 ≤ d := by omega) : SPi (ev_CALL d) 78 [.ref 0, .int x, .ref 23] μ (QW (op_keep S x) μ) := by
  obtain ⟨d, rfl⟩ : ∃ q, d = q + 1 := ⟨d - 1, by omega⟩
  refine SPi.of (Nat.le_of_ble_eq_true rfl) ?_
  show es (ev_CALL d) 9 cL_keep (some .int) 1 (0, fun _ => 0, [(0, 9, 12, 15)]) (fun r μ2 => ∃ x9 : Int32, r = (some (.int x9), 0) ∧ (QW (op_keep S x) μ) x9 μ2) 0 [.ref 0, .int x, .ref 23, .null] [] μ 0
  refine es_aload_n (pc := 0) dL_keep_0 rfl ?_
  refine es_iconstN (pc := 1) 0 dL_keep_1 ic_0 ?_
  refine es_aload_n (pc := 2) dL_keep_2 rfl ?_
  refine es_iload_n (pc := 3) dL_keep_3 rfl ?_
  refine es_x1n (pc := 4) (hp := (fun E => if E = 1 then 12 else 0)) (val := (fun E => if E = 1 then 1 else 0)) (k9 := 3) dL_keep_4 mr_9_45 rfl rfl (by decide) (by decide) rfl rfl rfl rfl (Nat.le_of_ble_eq_true rfl) (by decide) (X5_keep_ok hR hW) (Nat.le_of_ble_eq_true rfl) ?_ (fun x4 μ4 h4 => ?_)
  · rintro E9 μ9 ⟨⟨c9, h1, h2⟩, h3, h4⟩
    rcases c9 with _ | c9
    · cases h2
      exact ⟨by decide, by decide +kernel, by decide +kernel, dL_keep_12, dL_keep_13, dL_keep_14, _, rfl, QW.er (c := 0) h1 (by decide) h3 h4⟩
    · simp at h2
  refine es_i2l (pc := 7) dL_keep_7 ?_
  refine es_last (pc := 8) dL_keep_8 lay_23 (by omega) ?_
  refine es_goto (pc := 9) (tgt := 15) dL_keep_9 (by decide) ?_
  refine es_iconstN (pc := 15) 0 dL_keep_15 ic_0 ?_
  refine es_ireturn (pc := 16) dL_keep_16 rfl (vp_nar_int _) (by decide) ?_
  exact ⟨_, rfl, QW.ok h4⟩
set_option maxHeartbeats 2000000 in
set_option maxRecDepth 20000 in
theorem L_movesTo_ok {d : Nat} {μ : ev_M} {S : gS} {x y : Int32} (hR : RepC μ S) (hW : WFS S) (hd : 18 ≤ d := by omega) : SPi (ev_CALL d) 97 [.ref 0, .int x, .int y, .ref 23] μ (QW (op_moves S x y) μ) := by
  obtain ⟨d, rfl⟩ : ∃ q, d = q + 1 := ⟨d - 1, by omega⟩
  refine SPi.of (Nat.le_of_ble_eq_true rfl) ?_
  show es (ev_CALL d) 9 cL_movesTo (some .int) 1 (0, fun _ => 0, [(0, 10, 13, 13)]) (fun r μ2 => ∃ x9 : Int32, r = (some (.int x9), 0) ∧ (QW (op_moves S x y) μ) x9 μ2) 0 [.ref 0, .int x, .int y, .ref 23, .null] [] μ 0
  refine es_aload_n (pc := 0) dL_movesTo_0 rfl ?_
  refine es_iconstN (pc := 1) 0 dL_movesTo_1 ic_0 ?_
  refine es_aload_n (pc := 2) dL_movesTo_2 rfl ?_
  refine es_iload_n (pc := 3) dL_movesTo_3 rfl ?_
  refine es_iload_n (pc := 4) dL_movesTo_4 rfl ?_
  refine es_x2 (pc := 5) (hp := (fun E => if E = 0 then 13 else 0)) (val := (fun E => if E = 0 then 1 else 0)) (k9 := 4) dL_movesTo_5 mr_9_73 rfl rfl (by decide) (by decide) rfl rfl rfl rfl (Nat.le_of_ble_eq_true rfl) (by decide) (X5_movesTo_ok hR hW) (Nat.le_of_ble_eq_true rfl) ?_ (fun x5 μ5 h5 => ?_)
  · rintro E9 μ9 ⟨⟨c9, h1, h2⟩, h3, h4⟩
    rcases c9 with _ | c9
    · cases h2
      exact ⟨by decide, by decide +kernel, by decide +kernel, dL_movesTo_13, dL_movesTo_15, dL_movesTo_16, _, rfl, QW.er (c := 0) h1 (by decide) h3 h4⟩
    · simp at h2
  refine es_i2l (pc := 8) dL_movesTo_8 ?_
  refine es_last (pc := 9) dL_movesTo_9 lay_23 (by omega) ?_
  refine es_goto (pc := 10) (tgt := 17) dL_movesTo_10 (by decide) ?_
  refine es_iconstN (pc := 17) 0 dL_movesTo_17 ic_0 ?_
  refine es_ireturn (pc := 18) dL_movesTo_18 rfl (vp_nar_int _) (by decide) ?_
  exact ⟨_, rfl, QW.ok h5⟩
set_option maxHeartbeats 2000000 in
set_option maxRecDepth 20000 in
theorem L_player_ok {d : Nat} {μ : ev_M} {S : gS} {x y : Int32} (hR : RepC μ S) (hW : WFS S) (hd : 5 ≤ d := by omega) : SPi (ev_CALL d) 46 [.ref 0, .int x, .int y, .ref 23] μ (QW (op_player S x y) μ) := by
  obtain ⟨d, rfl⟩ : ∃ q, d = q + 1 := ⟨d - 1, by omega⟩
  refine SPi.of (Nat.le_of_ble_eq_true rfl) ?_
  show es (ev_CALL d) 9 cL_player (some .int) 1 (0, fun _ => 0, [(0, 10, 13, 13), (0, 10, 17, 15), (0, 10, 21, 20)]) (fun r μ2 => ∃ x9 : Int32, r = (some (.int x9), 0) ∧ (QW (op_player S x y) μ) x9 μ2) 0 [.ref 0, .int x, .int y, .ref 23, .null] [] μ 0
  refine es_aload_n (pc := 0) dL_player_0 rfl ?_
  refine es_iconstN (pc := 1) 0 dL_player_1 ic_0 ?_
  refine es_aload_n (pc := 2) dL_player_2 rfl ?_
  refine es_iload_n (pc := 3) dL_player_3 rfl ?_
  refine es_iload_n (pc := 4) dL_player_4 rfl ?_
  refine es_x2 (pc := 5) (hp := (fun E => if E = 0 then 13 else if E = 1 then 17 else if E = 2 then 21 else 0)) (val := (fun E => if E = 0 then 1 else if E = 1 then 2 else if E = 2 then 3 else 0)) (k9 := 4) dL_player_5 mr_9_17 rfl rfl (by decide) (by decide) rfl rfl rfl rfl (Nat.le_of_ble_eq_true rfl) (by decide) (X5_player_ok hR hW) (Nat.le_of_ble_eq_true rfl) ?_ (fun x5 μ5 h5 => ?_)
  · rintro E9 μ9 ⟨⟨c9, h1, h2⟩, h3, h4⟩
    rcases c9 with _ | _ | _ | c9
    · cases h2
      exact ⟨by decide, by decide +kernel, by decide +kernel, dL_player_13, dL_player_15, dL_player_16, _, rfl, QW.er (c := 0) h1 (by decide) h3 h4⟩
    · cases h2
      exact ⟨by decide, by decide +kernel, by decide +kernel, dL_player_17, dL_player_19, dL_player_20, _, rfl, QW.er (c := 1) h1 (by decide) h3 h4⟩
    · cases h2
      exact ⟨by decide, by decide +kernel, by decide +kernel, dL_player_21, dL_player_23, dL_player_24, _, rfl, QW.er (c := 2) h1 (by decide) h3 h4⟩
    · simp at h2
  refine es_i2l (pc := 8) dL_player_8 ?_
  refine es_last (pc := 9) dL_player_9 lay_23 (by omega) ?_
  refine es_goto (pc := 10) (tgt := 25) dL_player_10 (by decide) ?_
  refine es_iconstN (pc := 25) 0 dL_player_25 ic_0 ?_
  refine es_ireturn (pc := 26) dL_player_26 rfl (vp_nar_int _) (by decide) ?_
  exact ⟨_, rfl, QW.ok h5⟩
set_option maxHeartbeats 2000000 in
set_option maxRecDepth 20000 in
theorem L_playerOf_ok {d : Nat} {μ : ev_M} {S : gS} {x y : Int32} (hR : RepC μ S) (hW : WFS S) (hd : 7 ≤ d := by omega) : SPi (ev_CALL d) 87 [.ref 0, .int x, .int y, .ref 23] μ (QW (op_playerOf S x y) μ) := by
  obtain ⟨d, rfl⟩ : ∃ q, d = q + 1 := ⟨d - 1, by omega⟩
  refine SPi.of (Nat.le_of_ble_eq_true rfl) ?_
  show es (ev_CALL d) 9 cL_playerOf (some .int) 1 (0, fun _ => 0, [(0, 10, 13, 13), (0, 10, 17, 15)]) (fun r μ2 => ∃ x9 : Int32, r = (some (.int x9), 0) ∧ (QW (op_playerOf S x y) μ) x9 μ2) 0 [.ref 0, .int x, .int y, .ref 23, .null] [] μ 0
  refine es_aload_n (pc := 0) dL_playerOf_0 rfl ?_
  refine es_iconstN (pc := 1) 0 dL_playerOf_1 ic_0 ?_
  refine es_aload_n (pc := 2) dL_playerOf_2 rfl ?_
  refine es_iload_n (pc := 3) dL_playerOf_3 rfl ?_
  refine es_iload_n (pc := 4) dL_playerOf_4 rfl ?_
  refine es_x2 (pc := 5) (hp := (fun E => if E = 0 then 13 else if E = 1 then 17 else 0)) (val := (fun E => if E = 0 then 1 else if E = 1 then 2 else 0)) (k9 := 4) dL_playerOf_5 mr_9_57 rfl rfl (by decide) (by decide) rfl rfl rfl rfl (Nat.le_of_ble_eq_true rfl) (by decide) (X5_playerOf_ok hR hW) (Nat.le_of_ble_eq_true rfl) ?_ (fun x5 μ5 h5 => ?_)
  · rintro E9 μ9 ⟨⟨c9, h1, h2⟩, h3, h4⟩
    rcases c9 with _ | _ | c9
    · cases h2
      exact ⟨by decide, by decide +kernel, by decide +kernel, dL_playerOf_13, dL_playerOf_15, dL_playerOf_16, _, rfl, QW.er (c := 0) h1 (by decide) h3 h4⟩
    · cases h2
      exact ⟨by decide, by decide +kernel, by decide +kernel, dL_playerOf_17, dL_playerOf_19, dL_playerOf_20, _, rfl, QW.er (c := 1) h1 (by decide) h3 h4⟩
    · simp at h2
  refine es_i2l (pc := 8) dL_playerOf_8 ?_
  refine es_last (pc := 9) dL_playerOf_9 lay_23 (by omega) ?_
  refine es_goto (pc := 10) (tgt := 21) dL_playerOf_10 (by decide) ?_
  refine es_iconstN (pc := 21) 0 dL_playerOf_21 ic_0 ?_
  refine es_ireturn (pc := 22) dL_playerOf_22 rfl (vp_nar_int _) (by decide) ?_
  exact ⟨_, rfl, QW.ok h5⟩
set_option maxHeartbeats 2000000 in
set_option maxRecDepth 20000 in
theorem L_price_ok {d : Nat} {μ : ev_M} {S : gS} {x y z : Int32} (hR : RepC μ S) (hW : WFS S) (hd : 6 ≤ d := by omega) : SPi (ev_CALL d) 93 [.ref 0, .int x, .int y, .int z, .ref 23] μ (QW (op_price S x y z) μ) := by
  obtain ⟨d, rfl⟩ : ∃ q, d = q + 1 := ⟨d - 1, by omega⟩
  refine SPi.of (Nat.le_of_ble_eq_true rfl) ?_
  show es (ev_CALL d) 9 cL_price (some .int) 1 (0, fun _ => 0, [(0, 12, 15, 13), (0, 12, 19, 15)]) (fun r μ2 => ∃ x9 : Int32, r = (some (.int x9), 0) ∧ (QW (op_price S x y z) μ) x9 μ2) 0 [.ref 0, .int x, .int y, .int z, .ref 23, .null] [] μ 0
  refine es_aload (pc := 0) dL_price_0 rfl ?_
  refine es_iconstN (pc := 2) 0 dL_price_2 ic_0 ?_
  refine es_aload_n (pc := 3) dL_price_3 rfl ?_
  refine es_iload_n (pc := 4) dL_price_4 rfl ?_
  refine es_iload_n (pc := 5) dL_price_5 rfl ?_
  refine es_iload_n (pc := 6) dL_price_6 rfl ?_
  refine es_x3 (pc := 7) (hp := (fun E => if E = 0 then 15 else if E = 1 then 19 else 0)) (val := (fun E => if E = 0 then 1 else if E = 1 then 2 else 0)) (k9 := 5) dL_price_7 mr_9_66 rfl rfl (by decide) (by decide) rfl rfl rfl rfl (Nat.le_of_ble_eq_true rfl) (by decide) (X5_price_ok hR hW) (Nat.le_of_ble_eq_true rfl) ?_ (fun x7 μ7 h7 => ?_)
  · rintro E9 μ9 ⟨⟨c9, h1, h2⟩, h3, h4⟩
    rcases c9 with _ | _ | c9
    · cases h2
      exact ⟨by decide, by decide +kernel, by decide +kernel, dL_price_15, dL_price_17, dL_price_18, _, rfl, QW.er (c := 0) h1 (by decide) h3 h4⟩
    · cases h2
      exact ⟨by decide, by decide +kernel, by decide +kernel, dL_price_19, dL_price_21, dL_price_22, _, rfl, QW.er (c := 1) h1 (by decide) h3 h4⟩
    · simp at h2
  refine es_i2l (pc := 10) dL_price_10 ?_
  refine es_last (pc := 11) dL_price_11 lay_23 (by omega) ?_
  refine es_goto (pc := 12) (tgt := 23) dL_price_12 (by decide) ?_
  refine es_iconstN (pc := 23) 0 dL_price_23 ic_0 ?_
  refine es_ireturn (pc := 24) dL_price_24 rfl (vp_nar_int _) (by decide) ?_
  exact ⟨_, rfl, QW.ok h7⟩
set_option maxHeartbeats 2000000 in
set_option maxRecDepth 20000 in
theorem L_rest_ok {d : Nat} {μ : ev_M} {S : gS} (hR : RepC μ S) (hW : WFS S) (hd : 5 ≤ d := by omega) : SPi (ev_CALL d) 52 [.ref 0, .ref 23] μ (QW (op_rest S) μ) := by
  obtain ⟨d, rfl⟩ : ∃ q, d = q + 1 := ⟨d - 1, by omega⟩
  refine SPi.of (Nat.le_of_ble_eq_true rfl) ?_
  show es (ev_CALL d) 9 cL_rest (some .int) 1 (0, fun _ => 0, [(0, 8, 11, 20)]) (fun r μ2 => ∃ x9 : Int32, r = (some (.int x9), 0) ∧ (QW (op_rest S) μ) x9 μ2) 0 [.ref 0, .ref 23, .null] [] μ 0
  refine es_aload_n (pc := 0) dL_rest_0 rfl ?_
  refine es_iconstN (pc := 1) 0 dL_rest_1 ic_0 ?_
  refine es_aload_n (pc := 2) dL_rest_2 rfl ?_
  refine es_x0n (pc := 3) (hp := (fun E => if E = 2 then 11 else 0)) (val := (fun E => if E = 2 then 1 else 0)) (k9 := 2) dL_rest_3 mr_9_25 rfl rfl (by decide) (by decide) rfl rfl rfl rfl (Nat.le_of_ble_eq_true rfl) (by decide) (X5_rest_ok hR hW) (Nat.le_of_ble_eq_true rfl) ?_ (fun x3 μ3 h3 => ?_)
  · rintro E9 μ9 ⟨⟨c9, h1, h2⟩, h3, h4⟩
    rcases c9 with _ | c9
    · cases h2
      exact ⟨by decide, by decide +kernel, by decide +kernel, dL_rest_11, dL_rest_12, dL_rest_13, _, rfl, QW.er (c := 0) h1 (by decide) h3 h4⟩
    · simp at h2
  refine es_i2l (pc := 6) dL_rest_6 ?_
  refine es_last (pc := 7) dL_rest_7 lay_23 (by omega) ?_
  refine es_goto (pc := 8) (tgt := 14) dL_rest_8 (by decide) ?_
  refine es_iconstN (pc := 14) 0 dL_rest_14 ic_0 ?_
  refine es_ireturn (pc := 15) dL_rest_15 rfl (vp_nar_int _) (by decide) ?_
  exact ⟨_, rfl, QW.ok h3⟩
set_option maxHeartbeats 2000000 in
set_option maxRecDepth 20000 in
theorem L_run_ok {d : Nat} {μ : ev_M} {S : gS} (hR : RepC μ S) (hW : WFS S) (hd : 9 ≤ d := by omega) : SPi (ev_CALL d) 71 [.ref 0, .ref 23] μ (QW (op_run S) μ) := by
  obtain ⟨d, rfl⟩ : ∃ q, d = q + 1 := ⟨d - 1, by omega⟩
  refine SPi.of (Nat.le_of_ble_eq_true rfl) ?_
  show es (ev_CALL d) 9 cL_run (some .int) 1 (0, fun _ => 0, [(0, 8, 11, 15)]) (fun r μ2 => ∃ x9 : Int32, r = (some (.int x9), 0) ∧ (QW (op_run S) μ) x9 μ2) 0 [.ref 0, .ref 23, .null] [] μ 0
  refine es_aload_n (pc := 0) dL_run_0 rfl ?_
  refine es_iconstN (pc := 1) 0 dL_run_1 ic_0 ?_
  refine es_aload_n (pc := 2) dL_run_2 rfl ?_
  refine es_x0n (pc := 3) (hp := (fun E => if E = 1 then 11 else 0)) (val := (fun E => if E = 1 then 1 else 0)) (k9 := 2) dL_run_3 mr_9_42 rfl rfl (by decide) (by decide) rfl rfl rfl rfl (Nat.le_of_ble_eq_true rfl) (by decide) (X5_run_ok hR hW) (Nat.le_of_ble_eq_true rfl) ?_ (fun x3 μ3 h3 => ?_)
  · rintro E9 μ9 ⟨⟨c9, h1, h2⟩, h3, h4⟩
    rcases c9 with _ | c9
    · cases h2
      exact ⟨by decide, by decide +kernel, by decide +kernel, dL_run_11, dL_run_12, dL_run_13, _, rfl, QW.er (c := 0) h1 (by decide) h3 h4⟩
    · simp at h2
  refine es_i2l (pc := 6) dL_run_6 ?_
  refine es_last (pc := 7) dL_run_7 lay_23 (by omega) ?_
  refine es_goto (pc := 8) (tgt := 14) dL_run_8 (by decide) ?_
  refine es_iconstN (pc := 14) 0 dL_run_14 ic_0 ?_
  refine es_ireturn (pc := 15) dL_run_15 rfl (vp_nar_int _) (by decide) ?_
  exact ⟨_, rfl, QW.ok h3⟩
set_option maxHeartbeats 2000000 in
set_option maxRecDepth 20000 in
theorem L_set_ok {d : Nat} {μ : ev_M} {S : gS} {x y : Int32} (hR : RepC μ S) (hW : WFS S) (hd : 5 ≤ d := by omega) : SPi (ev_CALL d) 49 [.ref 0, .int x, .int y, .ref 23] μ (QW (op_set S x y) μ) := by
  obtain ⟨d, rfl⟩ : ∃ q, d = q + 1 := ⟨d - 1, by omega⟩
  refine SPi.of (Nat.le_of_ble_eq_true rfl) ?_
  show es (ev_CALL d) 9 cL_set (some .int) 1 (0, fun _ => 0, [(0, 10, 13, 13), (0, 10, 17, 15)]) (fun r μ2 => ∃ x9 : Int32, r = (some (.int x9), 0) ∧ (QW (op_set S x y) μ) x9 μ2) 0 [.ref 0, .int x, .int y, .ref 23, .null] [] μ 0
  refine es_aload_n (pc := 0) dL_set_0 rfl ?_
  refine es_iconstN (pc := 1) 0 dL_set_1 ic_0 ?_
  refine es_aload_n (pc := 2) dL_set_2 rfl ?_
  refine es_iload_n (pc := 3) dL_set_3 rfl ?_
  refine es_iload_n (pc := 4) dL_set_4 rfl ?_
  refine es_x2 (pc := 5) (hp := (fun E => if E = 0 then 13 else if E = 1 then 17 else 0)) (val := (fun E => if E = 0 then 1 else if E = 1 then 2 else 0)) (k9 := 4) dL_set_5 mr_9_22 rfl rfl (by decide) (by decide) rfl rfl rfl rfl (Nat.le_of_ble_eq_true rfl) (by decide) (X5_set_ok hR hW) (Nat.le_of_ble_eq_true rfl) ?_ (fun x5 μ5 h5 => ?_)
  · rintro E9 μ9 ⟨⟨c9, h1, h2⟩, h3, h4⟩
    rcases c9 with _ | _ | c9
    · cases h2
      exact ⟨by decide, by decide +kernel, by decide +kernel, dL_set_13, dL_set_15, dL_set_16, _, rfl, QW.er (c := 0) h1 (by decide) h3 h4⟩
    · cases h2
      exact ⟨by decide, by decide +kernel, by decide +kernel, dL_set_17, dL_set_19, dL_set_20, _, rfl, QW.er (c := 1) h1 (by decide) h3 h4⟩
    · simp at h2
  refine es_i2l (pc := 8) dL_set_8 ?_
  refine es_last (pc := 9) dL_set_9 lay_23 (by omega) ?_
  refine es_goto (pc := 10) (tgt := 21) dL_set_10 (by decide) ?_
  refine es_iconstN (pc := 21) 0 dL_set_21 ic_0 ?_
  refine es_ireturn (pc := 22) dL_set_22 rfl (vp_nar_int _) (by decide) ?_
  exact ⟨_, rfl, QW.ok h5⟩
set_option maxHeartbeats 2000000 in
set_option maxRecDepth 20000 in
theorem L_setting_ok {d : Nat} {μ : ev_M} {S : gS} {x : Int32} (hR : RepC μ S) (hW : WFS S) (hd : 4 ≤ d := by omega) : SPi (ev_CALL d) 91 [.ref 0, .int x, .ref 23] μ (QW (op_setting S x) μ) := by
  obtain ⟨d, rfl⟩ : ∃ q, d = q + 1 := ⟨d - 1, by omega⟩
  refine SPi.of (Nat.le_of_ble_eq_true rfl) ?_
  show es (ev_CALL d) 9 cL_setting (some .int) 1 (0, fun _ => 0, [(0, 9, 12, 13)]) (fun r μ2 => ∃ x9 : Int32, r = (some (.int x9), 0) ∧ (QW (op_setting S x) μ) x9 μ2) 0 [.ref 0, .int x, .ref 23, .null] [] μ 0
  refine es_aload_n (pc := 0) dL_setting_0 rfl ?_
  refine es_iconstN (pc := 1) 0 dL_setting_1 ic_0 ?_
  refine es_aload_n (pc := 2) dL_setting_2 rfl ?_
  refine es_iload_n (pc := 3) dL_setting_3 rfl ?_
  refine es_x1n (pc := 4) (hp := (fun E => if E = 0 then 12 else 0)) (val := (fun E => if E = 0 then 1 else 0)) (k9 := 3) dL_setting_4 mr_9_63 rfl rfl (by decide) (by decide) rfl rfl rfl rfl (Nat.le_of_ble_eq_true rfl) (by decide) (X5_setting_ok hR hW) (Nat.le_of_ble_eq_true rfl) ?_ (fun x4 μ4 h4 => ?_)
  · rintro E9 μ9 ⟨⟨c9, h1, h2⟩, h3, h4⟩
    rcases c9 with _ | c9
    · cases h2
      exact ⟨by decide, by decide +kernel, by decide +kernel, dL_setting_12, dL_setting_13, dL_setting_14, _, rfl, QW.er (c := 0) h1 (by decide) h3 h4⟩
    · simp at h2
  refine es_i2l (pc := 7) dL_setting_7 ?_
  refine es_last (pc := 8) dL_setting_8 lay_23 (by omega) ?_
  refine es_goto (pc := 9) (tgt := 15) dL_setting_9 (by decide) ?_
  refine es_iconstN (pc := 15) 0 dL_setting_15 ic_0 ?_
  refine es_ireturn (pc := 16) dL_setting_16 rfl (vp_nar_int _) (by decide) ?_
  exact ⟨_, rfl, QW.ok h4⟩
set_option maxHeartbeats 2000000 in
set_option maxRecDepth 20000 in
theorem L_stride_ok {d : Nat} {μ : ev_M} {S : gS} {x : Int32} (hR : RepC μ S) (hW : WFS S) (hd : 7 ≤ d := by omega) : SPi (ev_CALL d) 56 [.ref 0, .int x, .ref 23] μ (QW (op_stride S x) μ) := by
  obtain ⟨d, rfl⟩ : ∃ q, d = q + 1 := ⟨d - 1, by omega⟩
  refine SPi.of (Nat.le_of_ble_eq_true rfl) ?_
  show es (ev_CALL d) 9 cL_stride (some .int) 1 (0, fun _ => 0, [(0, 9, 12, 13), (0, 9, 15, 20)]) (fun r μ2 => ∃ x9 : Int32, r = (some (.int x9), 0) ∧ (QW (op_stride S x) μ) x9 μ2) 0 [.ref 0, .int x, .ref 23, .null] [] μ 0
  refine es_aload_n (pc := 0) dL_stride_0 rfl ?_
  refine es_iconstN (pc := 1) 0 dL_stride_1 ic_0 ?_
  refine es_aload_n (pc := 2) dL_stride_2 rfl ?_
  refine es_iload_n (pc := 3) dL_stride_3 rfl ?_
  refine es_x1n (pc := 4) (hp := (fun E => if E = 0 then 12 else if E = 2 then 15 else 0)) (val := (fun E => if E = 0 then 1 else if E = 2 then 2 else 0)) (k9 := 3) dL_stride_4 mr_9_29 rfl rfl (by decide) (by decide) rfl rfl rfl rfl (Nat.le_of_ble_eq_true rfl) (by decide) (X5_stride_ok hR hW) (Nat.le_of_ble_eq_true rfl) ?_ (fun x4 μ4 h4 => ?_)
  · rintro E9 μ9 ⟨⟨c9, h1, h2⟩, h3, h4⟩
    rcases c9 with _ | _ | c9
    · cases h2
      exact ⟨by decide, by decide +kernel, by decide +kernel, dL_stride_12, dL_stride_13, dL_stride_14, _, rfl, QW.er (c := 0) h1 (by decide) h3 h4⟩
    · cases h2
      exact ⟨by decide, by decide +kernel, by decide +kernel, dL_stride_15, dL_stride_16, dL_stride_17, _, rfl, QW.er (c := 1) h1 (by decide) h3 h4⟩
    · simp at h2
  refine es_i2l (pc := 7) dL_stride_7 ?_
  refine es_last (pc := 8) dL_stride_8 lay_23 (by omega) ?_
  refine es_goto (pc := 9) (tgt := 18) dL_stride_9 (by decide) ?_
  refine es_iconstN (pc := 18) 0 dL_stride_18 ic_0 ?_
  refine es_ireturn (pc := 19) dL_stride_19 rfl (vp_nar_int _) (by decide) ?_
  exact ⟨_, rfl, QW.ok h4⟩
set_option maxHeartbeats 2000000 in
set_option maxRecDepth 20000 in
theorem L_tag_ok {d : Nat} {μ : ev_M} {S : gS} {x : Int32} (hR : RepC μ S) (hW : WFS S) (hd : 7 ≤ d := by omega) : SPi (ev_CALL d) 64 [.ref 0, .int x, .ref 23] μ (QW (op_tag S x) μ) := by
  obtain ⟨d, rfl⟩ : ∃ q, d = q + 1 := ⟨d - 1, by omega⟩
  refine SPi.of (Nat.le_of_ble_eq_true rfl) ?_
  show es (ev_CALL d) 9 cL_tag (some .int) 1 (0, fun _ => 0, [(0, 9, 12, 13), (0, 9, 15, 20)]) (fun r μ2 => ∃ x9 : Int32, r = (some (.int x9), 0) ∧ (QW (op_tag S x) μ) x9 μ2) 0 [.ref 0, .int x, .ref 23, .null] [] μ 0
  refine es_aload_n (pc := 0) dL_tag_0 rfl ?_
  refine es_iconstN (pc := 1) 0 dL_tag_1 ic_0 ?_
  refine es_aload_n (pc := 2) dL_tag_2 rfl ?_
  refine es_iload_n (pc := 3) dL_tag_3 rfl ?_
  refine es_x1n (pc := 4) (hp := (fun E => if E = 0 then 12 else if E = 2 then 15 else 0)) (val := (fun E => if E = 0 then 1 else if E = 2 then 2 else 0)) (k9 := 3) dL_tag_4 mr_9_36 rfl rfl (by decide) (by decide) rfl rfl rfl rfl (Nat.le_of_ble_eq_true rfl) (by decide) (X5_tag_ok hR hW) (Nat.le_of_ble_eq_true rfl) ?_ (fun x4 μ4 h4 => ?_)
  · rintro E9 μ9 ⟨⟨c9, h1, h2⟩, h3, h4⟩
    rcases c9 with _ | _ | c9
    · cases h2
      exact ⟨by decide, by decide +kernel, by decide +kernel, dL_tag_12, dL_tag_13, dL_tag_14, _, rfl, QW.er (c := 0) h1 (by decide) h3 h4⟩
    · cases h2
      exact ⟨by decide, by decide +kernel, by decide +kernel, dL_tag_15, dL_tag_16, dL_tag_17, _, rfl, QW.er (c := 1) h1 (by decide) h3 h4⟩
    · simp at h2
  refine es_i2l (pc := 7) dL_tag_7 ?_
  refine es_last (pc := 8) dL_tag_8 lay_23 (by omega) ?_
  refine es_goto (pc := 9) (tgt := 18) dL_tag_9 (by decide) ?_
  refine es_iconstN (pc := 18) 0 dL_tag_18 ic_0 ?_
  refine es_ireturn (pc := 19) dL_tag_19 rfl (vp_nar_int _) (by decide) ?_
  exact ⟨_, rfl, QW.ok h4⟩
set_option maxHeartbeats 2000000 in
set_option maxRecDepth 20000 in
theorem L_tower_ok {d : Nat} {μ : ev_M} {S : gS} {x y : Int32} (hR : RepC μ S) (hW : WFS S) (hd : 6 ≤ d := by omega) : SPi (ev_CALL d) 85 [.ref 0, .int x, .int y, .ref 23] μ (QW (op_tower S x y) μ) := by
  obtain ⟨d, rfl⟩ : ∃ q, d = q + 1 := ⟨d - 1, by omega⟩
  refine SPi.of (Nat.le_of_ble_eq_true rfl) ?_
  show es (ev_CALL d) 9 cL_tower (some .int) 1 (0, fun _ => 0, [(0, 10, 13, 13), (0, 10, 17, 15)]) (fun r μ2 => ∃ x9 : Int32, r = (some (.int x9), 0) ∧ (QW (op_tower S x y) μ) x9 μ2) 0 [.ref 0, .int x, .int y, .ref 23, .null] [] μ 0
  refine es_aload_n (pc := 0) dL_tower_0 rfl ?_
  refine es_iconstN (pc := 1) 0 dL_tower_1 ic_0 ?_
  refine es_aload_n (pc := 2) dL_tower_2 rfl ?_
  refine es_iload_n (pc := 3) dL_tower_3 rfl ?_
  refine es_iload_n (pc := 4) dL_tower_4 rfl ?_
  refine es_x2 (pc := 5) (hp := (fun E => if E = 0 then 13 else if E = 1 then 17 else 0)) (val := (fun E => if E = 0 then 1 else if E = 1 then 2 else 0)) (k9 := 4) dL_tower_5 mr_9_54 rfl rfl (by decide) (by decide) rfl rfl rfl rfl (Nat.le_of_ble_eq_true rfl) (by decide) (X5_tower_ok hR hW) (Nat.le_of_ble_eq_true rfl) ?_ (fun x5 μ5 h5 => ?_)
  · rintro E9 μ9 ⟨⟨c9, h1, h2⟩, h3, h4⟩
    rcases c9 with _ | _ | c9
    · cases h2
      exact ⟨by decide, by decide +kernel, by decide +kernel, dL_tower_13, dL_tower_15, dL_tower_16, _, rfl, QW.er (c := 0) h1 (by decide) h3 h4⟩
    · cases h2
      exact ⟨by decide, by decide +kernel, by decide +kernel, dL_tower_17, dL_tower_19, dL_tower_20, _, rfl, QW.er (c := 1) h1 (by decide) h3 h4⟩
    · simp at h2
  refine es_i2l (pc := 8) dL_tower_8 ?_
  refine es_last (pc := 9) dL_tower_9 lay_23 (by omega) ?_
  refine es_goto (pc := 10) (tgt := 21) dL_tower_10 (by decide) ?_
  refine es_iconstN (pc := 21) 0 dL_tower_21 ic_0 ?_
  refine es_ireturn (pc := 22) dL_tower_22 rfl (vp_nar_int _) (by decide) ?_
  exact ⟨_, rfl, QW.ok h5⟩
set_option maxHeartbeats 2000000 in
set_option maxRecDepth 20000 in
theorem L_turnOver_ok {d : Nat} {μ : ev_M} {S : gS} (hR : RepC μ S) (hW : WFS S) (hd : 7 ≤ d := by omega) : SPi (ev_CALL d) 61 [.ref 0, .ref 23] μ (QW (op_turn S) μ) := by
  obtain ⟨d, rfl⟩ : ∃ q, d = q + 1 := ⟨d - 1, by omega⟩
  refine SPi.of (Nat.le_of_ble_eq_true rfl) ?_
  show es (ev_CALL d) 9 cL_turnOver (some .int) 1 (0, fun _ => 0, [(0, 8, 11, 20)]) (fun r μ2 => ∃ x9 : Int32, r = (some (.int x9), 0) ∧ (QW (op_turn S) μ) x9 μ2) 0 [.ref 0, .ref 23, .null] [] μ 0
  refine es_aload_n (pc := 0) dL_turnOver_0 rfl ?_
  refine es_iconstN (pc := 1) 0 dL_turnOver_1 ic_0 ?_
  refine es_aload_n (pc := 2) dL_turnOver_2 rfl ?_
  refine es_x0n (pc := 3) (hp := (fun E => if E = 2 then 11 else 0)) (val := (fun E => if E = 2 then 1 else 0)) (k9 := 2) dL_turnOver_3 mr_9_33 rfl rfl (by decide) (by decide) rfl rfl rfl rfl (Nat.le_of_ble_eq_true rfl) (by decide) (X5_turnOver_ok hR hW) (Nat.le_of_ble_eq_true rfl) ?_ (fun x3 μ3 h3 => ?_)
  · rintro E9 μ9 ⟨⟨c9, h1, h2⟩, h3, h4⟩
    rcases c9 with _ | c9
    · cases h2
      exact ⟨by decide, by decide +kernel, by decide +kernel, dL_turnOver_11, dL_turnOver_12, dL_turnOver_13, _, rfl, QW.er (c := 0) h1 (by decide) h3 h4⟩
    · simp at h2
  refine es_i2l (pc := 6) dL_turnOver_6 ?_
  refine es_last (pc := 7) dL_turnOver_7 lay_23 (by omega) ?_
  refine es_goto (pc := 8) (tgt := 14) dL_turnOver_8 (by decide) ?_
  refine es_iconstN (pc := 14) 0 dL_turnOver_14 ic_0 ?_
  refine es_ireturn (pc := 15) dL_turnOver_15 rfl (vp_nar_int _) (by decide) ?_
  exact ⟨_, rfl, QW.ok h3⟩
set_option maxHeartbeats 2000000 in
set_option maxRecDepth 20000 in
theorem L_undo_ok {d : Nat} {μ : ev_M} {S : gS} (hR : RepC μ S) (hW : WFS S) (hd : 5 ≤ d := by omega) : SPi (ev_CALL d) 82 [.ref 0, .ref 23] μ (QW (op_undo S) μ) := by
  obtain ⟨d, rfl⟩ : ∃ q, d = q + 1 := ⟨d - 1, by omega⟩
  refine SPi.of (Nat.le_of_ble_eq_true rfl) ?_
  show es (ev_CALL d) 9 cL_undo (some .int) 1 (0, fun _ => 0, [(0, 8, 11, 20)]) (fun r μ2 => ∃ x9 : Int32, r = (some (.int x9), 0) ∧ (QW (op_undo S) μ) x9 μ2) 0 [.ref 0, .ref 23, .null] [] μ 0
  refine es_aload_n (pc := 0) dL_undo_0 rfl ?_
  refine es_iconstN (pc := 1) 0 dL_undo_1 ic_0 ?_
  refine es_aload_n (pc := 2) dL_undo_2 rfl ?_
  refine es_x0n (pc := 3) (hp := (fun E => if E = 2 then 11 else 0)) (val := (fun E => if E = 2 then 1 else 0)) (k9 := 2) dL_undo_3 mr_9_51 rfl rfl (by decide) (by decide) rfl rfl rfl rfl (Nat.le_of_ble_eq_true rfl) (by decide) (X5_undo_ok hR hW) (Nat.le_of_ble_eq_true rfl) ?_ (fun x3 μ3 h3 => ?_)
  · rintro E9 μ9 ⟨⟨c9, h1, h2⟩, h3, h4⟩
    rcases c9 with _ | c9
    · cases h2
      exact ⟨by decide, by decide +kernel, by decide +kernel, dL_undo_11, dL_undo_12, dL_undo_13, _, rfl, QW.er (c := 0) h1 (by decide) h3 h4⟩
    · simp at h2
  refine es_i2l (pc := 6) dL_undo_6 ?_
  refine es_last (pc := 7) dL_undo_7 lay_23 (by omega) ?_
  refine es_goto (pc := 8) (tgt := 14) dL_undo_8 (by decide) ?_
  refine es_iconstN (pc := 14) 0 dL_undo_14 ic_0 ?_
  refine es_ireturn (pc := 15) dL_undo_15 rfl (vp_nar_int _) (by decide) ?_
  exact ⟨_, rfl, QW.ok h3⟩
set_option maxHeartbeats 2000000 in
set_option maxRecDepth 20000 in
theorem L_whyNot_ok {d : Nat} {μ : ev_M} {S : gS} {x y : Int32} (hR : RepC μ S) (hW : WFS S) (hd : 6 ≤ d := by omega) : SPi (ev_CALL d) 95 [.ref 0, .int x, .int y, .ref 23] μ (QW (op_whyNot S x y) μ) := by
  obtain ⟨d, rfl⟩ : ∃ q, d = q + 1 := ⟨d - 1, by omega⟩
  refine SPi.of (Nat.le_of_ble_eq_true rfl) ?_
  show es (ev_CALL d) 9 cL_whyNot (some .int) 1 (0, fun _ => 0, [(0, 10, 13, 13)]) (fun r μ2 => ∃ x9 : Int32, r = (some (.int x9), 0) ∧ (QW (op_whyNot S x y) μ) x9 μ2) 0 [.ref 0, .int x, .int y, .ref 23, .null] [] μ 0
  refine es_aload_n (pc := 0) dL_whyNot_0 rfl ?_
  refine es_iconstN (pc := 1) 0 dL_whyNot_1 ic_0 ?_
  refine es_aload_n (pc := 2) dL_whyNot_2 rfl ?_
  refine es_iload_n (pc := 3) dL_whyNot_3 rfl ?_
  refine es_iload_n (pc := 4) dL_whyNot_4 rfl ?_
  refine es_x2 (pc := 5) (hp := (fun E => if E = 0 then 13 else 0)) (val := (fun E => if E = 0 then 1 else 0)) (k9 := 4) dL_whyNot_5 mr_9_70 rfl rfl (by decide) (by decide) rfl rfl rfl rfl (Nat.le_of_ble_eq_true rfl) (by decide) (X5_whyNot_ok hR hW) (Nat.le_of_ble_eq_true rfl) ?_ (fun x5 μ5 h5 => ?_)
  · rintro E9 μ9 ⟨⟨c9, h1, h2⟩, h3, h4⟩
    rcases c9 with _ | c9
    · cases h2
      exact ⟨by decide, by decide +kernel, by decide +kernel, dL_whyNot_13, dL_whyNot_15, dL_whyNot_16, _, rfl, QW.er (c := 0) h1 (by decide) h3 h4⟩
    · simp at h2
  refine es_i2l (pc := 8) dL_whyNot_8 ?_
  refine es_last (pc := 9) dL_whyNot_9 lay_23 (by omega) ?_
  refine es_goto (pc := 10) (tgt := 17) dL_whyNot_10 (by decide) ?_
  refine es_iconstN (pc := 17) 0 dL_whyNot_17 ic_0 ?_
  refine es_ireturn (pc := 18) dL_whyNot_18 rfl (vp_nar_int _) (by decide) ?_
  exact ⟨_, rfl, QW.ok h5⟩
