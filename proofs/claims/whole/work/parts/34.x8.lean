theorem gm_sum_z {f : Nat → Int32} {z : Int32} : ∀ {n : Nat}, gm_sum f z n = z + gm_sum f 0 n
  | 0 => (Int32.add_zero z).symm
  | n + 1 => by
    show gm_sum f z n + f n = z + (gm_sum f 0 n + f n)
    rw [gm_sum_z (n := n), Int32.add_assoc]
theorem gm_sum_two {f g : Nat → Int32} : ∀ {n : Nat}, gm_sum (fun k => f k + g k) (nI 0) n = gm_sum f (gm_sum g (nI 0) n) n
  | 0 => rfl
  | n + 1 => by
    show gm_sum (fun k => f k + g k) (nI 0) n + (f n + g n) = gm_sum f (gm_sum g (nI 0) n + g n) n + f n
    rw [gm_sum_two, gm_sum_z (z := gm_sum g (nI 0) n), gm_sum_z (z := gm_sum g (nI 0) n + g n)]
    rw [Int32.add_assoc, Int32.add_assoc, Int32.add_assoc]
    congr 1
    rw [← Int32.add_assoc, Int32.add_comm (g n)]
def gm_bits (m : Int32) : Nat → Int32
  | 0 => nI 0
  | k + 1 => gm_bits m k + ((m >>> (nI k &&& 31)) &&& nI 1)
set_option maxHeartbeats 2000000 in
set_option maxRecDepth 20000 in
theorem X6_standing_ok {d : Nat} {μ : ev_M} {R : gm_R} {t : Nat} (hr : mR μ = R) (hW : WFr R) (ht : t < 10 := by omega) (hd : 2 ≤ d := by omega) : ev_CALL d 145 [.ref 14, .int (nI t)] μ (some (.int (gm_mask (fun k => decide (R (31 + 7 * k) = nI t)) (rP R))), 0) μ := by
  obtain ⟨d, rfl⟩ : ∃ q, d = q + 1 := ⟨d - 1, by omega⟩
  refine SPp.of (Nat.le_of_ble_eq_true rfl) ?_
  show es (ev_CALL d) 6 cX6_standing (some .int) 0 (0, fun _ => 0, []) (fun r μ2 => r = (some (.int (gm_mask (fun k => decide (R (31 + 7 * k) = nI t)) (rP R))), 0) ∧ μ2 = μ) 0 [.ref 14, .int (nI t), .null, .null] [] μ 0
  obtain ⟨wP, wP4, won, won4, wit, wit4, wpl, wpb, wlt⟩ := WM.of hr hW
  have rr : ∀ j, j < 59 → μ 15 j = R j := fun j hj => by rw [← hr, mR_r hj]
  have hl4 : ∀ (n9 : Nat) (m : Int32) (k : Nat), n9 = (rP R) - k → (k ≤ (rP R)) → (m = gm_mask (fun k => decide (R (31 + 7 * k) = nI t)) k) → es (ev_CALL d) 6 cX6_standing (some .int) 0 (0, fun _ => 0, []) (fun r μ2 => r = (some (.int (gm_mask (fun k => decide (R (31 + 7 * k) = nI t)) (rP R))), 0) ∧ μ2 = μ) 4 [.ref 14, .int (nI t), .int m, .int (nI k)] [] μ 0 := by
    intro n9
    induction n9 using Nat.strongRecOn with
    | ind n9 ih4 =>
      intro m k hn9 hk hm
      subst hn9
      have ih := ih4
      refine es_iload_n (pc := 4) dX6_standing_4 rfl ?_
      refine es_aload_n (pc := 5) dX6_standing_5 rfl ?_
      refine es_getR (pc := 6) dX6_standing_6 fr_6_7 fld_14_0 ?_
      refine es_iconstN (pc := 9) 4 dX6_standing_9 ic_4 ?_
      refine es_iald (pc := 10) dX6_standing_10 lay_15 (by omega) ?_
      refine es_top (wP) ?_
      refine es_icmp_geN (pc := 11) 40 dX6_standing_11 (by decide) (by omega) (by omega) (fun c11 => ?_) (fun c11 => ?_)
      · refine es_iload_n (pc := 40) dX6_standing_40 rfl ?_
        refine es_ireturn (pc := 41) dX6_standing_41 rfl (vp_nar_int _) (by decide) ?_
        exact ⟨by rw [hm, show k = (rP R) by omega], rfl⟩
      · refine es_iload_n (pc := 14) dX6_standing_14 rfl ?_
        refine es_aload_n (pc := 15) dX6_standing_15 rfl ?_
        refine es_iload_n (pc := 16) dX6_standing_16 rfl ?_
        refine es_iconstN (pc := 17) 0 dX6_standing_17 ic_0 ?_
        refine es_cv2_p (pc := 18) dX6_standing_18 mr_6_63 rfl rfl (by decide) (by decide) rfl (Nat.le_of_ble_eq_true rfl) (Nat.zero_le _) (X6_its_ok) ?_
        refine es_top (show _ = R (31 + 7 * k) from rr (31 + 7 * k) (by omega)) ?_
        refine es_iload_n (pc := 21) dX6_standing_21 rfl ?_
        refine es_icmp_ne (pc := 22) (tgt := 31) dX6_standing_22 (by decide) (fun c22 => ?_) (fun c22 => ?_)
        · refine es_iconstN (pc := 31) 0 dX6_standing_31 ic_0 ?_
          refine es_ior (pc := 32) dX6_standing_32 ?_
          refine es_istore_n (pc := 33) dX6_standing_33 (ok1_2 rfl) ?_
          refine es_iincN (pc := 34) 1 dX6_standing_34 ic_1 rfl (ok1_3 rfl) ?_
          refine es_goto (pc := 37) (tgt := 4) dX6_standing_37 (by decide) ?_
          exact ih4 _ (by omega) _ (k + 1) rfl (by omega) (by rw [gm_mask, hm]; simp [c22, nI_0])
        · refine es_iconstN (pc := 25) 1 dX6_standing_25 ic_1 ?_
          refine es_iload_n (pc := 26) dX6_standing_26 rfl ?_
          refine es_ishl (pc := 27) dX6_standing_27 ?_
          refine es_goto (pc := 28) (tgt := 32) dX6_standing_28 (by decide) ?_
          refine es_ior (pc := 32) dX6_standing_32 ?_
          refine es_istore_n (pc := 33) dX6_standing_33 (ok1_2 rfl) ?_
          refine es_iincN (pc := 34) 1 dX6_standing_34 ic_1 rfl (ok1_3 rfl) ?_
          refine es_goto (pc := 37) (tgt := 4) dX6_standing_37 (by decide) ?_
          exact ih4 _ (by omega) _ (k + 1) rfl (by omega) (by rw [gm_mask, hm]; simp [c22, nI_0])
  refine es_iconstN (pc := 0) 0 dX6_standing_0 ic_0 ?_
  refine es_istore_n (pc := 1) dX6_standing_1 (ok1_2 rfl) ?_
  refine es_iconstN (pc := 2) 0 dX6_standing_2 ic_0 ?_
  refine es_istore_n (pc := 3) dX6_standing_3 (ok1_3 rfl) ?_
  exact hl4 _ _ 0 rfl (by omega) rfl
set_option maxHeartbeats 2000000 in
set_option maxRecDepth 20000 in
theorem X6_towerOf_ok {d : Nat} {μ : ev_M} {R : gm_R} {t w : Nat} (hr : mR μ = R) (hW : WFr R) (ht : t < 10 := by omega) (hw : w < 4 := by omega) (hd : 3 ≤ d := by omega) : ev_CALL d 144 [.ref 14, .int (nI t), .int (nI w)] μ (some (.int (rTower R t w)), 0) μ := by
  obtain ⟨d, rfl⟩ : ∃ q, d = q + 1 := ⟨d - 1, by omega⟩
  refine SPp.of (Nat.le_of_ble_eq_true rfl) ?_
  show es (ev_CALL d) 6 cX6_towerOf (some .int) 0 (0, fun _ => 0, []) (fun r μ2 => r = (some (.int (rTower R t w)), 0) ∧ μ2 = μ) 0 [.ref 14, .int (nI t), .int (nI w)] [] μ 0
  obtain ⟨wP, wP4, won, won4, wit, wit4, wpl, wpb, wlt⟩ := WM.of hr hW
  have rr : ∀ j, j < 59 → μ 15 j = R j := fun j hj => by rw [← hr, mR_r hj]
  refine es_iload_n (pc := 0) dX6_towerOf_0 rfl ?_
  refine es_if_neN (pc := 1) 16 dX6_towerOf_1 (by decide) (by omega) (fun c1 => ?_) (fun c1 => ?_)
  · refine es_iload_n (pc := 16) dX6_towerOf_16 rfl ?_
    refine es_iconstN (pc := 17) 1 dX6_towerOf_17 ic_1 ?_
    refine es_icmp_neN (pc := 18) 33 dX6_towerOf_18 (by decide) (by omega) (by omega) (fun c18 => ?_) (fun c18 => ?_)
    · refine es_iload_n (pc := 33) dX6_towerOf_33 rfl ?_
      refine es_iconstN (pc := 34) 2 dX6_towerOf_34 ic_2 ?_
      refine es_icmp_neN (pc := 35) 46 dX6_towerOf_35 (by decide) (by omega) (by omega) (fun c35 => ?_) (fun c35 => ?_)
      · refine es_aload_n (pc := 46) dX6_towerOf_46 rfl ?_
        refine es_iload_n (pc := 47) dX6_towerOf_47 rfl ?_
        refine es_cv1_p (pc := 48) dX6_towerOf_48 mr_6_153 rfl rfl (by decide) (by decide) rfl (Nat.le_of_ble_eq_true rfl) (Nat.zero_le _) (X6_seen_ok) ?_
        refine es_ireturn (pc := 51) dX6_towerOf_51 rfl (vp_nar_int _) (by decide) ?_
        exact ⟨vI (by rw [rTower, if_neg (by omega), if_neg (by omega), if_neg (by omega), ← hr]; exact gm_mask_cong (fun k hk => gm_sees_cong (fun j hj => mH j hj) ht hk)), rfl⟩
      · refine es_aload_n (pc := 38) dX6_towerOf_38 rfl ?_
        refine es_iload_n (pc := 39) dX6_towerOf_39 rfl ?_
        refine es_cv1_p (pc := 40) dX6_towerOf_40 mr_6_150 rfl rfl (by decide) (by decide) rfl (Nat.le_of_ble_eq_true rfl) (Nat.zero_le _) (X6_standing_ok hr hW) ?_
        refine es_goto (pc := 43) (tgt := 51) dX6_towerOf_43 (by decide) ?_
        refine es_ireturn (pc := 51) dX6_towerOf_51 rfl (vp_nar_int _) (by decide) ?_
        exact ⟨vI (by rw [rTower, if_neg (by omega), if_neg (by omega), if_pos (by omega)]), rfl⟩
    · refine es_aload_n (pc := 21) dX6_towerOf_21 rfl ?_
      refine es_getR (pc := 22) dX6_towerOf_22 fr_6_7 fld_14_0 ?_
      refine es_bipushN (pc := 25) 21 dX6_towerOf_25 bp_21 ?_
      refine es_iload_n (pc := 27) dX6_towerOf_27 rfl ?_
      refine es_iaddN (pc := 28) dX6_towerOf_28 ?_
      refine es_iald (pc := 29) dX6_towerOf_29 lay_15 (by omega) ?_
      refine es_goto (pc := 30) (tgt := 51) dX6_towerOf_30 (by decide) ?_
      refine es_ireturn (pc := 51) dX6_towerOf_51 rfl (vp_nar_int _) (by decide) ?_
      exact ⟨vI (by rw [rTower, if_neg (by omega), if_pos (by omega), rr _ (by omega)]), rfl⟩
  · refine es_aload_n (pc := 4) dX6_towerOf_4 rfl ?_
    refine es_getR (pc := 5) dX6_towerOf_5 fr_6_7 fld_14_0 ?_
    refine es_bipushN (pc := 8) 11 dX6_towerOf_8 bp_11 ?_
    refine es_iload_n (pc := 10) dX6_towerOf_10 rfl ?_
    refine es_iaddN (pc := 11) dX6_towerOf_11 ?_
    refine es_iald (pc := 12) dX6_towerOf_12 lay_15 (by omega) ?_
    refine es_goto (pc := 13) (tgt := 51) dX6_towerOf_13 (by decide) ?_
    refine es_ireturn (pc := 51) dX6_towerOf_51 rfl (vp_nar_int _) (by decide) ?_
    exact ⟨vI (by rw [rTower, if_pos (by omega), rr _ (by omega)]), rfl⟩
set_option maxHeartbeats 2000000 in
set_option maxRecDepth 20000 in
theorem X6_tower_ok {d : Nat} {μ : ev_M} {S : gS} {x y : Int32} (hR : RepM μ S) (hW : WFS S) (hd : 5 ≤ d := by omega) : SPi (ev_CALL d) 143 [.ref 14, .int x, .int y] μ (QM (op_tower S x y) μ) := by
  obtain ⟨d, rfl⟩ : ∃ q, d = q + 1 := ⟨d - 1, by omega⟩
  refine SPi.of (Nat.le_of_ble_eq_true rfl) ?_
  show es (ev_CALL d) 6 cX6_tower (some .int) 0 (0, fun _ => 0, []) (fun r μ2 => ∃ x9 : Int32, r = (some (.int x9), 0) ∧ (QM (op_tower S x y) μ) x9 μ2) 0 [.ref 14, .int x, .int y] [] μ 0
  have hR0 := hR.t (x := nI 0)
  have hn6 := hR.n6
  have hm6 := hR.m
  obtain ⟨wP, wP4, won, won4, wit, wit4, wpl, wpb, wlt⟩ := WM.of (r := S.1) hR.g hW.1
  have w0 : ev_ms μ 14 8 (nI 0) 15 4 = nI (rP S.1) := by rw [ms_ne (by decide)]; exact wP
  refine es_aload_n (pc := 0) dX6_tower_0 rfl ?_
  refine es_iconstN (pc := 1) 0 dX6_tower_1 ic_0 ?_
  refine es_putI (pc := 2) dX6_tower_2 fr_6_35 fld_14_8 ?_
  refine es_iload_n (pc := 5) dX6_tower_5 rfl ?_
  refine es_iconstN (pc := 6) 0 dX6_tower_6 ic_0 ?_
  refine es_bipushN (pc := 7) 9 dX6_tower_7 bp_9 ?_
  refine es_cs3_p (pc := 9) dX6_tower_9 mr_6_39 rfl rfl rfl (Nat.le_of_ble_eq_true rfl) (Nat.zero_le _) (X6_in_ok) ?_
  rw [in10]
  refine es_if_neB (pc := 12) 21 dX6_tower_12 (by decide) (fun c12 => ?_) (fun c12 => ?_)
  · obtain ⟨t, ht, rfl⟩ := gm_is_t c12 (by decide)
    refine es_iload_n (pc := 21) dX6_tower_21 rfl ?_
    refine es_iconstN (pc := 22) 0 dX6_tower_22 ic_0 ?_
    refine es_iconstN (pc := 23) 3 dX6_tower_23 ic_3 ?_
    refine es_cs3_p (pc := 24) dX6_tower_24 mr_6_39 rfl rfl rfl (Nat.le_of_ble_eq_true rfl) (Nat.zero_le _) (X6_in_ok) ?_
    rw [in4]
    refine es_if_eqB (pc := 27) 39 dX6_tower_27 (by decide) (fun c27 => ?_) (fun c27 => ?_)
    · refine es_aload_n (pc := 39) dX6_tower_39 rfl ?_
      refine es_iconstN (pc := 40) 2 dX6_tower_40 ic_2 ?_
      refine es_cv1_i (pc := 41) dX6_tower_41 mr_6_46 rfl rfl (by decide) (by decide) rfl (Nat.le_of_ble_eq_true rfl) (Nat.zero_le _) (X6_wrong_ok) (fun x41 μ41 h41 => ?_)
      refine es_ireturn (pc := 44) dX6_tower_44 rfl (vp_nar_int _) (by decide) ?_
      exact ⟨_, rfl, QM.no (k := 1) (by rw [op_tower, if_neg (by simp [c12]), if_pos c27] <;> rfl) hR h41.2⟩
    · obtain ⟨w, hw, rfl⟩ := gm_is_t c27 (by decide)
      refine es_aload_n (pc := 30) dX6_tower_30 rfl ?_
      refine es_iload_n (pc := 31) dX6_tower_31 rfl ?_
      refine es_iload_n (pc := 32) dX6_tower_32 rfl ?_
      refine es_cv2_p (pc := 33) dX6_tower_33 mr_6_156 rfl rfl (by decide) (by decide) rfl (Nat.le_of_ble_eq_true rfl) (Nat.zero_le _) (X6_towerOf_ok (R := S.1) hR0.g hW.1) ?_
      refine es_goto (pc := 36) (tgt := 44) dX6_tower_36 (by decide) ?_
      refine es_ireturn (pc := 44) dX6_tower_44 rfl (vp_nar_int _) (by decide) ?_
      exact ⟨_, rfl, QM.of (by rw [op_tower, if_neg (by simp [c12]), if_neg (by simp [c27]), cl_nI (by omega), cl_nI (by omega)]) (by simp [ms_full]) (rfl) hR0 (FrM.rf.ms (by decide))⟩
  · refine es_aload_n (pc := 15) dX6_tower_15 rfl ?_
    refine es_iconstN (pc := 16) 1 dX6_tower_16 ic_1 ?_
    refine es_cv1_i (pc := 17) dX6_tower_17 mr_6_46 rfl rfl (by decide) (by decide) rfl (Nat.le_of_ble_eq_true rfl) (Nat.zero_le _) (X6_wrong_ok) (fun x17 μ17 h17 => ?_)
    refine es_ireturn (pc := 20) dX6_tower_20 rfl (vp_nar_int _) (by decide) ?_
    exact ⟨_, rfl, QM.no (k := 0) (by rw [op_tower, if_pos c12] <;> rfl) hR h17.2⟩
set_option maxHeartbeats 2000000 in
set_option maxRecDepth 20000 in
theorem X6_reasonOf_ok {d : Nat} {μ : ev_M} {R : gm_R} {p t : Nat} (hr : mR μ = R) (hW : WFr R) (hp : p < 4 := by omega) (ht : t < 10 := by omega) (hd : 4 ≤ d := by omega) : SPi (ev_CALL d) 150 [.ref 14, .int (nI p), .int (nI t)] μ (fun x μ2 => x = rm_why R p t ∧ FG μ μ2) := by
  obtain ⟨d, rfl⟩ : ∃ q, d = q + 1 := ⟨d - 1, by omega⟩
  refine SPi.of (Nat.le_of_ble_eq_true rfl) ?_
  show es (ev_CALL d) 6 cX6_reasonOf (some .int) 0 (0, fun _ => 0, []) (fun r μ2 => ∃ x9 : Int32, r = (some (.int x9), 0) ∧ (fun x μ2 => x = rm_why R p t ∧ FG μ μ2) x9 μ2) 0 [.ref 14, .int (nI p), .int (nI t)] [] μ 0
  obtain ⟨wP, wP4, won, won4, wit, wit4, wpl, wpb, wlt⟩ := WM.of hr hW
  have rr : ∀ j, j < 59 → μ 15 j = R j := fun j hj => by rw [← hr, mR_r hj]
  have wpo := wpb p
  refine es_aload_n (pc := 0) dX6_reasonOf_0 rfl ?_
  refine es_iload_n (pc := 1) dX6_reasonOf_1 rfl ?_
  refine es_cv1_v (pc := 2) dX6_reasonOf_2 mr_6_91 rfl rfl (by decide) (by decide) rfl (Nat.le_of_ble_eq_true rfl) (Nat.zero_le _) (X6_take_ok) (fun μ2 h2 => ?_)
  obtain ⟨g1, g2⟩ := take_rg hr hp (wpl _ hp) h2
  refine es_aload_n (pc := 5) dX6_reasonOf_5 rfl ?_
  refine es_iload_n (pc := 6) dX6_reasonOf_6 rfl ?_
  refine es_cv1_p (pc := 7) dX6_reasonOf_7 mr_6_97 rfl rfl (by decide) (by decide) rfl (Nat.le_of_ble_eq_true rfl) (Nat.zero_le _) (X6_strideReason_ok g1.1) ?_
  refine es_ireturn (pc := 10) dX6_reasonOf_10 rfl (vp_nar_int _) (by decide) ?_
  exact ⟨_, rfl, rm_why_m (by rw [g2.row, hr]) ht wpo g1.2.2.1, g2⟩
set_option maxHeartbeats 2000000 in
set_option maxRecDepth 20000 in
theorem X6_strideable_ok {d : Nat} {μ : ev_M} {R : gm_R} {p : Nat} (hr : mR μ = R) (hW : WFr R) (hp : p < 4 := by omega) (hd : 5 ≤ d := by omega) : SPi (ev_CALL d) 149 [.ref 14, .int (nI p)] μ (fun x μ2 => x = gm_mask (fun t => decide (rm_why R p t = 0)) 10 ∧ FG μ μ2) := by
  obtain ⟨d, rfl⟩ : ∃ q, d = q + 1 := ⟨d - 1, by omega⟩
  refine SPi.of (Nat.le_of_ble_eq_true rfl) ?_
  show es (ev_CALL d) 6 cX6_strideable (some .int) 0 (0, fun _ => 0, []) (fun r μ2 => ∃ x9 : Int32, r = (some (.int x9), 0) ∧ (fun x μ2 => x = gm_mask (fun t => decide (rm_why R p t = 0)) 10 ∧ FG μ μ2) x9 μ2) 0 [.ref 14, .int (nI p), .null, .null] [] μ 0
  have hl4 : ∀ (n9 : Nat) (ν : ev_M) (m : Int32) (k : Nat), n9 = 10 - k → (FG μ ν) → (k ≤ 10) → (m = gm_mask (fun t => decide (rm_why R p t = 0)) k) → es (ev_CALL d) 6 cX6_strideable (some .int) 0 (0, fun _ => 0, []) (fun r μ2 => ∃ x9 : Int32, r = (some (.int x9), 0) ∧ (fun x μ2 => x = gm_mask (fun t => decide (rm_why R p t = 0)) 10 ∧ FG μ μ2) x9 μ2) 4 [.ref 14, .int (nI p), .int m, .int (nI k)] [] ν 0 := by
    intro n9
    induction n9 using Nat.strongRecOn with
    | ind n9 ih4 =>
      intro ν m k hn9 hF hk hm
      subst hn9
      have ih := ih4
      refine es_iload_n (pc := 4) dX6_strideable_4 rfl ?_
      refine es_bipushN (pc := 5) 10 dX6_strideable_5 bp_10 ?_
      refine es_icmp_geN (pc := 7) 35 dX6_strideable_7 (by decide) (by omega) (by omega) (fun c7 => ?_) (fun c7 => ?_)
      · refine es_iload_n (pc := 35) dX6_strideable_35 rfl ?_
        refine es_ireturn (pc := 36) dX6_strideable_36 rfl (vp_nar_int _) (by decide) ?_
        exact ⟨_, rfl, by rw [hm, show k = 10 by omega], hF⟩
      · refine es_iload_n (pc := 10) dX6_strideable_10 rfl ?_
        refine es_aload_n (pc := 11) dX6_strideable_11 rfl ?_
        refine es_iload_n (pc := 12) dX6_strideable_12 rfl ?_
        refine es_iload_n (pc := 13) dX6_strideable_13 rfl ?_
        refine es_cv2_i (pc := 14) dX6_strideable_14 mr_6_159 rfl rfl (by decide) (by decide) rfl (Nat.le_of_ble_eq_true rfl) (Nat.zero_le _) (X6_reasonOf_ok (show mR ν = R by rw [hF.row, hr]) hW) (fun x14 μ14 h14 => ?_)
        obtain ⟨rfl, f14⟩ := h14
        refine es_if_ne (pc := 17) (tgt := 26) dX6_strideable_17 (by decide) (fun c17 => ?_) (fun c17 => ?_)
        · refine es_iconstN (pc := 26) 0 dX6_strideable_26 ic_0 ?_
          refine es_ior (pc := 27) dX6_strideable_27 ?_
          refine es_istore_n (pc := 28) dX6_strideable_28 (ok1_2 rfl) ?_
          refine es_iincN (pc := 29) 1 dX6_strideable_29 ic_1 rfl (ok1_3 rfl) ?_
          refine es_goto (pc := 32) (tgt := 4) dX6_strideable_32 (by decide) ?_
          exact ih4 _ (by omega) _ _ (k + 1) rfl (hF.tr f14) (by omega) (by rw [gm_mask, hm]; simp [c17, nI_0])
        · refine es_iconstN (pc := 20) 1 dX6_strideable_20 ic_1 ?_
          refine es_iload_n (pc := 21) dX6_strideable_21 rfl ?_
          refine es_ishl (pc := 22) dX6_strideable_22 ?_
          refine es_goto (pc := 23) (tgt := 27) dX6_strideable_23 (by decide) ?_
          refine es_ior (pc := 27) dX6_strideable_27 ?_
          refine es_istore_n (pc := 28) dX6_strideable_28 (ok1_2 rfl) ?_
          refine es_iincN (pc := 29) 1 dX6_strideable_29 ic_1 rfl (ok1_3 rfl) ?_
          refine es_goto (pc := 32) (tgt := 4) dX6_strideable_32 (by decide) ?_
          exact ih4 _ (by omega) _ _ (k + 1) rfl (hF.tr f14) (by omega) (by rw [gm_mask, hm]; simp [c17, nI_0])
  refine es_iconstN (pc := 0) 0 dX6_strideable_0 ic_0 ?_
  refine es_istore_n (pc := 1) dX6_strideable_1 (ok1_2 rfl) ?_
  refine es_iconstN (pc := 2) 0 dX6_strideable_2 ic_0 ?_
  refine es_istore_n (pc := 3) dX6_strideable_3 (ok1_3 rfl) ?_
  exact hl4 _ _ _ 0 rfl FG.rf (by omega) rfl
set_option maxHeartbeats 2000000 in
set_option maxRecDepth 20000 in
theorem X6_propertyOf_ok {d : Nat} {μ : ev_M} {R : gm_R} {p w : Nat} (hr : mR μ = R) (hW : WFr R) (hp : p < 4 := by omega) (hw : w < 9 := by omega) (hd : 6 ≤ d := by omega) : SPi (ev_CALL d) 148 [.ref 14, .int (nI p), .int (nI w)] μ (fun x μ2 => x = rPlayer R p w ∧ FG μ μ2) := by
  obtain ⟨d, rfl⟩ : ∃ q, d = q + 1 := ⟨d - 1, by omega⟩
  refine SPi.of (Nat.le_of_ble_eq_true rfl) ?_
  show es (ev_CALL d) 6 cX6_propertyOf (some .int) 0 (0, fun _ => 0, []) (fun r μ2 => ∃ x9 : Int32, r = (some (.int x9), 0) ∧ (fun x μ2 => x = rPlayer R p w ∧ FG μ μ2) x9 μ2) 0 [.ref 14, .int (nI p), .int (nI w)] [] μ 0
  obtain ⟨wP, wP4, won, won4, wit, wit4, wpl, wpb, wlt⟩ := WM.of hr hW
  have rr : ∀ j, j < 59 → μ 15 j = R j := fun j hj => by rw [← hr, mR_r hj]
  refine es_iload_n (pc := 0) dX6_propertyOf_0 rfl ?_
  refine es_iconstN (pc := 1) 3 dX6_propertyOf_1 ic_3 ?_
  refine es_icmp_geN (pc := 2) 14 dX6_propertyOf_2 (by decide) (by omega) (by omega) (fun c2 => ?_) (fun c2 => ?_)
  · refine es_iload_n (pc := 14) dX6_propertyOf_14 rfl ?_
    refine es_iconstN (pc := 15) 3 dX6_propertyOf_15 ic_3 ?_
    refine es_icmp_neN (pc := 16) 38 dX6_propertyOf_16 (by decide) (by omega) (by omega) (fun c16 => ?_) (fun c16 => ?_)
    · refine es_iload_n (pc := 38) dX6_propertyOf_38 rfl ?_
      refine es_bipushN (pc := 39) 8 dX6_propertyOf_39 bp_8 ?_
      refine es_icmp_geN (pc := 41) 55 dX6_propertyOf_41 (by decide) (by omega) (by omega) (fun c41 => ?_) (fun c41 => ?_)
      · refine es_aload_n (pc := 55) dX6_propertyOf_55 rfl ?_
        refine es_iload_n (pc := 56) dX6_propertyOf_56 rfl ?_
        refine es_cv1_i (pc := 57) dX6_propertyOf_57 mr_6_162 rfl rfl (by decide) (by decide) rfl (Nat.le_of_ble_eq_true rfl) (Nat.zero_le _) (X6_strideable_ok hr hW) (fun x57 μ57 h57 => ?_)
        refine es_ireturn (pc := 60) dX6_propertyOf_60 rfl (vp_nar_int _) (by decide) ?_
        exact ⟨_, rfl, by rw [rPlayer, if_neg (by omega), if_neg (by omega), if_neg (by omega), h57.1], h57.2⟩
      · refine es_aload_n (pc := 44) dX6_propertyOf_44 rfl ?_
        refine es_iload_n (pc := 45) dX6_propertyOf_45 rfl ?_
        refine es_iload_n (pc := 46) dX6_propertyOf_46 rfl ?_
        refine es_iconstN (pc := 47) 1 dX6_propertyOf_47 ic_1 ?_
        refine es_isubN (pc := 48) dX6_propertyOf_48 (by omega) ?_
        refine es_cv2_p (pc := 49) dX6_propertyOf_49 mr_6_63 rfl rfl (by decide) (by decide) rfl (Nat.le_of_ble_eq_true rfl) (Nat.zero_le _) (X6_its_ok) ?_
        refine es_goto (pc := 52) (tgt := 60) dX6_propertyOf_52 (by decide) ?_
        refine es_ireturn (pc := 60) dX6_propertyOf_60 rfl (vp_nar_int _) (by decide) ?_
        exact ⟨_, rfl, by rw [rPlayer, if_neg (by omega), if_neg (by omega), if_pos (by omega), rr _ (by omega)], FG.rf⟩
    · refine es_iload_n (pc := 19) dX6_propertyOf_19 rfl ?_
      refine es_aload_n (pc := 20) dX6_propertyOf_20 rfl ?_
      refine es_getR (pc := 21) dX6_propertyOf_21 fr_6_7 fld_14_0 ?_
      refine es_bipushN (pc := 24) 6 dX6_propertyOf_24 bp_6 ?_
      refine es_iald (pc := 26) dX6_propertyOf_26 lay_15 (by omega) ?_
      refine es_top (wit) ?_
      refine es_icmp_neN (pc := 27) 34 dX6_propertyOf_27 (by decide) (by omega) (by omega) (fun c27 => ?_) (fun c27 => ?_)
      · refine es_iconstN (pc := 34) 0 dX6_propertyOf_34 ic_0 ?_
        refine es_goto (pc := 35) (tgt := 60) dX6_propertyOf_35 (by decide) ?_
        refine es_ireturn (pc := 60) dX6_propertyOf_60 rfl (vp_nar_int _) (by decide) ?_
        exact ⟨_, rfl, by rw [rPlayer, if_neg (by omega), if_pos (by omega), ← rr 6 (by decide), wit, decide_eq_false (fun h => c27 (nI_inj (by omega) (by omega) h.symm))]; rfl, FG.rf⟩
      · refine es_iconstN (pc := 30) 1 dX6_propertyOf_30 ic_1 ?_
        refine es_goto (pc := 31) (tgt := 60) dX6_propertyOf_31 (by decide) ?_
        refine es_ireturn (pc := 60) dX6_propertyOf_60 rfl (vp_nar_int _) (by decide) ?_
        exact ⟨_, rfl, by rw [rPlayer, if_neg (by omega), if_pos (by omega), ← rr 6 (by decide), wit, decide_eq_true (by rw [c27])]; rfl, FG.rf⟩
  · refine es_aload_n (pc := 5) dX6_propertyOf_5 rfl ?_
    refine es_iload_n (pc := 6) dX6_propertyOf_6 rfl ?_
    refine es_iload_n (pc := 7) dX6_propertyOf_7 rfl ?_
    refine es_cv2_p (pc := 8) dX6_propertyOf_8 mr_6_63 rfl rfl (by decide) (by decide) rfl (Nat.le_of_ble_eq_true rfl) (Nat.zero_le _) (X6_its_ok) ?_
    refine es_goto (pc := 11) (tgt := 60) dX6_propertyOf_11 (by decide) ?_
    refine es_ireturn (pc := 60) dX6_propertyOf_60 rfl (vp_nar_int _) (by decide) ?_
    exact ⟨_, rfl, by rw [rPlayer, if_pos (by omega), rr _ (by omega)], FG.rf⟩
set_option maxHeartbeats 2000000 in
set_option maxRecDepth 20000 in
theorem X6_playerOf_ok {d : Nat} {μ : ev_M} {S : gS} {x y : Int32} (hR : RepM μ S) (hW : WFS S) (hd : 7 ≤ d := by omega) : SPi (ev_CALL d) 147 [.ref 14, .int x, .int y] μ (QM (op_playerOf S x y) μ) := by
  obtain ⟨d, rfl⟩ : ∃ q, d = q + 1 := ⟨d - 1, by omega⟩
  refine SPi.of (Nat.le_of_ble_eq_true rfl) ?_
  show es (ev_CALL d) 6 cX6_playerOf (some .int) 0 (0, fun _ => 0, []) (fun r μ2 => ∃ x9 : Int32, r = (some (.int x9), 0) ∧ (QM (op_playerOf S x y) μ) x9 μ2) 0 [.ref 14, .int x, .int y] [] μ 0
  have hR0 := hR.t (x := nI 0)
  have hn6 := hR.n6
  have hm6 := hR.m
  obtain ⟨wP, wP4, won, won4, wit, wit4, wpl, wpb, wlt⟩ := WM.of (r := S.1) hR.g hW.1
  have w0 : ev_ms μ 14 8 (nI 0) 15 4 = nI (rP S.1) := by rw [ms_ne (by decide)]; exact wP
  refine es_aload_n (pc := 0) dX6_playerOf_0 rfl ?_
  refine es_iconstN (pc := 1) 0 dX6_playerOf_1 ic_0 ?_
  refine es_putI (pc := 2) dX6_playerOf_2 fr_6_35 fld_14_8 ?_
  refine es_aload_n (pc := 5) dX6_playerOf_5 rfl ?_
  refine es_iload_n (pc := 6) dX6_playerOf_6 rfl ?_
  refine es_cv1_p (pc := 7) dX6_playerOf_7 mr_6_125 rfl rfl (by decide) (by decide) rfl (Nat.le_of_ble_eq_true rfl) (Nat.zero_le _) (X6_isPlayer_ok w0) ?_
  refine es_if_neB (pc := 10) 19 dX6_playerOf_10 (by decide) (fun c10 => ?_) (fun c10 => ?_)
  · obtain ⟨t, ht, rfl⟩ := gm_is_t c10 (by omega)
    refine es_iload_n (pc := 19) dX6_playerOf_19 rfl ?_
    refine es_iconstN (pc := 20) 0 dX6_playerOf_20 ic_0 ?_
    refine es_bipushN (pc := 21) 8 dX6_playerOf_21 bp_8 ?_
    refine es_cs3_p (pc := 23) dX6_playerOf_23 mr_6_39 rfl rfl rfl (Nat.le_of_ble_eq_true rfl) (Nat.zero_le _) (X6_in_ok) ?_
    rw [in9]
    refine es_if_eqB (pc := 26) 38 dX6_playerOf_26 (by decide) (fun c26 => ?_) (fun c26 => ?_)
    · refine es_aload_n (pc := 38) dX6_playerOf_38 rfl ?_
      refine es_iconstN (pc := 39) 2 dX6_playerOf_39 ic_2 ?_
      refine es_cv1_i (pc := 40) dX6_playerOf_40 mr_6_46 rfl rfl (by decide) (by decide) rfl (Nat.le_of_ble_eq_true rfl) (Nat.zero_le _) (X6_wrong_ok) (fun x40 μ40 h40 => ?_)
      refine es_ireturn (pc := 43) dX6_playerOf_43 rfl (vp_nar_int _) (by decide) ?_
      exact ⟨_, rfl, QM.no (k := 1) (by rw [op_playerOf, if_neg (by simp [c10]), if_pos c26] <;> rfl) hR h40.2⟩
    · obtain ⟨w, hw, rfl⟩ := gm_is_t c26 (by decide)
      refine es_aload_n (pc := 29) dX6_playerOf_29 rfl ?_
      refine es_iload_n (pc := 30) dX6_playerOf_30 rfl ?_
      refine es_iload_n (pc := 31) dX6_playerOf_31 rfl ?_
      refine es_cv2_i (pc := 32) dX6_playerOf_32 mr_6_165 rfl rfl (by decide) (by decide) rfl (Nat.le_of_ble_eq_true rfl) (Nat.zero_le _) (X6_propertyOf_ok (R := S.1) hR0.g hW.1) (fun x32 μ32 h32 => ?_)
      refine es_goto (pc := 35) (tgt := 43) dX6_playerOf_35 (by decide) ?_
      refine es_ireturn (pc := 43) dX6_playerOf_43 rfl (vp_nar_int _) (by decide) ?_
      exact ⟨_, rfl, QM.of (by rw [op_playerOf, if_neg (by simp [c10]), if_neg (by simp [c26]), cl_nI (by omega), cl_nI (by omega)]) (by rw [h32.2.2 8 (by decide)]; simp [ms_full]) h32.1 (hR0.fg h32.2) (FrM.tr (FrM.rf.ms (by decide)) h32.2.fr)⟩
  · refine es_aload_n (pc := 13) dX6_playerOf_13 rfl ?_
    refine es_iconstN (pc := 14) 1 dX6_playerOf_14 ic_1 ?_
    refine es_cv1_i (pc := 15) dX6_playerOf_15 mr_6_46 rfl rfl (by decide) (by decide) rfl (Nat.le_of_ble_eq_true rfl) (Nat.zero_le _) (X6_wrong_ok) (fun x15 μ15 h15 => ?_)
    refine es_ireturn (pc := 18) dX6_playerOf_18 rfl (vp_nar_int _) (by decide) ?_
    exact ⟨_, rfl, QM.no (k := 0) (by rw [op_playerOf, if_pos c10] <;> rfl) hR h15.2⟩
set_option maxHeartbeats 2000000 in
set_option maxRecDepth 20000 in
theorem X6_inGlasses_ok {d : Nat} {μ : ev_M} {R : gm_R} (hr : mR μ = R) (hW : WFr R) (hd : 2 ≤ d := by omega) : ev_CALL d 153 [.ref 14] μ (some (.int (rGl R)), 0) μ := by
  obtain ⟨d, rfl⟩ : ∃ q, d = q + 1 := ⟨d - 1, by omega⟩
  refine SPp.of (Nat.le_of_ble_eq_true rfl) ?_
  show es (ev_CALL d) 6 cX6_inGlasses (some .int) 0 (0, fun _ => 0, []) (fun r μ2 => r = (some (.int (rGl R)), 0) ∧ μ2 = μ) 0 [.ref 14, .null, .null] [] μ 0
  obtain ⟨wP, wP4, won, won4, wit, wit4, wpl, wpb, wlt⟩ := WM.of hr hW
  have rr : ∀ j, j < 59 → μ 15 j = R j := fun j hj => by rw [← hr, mR_r hj]
  have hl4 : ∀ (n9 : Nat) (m : Int32) (k : Nat), n9 = rP R - k → (k ≤ rP R) → (m = gm_sum (fun k => R (31 + 7 * k + 1) + R (31 + 7 * k + 2)) (nI 0) k) → es (ev_CALL d) 6 cX6_inGlasses (some .int) 0 (0, fun _ => 0, []) (fun r μ2 => r = (some (.int (rGl R)), 0) ∧ μ2 = μ) 4 [.ref 14, .int m, .int (nI k)] [] μ 0 := by
    intro n9
    induction n9 using Nat.strongRecOn with
    | ind n9 ih4 =>
      intro m k hn9 hk hm
      subst hn9
      have ih := ih4
      refine es_iload_n (pc := 4) dX6_inGlasses_4 rfl ?_
      refine es_aload_n (pc := 5) dX6_inGlasses_5 rfl ?_
      refine es_getR (pc := 6) dX6_inGlasses_6 fr_6_7 fld_14_0 ?_
      refine es_iconstN (pc := 9) 4 dX6_inGlasses_9 ic_4 ?_
      refine es_iald (pc := 10) dX6_inGlasses_10 lay_15 (by omega) ?_
      refine es_top (wP) ?_
      refine es_icmp_geN (pc := 11) 36 dX6_inGlasses_11 (by decide) (by omega) (by omega) (fun c11 => ?_) (fun c11 => ?_)
      · refine es_iload_n (pc := 36) dX6_inGlasses_36 rfl ?_
        refine es_ireturn (pc := 37) dX6_inGlasses_37 rfl (vp_nar_int _) (by decide) ?_
        exact ⟨by rw [hm, show k = rP R by omega, gm_sum_two]; rfl, rfl⟩
      · refine es_iload_n (pc := 14) dX6_inGlasses_14 rfl ?_
        refine es_aload_n (pc := 15) dX6_inGlasses_15 rfl ?_
        refine es_iload_n (pc := 16) dX6_inGlasses_16 rfl ?_
        refine es_iconstN (pc := 17) 1 dX6_inGlasses_17 ic_1 ?_
        refine es_cv2_p (pc := 18) dX6_inGlasses_18 mr_6_63 rfl rfl (by decide) (by decide) rfl (Nat.le_of_ble_eq_true rfl) (Nat.zero_le _) (X6_its_ok) ?_
        rw [rr _ (by omega)]
        refine es_aload_n (pc := 21) dX6_inGlasses_21 rfl ?_
        refine es_iload_n (pc := 22) dX6_inGlasses_22 rfl ?_
        refine es_iconstN (pc := 23) 2 dX6_inGlasses_23 ic_2 ?_
        refine es_cv2_p (pc := 24) dX6_inGlasses_24 mr_6_63 rfl rfl (by decide) (by decide) rfl (Nat.le_of_ble_eq_true rfl) (Nat.zero_le _) (X6_its_ok) ?_
        rw [rr _ (by omega)]
        refine es_iadd (pc := 27) dX6_inGlasses_27 ?_
        refine es_iadd (pc := 28) dX6_inGlasses_28 ?_
        refine es_istore_n (pc := 29) dX6_inGlasses_29 (ok1_1 rfl) ?_
        refine es_iincN (pc := 30) 1 dX6_inGlasses_30 ic_1 rfl (ok1_2 rfl) ?_
        refine es_goto (pc := 33) (tgt := 4) dX6_inGlasses_33 (by decide) ?_
        exact ih4 _ (by omega) _ (k + 1) rfl (by omega) (by rw [gm_sum, hm])
  refine es_iconstN (pc := 0) 0 dX6_inGlasses_0 ic_0 ?_
  refine es_istore_n (pc := 1) dX6_inGlasses_1 (ok1_1 rfl) ?_
  refine es_iconstN (pc := 2) 0 dX6_inGlasses_2 ic_0 ?_
  refine es_istore_n (pc := 3) dX6_inGlasses_3 (ok1_2 rfl) ?_
  exact hl4 _ _ 0 rfl (by omega) rfl
set_option maxHeartbeats 2000000 in
set_option maxRecDepth 20000 in
theorem X6_onTowers_ok {d : Nat} {μ : ev_M} {R : gm_R} (hr : mR μ = R) (hW : WFr R) (hd : 1 ≤ d := by omega) : ev_CALL d 154 [.ref 14] μ (some (.int (rTw R)), 0) μ := by
  obtain ⟨d, rfl⟩ : ∃ q, d = q + 1 := ⟨d - 1, by omega⟩
  refine SPp.of (Nat.le_of_ble_eq_true rfl) ?_
  show es (ev_CALL d) 6 cX6_onTowers (some .int) 0 (0, fun _ => 0, []) (fun r μ2 => r = (some (.int (rTw R)), 0) ∧ μ2 = μ) 0 [.ref 14, .null, .null] [] μ 0
  obtain ⟨wP, wP4, won, won4, wit, wit4, wpl, wpb, wlt⟩ := WM.of hr hW
  have rr : ∀ j, j < 59 → μ 15 j = R j := fun j hj => by rw [← hr, mR_r hj]
  have hl4 : ∀ (n9 : Nat) (m : Int32) (k : Nat), n9 = 10 - k → (k ≤ 10) → (m = gm_sum (fun t => R (21 + t)) (nI 0) k) → es (ev_CALL d) 6 cX6_onTowers (some .int) 0 (0, fun _ => 0, []) (fun r μ2 => r = (some (.int (rTw R)), 0) ∧ μ2 = μ) 4 [.ref 14, .int m, .int (nI k)] [] μ 0 := by
    intro n9
    induction n9 using Nat.strongRecOn with
    | ind n9 ih4 =>
      intro m k hn9 hk hm
      subst hn9
      have ih := ih4
      refine es_iload_n (pc := 4) dX6_onTowers_4 rfl ?_
      refine es_bipushN (pc := 5) 10 dX6_onTowers_5 bp_10 ?_
      refine es_icmp_geN (pc := 7) 28 dX6_onTowers_7 (by decide) (by omega) (by omega) (fun c7 => ?_) (fun c7 => ?_)
      · refine es_iload_n (pc := 28) dX6_onTowers_28 rfl ?_
        refine es_ireturn (pc := 29) dX6_onTowers_29 rfl (vp_nar_int _) (by decide) ?_
        exact ⟨by rw [hm, show k = 10 by omega]; rfl, rfl⟩
      · refine es_iload_n (pc := 10) dX6_onTowers_10 rfl ?_
        refine es_aload_n (pc := 11) dX6_onTowers_11 rfl ?_
        refine es_getR (pc := 12) dX6_onTowers_12 fr_6_7 fld_14_0 ?_
        refine es_bipushN (pc := 15) 21 dX6_onTowers_15 bp_21 ?_
        refine es_iload_n (pc := 17) dX6_onTowers_17 rfl ?_
        refine es_iaddN (pc := 18) dX6_onTowers_18 ?_
        refine es_iald (pc := 19) dX6_onTowers_19 lay_15 (by omega) ?_
        rw [rr _ (by omega)]
        refine es_iadd (pc := 20) dX6_onTowers_20 ?_
        refine es_istore_n (pc := 21) dX6_onTowers_21 (ok1_1 rfl) ?_
        refine es_iincN (pc := 22) 1 dX6_onTowers_22 ic_1 rfl (ok1_2 rfl) ?_
        refine es_goto (pc := 25) (tgt := 4) dX6_onTowers_25 (by decide) ?_
        exact ih4 _ (by omega) _ (k + 1) rfl (by omega) (by rw [gm_sum, hm])
  refine es_iconstN (pc := 0) 0 dX6_onTowers_0 ic_0 ?_
  refine es_istore_n (pc := 1) dX6_onTowers_1 (ok1_1 rfl) ?_
  refine es_iconstN (pc := 2) 0 dX6_onTowers_2 ic_0 ?_
  refine es_istore_n (pc := 3) dX6_onTowers_3 (ok1_2 rfl) ?_
  exact hl4 _ _ 0 rfl (by omega) rfl
set_option maxHeartbeats 2000000 in
set_option maxRecDepth 20000 in
theorem X6_numberOf_ok {d : Nat} {μ : ev_M} {S : gS} {w : Nat} (hR : RepM μ S) (hW : WFS S) (hw : w < 11 := by omega) (hd : 3 ≤ d := by omega) : ev_CALL d 152 [.ref 14, .int (nI w)] μ (some (.int (sNum S w)), 0) μ := by
  obtain ⟨d, rfl⟩ : ∃ q, d = q + 1 := ⟨d - 1, by omega⟩
  refine SPp.of (Nat.le_of_ble_eq_true rfl) ?_
  show es (ev_CALL d) 6 cX6_numberOf (some .int) 0 (0, fun _ => 0, []) (fun r μ2 => r = (some (.int (sNum S w)), 0) ∧ μ2 = μ) 0 [.ref 14, .int (nI w)] [] μ 0
  obtain ⟨wP, wP4, won, won4, wit, wit4, wpl, wpb, wlt⟩ := WM.of (r := S.1) hR.g hW.1
  have rr : ∀ j, j < 59 → μ 15 j = S.1 j := fun j hj => by rw [← mR_r (μ := μ) hj, hR.g]
  refine es_iload_n (pc := 0) dX6_numberOf_0 rfl ?_
  rcases (show w = 0 ∨ w = 1 ∨ w = 2 ∨ w = 3 ∨ w = 4 ∨ w = 5 ∨ w = 6 ∨ w = 7 ∨ w = 8 ∨ w = 9 ∨ w = 10 by omega) with rfl | rfl | rfl | rfl | rfl | rfl | rfl | rfl | rfl | rfl | rfl
  · refine es_tabin (pc := 1) (tgt := 56) (off := 55) dX6_numberOf_1 (by decide) (by decide) (by decide) (by decide) ?_
    refine es_aload_n (pc := 56) dX6_numberOf_56 rfl ?_
    refine es_getR (pc := 57) dX6_numberOf_57 fr_6_7 fld_14_0 ?_
    refine es_iconstN (pc := 60) 4 dX6_numberOf_60 ic_4 ?_
    refine es_iald (pc := 61) dX6_numberOf_61 lay_15 (by omega) ?_
    refine es_ireturn (pc := 62) dX6_numberOf_62 rfl (vp_nar_int _) (by decide) ?_
    exact ⟨vI (rr _ (by decide)), rfl⟩
  · refine es_tabin (pc := 1) (tgt := 63) (off := 62) dX6_numberOf_1 (by decide) (by decide) (by decide) (by decide) ?_
    refine es_aload_n (pc := 63) dX6_numberOf_63 rfl ?_
    refine es_getR (pc := 64) dX6_numberOf_64 fr_6_7 fld_14_0 ?_
    refine es_iconstN (pc := 67) 4 dX6_numberOf_67 ic_4 ?_
    refine es_iald (pc := 68) dX6_numberOf_68 lay_15 (by omega) ?_
    refine es_top (wP) ?_
    refine es_if_neN (pc := 69) 76 dX6_numberOf_69 (by decide) (by omega) (fun c69 => ?_) (fun c69 => ?_)
    · refine es_aload_n (pc := 76) dX6_numberOf_76 rfl ?_
      refine es_getR (pc := 77) dX6_numberOf_77 fr_6_7 fld_14_0 ?_
      refine es_iconstN (pc := 80) 5 dX6_numberOf_80 ic_5 ?_
      refine es_iald (pc := 81) dX6_numberOf_81 lay_15 (by omega) ?_
      refine es_ireturn (pc := 82) dX6_numberOf_82 rfl (vp_nar_int _) (by decide) ?_
      exact ⟨vI (by rw [rr _ (by decide)]; exact (if_neg (c := S.1 4 ≤ 0) (t := (-1 : Int32)) (e := S.1 5) (by rw [← rr 4 (by decide), wP]; exact nI_gt0 (by omega) wP4)).symm), rfl⟩
    · refine es_iconstM (pc := 72) dX6_numberOf_72 (-1) ic_m1 ?_
      refine es_goto (pc := 73) (tgt := 82) dX6_numberOf_73 (by decide) ?_
      refine es_ireturn (pc := 82) dX6_numberOf_82 rfl (vp_nar_int _) (by decide) ?_
      exact ⟨vI ((if_pos (c := S.1 4 ≤ 0) (t := (-1 : Int32)) (e := S.1 5) (by rw [← rr 4 (by decide), wP, show rP S.1 = 0 by omega]; decide)).symm), rfl⟩
  · refine es_tabin (pc := 1) (tgt := 83) (off := 82) dX6_numberOf_1 (by decide) (by decide) (by decide) (by decide) ?_
    refine es_aload_n (pc := 83) dX6_numberOf_83 rfl ?_
    refine es_getR (pc := 84) dX6_numberOf_84 fr_6_7 fld_14_0 ?_
    refine es_iconstN (pc := 87) 4 dX6_numberOf_87 ic_4 ?_
    refine es_iald (pc := 88) dX6_numberOf_88 lay_15 (by omega) ?_
    refine es_top (wP) ?_
    refine es_if_neN (pc := 89) 96 dX6_numberOf_89 (by decide) (by omega) (fun c89 => ?_) (fun c89 => ?_)
    · refine es_aload_n (pc := 96) dX6_numberOf_96 rfl ?_
      refine es_getR (pc := 97) dX6_numberOf_97 fr_6_7 fld_14_0 ?_
      refine es_bipushN (pc := 100) 6 dX6_numberOf_100 bp_6 ?_
      refine es_iald (pc := 102) dX6_numberOf_102 lay_15 (by omega) ?_
      refine es_ireturn (pc := 103) dX6_numberOf_103 rfl (vp_nar_int _) (by decide) ?_
      exact ⟨vI (by rw [rr _ (by decide)]; exact (if_neg (c := S.1 4 ≤ 0) (t := (-1 : Int32)) (e := S.1 6) (by rw [← rr 4 (by decide), wP]; exact nI_gt0 (by omega) wP4)).symm), rfl⟩
    · refine es_iconstM (pc := 92) dX6_numberOf_92 (-1) ic_m1 ?_
      refine es_goto (pc := 93) (tgt := 103) dX6_numberOf_93 (by decide) ?_
      refine es_ireturn (pc := 103) dX6_numberOf_103 rfl (vp_nar_int _) (by decide) ?_
      exact ⟨vI ((if_pos (c := S.1 4 ≤ 0) (t := (-1 : Int32)) (e := S.1 6) (by rw [← rr 4 (by decide), wP, show rP S.1 = 0 by omega]; decide)).symm), rfl⟩
  · refine es_tabin (pc := 1) (tgt := 104) (off := 103) dX6_numberOf_1 (by decide) (by decide) (by decide) (by decide) ?_
    refine es_aload_n (pc := 104) dX6_numberOf_104 rfl ?_
    refine es_getR (pc := 105) dX6_numberOf_105 fr_6_7 fld_14_0 ?_
    refine es_bipushN (pc := 108) 7 dX6_numberOf_108 bp_7 ?_
    refine es_iald (pc := 110) dX6_numberOf_110 lay_15 (by omega) ?_
    refine es_ireturn (pc := 111) dX6_numberOf_111 rfl (vp_nar_int _) (by decide) ?_
    exact ⟨vI (rr _ (by decide)), rfl⟩
  · refine es_tabin (pc := 1) (tgt := 112) (off := 111) dX6_numberOf_1 (by decide) (by decide) (by decide) (by decide) ?_
    refine es_aload_n (pc := 112) dX6_numberOf_112 rfl ?_
    refine es_getR (pc := 113) dX6_numberOf_113 fr_6_7 fld_14_0 ?_
    refine es_bipushN (pc := 116) 8 dX6_numberOf_116 bp_8 ?_
    refine es_iald (pc := 118) dX6_numberOf_118 lay_15 (by omega) ?_
    refine es_ireturn (pc := 119) dX6_numberOf_119 rfl (vp_nar_int _) (by decide) ?_
    exact ⟨vI (rr _ (by decide)), rfl⟩
  · refine es_tabin (pc := 1) (tgt := 120) (off := 119) dX6_numberOf_1 (by decide) (by decide) (by decide) (by decide) ?_
    refine es_aload_n (pc := 120) dX6_numberOf_120 rfl ?_
    refine es_getR (pc := 121) dX6_numberOf_121 fr_6_7 fld_14_0 ?_
    refine es_bipushN (pc := 124) 9 dX6_numberOf_124 bp_9 ?_
    refine es_iald (pc := 126) dX6_numberOf_126 lay_15 (by omega) ?_
    refine es_ireturn (pc := 127) dX6_numberOf_127 rfl (vp_nar_int _) (by decide) ?_
    exact ⟨vI (rr _ (by decide)), rfl⟩
  · refine es_tabin (pc := 1) (tgt := 128) (off := 127) dX6_numberOf_1 (by decide) (by decide) (by decide) (by decide) ?_
    refine es_aload_n (pc := 128) dX6_numberOf_128 rfl ?_
    refine es_cv0_p (pc := 129) dX6_numberOf_129 mr_6_168 rfl rfl (by decide) (by decide) rfl (Nat.le_of_ble_eq_true rfl) (Nat.zero_le _) (X6_inGlasses_ok hR.g hW.1) ?_
    refine es_aload_n (pc := 132) dX6_numberOf_132 rfl ?_
    refine es_cv0_p (pc := 133) dX6_numberOf_133 mr_6_171 rfl rfl (by decide) (by decide) rfl (Nat.le_of_ble_eq_true rfl) (Nat.zero_le _) (X6_onTowers_ok hR.g hW.1) ?_
    refine es_iadd (pc := 136) dX6_numberOf_136 ?_
    refine es_ireturn (pc := 137) dX6_numberOf_137 rfl (vp_nar_int _) (by decide) ?_
    exact ⟨vI (rfl), rfl⟩
  · refine es_tabin (pc := 1) (tgt := 138) (off := 137) dX6_numberOf_1 (by decide) (by decide) (by decide) (by decide) ?_
    refine es_aload_n (pc := 138) dX6_numberOf_138 rfl ?_
    refine es_cv0_p (pc := 139) dX6_numberOf_139 mr_6_168 rfl rfl (by decide) (by decide) rfl (Nat.le_of_ble_eq_true rfl) (Nat.zero_le _) (X6_inGlasses_ok hR.g hW.1) ?_
    refine es_ireturn (pc := 142) dX6_numberOf_142 rfl (vp_nar_int _) (by decide) ?_
    exact ⟨vI (rfl), rfl⟩
  · refine es_tabin (pc := 1) (tgt := 143) (off := 142) dX6_numberOf_1 (by decide) (by decide) (by decide) (by decide) ?_
    refine es_aload_n (pc := 143) dX6_numberOf_143 rfl ?_
    refine es_cv0_p (pc := 144) dX6_numberOf_144 mr_6_171 rfl rfl (by decide) (by decide) rfl (Nat.le_of_ble_eq_true rfl) (Nat.zero_le _) (X6_onTowers_ok hR.g hW.1) ?_
    refine es_ireturn (pc := 147) dX6_numberOf_147 rfl (vp_nar_int _) (by decide) ?_
    exact ⟨vI (rfl), rfl⟩
  · refine es_tabin (pc := 1) (tgt := 148) (off := 147) dX6_numberOf_1 (by decide) (by decide) (by decide) (by decide) ?_
    refine es_aload_n (pc := 148) dX6_numberOf_148 rfl ?_
    refine es_getR (pc := 149) dX6_numberOf_149 fr_6_7 fld_14_0 ?_
    refine es_bipushN (pc := 152) 10 dX6_numberOf_152 bp_10 ?_
    refine es_iald (pc := 154) dX6_numberOf_154 lay_15 (by omega) ?_
    refine es_ireturn (pc := 155) dX6_numberOf_155 rfl (vp_nar_int _) (by decide) ?_
    exact ⟨vI (rr _ (by decide)), rfl⟩
  · refine es_tabout (pc := 1) (tgt := 156) dX6_numberOf_1 (Or.inr (by decide)) (by decide) ?_
    refine es_aload_n (pc := 156) dX6_numberOf_156 rfl ?_
    refine es_getI (pc := 157) dX6_numberOf_157 fr_6_43 fld_14_5 ?_
    refine es_ireturn (pc := 160) dX6_numberOf_160 rfl (vp_nar_int _) (by decide) ?_
    exact ⟨vI (hR.n), rfl⟩
set_option maxHeartbeats 2000000 in
set_option maxRecDepth 20000 in
theorem X6_count_ok {d : Nat} {μ : ev_M} {S : gS} {x : Int32} (hR : RepM μ S) (hW : WFS S) (hd : 5 ≤ d := by omega) : SPi (ev_CALL d) 151 [.ref 14, .int x] μ (QM (op_count S x) μ) := by
  obtain ⟨d, rfl⟩ : ∃ q, d = q + 1 := ⟨d - 1, by omega⟩
  refine SPi.of (Nat.le_of_ble_eq_true rfl) ?_
  show es (ev_CALL d) 6 cX6_count (some .int) 0 (0, fun _ => 0, []) (fun r μ2 => ∃ x9 : Int32, r = (some (.int x9), 0) ∧ (QM (op_count S x) μ) x9 μ2) 0 [.ref 14, .int x] [] μ 0
  have hR0 := hR.t (x := nI 0)
  have hn6 := hR.n6
  have hm6 := hR.m
  obtain ⟨wP, wP4, won, won4, wit, wit4, wpl, wpb, wlt⟩ := WM.of (r := S.1) hR.g hW.1
  have w0 : ev_ms μ 14 8 (nI 0) 15 4 = nI (rP S.1) := by rw [ms_ne (by decide)]; exact wP
  refine es_aload_n (pc := 0) dX6_count_0 rfl ?_
  refine es_iconstN (pc := 1) 0 dX6_count_1 ic_0 ?_
  refine es_putI (pc := 2) dX6_count_2 fr_6_35 fld_14_8 ?_
  refine es_iload_n (pc := 5) dX6_count_5 rfl ?_
  refine es_iconstN (pc := 6) 0 dX6_count_6 ic_0 ?_
  refine es_bipushN (pc := 7) 10 dX6_count_7 bp_10 ?_
  refine es_cs3_p (pc := 9) dX6_count_9 mr_6_39 rfl rfl rfl (Nat.le_of_ble_eq_true rfl) (Nat.zero_le _) (X6_in_ok) ?_
  rw [in11]
  refine es_if_eqB (pc := 12) 23 dX6_count_12 (by decide) (fun c12 => ?_) (fun c12 => ?_)
  · refine es_aload_n (pc := 23) dX6_count_23 rfl ?_
    refine es_iconstN (pc := 24) 1 dX6_count_24 ic_1 ?_
    refine es_cv1_i (pc := 25) dX6_count_25 mr_6_46 rfl rfl (by decide) (by decide) rfl (Nat.le_of_ble_eq_true rfl) (Nat.zero_le _) (X6_wrong_ok) (fun x25 μ25 h25 => ?_)
    refine es_ireturn (pc := 28) dX6_count_28 rfl (vp_nar_int _) (by decide) ?_
    exact ⟨_, rfl, QM.no (k := 0) (by rw [op_count, if_pos c12] <;> rfl) hR h25.2⟩
  · obtain ⟨w, hw, rfl⟩ := gm_is_t c12 (by decide)
    refine es_aload_n (pc := 15) dX6_count_15 rfl ?_
    refine es_iload_n (pc := 16) dX6_count_16 rfl ?_
    refine es_cv1_p (pc := 17) dX6_count_17 mr_6_174 rfl rfl (by decide) (by decide) rfl (Nat.le_of_ble_eq_true rfl) (Nat.zero_le _) (X6_numberOf_ok hR0 hW) ?_
    refine es_goto (pc := 20) (tgt := 28) dX6_count_20 (by decide) ?_
    refine es_ireturn (pc := 28) dX6_count_28 rfl (vp_nar_int _) (by decide) ?_
    exact ⟨_, rfl, QM.of (by rw [op_count, if_neg (by simp [c12]), cl_nI (by omega)]) (by simp [ms_full]) (rfl) hR0 (FrM.rf.ms (by decide))⟩
set_option maxHeartbeats 2000000 in
set_option maxRecDepth 20000 in
theorem X6_setting_ok {d : Nat} {μ : ev_M} {S : gS} {x : Int32} (hR : RepM μ S) (hW : WFS S) (hd : 2 ≤ d := by omega) : SPi (ev_CALL d) 155 [.ref 14, .int x] μ (QM (op_setting S x) μ) := by
  obtain ⟨d, rfl⟩ : ∃ q, d = q + 1 := ⟨d - 1, by omega⟩
  refine SPi.of (Nat.le_of_ble_eq_true rfl) ?_
  show es (ev_CALL d) 6 cX6_setting (some .int) 0 (0, fun _ => 0, []) (fun r μ2 => ∃ x9 : Int32, r = (some (.int x9), 0) ∧ (QM (op_setting S x) μ) x9 μ2) 0 [.ref 14, .int x] [] μ 0
  have hR0 := hR.t (x := nI 0)
  have hn6 := hR.n6
  have hm6 := hR.m
  obtain ⟨wP, wP4, won, won4, wit, wit4, wpl, wpb, wlt⟩ := WM.of (r := S.1) hR.g hW.1
  have w0 : ev_ms μ 14 8 (nI 0) 15 4 = nI (rP S.1) := by rw [ms_ne (by decide)]; exact wP
  refine es_aload_n (pc := 0) dX6_setting_0 rfl ?_
  refine es_iconstN (pc := 1) 0 dX6_setting_1 ic_0 ?_
  refine es_putI (pc := 2) dX6_setting_2 fr_6_35 fld_14_8 ?_
  refine es_iload_n (pc := 5) dX6_setting_5 rfl ?_
  refine es_iconstN (pc := 6) 0 dX6_setting_6 ic_0 ?_
  refine es_iconstN (pc := 7) 3 dX6_setting_7 ic_3 ?_
  refine es_cs3_p (pc := 8) dX6_setting_8 mr_6_39 rfl rfl rfl (Nat.le_of_ble_eq_true rfl) (Nat.zero_le _) (X6_in_ok) ?_
  rw [in4]
  refine es_if_eqB (pc := 11) 23 dX6_setting_11 (by decide) (fun c11 => ?_) (fun c11 => ?_)
  · refine es_aload_n (pc := 23) dX6_setting_23 rfl ?_
    refine es_iconstN (pc := 24) 1 dX6_setting_24 ic_1 ?_
    refine es_cv1_i (pc := 25) dX6_setting_25 mr_6_46 rfl rfl (by decide) (by decide) rfl (Nat.le_of_ble_eq_true rfl) (Nat.zero_le _) (X6_wrong_ok) (fun x25 μ25 h25 => ?_)
    refine es_ireturn (pc := 28) dX6_setting_28 rfl (vp_nar_int _) (by decide) ?_
    exact ⟨_, rfl, QM.no (k := 0) (by rw [op_setting, if_pos c11] <;> rfl) hR h25.2⟩
  · obtain ⟨w, hw, rfl⟩ := gm_is_t c11 (by decide)
    refine es_aload_n (pc := 14) dX6_setting_14 rfl ?_
    refine es_getR (pc := 15) dX6_setting_15 fr_6_7 fld_14_0 ?_
    refine es_iload_n (pc := 18) dX6_setting_18 rfl ?_
    refine es_iald (pc := 19) dX6_setting_19 lay_15 (by omega) ?_
    refine es_goto (pc := 20) (tgt := 28) dX6_setting_20 (by decide) ?_
    refine es_ireturn (pc := 28) dX6_setting_28 rfl (vp_nar_int _) (by decide) ?_
    exact ⟨_, rfl, QM.of (by rw [op_setting, if_neg (by simp [c11]), cl_nI (by omega)]) (by simp [ms_full]) (by rw [← hR0.g, mR_r (by omega)]) hR0 (FrM.rf.ms (by decide))⟩
set_option maxHeartbeats 2000000 in
set_option maxRecDepth 20000 in
theorem X6_whyNot_ok {d : Nat} {μ : ev_M} {S : gS} {x y : Int32} (hR : RepM μ S) (hW : WFS S) (hd : 6 ≤ d := by omega) : SPi (ev_CALL d) 158 [.ref 14, .int x, .int y] μ (QM (op_whyNot S x y) μ) := by
  obtain ⟨d, rfl⟩ : ∃ q, d = q + 1 := ⟨d - 1, by omega⟩
  refine SPi.of (Nat.le_of_ble_eq_true rfl) ?_
  show es (ev_CALL d) 6 cX6_whyNot (some .int) 0 (0, fun _ => 0, []) (fun r μ2 => ∃ x9 : Int32, r = (some (.int x9), 0) ∧ (QM (op_whyNot S x y) μ) x9 μ2) 0 [.ref 14, .int x, .int y] [] μ 0
  have hR0 := hR.t (x := nI 0)
  have hn6 := hR.n6
  have hm6 := hR.m
  obtain ⟨wP, wP4, won, won4, wit, wit4, wpl, wpb, wlt⟩ := WM.of (r := S.1) hR.g hW.1
  have w0 : ev_ms μ 14 8 (nI 0) 15 4 = nI (rP S.1) := by rw [ms_ne (by decide)]; exact wP
  refine es_aload_n (pc := 0) dX6_whyNot_0 rfl ?_
  refine es_iconstN (pc := 1) 0 dX6_whyNot_1 ic_0 ?_
  refine es_putI (pc := 2) dX6_whyNot_2 fr_6_35 fld_14_8 ?_
  refine es_aload_n (pc := 5) dX6_whyNot_5 rfl ?_
  refine es_iload_n (pc := 6) dX6_whyNot_6 rfl ?_
  refine es_cv1_p (pc := 7) dX6_whyNot_7 mr_6_125 rfl rfl (by decide) (by decide) rfl (Nat.le_of_ble_eq_true rfl) (Nat.zero_le _) (X6_isPlayer_ok w0) ?_
  refine es_if_eqB (pc := 10) 32 dX6_whyNot_10 (by decide) (fun c10 => ?_) (fun c10 => ?_)
  · refine es_aload_n (pc := 32) dX6_whyNot_32 rfl ?_
    refine es_iconstN (pc := 33) 1 dX6_whyNot_33 ic_1 ?_
    refine es_cv1_i (pc := 34) dX6_whyNot_34 mr_6_46 rfl rfl (by decide) (by decide) rfl (Nat.le_of_ble_eq_true rfl) (Nat.zero_le _) (X6_wrong_ok) (fun x34 μ34 h34 => ?_)
    refine es_ireturn (pc := 37) dX6_whyNot_37 rfl (vp_nar_int _) (by decide) ?_
    exact ⟨_, rfl, QM.no (k := 0) (by rw [op_whyNot, if_pos (by simp [c10])] <;> rfl) hR h34.2⟩
  · refine es_iload_n (pc := 13) dX6_whyNot_13 rfl ?_
    refine es_iconstN (pc := 14) 0 dX6_whyNot_14 ic_0 ?_
    refine es_bipushN (pc := 15) 9 dX6_whyNot_15 bp_9 ?_
    refine es_cs3_p (pc := 17) dX6_whyNot_17 mr_6_39 rfl rfl rfl (Nat.le_of_ble_eq_true rfl) (Nat.zero_le _) (X6_in_ok) ?_
    rw [in10]
    refine es_if_eqB (pc := 20) 32 dX6_whyNot_20 (by decide) (fun c20 => ?_) (fun c20 => ?_)
    · refine es_aload_n (pc := 32) dX6_whyNot_32 rfl ?_
      refine es_iconstN (pc := 33) 1 dX6_whyNot_33 ic_1 ?_
      refine es_cv1_i (pc := 34) dX6_whyNot_34 mr_6_46 rfl rfl (by decide) (by decide) rfl (Nat.le_of_ble_eq_true rfl) (Nat.zero_le _) (X6_wrong_ok) (fun x34 μ34 h34 => ?_)
      refine es_ireturn (pc := 37) dX6_whyNot_37 rfl (vp_nar_int _) (by decide) ?_
      exact ⟨_, rfl, QM.no (k := 0) (by rw [op_whyNot, if_pos (by simp [c20])] <;> rfl) hR h34.2⟩
    · obtain ⟨p, hp, rfl⟩ := gm_is_t c10 (by omega)
      obtain ⟨t, ht, rfl⟩ := gm_is_t c20 (by omega)
      refine es_aload_n (pc := 23) dX6_whyNot_23 rfl ?_
      refine es_iload_n (pc := 24) dX6_whyNot_24 rfl ?_
      refine es_iload_n (pc := 25) dX6_whyNot_25 rfl ?_
      refine es_cv2_i (pc := 26) dX6_whyNot_26 mr_6_159 rfl rfl (by decide) (by decide) rfl (Nat.le_of_ble_eq_true rfl) (Nat.zero_le _) (X6_reasonOf_ok (R := S.1) hR0.g hW.1) (fun x26 μ26 h26 => ?_)
      refine es_goto (pc := 29) (tgt := 37) dX6_whyNot_29 (by decide) ?_
      refine es_ireturn (pc := 37) dX6_whyNot_37 rfl (vp_nar_int _) (by decide) ?_
      exact ⟨_, rfl, QM.of (by rw [op_whyNot, if_neg (by simp [c10, c20]), cl_nI (by omega), cl_nI (by omega)]) (by rw [h26.2.2 8 (by decide)]; simp [ms_full]) h26.1 (hR0.fg h26.2) (FrM.tr (FrM.rf.ms (by decide)) h26.2.fr)⟩
set_option maxHeartbeats 2000000 in
set_option maxRecDepth 20000 in
theorem X6_huntable_ok {d : Nat} {μ : ev_M} {R : gm_R} (hr : mR μ = R) (hW : WFr R) (hd : 4 ≤ d := by omega) : ev_CALL d 163 [.ref 14] μ (some (.int (rPrey R)), 0) μ := by
  obtain ⟨d, rfl⟩ : ∃ q, d = q + 1 := ⟨d - 1, by omega⟩
  refine SPp.of (Nat.le_of_ble_eq_true rfl) ?_
  show es (ev_CALL d) 6 cX6_huntable (some .int) 0 (0, fun _ => 0, []) (fun r μ2 => r = (some (.int (rPrey R)), 0) ∧ μ2 = μ) 0 [.ref 14, .null, .null] [] μ 0
  obtain ⟨wP, wP4, won, won4, wit, wit4, wpl, wpb, wlt⟩ := WM.of hr hW
  have rr : ∀ j, j < 59 → μ 15 j = R j := fun j hj => by rw [← hr, mR_r hj]
  have hl4 : ∀ (n9 : Nat) (m : Int32) (k : Nat), n9 = (rP R) - k → (k ≤ (rP R)) → (m = gm_mask (fun k => decide (rm_tagw R (rIt R) k = 0)) k) → es (ev_CALL d) 6 cX6_huntable (some .int) 0 (0, fun _ => 0, []) (fun r μ2 => r = (some (.int (rPrey R)), 0) ∧ μ2 = μ) 4 [.ref 14, .int m, .int (nI k)] [] μ 0 := by
    intro n9
    induction n9 using Nat.strongRecOn with
    | ind n9 ih4 =>
      intro m k hn9 hk hm
      subst hn9
      have ih := ih4
      refine es_iload_n (pc := 4) dX6_huntable_4 rfl ?_
      refine es_aload_n (pc := 5) dX6_huntable_5 rfl ?_
      refine es_getR (pc := 6) dX6_huntable_6 fr_6_7 fld_14_0 ?_
      refine es_iconstN (pc := 9) 4 dX6_huntable_9 ic_4 ?_
      refine es_iald (pc := 10) dX6_huntable_10 lay_15 (by omega) ?_
      refine es_top (wP) ?_
      refine es_icmp_geN (pc := 11) 45 dX6_huntable_11 (by decide) (by omega) (by omega) (fun c11 => ?_) (fun c11 => ?_)
      · refine es_iload_n (pc := 45) dX6_huntable_45 rfl ?_
        refine es_ireturn (pc := 46) dX6_huntable_46 rfl (vp_nar_int _) (by decide) ?_
        exact ⟨by rw [hm, show k = rP R by omega]; rfl, rfl⟩
      · refine es_iload_n (pc := 14) dX6_huntable_14 rfl ?_
        refine es_aload_n (pc := 15) dX6_huntable_15 rfl ?_
        refine es_aload_n (pc := 16) dX6_huntable_16 rfl ?_
        refine es_getR (pc := 17) dX6_huntable_17 fr_6_7 fld_14_0 ?_
        refine es_bipushN (pc := 20) 6 dX6_huntable_20 bp_6 ?_
        refine es_iald (pc := 22) dX6_huntable_22 lay_15 (by omega) ?_
        refine es_top (wit) ?_
        refine es_iload_n (pc := 23) dX6_huntable_23 rfl ?_
        refine es_cv2_p (pc := 24) dX6_huntable_24 mr_6_109 rfl rfl (by decide) (by decide) rfl (Nat.le_of_ble_eq_true rfl) (Nat.zero_le _) (X6_tagReason_ok wit (wpl _ (by omega)) (wpl _ (by omega)) (ha := wpb _) (hb := wpb _)) ?_
        rw [rm_tagw_m hr (wpb _) (wpb _)]
        refine es_if_ne (pc := 27) (tgt := 36) dX6_huntable_27 (by decide) (fun c27 => ?_) (fun c27 => ?_)
        · refine es_iconstN (pc := 36) 0 dX6_huntable_36 ic_0 ?_
          refine es_ior (pc := 37) dX6_huntable_37 ?_
          refine es_istore_n (pc := 38) dX6_huntable_38 (ok1_1 rfl) ?_
          refine es_iincN (pc := 39) 1 dX6_huntable_39 ic_1 rfl (ok1_2 rfl) ?_
          refine es_goto (pc := 42) (tgt := 4) dX6_huntable_42 (by decide) ?_
          exact ih4 _ (by omega) _ (k + 1) rfl (by omega) (by rw [gm_mask, hm]; simp [c27, nI_0])
        · refine es_iconstN (pc := 30) 1 dX6_huntable_30 ic_1 ?_
          refine es_iload_n (pc := 31) dX6_huntable_31 rfl ?_
          refine es_ishl (pc := 32) dX6_huntable_32 ?_
          refine es_goto (pc := 33) (tgt := 37) dX6_huntable_33 (by decide) ?_
          refine es_ior (pc := 37) dX6_huntable_37 ?_
          refine es_istore_n (pc := 38) dX6_huntable_38 (ok1_1 rfl) ?_
          refine es_iincN (pc := 39) 1 dX6_huntable_39 ic_1 rfl (ok1_2 rfl) ?_
          refine es_goto (pc := 42) (tgt := 4) dX6_huntable_42 (by decide) ?_
          exact ih4 _ (by omega) _ (k + 1) rfl (by omega) (by rw [gm_mask, hm]; simp [c27, nI_0])
  refine es_iconstN (pc := 0) 0 dX6_huntable_0 ic_0 ?_
  refine es_istore_n (pc := 1) dX6_huntable_1 (ok1_1 rfl) ?_
  refine es_iconstN (pc := 2) 0 dX6_huntable_2 ic_0 ?_
  refine es_istore_n (pc := 3) dX6_huntable_3 (ok1_2 rfl) ?_
  exact hl4 _ _ 0 rfl (by omega) rfl
set_option maxHeartbeats 2000000 in
set_option maxRecDepth 20000 in
theorem X6_prey_ok {d : Nat} {μ : ev_M} {S : gS} (hR : RepM μ S) (hW : WFS S) (hd : 5 ≤ d := by omega) : SPi (ev_CALL d) 162 [.ref 14] μ (QM ((0, rPrey S.1, S)) μ) := by
  obtain ⟨d, rfl⟩ : ∃ q, d = q + 1 := ⟨d - 1, by omega⟩
  refine SPi.of (Nat.le_of_ble_eq_true rfl) ?_
  show es (ev_CALL d) 6 cX6_prey (some .int) 0 (0, fun _ => 0, []) (fun r μ2 => ∃ x9 : Int32, r = (some (.int x9), 0) ∧ (QM ((0, rPrey S.1, S)) μ) x9 μ2) 0 [.ref 14] [] μ 0
  have hR0 := hR.t (x := nI 0)
  have hn6 := hR.n6
  have hm6 := hR.m
  obtain ⟨wP, wP4, won, won4, wit, wit4, wpl, wpb, wlt⟩ := WM.of (r := S.1) hR.g hW.1
  have w0 : ev_ms μ 14 8 (nI 0) 15 4 = nI (rP S.1) := by rw [ms_ne (by decide)]; exact wP
  refine es_aload_n (pc := 0) dX6_prey_0 rfl ?_
  refine es_iconstN (pc := 1) 0 dX6_prey_1 ic_0 ?_
  refine es_putI (pc := 2) dX6_prey_2 fr_6_35 fld_14_8 ?_
  refine es_aload_n (pc := 5) dX6_prey_5 rfl ?_
  refine es_cv0_p (pc := 6) dX6_prey_6 mr_6_188 rfl rfl (by decide) (by decide) rfl (Nat.le_of_ble_eq_true rfl) (Nat.zero_le _) (X6_huntable_ok (R := S.1) hR0.g hW.1) ?_
  refine es_ireturn (pc := 9) dX6_prey_9 rfl (vp_nar_int _) (by decide) ?_
  exact ⟨_, rfl, QM.of rfl (by simp [ms_full]) (rfl) hR0 (FrM.rf.ms (by decide))⟩
set_option maxHeartbeats 2000000 in
set_option maxRecDepth 20000 in
theorem X6_bits_ok {d : Nat} {μ : ev_M} {m0 : Int32} (hd : 1 ≤ d := by omega) : ev_CALL d 166 [.int m0] μ (some (.int (gm_bits m0 10)), 0) μ := by
  obtain ⟨d, rfl⟩ : ∃ q, d = q + 1 := ⟨d - 1, by omega⟩
  refine SPp.of (Nat.le_of_ble_eq_true rfl) ?_
  show es (ev_CALL d) 6 cX6_bits (some .int) 0 (0, fun _ => 0, []) (fun r μ2 => r = (some (.int (gm_bits m0 10)), 0) ∧ μ2 = μ) 0 [.int m0, .null, .null] [] μ 0
  have hl4 : ∀ (n9 : Nat) (m : Int32) (k : Nat), n9 = 10 - k → (k ≤ 10) → (m = gm_bits m0 k) → es (ev_CALL d) 6 cX6_bits (some .int) 0 (0, fun _ => 0, []) (fun r μ2 => r = (some (.int (gm_bits m0 10)), 0) ∧ μ2 = μ) 4 [.int m0, .int m, .int (nI k)] [] μ 0 := by
    intro n9
    induction n9 using Nat.strongRecOn with
    | ind n9 ih4 =>
      intro m k hn9 hk hm
      subst hn9
      have ih := ih4
      refine es_iload_n (pc := 4) dX6_bits_4 rfl ?_
      refine es_bipushN (pc := 5) 10 dX6_bits_5 bp_10 ?_
      refine es_icmp_geN (pc := 7) 24 dX6_bits_7 (by decide) (by omega) (by omega) (fun c7 => ?_) (fun c7 => ?_)
      · refine es_iload_n (pc := 24) dX6_bits_24 rfl ?_
        refine es_ireturn (pc := 25) dX6_bits_25 rfl (vp_nar_int _) (by decide) ?_
        exact ⟨by rw [hm, show k = 10 by omega], rfl⟩
      · refine es_iload_n (pc := 10) dX6_bits_10 rfl ?_
        refine es_iload_n (pc := 11) dX6_bits_11 rfl ?_
        refine es_iload_n (pc := 12) dX6_bits_12 rfl ?_
        refine es_ishr (pc := 13) dX6_bits_13 ?_
        refine es_iconstN (pc := 14) 1 dX6_bits_14 ic_1 ?_
        refine es_iand (pc := 15) dX6_bits_15 ?_
        refine es_iadd (pc := 16) dX6_bits_16 ?_
        refine es_istore_n (pc := 17) dX6_bits_17 (ok1_1 rfl) ?_
        refine es_iincN (pc := 18) 1 dX6_bits_18 ic_1 rfl (ok1_2 rfl) ?_
        refine es_goto (pc := 21) (tgt := 4) dX6_bits_21 (by decide) ?_
        exact ih4 _ (by omega) _ (k + 1) rfl (by omega) (by rw [gm_bits, hm])
  refine es_iconstN (pc := 0) 0 dX6_bits_0 ic_0 ?_
  refine es_istore_n (pc := 1) dX6_bits_1 (ok1_1 rfl) ?_
  refine es_iconstN (pc := 2) 0 dX6_bits_2 ic_0 ?_
  refine es_istore_n (pc := 3) dX6_bits_3 (ok1_2 rfl) ?_
  exact hl4 _ _ 0 rfl (by omega) rfl
