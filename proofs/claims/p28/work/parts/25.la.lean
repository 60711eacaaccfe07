/-! the law's small methods -/
theorem low_and (v : Int32) : v &&& 2147483647 = nI (v.toBitVec.toNat % 2 ^ 31) := by
  apply Int32.toBitVec_inj.mp
  rw [Int32.toBitVec_and]
  apply BitVec.eq_of_toNat_eq
  rw [BitVec.toNat_and]
  show v.toBitVec.toNat &&& (2 ^ 31 - 1) = (BitVec.ofNat 32 (v.toBitVec.toNat % 2 ^ 31)).toNat
  rw [Nat.and_two_pow_sub_one_eq_mod, BitVec.toNat_ofNat, Nat.mod_eq_of_lt (Nat.lt_of_lt_of_le (Nat.mod_lt _ (by decide)) (by decide))]
/-- a cell of the script, brought below n -/
def low (v : Int32) (n : Nat) : Nat := v.toBitVec.toNat % 2 ^ 31 % n
theorem low_lt {v : Int32} {n : Nat} (h : 0 < n) : low v n < n := Nat.mod_lt _ h
theorem low_31 (v : Int32) : v.toBitVec.toNat % 2 ^ 31 < 2 ^ 31 := Nat.mod_lt _ (by decide)
theorem gm_mx_le {x y : Int32} (h : x ≤ y) : y = gm_mx x y := by
  unfold gm_mx
  split
  · rfl
  · rename_i q
    exact Int32.le_antisymm (Int32.not_lt.mp q) h
theorem gm_mx_gt {x y : Int32} (h : ¬ x ≤ y) : x = gm_mx x y := by
  unfold gm_mx
  rw [if_neg (Int32.not_lt.mpr (Int32.le_of_lt (Int32.not_le.mp h)))]
theorem ds_comm {a b : Nat} : (if a < b then b - a else a - b) = (if b < a then a - b else b - a) := by split <;> split <;> omega
theorem sz_n {a b : Nat} (ha : a < 2 ^ 30) (hb : b < 2 ^ 30) : (if 0 ≤ nI a - nI b then nI a - nI b else - (nI a - nI b)) = nI (if a < b then b - a else a - b) := by
  rw [ds_comm, ← gm_absN hb ha, Int32.zero_sub]
theorem G_h {d : Nat} {μ : ev_M} {S : gS} {t : Nat} (hR : RepC μ S) (hW : WFS S) (ht : t < 10 := by omega) (hd : 5 ≤ d := by omega) : ev_CALL d 86 [.ref 0, .int (nI t), .int (nI 0)] μ (some (.int (rH S.1 t)), 0) μ := G_tower hR hW ht (by omega) hd
set_option maxHeartbeats 2000000 in
set_option maxRecDepth 20000 in
theorem L_low_ok {d : Nat} {μ : ev_M} {v : Int32} {n : Nat} (h0 : 0 < n := by omega) (hn : n < 2 ^ 31 := by omega) (hd : 1 ≤ d := by omega) : ev_CALL d 173 [.int v, .int (nI n)] μ (some (.int (nI (low v n))), 0) μ := by
  obtain ⟨d, rfl⟩ : ∃ q, d = q + 1 := ⟨d - 1, by omega⟩
  refine SPp.of (Nat.le_of_ble_eq_true rfl) ?_
  show es (ev_CALL d) 9 cL_low (some .int) 0 (0, fun _ => 0, []) (fun r μ2 => r = (some (.int (nI (low v n))), 0) ∧ μ2 = μ) 0 [.int v, .int (nI n)] [] μ 0
  have h31 := low_31 v
  refine es_iload_n (pc := 0) dL_low_0 rfl ?_
  refine es_ldc (pc := 1) dL_low_1 ci_9_8 ?_
  refine es_iand (pc := 3) dL_low_3 ?_
  refine es_top (low_and v) ?_
  refine es_iload_n (pc := 4) dL_low_4 rfl ?_
  refine es_iremN (pc := 5) dL_low_5 (by omega) (by omega) (by omega) ?_
  refine es_ireturn (pc := 6) dL_low_6 rfl (vp_nar_int _) (by decide) ?_
  exact ⟨rfl, rfl⟩
set_option maxHeartbeats 2000000 in
set_option maxRecDepth 20000 in
theorem L_size_ok {d : Nat} {μ : ev_M} {x : Int32} (hd : 1 ≤ d := by omega) : ev_CALL d 174 [.int x] μ (some (.int (if 0 ≤ x then x else - x)), 0) μ := by
  obtain ⟨d, rfl⟩ : ∃ q, d = q + 1 := ⟨d - 1, by omega⟩
  refine SPp.of (Nat.le_of_ble_eq_true rfl) ?_
  show es (ev_CALL d) 9 cL_size (some .int) 0 (0, fun _ => 0, []) (fun r μ2 => r = (some (.int (if 0 ≤ x then x else - x)), 0) ∧ μ2 = μ) 0 [.int x] [] μ 0
  refine es_iload_n (pc := 0) dL_size_0 rfl ?_
  refine es_if_ge (pc := 1) (tgt := 9) dL_size_1 (by decide) (fun c1 => ?_) (fun c1 => ?_)
  · refine es_iload_n (pc := 9) dL_size_9 rfl ?_
    refine es_ireturn (pc := 10) dL_size_10 rfl (vp_nar_int _) (by decide) ?_
    exact ⟨vI (by rw [if_pos c1]), rfl⟩
  · refine es_iload_n (pc := 4) dL_size_4 rfl ?_
    refine es_ineg (pc := 5) dL_size_5 ?_
    refine es_goto (pc := 6) (tgt := 10) dL_size_6 (by decide) ?_
    refine es_ireturn (pc := 10) dL_size_10 rfl (vp_nar_int _) (by decide) ?_
    exact ⟨vI (by rw [if_neg c1]), rfl⟩
set_option maxHeartbeats 2000000 in
set_option maxRecDepth 20000 in
theorem L_sees_ok {d : Nat} {μ : ev_M} {S : gS} {a b : Nat} (hR : RepC μ S) (hW : WFS S) (ha : a < 10 := by omega) (hb : b < 10 := by omega) (hd : 6 ≤ d := by omega) : ev_CALL d 175 [.ref 0, .int (nI a), .int (nI b)] μ (some (.int (bI (gm_sees (rH S.1) a b))), 0) μ := by
  obtain ⟨d, rfl⟩ : ∃ q, d = q + 1 := ⟨d - 1, by omega⟩
  refine SPp.of (Nat.le_of_ble_eq_true rfl) ?_
  show es (ev_CALL d) 9 cL_sees (some .boolean) 0 (0, fun _ => 0, []) (fun r μ2 => r = (some (.int (bI (gm_sees (rH S.1) a b))), 0) ∧ μ2 = μ) 0 [.ref 0, .int (nI a), .int (nI b), .null, .null] [] μ 0
  have hl47 : ∀ (n9 : Nat) (k : Nat), n9 = max a b - k → (k ≤ 20) → (gm_sees (rH S.1) a b = gm_clr (rH S.1) (gm_mx (rH S.1 a) (rH S.1 b)) k (max a b - k)) → es (ev_CALL d) 9 cL_sees (some .boolean) 0 (0, fun _ => 0, []) (fun r μ2 => r = (some (.int (bI (gm_sees (rH S.1) a b))), 0) ∧ μ2 = μ) 47 [.ref 0, .int (nI a), .int (nI b), .int (gm_mx (rH S.1 a) (rH S.1 b)), .int (nI k)] [] μ 0 := by
    intro n9
    induction n9 using Nat.strongRecOn with
    | ind n9 ih47 =>
      intro k hn9 hk hi
      subst hn9
      have ih := ih47
      refine es_iload (pc := 47) dL_sees_47 rfl ?_
      refine es_iload_n (pc := 49) dL_sees_49 rfl ?_
      refine es_iload_n (pc := 50) dL_sees_50 rfl ?_
      refine es_icmp_geN (pc := 51) 58 dL_sees_51 (by decide) (by omega) (by omega) (fun c51 => ?_) (fun c51 => ?_)
      · refine es_iload_n (pc := 58) dL_sees_58 rfl ?_
        refine es_top (y := nI (max a b)) (by rw [Nat.max_eq_left (by omega)]) ?_
        refine es_icmp_geN (pc := 59) 81 dL_sees_59 (by decide) (by omega) (by omega) (fun c59 => ?_) (fun c59 => ?_)
        · refine es_iconstN (pc := 81) 1 dL_sees_81 ic_1 ?_
          refine es_ireturn (pc := 82) dL_sees_82 rfl (rfl) (by decide) ?_
          exact ⟨vI (by rw [hi, show max a b - k = 0 by omega]; rfl), rfl⟩
        · refine es_aload_n (pc := 62) dL_sees_62 rfl ?_
          refine es_iload (pc := 63) dL_sees_63 rfl ?_
          refine es_iconstN (pc := 65) 0 dL_sees_65 ic_0 ?_
          refine es_cv2_p (pc := 66) dL_sees_66 mr_9_9 rfl rfl (by decide) (by decide) rfl (Nat.le_of_ble_eq_true rfl) (Nat.zero_le _) (G_h hR hW) ?_
          refine es_iload_n (pc := 69) dL_sees_69 rfl ?_
          refine es_icmp_le (pc := 70) (tgt := 75) dL_sees_70 (by decide) (fun c70 => ?_) (fun c70 => ?_)
          · refine es_iincN (pc := 75) 1 dL_sees_75 ic_1 rfl (ok1_4 rfl) ?_
            refine es_goto (pc := 78) (tgt := 47) dL_sees_78 (by decide) ?_
            exact ih _ (by omega) (k + 1) rfl (by omega) (by rw [hi, show max a b - k = (max a b - (k + 1)) + 1 by omega, gm_clr, if_neg (Int32.not_lt.mpr c70)])
          · refine es_iconstN (pc := 73) 0 dL_sees_73 ic_0 ?_
            refine es_ireturn (pc := 74) dL_sees_74 rfl (rfl) (by decide) ?_
            exact ⟨vI (by rw [hi, show max a b - k = (max a b - (k + 1)) + 1 by omega, gm_clr, if_pos (Int32.not_le.mp c70)]; rfl), rfl⟩
      · refine es_iload_n (pc := 54) dL_sees_54 rfl ?_
        refine es_goto (pc := 55) (tgt := 59) dL_sees_55 (by decide) ?_
        refine es_top (y := nI (max a b)) (by rw [Nat.max_eq_right (by omega)]) ?_
        refine es_icmp_geN (pc := 59) 81 dL_sees_59 (by decide) (by omega) (by omega) (fun c59 => ?_) (fun c59 => ?_)
        · refine es_iconstN (pc := 81) 1 dL_sees_81 ic_1 ?_
          refine es_ireturn (pc := 82) dL_sees_82 rfl (rfl) (by decide) ?_
          exact ⟨vI (by rw [hi, show max a b - k = 0 by omega]; rfl), rfl⟩
        · refine es_aload_n (pc := 62) dL_sees_62 rfl ?_
          refine es_iload (pc := 63) dL_sees_63 rfl ?_
          refine es_iconstN (pc := 65) 0 dL_sees_65 ic_0 ?_
          refine es_cv2_p (pc := 66) dL_sees_66 mr_9_9 rfl rfl (by decide) (by decide) rfl (Nat.le_of_ble_eq_true rfl) (Nat.zero_le _) (G_h hR hW) ?_
          refine es_iload_n (pc := 69) dL_sees_69 rfl ?_
          refine es_icmp_le (pc := 70) (tgt := 75) dL_sees_70 (by decide) (fun c70 => ?_) (fun c70 => ?_)
          · refine es_iincN (pc := 75) 1 dL_sees_75 ic_1 rfl (ok1_4 rfl) ?_
            refine es_goto (pc := 78) (tgt := 47) dL_sees_78 (by decide) ?_
            exact ih _ (by omega) (k + 1) rfl (by omega) (by rw [hi, show max a b - k = (max a b - (k + 1)) + 1 by omega, gm_clr, if_neg (Int32.not_lt.mpr c70)])
          · refine es_iconstN (pc := 73) 0 dL_sees_73 ic_0 ?_
            refine es_ireturn (pc := 74) dL_sees_74 rfl (rfl) (by decide) ?_
            exact ⟨vI (by rw [hi, show max a b - k = (max a b - (k + 1)) + 1 by omega, gm_clr, if_pos (Int32.not_le.mp c70)]; rfl), rfl⟩
  refine es_aload_n (pc := 0) dL_sees_0 rfl ?_
  refine es_iload_n (pc := 1) dL_sees_1 rfl ?_
  refine es_iconstN (pc := 2) 0 dL_sees_2 ic_0 ?_
  refine es_cv2_p (pc := 3) dL_sees_3 mr_9_9 rfl rfl (by decide) (by decide) rfl (Nat.le_of_ble_eq_true rfl) (Nat.zero_le _) (G_h hR hW) ?_
  refine es_aload_n (pc := 6) dL_sees_6 rfl ?_
  refine es_iload_n (pc := 7) dL_sees_7 rfl ?_
  refine es_iconstN (pc := 8) 0 dL_sees_8 ic_0 ?_
  refine es_cv2_p (pc := 9) dL_sees_9 mr_9_9 rfl rfl (by decide) (by decide) rfl (Nat.le_of_ble_eq_true rfl) (Nat.zero_le _) (G_h hR hW) ?_
  refine es_icmp_le (pc := 12) (tgt := 24) dL_sees_12 (by decide) (fun c12 => ?_) (fun c12 => ?_)
  · refine es_aload_n (pc := 24) dL_sees_24 rfl ?_
    refine es_iload_n (pc := 25) dL_sees_25 rfl ?_
    refine es_iconstN (pc := 26) 0 dL_sees_26 ic_0 ?_
    refine es_cv2_p (pc := 27) dL_sees_27 mr_9_9 rfl rfl (by decide) (by decide) rfl (Nat.le_of_ble_eq_true rfl) (Nat.zero_le _) (G_h hR hW) ?_
    refine es_top (gm_mx_le c12) ?_
    refine es_istore_n (pc := 30) dL_sees_30 (ok1_3 rfl) ?_
    refine es_iload_n (pc := 31) dL_sees_31 rfl ?_
    refine es_iload_n (pc := 32) dL_sees_32 rfl ?_
    refine es_icmp_geN (pc := 33) 42 dL_sees_33 (by decide) (by omega) (by omega) (fun c33 => ?_) (fun c33 => ?_)
    · refine es_iload_n (pc := 42) dL_sees_42 rfl ?_
      refine es_iconstN (pc := 43) 1 dL_sees_43 ic_1 ?_
      refine es_iaddN (pc := 44) dL_sees_44 ?_
      refine es_top (y := nI (min a b + 1)) (by rw [Nat.min_eq_right (by omega)]) ?_
      refine es_istore (pc := 45) dL_sees_45 (ok1_4 rfl) ?_
      exact hl47 _ (min a b + 1) rfl (by omega) rfl
    · refine es_iload_n (pc := 36) dL_sees_36 rfl ?_
      refine es_iconstN (pc := 37) 1 dL_sees_37 ic_1 ?_
      refine es_iaddN (pc := 38) dL_sees_38 ?_
      refine es_goto (pc := 39) (tgt := 45) dL_sees_39 (by decide) ?_
      refine es_top (y := nI (min a b + 1)) (by rw [Nat.min_eq_left (by omega)]) ?_
      refine es_istore (pc := 45) dL_sees_45 (ok1_4 rfl) ?_
      exact hl47 _ (min a b + 1) rfl (by omega) rfl
  · refine es_aload_n (pc := 15) dL_sees_15 rfl ?_
    refine es_iload_n (pc := 16) dL_sees_16 rfl ?_
    refine es_iconstN (pc := 17) 0 dL_sees_17 ic_0 ?_
    refine es_cv2_p (pc := 18) dL_sees_18 mr_9_9 rfl rfl (by decide) (by decide) rfl (Nat.le_of_ble_eq_true rfl) (Nat.zero_le _) (G_h hR hW) ?_
    refine es_goto (pc := 21) (tgt := 30) dL_sees_21 (by decide) ?_
    refine es_top (gm_mx_gt c12) ?_
    refine es_istore_n (pc := 30) dL_sees_30 (ok1_3 rfl) ?_
    refine es_iload_n (pc := 31) dL_sees_31 rfl ?_
    refine es_iload_n (pc := 32) dL_sees_32 rfl ?_
    refine es_icmp_geN (pc := 33) 42 dL_sees_33 (by decide) (by omega) (by omega) (fun c33 => ?_) (fun c33 => ?_)
    · refine es_iload_n (pc := 42) dL_sees_42 rfl ?_
      refine es_iconstN (pc := 43) 1 dL_sees_43 ic_1 ?_
      refine es_iaddN (pc := 44) dL_sees_44 ?_
      refine es_top (y := nI (min a b + 1)) (by rw [Nat.min_eq_right (by omega)]) ?_
      refine es_istore (pc := 45) dL_sees_45 (ok1_4 rfl) ?_
      exact hl47 _ (min a b + 1) rfl (by omega) rfl
    · refine es_iload_n (pc := 36) dL_sees_36 rfl ?_
      refine es_iconstN (pc := 37) 1 dL_sees_37 ic_1 ?_
      refine es_iaddN (pc := 38) dL_sees_38 ?_
      refine es_goto (pc := 39) (tgt := 45) dL_sees_39 (by decide) ?_
      refine es_top (y := nI (min a b + 1)) (by rw [Nat.min_eq_left (by omega)]) ?_
      refine es_istore (pc := 45) dL_sees_45 (ok1_4 rfl) ?_
      exact hl47 _ (min a b + 1) rfl (by omega) rfl
set_option maxHeartbeats 2000000 in
set_option maxRecDepth 20000 in
theorem L_stride_ok {d : Nat} {μ : ev_M} {S : gS} {a b : Nat} (hR : RepC μ S) (hW : WFS S) (ha : a < 10 := by omega) (hb : b < 10 := by omega) (hd : 6 ≤ d := by omega) : ev_CALL d 176 [.ref 0, .int (nI a), .int (nI b)] μ (some (.int (gm_price (S.1 1) (rH S.1) a b)), 0) μ := by
  obtain ⟨d, rfl⟩ : ∃ q, d = q + 1 := ⟨d - 1, by omega⟩
  refine SPp.of (Nat.le_of_ble_eq_true rfl) ?_
  show es (ev_CALL d) 9 cL_stride (some .int) 0 (0, fun _ => 0, []) (fun r μ2 => r = (some (.int (gm_price (S.1 1) (rH S.1) a b)), 0) ∧ μ2 = μ) 0 [.ref 0, .int (nI a), .int (nI b), .null] [] μ 0
  refine es_aload_n (pc := 0) dL_stride_0 rfl ?_
  refine es_iload_n (pc := 1) dL_stride_1 rfl ?_
  refine es_iconstN (pc := 2) 0 dL_stride_2 ic_0 ?_
  refine es_cv2_p (pc := 3) dL_stride_3 mr_9_9 rfl rfl (by decide) (by decide) rfl (Nat.le_of_ble_eq_true rfl) (Nat.zero_le _) (G_h hR hW) ?_
  refine es_aload_n (pc := 6) dL_stride_6 rfl ?_
  refine es_iload_n (pc := 7) dL_stride_7 rfl ?_
  refine es_iconstN (pc := 8) 0 dL_stride_8 ic_0 ?_
  refine es_cv2_p (pc := 9) dL_stride_9 mr_9_9 rfl rfl (by decide) (by decide) rfl (Nat.le_of_ble_eq_true rfl) (Nat.zero_le _) (G_h hR hW) ?_
  refine es_isub (pc := 12) dL_stride_12 ?_
  refine es_istore_n (pc := 13) dL_stride_13 (ok1_3 rfl) ?_
  refine es_aload_n (pc := 14) dL_stride_14 rfl ?_
  refine es_iconstN (pc := 15) 1 dL_stride_15 ic_1 ?_
  refine es_cv1_p (pc := 16) dL_stride_16 mr_9_15 rfl rfl (by decide) (by decide) rfl (Nat.le_of_ble_eq_true rfl) (Nat.zero_le _) (G_setting hR hW) ?_
  refine es_iload_n (pc := 19) dL_stride_19 rfl ?_
  refine es_iload_n (pc := 20) dL_stride_20 rfl ?_
  refine es_isub (pc := 21) dL_stride_21 ?_
  refine es_cs1_p (pc := 22) dL_stride_22 mr_9_19 rfl rfl rfl (Nat.le_of_ble_eq_true rfl) (Nat.zero_le _) (L_size_ok) ?_
  refine es_top (sz_n (by omega) (by omega)) ?_
  refine es_imul (pc := 25) dL_stride_25 ?_
  refine es_iload_n (pc := 26) dL_stride_26 rfl ?_
  refine es_if_le (pc := 27) (tgt := 34) dL_stride_27 (by decide) (fun c27 => ?_) (fun c27 => ?_)
  · refine es_iconstN (pc := 34) 0 dL_stride_34 ic_0 ?_
    refine es_top (y := gm_mx (nI 0) (rH S.1 b - rH S.1 a)) (by unfold gm_mx; rw [if_neg (show ¬ nI 0 < rH S.1 b - rH S.1 a from Int32.not_lt.mpr c27)]) ?_
    refine es_iadd (pc := 35) dL_stride_35 ?_
    refine es_ireturn (pc := 36) dL_stride_36 rfl (vp_nar_int _) (by decide) ?_
    exact ⟨rfl, rfl⟩
  · refine es_iload_n (pc := 30) dL_stride_30 rfl ?_
    refine es_goto (pc := 31) (tgt := 35) dL_stride_31 (by decide) ?_
    refine es_top (y := gm_mx (nI 0) (rH S.1 b - rH S.1 a)) (gm_mx_le (Int32.le_of_lt (Int32.not_le.mp c27))) ?_
    refine es_iadd (pc := 35) dL_stride_35 ?_
    refine es_ireturn (pc := 36) dL_stride_36 rfl (vp_nar_int _) (by decide) ?_
    exact ⟨rfl, rfl⟩
