theorem nI_one : nI 1 = 1 := rfl
theorem ok1_0 {x : Value} {t : List Value} : ev_ok1 (x :: t) 0 := ⟨Nat.succ_pos _, fun j v h => by omega⟩
theorem ok1_1 {x0 x1 : Value} {t : List Value} (h : x0.category = 1) : ev_ok1 (x0 :: x1 :: t) 1 := ⟨by simp, fun j v hj hv => by
  obtain rfl : j = 0 := by omega
  cases hv
  exact h⟩
theorem ok1_2 {x0 x1 x2 : Value} {t : List Value} (h : x1.category = 1) : ev_ok1 (x0 :: x1 :: x2 :: t) 2 := ⟨by simp, fun j v hj hv => by
  obtain rfl : j = 1 := by omega
  cases hv
  exact h⟩
theorem ok1_3 {x0 x1 x2 x3 : Value} {t : List Value} (h : x2.category = 1) : ev_ok1 (x0 :: x1 :: x2 :: x3 :: t) 3 := ⟨by simp, fun j v hj hv => by
  obtain rfl : j = 2 := by omega
  cases hv
  exact h⟩
theorem ok1_4 {x0 x1 x2 x3 x4 : Value} {t : List Value} (h : x3.category = 1) : ev_ok1 (x0 :: x1 :: x2 :: x3 :: x4 :: t) 4 := ⟨by simp, fun j v hj hv => by
  obtain rfl : j = 3 := by omega
  cases hv
  exact h⟩
theorem ok1_5 {x0 x1 x2 x3 x4 x5 : Value} {t : List Value} (h : x4.category = 1) : ev_ok1 (x0 :: x1 :: x2 :: x3 :: x4 :: x5 :: t) 5 := ⟨by simp, fun j v hj hv => by
  obtain rfl : j = 4 := by omega
  cases hv
  exact h⟩
theorem ok1_6 {x0 x1 x2 x3 x4 x5 x6 : Value} {t : List Value} (h : x5.category = 1) : ev_ok1 (x0 :: x1 :: x2 :: x3 :: x4 :: x5 :: x6 :: t) 6 := ⟨by simp, fun j v hj hv => by
  obtain rfl : j = 5 := by omega
  cases hv
  exact h⟩
theorem ok1_7 {x0 x1 x2 x3 x4 x5 x6 x7 : Value} {t : List Value} (h : x6.category = 1) : ev_ok1 (x0 :: x1 :: x2 :: x3 :: x4 :: x5 :: x6 :: x7 :: t) 7 := ⟨by simp, fun j v hj hv => by
  obtain rfl : j = 6 := by omega
  cases hv
  exact h⟩
theorem ok1_8 {x0 x1 x2 x3 x4 x5 x6 x7 x8 : Value} {t : List Value} (h : x7.category = 1) : ev_ok1 (x0 :: x1 :: x2 :: x3 :: x4 :: x5 :: x6 :: x7 :: x8 :: t) 8 := ⟨by simp, fun j v hj hv => by
  obtain rfl : j = 7 := by omega
  cases hv
  exact h⟩
theorem ok1_9 {x0 x1 x2 x3 x4 x5 x6 x7 x8 x9 : Value} {t : List Value} (h : x8.category = 1) : ev_ok1 (x0 :: x1 :: x2 :: x3 :: x4 :: x5 :: x6 :: x7 :: x8 :: x9 :: t) 9 := ⟨by simp, fun j v hj hv => by
  obtain rfl : j = 8 := by omega
  cases hv
  exact h⟩
theorem ok1_10 {x0 x1 x2 x3 x4 x5 x6 x7 x8 x9 x10 : Value} {t : List Value} (h : x9.category = 1) : ev_ok1 (x0 :: x1 :: x2 :: x3 :: x4 :: x5 :: x6 :: x7 :: x8 :: x9 :: x10 :: t) 10 := ⟨by simp, fun j v hj hv => by
  obtain rfl : j = 9 := by omega
  cases hv
  exact h⟩
theorem ok1_11 {x0 x1 x2 x3 x4 x5 x6 x7 x8 x9 x10 x11 : Value} {t : List Value} (h : x10.category = 1) : ev_ok1 (x0 :: x1 :: x2 :: x3 :: x4 :: x5 :: x6 :: x7 :: x8 :: x9 :: x10 :: x11 :: t) 11 := ⟨by simp, fun j v hj hv => by
  obtain rfl : j = 10 := by omega
  cases hv
  exact h⟩
theorem ok1_12 {x0 x1 x2 x3 x4 x5 x6 x7 x8 x9 x10 x11 x12 : Value} {t : List Value} (h : x11.category = 1) : ev_ok1 (x0 :: x1 :: x2 :: x3 :: x4 :: x5 :: x6 :: x7 :: x8 :: x9 :: x10 :: x11 :: x12 :: t) 12 := ⟨by simp, fun j v hj hv => by
  obtain rfl : j = 11 := by omega
  cases hv
  exact h⟩
theorem ok1_13 {x0 x1 x2 x3 x4 x5 x6 x7 x8 x9 x10 x11 x12 x13 : Value} {t : List Value} (h : x12.category = 1) : ev_ok1 (x0 :: x1 :: x2 :: x3 :: x4 :: x5 :: x6 :: x7 :: x8 :: x9 :: x10 :: x11 :: x12 :: x13 :: t) 13 := ⟨by simp, fun j v hj hv => by
  obtain rfl : j = 12 := by omega
  cases hv
  exact h⟩
theorem ok2_0 {x0 x1 : Value} {t : List Value} : ev_ok2 (x0 :: x1 :: t) 0 := ⟨by simp, fun j v h => by omega⟩
theorem ok2_1 {x0 x1 x2 : Value} {t : List Value} (h : x0.category = 1) : ev_ok2 (x0 :: x1 :: x2 :: t) 1 := ⟨by simp, fun j v hj hv => by
  obtain rfl : j = 0 := by omega
  cases hv
  exact h⟩
theorem ok2_2 {x0 x1 x2 x3 : Value} {t : List Value} (h : x1.category = 1) : ev_ok2 (x0 :: x1 :: x2 :: x3 :: t) 2 := ⟨by simp, fun j v hj hv => by
  obtain rfl : j = 1 := by omega
  cases hv
  exact h⟩
theorem ok2_3 {x0 x1 x2 x3 x4 : Value} {t : List Value} (h : x2.category = 1) : ev_ok2 (x0 :: x1 :: x2 :: x3 :: x4 :: t) 3 := ⟨by simp, fun j v hj hv => by
  obtain rfl : j = 2 := by omega
  cases hv
  exact h⟩
theorem ok2_4 {x0 x1 x2 x3 x4 x5 : Value} {t : List Value} (h : x3.category = 1) : ev_ok2 (x0 :: x1 :: x2 :: x3 :: x4 :: x5 :: t) 4 := ⟨by simp, fun j v hj hv => by
  obtain rfl : j = 3 := by omega
  cases hv
  exact h⟩
theorem ok2_5 {x0 x1 x2 x3 x4 x5 x6 : Value} {t : List Value} (h : x4.category = 1) : ev_ok2 (x0 :: x1 :: x2 :: x3 :: x4 :: x5 :: x6 :: t) 5 := ⟨by simp, fun j v hj hv => by
  obtain rfl : j = 4 := by omega
  cases hv
  exact h⟩
theorem ok2_6 {x0 x1 x2 x3 x4 x5 x6 x7 : Value} {t : List Value} (h : x5.category = 1) : ev_ok2 (x0 :: x1 :: x2 :: x3 :: x4 :: x5 :: x6 :: x7 :: t) 6 := ⟨by simp, fun j v hj hv => by
  obtain rfl : j = 5 := by omega
  cases hv
  exact h⟩
theorem ok2_7 {x0 x1 x2 x3 x4 x5 x6 x7 x8 : Value} {t : List Value} (h : x6.category = 1) : ev_ok2 (x0 :: x1 :: x2 :: x3 :: x4 :: x5 :: x6 :: x7 :: x8 :: t) 7 := ⟨by simp, fun j v hj hv => by
  obtain rfl : j = 6 := by omega
  cases hv
  exact h⟩
theorem ok2_8 {x0 x1 x2 x3 x4 x5 x6 x7 x8 x9 : Value} {t : List Value} (h : x7.category = 1) : ev_ok2 (x0 :: x1 :: x2 :: x3 :: x4 :: x5 :: x6 :: x7 :: x8 :: x9 :: t) 8 := ⟨by simp, fun j v hj hv => by
  obtain rfl : j = 7 := by omega
  cases hv
  exact h⟩
theorem ok2_9 {x0 x1 x2 x3 x4 x5 x6 x7 x8 x9 x10 : Value} {t : List Value} (h : x8.category = 1) : ev_ok2 (x0 :: x1 :: x2 :: x3 :: x4 :: x5 :: x6 :: x7 :: x8 :: x9 :: x10 :: t) 9 := ⟨by simp, fun j v hj hv => by
  obtain rfl : j = 8 := by omega
  cases hv
  exact h⟩
theorem ok2_10 {x0 x1 x2 x3 x4 x5 x6 x7 x8 x9 x10 x11 : Value} {t : List Value} (h : x9.category = 1) : ev_ok2 (x0 :: x1 :: x2 :: x3 :: x4 :: x5 :: x6 :: x7 :: x8 :: x9 :: x10 :: x11 :: t) 10 := ⟨by simp, fun j v hj hv => by
  obtain rfl : j = 9 := by omega
  cases hv
  exact h⟩
theorem ok2_11 {x0 x1 x2 x3 x4 x5 x6 x7 x8 x9 x10 x11 x12 : Value} {t : List Value} (h : x10.category = 1) : ev_ok2 (x0 :: x1 :: x2 :: x3 :: x4 :: x5 :: x6 :: x7 :: x8 :: x9 :: x10 :: x11 :: x12 :: t) 11 := ⟨by simp, fun j v hj hv => by
  obtain rfl : j = 10 := by omega
  cases hv
  exact h⟩
theorem ok2_12 {x0 x1 x2 x3 x4 x5 x6 x7 x8 x9 x10 x11 x12 x13 : Value} {t : List Value} (h : x11.category = 1) : ev_ok2 (x0 :: x1 :: x2 :: x3 :: x4 :: x5 :: x6 :: x7 :: x8 :: x9 :: x10 :: x11 :: x12 :: x13 :: t) 12 := ⟨by simp, fun j v hj hv => by
  obtain rfl : j = 11 := by omega
  cases hv
  exact h⟩
set_option maxHeartbeats 2000000 in
set_option maxRecDepth 20000 in
theorem X0_hasPlayer_ok {d : Nat} {μ : ev_M} {x : Int32} (hd : 1 ≤ d := by omega) : ev_CALL d 66 [.ref 44, .int x] μ (some (.int (bI (!decide (x < 0) && !decide (μ 44 10 ≤ x)))), 0) μ := by
  obtain ⟨d, rfl⟩ : ∃ q, d = q + 1 := ⟨d - 1, by omega⟩
  refine SPp.of (Nat.le_of_ble_eq_true rfl) ?_
  show es (ev_CALL d) 0 cX0_hasPlayer (some .boolean) 0 (0, fun _ => 0, []) (fun r μ2 => r = (some (.int (bI (!decide (x < 0) && !decide (μ 44 10 ≤ x)))), 0) ∧ μ2 = μ) 0 [.ref 44, .int x] [] μ 0
  refine es_iload_n (pc := 0) dX0_hasPlayer_0 rfl ?_
  refine es_if_lt (pc := 1) (tgt := 16) dX0_hasPlayer_1 (by decide) (fun c1 => ?_) (fun c1 => ?_)
  · refine es_iconstN (pc := 16) 0 dX0_hasPlayer_16 ic_0 ?_
    refine es_ireturn (pc := 17) dX0_hasPlayer_17 rfl (rfl) (by decide) ?_
    exact ⟨by simp [bI, nI_0, nI_one, *], rfl⟩
  · refine es_iload_n (pc := 4) dX0_hasPlayer_4 rfl ?_
    refine es_aload_n (pc := 5) dX0_hasPlayer_5 rfl ?_
    refine es_getI (pc := 6) dX0_hasPlayer_6 fr_0_42 fld_44_10 ?_
    refine es_icmp_ge (pc := 9) (tgt := 16) dX0_hasPlayer_9 (by decide) (fun c9 => ?_) (fun c9 => ?_)
    · refine es_iconstN (pc := 16) 0 dX0_hasPlayer_16 ic_0 ?_
      refine es_ireturn (pc := 17) dX0_hasPlayer_17 rfl (rfl) (by decide) ?_
      exact ⟨by simp [bI, nI_0, nI_one, *], rfl⟩
    · refine es_iconstN (pc := 12) 1 dX0_hasPlayer_12 ic_1 ?_
      refine es_goto (pc := 13) (tgt := 17) dX0_hasPlayer_13 (by decide) ?_
      refine es_ireturn (pc := 17) dX0_hasPlayer_17 rfl (rfl) (by decide) ?_
      exact ⟨by simp [bI, nI_0, nI_one, *], rfl⟩
set_option maxHeartbeats 2000000 in
set_option maxRecDepth 20000 in
theorem X0_takesMoves_ok {d : Nat} {μ : ev_M}  (hd : 1 ≤ d := by omega) : ev_CALL d 54 [.ref 44] μ (some (.int (bI (!decide (μ 44 10 ≤ 0) && !decide (nI 9999 ≤ μ 44 13)))), 0) μ := by
  obtain ⟨d, rfl⟩ : ∃ q, d = q + 1 := ⟨d - 1, by omega⟩
  refine SPp.of (Nat.le_of_ble_eq_true rfl) ?_
  show es (ev_CALL d) 0 cX0_takesMoves (some .boolean) 0 (0, fun _ => 0, []) (fun r μ2 => r = (some (.int (bI (!decide (μ 44 10 ≤ 0) && !decide (nI 9999 ≤ μ 44 13)))), 0) ∧ μ2 = μ) 0 [.ref 44] [] μ 0
  refine es_aload_n (pc := 0) dX0_takesMoves_0 rfl ?_
  refine es_getI (pc := 1) dX0_takesMoves_1 fr_0_42 fld_44_10 ?_
  refine es_if_le (pc := 4) (tgt := 21) dX0_takesMoves_4 (by decide) (fun c4 => ?_) (fun c4 => ?_)
  · refine es_iconstN (pc := 21) 0 dX0_takesMoves_21 ic_0 ?_
    refine es_ireturn (pc := 22) dX0_takesMoves_22 rfl (rfl) (by decide) ?_
    exact ⟨by simp [bI, nI_0, nI_one, *], rfl⟩
  · refine es_aload_n (pc := 7) dX0_takesMoves_7 rfl ?_
    refine es_getI (pc := 8) dX0_takesMoves_8 fr_0_52 fld_44_13 ?_
    refine es_sipushN (pc := 11) 9999 dX0_takesMoves_11 sp_9999 ?_
    refine es_icmp_ge (pc := 14) (tgt := 21) dX0_takesMoves_14 (by decide) (fun c14 => ?_) (fun c14 => ?_)
    · refine es_iconstN (pc := 21) 0 dX0_takesMoves_21 ic_0 ?_
      refine es_ireturn (pc := 22) dX0_takesMoves_22 rfl (rfl) (by decide) ?_
      exact ⟨by simp [bI, nI_0, nI_one, *], rfl⟩
    · refine es_iconstN (pc := 17) 1 dX0_takesMoves_17 ic_1 ?_
      refine es_goto (pc := 18) (tgt := 22) dX0_takesMoves_18 (by decide) ?_
      refine es_ireturn (pc := 22) dX0_takesMoves_22 rfl (rfl) (by decide) ?_
      exact ⟨by simp [bI, nI_0, nI_one, *], rfl⟩
set_option maxHeartbeats 2000000 in
set_option maxRecDepth 20000 in
theorem X0_sees_ok {d : Nat} {μ : ev_M} {a b : Nat} (ha : a < 10 := by omega) (hb : b < 10 := by omega) (hd : 1 ≤ d := by omega) : ev_CALL d 9 [.ref 44, .int (nI a), .int (nI b)] μ (some (.int (bI (gm_sees (μ 45) a b))), 0) μ := by
  obtain ⟨d, rfl⟩ : ∃ q, d = q + 1 := ⟨d - 1, by omega⟩
  refine SPp.of (Nat.le_of_ble_eq_true rfl) ?_
  show es (ev_CALL d) 0 cX0_sees (some .boolean) 0 (0, fun _ => 0, []) (fun r μ2 => r = (some (.int (bI (gm_sees (μ 45) a b))), 0) ∧ μ2 = μ) 0 [.ref 44, .int (nI a), .int (nI b), .null, .null, .null] [] μ 0
  have hl32 : ∀ (n9 : Nat) (k : Nat), n9 = max a b - k → (k ≤ 20) → (gm_sees (μ 45) a b = gm_clr (μ 45) (gm_mx (μ 45 a) (μ 45 b)) k (max a b - k)) → es (ev_CALL d) 0 cX0_sees (some .boolean) 0 (0, fun _ => 0, []) (fun r μ2 => r = (some (.int (bI (gm_sees (μ 45) a b))), 0) ∧ μ2 = μ) 32 [.ref 44, .int (nI a), .int (nI b), .int (gm_mx (μ 45 a) (μ 45 b)), .int (nI (max a b)), .int (nI k)] [] μ 0 := by
    intro n9
    induction n9 using Nat.strongRecOn with
    | ind n9 ih =>
      intro k hn9 hk hi
      subst hn9
      refine es_iload (pc := 32) dX0_sees_32 rfl ?_
      refine es_iload (pc := 34) dX0_sees_34 rfl ?_
      refine es_icmp_geN (pc := 36) 58 dX0_sees_36 (by decide) (by omega) (by omega) (fun c36 => ?_) (fun c36 => ?_)
      · refine es_iconstN (pc := 58) 1 dX0_sees_58 ic_1 ?_
        refine es_ireturn (pc := 59) dX0_sees_59 rfl (rfl) (by decide) ?_
        exact ⟨by rw [hi, show max a b - k = 0 by omega]; rfl, rfl⟩
      · refine es_aload_n (pc := 39) dX0_sees_39 rfl ?_
        refine es_getR (pc := 40) dX0_sees_40 fr_0_9 fld_44_0 ?_
        refine es_iload (pc := 43) dX0_sees_43 rfl ?_
        refine es_iald (pc := 45) dX0_sees_45 lay_45 (by omega) ?_
        refine es_iload_n (pc := 46) dX0_sees_46 rfl ?_
        refine es_icmp_le (pc := 47) (tgt := 52) dX0_sees_47 (by decide) (fun c47 => ?_) (fun c47 => ?_)
        · refine es_iincN (pc := 52) 1 dX0_sees_52 ic_1 rfl (ok1_5 rfl) ?_
          refine es_goto (pc := 55) (tgt := 32) dX0_sees_55 (by decide) ?_
          exact ih _ (by omega) (k + 1) rfl (by omega) (by rw [hi, show max a b - k = (max a b - (k + 1)) + 1 by omega, gm_clr, if_neg (Int32.not_lt.mpr c47)])
        · refine es_iconstN (pc := 50) 0 dX0_sees_50 ic_0 ?_
          refine es_ireturn (pc := 51) dX0_sees_51 rfl (rfl) (by decide) ?_
          exact ⟨by rw [hi, show max a b - k = (max a b - (k + 1)) + 1 by omega, gm_clr, if_pos (Int32.not_le.mp c47)]; rfl, rfl⟩
  refine es_aload_n (pc := 0) dX0_sees_0 rfl ?_
  refine es_getR (pc := 1) dX0_sees_1 fr_0_9 fld_44_0 ?_
  refine es_iload_n (pc := 4) dX0_sees_4 rfl ?_
  refine es_iald (pc := 5) dX0_sees_5 lay_45 (by omega) ?_
  refine es_aload_n (pc := 6) dX0_sees_6 rfl ?_
  refine es_getR (pc := 7) dX0_sees_7 fr_0_9 fld_44_0 ?_
  refine es_iload_n (pc := 10) dX0_sees_10 rfl ?_
  refine es_iald (pc := 11) dX0_sees_11 lay_45 (by omega) ?_
  refine es_mmax (pc := 12) dX0_sees_12 mr_0_73 (Nat.le_of_ble_eq_true rfl) ?_
  refine es_istore_n (pc := 15) dX0_sees_15 (ok1_3 rfl) ?_
  refine es_iload_n (pc := 16) dX0_sees_16 rfl ?_
  refine es_iload_n (pc := 17) dX0_sees_17 rfl ?_
  refine es_mmax (pc := 18) dX0_sees_18 mr_0_73 (Nat.le_of_ble_eq_true rfl) ?_
  refine es_top (gm_maxN (by omega) (by omega)) ?_
  refine es_istore (pc := 21) dX0_sees_21 (ok1_4 rfl) ?_
  refine es_iload_n (pc := 23) dX0_sees_23 rfl ?_
  refine es_iload_n (pc := 24) dX0_sees_24 rfl ?_
  refine es_mmin (pc := 25) dX0_sees_25 mr_0_79 (Nat.le_of_ble_eq_true rfl) ?_
  refine es_top (gm_minN (by omega) (by omega)) ?_
  refine es_iconstN (pc := 28) 1 dX0_sees_28 ic_1 ?_
  refine es_iaddN (pc := 29) dX0_sees_29 ?_
  refine es_istore (pc := 30) dX0_sees_30 (ok1_5 rfl) ?_
  exact hl32 _ (min a b + 1) rfl (by omega) rfl
set_option maxHeartbeats 2000000 in
set_option maxRecDepth 20000 in
theorem X0_towersSeenFrom_ok {d : Nat} {μ : ev_M} {a : Nat} (ha : a < 10 := by omega) (hd : 2 ≤ d := by omega) : ev_CALL d 12 [.ref 44, .int (nI a)] μ (some (.int (gm_mask (gm_sees (μ 45) a) 10)), 0) μ := by
  obtain ⟨d, rfl⟩ : ∃ q, d = q + 1 := ⟨d - 1, by omega⟩
  refine SPp.of (Nat.le_of_ble_eq_true rfl) ?_
  show es (ev_CALL d) 0 cX0_towersSeenFrom (some .int) 0 (0, fun _ => 0, []) (fun r μ2 => r = (some (.int (gm_mask (gm_sees (μ 45) a) 10)), 0) ∧ μ2 = μ) 0 [.ref 44, .int (nI a), .null, .null] [] μ 0
  have hl4 : ∀ (n9 : Nat) (m : Int32) (k : Nat), n9 = 10 - k → (k ≤ 10) → (m = gm_mask (gm_sees (μ 45) a) k) → es (ev_CALL d) 0 cX0_towersSeenFrom (some .int) 0 (0, fun _ => 0, []) (fun r μ2 => r = (some (.int (gm_mask (gm_sees (μ 45) a) 10)), 0) ∧ μ2 = μ) 4 [.ref 44, .int (nI a), .int m, .int (nI k)] [] μ 0 := by
    intro n9
    induction n9 using Nat.strongRecOn with
    | ind n9 ih =>
      intro m k hn9 hk hm
      subst hn9
      refine es_iload_n (pc := 4) dX0_towersSeenFrom_4 rfl ?_
      refine es_bipushN (pc := 5) 10 dX0_towersSeenFrom_5 bp_10 ?_
      refine es_icmp_geN (pc := 7) 31 dX0_towersSeenFrom_7 (by decide) (by omega) (by omega) (fun c7 => ?_) (fun c7 => ?_)
      · refine es_iload_n (pc := 31) dX0_towersSeenFrom_31 rfl ?_
        refine es_ireturn (pc := 32) dX0_towersSeenFrom_32 rfl (vp_nar_int _) (by decide) ?_
        exact ⟨by rw [hm, show k = 10 by omega], rfl⟩
      · refine es_aload_n (pc := 10) dX0_towersSeenFrom_10 rfl ?_
        refine es_iload_n (pc := 11) dX0_towersSeenFrom_11 rfl ?_
        refine es_iload_n (pc := 12) dX0_towersSeenFrom_12 rfl ?_
        refine es_cv2_p (pc := 13) dX0_towersSeenFrom_13 mr_0_82 rfl rfl (by decide) (by decide) rfl (Nat.le_of_ble_eq_true rfl) (Nat.zero_le _) (X0_sees_ok) ?_
        refine es_if_eqB (pc := 16) 25 dX0_towersSeenFrom_16 (by decide) (fun c16 => ?_) (fun c16 => ?_)
        · refine es_iincN (pc := 25) 1 dX0_towersSeenFrom_25 ic_1 rfl (ok1_3 rfl) ?_
          refine es_goto (pc := 28) (tgt := 4) dX0_towersSeenFrom_28 (by decide) ?_
          exact ih _ (by omega) _ (k + 1) rfl (by omega) (by rw [gm_mask, hm]; simp [c16])
        · refine es_iload_n (pc := 19) dX0_towersSeenFrom_19 rfl ?_
          refine es_iconstN (pc := 20) 1 dX0_towersSeenFrom_20 ic_1 ?_
          refine es_iload_n (pc := 21) dX0_towersSeenFrom_21 rfl ?_
          refine es_ishl (pc := 22) dX0_towersSeenFrom_22 ?_
          refine es_ior (pc := 23) dX0_towersSeenFrom_23 ?_
          refine es_istore_n (pc := 24) dX0_towersSeenFrom_24 (ok1_2 rfl) ?_
          refine es_iincN (pc := 25) 1 dX0_towersSeenFrom_25 ic_1 rfl (ok1_3 rfl) ?_
          refine es_goto (pc := 28) (tgt := 4) dX0_towersSeenFrom_28 (by decide) ?_
          exact ih _ (by omega) _ (k + 1) rfl (by omega) (by rw [gm_mask, hm]; simp [c16])
  refine es_iconstN (pc := 0) 0 dX0_towersSeenFrom_0 ic_0 ?_
  refine es_istore_n (pc := 1) dX0_towersSeenFrom_1 (ok1_2 rfl) ?_
  refine es_iconstN (pc := 2) 0 dX0_towersSeenFrom_2 ic_0 ?_
  refine es_istore_n (pc := 3) dX0_towersSeenFrom_3 (ok1_3 rfl) ?_
  exact hl4 _ _ 0 rfl (by omega) rfl
set_option maxHeartbeats 2000000 in
set_option maxRecDepth 20000 in
theorem J6_bitCount_ok {d : Nat} {μ : ev_M} {x : Int32} (hd : 1 ≤ d := by omega) : ev_CALL d 13 [.int x] μ (some (.int (gm_bc x)), 0) μ := by
  obtain ⟨d, rfl⟩ : ∃ q, d = q + 1 := ⟨d - 1, by omega⟩
  refine SPp.of (Nat.le_of_ble_eq_true rfl) ?_
  show es (ev_CALL d) 7 cJ6_bitCount_0f7a4 (some .int) 0 (0, fun _ => 0, []) (fun r μ2 => r = (some (.int (gm_bc x)), 0) ∧ μ2 = μ) 0 [.int x] [] μ 0
  refine es_iload_n (pc := 0) dJ6_bitCount_0f7a4_0 rfl ?_
  refine es_iload_n (pc := 1) dJ6_bitCount_0f7a4_1 rfl ?_
  refine es_iconstN (pc := 2) 1 dJ6_bitCount_0f7a4_2 ic_1 ?_
  refine es_iushr (pc := 3) dJ6_bitCount_0f7a4_3 ?_
  refine es_ldcw (pc := 4) dJ6_bitCount_0f7a4_4 ci_7_265 ?_
  refine es_iand (pc := 7) dJ6_bitCount_0f7a4_7 ?_
  refine es_isub (pc := 8) dJ6_bitCount_0f7a4_8 ?_
  refine es_istore_n (pc := 9) dJ6_bitCount_0f7a4_9 (ok1_0) ?_
  refine es_iload_n (pc := 10) dJ6_bitCount_0f7a4_10 rfl ?_
  refine es_ldcw (pc := 11) dJ6_bitCount_0f7a4_11 ci_7_266 ?_
  refine es_iand (pc := 14) dJ6_bitCount_0f7a4_14 ?_
  refine es_iload_n (pc := 15) dJ6_bitCount_0f7a4_15 rfl ?_
  refine es_iconstN (pc := 16) 2 dJ6_bitCount_0f7a4_16 ic_2 ?_
  refine es_iushr (pc := 17) dJ6_bitCount_0f7a4_17 ?_
  refine es_ldcw (pc := 18) dJ6_bitCount_0f7a4_18 ci_7_266 ?_
  refine es_iand (pc := 21) dJ6_bitCount_0f7a4_21 ?_
  refine es_iadd (pc := 22) dJ6_bitCount_0f7a4_22 ?_
  refine es_istore_n (pc := 23) dJ6_bitCount_0f7a4_23 (ok1_0) ?_
  refine es_iload_n (pc := 24) dJ6_bitCount_0f7a4_24 rfl ?_
  refine es_iload_n (pc := 25) dJ6_bitCount_0f7a4_25 rfl ?_
  refine es_iconstN (pc := 26) 4 dJ6_bitCount_0f7a4_26 ic_4 ?_
  refine es_iushr (pc := 27) dJ6_bitCount_0f7a4_27 ?_
  refine es_iadd (pc := 28) dJ6_bitCount_0f7a4_28 ?_
  refine es_ldcw (pc := 29) dJ6_bitCount_0f7a4_29 ci_7_267 ?_
  refine es_iand (pc := 32) dJ6_bitCount_0f7a4_32 ?_
  refine es_istore_n (pc := 33) dJ6_bitCount_0f7a4_33 (ok1_0) ?_
  refine es_iload_n (pc := 34) dJ6_bitCount_0f7a4_34 rfl ?_
  refine es_iload_n (pc := 35) dJ6_bitCount_0f7a4_35 rfl ?_
  refine es_bipushN (pc := 36) 8 dJ6_bitCount_0f7a4_36 bp_8 ?_
  refine es_iushr (pc := 38) dJ6_bitCount_0f7a4_38 ?_
  refine es_iadd (pc := 39) dJ6_bitCount_0f7a4_39 ?_
  refine es_istore_n (pc := 40) dJ6_bitCount_0f7a4_40 (ok1_0) ?_
  refine es_iload_n (pc := 41) dJ6_bitCount_0f7a4_41 rfl ?_
  refine es_iload_n (pc := 42) dJ6_bitCount_0f7a4_42 rfl ?_
  refine es_bipushN (pc := 43) 16 dJ6_bitCount_0f7a4_43 bp_16 ?_
  refine es_iushr (pc := 45) dJ6_bitCount_0f7a4_45 ?_
  refine es_iadd (pc := 46) dJ6_bitCount_0f7a4_46 ?_
  refine es_istore_n (pc := 47) dJ6_bitCount_0f7a4_47 (ok1_0) ?_
  refine es_iload_n (pc := 48) dJ6_bitCount_0f7a4_48 rfl ?_
  refine es_bipushN (pc := 49) 63 dJ6_bitCount_0f7a4_49 bp_63 ?_
  refine es_iand (pc := 51) dJ6_bitCount_0f7a4_51 ?_
  refine es_ireturn (pc := 52) dJ6_bitCount_0f7a4_52 rfl (vp_nar_int _) (by decide) ?_
  exact ⟨rfl, rfl⟩
set_option maxHeartbeats 2000000 in
set_option maxRecDepth 20000 in
theorem X0_towerThatSeesMost_ok {d : Nat} {μ : ev_M}  (hd : 3 ≤ d := by omega) : ev_CALL d 11 [.ref 44] μ (some (.int (nI (gm_look (fun t => gm_bc (gm_mask (gm_sees (μ 45) t) 10)) 10).1)), 0) μ := by
  obtain ⟨d, rfl⟩ : ∃ q, d = q + 1 := ⟨d - 1, by omega⟩
  refine SPp.of (Nat.le_of_ble_eq_true rfl) ?_
  show es (ev_CALL d) 0 cX0_towerThatSeesMost (some .int) 0 (0, fun _ => 0, []) (fun r μ2 => r = (some (.int (nI (gm_look (fun t => gm_bc (gm_mask (gm_sees (μ 45) t) 10)) 10).1)), 0) ∧ μ2 = μ) 0 [.ref 44, .null, .null, .null, .null] [] μ 0
  have hl6 : ∀ (n9 : Nat) (j : Value) (b : Nat) (mo : Int32) (k : Nat), n9 = 10 - k → (k ≤ 10) → (gm_look (fun t => gm_bc (gm_mask (gm_sees (μ 45) t) 10)) k = (b, mo)) → es (ev_CALL d) 0 cX0_towerThatSeesMost (some .int) 0 (0, fun _ => 0, []) (fun r μ2 => r = (some (.int (nI (gm_look (fun t => gm_bc (gm_mask (gm_sees (μ 45) t) 10)) 10).1)), 0) ∧ μ2 = μ) 6 [.ref 44, .int (nI b), .int mo, .int (nI k), j] [] μ 0 := by
    intro n9
    induction n9 using Nat.strongRecOn with
    | ind n9 ih =>
      intro j b mo k hn9 hk hb
      subst hn9
      refine es_iload_n (pc := 6) dX0_towerThatSeesMost_6 rfl ?_
      refine es_bipushN (pc := 7) 10 dX0_towerThatSeesMost_7 bp_10 ?_
      refine es_icmp_geN (pc := 9) 39 dX0_towerThatSeesMost_9 (by decide) (by omega) (by omega) (fun c9 => ?_) (fun c9 => ?_)
      · refine es_iload_n (pc := 39) dX0_towerThatSeesMost_39 rfl ?_
        refine es_ireturn (pc := 40) dX0_towerThatSeesMost_40 rfl (vp_nar_int _) (by decide) ?_
        exact ⟨by rw [show k = 10 by omega] at hb; rw [hb], rfl⟩
      · refine es_aload_n (pc := 12) dX0_towerThatSeesMost_12 rfl ?_
        refine es_iload_n (pc := 13) dX0_towerThatSeesMost_13 rfl ?_
        refine es_cv1_p (pc := 14) dX0_towerThatSeesMost_14 mr_0_86 rfl rfl (by decide) (by decide) rfl (Nat.le_of_ble_eq_true rfl) (Nat.zero_le _) (X0_towersSeenFrom_ok) ?_
        refine es_cs1_p (pc := 17) dX0_towerThatSeesMost_17 mr_0_90 rfl rfl rfl (Nat.le_of_ble_eq_true rfl) (Nat.zero_le _) (J6_bitCount_ok) ?_
        refine es_istore (pc := 20) dX0_towerThatSeesMost_20 (ok1_4 rfl) ?_
        refine es_iload (pc := 22) dX0_towerThatSeesMost_22 rfl ?_
        refine es_iload_n (pc := 24) dX0_towerThatSeesMost_24 rfl ?_
        refine es_icmp_le (pc := 25) (tgt := 33) dX0_towerThatSeesMost_25 (by decide) (fun c25 => ?_) (fun c25 => ?_)
        · refine es_iincN (pc := 33) 1 dX0_towerThatSeesMost_33 ic_1 rfl (ok1_3 rfl) ?_
          refine es_goto (pc := 36) (tgt := 6) dX0_towerThatSeesMost_36 (by decide) ?_
          exact ih _ (by omega) _ _ _ (k + 1) rfl (by omega) (by rw [gm_look, hb]; first | rw [if_pos (Int32.not_le.mp c25)] | rw [if_neg (Int32.not_lt.mpr c25)])
        · refine es_iload (pc := 28) dX0_towerThatSeesMost_28 rfl ?_
          refine es_istore_n (pc := 30) dX0_towerThatSeesMost_30 (ok1_2 rfl) ?_
          refine es_iload_n (pc := 31) dX0_towerThatSeesMost_31 rfl ?_
          refine es_istore_n (pc := 32) dX0_towerThatSeesMost_32 (ok1_1 rfl) ?_
          refine es_iincN (pc := 33) 1 dX0_towerThatSeesMost_33 ic_1 rfl (ok1_3 rfl) ?_
          refine es_goto (pc := 36) (tgt := 6) dX0_towerThatSeesMost_36 (by decide) ?_
          exact ih _ (by omega) _ _ _ (k + 1) rfl (by omega) (by rw [gm_look, hb]; first | rw [if_pos (Int32.not_le.mp c25)] | rw [if_neg (Int32.not_lt.mpr c25)])
  refine es_iconstN (pc := 0) 0 dX0_towerThatSeesMost_0 ic_0 ?_
  refine es_istore_n (pc := 1) dX0_towerThatSeesMost_1 (ok1_1 rfl) ?_
  refine es_iconstN (pc := 2) 0 dX0_towerThatSeesMost_2 ic_0 ?_
  refine es_istore_n (pc := 3) dX0_towerThatSeesMost_3 (ok1_2 rfl) ?_
  refine es_iconstN (pc := 4) 0 dX0_towerThatSeesMost_4 ic_0 ?_
  refine es_istore_n (pc := 5) dX0_towerThatSeesMost_5 (ok1_3 rfl) ?_
  exact hl6 _ _ 0 _ 0 rfl (by omega) rfl
set_option maxHeartbeats 2000000 in
set_option maxRecDepth 20000 in
theorem X0_playersOn_ok {d : Nat} {μ : ev_M} {a P : Nat} (hP : μ 44 10 = nI P) (hP4 : P ≤ 4 := by omega) (hd : 1 ≤ d := by omega) : ev_CALL d 25 [.ref 44, .int (nI a)] μ (some (.int (gm_mask (fun k => decide (μ 48 k = nI a)) P)), 0) μ := by
  obtain ⟨d, rfl⟩ : ∃ q, d = q + 1 := ⟨d - 1, by omega⟩
  refine SPp.of (Nat.le_of_ble_eq_true rfl) ?_
  show es (ev_CALL d) 0 cX0_playersOn (some .int) 0 (0, fun _ => 0, []) (fun r μ2 => r = (some (.int (gm_mask (fun k => decide (μ 48 k = nI a)) P)), 0) ∧ μ2 = μ) 0 [.ref 44, .int (nI a), .null, .null] [] μ 0
  have hl4 : ∀ (n9 : Nat) (m : Int32) (k : Nat), n9 = P - k → (k ≤ P) → (m = gm_mask (fun k => decide (μ 48 k = nI a)) k) → es (ev_CALL d) 0 cX0_playersOn (some .int) 0 (0, fun _ => 0, []) (fun r μ2 => r = (some (.int (gm_mask (fun k => decide (μ 48 k = nI a)) P)), 0) ∧ μ2 = μ) 4 [.ref 44, .int (nI a), .int m, .int (nI k)] [] μ 0 := by
    intro n9
    induction n9 using Nat.strongRecOn with
    | ind n9 ih =>
      intro m k hn9 hk hm
      subst hn9
      refine es_iload_n (pc := 4) dX0_playersOn_4 rfl ?_
      refine es_aload_n (pc := 5) dX0_playersOn_5 rfl ?_
      refine es_getI (pc := 6) dX0_playersOn_6 fr_0_42 fld_44_10 ?_
      refine es_top hP ?_
      refine es_icmp_geN (pc := 9) 34 dX0_playersOn_9 (by decide) (by omega) (by omega) (fun c9 => ?_) (fun c9 => ?_)
      · refine es_iload_n (pc := 34) dX0_playersOn_34 rfl ?_
        refine es_ireturn (pc := 35) dX0_playersOn_35 rfl (vp_nar_int _) (by decide) ?_
        exact ⟨by rw [hm, show k = P by omega], rfl⟩
      · refine es_aload_n (pc := 12) dX0_playersOn_12 rfl ?_
        refine es_getR (pc := 13) dX0_playersOn_13 fr_0_21 fld_44_3 ?_
        refine es_iload_n (pc := 16) dX0_playersOn_16 rfl ?_
        refine es_iald (pc := 17) dX0_playersOn_17 lay_48 (by omega) ?_
        refine es_iload_n (pc := 18) dX0_playersOn_18 rfl ?_
        refine es_icmp_ne (pc := 19) (tgt := 28) dX0_playersOn_19 (by decide) (fun c19 => ?_) (fun c19 => ?_)
        · refine es_iincN (pc := 28) 1 dX0_playersOn_28 ic_1 rfl (ok1_3 rfl) ?_
          refine es_goto (pc := 31) (tgt := 4) dX0_playersOn_31 (by decide) ?_
          exact ih _ (by omega) _ (k + 1) rfl (by omega) (by rw [gm_mask, hm]; simp [c19])
        · refine es_iload_n (pc := 22) dX0_playersOn_22 rfl ?_
          refine es_iconstN (pc := 23) 1 dX0_playersOn_23 ic_1 ?_
          refine es_iload_n (pc := 24) dX0_playersOn_24 rfl ?_
          refine es_ishl (pc := 25) dX0_playersOn_25 ?_
          refine es_ior (pc := 26) dX0_playersOn_26 ?_
          refine es_istore_n (pc := 27) dX0_playersOn_27 (ok1_2 rfl) ?_
          refine es_iincN (pc := 28) 1 dX0_playersOn_28 ic_1 rfl (ok1_3 rfl) ?_
          refine es_goto (pc := 31) (tgt := 4) dX0_playersOn_31 (by decide) ?_
          exact ih _ (by omega) _ (k + 1) rfl (by omega) (by rw [gm_mask, hm]; simp [c19])
  refine es_iconstN (pc := 0) 0 dX0_playersOn_0 ic_0 ?_
  refine es_istore_n (pc := 1) dX0_playersOn_1 (ok1_2 rfl) ?_
  refine es_iconstN (pc := 2) 0 dX0_playersOn_2 ic_0 ?_
  refine es_istore_n (pc := 3) dX0_playersOn_3 (ok1_3 rfl) ?_
  exact hl4 _ _ 0 rfl (by omega) rfl
set_option maxHeartbeats 2000000 in
set_option maxRecDepth 20000 in
theorem X0_priceOfStride_ok {d : Nat} {μ : ev_M} {a b : Nat} (ha : a < 10 := by omega) (hb : b < 10 := by omega) (hd : 1 ≤ d := by omega) : ev_CALL d 22 [.ref 44, .int (nI a), .int (nI b)] μ (some (.int (gm_price (μ 47 1) (μ 45) a b)), 0) μ := by
  obtain ⟨d, rfl⟩ : ∃ q, d = q + 1 := ⟨d - 1, by omega⟩
  refine SPp.of (Nat.le_of_ble_eq_true rfl) ?_
  show es (ev_CALL d) 0 cX0_priceOfStride (some .int) 0 (0, fun _ => 0, []) (fun r μ2 => r = (some (.int (gm_price (μ 47 1) (μ 45) a b)), 0) ∧ μ2 = μ) 0 [.ref 44, .int (nI a), .int (nI b)] [] μ 0
  refine es_aload_n (pc := 0) dX0_priceOfStride_0 rfl ?_
  refine es_getR (pc := 1) dX0_priceOfStride_1 fr_0_18 fld_44_2 ?_
  refine es_iconstN (pc := 4) 1 dX0_priceOfStride_4 ic_1 ?_
  refine es_iald (pc := 5) dX0_priceOfStride_5 lay_47 (by omega) ?_
  refine es_iload_n (pc := 6) dX0_priceOfStride_6 rfl ?_
  refine es_iload_n (pc := 7) dX0_priceOfStride_7 rfl ?_
  refine es_isub (pc := 8) dX0_priceOfStride_8 ?_
  refine es_mabs (pc := 9) dX0_priceOfStride_9 mr_0_95 (Nat.le_of_ble_eq_true rfl) ?_
  refine es_top (gm_absN (a := a) (b := b) (by omega) (by omega)) ?_
  refine es_imul (pc := 12) dX0_priceOfStride_12 ?_
  refine es_iconstN (pc := 13) 0 dX0_priceOfStride_13 ic_0 ?_
  refine es_aload_n (pc := 14) dX0_priceOfStride_14 rfl ?_
  refine es_getR (pc := 15) dX0_priceOfStride_15 fr_0_9 fld_44_0 ?_
  refine es_iload_n (pc := 18) dX0_priceOfStride_18 rfl ?_
  refine es_iald (pc := 19) dX0_priceOfStride_19 lay_45 (by omega) ?_
  refine es_aload_n (pc := 20) dX0_priceOfStride_20 rfl ?_
  refine es_getR (pc := 21) dX0_priceOfStride_21 fr_0_9 fld_44_0 ?_
  refine es_iload_n (pc := 24) dX0_priceOfStride_24 rfl ?_
  refine es_iald (pc := 25) dX0_priceOfStride_25 lay_45 (by omega) ?_
  refine es_isub (pc := 26) dX0_priceOfStride_26 ?_
  refine es_mmax (pc := 27) dX0_priceOfStride_27 mr_0_73 (Nat.le_of_ble_eq_true rfl) ?_
  refine es_iadd (pc := 30) dX0_priceOfStride_30 ?_
  refine es_ireturn (pc := 31) dX0_priceOfStride_31 rfl (vp_nar_int _) (by decide) ?_
  exact ⟨rfl, rfl⟩
set_option maxHeartbeats 2000000 in
set_option maxRecDepth 20000 in
theorem X0_refusalOfStride_ok {d : Nat} {μ : ev_M} {p a t : Nat} (hpl : μ 48 p = nI a) (hp : p < 4 := by omega) (ha : a < 10 := by omega) (ht : t < 10 := by omega) (hd : 2 ≤ d := by omega) : ev_CALL d 33 [.ref 44, .int (nI p), .int (nI t)] μ (some (.int (gm_why (μ 47 1) (μ 45) (μ 50 p) a t)), 0) μ := by
  obtain ⟨d, rfl⟩ : ∃ q, d = q + 1 := ⟨d - 1, by omega⟩
  refine SPp.of (Nat.le_of_ble_eq_true rfl) ?_
  show es (ev_CALL d) 0 cX0_refusalOfStride (some .int) 0 (0, fun _ => 0, []) (fun r μ2 => r = (some (.int (gm_why (μ 47 1) (μ 45) (μ 50 p) a t)), 0) ∧ μ2 = μ) 0 [.ref 44, .int (nI p), .int (nI t), .null] [] μ 0
  refine es_aload_n (pc := 0) dX0_refusalOfStride_0 rfl ?_
  refine es_getR (pc := 1) dX0_refusalOfStride_1 fr_0_21 fld_44_3 ?_
  refine es_iload_n (pc := 4) dX0_refusalOfStride_4 rfl ?_
  refine es_iald (pc := 5) dX0_refusalOfStride_5 lay_48 (by omega) ?_
  refine es_top (hpl) ?_
  refine es_istore_n (pc := 6) dX0_refusalOfStride_6 (ok1_3 rfl) ?_
  refine es_iload_n (pc := 7) dX0_refusalOfStride_7 rfl ?_
  refine es_iload_n (pc := 8) dX0_refusalOfStride_8 rfl ?_
  refine es_icmp_neN (pc := 9) 14 dX0_refusalOfStride_9 (by decide) (by omega) (by omega) (fun c9 => ?_) (fun c9 => ?_)
  · refine es_aload_n (pc := 14) dX0_refusalOfStride_14 rfl ?_
    refine es_iload_n (pc := 15) dX0_refusalOfStride_15 rfl ?_
    refine es_iload_n (pc := 16) dX0_refusalOfStride_16 rfl ?_
    refine es_cv2_p (pc := 17) dX0_refusalOfStride_17 mr_0_82 rfl rfl (by decide) (by decide) rfl (Nat.le_of_ble_eq_true rfl) (Nat.zero_le _) (X0_sees_ok) ?_
    refine es_if_neB (pc := 20) 25 dX0_refusalOfStride_20 (by decide) (fun c20 => ?_) (fun c20 => ?_)
    · refine es_aload_n (pc := 25) dX0_refusalOfStride_25 rfl ?_
      refine es_iload_n (pc := 26) dX0_refusalOfStride_26 rfl ?_
      refine es_iload_n (pc := 27) dX0_refusalOfStride_27 rfl ?_
      refine es_cv2_p (pc := 28) dX0_refusalOfStride_28 mr_0_98 rfl rfl (by decide) (by decide) rfl (Nat.le_of_ble_eq_true rfl) (Nat.zero_le _) (X0_priceOfStride_ok) ?_
      refine es_aload_n (pc := 31) dX0_refusalOfStride_31 rfl ?_
      refine es_getR (pc := 32) dX0_refusalOfStride_32 fr_0_27 fld_44_5 ?_
      refine es_iload_n (pc := 35) dX0_refusalOfStride_35 rfl ?_
      refine es_iald (pc := 36) dX0_refusalOfStride_36 lay_50 (by omega) ?_
      refine es_icmp_le (pc := 37) (tgt := 44) dX0_refusalOfStride_37 (by decide) (fun c37 => ?_) (fun c37 => ?_)
      · refine es_iconstN (pc := 44) 0 dX0_refusalOfStride_44 ic_0 ?_
        refine es_ireturn (pc := 45) dX0_refusalOfStride_45 rfl (vp_nar_int _) (by decide) ?_
        exact ⟨by simp [gm_why, c9, c20, Int32.not_lt.mpr c37], rfl⟩
      · refine es_iconstN (pc := 40) 3 dX0_refusalOfStride_40 ic_3 ?_
        refine es_goto (pc := 41) (tgt := 45) dX0_refusalOfStride_41 (by decide) ?_
        refine es_ireturn (pc := 45) dX0_refusalOfStride_45 rfl (vp_nar_int _) (by decide) ?_
        exact ⟨by simp [gm_why, c9, c20, Int32.not_le.mp c37], rfl⟩
    · refine es_iconstN (pc := 23) 2 dX0_refusalOfStride_23 ic_2 ?_
      refine es_ireturn (pc := 24) dX0_refusalOfStride_24 rfl (vp_nar_int _) (by decide) ?_
      exact ⟨by simp [gm_why, c9, c20], rfl⟩
  · refine es_iconstN (pc := 12) 1 dX0_refusalOfStride_12 ic_1 ?_
    refine es_ireturn (pc := 13) dX0_refusalOfStride_13 rfl (vp_nar_int _) (by decide) ?_
    exact ⟨by simp [gm_why, c9], rfl⟩
set_option maxHeartbeats 2000000 in
set_option maxRecDepth 20000 in
theorem X0_towersToStrideTo_ok {d : Nat} {μ : ev_M} {p a : Nat} (hpl : μ 48 p = nI a) (hp : p < 4 := by omega) (ha : a < 10 := by omega) (hd : 3 ≤ d := by omega) : ev_CALL d 32 [.ref 44, .int (nI p)] μ (some (.int (gm_mask (fun t => decide (gm_why (μ 47 1) (μ 45) (μ 50 p) a t = 0)) 10)), 0) μ := by
  obtain ⟨d, rfl⟩ : ∃ q, d = q + 1 := ⟨d - 1, by omega⟩
  refine SPp.of (Nat.le_of_ble_eq_true rfl) ?_
  show es (ev_CALL d) 0 cX0_towersToStrideTo (some .int) 0 (0, fun _ => 0, []) (fun r μ2 => r = (some (.int (gm_mask (fun t => decide (gm_why (μ 47 1) (μ 45) (μ 50 p) a t = 0)) 10)), 0) ∧ μ2 = μ) 0 [.ref 44, .int (nI p), .null, .null] [] μ 0
  have hl4 : ∀ (n9 : Nat) (m : Int32) (k : Nat), n9 = 10 - k → (k ≤ 10) → (m = gm_mask (fun t => decide (gm_why (μ 47 1) (μ 45) (μ 50 p) a t = 0)) k) → es (ev_CALL d) 0 cX0_towersToStrideTo (some .int) 0 (0, fun _ => 0, []) (fun r μ2 => r = (some (.int (gm_mask (fun t => decide (gm_why (μ 47 1) (μ 45) (μ 50 p) a t = 0)) 10)), 0) ∧ μ2 = μ) 4 [.ref 44, .int (nI p), .int m, .int (nI k)] [] μ 0 := by
    intro n9
    induction n9 using Nat.strongRecOn with
    | ind n9 ih =>
      intro m k hn9 hk hm
      subst hn9
      refine es_iload_n (pc := 4) dX0_towersToStrideTo_4 rfl ?_
      refine es_bipushN (pc := 5) 10 dX0_towersToStrideTo_5 bp_10 ?_
      refine es_icmp_geN (pc := 7) 31 dX0_towersToStrideTo_7 (by decide) (by omega) (by omega) (fun c7 => ?_) (fun c7 => ?_)
      · refine es_iload_n (pc := 31) dX0_towersToStrideTo_31 rfl ?_
        refine es_ireturn (pc := 32) dX0_towersToStrideTo_32 rfl (vp_nar_int _) (by decide) ?_
        exact ⟨by rw [hm, show k = 10 by omega], rfl⟩
      · refine es_aload_n (pc := 10) dX0_towersToStrideTo_10 rfl ?_
        refine es_iload_n (pc := 11) dX0_towersToStrideTo_11 rfl ?_
        refine es_iload_n (pc := 12) dX0_towersToStrideTo_12 rfl ?_
        refine es_cv2_p (pc := 13) dX0_towersToStrideTo_13 mr_0_101 rfl rfl (by decide) (by decide) rfl (Nat.le_of_ble_eq_true rfl) (Nat.zero_le _) (X0_refusalOfStride_ok hpl) ?_
        refine es_if_ne (pc := 16) (tgt := 25) dX0_towersToStrideTo_16 (by decide) (fun c16 => ?_) (fun c16 => ?_)
        · refine es_iincN (pc := 25) 1 dX0_towersToStrideTo_25 ic_1 rfl (ok1_3 rfl) ?_
          refine es_goto (pc := 28) (tgt := 4) dX0_towersToStrideTo_28 (by decide) ?_
          exact ih _ (by omega) _ (k + 1) rfl (by omega) (by rw [gm_mask, hm]; simp [c16])
        · refine es_iload_n (pc := 19) dX0_towersToStrideTo_19 rfl ?_
          refine es_iconstN (pc := 20) 1 dX0_towersToStrideTo_20 ic_1 ?_
          refine es_iload_n (pc := 21) dX0_towersToStrideTo_21 rfl ?_
          refine es_ishl (pc := 22) dX0_towersToStrideTo_22 ?_
          refine es_ior (pc := 23) dX0_towersToStrideTo_23 ?_
          refine es_istore_n (pc := 24) dX0_towersToStrideTo_24 (ok1_2 rfl) ?_
          refine es_iincN (pc := 25) 1 dX0_towersToStrideTo_25 ic_1 rfl (ok1_3 rfl) ?_
          refine es_goto (pc := 28) (tgt := 4) dX0_towersToStrideTo_28 (by decide) ?_
          exact ih _ (by omega) _ (k + 1) rfl (by omega) (by rw [gm_mask, hm]; simp [c16])
  refine es_iconstN (pc := 0) 0 dX0_towersToStrideTo_0 ic_0 ?_
  refine es_istore_n (pc := 1) dX0_towersToStrideTo_1 (ok1_2 rfl) ?_
  refine es_iconstN (pc := 2) 0 dX0_towersToStrideTo_2 ic_0 ?_
  refine es_istore_n (pc := 3) dX0_towersToStrideTo_3 (ok1_3 rfl) ?_
  exact hl4 _ _ 0 rfl (by omega) rfl
set_option maxHeartbeats 2000000 in
set_option maxRecDepth 20000 in
theorem X0_refusalOfTag_ok {d : Nat} {μ : ev_M} {p q a b it : Nat} (hit : μ 44 12 = nI it) (hpa : μ 48 p = nI a) (hqb : μ 48 q = nI b) (hp : p < 4 := by omega) (hq : q < 4 := by omega) (hi4 : it < 4 := by omega) (ha : a < 10 := by omega) (hb : b < 10 := by omega) (hd : 2 ≤ d := by omega) : ev_CALL d 8 [.ref 44, .int (nI p), .int (nI q)] μ (some (.int (gm_tagw (μ 45) (μ 47 3) it p q a b)), 0) μ := by
  obtain ⟨d, rfl⟩ : ∃ q, d = q + 1 := ⟨d - 1, by omega⟩
  refine SPp.of (Nat.le_of_ble_eq_true rfl) ?_
  show es (ev_CALL d) 0 cX0_refusalOfTag (some .int) 0 (0, fun _ => 0, []) (fun r μ2 => r = (some (.int (gm_tagw (μ 45) (μ 47 3) it p q a b)), 0) ∧ μ2 = μ) 0 [.ref 44, .int (nI p), .int (nI q)] [] μ 0
  refine es_iload_n (pc := 0) dX0_refusalOfTag_0 rfl ?_
  refine es_aload_n (pc := 1) dX0_refusalOfTag_1 rfl ?_
  refine es_getI (pc := 2) dX0_refusalOfTag_2 fr_0_49 fld_44_12 ?_
  refine es_top hit ?_
  refine es_icmp_eqN (pc := 5) 10 dX0_refusalOfTag_5 (by decide) (by omega) (by omega) (fun c5 => ?_) (fun c5 => ?_)
  · refine es_iload_n (pc := 10) dX0_refusalOfTag_10 rfl ?_
    refine es_iload_n (pc := 11) dX0_refusalOfTag_11 rfl ?_
    refine es_icmp_neN (pc := 12) 18 dX0_refusalOfTag_12 (by decide) (by omega) (by omega) (fun c12 => ?_) (fun c12 => ?_)
    · refine es_aload_n (pc := 18) dX0_refusalOfTag_18 rfl ?_
      refine es_aload_n (pc := 19) dX0_refusalOfTag_19 rfl ?_
      refine es_getR (pc := 20) dX0_refusalOfTag_20 fr_0_21 fld_44_3 ?_
      refine es_iload_n (pc := 23) dX0_refusalOfTag_23 rfl ?_
      refine es_iald (pc := 24) dX0_refusalOfTag_24 lay_48 (by omega) ?_
      refine es_top (hpa) ?_
      refine es_aload_n (pc := 25) dX0_refusalOfTag_25 rfl ?_
      refine es_getR (pc := 26) dX0_refusalOfTag_26 fr_0_21 fld_44_3 ?_
      refine es_iload_n (pc := 29) dX0_refusalOfTag_29 rfl ?_
      refine es_iald (pc := 30) dX0_refusalOfTag_30 lay_48 (by omega) ?_
      refine es_top (hqb) ?_
      refine es_cv2_p (pc := 31) dX0_refusalOfTag_31 mr_0_82 rfl rfl (by decide) (by decide) rfl (Nat.le_of_ble_eq_true rfl) (Nat.zero_le _) (X0_sees_ok) ?_
      refine es_if_neB (pc := 34) 39 dX0_refusalOfTag_34 (by decide) (fun c34 => ?_) (fun c34 => ?_)
      · refine es_aload_n (pc := 39) dX0_refusalOfTag_39 rfl ?_
        refine es_getR (pc := 40) dX0_refusalOfTag_40 fr_0_21 fld_44_3 ?_
        refine es_iload_n (pc := 43) dX0_refusalOfTag_43 rfl ?_
        refine es_iald (pc := 44) dX0_refusalOfTag_44 lay_48 (by omega) ?_
        refine es_top (hpa) ?_
        refine es_aload_n (pc := 45) dX0_refusalOfTag_45 rfl ?_
        refine es_getR (pc := 46) dX0_refusalOfTag_46 fr_0_21 fld_44_3 ?_
        refine es_iload_n (pc := 49) dX0_refusalOfTag_49 rfl ?_
        refine es_iald (pc := 50) dX0_refusalOfTag_50 lay_48 (by omega) ?_
        refine es_top (hqb) ?_
        refine es_isub (pc := 51) dX0_refusalOfTag_51 ?_
        refine es_mabs (pc := 52) dX0_refusalOfTag_52 mr_0_95 (Nat.le_of_ble_eq_true rfl) ?_
        refine es_top (gm_absN (a := b) (b := a) (by omega) (by omega)) ?_
        refine es_aload_n (pc := 55) dX0_refusalOfTag_55 rfl ?_
        refine es_getR (pc := 56) dX0_refusalOfTag_56 fr_0_18 fld_44_2 ?_
        refine es_iconstN (pc := 59) 3 dX0_refusalOfTag_59 ic_3 ?_
        refine es_iald (pc := 60) dX0_refusalOfTag_60 lay_47 (by omega) ?_
        refine es_icmp_le (pc := 61) (tgt := 69) dX0_refusalOfTag_61 (by decide) (fun c61 => ?_) (fun c61 => ?_)
        · refine es_iconstN (pc := 69) 0 dX0_refusalOfTag_69 ic_0 ?_
          refine es_ireturn (pc := 70) dX0_refusalOfTag_70 rfl (vp_nar_int _) (by decide) ?_
          exact ⟨by subst c5; simp [gm_tagw, c12, c34, Int32.not_lt.mpr c61], rfl⟩
        · refine es_bipushN (pc := 64) 7 dX0_refusalOfTag_64 bp_7 ?_
          refine es_goto (pc := 66) (tgt := 70) dX0_refusalOfTag_66 (by decide) ?_
          refine es_ireturn (pc := 70) dX0_refusalOfTag_70 rfl (vp_nar_int _) (by decide) ?_
          exact ⟨by subst c5; simp [gm_tagw, c12, c34, Int32.not_le.mp c61], rfl⟩
      · refine es_iconstN (pc := 37) 2 dX0_refusalOfTag_37 ic_2 ?_
        refine es_ireturn (pc := 38) dX0_refusalOfTag_38 rfl (vp_nar_int _) (by decide) ?_
        exact ⟨by subst c5; simp [gm_tagw, c12, c34], rfl⟩
    · refine es_bipushN (pc := 15) 6 dX0_refusalOfTag_15 bp_6 ?_
      refine es_ireturn (pc := 17) dX0_refusalOfTag_17 rfl (vp_nar_int _) (by decide) ?_
      exact ⟨by subst c5; simp [gm_tagw, c12], rfl⟩
  · refine es_iconstN (pc := 8) 5 dX0_refusalOfTag_8 ic_5 ?_
    refine es_ireturn (pc := 9) dX0_refusalOfTag_9 rfl (vp_nar_int _) (by decide) ?_
    exact ⟨by simp [gm_tagw, c5], rfl⟩
set_option maxHeartbeats 2000000 in
set_option maxRecDepth 20000 in
theorem X0_playersInReachOfIt_ok {d : Nat} {μ : ev_M} {P it : Nat} {pl : Nat → Nat} (hP : μ 44 10 = nI P) (hit : μ 44 12 = nI it) (hpl : ∀ p, p < 4 → μ 48 p = nI (pl p)) (hpb : ∀ p, pl p < 10) (hP4 : P ≤ 4 := by omega) (hi4 : it < 4 := by omega) (hd : 3 ≤ d := by omega) : ev_CALL d 7 [.ref 44] μ (some (.int (gm_mask (fun k => decide (gm_tagw (μ 45) (μ 47 3) it it k (pl it) (pl k) = 0)) P)), 0) μ := by
  obtain ⟨d, rfl⟩ : ∃ q, d = q + 1 := ⟨d - 1, by omega⟩
  refine SPp.of (Nat.le_of_ble_eq_true rfl) ?_
  show es (ev_CALL d) 0 cX0_playersInReachOfIt (some .int) 0 (0, fun _ => 0, []) (fun r μ2 => r = (some (.int (gm_mask (fun k => decide (gm_tagw (μ 45) (μ 47 3) it it k (pl it) (pl k) = 0)) P)), 0) ∧ μ2 = μ) 0 [.ref 44, .null, .null] [] μ 0
  have hl4 : ∀ (n9 : Nat) (m : Int32) (k : Nat), n9 = P - k → (k ≤ P) → (m = gm_mask (fun k => decide (gm_tagw (μ 45) (μ 47 3) it it k (pl it) (pl k) = 0)) k) → es (ev_CALL d) 0 cX0_playersInReachOfIt (some .int) 0 (0, fun _ => 0, []) (fun r μ2 => r = (some (.int (gm_mask (fun k => decide (gm_tagw (μ 45) (μ 47 3) it it k (pl it) (pl k) = 0)) P)), 0) ∧ μ2 = μ) 4 [.ref 44, .int m, .int (nI k)] [] μ 0 := by
    intro n9
    induction n9 using Nat.strongRecOn with
    | ind n9 ih =>
      intro m k hn9 hk hm
      subst hn9
      refine es_iload_n (pc := 4) dX0_playersInReachOfIt_4 rfl ?_
      refine es_aload_n (pc := 5) dX0_playersInReachOfIt_5 rfl ?_
      refine es_getI (pc := 6) dX0_playersInReachOfIt_6 fr_0_42 fld_44_10 ?_
      refine es_top hP ?_
      refine es_icmp_geN (pc := 9) 36 dX0_playersInReachOfIt_9 (by decide) (by omega) (by omega) (fun c9 => ?_) (fun c9 => ?_)
      · refine es_iload_n (pc := 36) dX0_playersInReachOfIt_36 rfl ?_
        refine es_ireturn (pc := 37) dX0_playersInReachOfIt_37 rfl (vp_nar_int _) (by decide) ?_
        exact ⟨by rw [hm, show k = P by omega], rfl⟩
      · refine es_aload_n (pc := 12) dX0_playersInReachOfIt_12 rfl ?_
        refine es_aload_n (pc := 13) dX0_playersInReachOfIt_13 rfl ?_
        refine es_getI (pc := 14) dX0_playersInReachOfIt_14 fr_0_49 fld_44_12 ?_
        refine es_top hit ?_
        refine es_iload_n (pc := 17) dX0_playersInReachOfIt_17 rfl ?_
        refine es_cv2_p (pc := 18) dX0_playersInReachOfIt_18 mr_0_104 rfl rfl (by decide) (by decide) rfl (Nat.le_of_ble_eq_true rfl) (Nat.zero_le _) (X0_refusalOfTag_ok hit (hpl _ (by omega)) (hpl _ (by omega)) (ha := hpb _) (hb := hpb _)) ?_
        refine es_if_ne (pc := 21) (tgt := 30) dX0_playersInReachOfIt_21 (by decide) (fun c21 => ?_) (fun c21 => ?_)
        · refine es_iincN (pc := 30) 1 dX0_playersInReachOfIt_30 ic_1 rfl (ok1_2 rfl) ?_
          refine es_goto (pc := 33) (tgt := 4) dX0_playersInReachOfIt_33 (by decide) ?_
          exact ih _ (by omega) _ (k + 1) rfl (by omega) (by rw [gm_mask, hm]; simp [c21])
        · refine es_iload_n (pc := 24) dX0_playersInReachOfIt_24 rfl ?_
          refine es_iconstN (pc := 25) 1 dX0_playersInReachOfIt_25 ic_1 ?_
          refine es_iload_n (pc := 26) dX0_playersInReachOfIt_26 rfl ?_
          refine es_ishl (pc := 27) dX0_playersInReachOfIt_27 ?_
          refine es_ior (pc := 28) dX0_playersInReachOfIt_28 ?_
          refine es_istore_n (pc := 29) dX0_playersInReachOfIt_29 (ok1_1 rfl) ?_
          refine es_iincN (pc := 30) 1 dX0_playersInReachOfIt_30 ic_1 rfl (ok1_2 rfl) ?_
          refine es_goto (pc := 33) (tgt := 4) dX0_playersInReachOfIt_33 (by decide) ?_
          exact ih _ (by omega) _ (k + 1) rfl (by omega) (by rw [gm_mask, hm]; simp [c21])
  refine es_iconstN (pc := 0) 0 dX0_playersInReachOfIt_0 ic_0 ?_
  refine es_istore_n (pc := 1) dX0_playersInReachOfIt_1 (ok1_1 rfl) ?_
  refine es_iconstN (pc := 2) 0 dX0_playersInReachOfIt_2 ic_0 ?_
  refine es_istore_n (pc := 3) dX0_playersInReachOfIt_3 (ok1_2 rfl) ?_
  exact hl4 _ _ 0 rfl (by omega) rfl
set_option maxHeartbeats 2000000 in
set_option maxRecDepth 20000 in
theorem X0_sandBelow_ok {d : Nat} {μ : ev_M} {P : Nat} (hP : μ 44 10 = nI P) (hP4 : P ≤ 4 := by omega) (hd : 1 ≤ d := by omega) : ev_CALL d 17 [.ref 44] μ (some (.int (gm_sum (μ 50) (nI 0) P)), 0) μ := by
  obtain ⟨d, rfl⟩ : ∃ q, d = q + 1 := ⟨d - 1, by omega⟩
  refine SPp.of (Nat.le_of_ble_eq_true rfl) ?_
  show es (ev_CALL d) 0 cX0_sandBelow (some .int) 0 (0, fun _ => 0, []) (fun r μ2 => r = (some (.int (gm_sum (μ 50) (nI 0) P)), 0) ∧ μ2 = μ) 0 [.ref 44, .null, .null] [] μ 0
  have hl4 : ∀ (n9 : Nat) (m : Int32) (k : Nat), n9 = P - k → (k ≤ P) → (m = gm_sum (μ 50) (nI 0) k) → es (ev_CALL d) 0 cX0_sandBelow (some .int) 0 (0, fun _ => 0, []) (fun r μ2 => r = (some (.int (gm_sum (μ 50) (nI 0) P)), 0) ∧ μ2 = μ) 4 [.ref 44, .int m, .int (nI k)] [] μ 0 := by
    intro n9
    induction n9 using Nat.strongRecOn with
    | ind n9 ih =>
      intro m k hn9 hk hm
      subst hn9
      refine es_iload_n (pc := 4) dX0_sandBelow_4 rfl ?_
      refine es_aload_n (pc := 5) dX0_sandBelow_5 rfl ?_
      refine es_getI (pc := 6) dX0_sandBelow_6 fr_0_42 fld_44_10 ?_
      refine es_top hP ?_
      refine es_icmp_geN (pc := 9) 27 dX0_sandBelow_9 (by decide) (by omega) (by omega) (fun c9 => ?_) (fun c9 => ?_)
      · refine es_iload_n (pc := 27) dX0_sandBelow_27 rfl ?_
        refine es_ireturn (pc := 28) dX0_sandBelow_28 rfl (vp_nar_int _) (by decide) ?_
        exact ⟨by rw [hm, show k = P by omega], rfl⟩
      · refine es_iload_n (pc := 12) dX0_sandBelow_12 rfl ?_
        refine es_aload_n (pc := 13) dX0_sandBelow_13 rfl ?_
        refine es_getR (pc := 14) dX0_sandBelow_14 fr_0_27 fld_44_5 ?_
        refine es_iload_n (pc := 17) dX0_sandBelow_17 rfl ?_
        refine es_iald (pc := 18) dX0_sandBelow_18 lay_50 (by omega) ?_
        refine es_iadd (pc := 19) dX0_sandBelow_19 ?_
        refine es_istore_n (pc := 20) dX0_sandBelow_20 (ok1_1 rfl) ?_
        refine es_iincN (pc := 21) 1 dX0_sandBelow_21 ic_1 rfl (ok1_2 rfl) ?_
        refine es_goto (pc := 24) (tgt := 4) dX0_sandBelow_24 (by decide) ?_
        exact ih _ (by omega) _ (k + 1) rfl (by omega) (by rw [gm_sum, hm])
  refine es_iconstN (pc := 0) 0 dX0_sandBelow_0 ic_0 ?_
  refine es_istore_n (pc := 1) dX0_sandBelow_1 (ok1_1 rfl) ?_
  refine es_iconstN (pc := 2) 0 dX0_sandBelow_2 ic_0 ?_
  refine es_istore_n (pc := 3) dX0_sandBelow_3 (ok1_2 rfl) ?_
  exact hl4 _ _ 0 rfl (by omega) rfl
set_option maxHeartbeats 2000000 in
set_option maxRecDepth 20000 in
theorem X0_sandInGlasses_ok {d : Nat} {μ : ev_M} {P : Nat} (hP : μ 44 10 = nI P) (hP4 : P ≤ 4 := by omega) (hd : 2 ≤ d := by omega) : ev_CALL d 16 [.ref 44] μ (some (.int (gm_sum (μ 49) (gm_sum (μ 50) (nI 0) P) P)), 0) μ := by
  obtain ⟨d, rfl⟩ : ∃ q, d = q + 1 := ⟨d - 1, by omega⟩
  refine SPp.of (Nat.le_of_ble_eq_true rfl) ?_
  show es (ev_CALL d) 0 cX0_sandInGlasses (some .int) 0 (0, fun _ => 0, []) (fun r μ2 => r = (some (.int (gm_sum (μ 49) (gm_sum (μ 50) (nI 0) P) P)), 0) ∧ μ2 = μ) 0 [.ref 44, .null, .null] [] μ 0
  have hl7 : ∀ (n9 : Nat) (m : Int32) (k : Nat), n9 = P - k → (k ≤ P) → (m = gm_sum (μ 49) (gm_sum (μ 50) (nI 0) P) k) → es (ev_CALL d) 0 cX0_sandInGlasses (some .int) 0 (0, fun _ => 0, []) (fun r μ2 => r = (some (.int (gm_sum (μ 49) (gm_sum (μ 50) (nI 0) P) P)), 0) ∧ μ2 = μ) 7 [.ref 44, .int m, .int (nI k)] [] μ 0 := by
    intro n9
    induction n9 using Nat.strongRecOn with
    | ind n9 ih =>
      intro m k hn9 hk hm
      subst hn9
      refine es_iload_n (pc := 7) dX0_sandInGlasses_7 rfl ?_
      refine es_aload_n (pc := 8) dX0_sandInGlasses_8 rfl ?_
      refine es_getI (pc := 9) dX0_sandInGlasses_9 fr_0_42 fld_44_10 ?_
      refine es_top hP ?_
      refine es_icmp_geN (pc := 12) 30 dX0_sandInGlasses_12 (by decide) (by omega) (by omega) (fun c12 => ?_) (fun c12 => ?_)
      · refine es_iload_n (pc := 30) dX0_sandInGlasses_30 rfl ?_
        refine es_ireturn (pc := 31) dX0_sandInGlasses_31 rfl (vp_nar_int _) (by decide) ?_
        exact ⟨by rw [hm, show k = P by omega], rfl⟩
      · refine es_iload_n (pc := 15) dX0_sandInGlasses_15 rfl ?_
        refine es_aload_n (pc := 16) dX0_sandInGlasses_16 rfl ?_
        refine es_getR (pc := 17) dX0_sandInGlasses_17 fr_0_24 fld_44_4 ?_
        refine es_iload_n (pc := 20) dX0_sandInGlasses_20 rfl ?_
        refine es_iald (pc := 21) dX0_sandInGlasses_21 lay_49 (by omega) ?_
        refine es_iadd (pc := 22) dX0_sandInGlasses_22 ?_
        refine es_istore_n (pc := 23) dX0_sandInGlasses_23 (ok1_1 rfl) ?_
        refine es_iincN (pc := 24) 1 dX0_sandInGlasses_24 ic_1 rfl (ok1_2 rfl) ?_
        refine es_goto (pc := 27) (tgt := 7) dX0_sandInGlasses_27 (by decide) ?_
        exact ih _ (by omega) _ (k + 1) rfl (by omega) (by rw [gm_sum, hm])
  refine es_aload_n (pc := 0) dX0_sandInGlasses_0 rfl ?_
  refine es_cv0_p (pc := 1) dX0_sandInGlasses_1 mr_0_118 rfl rfl (by decide) (by decide) rfl (Nat.le_of_ble_eq_true rfl) (Nat.zero_le _) (X0_sandBelow_ok hP) ?_
  refine es_istore_n (pc := 4) dX0_sandInGlasses_4 (ok1_1 rfl) ?_
  refine es_iconstN (pc := 5) 0 dX0_sandInGlasses_5 ic_0 ?_
  refine es_istore_n (pc := 6) dX0_sandInGlasses_6 (ok1_2 rfl) ?_
  exact hl7 _ _ 0 rfl (by omega) rfl
set_option maxHeartbeats 2000000 in
set_option maxRecDepth 20000 in
theorem X0_sandOnTowers_ok {d : Nat} {μ : ev_M}  (hd : 1 ≤ d := by omega) : ev_CALL d 20 [.ref 44] μ (some (.int (gm_sum (μ 46) (nI 0) 10)), 0) μ := by
  obtain ⟨d, rfl⟩ : ∃ q, d = q + 1 := ⟨d - 1, by omega⟩
  refine SPp.of (Nat.le_of_ble_eq_true rfl) ?_
  show es (ev_CALL d) 0 cX0_sandOnTowers (some .int) 0 (0, fun _ => 0, []) (fun r μ2 => r = (some (.int (gm_sum (μ 46) (nI 0) 10)), 0) ∧ μ2 = μ) 0 [.ref 44, .null, .null] [] μ 0
  have hl4 : ∀ (n9 : Nat) (m : Int32) (k : Nat), n9 = 10 - k → (k ≤ 10) → (m = gm_sum (μ 46) (nI 0) k) → es (ev_CALL d) 0 cX0_sandOnTowers (some .int) 0 (0, fun _ => 0, []) (fun r μ2 => r = (some (.int (gm_sum (μ 46) (nI 0) 10)), 0) ∧ μ2 = μ) 4 [.ref 44, .int m, .int (nI k)] [] μ 0 := by
    intro n9
    induction n9 using Nat.strongRecOn with
    | ind n9 ih =>
      intro m k hn9 hk hm
      subst hn9
      refine es_iload_n (pc := 4) dX0_sandOnTowers_4 rfl ?_
      refine es_bipushN (pc := 5) 10 dX0_sandOnTowers_5 bp_10 ?_
      refine es_icmp_geN (pc := 7) 25 dX0_sandOnTowers_7 (by decide) (by omega) (by omega) (fun c7 => ?_) (fun c7 => ?_)
      · refine es_iload_n (pc := 25) dX0_sandOnTowers_25 rfl ?_
        refine es_ireturn (pc := 26) dX0_sandOnTowers_26 rfl (vp_nar_int _) (by decide) ?_
        exact ⟨by rw [hm, show k = 10 by omega], rfl⟩
      · refine es_iload_n (pc := 10) dX0_sandOnTowers_10 rfl ?_
        refine es_aload_n (pc := 11) dX0_sandOnTowers_11 rfl ?_
        refine es_getR (pc := 12) dX0_sandOnTowers_12 fr_0_15 fld_44_1 ?_
        refine es_iload_n (pc := 15) dX0_sandOnTowers_15 rfl ?_
        refine es_iald (pc := 16) dX0_sandOnTowers_16 lay_46 (by omega) ?_
        refine es_iadd (pc := 17) dX0_sandOnTowers_17 ?_
        refine es_istore_n (pc := 18) dX0_sandOnTowers_18 (ok1_1 rfl) ?_
        refine es_iincN (pc := 19) 1 dX0_sandOnTowers_19 ic_1 rfl (ok1_2 rfl) ?_
        refine es_goto (pc := 22) (tgt := 4) dX0_sandOnTowers_22 (by decide) ?_
        exact ih _ (by omega) _ (k + 1) rfl (by omega) (by rw [gm_sum, hm])
  refine es_iconstN (pc := 0) 0 dX0_sandOnTowers_0 ic_0 ?_
  refine es_istore_n (pc := 1) dX0_sandOnTowers_1 (ok1_1 rfl) ?_
  refine es_iconstN (pc := 2) 0 dX0_sandOnTowers_2 ic_0 ?_
  refine es_istore_n (pc := 3) dX0_sandOnTowers_3 (ok1_2 rfl) ?_
  exact hl4 _ _ 0 rfl (by omega) rfl
set_option maxHeartbeats 2000000 in
set_option maxRecDepth 20000 in
theorem X0_endMove_ok {d : Nat} {μ : ev_M} {P on : Nat} (hP : μ 44 10 = nI P) (hon : μ 44 11 = nI on) (hP4 : P ≤ 4 := by omega) (ho4 : on < 4 := by omega) (hd : 1 ≤ d := by omega) : SPi (ev_CALL d) 55 [.ref 44] μ (fun x μ2 => x = gm_run (gR μ 44) on ∧ gR μ2 44 = gm_ends (gR μ 44) P on ∧ gm_Fr 44 μ μ2) := by
  obtain ⟨d, rfl⟩ : ∃ q, d = q + 1 := ⟨d - 1, by omega⟩
  refine SPi.of (Nat.le_of_ble_eq_true rfl) ?_
  show es (ev_CALL d) 0 cX0_endMove (some .int) 0 (0, fun _ => 0, []) (fun r μ2 => ∃ x9 : Int32, r = (some (.int x9), 0) ∧ (fun x μ2 => x = gm_run (gR μ 44) on ∧ gR μ2 44 = gm_ends (gR μ 44) P on ∧ gm_Fr 44 μ μ2) x9 μ2) 0 [.ref 44, .null] [] μ 0
  refine es_aload_n (pc := 0) dX0_endMove_0 rfl ?_
  refine es_getR (pc := 1) dX0_endMove_1 fr_0_18 fld_44_2 ?_
  refine es_iconstN (pc := 4) 0 dX0_endMove_4 ic_0 ?_
  refine es_iald (pc := 5) dX0_endMove_5 lay_47 (by omega) ?_
  refine es_aload_n (pc := 6) dX0_endMove_6 rfl ?_
  refine es_getR (pc := 7) dX0_endMove_7 fr_0_24 fld_44_4 ?_
  refine es_aload_n (pc := 10) dX0_endMove_10 rfl ?_
  refine es_getI (pc := 11) dX0_endMove_11 fr_0_46 fld_44_11 ?_
  refine es_top hon ?_
  refine es_iald (pc := 14) dX0_endMove_14 lay_49 (by omega) ?_
  refine es_mmin (pc := 15) dX0_endMove_15 mr_0_79 (Nat.le_of_ble_eq_true rfl) ?_
  refine es_istore_n (pc := 18) dX0_endMove_18 (ok1_1 rfl) ?_
  refine es_aload_n (pc := 19) dX0_endMove_19 rfl ?_
  refine es_getR (pc := 20) dX0_endMove_20 fr_0_24 fld_44_4 ?_
  refine es_aload_n (pc := 23) dX0_endMove_23 rfl ?_
  refine es_getI (pc := 24) dX0_endMove_24 fr_0_46 fld_44_11 ?_
  refine es_top hon ?_
  refine es_dup2 (pc := 27) dX0_endMove_27 rfl rfl ?_
  refine es_iald (pc := 28) dX0_endMove_28 lay_49 (by omega) ?_
  refine es_iload_n (pc := 29) dX0_endMove_29 rfl ?_
  refine es_isub (pc := 30) dX0_endMove_30 ?_
  refine es_iast (pc := 31) dX0_endMove_31 lay_49 (by omega) ?_
  refine es_aload_n (pc := 32) dX0_endMove_32 rfl ?_
  refine es_getR (pc := 33) dX0_endMove_33 fr_0_27 fld_44_5 ?_
  refine es_aload_n (pc := 36) dX0_endMove_36 rfl ?_
  refine es_getI (pc := 37) dX0_endMove_37 fr_0_46 fld_44_11 ?_
  refine es_top hon ?_
  refine es_dup2 (pc := 40) dX0_endMove_40 rfl rfl ?_
  refine es_iald (pc := 41) dX0_endMove_41 lay_50 (by omega) ?_
  refine es_iload_n (pc := 42) dX0_endMove_42 rfl ?_
  refine es_iadd (pc := 43) dX0_endMove_43 ?_
  refine es_iast (pc := 44) dX0_endMove_44 lay_50 (by omega) ?_
  refine es_aload_n (pc := 45) dX0_endMove_45 rfl ?_
  refine es_getR (pc := 46) dX0_endMove_46 fr_0_30 fld_44_6 ?_
  refine es_aload_n (pc := 49) dX0_endMove_49 rfl ?_
  refine es_getI (pc := 50) dX0_endMove_50 fr_0_46 fld_44_11 ?_
  refine es_top hon ?_
  refine es_dup2 (pc := 53) dX0_endMove_53 rfl rfl ?_
  refine es_iald (pc := 54) dX0_endMove_54 lay_51 (by omega) ?_
  refine es_iconstN (pc := 55) 1 dX0_endMove_55 ic_1 ?_
  refine es_iadd (pc := 56) dX0_endMove_56 ?_
  refine es_iast (pc := 57) dX0_endMove_57 lay_51 (by omega) ?_
  refine es_aload_n (pc := 58) dX0_endMove_58 rfl ?_
  refine es_dup (pc := 59) dX0_endMove_59 rfl ?_
  refine es_getI (pc := 60) dX0_endMove_60 fr_0_52 fld_44_13 ?_
  refine es_iconstN (pc := 63) 1 dX0_endMove_63 ic_1 ?_
  refine es_iadd (pc := 64) dX0_endMove_64 ?_
  refine es_putI (pc := 65) dX0_endMove_65 fr_0_52 fld_44_13 ?_
  refine es_aload_n (pc := 68) dX0_endMove_68 rfl ?_
  refine es_aload_n (pc := 69) dX0_endMove_69 rfl ?_
  refine es_getI (pc := 70) dX0_endMove_70 fr_0_46 fld_44_11 ?_
  refine es_top hon ?_
  refine es_iconstN (pc := 73) 1 dX0_endMove_73 ic_1 ?_
  refine es_iaddN (pc := 74) dX0_endMove_74 ?_
  refine es_aload_n (pc := 75) dX0_endMove_75 rfl ?_
  refine es_getI (pc := 76) dX0_endMove_76 fr_0_42 fld_44_10 ?_
  refine es_top hP ?_
  refine es_icmp_geN (pc := 79) 91 dX0_endMove_79 (by decide) (by omega) (by omega) (fun c79 => ?_) (fun c79 => ?_)
  · refine es_iconstN (pc := 91) 0 dX0_endMove_91 ic_0 ?_
    refine es_putI (pc := 92) dX0_endMove_92 fr_0_46 fld_44_11 ?_
    refine es_iload_n (pc := 95) dX0_endMove_95 rfl ?_
    refine es_ireturn (pc := 96) dX0_endMove_96 rfl (vp_nar_int _) (by decide) ?_
    refine ⟨_, rfl, ?_, ?_, ?_⟩
    · simp [gm_run, r44_above, r44_0, ho4]
    · rcases Nat.lt_or_ge (on + 1) P with h9 | h9
      · first | (exfalso; omega) | simp [gm_ends, gm_end, gm_run, ho4, h9, w44_players, w44_onMove, w44_it, w44_moves, w44_refused, w44_tags, w44_brought, r44_players, r44_onMove, r44_it, r44_moves, r44_refused, r44_tags, r44_brought, w44_place, w44_above, w44_below, w44_made, w44_tagged, w44_was, w44_paid, r44_place, r44_above, r44_below, r44_made, r44_tagged, r44_was, r44_paid, r44_0, r44_1, r44_2, r44_3, w44_l, r44_l, ms_full]
      · first | (exfalso; omega) | simp [gm_ends, gm_end, gm_run, ho4, Nat.not_lt.mpr h9, w44_players, w44_onMove, w44_it, w44_moves, w44_refused, w44_tags, w44_brought, r44_players, r44_onMove, r44_it, r44_moves, r44_refused, r44_tags, r44_brought, w44_place, w44_above, w44_below, w44_made, w44_tagged, w44_was, w44_paid, r44_place, r44_above, r44_below, r44_made, r44_tagged, r44_was, r44_paid, r44_0, r44_1, r44_2, r44_3, w44_l, r44_l, ms_full]
    · repeat (first | exact gm_Fr.rf | refine gm_Fr.ms ?_ (by decide))
  · refine es_aload_n (pc := 82) dX0_endMove_82 rfl ?_
    refine es_getI (pc := 83) dX0_endMove_83 fr_0_46 fld_44_11 ?_
    refine es_top hon ?_
    refine es_iconstN (pc := 86) 1 dX0_endMove_86 ic_1 ?_
    refine es_iaddN (pc := 87) dX0_endMove_87 ?_
    refine es_goto (pc := 88) (tgt := 92) dX0_endMove_88 (by decide) ?_
    refine es_putI (pc := 92) dX0_endMove_92 fr_0_46 fld_44_11 ?_
    refine es_iload_n (pc := 95) dX0_endMove_95 rfl ?_
    refine es_ireturn (pc := 96) dX0_endMove_96 rfl (vp_nar_int _) (by decide) ?_
    refine ⟨_, rfl, ?_, ?_, ?_⟩
    · simp [gm_run, r44_above, r44_0, ho4]
    · rcases Nat.lt_or_ge (on + 1) P with h9 | h9
      · first | (exfalso; omega) | simp [gm_ends, gm_end, gm_run, ho4, h9, w44_players, w44_onMove, w44_it, w44_moves, w44_refused, w44_tags, w44_brought, r44_players, r44_onMove, r44_it, r44_moves, r44_refused, r44_tags, r44_brought, w44_place, w44_above, w44_below, w44_made, w44_tagged, w44_was, w44_paid, r44_place, r44_above, r44_below, r44_made, r44_tagged, r44_was, r44_paid, r44_0, r44_1, r44_2, r44_3, w44_l, r44_l, ms_full]
      · first | (exfalso; omega) | simp [gm_ends, gm_end, gm_run, ho4, Nat.not_lt.mpr h9, w44_players, w44_onMove, w44_it, w44_moves, w44_refused, w44_tags, w44_brought, r44_players, r44_onMove, r44_it, r44_moves, r44_refused, r44_tags, r44_brought, w44_place, w44_above, w44_below, w44_made, w44_tagged, w44_was, w44_paid, r44_place, r44_above, r44_below, r44_made, r44_tagged, r44_was, r44_paid, r44_0, r44_1, r44_2, r44_3, w44_l, r44_l, ms_full]
    · repeat (first | exact gm_Fr.rf | refine gm_Fr.ms ?_ (by decide))
set_option maxHeartbeats 2000000 in
set_option maxRecDepth 20000 in
theorem X0_pay_ok {d : Nat} {μ : ev_M} {on a : Nat} {g : Int32} (hon : μ 44 11 = nI on) (hpl : μ 48 on = nI a) (ha : a < 10 := by omega) (ho4 : on < 4 := by omega) (hd : 1 ≤ d := by omega) : SPv (ev_CALL d) 60 [.ref 44, .int g] μ (fun μ2 => gR μ2 44 = gm_pay (gR μ 44) on a g ∧ gm_Fr 44 μ μ2) := by
  obtain ⟨d, rfl⟩ : ∃ q, d = q + 1 := ⟨d - 1, by omega⟩
  refine SPv.of (Nat.le_of_ble_eq_true rfl) ?_
  show es (ev_CALL d) 0 cX0_pay none 0 (0, fun _ => 0, []) (fun r μ2 => r = (none, 0) ∧ (fun μ2 => gR μ2 44 = gm_pay (gR μ 44) on a g ∧ gm_Fr 44 μ μ2) μ2) 0 [.ref 44, .int g] [] μ 0
  refine es_aload_n (pc := 0) dX0_pay_0 rfl ?_
  refine es_getR (pc := 1) dX0_pay_1 fr_0_27 fld_44_5 ?_
  refine es_aload_n (pc := 4) dX0_pay_4 rfl ?_
  refine es_getI (pc := 5) dX0_pay_5 fr_0_46 fld_44_11 ?_
  refine es_top hon ?_
  refine es_dup2 (pc := 8) dX0_pay_8 rfl rfl ?_
  refine es_iald (pc := 9) dX0_pay_9 lay_50 (by omega) ?_
  refine es_iload_n (pc := 10) dX0_pay_10 rfl ?_
  refine es_isub (pc := 11) dX0_pay_11 ?_
  refine es_iast (pc := 12) dX0_pay_12 lay_50 (by omega) ?_
  refine es_aload_n (pc := 13) dX0_pay_13 rfl ?_
  refine es_getR (pc := 14) dX0_pay_14 fr_0_39 fld_44_9 ?_
  refine es_aload_n (pc := 17) dX0_pay_17 rfl ?_
  refine es_getI (pc := 18) dX0_pay_18 fr_0_46 fld_44_11 ?_
  refine es_top hon ?_
  refine es_dup2 (pc := 21) dX0_pay_21 rfl rfl ?_
  refine es_iald (pc := 22) dX0_pay_22 lay_54 (by omega) ?_
  refine es_iload_n (pc := 23) dX0_pay_23 rfl ?_
  refine es_iadd (pc := 24) dX0_pay_24 ?_
  refine es_iast (pc := 25) dX0_pay_25 lay_54 (by omega) ?_
  refine es_aload_n (pc := 26) dX0_pay_26 rfl ?_
  refine es_getR (pc := 27) dX0_pay_27 fr_0_15 fld_44_1 ?_
  refine es_aload_n (pc := 30) dX0_pay_30 rfl ?_
  refine es_getR (pc := 31) dX0_pay_31 fr_0_21 fld_44_3 ?_
  refine es_aload_n (pc := 34) dX0_pay_34 rfl ?_
  refine es_getI (pc := 35) dX0_pay_35 fr_0_46 fld_44_11 ?_
  refine es_top hon ?_
  refine es_iald (pc := 38) dX0_pay_38 lay_48 (by omega) ?_
  refine es_top (hpl) ?_
  refine es_dup2 (pc := 39) dX0_pay_39 rfl rfl ?_
  refine es_iald (pc := 40) dX0_pay_40 lay_46 (by omega) ?_
  refine es_iload_n (pc := 41) dX0_pay_41 rfl ?_
  refine es_iadd (pc := 42) dX0_pay_42 ?_
  refine es_iast (pc := 43) dX0_pay_43 lay_46 (by omega) ?_
  refine es_vreturn (pc := 44) dX0_pay_44 rfl (by decide) ?_
  refine ⟨rfl, ?_, ?_⟩
  · simp [gm_pay, ho4, ha, w44_players, w44_onMove, w44_it, w44_moves, w44_refused, w44_tags, w44_brought, r44_players, r44_onMove, r44_it, r44_moves, r44_refused, r44_tags, r44_brought, w44_place, w44_above, w44_below, w44_made, w44_tagged, w44_was, w44_paid, r44_place, r44_above, r44_below, r44_made, r44_tagged, r44_was, r44_paid, r44_0, r44_1, r44_2, r44_3, w44_l, r44_l, ms_full]
  · repeat (first | exact gm_Fr.rf | refine gm_Fr.ms ?_ (by decide))
set_option maxHeartbeats 2000000 in
set_option maxRecDepth 20000 in
theorem X0_refuse_ok {d : Nat} {μ : ev_M} {x : Int32} (hd : 1 ≤ d := by omega) : SPi (ev_CALL d) 59 [.ref 44, .int x] μ (fun y μ2 => y = x ∧ gR μ2 44 = gm_ref (gR μ 44) ∧ gm_Fr 44 μ μ2) := by
  obtain ⟨d, rfl⟩ : ∃ q, d = q + 1 := ⟨d - 1, by omega⟩
  refine SPi.of (Nat.le_of_ble_eq_true rfl) ?_
  show es (ev_CALL d) 0 cX0_refuse (some .int) 0 (0, fun _ => 0, []) (fun r μ2 => ∃ x9 : Int32, r = (some (.int x9), 0) ∧ (fun y μ2 => y = x ∧ gR μ2 44 = gm_ref (gR μ 44) ∧ gm_Fr 44 μ μ2) x9 μ2) 0 [.ref 44, .int x] [] μ 0
  refine es_aload_n (pc := 0) dX0_refuse_0 rfl ?_
  refine es_dup (pc := 1) dX0_refuse_1 rfl ?_
  refine es_getI (pc := 2) dX0_refuse_2 fr_0_55 fld_44_14 ?_
  refine es_iconstN (pc := 5) 1 dX0_refuse_5 ic_1 ?_
  refine es_iadd (pc := 6) dX0_refuse_6 ?_
  refine es_putI (pc := 7) dX0_refuse_7 fr_0_55 fld_44_14 ?_
  refine es_iload_n (pc := 10) dX0_refuse_10 rfl ?_
  refine es_ireturn (pc := 11) dX0_refuse_11 rfl (vp_nar_int _) (by decide) ?_
  refine ⟨_, rfl, rfl, ?_, ?_⟩
  · simp [gm_ref, w44_players, w44_onMove, w44_it, w44_moves, w44_refused, w44_tags, w44_brought, r44_players, r44_onMove, r44_it, r44_moves, r44_refused, r44_tags, r44_brought, w44_place, w44_above, w44_below, w44_made, w44_tagged, w44_was, w44_paid, r44_place, r44_above, r44_below, r44_made, r44_tagged, r44_was, r44_paid, r44_0, r44_1, r44_2, r44_3, w44_l, r44_l, ms_full]
  · repeat (first | exact gm_Fr.rf | refine gm_Fr.ms ?_ (by decide))
set_option maxHeartbeats 2000000 in
set_option maxRecDepth 20000 in
theorem X0_addPlayer_ok {d : Nat} {μ : ev_M} {P t : Nat} {x : Int32} (hP : μ 44 10 = nI P) (hP4 : P < 4 := by omega) (hd : 1 ≤ d := by omega) : SPi (ev_CALL d) 48 [.ref 44, .int (nI t), .int x] μ (fun y μ2 => y = nI P ∧ gR μ2 44 = gm_add (gR μ 44) P t x ∧ gm_Fr 44 μ μ2) := by
  obtain ⟨d, rfl⟩ : ∃ q, d = q + 1 := ⟨d - 1, by omega⟩
  refine SPi.of (Nat.le_of_ble_eq_true rfl) ?_
  show es (ev_CALL d) 0 cX0_addPlayer (some .int) 0 (0, fun _ => 0, []) (fun r μ2 => ∃ x9 : Int32, r = (some (.int x9), 0) ∧ (fun y μ2 => y = nI P ∧ gR μ2 44 = gm_add (gR μ 44) P t x ∧ gm_Fr 44 μ μ2) x9 μ2) 0 [.ref 44, .int (nI t), .int x, .null] [] μ 0
  refine es_aload_n (pc := 0) dX0_addPlayer_0 rfl ?_
  refine es_getI (pc := 1) dX0_addPlayer_1 fr_0_42 fld_44_10 ?_
  refine es_top hP ?_
  refine es_istore_n (pc := 4) dX0_addPlayer_4 (ok1_3 rfl) ?_
  refine es_aload_n (pc := 5) dX0_addPlayer_5 rfl ?_
  refine es_getR (pc := 6) dX0_addPlayer_6 fr_0_21 fld_44_3 ?_
  refine es_iload_n (pc := 9) dX0_addPlayer_9 rfl ?_
  refine es_iload_n (pc := 10) dX0_addPlayer_10 rfl ?_
  refine es_iast (pc := 11) dX0_addPlayer_11 lay_48 (by omega) ?_
  refine es_aload_n (pc := 12) dX0_addPlayer_12 rfl ?_
  refine es_getR (pc := 13) dX0_addPlayer_13 fr_0_24 fld_44_4 ?_
  refine es_iload_n (pc := 16) dX0_addPlayer_16 rfl ?_
  refine es_iload_n (pc := 17) dX0_addPlayer_17 rfl ?_
  refine es_iast (pc := 18) dX0_addPlayer_18 lay_49 (by omega) ?_
  refine es_aload_n (pc := 19) dX0_addPlayer_19 rfl ?_
  refine es_dup (pc := 20) dX0_addPlayer_20 rfl ?_
  refine es_getI (pc := 21) dX0_addPlayer_21 fr_0_61 fld_44_16 ?_
  refine es_iload_n (pc := 24) dX0_addPlayer_24 rfl ?_
  refine es_iadd (pc := 25) dX0_addPlayer_25 ?_
  refine es_putI (pc := 26) dX0_addPlayer_26 fr_0_61 fld_44_16 ?_
  refine es_aload_n (pc := 29) dX0_addPlayer_29 rfl ?_
  refine es_dup (pc := 30) dX0_addPlayer_30 rfl ?_
  refine es_getI (pc := 31) dX0_addPlayer_31 fr_0_42 fld_44_10 ?_
  refine es_top hP ?_
  refine es_iconstN (pc := 34) 1 dX0_addPlayer_34 ic_1 ?_
  refine es_iaddN (pc := 35) dX0_addPlayer_35 ?_
  refine es_putI (pc := 36) dX0_addPlayer_36 fr_0_42 fld_44_10 ?_
  refine es_iload_n (pc := 39) dX0_addPlayer_39 rfl ?_
  refine es_ireturn (pc := 40) dX0_addPlayer_40 rfl (vp_nar_int _) (by decide) ?_
  refine ⟨_, rfl, rfl, ?_, ?_⟩
  · simp [gm_add, hP4, w44_players, w44_onMove, w44_it, w44_moves, w44_refused, w44_tags, w44_brought, r44_players, r44_onMove, r44_it, r44_moves, r44_refused, r44_tags, r44_brought, w44_place, w44_above, w44_below, w44_made, w44_tagged, w44_was, w44_paid, r44_place, r44_above, r44_below, r44_made, r44_tagged, r44_was, r44_paid, r44_0, r44_1, r44_2, r44_3, w44_l, r44_l, ms_full]
  · repeat (first | exact gm_Fr.rf | refine gm_Fr.ms ?_ (by decide))
set_option maxHeartbeats 2000000 in
set_option maxRecDepth 20000 in
theorem X0_moveByStride_ok {d : Nat} {μ : ev_M} {P on a t : Nat} (hP : μ 44 10 = nI P) (hon : μ 44 11 = nI on) (hpl : μ 48 on = nI a) (hP4 : P ≤ 4 := by omega) (ho4 : on < 4 := by omega) (ha : a < 10 := by omega) (ht : t < 10 := by omega) (hd : 4 ≤ d := by omega) : SPi (ev_CALL d) 58 [.ref 44, .int (nI t)] μ (fun x μ2 => x = gm_why (μ 47 1) (μ 45) (μ 50 on) a t ∧ gR μ2 44 = (if gm_why (μ 47 1) (μ 45) (μ 50 on) a t = 0 then gm_ends (gm_go (gR μ 44) on a t (gm_price (μ 47 1) (μ 45) a t)) P on else gm_ref (gR μ 44)) ∧ gm_Fr 44 μ μ2) := by
  obtain ⟨d, rfl⟩ : ∃ q, d = q + 1 := ⟨d - 1, by omega⟩
  refine SPi.of (Nat.le_of_ble_eq_true rfl) ?_
  show es (ev_CALL d) 0 cX0_moveByStride (some .int) 0 (0, fun _ => 0, []) (fun r μ2 => ∃ x9 : Int32, r = (some (.int x9), 0) ∧ (fun x μ2 => x = gm_why (μ 47 1) (μ 45) (μ 50 on) a t ∧ gR μ2 44 = (if gm_why (μ 47 1) (μ 45) (μ 50 on) a t = 0 then gm_ends (gm_go (gR μ 44) on a t (gm_price (μ 47 1) (μ 45) a t)) P on else gm_ref (gR μ 44)) ∧ gm_Fr 44 μ μ2) x9 μ2) 0 [.ref 44, .int (nI t), .null] [] μ 0
  refine es_aload_n (pc := 0) dX0_moveByStride_0 rfl ?_
  refine es_aload_n (pc := 1) dX0_moveByStride_1 rfl ?_
  refine es_getI (pc := 2) dX0_moveByStride_2 fr_0_46 fld_44_11 ?_
  refine es_top hon ?_
  refine es_iload_n (pc := 5) dX0_moveByStride_5 rfl ?_
  refine es_cv2_p (pc := 6) dX0_moveByStride_6 mr_0_101 rfl rfl (by decide) (by decide) rfl (Nat.le_of_ble_eq_true rfl) (Nat.zero_le _) (X0_refusalOfStride_ok hpl) ?_
  refine es_istore_n (pc := 9) dX0_moveByStride_9 (ok1_2 rfl) ?_
  refine es_iload_n (pc := 10) dX0_moveByStride_10 rfl ?_
  refine es_if_eq (pc := 11) (tgt := 20) dX0_moveByStride_11 (by decide) (fun c11 => ?_) (fun c11 => ?_)
  · refine es_aload_n (pc := 20) dX0_moveByStride_20 rfl ?_
    refine es_aload_n (pc := 21) dX0_moveByStride_21 rfl ?_
    refine es_aload_n (pc := 22) dX0_moveByStride_22 rfl ?_
    refine es_getR (pc := 23) dX0_moveByStride_23 fr_0_21 fld_44_3 ?_
    refine es_aload_n (pc := 26) dX0_moveByStride_26 rfl ?_
    refine es_getI (pc := 27) dX0_moveByStride_27 fr_0_46 fld_44_11 ?_
    refine es_top hon ?_
    refine es_iald (pc := 30) dX0_moveByStride_30 lay_48 (by omega) ?_
    refine es_top (hpl) ?_
    refine es_iload_n (pc := 31) dX0_moveByStride_31 rfl ?_
    refine es_cv2_p (pc := 32) dX0_moveByStride_32 mr_0_98 rfl rfl (by decide) (by decide) rfl (Nat.le_of_ble_eq_true rfl) (Nat.zero_le _) (X0_priceOfStride_ok) ?_
    refine es_cv1_v (pc := 35) dX0_moveByStride_35 mr_0_110 rfl rfl (by decide) (by decide) rfl (Nat.le_of_ble_eq_true rfl) (Nat.zero_le _) (X0_pay_ok hon hpl) (fun μ35 h35 => ?_)
    obtain ⟨h35, f35⟩ := h35
    have hon1 : μ35 44 11 = nI on := by rw [← r44_onMove (μ := μ35), h35, gm_pay_lo (by omega), r44_onMove, hon]
    have hP1 : μ35 44 10 = nI P := by rw [← r44_players (μ := μ35), h35, gm_pay_lo (by omega), r44_players, hP]
    refine es_aload_n (pc := 38) dX0_moveByStride_38 rfl ?_
    refine es_getR (pc := 39) dX0_moveByStride_39 fr_0_21 fld_44_3 ?_
    refine es_aload_n (pc := 42) dX0_moveByStride_42 rfl ?_
    refine es_getI (pc := 43) dX0_moveByStride_43 fr_0_46 fld_44_11 ?_
    refine es_top hon1 ?_
    refine es_iload_n (pc := 46) dX0_moveByStride_46 rfl ?_
    refine es_iast (pc := 47) dX0_moveByStride_47 lay_48 (by omega) ?_
    refine es_aload_n (pc := 48) dX0_moveByStride_48 rfl ?_
    refine es_getR (pc := 49) dX0_moveByStride_49 fr_0_24 fld_44_4 ?_
    refine es_aload_n (pc := 52) dX0_moveByStride_52 rfl ?_
    refine es_getI (pc := 53) dX0_moveByStride_53 fr_0_46 fld_44_11 ?_
    refine es_top hon1 ?_
    refine es_dup2 (pc := 56) dX0_moveByStride_56 rfl rfl ?_
    refine es_iald (pc := 57) dX0_moveByStride_57 lay_49 (by omega) ?_
    refine es_aload_n (pc := 58) dX0_moveByStride_58 rfl ?_
    refine es_getR (pc := 59) dX0_moveByStride_59 fr_0_15 fld_44_1 ?_
    refine es_iload_n (pc := 62) dX0_moveByStride_62 rfl ?_
    refine es_iald (pc := 63) dX0_moveByStride_63 lay_46 (by omega) ?_
    refine es_iadd (pc := 64) dX0_moveByStride_64 ?_
    refine es_iast (pc := 65) dX0_moveByStride_65 lay_49 (by omega) ?_
    refine es_aload_n (pc := 66) dX0_moveByStride_66 rfl ?_
    refine es_getR (pc := 67) dX0_moveByStride_67 fr_0_15 fld_44_1 ?_
    refine es_iload_n (pc := 70) dX0_moveByStride_70 rfl ?_
    refine es_iconstN (pc := 71) 0 dX0_moveByStride_71 ic_0 ?_
    refine es_iast (pc := 72) dX0_moveByStride_72 lay_46 (by omega) ?_
    refine es_aload_n (pc := 73) dX0_moveByStride_73 rfl ?_
    refine es_cv0_i (pc := 74) dX0_moveByStride_74 mr_0_114 rfl rfl (by decide) (by decide) rfl (Nat.le_of_ble_eq_true rfl) (Nat.zero_le _) (X0_endMove_ok hP1 hon1) (fun x74 μ74 h74 => ?_)
    refine es_pop (pc := 77) dX0_moveByStride_77 rfl ?_
    refine es_iconstN (pc := 78) 0 dX0_moveByStride_78 ic_0 ?_
    refine es_ireturn (pc := 79) dX0_moveByStride_79 rfl (vp_nar_int _) (by decide) ?_
    refine ⟨_, rfl, c11.symm, ?_, ?_⟩
    · rw [if_pos c11, h74.2.1]
      congr 1
      simp [gm_go, ← h35, ho4, ht, w44_players, w44_onMove, w44_it, w44_moves, w44_refused, w44_tags, w44_brought, r44_players, r44_onMove, r44_it, r44_moves, r44_refused, r44_tags, r44_brought, w44_place, w44_above, w44_below, w44_made, w44_tagged, w44_was, w44_paid, r44_place, r44_above, r44_below, r44_made, r44_tagged, r44_was, r44_paid, r44_0, r44_1, r44_2, r44_3, w44_l, r44_l, ms_full]
    · refine gm_Fr.tr ?_ h74.2.2
      repeat (first | exact f35 | refine gm_Fr.ms ?_ (by decide))
  · refine es_aload_n (pc := 14) dX0_moveByStride_14 rfl ?_
    refine es_iload_n (pc := 15) dX0_moveByStride_15 rfl ?_
    refine es_cv1_i (pc := 16) dX0_moveByStride_16 mr_0_107 rfl rfl (by decide) (by decide) rfl (Nat.le_of_ble_eq_true rfl) (Nat.zero_le _) (X0_refuse_ok) (fun x16 μ16 h16 => ?_)
    refine es_ireturn (pc := 19) dX0_moveByStride_19 rfl (vp_nar_int _) (by decide) ?_
    exact ⟨_, rfl, h16.1, by rw [if_neg c11]; exact h16.2.1, h16.2.2⟩
set_option maxHeartbeats 2000000 in
set_option maxRecDepth 20000 in
theorem X0_moveByTurn_ok {d : Nat} {μ : ev_M} {P on a : Nat} (hP : μ 44 10 = nI P) (hon : μ 44 11 = nI on) (hpl : μ 48 on = nI a) (hP4 : P ≤ 4 := by omega) (ho4 : on < 4 := by omega) (ha : a < 10 := by omega) (hd : 3 ≤ d := by omega) : SPi (ev_CALL d) 63 [.ref 44] μ (fun x μ2 => x = (if μ 50 on < μ 47 2 then nI 4 else nI 0) ∧ gR μ2 44 = (if μ 50 on < μ 47 2 then gm_ref (gR μ 44) else gm_ends (gm_turn (gR μ 44) on a) P on) ∧ gm_Fr 44 μ μ2) := by
  obtain ⟨d, rfl⟩ : ∃ q, d = q + 1 := ⟨d - 1, by omega⟩
  refine SPi.of (Nat.le_of_ble_eq_true rfl) ?_
  show es (ev_CALL d) 0 cX0_moveByTurn (some .int) 0 (0, fun _ => 0, []) (fun r μ2 => ∃ x9 : Int32, r = (some (.int x9), 0) ∧ (fun x μ2 => x = (if μ 50 on < μ 47 2 then nI 4 else nI 0) ∧ gR μ2 44 = (if μ 50 on < μ 47 2 then gm_ref (gR μ 44) else gm_ends (gm_turn (gR μ 44) on a) P on) ∧ gm_Fr 44 μ μ2) x9 μ2) 0 [.ref 44, .null] [] μ 0
  refine es_aload_n (pc := 0) dX0_moveByTurn_0 rfl ?_
  refine es_getR (pc := 1) dX0_moveByTurn_1 fr_0_18 fld_44_2 ?_
  refine es_iconstN (pc := 4) 2 dX0_moveByTurn_4 ic_2 ?_
  refine es_iald (pc := 5) dX0_moveByTurn_5 lay_47 (by omega) ?_
  refine es_aload_n (pc := 6) dX0_moveByTurn_6 rfl ?_
  refine es_getR (pc := 7) dX0_moveByTurn_7 fr_0_27 fld_44_5 ?_
  refine es_aload_n (pc := 10) dX0_moveByTurn_10 rfl ?_
  refine es_getI (pc := 11) dX0_moveByTurn_11 fr_0_46 fld_44_11 ?_
  refine es_top hon ?_
  refine es_iald (pc := 14) dX0_moveByTurn_14 lay_50 (by omega) ?_
  refine es_icmp_le (pc := 15) (tgt := 24) dX0_moveByTurn_15 (by decide) (fun c15 => ?_) (fun c15 => ?_)
  · refine es_aload_n (pc := 24) dX0_moveByTurn_24 rfl ?_
    refine es_aload_n (pc := 25) dX0_moveByTurn_25 rfl ?_
    refine es_getR (pc := 26) dX0_moveByTurn_26 fr_0_18 fld_44_2 ?_
    refine es_iconstN (pc := 29) 2 dX0_moveByTurn_29 ic_2 ?_
    refine es_iald (pc := 30) dX0_moveByTurn_30 lay_47 (by omega) ?_
    refine es_cv1_v (pc := 31) dX0_moveByTurn_31 mr_0_110 rfl rfl (by decide) (by decide) rfl (Nat.le_of_ble_eq_true rfl) (Nat.zero_le _) (X0_pay_ok hon hpl) (fun μ31 h31 => ?_)
    obtain ⟨h31, f31⟩ := h31
    have hon1 : μ31 44 11 = nI on := by rw [← r44_onMove (μ := μ31), h31, gm_pay_lo (by omega), r44_onMove, hon]
    have hP1 : μ31 44 10 = nI P := by rw [← r44_players (μ := μ31), h31, gm_pay_lo (by omega), r44_players, hP]
    refine es_aload_n (pc := 34) dX0_moveByTurn_34 rfl ?_
    refine es_getR (pc := 35) dX0_moveByTurn_35 fr_0_24 fld_44_4 ?_
    refine es_aload_n (pc := 38) dX0_moveByTurn_38 rfl ?_
    refine es_getI (pc := 39) dX0_moveByTurn_39 fr_0_46 fld_44_11 ?_
    refine es_top hon1 ?_
    refine es_iald (pc := 42) dX0_moveByTurn_42 lay_49 (by omega) ?_
    refine es_istore_n (pc := 43) dX0_moveByTurn_43 (ok1_1 rfl) ?_
    refine es_aload_n (pc := 44) dX0_moveByTurn_44 rfl ?_
    refine es_getR (pc := 45) dX0_moveByTurn_45 fr_0_24 fld_44_4 ?_
    refine es_aload_n (pc := 48) dX0_moveByTurn_48 rfl ?_
    refine es_getI (pc := 49) dX0_moveByTurn_49 fr_0_46 fld_44_11 ?_
    refine es_top hon1 ?_
    refine es_aload_n (pc := 52) dX0_moveByTurn_52 rfl ?_
    refine es_getR (pc := 53) dX0_moveByTurn_53 fr_0_27 fld_44_5 ?_
    refine es_aload_n (pc := 56) dX0_moveByTurn_56 rfl ?_
    refine es_getI (pc := 57) dX0_moveByTurn_57 fr_0_46 fld_44_11 ?_
    refine es_top hon1 ?_
    refine es_iald (pc := 60) dX0_moveByTurn_60 lay_50 (by omega) ?_
    refine es_iast (pc := 61) dX0_moveByTurn_61 lay_49 (by omega) ?_
    refine es_aload_n (pc := 62) dX0_moveByTurn_62 rfl ?_
    refine es_getR (pc := 63) dX0_moveByTurn_63 fr_0_27 fld_44_5 ?_
    refine es_aload_n (pc := 66) dX0_moveByTurn_66 rfl ?_
    refine es_getI (pc := 67) dX0_moveByTurn_67 fr_0_46 fld_44_11 ?_
    refine es_top hon1 ?_
    refine es_iload_n (pc := 70) dX0_moveByTurn_70 rfl ?_
    refine es_iast (pc := 71) dX0_moveByTurn_71 lay_50 (by omega) ?_
    refine es_aload_n (pc := 72) dX0_moveByTurn_72 rfl ?_
    refine es_cv0_i (pc := 73) dX0_moveByTurn_73 mr_0_114 rfl rfl (by decide) (by decide) rfl (Nat.le_of_ble_eq_true rfl) (Nat.zero_le _) (X0_endMove_ok hP1 hon1) (fun x73 μ73 h73 => ?_)
    refine es_pop (pc := 76) dX0_moveByTurn_76 rfl ?_
    refine es_iconstN (pc := 77) 0 dX0_moveByTurn_77 ic_0 ?_
    refine es_ireturn (pc := 78) dX0_moveByTurn_78 rfl (vp_nar_int _) (by decide) ?_
    refine ⟨_, rfl, by rw [if_neg (Int32.not_lt.mpr c15)], ?_, ?_⟩
    · rw [if_neg (Int32.not_lt.mpr c15), h73.2.1]
      congr 1
      simp only [gm_turn, r44_2]
      simp [← h31, ho4, w44_players, w44_onMove, w44_it, w44_moves, w44_refused, w44_tags, w44_brought, r44_players, r44_onMove, r44_it, r44_moves, r44_refused, r44_tags, r44_brought, w44_place, w44_above, w44_below, w44_made, w44_tagged, w44_was, w44_paid, r44_place, r44_above, r44_below, r44_made, r44_tagged, r44_was, r44_paid, r44_0, r44_1, r44_2, r44_3, w44_l, r44_l, ms_full]
    · refine gm_Fr.tr ?_ h73.2.2
      repeat (first | exact f31 | refine gm_Fr.ms ?_ (by decide))
  · refine es_aload_n (pc := 18) dX0_moveByTurn_18 rfl ?_
    refine es_iconstN (pc := 19) 4 dX0_moveByTurn_19 ic_4 ?_
    refine es_cv1_i (pc := 20) dX0_moveByTurn_20 mr_0_107 rfl rfl (by decide) (by decide) rfl (Nat.le_of_ble_eq_true rfl) (Nat.zero_le _) (X0_refuse_ok) (fun x20 μ20 h20 => ?_)
    refine es_ireturn (pc := 23) dX0_moveByTurn_23 rfl (vp_nar_int _) (by decide) ?_
    exact ⟨_, rfl, by rw [if_pos (Int32.not_le.mp c15)]; exact h20.1, by rw [if_pos (Int32.not_le.mp c15)]; exact h20.2.1, h20.2.2⟩
set_option maxHeartbeats 2000000 in
set_option maxRecDepth 20000 in
theorem X0_moveByTag_ok {d : Nat} {μ : ev_M} {P on it q : Nat} {pl : Nat → Nat} (hP : μ 44 10 = nI P) (hon : μ 44 11 = nI on) (hit : μ 44 12 = nI it) (hpl : ∀ p, p < 4 → μ 48 p = nI (pl p)) (hpb : ∀ p, pl p < 10) (hP4 : P ≤ 4 := by omega) (ho4 : on < 4 := by omega) (hi4 : it < 4 := by omega) (hq : q < 4 := by omega) (hd : 4 ≤ d := by omega) : SPi (ev_CALL d) 67 [.ref 44, .int (nI q)] μ (fun x μ2 => x = gm_tagw (μ 45) (μ 47 3) it on q (pl on) (pl q) ∧ gR μ2 44 = (if gm_tagw (μ 45) (μ 47 3) it on q (pl on) (pl q) = 0 then gm_ends (gm_tag (gR μ 44) on q) P on else gm_ref (gR μ 44)) ∧ gm_Fr 44 μ μ2) := by
  obtain ⟨d, rfl⟩ : ∃ q, d = q + 1 := ⟨d - 1, by omega⟩
  refine SPi.of (Nat.le_of_ble_eq_true rfl) ?_
  show es (ev_CALL d) 0 cX0_moveByTag (some .int) 0 (0, fun _ => 0, []) (fun r μ2 => ∃ x9 : Int32, r = (some (.int x9), 0) ∧ (fun x μ2 => x = gm_tagw (μ 45) (μ 47 3) it on q (pl on) (pl q) ∧ gR μ2 44 = (if gm_tagw (μ 45) (μ 47 3) it on q (pl on) (pl q) = 0 then gm_ends (gm_tag (gR μ 44) on q) P on else gm_ref (gR μ 44)) ∧ gm_Fr 44 μ μ2) x9 μ2) 0 [.ref 44, .int (nI q), .null, .null] [] μ 0
  refine es_aload_n (pc := 0) dX0_moveByTag_0 rfl ?_
  refine es_aload_n (pc := 1) dX0_moveByTag_1 rfl ?_
  refine es_getI (pc := 2) dX0_moveByTag_2 fr_0_46 fld_44_11 ?_
  refine es_top hon ?_
  refine es_iload_n (pc := 5) dX0_moveByTag_5 rfl ?_
  refine es_cv2_p (pc := 6) dX0_moveByTag_6 mr_0_104 rfl rfl (by decide) (by decide) rfl (Nat.le_of_ble_eq_true rfl) (Nat.zero_le _) (X0_refusalOfTag_ok hit (hpl _ (by omega)) (hpl _ (by omega)) (ha := hpb _) (hb := hpb _)) ?_
  refine es_istore_n (pc := 9) dX0_moveByTag_9 (ok1_2 rfl) ?_
  refine es_iload_n (pc := 10) dX0_moveByTag_10 rfl ?_
  refine es_if_eq (pc := 11) (tgt := 20) dX0_moveByTag_11 (by decide) (fun c11 => ?_) (fun c11 => ?_)
  · refine es_aload_n (pc := 20) dX0_moveByTag_20 rfl ?_
    refine es_getR (pc := 21) dX0_moveByTag_21 fr_0_27 fld_44_5 ?_
    refine es_iload_n (pc := 24) dX0_moveByTag_24 rfl ?_
    refine es_iald (pc := 25) dX0_moveByTag_25 lay_50 (by omega) ?_
    refine es_iconstN (pc := 26) 2 dX0_moveByTag_26 ic_2 ?_
    refine es_idiv (pc := 27) dX0_moveByTag_27 (by decide) ?_
    refine es_istore_n (pc := 28) dX0_moveByTag_28 (ok1_3 rfl) ?_
    refine es_aload_n (pc := 29) dX0_moveByTag_29 rfl ?_
    refine es_getR (pc := 30) dX0_moveByTag_30 fr_0_27 fld_44_5 ?_
    refine es_iload_n (pc := 33) dX0_moveByTag_33 rfl ?_
    refine es_dup2 (pc := 34) dX0_moveByTag_34 rfl rfl ?_
    refine es_iald (pc := 35) dX0_moveByTag_35 lay_50 (by omega) ?_
    refine es_iload_n (pc := 36) dX0_moveByTag_36 rfl ?_
    refine es_isub (pc := 37) dX0_moveByTag_37 ?_
    refine es_iast (pc := 38) dX0_moveByTag_38 lay_50 (by omega) ?_
    refine es_aload_n (pc := 39) dX0_moveByTag_39 rfl ?_
    refine es_getR (pc := 40) dX0_moveByTag_40 fr_0_24 fld_44_4 ?_
    refine es_aload_n (pc := 43) dX0_moveByTag_43 rfl ?_
    refine es_getI (pc := 44) dX0_moveByTag_44 fr_0_46 fld_44_11 ?_
    refine es_top hon ?_
    refine es_dup2 (pc := 47) dX0_moveByTag_47 rfl rfl ?_
    refine es_iald (pc := 48) dX0_moveByTag_48 lay_49 (by omega) ?_
    refine es_iload_n (pc := 49) dX0_moveByTag_49 rfl ?_
    refine es_iadd (pc := 50) dX0_moveByTag_50 ?_
    refine es_iast (pc := 51) dX0_moveByTag_51 lay_49 (by omega) ?_
    refine es_aload_n (pc := 52) dX0_moveByTag_52 rfl ?_
    refine es_getR (pc := 53) dX0_moveByTag_53 fr_0_33 fld_44_7 ?_
    refine es_aload_n (pc := 56) dX0_moveByTag_56 rfl ?_
    refine es_getI (pc := 57) dX0_moveByTag_57 fr_0_46 fld_44_11 ?_
    refine es_top hon ?_
    refine es_dup2 (pc := 60) dX0_moveByTag_60 rfl rfl ?_
    refine es_iald (pc := 61) dX0_moveByTag_61 lay_52 (by omega) ?_
    refine es_iconstN (pc := 62) 1 dX0_moveByTag_62 ic_1 ?_
    refine es_iadd (pc := 63) dX0_moveByTag_63 ?_
    refine es_iast (pc := 64) dX0_moveByTag_64 lay_52 (by omega) ?_
    refine es_aload_n (pc := 65) dX0_moveByTag_65 rfl ?_
    refine es_getR (pc := 66) dX0_moveByTag_66 fr_0_36 fld_44_8 ?_
    refine es_iload_n (pc := 69) dX0_moveByTag_69 rfl ?_
    refine es_dup2 (pc := 70) dX0_moveByTag_70 rfl rfl ?_
    refine es_iald (pc := 71) dX0_moveByTag_71 lay_53 (by omega) ?_
    refine es_iconstN (pc := 72) 1 dX0_moveByTag_72 ic_1 ?_
    refine es_iadd (pc := 73) dX0_moveByTag_73 ?_
    refine es_iast (pc := 74) dX0_moveByTag_74 lay_53 (by omega) ?_
    refine es_aload_n (pc := 75) dX0_moveByTag_75 rfl ?_
    refine es_dup (pc := 76) dX0_moveByTag_76 rfl ?_
    refine es_getI (pc := 77) dX0_moveByTag_77 fr_0_58 fld_44_15 ?_
    refine es_iconstN (pc := 80) 1 dX0_moveByTag_80 ic_1 ?_
    refine es_iadd (pc := 81) dX0_moveByTag_81 ?_
    refine es_putI (pc := 82) dX0_moveByTag_82 fr_0_58 fld_44_15 ?_
    refine es_aload_n (pc := 85) dX0_moveByTag_85 rfl ?_
    refine es_iload_n (pc := 86) dX0_moveByTag_86 rfl ?_
    refine es_putI (pc := 87) dX0_moveByTag_87 fr_0_49 fld_44_12 ?_
    refine es_aload_n (pc := 90) dX0_moveByTag_90 rfl ?_
    refine es_cv0_i (pc := 91) dX0_moveByTag_91 mr_0_114 rfl rfl (by decide) (by decide) rfl (Nat.le_of_ble_eq_true rfl) (Nat.zero_le _) (X0_endMove_ok hP hon) (fun x91 μ91 h91 => ?_)
    refine es_pop (pc := 94) dX0_moveByTag_94 rfl ?_
    refine es_iconstN (pc := 95) 0 dX0_moveByTag_95 ic_0 ?_
    refine es_ireturn (pc := 96) dX0_moveByTag_96 rfl (vp_nar_int _) (by decide) ?_
    refine ⟨_, rfl, c11.symm, ?_, ?_⟩
    · rw [if_pos c11, h91.2.1]
      congr 1
      simp [gm_tag, gm_half, ho4, hq, w44_players, w44_onMove, w44_it, w44_moves, w44_refused, w44_tags, w44_brought, r44_players, r44_onMove, r44_it, r44_moves, r44_refused, r44_tags, r44_brought, w44_place, w44_above, w44_below, w44_made, w44_tagged, w44_was, w44_paid, r44_place, r44_above, r44_below, r44_made, r44_tagged, r44_was, r44_paid, r44_0, r44_1, r44_2, r44_3, w44_l, r44_l, ms_full]
    · refine gm_Fr.tr ?_ h91.2.2
      repeat (first | exact gm_Fr.rf | refine gm_Fr.ms ?_ (by decide))
  · refine es_aload_n (pc := 14) dX0_moveByTag_14 rfl ?_
    refine es_iload_n (pc := 15) dX0_moveByTag_15 rfl ?_
    refine es_cv1_i (pc := 16) dX0_moveByTag_16 mr_0_107 rfl rfl (by decide) (by decide) rfl (Nat.le_of_ble_eq_true rfl) (Nat.zero_le _) (X0_refuse_ok) (fun x16 μ16 h16 => ?_)
    refine es_ireturn (pc := 19) dX0_moveByTag_19 rfl (vp_nar_int _) (by decide) ?_
    exact ⟨_, rfl, h16.1, by rw [if_neg c11]; exact h16.2.1, h16.2.2⟩
theorem lay_55 : ev_lay 55 = (0, 0, [some 56, some 57, some 58, some 59, some 60, some 61, some 62, some 63, some 64, some 65, none, none, none, none, none, none, none]) := by decide
theorem lay_56 : ev_lay 56 = (1, 10, []) := by decide
theorem lay_57 : ev_lay 57 = (1, 10, []) := by decide
theorem lay_58 : ev_lay 58 = (1, 4, []) := by decide
theorem lay_59 : ev_lay 59 = (1, 4, []) := by decide
theorem lay_60 : ev_lay 60 = (1, 4, []) := by decide
theorem lay_61 : ev_lay 61 = (1, 4, []) := by decide
theorem lay_62 : ev_lay 62 = (1, 4, []) := by decide
theorem lay_63 : ev_lay 63 = (1, 4, []) := by decide
theorem lay_64 : ev_lay 64 = (1, 4, []) := by decide
theorem lay_65 : ev_lay 65 = (1, 4, []) := by decide
theorem lay_66 : ev_lay 66 = (0, 0, [some 67, some 68, some 69, some 70, some 71, some 72, some 73, some 74, some 75, some 76, none, none, none, none, none, none, none]) := by decide
theorem lay_67 : ev_lay 67 = (1, 10, []) := by decide
theorem lay_68 : ev_lay 68 = (1, 10, []) := by decide
theorem lay_69 : ev_lay 69 = (1, 4, []) := by decide
theorem lay_70 : ev_lay 70 = (1, 4, []) := by decide
theorem lay_71 : ev_lay 71 = (1, 4, []) := by decide
theorem lay_72 : ev_lay 72 = (1, 4, []) := by decide
theorem lay_73 : ev_lay 73 = (1, 4, []) := by decide
theorem lay_74 : ev_lay 74 = (1, 4, []) := by decide
theorem lay_75 : ev_lay 75 = (1, 4, []) := by decide
theorem lay_76 : ev_lay 76 = (1, 4, []) := by decide
theorem lay_77 : ev_lay 77 = (0, 0, [some 78, some 79, some 80, some 81, some 82, some 83, some 84, some 85, some 86, some 87, none, none, none, none, none, none, none]) := by decide
theorem lay_78 : ev_lay 78 = (1, 10, []) := by decide
theorem lay_79 : ev_lay 79 = (1, 10, []) := by decide
theorem lay_80 : ev_lay 80 = (1, 4, []) := by decide
theorem lay_81 : ev_lay 81 = (1, 4, []) := by decide
theorem lay_82 : ev_lay 82 = (1, 4, []) := by decide
theorem lay_83 : ev_lay 83 = (1, 4, []) := by decide
theorem lay_84 : ev_lay 84 = (1, 4, []) := by decide
theorem lay_85 : ev_lay 85 = (1, 4, []) := by decide
theorem lay_86 : ev_lay 86 = (1, 4, []) := by decide
theorem lay_87 : ev_lay 87 = (1, 4, []) := by decide
theorem lay_88 : ev_lay 88 = (0, 0, [some 89, some 90, some 91, some 92, some 93, some 94, some 95, some 96, some 97, some 98, none, none, none, none, none, none, none]) := by decide
theorem lay_89 : ev_lay 89 = (1, 10, []) := by decide
theorem lay_90 : ev_lay 90 = (1, 10, []) := by decide
theorem lay_91 : ev_lay 91 = (1, 4, []) := by decide
theorem lay_92 : ev_lay 92 = (1, 4, []) := by decide
theorem lay_93 : ev_lay 93 = (1, 4, []) := by decide
theorem lay_94 : ev_lay 94 = (1, 4, []) := by decide
theorem lay_95 : ev_lay 95 = (1, 4, []) := by decide
theorem lay_96 : ev_lay 96 = (1, 4, []) := by decide
theorem lay_97 : ev_lay 97 = (1, 4, []) := by decide
theorem lay_98 : ev_lay 98 = (1, 4, []) := by decide
theorem lay_99 : ev_lay 99 = (0, 0, [some 100, some 101, some 102, some 103, some 104, some 105, some 106, some 107, some 108, some 109, none, none, none, none, none, none, none]) := by decide
theorem lay_100 : ev_lay 100 = (1, 10, []) := by decide
theorem lay_101 : ev_lay 101 = (1, 10, []) := by decide
theorem lay_102 : ev_lay 102 = (1, 4, []) := by decide
theorem lay_103 : ev_lay 103 = (1, 4, []) := by decide
theorem lay_104 : ev_lay 104 = (1, 4, []) := by decide
theorem lay_105 : ev_lay 105 = (1, 4, []) := by decide
theorem lay_106 : ev_lay 106 = (1, 4, []) := by decide
theorem lay_107 : ev_lay 107 = (1, 4, []) := by decide
theorem lay_108 : ev_lay 108 = (1, 4, []) := by decide
theorem lay_109 : ev_lay 109 = (1, 4, []) := by decide
theorem lay_110 : ev_lay 110 = (0, 0, [some 111, some 112, some 113, some 114, some 115, some 116, some 117, some 118, some 119, some 120, none, none, none, none, none, none, none]) := by decide
theorem lay_111 : ev_lay 111 = (1, 10, []) := by decide
theorem lay_112 : ev_lay 112 = (1, 10, []) := by decide
theorem lay_113 : ev_lay 113 = (1, 4, []) := by decide
theorem lay_114 : ev_lay 114 = (1, 4, []) := by decide
theorem lay_115 : ev_lay 115 = (1, 4, []) := by decide
theorem lay_116 : ev_lay 116 = (1, 4, []) := by decide
theorem lay_117 : ev_lay 117 = (1, 4, []) := by decide
theorem lay_118 : ev_lay 118 = (1, 4, []) := by decide
theorem lay_119 : ev_lay 119 = (1, 4, []) := by decide
theorem lay_120 : ev_lay 120 = (1, 4, []) := by decide
theorem lay_121 : ev_lay 121 = (0, 0, [some 122, some 123, some 124, some 125, some 126, some 127, some 128, some 129, some 130, some 131, none, none, none, none, none, none, none]) := by decide
theorem lay_122 : ev_lay 122 = (1, 10, []) := by decide
theorem lay_123 : ev_lay 123 = (1, 10, []) := by decide
theorem lay_124 : ev_lay 124 = (1, 4, []) := by decide
theorem lay_125 : ev_lay 125 = (1, 4, []) := by decide
theorem lay_126 : ev_lay 126 = (1, 4, []) := by decide
theorem lay_127 : ev_lay 127 = (1, 4, []) := by decide
theorem lay_128 : ev_lay 128 = (1, 4, []) := by decide
theorem lay_129 : ev_lay 129 = (1, 4, []) := by decide
theorem lay_130 : ev_lay 130 = (1, 4, []) := by decide
theorem lay_131 : ev_lay 131 = (1, 4, []) := by decide
theorem lay_132 : ev_lay 132 = (0, 0, [some 133, some 134, some 135, some 136, some 137, some 138, some 139, some 140, some 141, some 142, none, none, none, none, none, none, none]) := by decide
theorem lay_133 : ev_lay 133 = (1, 10, []) := by decide
theorem lay_134 : ev_lay 134 = (1, 10, []) := by decide
theorem lay_135 : ev_lay 135 = (1, 4, []) := by decide
theorem lay_136 : ev_lay 136 = (1, 4, []) := by decide
theorem lay_137 : ev_lay 137 = (1, 4, []) := by decide
theorem lay_138 : ev_lay 138 = (1, 4, []) := by decide
theorem lay_139 : ev_lay 139 = (1, 4, []) := by decide
theorem lay_140 : ev_lay 140 = (1, 4, []) := by decide
theorem lay_141 : ev_lay 141 = (1, 4, []) := by decide
theorem lay_142 : ev_lay 142 = (1, 4, []) := by decide
theorem fld_55_0 : ev_fld 55 0 0 = some (some 56) := by decide
theorem fld_55_1 : ev_fld 55 0 1 = some (some 57) := by decide
theorem fld_55_2 : ev_fld 55 0 2 = some (some 58) := by decide
theorem fld_55_3 : ev_fld 55 0 3 = some (some 59) := by decide
theorem fld_55_4 : ev_fld 55 0 4 = some (some 60) := by decide
theorem fld_55_5 : ev_fld 55 0 5 = some (some 61) := by decide
theorem fld_55_6 : ev_fld 55 0 6 = some (some 62) := by decide
theorem fld_55_7 : ev_fld 55 0 7 = some (some 63) := by decide
theorem fld_55_8 : ev_fld 55 0 8 = some (some 64) := by decide
theorem fld_55_9 : ev_fld 55 0 9 = some (some 65) := by decide
theorem fld_55_10 : ev_fld 55 0 10 = some none := by decide
theorem fld_55_11 : ev_fld 55 0 11 = some none := by decide
theorem fld_55_12 : ev_fld 55 0 12 = some none := by decide
theorem fld_55_13 : ev_fld 55 0 13 = some none := by decide
theorem fld_55_14 : ev_fld 55 0 14 = some none := by decide
theorem fld_55_15 : ev_fld 55 0 15 = some none := by decide
theorem fld_55_16 : ev_fld 55 0 16 = some none := by decide
theorem fld_66_0 : ev_fld 66 0 0 = some (some 67) := by decide
theorem fld_66_1 : ev_fld 66 0 1 = some (some 68) := by decide
theorem fld_66_2 : ev_fld 66 0 2 = some (some 69) := by decide
theorem fld_66_3 : ev_fld 66 0 3 = some (some 70) := by decide
theorem fld_66_4 : ev_fld 66 0 4 = some (some 71) := by decide
theorem fld_66_5 : ev_fld 66 0 5 = some (some 72) := by decide
theorem fld_66_6 : ev_fld 66 0 6 = some (some 73) := by decide
theorem fld_66_7 : ev_fld 66 0 7 = some (some 74) := by decide
theorem fld_66_8 : ev_fld 66 0 8 = some (some 75) := by decide
theorem fld_66_9 : ev_fld 66 0 9 = some (some 76) := by decide
theorem fld_66_10 : ev_fld 66 0 10 = some none := by decide
theorem fld_66_11 : ev_fld 66 0 11 = some none := by decide
theorem fld_66_12 : ev_fld 66 0 12 = some none := by decide
theorem fld_66_13 : ev_fld 66 0 13 = some none := by decide
theorem fld_66_14 : ev_fld 66 0 14 = some none := by decide
theorem fld_66_15 : ev_fld 66 0 15 = some none := by decide
theorem fld_66_16 : ev_fld 66 0 16 = some none := by decide
theorem fld_77_0 : ev_fld 77 0 0 = some (some 78) := by decide
theorem fld_77_1 : ev_fld 77 0 1 = some (some 79) := by decide
theorem fld_77_2 : ev_fld 77 0 2 = some (some 80) := by decide
theorem fld_77_3 : ev_fld 77 0 3 = some (some 81) := by decide
theorem fld_77_4 : ev_fld 77 0 4 = some (some 82) := by decide
theorem fld_77_5 : ev_fld 77 0 5 = some (some 83) := by decide
theorem fld_77_6 : ev_fld 77 0 6 = some (some 84) := by decide
theorem fld_77_7 : ev_fld 77 0 7 = some (some 85) := by decide
theorem fld_77_8 : ev_fld 77 0 8 = some (some 86) := by decide
theorem fld_77_9 : ev_fld 77 0 9 = some (some 87) := by decide
theorem fld_77_10 : ev_fld 77 0 10 = some none := by decide
theorem fld_77_11 : ev_fld 77 0 11 = some none := by decide
theorem fld_77_12 : ev_fld 77 0 12 = some none := by decide
theorem fld_77_13 : ev_fld 77 0 13 = some none := by decide
theorem fld_77_14 : ev_fld 77 0 14 = some none := by decide
theorem fld_77_15 : ev_fld 77 0 15 = some none := by decide
theorem fld_77_16 : ev_fld 77 0 16 = some none := by decide
theorem fld_88_0 : ev_fld 88 0 0 = some (some 89) := by decide
theorem fld_88_1 : ev_fld 88 0 1 = some (some 90) := by decide
theorem fld_88_2 : ev_fld 88 0 2 = some (some 91) := by decide
theorem fld_88_3 : ev_fld 88 0 3 = some (some 92) := by decide
theorem fld_88_4 : ev_fld 88 0 4 = some (some 93) := by decide
theorem fld_88_5 : ev_fld 88 0 5 = some (some 94) := by decide
theorem fld_88_6 : ev_fld 88 0 6 = some (some 95) := by decide
theorem fld_88_7 : ev_fld 88 0 7 = some (some 96) := by decide
theorem fld_88_8 : ev_fld 88 0 8 = some (some 97) := by decide
theorem fld_88_9 : ev_fld 88 0 9 = some (some 98) := by decide
theorem fld_88_10 : ev_fld 88 0 10 = some none := by decide
theorem fld_88_11 : ev_fld 88 0 11 = some none := by decide
theorem fld_88_12 : ev_fld 88 0 12 = some none := by decide
theorem fld_88_13 : ev_fld 88 0 13 = some none := by decide
theorem fld_88_14 : ev_fld 88 0 14 = some none := by decide
theorem fld_88_15 : ev_fld 88 0 15 = some none := by decide
theorem fld_88_16 : ev_fld 88 0 16 = some none := by decide
theorem fld_99_0 : ev_fld 99 0 0 = some (some 100) := by decide
theorem fld_99_1 : ev_fld 99 0 1 = some (some 101) := by decide
theorem fld_99_2 : ev_fld 99 0 2 = some (some 102) := by decide
theorem fld_99_3 : ev_fld 99 0 3 = some (some 103) := by decide
theorem fld_99_4 : ev_fld 99 0 4 = some (some 104) := by decide
theorem fld_99_5 : ev_fld 99 0 5 = some (some 105) := by decide
theorem fld_99_6 : ev_fld 99 0 6 = some (some 106) := by decide
theorem fld_99_7 : ev_fld 99 0 7 = some (some 107) := by decide
theorem fld_99_8 : ev_fld 99 0 8 = some (some 108) := by decide
theorem fld_99_9 : ev_fld 99 0 9 = some (some 109) := by decide
theorem fld_99_10 : ev_fld 99 0 10 = some none := by decide
theorem fld_99_11 : ev_fld 99 0 11 = some none := by decide
theorem fld_99_12 : ev_fld 99 0 12 = some none := by decide
theorem fld_99_13 : ev_fld 99 0 13 = some none := by decide
theorem fld_99_14 : ev_fld 99 0 14 = some none := by decide
theorem fld_99_15 : ev_fld 99 0 15 = some none := by decide
theorem fld_99_16 : ev_fld 99 0 16 = some none := by decide
theorem fld_110_0 : ev_fld 110 0 0 = some (some 111) := by decide
theorem fld_110_1 : ev_fld 110 0 1 = some (some 112) := by decide
theorem fld_110_2 : ev_fld 110 0 2 = some (some 113) := by decide
theorem fld_110_3 : ev_fld 110 0 3 = some (some 114) := by decide
theorem fld_110_4 : ev_fld 110 0 4 = some (some 115) := by decide
theorem fld_110_5 : ev_fld 110 0 5 = some (some 116) := by decide
theorem fld_110_6 : ev_fld 110 0 6 = some (some 117) := by decide
theorem fld_110_7 : ev_fld 110 0 7 = some (some 118) := by decide
theorem fld_110_8 : ev_fld 110 0 8 = some (some 119) := by decide
theorem fld_110_9 : ev_fld 110 0 9 = some (some 120) := by decide
theorem fld_110_10 : ev_fld 110 0 10 = some none := by decide
theorem fld_110_11 : ev_fld 110 0 11 = some none := by decide
theorem fld_110_12 : ev_fld 110 0 12 = some none := by decide
theorem fld_110_13 : ev_fld 110 0 13 = some none := by decide
theorem fld_110_14 : ev_fld 110 0 14 = some none := by decide
theorem fld_110_15 : ev_fld 110 0 15 = some none := by decide
theorem fld_110_16 : ev_fld 110 0 16 = some none := by decide
theorem fld_121_0 : ev_fld 121 0 0 = some (some 122) := by decide
theorem fld_121_1 : ev_fld 121 0 1 = some (some 123) := by decide
theorem fld_121_2 : ev_fld 121 0 2 = some (some 124) := by decide
theorem fld_121_3 : ev_fld 121 0 3 = some (some 125) := by decide
theorem fld_121_4 : ev_fld 121 0 4 = some (some 126) := by decide
theorem fld_121_5 : ev_fld 121 0 5 = some (some 127) := by decide
theorem fld_121_6 : ev_fld 121 0 6 = some (some 128) := by decide
theorem fld_121_7 : ev_fld 121 0 7 = some (some 129) := by decide
theorem fld_121_8 : ev_fld 121 0 8 = some (some 130) := by decide
theorem fld_121_9 : ev_fld 121 0 9 = some (some 131) := by decide
theorem fld_121_10 : ev_fld 121 0 10 = some none := by decide
theorem fld_121_11 : ev_fld 121 0 11 = some none := by decide
theorem fld_121_12 : ev_fld 121 0 12 = some none := by decide
theorem fld_121_13 : ev_fld 121 0 13 = some none := by decide
theorem fld_121_14 : ev_fld 121 0 14 = some none := by decide
theorem fld_121_15 : ev_fld 121 0 15 = some none := by decide
theorem fld_121_16 : ev_fld 121 0 16 = some none := by decide
theorem fld_132_0 : ev_fld 132 0 0 = some (some 133) := by decide
theorem fld_132_1 : ev_fld 132 0 1 = some (some 134) := by decide
theorem fld_132_2 : ev_fld 132 0 2 = some (some 135) := by decide
theorem fld_132_3 : ev_fld 132 0 3 = some (some 136) := by decide
theorem fld_132_4 : ev_fld 132 0 4 = some (some 137) := by decide
theorem fld_132_5 : ev_fld 132 0 5 = some (some 138) := by decide
theorem fld_132_6 : ev_fld 132 0 6 = some (some 139) := by decide
theorem fld_132_7 : ev_fld 132 0 7 = some (some 140) := by decide
theorem fld_132_8 : ev_fld 132 0 8 = some (some 141) := by decide
theorem fld_132_9 : ev_fld 132 0 9 = some (some 142) := by decide
theorem fld_132_10 : ev_fld 132 0 10 = some none := by decide
theorem fld_132_11 : ev_fld 132 0 11 = some none := by decide
theorem fld_132_12 : ev_fld 132 0 12 = some none := by decide
theorem fld_132_13 : ev_fld 132 0 13 = some none := by decide
theorem fld_132_14 : ev_fld 132 0 14 = some none := by decide
theorem fld_132_15 : ev_fld 132 0 15 = some none := by decide
theorem fld_132_16 : ev_fld 132 0 16 = some none := by decide
theorem cp_full {μ : ev_M} {k0 k1 n q j : Nat} : ev_cp μ k0 k1 n q j = if q = k1 ∧ j < n then μ k0 j else μ q j := by
  unfold ev_cp
  by_cases h1 : q = k1
  · subst h1
    by_cases h2 : j < n
    · rw [if_pos rfl, if_pos h2, if_pos ⟨rfl, h2⟩]
    · rw [if_pos rfl, if_neg h2, if_neg (fun h => h2 h.2)]
  · rw [if_neg h1, if_neg (fun h => h1 h.1)]
theorem cp_ne {μ : ev_M} {k0 k1 n q : Nat} (h : q ≠ k1) : ev_cp μ k0 k1 n q = μ q := by unfold ev_cp; rw [if_neg h]
set_option maxHeartbeats 2000000 in
set_option maxRecDepth 20000 in
theorem X0_become_44_55 {d : Nat} {μ : ev_M}  (hd : 1 ≤ d := by omega) : SPv (ev_CALL d) 45 [.ref 44, .ref 55] μ (fun μ2 => gR μ2 44 = gR μ 55 ∧ gm_Fr 44 μ μ2) := by
  obtain ⟨d, rfl⟩ : ∃ q, d = q + 1 := ⟨d - 1, by omega⟩
  refine SPv.of (Nat.le_of_ble_eq_true rfl) ?_
  show es (ev_CALL d) 0 cX0_become none 0 (0, fun _ => 0, []) (fun r μ2 => r = (none, 0) ∧ (fun μ2 => gR μ2 44 = gR μ 55 ∧ gm_Fr 44 μ μ2) μ2) 0 [.ref 44, .ref 55] [] μ 0
  refine es_aload_n (pc := 0) dX0_become_0 rfl ?_
  refine es_getR (pc := 1) dX0_become_1 fr_0_9 fld_55_0 ?_
  refine es_iconstN (pc := 4) 0 dX0_become_4 ic_0 ?_
  refine es_aload_n (pc := 5) dX0_become_5 rfl ?_
  refine es_getR (pc := 6) dX0_become_6 fr_0_9 fld_44_0 ?_
  refine es_iconstN (pc := 9) 0 dX0_become_9 ic_0 ?_
  refine es_bipushN (pc := 10) 10 dX0_become_10 bp_10 ?_
  refine es_copy (pc := 12) dX0_become_12 (by decide +kernel) lay_56 lay_45 (by omega) (by omega) (Nat.le_of_ble_eq_true rfl) ?_
  refine es_aload_n (pc := 15) dX0_become_15 rfl ?_
  refine es_getR (pc := 16) dX0_become_16 fr_0_15 fld_55_1 ?_
  refine es_iconstN (pc := 19) 0 dX0_become_19 ic_0 ?_
  refine es_aload_n (pc := 20) dX0_become_20 rfl ?_
  refine es_getR (pc := 21) dX0_become_21 fr_0_15 fld_44_1 ?_
  refine es_iconstN (pc := 24) 0 dX0_become_24 ic_0 ?_
  refine es_bipushN (pc := 25) 10 dX0_become_25 bp_10 ?_
  refine es_copy (pc := 27) dX0_become_27 (by decide +kernel) lay_57 lay_46 (by omega) (by omega) (Nat.le_of_ble_eq_true rfl) ?_
  refine es_aload_n (pc := 30) dX0_become_30 rfl ?_
  refine es_getR (pc := 31) dX0_become_31 fr_0_18 fld_55_2 ?_
  refine es_iconstN (pc := 34) 0 dX0_become_34 ic_0 ?_
  refine es_aload_n (pc := 35) dX0_become_35 rfl ?_
  refine es_getR (pc := 36) dX0_become_36 fr_0_18 fld_44_2 ?_
  refine es_iconstN (pc := 39) 0 dX0_become_39 ic_0 ?_
  refine es_iconstN (pc := 40) 4 dX0_become_40 ic_4 ?_
  refine es_copy (pc := 41) dX0_become_41 (by decide +kernel) lay_58 lay_47 (by omega) (by omega) (Nat.le_of_ble_eq_true rfl) ?_
  refine es_aload_n (pc := 44) dX0_become_44 rfl ?_
  refine es_getR (pc := 45) dX0_become_45 fr_0_21 fld_55_3 ?_
  refine es_iconstN (pc := 48) 0 dX0_become_48 ic_0 ?_
  refine es_aload_n (pc := 49) dX0_become_49 rfl ?_
  refine es_getR (pc := 50) dX0_become_50 fr_0_21 fld_44_3 ?_
  refine es_iconstN (pc := 53) 0 dX0_become_53 ic_0 ?_
  refine es_iconstN (pc := 54) 4 dX0_become_54 ic_4 ?_
  refine es_copy (pc := 55) dX0_become_55 (by decide +kernel) lay_59 lay_48 (by omega) (by omega) (Nat.le_of_ble_eq_true rfl) ?_
  refine es_aload_n (pc := 58) dX0_become_58 rfl ?_
  refine es_getR (pc := 59) dX0_become_59 fr_0_24 fld_55_4 ?_
  refine es_iconstN (pc := 62) 0 dX0_become_62 ic_0 ?_
  refine es_aload_n (pc := 63) dX0_become_63 rfl ?_
  refine es_getR (pc := 64) dX0_become_64 fr_0_24 fld_44_4 ?_
  refine es_iconstN (pc := 67) 0 dX0_become_67 ic_0 ?_
  refine es_iconstN (pc := 68) 4 dX0_become_68 ic_4 ?_
  refine es_copy (pc := 69) dX0_become_69 (by decide +kernel) lay_60 lay_49 (by omega) (by omega) (Nat.le_of_ble_eq_true rfl) ?_
  refine es_aload_n (pc := 72) dX0_become_72 rfl ?_
  refine es_getR (pc := 73) dX0_become_73 fr_0_27 fld_55_5 ?_
  refine es_iconstN (pc := 76) 0 dX0_become_76 ic_0 ?_
  refine es_aload_n (pc := 77) dX0_become_77 rfl ?_
  refine es_getR (pc := 78) dX0_become_78 fr_0_27 fld_44_5 ?_
  refine es_iconstN (pc := 81) 0 dX0_become_81 ic_0 ?_
  refine es_iconstN (pc := 82) 4 dX0_become_82 ic_4 ?_
  refine es_copy (pc := 83) dX0_become_83 (by decide +kernel) lay_61 lay_50 (by omega) (by omega) (Nat.le_of_ble_eq_true rfl) ?_
  refine es_aload_n (pc := 86) dX0_become_86 rfl ?_
  refine es_getR (pc := 87) dX0_become_87 fr_0_30 fld_55_6 ?_
  refine es_iconstN (pc := 90) 0 dX0_become_90 ic_0 ?_
  refine es_aload_n (pc := 91) dX0_become_91 rfl ?_
  refine es_getR (pc := 92) dX0_become_92 fr_0_30 fld_44_6 ?_
  refine es_iconstN (pc := 95) 0 dX0_become_95 ic_0 ?_
  refine es_iconstN (pc := 96) 4 dX0_become_96 ic_4 ?_
  refine es_copy (pc := 97) dX0_become_97 (by decide +kernel) lay_62 lay_51 (by omega) (by omega) (Nat.le_of_ble_eq_true rfl) ?_
  refine es_aload_n (pc := 100) dX0_become_100 rfl ?_
  refine es_getR (pc := 101) dX0_become_101 fr_0_33 fld_55_7 ?_
  refine es_iconstN (pc := 104) 0 dX0_become_104 ic_0 ?_
  refine es_aload_n (pc := 105) dX0_become_105 rfl ?_
  refine es_getR (pc := 106) dX0_become_106 fr_0_33 fld_44_7 ?_
  refine es_iconstN (pc := 109) 0 dX0_become_109 ic_0 ?_
  refine es_iconstN (pc := 110) 4 dX0_become_110 ic_4 ?_
  refine es_copy (pc := 111) dX0_become_111 (by decide +kernel) lay_63 lay_52 (by omega) (by omega) (Nat.le_of_ble_eq_true rfl) ?_
  refine es_aload_n (pc := 114) dX0_become_114 rfl ?_
  refine es_getR (pc := 115) dX0_become_115 fr_0_36 fld_55_8 ?_
  refine es_iconstN (pc := 118) 0 dX0_become_118 ic_0 ?_
  refine es_aload_n (pc := 119) dX0_become_119 rfl ?_
  refine es_getR (pc := 120) dX0_become_120 fr_0_36 fld_44_8 ?_
  refine es_iconstN (pc := 123) 0 dX0_become_123 ic_0 ?_
  refine es_iconstN (pc := 124) 4 dX0_become_124 ic_4 ?_
  refine es_copy (pc := 125) dX0_become_125 (by decide +kernel) lay_64 lay_53 (by omega) (by omega) (Nat.le_of_ble_eq_true rfl) ?_
  refine es_aload_n (pc := 128) dX0_become_128 rfl ?_
  refine es_getR (pc := 129) dX0_become_129 fr_0_39 fld_55_9 ?_
  refine es_iconstN (pc := 132) 0 dX0_become_132 ic_0 ?_
  refine es_aload_n (pc := 133) dX0_become_133 rfl ?_
  refine es_getR (pc := 134) dX0_become_134 fr_0_39 fld_44_9 ?_
  refine es_iconstN (pc := 137) 0 dX0_become_137 ic_0 ?_
  refine es_iconstN (pc := 138) 4 dX0_become_138 ic_4 ?_
  refine es_copy (pc := 139) dX0_become_139 (by decide +kernel) lay_65 lay_54 (by omega) (by omega) (Nat.le_of_ble_eq_true rfl) ?_
  refine es_aload_n (pc := 142) dX0_become_142 rfl ?_
  refine es_aload_n (pc := 143) dX0_become_143 rfl ?_
  refine es_getI (pc := 144) dX0_become_144 fr_0_42 fld_55_10 ?_
  refine es_putI (pc := 147) dX0_become_147 fr_0_42 fld_44_10 ?_
  refine es_aload_n (pc := 150) dX0_become_150 rfl ?_
  refine es_aload_n (pc := 151) dX0_become_151 rfl ?_
  refine es_getI (pc := 152) dX0_become_152 fr_0_46 fld_55_11 ?_
  refine es_putI (pc := 155) dX0_become_155 fr_0_46 fld_44_11 ?_
  refine es_aload_n (pc := 158) dX0_become_158 rfl ?_
  refine es_aload_n (pc := 159) dX0_become_159 rfl ?_
  refine es_getI (pc := 160) dX0_become_160 fr_0_49 fld_55_12 ?_
  refine es_putI (pc := 163) dX0_become_163 fr_0_49 fld_44_12 ?_
  refine es_aload_n (pc := 166) dX0_become_166 rfl ?_
  refine es_aload_n (pc := 167) dX0_become_167 rfl ?_
  refine es_getI (pc := 168) dX0_become_168 fr_0_52 fld_55_13 ?_
  refine es_putI (pc := 171) dX0_become_171 fr_0_52 fld_44_13 ?_
  refine es_aload_n (pc := 174) dX0_become_174 rfl ?_
  refine es_aload_n (pc := 175) dX0_become_175 rfl ?_
  refine es_getI (pc := 176) dX0_become_176 fr_0_55 fld_55_14 ?_
  refine es_putI (pc := 179) dX0_become_179 fr_0_55 fld_44_14 ?_
  refine es_aload_n (pc := 182) dX0_become_182 rfl ?_
  refine es_aload_n (pc := 183) dX0_become_183 rfl ?_
  refine es_getI (pc := 184) dX0_become_184 fr_0_58 fld_55_15 ?_
  refine es_putI (pc := 187) dX0_become_187 fr_0_58 fld_44_15 ?_
  refine es_aload_n (pc := 190) dX0_become_190 rfl ?_
  refine es_aload_n (pc := 191) dX0_become_191 rfl ?_
  refine es_getI (pc := 192) dX0_become_192 fr_0_61 fld_55_16 ?_
  refine es_putI (pc := 195) dX0_become_195 fr_0_61 fld_44_16 ?_
  refine es_vreturn (pc := 198) dX0_become_198 rfl (by decide) ?_
  refine ⟨rfl, ?_, ?_⟩
  · funext j
    simp only [gR]
    by_cases h59 : j < 59
    · rw [if_pos h59, if_pos h59]
      simp only [ms_full, cp_full]
      by_cases h1 : j < 4
      · simp [h1]
      · by_cases h2 : j < 11
        · simp [h1, h2]
          rcases (show j = 4 ∨ j = 5 ∨ j = 6 ∨ j = 7 ∨ j = 8 ∨ j = 9 ∨ j = 10 by omega) with rfl | rfl | rfl | rfl | rfl | rfl | rfl <;> simp
        · by_cases h3 : j < 21
          · simp [h1, h2, h3]; omega
          · by_cases h4 : j < 31
            · simp [h1, h2, h3, h4]; omega
            · have h5 : (j - 31) / 7 < 4 := by omega
              rcases (show (j - 31) % 7 = 0 ∨ (j - 31) % 7 = 1 ∨ (j - 31) % 7 = 2 ∨ (j - 31) % 7 = 3 ∨ (j - 31) % 7 = 4 ∨ (j - 31) % 7 = 5 ∨ (j - 31) % 7 = 6 by omega) with q | q | q | q | q | q | q <;> simp [h1, h2, h3, h4, h5, q]
    · rw [if_neg h59, if_neg h59]
  · intro q hq
    repeat (first | rfl | rw [ms_ne (by omega)] | rw [cp_ne (by omega)])
set_option maxHeartbeats 2000000 in
set_option maxRecDepth 20000 in
theorem X0_become_55_44 {d : Nat} {μ : ev_M}  (hd : 1 ≤ d := by omega) : SPv (ev_CALL d) 45 [.ref 55, .ref 44] μ (fun μ2 => gR μ2 55 = gR μ 44 ∧ gm_Fr 55 μ μ2) := by
  obtain ⟨d, rfl⟩ : ∃ q, d = q + 1 := ⟨d - 1, by omega⟩
  refine SPv.of (Nat.le_of_ble_eq_true rfl) ?_
  show es (ev_CALL d) 0 cX0_become none 0 (0, fun _ => 0, []) (fun r μ2 => r = (none, 0) ∧ (fun μ2 => gR μ2 55 = gR μ 44 ∧ gm_Fr 55 μ μ2) μ2) 0 [.ref 55, .ref 44] [] μ 0
  refine es_aload_n (pc := 0) dX0_become_0 rfl ?_
  refine es_getR (pc := 1) dX0_become_1 fr_0_9 fld_44_0 ?_
  refine es_iconstN (pc := 4) 0 dX0_become_4 ic_0 ?_
  refine es_aload_n (pc := 5) dX0_become_5 rfl ?_
  refine es_getR (pc := 6) dX0_become_6 fr_0_9 fld_55_0 ?_
  refine es_iconstN (pc := 9) 0 dX0_become_9 ic_0 ?_
  refine es_bipushN (pc := 10) 10 dX0_become_10 bp_10 ?_
  refine es_copy (pc := 12) dX0_become_12 (by decide +kernel) lay_45 lay_56 (by omega) (by omega) (Nat.le_of_ble_eq_true rfl) ?_
  refine es_aload_n (pc := 15) dX0_become_15 rfl ?_
  refine es_getR (pc := 16) dX0_become_16 fr_0_15 fld_44_1 ?_
  refine es_iconstN (pc := 19) 0 dX0_become_19 ic_0 ?_
  refine es_aload_n (pc := 20) dX0_become_20 rfl ?_
  refine es_getR (pc := 21) dX0_become_21 fr_0_15 fld_55_1 ?_
  refine es_iconstN (pc := 24) 0 dX0_become_24 ic_0 ?_
  refine es_bipushN (pc := 25) 10 dX0_become_25 bp_10 ?_
  refine es_copy (pc := 27) dX0_become_27 (by decide +kernel) lay_46 lay_57 (by omega) (by omega) (Nat.le_of_ble_eq_true rfl) ?_
  refine es_aload_n (pc := 30) dX0_become_30 rfl ?_
  refine es_getR (pc := 31) dX0_become_31 fr_0_18 fld_44_2 ?_
  refine es_iconstN (pc := 34) 0 dX0_become_34 ic_0 ?_
  refine es_aload_n (pc := 35) dX0_become_35 rfl ?_
  refine es_getR (pc := 36) dX0_become_36 fr_0_18 fld_55_2 ?_
  refine es_iconstN (pc := 39) 0 dX0_become_39 ic_0 ?_
  refine es_iconstN (pc := 40) 4 dX0_become_40 ic_4 ?_
  refine es_copy (pc := 41) dX0_become_41 (by decide +kernel) lay_47 lay_58 (by omega) (by omega) (Nat.le_of_ble_eq_true rfl) ?_
  refine es_aload_n (pc := 44) dX0_become_44 rfl ?_
  refine es_getR (pc := 45) dX0_become_45 fr_0_21 fld_44_3 ?_
  refine es_iconstN (pc := 48) 0 dX0_become_48 ic_0 ?_
  refine es_aload_n (pc := 49) dX0_become_49 rfl ?_
  refine es_getR (pc := 50) dX0_become_50 fr_0_21 fld_55_3 ?_
  refine es_iconstN (pc := 53) 0 dX0_become_53 ic_0 ?_
  refine es_iconstN (pc := 54) 4 dX0_become_54 ic_4 ?_
  refine es_copy (pc := 55) dX0_become_55 (by decide +kernel) lay_48 lay_59 (by omega) (by omega) (Nat.le_of_ble_eq_true rfl) ?_
  refine es_aload_n (pc := 58) dX0_become_58 rfl ?_
  refine es_getR (pc := 59) dX0_become_59 fr_0_24 fld_44_4 ?_
  refine es_iconstN (pc := 62) 0 dX0_become_62 ic_0 ?_
  refine es_aload_n (pc := 63) dX0_become_63 rfl ?_
  refine es_getR (pc := 64) dX0_become_64 fr_0_24 fld_55_4 ?_
  refine es_iconstN (pc := 67) 0 dX0_become_67 ic_0 ?_
  refine es_iconstN (pc := 68) 4 dX0_become_68 ic_4 ?_
  refine es_copy (pc := 69) dX0_become_69 (by decide +kernel) lay_49 lay_60 (by omega) (by omega) (Nat.le_of_ble_eq_true rfl) ?_
  refine es_aload_n (pc := 72) dX0_become_72 rfl ?_
  refine es_getR (pc := 73) dX0_become_73 fr_0_27 fld_44_5 ?_
  refine es_iconstN (pc := 76) 0 dX0_become_76 ic_0 ?_
  refine es_aload_n (pc := 77) dX0_become_77 rfl ?_
  refine es_getR (pc := 78) dX0_become_78 fr_0_27 fld_55_5 ?_
  refine es_iconstN (pc := 81) 0 dX0_become_81 ic_0 ?_
  refine es_iconstN (pc := 82) 4 dX0_become_82 ic_4 ?_
  refine es_copy (pc := 83) dX0_become_83 (by decide +kernel) lay_50 lay_61 (by omega) (by omega) (Nat.le_of_ble_eq_true rfl) ?_
  refine es_aload_n (pc := 86) dX0_become_86 rfl ?_
  refine es_getR (pc := 87) dX0_become_87 fr_0_30 fld_44_6 ?_
  refine es_iconstN (pc := 90) 0 dX0_become_90 ic_0 ?_
  refine es_aload_n (pc := 91) dX0_become_91 rfl ?_
  refine es_getR (pc := 92) dX0_become_92 fr_0_30 fld_55_6 ?_
  refine es_iconstN (pc := 95) 0 dX0_become_95 ic_0 ?_
  refine es_iconstN (pc := 96) 4 dX0_become_96 ic_4 ?_
  refine es_copy (pc := 97) dX0_become_97 (by decide +kernel) lay_51 lay_62 (by omega) (by omega) (Nat.le_of_ble_eq_true rfl) ?_
  refine es_aload_n (pc := 100) dX0_become_100 rfl ?_
  refine es_getR (pc := 101) dX0_become_101 fr_0_33 fld_44_7 ?_
  refine es_iconstN (pc := 104) 0 dX0_become_104 ic_0 ?_
  refine es_aload_n (pc := 105) dX0_become_105 rfl ?_
  refine es_getR (pc := 106) dX0_become_106 fr_0_33 fld_55_7 ?_
  refine es_iconstN (pc := 109) 0 dX0_become_109 ic_0 ?_
  refine es_iconstN (pc := 110) 4 dX0_become_110 ic_4 ?_
  refine es_copy (pc := 111) dX0_become_111 (by decide +kernel) lay_52 lay_63 (by omega) (by omega) (Nat.le_of_ble_eq_true rfl) ?_
  refine es_aload_n (pc := 114) dX0_become_114 rfl ?_
  refine es_getR (pc := 115) dX0_become_115 fr_0_36 fld_44_8 ?_
  refine es_iconstN (pc := 118) 0 dX0_become_118 ic_0 ?_
  refine es_aload_n (pc := 119) dX0_become_119 rfl ?_
  refine es_getR (pc := 120) dX0_become_120 fr_0_36 fld_55_8 ?_
  refine es_iconstN (pc := 123) 0 dX0_become_123 ic_0 ?_
  refine es_iconstN (pc := 124) 4 dX0_become_124 ic_4 ?_
  refine es_copy (pc := 125) dX0_become_125 (by decide +kernel) lay_53 lay_64 (by omega) (by omega) (Nat.le_of_ble_eq_true rfl) ?_
  refine es_aload_n (pc := 128) dX0_become_128 rfl ?_
  refine es_getR (pc := 129) dX0_become_129 fr_0_39 fld_44_9 ?_
  refine es_iconstN (pc := 132) 0 dX0_become_132 ic_0 ?_
  refine es_aload_n (pc := 133) dX0_become_133 rfl ?_
  refine es_getR (pc := 134) dX0_become_134 fr_0_39 fld_55_9 ?_
  refine es_iconstN (pc := 137) 0 dX0_become_137 ic_0 ?_
  refine es_iconstN (pc := 138) 4 dX0_become_138 ic_4 ?_
  refine es_copy (pc := 139) dX0_become_139 (by decide +kernel) lay_54 lay_65 (by omega) (by omega) (Nat.le_of_ble_eq_true rfl) ?_
  refine es_aload_n (pc := 142) dX0_become_142 rfl ?_
  refine es_aload_n (pc := 143) dX0_become_143 rfl ?_
  refine es_getI (pc := 144) dX0_become_144 fr_0_42 fld_44_10 ?_
  refine es_putI (pc := 147) dX0_become_147 fr_0_42 fld_55_10 ?_
  refine es_aload_n (pc := 150) dX0_become_150 rfl ?_
  refine es_aload_n (pc := 151) dX0_become_151 rfl ?_
  refine es_getI (pc := 152) dX0_become_152 fr_0_46 fld_44_11 ?_
  refine es_putI (pc := 155) dX0_become_155 fr_0_46 fld_55_11 ?_
  refine es_aload_n (pc := 158) dX0_become_158 rfl ?_
  refine es_aload_n (pc := 159) dX0_become_159 rfl ?_
  refine es_getI (pc := 160) dX0_become_160 fr_0_49 fld_44_12 ?_
  refine es_putI (pc := 163) dX0_become_163 fr_0_49 fld_55_12 ?_
  refine es_aload_n (pc := 166) dX0_become_166 rfl ?_
  refine es_aload_n (pc := 167) dX0_become_167 rfl ?_
  refine es_getI (pc := 168) dX0_become_168 fr_0_52 fld_44_13 ?_
  refine es_putI (pc := 171) dX0_become_171 fr_0_52 fld_55_13 ?_
  refine es_aload_n (pc := 174) dX0_become_174 rfl ?_
  refine es_aload_n (pc := 175) dX0_become_175 rfl ?_
  refine es_getI (pc := 176) dX0_become_176 fr_0_55 fld_44_14 ?_
  refine es_putI (pc := 179) dX0_become_179 fr_0_55 fld_55_14 ?_
  refine es_aload_n (pc := 182) dX0_become_182 rfl ?_
  refine es_aload_n (pc := 183) dX0_become_183 rfl ?_
  refine es_getI (pc := 184) dX0_become_184 fr_0_58 fld_44_15 ?_
  refine es_putI (pc := 187) dX0_become_187 fr_0_58 fld_55_15 ?_
  refine es_aload_n (pc := 190) dX0_become_190 rfl ?_
  refine es_aload_n (pc := 191) dX0_become_191 rfl ?_
  refine es_getI (pc := 192) dX0_become_192 fr_0_61 fld_44_16 ?_
  refine es_putI (pc := 195) dX0_become_195 fr_0_61 fld_55_16 ?_
  refine es_vreturn (pc := 198) dX0_become_198 rfl (by decide) ?_
  refine ⟨rfl, ?_, ?_⟩
  · funext j
    simp only [gR]
    by_cases h59 : j < 59
    · rw [if_pos h59, if_pos h59]
      simp only [ms_full, cp_full]
      by_cases h1 : j < 4
      · simp [h1]
      · by_cases h2 : j < 11
        · simp [h1, h2]
          rcases (show j = 4 ∨ j = 5 ∨ j = 6 ∨ j = 7 ∨ j = 8 ∨ j = 9 ∨ j = 10 by omega) with rfl | rfl | rfl | rfl | rfl | rfl | rfl <;> simp
        · by_cases h3 : j < 21
          · simp [h1, h2, h3]; omega
          · by_cases h4 : j < 31
            · simp [h1, h2, h3, h4]; omega
            · have h5 : (j - 31) / 7 < 4 := by omega
              rcases (show (j - 31) % 7 = 0 ∨ (j - 31) % 7 = 1 ∨ (j - 31) % 7 = 2 ∨ (j - 31) % 7 = 3 ∨ (j - 31) % 7 = 4 ∨ (j - 31) % 7 = 5 ∨ (j - 31) % 7 = 6 by omega) with q | q | q | q | q | q | q <;> simp [h1, h2, h3, h4, h5, q]
    · rw [if_neg h59, if_neg h59]
  · intro q hq
    repeat (first | rfl | rw [ms_ne (by omega)] | rw [cp_ne (by omega)])
