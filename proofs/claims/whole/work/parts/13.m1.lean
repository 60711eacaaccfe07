theorem nI_one : nI 1 = 1 := rfl
theorem ok1_0 {x : Value} {t : List Value} : ev_ok1 (x :: t) 0 := ⟨Nat.succ_pos _, fun j v h => by omega⟩
theorem ok1_1 {x0 x1 : Value} {t : List Value} (h : x0.category = 1) : ev_ok1 (x0 :: x1 :: t) 1 := ⟨by simp, fun j v hj hv => by
  obtain rfl : j = 0 := by omega
  cases hv
  exact h⟩
theorem ok1_2 {x0 x1 x2 : Value} {t : List Value} (h : x1.category = 1) : ev_ok1 (x0 :: x1 :: x2 :: t) 2 := ⟨by simp, fun j v hj hv => by
  obtain rfl : j = 1 := by omega
  cases hv
  exact h⟩
theorem ok1_3 {x0 x1 x2 x3 : Value} {t : List Value} (h : x2.category = 1) : ev_ok1 (x0 :: x1 :: x2 :: x3 :: t) 3 := ⟨by simp, fun j v hj hv => by
  obtain rfl : j = 2 := by omega
  cases hv
  exact h⟩
theorem ok1_4 {x0 x1 x2 x3 x4 : Value} {t : List Value} (h : x3.category = 1) : ev_ok1 (x0 :: x1 :: x2 :: x3 :: x4 :: t) 4 := ⟨by simp, fun j v hj hv => by
  obtain rfl : j = 3 := by omega
  cases hv
  exact h⟩
theorem ok1_5 {x0 x1 x2 x3 x4 x5 : Value} {t : List Value} (h : x4.category = 1) : ev_ok1 (x0 :: x1 :: x2 :: x3 :: x4 :: x5 :: t) 5 := ⟨by simp, fun j v hj hv => by
  obtain rfl : j = 4 := by omega
  cases hv
  exact h⟩
theorem ok1_6 {x0 x1 x2 x3 x4 x5 x6 : Value} {t : List Value} (h : x5.category = 1) : ev_ok1 (x0 :: x1 :: x2 :: x3 :: x4 :: x5 :: x6 :: t) 6 := ⟨by simp, fun j v hj hv => by
  obtain rfl : j = 5 := by omega
  cases hv
  exact h⟩
theorem ok1_7 {x0 x1 x2 x3 x4 x5 x6 x7 : Value} {t : List Value} (h : x6.category = 1) : ev_ok1 (x0 :: x1 :: x2 :: x3 :: x4 :: x5 :: x6 :: x7 :: t) 7 := ⟨by simp, fun j v hj hv => by
  obtain rfl : j = 6 := by omega
  cases hv
  exact h⟩
theorem ok1_8 {x0 x1 x2 x3 x4 x5 x6 x7 x8 : Value} {t : List Value} (h : x7.category = 1) : ev_ok1 (x0 :: x1 :: x2 :: x3 :: x4 :: x5 :: x6 :: x7 :: x8 :: t) 8 := ⟨by simp, fun j v hj hv => by
  obtain rfl : j = 7 := by omega
  cases hv
  exact h⟩
theorem ok1_9 {x0 x1 x2 x3 x4 x5 x6 x7 x8 x9 : Value} {t : List Value} (h : x8.category = 1) : ev_ok1 (x0 :: x1 :: x2 :: x3 :: x4 :: x5 :: x6 :: x7 :: x8 :: x9 :: t) 9 := ⟨by simp, fun j v hj hv => by
  obtain rfl : j = 8 := by omega
  cases hv
  exact h⟩
theorem ok1_10 {x0 x1 x2 x3 x4 x5 x6 x7 x8 x9 x10 : Value} {t : List Value} (h : x9.category = 1) : ev_ok1 (x0 :: x1 :: x2 :: x3 :: x4 :: x5 :: x6 :: x7 :: x8 :: x9 :: x10 :: t) 10 := ⟨by simp, fun j v hj hv => by
  obtain rfl : j = 9 := by omega
  cases hv
  exact h⟩
theorem ok1_11 {x0 x1 x2 x3 x4 x5 x6 x7 x8 x9 x10 x11 : Value} {t : List Value} (h : x10.category = 1) : ev_ok1 (x0 :: x1 :: x2 :: x3 :: x4 :: x5 :: x6 :: x7 :: x8 :: x9 :: x10 :: x11 :: t) 11 := ⟨by simp, fun j v hj hv => by
  obtain rfl : j = 10 := by omega
  cases hv
  exact h⟩
theorem ok1_12 {x0 x1 x2 x3 x4 x5 x6 x7 x8 x9 x10 x11 x12 : Value} {t : List Value} (h : x11.category = 1) : ev_ok1 (x0 :: x1 :: x2 :: x3 :: x4 :: x5 :: x6 :: x7 :: x8 :: x9 :: x10 :: x11 :: x12 :: t) 12 := ⟨by simp, fun j v hj hv => by
  obtain rfl : j = 11 := by omega
  cases hv
  exact h⟩
theorem ok1_13 {x0 x1 x2 x3 x4 x5 x6 x7 x8 x9 x10 x11 x12 x13 : Value} {t : List Value} (h : x12.category = 1) : ev_ok1 (x0 :: x1 :: x2 :: x3 :: x4 :: x5 :: x6 :: x7 :: x8 :: x9 :: x10 :: x11 :: x12 :: x13 :: t) 13 := ⟨by simp, fun j v hj hv => by
  obtain rfl : j = 12 := by omega
  cases hv
  exact h⟩
theorem ok2_0 {x0 x1 : Value} {t : List Value} : ev_ok2 (x0 :: x1 :: t) 0 := ⟨by simp, fun j v h => by omega⟩
theorem ok2_1 {x0 x1 x2 : Value} {t : List Value} (h : x0.category = 1) : ev_ok2 (x0 :: x1 :: x2 :: t) 1 := ⟨by simp, fun j v hj hv => by
  obtain rfl : j = 0 := by omega
  cases hv
  exact h⟩
theorem ok2_2 {x0 x1 x2 x3 : Value} {t : List Value} (h : x1.category = 1) : ev_ok2 (x0 :: x1 :: x2 :: x3 :: t) 2 := ⟨by simp, fun j v hj hv => by
  obtain rfl : j = 1 := by omega
  cases hv
  exact h⟩
theorem ok2_3 {x0 x1 x2 x3 x4 : Value} {t : List Value} (h : x2.category = 1) : ev_ok2 (x0 :: x1 :: x2 :: x3 :: x4 :: t) 3 := ⟨by simp, fun j v hj hv => by
  obtain rfl : j = 2 := by omega
  cases hv
  exact h⟩
theorem ok2_4 {x0 x1 x2 x3 x4 x5 : Value} {t : List Value} (h : x3.category = 1) : ev_ok2 (x0 :: x1 :: x2 :: x3 :: x4 :: x5 :: t) 4 := ⟨by simp, fun j v hj hv => by
  obtain rfl : j = 3 := by omega
  cases hv
  exact h⟩
theorem ok2_5 {x0 x1 x2 x3 x4 x5 x6 : Value} {t : List Value} (h : x4.category = 1) : ev_ok2 (x0 :: x1 :: x2 :: x3 :: x4 :: x5 :: x6 :: t) 5 := ⟨by simp, fun j v hj hv => by
  obtain rfl : j = 4 := by omega
  cases hv
  exact h⟩
theorem ok2_6 {x0 x1 x2 x3 x4 x5 x6 x7 : Value} {t : List Value} (h : x5.category = 1) : ev_ok2 (x0 :: x1 :: x2 :: x3 :: x4 :: x5 :: x6 :: x7 :: t) 6 := ⟨by simp, fun j v hj hv => by
  obtain rfl : j = 5 := by omega
  cases hv
  exact h⟩
theorem ok2_7 {x0 x1 x2 x3 x4 x5 x6 x7 x8 : Value} {t : List Value} (h : x6.category = 1) : ev_ok2 (x0 :: x1 :: x2 :: x3 :: x4 :: x5 :: x6 :: x7 :: x8 :: t) 7 := ⟨by simp, fun j v hj hv => by
  obtain rfl : j = 6 := by omega
  cases hv
  exact h⟩
theorem ok2_8 {x0 x1 x2 x3 x4 x5 x6 x7 x8 x9 : Value} {t : List Value} (h : x7.category = 1) : ev_ok2 (x0 :: x1 :: x2 :: x3 :: x4 :: x5 :: x6 :: x7 :: x8 :: x9 :: t) 8 := ⟨by simp, fun j v hj hv => by
  obtain rfl : j = 7 := by omega
  cases hv
  exact h⟩
theorem ok2_9 {x0 x1 x2 x3 x4 x5 x6 x7 x8 x9 x10 : Value} {t : List Value} (h : x8.category = 1) : ev_ok2 (x0 :: x1 :: x2 :: x3 :: x4 :: x5 :: x6 :: x7 :: x8 :: x9 :: x10 :: t) 9 := ⟨by simp, fun j v hj hv => by
  obtain rfl : j = 8 := by omega
  cases hv
  exact h⟩
theorem ok2_10 {x0 x1 x2 x3 x4 x5 x6 x7 x8 x9 x10 x11 : Value} {t : List Value} (h : x9.category = 1) : ev_ok2 (x0 :: x1 :: x2 :: x3 :: x4 :: x5 :: x6 :: x7 :: x8 :: x9 :: x10 :: x11 :: t) 10 := ⟨by simp, fun j v hj hv => by
  obtain rfl : j = 9 := by omega
  cases hv
  exact h⟩
theorem ok2_11 {x0 x1 x2 x3 x4 x5 x6 x7 x8 x9 x10 x11 x12 : Value} {t : List Value} (h : x10.category = 1) : ev_ok2 (x0 :: x1 :: x2 :: x3 :: x4 :: x5 :: x6 :: x7 :: x8 :: x9 :: x10 :: x11 :: x12 :: t) 11 := ⟨by simp, fun j v hj hv => by
  obtain rfl : j = 10 := by omega
  cases hv
  exact h⟩
theorem ok2_12 {x0 x1 x2 x3 x4 x5 x6 x7 x8 x9 x10 x11 x12 x13 : Value} {t : List Value} (h : x11.category = 1) : ev_ok2 (x0 :: x1 :: x2 :: x3 :: x4 :: x5 :: x6 :: x7 :: x8 :: x9 :: x10 :: x11 :: x12 :: x13 :: t) 12 := ⟨by simp, fun j v hj hv => by
  obtain rfl : j = 11 := by omega
  cases hv
  exact h⟩
set_option maxHeartbeats 2000000 in
set_option maxRecDepth 20000 in
theorem X0_hasPlayer_ok {d : Nat} {μ : ev_M} {x : Int32} (hd : 1 ≤ d := by omega) : ev_CALL d 66 [.ref 44, .int x] μ (some (.int (bI (!decide (x < 0) && !decide (μ 44 10 ≤ x)))), 0) μ := by
  obtain ⟨d, rfl⟩ : ∃ q, d = q + 1 := ⟨d - 1, by omega⟩
  refine SPp.of (Nat.le_of_ble_eq_true rfl) ?_
  show es (ev_CALL d) 0 cX0_hasPlayer (some .boolean) 0 (0, fun _ => 0, []) (fun r μ2 => r = (some (.int (bI (!decide (x < 0) && !decide (μ 44 10 ≤ x)))), 0) ∧ μ2 = μ) 0 [.ref 44, .int x] [] μ 0
  refine es_iload_n (pc := 0) dX0_hasPlayer_0 rfl ?_
  refine es_if_lt (pc := 1) (tgt := 16) dX0_hasPlayer_1 (by decide) (fun c1 => ?_) (fun c1 => ?_)
  · refine es_iconstN (pc := 16) 0 dX0_hasPlayer_16 ic_0 ?_
    refine es_ireturn (pc := 17) dX0_hasPlayer_17 rfl (rfl) (by decide) ?_
    exact ⟨by simp [bI, nI_0, nI_one, *], rfl⟩
  · refine es_iload_n (pc := 4) dX0_hasPlayer_4 rfl ?_
    refine es_aload_n (pc := 5) dX0_hasPlayer_5 rfl ?_
    refine es_getI (pc := 6) dX0_hasPlayer_6 fr_0_42 fld_44_10 ?_
    refine es_icmp_ge (pc := 9) (tgt := 16) dX0_hasPlayer_9 (by decide) (fun c9 => ?_) (fun c9 => ?_)
    · refine es_iconstN (pc := 16) 0 dX0_hasPlayer_16 ic_0 ?_
      refine es_ireturn (pc := 17) dX0_hasPlayer_17 rfl (rfl) (by decide) ?_
      exact ⟨by simp [bI, nI_0, nI_one, *], rfl⟩
    · refine es_iconstN (pc := 12) 1 dX0_hasPlayer_12 ic_1 ?_
      refine es_goto (pc := 13) (tgt := 17) dX0_hasPlayer_13 (by decide) ?_
      refine es_ireturn (pc := 17) dX0_hasPlayer_17 rfl (rfl) (by decide) ?_
      exact ⟨by simp [bI, nI_0, nI_one, *], rfl⟩
set_option maxHeartbeats 2000000 in
set_option maxRecDepth 20000 in
theorem X0_takesMoves_ok {d : Nat} {μ : ev_M}  (hd : 1 ≤ d := by omega) : ev_CALL d 54 [.ref 44] μ (some (.int (bI (!decide (μ 44 10 ≤ 0) && !decide (nI 9999 ≤ μ 44 13)))), 0) μ := by
  obtain ⟨d, rfl⟩ : ∃ q, d = q + 1 := ⟨d - 1, by omega⟩
  refine SPp.of (Nat.le_of_ble_eq_true rfl) ?_
  show es (ev_CALL d) 0 cX0_takesMoves (some .boolean) 0 (0, fun _ => 0, []) (fun r μ2 => r = (some (.int (bI (!decide (μ 44 10 ≤ 0) && !decide (nI 9999 ≤ μ 44 13)))), 0) ∧ μ2 = μ) 0 [.ref 44] [] μ 0
  refine es_aload_n (pc := 0) dX0_takesMoves_0 rfl ?_
  refine es_getI (pc := 1) dX0_takesMoves_1 fr_0_42 fld_44_10 ?_
  refine es_if_le (pc := 4) (tgt := 21) dX0_takesMoves_4 (by decide) (fun c4 => ?_) (fun c4 => ?_)
  · refine es_iconstN (pc := 21) 0 dX0_takesMoves_21 ic_0 ?_
    refine es_ireturn (pc := 22) dX0_takesMoves_22 rfl (rfl) (by decide) ?_
    exact ⟨by simp [bI, nI_0, nI_one, *], rfl⟩
  · refine es_aload_n (pc := 7) dX0_takesMoves_7 rfl ?_
    refine es_getI (pc := 8) dX0_takesMoves_8 fr_0_52 fld_44_13 ?_
    refine es_sipushN (pc := 11) 9999 dX0_takesMoves_11 sp_9999 ?_
    refine es_icmp_ge (pc := 14) (tgt := 21) dX0_takesMoves_14 (by decide) (fun c14 => ?_) (fun c14 => ?_)
    · refine es_iconstN (pc := 21) 0 dX0_takesMoves_21 ic_0 ?_
      refine es_ireturn (pc := 22) dX0_takesMoves_22 rfl (rfl) (by decide) ?_
      exact ⟨by simp [bI, nI_0, nI_one, *], rfl⟩
    · refine es_iconstN (pc := 17) 1 dX0_takesMoves_17 ic_1 ?_
      refine es_goto (pc := 18) (tgt := 22) dX0_takesMoves_18 (by decide) ?_
      refine es_ireturn (pc := 22) dX0_takesMoves_22 rfl (rfl) (by decide) ?_
      exact ⟨by simp [bI, nI_0, nI_one, *], rfl⟩
set_option maxHeartbeats 2000000 in
set_option maxRecDepth 20000 in
theorem X0_sees_ok {d : Nat} {μ : ev_M} {a b : Nat} (ha : a < 10 := by omega) (hb : b < 10 := by omega) (hd : 1 ≤ d := by omega) : ev_CALL d 9 [.ref 44, .int (nI a), .int (nI b)] μ (some (.int (bI (gm_sees (μ 45) a b))), 0) μ := by
  obtain ⟨d, rfl⟩ : ∃ q, d = q + 1 := ⟨d - 1, by omega⟩
  refine SPp.of (Nat.le_of_ble_eq_true rfl) ?_
  show es (ev_CALL d) 0 cX0_sees (some .boolean) 0 (0, fun _ => 0, []) (fun r μ2 => r = (some (.int (bI (gm_sees (μ 45) a b))), 0) ∧ μ2 = μ) 0 [.ref 44, .int (nI a), .int (nI b), .null, .null, .null] [] μ 0
  have hl32 : ∀ (n9 : Nat) (k : Nat), n9 = max a b - k → (k ≤ 20) → (gm_sees (μ 45) a b = gm_clr (μ 45) (gm_mx (μ 45 a) (μ 45 b)) k (max a b - k)) → es (ev_CALL d) 0 cX0_sees (some .boolean) 0 (0, fun _ => 0, []) (fun r μ2 => r = (some (.int (bI (gm_sees (μ 45) a b))), 0) ∧ μ2 = μ) 32 [.ref 44, .int (nI a), .int (nI b), .int (gm_mx (μ 45 a) (μ 45 b)), .int (nI (max a b)), .int (nI k)] [] μ 0 := by
    intro n9
    induction n9 using Nat.strongRecOn with
    | ind n9 ih =>
      intro k hn9 hk hi
      subst hn9
      refine es_iload (pc := 32) dX0_sees_32 rfl ?_
      refine es_iload (pc := 34) dX0_sees_34 rfl ?_
      refine es_icmp_geN (pc := 36) 58 dX0_sees_36 (by decide) (by omega) (by omega) (fun c36 => ?_) (fun c36 => ?_)
      · refine es_iconstN (pc := 58) 1 dX0_sees_58 ic_1 ?_
        refine es_ireturn (pc := 59) dX0_sees_59 rfl (rfl) (by decide) ?_
        exact ⟨by rw [hi, show max a b - k = 0 by omega]; rfl, rfl⟩
      · refine es_aload_n (pc := 39) dX0_sees_39 rfl ?_
        refine es_getR (pc := 40) dX0_sees_40 fr_0_9 fld_44_0 ?_
        refine es_iload (pc := 43) dX0_sees_43 rfl ?_
        refine es_iald (pc := 45) dX0_sees_45 lay_45 (by omega) ?_
        refine es_iload_n (pc := 46) dX0_sees_46 rfl ?_
        refine es_icmp_le (pc := 47) (tgt := 52) dX0_sees_47 (by decide) (fun c47 => ?_) (fun c47 => ?_)
        · refine es_iincN (pc := 52) 1 dX0_sees_52 ic_1 rfl (ok1_5 rfl) ?_
          refine es_goto (pc := 55) (tgt := 32) dX0_sees_55 (by decide) ?_
          exact ih _ (by omega) (k + 1) rfl (by omega) (by rw [hi, show max a b - k = (max a b - (k + 1)) + 1 by omega, gm_clr, if_neg (Int32.not_lt.mpr c47)])
        · refine es_iconstN (pc := 50) 0 dX0_sees_50 ic_0 ?_
          refine es_ireturn (pc := 51) dX0_sees_51 rfl (rfl) (by decide) ?_
          exact ⟨by rw [hi, show max a b - k = (max a b - (k + 1)) + 1 by omega, gm_clr, if_pos (Int32.not_le.mp c47)]; rfl, rfl⟩
  refine es_aload_n (pc := 0) dX0_sees_0 rfl ?_
  refine es_getR (pc := 1) dX0_sees_1 fr_0_9 fld_44_0 ?_
  refine es_iload_n (pc := 4) dX0_sees_4 rfl ?_
  refine es_iald (pc := 5) dX0_sees_5 lay_45 (by omega) ?_
  refine es_aload_n (pc := 6) dX0_sees_6 rfl ?_
  refine es_getR (pc := 7) dX0_sees_7 fr_0_9 fld_44_0 ?_
  refine es_iload_n (pc := 10) dX0_sees_10 rfl ?_
  refine es_iald (pc := 11) dX0_sees_11 lay_45 (by omega) ?_
  refine es_mmax (pc := 12) dX0_sees_12 mr_0_73 (Nat.le_of_ble_eq_true rfl) ?_
  refine es_istore_n (pc := 15) dX0_sees_15 (ok1_3 rfl) ?_
  refine es_iload_n (pc := 16) dX0_sees_16 rfl ?_
  refine es_iload_n (pc := 17) dX0_sees_17 rfl ?_
  refine es_mmax (pc := 18) dX0_sees_18 mr_0_73 (Nat.le_of_ble_eq_true rfl) ?_
  refine es_top (gm_maxN (by omega) (by omega)) ?_
  refine es_istore (pc := 21) dX0_sees_21 (ok1_4 rfl) ?_
  refine es_iload_n (pc := 23) dX0_sees_23 rfl ?_
  refine es_iload_n (pc := 24) dX0_sees_24 rfl ?_
  refine es_mmin (pc := 25) dX0_sees_25 mr_0_79 (Nat.le_of_ble_eq_true rfl) ?_
  refine es_top (gm_minN (by omega) (by omega)) ?_
  refine es_iconstN (pc := 28) 1 dX0_sees_28 ic_1 ?_
  refine es_iaddN (pc := 29) dX0_sees_29 ?_
  refine es_istore (pc := 30) dX0_sees_30 (ok1_5 rfl) ?_
  exact hl32 _ (min a b + 1) rfl (by omega) rfl
set_option maxHeartbeats 2000000 in
set_option maxRecDepth 20000 in
theorem X0_towersSeenFrom_ok {d : Nat} {μ : ev_M} {a : Nat} (ha : a < 10 := by omega) (hd : 2 ≤ d := by omega) : ev_CALL d 12 [.ref 44, .int (nI a)] μ (some (.int (gm_mask (gm_sees (μ 45) a) 10)), 0) μ := by
  obtain ⟨d, rfl⟩ : ∃ q, d = q + 1 := ⟨d - 1, by omega⟩
  refine SPp.of (Nat.le_of_ble_eq_true rfl) ?_
  show es (ev_CALL d) 0 cX0_towersSeenFrom (some .int) 0 (0, fun _ => 0, []) (fun r μ2 => r = (some (.int (gm_mask (gm_sees (μ 45) a) 10)), 0) ∧ μ2 = μ) 0 [.ref 44, .int (nI a), .null, .null] [] μ 0
  have hl4 : ∀ (n9 : Nat) (m : Int32) (k : Nat), n9 = 10 - k → (k ≤ 10) → (m = gm_mask (gm_sees (μ 45) a) k) → es (ev_CALL d) 0 cX0_towersSeenFrom (some .int) 0 (0, fun _ => 0, []) (fun r μ2 => r = (some (.int (gm_mask (gm_sees (μ 45) a) 10)), 0) ∧ μ2 = μ) 4 [.ref 44, .int (nI a), .int m, .int (nI k)] [] μ 0 := by
    intro n9
    induction n9 using Nat.strongRecOn with
    | ind n9 ih =>
      intro m k hn9 hk hm
      subst hn9
      refine es_iload_n (pc := 4) dX0_towersSeenFrom_4 rfl ?_
      refine es_bipushN (pc := 5) 10 dX0_towersSeenFrom_5 bp_10 ?_
      refine es_icmp_geN (pc := 7) 31 dX0_towersSeenFrom_7 (by decide) (by omega) (by omega) (fun c7 => ?_) (fun c7 => ?_)
      · refine es_iload_n (pc := 31) dX0_towersSeenFrom_31 rfl ?_
        refine es_ireturn (pc := 32) dX0_towersSeenFrom_32 rfl (vp_nar_int _) (by decide) ?_
        exact ⟨by rw [hm, show k = 10 by omega], rfl⟩
      · refine es_aload_n (pc := 10) dX0_towersSeenFrom_10 rfl ?_
        refine es_iload_n (pc := 11) dX0_towersSeenFrom_11 rfl ?_
        refine es_iload_n (pc := 12) dX0_towersSeenFrom_12 rfl ?_
        refine es_cv2_p (pc := 13) dX0_towersSeenFrom_13 mr_0_82 rfl rfl (by decide) (by decide) rfl (Nat.le_of_ble_eq_true rfl) (Nat.zero_le _) (X0_sees_ok) ?_
        refine es_if_eqB (pc := 16) 25 dX0_towersSeenFrom_16 (by decide) (fun c16 => ?_) (fun c16 => ?_)
        · refine es_iincN (pc := 25) 1 dX0_towersSeenFrom_25 ic_1 rfl (ok1_3 rfl) ?_
          refine es_goto (pc := 28) (tgt := 4) dX0_towersSeenFrom_28 (by decide) ?_
          exact ih _ (by omega) _ (k + 1) rfl (by omega) (by rw [gm_mask, hm]; simp [c16])
        · refine es_iload_n (pc := 19) dX0_towersSeenFrom_19 rfl ?_
          refine es_iconstN (pc := 20) 1 dX0_towersSeenFrom_20 ic_1 ?_
          refine es_iload_n (pc := 21) dX0_towersSeenFrom_21 rfl ?_
          refine es_ishl (pc := 22) dX0_towersSeenFrom_22 ?_
          refine es_ior (pc := 23) dX0_towersSeenFrom_23 ?_
          refine es_istore_n (pc := 24) dX0_towersSeenFrom_24 (ok1_2 rfl) ?_
          refine es_iincN (pc := 25) 1 dX0_towersSeenFrom_25 ic_1 rfl (ok1_3 rfl) ?_
          refine es_goto (pc := 28) (tgt := 4) dX0_towersSeenFrom_28 (by decide) ?_
          exact ih _ (by omega) _ (k + 1) rfl (by omega) (by rw [gm_mask, hm]; simp [c16])
  refine es_iconstN (pc := 0) 0 dX0_towersSeenFrom_0 ic_0 ?_
  refine es_istore_n (pc := 1) dX0_towersSeenFrom_1 (ok1_2 rfl) ?_
  refine es_iconstN (pc := 2) 0 dX0_towersSeenFrom_2 ic_0 ?_
  refine es_istore_n (pc := 3) dX0_towersSeenFrom_3 (ok1_3 rfl) ?_
  exact hl4 _ _ 0 rfl (by omega) rfl
set_option maxHeartbeats 2000000 in
set_option maxRecDepth 20000 in
theorem J6_bitCount_ok {d : Nat} {μ : ev_M} {x : Int32} (hd : 1 ≤ d := by omega) : ev_CALL d 13 [.int x] μ (some (.int (gm_bc x)), 0) μ := by
  obtain ⟨d, rfl⟩ : ∃ q, d = q + 1 := ⟨d - 1, by omega⟩
  refine SPp.of (Nat.le_of_ble_eq_true rfl) ?_
  show es (ev_CALL d) 7 cJ6_bitCount_0f7a4 (some .int) 0 (0, fun _ => 0, []) (fun r μ2 => r = (some (.int (gm_bc x)), 0) ∧ μ2 = μ) 0 [.int x] [] μ 0
  refine es_iload_n (pc := 0) dJ6_bitCount_0f7a4_0 rfl ?_
  refine es_iload_n (pc := 1) dJ6_bitCount_0f7a4_1 rfl ?_
  refine es_iconstN (pc := 2) 1 dJ6_bitCount_0f7a4_2 ic_1 ?_
  refine es_iushr (pc := 3) dJ6_bitCount_0f7a4_3 ?_
  refine es_ldcw (pc := 4) dJ6_bitCount_0f7a4_4 ci_7_265 ?_
  refine es_iand (pc := 7) dJ6_bitCount_0f7a4_7 ?_
  refine es_isub (pc := 8) dJ6_bitCount_0f7a4_8 ?_
  refine es_istore_n (pc := 9) dJ6_bitCount_0f7a4_9 (ok1_0) ?_
  refine es_iload_n (pc := 10) dJ6_bitCount_0f7a4_10 rfl ?_
  refine es_ldcw (pc := 11) dJ6_bitCount_0f7a4_11 ci_7_266 ?_
  refine es_iand (pc := 14) dJ6_bitCount_0f7a4_14 ?_
  refine es_iload_n (pc := 15) dJ6_bitCount_0f7a4_15 rfl ?_
  refine es_iconstN (pc := 16) 2 dJ6_bitCount_0f7a4_16 ic_2 ?_
  refine es_iushr (pc := 17) dJ6_bitCount_0f7a4_17 ?_
  refine es_ldcw (pc := 18) dJ6_bitCount_0f7a4_18 ci_7_266 ?_
  refine es_iand (pc := 21) dJ6_bitCount_0f7a4_21 ?_
  refine es_iadd (pc := 22) dJ6_bitCount_0f7a4_22 ?_
  refine es_istore_n (pc := 23) dJ6_bitCount_0f7a4_23 (ok1_0) ?_
  refine es_iload_n (pc := 24) dJ6_bitCount_0f7a4_24 rfl ?_
  refine es_iload_n (pc := 25) dJ6_bitCount_0f7a4_25 rfl ?_
  refine es_iconstN (pc := 26) 4 dJ6_bitCount_0f7a4_26 ic_4 ?_
  refine es_iushr (pc := 27) dJ6_bitCount_0f7a4_27 ?_
  refine es_iadd (pc := 28) dJ6_bitCount_0f7a4_28 ?_
  refine es_ldcw (pc := 29) dJ6_bitCount_0f7a4_29 ci_7_267 ?_
  refine es_iand (pc := 32) dJ6_bitCount_0f7a4_32 ?_
  refine es_istore_n (pc := 33) dJ6_bitCount_0f7a4_33 (ok1_0) ?_
  refine es_iload_n (pc := 34) dJ6_bitCount_0f7a4_34 rfl ?_
  refine es_iload_n (pc := 35) dJ6_bitCount_0f7a4_35 rfl ?_
  refine es_bipushN (pc := 36) 8 dJ6_bitCount_0f7a4_36 bp_8 ?_
  refine es_iushr (pc := 38) dJ6_bitCount_0f7a4_38 ?_
  refine es_iadd (pc := 39) dJ6_bitCount_0f7a4_39 ?_
  refine es_istore_n (pc := 40) dJ6_bitCount_0f7a4_40 (ok1_0) ?_
  refine es_iload_n (pc := 41) dJ6_bitCount_0f7a4_41 rfl ?_
  refine es_iload_n (pc := 42) dJ6_bitCount_0f7a4_42 rfl ?_
  refine es_bipushN (pc := 43) 16 dJ6_bitCount_0f7a4_43 bp_16 ?_
  refine es_iushr (pc := 45) dJ6_bitCount_0f7a4_45 ?_
  refine es_iadd (pc := 46) dJ6_bitCount_0f7a4_46 ?_
  refine es_istore_n (pc := 47) dJ6_bitCount_0f7a4_47 (ok1_0) ?_
  refine es_iload_n (pc := 48) dJ6_bitCount_0f7a4_48 rfl ?_
  refine es_bipushN (pc := 49) 63 dJ6_bitCount_0f7a4_49 bp_63 ?_
  refine es_iand (pc := 51) dJ6_bitCount_0f7a4_51 ?_
  refine es_ireturn (pc := 52) dJ6_bitCount_0f7a4_52 rfl (vp_nar_int _) (by decide) ?_
  exact ⟨rfl, rfl⟩
set_option maxHeartbeats 2000000 in
set_option maxRecDepth 20000 in
theorem X0_towerThatSeesMost_ok {d : Nat} {μ : ev_M}  (hd : 3 ≤ d := by omega) : ev_CALL d 11 [.ref 44] μ (some (.int (nI (gm_look (fun t => gm_bc (gm_mask (gm_sees (μ 45) t) 10)) 10).1)), 0) μ := by
  obtain ⟨d, rfl⟩ : ∃ q, d = q + 1 := ⟨d - 1, by omega⟩
  refine SPp.of (Nat.le_of_ble_eq_true rfl) ?_
  show es (ev_CALL d) 0 cX0_towerThatSeesMost (some .int) 0 (0, fun _ => 0, []) (fun r μ2 => r = (some (.int (nI (gm_look (fun t => gm_bc (gm_mask (gm_sees (μ 45) t) 10)) 10).1)), 0) ∧ μ2 = μ) 0 [.ref 44, .null, .null, .null, .null] [] μ 0
  have hl6 : ∀ (n9 : Nat) (j : Value) (b : Nat) (mo : Int32) (k : Nat), n9 = 10 - k → (k ≤ 10) → (gm_look (fun t => gm_bc (gm_mask (gm_sees (μ 45) t) 10)) k = (b, mo)) → es (ev_CALL d) 0 cX0_towerThatSeesMost (some .int) 0 (0, fun _ => 0, []) (fun r μ2 => r = (some (.int (nI (gm_look (fun t => gm_bc (gm_mask (gm_sees (μ 45) t) 10)) 10).1)), 0) ∧ μ2 = μ) 6 [.ref 44, .int (nI b), .int mo, .int (nI k), j] [] μ 0 := by
    intro n9
    induction n9 using Nat.strongRecOn with
    | ind n9 ih =>
      intro j b mo k hn9 hk hb
      subst hn9
      refine es_iload_n (pc := 6) dX0_towerThatSeesMost_6 rfl ?_
      refine es_bipushN (pc := 7) 10 dX0_towerThatSeesMost_7 bp_10 ?_
      refine es_icmp_geN (pc := 9) 39 dX0_towerThatSeesMost_9 (by decide) (by omega) (by omega) (fun c9 => ?_) (fun c9 => ?_)
      · refine es_iload_n (pc := 39) dX0_towerThatSeesMost_39 rfl ?_
        refine es_ireturn (pc := 40) dX0_towerThatSeesMost_40 rfl (vp_nar_int _) (by decide) ?_
        exact ⟨by rw [show k = 10 by omega] at hb; rw [hb], rfl⟩
      · refine es_aload_n (pc := 12) dX0_towerThatSeesMost_12 rfl ?_
        refine es_iload_n (pc := 13) dX0_towerThatSeesMost_13 rfl ?_
        refine es_cv1_p (pc := 14) dX0_towerThatSeesMost_14 mr_0_86 rfl rfl (by decide) (by decide) rfl (Nat.le_of_ble_eq_true rfl) (Nat.zero_le _) (X0_towersSeenFrom_ok) ?_
        refine es_cs1_p (pc := 17) dX0_towerThatSeesMost_17 mr_0_90 rfl rfl rfl (Nat.le_of_ble_eq_true rfl) (Nat.zero_le _) (J6_bitCount_ok) ?_
        refine es_istore (pc := 20) dX0_towerThatSeesMost_20 (ok1_4 rfl) ?_
        refine es_iload (pc := 22) dX0_towerThatSeesMost_22 rfl ?_
        refine es_iload_n (pc := 24) dX0_towerThatSeesMost_24 rfl ?_
        refine es_icmp_le (pc := 25) (tgt := 33) dX0_towerThatSeesMost_25 (by decide) (fun c25 => ?_) (fun c25 => ?_)
        · refine es_iincN (pc := 33) 1 dX0_towerThatSeesMost_33 ic_1 rfl (ok1_3 rfl) ?_
          refine es_goto (pc := 36) (tgt := 6) dX0_towerThatSeesMost_36 (by decide) ?_
          exact ih _ (by omega) _ _ _ (k + 1) rfl (by omega) (by rw [gm_look, hb]; first | rw [if_pos (Int32.not_le.mp c25)] | rw [if_neg (Int32.not_lt.mpr c25)])
        · refine es_iload (pc := 28) dX0_towerThatSeesMost_28 rfl ?_
          refine es_istore_n (pc := 30) dX0_towerThatSeesMost_30 (ok1_2 rfl) ?_
          refine es_iload_n (pc := 31) dX0_towerThatSeesMost_31 rfl ?_
          refine es_istore_n (pc := 32) dX0_towerThatSeesMost_32 (ok1_1 rfl) ?_
          refine es_iincN (pc := 33) 1 dX0_towerThatSeesMost_33 ic_1 rfl (ok1_3 rfl) ?_
          refine es_goto (pc := 36) (tgt := 6) dX0_towerThatSeesMost_36 (by decide) ?_
          exact ih _ (by omega) _ _ _ (k + 1) rfl (by omega) (by rw [gm_look, hb]; first | rw [if_pos (Int32.not_le.mp c25)] | rw [if_neg (Int32.not_lt.mpr c25)])
  refine es_iconstN (pc := 0) 0 dX0_towerThatSeesMost_0 ic_0 ?_
  refine es_istore_n (pc := 1) dX0_towerThatSeesMost_1 (ok1_1 rfl) ?_
  refine es_iconstN (pc := 2) 0 dX0_towerThatSeesMost_2 ic_0 ?_
  refine es_istore_n (pc := 3) dX0_towerThatSeesMost_3 (ok1_2 rfl) ?_
  refine es_iconstN (pc := 4) 0 dX0_towerThatSeesMost_4 ic_0 ?_
  refine es_istore_n (pc := 5) dX0_towerThatSeesMost_5 (ok1_3 rfl) ?_
  exact hl6 _ _ 0 _ 0 rfl (by omega) rfl
set_option maxHeartbeats 2000000 in
set_option maxRecDepth 20000 in
theorem X0_playersOn_ok {d : Nat} {μ : ev_M} {a P : Nat} (hP : μ 44 10 = nI P) (hP4 : P ≤ 4 := by omega) (hd : 1 ≤ d := by omega) : ev_CALL d 25 [.ref 44, .int (nI a)] μ (some (.int (gm_mask (fun k => decide (μ 48 k = nI a)) P)), 0) μ := by
  obtain ⟨d, rfl⟩ : ∃ q, d = q + 1 := ⟨d - 1, by omega⟩
  refine SPp.of (Nat.le_of_ble_eq_true rfl) ?_
  show es (ev_CALL d) 0 cX0_playersOn (some .int) 0 (0, fun _ => 0, []) (fun r μ2 => r = (some (.int (gm_mask (fun k => decide (μ 48 k = nI a)) P)), 0) ∧ μ2 = μ) 0 [.ref 44, .int (nI a), .null, .null] [] μ 0
  have hl4 : ∀ (n9 : Nat) (m : Int32) (k : Nat), n9 = P - k → (k ≤ P) → (m = gm_mask (fun k => decide (μ 48 k = nI a)) k) → es (ev_CALL d) 0 cX0_playersOn (some .int) 0 (0, fun _ => 0, []) (fun r μ2 => r = (some (.int (gm_mask (fun k => decide (μ 48 k = nI a)) P)), 0) ∧ μ2 = μ) 4 [.ref 44, .int (nI a), .int m, .int (nI k)] [] μ 0 := by
    intro n9
    induction n9 using Nat.strongRecOn with
    | ind n9 ih =>
      intro m k hn9 hk hm
      subst hn9
      refine es_iload_n (pc := 4) dX0_playersOn_4 rfl ?_
      refine es_aload_n (pc := 5) dX0_playersOn_5 rfl ?_
      refine es_getI (pc := 6) dX0_playersOn_6 fr_0_42 fld_44_10 ?_
      refine es_top hP ?_
      refine es_icmp_geN (pc := 9) 34 dX0_playersOn_9 (by decide) (by omega) (by omega) (fun c9 => ?_) (fun c9 => ?_)
      · refine es_iload_n (pc := 34) dX0_playersOn_34 rfl ?_
        refine es_ireturn (pc := 35) dX0_playersOn_35 rfl (vp_nar_int _) (by decide) ?_
        exact ⟨by rw [hm, show k = P by omega], rfl⟩
      · refine es_aload_n (pc := 12) dX0_playersOn_12 rfl ?_
        refine es_getR (pc := 13) dX0_playersOn_13 fr_0_21 fld_44_3 ?_
        refine es_iload_n (pc := 16) dX0_playersOn_16 rfl ?_
        refine es_iald (pc := 17) dX0_playersOn_17 lay_48 (by omega) ?_
        refine es_iload_n (pc := 18) dX0_playersOn_18 rfl ?_
        refine es_icmp_ne (pc := 19) (tgt := 28) dX0_playersOn_19 (by decide) (fun c19 => ?_) (fun c19 => ?_)
        · refine es_iincN (pc := 28) 1 dX0_playersOn_28 ic_1 rfl (ok1_3 rfl) ?_
          refine es_goto (pc := 31) (tgt := 4) dX0_playersOn_31 (by decide) ?_
          exact ih _ (by omega) _ (k + 1) rfl (by omega) (by rw [gm_mask, hm]; simp [c19])
        · refine es_iload_n (pc := 22) dX0_playersOn_22 rfl ?_
          refine es_iconstN (pc := 23) 1 dX0_playersOn_23 ic_1 ?_
          refine es_iload_n (pc := 24) dX0_playersOn_24 rfl ?_
          refine es_ishl (pc := 25) dX0_playersOn_25 ?_
          refine es_ior (pc := 26) dX0_playersOn_26 ?_
          refine es_istore_n (pc := 27) dX0_playersOn_27 (ok1_2 rfl) ?_
          refine es_iincN (pc := 28) 1 dX0_playersOn_28 ic_1 rfl (ok1_3 rfl) ?_
          refine es_goto (pc := 31) (tgt := 4) dX0_playersOn_31 (by decide) ?_
          exact ih _ (by omega) _ (k + 1) rfl (by omega) (by rw [gm_mask, hm]; simp [c19])
  refine es_iconstN (pc := 0) 0 dX0_playersOn_0 ic_0 ?_
  refine es_istore_n (pc := 1) dX0_playersOn_1 (ok1_2 rfl) ?_
  refine es_iconstN (pc := 2) 0 dX0_playersOn_2 ic_0 ?_
  refine es_istore_n (pc := 3) dX0_playersOn_3 (ok1_3 rfl) ?_
  exact hl4 _ _ 0 rfl (by omega) rfl
set_option maxHeartbeats 2000000 in
set_option maxRecDepth 20000 in
theorem X0_priceOfStride_ok {d : Nat} {μ : ev_M} {a b : Nat} (ha : a < 10 := by omega) (hb : b < 10 := by omega) (hd : 1 ≤ d := by omega) : ev_CALL d 22 [.ref 44, .int (nI a), .int (nI b)] μ (some (.int (gm_price (μ 47 1) (μ 45) a b)), 0) μ := by
  obtain ⟨d, rfl⟩ : ∃ q, d = q + 1 := ⟨d - 1, by omega⟩
  refine SPp.of (Nat.le_of_ble_eq_true rfl) ?_
  show es (ev_CALL d) 0 cX0_priceOfStride (some .int) 0 (0, fun _ => 0, []) (fun r μ2 => r = (some (.int (gm_price (μ 47 1) (μ 45) a b)), 0) ∧ μ2 = μ) 0 [.ref 44, .int (nI a), .int (nI b)] [] μ 0
  refine es_aload_n (pc := 0) dX0_priceOfStride_0 rfl ?_
  refine es_getR (pc := 1) dX0_priceOfStride_1 fr_0_18 fld_44_2 ?_
  refine es_iconstN (pc := 4) 1 dX0_priceOfStride_4 ic_1 ?_
  refine es_iald (pc := 5) dX0_priceOfStride_5 lay_47 (by omega) ?_
  refine es_iload_n (pc := 6) dX0_priceOfStride_6 rfl ?_
  refine es_iload_n (pc := 7) dX0_priceOfStride_7 rfl ?_
  refine es_isub (pc := 8) dX0_priceOfStride_8 ?_
  refine es_mabs (pc := 9) dX0_priceOfStride_9 mr_0_95 (Nat.le_of_ble_eq_true rfl) ?_
  refine es_top (gm_absN (a := a) (b := b) (by omega) (by omega)) ?_
  refine es_imul (pc := 12) dX0_priceOfStride_12 ?_
  refine es_iconstN (pc := 13) 0 dX0_priceOfStride_13 ic_0 ?_
  refine es_aload_n (pc := 14) dX0_priceOfStride_14 rfl ?_
  refine es_getR (pc := 15) dX0_priceOfStride_15 fr_0_9 fld_44_0 ?_
  refine es_iload_n (pc := 18) dX0_priceOfStride_18 rfl ?_
  refine es_iald (pc := 19) dX0_priceOfStride_19 lay_45 (by omega) ?_
  refine es_aload_n (pc := 20) dX0_priceOfStride_20 rfl ?_
  refine es_getR (pc := 21) dX0_priceOfStride_21 fr_0_9 fld_44_0 ?_
  refine es_iload_n (pc := 24) dX0_priceOfStride_24 rfl ?_
  refine es_iald (pc := 25) dX0_priceOfStride_25 lay_45 (by omega) ?_
  refine es_isub (pc := 26) dX0_priceOfStride_26 ?_
  refine es_mmax (pc := 27) dX0_priceOfStride_27 mr_0_73 (Nat.le_of_ble_eq_true rfl) ?_
  refine es_iadd (pc := 30) dX0_priceOfStride_30 ?_
  refine es_ireturn (pc := 31) dX0_priceOfStride_31 rfl (vp_nar_int _) (by decide) ?_
  exact ⟨rfl, rfl⟩
set_option maxHeartbeats 2000000 in
set_option maxRecDepth 20000 in
theorem X0_refusalOfStride_ok {d : Nat} {μ : ev_M} {p a t : Nat} (hpl : μ 48 p = nI a) (hp : p < 4 := by omega) (ha : a < 10 := by omega) (ht : t < 10 := by omega) (hd : 2 ≤ d := by omega) : ev_CALL d 33 [.ref 44, .int (nI p), .int (nI t)] μ (some (.int (gm_why (μ 47 1) (μ 45) (μ 50 p) a t)), 0) μ := by
  obtain ⟨d, rfl⟩ : ∃ q, d = q + 1 := ⟨d - 1, by omega⟩
  refine SPp.of (Nat.le_of_ble_eq_true rfl) ?_
  show es (ev_CALL d) 0 cX0_refusalOfStride (some .int) 0 (0, fun _ => 0, []) (fun r μ2 => r = (some (.int (gm_why (μ 47 1) (μ 45) (μ 50 p) a t)), 0) ∧ μ2 = μ) 0 [.ref 44, .int (nI p), .int (nI t), .null] [] μ 0
  refine es_aload_n (pc := 0) dX0_refusalOfStride_0 rfl ?_
  refine es_getR (pc := 1) dX0_refusalOfStride_1 fr_0_21 fld_44_3 ?_
  refine es_iload_n (pc := 4) dX0_refusalOfStride_4 rfl ?_
  refine es_iald (pc := 5) dX0_refusalOfStride_5 lay_48 (by omega) ?_
  refine es_top (hpl) ?_
  refine es_istore_n (pc := 6) dX0_refusalOfStride_6 (ok1_3 rfl) ?_
  refine es_iload_n (pc := 7) dX0_refusalOfStride_7 rfl ?_
  refine es_iload_n (pc := 8) dX0_refusalOfStride_8 rfl ?_
  refine es_icmp_neN (pc := 9) 14 dX0_refusalOfStride_9 (by decide) (by omega) (by omega) (fun c9 => ?_) (fun c9 => ?_)
  · refine es_aload_n (pc := 14) dX0_refusalOfStride_14 rfl ?_
    refine es_iload_n (pc := 15) dX0_refusalOfStride_15 rfl ?_
    refine es_iload_n (pc := 16) dX0_refusalOfStride_16 rfl ?_
    refine es_cv2_p (pc := 17) dX0_refusalOfStride_17 mr_0_82 rfl rfl (by decide) (by decide) rfl (Nat.le_of_ble_eq_true rfl) (Nat.zero_le _) (X0_sees_ok) ?_
    refine es_if_neB (pc := 20) 25 dX0_refusalOfStride_20 (by decide) (fun c20 => ?_) (fun c20 => ?_)
    · refine es_aload_n (pc := 25) dX0_refusalOfStride_25 rfl ?_
      refine es_iload_n (pc := 26) dX0_refusalOfStride_26 rfl ?_
      refine es_iload_n (pc := 27) dX0_refusalOfStride_27 rfl ?_
      refine es_cv2_p (pc := 28) dX0_refusalOfStride_28 mr_0_98 rfl rfl (by decide) (by decide) rfl (Nat.le_of_ble_eq_true rfl) (Nat.zero_le _) (X0_priceOfStride_ok) ?_
      refine es_aload_n (pc := 31) dX0_refusalOfStride_31 rfl ?_
      refine es_getR (pc := 32) dX0_refusalOfStride_32 fr_0_27 fld_44_5 ?_
      refine es_iload_n (pc := 35) dX0_refusalOfStride_35 rfl ?_
      refine es_iald (pc := 36) dX0_refusalOfStride_36 lay_50 (by omega) ?_
      refine es_icmp_le (pc := 37) (tgt := 44) dX0_refusalOfStride_37 (by decide) (fun c37 => ?_) (fun c37 => ?_)
      · refine es_iconstN (pc := 44) 0 dX0_refusalOfStride_44 ic_0 ?_
        refine es_ireturn (pc := 45) dX0_refusalOfStride_45 rfl (vp_nar_int _) (by decide) ?_
        exact ⟨by simp [gm_why, c9, c20, Int32.not_lt.mpr c37], rfl⟩
      · refine es_iconstN (pc := 40) 3 dX0_refusalOfStride_40 ic_3 ?_
        refine es_goto (pc := 41) (tgt := 45) dX0_refusalOfStride_41 (by decide) ?_
        refine es_ireturn (pc := 45) dX0_refusalOfStride_45 rfl (vp_nar_int _) (by decide) ?_
        exact ⟨by simp [gm_why, c9, c20, Int32.not_le.mp c37], rfl⟩
    · refine es_iconstN (pc := 23) 2 dX0_refusalOfStride_23 ic_2 ?_
      refine es_ireturn (pc := 24) dX0_refusalOfStride_24 rfl (vp_nar_int _) (by decide) ?_
      exact ⟨by simp [gm_why, c9, c20], rfl⟩
  · refine es_iconstN (pc := 12) 1 dX0_refusalOfStride_12 ic_1 ?_
    refine es_ireturn (pc := 13) dX0_refusalOfStride_13 rfl (vp_nar_int _) (by decide) ?_
    exact ⟨by simp [gm_why, c9], rfl⟩
set_option maxHeartbeats 2000000 in
set_option maxRecDepth 20000 in
theorem X0_towersToStrideTo_ok {d : Nat} {μ : ev_M} {p a : Nat} (hpl : μ 48 p = nI a) (hp : p < 4 := by omega) (ha : a < 10 := by omega) (hd : 3 ≤ d := by omega) : ev_CALL d 32 [.ref 44, .int (nI p)] μ (some (.int (gm_mask (fun t => decide (gm_why (μ 47 1) (μ 45) (μ 50 p) a t = 0)) 10)), 0) μ := by
  obtain ⟨d, rfl⟩ : ∃ q, d = q + 1 := ⟨d - 1, by omega⟩
  refine SPp.of (Nat.le_of_ble_eq_true rfl) ?_
  show es (ev_CALL d) 0 cX0_towersToStrideTo (some .int) 0 (0, fun _ => 0, []) (fun r μ2 => r = (some (.int (gm_mask (fun t => decide (gm_why (μ 47 1) (μ 45) (μ 50 p) a t = 0)) 10)), 0) ∧ μ2 = μ) 0 [.ref 44, .int (nI p), .null, .null] [] μ 0
  have hl4 : ∀ (n9 : Nat) (m : Int32) (k : Nat), n9 = 10 - k → (k ≤ 10) → (m = gm_mask (fun t => decide (gm_why (μ 47 1) (μ 45) (μ 50 p) a t = 0)) k) → es (ev_CALL d) 0 cX0_towersToStrideTo (some .int) 0 (0, fun _ => 0, []) (fun r μ2 => r = (some (.int (gm_mask (fun t => decide (gm_why (μ 47 1) (μ 45) (μ 50 p) a t = 0)) 10)), 0) ∧ μ2 = μ) 4 [.ref 44, .int (nI p), .int m, .int (nI k)] [] μ 0 := by
    intro n9
    induction n9 using Nat.strongRecOn with
    | ind n9 ih =>
      intro m k hn9 hk hm
      subst hn9
      refine es_iload_n (pc := 4) dX0_towersToStrideTo_4 rfl ?_
      refine es_bipushN (pc := 5) 10 dX0_towersToStrideTo_5 bp_10 ?_
      refine es_icmp_geN (pc := 7) 31 dX0_towersToStrideTo_7 (by decide) (by omega) (by omega) (fun c7 => ?_) (fun c7 => ?_)
      · refine es_iload_n (pc := 31) dX0_towersToStrideTo_31 rfl ?_
        refine es_ireturn (pc := 32) dX0_towersToStrideTo_32 rfl (vp_nar_int _) (by decide) ?_
        exact ⟨by rw [hm, show k = 10 by omega], rfl⟩
      · refine es_aload_n (pc := 10) dX0_towersToStrideTo_10 rfl ?_
        refine es_iload_n (pc := 11) dX0_towersToStrideTo_11 rfl ?_
        refine es_iload_n (pc := 12) dX0_towersToStrideTo_12 rfl ?_
        refine es_cv2_p (pc := 13) dX0_towersToStrideTo_13 mr_0_101 rfl rfl (by decide) (by decide) rfl (Nat.le_of_ble_eq_true rfl) (Nat.zero_le _) (X0_refusalOfStride_ok hpl) ?_
        refine es_if_ne (pc := 16) (tgt := 25) dX0_towersToStrideTo_16 (by decide) (fun c16 => ?_) (fun c16 => ?_)
        · refine es_iincN (pc := 25) 1 dX0_towersToStrideTo_25 ic_1 rfl (ok1_3 rfl) ?_
          refine es_goto (pc := 28) (tgt := 4) dX0_towersToStrideTo_28 (by decide) ?_
          exact ih _ (by omega) _ (k + 1) rfl (by omega) (by rw [gm_mask, hm]; simp [c16])
        · refine es_iload_n (pc := 19) dX0_towersToStrideTo_19 rfl ?_
          refine es_iconstN (pc := 20) 1 dX0_towersToStrideTo_20 ic_1 ?_
          refine es_iload_n (pc := 21) dX0_towersToStrideTo_21 rfl ?_
          refine es_ishl (pc := 22) dX0_towersToStrideTo_22 ?_
          refine es_ior (pc := 23) dX0_towersToStrideTo_23 ?_
          refine es_istore_n (pc := 24) dX0_towersToStrideTo_24 (ok1_2 rfl) ?_
          refine es_iincN (pc := 25) 1 dX0_towersToStrideTo_25 ic_1 rfl (ok1_3 rfl) ?_
          refine es_goto (pc := 28) (tgt := 4) dX0_towersToStrideTo_28 (by decide) ?_
          exact ih _ (by omega) _ (k + 1) rfl (by omega) (by rw [gm_mask, hm]; simp [c16])
  refine es_iconstN (pc := 0) 0 dX0_towersToStrideTo_0 ic_0 ?_
  refine es_istore_n (pc := 1) dX0_towersToStrideTo_1 (ok1_2 rfl) ?_
  refine es_iconstN (pc := 2) 0 dX0_towersToStrideTo_2 ic_0 ?_
  refine es_istore_n (pc := 3) dX0_towersToStrideTo_3 (ok1_3 rfl) ?_
  exact hl4 _ _ 0 rfl (by omega) rfl
set_option maxHeartbeats 2000000 in
set_option maxRecDepth 20000 in
theorem X0_refusalOfTag_ok {d : Nat} {μ : ev_M} {p q a b it : Nat} (hit : μ 44 12 = nI it) (hpa : μ 48 p = nI a) (hqb : μ 48 q = nI b) (hp : p < 4 := by omega) (hq : q < 4 := by omega) (hi4 : it < 4 := by omega) (ha : a < 10 := by omega) (hb : b < 10 := by omega) (hd : 2 ≤ d := by omega) : ev_CALL d 8 [.ref 44, .int (nI p), .int (nI q)] μ (some (.int (gm_tagw (μ 45) (μ 47 3) it p q a b)), 0) μ := by
  obtain ⟨d, rfl⟩ : ∃ q, d = q + 1 := ⟨d - 1, by omega⟩
  refine SPp.of (Nat.le_of_ble_eq_true rfl) ?_
  show es (ev_CALL d) 0 cX0_refusalOfTag (some .int) 0 (0, fun _ => 0, []) (fun r μ2 => r = (some (.int (gm_tagw (μ 45) (μ 47 3) it p q a b)), 0) ∧ μ2 = μ) 0 [.ref 44, .int (nI p), .int (nI q)] [] μ 0
  refine es_iload_n (pc := 0) dX0_refusalOfTag_0 rfl ?_
  refine es_aload_n (pc := 1) dX0_refusalOfTag_1 rfl ?_
  refine es_getI (pc := 2) dX0_refusalOfTag_2 fr_0_49 fld_44_12 ?_
  refine es_top hit ?_
  refine es_icmp_eqN (pc := 5) 10 dX0_refusalOfTag_5 (by decide) (by omega) (by omega) (fun c5 => ?_) (fun c5 => ?_)
  · refine es_iload_n (pc := 10) dX0_refusalOfTag_10 rfl ?_
    refine es_iload_n (pc := 11) dX0_refusalOfTag_11 rfl ?_
    refine es_icmp_neN (pc := 12) 18 dX0_refusalOfTag_12 (by decide) (by omega) (by omega) (fun c12 => ?_) (fun c12 => ?_)
    · refine es_aload_n (pc := 18) dX0_refusalOfTag_18 rfl ?_
      refine es_aload_n (pc := 19) dX0_refusalOfTag_19 rfl ?_
      refine es_getR (pc := 20) dX0_refusalOfTag_20 fr_0_21 fld_44_3 ?_
      refine es_iload_n (pc := 23) dX0_refusalOfTag_23 rfl ?_
      refine es_iald (pc := 24) dX0_refusalOfTag_24 lay_48 (by omega) ?_
      refine es_top (hpa) ?_
      refine es_aload_n (pc := 25) dX0_refusalOfTag_25 rfl ?_
      refine es_getR (pc := 26) dX0_refusalOfTag_26 fr_0_21 fld_44_3 ?_
      refine es_iload_n (pc := 29) dX0_refusalOfTag_29 rfl ?_
      refine es_iald (pc := 30) dX0_refusalOfTag_30 lay_48 (by omega) ?_
      refine es_top (hqb) ?_
      refine es_cv2_p (pc := 31) dX0_refusalOfTag_31 mr_0_82 rfl rfl (by decide) (by decide) rfl (Nat.le_of_ble_eq_true rfl) (Nat.zero_le _) (X0_sees_ok) ?_
      refine es_if_neB (pc := 34) 39 dX0_refusalOfTag_34 (by decide) (fun c34 => ?_) (fun c34 => ?_)
      · refine es_aload_n (pc := 39) dX0_refusalOfTag_39 rfl ?_
        refine es_getR (pc := 40) dX0_refusalOfTag_40 fr_0_21 fld_44_3 ?_
        refine es_iload_n (pc := 43) dX0_refusalOfTag_43 rfl ?_
        refine es_iald (pc := 44) dX0_refusalOfTag_44 lay_48 (by omega) ?_
        refine es_top (hpa) ?_
        refine es_aload_n (pc := 45) dX0_refusalOfTag_45 rfl ?_
        refine es_getR (pc := 46) dX0_refusalOfTag_46 fr_0_21 fld_44_3 ?_
        refine es_iload_n (pc := 49) dX0_refusalOfTag_49 rfl ?_
        refine es_iald (pc := 50) dX0_refusalOfTag_50 lay_48 (by omega) ?_
        refine es_top (hqb) ?_
        refine es_isub (pc := 51) dX0_refusalOfTag_51 ?_
        refine es_mabs (pc := 52) dX0_refusalOfTag_52 mr_0_95 (Nat.le_of_ble_eq_true rfl) ?_
        refine es_top (gm_absN (a := b) (b := a) (by omega) (by omega)) ?_
        refine es_aload_n (pc := 55) dX0_refusalOfTag_55 rfl ?_
        refine es_getR (pc := 56) dX0_refusalOfTag_56 fr_0_18 fld_44_2 ?_
        refine es_iconstN (pc := 59) 3 dX0_refusalOfTag_59 ic_3 ?_
        refine es_iald (pc := 60) dX0_refusalOfTag_60 lay_47 (by omega) ?_
        refine es_icmp_le (pc := 61) (tgt := 69) dX0_refusalOfTag_61 (by decide) (fun c61 => ?_) (fun c61 => ?_)
        · refine es_iconstN (pc := 69) 0 dX0_refusalOfTag_69 ic_0 ?_
          refine es_ireturn (pc := 70) dX0_refusalOfTag_70 rfl (vp_nar_int _) (by decide) ?_
          exact ⟨by subst c5; simp [gm_tagw, c12, c34, Int32.not_lt.mpr c61], rfl⟩
        · refine es_bipushN (pc := 64) 7 dX0_refusalOfTag_64 bp_7 ?_
          refine es_goto (pc := 66) (tgt := 70) dX0_refusalOfTag_66 (by decide) ?_
          refine es_ireturn (pc := 70) dX0_refusalOfTag_70 rfl (vp_nar_int _) (by decide) ?_
          exact ⟨by subst c5; simp [gm_tagw, c12, c34, Int32.not_le.mp c61], rfl⟩
      · refine es_iconstN (pc := 37) 2 dX0_refusalOfTag_37 ic_2 ?_
        refine es_ireturn (pc := 38) dX0_refusalOfTag_38 rfl (vp_nar_int _) (by decide) ?_
        exact ⟨by subst c5; simp [gm_tagw, c12, c34], rfl⟩
    · refine es_bipushN (pc := 15) 6 dX0_refusalOfTag_15 bp_6 ?_
      refine es_ireturn (pc := 17) dX0_refusalOfTag_17 rfl (vp_nar_int _) (by decide) ?_
      exact ⟨by subst c5; simp [gm_tagw, c12], rfl⟩
  · refine es_iconstN (pc := 8) 5 dX0_refusalOfTag_8 ic_5 ?_
    refine es_ireturn (pc := 9) dX0_refusalOfTag_9 rfl (vp_nar_int _) (by decide) ?_
    exact ⟨by simp [gm_tagw, c5], rfl⟩
set_option maxHeartbeats 2000000 in
set_option maxRecDepth 20000 in
theorem X0_playersInReachOfIt_ok {d : Nat} {μ : ev_M} {P it : Nat} {pl : Nat → Nat} (hP : μ 44 10 = nI P) (hit : μ 44 12 = nI it) (hpl : ∀ p, p < 4 → μ 48 p = nI (pl p)) (hpb : ∀ p, pl p < 10) (hP4 : P ≤ 4 := by omega) (hi4 : it < 4 := by omega) (hd : 3 ≤ d := by omega) : ev_CALL d 7 [.ref 44] μ (some (.int (gm_mask (fun k => decide (gm_tagw (μ 45) (μ 47 3) it it k (pl it) (pl k) = 0)) P)), 0) μ := by
  obtain ⟨d, rfl⟩ : ∃ q, d = q + 1 := ⟨d - 1, by omega⟩
  refine SPp.of (Nat.le_of_ble_eq_true rfl) ?_
  show es (ev_CALL d) 0 cX0_playersInReachOfIt (some .int) 0 (0, fun _ => 0, []) (fun r μ2 => r = (some (.int (gm_mask (fun k => decide (gm_tagw (μ 45) (μ 47 3) it it k (pl it) (pl k) = 0)) P)), 0) ∧ μ2 = μ) 0 [.ref 44, .null, .null] [] μ 0
  have hl4 : ∀ (n9 : Nat) (m : Int32) (k : Nat), n9 = P - k → (k ≤ P) → (m = gm_mask (fun k => decide (gm_tagw (μ 45) (μ 47 3) it it k (pl it) (pl k) = 0)) k) → es (ev_CALL d) 0 cX0_playersInReachOfIt (some .int) 0 (0, fun _ => 0, []) (fun r μ2 => r = (some (.int (gm_mask (fun k => decide (gm_tagw (μ 45) (μ 47 3) it it k (pl it) (pl k) = 0)) P)), 0) ∧ μ2 = μ) 4 [.ref 44, .int m, .int (nI k)] [] μ 0 := by
    intro n9
    induction n9 using Nat.strongRecOn with
    | ind n9 ih =>
      intro m k hn9 hk hm
      subst hn9
      refine es_iload_n (pc := 4) dX0_playersInReachOfIt_4 rfl ?_
      refine es_aload_n (pc := 5) dX0_playersInReachOfIt_5 rfl ?_
      refine es_getI (pc := 6) dX0_playersInReachOfIt_6 fr_0_42 fld_44_10 ?_
      refine es_top hP ?_
      refine es_icmp_geN (pc := 9) 36 dX0_playersInReachOfIt_9 (by decide) (by omega) (by omega) (fun c9 => ?_) (fun c9 => ?_)
      · refine es_iload_n (pc := 36) dX0_playersInReachOfIt_36 rfl ?_
        refine es_ireturn (pc := 37) dX0_playersInReachOfIt_37 rfl (vp_nar_int _) (by decide) ?_
        exact ⟨by rw [hm, show k = P by omega], rfl⟩
      · refine es_aload_n (pc := 12) dX0_playersInReachOfIt_12 rfl ?_
        refine es_aload_n (pc := 13) dX0_playersInReachOfIt_13 rfl ?_
        refine es_getI (pc := 14) dX0_playersInReachOfIt_14 fr_0_49 fld_44_12 ?_
        refine es_top hit ?_
        refine es_iload_n (pc := 17) dX0_playersInReachOfIt_17 rfl ?_
        refine es_cv2_p (pc := 18) dX0_playersInReachOfIt_18 mr_0_104 rfl rfl (by decide) (by decide) rfl (Nat.le_of_ble_eq_true rfl) (Nat.zero_le _) (X0_refusalOfTag_ok hit (hpl _ (by omega)) (hpl _ (by omega)) (ha := hpb _) (hb := hpb _)) ?_
        refine es_if_ne (pc := 21) (tgt := 30) dX0_playersInReachOfIt_21 (by decide) (fun c21 => ?_) (fun c21 => ?_)
        · refine es_iincN (pc := 30) 1 dX0_playersInReachOfIt_30 ic_1 rfl (ok1_2 rfl) ?_
          refine es_goto (pc := 33) (tgt := 4) dX0_playersInReachOfIt_33 (by decide) ?_
          exact ih _ (by omega) _ (k + 1) rfl (by omega) (by rw [gm_mask, hm]; simp [c21])
        · refine es_iload_n (pc := 24) dX0_playersInReachOfIt_24 rfl ?_
          refine es_iconstN (pc := 25) 1 dX0_playersInReachOfIt_25 ic_1 ?_
          refine es_iload_n (pc := 26) dX0_playersInReachOfIt_26 rfl ?_
          refine es_ishl (pc := 27) dX0_playersInReachOfIt_27 ?_
          refine es_ior (pc := 28) dX0_playersInReachOfIt_28 ?_
          refine es_istore_n (pc := 29) dX0_playersInReachOfIt_29 (ok1_1 rfl) ?_
          refine es_iincN (pc := 30) 1 dX0_playersInReachOfIt_30 ic_1 rfl (ok1_2 rfl) ?_
          refine es_goto (pc := 33) (tgt := 4) dX0_playersInReachOfIt_33 (by decide) ?_
          exact ih _ (by omega) _ (k + 1) rfl (by omega) (by rw [gm_mask, hm]; simp [c21])
  refine es_iconstN (pc := 0) 0 dX0_playersInReachOfIt_0 ic_0 ?_
  refine es_istore_n (pc := 1) dX0_playersInReachOfIt_1 (ok1_1 rfl) ?_
  refine es_iconstN (pc := 2) 0 dX0_playersInReachOfIt_2 ic_0 ?_
  refine es_istore_n (pc := 3) dX0_playersInReachOfIt_3 (ok1_2 rfl) ?_
  exact hl4 _ _ 0 rfl (by omega) rfl
set_option maxHeartbeats 2000000 in
set_option maxRecDepth 20000 in
theorem X0_sandBelow_ok {d : Nat} {μ : ev_M} {P : Nat} (hP : μ 44 10 = nI P) (hP4 : P ≤ 4 := by omega) (hd : 1 ≤ d := by omega) : ev_CALL d 17 [.ref 44] μ (some (.int (gm_sum (μ 50) (nI 0) P)), 0) μ := by
  obtain ⟨d, rfl⟩ : ∃ q, d = q + 1 := ⟨d - 1, by omega⟩
  refine SPp.of (Nat.le_of_ble_eq_true rfl) ?_
  show es (ev_CALL d) 0 cX0_sandBelow (some .int) 0 (0, fun _ => 0, []) (fun r μ2 => r = (some (.int (gm_sum (μ 50) (nI 0) P)), 0) ∧ μ2 = μ) 0 [.ref 44, .null, .null] [] μ 0
  have hl4 : ∀ (n9 : Nat) (m : Int32) (k : Nat), n9 = P - k → (k ≤ P) → (m = gm_sum (μ 50) (nI 0) k) → es (ev_CALL d) 0 cX0_sandBelow (some .int) 0 (0, fun _ => 0, []) (fun r μ2 => r = (some (.int (gm_sum (μ 50) (nI 0) P)), 0) ∧ μ2 = μ) 4 [.ref 44, .int m, .int (nI k)] [] μ 0 := by
    intro n9
    induction n9 using Nat.strongRecOn with
    | ind n9 ih =>
      intro m k hn9 hk hm
      subst hn9
      refine es_iload_n (pc := 4) dX0_sandBelow_4 rfl ?_
      refine es_aload_n (pc := 5) dX0_sandBelow_5 rfl ?_
      refine es_getI (pc := 6) dX0_sandBelow_6 fr_0_42 fld_44_10 ?_
      refine es_top hP ?_
      refine es_icmp_geN (pc := 9) 27 dX0_sandBelow_9 (by decide) (by omega) (by omega) (fun c9 => ?_) (fun c9 => ?_)
      · refine es_iload_n (pc := 27) dX0_sandBelow_27 rfl ?_
        refine es_ireturn (pc := 28) dX0_sandBelow_28 rfl (vp_nar_int _) (by decide) ?_
        exact ⟨by rw [hm, show k = P by omega], rfl⟩
      · refine es_iload_n (pc := 12) dX0_sandBelow_12 rfl ?_
        refine es_aload_n (pc := 13) dX0_sandBelow_13 rfl ?_
        refine es_getR (pc := 14) dX0_sandBelow_14 fr_0_27 fld_44_5 ?_
        refine es_iload_n (pc := 17) dX0_sandBelow_17 rfl ?_
        refine es_iald (pc := 18) dX0_sandBelow_18 lay_50 (by omega) ?_
        refine es_iadd (pc := 19) dX0_sandBelow_19 ?_
        refine es_istore_n (pc := 20) dX0_sandBelow_20 (ok1_1 rfl) ?_
        refine es_iincN (pc := 21) 1 dX0_sandBelow_21 ic_1 rfl (ok1_2 rfl) ?_
        refine es_goto (pc := 24) (tgt := 4) dX0_sandBelow_24 (by decide) ?_
        exact ih _ (by omega) _ (k + 1) rfl (by omega) (by rw [gm_sum, hm])
  refine es_iconstN (pc := 0) 0 dX0_sandBelow_0 ic_0 ?_
  refine es_istore_n (pc := 1) dX0_sandBelow_1 (ok1_1 rfl) ?_
  refine es_iconstN (pc := 2) 0 dX0_sandBelow_2 ic_0 ?_
  refine es_istore_n (pc := 3) dX0_sandBelow_3 (ok1_2 rfl) ?_
  exact hl4 _ _ 0 rfl (by omega) rfl
set_option maxHeartbeats 2000000 in
set_option maxRecDepth 20000 in
theorem X0_sandInGlasses_ok {d : Nat} {μ : ev_M} {P : Nat} (hP : μ 44 10 = nI P) (hP4 : P ≤ 4 := by omega) (hd : 2 ≤ d := by omega) : ev_CALL d 16 [.ref 44] μ (some (.int (gm_sum (μ 49) (gm_sum (μ 50) (nI 0) P) P)), 0) μ := by
  obtain ⟨d, rfl⟩ : ∃ q, d = q + 1 := ⟨d - 1, by omega⟩
  refine SPp.of (Nat.le_of_ble_eq_true rfl) ?_
  show es (ev_CALL d) 0 cX0_sandInGlasses (some .int) 0 (0, fun _ => 0, []) (fun r μ2 => r = (some (.int (gm_sum (μ 49) (gm_sum (μ 50) (nI 0) P) P)), 0) ∧ μ2 = μ) 0 [.ref 44, .null, .null] [] μ 0
  have hl7 : ∀ (n9 : Nat) (m : Int32) (k : Nat), n9 = P - k → (k ≤ P) → (m = gm_sum (μ 49) (gm_sum (μ 50) (nI 0) P) k) → es (ev_CALL d) 0 cX0_sandInGlasses (some .int) 0 (0, fun _ => 0, []) (fun r μ2 => r = (some (.int (gm_sum (μ 49) (gm_sum (μ 50) (nI 0) P) P)), 0) ∧ μ2 = μ) 7 [.ref 44, .int m, .int (nI k)] [] μ 0 := by
    intro n9
    induction n9 using Nat.strongRecOn with
    | ind n9 ih =>
      intro m k hn9 hk hm
      subst hn9
      refine es_iload_n (pc := 7) dX0_sandInGlasses_7 rfl ?_
      refine es_aload_n (pc := 8) dX0_sandInGlasses_8 rfl ?_
      refine es_getI (pc := 9) dX0_sandInGlasses_9 fr_0_42 fld_44_10 ?_
      refine es_top hP ?_
      refine es_icmp_geN (pc := 12) 30 dX0_sandInGlasses_12 (by decide) (by omega) (by omega) (fun c12 => ?_) (fun c12 => ?_)
      · refine es_iload_n (pc := 30) dX0_sandInGlasses_30 rfl ?_
        refine es_ireturn (pc := 31) dX0_sandInGlasses_31 rfl (vp_nar_int _) (by decide) ?_
        exact ⟨by rw [hm, show k = P by omega], rfl⟩
      · refine es_iload_n (pc := 15) dX0_sandInGlasses_15 rfl ?_
        refine es_aload_n (pc := 16) dX0_sandInGlasses_16 rfl ?_
        refine es_getR (pc := 17) dX0_sandInGlasses_17 fr_0_24 fld_44_4 ?_
        refine es_iload_n (pc := 20) dX0_sandInGlasses_20 rfl ?_
        refine es_iald (pc := 21) dX0_sandInGlasses_21 lay_49 (by omega) ?_
        refine es_iadd (pc := 22) dX0_sandInGlasses_22 ?_
        refine es_istore_n (pc := 23) dX0_sandInGlasses_23 (ok1_1 rfl) ?_
        refine es_iincN (pc := 24) 1 dX0_sandInGlasses_24 ic_1 rfl (ok1_2 rfl) ?_
        refine es_goto (pc := 27) (tgt := 7) dX0_sandInGlasses_27 (by decide) ?_
        exact ih _ (by omega) _ (k + 1) rfl (by omega) (by rw [gm_sum, hm])
  refine es_aload_n (pc := 0) dX0_sandInGlasses_0 rfl ?_
  refine es_cv0_p (pc := 1) dX0_sandInGlasses_1 mr_0_118 rfl rfl (by decide) (by decide) rfl (Nat.le_of_ble_eq_true rfl) (Nat.zero_le _) (X0_sandBelow_ok hP) ?_
  refine es_istore_n (pc := 4) dX0_sandInGlasses_4 (ok1_1 rfl) ?_
  refine es_iconstN (pc := 5) 0 dX0_sandInGlasses_5 ic_0 ?_
  refine es_istore_n (pc := 6) dX0_sandInGlasses_6 (ok1_2 rfl) ?_
  exact hl7 _ _ 0 rfl (by omega) rfl
set_option maxHeartbeats 2000000 in
set_option maxRecDepth 20000 in
theorem X0_sandOnTowers_ok {d : Nat} {μ : ev_M}  (hd : 1 ≤ d := by omega) : ev_CALL d 20 [.ref 44] μ (some (.int (gm_sum (μ 46) (nI 0) 10)), 0) μ := by
  obtain ⟨d, rfl⟩ : ∃ q, d = q + 1 := ⟨d - 1, by omega⟩
  refine SPp.of (Nat.le_of_ble_eq_true rfl) ?_
  show es (ev_CALL d) 0 cX0_sandOnTowers (some .int) 0 (0, fun _ => 0, []) (fun r μ2 => r = (some (.int (gm_sum (μ 46) (nI 0) 10)), 0) ∧ μ2 = μ) 0 [.ref 44, .null, .null] [] μ 0
  have hl4 : ∀ (n9 : Nat) (m : Int32) (k : Nat), n9 = 10 - k → (k ≤ 10) → (m = gm_sum (μ 46) (nI 0) k) → es (ev_CALL d) 0 cX0_sandOnTowers (some .int) 0 (0, fun _ => 0, []) (fun r μ2 => r = (some (.int (gm_sum (μ 46) (nI 0) 10)), 0) ∧ μ2 = μ) 4 [.ref 44, .int m, .int (nI k)] [] μ 0 := by
    intro n9
    induction n9 using Nat.strongRecOn with
    | ind n9 ih =>
      intro m k hn9 hk hm
      subst hn9
      refine es_iload_n (pc := 4) dX0_sandOnTowers_4 rfl ?_
      refine es_bipushN (pc := 5) 10 dX0_sandOnTowers_5 bp_10 ?_
      refine es_icmp_geN (pc := 7) 25 dX0_sandOnTowers_7 (by decide) (by omega) (by omega) (fun c7 => ?_) (fun c7 => ?_)
      · refine es_iload_n (pc := 25) dX0_sandOnTowers_25 rfl ?_
        refine es_ireturn (pc := 26) dX0_sandOnTowers_26 rfl (vp_nar_int _) (by decide) ?_
        exact ⟨by rw [hm, show k = 10 by omega], rfl⟩
      · refine es_iload_n (pc := 10) dX0_sandOnTowers_10 rfl ?_
        refine es_aload_n (pc := 11) dX0_sandOnTowers_11 rfl ?_
        refine es_getR (pc := 12) dX0_sandOnTowers_12 fr_0_15 fld_44_1 ?_
        refine es_iload_n (pc := 15) dX0_sandOnTowers_15 rfl ?_
        refine es_iald (pc := 16) dX0_sandOnTowers_16 lay_46 (by omega) ?_
        refine es_iadd (pc := 17) dX0_sandOnTowers_17 ?_
        refine es_istore_n (pc := 18) dX0_sandOnTowers_18 (ok1_1 rfl) ?_
        refine es_iincN (pc := 19) 1 dX0_sandOnTowers_19 ic_1 rfl (ok1_2 rfl) ?_
        refine es_goto (pc := 22) (tgt := 4) dX0_sandOnTowers_22 (by decide) ?_
        exact ih _ (by omega) _ (k + 1) rfl (by omega) (by rw [gm_sum, hm])
  refine es_iconstN (pc := 0) 0 dX0_sandOnTowers_0 ic_0 ?_
  refine es_istore_n (pc := 1) dX0_sandOnTowers_1 (ok1_1 rfl) ?_
  refine es_iconstN (pc := 2) 0 dX0_sandOnTowers_2 ic_0 ?_
  refine es_istore_n (pc := 3) dX0_sandOnTowers_3 (ok1_2 rfl) ?_
  exact hl4 _ _ 0 rfl (by omega) rfl
set_option maxHeartbeats 2000000 in
set_option maxRecDepth 20000 in
theorem X0_shareOfSandBelow_ok {d : Nat} {μ : ev_M} {P : Nat} (hP : μ 44 10 = nI P) (hn : ¬ gm_sum (μ 49) (gm_sum (μ 50) (nI 0) P) P ≤ 0 → vf_n64 (FP.ddiv (FP.i2d (gm_sum (μ 50) (nI 0) P)) (FP.i2d (gm_sum (μ 49) (gm_sum (μ 50) (nI 0) P) P)))) (hP4 : P ≤ 4 := by omega) (hd : 3 ≤ d := by omega) : ev_CALL d 15 [.ref 44] μ (some (.double (gm_share (gm_sum (μ 50) (nI 0) P) (gm_sum (μ 49) (gm_sum (μ 50) (nI 0) P) P))), 0) μ := by
  obtain ⟨d, rfl⟩ : ∃ q, d = q + 1 := ⟨d - 1, by omega⟩
  refine SPp.of (Nat.le_of_ble_eq_true rfl) ?_
  show es (ev_CALL d) 0 cX0_shareOfSandBelow (some .double) 0 (0, fun _ => 0, []) (fun r μ2 => r = (some (.double (gm_share (gm_sum (μ 50) (nI 0) P) (gm_sum (μ 49) (gm_sum (μ 50) (nI 0) P) P))), 0) ∧ μ2 = μ) 0 [.ref 44, .null] [] μ 0
  refine es_aload_n (pc := 0) dX0_shareOfSandBelow_0 rfl ?_
  refine es_cv0_p (pc := 1) dX0_shareOfSandBelow_1 mr_0_121 rfl rfl (by decide) (by decide) rfl (Nat.le_of_ble_eq_true rfl) (Nat.zero_le _) (X0_sandInGlasses_ok hP) ?_
  refine es_istore_n (pc := 4) dX0_shareOfSandBelow_4 (ok1_1 rfl) ?_
  refine es_iload_n (pc := 5) dX0_shareOfSandBelow_5 rfl ?_
  refine es_if_gt (pc := 6) (tgt := 11) dX0_shareOfSandBelow_6 (by decide) (fun c6 => ?_) (fun c6 => ?_)
  · refine es_aload_n (pc := 11) dX0_shareOfSandBelow_11 rfl ?_
    refine es_cv0_p (pc := 12) dX0_shareOfSandBelow_12 mr_0_118 rfl rfl (by decide) (by decide) rfl (Nat.le_of_ble_eq_true rfl) (Nat.zero_le _) (X0_sandBelow_ok hP) ?_
    refine es_i2d (pc := 15) dX0_shareOfSandBelow_15 ?_
    refine es_iload_n (pc := 16) dX0_shareOfSandBelow_16 rfl ?_
    refine es_i2d (pc := 17) dX0_shareOfSandBelow_17 ?_
    refine es_ddiv (pc := 18) dX0_shareOfSandBelow_18 (hn (Int32.not_le.mpr c6)) ?_
    refine es_dreturn (pc := 19) dX0_shareOfSandBelow_19 rfl (by decide) ?_
    exact ⟨by rw [gm_share, if_neg (Int32.not_le.mpr c6)], rfl⟩
  · refine es_dconst0 (pc := 9) dX0_shareOfSandBelow_9 ?_
    refine es_dreturn (pc := 10) dX0_shareOfSandBelow_10 rfl (by decide) ?_
    exact ⟨by rw [gm_share, if_pos (Int32.not_lt.mp c6)], rfl⟩
set_option maxHeartbeats 2000000 in
set_option maxRecDepth 20000 in
theorem X0_endMove_ok {d : Nat} {μ : ev_M} {P on : Nat} (hP : μ 44 10 = nI P) (hon : μ 44 11 = nI on) (hP4 : P ≤ 4 := by omega) (ho4 : on < 4 := by omega) (hd : 1 ≤ d := by omega) : SPi (ev_CALL d) 55 [.ref 44] μ (fun x μ2 => x = gm_run (gR μ 44) on ∧ gR μ2 44 = gm_ends (gR μ 44) P on ∧ gm_Fr 44 μ μ2) := by
  obtain ⟨d, rfl⟩ : ∃ q, d = q + 1 := ⟨d - 1, by omega⟩
  refine SPi.of (Nat.le_of_ble_eq_true rfl) ?_
  show es (ev_CALL d) 0 cX0_endMove (some .int) 0 (0, fun _ => 0, []) (fun r μ2 => ∃ x9 : Int32, r = (some (.int x9), 0) ∧ (fun x μ2 => x = gm_run (gR μ 44) on ∧ gR μ2 44 = gm_ends (gR μ 44) P on ∧ gm_Fr 44 μ μ2) x9 μ2) 0 [.ref 44, .null] [] μ 0
  refine es_aload_n (pc := 0) dX0_endMove_0 rfl ?_
  refine es_getR (pc := 1) dX0_endMove_1 fr_0_18 fld_44_2 ?_
  refine es_iconstN (pc := 4) 0 dX0_endMove_4 ic_0 ?_
  refine es_iald (pc := 5) dX0_endMove_5 lay_47 (by omega) ?_
  refine es_aload_n (pc := 6) dX0_endMove_6 rfl ?_
  refine es_getR (pc := 7) dX0_endMove_7 fr_0_24 fld_44_4 ?_
  refine es_aload_n (pc := 10) dX0_endMove_10 rfl ?_
  refine es_getI (pc := 11) dX0_endMove_11 fr_0_46 fld_44_11 ?_
  refine es_top hon ?_
  refine es_iald (pc := 14) dX0_endMove_14 lay_49 (by omega) ?_
  refine es_mmin (pc := 15) dX0_endMove_15 mr_0_79 (Nat.le_of_ble_eq_true rfl) ?_
  refine es_istore_n (pc := 18) dX0_endMove_18 (ok1_1 rfl) ?_
  refine es_aload_n (pc := 19) dX0_endMove_19 rfl ?_
  refine es_getR (pc := 20) dX0_endMove_20 fr_0_24 fld_44_4 ?_
  refine es_aload_n (pc := 23) dX0_endMove_23 rfl ?_
  refine es_getI (pc := 24) dX0_endMove_24 fr_0_46 fld_44_11 ?_
  refine es_top hon ?_
  refine es_dup2 (pc := 27) dX0_endMove_27 rfl rfl ?_
  refine es_iald (pc := 28) dX0_endMove_28 lay_49 (by omega) ?_
  refine es_iload_n (pc := 29) dX0_endMove_29 rfl ?_
  refine es_isub (pc := 30) dX0_endMove_30 ?_
  refine es_iast (pc := 31) dX0_endMove_31 lay_49 (by omega) ?_
  refine es_aload_n (pc := 32) dX0_endMove_32 rfl ?_
  refine es_getR (pc := 33) dX0_endMove_33 fr_0_27 fld_44_5 ?_
  refine es_aload_n (pc := 36) dX0_endMove_36 rfl ?_
  refine es_getI (pc := 37) dX0_endMove_37 fr_0_46 fld_44_11 ?_
  refine es_top hon ?_
  refine es_dup2 (pc := 40) dX0_endMove_40 rfl rfl ?_
  refine es_iald (pc := 41) dX0_endMove_41 lay_50 (by omega) ?_
  refine es_iload_n (pc := 42) dX0_endMove_42 rfl ?_
  refine es_iadd (pc := 43) dX0_endMove_43 ?_
  refine es_iast (pc := 44) dX0_endMove_44 lay_50 (by omega) ?_
  refine es_aload_n (pc := 45) dX0_endMove_45 rfl ?_
  refine es_getR (pc := 46) dX0_endMove_46 fr_0_30 fld_44_6 ?_
  refine es_aload_n (pc := 49) dX0_endMove_49 rfl ?_
  refine es_getI (pc := 50) dX0_endMove_50 fr_0_46 fld_44_11 ?_
  refine es_top hon ?_
  refine es_dup2 (pc := 53) dX0_endMove_53 rfl rfl ?_
  refine es_iald (pc := 54) dX0_endMove_54 lay_51 (by omega) ?_
  refine es_iconstN (pc := 55) 1 dX0_endMove_55 ic_1 ?_
  refine es_iadd (pc := 56) dX0_endMove_56 ?_
  refine es_iast (pc := 57) dX0_endMove_57 lay_51 (by omega) ?_
  refine es_aload_n (pc := 58) dX0_endMove_58 rfl ?_
  refine es_dup (pc := 59) dX0_endMove_59 rfl ?_
  refine es_getI (pc := 60) dX0_endMove_60 fr_0_52 fld_44_13 ?_
  refine es_iconstN (pc := 63) 1 dX0_endMove_63 ic_1 ?_
  refine es_iadd (pc := 64) dX0_endMove_64 ?_
  refine es_putI (pc := 65) dX0_endMove_65 fr_0_52 fld_44_13 ?_
  refine es_aload_n (pc := 68) dX0_endMove_68 rfl ?_
  refine es_aload_n (pc := 69) dX0_endMove_69 rfl ?_
  refine es_getI (pc := 70) dX0_endMove_70 fr_0_46 fld_44_11 ?_
  refine es_top hon ?_
  refine es_iconstN (pc := 73) 1 dX0_endMove_73 ic_1 ?_
  refine es_iaddN (pc := 74) dX0_endMove_74 ?_
  refine es_aload_n (pc := 75) dX0_endMove_75 rfl ?_
  refine es_getI (pc := 76) dX0_endMove_76 fr_0_42 fld_44_10 ?_
  refine es_top hP ?_
  refine es_icmp_geN (pc := 79) 91 dX0_endMove_79 (by decide) (by omega) (by omega) (fun c79 => ?_) (fun c79 => ?_)
  · refine es_iconstN (pc := 91) 0 dX0_endMove_91 ic_0 ?_
    refine es_putI (pc := 92) dX0_endMove_92 fr_0_46 fld_44_11 ?_
    refine es_iload_n (pc := 95) dX0_endMove_95 rfl ?_
    refine es_ireturn (pc := 96) dX0_endMove_96 rfl (vp_nar_int _) (by decide) ?_
    refine ⟨_, rfl, ?_, ?_, ?_⟩
    · simp [gm_run, r44_above, r44_0, ho4]
    · rcases Nat.lt_or_ge (on + 1) P with h9 | h9
      · first | (exfalso; omega) | simp [gm_ends, gm_end, gm_run, ho4, h9, w44_players, w44_onMove, w44_it, w44_moves, w44_refused, w44_tags, w44_brought, r44_players, r44_onMove, r44_it, r44_moves, r44_refused, r44_tags, r44_brought, w44_place, w44_above, w44_below, w44_made, w44_tagged, w44_was, w44_paid, r44_place, r44_above, r44_below, r44_made, r44_tagged, r44_was, r44_paid, r44_0, r44_1, r44_2, r44_3, w44_l, r44_l, ms_full]
      · first | (exfalso; omega) | simp [gm_ends, gm_end, gm_run, ho4, Nat.not_lt.mpr h9, w44_players, w44_onMove, w44_it, w44_moves, w44_refused, w44_tags, w44_brought, r44_players, r44_onMove, r44_it, r44_moves, r44_refused, r44_tags, r44_brought, w44_place, w44_above, w44_below, w44_made, w44_tagged, w44_was, w44_paid, r44_place, r44_above, r44_below, r44_made, r44_tagged, r44_was, r44_paid, r44_0, r44_1, r44_2, r44_3, w44_l, r44_l, ms_full]
    · repeat (first | exact gm_Fr.rf | refine gm_Fr.ms ?_ (by decide))
  · refine es_aload_n (pc := 82) dX0_endMove_82 rfl ?_
    refine es_getI (pc := 83) dX0_endMove_83 fr_0_46 fld_44_11 ?_
    refine es_top hon ?_
    refine es_iconstN (pc := 86) 1 dX0_endMove_86 ic_1 ?_
    refine es_iaddN (pc := 87) dX0_endMove_87 ?_
    refine es_goto (pc := 88) (tgt := 92) dX0_endMove_88 (by decide) ?_
    refine es_putI (pc := 92) dX0_endMove_92 fr_0_46 fld_44_11 ?_
    refine es_iload_n (pc := 95) dX0_endMove_95 rfl ?_
    refine es_ireturn (pc := 96) dX0_endMove_96 rfl (vp_nar_int _) (by decide) ?_
    refine ⟨_, rfl, ?_, ?_, ?_⟩
    · simp [gm_run, r44_above, r44_0, ho4]
    · rcases Nat.lt_or_ge (on + 1) P with h9 | h9
      · first | (exfalso; omega) | simp [gm_ends, gm_end, gm_run, ho4, h9, w44_players, w44_onMove, w44_it, w44_moves, w44_refused, w44_tags, w44_brought, r44_players, r44_onMove, r44_it, r44_moves, r44_refused, r44_tags, r44_brought, w44_place, w44_above, w44_below, w44_made, w44_tagged, w44_was, w44_paid, r44_place, r44_above, r44_below, r44_made, r44_tagged, r44_was, r44_paid, r44_0, r44_1, r44_2, r44_3, w44_l, r44_l, ms_full]
      · first | (exfalso; omega) | simp [gm_ends, gm_end, gm_run, ho4, Nat.not_lt.mpr h9, w44_players, w44_onMove, w44_it, w44_moves, w44_refused, w44_tags, w44_brought, r44_players, r44_onMove, r44_it, r44_moves, r44_refused, r44_tags, r44_brought, w44_place, w44_above, w44_below, w44_made, w44_tagged, w44_was, w44_paid, r44_place, r44_above, r44_below, r44_made, r44_tagged, r44_was, r44_paid, r44_0, r44_1, r44_2, r44_3, w44_l, r44_l, ms_full]
    · repeat (first | exact gm_Fr.rf | refine gm_Fr.ms ?_ (by decide))
set_option maxHeartbeats 2000000 in
set_option maxRecDepth 20000 in
theorem X0_pay_ok {d : Nat} {μ : ev_M} {on a : Nat} {g : Int32} (hon : μ 44 11 = nI on) (hpl : μ 48 on = nI a) (ha : a < 10 := by omega) (ho4 : on < 4 := by omega) (hd : 1 ≤ d := by omega) : SPv (ev_CALL d) 60 [.ref 44, .int g] μ (fun μ2 => gR μ2 44 = gm_pay (gR μ 44) on a g ∧ gm_Fr 44 μ μ2) := by
  obtain ⟨d, rfl⟩ : ∃ q, d = q + 1 := ⟨d - 1, by omega⟩
  refine SPv.of (Nat.le_of_ble_eq_true rfl) ?_
  show es (ev_CALL d) 0 cX0_pay none 0 (0, fun _ => 0, []) (fun r μ2 => r = (none, 0) ∧ (fun μ2 => gR μ2 44 = gm_pay (gR μ 44) on a g ∧ gm_Fr 44 μ μ2) μ2) 0 [.ref 44, .int g] [] μ 0
  refine es_aload_n (pc := 0) dX0_pay_0 rfl ?_
  refine es_getR (pc := 1) dX0_pay_1 fr_0_27 fld_44_5 ?_
  refine es_aload_n (pc := 4) dX0_pay_4 rfl ?_
  refine es_getI (pc := 5) dX0_pay_5 fr_0_46 fld_44_11 ?_
  refine es_top hon ?_
  refine es_dup2 (pc := 8) dX0_pay_8 rfl rfl ?_
  refine es_iald (pc := 9) dX0_pay_9 lay_50 (by omega) ?_
  refine es_iload_n (pc := 10) dX0_pay_10 rfl ?_
  refine es_isub (pc := 11) dX0_pay_11 ?_
  refine es_iast (pc := 12) dX0_pay_12 lay_50 (by omega) ?_
  refine es_aload_n (pc := 13) dX0_pay_13 rfl ?_
  refine es_getR (pc := 14) dX0_pay_14 fr_0_39 fld_44_9 ?_
  refine es_aload_n (pc := 17) dX0_pay_17 rfl ?_
  refine es_getI (pc := 18) dX0_pay_18 fr_0_46 fld_44_11 ?_
  refine es_top hon ?_
  refine es_dup2 (pc := 21) dX0_pay_21 rfl rfl ?_
  refine es_iald (pc := 22) dX0_pay_22 lay_54 (by omega) ?_
  refine es_iload_n (pc := 23) dX0_pay_23 rfl ?_
  refine es_iadd (pc := 24) dX0_pay_24 ?_
  refine es_iast (pc := 25) dX0_pay_25 lay_54 (by omega) ?_
  refine es_aload_n (pc := 26) dX0_pay_26 rfl ?_
  refine es_getR (pc := 27) dX0_pay_27 fr_0_15 fld_44_1 ?_
  refine es_aload_n (pc := 30) dX0_pay_30 rfl ?_
  refine es_getR (pc := 31) dX0_pay_31 fr_0_21 fld_44_3 ?_
  refine es_aload_n (pc := 34) dX0_pay_34 rfl ?_
  refine es_getI (pc := 35) dX0_pay_35 fr_0_46 fld_44_11 ?_
  refine es_top hon ?_
  refine es_iald (pc := 38) dX0_pay_38 lay_48 (by omega) ?_
  refine es_top (hpl) ?_
  refine es_dup2 (pc := 39) dX0_pay_39 rfl rfl ?_
  refine es_iald (pc := 40) dX0_pay_40 lay_46 (by omega) ?_
  refine es_iload_n (pc := 41) dX0_pay_41 rfl ?_
  refine es_iadd (pc := 42) dX0_pay_42 ?_
  refine es_iast (pc := 43) dX0_pay_43 lay_46 (by omega) ?_
  refine es_vreturn (pc := 44) dX0_pay_44 rfl (by decide) ?_
  refine ⟨rfl, ?_, ?_⟩
  · simp [gm_pay, ho4, ha, w44_players, w44_onMove, w44_it, w44_moves, w44_refused, w44_tags, w44_brought, r44_players, r44_onMove, r44_it, r44_moves, r44_refused, r44_tags, r44_brought, w44_place, w44_above, w44_below, w44_made, w44_tagged, w44_was, w44_paid, r44_place, r44_above, r44_below, r44_made, r44_tagged, r44_was, r44_paid, r44_0, r44_1, r44_2, r44_3, w44_l, r44_l, ms_full]
  · repeat (first | exact gm_Fr.rf | refine gm_Fr.ms ?_ (by decide))
set_option maxHeartbeats 2000000 in
set_option maxRecDepth 20000 in
theorem X0_refuse_ok {d : Nat} {μ : ev_M} {x : Int32} (hd : 1 ≤ d := by omega) : SPi (ev_CALL d) 59 [.ref 44, .int x] μ (fun y μ2 => y = x ∧ gR μ2 44 = gm_ref (gR μ 44) ∧ gm_Fr 44 μ μ2) := by
  obtain ⟨d, rfl⟩ : ∃ q, d = q + 1 := ⟨d - 1, by omega⟩
  refine SPi.of (Nat.le_of_ble_eq_true rfl) ?_
  show es (ev_CALL d) 0 cX0_refuse (some .int) 0 (0, fun _ => 0, []) (fun r μ2 => ∃ x9 : Int32, r = (some (.int x9), 0) ∧ (fun y μ2 => y = x ∧ gR μ2 44 = gm_ref (gR μ 44) ∧ gm_Fr 44 μ μ2) x9 μ2) 0 [.ref 44, .int x] [] μ 0
  refine es_aload_n (pc := 0) dX0_refuse_0 rfl ?_
  refine es_dup (pc := 1) dX0_refuse_1 rfl ?_
  refine es_getI (pc := 2) dX0_refuse_2 fr_0_55 fld_44_14 ?_
  refine es_iconstN (pc := 5) 1 dX0_refuse_5 ic_1 ?_
  refine es_iadd (pc := 6) dX0_refuse_6 ?_
  refine es_putI (pc := 7) dX0_refuse_7 fr_0_55 fld_44_14 ?_
  refine es_iload_n (pc := 10) dX0_refuse_10 rfl ?_
  refine es_ireturn (pc := 11) dX0_refuse_11 rfl (vp_nar_int _) (by decide) ?_
  refine ⟨_, rfl, rfl, ?_, ?_⟩
  · simp [gm_ref, w44_players, w44_onMove, w44_it, w44_moves, w44_refused, w44_tags, w44_brought, r44_players, r44_onMove, r44_it, r44_moves, r44_refused, r44_tags, r44_brought, w44_place, w44_above, w44_below, w44_made, w44_tagged, w44_was, w44_paid, r44_place, r44_above, r44_below, r44_made, r44_tagged, r44_was, r44_paid, r44_0, r44_1, r44_2, r44_3, w44_l, r44_l, ms_full]
  · repeat (first | exact gm_Fr.rf | refine gm_Fr.ms ?_ (by decide))
set_option maxHeartbeats 2000000 in
set_option maxRecDepth 20000 in
theorem X0_addPlayer_ok {d : Nat} {μ : ev_M} {P t : Nat} {x : Int32} (hP : μ 44 10 = nI P) (hP4 : P < 4 := by omega) (hd : 1 ≤ d := by omega) : SPi (ev_CALL d) 48 [.ref 44, .int (nI t), .int x] μ (fun y μ2 => y = nI P ∧ gR μ2 44 = gm_add (gR μ 44) P t x ∧ gm_Fr 44 μ μ2) := by
  obtain ⟨d, rfl⟩ : ∃ q, d = q + 1 := ⟨d - 1, by omega⟩
  refine SPi.of (Nat.le_of_ble_eq_true rfl) ?_
  show es (ev_CALL d) 0 cX0_addPlayer (some .int) 0 (0, fun _ => 0, []) (fun r μ2 => ∃ x9 : Int32, r = (some (.int x9), 0) ∧ (fun y μ2 => y = nI P ∧ gR μ2 44 = gm_add (gR μ 44) P t x ∧ gm_Fr 44 μ μ2) x9 μ2) 0 [.ref 44, .int (nI t), .int x, .null] [] μ 0
  refine es_aload_n (pc := 0) dX0_addPlayer_0 rfl ?_
  refine es_getI (pc := 1) dX0_addPlayer_1 fr_0_42 fld_44_10 ?_
  refine es_top hP ?_
  refine es_istore_n (pc := 4) dX0_addPlayer_4 (ok1_3 rfl) ?_
  refine es_aload_n (pc := 5) dX0_addPlayer_5 rfl ?_
  refine es_getR (pc := 6) dX0_addPlayer_6 fr_0_21 fld_44_3 ?_
  refine es_iload_n (pc := 9) dX0_addPlayer_9 rfl ?_
  refine es_iload_n (pc := 10) dX0_addPlayer_10 rfl ?_
  refine es_iast (pc := 11) dX0_addPlayer_11 lay_48 (by omega) ?_
  refine es_aload_n (pc := 12) dX0_addPlayer_12 rfl ?_
  refine es_getR (pc := 13) dX0_addPlayer_13 fr_0_24 fld_44_4 ?_
  refine es_iload_n (pc := 16) dX0_addPlayer_16 rfl ?_
  refine es_iload_n (pc := 17) dX0_addPlayer_17 rfl ?_
  refine es_iast (pc := 18) dX0_addPlayer_18 lay_49 (by omega) ?_
  refine es_aload_n (pc := 19) dX0_addPlayer_19 rfl ?_
  refine es_dup (pc := 20) dX0_addPlayer_20 rfl ?_
  refine es_getI (pc := 21) dX0_addPlayer_21 fr_0_61 fld_44_16 ?_
  refine es_iload_n (pc := 24) dX0_addPlayer_24 rfl ?_
  refine es_iadd (pc := 25) dX0_addPlayer_25 ?_
  refine es_putI (pc := 26) dX0_addPlayer_26 fr_0_61 fld_44_16 ?_
  refine es_aload_n (pc := 29) dX0_addPlayer_29 rfl ?_
  refine es_dup (pc := 30) dX0_addPlayer_30 rfl ?_
  refine es_getI (pc := 31) dX0_addPlayer_31 fr_0_42 fld_44_10 ?_
  refine es_top hP ?_
  refine es_iconstN (pc := 34) 1 dX0_addPlayer_34 ic_1 ?_
  refine es_iaddN (pc := 35) dX0_addPlayer_35 ?_
  refine es_putI (pc := 36) dX0_addPlayer_36 fr_0_42 fld_44_10 ?_
  refine es_iload_n (pc := 39) dX0_addPlayer_39 rfl ?_
  refine es_ireturn (pc := 40) dX0_addPlayer_40 rfl (vp_nar_int _) (by decide) ?_
  refine ⟨_, rfl, rfl, ?_, ?_⟩
  · simp [gm_add, hP4, w44_players, w44_onMove, w44_it, w44_moves, w44_refused, w44_tags, w44_brought, r44_players, r44_onMove, r44_it, r44_moves, r44_refused, r44_tags, r44_brought, w44_place, w44_above, w44_below, w44_made, w44_tagged, w44_was, w44_paid, r44_place, r44_above, r44_below, r44_made, r44_tagged, r44_was, r44_paid, r44_0, r44_1, r44_2, r44_3, w44_l, r44_l, ms_full]
  · repeat (first | exact gm_Fr.rf | refine gm_Fr.ms ?_ (by decide))
