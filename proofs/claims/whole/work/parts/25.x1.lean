/-! the law's own game: its rows and its registers -/
def mR (μ : ev_M) : gm_R := fun j => if j < 59 then μ 15 j else 0
theorem mR_r {μ : ev_M} {j : Nat} (h : j < 59) : mR μ j = μ 15 j := if_pos h
theorem mR_w {μ : ev_M} {j : Nat} {x : Int32} (h : j < 59) : mR (ev_ms μ 15 j x) = upd (mR μ) j x := by
  funext k
  unfold mR upd
  by_cases e : k = j
  · subst e; rw [if_pos h, if_pos rfl, ms_at, if_pos rfl]
  · rw [if_neg e, ms_at, if_neg e]
theorem mR_n {μ : ev_M} {k j : Nat} {x : Int32} (h : k ≠ 15) : mR (ev_ms μ k j x) = mR μ := by
  funext q
  unfold mR
  rw [ms_ne (Ne.symm h)]
theorem mR_cong {μ μ2 : ev_M} (h : μ2 15 = μ 15) : mR μ2 = mR μ := by unfold mR; rw [h]
theorem mH {μ : ev_M} : ∀ k, k < 10 → μ 15 (11 + k) = rH (mR μ) k := fun k hk => (mR_r (by omega)).symm
theorem gm_is_m2 {x : Int32} {n : Nat} (hn : n ≤ 400) : (decide (nI 0 ≤ x) && decide (x ≤ nI n - nI 1)) = gm_is x n := by
  rcases Nat.eq_zero_or_pos n with e | e
  · subst e
    unfold gm_is
    have q1 : nI 0 ≤ x ↔ (0 : Int) ≤ x.toInt := by rw [Int32.le_iff_toInt_le, nI_toInt (by omega)]; rfl
    have q2 : x ≤ nI 0 - nI 1 ↔ x.toInt ≤ -1 := by rw [Int32.le_iff_toInt_le, show (nI 0 - nI 1).toInt = -1 by decide]
    rw [Bool.eq_iff_iff]
    simp [q1, q2]
    omega
  · rw [pk_sub (by omega)]
    exact gm_is_m hn e
theorem gm_mx_le {x y : Int32} (h : x ≤ y) : y = gm_mx x y := by
  unfold gm_mx
  split
  · rfl
  · rename_i q
    exact Int32.le_antisymm (Int32.not_lt.mp q) h
theorem gm_mx_gt {x y : Int32} (h : ¬ x ≤ y) : x = gm_mx x y := by
  unfold gm_mx
  rw [if_neg (Int32.not_lt.mpr (Int32.le_of_lt (Int32.not_le.mp h)))]
theorem ds_comm {a b : Nat} : (if a < b then b - a else a - b) = (if b < a then a - b else b - a) := by split <;> split <;> omega
theorem sz_n {a b : Nat} (ha : a < 2 ^ 30) (hb : b < 2 ^ 30) : (if 0 ≤ nI a - nI b then nI a - nI b else - (nI a - nI b)) = nI (if a < b then b - a else a - b) := by
  rw [ds_comm, ← gm_absN hb ha, Int32.zero_sub]
set_option maxHeartbeats 2000000 in
set_option maxRecDepth 20000 in
theorem X6_wrong_ok {d : Nat} {μ : ev_M} {k : Nat} (hd : 1 ≤ d := by omega) : SPi (ev_CALL d) 101 [.ref 14, .int (nI k)] μ (fun x μ2 => x = nI 0 ∧ μ2 = ev_ms μ 14 8 (nI k)) := by
  obtain ⟨d, rfl⟩ : ∃ q, d = q + 1 := ⟨d - 1, by omega⟩
  refine SPi.of (Nat.le_of_ble_eq_true rfl) ?_
  show es (ev_CALL d) 6 cX6_wrong (some .int) 0 (0, fun _ => 0, []) (fun r μ2 => ∃ x9 : Int32, r = (some (.int x9), 0) ∧ (fun x μ2 => x = nI 0 ∧ μ2 = ev_ms μ 14 8 (nI k)) x9 μ2) 0 [.ref 14, .int (nI k)] [] μ 0
  refine es_aload_n (pc := 0) dX6_wrong_0 rfl ?_
  refine es_iload_n (pc := 1) dX6_wrong_1 rfl ?_
  refine es_putI (pc := 2) dX6_wrong_2 fr_6_35 fld_14_8 ?_
  refine es_iconstN (pc := 5) 0 dX6_wrong_5 ic_0 ?_
  refine es_ireturn (pc := 6) dX6_wrong_6 rfl (vp_nar_int _) (by decide) ?_
  exact ⟨_, rfl, rfl, rfl⟩
set_option maxHeartbeats 2000000 in
set_option maxRecDepth 20000 in
theorem X6_in_ok {d : Nat} {μ : ev_M} {v lo hi : Int32} (hd : 1 ≤ d := by omega) : ev_CALL d 103 [.int v, .int lo, .int hi] μ (some (.int (bI (decide (lo ≤ v) && decide (v ≤ hi)))), 0) μ := by
  obtain ⟨d, rfl⟩ : ∃ q, d = q + 1 := ⟨d - 1, by omega⟩
  refine SPp.of (Nat.le_of_ble_eq_true rfl) ?_
  show es (ev_CALL d) 6 cX6_in (some .boolean) 0 (0, fun _ => 0, []) (fun r μ2 => r = (some (.int (bI (decide (lo ≤ v) && decide (v ≤ hi)))), 0) ∧ μ2 = μ) 0 [.int v, .int lo, .int hi] [] μ 0
  refine es_iload_n (pc := 0) dX6_in_0 rfl ?_
  refine es_iload_n (pc := 1) dX6_in_1 rfl ?_
  refine es_icmp_lt (pc := 2) (tgt := 14) dX6_in_2 (by decide) (fun c2 => ?_) (fun c2 => ?_)
  · refine es_iconstN (pc := 14) 0 dX6_in_14 ic_0 ?_
    refine es_ireturn (pc := 15) dX6_in_15 rfl (rfl) (by decide) ?_
    exact ⟨vI (by simp [Int32.not_le.mpr c2, bI, nI_0, nI_one]), rfl⟩
  · refine es_iload_n (pc := 5) dX6_in_5 rfl ?_
    refine es_iload_n (pc := 6) dX6_in_6 rfl ?_
    refine es_icmp_gt (pc := 7) (tgt := 14) dX6_in_7 (by decide) (fun c7 => ?_) (fun c7 => ?_)
    · refine es_iconstN (pc := 14) 0 dX6_in_14 ic_0 ?_
      refine es_ireturn (pc := 15) dX6_in_15 rfl (rfl) (by decide) ?_
      exact ⟨vI (by simp [Int32.not_le.mpr c7, bI, nI_0, nI_one]), rfl⟩
    · refine es_iconstN (pc := 10) 1 dX6_in_10 ic_1 ?_
      refine es_goto (pc := 11) (tgt := 15) dX6_in_11 (by decide) ?_
      refine es_ireturn (pc := 15) dX6_in_15 rfl (rfl) (by decide) ?_
      exact ⟨vI (by simp [Int32.not_lt.mp c2, Int32.not_lt.mp c7, bI, nI_0, nI_one]), rfl⟩
set_option maxHeartbeats 2000000 in
set_option maxRecDepth 20000 in
theorem X6_its_ok {d : Nat} {μ : ev_M} {p w : Nat} (hp : 31 + 7 * p + w < 59 := by omega) (hd : 1 ≤ d := by omega) : ev_CALL d 114 [.ref 14, .int (nI p), .int (nI w)] μ (some (.int (μ 15 (31 + 7 * p + w))), 0) μ := by
  obtain ⟨d, rfl⟩ : ∃ q, d = q + 1 := ⟨d - 1, by omega⟩
  refine SPp.of (Nat.le_of_ble_eq_true rfl) ?_
  show es (ev_CALL d) 6 cX6_its (some .int) 0 (0, fun _ => 0, []) (fun r μ2 => r = (some (.int (μ 15 (31 + 7 * p + w))), 0) ∧ μ2 = μ) 0 [.ref 14, .int (nI p), .int (nI w)] [] μ 0
  refine es_aload_n (pc := 0) dX6_its_0 rfl ?_
  refine es_getR (pc := 1) dX6_its_1 fr_6_7 fld_14_0 ?_
  refine es_bipushN (pc := 4) 31 dX6_its_4 bp_31 ?_
  refine es_bipushN (pc := 6) 7 dX6_its_6 bp_7 ?_
  refine es_iload_n (pc := 8) dX6_its_8 rfl ?_
  refine es_imulN (pc := 9) dX6_its_9 ?_
  refine es_iaddN (pc := 10) dX6_its_10 ?_
  refine es_iload_n (pc := 11) dX6_its_11 rfl ?_
  refine es_iaddN (pc := 12) dX6_its_12 ?_
  refine es_iald (pc := 13) dX6_its_13 lay_15 (by omega) ?_
  refine es_ireturn (pc := 14) dX6_its_14 rfl (vp_nar_int _) (by decide) ?_
  exact ⟨rfl, rfl⟩
set_option maxHeartbeats 2000000 in
set_option maxRecDepth 20000 in
theorem X6_more_ok {d : Nat} {μ : ev_M} {p w : Nat} {x : Int32} (hp : 31 + 7 * p + w < 59 := by omega) (hd : 1 ≤ d := by omega) : SPv (ev_CALL d) 118 [.ref 14, .int (nI p), .int (nI w), .int x] μ (fun μ2 => μ2 = ev_ms μ 15 (31 + 7 * p + w) (μ 15 (31 + 7 * p + w) + x)) := by
  obtain ⟨d, rfl⟩ : ∃ q, d = q + 1 := ⟨d - 1, by omega⟩
  refine SPv.of (Nat.le_of_ble_eq_true rfl) ?_
  show es (ev_CALL d) 6 cX6_more none 0 (0, fun _ => 0, []) (fun r μ2 => r = (none, 0) ∧ (fun μ2 => μ2 = ev_ms μ 15 (31 + 7 * p + w) (μ 15 (31 + 7 * p + w) + x)) μ2) 0 [.ref 14, .int (nI p), .int (nI w), .int x] [] μ 0
  refine es_aload_n (pc := 0) dX6_more_0 rfl ?_
  refine es_getR (pc := 1) dX6_more_1 fr_6_7 fld_14_0 ?_
  refine es_bipushN (pc := 4) 31 dX6_more_4 bp_31 ?_
  refine es_bipushN (pc := 6) 7 dX6_more_6 bp_7 ?_
  refine es_iload_n (pc := 8) dX6_more_8 rfl ?_
  refine es_imulN (pc := 9) dX6_more_9 ?_
  refine es_iaddN (pc := 10) dX6_more_10 ?_
  refine es_iload_n (pc := 11) dX6_more_11 rfl ?_
  refine es_iaddN (pc := 12) dX6_more_12 ?_
  refine es_dup2 (pc := 13) dX6_more_13 rfl rfl ?_
  refine es_iald (pc := 14) dX6_more_14 lay_15 (by omega) ?_
  refine es_iload_n (pc := 15) dX6_more_15 rfl ?_
  refine es_iadd (pc := 16) dX6_more_16 ?_
  refine es_iast (pc := 17) dX6_more_17 lay_15 (by omega) ?_
  refine es_vreturn (pc := 18) dX6_more_18 rfl (by decide) ?_
  exact ⟨rfl, rfl⟩
set_option maxHeartbeats 2000000 in
set_option maxRecDepth 20000 in
theorem X6_isPlayer_ok {d : Nat} {μ : ev_M} {x : Int32} {P : Nat} (hP : μ 15 4 = nI P) (hP4 : P ≤ 4 := by omega) (hd : 2 ≤ d := by omega) : ev_CALL d 131 [.ref 14, .int x] μ (some (.int (bI (gm_is x P))), 0) μ := by
  obtain ⟨d, rfl⟩ : ∃ q, d = q + 1 := ⟨d - 1, by omega⟩
  refine SPp.of (Nat.le_of_ble_eq_true rfl) ?_
  show es (ev_CALL d) 6 cX6_isPlayer (some .boolean) 0 (0, fun _ => 0, []) (fun r μ2 => r = (some (.int (bI (gm_is x P))), 0) ∧ μ2 = μ) 0 [.ref 14, .int x] [] μ 0
  refine es_iload_n (pc := 0) dX6_isPlayer_0 rfl ?_
  refine es_iconstN (pc := 1) 0 dX6_isPlayer_1 ic_0 ?_
  refine es_aload_n (pc := 2) dX6_isPlayer_2 rfl ?_
  refine es_getR (pc := 3) dX6_isPlayer_3 fr_6_7 fld_14_0 ?_
  refine es_iconstN (pc := 6) 4 dX6_isPlayer_6 ic_4 ?_
  refine es_iald (pc := 7) dX6_isPlayer_7 lay_15 (by omega) ?_
  refine es_top (hP) ?_
  refine es_iconstN (pc := 8) 1 dX6_isPlayer_8 ic_1 ?_
  refine es_isub (pc := 9) dX6_isPlayer_9 ?_
  refine es_cs3_p (pc := 10) dX6_isPlayer_10 mr_6_39 rfl rfl rfl (Nat.le_of_ble_eq_true rfl) (Nat.zero_le _) (X6_in_ok) ?_
  refine es_ireturn (pc := 13) dX6_isPlayer_13 rfl (es_bret) (by decide) ?_
  exact ⟨vI (by rw [gm_is_m2 (by omega)]), rfl⟩
set_option maxHeartbeats 2000000 in
set_option maxRecDepth 20000 in
theorem X6_remember_ok {d : Nat} {μ : ev_M}  (hd : 1 ≤ d := by omega) : SPv (ev_CALL d) 105 [.ref 14] μ (fun μ2 => (∀ j, j < 59 → μ2 17 j = μ 15 j) ∧ ∀ q, q ≠ 17 → μ2 q = μ q) := by
  obtain ⟨d, rfl⟩ : ∃ q, d = q + 1 := ⟨d - 1, by omega⟩
  refine SPv.of (Nat.le_of_ble_eq_true rfl) ?_
  show es (ev_CALL d) 6 cX6_remember none 0 (0, fun _ => 0, []) (fun r μ2 => r = (none, 0) ∧ (fun μ2 => (∀ j, j < 59 → μ2 17 j = μ 15 j) ∧ ∀ q, q ≠ 17 → μ2 q = μ q) μ2) 0 [.ref 14, .null] [] μ 0
  have hl2 : ∀ (n9 : Nat) (ν : ev_M) (k : Nat), n9 = 59 - k → (k ≤ 59) → (∀ j, j < k → ν 17 j = μ 15 j) → (∀ q, q ≠ 17 → ν q = μ q) → es (ev_CALL d) 6 cX6_remember none 0 (0, fun _ => 0, []) (fun r μ2 => r = (none, 0) ∧ (fun μ2 => (∀ j, j < 59 → μ2 17 j = μ 15 j) ∧ ∀ q, q ≠ 17 → μ2 q = μ q) μ2) 2 [.ref 14, .int (nI k)] [] ν 0 := by
    intro n9
    induction n9 using Nat.strongRecOn with
    | ind n9 ih2 =>
      intro ν k hn9 hk h1 h2
      subst hn9
      have ih := ih2
      refine es_iload_n (pc := 2) dX6_remember_2 rfl ?_
      refine es_bipushN (pc := 3) 59 dX6_remember_3 bp_59 ?_
      refine es_icmp_geN (pc := 5) 26 dX6_remember_5 (by decide) (by omega) (by omega) (fun c5 => ?_) (fun c5 => ?_)
      · refine es_vreturn (pc := 26) dX6_remember_26 rfl (by decide) ?_
        exact ⟨rfl, fun j hj => h1 j (by omega), h2⟩
      · refine es_aload_n (pc := 8) dX6_remember_8 rfl ?_
        refine es_getR (pc := 9) dX6_remember_9 fr_6_16 fld_14_2 ?_
        refine es_iload_n (pc := 12) dX6_remember_12 rfl ?_
        refine es_aload_n (pc := 13) dX6_remember_13 rfl ?_
        refine es_getR (pc := 14) dX6_remember_14 fr_6_7 fld_14_0 ?_
        refine es_iload_n (pc := 17) dX6_remember_17 rfl ?_
        refine es_iald (pc := 18) dX6_remember_18 lay_15 (by omega) ?_
        refine es_iast (pc := 19) dX6_remember_19 lay_17 (by omega) ?_
        refine es_iincN (pc := 20) 1 dX6_remember_20 ic_1 rfl (ok1_1 rfl) ?_
        refine es_goto (pc := 23) (tgt := 2) dX6_remember_23 (by decide) ?_
        refine ih2 _ (by omega) _ (k + 1) rfl (by omega) (fun j hj => ?_) (fun q hq => by rw [ms_ne hq, h2 q hq])
        rw [ms_at]
        by_cases e : j = k
        · rw [if_pos e, e, h2 15 (by decide)]
        · rw [if_neg e, h1 j (by omega)]
  refine es_iconstN (pc := 0) 0 dX6_remember_0 ic_0 ?_
  refine es_istore_n (pc := 1) dX6_remember_1 (ok1_1 rfl) ?_
  exact hl2 _ μ 0 rfl (by omega) (fun j hj => absurd hj (Nat.not_lt_zero j)) (fun _ _ => rfl)
set_option maxHeartbeats 2000000 in
set_option maxRecDepth 20000 in
theorem X6_record_ok {d : Nat} {μ : ev_M} {n : Nat} {x : Int32} (hn : μ 14 5 = nI n) (hn6 : n ≤ 6 := by omega) (hd : 1 ≤ d := by omega) : SPi (ev_CALL d) 106 [.ref 14, .int x] μ (fun y μ2 => y = x ∧ μ2 14 5 = nI (gm_n2 n + 1) ∧ (∀ i, i ≠ 5 → μ2 14 i = μ 14 i) ∧ (∀ i j, i < gm_n2 n → j < 59 → μ2 16 (59 * i + j) = μ 16 (59 * (if n = 6 then i + 1 else i) + j)) ∧ (∀ j, j < 59 → μ2 16 (59 * gm_n2 n + j) = μ 17 j) ∧ ∀ q, q ≠ 14 → q ≠ 16 → μ2 q = μ q) := by
  obtain ⟨d, rfl⟩ : ∃ q, d = q + 1 := ⟨d - 1, by omega⟩
  refine SPi.of (Nat.le_of_ble_eq_true rfl) ?_
  show es (ev_CALL d) 6 cX6_record (some .int) 0 (0, fun _ => 0, []) (fun r μ2 => ∃ x9 : Int32, r = (some (.int x9), 0) ∧ (fun y μ2 => y = x ∧ μ2 14 5 = nI (gm_n2 n + 1) ∧ (∀ i, i ≠ 5 → μ2 14 i = μ 14 i) ∧ (∀ i j, i < gm_n2 n → j < 59 → μ2 16 (59 * i + j) = μ 16 (59 * (if n = 6 then i + 1 else i) + j)) ∧ (∀ j, j < 59 → μ2 16 (59 * gm_n2 n + j) = μ 17 j) ∧ ∀ q, q ≠ 14 → q ≠ 16 → μ2 q = μ q) x9 μ2) 0 [.ref 14, .int x, .null] [] μ 0
  have hl51 : ∀ (n9 : Nat) (ρ ν : ev_M) (k : Nat) , n9 = 59 - k → (k ≤ 59) → (ν 14 5 = nI (gm_n2 n)) → (∀ i, i ≠ 5 → ν 14 i = μ 14 i) → (∀ i j, i < gm_n2 n → j < 59 → ν 16 (59 * i + j) = μ 16 (59 * (if n = 6 then i + 1 else i) + j)) → (∀ j, j < k → ν 16 (59 * gm_n2 n + j) = μ 17 j) → (∀ q, q ≠ 14 → q ≠ 16 → ν q = μ q) → es (ev_CALL d) 6 cX6_record (some .int) 0 (0, fun _ => 0, []) (fun r μ2 => ∃ x9 : Int32, r = (some (.int x9), 0) ∧ (fun y μ2 => y = x ∧ μ2 14 5 = nI (gm_n2 n + 1) ∧ (∀ i, i ≠ 5 → μ2 14 i = μ 14 i) ∧ (∀ i j, i < gm_n2 n → j < 59 → μ2 16 (59 * i + j) = μ 16 (59 * (if n = 6 then i + 1 else i) + j)) ∧ (∀ j, j < 59 → μ2 16 (59 * gm_n2 n + j) = μ 17 j) ∧ ∀ q, q ≠ 14 → q ≠ 16 → μ2 q = μ q) x9 μ2) 51 [.ref 14, .int x, .int (nI k)] [] ν 0 := by
    intro n9
    induction n9 using Nat.strongRecOn with
    | ind n9 ih51 =>
      intro ρ ν k hn9 hk h0 h00 h1 h2 h3
      subst hn9
      have ih := ih51
      have hn5 : gm_n2 n ≤ 5 := by unfold gm_n2; split <;> omega
      refine es_iload_n (pc := 51) dX6_record_51 rfl ?_
      refine es_bipushN (pc := 52) 59 dX6_record_52 bp_59 ?_
      refine es_icmp_geN (pc := 54) 83 dX6_record_54 (by decide) (by omega) (by omega) (fun c54 => ?_) (fun c54 => ?_)
      · refine es_aload_n (pc := 83) dX6_record_83 rfl ?_
        refine es_dup (pc := 84) dX6_record_84 rfl ?_
        refine es_getI (pc := 85) dX6_record_85 fr_6_43 fld_14_5 ?_
        refine es_top h0 ?_
        refine es_iconstN (pc := 88) 1 dX6_record_88 ic_1 ?_
        refine es_iaddN (pc := 89) dX6_record_89 ?_
        refine es_putI (pc := 90) dX6_record_90 fr_6_43 fld_14_5 ?_
        refine es_iload_n (pc := 93) dX6_record_93 rfl ?_
        refine es_ireturn (pc := 94) dX6_record_94 rfl (vp_nar_int _) (by decide) ?_
        refine ⟨_, rfl, rfl, ?_, fun i hi => ?_, fun i j hi hj => ?_, fun j hj => ?_, fun q h8 h9 => ?_⟩
        · rw [ms_at, if_pos rfl]
        · rw [ms_at, if_neg hi]; exact h00 i hi
        · rw [ms_ne (by decide)]; exact h1 i j hi hj
        · rw [ms_ne (by decide)]; exact h2 j (by omega)
        · rw [ms_ne h8]; exact h3 q h8 h9
      · refine es_aload_n (pc := 57) dX6_record_57 rfl ?_
        refine es_getR (pc := 58) dX6_record_58 fr_6_13 fld_14_1 ?_
        refine es_bipushN (pc := 61) 59 dX6_record_61 bp_59 ?_
        refine es_aload_n (pc := 63) dX6_record_63 rfl ?_
        refine es_getI (pc := 64) dX6_record_64 fr_6_43 fld_14_5 ?_
        refine es_top h0 ?_
        refine es_imulN (pc := 67) dX6_record_67 ?_
        refine es_iload_n (pc := 68) dX6_record_68 rfl ?_
        refine es_iaddN (pc := 69) dX6_record_69 ?_
        refine es_aload_n (pc := 70) dX6_record_70 rfl ?_
        refine es_getR (pc := 71) dX6_record_71 fr_6_16 fld_14_2 ?_
        refine es_iload_n (pc := 74) dX6_record_74 rfl ?_
        refine es_iald (pc := 75) dX6_record_75 lay_17 (by omega) ?_
        refine es_iast (pc := 76) dX6_record_76 lay_16 (by omega) ?_
        refine es_iincN (pc := 77) 1 dX6_record_77 ic_1 rfl (ok1_2 rfl) ?_
        refine es_goto (pc := 80) (tgt := 51) dX6_record_80 (by decide) ?_
        refine ih51 _ (by omega) ρ _ (k + 1) rfl (by omega) (by rw [ms_ne (by decide)]; exact h0) (fun i hi => by rw [ms_ne (by decide)]; exact h00 i hi) (fun i j hi hj => ?_) (fun j hj => ?_) (fun q h8 h9 => by rw [ms_ne h9, h3 q h8 h9])
        · rw [ms_at, if_neg (by omega)]; exact h1 i j hi hj
        · rw [ms_at]
          by_cases e : j = k
          · rw [if_pos (by omega), e, h3 17 (by decide) (by decide)]
          · rw [if_neg (by omega)]; exact h2 j (by omega)
  refine es_aload_n (pc := 0) dX6_record_0 rfl ?_
  refine es_getI (pc := 1) dX6_record_1 fr_6_43 fld_14_5 ?_
  refine es_top hn ?_
  refine es_bipushN (pc := 4) 6 dX6_record_4 bp_6 ?_
  refine es_icmp_neN (pc := 6) 49 dX6_record_6 (by decide) (by omega) (by omega) (fun c6 => ?_) (fun c6 => ?_)
  · refine es_iconstN (pc := 49) 0 dX6_record_49 ic_0 ?_
    refine es_istore_n (pc := 50) dX6_record_50 (ok1_2 rfl) ?_
    exact hl51 _ μ _ 0 rfl (by omega) (by rw [gm_n2, if_neg (by omega)]; exact hn) (fun i hi => rfl) (fun i j hi hj => by rw [if_neg (by omega)]) (fun j hj => absurd hj (Nat.not_lt_zero j)) (fun q h8 h9 => rfl)
  · have hl11 : ∀ (n9 : Nat) (ν : ev_M) (k : Nat), n9 = 295 - k → (k ≤ 295) → (∀ j, j < k → ν 16 j = μ 16 (59 + j)) → (∀ j, k ≤ j → ν 16 j = μ 16 j) → (∀ q, q ≠ 16 → ν q = μ q) → es (ev_CALL d) 6 cX6_record (some .int) 0 (0, fun _ => 0, []) (fun r μ2 => ∃ x9 : Int32, r = (some (.int x9), 0) ∧ (fun y μ2 => y = x ∧ μ2 14 5 = nI (gm_n2 n + 1) ∧ (∀ i, i ≠ 5 → μ2 14 i = μ 14 i) ∧ (∀ i j, i < gm_n2 n → j < 59 → μ2 16 (59 * i + j) = μ 16 (59 * (if n = 6 then i + 1 else i) + j)) ∧ (∀ j, j < 59 → μ2 16 (59 * gm_n2 n + j) = μ 17 j) ∧ ∀ q, q ≠ 14 → q ≠ 16 → μ2 q = μ q) x9 μ2) 11 [.ref 14, .int x, .int (nI k)] [] ν 0 := by
      intro n9
      induction n9 using Nat.strongRecOn with
      | ind n9 ih11 =>
        intro ν k hn9 hk g1 g2 g3
        subst hn9
        have ih := ih11
        have hn14 : ν 14 5 = nI n := by rw [g3 14 (by decide)]; exact hn
        refine es_iload_n (pc := 11) dX6_record_11 rfl ?_
        refine es_sipushN (pc := 12) 295 dX6_record_12 sp_295 ?_
        refine es_icmp_geN (pc := 15) 39 dX6_record_15 (by decide) (by omega) (by omega) (fun c15 => ?_) (fun c15 => ?_)
        · refine es_aload_n (pc := 39) dX6_record_39 rfl ?_
          refine es_dup (pc := 40) dX6_record_40 rfl ?_
          refine es_getI (pc := 41) dX6_record_41 fr_6_43 fld_14_5 ?_
          refine es_top hn14 ?_
          refine es_iconstN (pc := 44) 1 dX6_record_44 ic_1 ?_
          refine es_isubN (pc := 45) dX6_record_45 (by omega) ?_
          refine es_putI (pc := 46) dX6_record_46 fr_6_43 fld_14_5 ?_
          refine es_iconstN (pc := 49) 0 dX6_record_49 ic_0 ?_
          refine es_istore_n (pc := 50) dX6_record_50 (ok1_2 rfl) ?_
          exact hl51 _ μ _ 0 rfl (by omega) (by rw [ms_at, if_pos rfl, gm_n2, if_pos (by omega), show n - 1 = 5 by omega]) (fun i hi => by rw [ms_at, if_neg hi, g3 14 (by decide)]) (fun i j hi hj => by rw [ms_ne (by decide), if_pos (by omega), g1 _ (by unfold gm_n2 at hi; split at hi <;> omega)]; congr 1; omega) (fun j hj => absurd hj (Nat.not_lt_zero j)) (fun q h8 h9 => by rw [ms_ne h8, g3 q h9])
        · refine es_aload_n (pc := 18) dX6_record_18 rfl ?_
          refine es_getR (pc := 19) dX6_record_19 fr_6_13 fld_14_1 ?_
          refine es_iload_n (pc := 22) dX6_record_22 rfl ?_
          refine es_aload_n (pc := 23) dX6_record_23 rfl ?_
          refine es_getR (pc := 24) dX6_record_24 fr_6_13 fld_14_1 ?_
          refine es_bipushN (pc := 27) 59 dX6_record_27 bp_59 ?_
          refine es_iload_n (pc := 29) dX6_record_29 rfl ?_
          refine es_iaddN (pc := 30) dX6_record_30 ?_
          refine es_iald (pc := 31) dX6_record_31 lay_16 (by omega) ?_
          refine es_iast (pc := 32) dX6_record_32 lay_16 (by omega) ?_
          refine es_iincN (pc := 33) 1 dX6_record_33 ic_1 rfl (ok1_2 rfl) ?_
          refine es_goto (pc := 36) (tgt := 11) dX6_record_36 (by decide) ?_
          refine ih11 _ (by omega) _ (k + 1) rfl (by omega) (fun j hj => ?_) (fun j hj => ?_) (fun q hq => by rw [ms_ne hq, g3 q hq])
          · rw [ms_at]
            by_cases e : j = k
            · rw [if_pos e, g2 _ (by omega), e]
            · rw [if_neg e]; exact g1 j (by omega)
          · rw [ms_at, if_neg (by omega)]; exact g2 j (by omega)
    refine es_iconstN (pc := 9) 0 dX6_record_9 ic_0 ?_
    refine es_istore_n (pc := 10) dX6_record_10 (ok1_2 rfl) ?_
    exact hl11 _ μ 0 rfl (by omega) (fun j hj => absurd hj (Nat.not_lt_zero j)) (fun j hj => rfl) (fun q hq => rfl)
set_option maxHeartbeats 2000000 in
set_option maxRecDepth 20000 in
theorem X6_size_ok {d : Nat} {μ : ev_M} {x : Int32} (hd : 1 ≤ d := by omega) : ev_CALL d 124 [.int x] μ (some (.int (if 0 ≤ x then x else -x)), 0) μ := by
  obtain ⟨d, rfl⟩ : ∃ q, d = q + 1 := ⟨d - 1, by omega⟩
  refine SPp.of (Nat.le_of_ble_eq_true rfl) ?_
  show es (ev_CALL d) 6 cX6_size (some .int) 0 (0, fun _ => 0, []) (fun r μ2 => r = (some (.int (if 0 ≤ x then x else -x)), 0) ∧ μ2 = μ) 0 [.int x] [] μ 0
  refine es_iload_n (pc := 0) dX6_size_0 rfl ?_
  refine es_if_ge (pc := 1) (tgt := 9) dX6_size_1 (by decide) (fun c1 => ?_) (fun c1 => ?_)
  · refine es_iload_n (pc := 9) dX6_size_9 rfl ?_
    refine es_ireturn (pc := 10) dX6_size_10 rfl (vp_nar_int _) (by decide) ?_
    exact ⟨vI (by rw [if_pos c1]), rfl⟩
  · refine es_iload_n (pc := 4) dX6_size_4 rfl ?_
    refine es_ineg (pc := 5) dX6_size_5 ?_
    refine es_goto (pc := 6) (tgt := 10) dX6_size_6 (by decide) ?_
    refine es_ireturn (pc := 10) dX6_size_10 rfl (vp_nar_int _) (by decide) ?_
    exact ⟨vI (by rw [if_neg c1]), rfl⟩
set_option maxHeartbeats 2000000 in
set_option maxRecDepth 20000 in
theorem X6_sees_ok {d : Nat} {μ : ev_M} {a b : Nat} (ha : a < 10 := by omega) (hb : b < 10 := by omega) (hd : 1 ≤ d := by omega) : ev_CALL d 122 [.ref 14, .int (nI a), .int (nI b)] μ (some (.int (bI (gm_sees (fun k => μ 15 (11 + k)) a b))), 0) μ := by
  obtain ⟨d, rfl⟩ : ∃ q, d = q + 1 := ⟨d - 1, by omega⟩
  refine SPp.of (Nat.le_of_ble_eq_true rfl) ?_
  show es (ev_CALL d) 6 cX6_sees (some .boolean) 0 (0, fun _ => 0, []) (fun r μ2 => r = (some (.int (bI (gm_sees (fun k => μ 15 (11 + k)) a b))), 0) ∧ μ2 = μ) 0 [.ref 14, .int (nI a), .int (nI b), .null, .null, .null, .null] [] μ 0
  have hl73 : ∀ (n9 : Nat) (k : Nat), n9 = max a b - k → (k ≤ 20) → (gm_sees (fun k => μ 15 (11 + k)) a b = gm_clr (fun k => μ 15 (11 + k)) (gm_mx (μ 15 (11 + a)) (μ 15 (11 + b))) k (max a b - k)) → es (ev_CALL d) 6 cX6_sees (some .boolean) 0 (0, fun _ => 0, []) (fun r μ2 => r = (some (.int (bI (gm_sees (fun k => μ 15 (11 + k)) a b))), 0) ∧ μ2 = μ) 73 [.ref 14, .int (nI a), .int (nI b), .int (gm_mx (μ 15 (11 + a)) (μ 15 (11 + b))), .int (nI (min a b)), .int (nI (max a b)), .int (nI k)] [] μ 0 := by
    intro n9
    induction n9 using Nat.strongRecOn with
    | ind n9 ih73 =>
      intro k hn9 hk hi
      subst hn9
      have ih := ih73
      refine es_iload (pc := 73) dX6_sees_73 rfl ?_
      refine es_iload (pc := 75) dX6_sees_75 rfl ?_
      refine es_icmp_geN (pc := 77) 102 dX6_sees_77 (by decide) (by omega) (by omega) (fun c77 => ?_) (fun c77 => ?_)
      · refine es_iconstN (pc := 102) 1 dX6_sees_102 ic_1 ?_
        refine es_ireturn (pc := 103) dX6_sees_103 rfl (rfl) (by decide) ?_
        exact ⟨by rw [hi, show max a b - k = 0 by omega]; rfl, rfl⟩
      · refine es_aload_n (pc := 80) dX6_sees_80 rfl ?_
        refine es_getR (pc := 81) dX6_sees_81 fr_6_7 fld_14_0 ?_
        refine es_bipushN (pc := 84) 11 dX6_sees_84 bp_11 ?_
        refine es_iload (pc := 86) dX6_sees_86 rfl ?_
        refine es_iaddN (pc := 88) dX6_sees_88 ?_
        refine es_iald (pc := 89) dX6_sees_89 lay_15 (by omega) ?_
        refine es_iload_n (pc := 90) dX6_sees_90 rfl ?_
        refine es_icmp_le (pc := 91) (tgt := 96) dX6_sees_91 (by decide) (fun c91 => ?_) (fun c91 => ?_)
        · refine es_iincN (pc := 96) 1 dX6_sees_96 ic_1 rfl (ok1_6 rfl) ?_
          refine es_goto (pc := 99) (tgt := 73) dX6_sees_99 (by decide) ?_
          exact ih73 _ (by omega) (k + 1) rfl (by omega) (by rw [hi, show max a b - k = (max a b - (k + 1)) + 1 by omega, gm_clr, if_neg (Int32.not_lt.mpr c91)])
        · refine es_iconstN (pc := 94) 0 dX6_sees_94 ic_0 ?_
          refine es_ireturn (pc := 95) dX6_sees_95 rfl (rfl) (by decide) ?_
          exact ⟨by rw [hi, show max a b - k = (max a b - (k + 1)) + 1 by omega, gm_clr, if_pos (Int32.not_le.mp c91)]; rfl, rfl⟩
  refine es_aload_n (pc := 0) dX6_sees_0 rfl ?_
  refine es_getR (pc := 1) dX6_sees_1 fr_6_7 fld_14_0 ?_
  refine es_bipushN (pc := 4) 11 dX6_sees_4 bp_11 ?_
  refine es_iload_n (pc := 6) dX6_sees_6 rfl ?_
  refine es_iaddN (pc := 7) dX6_sees_7 ?_
  refine es_iald (pc := 8) dX6_sees_8 lay_15 (by omega) ?_
  refine es_aload_n (pc := 9) dX6_sees_9 rfl ?_
  refine es_getR (pc := 10) dX6_sees_10 fr_6_7 fld_14_0 ?_
  refine es_bipushN (pc := 13) 11 dX6_sees_13 bp_11 ?_
  refine es_iload_n (pc := 15) dX6_sees_15 rfl ?_
  refine es_iaddN (pc := 16) dX6_sees_16 ?_
  refine es_iald (pc := 17) dX6_sees_17 lay_15 (by omega) ?_
  refine es_icmp_le (pc := 18) (tgt := 33) dX6_sees_18 (by decide) (fun c18 => ?_) (fun c18 => ?_)
  · refine es_aload_n (pc := 33) dX6_sees_33 rfl ?_
    refine es_getR (pc := 34) dX6_sees_34 fr_6_7 fld_14_0 ?_
    refine es_bipushN (pc := 37) 11 dX6_sees_37 bp_11 ?_
    refine es_iload_n (pc := 39) dX6_sees_39 rfl ?_
    refine es_iaddN (pc := 40) dX6_sees_40 ?_
    refine es_iald (pc := 41) dX6_sees_41 lay_15 (by omega) ?_
    refine es_top (gm_mx_le c18) ?_
    refine es_istore_n (pc := 42) dX6_sees_42 (ok1_3 rfl) ?_
    refine es_iload_n (pc := 43) dX6_sees_43 rfl ?_
    refine es_iload_n (pc := 44) dX6_sees_44 rfl ?_
    refine es_icmp_geN (pc := 45) 52 dX6_sees_45 (by decide) (by omega) (by omega) (fun c45 => ?_) (fun c45 => ?_)
    · refine es_iload_n (pc := 52) dX6_sees_52 rfl ?_
      refine es_top (show _ = nI (min a b) by rw [Nat.min_eq_right (by omega)]) ?_
      refine es_istore (pc := 53) dX6_sees_53 (ok1_4 rfl) ?_
      refine es_iload_n (pc := 55) dX6_sees_55 rfl ?_
      refine es_iload_n (pc := 56) dX6_sees_56 rfl ?_
      refine es_icmp_geN (pc := 57) 64 dX6_sees_57 (by decide) (by omega) (by omega) (fun c57 => ?_) (fun c57 => ?_)
      · refine es_iload_n (pc := 64) dX6_sees_64 rfl ?_
        refine es_top (show _ = nI (max a b) by rw [Nat.max_eq_left (by omega)]) ?_
        refine es_istore (pc := 65) dX6_sees_65 (ok1_5 rfl) ?_
        refine es_iload (pc := 67) dX6_sees_67 rfl ?_
        refine es_iconstN (pc := 69) 1 dX6_sees_69 ic_1 ?_
        refine es_iaddN (pc := 70) dX6_sees_70 ?_
        refine es_istore (pc := 71) dX6_sees_71 (ok1_6 rfl) ?_
        exact hl73 _ (min a b + 1) rfl (by omega) rfl
      · refine es_iload_n (pc := 60) dX6_sees_60 rfl ?_
        refine es_goto (pc := 61) (tgt := 65) dX6_sees_61 (by decide) ?_
        refine es_top (show _ = nI (max a b) by rw [Nat.max_eq_right (by omega)]) ?_
        refine es_istore (pc := 65) dX6_sees_65 (ok1_5 rfl) ?_
        refine es_iload (pc := 67) dX6_sees_67 rfl ?_
        refine es_iconstN (pc := 69) 1 dX6_sees_69 ic_1 ?_
        refine es_iaddN (pc := 70) dX6_sees_70 ?_
        refine es_istore (pc := 71) dX6_sees_71 (ok1_6 rfl) ?_
        exact hl73 _ (min a b + 1) rfl (by omega) rfl
    · refine es_iload_n (pc := 48) dX6_sees_48 rfl ?_
      refine es_goto (pc := 49) (tgt := 53) dX6_sees_49 (by decide) ?_
      refine es_top (show _ = nI (min a b) by rw [Nat.min_eq_left (by omega)]) ?_
      refine es_istore (pc := 53) dX6_sees_53 (ok1_4 rfl) ?_
      refine es_iload_n (pc := 55) dX6_sees_55 rfl ?_
      refine es_iload_n (pc := 56) dX6_sees_56 rfl ?_
      refine es_icmp_geN (pc := 57) 64 dX6_sees_57 (by decide) (by omega) (by omega) (fun c57 => ?_) (fun c57 => ?_)
      · refine es_iload_n (pc := 64) dX6_sees_64 rfl ?_
        refine es_top (show _ = nI (max a b) by rw [Nat.max_eq_left (by omega)]) ?_
        refine es_istore (pc := 65) dX6_sees_65 (ok1_5 rfl) ?_
        refine es_iload (pc := 67) dX6_sees_67 rfl ?_
        refine es_iconstN (pc := 69) 1 dX6_sees_69 ic_1 ?_
        refine es_iaddN (pc := 70) dX6_sees_70 ?_
        refine es_istore (pc := 71) dX6_sees_71 (ok1_6 rfl) ?_
        exact hl73 _ (min a b + 1) rfl (by omega) rfl
      · refine es_iload_n (pc := 60) dX6_sees_60 rfl ?_
        refine es_goto (pc := 61) (tgt := 65) dX6_sees_61 (by decide) ?_
        refine es_top (show _ = nI (max a b) by rw [Nat.max_eq_right (by omega)]) ?_
        refine es_istore (pc := 65) dX6_sees_65 (ok1_5 rfl) ?_
        refine es_iload (pc := 67) dX6_sees_67 rfl ?_
        refine es_iconstN (pc := 69) 1 dX6_sees_69 ic_1 ?_
        refine es_iaddN (pc := 70) dX6_sees_70 ?_
        refine es_istore (pc := 71) dX6_sees_71 (ok1_6 rfl) ?_
        exact hl73 _ (min a b + 1) rfl (by omega) rfl
  · refine es_aload_n (pc := 21) dX6_sees_21 rfl ?_
    refine es_getR (pc := 22) dX6_sees_22 fr_6_7 fld_14_0 ?_
    refine es_bipushN (pc := 25) 11 dX6_sees_25 bp_11 ?_
    refine es_iload_n (pc := 27) dX6_sees_27 rfl ?_
    refine es_iaddN (pc := 28) dX6_sees_28 ?_
    refine es_iald (pc := 29) dX6_sees_29 lay_15 (by omega) ?_
    refine es_goto (pc := 30) (tgt := 42) dX6_sees_30 (by decide) ?_
    refine es_top (gm_mx_gt c18) ?_
    refine es_istore_n (pc := 42) dX6_sees_42 (ok1_3 rfl) ?_
    refine es_iload_n (pc := 43) dX6_sees_43 rfl ?_
    refine es_iload_n (pc := 44) dX6_sees_44 rfl ?_
    refine es_icmp_geN (pc := 45) 52 dX6_sees_45 (by decide) (by omega) (by omega) (fun c45 => ?_) (fun c45 => ?_)
    · refine es_iload_n (pc := 52) dX6_sees_52 rfl ?_
      refine es_top (show _ = nI (min a b) by rw [Nat.min_eq_right (by omega)]) ?_
      refine es_istore (pc := 53) dX6_sees_53 (ok1_4 rfl) ?_
      refine es_iload_n (pc := 55) dX6_sees_55 rfl ?_
      refine es_iload_n (pc := 56) dX6_sees_56 rfl ?_
      refine es_icmp_geN (pc := 57) 64 dX6_sees_57 (by decide) (by omega) (by omega) (fun c57 => ?_) (fun c57 => ?_)
      · refine es_iload_n (pc := 64) dX6_sees_64 rfl ?_
        refine es_top (show _ = nI (max a b) by rw [Nat.max_eq_left (by omega)]) ?_
        refine es_istore (pc := 65) dX6_sees_65 (ok1_5 rfl) ?_
        refine es_iload (pc := 67) dX6_sees_67 rfl ?_
        refine es_iconstN (pc := 69) 1 dX6_sees_69 ic_1 ?_
        refine es_iaddN (pc := 70) dX6_sees_70 ?_
        refine es_istore (pc := 71) dX6_sees_71 (ok1_6 rfl) ?_
        exact hl73 _ (min a b + 1) rfl (by omega) rfl
      · refine es_iload_n (pc := 60) dX6_sees_60 rfl ?_
        refine es_goto (pc := 61) (tgt := 65) dX6_sees_61 (by decide) ?_
        refine es_top (show _ = nI (max a b) by rw [Nat.max_eq_right (by omega)]) ?_
        refine es_istore (pc := 65) dX6_sees_65 (ok1_5 rfl) ?_
        refine es_iload (pc := 67) dX6_sees_67 rfl ?_
        refine es_iconstN (pc := 69) 1 dX6_sees_69 ic_1 ?_
        refine es_iaddN (pc := 70) dX6_sees_70 ?_
        refine es_istore (pc := 71) dX6_sees_71 (ok1_6 rfl) ?_
        exact hl73 _ (min a b + 1) rfl (by omega) rfl
    · refine es_iload_n (pc := 48) dX6_sees_48 rfl ?_
      refine es_goto (pc := 49) (tgt := 53) dX6_sees_49 (by decide) ?_
      refine es_top (show _ = nI (min a b) by rw [Nat.min_eq_left (by omega)]) ?_
      refine es_istore (pc := 53) dX6_sees_53 (ok1_4 rfl) ?_
      refine es_iload_n (pc := 55) dX6_sees_55 rfl ?_
      refine es_iload_n (pc := 56) dX6_sees_56 rfl ?_
      refine es_icmp_geN (pc := 57) 64 dX6_sees_57 (by decide) (by omega) (by omega) (fun c57 => ?_) (fun c57 => ?_)
      · refine es_iload_n (pc := 64) dX6_sees_64 rfl ?_
        refine es_top (show _ = nI (max a b) by rw [Nat.max_eq_left (by omega)]) ?_
        refine es_istore (pc := 65) dX6_sees_65 (ok1_5 rfl) ?_
        refine es_iload (pc := 67) dX6_sees_67 rfl ?_
        refine es_iconstN (pc := 69) 1 dX6_sees_69 ic_1 ?_
        refine es_iaddN (pc := 70) dX6_sees_70 ?_
        refine es_istore (pc := 71) dX6_sees_71 (ok1_6 rfl) ?_
        exact hl73 _ (min a b + 1) rfl (by omega) rfl
      · refine es_iload_n (pc := 60) dX6_sees_60 rfl ?_
        refine es_goto (pc := 61) (tgt := 65) dX6_sees_61 (by decide) ?_
        refine es_top (show _ = nI (max a b) by rw [Nat.max_eq_right (by omega)]) ?_
        refine es_istore (pc := 65) dX6_sees_65 (ok1_5 rfl) ?_
        refine es_iload (pc := 67) dX6_sees_67 rfl ?_
        refine es_iconstN (pc := 69) 1 dX6_sees_69 ic_1 ?_
        refine es_iaddN (pc := 70) dX6_sees_70 ?_
        refine es_istore (pc := 71) dX6_sees_71 (ok1_6 rfl) ?_
        exact hl73 _ (min a b + 1) rfl (by omega) rfl
set_option maxHeartbeats 2000000 in
set_option maxRecDepth 20000 in
theorem X6_strideOf_ok {d : Nat} {μ : ev_M} {a b : Nat} (ha : a < 10 := by omega) (hb : b < 10 := by omega) (hd : 2 ≤ d := by omega) : ev_CALL d 123 [.ref 14, .int (nI a), .int (nI b)] μ (some (.int (gm_price (μ 15 1) (fun k => μ 15 (11 + k)) a b)), 0) μ := by
  obtain ⟨d, rfl⟩ : ∃ q, d = q + 1 := ⟨d - 1, by omega⟩
  refine SPp.of (Nat.le_of_ble_eq_true rfl) ?_
  show es (ev_CALL d) 6 cX6_strideOf (some .int) 0 (0, fun _ => 0, []) (fun r μ2 => r = (some (.int (gm_price (μ 15 1) (fun k => μ 15 (11 + k)) a b)), 0) ∧ μ2 = μ) 0 [.ref 14, .int (nI a), .int (nI b), .null] [] μ 0
  refine es_aload_n (pc := 0) dX6_strideOf_0 rfl ?_
  refine es_getR (pc := 1) dX6_strideOf_1 fr_6_7 fld_14_0 ?_
  refine es_bipushN (pc := 4) 11 dX6_strideOf_4 bp_11 ?_
  refine es_iload_n (pc := 6) dX6_strideOf_6 rfl ?_
  refine es_iaddN (pc := 7) dX6_strideOf_7 ?_
  refine es_iald (pc := 8) dX6_strideOf_8 lay_15 (by omega) ?_
  refine es_aload_n (pc := 9) dX6_strideOf_9 rfl ?_
  refine es_getR (pc := 10) dX6_strideOf_10 fr_6_7 fld_14_0 ?_
  refine es_bipushN (pc := 13) 11 dX6_strideOf_13 bp_11 ?_
  refine es_iload_n (pc := 15) dX6_strideOf_15 rfl ?_
  refine es_iaddN (pc := 16) dX6_strideOf_16 ?_
  refine es_iald (pc := 17) dX6_strideOf_17 lay_15 (by omega) ?_
  refine es_isub (pc := 18) dX6_strideOf_18 ?_
  refine es_istore_n (pc := 19) dX6_strideOf_19 (ok1_3 rfl) ?_
  refine es_aload_n (pc := 20) dX6_strideOf_20 rfl ?_
  refine es_getR (pc := 21) dX6_strideOf_21 fr_6_7 fld_14_0 ?_
  refine es_iconstN (pc := 24) 1 dX6_strideOf_24 ic_1 ?_
  refine es_iald (pc := 25) dX6_strideOf_25 lay_15 (by omega) ?_
  refine es_iload_n (pc := 26) dX6_strideOf_26 rfl ?_
  refine es_iload_n (pc := 27) dX6_strideOf_27 rfl ?_
  refine es_isub (pc := 28) dX6_strideOf_28 ?_
  refine es_cs1_p (pc := 29) dX6_strideOf_29 mr_6_56 rfl rfl rfl (Nat.le_of_ble_eq_true rfl) (Nat.zero_le _) (X6_size_ok) ?_
  rw [sz_n (by omega) (by omega)]
  refine es_imul (pc := 32) dX6_strideOf_32 ?_
  refine es_iload_n (pc := 33) dX6_strideOf_33 rfl ?_
  refine es_if_le (pc := 34) (tgt := 41) dX6_strideOf_34 (by decide) (fun c34 => ?_) (fun c34 => ?_)
  · refine es_iconstN (pc := 41) 0 dX6_strideOf_41 ic_0 ?_
    refine es_iadd (pc := 42) dX6_strideOf_42 ?_
    refine es_ireturn (pc := 43) dX6_strideOf_43 rfl (vp_nar_int _) (by decide) ?_
    exact ⟨vI (by rw [gm_price]; unfold gm_mx; rw [nI_0, if_neg (Int32.not_lt.mpr c34)]), rfl⟩
  · refine es_iload_n (pc := 37) dX6_strideOf_37 rfl ?_
    refine es_goto (pc := 38) (tgt := 42) dX6_strideOf_38 (by decide) ?_
    refine es_iadd (pc := 42) dX6_strideOf_42 ?_
    refine es_ireturn (pc := 43) dX6_strideOf_43 rfl (vp_nar_int _) (by decide) ?_
    exact ⟨vI (by rw [gm_price]; unfold gm_mx; rw [nI_0, if_pos (Int32.not_le.mp c34)]), rfl⟩
set_option maxHeartbeats 2000000 in
set_option maxRecDepth 20000 in
theorem X6_seen_ok {d : Nat} {μ : ev_M} {a : Nat} (ha : a < 10 := by omega) (hd : 2 ≤ d := by omega) : ev_CALL d 146 [.ref 14, .int (nI a)] μ (some (.int (gm_mask (gm_sees (fun k => μ 15 (11 + k)) a) 10)), 0) μ := by
  obtain ⟨d, rfl⟩ : ∃ q, d = q + 1 := ⟨d - 1, by omega⟩
  refine SPp.of (Nat.le_of_ble_eq_true rfl) ?_
  show es (ev_CALL d) 6 cX6_seen (some .int) 0 (0, fun _ => 0, []) (fun r μ2 => r = (some (.int (gm_mask (gm_sees (fun k => μ 15 (11 + k)) a) 10)), 0) ∧ μ2 = μ) 0 [.ref 14, .int (nI a), .null, .null] [] μ 0
  have hl4 : ∀ (n9 : Nat) (m : Int32) (k : Nat), n9 = 10 - k → (k ≤ 10) → (m = gm_mask (gm_sees (fun k => μ 15 (11 + k)) a) k) → es (ev_CALL d) 6 cX6_seen (some .int) 0 (0, fun _ => 0, []) (fun r μ2 => r = (some (.int (gm_mask (gm_sees (fun k => μ 15 (11 + k)) a) 10)), 0) ∧ μ2 = μ) 4 [.ref 14, .int (nI a), .int m, .int (nI k)] [] μ 0 := by
    intro n9
    induction n9 using Nat.strongRecOn with
    | ind n9 ih4 =>
      intro m k hn9 hk hm
      subst hn9
      have ih := ih4
      refine es_iload_n (pc := 4) dX6_seen_4 rfl ?_
      refine es_bipushN (pc := 5) 10 dX6_seen_5 bp_10 ?_
      refine es_icmp_geN (pc := 7) 35 dX6_seen_7 (by decide) (by omega) (by omega) (fun c7 => ?_) (fun c7 => ?_)
      · refine es_iload_n (pc := 35) dX6_seen_35 rfl ?_
        refine es_ireturn (pc := 36) dX6_seen_36 rfl (vp_nar_int _) (by decide) ?_
        exact ⟨by rw [hm, show k = 10 by omega], rfl⟩
      · refine es_iload_n (pc := 10) dX6_seen_10 rfl ?_
        refine es_aload_n (pc := 11) dX6_seen_11 rfl ?_
        refine es_iload_n (pc := 12) dX6_seen_12 rfl ?_
        refine es_iload_n (pc := 13) dX6_seen_13 rfl ?_
        refine es_cv2_p (pc := 14) dX6_seen_14 mr_6_59 rfl rfl (by decide) (by decide) rfl (Nat.le_of_ble_eq_true rfl) (Nat.zero_le _) (X6_sees_ok) ?_
        refine es_if_eqB (pc := 17) 26 dX6_seen_17 (by decide) (fun c17 => ?_) (fun c17 => ?_)
        · refine es_iconstN (pc := 26) 0 dX6_seen_26 ic_0 ?_
          refine es_ior (pc := 27) dX6_seen_27 ?_
          refine es_istore_n (pc := 28) dX6_seen_28 (ok1_2 rfl) ?_
          refine es_iincN (pc := 29) 1 dX6_seen_29 ic_1 rfl (ok1_3 rfl) ?_
          refine es_goto (pc := 32) (tgt := 4) dX6_seen_32 (by decide) ?_
          exact ih4 _ (by omega) _ (k + 1) rfl (by omega) (by rw [gm_mask, hm]; simp [c17, nI_0])
        · refine es_iconstN (pc := 20) 1 dX6_seen_20 ic_1 ?_
          refine es_iload_n (pc := 21) dX6_seen_21 rfl ?_
          refine es_ishl (pc := 22) dX6_seen_22 ?_
          refine es_goto (pc := 23) (tgt := 27) dX6_seen_23 (by decide) ?_
          refine es_ior (pc := 27) dX6_seen_27 ?_
          refine es_istore_n (pc := 28) dX6_seen_28 (ok1_2 rfl) ?_
          refine es_iincN (pc := 29) 1 dX6_seen_29 ic_1 rfl (ok1_3 rfl) ?_
          refine es_goto (pc := 32) (tgt := 4) dX6_seen_32 (by decide) ?_
          exact ih4 _ (by omega) _ (k + 1) rfl (by omega) (by rw [gm_mask, hm]; simp [c17, nI_0])
  refine es_iconstN (pc := 0) 0 dX6_seen_0 ic_0 ?_
  refine es_istore_n (pc := 1) dX6_seen_1 (ok1_2 rfl) ?_
  refine es_iconstN (pc := 2) 0 dX6_seen_2 ic_0 ?_
  refine es_istore_n (pc := 3) dX6_seen_3 (ok1_3 rfl) ?_
  exact hl4 _ _ 0 rfl (by omega) rfl
set_option maxHeartbeats 2000000 in
set_option maxRecDepth 20000 in
theorem X6_take_ok {d : Nat} {μ : ev_M} {p : Nat} (hp : p < 4 := by omega) (hd : 2 ≤ d := by omega) : SPv (ev_CALL d) 113 [.ref 14, .int (nI p)] μ (fun μ2 => μ2 14 9 = μ 15 (31 + 7 * p) ∧ μ2 14 10 = μ 15 (31 + 7 * p + 1) ∧ μ2 14 11 = μ 15 (31 + 7 * p + 2) ∧ (∀ k, k < 10 → μ2 21 k = μ 15 (21 + k)) ∧ (∀ i, i < 9 → μ2 14 i = μ 14 i) ∧ ∀ q, q ≠ 14 → q ≠ 21 → μ2 q = μ q) := by
  obtain ⟨d, rfl⟩ : ∃ q, d = q + 1 := ⟨d - 1, by omega⟩
  refine SPv.of (Nat.le_of_ble_eq_true rfl) ?_
  show es (ev_CALL d) 6 cX6_take none 0 (0, fun _ => 0, []) (fun r μ2 => r = (none, 0) ∧ (fun μ2 => μ2 14 9 = μ 15 (31 + 7 * p) ∧ μ2 14 10 = μ 15 (31 + 7 * p + 1) ∧ μ2 14 11 = μ 15 (31 + 7 * p + 2) ∧ (∀ k, k < 10 → μ2 21 k = μ 15 (21 + k)) ∧ (∀ i, i < 9 → μ2 14 i = μ 14 i) ∧ ∀ q, q ≠ 14 → q ≠ 21 → μ2 q = μ q) μ2) 0 [.ref 14, .int (nI p), .null] [] μ 0
  refine es_aload_n (pc := 0) dX6_take_0 rfl ?_
  refine es_aload_n (pc := 1) dX6_take_1 rfl ?_
  refine es_iload_n (pc := 2) dX6_take_2 rfl ?_
  refine es_iconstN (pc := 3) 0 dX6_take_3 ic_0 ?_
  refine es_cv2_p (pc := 4) dX6_take_4 mr_6_63 rfl rfl (by decide) (by decide) rfl (Nat.le_of_ble_eq_true rfl) (Nat.zero_le _) (X6_its_ok) ?_
  refine es_putI (pc := 7) dX6_take_7 fr_6_67 fld_14_9 ?_
  refine es_aload_n (pc := 10) dX6_take_10 rfl ?_
  refine es_aload_n (pc := 11) dX6_take_11 rfl ?_
  refine es_iload_n (pc := 12) dX6_take_12 rfl ?_
  refine es_iconstN (pc := 13) 1 dX6_take_13 ic_1 ?_
  refine es_cv2_p (pc := 14) dX6_take_14 mr_6_63 rfl rfl (by decide) (by decide) rfl (Nat.le_of_ble_eq_true rfl) (Nat.zero_le _) (X6_its_ok) ?_
  refine es_putI (pc := 17) dX6_take_17 fr_6_70 fld_14_10 ?_
  refine es_aload_n (pc := 20) dX6_take_20 rfl ?_
  refine es_aload_n (pc := 21) dX6_take_21 rfl ?_
  refine es_iload_n (pc := 22) dX6_take_22 rfl ?_
  refine es_iconstN (pc := 23) 2 dX6_take_23 ic_2 ?_
  refine es_cv2_p (pc := 24) dX6_take_24 mr_6_63 rfl rfl (by decide) (by decide) rfl (Nat.le_of_ble_eq_true rfl) (Nat.zero_le _) (X6_its_ok) ?_
  refine es_putI (pc := 27) dX6_take_27 fr_6_73 fld_14_11 ?_
  have hl32 : ∀ (n9 : Nat) (ν : ev_M) (k : Nat), n9 = 10 - k → (k ≤ 10) → (∀ j, j < k → ν 21 j = μ 15 (21 + j)) → (∀ q, q ≠ 21 → ν q = (ev_ms (ev_ms (ev_ms μ 14 9 (μ 15 (31 + 7 * p + 0))) 14 10 (μ 15 (31 + 7 * p + 1))) 14 11 (μ 15 (31 + 7 * p + 2))) q) → es (ev_CALL d) 6 cX6_take none 0 (0, fun _ => 0, []) (fun r μ2 => r = (none, 0) ∧ (fun μ2 => μ2 14 9 = μ 15 (31 + 7 * p) ∧ μ2 14 10 = μ 15 (31 + 7 * p + 1) ∧ μ2 14 11 = μ 15 (31 + 7 * p + 2) ∧ (∀ k, k < 10 → μ2 21 k = μ 15 (21 + k)) ∧ (∀ i, i < 9 → μ2 14 i = μ 14 i) ∧ ∀ q, q ≠ 14 → q ≠ 21 → μ2 q = μ q) μ2) 32 [.ref 14, .int (nI p), .int (nI k)] [] ν 0 := by
    intro n9
    induction n9 using Nat.strongRecOn with
    | ind n9 ih32 =>
      intro ν k hn9 hk h1 h2
      subst hn9
      have ih := ih32
      refine es_iload_n (pc := 32) dX6_take_32 rfl ?_
      refine es_bipushN (pc := 33) 10 dX6_take_33 bp_10 ?_
      refine es_icmp_geN (pc := 35) 59 dX6_take_35 (by decide) (by omega) (by omega) (fun c35 => ?_) (fun c35 => ?_)
      · refine es_vreturn (pc := 59) dX6_take_59 rfl (by decide) ?_
        refine ⟨rfl, ?_, ?_, ?_, fun j hj => h1 j (by omega), fun i hi => ?_, fun q h8 h9 => ?_⟩
        · rw [h2 14 (by decide)]; simp [ms_full]
        · rw [h2 14 (by decide)]; simp [ms_full]
        · rw [h2 14 (by decide)]; simp [ms_full]
        · rw [h2 14 (by decide), ms_at, if_neg (by omega), ms_at, if_neg (by omega), ms_at, if_neg (by omega)]
        · rw [h2 q h9, ms_ne h8, ms_ne h8, ms_ne h8]
      · refine es_aload_n (pc := 38) dX6_take_38 rfl ?_
        refine es_getR (pc := 39) dX6_take_39 fr_6_29 fld_14_12 ?_
        refine es_iload_n (pc := 42) dX6_take_42 rfl ?_
        refine es_aload_n (pc := 43) dX6_take_43 rfl ?_
        refine es_getR (pc := 44) dX6_take_44 fr_6_7 fld_14_0 ?_
        refine es_bipushN (pc := 47) 21 dX6_take_47 bp_21 ?_
        refine es_iload_n (pc := 49) dX6_take_49 rfl ?_
        refine es_iaddN (pc := 50) dX6_take_50 ?_
        refine es_iald (pc := 51) dX6_take_51 lay_15 (by omega) ?_
        refine es_iast (pc := 52) dX6_take_52 lay_21 (by omega) ?_
        refine es_iincN (pc := 53) 1 dX6_take_53 ic_1 rfl (ok1_2 rfl) ?_
        refine es_goto (pc := 56) (tgt := 32) dX6_take_56 (by decide) ?_
        refine ih32 _ (by omega) _ (k + 1) rfl (by omega) (fun j hj => ?_) (fun q hq => by rw [ms_ne hq, h2 q hq])
        rw [ms_at]
        by_cases e : j = k
        · rw [if_pos e, e, h2 15 (by decide), ms_ne (by decide), ms_ne (by decide), ms_ne (by decide)]
        · rw [if_neg e, h1 j (by omega)]
  refine es_iconstN (pc := 30) 0 dX6_take_30 ic_0 ?_
  refine es_istore_n (pc := 31) dX6_take_31 (ok1_2 rfl) ?_
  exact hl32 _ _ 0 rfl (by omega) (fun j hj => absurd hj (Nat.not_lt_zero j)) (fun _ _ => rfl)
