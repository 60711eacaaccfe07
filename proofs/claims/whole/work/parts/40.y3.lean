theorem mk_or : ∀ n, n < 10 → ∀ k, k < 2 ^ n → nI k ||| (nI 1 <<< (nI n &&& 31)) = nI (k + 2 ^ n) := by decide +kernel
theorem mk_nI {f : Nat → Bool} : ∀ n, n ≤ 10 → ∃ k, k < 2 ^ n ∧ gm_mask f n = nI k
  | 0, _ => ⟨0, by decide, rfl⟩
  | n + 1, h => by
    obtain ⟨k, hk, e⟩ := mk_nI (f := f) n (by omega)
    have hp : 2 ^ (n + 1) = 2 ^ n * 2 := Nat.pow_succ _ _
    by_cases hf : f n = true
    · exact ⟨k + 2 ^ n, by omega, by rw [gm_mask_t hf, e, mk_or n (by omega) k hk]⟩
    · exact ⟨k, by omega, by rw [gm_mask_f (by simpa using hf), e]⟩
theorem bits_bc : ∀ k, k < 1024 → gm_bits (nI k) 10 = gm_bc (nI k) ∧ ¬ gm_bc (nI k) < 0 := by decide +kernel
theorem bits_mask {f : Nat → Bool} : gm_bits (gm_mask f 10) 10 = gm_bc (gm_mask f 10) ∧ ¬ gm_bc (gm_mask f 10) < 0 := by
  obtain ⟨k, hk, e⟩ := mk_nI (f := f) 10 (Nat.le_refl _)
  rw [e]
  exact bits_bc k (by omega)
theorem look_v {c : Nat → Int32} (h0 : ¬ c 0 < 0) : ∀ n, (gm_look c (n + 1)).2 = c (gm_look c (n + 1)).1 ∧ (gm_look c (n + 1)).1 ≤ n
  | 0 => by
    show (if nI 0 < c 0 then ((0 : Nat), c 0) else (0, nI 0)).2 = c (if nI 0 < c 0 then ((0 : Nat), c 0) else (0, nI 0)).1 ∧ _
    by_cases h : nI 0 < c 0
    · exact ⟨by rw [if_pos h], by show (if nI 0 < c 0 then ((0 : Nat), c 0) else (0, nI 0)).1 ≤ 0; rw [if_pos h]; exact Nat.le_refl _⟩
    · refine ⟨?_, by show (if nI 0 < c 0 then ((0 : Nat), c 0) else (0, nI 0)).1 ≤ 0; rw [if_neg h]; exact Nat.le_refl _⟩
      rw [if_neg h]
      exact Int32.le_antisymm (by rw [nI_0]; exact Int32.not_lt.mp h0) (Int32.not_lt.mp h)
  | n + 1 => by
    obtain ⟨h1, h2⟩ := look_v h0 n
    have e : gm_look c (n + 1 + 1) = if (gm_look c (n + 1)).2 < c (n + 1) then (n + 1, c (n + 1)) else gm_look c (n + 1) := rfl
    rw [e]
    split
    · exact ⟨rfl, Nat.le_refl _⟩
    · exact ⟨h1, by omega⟩
set_option maxHeartbeats 2000000 in
set_option maxRecDepth 20000 in
theorem X6_widest_ok {d : Nat} {μ : ev_M} {R : gm_R} (hr : mR μ = R) (hW : WFr R) (hd : 3 ≤ d := by omega) : ev_CALL d 165 [.ref 14] μ (some (.int (nI (rLook R))), 0) μ := by
  obtain ⟨d, rfl⟩ : ∃ q, d = q + 1 := ⟨d - 1, by omega⟩
  refine SPp.of (Nat.le_of_ble_eq_true rfl) ?_
  show es (ev_CALL d) 6 cX6_widest (some .int) 0 (0, fun _ => 0, []) (fun r μ2 => r = (some (.int (nI (rLook R))), 0) ∧ μ2 = μ) 0 [.ref 14, .null, .null] [] μ 0
  obtain ⟨c, hcd⟩ : ∃ c : Nat → Int32, c = (fun t => gm_bc (gm_mask (gm_sees (rH R) t) 10)) := ⟨_, rfl⟩
  have hc0 : ¬ c 0 < 0 := by rw [hcd]; exact bits_mask.2
  have hse : ∀ t, t < 10 → gm_bits (gm_mask (gm_sees (fun k => μ 15 (11 + k)) t) 10) 10 = c t := fun t ht => by
    rw [bits_mask.1, hcd]
    exact congrArg gm_bc (gm_mask_cong (fun k hk => seesM hr ht hk))
  have hlk : (gm_look c 10).1 = rLook R := by rw [hcd]; rfl
  clear hcd
  have hl4 : ∀ (n9 : Nat) (k j : Nat), n9 = 10 - k → (k ≤ 10) → (1 ≤ k) → (j = (gm_look c k).1) → es (ev_CALL d) 6 cX6_widest (some .int) 0 (0, fun _ => 0, []) (fun r μ2 => r = (some (.int (nI (rLook R))), 0) ∧ μ2 = μ) 4 [.ref 14, .int (nI j), .int (nI k)] [] μ 0 := by
    intro n9
    induction n9 using Nat.strongRecOn with
    | ind n9 ih4 =>
      intro k j hn9 hk hk1 hj
      subst hn9
      have ih := ih4
      have hv := look_v hc0 (k - 1)
      rw [show k - 1 + 1 = k by omega, ← hj] at hv
      refine es_iload_n (pc := 4) dX6_widest_4 rfl ?_
      refine es_bipushN (pc := 5) 10 dX6_widest_5 bp_10 ?_
      refine es_icmp_geN (pc := 7) 41 dX6_widest_7 (by decide) (by omega) (by omega) (fun c7 => ?_) (fun c7 => ?_)
      · refine es_iload_n (pc := 41) dX6_widest_41 rfl ?_
        refine es_ireturn (pc := 42) dX6_widest_42 rfl (vp_nar_int _) (by decide) ?_
        exact ⟨vI (by rw [hj, show k = 10 by omega, hlk]), rfl⟩
      · refine es_aload_n (pc := 10) dX6_widest_10 rfl ?_
        refine es_iload_n (pc := 11) dX6_widest_11 rfl ?_
        refine es_cv1_p (pc := 12) dX6_widest_12 mr_6_153 rfl rfl (by decide) (by decide) rfl (Nat.le_of_ble_eq_true rfl) (Nat.zero_le _) (X6_seen_ok) ?_
        refine es_cs1_p (pc := 15) dX6_widest_15 mr_6_191 rfl rfl rfl (Nat.le_of_ble_eq_true rfl) (Nat.zero_le _) (X6_bits_ok) ?_
        rw [hse k (by omega)]
        refine es_aload_n (pc := 18) dX6_widest_18 rfl ?_
        refine es_iload_n (pc := 19) dX6_widest_19 rfl ?_
        refine es_cv1_p (pc := 20) dX6_widest_20 mr_6_153 rfl rfl (by decide) (by decide) rfl (Nat.le_of_ble_eq_true rfl) (Nat.zero_le _) (X6_seen_ok) ?_
        refine es_cs1_p (pc := 23) dX6_widest_23 mr_6_191 rfl rfl rfl (Nat.le_of_ble_eq_true rfl) (Nat.zero_le _) (X6_bits_ok) ?_
        rw [hse j (by omega)]
        refine es_icmp_le (pc := 26) (tgt := 33) dX6_widest_26 (by decide) (fun c26 => ?_) (fun c26 => ?_)
        · refine es_iload_n (pc := 33) dX6_widest_33 rfl ?_
          refine es_istore_n (pc := 34) dX6_widest_34 (ok1_1 rfl) ?_
          refine es_iincN (pc := 35) 1 dX6_widest_35 ic_1 rfl (ok1_2 rfl) ?_
          refine es_goto (pc := 38) (tgt := 4) dX6_widest_38 (by decide) ?_
          exact ih4 _ (by omega) (k + 1) _ rfl (by omega) (by omega) (by rw [gm_look, hv.1, if_neg (Int32.not_lt.mpr c26)]; exact hj)
        · refine es_iload_n (pc := 29) dX6_widest_29 rfl ?_
          refine es_goto (pc := 30) (tgt := 34) dX6_widest_30 (by decide) ?_
          refine es_istore_n (pc := 34) dX6_widest_34 (ok1_1 rfl) ?_
          refine es_iincN (pc := 35) 1 dX6_widest_35 ic_1 rfl (ok1_2 rfl) ?_
          refine es_goto (pc := 38) (tgt := 4) dX6_widest_38 (by decide) ?_
          exact ih4 _ (by omega) (k + 1) _ rfl (by omega) (by omega) (by rw [gm_look, hv.1, if_pos (Int32.not_le.mp c26)])
  refine es_iconstN (pc := 0) 0 dX6_widest_0 ic_0 ?_
  refine es_istore_n (pc := 1) dX6_widest_1 (ok1_1 rfl) ?_
  refine es_iconstN (pc := 2) 1 dX6_widest_2 ic_1 ?_
  refine es_istore_n (pc := 3) dX6_widest_3 (ok1_2 rfl) ?_
  exact hl4 _ 1 0 rfl (by omega) (by omega) (Nat.le_zero.mp (look_v hc0 0).2).symm
set_option maxHeartbeats 2000000 in
set_option maxRecDepth 20000 in
theorem X6_lookout_ok {d : Nat} {μ : ev_M} {S : gS} (hR : RepM μ S) (hW : WFS S) (hd : 5 ≤ d := by omega) : SPi (ev_CALL d) 164 [.ref 14] μ (QM ((0, nI (rLook S.1), S)) μ) := by
  obtain ⟨d, rfl⟩ : ∃ q, d = q + 1 := ⟨d - 1, by omega⟩
  refine SPi.of (Nat.le_of_ble_eq_true rfl) ?_
  show es (ev_CALL d) 6 cX6_lookout (some .int) 0 (0, fun _ => 0, []) (fun r μ2 => ∃ x9 : Int32, r = (some (.int x9), 0) ∧ (QM ((0, nI (rLook S.1), S)) μ) x9 μ2) 0 [.ref 14] [] μ 0
  have hR0 := hR.t (x := nI 0)
  have hn6 := hR.n6
  have hm6 := hR.m
  obtain ⟨wP, wP4, won, won4, wit, wit4, wpl, wpb, wlt⟩ := WM.of (r := S.1) hR.g hW.1
  have w0 : ev_ms μ 14 8 (nI 0) 15 4 = nI (rP S.1) := by rw [ms_ne (by decide)]; exact wP
  refine es_aload_n (pc := 0) dX6_lookout_0 rfl ?_
  refine es_iconstN (pc := 1) 0 dX6_lookout_1 ic_0 ?_
  refine es_putI (pc := 2) dX6_lookout_2 fr_6_35 fld_14_8 ?_
  refine es_aload_n (pc := 5) dX6_lookout_5 rfl ?_
  refine es_cv0_p (pc := 6) dX6_lookout_6 mr_6_194 rfl rfl (by decide) (by decide) rfl (Nat.le_of_ble_eq_true rfl) (Nat.zero_le _) (X6_widest_ok (R := S.1) hR0.g hW.1) ?_
  refine es_ireturn (pc := 9) dX6_lookout_9 rfl (vp_nar_int _) (by decide) ?_
  exact ⟨_, rfl, QM.of rfl (by simp [ms_full]) (rfl) hR0 (FrM.rf.ms (by decide))⟩
set_option maxHeartbeats 2000000 in
set_option maxRecDepth 20000 in
theorem X6_share_ok {d : Nat} {μ : ev_M} {R : gm_R} (hr : mR μ = R) (hW : WFr R) (hG : rGl R ≠ 0 → 0 < rGl R) (hn : rGl R ≠ 0 → vf_n64 (FP.ddiv (FP.i2d (gm_sum (fun p => R (31 + 7 * p + 2)) (nI 0) (rP R))) (FP.i2d (rGl R)))) (hd : 3 ≤ d := by omega) : ev_CALL d 168 [.ref 14] μ (some (.double (rShare R)), 0) μ := by
  obtain ⟨d, rfl⟩ : ∃ q, d = q + 1 := ⟨d - 1, by omega⟩
  refine SPp.of (Nat.le_of_ble_eq_true rfl) ?_
  show es (ev_CALL d) 6 cX6_share (some .double) 0 (0, fun _ => 0, []) (fun r μ2 => r = (some (.double (rShare R)), 0) ∧ μ2 = μ) 0 [.ref 14, .null, .null] [] μ 0
  obtain ⟨wP, wP4, won, won4, wit, wit4, wpl, wpb, wlt⟩ := WM.of hr hW
  have rr : ∀ j, j < 59 → μ 15 j = R j := fun j hj => by rw [← hr, mR_r hj]
  have hl4 : ∀ (n9 : Nat) (m : Int32) (k : Nat), n9 = rP R - k → (k ≤ rP R) → (m = gm_sum (fun p => R (31 + 7 * p + 2)) (nI 0) k) → es (ev_CALL d) 6 cX6_share (some .double) 0 (0, fun _ => 0, []) (fun r μ2 => r = (some (.double (rShare R)), 0) ∧ μ2 = μ) 4 [.ref 14, .int m, .int (nI k)] [] μ 0 := by
    intro n9
    induction n9 using Nat.strongRecOn with
    | ind n9 ih4 =>
      intro m k hn9 hk hm
      subst hn9
      have ih := ih4
      have hm9 : k = rP R → m = gm_sum (fun p => R (31 + 7 * p + 2)) (nI 0) (rP R) := fun e => by rw [hm, e]
      refine es_iload_n (pc := 4) dX6_share_4 rfl ?_
      refine es_aload_n (pc := 5) dX6_share_5 rfl ?_
      refine es_getR (pc := 6) dX6_share_6 fr_6_7 fld_14_0 ?_
      refine es_iconstN (pc := 9) 4 dX6_share_9 ic_4 ?_
      refine es_iald (pc := 10) dX6_share_10 lay_15 (by omega) ?_
      refine es_top (wP) ?_
      refine es_icmp_geN (pc := 11) 29 dX6_share_11 (by decide) (by omega) (by omega) (fun c11 => ?_) (fun c11 => ?_)
      · refine es_aload_n (pc := 29) dX6_share_29 rfl ?_
        refine es_cv0_p (pc := 30) dX6_share_30 mr_6_168 rfl rfl (by decide) (by decide) rfl (Nat.le_of_ble_eq_true rfl) (Nat.zero_le _) (X6_inGlasses_ok hr hW) ?_
        refine es_if_ne (pc := 33) (tgt := 40) dX6_share_33 (by decide) (fun c33 => ?_) (fun c33 => ?_)
        · refine es_iload_n (pc := 40) dX6_share_40 rfl ?_
          rw [hm9 (by omega)]
          refine es_i2d (pc := 41) dX6_share_41 ?_
          refine es_aload_n (pc := 42) dX6_share_42 rfl ?_
          refine es_cv0_p (pc := 43) dX6_share_43 mr_6_168 rfl rfl (by decide) (by decide) rfl (Nat.le_of_ble_eq_true rfl) (Nat.zero_le _) (X6_inGlasses_ok hr hW) ?_
          refine es_i2d (pc := 46) dX6_share_46 ?_
          refine es_ddiv (pc := 47) dX6_share_47 (hn c33) ?_
          refine es_dreturn (pc := 48) dX6_share_48 rfl (by decide) ?_
          exact ⟨by rw [rShare, gm_share, if_neg (Int32.not_le.mpr (hG c33))], rfl⟩
        · refine es_dconst0 (pc := 36) dX6_share_36 ?_
          refine es_goto (pc := 37) (tgt := 48) dX6_share_37 (by decide) ?_
          refine es_dreturn (pc := 48) dX6_share_48 rfl (by decide) ?_
          exact ⟨by rw [rShare, gm_share, if_pos (by rw [c33]; decide)], rfl⟩
      · refine es_iload_n (pc := 14) dX6_share_14 rfl ?_
        refine es_aload_n (pc := 15) dX6_share_15 rfl ?_
        refine es_iload_n (pc := 16) dX6_share_16 rfl ?_
        refine es_iconstN (pc := 17) 2 dX6_share_17 ic_2 ?_
        refine es_cv2_p (pc := 18) dX6_share_18 mr_6_63 rfl rfl (by decide) (by decide) rfl (Nat.le_of_ble_eq_true rfl) (Nat.zero_le _) (X6_its_ok) ?_
        rw [rr _ (by omega)]
        refine es_iadd (pc := 21) dX6_share_21 ?_
        refine es_istore_n (pc := 22) dX6_share_22 (ok1_1 rfl) ?_
        refine es_iincN (pc := 23) 1 dX6_share_23 ic_1 rfl (ok1_2 rfl) ?_
        refine es_goto (pc := 26) (tgt := 4) dX6_share_26 (by decide) ?_
        exact ih4 _ (by omega) _ (k + 1) rfl (by omega) (by rw [gm_sum, hm])
  refine es_iconstN (pc := 0) 0 dX6_share_0 ic_0 ?_
  refine es_istore_n (pc := 1) dX6_share_1 (ok1_1 rfl) ?_
  refine es_iconstN (pc := 2) 0 dX6_share_2 ic_0 ?_
  refine es_istore_n (pc := 3) dX6_share_3 (ok1_2 rfl) ?_
  exact hl4 _ _ 0 rfl (by omega) rfl
