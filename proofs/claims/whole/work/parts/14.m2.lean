set_option maxHeartbeats 2000000 in
set_option maxRecDepth 20000 in
theorem X2_add_ok {d : Nat} {μ : ev_M} {n : Nat} {c : Int32} (hl : μ 5 1 = nI n) (hn : n < 60 := by omega) (hd : 1 ≤ d := by omega) : SPi (ev_CALL d) 70 [.ref 5, .int c] μ (fun x μ2 => x = nI (n + 1) ∧ μ2 = ev_ms (ev_ms μ 6 n c) 5 1 (nI (n + 1))) := by
  obtain ⟨d, rfl⟩ : ∃ q, d = q + 1 := ⟨d - 1, by omega⟩
  refine SPi.of (Nat.le_of_ble_eq_true rfl) ?_
  show es (ev_CALL d) 2 cX2_add (some .int) 0 (0, fun _ => 0, []) (fun r μ2 => ∃ x9 : Int32, r = (some (.int x9), 0) ∧ (fun x μ2 => x = nI (n + 1) ∧ μ2 = ev_ms (ev_ms μ 6 n c) 5 1 (nI (n + 1))) x9 μ2) 0 [.ref 5, .int c] [] μ 0
  refine es_aload_n (pc := 0) dX2_add_0 rfl ?_
  refine es_getI (pc := 1) dX2_add_1 fr_2_15 fld_5_1 ?_
  refine es_top hl ?_
  refine es_bipushN (pc := 4) 60 dX2_add_4 bp_60 ?_
  refine es_icmp_geN (pc := 6) 29 dX2_add_6 (by decide) (by omega) (by omega) (fun c6 => ?_) (fun c6 => ?_)
  · exact absurd c6 (by omega)
  · refine es_aload_n (pc := 9) dX2_add_9 rfl ?_
    refine es_getR (pc := 10) dX2_add_10 fr_2_11 fld_5_0 ?_
    refine es_aload_n (pc := 13) dX2_add_13 rfl ?_
    refine es_getI (pc := 14) dX2_add_14 fr_2_15 fld_5_1 ?_
    refine es_top hl ?_
    refine es_iload_n (pc := 17) dX2_add_17 rfl ?_
    refine es_iast (pc := 18) dX2_add_18 lay_6 (by omega) ?_
    refine es_aload_n (pc := 19) dX2_add_19 rfl ?_
    refine es_dup (pc := 20) dX2_add_20 rfl ?_
    refine es_getI (pc := 21) dX2_add_21 fr_2_15 fld_5_1 ?_
    refine es_top hl ?_
    refine es_iconstN (pc := 24) 1 dX2_add_24 ic_1 ?_
    refine es_iaddN (pc := 25) dX2_add_25 ?_
    refine es_putI (pc := 26) dX2_add_26 fr_2_15 fld_5_1 ?_
    refine es_aload_n (pc := 29) dX2_add_29 rfl ?_
    refine es_getI (pc := 30) dX2_add_30 fr_2_15 fld_5_1 ?_
    refine es_ireturn (pc := 33) dX2_add_33 rfl (vp_nar_int _) (by decide) ?_
    exact ⟨_, rfl, by simp [ms_full], rfl⟩
set_option maxHeartbeats 2000000 in
set_option maxRecDepth 20000 in
theorem X2_empty_ok {d : Nat} {μ : ev_M}  (hd : 1 ≤ d := by omega) : SPi (ev_CALL d) 1 [.ref 5] μ (fun x μ2 => x = μ 5 1 ∧ μ2 = ev_ms μ 5 1 (nI 0)) := by
  obtain ⟨d, rfl⟩ : ∃ q, d = q + 1 := ⟨d - 1, by omega⟩
  refine SPi.of (Nat.le_of_ble_eq_true rfl) ?_
  show es (ev_CALL d) 2 cX2_empty (some .int) 0 (0, fun _ => 0, []) (fun r μ2 => ∃ x9 : Int32, r = (some (.int x9), 0) ∧ (fun x μ2 => x = μ 5 1 ∧ μ2 = ev_ms μ 5 1 (nI 0)) x9 μ2) 0 [.ref 5, .null] [] μ 0
  refine es_aload_n (pc := 0) dX2_empty_0 rfl ?_
  refine es_getI (pc := 1) dX2_empty_1 fr_2_15 fld_5_1 ?_
  refine es_istore_n (pc := 4) dX2_empty_4 (ok1_1 rfl) ?_
  refine es_aload_n (pc := 5) dX2_empty_5 rfl ?_
  refine es_iconstN (pc := 6) 0 dX2_empty_6 ic_0 ?_
  refine es_putI (pc := 7) dX2_empty_7 fr_2_15 fld_5_1 ?_
  refine es_iload_n (pc := 10) dX2_empty_10 rfl ?_
  refine es_ireturn (pc := 11) dX2_empty_11 rfl (vp_nar_int _) (by decide) ?_
  exact ⟨_, rfl, rfl, rfl⟩
set_option maxHeartbeats 2000000 in
set_option maxRecDepth 20000 in
theorem X2_awaitedBehindLetter_ok {d : Nat} {μ : ev_M} {c : Int32} (hd : 1 ≤ d := by omega) : ev_CALL d 5 [.int c] μ (some (.int (nI (gm_dl c))), 0) μ := by
  obtain ⟨d, rfl⟩ : ∃ q, d = q + 1 := ⟨d - 1, by omega⟩
  refine SPp.of (Nat.le_of_ble_eq_true rfl) ?_
  show es (ev_CALL d) 2 cX2_awaitedBehindLetter (some .int) 0 (0, fun _ => 0, []) (fun r μ2 => r = (some (.int (nI (gm_dl c))), 0) ∧ μ2 = μ) 0 [.int c] [] μ 0
  refine es_iload_n (pc := 0) dX2_awaitedBehindLetter_0 rfl ?_
  by_cases ho : c.toInt < 111 ∨ 119 < c.toInt
  · refine es_tabout (pc := 1) (tgt := 58) dX2_awaitedBehindLetter_1 ho (by decide) ?_
    refine es_iconstN (pc := 58) 3 dX2_awaitedBehindLetter_58 ic_3 ?_
    refine es_ireturn (pc := 59) dX2_awaitedBehindLetter_59 rfl (vp_nar_int _) (by decide) ?_
    exact ⟨by rw [gm_dl_out ho], rfl⟩
  · rcases gm_in ho with rfl | rfl | rfl | rfl | rfl | rfl | rfl | rfl | rfl
    · refine es_tabin (pc := 1) (tgt := 52) (off := 51) dX2_awaitedBehindLetter_1 (by decide) (by decide) (by decide) (by decide) ?_
      refine es_iconstN (pc := 52) 0 dX2_awaitedBehindLetter_52 ic_0 ?_
      refine es_ireturn (pc := 53) dX2_awaitedBehindLetter_53 rfl (vp_nar_int _) (by decide) ?_
      exact ⟨rfl, rfl⟩
    · refine es_tabin (pc := 1) (tgt := 58) (off := 57) dX2_awaitedBehindLetter_1 (by decide) (by decide) (by decide) (by decide) ?_
      refine es_iconstN (pc := 58) 3 dX2_awaitedBehindLetter_58 ic_3 ?_
      refine es_ireturn (pc := 59) dX2_awaitedBehindLetter_59 rfl (vp_nar_int _) (by decide) ?_
      exact ⟨rfl, rfl⟩
    · refine es_tabin (pc := 1) (tgt := 58) (off := 57) dX2_awaitedBehindLetter_1 (by decide) (by decide) (by decide) (by decide) ?_
      refine es_iconstN (pc := 58) 3 dX2_awaitedBehindLetter_58 ic_3 ?_
      refine es_ireturn (pc := 59) dX2_awaitedBehindLetter_59 rfl (vp_nar_int _) (by decide) ?_
      exact ⟨rfl, rfl⟩
    · refine es_tabin (pc := 1) (tgt := 58) (off := 57) dX2_awaitedBehindLetter_1 (by decide) (by decide) (by decide) (by decide) ?_
      refine es_iconstN (pc := 58) 3 dX2_awaitedBehindLetter_58 ic_3 ?_
      refine es_ireturn (pc := 59) dX2_awaitedBehindLetter_59 rfl (vp_nar_int _) (by decide) ?_
      exact ⟨rfl, rfl⟩
    · refine es_tabin (pc := 1) (tgt := 54) (off := 53) dX2_awaitedBehindLetter_1 (by decide) (by decide) (by decide) (by decide) ?_
      refine es_iconstN (pc := 54) 1 dX2_awaitedBehindLetter_54 ic_1 ?_
      refine es_ireturn (pc := 55) dX2_awaitedBehindLetter_55 rfl (vp_nar_int _) (by decide) ?_
      exact ⟨rfl, rfl⟩
    · refine es_tabin (pc := 1) (tgt := 56) (off := 55) dX2_awaitedBehindLetter_1 (by decide) (by decide) (by decide) (by decide) ?_
      refine es_iconstN (pc := 56) 2 dX2_awaitedBehindLetter_56 ic_2 ?_
      refine es_ireturn (pc := 57) dX2_awaitedBehindLetter_57 rfl (vp_nar_int _) (by decide) ?_
      exact ⟨rfl, rfl⟩
    · refine es_tabin (pc := 1) (tgt := 58) (off := 57) dX2_awaitedBehindLetter_1 (by decide) (by decide) (by decide) (by decide) ?_
      refine es_iconstN (pc := 58) 3 dX2_awaitedBehindLetter_58 ic_3 ?_
      refine es_ireturn (pc := 59) dX2_awaitedBehindLetter_59 rfl (vp_nar_int _) (by decide) ?_
      exact ⟨rfl, rfl⟩
    · refine es_tabin (pc := 1) (tgt := 58) (off := 57) dX2_awaitedBehindLetter_1 (by decide) (by decide) (by decide) (by decide) ?_
      refine es_iconstN (pc := 58) 3 dX2_awaitedBehindLetter_58 ic_3 ?_
      refine es_ireturn (pc := 59) dX2_awaitedBehindLetter_59 rfl (vp_nar_int _) (by decide) ?_
      exact ⟨rfl, rfl⟩
    · refine es_tabin (pc := 1) (tgt := 52) (off := 51) dX2_awaitedBehindLetter_1 (by decide) (by decide) (by decide) (by decide) ?_
      refine es_iconstN (pc := 52) 0 dX2_awaitedBehindLetter_52 ic_0 ?_
      refine es_ireturn (pc := 53) dX2_awaitedBehindLetter_53 rfl (vp_nar_int _) (by decide) ?_
      exact ⟨rfl, rfl⟩
set_option maxHeartbeats 2000000 in
set_option maxRecDepth 20000 in
theorem X2_awaitedBehind_ok {d : Nat} {μ : ev_M} {z : Nat} {c : Int32} (hz : z < 3 := by omega) (hd : 2 ≤ d := by omega) : ev_CALL d 4 [.int (nI z), .int c] μ (some (.int (nI (gm_dn z c))), 0) μ := by
  obtain ⟨d, rfl⟩ : ∃ q, d = q + 1 := ⟨d - 1, by omega⟩
  refine SPp.of (Nat.le_of_ble_eq_true rfl) ?_
  show es (ev_CALL d) 2 cX2_awaitedBehind (some .int) 0 (0, fun _ => 0, []) (fun r μ2 => r = (some (.int (nI (gm_dn z c))), 0) ∧ μ2 = μ) 0 [.int (nI z), .int c] [] μ 0
  refine es_iload_n (pc := 0) dX2_awaitedBehind_0 rfl ?_
  rcases (show z = 0 ∨ z = 1 ∨ z = 2 by omega) with rfl | rfl | rfl
  · refine es_look (pc := 1) (tgt := 64) (off := 63) dX2_awaitedBehind_1 (by decide) (by decide) (by decide) ?_
    refine es_iload_n (pc := 64) dX2_awaitedBehind_64 rfl ?_
    refine es_cs1_p (pc := 65) dX2_awaitedBehind_65 mr_2_35 rfl rfl rfl (Nat.le_of_ble_eq_true rfl) (Nat.zero_le _) (X2_awaitedBehindLetter_ok) ?_
    refine es_ireturn (pc := 68) dX2_awaitedBehind_68 rfl (vp_nar_int _) (by decide) ?_
    exact ⟨rfl, rfl⟩
  · refine es_look (pc := 1) (tgt := 28) (off := 27) dX2_awaitedBehind_1 (by decide) (by decide) (by decide) ?_
    refine es_iload_n (pc := 28) dX2_awaitedBehind_28 rfl ?_
    refine es_bipushN (pc := 29) 48 dX2_awaitedBehind_29 bp_48 ?_
    refine es_icmp_lt (pc := 31) (tgt := 44) dX2_awaitedBehind_31 (by decide) (fun c31 => ?_) (fun c31 => ?_)
    · refine es_iconstN (pc := 44) 3 dX2_awaitedBehind_44 ic_3 ?_
      refine es_ireturn (pc := 45) dX2_awaitedBehind_45 rfl (vp_nar_int _) (by decide) ?_
      exact ⟨by first | simp [gm_dn, c31, c37] | simp [gm_dn, c31], rfl⟩
    · refine es_iload_n (pc := 34) dX2_awaitedBehind_34 rfl ?_
      refine es_bipushN (pc := 35) 57 dX2_awaitedBehind_35 bp_57 ?_
      refine es_icmp_gt (pc := 37) (tgt := 44) dX2_awaitedBehind_37 (by decide) (fun c37 => ?_) (fun c37 => ?_)
      · refine es_iconstN (pc := 44) 3 dX2_awaitedBehind_44 ic_3 ?_
        refine es_ireturn (pc := 45) dX2_awaitedBehind_45 rfl (vp_nar_int _) (by decide) ?_
        exact ⟨by first | simp [gm_dn, c31, c37] | simp [gm_dn, c31], rfl⟩
      · refine es_iconstN (pc := 40) 0 dX2_awaitedBehind_40 ic_0 ?_
        refine es_goto (pc := 41) (tgt := 45) dX2_awaitedBehind_41 (by decide) ?_
        refine es_ireturn (pc := 45) dX2_awaitedBehind_45 rfl (vp_nar_int _) (by decide) ?_
        exact ⟨by simp [gm_dn, Int32.not_lt.mp c31, c31, c37], rfl⟩
  · refine es_look (pc := 1) (tgt := 46) (off := 45) dX2_awaitedBehind_1 (by decide) (by decide) (by decide) ?_
    refine es_iload_n (pc := 46) dX2_awaitedBehind_46 rfl ?_
    refine es_bipushN (pc := 47) 48 dX2_awaitedBehind_47 bp_48 ?_
    refine es_icmp_lt (pc := 49) (tgt := 62) dX2_awaitedBehind_49 (by decide) (fun c49 => ?_) (fun c49 => ?_)
    · refine es_iconstN (pc := 62) 3 dX2_awaitedBehind_62 ic_3 ?_
      refine es_ireturn (pc := 63) dX2_awaitedBehind_63 rfl (vp_nar_int _) (by decide) ?_
      exact ⟨by first | simp [gm_dn, c49, c55] | simp [gm_dn, c49], rfl⟩
    · refine es_iload_n (pc := 52) dX2_awaitedBehind_52 rfl ?_
      refine es_bipushN (pc := 53) 51 dX2_awaitedBehind_53 bp_51 ?_
      refine es_icmp_gt (pc := 55) (tgt := 62) dX2_awaitedBehind_55 (by decide) (fun c55 => ?_) (fun c55 => ?_)
      · refine es_iconstN (pc := 62) 3 dX2_awaitedBehind_62 ic_3 ?_
        refine es_ireturn (pc := 63) dX2_awaitedBehind_63 rfl (vp_nar_int _) (by decide) ?_
        exact ⟨by first | simp [gm_dn, c49, c55] | simp [gm_dn, c49], rfl⟩
      · refine es_iconstN (pc := 58) 0 dX2_awaitedBehind_58 ic_0 ?_
        refine es_goto (pc := 59) (tgt := 63) dX2_awaitedBehind_59 (by decide) ?_
        refine es_ireturn (pc := 63) dX2_awaitedBehind_63 rfl (vp_nar_int _) (by decide) ?_
        exact ⟨by simp [gm_dn, c49, c55], rfl⟩
set_option maxHeartbeats 2000000 in
set_option maxRecDepth 20000 in
theorem X2_firstWrong_ok {d : Nat} {μ : ev_M} {n : Nat} (hl : μ 5 1 = nI n) (hn : n ≤ 60 := by omega) (hd : 3 ≤ d := by omega) : ev_CALL d 3 [.ref 5] μ (some (.int (nI (gm_fw (μ 6) n))), 0) μ := by
  obtain ⟨d, rfl⟩ : ∃ q, d = q + 1 := ⟨d - 1, by omega⟩
  refine SPp.of (Nat.le_of_ble_eq_true rfl) ?_
  show es (ev_CALL d) 2 cX2_firstWrong (some .int) 0 (0, fun _ => 0, []) (fun r μ2 => r = (some (.int (nI (gm_fw (μ 6) n))), 0) ∧ μ2 = μ) 0 [.ref 5, .null, .null] [] μ 0
  have hl4 : ∀ (n9 : Nat) (z k : Nat), n9 = n - k → (k ≤ n) → (z < 3) → (gm_fw (μ 6) n = gm_fwk (μ 6) k z (n - k)) → es (ev_CALL d) 2 cX2_firstWrong (some .int) 0 (0, fun _ => 0, []) (fun r μ2 => r = (some (.int (nI (gm_fw (μ 6) n))), 0) ∧ μ2 = μ) 4 [.ref 5, .int (nI z), .int (nI k)] [] μ 0 := by
    intro n9
    induction n9 using Nat.strongRecOn with
    | ind n9 ih4 =>
      intro z k hn9 hk hz hi
      subst hn9
      have ih := ih4
      refine es_iload_n (pc := 4) dX2_firstWrong_4 rfl ?_
      refine es_aload_n (pc := 5) dX2_firstWrong_5 rfl ?_
      refine es_getI (pc := 6) dX2_firstWrong_6 fr_2_15 fld_5_1 ?_
      refine es_top hl ?_
      refine es_icmp_geN (pc := 9) 36 dX2_firstWrong_9 (by decide) (by omega) (by omega) (fun c9 => ?_) (fun c9 => ?_)
      · refine es_aload_n (pc := 36) dX2_firstWrong_36 rfl ?_
        refine es_getI (pc := 37) dX2_firstWrong_37 fr_2_15 fld_5_1 ?_
        refine es_top hl ?_
        refine es_ireturn (pc := 40) dX2_firstWrong_40 rfl (vp_nar_int _) (by decide) ?_
        exact ⟨by rw [hi, show n - k = 0 by omega, gm_fwk, show k = n by omega], rfl⟩
      · refine es_iload_n (pc := 12) dX2_firstWrong_12 rfl ?_
        refine es_aload_n (pc := 13) dX2_firstWrong_13 rfl ?_
        refine es_getR (pc := 14) dX2_firstWrong_14 fr_2_11 fld_5_0 ?_
        refine es_iload_n (pc := 17) dX2_firstWrong_17 rfl ?_
        refine es_iald (pc := 18) dX2_firstWrong_18 lay_6 (by omega) ?_
        refine es_cs2_p (pc := 19) dX2_firstWrong_19 mr_2_19 rfl rfl rfl (Nat.le_of_ble_eq_true rfl) (Nat.zero_le _) (X2_awaitedBehind_ok) ?_
        have hdn := gm_dn_lt (s := z) (c := μ 6 k)
        refine es_istore_n (pc := 22) dX2_firstWrong_22 (ok1_1 rfl) ?_
        refine es_iload_n (pc := 23) dX2_firstWrong_23 rfl ?_
        refine es_iconstN (pc := 24) 3 dX2_firstWrong_24 ic_3 ?_
        refine es_icmp_neN (pc := 25) 30 dX2_firstWrong_25 (by decide) (by omega) (by omega) (fun c25 => ?_) (fun c25 => ?_)
        · refine es_iincN (pc := 30) 1 dX2_firstWrong_30 ic_1 rfl (ok1_2 rfl) ?_
          refine es_goto (pc := 33) (tgt := 4) dX2_firstWrong_33 (by decide) ?_
          exact ih _ (by omega) _ (k + 1) rfl (by omega) (by omega) (by rw [hi, show n - k = (n - (k + 1)) + 1 by omega, gm_fwk, if_neg c25])
        · refine es_iload_n (pc := 28) dX2_firstWrong_28 rfl ?_
          refine es_ireturn (pc := 29) dX2_firstWrong_29 rfl (vp_nar_int _) (by decide) ?_
          exact ⟨by rw [hi, show n - k = (n - (k + 1)) + 1 by omega, gm_fwk, if_pos c25], rfl⟩
  refine es_iconstN (pc := 0) 0 dX2_firstWrong_0 ic_0 ?_
  refine es_istore_n (pc := 1) dX2_firstWrong_1 (ok1_1 rfl) ?_
  refine es_iconstN (pc := 2) 0 dX2_firstWrong_2 ic_0 ?_
  refine es_istore_n (pc := 3) dX2_firstWrong_3 (ok1_2 rfl) ?_
  exact hl4 _ 0 0 rfl (by omega) (by omega) rfl
set_option maxHeartbeats 2000000 in
set_option maxRecDepth 20000 in
theorem X2_needsDigit_ok {d : Nat} {μ : ev_M} {c : Int32} (hd : 1 ≤ d := by omega) : ev_CALL d 74 [.int c] μ (some (.int (bI (gm_nd c))), 0) μ := by
  obtain ⟨d, rfl⟩ : ∃ q, d = q + 1 := ⟨d - 1, by omega⟩
  refine SPp.of (Nat.le_of_ble_eq_true rfl) ?_
  show es (ev_CALL d) 2 cX2_needsDigit (some .boolean) 0 (0, fun _ => 0, []) (fun r μ2 => r = (some (.int (bI (gm_nd c))), 0) ∧ μ2 = μ) 0 [.int c] [] μ 0
  refine es_iload_n (pc := 0) dX2_needsDigit_0 rfl ?_
  refine es_bipushN (pc := 1) 115 dX2_needsDigit_1 bp_115 ?_
  refine es_icmp_eq (pc := 3) (tgt := 12) dX2_needsDigit_3 (by decide) (fun c3 => ?_) (fun c3 => ?_)
  · refine es_iconstN (pc := 12) 1 dX2_needsDigit_12 ic_1 ?_
    refine es_goto (pc := 13) (tgt := 17) dX2_needsDigit_13 (by decide) ?_
    refine es_ireturn (pc := 17) dX2_needsDigit_17 rfl (rfl) (by decide) ?_
    exact ⟨by simp [bI, gm_nd, nI_0, nI_one, *], rfl⟩
  · refine es_iload_n (pc := 6) dX2_needsDigit_6 rfl ?_
    refine es_bipushN (pc := 7) 116 dX2_needsDigit_7 bp_116 ?_
    refine es_icmp_ne (pc := 9) (tgt := 16) dX2_needsDigit_9 (by decide) (fun c9 => ?_) (fun c9 => ?_)
    · refine es_iconstN (pc := 16) 0 dX2_needsDigit_16 ic_0 ?_
      refine es_ireturn (pc := 17) dX2_needsDigit_17 rfl (rfl) (by decide) ?_
      exact ⟨by simp [bI, gm_nd, nI_0, nI_one, *], rfl⟩
    · refine es_iconstN (pc := 12) 1 dX2_needsDigit_12 ic_1 ?_
      refine es_goto (pc := 13) (tgt := 17) dX2_needsDigit_13 (by decide) ?_
      refine es_ireturn (pc := 17) dX2_needsDigit_17 rfl (rfl) (by decide) ?_
      exact ⟨by simp [bI, gm_nd, nI_0, nI_one, *], rfl⟩
theorem gm_fwk_le (f : Nat → Int32) : ∀ n k s, gm_fwk f k s n ≤ k + n
  | 0, k, s => Nat.le_refl _
  | n + 1, k, s => by
    unfold gm_fwk
    split
    · omega
    · have := gm_fwk_le f n (k + 1) (gm_dn s (f k)); omega
theorem gm_fw_le (f : Nat → Int32) (n : Nat) : gm_fw f n ≤ n := by have := gm_fwk_le f n 0 0; unfold gm_fw; omega
set_option maxHeartbeats 2000000 in
set_option maxRecDepth 20000 in
theorem X2_tellsGame_ok {d : Nat} {μ : ev_M} {n : Nat} (hl : μ 5 1 = nI n) (hn : n ≤ 60 := by omega) (hd : 4 ≤ d := by omega) : ev_CALL d 73 [.ref 5] μ (some (.int (bI (gm_tells (μ 6) n))), 0) μ := by
  obtain ⟨d, rfl⟩ : ∃ q, d = q + 1 := ⟨d - 1, by omega⟩
  refine SPp.of (Nat.le_of_ble_eq_true rfl) ?_
  show es (ev_CALL d) 2 cX2_tellsGame (some .boolean) 0 (0, fun _ => 0, []) (fun r μ2 => r = (some (.int (bI (gm_tells (μ 6) n))), 0) ∧ μ2 = μ) 0 [.ref 5] [] μ 0
  refine es_aload_n (pc := 0) dX2_tellsGame_0 rfl ?_
  refine es_getI (pc := 1) dX2_tellsGame_1 fr_2_15 fld_5_1 ?_
  refine es_top hl ?_
  refine es_if_leN (pc := 4) 39 dX2_tellsGame_4 (by decide) (by omega) (fun c4 => ?_) (fun c4 => ?_)
  · refine es_iconstN (pc := 39) 0 dX2_tellsGame_39 ic_0 ?_
    refine es_ireturn (pc := 40) dX2_tellsGame_40 rfl (rfl) (by decide) ?_
    exact ⟨by simp [bI, gm_tells, nI_0, nI_one, *], rfl⟩
  · have hfl := gm_fw_le (μ 6) n
    refine es_aload_n (pc := 7) dX2_tellsGame_7 rfl ?_
    refine es_cv0_p (pc := 8) dX2_tellsGame_8 mr_2_23 rfl rfl (by decide) (by decide) rfl (Nat.le_of_ble_eq_true rfl) (Nat.zero_le _) (X2_firstWrong_ok hl) ?_
    refine es_aload_n (pc := 11) dX2_tellsGame_11 rfl ?_
    refine es_getI (pc := 12) dX2_tellsGame_12 fr_2_15 fld_5_1 ?_
    refine es_top hl ?_
    refine es_icmp_neN (pc := 15) 39 dX2_tellsGame_15 (by decide) (by omega) (by omega) (fun c15 => ?_) (fun c15 => ?_)
    · refine es_iconstN (pc := 39) 0 dX2_tellsGame_39 ic_0 ?_
      refine es_ireturn (pc := 40) dX2_tellsGame_40 rfl (rfl) (by decide) ?_
      exact ⟨by simp [bI, gm_tells, nI_0, nI_one, *], rfl⟩
    · refine es_aload_n (pc := 18) dX2_tellsGame_18 rfl ?_
      refine es_getR (pc := 19) dX2_tellsGame_19 fr_2_11 fld_5_0 ?_
      refine es_aload_n (pc := 22) dX2_tellsGame_22 rfl ?_
      refine es_getI (pc := 23) dX2_tellsGame_23 fr_2_15 fld_5_1 ?_
      refine es_top hl ?_
      refine es_iconstN (pc := 26) 1 dX2_tellsGame_26 ic_1 ?_
      refine es_isubN (pc := 27) dX2_tellsGame_27 (by omega) ?_
      refine es_iald (pc := 28) dX2_tellsGame_28 lay_6 (by omega) ?_
      refine es_cs1_p (pc := 29) dX2_tellsGame_29 mr_2_27 rfl rfl rfl (Nat.le_of_ble_eq_true rfl) (Nat.zero_le _) (X2_needsDigit_ok) ?_
      refine es_if_neB (pc := 32) 39 dX2_tellsGame_32 (by decide) (fun c32 => ?_) (fun c32 => ?_)
      · refine es_iconstN (pc := 39) 0 dX2_tellsGame_39 ic_0 ?_
        refine es_ireturn (pc := 40) dX2_tellsGame_40 rfl (rfl) (by decide) ?_
        exact ⟨by simp [bI, gm_tells, nI_0, nI_one, *], rfl⟩
      · refine es_iconstN (pc := 35) 1 dX2_tellsGame_35 ic_1 ?_
        refine es_goto (pc := 36) (tgt := 40) dX2_tellsGame_36 (by decide) ?_
        refine es_ireturn (pc := 40) dX2_tellsGame_40 rfl (rfl) (by decide) ?_
        exact ⟨by simp [bI, gm_tells, nI_0, nI_one, *], rfl⟩
set_option maxHeartbeats 2000000 in
set_option maxRecDepth 20000 in
theorem X2_codeAt_ok {d : Nat} {μ : ev_M} {n i : Nat} (hl : μ 5 1 = nI n) (hn : n ≤ 60 := by omega) (hi : i < 200 := by omega) (hd : 1 ≤ d := by omega) : ev_CALL d 40 [.ref 5, .int (nI i)] μ (some (.int (gm_cd (μ 6) n i)), 0) μ := by
  obtain ⟨d, rfl⟩ : ∃ q, d = q + 1 := ⟨d - 1, by omega⟩
  refine SPp.of (Nat.le_of_ble_eq_true rfl) ?_
  show es (ev_CALL d) 2 cX2_codeAt (some .int) 0 (0, fun _ => 0, []) (fun r μ2 => r = (some (.int (gm_cd (μ 6) n i)), 0) ∧ μ2 = μ) 0 [.ref 5, .int (nI i)] [] μ 0
  refine es_iload_n (pc := 0) dX2_codeAt_0 rfl ?_
  refine es_if_ltN (pc := 1) 21 dX2_codeAt_1 (by decide) (by omega) (fun c1 => ?_) (fun c1 => ?_)
  · exact absurd c1 (by simp)
  · refine es_iload_n (pc := 4) dX2_codeAt_4 rfl ?_
    refine es_aload_n (pc := 5) dX2_codeAt_5 rfl ?_
    refine es_getI (pc := 6) dX2_codeAt_6 fr_2_15 fld_5_1 ?_
    refine es_top hl ?_
    refine es_icmp_geN (pc := 9) 21 dX2_codeAt_9 (by decide) (by omega) (by omega) (fun c9 => ?_) (fun c9 => ?_)
    · refine es_iconstM (pc := 21) dX2_codeAt_21 (-1) ic_m1 ?_
      refine es_ireturn (pc := 22) dX2_codeAt_22 rfl (vp_nar_int _) (by decide) ?_
      exact ⟨by rw [gm_cd, if_neg (by omega)], rfl⟩
    · refine es_aload_n (pc := 12) dX2_codeAt_12 rfl ?_
      refine es_getR (pc := 13) dX2_codeAt_13 fr_2_11 fld_5_0 ?_
      refine es_iload_n (pc := 16) dX2_codeAt_16 rfl ?_
      refine es_iald (pc := 17) dX2_codeAt_17 lay_6 (by omega) ?_
      refine es_goto (pc := 18) (tgt := 22) dX2_codeAt_18 (by decide) ?_
      refine es_ireturn (pc := 22) dX2_codeAt_22 rfl (vp_nar_int _) (by decide) ?_
      exact ⟨by simp [gm_cd, *], rfl⟩
set_option maxHeartbeats 2000000 in
set_option maxRecDepth 20000 in
theorem X2_digitAt_ok {d : Nat} {μ : ev_M} {n i : Nat} (hl : μ 5 1 = nI n) (hn : n ≤ 60 := by omega) (hi : i < 200 := by omega) (hd : 2 ≤ d := by omega) : ev_CALL d 75 [.ref 5, .int (nI i)] μ (some (.int (gm_dg (gm_cd (μ 6) n i))), 0) μ := by
  obtain ⟨d, rfl⟩ : ∃ q, d = q + 1 := ⟨d - 1, by omega⟩
  refine SPp.of (Nat.le_of_ble_eq_true rfl) ?_
  show es (ev_CALL d) 2 cX2_digitAt (some .int) 0 (0, fun _ => 0, []) (fun r μ2 => r = (some (.int (gm_dg (gm_cd (μ 6) n i))), 0) ∧ μ2 = μ) 0 [.ref 5, .int (nI i), .null] [] μ 0
  refine es_aload_n (pc := 0) dX2_digitAt_0 rfl ?_
  refine es_iload_n (pc := 1) dX2_digitAt_1 rfl ?_
  refine es_cv1_p (pc := 2) dX2_digitAt_2 mr_2_31 rfl rfl (by decide) (by decide) rfl (Nat.le_of_ble_eq_true rfl) (Nat.zero_le _) (X2_codeAt_ok hl) ?_
  refine es_istore_n (pc := 5) dX2_digitAt_5 (ok1_2 rfl) ?_
  refine es_iload_n (pc := 6) dX2_digitAt_6 rfl ?_
  refine es_bipushN (pc := 7) 48 dX2_digitAt_7 bp_48 ?_
  refine es_icmp_lt (pc := 9) (tgt := 25) dX2_digitAt_9 (by decide) (fun c9 => ?_) (fun c9 => ?_)
  · refine es_iconstM (pc := 25) dX2_digitAt_25 (-1) ic_m1 ?_
    refine es_ireturn (pc := 26) dX2_digitAt_26 rfl (vp_nar_int _) (by decide) ?_
    exact ⟨by first | simp [gm_dg, c9, c15] | simp [gm_dg, c9], rfl⟩
  · refine es_iload_n (pc := 12) dX2_digitAt_12 rfl ?_
    refine es_bipushN (pc := 13) 57 dX2_digitAt_13 bp_57 ?_
    refine es_icmp_gt (pc := 15) (tgt := 25) dX2_digitAt_15 (by decide) (fun c15 => ?_) (fun c15 => ?_)
    · refine es_iconstM (pc := 25) dX2_digitAt_25 (-1) ic_m1 ?_
      refine es_ireturn (pc := 26) dX2_digitAt_26 rfl (vp_nar_int _) (by decide) ?_
      exact ⟨by first | simp [gm_dg, c9, c15] | simp [gm_dg, c9], rfl⟩
    · refine es_iload_n (pc := 18) dX2_digitAt_18 rfl ?_
      refine es_bipushN (pc := 19) 48 dX2_digitAt_19 bp_48 ?_
      refine es_isub (pc := 21) dX2_digitAt_21 ?_
      refine es_goto (pc := 22) (tgt := 26) dX2_digitAt_22 (by decide) ?_
      refine es_ireturn (pc := 26) dX2_digitAt_26 rfl (vp_nar_int _) (by decide) ?_
      exact ⟨by simp [gm_dg, c9, c15], rfl⟩
set_option maxHeartbeats 2000000 in
set_option maxRecDepth 20000 in
theorem X2_widthOfMove_ok {d : Nat} {μ : ev_M} {n i : Nat} (hl : μ 5 1 = nI n) (hn : n ≤ 60 := by omega) (hi : i < 200 := by omega) (hd : 2 ≤ d := by omega) : ev_CALL d 77 [.ref 5, .int (nI i)] μ (some (.int (nI (gm_wd (gm_cd (μ 6) n i)))), 0) μ := by
  obtain ⟨d, rfl⟩ : ∃ q, d = q + 1 := ⟨d - 1, by omega⟩
  refine SPp.of (Nat.le_of_ble_eq_true rfl) ?_
  show es (ev_CALL d) 2 cX2_widthOfMove (some .int) 0 (0, fun _ => 0, []) (fun r μ2 => r = (some (.int (nI (gm_wd (gm_cd (μ 6) n i)))), 0) ∧ μ2 = μ) 0 [.ref 5, .int (nI i)] [] μ 0
  refine es_aload_n (pc := 0) dX2_widthOfMove_0 rfl ?_
  refine es_iload_n (pc := 1) dX2_widthOfMove_1 rfl ?_
  refine es_cv1_p (pc := 2) dX2_widthOfMove_2 mr_2_31 rfl rfl (by decide) (by decide) rfl (Nat.le_of_ble_eq_true rfl) (Nat.zero_le _) (X2_codeAt_ok hl) ?_
  refine es_cs1_p (pc := 5) dX2_widthOfMove_5 mr_2_27 rfl rfl rfl (Nat.le_of_ble_eq_true rfl) (Nat.zero_le _) (X2_needsDigit_ok) ?_
  refine es_if_eqB (pc := 8) 15 dX2_widthOfMove_8 (by decide) (fun c8 => ?_) (fun c8 => ?_)
  · refine es_iconstN (pc := 15) 1 dX2_widthOfMove_15 ic_1 ?_
    refine es_ireturn (pc := 16) dX2_widthOfMove_16 rfl (vp_nar_int _) (by decide) ?_
    exact ⟨by simp [gm_wd, c8], rfl⟩
  · refine es_iconstN (pc := 11) 2 dX2_widthOfMove_11 ic_2 ?_
    refine es_goto (pc := 12) (tgt := 16) dX2_widthOfMove_12 (by decide) ?_
    refine es_ireturn (pc := 16) dX2_widthOfMove_16 rfl (vp_nar_int _) (by decide) ?_
    exact ⟨by simp [gm_wd, c8], rfl⟩
def gm_o2 (n ol : Nat) : Nat := if n = 6 then (ol + 1) % 6 else ol
def gm_n2 (n : Nat) : Nat := if n = 6 then 5 else n
set_option maxHeartbeats 2000000 in
set_option maxRecDepth 20000 in
theorem X1_save_ok {d : Nat} {μ : ev_M} {n ol : Nat} (hh : μ 3 2 = nI n) (ho : μ 3 1 = nI ol) (hn : n ≤ 6 := by omega) (ho6 : ol < 6 := by omega) (hd : 2 ≤ d := by omega) : SPv (ev_CALL d) 44 [.ref 3, .ref 44] μ (fun μ2 => μ2 3 1 = nI (gm_o2 n ol) ∧ μ2 3 2 = nI (gm_n2 n + 1) ∧ gR μ2 (77 + 11 * ((gm_o2 n ol + gm_n2 n) % 6)) = gR μ 44 ∧ ∀ k, k ≠ 3 → (k < 77 + 11 * ((gm_o2 n ol + gm_n2 n) % 6) ∨ 77 + 11 * ((gm_o2 n ol + gm_n2 n) % 6) + 11 ≤ k) → μ2 k = μ k) := by
  obtain ⟨d, rfl⟩ : ∃ q, d = q + 1 := ⟨d - 1, by omega⟩
  refine SPv.of (Nat.le_of_ble_eq_true rfl) ?_
  show es (ev_CALL d) 1 cX1_save none 0 (0, fun _ => 0, []) (fun r μ2 => r = (none, 0) ∧ (fun μ2 => μ2 3 1 = nI (gm_o2 n ol) ∧ μ2 3 2 = nI (gm_n2 n + 1) ∧ gR μ2 (77 + 11 * ((gm_o2 n ol + gm_n2 n) % 6)) = gR μ 44 ∧ ∀ k, k ≠ 3 → (k < 77 + 11 * ((gm_o2 n ol + gm_n2 n) % 6) ∨ 77 + 11 * ((gm_o2 n ol + gm_n2 n) % 6) + 11 ≤ k) → μ2 k = μ k) μ2) 0 [.ref 3, .ref 44] [] μ 0
  have hl32 : ∀ (ν : ev_M), (ν 3 1 = nI (gm_o2 n ol)) → (ν 3 2 = nI (gm_n2 n)) → (∀ k, k ≠ 3 → ν k = μ k) → es (ev_CALL d) 1 cX1_save none 0 (0, fun _ => 0, []) (fun r μ2 => r = (none, 0) ∧ (fun μ2 => μ2 3 1 = nI (gm_o2 n ol) ∧ μ2 3 2 = nI (gm_n2 n + 1) ∧ gR μ2 (77 + 11 * ((gm_o2 n ol + gm_n2 n) % 6)) = gR μ 44 ∧ ∀ k, k ≠ 3 → (k < 77 + 11 * ((gm_o2 n ol + gm_n2 n) % 6) ∨ 77 + 11 * ((gm_o2 n ol + gm_n2 n) % 6) + 11 ≤ k) → μ2 k = μ k) μ2) 32 [.ref 3, .ref 44] [] ν 0 := by
    intro ν h1 h2 h3
    have ho2 : gm_o2 n ol < 6 := by unfold gm_o2; split <;> omega
    have hn2 : gm_n2 n ≤ 5 := by unfold gm_n2; split <;> omega
    refine es_aload_n (pc := 32) dX1_save_32 rfl ?_
    refine es_getR (pc := 33) dX1_save_33 fr_1_11 fld_3_0 ?_
    refine es_aload_n (pc := 36) dX1_save_36 rfl ?_
    refine es_getI (pc := 37) dX1_save_37 fr_1_15 fld_3_1 ?_
    refine es_top h1 ?_
    refine es_aload_n (pc := 40) dX1_save_40 rfl ?_
    refine es_getI (pc := 41) dX1_save_41 fr_1_19 fld_3_2 ?_
    refine es_top h2 ?_
    refine es_iaddN (pc := 44) dX1_save_44 ?_
    refine es_bipushN (pc := 45) 6 dX1_save_45 bp_6 ?_
    refine es_iremN (pc := 47) dX1_save_47 (by omega) (by omega) (by omega) ?_
    generalize hi9 : (gm_o2 n ol + gm_n2 n) % 6 = i9
    rcases (show i9 = 0 ∨ i9 = 1 ∨ i9 = 2 ∨ i9 = 3 ∨ i9 = 4 ∨ i9 = 5 by omega) with rfl | rfl | rfl | rfl | rfl | rfl
    · skip
      refine es_aald (pc := 48) dX1_save_48 lay_4 (by omega) (rfl) ?_
      refine es_aload_n (pc := 49) dX1_save_49 rfl ?_
      refine es_cv1_v (pc := 50) dX1_save_50 mr_1_23 rfl rfl (by decide) (by decide) rfl (Nat.le_of_ble_eq_true rfl) (Nat.zero_le _) (X0_become_77_44) (fun μ50 h50 => ?_)
      obtain ⟨g1, g2⟩ := h50
      have hh3 : μ50 3 2 = nI (gm_n2 n) := by rw [g2 3 (by omega)]; exact h2
      refine es_aload_n (pc := 53) dX1_save_53 rfl ?_
      refine es_dup (pc := 54) dX1_save_54 rfl ?_
      refine es_getI (pc := 55) dX1_save_55 fr_1_19 fld_3_2 ?_
      refine es_top hh3 ?_
      refine es_iconstN (pc := 58) 1 dX1_save_58 ic_1 ?_
      refine es_iaddN (pc := 59) dX1_save_59 ?_
      refine es_putI (pc := 60) dX1_save_60 fr_1_19 fld_3_2 ?_
      refine es_vreturn (pc := 63) dX1_save_63 rfl (by decide) ?_
      refine ⟨rfl, ?_, ?_, ?_, ?_⟩
      · simp only [ms_full]; simp; rw [g2 3 (by omega)]; exact h1
      · simp [ms_full]
      · rw [gR_wo (by omega), g1]
        funext j
        simp only [gR]
        rw [h3 44 (by decide), h3 (44 + 1) (by decide), h3 (44 + 2) (by decide), h3 (44 + 3) (by decide), h3 _ (by omega)]
      · intro k hk hk2
        rw [ms_ne hk, g2 k (by omega), h3 k hk]
    · skip
      refine es_aald (pc := 48) dX1_save_48 lay_4 (by omega) (rfl) ?_
      refine es_aload_n (pc := 49) dX1_save_49 rfl ?_
      refine es_cv1_v (pc := 50) dX1_save_50 mr_1_23 rfl rfl (by decide) (by decide) rfl (Nat.le_of_ble_eq_true rfl) (Nat.zero_le _) (X0_become_88_44) (fun μ50 h50 => ?_)
      obtain ⟨g1, g2⟩ := h50
      have hh3 : μ50 3 2 = nI (gm_n2 n) := by rw [g2 3 (by omega)]; exact h2
      refine es_aload_n (pc := 53) dX1_save_53 rfl ?_
      refine es_dup (pc := 54) dX1_save_54 rfl ?_
      refine es_getI (pc := 55) dX1_save_55 fr_1_19 fld_3_2 ?_
      refine es_top hh3 ?_
      refine es_iconstN (pc := 58) 1 dX1_save_58 ic_1 ?_
      refine es_iaddN (pc := 59) dX1_save_59 ?_
      refine es_putI (pc := 60) dX1_save_60 fr_1_19 fld_3_2 ?_
      refine es_vreturn (pc := 63) dX1_save_63 rfl (by decide) ?_
      refine ⟨rfl, ?_, ?_, ?_, ?_⟩
      · simp only [ms_full]; simp; rw [g2 3 (by omega)]; exact h1
      · simp [ms_full]
      · rw [gR_wo (by omega), g1]
        funext j
        simp only [gR]
        rw [h3 44 (by decide), h3 (44 + 1) (by decide), h3 (44 + 2) (by decide), h3 (44 + 3) (by decide), h3 _ (by omega)]
      · intro k hk hk2
        rw [ms_ne hk, g2 k (by omega), h3 k hk]
    · skip
      refine es_aald (pc := 48) dX1_save_48 lay_4 (by omega) (rfl) ?_
      refine es_aload_n (pc := 49) dX1_save_49 rfl ?_
      refine es_cv1_v (pc := 50) dX1_save_50 mr_1_23 rfl rfl (by decide) (by decide) rfl (Nat.le_of_ble_eq_true rfl) (Nat.zero_le _) (X0_become_99_44) (fun μ50 h50 => ?_)
      obtain ⟨g1, g2⟩ := h50
      have hh3 : μ50 3 2 = nI (gm_n2 n) := by rw [g2 3 (by omega)]; exact h2
      refine es_aload_n (pc := 53) dX1_save_53 rfl ?_
      refine es_dup (pc := 54) dX1_save_54 rfl ?_
      refine es_getI (pc := 55) dX1_save_55 fr_1_19 fld_3_2 ?_
      refine es_top hh3 ?_
      refine es_iconstN (pc := 58) 1 dX1_save_58 ic_1 ?_
      refine es_iaddN (pc := 59) dX1_save_59 ?_
      refine es_putI (pc := 60) dX1_save_60 fr_1_19 fld_3_2 ?_
      refine es_vreturn (pc := 63) dX1_save_63 rfl (by decide) ?_
      refine ⟨rfl, ?_, ?_, ?_, ?_⟩
      · simp only [ms_full]; simp; rw [g2 3 (by omega)]; exact h1
      · simp [ms_full]
      · rw [gR_wo (by omega), g1]
        funext j
        simp only [gR]
        rw [h3 44 (by decide), h3 (44 + 1) (by decide), h3 (44 + 2) (by decide), h3 (44 + 3) (by decide), h3 _ (by omega)]
      · intro k hk hk2
        rw [ms_ne hk, g2 k (by omega), h3 k hk]
    · skip
      refine es_aald (pc := 48) dX1_save_48 lay_4 (by omega) (rfl) ?_
      refine es_aload_n (pc := 49) dX1_save_49 rfl ?_
      refine es_cv1_v (pc := 50) dX1_save_50 mr_1_23 rfl rfl (by decide) (by decide) rfl (Nat.le_of_ble_eq_true rfl) (Nat.zero_le _) (X0_become_110_44) (fun μ50 h50 => ?_)
      obtain ⟨g1, g2⟩ := h50
      have hh3 : μ50 3 2 = nI (gm_n2 n) := by rw [g2 3 (by omega)]; exact h2
      refine es_aload_n (pc := 53) dX1_save_53 rfl ?_
      refine es_dup (pc := 54) dX1_save_54 rfl ?_
      refine es_getI (pc := 55) dX1_save_55 fr_1_19 fld_3_2 ?_
      refine es_top hh3 ?_
      refine es_iconstN (pc := 58) 1 dX1_save_58 ic_1 ?_
      refine es_iaddN (pc := 59) dX1_save_59 ?_
      refine es_putI (pc := 60) dX1_save_60 fr_1_19 fld_3_2 ?_
      refine es_vreturn (pc := 63) dX1_save_63 rfl (by decide) ?_
      refine ⟨rfl, ?_, ?_, ?_, ?_⟩
      · simp only [ms_full]; simp; rw [g2 3 (by omega)]; exact h1
      · simp [ms_full]
      · rw [gR_wo (by omega), g1]
        funext j
        simp only [gR]
        rw [h3 44 (by decide), h3 (44 + 1) (by decide), h3 (44 + 2) (by decide), h3 (44 + 3) (by decide), h3 _ (by omega)]
      · intro k hk hk2
        rw [ms_ne hk, g2 k (by omega), h3 k hk]
    · skip
      refine es_aald (pc := 48) dX1_save_48 lay_4 (by omega) (rfl) ?_
      refine es_aload_n (pc := 49) dX1_save_49 rfl ?_
      refine es_cv1_v (pc := 50) dX1_save_50 mr_1_23 rfl rfl (by decide) (by decide) rfl (Nat.le_of_ble_eq_true rfl) (Nat.zero_le _) (X0_become_121_44) (fun μ50 h50 => ?_)
      obtain ⟨g1, g2⟩ := h50
      have hh3 : μ50 3 2 = nI (gm_n2 n) := by rw [g2 3 (by omega)]; exact h2
      refine es_aload_n (pc := 53) dX1_save_53 rfl ?_
      refine es_dup (pc := 54) dX1_save_54 rfl ?_
      refine es_getI (pc := 55) dX1_save_55 fr_1_19 fld_3_2 ?_
      refine es_top hh3 ?_
      refine es_iconstN (pc := 58) 1 dX1_save_58 ic_1 ?_
      refine es_iaddN (pc := 59) dX1_save_59 ?_
      refine es_putI (pc := 60) dX1_save_60 fr_1_19 fld_3_2 ?_
      refine es_vreturn (pc := 63) dX1_save_63 rfl (by decide) ?_
      refine ⟨rfl, ?_, ?_, ?_, ?_⟩
      · simp only [ms_full]; simp; rw [g2 3 (by omega)]; exact h1
      · simp [ms_full]
      · rw [gR_wo (by omega), g1]
        funext j
        simp only [gR]
        rw [h3 44 (by decide), h3 (44 + 1) (by decide), h3 (44 + 2) (by decide), h3 (44 + 3) (by decide), h3 _ (by omega)]
      · intro k hk hk2
        rw [ms_ne hk, g2 k (by omega), h3 k hk]
    · skip
      refine es_aald (pc := 48) dX1_save_48 lay_4 (by omega) (rfl) ?_
      refine es_aload_n (pc := 49) dX1_save_49 rfl ?_
      refine es_cv1_v (pc := 50) dX1_save_50 mr_1_23 rfl rfl (by decide) (by decide) rfl (Nat.le_of_ble_eq_true rfl) (Nat.zero_le _) (X0_become_132_44) (fun μ50 h50 => ?_)
      obtain ⟨g1, g2⟩ := h50
      have hh3 : μ50 3 2 = nI (gm_n2 n) := by rw [g2 3 (by omega)]; exact h2
      refine es_aload_n (pc := 53) dX1_save_53 rfl ?_
      refine es_dup (pc := 54) dX1_save_54 rfl ?_
      refine es_getI (pc := 55) dX1_save_55 fr_1_19 fld_3_2 ?_
      refine es_top hh3 ?_
      refine es_iconstN (pc := 58) 1 dX1_save_58 ic_1 ?_
      refine es_iaddN (pc := 59) dX1_save_59 ?_
      refine es_putI (pc := 60) dX1_save_60 fr_1_19 fld_3_2 ?_
      refine es_vreturn (pc := 63) dX1_save_63 rfl (by decide) ?_
      refine ⟨rfl, ?_, ?_, ?_, ?_⟩
      · simp only [ms_full]; simp; rw [g2 3 (by omega)]; exact h1
      · simp [ms_full]
      · rw [gR_wo (by omega), g1]
        funext j
        simp only [gR]
        rw [h3 44 (by decide), h3 (44 + 1) (by decide), h3 (44 + 2) (by decide), h3 (44 + 3) (by decide), h3 _ (by omega)]
      · intro k hk hk2
        rw [ms_ne hk, g2 k (by omega), h3 k hk]
  refine es_aload_n (pc := 0) dX1_save_0 rfl ?_
  refine es_getI (pc := 1) dX1_save_1 fr_1_19 fld_3_2 ?_
  refine es_top hh ?_
  refine es_bipushN (pc := 4) 6 dX1_save_4 bp_6 ?_
  refine es_icmp_neN (pc := 6) 32 dX1_save_6 (by decide) (by omega) (by omega) (fun c6 => ?_) (fun c6 => ?_)
  · have e1 : gm_o2 n ol = ol := by rw [gm_o2, if_neg c6]
    have e2 : gm_n2 n = n := by rw [gm_n2, if_neg c6]
    exact hl32 _ (by rw [e1, ho]) (by rw [e2, hh]) (fun _ _ => rfl)
  · have e1 : gm_o2 n ol = (ol + 1) % 6 := by rw [gm_o2, if_pos c6]
    have e2 : gm_n2 n = 5 := by rw [gm_n2, if_pos c6]
    refine es_aload_n (pc := 9) dX1_save_9 rfl ?_
    refine es_aload_n (pc := 10) dX1_save_10 rfl ?_
    refine es_getI (pc := 11) dX1_save_11 fr_1_15 fld_3_1 ?_
    refine es_top ho ?_
    refine es_iconstN (pc := 14) 1 dX1_save_14 ic_1 ?_
    refine es_iaddN (pc := 15) dX1_save_15 ?_
    refine es_bipushN (pc := 16) 6 dX1_save_16 bp_6 ?_
    refine es_iremN (pc := 18) dX1_save_18 (by omega) (by omega) (by omega) ?_
    refine es_putI (pc := 19) dX1_save_19 fr_1_15 fld_3_1 ?_
    refine es_aload_n (pc := 22) dX1_save_22 rfl ?_
    refine es_dup (pc := 23) dX1_save_23 rfl ?_
    refine es_getI (pc := 24) dX1_save_24 fr_1_19 fld_3_2 ?_
    refine es_top hh ?_
    refine es_iconstN (pc := 27) 1 dX1_save_27 ic_1 ?_
    refine es_isubN (pc := 28) dX1_save_28 (by omega) ?_
    refine es_putI (pc := 29) dX1_save_29 fr_1_19 fld_3_2 ?_
    exact hl32 _ (by rw [e1]; simp [ms_full]) (by rw [e2]; simp [ms_full, c6]) (fun k hk => by rw [ms_ne hk, ms_ne hk])
set_option maxHeartbeats 2000000 in
set_option maxRecDepth 20000 in
theorem X1_restoreLatest_ok {d : Nat} {μ : ev_M} {n ol : Nat} (hh : μ 3 2 = nI n) (ho : μ 3 1 = nI ol) (hn : n ≤ 6 := by omega) (hn0 : 0 < n := by omega) (ho6 : ol < 6 := by omega) (hd : 2 ≤ d := by omega) : SPv (ev_CALL d) 84 [.ref 3, .ref 44] μ (fun μ2 => μ2 3 1 = nI ol ∧ μ2 3 2 = nI (n - 1) ∧ gR μ2 44 = gR μ (77 + 11 * ((ol + (n - 1)) % 6)) ∧ ∀ k, k ≠ 3 → (k < 44 ∨ 55 ≤ k) → μ2 k = μ k) := by
  obtain ⟨d, rfl⟩ : ∃ q, d = q + 1 := ⟨d - 1, by omega⟩
  refine SPv.of (Nat.le_of_ble_eq_true rfl) ?_
  show es (ev_CALL d) 1 cX1_restoreLatest none 0 (0, fun _ => 0, []) (fun r μ2 => r = (none, 0) ∧ (fun μ2 => μ2 3 1 = nI ol ∧ μ2 3 2 = nI (n - 1) ∧ gR μ2 44 = gR μ (77 + 11 * ((ol + (n - 1)) % 6)) ∧ ∀ k, k ≠ 3 → (k < 44 ∨ 55 ≤ k) → μ2 k = μ k) μ2) 0 [.ref 3, .ref 44] [] μ 0
  refine es_aload_n (pc := 0) dX1_restoreLatest_0 rfl ?_
  refine es_getI (pc := 1) dX1_restoreLatest_1 fr_1_19 fld_3_2 ?_
  refine es_top hh ?_
  refine es_if_leN (pc := 4) 38 dX1_restoreLatest_4 (by decide) (by omega) (fun c4 => ?_) (fun c4 => ?_)
  · exact absurd c4 (by omega)
  · refine es_aload_n (pc := 7) dX1_restoreLatest_7 rfl ?_
    refine es_dup (pc := 8) dX1_restoreLatest_8 rfl ?_
    refine es_getI (pc := 9) dX1_restoreLatest_9 fr_1_19 fld_3_2 ?_
    refine es_top hh ?_
    refine es_iconstN (pc := 12) 1 dX1_restoreLatest_12 ic_1 ?_
    refine es_isubN (pc := 13) dX1_restoreLatest_13 (by omega) ?_
    refine es_putI (pc := 14) dX1_restoreLatest_14 fr_1_19 fld_3_2 ?_
    refine es_aload_n (pc := 17) dX1_restoreLatest_17 rfl ?_
    refine es_aload_n (pc := 18) dX1_restoreLatest_18 rfl ?_
    refine es_getR (pc := 19) dX1_restoreLatest_19 fr_1_11 fld_3_0 ?_
    refine es_aload_n (pc := 22) dX1_restoreLatest_22 rfl ?_
    refine es_getI (pc := 23) dX1_restoreLatest_23 fr_1_15 fld_3_1 ?_
    refine es_top ho ?_
    refine es_aload_n (pc := 26) dX1_restoreLatest_26 rfl ?_
    refine es_getI (pc := 27) dX1_restoreLatest_27 fr_1_19 fld_3_2 ?_
    refine es_top (show ev_ms μ 3 2 (nI (n - 1)) 3 2 = nI (n - 1) by simp [ms_full]) ?_
    refine es_iaddN (pc := 30) dX1_restoreLatest_30 ?_
    refine es_bipushN (pc := 31) 6 dX1_restoreLatest_31 bp_6 ?_
    refine es_iremN (pc := 33) dX1_restoreLatest_33 (by omega) (by omega) (by omega) ?_
    generalize hi9 : (ol + (n - 1)) % 6 = i9
    rcases (show i9 = 0 ∨ i9 = 1 ∨ i9 = 2 ∨ i9 = 3 ∨ i9 = 4 ∨ i9 = 5 by omega) with rfl | rfl | rfl | rfl | rfl | rfl
    · skip
      refine es_aald (pc := 34) dX1_restoreLatest_34 lay_4 (by omega) (rfl) ?_
      refine es_cv1_v (pc := 35) dX1_restoreLatest_35 mr_1_23 rfl rfl (by decide) (by decide) rfl (Nat.le_of_ble_eq_true rfl) (Nat.zero_le _) (X0_become_44_77) (fun μ35 h35 => ?_)
      obtain ⟨g1, g2⟩ := h35
      refine es_vreturn (pc := 38) dX1_restoreLatest_38 rfl (by decide) ?_
      refine ⟨rfl, ?_, ?_, ?_, ?_⟩
      · rw [g2 3 (by omega)]; simp [ms_full, ho]
      · rw [g2 3 (by omega)]; simp [ms_full]
      · rw [g1, gR_wo (by omega)]
      · intro k hk hk2
        rw [g2 k (by omega), ms_ne hk]
    · skip
      refine es_aald (pc := 34) dX1_restoreLatest_34 lay_4 (by omega) (rfl) ?_
      refine es_cv1_v (pc := 35) dX1_restoreLatest_35 mr_1_23 rfl rfl (by decide) (by decide) rfl (Nat.le_of_ble_eq_true rfl) (Nat.zero_le _) (X0_become_44_88) (fun μ35 h35 => ?_)
      obtain ⟨g1, g2⟩ := h35
      refine es_vreturn (pc := 38) dX1_restoreLatest_38 rfl (by decide) ?_
      refine ⟨rfl, ?_, ?_, ?_, ?_⟩
      · rw [g2 3 (by omega)]; simp [ms_full, ho]
      · rw [g2 3 (by omega)]; simp [ms_full]
      · rw [g1, gR_wo (by omega)]
      · intro k hk hk2
        rw [g2 k (by omega), ms_ne hk]
    · skip
      refine es_aald (pc := 34) dX1_restoreLatest_34 lay_4 (by omega) (rfl) ?_
      refine es_cv1_v (pc := 35) dX1_restoreLatest_35 mr_1_23 rfl rfl (by decide) (by decide) rfl (Nat.le_of_ble_eq_true rfl) (Nat.zero_le _) (X0_become_44_99) (fun μ35 h35 => ?_)
      obtain ⟨g1, g2⟩ := h35
      refine es_vreturn (pc := 38) dX1_restoreLatest_38 rfl (by decide) ?_
      refine ⟨rfl, ?_, ?_, ?_, ?_⟩
      · rw [g2 3 (by omega)]; simp [ms_full, ho]
      · rw [g2 3 (by omega)]; simp [ms_full]
      · rw [g1, gR_wo (by omega)]
      · intro k hk hk2
        rw [g2 k (by omega), ms_ne hk]
    · skip
      refine es_aald (pc := 34) dX1_restoreLatest_34 lay_4 (by omega) (rfl) ?_
      refine es_cv1_v (pc := 35) dX1_restoreLatest_35 mr_1_23 rfl rfl (by decide) (by decide) rfl (Nat.le_of_ble_eq_true rfl) (Nat.zero_le _) (X0_become_44_110) (fun μ35 h35 => ?_)
      obtain ⟨g1, g2⟩ := h35
      refine es_vreturn (pc := 38) dX1_restoreLatest_38 rfl (by decide) ?_
      refine ⟨rfl, ?_, ?_, ?_, ?_⟩
      · rw [g2 3 (by omega)]; simp [ms_full, ho]
      · rw [g2 3 (by omega)]; simp [ms_full]
      · rw [g1, gR_wo (by omega)]
      · intro k hk hk2
        rw [g2 k (by omega), ms_ne hk]
    · skip
      refine es_aald (pc := 34) dX1_restoreLatest_34 lay_4 (by omega) (rfl) ?_
      refine es_cv1_v (pc := 35) dX1_restoreLatest_35 mr_1_23 rfl rfl (by decide) (by decide) rfl (Nat.le_of_ble_eq_true rfl) (Nat.zero_le _) (X0_become_44_121) (fun μ35 h35 => ?_)
      obtain ⟨g1, g2⟩ := h35
      refine es_vreturn (pc := 38) dX1_restoreLatest_38 rfl (by decide) ?_
      refine ⟨rfl, ?_, ?_, ?_, ?_⟩
      · rw [g2 3 (by omega)]; simp [ms_full, ho]
      · rw [g2 3 (by omega)]; simp [ms_full]
      · rw [g1, gR_wo (by omega)]
      · intro k hk hk2
        rw [g2 k (by omega), ms_ne hk]
    · skip
      refine es_aald (pc := 34) dX1_restoreLatest_34 lay_4 (by omega) (rfl) ?_
      refine es_cv1_v (pc := 35) dX1_restoreLatest_35 mr_1_23 rfl rfl (by decide) (by decide) rfl (Nat.le_of_ble_eq_true rfl) (Nat.zero_le _) (X0_become_44_132) (fun μ35 h35 => ?_)
      obtain ⟨g1, g2⟩ := h35
      refine es_vreturn (pc := 38) dX1_restoreLatest_38 rfl (by decide) ?_
      refine ⟨rfl, ?_, ?_, ?_, ?_⟩
      · rw [g2 3 (by omega)]; simp [ms_full, ho]
      · rw [g2 3 (by omega)]; simp [ms_full]
      · rw [g1, gR_wo (by omega)]
      · intro k hk hk2
        rw [g2 k (by omega), ms_ne hk]
