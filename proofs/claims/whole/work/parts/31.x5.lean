def mCd (f : Nat → Int32) (n k : Nat) : Int32 := if k < n then f k else nI 0
def rMv (f : Nat → Int32) (n k : Nat) : Int32 := if mCd f n k = nI 119 ∨ mCd f n k = nI 111 then nI 1 else if mCd f n k ≠ nI 115 ∧ mCd f n k ≠ nI 116 then -10 else if (decide (nI 48 ≤ mCd f n (k + 1)) && decide (mCd f n (k + 1) ≤ (if mCd f n k = nI 115 then nI 57 else nI 51))) = true then nI 2 else -9
/-- a move of one character, of two, or none -/
theorem mv_cs {f : Nat → Int32} {n k : Nat} (hk : k < n) :
    (rMv f n k = nI 1 ∧ (f k = nI 119 ∨ f k = nI 111)) ∨
    (rMv f n k = nI 2 ∧ k + 1 < n ∧ ((f k = nI 115 ∧ ∃ v, v < 10 ∧ f (k + 1) = nI (48 + v)) ∨ (f k = nI 116 ∧ ∃ v, v < 4 ∧ f (k + 1) = nI (48 + v)))) ∨
    (rMv f n k = -9 ∧ (f k = nI 115 ∨ f k = nI 116) ∧ (k + 1 < n → ∃ s, gm_dn 0 (f k) = s ∧ s ≠ 3 ∧ gm_dn s (f (k + 1)) = 3)) ∨
    (rMv f n k = -10 ∧ gm_dn 0 (f k) = 3) := by
  have e0 : mCd f n k = f k := if_pos hk
  unfold rMv
  rw [e0]
  by_cases h1 : f k = nI 119 ∨ f k = nI 111
  · rw [if_pos h1]; exact Or.inl ⟨rfl, h1⟩
  · rw [if_neg h1]
    right
    by_cases h2 : f k ≠ nI 115 ∧ f k ≠ nI 116
    · rw [if_pos h2]
      right; right
      refine ⟨rfl, ?_⟩
      unfold gm_dn gm_dl
      rw [if_neg (by decide), if_neg (by decide), if_neg (by rw [Or.comm]; exact h1), if_neg h2.1, if_neg h2.2]
    · rw [if_neg h2]
      have h3 : f k = nI 115 ∨ f k = nI 116 := by
        by_cases q : f k = nI 115
        · exact Or.inl q
        · exact Or.inr (by by_cases q2 : f k = nI 116; exact q2; exact absurd ⟨q, q2⟩ h2)
      by_cases h4 : k + 1 < n
      · have e1 : mCd f n (k + 1) = f (k + 1) := if_pos h4
        rw [e1]
        rcases h3 with h3 | h3
        · rw [h3, if_pos rfl]
          by_cases h5 : (decide (nI 48 ≤ f (k + 1)) && decide (f (k + 1) ≤ nI 57)) = true
          · rw [if_pos h5]
            left
            refine ⟨rfl, h4, Or.inl ⟨rfl, ?_⟩⟩
            simp only [Bool.and_eq_true, decide_eq_true_eq] at h5
            have q1 : (48 : Int) ≤ (f (k + 1)).toInt := by have := Int32.le_iff_toInt_le.mp h5.1; rw [nI_toInt (by omega)] at this; exact this
            have q2 : (f (k + 1)).toInt ≤ 57 := by have := Int32.le_iff_toInt_le.mp h5.2; rw [nI_toInt (by omega)] at this; exact this
            exact ⟨((f (k + 1)).toInt - 48).toNat, by omega, Int32.toInt_inj.mp (by rw [nI_toInt (by omega)]; omega)⟩
          · rw [if_neg h5]
            right; left
            refine ⟨rfl, Or.inl rfl, fun _ => ⟨1, by decide, by decide, ?_⟩⟩
            unfold gm_dn
            rw [if_pos rfl]
            simp only [Bool.and_eq_true, decide_eq_true_eq, not_and, Int32.not_le] at h5
            by_cases q : f (k + 1) < nI 48
            · rw [if_pos q]
            · rw [if_neg q, if_pos (h5 (Int32.not_lt.mp q))]
        · rw [h3, if_neg (show ¬ nI 116 = nI 115 by decide)]
          by_cases h5 : (decide (nI 48 ≤ f (k + 1)) && decide (f (k + 1) ≤ nI 51)) = true
          · rw [if_pos h5]
            left
            refine ⟨rfl, h4, Or.inr ⟨rfl, ?_⟩⟩
            simp only [Bool.and_eq_true, decide_eq_true_eq] at h5
            have q1 : (48 : Int) ≤ (f (k + 1)).toInt := by have := Int32.le_iff_toInt_le.mp h5.1; rw [nI_toInt (by omega)] at this; exact this
            have q2 : (f (k + 1)).toInt ≤ 51 := by have := Int32.le_iff_toInt_le.mp h5.2; rw [nI_toInt (by omega)] at this; exact this
            exact ⟨((f (k + 1)).toInt - 48).toNat, by omega, Int32.toInt_inj.mp (by rw [nI_toInt (by omega)]; omega)⟩
          · rw [if_neg h5]
            right; left
            refine ⟨rfl, Or.inr rfl, fun _ => ⟨2, by decide, by decide, ?_⟩⟩
            unfold gm_dn
            rw [if_neg (by decide), if_pos rfl]
            simp only [Bool.and_eq_true, decide_eq_true_eq, not_and, Int32.not_le] at h5
            by_cases q : f (k + 1) < nI 48
            · rw [if_pos q]
            · rw [if_neg q, if_pos (h5 (Int32.not_lt.mp q))]
      · have e1 : mCd f n (k + 1) = nI 0 := if_neg h4
        rw [e1, show decide (nI 48 ≤ nI 0) = false by decide, Bool.false_and, if_neg (by decide)]
        right; left
        exact ⟨rfl, h3, fun h => absurd h h4⟩
theorem fw_1 {f : Nat → Int32} {n k : Nat} (hk : k < n) (h : f k = nI 119 ∨ f k = nI 111) : gm_fwk f k 0 (n - k) = gm_fwk f (k + 1) 0 (n - (k + 1)) := by
  have q : gm_dn 0 (f k) = 0 := by rcases h with h | h <;> rw [h] <;> decide
  rw [show n - k = (n - (k + 1)) + 1 by omega, gm_fwk, q, if_neg (by decide)]
theorem fw_2 {f : Nat → Int32} {n k : Nat} (hk : k + 1 < n) (h : (f k = nI 115 ∧ ∃ v, v < 10 ∧ f (k + 1) = nI (48 + v)) ∨ (f k = nI 116 ∧ ∃ v, v < 4 ∧ f (k + 1) = nI (48 + v))) : gm_fwk f k 0 (n - k) = gm_fwk f (k + 2) 0 (n - (k + 2)) := by
  rw [show n - k = ((n - (k + 2)) + 1) + 1 by omega, gm_fwk, gm_fwk]
  rcases h with ⟨h, v, hv, h2⟩ | ⟨h, v, hv, h2⟩
  · have q : gm_dn 0 (f k) = 1 := by rw [h]; decide
    have q2 : gm_dn 1 (f (k + 1)) = 0 := by
      rw [h2]; unfold gm_dn
      rw [if_pos rfl, if_neg (nI_nlt (by omega) (by omega)), if_neg (nI_nlt (by omega) (by omega))]
    rw [q, q2, if_neg (by decide), if_neg (by decide)]
  · have q : gm_dn 0 (f k) = 2 := by rw [h]; decide
    have q2 : gm_dn 2 (f (k + 1)) = 0 := by
      rw [h2]; unfold gm_dn
      rw [if_neg (by decide), if_pos rfl, if_neg (nI_nlt (by omega) (by omega)), if_neg (nI_nlt (by omega) (by omega))]
    rw [q, q2, if_neg (by decide), if_neg (by decide)]
theorem fw_9 {f : Nat → Int32} {n k : Nat} (hk : k < n) (h : f k = nI 115 ∨ f k = nI 116) (h2 : k + 1 < n → ∃ s, gm_dn 0 (f k) = s ∧ s ≠ 3 ∧ gm_dn s (f (k + 1)) = 3) : gm_fwk f k 0 (n - k) = k + 1 := by
  have q : gm_dn 0 (f k) ≠ 3 := by rcases h with h | h <;> rw [h] <;> decide
  rw [show n - k = (n - (k + 1)) + 1 by omega, gm_fwk, if_neg q]
  by_cases hn : k + 1 < n
  · obtain ⟨s, s1, s2, s3⟩ := h2 hn
    rw [show n - (k + 1) = (n - (k + 2)) + 1 by omega, gm_fwk, s1, if_pos s3]
  · rw [show n - (k + 1) = 0 by omega, gm_fwk]
theorem fw_10 {f : Nat → Int32} {n k : Nat} (hk : k < n) (h : gm_dn 0 (f k) = 3) : gm_fwk f k 0 (n - k) = k := by
  rw [show n - k = (n - (k + 1)) + 1 by omega, gm_fwk, if_pos h]
set_option maxHeartbeats 2000000 in
set_option maxRecDepth 20000 in
theorem X6_codeAt_ok {d : Nat} {μ : ev_M} {n k : Nat} (hl : μ 14 7 = nI n) (hn : n ≤ 60 := by omega) (hk : k < 100 := by omega) (hd : 1 ≤ d := by omega) : ev_CALL d 139 [.ref 14, .int (nI k)] μ (some (.int (mCd (μ 20) n k)), 0) μ := by
  obtain ⟨d, rfl⟩ : ∃ q, d = q + 1 := ⟨d - 1, by omega⟩
  refine SPp.of (Nat.le_of_ble_eq_true rfl) ?_
  show es (ev_CALL d) 6 cX6_codeAt (some .int) 0 (0, fun _ => 0, []) (fun r μ2 => r = (some (.int (mCd (μ 20) n k)), 0) ∧ μ2 = μ) 0 [.ref 14, .int (nI k)] [] μ 0
  refine es_iload_n (pc := 0) dX6_codeAt_0 rfl ?_
  refine es_aload_n (pc := 1) dX6_codeAt_1 rfl ?_
  refine es_getI (pc := 2) dX6_codeAt_2 fr_6_132 fld_14_7 ?_
  refine es_top hl ?_
  refine es_icmp_geN (pc := 5) 17 dX6_codeAt_5 (by decide) (by omega) (by omega) (fun c5 => ?_) (fun c5 => ?_)
  · refine es_iconstN (pc := 17) 0 dX6_codeAt_17 ic_0 ?_
    refine es_ireturn (pc := 18) dX6_codeAt_18 rfl (vp_nar_int _) (by decide) ?_
    exact ⟨vI (by rw [mCd, if_neg (by omega)]), rfl⟩
  · refine es_aload_n (pc := 8) dX6_codeAt_8 rfl ?_
    refine es_getR (pc := 9) dX6_codeAt_9 fr_6_26 fld_14_6 ?_
    refine es_iload_n (pc := 12) dX6_codeAt_12 rfl ?_
    refine es_iald (pc := 13) dX6_codeAt_13 lay_20 (by omega) ?_
    refine es_goto (pc := 14) (tgt := 18) dX6_codeAt_14 (by decide) ?_
    refine es_ireturn (pc := 18) dX6_codeAt_18 rfl (vp_nar_int _) (by decide) ?_
    exact ⟨vI (by rw [mCd, if_pos (by omega)]), rfl⟩
set_option maxHeartbeats 2000000 in
set_option maxRecDepth 20000 in
theorem X6_moveAt_ok {d : Nat} {μ : ev_M} {n k : Nat} (hl : μ 14 7 = nI n) (hn : n ≤ 60 := by omega) (hk : k < 90 := by omega) (hd : 2 ≤ d := by omega) : ev_CALL d 138 [.ref 14, .int (nI k)] μ (some (.int (rMv (μ 20) n k)), 0) μ := by
  obtain ⟨d, rfl⟩ : ∃ q, d = q + 1 := ⟨d - 1, by omega⟩
  refine SPp.of (Nat.le_of_ble_eq_true rfl) ?_
  show es (ev_CALL d) 6 cX6_moveAt (some .int) 0 (0, fun _ => 0, []) (fun r μ2 => r = (some (.int (rMv (μ 20) n k)), 0) ∧ μ2 = μ) 0 [.ref 14, .int (nI k), .null] [] μ 0
  refine es_aload_n (pc := 0) dX6_moveAt_0 rfl ?_
  refine es_iload_n (pc := 1) dX6_moveAt_1 rfl ?_
  refine es_cv1_p (pc := 2) dX6_moveAt_2 mr_6_135 rfl rfl (by decide) (by decide) rfl (Nat.le_of_ble_eq_true rfl) (Nat.zero_le _) (X6_codeAt_ok hl) ?_
  refine es_istore_n (pc := 5) dX6_moveAt_5 (ok1_2 rfl) ?_
  refine es_iload_n (pc := 6) dX6_moveAt_6 rfl ?_
  refine es_bipushN (pc := 7) 119 dX6_moveAt_7 bp_119 ?_
  refine es_icmp_eq (pc := 9) (tgt := 18) dX6_moveAt_9 (by decide) (fun c9 => ?_) (fun c9 => ?_)
  · refine es_iconstN (pc := 18) 1 dX6_moveAt_18 ic_1 ?_
    refine es_ireturn (pc := 19) dX6_moveAt_19 rfl (vp_nar_int _) (by decide) ?_
    exact ⟨vI (by rw [rMv, if_pos (Or.inl c9)]), rfl⟩
  · refine es_iload_n (pc := 12) dX6_moveAt_12 rfl ?_
    refine es_bipushN (pc := 13) 111 dX6_moveAt_13 bp_111 ?_
    refine es_icmp_ne (pc := 15) (tgt := 20) dX6_moveAt_15 (by decide) (fun c15 => ?_) (fun c15 => ?_)
    · refine es_iload_n (pc := 20) dX6_moveAt_20 rfl ?_
      refine es_bipushN (pc := 21) 115 dX6_moveAt_21 bp_115 ?_
      refine es_icmp_eq (pc := 23) (tgt := 35) dX6_moveAt_23 (by decide) (fun c23 => ?_) (fun c23 => ?_)
      · refine es_aload_n (pc := 35) dX6_moveAt_35 rfl ?_
        refine es_iload_n (pc := 36) dX6_moveAt_36 rfl ?_
        refine es_iconstN (pc := 37) 1 dX6_moveAt_37 ic_1 ?_
        refine es_iaddN (pc := 38) dX6_moveAt_38 ?_
        refine es_cv1_p (pc := 39) dX6_moveAt_39 mr_6_135 rfl rfl (by decide) (by decide) rfl (Nat.le_of_ble_eq_true rfl) (Nat.zero_le _) (X6_codeAt_ok hl) ?_
        refine es_bipushN (pc := 42) 48 dX6_moveAt_42 bp_48 ?_
        refine es_iload_n (pc := 44) dX6_moveAt_44 rfl ?_
        refine es_bipushN (pc := 45) 115 dX6_moveAt_45 bp_115 ?_
        refine es_icmp_ne (pc := 47) (tgt := 55) dX6_moveAt_47 (by decide) (fun c47 => ?_) (fun c47 => ?_)
        · refine es_bipushN (pc := 55) 51 dX6_moveAt_55 bp_51 ?_
          refine es_cs3_p (pc := 57) dX6_moveAt_57 mr_6_39 rfl rfl rfl (Nat.le_of_ble_eq_true rfl) (Nat.zero_le _) (X6_in_ok) ?_
          refine es_if_eqB (pc := 60) 67 dX6_moveAt_60 (by decide) (fun c60 => ?_) (fun c60 => ?_)
          · refine es_bipush (pc := 67) dX6_moveAt_67 ?_
            rw [ic_m9]
            refine es_ireturn (pc := 69) dX6_moveAt_69 rfl (vp_nar_int _) (by decide) ?_
            exact ⟨vI (by rw [rMv, if_neg (by simp [c9, c15]), if_neg (by simp [c23]), if_neg (by rw [if_neg c47]; simp [c60])]), rfl⟩
          · refine es_iconstN (pc := 63) 2 dX6_moveAt_63 ic_2 ?_
            refine es_goto (pc := 64) (tgt := 69) dX6_moveAt_64 (by decide) ?_
            refine es_ireturn (pc := 69) dX6_moveAt_69 rfl (vp_nar_int _) (by decide) ?_
            exact ⟨vI (by rw [rMv, if_neg (by simp [c9, c15]), if_neg (by simp [c23]), if_pos (by rw [if_neg c47]; exact c60)]), rfl⟩
        · refine es_bipushN (pc := 50) 57 dX6_moveAt_50 bp_57 ?_
          refine es_goto (pc := 52) (tgt := 57) dX6_moveAt_52 (by decide) ?_
          refine es_cs3_p (pc := 57) dX6_moveAt_57 mr_6_39 rfl rfl rfl (Nat.le_of_ble_eq_true rfl) (Nat.zero_le _) (X6_in_ok) ?_
          refine es_if_eqB (pc := 60) 67 dX6_moveAt_60 (by decide) (fun c60 => ?_) (fun c60 => ?_)
          · refine es_bipush (pc := 67) dX6_moveAt_67 ?_
            rw [ic_m9]
            refine es_ireturn (pc := 69) dX6_moveAt_69 rfl (vp_nar_int _) (by decide) ?_
            exact ⟨vI (by rw [rMv, if_neg (by simp [c9, c15]), if_neg (by simp [c23]), if_neg (by rw [if_pos c47]; simp [c60])]), rfl⟩
          · refine es_iconstN (pc := 63) 2 dX6_moveAt_63 ic_2 ?_
            refine es_goto (pc := 64) (tgt := 69) dX6_moveAt_64 (by decide) ?_
            refine es_ireturn (pc := 69) dX6_moveAt_69 rfl (vp_nar_int _) (by decide) ?_
            exact ⟨vI (by rw [rMv, if_neg (by simp [c9, c15]), if_neg (by simp [c23]), if_pos (by rw [if_pos c47]; exact c60)]), rfl⟩
      · refine es_iload_n (pc := 26) dX6_moveAt_26 rfl ?_
        refine es_bipushN (pc := 27) 116 dX6_moveAt_27 bp_116 ?_
        refine es_icmp_eq (pc := 29) (tgt := 35) dX6_moveAt_29 (by decide) (fun c29 => ?_) (fun c29 => ?_)
        · refine es_aload_n (pc := 35) dX6_moveAt_35 rfl ?_
          refine es_iload_n (pc := 36) dX6_moveAt_36 rfl ?_
          refine es_iconstN (pc := 37) 1 dX6_moveAt_37 ic_1 ?_
          refine es_iaddN (pc := 38) dX6_moveAt_38 ?_
          refine es_cv1_p (pc := 39) dX6_moveAt_39 mr_6_135 rfl rfl (by decide) (by decide) rfl (Nat.le_of_ble_eq_true rfl) (Nat.zero_le _) (X6_codeAt_ok hl) ?_
          refine es_bipushN (pc := 42) 48 dX6_moveAt_42 bp_48 ?_
          refine es_iload_n (pc := 44) dX6_moveAt_44 rfl ?_
          refine es_bipushN (pc := 45) 115 dX6_moveAt_45 bp_115 ?_
          refine es_icmp_ne (pc := 47) (tgt := 55) dX6_moveAt_47 (by decide) (fun c47 => ?_) (fun c47 => ?_)
          · refine es_bipushN (pc := 55) 51 dX6_moveAt_55 bp_51 ?_
            refine es_cs3_p (pc := 57) dX6_moveAt_57 mr_6_39 rfl rfl rfl (Nat.le_of_ble_eq_true rfl) (Nat.zero_le _) (X6_in_ok) ?_
            refine es_if_eqB (pc := 60) 67 dX6_moveAt_60 (by decide) (fun c60 => ?_) (fun c60 => ?_)
            · refine es_bipush (pc := 67) dX6_moveAt_67 ?_
              rw [ic_m9]
              refine es_ireturn (pc := 69) dX6_moveAt_69 rfl (vp_nar_int _) (by decide) ?_
              exact ⟨vI (by rw [rMv, if_neg (by simp [c9, c15]), if_neg (by simp [c29]), if_neg (by rw [if_neg c47]; simp [c60])]), rfl⟩
            · refine es_iconstN (pc := 63) 2 dX6_moveAt_63 ic_2 ?_
              refine es_goto (pc := 64) (tgt := 69) dX6_moveAt_64 (by decide) ?_
              refine es_ireturn (pc := 69) dX6_moveAt_69 rfl (vp_nar_int _) (by decide) ?_
              exact ⟨vI (by rw [rMv, if_neg (by simp [c9, c15]), if_neg (by simp [c29]), if_pos (by rw [if_neg c47]; exact c60)]), rfl⟩
          · refine es_bipushN (pc := 50) 57 dX6_moveAt_50 bp_57 ?_
            refine es_goto (pc := 52) (tgt := 57) dX6_moveAt_52 (by decide) ?_
            refine es_cs3_p (pc := 57) dX6_moveAt_57 mr_6_39 rfl rfl rfl (Nat.le_of_ble_eq_true rfl) (Nat.zero_le _) (X6_in_ok) ?_
            refine es_if_eqB (pc := 60) 67 dX6_moveAt_60 (by decide) (fun c60 => ?_) (fun c60 => ?_)
            · refine es_bipush (pc := 67) dX6_moveAt_67 ?_
              rw [ic_m9]
              refine es_ireturn (pc := 69) dX6_moveAt_69 rfl (vp_nar_int _) (by decide) ?_
              exact ⟨vI (by rw [rMv, if_neg (by simp [c9, c15]), if_neg (by simp [c29]), if_neg (by rw [if_pos c47]; simp [c60])]), rfl⟩
            · refine es_iconstN (pc := 63) 2 dX6_moveAt_63 ic_2 ?_
              refine es_goto (pc := 64) (tgt := 69) dX6_moveAt_64 (by decide) ?_
              refine es_ireturn (pc := 69) dX6_moveAt_69 rfl (vp_nar_int _) (by decide) ?_
              exact ⟨vI (by rw [rMv, if_neg (by simp [c9, c15]), if_neg (by simp [c29]), if_pos (by rw [if_pos c47]; exact c60)]), rfl⟩
        · refine es_bipush (pc := 32) dX6_moveAt_32 ?_
          rw [ic_m10]
          refine es_ireturn (pc := 34) dX6_moveAt_34 rfl (vp_nar_int _) (by decide) ?_
          exact ⟨vI (by rw [rMv, if_neg (by simp [c9, c15]), if_pos ⟨c23, c29⟩]), rfl⟩
    · refine es_iconstN (pc := 18) 1 dX6_moveAt_18 ic_1 ?_
      refine es_ireturn (pc := 19) dX6_moveAt_19 rfl (vp_nar_int _) (by decide) ?_
      exact ⟨vI (by rw [rMv, if_pos (Or.inr c15)]), rfl⟩
set_option maxHeartbeats 2000000 in
set_option maxRecDepth 20000 in
theorem X6_error_ok {d : Nat} {μ : ev_M} {n : Nat} (hl : μ 14 7 = nI n) (hn : n ≤ 60 := by omega) (hd : 3 ≤ d := by omega) : ev_CALL d 137 [.ref 14] μ (some (.int (nI (gm_fw (μ 20) n))), 0) μ := by
  obtain ⟨d, rfl⟩ : ∃ q, d = q + 1 := ⟨d - 1, by omega⟩
  refine SPp.of (Nat.le_of_ble_eq_true rfl) ?_
  show es (ev_CALL d) 6 cX6_error (some .int) 0 (0, fun _ => 0, []) (fun r μ2 => r = (some (.int (nI (gm_fw (μ 20) n))), 0) ∧ μ2 = μ) 0 [.ref 14, .null, .null] [] μ 0
  have hl2 : ∀ (n9 : Nat) (k : Nat) (j : Value), n9 = n - k → (k ≤ n) → (gm_fw (μ 20) n = gm_fwk (μ 20) k 0 (n - k)) → es (ev_CALL d) 6 cX6_error (some .int) 0 (0, fun _ => 0, []) (fun r μ2 => r = (some (.int (nI (gm_fw (μ 20) n))), 0) ∧ μ2 = μ) 2 [.ref 14, .int (nI k), j] [] μ 0 := by
    intro n9
    induction n9 using Nat.strongRecOn with
    | ind n9 ih2 =>
      intro k j hn9 hk hi
      subst hn9
      have ih := ih2
      refine es_iload_n (pc := 2) dX6_error_2 rfl ?_
      refine es_aload_n (pc := 3) dX6_error_3 rfl ?_
      refine es_getI (pc := 4) dX6_error_4 fr_6_132 fld_14_7 ?_
      refine es_top hl ?_
      refine es_icmp_geN (pc := 7) 34 dX6_error_7 (by decide) (by omega) (by omega) (fun c7 => ?_) (fun c7 => ?_)
      · refine es_aload_n (pc := 34) dX6_error_34 rfl ?_
        refine es_getI (pc := 35) dX6_error_35 fr_6_132 fld_14_7 ?_
        refine es_top hl ?_
        refine es_ireturn (pc := 38) dX6_error_38 rfl (vp_nar_int _) (by decide) ?_
        exact ⟨vI (by rw [hi, show n - k = 0 by omega, gm_fwk, show k = n by omega]), rfl⟩
      · refine es_aload_n (pc := 10) dX6_error_10 rfl ?_
        refine es_iload_n (pc := 11) dX6_error_11 rfl ?_
        refine es_cv1_p (pc := 12) dX6_error_12 mr_6_141 rfl rfl (by decide) (by decide) rfl (Nat.le_of_ble_eq_true rfl) (Nat.zero_le _) (X6_moveAt_ok hl) ?_
        refine es_istore_n (pc := 15) dX6_error_15 (ok1_2 rfl) ?_
        refine es_iload_n (pc := 16) dX6_error_16 rfl ?_
        refine es_if_ge (pc := 17) (tgt := 27) dX6_error_17 (by decide) (fun c17 => ?_) (fun c17 => ?_)
        · refine es_iload_n (pc := 27) dX6_error_27 rfl ?_
          refine es_iload_n (pc := 28) dX6_error_28 rfl ?_
          refine es_iadd (pc := 29) dX6_error_29 ?_
          refine es_istore_n (pc := 30) dX6_error_30 (ok1_1 rfl) ?_
          refine es_goto (pc := 31) (tgt := 2) dX6_error_31 (by decide) ?_
          rcases mv_cs (f := μ 20) (n := n) (k := k) (by omega) with ⟨e, e2⟩ | ⟨e, e2, e3⟩ | ⟨e, -⟩ | ⟨e, -⟩
          · rw [e, nI_add]; exact ih2 _ (by omega) (k + 1) _ rfl (by omega) (by rw [hi, fw_1 (by omega) e2])
          · rw [e, nI_add]; exact ih2 _ (by omega) (k + 2) _ rfl (by omega) (by rw [hi, fw_2 e2 e3])
          · rw [e] at c17; exact absurd c17 (by decide)
          · rw [e] at c17; exact absurd c17 (by decide)
        · refine es_iload_n (pc := 20) dX6_error_20 rfl ?_
          refine es_iload_n (pc := 21) dX6_error_21 rfl ?_
          refine es_iadd (pc := 22) dX6_error_22 ?_
          refine es_bipushN (pc := 23) 10 dX6_error_23 bp_10 ?_
          refine es_iadd (pc := 25) dX6_error_25 ?_
          refine es_ireturn (pc := 26) dX6_error_26 rfl (vp_nar_int _) (by decide) ?_
          rcases mv_cs (f := μ 20) (n := n) (k := k) (by omega) with ⟨e, e2⟩ | ⟨e, e2, e3⟩ | ⟨e, e2, e3⟩ | ⟨e, e2⟩
          · rw [e] at c17; exact absurd c17 (by decide)
          · rw [e] at c17; exact absurd c17 (by decide)
          · rw [e, hi, fw_9 (by omega) e2 e3]; exact ⟨vI (by rw [Int32.add_assoc, show ((-9 : Int32) + nI 10) = nI 1 by decide, nI_add]), rfl⟩
          · rw [e, hi, fw_10 (by omega) e2]; exact ⟨vI (by rw [Int32.add_assoc, show ((-10 : Int32) + nI 10) = nI 0 by decide, nI_add, Nat.add_zero]), rfl⟩
  refine es_iconstN (pc := 0) 0 dX6_error_0 ic_0 ?_
  refine es_istore_n (pc := 1) dX6_error_1 (ok1_1 rfl) ?_
  exact hl2 _ 0 _ rfl (by omega) rfl
set_option maxHeartbeats 2000000 in
set_option maxRecDepth 20000 in
theorem X6_firstError_ok {d : Nat} {μ : ev_M} {S : gS} (hR : RepM μ S) (hW : WFS S) (hd : 4 ≤ d := by omega) : SPi (ev_CALL d) 136 [.ref 14] μ (QM (op_error S) μ) := by
  obtain ⟨d, rfl⟩ : ∃ q, d = q + 1 := ⟨d - 1, by omega⟩
  refine SPi.of (Nat.le_of_ble_eq_true rfl) ?_
  show es (ev_CALL d) 6 cX6_firstError (some .int) 0 (0, fun _ => 0, []) (fun r μ2 => ∃ x9 : Int32, r = (some (.int x9), 0) ∧ (QM (op_error S) μ) x9 μ2) 0 [.ref 14] [] μ 0
  have hR0 := hR.t (x := nI 0)
  have hn6 := hR.n6
  have hm6 := hR.m
  obtain ⟨wP, wP4, won, won4, wit, wit4, wpl, wpb, wlt⟩ := WM.of (r := S.1) hR.g hW.1
  have w0 : ev_ms μ 14 8 (nI 0) 15 4 = nI (rP S.1) := by rw [ms_ne (by decide)]; exact wP
  refine es_aload_n (pc := 0) dX6_firstError_0 rfl ?_
  refine es_iconstN (pc := 1) 0 dX6_firstError_1 ic_0 ?_
  refine es_putI (pc := 2) dX6_firstError_2 fr_6_35 fld_14_8 ?_
  refine es_aload_n (pc := 5) dX6_firstError_5 rfl ?_
  refine es_cv0_p (pc := 6) dX6_firstError_6 mr_6_138 rfl rfl (by decide) (by decide) rfl (Nat.le_of_ble_eq_true rfl) (Nat.zero_le _) (X6_error_ok hR0.l) ?_
  refine es_ireturn (pc := 9) dX6_firstError_9 rfl (vp_nar_int _) (by decide) ?_
  exact ⟨_, rfl, QM.of rfl (by simp [ms_full]) (by rw [hR0.c]) hR0 (FrM.rf.ms (by decide))⟩
/-- the text is a game from this place on -/
def gGo (f : Nat → Int32) (n k : Nat) : Prop := k ≤ n ∧ gm_fw f n = gm_fwk f k 0 (n - k) ∧ (0 < k → gm_nd (f (k - 1)) = false)
theorem tells_no {f : Nat → Int32} {n k : Nat} (hk : k < n) (h : gm_fw f n = k) : gm_tells f n = false := by
  unfold gm_tells
  rw [h]
  simp; omega
theorem gGo.n1 {f : Nat → Int32} {n k : Nat} (h : gGo f n k) (hk : k < n) (h2 : f k = nI 119 ∨ f k = nI 111) : gGo f n (k + 1) := ⟨by omega, by rw [h.2.1, fw_1 hk h2], fun _ => by rw [Nat.add_sub_cancel]; rcases h2 with h2 | h2 <;> rw [h2] <;> decide⟩
theorem gm_nd_d {v : Nat} (hv : v < 10) : gm_nd (nI (48 + v)) = false := by
  unfold gm_nd
  have q : ∀ w : Nat, 58 ≤ w → w < 200 → nI (48 + v) ≠ nI w := fun w h1 h2 e => by have := nI_inj (by omega) (by omega) e; omega
  simp [q 115 (by decide) (by decide), q 116 (by decide) (by decide)]
theorem gGo.n2 {f : Nat → Int32} {n k : Nat} (h : gGo f n k) (hk : k + 1 < n) (h2 : (f k = nI 115 ∧ ∃ v, v < 10 ∧ f (k + 1) = nI (48 + v)) ∨ (f k = nI 116 ∧ ∃ v, v < 4 ∧ f (k + 1) = nI (48 + v))) : gGo f n (k + 2) := ⟨by omega, by rw [h.2.1, fw_2 hk h2], fun _ => by
  rw [show k + 2 - 1 = k + 1 by omega]
  rcases h2 with ⟨-, v, hv, h2⟩ | ⟨-, v, hv, h2⟩ <;> rw [h2] <;> exact gm_nd_d (by omega)⟩
theorem gGo.bad9 {f : Nat → Int32} {n k : Nat} (h : gGo f n k) (hk : k < n) (h2 : f k = nI 115 ∨ f k = nI 116) (h3 : k + 1 < n → ∃ s, gm_dn 0 (f k) = s ∧ s ≠ 3 ∧ gm_dn s (f (k + 1)) = 3) : gm_tells f n = false := by
  have e := h.2.1.trans (fw_9 hk h2 h3)
  by_cases hn : k + 1 < n
  · exact tells_no hn e
  · unfold gm_tells
    rw [show n - 1 = k by omega]
    have : gm_nd (f k) = true := by rcases h2 with h2 | h2 <;> rw [h2] <;> decide
    simp [this]
theorem gGo.bad10 {f : Nat → Int32} {n k : Nat} (h : gGo f n k) (hk : k < n) (h2 : gm_dn 0 (f k) = 3) : gm_tells f n = false := tells_no hk (h.2.1.trans (fw_10 hk h2))
theorem gGo.all {f : Nat → Int32} {n : Nat} (h : gGo f n n) : gm_tells f n = decide (0 < n) := by
  unfold gm_tells
  rw [h.2.1, Nat.sub_self, gm_fwk]
  by_cases hn : 0 < n
  · simp [hn, h.2.2 hn]
  · simp [hn]
theorem gGo.z {f : Nat → Int32} {n : Nat} : gGo f n 0 := ⟨by omega, rfl, fun h => absurd h (by decide)⟩
set_option maxHeartbeats 2000000 in
set_option maxRecDepth 20000 in
theorem X6_isGame_ok {d : Nat} {μ : ev_M} {n : Nat} (hl : μ 14 7 = nI n) (hn : n ≤ 60 := by omega) (hd : 3 ≤ d := by omega) : ev_CALL d 141 [.ref 14] μ (some (.int (bI (gm_tells (μ 20) n))), 0) μ := by
  obtain ⟨d, rfl⟩ : ∃ q, d = q + 1 := ⟨d - 1, by omega⟩
  refine SPp.of (Nat.le_of_ble_eq_true rfl) ?_
  show es (ev_CALL d) 6 cX6_isGame (some .boolean) 0 (0, fun _ => 0, []) (fun r μ2 => r = (some (.int (bI (gm_tells (μ 20) n))), 0) ∧ μ2 = μ) 0 [.ref 14, .null, .null] [] μ 0
  have hl4 : ∀ (n9 : Nat) (m : Nat) (kk sz : Int32), n9 = m → ((∃ k s, kk = nI k ∧ sz = nI s ∧ 0 < s ∧ s ≤ 2 ∧ m = n - k ∧ gGo (μ 20) n k) ∨ ((sz = -9 ∨ sz = -10) ∧ gm_tells (μ 20) n = false)) → es (ev_CALL d) 6 cX6_isGame (some .boolean) 0 (0, fun _ => 0, []) (fun r μ2 => r = (some (.int (bI (gm_tells (μ 20) n))), 0) ∧ μ2 = μ) 4 [.ref 14, .int kk, .int sz] [] μ 0 := by
    intro n9
    induction n9 using Nat.strongRecOn with
    | ind n9 ih4 =>
      intro m kk sz hn9 hJ
      subst hn9
      have ih := ih4
      rcases hJ with ⟨k, s, rfl, rfl, hs0, hs2, rfl, hg⟩ | ⟨hz, hf⟩
      · have hkn := hg.1
        refine es_iload_n (pc := 4) dX6_isGame_4 rfl ?_
        refine es_aload_n (pc := 5) dX6_isGame_5 rfl ?_
        refine es_getI (pc := 6) dX6_isGame_6 fr_6_132 fld_14_7 ?_
        refine es_top hl ?_
        refine es_icmp_geN (pc := 9) 29 dX6_isGame_9 (by decide) (by omega) (by omega) (fun c9 => ?_) (fun c9 => ?_)
        · refine es_aload_n (pc := 29) dX6_isGame_29 rfl ?_
          refine es_getI (pc := 30) dX6_isGame_30 fr_6_132 fld_14_7 ?_
          refine es_top hl ?_
          refine es_if_leN (pc := 33) 52 dX6_isGame_33 (by decide) (by omega) (fun c33 => ?_) (fun c33 => ?_)
          · refine es_iconstN (pc := 52) 0 dX6_isGame_52 ic_0 ?_
            refine es_ireturn (pc := 53) dX6_isGame_53 rfl (rfl) (by decide) ?_
            exact ⟨vI (by rw [gm_tells]; simp [show ¬ 0 < n by omega]; rfl), rfl⟩
          · refine es_iload_n (pc := 36) dX6_isGame_36 rfl ?_
            refine es_if_leN (pc := 37) 52 dX6_isGame_37 (by decide) (by omega) (fun c37 => ?_) (fun c37 => ?_)
            · refine es_iconstN (pc := 52) 0 dX6_isGame_52 ic_0 ?_
              refine es_ireturn (pc := 53) dX6_isGame_53 rfl (rfl) (by decide) ?_
              exact absurd c37 (by omega)
            · refine es_iload_n (pc := 40) dX6_isGame_40 rfl ?_
              refine es_aload_n (pc := 41) dX6_isGame_41 rfl ?_
              refine es_getI (pc := 42) dX6_isGame_42 fr_6_132 fld_14_7 ?_
              refine es_top hl ?_
              refine es_icmp_neN (pc := 45) 52 dX6_isGame_45 (by decide) (by omega) (by omega) (fun c45 => ?_) (fun c45 => ?_)
              · refine es_iconstN (pc := 52) 0 dX6_isGame_52 ic_0 ?_
                refine es_ireturn (pc := 53) dX6_isGame_53 rfl (rfl) (by decide) ?_
                exact absurd c45 (by omega)
              · refine es_iconstN (pc := 48) 1 dX6_isGame_48 ic_1 ?_
                refine es_goto (pc := 49) (tgt := 53) dX6_isGame_49 (by decide) ?_
                refine es_ireturn (pc := 53) dX6_isGame_53 rfl (rfl) (by decide) ?_
                have hkn2 : k = n := by omega
                subst hkn2
                exact ⟨vI (by rw [hg.all]; simp [c33, bI, nI_one]), rfl⟩
        · refine es_iload_n (pc := 12) dX6_isGame_12 rfl ?_
          refine es_if_leN (pc := 13) 29 dX6_isGame_13 (by decide) (by omega) (fun c13 => ?_) (fun c13 => ?_)
          · refine es_aload_n (pc := 29) dX6_isGame_29 rfl ?_
            refine es_getI (pc := 30) dX6_isGame_30 fr_6_132 fld_14_7 ?_
            refine es_top hl ?_
            refine es_if_leN (pc := 33) 52 dX6_isGame_33 (by decide) (by omega) (fun c33 => ?_) (fun c33 => ?_)
            · refine es_iconstN (pc := 52) 0 dX6_isGame_52 ic_0 ?_
              refine es_ireturn (pc := 53) dX6_isGame_53 rfl (rfl) (by decide) ?_
              exact ⟨vI (by rw [gm_tells]; simp [show ¬ 0 < n by omega]; rfl), rfl⟩
            · refine es_iload_n (pc := 36) dX6_isGame_36 rfl ?_
              refine es_if_leN (pc := 37) 52 dX6_isGame_37 (by decide) (by omega) (fun c37 => ?_) (fun c37 => ?_)
              · refine es_iconstN (pc := 52) 0 dX6_isGame_52 ic_0 ?_
                refine es_ireturn (pc := 53) dX6_isGame_53 rfl (rfl) (by decide) ?_
                exact absurd c37 (by omega)
              · refine es_iload_n (pc := 40) dX6_isGame_40 rfl ?_
                refine es_aload_n (pc := 41) dX6_isGame_41 rfl ?_
                refine es_getI (pc := 42) dX6_isGame_42 fr_6_132 fld_14_7 ?_
                refine es_top hl ?_
                refine es_icmp_neN (pc := 45) 52 dX6_isGame_45 (by decide) (by omega) (by omega) (fun c45 => ?_) (fun c45 => ?_)
                · refine es_iconstN (pc := 52) 0 dX6_isGame_52 ic_0 ?_
                  refine es_ireturn (pc := 53) dX6_isGame_53 rfl (rfl) (by decide) ?_
                  exact absurd c45 (by omega)
                · refine es_iconstN (pc := 48) 1 dX6_isGame_48 ic_1 ?_
                  refine es_goto (pc := 49) (tgt := 53) dX6_isGame_49 (by decide) ?_
                  refine es_ireturn (pc := 53) dX6_isGame_53 rfl (rfl) (by decide) ?_
                  have hkn2 : k = n := by omega
                  subst hkn2
                  exact ⟨vI (by rw [hg.all]; simp [c33, bI, nI_one]), rfl⟩
          · refine es_aload_n (pc := 16) dX6_isGame_16 rfl ?_
            refine es_iload_n (pc := 17) dX6_isGame_17 rfl ?_
            refine es_cv1_p (pc := 18) dX6_isGame_18 mr_6_141 rfl rfl (by decide) (by decide) rfl (Nat.le_of_ble_eq_true rfl) (Nat.zero_le _) (X6_moveAt_ok hl) ?_
            refine es_istore_n (pc := 21) dX6_isGame_21 (ok1_2 rfl) ?_
            refine es_iload_n (pc := 22) dX6_isGame_22 rfl ?_
            refine es_iload_n (pc := 23) dX6_isGame_23 rfl ?_
            refine es_iadd (pc := 24) dX6_isGame_24 ?_
            refine es_istore_n (pc := 25) dX6_isGame_25 (ok1_1 rfl) ?_
            refine es_goto (pc := 26) (tgt := 4) dX6_isGame_26 (by decide) ?_
            rcases mv_cs (f := μ 20) (n := n) (k := k) (by omega) with ⟨e, e2⟩ | ⟨e, e2, e3⟩ | ⟨e, e2, e3⟩ | ⟨e, e2⟩
            · rw [e, nI_add]; exact ih4 (n - (k + 1)) (by omega) _ _ _ rfl (Or.inl ⟨k + 1, 1, rfl, rfl, by decide, by decide, rfl, hg.n1 (by omega) e2⟩)
            · rw [e, nI_add]; exact ih4 (n - (k + 2)) (by omega) _ _ _ rfl (Or.inl ⟨k + 2, 2, rfl, rfl, by decide, by decide, rfl, hg.n2 e2 e3⟩)
            · exact ih4 (n - (k + 1)) (by omega) _ _ _ rfl (Or.inr ⟨Or.inl e, hg.bad9 (by omega) e2 e3⟩)
            · exact ih4 (n - (k + 1)) (by omega) _ _ _ rfl (Or.inr ⟨Or.inr e, hg.bad10 (by omega) e2⟩)
      · have hz0 : sz ≤ 0 := by rcases hz with rfl | rfl <;> decide
        refine es_iload_n (pc := 4) dX6_isGame_4 rfl ?_
        refine es_aload_n (pc := 5) dX6_isGame_5 rfl ?_
        refine es_getI (pc := 6) dX6_isGame_6 fr_6_132 fld_14_7 ?_
        refine es_top hl ?_
        refine es_icmp_ge (pc := 9) (tgt := 29) dX6_isGame_9 (by decide) (fun c9 => ?_) (fun c9 => ?_)
        · refine es_aload_n (pc := 29) dX6_isGame_29 rfl ?_
          refine es_getI (pc := 30) dX6_isGame_30 fr_6_132 fld_14_7 ?_
          refine es_top hl ?_
          refine es_if_leN (pc := 33) 52 dX6_isGame_33 (by decide) (by omega) (fun c33 => ?_) (fun c33 => ?_)
          · refine es_iconstN (pc := 52) 0 dX6_isGame_52 ic_0 ?_
            refine es_ireturn (pc := 53) dX6_isGame_53 rfl (rfl) (by decide) ?_
            exact ⟨vI (by rw [hf]; rfl), rfl⟩
          · refine es_iload_n (pc := 36) dX6_isGame_36 rfl ?_
            refine es_if_le (pc := 37) (tgt := 52) dX6_isGame_37 (by decide) (fun c37 => ?_) (fun c37 => ?_)
            · refine es_iconstN (pc := 52) 0 dX6_isGame_52 ic_0 ?_
              refine es_ireturn (pc := 53) dX6_isGame_53 rfl (rfl) (by decide) ?_
              exact ⟨vI (by rw [hf]; rfl), rfl⟩
            · exact absurd hz0 c37
        · refine es_iload_n (pc := 12) dX6_isGame_12 rfl ?_
          refine es_if_le (pc := 13) (tgt := 29) dX6_isGame_13 (by decide) (fun c13 => ?_) (fun c13 => ?_)
          · refine es_aload_n (pc := 29) dX6_isGame_29 rfl ?_
            refine es_getI (pc := 30) dX6_isGame_30 fr_6_132 fld_14_7 ?_
            refine es_top hl ?_
            refine es_if_leN (pc := 33) 52 dX6_isGame_33 (by decide) (by omega) (fun c33 => ?_) (fun c33 => ?_)
            · refine es_iconstN (pc := 52) 0 dX6_isGame_52 ic_0 ?_
              refine es_ireturn (pc := 53) dX6_isGame_53 rfl (rfl) (by decide) ?_
              exact ⟨vI (by rw [hf]; rfl), rfl⟩
            · refine es_iload_n (pc := 36) dX6_isGame_36 rfl ?_
              refine es_if_le (pc := 37) (tgt := 52) dX6_isGame_37 (by decide) (fun c37 => ?_) (fun c37 => ?_)
              · refine es_iconstN (pc := 52) 0 dX6_isGame_52 ic_0 ?_
                refine es_ireturn (pc := 53) dX6_isGame_53 rfl (rfl) (by decide) ?_
                exact ⟨vI (by rw [hf]; rfl), rfl⟩
              · exact absurd hz0 c37
          · exact absurd hz0 c13
  refine es_iconstN (pc := 0) 0 dX6_isGame_0 ic_0 ?_
  refine es_istore_n (pc := 1) dX6_isGame_1 (ok1_1 rfl) ?_
  refine es_iconstN (pc := 2) 1 dX6_isGame_2 ic_1 ?_
  refine es_istore_n (pc := 3) dX6_isGame_3 (ok1_2 rfl) ?_
  exact hl4 _ _ _ _ rfl (Or.inl ⟨0, 1, rfl, rfl, by decide, by decide, rfl, gGo.z⟩)
