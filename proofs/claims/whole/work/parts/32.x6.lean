/-- a letter and its digit -/
def gMv (f : Nat → Int32) (n k : Nat) : Prop := (f k = nI 119 ∨ f k = nI 111) ∨ (k + 1 < n ∧ ((f k = nI 115 ∧ ∃ v, v < 10 ∧ f (k + 1) = nI (48 + v)) ∨ (f k = nI 116 ∧ ∃ v, v < 4 ∧ f (k + 1) = nI (48 + v))))
theorem dg_n {f : Nat → Int32} {n k v : Nat} (hk : k + 1 < n) (hv : v < 10) (h : f (k + 1) = nI (48 + v)) : gm_dg (gm_cd f n (k + 1)) = nI v ∧ mCd f n (k + 1) - nI 48 = nI v := by
  unfold gm_dg gm_cd mCd
  rw [if_pos hk, if_pos hk, h, if_neg (nI_nlt (by omega) (by omega)), if_neg (nI_nlt (by omega) (by omega)), pk_sub (by omega), Nat.add_sub_cancel_left]
  exact ⟨rfl, rfl⟩
set_option maxHeartbeats 2000000 in
set_option maxRecDepth 20000 in
theorem X6_does_ok {d : Nat} {μ : ev_M} {n k : Nat} {R : gm_R} (hl : μ 14 7 = nI n) (hr : mR μ = R) (hW : WFr R) (hk : k < n) (hm : gMv (μ 20) n k) (hn : n ≤ 60 := by omega) (hd : 6 ≤ d := by omega) : SPi (ev_CALL d) 142 [.ref 14, .int (nI k)] μ (fun x μ2 => x = bI (rm_play R (gm_cd (μ 20) n k) (gm_dg (gm_cd (μ 20) n (k + 1)))).1 ∧ mR μ2 = (rm_play R (gm_cd (μ 20) n k) (gm_dg (gm_cd (μ 20) n (k + 1)))).2 ∧ FH μ μ2) := by
  obtain ⟨d, rfl⟩ : ∃ q, d = q + 1 := ⟨d - 1, by omega⟩
  refine SPi.of (Nat.le_of_ble_eq_true rfl) ?_
  show es (ev_CALL d) 6 cX6_does (some .boolean) 0 (0, fun _ => 0, []) (fun r μ2 => ∃ x9 : Int32, r = (some (.int x9), 0) ∧ (fun x μ2 => x = bI (rm_play R (gm_cd (μ 20) n k) (gm_dg (gm_cd (μ 20) n (k + 1)))).1 ∧ mR μ2 = (rm_play R (gm_cd (μ 20) n k) (gm_dg (gm_cd (μ 20) n (k + 1)))).2 ∧ FH μ μ2) x9 μ2) 0 [.ref 14, .int (nI k), .null, .null, .null] [] μ 0
  obtain ⟨wP, wP4, won, won4, wit, wit4, wpl, wpb, wlt⟩ := WM.of hr hW
  have ec : gm_cd (μ 20) n k = μ 20 k := if_pos hk
  rw [ec]
  refine es_aload_n (pc := 0) dX6_does_0 rfl ?_
  refine es_getR (pc := 1) dX6_does_1 fr_6_26 fld_14_6 ?_
  refine es_iload_n (pc := 4) dX6_does_4 rfl ?_
  refine es_iald (pc := 5) dX6_does_5 lay_20 (by omega) ?_
  refine es_istore_n (pc := 6) dX6_does_6 (ok1_2 rfl) ?_
  refine es_aload_n (pc := 7) dX6_does_7 rfl ?_
  refine es_iload_n (pc := 8) dX6_does_8 rfl ?_
  refine es_iconstN (pc := 9) 1 dX6_does_9 ic_1 ?_
  refine es_iaddN (pc := 10) dX6_does_10 ?_
  refine es_cv1_p (pc := 11) dX6_does_11 mr_6_135 rfl rfl (by decide) (by decide) rfl (Nat.le_of_ble_eq_true rfl) (Nat.zero_le _) (X6_codeAt_ok hl) ?_
  refine es_bipushN (pc := 14) 48 dX6_does_14 bp_48 ?_
  refine es_isub (pc := 16) dX6_does_16 ?_
  refine es_istore_n (pc := 17) dX6_does_17 (ok1_3 rfl) ?_
  refine es_aload_n (pc := 18) dX6_does_18 rfl ?_
  refine es_cv0_p (pc := 19) dX6_does_19 mr_6_112 rfl rfl (by decide) (by decide) rfl (Nat.le_of_ble_eq_true rfl) (Nat.zero_le _) (X6_isOver_ok wP) ?_
  rw [hr]
  refine es_if_neB (pc := 22) 39 dX6_does_22 (by decide) (fun c22 => ?_) (fun c22 => ?_)
  · refine es_iconstN (pc := 39) 0 dX6_does_39 ic_0 ?_
    refine es_ireturn (pc := 40) dX6_does_40 rfl (rfl) (by decide) ?_
    have q : rm_play R (μ 20 k) (gm_dg (gm_cd (μ 20) n (k + 1))) = (false, R) := by rw [rm_play, if_pos c22]
    exact ⟨_, rfl, by rw [q]; rfl, by rw [q]; exact hr, FH.rf⟩
  · have hov := c22
    refine es_iload_n (pc := 25) dX6_does_25 rfl ?_
    refine es_bipushN (pc := 26) 116 dX6_does_26 bp_116 ?_
    refine es_icmp_ne (pc := 28) (tgt := 41) dX6_does_28 (by decide) (fun c28 => ?_) (fun c28 => ?_)
    · refine es_iload_n (pc := 41) dX6_does_41 rfl ?_
      refine es_bipushN (pc := 42) 119 dX6_does_42 bp_119 ?_
      refine es_icmp_ne (pc := 44) (tgt := 55) dX6_does_44 (by decide) (fun c44 => ?_) (fun c44 => ?_)
      · refine es_iload_n (pc := 55) dX6_does_55 rfl ?_
        refine es_bipushN (pc := 56) 115 dX6_does_56 bp_115 ?_
        refine es_icmp_ne (pc := 58) (tgt := 69) dX6_does_58 (by decide) (fun c58 => ?_) (fun c58 => ?_)
        · refine es_iload_n (pc := 69) dX6_does_69 rfl ?_
          refine es_bipushN (pc := 70) 111 dX6_does_70 bp_111 ?_
          refine es_icmp_ne (pc := 72) (tgt := 82) dX6_does_72 (by decide) (fun c72 => ?_) (fun c72 => ?_)
          · exfalso
            rcases hm with (h | h) | ⟨h0, ⟨h, -⟩ | ⟨h, -⟩⟩
            · exact c44 h
            · exact c72 h
            · exact c58 h
            · exact c28 h
          · refine es_aload_n (pc := 75) dX6_does_75 rfl ?_
            refine es_cv0_i (pc := 76) dX6_does_76 mr_6_122 rfl rfl (by decide) (by decide) rfl (Nat.le_of_ble_eq_true rfl) (Nat.zero_le _) (X6_overs_ok (by rw [hr]; exact hW) (by rw [hr]; exact over_P hW hov)) (fun x76 μ76 h76 => ?_)
            refine es_goto (pc := 79) (tgt := 87) dX6_does_79 (by decide) ?_
            refine es_if_ne (pc := 87) (tgt := 94) dX6_does_87 (by decide) (fun c87 => ?_) (fun c87 => ?_)
            · refine es_iconstN (pc := 94) 0 dX6_does_94 ic_0 ?_
              refine es_ireturn (pc := 95) dX6_does_95 rfl (rfl) (by decide) ?_
              have c87b := c87
              rw [h76.1, hr] at c87b
              have q : rm_play R (μ 20 k) (gm_dg (gm_cd (μ 20) n (k + 1))) = (false, (rm_turn R).2) := by rw [rm_play, if_neg (by simp [hov]), if_neg c44, if_pos c72]; simp [c87b]
              exact ⟨_, rfl, by rw [q]; rfl, by rw [q, h76.2.1, hr], h76.2.2⟩
            · refine es_iconstN (pc := 90) 1 dX6_does_90 ic_1 ?_
              refine es_goto (pc := 91) (tgt := 95) dX6_does_91 (by decide) ?_
              refine es_ireturn (pc := 95) dX6_does_95 rfl (rfl) (by decide) ?_
              have c87b := c87
              rw [h76.1, hr] at c87b
              have q : rm_play R (μ 20 k) (gm_dg (gm_cd (μ 20) n (k + 1))) = (true, (rm_turn R).2) := by rw [rm_play, if_neg (by simp [hov]), if_neg c44, if_pos c72]; simp [c87b]
              exact ⟨_, rfl, by rw [q]; rfl, by rw [q, h76.2.1, hr], h76.2.2⟩
        · obtain ⟨v, hv, hfv⟩ : ∃ v, v < 10 ∧ μ 20 (k + 1) = nI (48 + v) ∧ k + 1 < n := by
            rcases hm with (h | h) | ⟨h0, ⟨-, v, hv, h2⟩ | ⟨h, -⟩⟩
            · exact absurd (c58.symm.trans h) (by decide)
            · exact absurd (c58.symm.trans h) (by decide)
            · exact ⟨v, hv, h2, h0⟩
            · exact absurd (c58.symm.trans h) (by decide)
          obtain ⟨hd1, hd2⟩ := dg_n hfv.2 (by omega) hfv.1
          rw [hd1, hd2]
          · skip
            refine es_aload_n (pc := 61) dX6_does_61 rfl ?_
            refine es_iload_n (pc := 62) dX6_does_62 rfl ?_
            refine es_cv1_i (pc := 63) dX6_does_63 mr_6_119 rfl rfl (by decide) (by decide) rfl (Nat.le_of_ble_eq_true rfl) (Nat.zero_le _) (X6_goes_ok (by rw [hr]; exact hW) (by rw [hr]; exact over_P hW hov)) (fun x63 μ63 h63 => ?_)
            refine es_goto (pc := 66) (tgt := 87) dX6_does_66 (by decide) ?_
            refine es_if_ne (pc := 87) (tgt := 94) dX6_does_87 (by decide) (fun c87 => ?_) (fun c87 => ?_)
            · refine es_iconstN (pc := 94) 0 dX6_does_94 ic_0 ?_
              refine es_ireturn (pc := 95) dX6_does_95 rfl (rfl) (by decide) ?_
              have c87b := c87
              rw [h63.1, hr] at c87b
              have q : rm_play R (μ 20 k) (nI v) = (false, (rm_stride R v).2) := by rw [rm_play, if_neg (by simp [hov]), if_neg (by rw [c58]; decide), if_neg (by rw [c58]; decide), if_pos c58, if_neg (by rw [gm_is_nI (by omega)]; simp [hv]), cl_nI (by omega)]; simp [c87b]
              exact ⟨_, rfl, by rw [q]; rfl, by rw [q, h63.2.1, hr], h63.2.2⟩
            · refine es_iconstN (pc := 90) 1 dX6_does_90 ic_1 ?_
              refine es_goto (pc := 91) (tgt := 95) dX6_does_91 (by decide) ?_
              refine es_ireturn (pc := 95) dX6_does_95 rfl (rfl) (by decide) ?_
              have c87b := c87
              rw [h63.1, hr] at c87b
              have q : rm_play R (μ 20 k) (nI v) = (true, (rm_stride R v).2) := by rw [rm_play, if_neg (by simp [hov]), if_neg (by rw [c58]; decide), if_neg (by rw [c58]; decide), if_pos c58, if_neg (by rw [gm_is_nI (by omega)]; simp [hv]), cl_nI (by omega)]; simp [c87b]
              exact ⟨_, rfl, by rw [q]; rfl, by rw [q, h63.2.1, hr], h63.2.2⟩
      · refine es_aload_n (pc := 47) dX6_does_47 rfl ?_
        refine es_cv0_i (pc := 48) dX6_does_48 mr_6_116 rfl rfl (by decide) (by decide) rfl (Nat.le_of_ble_eq_true rfl) (Nat.zero_le _) (X6_waits_ok (by rw [hr]; exact hW) (by rw [hr]; exact over_P hW hov)) (fun x48 μ48 h48 => ?_)
        refine es_istore (pc := 51) dX6_does_51 (ok1_4 rfl) ?_
        refine es_iconstN (pc := 53) 1 dX6_does_53 ic_1 ?_
        refine es_ireturn (pc := 54) dX6_does_54 rfl (rfl) (by decide) ?_
        have q : rm_play R (μ 20 k) (gm_dg (gm_cd (μ 20) n (k + 1))) = (true, rm_wait R) := by rw [rm_play, if_neg (by simp [hov]), if_pos c44]
        exact ⟨_, rfl, by rw [q]; rfl, by rw [q, h48.2.1, hr], h48.2.2⟩
    · obtain ⟨v, hv, hfv⟩ : ∃ v, v < 4 ∧ μ 20 (k + 1) = nI (48 + v) ∧ k + 1 < n := by
        rcases hm with (h | h) | ⟨h0, ⟨h, -⟩ | ⟨-, v, hv, h2⟩⟩
        · exact absurd (c28.symm.trans h) (by decide)
        · exact absurd (c28.symm.trans h) (by decide)
        · exact absurd (c28.symm.trans h) (by decide)
        · exact ⟨v, hv, h2, h0⟩
      obtain ⟨hd1, hd2⟩ := dg_n hfv.2 (by omega) hfv.1
      rw [hd1, hd2]
      · skip
        refine es_aload_n (pc := 31) dX6_does_31 rfl ?_
        refine es_iload_n (pc := 32) dX6_does_32 rfl ?_
        refine es_cv1_p (pc := 33) dX6_does_33 mr_6_125 rfl rfl (by decide) (by decide) rfl (Nat.le_of_ble_eq_true rfl) (Nat.zero_le _) (X6_isPlayer_ok wP) ?_
        refine es_if_neB (pc := 36) 41 dX6_does_36 (by decide) (fun c36 => ?_) (fun c36 => ?_)
        · refine es_iload_n (pc := 41) dX6_does_41 rfl ?_
          refine es_bipushN (pc := 42) 119 dX6_does_42 bp_119 ?_
          refine es_icmp_ne (pc := 44) (tgt := 55) dX6_does_44 (by decide) (fun c44 => ?_) (fun c44 => ?_)
          · refine es_iload_n (pc := 55) dX6_does_55 rfl ?_
            refine es_bipushN (pc := 56) 115 dX6_does_56 bp_115 ?_
            refine es_icmp_ne (pc := 58) (tgt := 69) dX6_does_58 (by decide) (fun c58 => ?_) (fun c58 => ?_)
            · refine es_iload_n (pc := 69) dX6_does_69 rfl ?_
              refine es_bipushN (pc := 70) 111 dX6_does_70 bp_111 ?_
              refine es_icmp_ne (pc := 72) (tgt := 82) dX6_does_72 (by decide) (fun c72 => ?_) (fun c72 => ?_)
              · refine es_aload_n (pc := 82) dX6_does_82 rfl ?_
                refine es_iload_n (pc := 83) dX6_does_83 rfl ?_
                refine es_cv1_i (pc := 84) dX6_does_84 mr_6_129 rfl rfl (by decide) (by decide) rfl (Nat.le_of_ble_eq_true rfl) (Nat.zero_le _) (X6_tags_ok (by rw [hr]; exact hW) (by rw [hr]; exact over_P hW hov)) (fun x84 μ84 h84 => ?_)
                refine es_if_ne (pc := 87) (tgt := 94) dX6_does_87 (by decide) (fun c87 => ?_) (fun c87 => ?_)
                · refine es_iconstN (pc := 94) 0 dX6_does_94 ic_0 ?_
                  refine es_ireturn (pc := 95) dX6_does_95 rfl (rfl) (by decide) ?_
                  have c87b := c87
                  rw [h84.1, hr] at c87b
                  have q : rm_play R (μ 20 k) (nI v) = (false, (rm_tag R v).2) := by rw [rm_play, if_neg (by simp [hov]), if_neg c44, if_neg c72, if_neg c58, if_neg (by rw [c36]; decide), cl_nI (by omega)]; simp [c87b]
                  exact ⟨_, rfl, by rw [q]; rfl, by rw [q, h84.2.1, hr], h84.2.2⟩
                · refine es_iconstN (pc := 90) 1 dX6_does_90 ic_1 ?_
                  refine es_goto (pc := 91) (tgt := 95) dX6_does_91 (by decide) ?_
                  refine es_ireturn (pc := 95) dX6_does_95 rfl (rfl) (by decide) ?_
                  have c87b := c87
                  rw [h84.1, hr] at c87b
                  have q : rm_play R (μ 20 k) (nI v) = (true, (rm_tag R v).2) := by rw [rm_play, if_neg (by simp [hov]), if_neg c44, if_neg c72, if_neg c58, if_neg (by rw [c36]; decide), cl_nI (by omega)]; simp [c87b]
                  exact ⟨_, rfl, by rw [q]; rfl, by rw [q, h84.2.1, hr], h84.2.2⟩
              · exact absurd (c28.symm.trans c72) (by decide)
            · exact absurd (c28.symm.trans c58) (by decide)
          · exact absurd (c28.symm.trans c44) (by decide)
        · refine es_iconstN (pc := 39) 0 dX6_does_39 ic_0 ?_
          refine es_ireturn (pc := 40) dX6_does_40 rfl (rfl) (by decide) ?_
          have q : rm_play R (μ 20 k) (nI v) = (false, R) := by rw [rm_play, if_neg (by simp [hov]), if_neg (by rw [c28]; decide), if_neg (by rw [c28]; decide), if_neg (by rw [c28]; decide), if_pos c36]
          exact ⟨_, rfl, by rw [q]; rfl, by rw [q]; exact hr, FH.rf⟩
