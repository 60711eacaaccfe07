theorem gGo.mv {f : Nat → Int32} {n k : Nat} (ht : gm_tells f n = true) (h : gGo f n k) (hk : k < n) : (rMv f n k = nI 1 ∧ gMv f n k ∧ gGo f n (k + 1) ∧ gm_wd (gm_cd f n k) = 1) ∨ (rMv f n k = nI 2 ∧ gMv f n k ∧ gGo f n (k + 2) ∧ gm_wd (gm_cd f n k) = 2 ∧ k + 1 < n) := by
  have ec : gm_cd f n k = f k := if_pos hk
  rw [ec]
  rcases mv_cs (f := f) (n := n) (k := k) hk with ⟨e, e2⟩ | ⟨e, e2, e3⟩ | ⟨e, e2, e3⟩ | ⟨e, e2⟩
  · exact Or.inl ⟨e, Or.inl e2, h.n1 hk e2, by rcases e2 with e2 | e2 <;> rw [e2] <;> decide⟩
  · exact Or.inr ⟨e, Or.inr ⟨e2, e3⟩, h.n2 e2 e3, by rcases e3 with ⟨e3, -⟩ | ⟨e3, -⟩ <;> rw [e3] <;> decide, e2⟩
  · rw [h.bad9 hk e2 e3] at ht; exact absurd ht (by decide)
  · rw [h.bad10 hk e2] at ht; exact absurd ht (by decide)
theorem RepM.saveclr {μ μ1 μ2 μ3 : ev_M} {S : gS} {r : gm_R} (hR : RepM μ S) (h1 : RM μ μ1) (h2 : FH μ1 μ2) (hr : mR μ2 = r) (h3 : RC S.2.1.1 (ev_ms μ2 14 7 (nI 0)) μ3) : RepM μ3 (gClr (gTo S r)) ∧ μ3 14 8 = μ 14 8 ∧ FrM μ μ3 := by
  obtain ⟨k1, k2, k3, k4, k5⟩ := h3
  have k7 : μ3 14 7 = nI 0 := by rw [k2 7 (by decide), ms_at, if_pos rfl]
  have hc : RC S.2.1.1 μ2 (ev_ms μ3 14 7 (μ2 14 7)) := by
    refine ⟨?_, fun i hi => ?_, fun i j hi hj => ?_, fun j hj => ?_, fun q a b => ?_⟩
    · rw [ms_at, if_neg (by decide), k1]
    · rw [ms_at]
      by_cases e : i = 7
      · rw [if_pos e, e]
      · rw [if_neg e, k2 i hi, ms_at, if_neg e]
    · rw [ms_ne (by decide), k3 i j hi hj, ms_ne (by decide)]
    · rw [ms_ne (by decide), k4 j hj, ms_ne (by decide)]
    · rw [ms_ne a, k5 q a b, ms_ne a]
  obtain ⟨q1, q2, q3⟩ := RepM.save hR h1 h2 hr hc
  have e : ev_ms (ev_ms μ3 14 7 (μ2 14 7)) 14 7 (nI 0) = μ3 := by rw [ms_ms, ms_self k7.symm]
  refine ⟨?_, ?_, ?_⟩
  · have := RepM.txt q1 (n := 0) (by omega)
    rw [e] at this
    exact this
  · rw [← q2, ms_at, if_neg (by decide)]
  · intro k hk
    have := q3 k hk
    rw [ms_ne (by omega)] at this
    exact this
set_option maxHeartbeats 2000000 in
set_option maxRecDepth 20000 in
theorem X6_run_ok {d : Nat} {μ : ev_M} {S : gS} (hR : RepM μ S) (hW : WFS S) (hd : 8 ≤ d := by omega) : SPi (ev_CALL d) 140 [.ref 14] μ (QM (op_run S) μ) := by
  obtain ⟨d, rfl⟩ : ∃ q, d = q + 1 := ⟨d - 1, by omega⟩
  refine SPi.of (Nat.le_of_ble_eq_true rfl) ?_
  show es (ev_CALL d) 6 cX6_run (some .int) 0 (0, fun _ => 0, []) (fun r μ2 => ∃ x9 : Int32, r = (some (.int x9), 0) ∧ (QM (op_run S) μ) x9 μ2) 0 [.ref 14, .null, .null, .null] [] μ 0
  have hR0 := hR.t (x := nI 0)
  have hn6 := hR.n6
  have hm6 := hR.m
  obtain ⟨wP, wP4, won, won4, wit, wit4, wpl, wpb, wlt⟩ := WM.of (r := S.1) hR.g hW.1
  have w0 : ev_ms μ 14 8 (nI 0) 15 4 = nI (rP S.1) := by rw [ms_ne (by decide)]; exact wP
  refine es_aload_n (pc := 0) dX6_run_0 rfl ?_
  refine es_iconstN (pc := 1) 0 dX6_run_1 ic_0 ?_
  refine es_putI (pc := 2) dX6_run_2 fr_6_35 fld_14_8 ?_
  refine es_aload_n (pc := 5) dX6_run_5 rfl ?_
  refine es_cv0_p (pc := 6) dX6_run_6 mr_6_144 rfl rfl (by decide) (by decide) rfl (Nat.le_of_ble_eq_true rfl) (Nat.zero_le _) (X6_isGame_ok hR0.l) ?_
  rw [hR0.c]
  refine es_if_neB (pc := 9) 18 dX6_run_9 (by decide) (fun c9 => ?_) (fun c9 => ?_)
  · refine es_aload_n (pc := 18) dX6_run_18 rfl ?_
    refine es_cv0_v (pc := 19) dX6_run_19 mr_6_50 rfl rfl (by decide) (by decide) rfl (Nat.le_of_ble_eq_true rfl) (Nat.zero_le _) (X6_remember_ok) (fun μ19 h19 => ?_)
    have m19 : RM (ev_ms μ 14 8 (nI 0)) μ19 := h19
    have R1 := m19.rep hR0
    have e19 := R1.g
    have hl28 : ∀ (n9 : Nat) (ν : ev_M) (R : gm_R) (dn k : Nat) (b : Bool), n9 = S.2.2.2.1 - k → (FH μ19 ν) → (mR ν = R) → (WFr R) → (k ≤ S.2.2.2.1) → (dn ≤ k) → (b = true → gGo S.2.2.2.2 S.2.2.2.1 k ∧ rm_runs S.2.2.2.2 S.2.2.2.1 60 0 S.1 = (dn + (rm_runs S.2.2.2.2 S.2.2.2.1 (60 - dn) k R).1, (rm_runs S.2.2.2.2 S.2.2.2.1 (60 - dn) k R).2)) → (b = false → rm_runs S.2.2.2.2 S.2.2.2.1 60 0 S.1 = (dn, R)) → es (ev_CALL d) 6 cX6_run (some .int) 0 (0, fun _ => 0, []) (fun r μ2 => ∃ x9 : Int32, r = (some (.int x9), 0) ∧ (QM (op_run S) μ) x9 μ2) 28 [.ref 14, .int (nI dn), .int (nI k), .int (bI b)] [] ν 0 := by
      intro n9
      induction n9 using Nat.strongRecOn with
      | ind n9 ih28 =>
        intro ν R dn k b hn9 hF hRr hWr hk hdk hJ hJ2
        subst hn9
        have ih := ih28
        have e20 : ν 20 = S.2.2.2.2 := by rw [hF.1 20 (by decide) (by decide) (by decide)]; exact R1.c
        refine es_iload_n (pc := 28) dX6_run_28 rfl ?_
        refine es_aload_n (pc := 29) dX6_run_29 rfl ?_
        refine es_getI (pc := 30) dX6_run_30 fr_6_132 fld_14_7 ?_
        refine es_top (show ν 14 7 = nI S.2.2.2.1 by rw [hF.2 7 (by decide)]; exact R1.l) ?_
        refine es_icmp_geN (pc := 33) 69 dX6_run_33 (by decide) (by omega) (by omega) (fun c33 => ?_) (fun c33 => ?_)
        · refine es_aload_n (pc := 69) dX6_run_69 rfl ?_
          refine es_iconstN (pc := 70) 0 dX6_run_70 ic_0 ?_
          refine es_putI (pc := 71) dX6_run_71 fr_6_132 fld_14_7 ?_
          refine es_aload_n (pc := 74) dX6_run_74 rfl ?_
          refine es_iload_n (pc := 75) dX6_run_75 rfl ?_
          refine es_cv1_i (pc := 76) dX6_run_76 mr_6_53 rfl rfl (by decide) (by decide) rfl (Nat.le_of_ble_eq_true rfl) (Nat.zero_le _) (X6_record_ok (n := S.2.1.1) (by rw [ms_at, if_neg (by decide), hF.2 5 (by decide)]; exact R1.n)) (fun x76 μ76 h76 => ?_)
          refine es_ireturn (pc := 79) dX6_run_79 rfl (vp_nar_int _) (by decide) ?_
          have hfin : rm_runs S.2.2.2.2 S.2.2.2.1 60 0 S.1 = (dn, R) := by
            rcases Bool.eq_false_or_eq_true b with hb | hb
            · rw [(hJ hb).2]; exact rm_runs_ge (by omega)
            · exact hJ2 hb
          obtain ⟨q1, q2, q3⟩ := RepM.saveclr hR0 m19 hF hRr h76.2
          exact ⟨_, rfl, QM.of (op_run_ok c9 hfin) (by rw [q2]; simp [ms_full]) h76.1 q1 (FrM.tr (FrM.rf.ms (by decide)) q3)⟩
        · refine es_iload_n (pc := 36) dX6_run_36 rfl ?_
          refine es_if_eqB (pc := 37) 69 dX6_run_37 (by decide) (fun c37 => ?_) (fun c37 => ?_)
          · refine es_aload_n (pc := 69) dX6_run_69 rfl ?_
            refine es_iconstN (pc := 70) 0 dX6_run_70 ic_0 ?_
            refine es_putI (pc := 71) dX6_run_71 fr_6_132 fld_14_7 ?_
            refine es_aload_n (pc := 74) dX6_run_74 rfl ?_
            refine es_iload_n (pc := 75) dX6_run_75 rfl ?_
            refine es_cv1_i (pc := 76) dX6_run_76 mr_6_53 rfl rfl (by decide) (by decide) rfl (Nat.le_of_ble_eq_true rfl) (Nat.zero_le _) (X6_record_ok (n := S.2.1.1) (by rw [ms_at, if_neg (by decide), hF.2 5 (by decide)]; exact R1.n)) (fun x76 μ76 h76 => ?_)
            refine es_ireturn (pc := 79) dX6_run_79 rfl (vp_nar_int _) (by decide) ?_
            have hfin : rm_runs S.2.2.2.2 S.2.2.2.1 60 0 S.1 = (dn, R) := by
              rcases Bool.eq_false_or_eq_true b with hb | hb
              · rw [c37] at hb; exact absurd hb (by decide)
              · exact hJ2 hb
            obtain ⟨q1, q2, q3⟩ := RepM.saveclr hR0 m19 hF hRr h76.2
            exact ⟨_, rfl, QM.of (op_run_ok c9 hfin) (by rw [q2]; simp [ms_full]) h76.1 q1 (FrM.tr (FrM.rf.ms (by decide)) q3)⟩
          · have hb : b = true := c37
            have hg := (hJ hb).1
            have hmv : gMv S.2.2.2.2 S.2.2.2.1 k := by rcases gGo.mv c9 hg (by omega) with h | h <;> exact h.2.1
            refine es_aload_n (pc := 40) dX6_run_40 rfl ?_
            refine es_iload_n (pc := 41) dX6_run_41 rfl ?_
            refine es_cv1_i (pc := 42) dX6_run_42 mr_6_147 rfl rfl (by decide) (by decide) rfl (Nat.le_of_ble_eq_true rfl) (Nat.zero_le _) (X6_does_ok (show ν 14 7 = nI S.2.2.2.1 by rw [hF.2 7 (by decide)]; exact R1.l) hRr hWr (by omega) (by rw [e20]; exact hmv)) (fun x42 μ42 h42 => ?_)
            obtain ⟨rfl, r42, f42⟩ := h42
            rw [e20]
            refine es_istore_n (pc := 45) dX6_run_45 (ok1_3 rfl) ?_
            refine es_iload_n (pc := 46) dX6_run_46 rfl ?_
            refine es_iload_n (pc := 47) dX6_run_47 rfl ?_
            refine es_if_eqB (pc := 48) 55 dX6_run_48 (by decide) (fun c48 => ?_) (fun c48 => ?_)
            · refine es_iconstN (pc := 55) 0 dX6_run_55 ic_0 ?_
              refine es_iaddN (pc := 56) dX6_run_56 ?_
              refine es_istore_n (pc := 57) dX6_run_57 (ok1_1 rfl) ?_
              refine es_iload_n (pc := 58) dX6_run_58 rfl ?_
              refine es_aload_n (pc := 59) dX6_run_59 rfl ?_
              refine es_iload_n (pc := 60) dX6_run_60 rfl ?_
              refine es_cv1_p (pc := 61) dX6_run_61 mr_6_141 rfl rfl (by decide) (by decide) rfl (Nat.le_of_ble_eq_true rfl) (Nat.zero_le _) (X6_moveAt_ok (show μ42 14 7 = nI S.2.2.2.1 by rw [f42.2 7 (by decide), hF.2 7 (by decide)]; exact R1.l)) ?_
              rw [show μ42 20 = S.2.2.2.2 by rw [f42.1 20 (by decide) (by decide) (by decide)]; exact e20]
              refine es_iadd (pc := 64) dX6_run_64 ?_
              refine es_istore_n (pc := 65) dX6_run_65 (ok1_2 rfl) ?_
              refine es_goto (pc := 66) (tgt := 28) dX6_run_66 (by decide) ?_
              have hstep : rm_runs S.2.2.2.2 S.2.2.2.1 (60 - dn) k R = (if (rm_play R (gm_cd S.2.2.2.2 S.2.2.2.1 k) (gm_dg (gm_cd S.2.2.2.2 S.2.2.2.1 (k + 1)))).1 = true then ((rm_runs S.2.2.2.2 S.2.2.2.1 (60 - (dn + 1)) (k + gm_wd (gm_cd S.2.2.2.2 S.2.2.2.1 k)) (rm_play R (gm_cd S.2.2.2.2 S.2.2.2.1 k) (gm_dg (gm_cd S.2.2.2.2 S.2.2.2.1 (k + 1)))).2).1 + 1, (rm_runs S.2.2.2.2 S.2.2.2.1 (60 - (dn + 1)) (k + gm_wd (gm_cd S.2.2.2.2 S.2.2.2.1 k)) (rm_play R (gm_cd S.2.2.2.2 S.2.2.2.1 k) (gm_dg (gm_cd S.2.2.2.2 S.2.2.2.1 (k + 1)))).2).2) else (0, (rm_play R (gm_cd S.2.2.2.2 S.2.2.2.1 k) (gm_dg (gm_cd S.2.2.2.2 S.2.2.2.1 (k + 1)))).2)) := by
                rw [show 60 - dn = (60 - (dn + 1)) + 1 by omega, rm_runs, if_pos (by omega)]
              rw [e20] at r42
              have hI := (hJ hb).2
              rcases gGo.mv c9 hg (by omega) with ⟨e, -, g9, w9⟩ | ⟨e, -, g9, w9, k9⟩
              · rw [e, nI_add]
                exact ih28 _ (by omega) μ42 _ (dn + 0) (k + 1) _ rfl (hF.tr f42) r42 (wf_play hWr) (by omega) (by omega) (fun h => by rw [c48] at h; exact absurd h (by decide)) (fun _ => by rw [hI, hstep, if_neg (by rw [c48]; decide)]) -- 1
              · rw [e, nI_add]
                exact ih28 _ (by omega) μ42 _ (dn + 0) (k + 2) _ rfl (hF.tr f42) r42 (wf_play hWr) (by omega) (by omega) (fun h => by rw [c48] at h; exact absurd h (by decide)) (fun _ => by rw [hI, hstep, if_neg (by rw [c48]; decide)]) -- 2
            · refine es_iconstN (pc := 51) 1 dX6_run_51 ic_1 ?_
              refine es_goto (pc := 52) (tgt := 56) dX6_run_52 (by decide) ?_
              refine es_iaddN (pc := 56) dX6_run_56 ?_
              refine es_istore_n (pc := 57) dX6_run_57 (ok1_1 rfl) ?_
              refine es_iload_n (pc := 58) dX6_run_58 rfl ?_
              refine es_aload_n (pc := 59) dX6_run_59 rfl ?_
              refine es_iload_n (pc := 60) dX6_run_60 rfl ?_
              refine es_cv1_p (pc := 61) dX6_run_61 mr_6_141 rfl rfl (by decide) (by decide) rfl (Nat.le_of_ble_eq_true rfl) (Nat.zero_le _) (X6_moveAt_ok (show μ42 14 7 = nI S.2.2.2.1 by rw [f42.2 7 (by decide), hF.2 7 (by decide)]; exact R1.l)) ?_
              rw [show μ42 20 = S.2.2.2.2 by rw [f42.1 20 (by decide) (by decide) (by decide)]; exact e20]
              refine es_iadd (pc := 64) dX6_run_64 ?_
              refine es_istore_n (pc := 65) dX6_run_65 (ok1_2 rfl) ?_
              refine es_goto (pc := 66) (tgt := 28) dX6_run_66 (by decide) ?_
              have hstep : rm_runs S.2.2.2.2 S.2.2.2.1 (60 - dn) k R = (if (rm_play R (gm_cd S.2.2.2.2 S.2.2.2.1 k) (gm_dg (gm_cd S.2.2.2.2 S.2.2.2.1 (k + 1)))).1 = true then ((rm_runs S.2.2.2.2 S.2.2.2.1 (60 - (dn + 1)) (k + gm_wd (gm_cd S.2.2.2.2 S.2.2.2.1 k)) (rm_play R (gm_cd S.2.2.2.2 S.2.2.2.1 k) (gm_dg (gm_cd S.2.2.2.2 S.2.2.2.1 (k + 1)))).2).1 + 1, (rm_runs S.2.2.2.2 S.2.2.2.1 (60 - (dn + 1)) (k + gm_wd (gm_cd S.2.2.2.2 S.2.2.2.1 k)) (rm_play R (gm_cd S.2.2.2.2 S.2.2.2.1 k) (gm_dg (gm_cd S.2.2.2.2 S.2.2.2.1 (k + 1)))).2).2) else (0, (rm_play R (gm_cd S.2.2.2.2 S.2.2.2.1 k) (gm_dg (gm_cd S.2.2.2.2 S.2.2.2.1 (k + 1)))).2)) := by
                rw [show 60 - dn = (60 - (dn + 1)) + 1 by omega, rm_runs, if_pos (by omega)]
              rw [e20] at r42
              have hI := (hJ hb).2
              rcases gGo.mv c9 hg (by omega) with ⟨e, -, g9, w9⟩ | ⟨e, -, g9, w9, k9⟩
              · rw [e, nI_add]
                exact ih28 _ (by omega) μ42 _ (dn + 1) (k + 1) _ rfl (hF.tr f42) r42 (wf_play hWr) (by omega) (by omega) (fun _ => ⟨g9, by rw [hI, hstep, if_pos c48, w9]; simp only [Nat.add_assoc, Nat.add_comm 1]⟩) (fun h => by rw [c48] at h; exact absurd h (by decide)) -- 1
              · rw [e, nI_add]
                exact ih28 _ (by omega) μ42 _ (dn + 1) (k + 2) _ rfl (hF.tr f42) r42 (wf_play hWr) (by omega) (by omega) (fun _ => ⟨g9, by rw [hI, hstep, if_pos c48, w9]; simp only [Nat.add_assoc, Nat.add_comm 1]⟩) (fun h => by rw [c48] at h; exact absurd h (by decide)) -- 2
    refine es_iconstN (pc := 22) 0 dX6_run_22 ic_0 ?_
    refine es_istore_n (pc := 23) dX6_run_23 (ok1_1 rfl) ?_
    refine es_iconstN (pc := 24) 0 dX6_run_24 ic_0 ?_
    refine es_istore_n (pc := 25) dX6_run_25 (ok1_2 rfl) ?_
    refine es_iconstN (pc := 26) 1 dX6_run_26 ic_1 ?_
    refine es_istore_n (pc := 27) dX6_run_27 (ok1_3 rfl) ?_
    exact hl28 _ μ19 S.1 0 0 true rfl FH.rf e19 hW.1 (by omega) (by omega) (fun _ => ⟨gGo.z, by simp⟩) (fun h => absurd h (by decide))
  · refine es_aload_n (pc := 12) dX6_run_12 rfl ?_
    refine es_iconstN (pc := 13) 1 dX6_run_13 ic_1 ?_
    refine es_cv1_i (pc := 14) dX6_run_14 mr_6_46 rfl rfl (by decide) (by decide) rfl (Nat.le_of_ble_eq_true rfl) (Nat.zero_le _) (X6_wrong_ok) (fun x14 μ14 h14 => ?_)
    refine es_ireturn (pc := 17) dX6_run_17 rfl (vp_nar_int _) (by decide) ?_
    exact ⟨_, rfl, QM.no (k := 0) (by rw [op_run, if_pos c9] <;> rfl) hR h14.2⟩
