theorem rMov_w {R : gm_R} {p t : Nat} (ha : rPl R p < 10) (h : rPl R p ≠ t) : rMov R p t = wk_few (fun n => wR R t n (w0 R p)) := by
  unfold rMov
  rw [if_neg h]
  congr 1
  funext n
  exact wk_rc_cong _ _ _ _ _ _ (fun j hj => if_pos hj) ha
theorem bk_le {m b n : Nat} (h : m < n) (hd : b ∣ n) (hb : 0 < b) : (m / b + 1) * b ≤ n := by
  obtain ⟨c, rfl⟩ := hd
  rw [Nat.mul_comm]
  exact Nat.mul_le_mul_left b ((Nat.div_lt_iff_lt_mul hb).mpr (by rw [Nat.mul_comm]; exact h))
theorem bk_lt {m b : Nat} (hb : 0 < b) : m < (m / b + 1) * b := by
  rw [Nat.add_mul, Nat.one_mul]
  have := Nat.div_add_mod m b
  have := Nat.mod_lt m hb
  rw [Nat.mul_comm]
  omega
theorem bk_eq {m m2 b : Nat} (hb : 0 < b) (h1 : m ≤ m2) (h2 : m2 < (m / b + 1) * b) : m2 / b = m / b := by
  have a1 := Nat.div_le_div_right (c := b) h1
  have a2 := (Nat.div_lt_iff_lt_mul hb).mpr h2
  omega
theorem stp_lt {r : gm_R} {mv : Nat} {s s2 : wS} (h : stp r mv s = some s2) (hs : s.2.1 < 2 ^ 31) : s2.2.1 < 2 ^ 31 := by
  rw [(stp_at h).1]
  split
  · omega
  · exact hs
theorem sq_lt {r : gm_R} : ∀ (n m : Nat) (s s2 : wS), sq r n m s = some s2 → s.2.1 < 2 ^ 31 → s2.2.1 < 2 ^ 31
  | 0, m, s, s2, h, hs => by cases h; exact hs
  | n + 1, m, s, s2, h, hs => by
    unfold sq at h
    cases hq : stp r (m / 12 ^ n) s with
    | none => rw [hq] at h; cases h
    | some s3 =>
      rw [hq] at h
      exact sq_lt n _ s3 s2 h (stp_lt hq hs)
theorem sq_at {r : gm_R} {p n m : Nat} {s2 : wS} (h : sq r n m (w0 r p) = some s2) (hp : rPl r p < 10) : s2.2.1 < 2 ^ 31 := sq_lt n m _ s2 h (by show rPl r p < _; omega)
set_option maxHeartbeats 2000000 in
set_option maxRecDepth 20000 in
theorem X6_fewest_ok {d : Nat} {μ : ev_M} {R : gm_R} {p t : Nat} (hr : mR μ = R) (hW : WFr R) (hp : p < 4 := by omega) (ht : t < 10 := by omega) (hd : 7 ≤ d := by omega) : SPi (ev_CALL d) 160 [.ref 14, .int (nI p), .int (nI t)] μ (fun x μ2 => x = rMov R p t ∧ FG μ μ2) := by
  obtain ⟨d, rfl⟩ : ∃ q, d = q + 1 := ⟨d - 1, by omega⟩
  refine SPi.of (Nat.le_of_ble_eq_true rfl) ?_
  show es (ev_CALL d) 6 cX6_fewest (some .int) 0 (0, fun _ => 0, []) (fun r μ2 => ∃ x9 : Int32, r = (some (.int x9), 0) ∧ (fun x μ2 => x = rMov R p t ∧ FG μ μ2) x9 μ2) 0 [.ref 14, .int (nI p), .int (nI t), .null, .null, .null, .null] [] μ 0
  obtain ⟨wP, wP4, won, won4, wit, wit4, wpl, wpb, wlt⟩ := WM.of hr hW
  have hpb := wpb p
  refine es_aload_n (pc := 0) dX6_fewest_0 rfl ?_
  refine es_iload_n (pc := 1) dX6_fewest_1 rfl ?_
  refine es_iconstN (pc := 2) 0 dX6_fewest_2 ic_0 ?_
  refine es_cv2_p (pc := 3) dX6_fewest_3 mr_6_63 rfl rfl (by decide) (by decide) rfl (Nat.le_of_ble_eq_true rfl) (Nat.zero_le _) (X6_its_ok) ?_
  refine es_top (show _ = nI (rPl R p) from wpl p hp) ?_
  refine es_iload_n (pc := 6) dX6_fewest_6 rfl ?_
  refine es_icmp_neN (pc := 7) 12 dX6_fewest_7 (by decide) (by omega) (by omega) (fun c7 => ?_) (fun c7 => ?_)
  · have hne : rPl R p ≠ t := by omega
    have hl17 : ∀ (n9 : Nat) (ν : ev_M) (q : Nat) (j5 j6 : Value), n9 = 5 - q → (FG μ ν) → (q ≤ 4) → (∀ j, 1 ≤ j → j < q + 1 → ¬ Eg R t j (w0 R p)) → es (ev_CALL d) 6 cX6_fewest (some .int) 0 (0, fun _ => 0, []) (fun r μ2 => ∃ x9 : Int32, r = (some (.int x9), 0) ∧ (fun x μ2 => x = rMov R p t ∧ FG μ μ2) x9 μ2) 17 [.ref 14, .int (nI p), .int (nI t), .int (nI (12 ^ q)), .int (nI (q + 1)), j5, j6] [] ν 0 := by
      intro n9
      induction n9 using Nat.strongRecOn with
      | ind n9 ih17 =>
        intro ν q j5 j6 hn9 hF hq hno
        subst hn9
        have ih := ih17
        have h12 := p12_le (k := q + 1) (by omega)
        refine es_iload (pc := 17) dX6_fewest_17 rfl ?_
        refine es_iconstN (pc := 19) 5 dX6_fewest_19 ic_5 ?_
        refine es_icmp_geN (pc := 20) 96 dX6_fewest_20 (by decide) (by omega) (by omega) (fun c20 => ?_) (fun c20 => ?_)
        · refine es_iconstM (pc := 96) dX6_fewest_96 (-1) ic_m1 ?_
          refine es_ireturn (pc := 97) dX6_fewest_97 rfl (vp_nar_int _) (by decide) ?_
          have hfb : ∀ j, (∀ i, 1 ≤ i → i ≤ j → ¬ Eg R t i (w0 R p)) → wR R t j (w0 R p) = false := fun j h => by
            by_cases e : wR R t j (w0 R p) = true
            · obtain ⟨i, i1, i2, i3⟩ := (wR_E ht j (w0 R p) hne).mp e
              exact absurd i3 (h i i1 i2)
            · simpa using e
          refine ⟨_, rfl, ?_, hF⟩
          rw [rMov_w hpb hne]
          exact (wk_few_no (fun j h1 h2 => hfb j (fun i i1 i2 => hno i i1 (by omega)))).symm
        · refine es_iload_n (pc := 23) dX6_fewest_23 rfl ?_
          refine es_bipushN (pc := 24) 12 dX6_fewest_24 bp_12 ?_
          refine es_imulN (pc := 26) dX6_fewest_26 ?_
          refine es_istore_n (pc := 27) dX6_fewest_27 (ok1_3 rfl) ?_
          have hl31 : ∀ (n9 : Nat) (ν2 : ev_M) (mv : Nat) (j6 : Value), n9 = 12 ^ (q + 1) - mv → (FG μ ν2) → (mv ≤ 12 ^ (q + 1)) → (∀ m2, m2 < mv → ∀ s2, sq R (q + 1) m2 (w0 R p) = some s2 → s2.2.1 ≠ t) → es (ev_CALL d) 6 cX6_fewest (some .int) 0 (0, fun _ => 0, []) (fun r μ2 => ∃ x9 : Int32, r = (some (.int x9), 0) ∧ (fun x μ2 => x = rMov R p t ∧ FG μ μ2) x9 μ2) 31 [.ref 14, .int (nI p), .int (nI t), .int (nI (12 ^ (q + 1))), .int (nI (q + 1)), .int (nI mv), j6] [] ν2 0 := by
            intro n9
            induction n9 using Nat.strongRecOn with
            | ind n9 ih31 =>
              intro ν2 mv j6 hn9 hF2 hmv hn2
              subst hn9
              have ih := ih31
              have h13 := p12_le (k := q + 2) (by omega)
              have h14 : p12 (q + 2) = 12 ^ (q + 1) := rfl
              refine es_iload (pc := 31) dX6_fewest_31 rfl ?_
              refine es_iload_n (pc := 33) dX6_fewest_33 rfl ?_
              refine es_icmp_geN (pc := 34) 90 dX6_fewest_34 (by decide) (by omega) (by omega) (fun c34 => ?_) (fun c34 => ?_)
              · refine es_iincN (pc := 90) 1 dX6_fewest_90 ic_1 rfl (ok1_4 rfl) ?_
                refine es_goto (pc := 93) (tgt := 17) dX6_fewest_93 (by decide) ?_
                exact ih17 _ (by omega) ν2 (q + 1) _ _ rfl hF2 (by omega) (fun j h1 h2 h => by
                  rcases Nat.lt_or_ge j (q + 1) with w | w
                  · exact hno j h1 w h
                  · obtain rfl : j = q + 1 := by omega
                    obtain ⟨m2, s2, e1, e2, e3⟩ := (sq_E _ _).mp h
                    exact hn2 m2 (by omega) s2 e2 e3)
              · refine es_aload_n (pc := 37) dX6_fewest_37 rfl ?_
                refine es_iload_n (pc := 38) dX6_fewest_38 rfl ?_
                refine es_iload (pc := 39) dX6_fewest_39 rfl ?_
                refine es_iload_n (pc := 41) dX6_fewest_41 rfl ?_
                refine es_cv3_i (pc := 42) dX6_fewest_42 mr_6_181 rfl rfl (by decide) (by decide) rfl (Nat.le_of_ble_eq_true rfl) (Nat.zero_le _) (X6_breaks_ok (R := R) (n := q + 1) (by rw [hF2.row, hr]) hW c34 (by omega)) (fun x42 μ42 h42 => ?_)
                obtain ⟨f42, hb⟩ := h42
                rcases hb with ⟨rfl, s2, hs2, hs9⟩ | ⟨k, hkq, rfl, hbk⟩
                · skip
                  refine es_istore (pc := 45) dX6_fewest_45 (ok1_6 rfl) ?_
                  refine es_iload (pc := 47) dX6_fewest_47 rfl ?_
                  refine es_if_neN (pc := 49) 63 dX6_fewest_49 (by decide) (by omega) (fun c49 => ?_) (fun c49 => ?_)
                  · exact absurd c49 (by decide)
                  · refine es_aload_n (pc := 52) dX6_fewest_52 rfl ?_
                    refine es_getI (pc := 53) dX6_fewest_53 fr_6_67 fld_14_9 ?_
                    refine es_top hs9 ?_
                    have hBd : s2.2.1 < 2 ^ 31 := sq_at hs2 hpb
                    refine es_iload_n (pc := 56) dX6_fewest_56 rfl ?_
                    refine es_icmp_neN (pc := 57) 63 dX6_fewest_57 (by decide) (by omega) (by omega) (fun c57 => ?_) (fun c57 => ?_)
                    · refine es_iload (pc := 63) dX6_fewest_63 rfl ?_
                      refine es_if_neN (pc := 65) 75 dX6_fewest_65 (by decide) (by omega) (fun c65 => ?_) (fun c65 => ?_)
                      · exact absurd c65 (by decide)
                      · refine es_iload (pc := 68) dX6_fewest_68 rfl ?_
                        refine es_iconstN (pc := 70) 1 dX6_fewest_70 ic_1 ?_
                        refine es_iaddN (pc := 71) dX6_fewest_71 ?_
                        refine es_goto (pc := 72) (tgt := 85) dX6_fewest_72 (by decide) ?_
                        refine es_istore (pc := 85) dX6_fewest_85 (ok1_5 rfl) ?_
                        refine es_goto (pc := 87) (tgt := 31) dX6_fewest_87 (by decide) ?_
                        refine ih31 _ (by omega) _ (mv + 1) _ rfl (hF2.tr f42) (by omega) (fun m2 h s3 e3 => ?_)
                        rcases Nat.lt_or_ge m2 mv with w | w
                        · exact hn2 m2 w s3 e3
                        · obtain rfl : m2 = mv := by omega
                          rw [e3] at hs2
                          cases hs2
                          exact c57
                    · refine es_iload (pc := 60) dX6_fewest_60 rfl ?_
                      refine es_ireturn (pc := 62) dX6_fewest_62 rfl (vp_nar_int _) (by decide) ?_
                      have hfb : ∀ j, (∀ i, 1 ≤ i → i ≤ j → ¬ Eg R t i (w0 R p)) → wR R t j (w0 R p) = false := fun j h => by
                        by_cases e : wR R t j (w0 R p) = true
                        · obtain ⟨i, i1, i2, i3⟩ := (wR_E ht j (w0 R p) hne).mp e
                          exact absurd i3 (h i i1 i2)
                        · simpa using e
                      refine ⟨_, rfl, ?_, hF2.tr f42⟩
                      rw [rMov_w hpb hne]
                      exact (wk_few_k (k := q + 1) (fun j h1 h2 => hfb j (fun i i1 i2 => hno i i1 (by omega))) ((wR_E ht (q + 1) (w0 R p) hne).mpr ⟨q + 1, by omega, by omega, (sq_E _ _).mpr ⟨mv, s2, c34, hs2, c57⟩⟩) (by omega) (by omega)).symm
                · have hk12 := p12_le (k := k + 1) (by omega)
                  have hk13 : p12 (k + 1) = 12 ^ k := rfl
                  have hk14 : 0 < 12 ^ k := Nat.pow_pos (by decide)
                  refine es_istore (pc := 45) dX6_fewest_45 (ok1_6 rfl) ?_
                  refine es_iload (pc := 47) dX6_fewest_47 rfl ?_
                  refine es_if_neN (pc := 49) 63 dX6_fewest_49 (by decide) (by omega) (fun c49 => ?_) (fun c49 => ?_)
                  · refine es_iload (pc := 63) dX6_fewest_63 rfl ?_
                    refine es_if_neN (pc := 65) 75 dX6_fewest_65 (by decide) (by omega) (fun c65 => ?_) (fun c65 => ?_)
                    · refine es_iload (pc := 75) dX6_fewest_75 rfl ?_
                      refine es_iload (pc := 77) dX6_fewest_77 rfl ?_
                      refine es_idivN (pc := 79) dX6_fewest_79 (by omega) (by omega) (by omega) ?_
                      refine es_iconstN (pc := 80) 1 dX6_fewest_80 ic_1 ?_
                      refine es_iaddN (pc := 81) dX6_fewest_81 ?_
                      refine es_iload (pc := 82) dX6_fewest_82 rfl ?_
                      refine es_imulN (pc := 84) dX6_fewest_84 ?_
                      refine es_istore (pc := 85) dX6_fewest_85 (ok1_5 rfl) ?_
                      refine es_goto (pc := 87) (tgt := 31) dX6_fewest_87 (by decide) ?_
                      have hb0 : 0 < 12 ^ k := Nat.pow_pos (by decide)
                      have b1 := bk_lt (m := mv) hb0
                      have b2 := bk_le (m := mv) (b := 12 ^ k) c34 (Nat.pow_dvd_pow 12 (by omega)) hb0
                      refine ih31 _ (by omega) _ ((mv / 12 ^ k + 1) * 12 ^ k) _ rfl (hF2.tr f42) b2 (fun m2 h s3 e3 => ?_)
                      rcases Nat.lt_or_ge m2 mv with w | w
                      · exact hn2 m2 w s3 e3
                      · rw [hbk m2 (by omega) (bk_eq hb0 w h)] at e3
                        cases e3
                    · exact absurd c65 (by omega)
                  · exact absurd c49 (by omega)
          refine es_iconstN (pc := 28) 0 dX6_fewest_28 ic_0 ?_
          refine es_istore (pc := 29) dX6_fewest_29 (ok1_5 rfl) ?_
          exact hl31 _ ν 0 _ rfl hF (Nat.zero_le _) (fun m2 h => absurd h (Nat.not_lt_zero m2))
    refine es_iconstN (pc := 12) 1 dX6_fewest_12 ic_1 ?_
    refine es_istore_n (pc := 13) dX6_fewest_13 (ok1_3 rfl) ?_
    refine es_iconstN (pc := 14) 1 dX6_fewest_14 ic_1 ?_
    refine es_istore (pc := 15) dX6_fewest_15 (ok1_4 rfl) ?_
    exact hl17 _ μ 0 _ _ rfl FG.rf (by omega) (fun j h1 h2 => by omega)
  · refine es_iconstN (pc := 10) 0 dX6_fewest_10 ic_0 ?_
    refine es_ireturn (pc := 11) dX6_fewest_11 rfl (vp_nar_int _) (by decide) ?_
    exact ⟨_, rfl, by unfold rMov; rw [if_pos (by omega)], FG.rf⟩
set_option maxHeartbeats 2000000 in
set_option maxRecDepth 20000 in
theorem X6_movesTo_ok {d : Nat} {μ : ev_M} {S : gS} {x y : Int32} (hR : RepM μ S) (hW : WFS S) (hd : 9 ≤ d := by omega) : SPi (ev_CALL d) 159 [.ref 14, .int x, .int y] μ (QM (op_moves S x y) μ) := by
  obtain ⟨d, rfl⟩ : ∃ q, d = q + 1 := ⟨d - 1, by omega⟩
  refine SPi.of (Nat.le_of_ble_eq_true rfl) ?_
  show es (ev_CALL d) 6 cX6_movesTo (some .int) 0 (0, fun _ => 0, []) (fun r μ2 => ∃ x9 : Int32, r = (some (.int x9), 0) ∧ (QM (op_moves S x y) μ) x9 μ2) 0 [.ref 14, .int x, .int y] [] μ 0
  have hR0 := hR.t (x := nI 0)
  have hn6 := hR.n6
  have hm6 := hR.m
  obtain ⟨wP, wP4, won, won4, wit, wit4, wpl, wpb, wlt⟩ := WM.of (r := S.1) hR.g hW.1
  have w0 : ev_ms μ 14 8 (nI 0) 15 4 = nI (rP S.1) := by rw [ms_ne (by decide)]; exact wP
  refine es_aload_n (pc := 0) dX6_movesTo_0 rfl ?_
  refine es_iconstN (pc := 1) 0 dX6_movesTo_1 ic_0 ?_
  refine es_putI (pc := 2) dX6_movesTo_2 fr_6_35 fld_14_8 ?_
  refine es_aload_n (pc := 5) dX6_movesTo_5 rfl ?_
  refine es_iload_n (pc := 6) dX6_movesTo_6 rfl ?_
  refine es_cv1_p (pc := 7) dX6_movesTo_7 mr_6_125 rfl rfl (by decide) (by decide) rfl (Nat.le_of_ble_eq_true rfl) (Nat.zero_le _) (X6_isPlayer_ok w0) ?_
  refine es_if_eqB (pc := 10) 32 dX6_movesTo_10 (by decide) (fun c10 => ?_) (fun c10 => ?_)
  · refine es_aload_n (pc := 32) dX6_movesTo_32 rfl ?_
    refine es_iconstN (pc := 33) 1 dX6_movesTo_33 ic_1 ?_
    refine es_cv1_i (pc := 34) dX6_movesTo_34 mr_6_46 rfl rfl (by decide) (by decide) rfl (Nat.le_of_ble_eq_true rfl) (Nat.zero_le _) (X6_wrong_ok) (fun x34 μ34 h34 => ?_)
    refine es_ireturn (pc := 37) dX6_movesTo_37 rfl (vp_nar_int _) (by decide) ?_
    exact ⟨_, rfl, QM.no (k := 0) (by rw [op_moves, if_pos (by simp [c10])] <;> rfl) hR h34.2⟩
  · refine es_iload_n (pc := 13) dX6_movesTo_13 rfl ?_
    refine es_iconstN (pc := 14) 0 dX6_movesTo_14 ic_0 ?_
    refine es_bipushN (pc := 15) 9 dX6_movesTo_15 bp_9 ?_
    refine es_cs3_p (pc := 17) dX6_movesTo_17 mr_6_39 rfl rfl rfl (Nat.le_of_ble_eq_true rfl) (Nat.zero_le _) (X6_in_ok) ?_
    rw [in10]
    refine es_if_eqB (pc := 20) 32 dX6_movesTo_20 (by decide) (fun c20 => ?_) (fun c20 => ?_)
    · refine es_aload_n (pc := 32) dX6_movesTo_32 rfl ?_
      refine es_iconstN (pc := 33) 1 dX6_movesTo_33 ic_1 ?_
      refine es_cv1_i (pc := 34) dX6_movesTo_34 mr_6_46 rfl rfl (by decide) (by decide) rfl (Nat.le_of_ble_eq_true rfl) (Nat.zero_le _) (X6_wrong_ok) (fun x34 μ34 h34 => ?_)
      refine es_ireturn (pc := 37) dX6_movesTo_37 rfl (vp_nar_int _) (by decide) ?_
      exact ⟨_, rfl, QM.no (k := 0) (by rw [op_moves, if_pos (by simp [c20])] <;> rfl) hR h34.2⟩
    · obtain ⟨p, hp, rfl⟩ := gm_is_t c10 (by omega)
      obtain ⟨t, ht, rfl⟩ := gm_is_t c20 (by omega)
      refine es_aload_n (pc := 23) dX6_movesTo_23 rfl ?_
      refine es_iload_n (pc := 24) dX6_movesTo_24 rfl ?_
      refine es_iload_n (pc := 25) dX6_movesTo_25 rfl ?_
      refine es_cv2_i (pc := 26) dX6_movesTo_26 mr_6_185 rfl rfl (by decide) (by decide) rfl (Nat.le_of_ble_eq_true rfl) (Nat.zero_le _) (X6_fewest_ok (R := S.1) hR0.g hW.1) (fun x26 μ26 h26 => ?_)
      refine es_goto (pc := 29) (tgt := 37) dX6_movesTo_29 (by decide) ?_
      refine es_ireturn (pc := 37) dX6_movesTo_37 rfl (vp_nar_int _) (by decide) ?_
      exact ⟨_, rfl, QM.of (by rw [op_moves, if_neg (by simp [c10, c20]), cl_nI (by omega), cl_nI (by omega)]) (by rw [h26.2.2 8 (by decide)]; simp [ms_full]) h26.1 (hR0.fg h26.2) (FrM.tr (FrM.rf.ms (by decide)) h26.2.fr)⟩
