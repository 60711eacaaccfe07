def w0 (r : gm_R) (p : Nat) : wS := (fun k => r (21 + k), rPl r p, r (31 + 7 * p + 1), r (31 + 7 * p + 2))
theorem Bd_0 {r : gm_R} {p : Nat} (hW : WFr r) (hp : p < 4) : Bd (w0 r p) := by
  refine ⟨wf_pl hW p, ?_⟩
  obtain ⟨P, on, it, br, s0, s1, s2, s3, hh, sd, pl, ab, bl, -, ⟨b1, b2, -⟩, ⟨c1, c2, c3⟩, ⟨d1, d2, d3, d4, d5⟩, e1, e2, e3⟩ := hW
  refine ⟨ab p, bl p, sd, d3 p hp, d4 p hp, c3, ?_⟩
  have := nsum_le (f := ab) hp
  have := nsum_le (f := bl) hp
  omega
theorem md1 {m k : Nat} : (m % 12 ^ (k + 1)) / 12 ^ k = (m / 12 ^ k) % 12 := by
  rw [Nat.pow_succ, Nat.mod_mul_right_div_self]
theorem md2 {m k : Nat} : (m % 12 ^ (k + 1)) % 12 ^ k = m % 12 ^ k := Nat.mod_mod_of_dvd _ (by rw [Nat.pow_succ]; exact Nat.dvd_mul_right _ _)
theorem md3 {m m2 k : Nat} (h : m / 12 ^ k = m2 / 12 ^ k) : m / 12 ^ (k + 1) = m2 / 12 ^ (k + 1) := by
  rw [Nat.pow_succ, ← Nat.div_div_eq_div_mul, ← Nat.div_div_eq_div_mul, h]
def RGs (μ : ev_M) (s : wS) : Prop := RG μ s.2.1 s.2.2.1 s.2.2.2 s.1
theorem RG.cg {μ : ev_M} {a : Nat} {x y x2 y2 : Int32} {ly l2 : Nat → Int32} (h : RG μ a x y ly) (hx : x = x2) (hy : y = y2) (hl : ∀ k, k < 10 → ly k = l2 k) : RG μ a x2 y2 l2 := ⟨h.1, by rw [← hx]; exact h.2.1, by rw [← hy]; exact h.2.2.1, fun k hk => by rw [← hl k hk]; exact h.2.2.2 k hk⟩
def BKp (R : gm_R) (p n mo k : Nat) (s : wS) : Prop := ∀ m2, m2 < 12 ^ n → m2 / 12 ^ k = mo / 12 ^ k → sq R n m2 (w0 R p) = sq R k (m2 % 12 ^ k) s
theorem BKp_no {R : gm_R} {p n mo k : Nat} {s : wS} (h : BKp R p n mo (k + 1) s) (hs : stp R ((mo / 12 ^ k) % 12) s = none) : ∀ m2, m2 < 12 ^ n → m2 / 12 ^ k = mo / 12 ^ k → sq R n m2 (w0 R p) = none := fun m2 h1 h2 => by
  rw [h m2 h1 (md3 h2)]
  unfold sq
  rw [md1, h2, hs]
theorem BKp_so {R : gm_R} {p n mo k : Nat} {s s2 : wS} (h : BKp R p n mo (k + 1) s) (hs : stp R ((mo / 12 ^ k) % 12) s = some s2) : BKp R p n mo k s2 := fun m2 h1 h2 => by
  rw [h m2 h1 (md3 h2)]
  show (match stp R ((m2 % 12 ^ (k + 1)) / 12 ^ k) s with | none => none | some s2 => sq R k ((m2 % 12 ^ (k + 1)) % 12 ^ k) s2) = _
  rw [md1, h2, hs, md2]
def p12 : Nat → Nat
  | 0 => 0
  | k + 1 => 12 ^ k
theorem p12_d : ∀ k, p12 (k + 1) / 12 = p12 k
  | 0 => rfl
  | k + 1 => by
    show 12 ^ (k + 1) / 12 = 12 ^ k
    rw [Nat.pow_succ]
    exact Nat.mul_div_cancel _ (by decide)
theorem p12_le {k : Nat} (h : k ≤ 5) : p12 k ≤ 20736 := by
  rcases (show k = 0 ∨ k = 1 ∨ k = 2 ∨ k = 3 ∨ k = 4 ∨ k = 5 by omega) with rfl | rfl | rfl | rfl | rfl | rfl <;> decide
set_option maxHeartbeats 2000000 in
set_option maxRecDepth 20000 in
theorem X6_breaks_ok {d : Nat} {μ : ev_M} {R : gm_R} {p mo n : Nat} (hr : mR μ = R) (hW : WFr R) (hmo : mo < 12 ^ n) (hn : n ≤ 4) (hp : p < 4 := by omega) (hd : 5 ≤ d := by omega) : SPi (ev_CALL d) 161 [.ref 14, .int (nI p), .int (nI mo), .int (nI (12 ^ n))] μ (fun x μ2 => FG μ μ2 ∧ ((x = nI 0 ∧ ∃ s2, sq R n mo (w0 R p) = some s2 ∧ μ2 14 9 = nI s2.2.1) ∨ ∃ k, k < n ∧ x = nI (12 ^ k) ∧ ∀ m2, m2 < 12 ^ n → m2 / 12 ^ k = mo / 12 ^ k → sq R n m2 (w0 R p) = none)) := by
  obtain ⟨d, rfl⟩ : ∃ q, d = q + 1 := ⟨d - 1, by omega⟩
  refine SPi.of (Nat.le_of_ble_eq_true rfl) ?_
  show es (ev_CALL d) 6 cX6_breaks (some .int) 0 (0, fun _ => 0, []) (fun r μ2 => ∃ x9 : Int32, r = (some (.int x9), 0) ∧ (fun x μ2 => FG μ μ2 ∧ ((x = nI 0 ∧ ∃ s2, sq R n mo (w0 R p) = some s2 ∧ μ2 14 9 = nI s2.2.1) ∨ ∃ k, k < n ∧ x = nI (12 ^ k) ∧ ∀ m2, m2 < 12 ^ n → m2 / 12 ^ k = mo / 12 ^ k → sq R n m2 (w0 R p) = none)) x9 μ2) 0 [.ref 14, .int (nI p), .int (nI mo), .int (nI (12 ^ n)), .null, .null, .null, .null, .null] [] μ 0
  obtain ⟨wP, wP4, won, won4, wit, wit4, wpl, wpb, wlt⟩ := WM.of hr hW
  have hn12 : 12 ^ n ≤ 20736 := p12_le (k := n + 1) (by omega)
  refine es_aload_n (pc := 0) dX6_breaks_0 rfl ?_
  refine es_iload_n (pc := 1) dX6_breaks_1 rfl ?_
  refine es_cv1_v (pc := 2) dX6_breaks_2 mr_6_91 rfl rfl (by decide) (by decide) rfl (Nat.le_of_ble_eq_true rfl) (Nat.zero_le _) (X6_take_ok) (fun μ2 h2 => ?_)
  obtain ⟨g1, g2⟩ := take_rg hr hp (wpl _ hp) h2
  have hl14 : ∀ (n9 : Nat) (ν : ev_M) (s : wS) (k m : Nat) (j6 j7 j8 : Value), n9 = k + 1 → (FG μ ν) → (RGs ν s) → (Bd s) → (k ≤ n) → (m = mo % 12 ^ k) → (BKp R p n mo k s) → es (ev_CALL d) 6 cX6_breaks (some .int) 0 (0, fun _ => 0, []) (fun r μ2 => ∃ x9 : Int32, r = (some (.int x9), 0) ∧ (fun x μ2 => FG μ μ2 ∧ ((x = nI 0 ∧ ∃ s2, sq R n mo (w0 R p) = some s2 ∧ μ2 14 9 = nI s2.2.1) ∨ ∃ k, k < n ∧ x = nI (12 ^ k) ∧ ∀ m2, m2 < 12 ^ n → m2 / 12 ^ k = mo / 12 ^ k → sq R n m2 (w0 R p) = none)) x9 μ2) 14 [.ref 14, .int (nI p), .int (nI mo), .int (nI (12 ^ n)), .int (nI m), .int (nI (p12 k)), j6, j7, j8] [] ν 0 := by
    intro n9
    induction n9 using Nat.strongRecOn with
    | ind n9 ih14 =>
      intro ν s k m j6 j7 j8 hn9 hF hG hB hk hm hK
      subst hn9
      have ih := ih14
      have hpk := p12_le (k := k) (by omega)
      have hrν : mR ν = R := by rw [hF.row, hr]
      have ha := hB.1
      have hm9 : m < 12 ^ k := by rw [hm]; exact Nat.mod_lt _ (Nat.pow_pos (by decide))
      refine es_iload (pc := 14) dX6_breaks_14 rfl ?_
      refine es_if_leN (pc := 16) 135 dX6_breaks_16 (by decide) (by omega) (fun c16 => ?_) (fun c16 => ?_)
      · refine es_iconstN (pc := 135) 0 dX6_breaks_135 ic_0 ?_
        refine es_ireturn (pc := 136) dX6_breaks_136 rfl (vp_nar_int _) (by decide) ?_
        have hk0 : k = 0 := by
          rcases Nat.eq_zero_or_pos k with e | e
          · exact e
          · obtain ⟨k2, rfl⟩ : ∃ k2, k = k2 + 1 := ⟨k - 1, by omega⟩
            have : 0 < 12 ^ k2 := Nat.pow_pos (by decide)
            have : p12 (k2 + 1) = 12 ^ k2 := rfl
            omega
        subst hk0
        exact ⟨_, rfl, hF, Or.inl ⟨rfl, s, by have := hK mo hmo rfl; rw [this]; rfl, hG.1⟩⟩
      · obtain ⟨k, rfl⟩ : ∃ k2, k = k2 + 1 := by
          rcases Nat.eq_zero_or_pos k with e | e
          · subst e; exact absurd c16 (by decide)
          · exact ⟨k - 1, by omega⟩
        have hk12 : 0 < 12 ^ k := Nat.pow_pos (by decide)
        have hpp : p12 (k + 1) = 12 ^ k := rfl
        have hmv12 : m / 12 ^ k < 12 := by rw [hm, md1]; exact Nat.mod_lt _ (by decide)
        have hmv2 : (mo / 12 ^ k) % 12 = m / 12 ^ k := by rw [hm, md1]
        refine es_iload (pc := 19) dX6_breaks_19 rfl ?_
        refine es_iload (pc := 21) dX6_breaks_21 rfl ?_
        refine es_idivN (pc := 23) dX6_breaks_23 (by omega) (by omega) (by omega) ?_
        rw [hpp]
        generalize hmv : m / 12 ^ k = mv at hmv12 hmv2 ⊢
        refine es_istore (pc := 24) dX6_breaks_24 (ok1_6 rfl) ?_
        refine es_iload (pc := 26) dX6_breaks_26 rfl ?_
        refine es_iload (pc := 28) dX6_breaks_28 rfl ?_
        refine es_iremN (pc := 30) dX6_breaks_30 (by omega) (by omega) (by omega) ?_
        refine es_istore (pc := 31) dX6_breaks_31 (ok1_4 rfl) ?_
        refine es_iload (pc := 33) dX6_breaks_33 rfl ?_
        refine es_bipushN (pc := 35) 10 dX6_breaks_35 bp_10 ?_
        refine es_icmp_geN (pc := 37) 57 dX6_breaks_37 (by decide) (by omega) (by omega) (fun c37 => ?_) (fun c37 => ?_)
        · refine es_iload (pc := 57) dX6_breaks_57 rfl ?_
          refine es_bipushN (pc := 59) 10 dX6_breaks_59 bp_10 ?_
          refine es_icmp_eqN (pc := 61) 77 dX6_breaks_61 (by decide) (by omega) (by omega) (fun c61 => ?_) (fun c61 => ?_)
          · refine es_iconstN (pc := 77) 1 dX6_breaks_77 ic_1 ?_
            refine es_goto (pc := 78) (tgt := 82) dX6_breaks_78 (by decide) ?_
            refine es_istore (pc := 82) dX6_breaks_82 (ok1_7 rfl) ?_
            refine es_iload (pc := 84) dX6_breaks_84 rfl ?_
            refine es_if_neN (pc := 86) 92 dX6_breaks_86 (by decide) (by omega) (fun c86 => ?_) (fun c86 => ?_)
            · refine es_iload (pc := 92) dX6_breaks_92 rfl ?_
              refine es_bipushN (pc := 94) 10 dX6_breaks_94 bp_10 ?_
              refine es_icmp_geN (pc := 96) 108 dX6_breaks_96 (by decide) (by omega) (by omega) (fun c96 => ?_) (fun c96 => ?_)
              · refine es_iload (pc := 108) dX6_breaks_108 rfl ?_
                refine es_bipushN (pc := 110) 11 dX6_breaks_110 bp_11 ?_
                refine es_icmp_neN (pc := 112) 119 dX6_breaks_112 (by decide) (by omega) (by omega) (fun c112 => ?_) (fun c112 => ?_)
                · obtain ⟨s2, hs2⟩ : ∃ s2, stp R mv s = some s2 := by unfold stp; rw [if_neg (by omega), if_pos (by omega)]; exact ⟨_, rfl⟩
                  have hs2' := hs2
                  unfold stp at hs2'
                  rw [if_neg (by omega), if_pos (by omega)] at hs2'
                  have gg := hG
                  have hν9 := hrν
                  refine es_aload_n (pc := 119) dX6_breaks_119 rfl ?_
                  refine es_cv0_i (pc := 120) dX6_breaks_120 mr_6_79 rfl rfl (by decide) (by decide) rfl (Nat.le_of_ble_eq_true rfl) (Nat.zero_le _) (X6_runs_ok gg) (fun x120 μ120 h120 => ?_)
                  have e0 : _ = R 0 := (mR_r (μ := _) (j := 0) (by decide)).symm.trans (congrFun hν9 0)
                  rw [e0] at h120
                  cases hs2'
                  have g120 := h120
                  refine es_istore (pc := 123) dX6_breaks_123 (ok1_8 rfl) ?_
                  refine es_iload (pc := 125) dX6_breaks_125 rfl ?_
                  refine es_bipushN (pc := 127) 12 dX6_breaks_127 bp_12 ?_
                  refine es_idivN (pc := 129) dX6_breaks_129 (by omega) (by omega) (by omega) ?_
                  refine es_istore (pc := 130) dX6_breaks_130 (ok1_5 rfl) ?_
                  refine es_goto (pc := 132) (tgt := 14) dX6_breaks_132 (by decide) ?_
                  rw [show 12 ^ k / 12 = p12 k from p12_d k]
                  exact ih14 (k + 1) (by omega) _ _ k _ _ _ _ rfl ((hF.tr g120.2.2)) (by exact g120.2.1) (Bd_stp hW hB hs2) (by omega) (by rw [hm, md2]) (BKp_so hK (by rw [hmv2]; exact hs2))
                · exact absurd c112 (by omega)
              · exact absurd c96 (by omega)
            · exact absurd c86 (by decide)
          · refine es_aload_n (pc := 64) dX6_breaks_64 rfl ?_
            refine es_getR (pc := 65) dX6_breaks_65 fr_6_7 fld_14_0 ?_
            refine es_iconstN (pc := 68) 2 dX6_breaks_68 ic_2 ?_
            refine es_iald (pc := 69) dX6_breaks_69 lay_15 (by omega) ?_
            refine es_aload_n (pc := 70) dX6_breaks_70 rfl ?_
            refine es_getI (pc := 71) dX6_breaks_71 fr_6_73 fld_14_11 ?_
            rw [show ν 15 2 = R 2 by rw [← hrν, mR_r (by decide)], hG.2.2.1]
            refine es_icmp_gt (pc := 74) (tgt := 81) dX6_breaks_74 (by decide) (fun c74 => ?_) (fun c74 => ?_)
            · refine es_iconstN (pc := 81) 0 dX6_breaks_81 ic_0 ?_
              refine es_istore (pc := 82) dX6_breaks_82 (ok1_7 rfl) ?_
              refine es_iload (pc := 84) dX6_breaks_84 rfl ?_
              refine es_if_neN (pc := 86) 92 dX6_breaks_86 (by decide) (by omega) (fun c86 => ?_) (fun c86 => ?_)
              · exact absurd c86 (by decide)
              · refine es_iload (pc := 89) dX6_breaks_89 rfl ?_
                refine es_ireturn (pc := 91) dX6_breaks_91 rfl (vp_nar_int _) (by decide) ?_
                have hnone : stp R mv s = none := by
                  unfold stp
                  rw [if_neg (by omega), if_neg (by omega), if_pos c74]
                exact ⟨_, rfl, hF, Or.inr ⟨k, by omega, rfl, BKp_no hK (by rw [hmv2]; exact hnone)⟩⟩
            · refine es_iconstN (pc := 77) 1 dX6_breaks_77 ic_1 ?_
              refine es_goto (pc := 78) (tgt := 82) dX6_breaks_78 (by decide) ?_
              refine es_istore (pc := 82) dX6_breaks_82 (ok1_7 rfl) ?_
              refine es_iload (pc := 84) dX6_breaks_84 rfl ?_
              refine es_if_neN (pc := 86) 92 dX6_breaks_86 (by decide) (by omega) (fun c86 => ?_) (fun c86 => ?_)
              · refine es_iload (pc := 92) dX6_breaks_92 rfl ?_
                refine es_bipushN (pc := 94) 10 dX6_breaks_94 bp_10 ?_
                refine es_icmp_geN (pc := 96) 108 dX6_breaks_96 (by decide) (by omega) (by omega) (fun c96 => ?_) (fun c96 => ?_)
                · refine es_iload (pc := 108) dX6_breaks_108 rfl ?_
                  refine es_bipushN (pc := 110) 11 dX6_breaks_110 bp_11 ?_
                  refine es_icmp_neN (pc := 112) 119 dX6_breaks_112 (by decide) (by omega) (by omega) (fun c112 => ?_) (fun c112 => ?_)
                  · exact absurd c112 (by omega)
                  · refine es_aload_n (pc := 115) dX6_breaks_115 rfl ?_
                    refine es_cv0_v (pc := 116) dX6_breaks_116 mr_6_106 rfl rfl (by decide) (by decide) rfl (Nat.le_of_ble_eq_true rfl) (Nat.zero_le _) (X6_turns_ok hG) (fun μ116 h116 => ?_)
                    obtain ⟨s2, hs2⟩ : ∃ s2, stp R mv s = some s2 := by unfold stp; rw [if_neg (by omega), if_neg (by omega), if_neg (Int32.not_lt.mpr (Int32.not_lt.mp c74))]; exact ⟨_, rfl⟩
                    have hs2' := hs2
                    unfold stp at hs2'
                    rw [if_neg (by omega), if_neg (by omega), if_neg (Int32.not_lt.mpr (Int32.not_lt.mp c74))] at hs2'
                    have gg : RGs μ116 (upd s.1 s.2.1 (s.1 s.2.1 + R 2), s.2.1, s.2.2.2 - R 2, s.2.2.1) := by
                      have e2 : ν 15 2 = R 2 := by rw [← hrν, mR_r (by decide)]
                      rw [e2] at h116
                      exact h116.1
                    have hν9 : mR μ116 = R := by rw [h116.2.row, hrν]
                    refine es_aload_n (pc := 119) dX6_breaks_119 rfl ?_
                    refine es_cv0_i (pc := 120) dX6_breaks_120 mr_6_79 rfl rfl (by decide) (by decide) rfl (Nat.le_of_ble_eq_true rfl) (Nat.zero_le _) (X6_runs_ok gg) (fun x120 μ120 h120 => ?_)
                    have e0 : _ = R 0 := (mR_r (μ := _) (j := 0) (by decide)).symm.trans (congrFun hν9 0)
                    rw [e0] at h120
                    cases hs2'
                    have g120 := h120
                    refine es_istore (pc := 123) dX6_breaks_123 (ok1_8 rfl) ?_
                    refine es_iload (pc := 125) dX6_breaks_125 rfl ?_
                    refine es_bipushN (pc := 127) 12 dX6_breaks_127 bp_12 ?_
                    refine es_idivN (pc := 129) dX6_breaks_129 (by omega) (by omega) (by omega) ?_
                    refine es_istore (pc := 130) dX6_breaks_130 (ok1_5 rfl) ?_
                    refine es_goto (pc := 132) (tgt := 14) dX6_breaks_132 (by decide) ?_
                    rw [show 12 ^ k / 12 = p12 k from p12_d k]
                    exact ih14 (k + 1) (by omega) _ _ k _ _ _ _ rfl (((hF.tr h116.2).tr g120.2.2)) (by exact g120.2.1) (Bd_stp hW hB hs2) (by omega) (by rw [hm, md2]) (BKp_so hK (by rw [hmv2]; exact hs2))
                · exact absurd c96 (by omega)
              · exact absurd c86 (by decide)
        · refine es_aload_n (pc := 40) dX6_breaks_40 rfl ?_
          refine es_iload (pc := 41) dX6_breaks_41 rfl ?_
          refine es_cv1_p (pc := 43) dX6_breaks_43 mr_6_97 rfl rfl (by decide) (by decide) rfl (Nat.le_of_ble_eq_true rfl) (Nat.zero_le _) (X6_strideReason_ok hG.1) ?_
          rw [show gm_why (ν 15 1) (fun k => ν 15 (11 + k)) (ν 14 11) s.2.1 mv = gm_why (R 1) (rH R) s.2.2.2 s.2.1 mv by rw [← hrν, hG.2.2.1, gm_why_cong (fun j hj => mH j hj) ha c37, mR_r (by decide)]]
          refine es_if_ne (pc := 46) (tgt := 53) dX6_breaks_46 (by decide) (fun c46 => ?_) (fun c46 => ?_)
          · refine es_iconstN (pc := 53) 0 dX6_breaks_53 ic_0 ?_
            refine es_goto (pc := 54) (tgt := 82) dX6_breaks_54 (by decide) ?_
            refine es_istore (pc := 82) dX6_breaks_82 (ok1_7 rfl) ?_
            refine es_iload (pc := 84) dX6_breaks_84 rfl ?_
            refine es_if_neN (pc := 86) 92 dX6_breaks_86 (by decide) (by omega) (fun c86 => ?_) (fun c86 => ?_)
            · exact absurd c86 (by decide)
            · refine es_iload (pc := 89) dX6_breaks_89 rfl ?_
              refine es_ireturn (pc := 91) dX6_breaks_91 rfl (vp_nar_int _) (by decide) ?_
              have hnone : stp R mv s = none := by
                unfold stp
                rw [if_pos c37, if_neg (fun h => c46 ((why_iff hW hB c37).mpr h))]
              exact ⟨_, rfl, hF, Or.inr ⟨k, by omega, rfl, BKp_no hK (by rw [hmv2]; exact hnone)⟩⟩
          · refine es_iconstN (pc := 49) 1 dX6_breaks_49 ic_1 ?_
            refine es_goto (pc := 50) (tgt := 82) dX6_breaks_50 (by decide) ?_
            refine es_istore (pc := 82) dX6_breaks_82 (ok1_7 rfl) ?_
            refine es_iload (pc := 84) dX6_breaks_84 rfl ?_
            refine es_if_neN (pc := 86) 92 dX6_breaks_86 (by decide) (by omega) (fun c86 => ?_) (fun c86 => ?_)
            · refine es_iload (pc := 92) dX6_breaks_92 rfl ?_
              refine es_bipushN (pc := 94) 10 dX6_breaks_94 bp_10 ?_
              refine es_icmp_geN (pc := 96) 108 dX6_breaks_96 (by decide) (by omega) (by omega) (fun c96 => ?_) (fun c96 => ?_)
              · exact absurd c96 (by omega)
              · refine es_aload_n (pc := 99) dX6_breaks_99 rfl ?_
                refine es_iload (pc := 100) dX6_breaks_100 rfl ?_
                refine es_cv1_v (pc := 102) dX6_breaks_102 mr_6_103 rfl rfl (by decide) (by decide) rfl (Nat.le_of_ble_eq_true rfl) (Nat.zero_le _) (X6_strides_ok hG) (fun μ102 h102 => ?_)
                refine es_goto (pc := 105) (tgt := 119) dX6_breaks_105 (by decide) ?_
                have hw := (why_iff hW hB c37).mp c46
                have hpr : gm_price (ν 15 1) (fun k => ν 15 (11 + k)) s.2.1 mv = nI (rq R s.2.1 mv) := by
                  rw [rm_price_m hrν ha c37, (rq_price hW ha c37).1]
                  refine congrArg nI (if_pos ?_).symm
                  by_cases e9 : gm_sees (rH R) s.2.1 mv = true
                  · exact e9
                  · rw [gm_why_f, if_neg (Ne.symm hw.1), if_pos (by simpa using e9)] at c46
                    exact absurd c46 (by decide)
                obtain ⟨s2, hs2⟩ : ∃ s2, stp R mv s = some s2 := by unfold stp; rw [if_pos c37, if_pos hw]; exact ⟨_, rfl⟩
                have hs2' := hs2
                unfold stp at hs2'
                rw [if_pos c37, if_pos hw] at hs2'
                have gg : RGs μ102 (upd (upd s.1 mv (nI 0)) s.2.1 (upd s.1 mv (nI 0) s.2.1 + nI (rq R s.2.1 mv)), mv, s.2.2.1 + s.1 mv, s.2.2.2 - nI (rq R s.2.1 mv)) := by
                  refine h102.1.cg ?_ (by rw [hpr]) (fun k hk => ?_)
                  · rw [hpr, upd_ne hw.1]
                  · rw [hpr]
                    dsimp only
                    rw [upd_ne (Ne.symm hw.1)]
                    unfold upd
                    by_cases e3 : k = mv
                    · rw [if_pos e3, if_neg (by rw [e3]; exact hw.1), if_pos e3]
                    · rw [if_neg e3, if_neg e3]
                have hν9 : mR μ102 = R := by rw [h102.2.row, hrν]
                refine es_aload_n (pc := 119) dX6_breaks_119 rfl ?_
                refine es_cv0_i (pc := 120) dX6_breaks_120 mr_6_79 rfl rfl (by decide) (by decide) rfl (Nat.le_of_ble_eq_true rfl) (Nat.zero_le _) (X6_runs_ok gg) (fun x120 μ120 h120 => ?_)
                have e0 : _ = R 0 := (mR_r (μ := _) (j := 0) (by decide)).symm.trans (congrFun hν9 0)
                rw [e0] at h120
                cases hs2'
                have g120 := h120
                refine es_istore (pc := 123) dX6_breaks_123 (ok1_8 rfl) ?_
                refine es_iload (pc := 125) dX6_breaks_125 rfl ?_
                refine es_bipushN (pc := 127) 12 dX6_breaks_127 bp_12 ?_
                refine es_idivN (pc := 129) dX6_breaks_129 (by omega) (by omega) (by omega) ?_
                refine es_istore (pc := 130) dX6_breaks_130 (ok1_5 rfl) ?_
                refine es_goto (pc := 132) (tgt := 14) dX6_breaks_132 (by decide) ?_
                rw [show 12 ^ k / 12 = p12 k from p12_d k]
                exact ih14 (k + 1) (by omega) _ _ k _ _ _ _ rfl (((hF.tr h102.2).tr g120.2.2)) (by exact g120.2.1) (Bd_stp hW hB hs2) (by omega) (by rw [hm, md2]) (BKp_so hK (by rw [hmv2]; exact hs2))
            · exact absurd c86 (by decide)
  refine es_iload_n (pc := 5) dX6_breaks_5 rfl ?_
  refine es_istore (pc := 6) dX6_breaks_6 (ok1_4 rfl) ?_
  refine es_iload_n (pc := 8) dX6_breaks_8 rfl ?_
  refine es_bipushN (pc := 9) 12 dX6_breaks_9 bp_12 ?_
  refine es_idivN (pc := 11) dX6_breaks_11 (by omega) (by omega) (by omega) ?_
  refine es_istore (pc := 12) dX6_breaks_12 (ok1_5 rfl) ?_
  rw [show 12 ^ n / 12 = p12 n by rw [← p12_d n]; rfl]
  exact hl14 _ μ2 (w0 R p) n mo _ _ _ rfl g2 g1 (Bd_0 hW hp) (Nat.le_refl _) (Nat.mod_eq_of_lt hmo).symm (fun m2 h1 _ => by rw [Nat.mod_eq_of_lt h1])
