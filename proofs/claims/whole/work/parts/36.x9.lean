theorem gm_sees_1 {h : Nat → Int32} {a b : Nat} (hab : max a b ≤ min a b + 1) : gm_sees h a b = true := by
  unfold gm_sees
  rw [show max a b - (min a b + 1) = 0 by omega]
  rfl
theorem rq_0 {r : gm_R} (hW : WFr r) {t : Nat} (ht : t < 10) : rq r t t = 0 := by
  unfold rq
  rw [if_pos (gm_sees_1 (by omega)), if_neg (by omega), Nat.sub_self, Nat.sub_self, Nat.mul_zero]
theorem rq_adj {r : gm_R} (hW : WFr r) {a b : Nat} (ha : a < 10) (hb : b < 10) (hab : max a b ≤ min a b + 1) : rq r a b ≤ 90 := by
  unfold rq
  rw [if_pos (gm_sees_1 hab)]
  exact (rq_price hW ha hb).2
theorem rq_up {r : gm_R} (hW : WFr r) {a : Nat} : ∀ k, a + k < 10 → ∃ c, Wk (rq r) a (a + k) c ∧ c ≤ 90 * k
  | 0, _ => ⟨0, Wk.z, Nat.le_refl _⟩
  | k + 1, h => by
    obtain ⟨c, h1, h2⟩ := rq_up hW (a := a) k (by omega)
    have := rq_adj hW (a := a + k) (b := a + (k + 1)) (by omega) h (by omega)
    exact ⟨_, Wk.s (u := a + k) (b := a + (k + 1)) (by omega) h1, by omega⟩
theorem rq_down {r : gm_R} (hW : WFr r) {a : Nat} (ha : a < 10) : ∀ k, k ≤ a → ∃ c, Wk (rq r) a (a - k) c ∧ c ≤ 90 * k
  | 0, _ => ⟨0, Wk.z, Nat.le_refl _⟩
  | k + 1, h => by
    obtain ⟨c, h1, h2⟩ := rq_down hW ha k (by omega)
    have := rq_adj hW (a := a - k) (b := a - (k + 1)) (by omega) (by omega) (by omega)
    exact ⟨_, Wk.s (u := a - k) (b := a - (k + 1)) (by omega) h1, by omega⟩
theorem rq_c9 {r : gm_R} (hW : WFr r) {a : Nat} (ha : a < 10) : ∀ b, b < 10 → ∃ c, Wk (rq r) a b c ∧ c < 100000 := fun b hb => by
  rcases Nat.le_total a b with h | h
  · obtain ⟨c, h1, h2⟩ := rq_up hW (a := a) (b - a) (by omega)
    rw [show a + (b - a) = b by omega] at h1
    exact ⟨c, h1, by omega⟩
  · obtain ⟨c, h1, h2⟩ := rq_down hW ha (a - b) (by omega)
    rw [show a - (a - b) = b by omega] at h1
    exact ⟨c, h1, by omega⟩
theorem rPr_fw {r : gm_R} (hW : WFr r) {z : Int32} {a b : Nat} (ha : a < 10) (hb : b < 10) : rPr r z a b = nI (fw (rq r) 10 a b) := by
  unfold rPr
  split
  · rw [(dj_D ha (rq_c9 hW ha)).uniq (fw_D ha (fun i hi => rq_0 hW hi)) hb]
  · rfl
theorem seesM {ν : ev_M} {R : gm_R} {u v : Nat} (h : mR ν = R) (hu : u < 10) (hv : v < 10) : gm_sees (fun k => ν 15 (11 + k)) u v = gm_sees (rH R) u v := by
  subst h
  exact gm_sees_cong (fun j hj => mH j hj) hu hv
def rpn (r : gm_R) (f t : Nat) : Nat := (r 1).toNatClampNeg * (if f < t then t - f else f - t) + ((r (11 + t)).toNatClampNeg - (r (11 + f)).toNatClampNeg)
theorem rq_rpn {r : gm_R} {f t : Nat} (h : gm_sees (rH r) f t = true) : rq r f t = rpn r f t := if_pos h
/-- what the law's best prices are while it looks for cheaper ones -/
def BF (r : gm_R) (a : Nat) (ν : ev_M) (D : Nat → Nat) : Prop := (∀ j, j < 10 → ν 22 j = nI (D j)) ∧ D a = 0 ∧ (∀ j, j < 10 → D j ≤ 100000) ∧ ∀ j, j < 10 → 100000 ≤ D j ∨ Wk (rq r) a j (D j)
theorem BF.step {r : gm_R} {a u v : Nat} {ν : ev_M} {D : Nat → Nat} (h : BF r a ν D) (ha : a < 10) (hu : u < 10) (hv : v < 10) (hs : gm_sees (rH r) u v = true) (hl : D u + rpn r u v < D v) : BF r a (ev_ms ν 22 v (nI (D u + rpn r u v))) (nup D v (D u + rpn r u v)) ∧ nsum (nup D v (D u + rpn r u v)) 10 < nsum D 10 := by
  obtain ⟨h1, h2, h3, h4⟩ := h
  have hva : v ≠ a := fun e => by rw [e, h2] at hl; omega
  refine ⟨⟨fun j hj => ?_, ?_, fun j hj => ?_, fun j hj => ?_⟩, ?_⟩
  · rw [ms_at]; unfold nup
    by_cases e : j = v
    · rw [if_pos e, if_pos e]
    · rw [if_neg e, if_neg e, h1 j hj]
  · rw [nup_ne (Ne.symm hva), h2]
  · unfold nup
    split
    · have := h3 v hv; omega
    · exact h3 j hj
  · unfold nup
    split
    · rename_i e
      right
      rcases h4 u hu with w | w
      · have := h3 v hv; omega
      · rw [e, ← rq_rpn hs]; exact Wk.s hu w
    · exact h4 j hj
  · have := nsum_nup (f := D) (v := D u + rpn r u v) hv
    omega
theorem BF.fin {r : gm_R} {a b : Nat} {ν : ev_M} {D : Nat → Nat} (hW : WFr r) (h : BF r a ν D) (ha : a < 10) (hb : b < 10) (ht : ∀ u v, u < 10 → v < 10 → u ≠ v → gm_sees (rH r) u v = true → D v ≤ D u + rpn r u v) : D b = fw (rq r) 10 a b := by
  obtain ⟨h1, h2, h3, h4⟩ := h
  refine IsD.uniq (IsD.mk2 h2 (fun u v hu hv => ?_) (rq_c9 hW ha) h4) (fw_D ha (fun i hi => rq_0 hW hi)) hb
  by_cases e : u = v
  · subst e; omega
  · by_cases hs : gm_sees (rH r) u v = true
    · rw [rq_rpn hs]; exact ht u v hu hv e hs
    · unfold rq
      rw [if_neg hs]
      have := h3 v hv
      omega
set_option maxHeartbeats 2000000 in
set_option maxRecDepth 20000 in
theorem X6_cheapest_ok {d : Nat} {μ : ev_M} {R : gm_R} {a b : Nat} (hr : mR μ = R) (hW : WFr R) (ha : a < 10 := by omega) (hb : b < 10 := by omega) (hd : 3 ≤ d := by omega) : SPi (ev_CALL d) 157 [.ref 14, .int (nI a), .int (nI b)] μ (fun x μ2 => x = nI (fw (rq R) 10 a b) ∧ ∀ q, q ≠ 22 → μ2 q = μ q) := by
  obtain ⟨d, rfl⟩ : ∃ q, d = q + 1 := ⟨d - 1, by omega⟩
  refine SPi.of (Nat.le_of_ble_eq_true rfl) ?_
  show es (ev_CALL d) 6 cX6_cheapest (some .int) 0 (0, fun _ => 0, []) (fun r μ2 => ∃ x9 : Int32, r = (some (.int x9), 0) ∧ (fun x μ2 => x = nI (fw (rq R) 10 a b) ∧ ∀ q, q ≠ 22 → μ2 q = μ q) x9 μ2) 0 [.ref 14, .int (nI a), .int (nI b), .null, .null, .null, .null, .null] [] μ 0
  have hl2 : ∀ (n9 : Nat) (ν : ev_M) (k : Nat) (j4 j5 j6 j7 : Value), n9 = 10 - k → (k ≤ 10) → (∀ j, j < k → ν 22 j = nI (if j = a then 0 else 100000)) → (∀ q, q ≠ 22 → ν q = μ q) → es (ev_CALL d) 6 cX6_cheapest (some .int) 0 (0, fun _ => 0, []) (fun r μ2 => ∃ x9 : Int32, r = (some (.int x9), 0) ∧ (fun x μ2 => x = nI (fw (rq R) 10 a b) ∧ ∀ q, q ≠ 22 → μ2 q = μ q) x9 μ2) 2 [.ref 14, .int (nI a), .int (nI b), .int (nI k), j4, j5, j6, j7] [] ν 0 := by
    intro n9
    induction n9 using Nat.strongRecOn with
    | ind n9 ih2 =>
      intro ν k j4 j5 j6 j7 hn9 hk h1 hF
      subst hn9
      have ih := ih2
      refine es_iload_n (pc := 2) dX6_cheapest_2 rfl ?_
      refine es_bipushN (pc := 3) 10 dX6_cheapest_3 bp_10 ?_
      refine es_icmp_geN (pc := 5) 31 dX6_cheapest_5 (by decide) (by omega) (by omega) (fun c5 => ?_) (fun c5 => ?_)
      · have hl33 : ∀ (n9 : Nat) (ν : ev_M) (D : Nat → Nat) (g : Bool) (j4 j5 j6 j7 : Value), n9 = 2 * nsum D 10 + (if g = true then 1 else 0) → (BF R a ν D) → (∀ q, q ≠ 22 → ν q = μ q) → (g = false → ∀ u v, u < 10 → v < 10 → u ≠ v → gm_sees (rH R) u v = true → D v ≤ D u + rpn R u v) → es (ev_CALL d) 6 cX6_cheapest (some .int) 0 (0, fun _ => 0, []) (fun r μ2 => ∃ x9 : Int32, r = (some (.int x9), 0) ∧ (fun x μ2 => x = nI (fw (rq R) 10 a b) ∧ ∀ q, q ≠ 22 → μ2 q = μ q) x9 μ2) 33 [.ref 14, .int (nI a), .int (nI b), .int (bI g), j4, j5, j6, j7] [] ν 0 := by
          intro n9
          induction n9 using Nat.strongRecOn with
          | ind n9 ih33 =>
            intro ν D g j4 j5 j6 j7 hn9 hD hF hg
            subst hn9
            have ih := ih33
            refine es_iload_n (pc := 33) dX6_cheapest_33 rfl ?_
            refine es_if_eqB (pc := 34) 131 dX6_cheapest_34 (by decide) (fun c34 => ?_) (fun c34 => ?_)
            · refine es_aload_n (pc := 131) dX6_cheapest_131 rfl ?_
              refine es_getR (pc := 132) dX6_cheapest_132 fr_6_32 fld_14_13 ?_
              refine es_iload_n (pc := 135) dX6_cheapest_135 rfl ?_
              refine es_iald (pc := 136) dX6_cheapest_136 lay_22 (by omega) ?_
              refine es_ireturn (pc := 137) dX6_cheapest_137 rfl (vp_nar_int _) (by decide) ?_
              exact ⟨_, rfl, by rw [hD.1 b hb, BF.fin hW hD ha hb (hg c34)], hF⟩
            · have hl42 : ∀ (n9 : Nat) (ν2 : ev_M) (D2 : Nat → Nat) (g2 : Bool) (k : Nat) (j5 j6 j7 : Value), n9 = 100 - k → (k ≤ 100) → (BF R a ν2 D2) → (∀ q, q ≠ 22 → ν2 q = μ q) → (g2 = true → nsum D2 10 < nsum D 10) → (g2 = false → D2 = D ∧ ∀ i, i < k → i / 10 ≠ i % 10 → gm_sees (rH R) (i / 10) (i % 10) = true → D2 (i % 10) ≤ D2 (i / 10) + rpn R (i / 10) (i % 10)) → es (ev_CALL d) 6 cX6_cheapest (some .int) 0 (0, fun _ => 0, []) (fun r μ2 => ∃ x9 : Int32, r = (some (.int x9), 0) ∧ (fun x μ2 => x = nI (fw (rq R) 10 a b) ∧ ∀ q, q ≠ 22 → μ2 q = μ q) x9 μ2) 42 [.ref 14, .int (nI a), .int (nI b), .int (bI g2), .int (nI k), j5, j6, j7] [] ν2 0 := by
                intro n9
                induction n9 using Nat.strongRecOn with
                | ind n9 ih42 =>
                  intro ν2 D2 g2 k j5 j6 j7 hn9 hk hD2 hF2 hs2 hs3
                  subst hn9
                  have ih := ih42
                  have hrν : mR ν2 = R := by rw [mR_cong (hF2 15 (by decide)), hr]
                  refine es_iload (pc := 42) dX6_cheapest_42 rfl ?_
                  refine es_bipushN (pc := 44) 100 dX6_cheapest_44 bp_100 ?_
                  refine es_icmp_geN (pc := 46) 128 dX6_cheapest_46 (by decide) (by omega) (by omega) (fun c46 => ?_) (fun c46 => ?_)
                  · refine es_goto (pc := 128) (tgt := 33) dX6_cheapest_128 (by decide) ?_
                    subst c34
                    rcases Bool.eq_false_or_eq_true g2 with hg2 | hg2
                    · have := hs2 hg2
                      exact ih33 (2 * nsum D2 10 + (if g2 = true then 1 else 0)) (by rw [if_pos rfl, if_pos hg2]; omega) ν2 D2 g2 _ _ _ _ rfl hD2 hF2 (fun h => by rw [hg2] at h; exact absurd h (by decide))
                    · obtain ⟨e1, e2⟩ := hs3 hg2
                      subst e1
                      exact ih33 (2 * nsum D2 10 + (if g2 = true then 1 else 0)) (by rw [if_pos rfl, if_neg (by rw [hg2]; decide)]; omega) ν2 D2 g2 _ _ _ _ rfl hD2 hF2 (fun _ u v hu hv hne hse => by have := e2 (10 * u + v) (by omega); rw [show (10 * u + v) / 10 = u by omega, show (10 * u + v) % 10 = v by omega] at this; exact this hne hse)
                  · refine es_iload (pc := 49) dX6_cheapest_49 rfl ?_
                    refine es_bipushN (pc := 51) 10 dX6_cheapest_51 bp_10 ?_
                    refine es_idivN (pc := 53) dX6_cheapest_53 (by omega) (by omega) (by omega) ?_
                    refine es_istore (pc := 54) dX6_cheapest_54 (ok1_5 rfl) ?_
                    refine es_iload (pc := 56) dX6_cheapest_56 rfl ?_
                    refine es_bipushN (pc := 58) 10 dX6_cheapest_58 bp_10 ?_
                    refine es_iremN (pc := 60) dX6_cheapest_60 (by omega) (by omega) (by omega) ?_
                    refine es_istore (pc := 61) dX6_cheapest_61 (ok1_6 rfl) ?_
                    refine es_aload_n (pc := 63) dX6_cheapest_63 rfl ?_
                    refine es_getR (pc := 64) dX6_cheapest_64 fr_6_32 fld_14_13 ?_
                    refine es_iload (pc := 67) dX6_cheapest_67 rfl ?_
                    refine es_iald (pc := 69) dX6_cheapest_69 lay_22 (by omega) ?_
                    refine es_top (hD2.1 _ (by omega)) ?_
                    refine es_aload_n (pc := 70) dX6_cheapest_70 rfl ?_
                    refine es_iload (pc := 71) dX6_cheapest_71 rfl ?_
                    refine es_iload (pc := 73) dX6_cheapest_73 rfl ?_
                    refine es_cv2_p (pc := 75) dX6_cheapest_75 mr_6_76 rfl rfl (by decide) (by decide) rfl (Nat.le_of_ble_eq_true rfl) (Nat.zero_le _) (X6_strideOf_ok) ?_
                    rw [rm_price_m hrν (show k / 10 < 10 by omega) (show k % 10 < 10 by omega), (rq_price hW (show k / 10 < 10 by omega) (show k % 10 < 10 by omega)).1]
                    have hpb : rpn R (k / 10) (k % 10) ≤ 90 := (rq_price hW (show k / 10 < 10 by omega) (show k % 10 < 10 by omega)).2
                    have hb1 := hD2.2.2.1 (k / 10) (by omega)
                    have hb2 := hD2.2.2.1 (k % 10) (by omega)
                    rw [show (R 1).toNatClampNeg * (if k / 10 < k % 10 then k % 10 - k / 10 else k / 10 - k % 10) + ((R (11 + k % 10)).toNatClampNeg - (R (11 + k / 10)).toNatClampNeg) = rpn R (k / 10) (k % 10) from rfl]
                    refine es_iaddN (pc := 78) dX6_cheapest_78 ?_
                    refine es_istore (pc := 79) dX6_cheapest_79 (ok1_7 rfl) ?_
                    refine es_iload (pc := 81) dX6_cheapest_81 rfl ?_
                    refine es_iload (pc := 83) dX6_cheapest_83 rfl ?_
                    refine es_icmp_eqN (pc := 85) 122 dX6_cheapest_85 (by decide) (by omega) (by omega) (fun c85 => ?_) (fun c85 => ?_)
                    · refine es_iincN (pc := 122) 1 dX6_cheapest_122 ic_1 rfl (ok1_4 rfl) ?_
                      refine es_goto (pc := 125) (tgt := 42) dX6_cheapest_125 (by decide) ?_
                      refine ih42 _ (by omega) _ _ _ (k + 1) _ _ _ rfl (by omega) hD2 hF2 hs2 (fun h => ⟨(hs3 h).1, fun i hi hne hse => ?_⟩)
                      rcases Nat.lt_or_ge i k with w | w
                      · exact (hs3 h).2 i w hne hse
                      · obtain rfl : i = k := by omega
                        exact absurd (by omega) hne
                    · refine es_iload (pc := 88) dX6_cheapest_88 rfl ?_
                      refine es_aload_n (pc := 90) dX6_cheapest_90 rfl ?_
                      refine es_getR (pc := 91) dX6_cheapest_91 fr_6_32 fld_14_13 ?_
                      refine es_iload (pc := 94) dX6_cheapest_94 rfl ?_
                      refine es_iald (pc := 96) dX6_cheapest_96 lay_22 (by omega) ?_
                      refine es_top (hD2.1 _ (by omega)) ?_
                      refine es_icmp_geN (pc := 97) 122 dX6_cheapest_97 (by decide) (by omega) (by omega) (fun c97 => ?_) (fun c97 => ?_)
                      · refine es_iincN (pc := 122) 1 dX6_cheapest_122 ic_1 rfl (ok1_4 rfl) ?_
                        refine es_goto (pc := 125) (tgt := 42) dX6_cheapest_125 (by decide) ?_
                        refine ih42 _ (by omega) _ _ _ (k + 1) _ _ _ rfl (by omega) hD2 hF2 hs2 (fun h => ⟨(hs3 h).1, fun i hi hne hse => ?_⟩)
                        rcases Nat.lt_or_ge i k with w | w
                        · exact (hs3 h).2 i w hne hse
                        · obtain rfl : i = k := by omega
                          omega
                      · refine es_aload_n (pc := 100) dX6_cheapest_100 rfl ?_
                        refine es_iload (pc := 101) dX6_cheapest_101 rfl ?_
                        refine es_iload (pc := 103) dX6_cheapest_103 rfl ?_
                        refine es_cv2_p (pc := 105) dX6_cheapest_105 mr_6_59 rfl rfl (by decide) (by decide) rfl (Nat.le_of_ble_eq_true rfl) (Nat.zero_le _) (X6_sees_ok) ?_
                        refine es_if_eqB (pc := 108) 122 dX6_cheapest_108 (by decide) (fun c108 => ?_) (fun c108 => ?_)
                        · refine es_iincN (pc := 122) 1 dX6_cheapest_122 ic_1 rfl (ok1_4 rfl) ?_
                          refine es_goto (pc := 125) (tgt := 42) dX6_cheapest_125 (by decide) ?_
                          refine ih42 _ (by omega) _ _ _ (k + 1) _ _ _ rfl (by omega) hD2 hF2 hs2 (fun h => ⟨(hs3 h).1, fun i hi hne hse => ?_⟩)
                          rcases Nat.lt_or_ge i k with w | w
                          · exact (hs3 h).2 i w hne hse
                          · obtain rfl : i = k := by omega
                            rw [← seesM hrν (show i / 10 < 10 by omega) (show i % 10 < 10 by omega), c108] at hse
                            exact absurd hse (by decide)
                        · refine es_aload_n (pc := 111) dX6_cheapest_111 rfl ?_
                          refine es_getR (pc := 112) dX6_cheapest_112 fr_6_32 fld_14_13 ?_
                          refine es_iload (pc := 115) dX6_cheapest_115 rfl ?_
                          refine es_iload (pc := 117) dX6_cheapest_117 rfl ?_
                          refine es_iast (pc := 119) dX6_cheapest_119 lay_22 (by omega) ?_
                          refine es_iconstN (pc := 120) 1 dX6_cheapest_120 ic_1 ?_
                          refine es_istore_n (pc := 121) dX6_cheapest_121 (ok1_3 rfl) ?_
                          refine es_iincN (pc := 122) 1 dX6_cheapest_122 ic_1 rfl (ok1_4 rfl) ?_
                          refine es_goto (pc := 125) (tgt := 42) dX6_cheapest_125 (by decide) ?_
                          obtain ⟨q1, q2⟩ := BF.step hD2 ha (show k / 10 < 10 by omega) (show k % 10 < 10 by omega) (by rw [← seesM hrν (show k / 10 < 10 by omega) (show k % 10 < 10 by omega)]; exact c108) (by omega)
                          refine ih42 _ (by omega) _ _ true (k + 1) _ _ _ rfl (by omega) q1 (fun q hq => by rw [ms_ne hq, hF2 q hq]) (fun _ => ?_) (fun h => absurd h (by decide))
                          rcases Bool.eq_false_or_eq_true g2 with hg2 | hg2
                          · have := hs2 hg2; omega
                          · obtain ⟨e1, -⟩ := hs3 hg2
                            subst e1; exact q2
              refine es_iconstN (pc := 37) 0 dX6_cheapest_37 ic_0 ?_
              refine es_istore_n (pc := 38) dX6_cheapest_38 (ok1_3 rfl) ?_
              refine es_iconstN (pc := 39) 0 dX6_cheapest_39 ic_0 ?_
              refine es_istore (pc := 40) dX6_cheapest_40 (ok1_4 rfl) ?_
              exact hl42 _ ν D false 0 _ _ _ rfl (by omega) hD hF (fun h => absurd h (by decide)) (fun _ => ⟨rfl, fun i hi => absurd hi (Nat.not_lt_zero i)⟩)
        refine es_iconstN (pc := 31) 1 dX6_cheapest_31 ic_1 ?_
        refine es_istore_n (pc := 32) dX6_cheapest_32 (ok1_3 rfl) ?_
        exact hl33 _ ν (fun j => if j = a then 0 else 100000) true _ _ _ _ rfl ⟨fun j hj => h1 j (by omega), if_pos rfl, fun j _ => by dsimp only; split <;> omega, fun j _ => by dsimp only; by_cases e : j = a; right; rw [if_pos e, e]; exact Wk.z; left; rw [if_neg e]; omega⟩ hF (fun h => absurd h (by decide))
      · refine es_aload_n (pc := 8) dX6_cheapest_8 rfl ?_
        refine es_getR (pc := 9) dX6_cheapest_9 fr_6_32 fld_14_13 ?_
        refine es_iload_n (pc := 12) dX6_cheapest_12 rfl ?_
        refine es_iload_n (pc := 13) dX6_cheapest_13 rfl ?_
        refine es_iload_n (pc := 14) dX6_cheapest_14 rfl ?_
        refine es_icmp_neN (pc := 15) 22 dX6_cheapest_15 (by decide) (by omega) (by omega) (fun c15 => ?_) (fun c15 => ?_)
        · refine es_ldc (pc := 22) dX6_cheapest_22 ci_6_177 ?_
          refine es_top (show _ = nI (if k = a then 0 else 100000) by rw [if_neg c15]; rfl) ?_
          refine es_iast (pc := 24) dX6_cheapest_24 lay_22 (by omega) ?_
          refine es_iincN (pc := 25) 1 dX6_cheapest_25 ic_1 rfl (ok1_3 rfl) ?_
          refine es_goto (pc := 28) (tgt := 2) dX6_cheapest_28 (by decide) ?_
          refine ih2 _ (by omega) _ (k + 1) _ _ _ _ rfl (by omega) (fun j hj => ?_) (fun q hq => by rw [ms_ne hq, hF q hq])
          rw [ms_at]
          by_cases e : j = k
          · rw [if_pos e, e]
          · rw [if_neg e, h1 j (by omega)]
        · refine es_iconstN (pc := 18) 0 dX6_cheapest_18 ic_0 ?_
          refine es_goto (pc := 19) (tgt := 24) dX6_cheapest_19 (by decide) ?_
          refine es_top (show _ = nI (if k = a then 0 else 100000) by rw [if_pos c15]) ?_
          refine es_iast (pc := 24) dX6_cheapest_24 lay_22 (by omega) ?_
          refine es_iincN (pc := 25) 1 dX6_cheapest_25 ic_1 rfl (ok1_3 rfl) ?_
          refine es_goto (pc := 28) (tgt := 2) dX6_cheapest_28 (by decide) ?_
          refine ih2 _ (by omega) _ (k + 1) _ _ _ _ rfl (by omega) (fun j hj => ?_) (fun q hq => by rw [ms_ne hq, hF q hq])
          rw [ms_at]
          by_cases e : j = k
          · rw [if_pos e, e]
          · rw [if_neg e, h1 j (by omega)]
  refine es_iconstN (pc := 0) 0 dX6_cheapest_0 ic_0 ?_
  refine es_istore_n (pc := 1) dX6_cheapest_1 (ok1_3 rfl) ?_
  exact hl2 _ μ 0 _ _ _ _ rfl (by omega) (fun j hj => absurd hj (Nat.not_lt_zero j)) (fun _ _ => rfl)
set_option maxHeartbeats 2000000 in
set_option maxRecDepth 20000 in
theorem X6_price_ok {d : Nat} {μ : ev_M} {S : gS} {x y z : Int32} (hR : RepM μ S) (hW : WFS S) (hd : 5 ≤ d := by omega) : SPi (ev_CALL d) 156 [.ref 14, .int x, .int y, .int z] μ (QM (op_price S x y z) μ) := by
  obtain ⟨d, rfl⟩ : ∃ q, d = q + 1 := ⟨d - 1, by omega⟩
  refine SPi.of (Nat.le_of_ble_eq_true rfl) ?_
  show es (ev_CALL d) 6 cX6_price (some .int) 0 (0, fun _ => 0, []) (fun r μ2 => ∃ x9 : Int32, r = (some (.int x9), 0) ∧ (QM (op_price S x y z) μ) x9 μ2) 0 [.ref 14, .int x, .int y, .int z] [] μ 0
  have hR0 := hR.t (x := nI 0)
  have hn6 := hR.n6
  have hm6 := hR.m
  obtain ⟨wP, wP4, won, won4, wit, wit4, wpl, wpb, wlt⟩ := WM.of (r := S.1) hR.g hW.1
  have w0 : ev_ms μ 14 8 (nI 0) 15 4 = nI (rP S.1) := by rw [ms_ne (by decide)]; exact wP
  refine es_aload_n (pc := 0) dX6_price_0 rfl ?_
  refine es_iconstN (pc := 1) 0 dX6_price_1 ic_0 ?_
  refine es_putI (pc := 2) dX6_price_2 fr_6_35 fld_14_8 ?_
  refine es_iload_n (pc := 5) dX6_price_5 rfl ?_
  refine es_iconstN (pc := 6) 0 dX6_price_6 ic_0 ?_
  refine es_bipushN (pc := 7) 9 dX6_price_7 bp_9 ?_
  refine es_cs3_p (pc := 9) dX6_price_9 mr_6_39 rfl rfl rfl (Nat.le_of_ble_eq_true rfl) (Nat.zero_le _) (X6_in_ok) ?_
  rw [in10]
  refine es_if_eqB (pc := 12) 25 dX6_price_12 (by decide) (fun c12 => ?_) (fun c12 => ?_)
  · refine es_aload_n (pc := 25) dX6_price_25 rfl ?_
    refine es_iconstN (pc := 26) 1 dX6_price_26 ic_1 ?_
    refine es_cv1_i (pc := 27) dX6_price_27 mr_6_46 rfl rfl (by decide) (by decide) rfl (Nat.le_of_ble_eq_true rfl) (Nat.zero_le _) (X6_wrong_ok) (fun x27 μ27 h27 => ?_)
    refine es_ireturn (pc := 30) dX6_price_30 rfl (vp_nar_int _) (by decide) ?_
    exact ⟨_, rfl, QM.no (k := 0) (by rw [op_price, if_pos (by simp [c12])] <;> rfl) hR h27.2⟩
  · refine es_iload_n (pc := 15) dX6_price_15 rfl ?_
    refine es_iconstN (pc := 16) 0 dX6_price_16 ic_0 ?_
    refine es_bipushN (pc := 17) 9 dX6_price_17 bp_9 ?_
    refine es_cs3_p (pc := 19) dX6_price_19 mr_6_39 rfl rfl rfl (Nat.le_of_ble_eq_true rfl) (Nat.zero_le _) (X6_in_ok) ?_
    rw [in10]
    refine es_if_neB (pc := 22) 31 dX6_price_22 (by decide) (fun c22 => ?_) (fun c22 => ?_)
    · refine es_iload_n (pc := 31) dX6_price_31 rfl ?_
      refine es_iconstN (pc := 32) 0 dX6_price_32 ic_0 ?_
      refine es_iconstN (pc := 33) 1 dX6_price_33 ic_1 ?_
      refine es_cs3_p (pc := 34) dX6_price_34 mr_6_39 rfl rfl rfl (Nat.le_of_ble_eq_true rfl) (Nat.zero_le _) (X6_in_ok) ?_
      rw [in2]
      refine es_if_eqB (pc := 37) 49 dX6_price_37 (by decide) (fun c37 => ?_) (fun c37 => ?_)
      · refine es_aload_n (pc := 49) dX6_price_49 rfl ?_
        refine es_iconstN (pc := 50) 2 dX6_price_50 ic_2 ?_
        refine es_cv1_i (pc := 51) dX6_price_51 mr_6_46 rfl rfl (by decide) (by decide) rfl (Nat.le_of_ble_eq_true rfl) (Nat.zero_le _) (X6_wrong_ok) (fun x51 μ51 h51 => ?_)
        refine es_ireturn (pc := 54) dX6_price_54 rfl (vp_nar_int _) (by decide) ?_
        exact ⟨_, rfl, QM.no (k := 1) (by rw [op_price, if_neg (by simp [c12, c22]), if_pos c37] <;> rfl) hR h51.2⟩
      · obtain ⟨a, ha, rfl⟩ := gm_is_t c12 (by decide)
        obtain ⟨b, hb, rfl⟩ := gm_is_t c22 (by decide)
        refine es_aload_n (pc := 40) dX6_price_40 rfl ?_
        refine es_iload_n (pc := 41) dX6_price_41 rfl ?_
        refine es_iload_n (pc := 42) dX6_price_42 rfl ?_
        refine es_cv2_i (pc := 43) dX6_price_43 mr_6_178 rfl rfl (by decide) (by decide) rfl (Nat.le_of_ble_eq_true rfl) (Nat.zero_le _) (X6_cheapest_ok (R := S.1) hR0.g hW.1) (fun x43 μ43 h43 => ?_)
        refine es_goto (pc := 46) (tgt := 54) dX6_price_46 (by decide) ?_
        refine es_ireturn (pc := 54) dX6_price_54 rfl (vp_nar_int _) (by decide) ?_
        exact ⟨_, rfl, QM.of (by rw [op_price, if_neg (by simp [c12, c22]), if_neg (by simp [c37]), cl_nI (by omega), cl_nI (by omega), rPr_fw hW.1 ha hb]) (by rw [h43.2 14 (by decide)]; simp [ms_full]) h43.1 (hR0.cong (fun k hk => h43.2 k (by omega)) (by rw [h43.2 14 (by decide)]) (by rw [h43.2 14 (by decide)])) (FrM.tr (FrM.rf.ms (by decide)) (fun k hk => h43.2 k (by omega)))⟩
    · refine es_aload_n (pc := 25) dX6_price_25 rfl ?_
      refine es_iconstN (pc := 26) 1 dX6_price_26 ic_1 ?_
      refine es_cv1_i (pc := 27) dX6_price_27 mr_6_46 rfl rfl (by decide) (by decide) rfl (Nat.le_of_ble_eq_true rfl) (Nat.zero_le _) (X6_wrong_ok) (fun x27 μ27 h27 => ?_)
      refine es_ireturn (pc := 30) dX6_price_30 rfl (vp_nar_int _) (by decide) ?_
      exact ⟨_, rfl, QM.no (k := 0) (by rw [op_price, if_pos (by simp [c22])] <;> rfl) hR h27.2⟩
