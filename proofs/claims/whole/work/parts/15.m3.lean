/-! Ways: prices as numbers -/
def gm_sg (st : Int32) (h : Nat → Int32) (f t : Nat) : Int32 := if gm_sees h f t = true then gm_price st h f t else 1000000
def gm_oi : Option Nat → Int32
  | none => -1
  | some k => nI k
def dj_best (c : Nat → Nat) (sd : Nat → Bool) : Nat → Option Nat
  | 0 => none
  | k + 1 => if sd k = true then dj_best c sd k else match dj_best c sd k with
    | none => some k
    | some b => if c k < c b then some k else some b
theorem dj_best_lt {c : Nat → Nat} {sd : Nat → Bool} : ∀ {k b : Nat}, dj_best c sd k = some b → b < k
  | 0, b, h => by cases h
  | k + 1, b, h => by
    unfold dj_best at h
    by_cases hs : sd k = true
    · rw [if_pos hs] at h
      have := dj_best_lt h; omega
    · rw [if_neg hs] at h
      cases hq : dj_best c sd k with
      | none =>
        rw [hq] at h
        cases h; omega
      | some b2 =>
        rw [hq] at h
        dsimp only at h
        have := dj_best_lt hq
        by_cases hc : c k < c b2
        · rw [if_pos hc] at h; cases h; omega
        · rw [if_neg hc] at h; cases h; omega
def dj_i (a t : Nat) : Nat := if t = a then 0 else 1000000
def dj_relax (s : Nat → Nat → Nat) (nx : Nat) (c : Nat → Nat) : Nat → Nat → Nat
  | 0 => c
  | k + 1 => fun t => if t = k then min (dj_relax s nx c k k) (dj_relax s nx c k nx + s nx k) else dj_relax s nx c k t
theorem dj_relax_s {s : Nat → Nat → Nat} {nx : Nat} {c : Nat → Nat} {k t : Nat} : dj_relax s nx c (k + 1) t = if t = k then min (dj_relax s nx c k k) (dj_relax s nx c k nx + s nx k) else dj_relax s nx c k t := rfl
def dj_round (s : Nat → Nat → Nat) (q : (Nat → Nat) × (Nat → Bool)) : (Nat → Nat) × (Nat → Bool) := match dj_best q.1 q.2 10 with
  | none => q
  | some nx => (dj_relax s nx q.1 10, fun t => decide (t = nx) || q.2 t)
def dj (s : Nat → Nat → Nat) (a : Nat) : Nat → (Nat → Nat) × (Nat → Bool)
  | 0 => (dj_i a, fun _ => false)
  | r + 1 => dj_round s (dj s a r)
theorem dj_stop {s : Nat → Nat → Nat} {a r : Nat} (h : dj_best (dj s a r).1 (dj s a r).2 10 = none) : ∀ k, dj s a (r + k) = dj s a r
  | 0 => rfl
  | k + 1 => by
    show dj_round s (dj s a (r + k)) = _
    rw [dj_stop h k, dj_round, h]
theorem dj_relax_le {s : Nat → Nat → Nat} {nx : Nat} {c : Nat → Nat} : ∀ {k t : Nat}, dj_relax s nx c k t ≤ c t
  | 0, t => Nat.le_refl _
  | k + 1, t => by
    show (if t = k then _ else _) ≤ _
    split
    · rename_i h; subst h
      exact Nat.le_trans (Nat.min_le_left _ _) dj_relax_le
    · exact dj_relax_le
theorem dj_le {s : Nat → Nat → Nat} {a t : Nat} : ∀ {r : Nat}, (dj s a r).1 t ≤ 1000000
  | 0 => by
    show (if _ then _ else _) ≤ _
    split <;> omega
  | r + 1 => by
    show (dj_round s (dj s a r)).1 t ≤ _
    unfold dj_round
    split
    · exact dj_le
    · exact Nat.le_trans dj_relax_le dj_le
def fw_in (m : Nat → Nat → Nat) (o i j : Nat) : Nat → Nat → Nat := fun f t => if f = i ∧ t = j then min (m i j) (m i o + m o j) else m f t
def fw_row (o i : Nat) (m : Nat → Nat → Nat) : Nat → Nat → Nat → Nat
  | 0 => m
  | j + 1 => fw_in (fw_row o i m j) o i j
def fw_all (o : Nat) (m : Nat → Nat → Nat) : Nat → Nat → Nat → Nat
  | 0 => m
  | i + 1 => fw_row o i (fw_all o m i) 10
def fw (s : Nat → Nat → Nat) : Nat → Nat → Nat → Nat
  | 0 => s
  | o + 1 => fw_all o (fw s o) 10
theorem fw_in_le {m : Nat → Nat → Nat} {o i j f t : Nat} : fw_in m o i j f t ≤ m f t := by
  unfold fw_in
  split
  · rename_i h; obtain ⟨rfl, rfl⟩ := h
    exact Nat.min_le_left _ _
  · exact Nat.le_refl _
theorem fw_row_le {m : Nat → Nat → Nat} {o i f t : Nat} : ∀ {j : Nat}, fw_row o i m j f t ≤ m f t
  | 0 => Nat.le_refl _
  | j + 1 => Nat.le_trans fw_in_le fw_row_le
theorem fw_all_le {m : Nat → Nat → Nat} {o f t : Nat} : ∀ {i : Nat}, fw_all o m i f t ≤ m f t
  | 0 => Nat.le_refl _
  | i + 1 => Nat.le_trans fw_row_le fw_all_le
theorem fw_le {s : Nat → Nat → Nat} {f t : Nat} : ∀ {o : Nat}, fw s o f t ≤ s f t
  | 0 => Nat.le_refl _
  | o + 1 => Nat.le_trans fw_all_le fw_le
theorem nI_nm1 {k : Nat} (h : k < 2 ^ 31) : nI k ≠ -1 := fun e => by
  have e2 := congrArg Int32.toInt e
  rw [nI_toInt h] at e2
  have : (-1 : Int32).toInt = -1 := by decide
  omega
theorem million : (1000000 : Int32) = nI 1000000 := by decide +kernel

set_option maxHeartbeats 2000000 in
set_option maxRecDepth 20000 in
theorem X4_layOut_ok {d : Nat} {μ : ev_M}  (hd : 2 ≤ d := by omega) : SPv (ev_CALL d) 21 [.ref 7, .ref 44] μ (fun μ2 => (∀ f t, f < 10 → t < 10 → μ2 (24 + f) t = gm_sg (μ 47 1) (μ 45) f t) ∧ ∀ k, (k < 24 ∨ 34 ≤ k) → μ2 k = μ k) := by
  obtain ⟨d, rfl⟩ : ∃ q, d = q + 1 := ⟨d - 1, by omega⟩
  refine SPv.of (Nat.le_of_ble_eq_true rfl) ?_
  show es (ev_CALL d) 4 cX4_layOut none 0 (0, fun _ => 0, []) (fun r μ2 => r = (none, 0) ∧ (fun μ2 => (∀ f t, f < 10 → t < 10 → μ2 (24 + f) t = gm_sg (μ 47 1) (μ 45) f t) ∧ ∀ k, (k < 24 ∨ 34 ≤ k) → μ2 k = μ k) μ2) 0 [.ref 7, .ref 44, .null, .null] [] μ 0
  have hl2 : ∀ (n9 : Nat) (ν : ev_M) (j0 : Value) (i : Nat), n9 = 10 - i → (i ≤ 10) → (∀ f t, f < i → t < 10 → ν (24 + f) t = gm_sg (μ 47 1) (μ 45) f t) → (∀ k, (k < 24 ∨ 34 ≤ k) → ν k = μ k) → es (ev_CALL d) 4 cX4_layOut none 0 (0, fun _ => 0, []) (fun r μ2 => r = (none, 0) ∧ (fun μ2 => (∀ f t, f < 10 → t < 10 → μ2 (24 + f) t = gm_sg (μ 47 1) (μ 45) f t) ∧ ∀ k, (k < 24 ∨ 34 ≤ k) → μ2 k = μ k) μ2) 2 [.ref 7, .ref 44, .int (nI i), j0] [] ν 0 := by
    intro n9
    induction n9 using Nat.strongRecOn with
    | ind n9 ih2 =>
      intro ν j0 i hn9 hi hA hF
      subst hn9
      have ih := ih2
      refine es_iload_n (pc := 2) dX4_layOut_2 rfl ?_
      refine es_bipushN (pc := 3) 10 dX4_layOut_3 bp_10 ?_
      refine es_icmp_geN (pc := 5) 56 dX4_layOut_5 (by decide) (by omega) (by omega) (fun c5 => ?_) (fun c5 => ?_)
      · refine es_vreturn (pc := 56) dX4_layOut_56 rfl (by decide) ?_
        exact ⟨rfl, fun f t h1 h2 => hA f t (by omega) h2, hF⟩
      · have hl10 : ∀ (n9 : Nat) (ν : ev_M) (j : Nat), n9 = 10 - j → (j ≤ 10) → (∀ f t, f < i → t < 10 → ν (24 + f) t = gm_sg (μ 47 1) (μ 45) f t) → (∀ t, t < j → ν (24 + i) t = gm_sg (μ 47 1) (μ 45) i t) → (∀ k, (k < 24 ∨ 34 ≤ k) → ν k = μ k) → es (ev_CALL d) 4 cX4_layOut none 0 (0, fun _ => 0, []) (fun r μ2 => r = (none, 0) ∧ (fun μ2 => (∀ f t, f < 10 → t < 10 → μ2 (24 + f) t = gm_sg (μ 47 1) (μ 45) f t) ∧ ∀ k, (k < 24 ∨ 34 ≤ k) → μ2 k = μ k) μ2) 10 [.ref 7, .ref 44, .int (nI i), .int (nI j)] [] ν 0 := by
          intro n9
          induction n9 using Nat.strongRecOn with
          | ind n9 ih10 =>
            intro ν j hn9 hj gA gB gF
            subst hn9
            have ih := ih10
            have e45 : ν 45 = μ 45 := gF 45 (by omega)
            have e47 : ν 47 = μ 47 := gF 47 (by omega)
            refine es_iload_n (pc := 10) dX4_layOut_10 rfl ?_
            refine es_bipushN (pc := 11) 10 dX4_layOut_11 bp_10 ?_
            refine es_icmp_geN (pc := 13) 50 dX4_layOut_13 (by decide) (by omega) (by omega) (fun c13 => ?_) (fun c13 => ?_)
            · refine es_iincN (pc := 50) 1 dX4_layOut_50 ic_1 rfl (ok1_2 rfl) ?_
              refine es_goto (pc := 53) (tgt := 2) dX4_layOut_53 (by decide) ?_
              exact ih2 _ (by omega) _ _ (i + 1) rfl (by omega) (fun f t h1 h2 => by
                rcases Nat.lt_or_ge f i with q | q
                · exact gA f t q h2
                · obtain rfl : f = i := by omega
                  exact gB t (by omega)) gF
            · refine es_aload_n (pc := 16) dX4_layOut_16 rfl ?_
              refine es_getR (pc := 17) dX4_layOut_17 fr_4_11 fld_7_0 ?_
              refine es_iload_n (pc := 20) dX4_layOut_20 rfl ?_
              refine es_aaldq (pc := 21) dX4_layOut_21 lay_8 (by omega) (rows8 _ (by omega)) ?_
              refine es_iload_n (pc := 22) dX4_layOut_22 rfl ?_
              refine es_aload_n (pc := 23) dX4_layOut_23 rfl ?_
              refine es_iload_n (pc := 24) dX4_layOut_24 rfl ?_
              refine es_iload_n (pc := 25) dX4_layOut_25 rfl ?_
              refine es_cv2_p (pc := 26) dX4_layOut_26 mr_4_27 rfl rfl (by decide) (by decide) rfl (Nat.le_of_ble_eq_true rfl) (Nat.zero_le _) (X0_sees_ok) ?_
              refine es_if_eqB (pc := 29) 41 dX4_layOut_29 (by decide) (fun c29 => ?_) (fun c29 => ?_)
              · refine es_ldc (pc := 41) dX4_layOut_41 ci_4_37 ?_
                refine es_iast (pc := 43) dX4_layOut_43 (lay24 _ (by omega)) (by omega) ?_
                refine es_iincN (pc := 44) 1 dX4_layOut_44 ic_1 rfl (ok1_3 rfl) ?_
                refine es_goto (pc := 47) (tgt := 10) dX4_layOut_47 (by decide) ?_
                have hv : ∀ x : Int32, x = gm_sg (μ 47 1) (μ 45) i j → (∀ f t, f < i → t < 10 → ev_ms ν (24 + i) j x (24 + f) t = gm_sg (μ 47 1) (μ 45) f t) ∧ (∀ t, t < j + 1 → ev_ms ν (24 + i) j x (24 + i) t = gm_sg (μ 47 1) (μ 45) i t) ∧ (∀ k, (k < 24 ∨ 34 ≤ k) → ev_ms ν (24 + i) j x k = μ k) := fun x hx => ⟨fun f t h1 h2 => by rw [ms_ne (by omega)]; exact gA f t h1 h2, fun t h1 => by
                  rw [ms_at]
                  split
                  · rename_i h; rw [h]; exact hx
                  · exact gB t (by omega), fun k hk => by rw [ms_ne (by omega)]; exact gF k hk⟩
                have hx : gm_sg (μ 47 1) (μ 45) i j = gm_sg (μ 47 1) (μ 45) i j := rfl
                first
                | exact ih10 _ (by omega) _ (j + 1) rfl (by omega) (hv _ (by rw [gm_sg, e45.symm, e47.symm, if_pos c29])).1 (hv _ (by rw [gm_sg, e45.symm, e47.symm, if_pos c29])).2.1 (hv _ (by rw [gm_sg, e45.symm, e47.symm, if_pos c29])).2.2
                | exact ih10 _ (by omega) _ (j + 1) rfl (by omega) (hv _ (by rw [gm_sg, e45.symm, e47.symm, if_neg (by rw [c29]; decide)])).1 (hv _ (by rw [gm_sg, e45.symm, e47.symm, if_neg (by rw [c29]; decide)])).2.1 (hv _ (by rw [gm_sg, e45.symm, e47.symm, if_neg (by rw [c29]; decide)])).2.2
              · refine es_aload_n (pc := 32) dX4_layOut_32 rfl ?_
                refine es_iload_n (pc := 33) dX4_layOut_33 rfl ?_
                refine es_iload_n (pc := 34) dX4_layOut_34 rfl ?_
                refine es_cv2_p (pc := 35) dX4_layOut_35 mr_4_33 rfl rfl (by decide) (by decide) rfl (Nat.le_of_ble_eq_true rfl) (Nat.zero_le _) (X0_priceOfStride_ok) ?_
                refine es_goto (pc := 38) (tgt := 43) dX4_layOut_38 (by decide) ?_
                refine es_iast (pc := 43) dX4_layOut_43 (lay24 _ (by omega)) (by omega) ?_
                refine es_iincN (pc := 44) 1 dX4_layOut_44 ic_1 rfl (ok1_3 rfl) ?_
                refine es_goto (pc := 47) (tgt := 10) dX4_layOut_47 (by decide) ?_
                have hv : ∀ x : Int32, x = gm_sg (μ 47 1) (μ 45) i j → (∀ f t, f < i → t < 10 → ev_ms ν (24 + i) j x (24 + f) t = gm_sg (μ 47 1) (μ 45) f t) ∧ (∀ t, t < j + 1 → ev_ms ν (24 + i) j x (24 + i) t = gm_sg (μ 47 1) (μ 45) i t) ∧ (∀ k, (k < 24 ∨ 34 ≤ k) → ev_ms ν (24 + i) j x k = μ k) := fun x hx => ⟨fun f t h1 h2 => by rw [ms_ne (by omega)]; exact gA f t h1 h2, fun t h1 => by
                  rw [ms_at]
                  split
                  · rename_i h; rw [h]; exact hx
                  · exact gB t (by omega), fun k hk => by rw [ms_ne (by omega)]; exact gF k hk⟩
                have hx : gm_sg (μ 47 1) (μ 45) i j = gm_sg (μ 47 1) (μ 45) i j := rfl
                first
                | exact ih10 _ (by omega) _ (j + 1) rfl (by omega) (hv _ (by rw [gm_sg, e45.symm, e47.symm, if_pos c29])).1 (hv _ (by rw [gm_sg, e45.symm, e47.symm, if_pos c29])).2.1 (hv _ (by rw [gm_sg, e45.symm, e47.symm, if_pos c29])).2.2
                | exact ih10 _ (by omega) _ (j + 1) rfl (by omega) (hv _ (by rw [gm_sg, e45.symm, e47.symm, if_neg (by rw [c29]; decide)])).1 (hv _ (by rw [gm_sg, e45.symm, e47.symm, if_neg (by rw [c29]; decide)])).2.1 (hv _ (by rw [gm_sg, e45.symm, e47.symm, if_neg (by rw [c29]; decide)])).2.2
        refine es_iconstN (pc := 8) 0 dX4_layOut_8 ic_0 ?_
        refine es_istore_n (pc := 9) dX4_layOut_9 (ok1_3 rfl) ?_
        exact hl10 _ ν 0 rfl (by omega) hA (fun t h => absurd h (Nat.not_lt_zero t)) hF
  refine es_iconstN (pc := 0) 0 dX4_layOut_0 ic_0 ?_
  refine es_istore_n (pc := 1) dX4_layOut_1 (ok1_2 rfl) ?_
  exact hl2 _ μ _ 0 rfl (by omega) (fun f t h => absurd h (Nat.not_lt_zero f)) (fun _ _ => rfl)
set_option maxHeartbeats 2000000 in
set_option maxRecDepth 20000 in
theorem X4_cheapestUnsettled_ok {d : Nat} {μ : ev_M} {c : Nat → Nat} {sd : Nat → Bool} (hc : ∀ t, t < 10 → μ 10 t = nI (c t)) (hs : ∀ t, t < 10 → μ 11 t = bI (sd t)) (hcb : ∀ t, c t ≤ 1000000) (hd : 1 ≤ d := by omega) : ev_CALL d 27 [.ref 7] μ (some (.int (gm_oi (dj_best c sd 10))), 0) μ := by
  obtain ⟨d, rfl⟩ : ∃ q, d = q + 1 := ⟨d - 1, by omega⟩
  refine SPp.of (Nat.le_of_ble_eq_true rfl) ?_
  show es (ev_CALL d) 4 cX4_cheapestUnsettled (some .int) 0 (0, fun _ => 0, []) (fun r μ2 => r = (some (.int (gm_oi (dj_best c sd 10))), 0) ∧ μ2 = μ) 0 [.ref 7, .null, .null] [] μ 0
  have hl4 : ∀ (n9 : Nat) (b : Option Nat) (k : Nat), n9 = 10 - k → (k ≤ 10) → (dj_best c sd k = b) → es (ev_CALL d) 4 cX4_cheapestUnsettled (some .int) 0 (0, fun _ => 0, []) (fun r μ2 => r = (some (.int (gm_oi (dj_best c sd 10))), 0) ∧ μ2 = μ) 4 [.ref 7, .int (gm_oi b), .int (nI k)] [] μ 0 := by
    intro n9
    induction n9 using Nat.strongRecOn with
    | ind n9 ih4 =>
      intro b k hn9 hk hb
      subst hn9
      have ih := ih4
      refine es_iload_n (pc := 4) dX4_cheapestUnsettled_4 rfl ?_
      refine es_bipushN (pc := 5) 10 dX4_cheapestUnsettled_5 bp_10 ?_
      refine es_icmp_geN (pc := 7) 47 dX4_cheapestUnsettled_7 (by decide) (by omega) (by omega) (fun c7 => ?_) (fun c7 => ?_)
      · refine es_iload_n (pc := 47) dX4_cheapestUnsettled_47 rfl ?_
        refine es_ireturn (pc := 48) dX4_cheapestUnsettled_48 rfl (vp_nar_int _) (by decide) ?_
        exact ⟨by rw [← hb, show k = 10 by omega], rfl⟩
      · refine es_aload_n (pc := 10) dX4_cheapestUnsettled_10 rfl ?_
        refine es_getR (pc := 11) dX4_cheapestUnsettled_11 fr_4_23 fld_7_3 ?_
        refine es_iload_n (pc := 14) dX4_cheapestUnsettled_14 rfl ?_
        refine es_zald (pc := 15) dX4_cheapestUnsettled_15 lay_11 (by omega) ?_
        refine es_top (hs _ (by omega)) ?_
        refine es_if_neB (pc := 16) 41 dX4_cheapestUnsettled_16 (by decide) (fun c16 => ?_) (fun c16 => ?_)
        · refine es_iincN (pc := 41) 1 dX4_cheapestUnsettled_41 ic_1 rfl (ok1_2 rfl) ?_
          refine es_goto (pc := 44) (tgt := 4) dX4_cheapestUnsettled_44 (by decide) ?_
          exact ih4 _ (by omega) b (k + 1) rfl (by omega) (by rw [dj_best, if_pos c16, hb])
        · rcases b with _ | b
          · have hcs := c16
            refine es_iload_n (pc := 19) dX4_cheapestUnsettled_19 rfl ?_
            refine es_iconstM (pc := 20) dX4_cheapestUnsettled_20 (-1) ic_m1 ?_
            refine es_icmp_eq (pc := 21) (tgt := 39) dX4_cheapestUnsettled_21 (by decide) (fun c21 => ?_) (fun c21 => ?_)
            · refine es_iload_n (pc := 39) dX4_cheapestUnsettled_39 rfl ?_
              refine es_istore_n (pc := 40) dX4_cheapestUnsettled_40 (ok1_1 rfl) ?_
              refine es_iincN (pc := 41) 1 dX4_cheapestUnsettled_41 ic_1 rfl (ok1_2 rfl) ?_
              refine es_goto (pc := 44) (tgt := 4) dX4_cheapestUnsettled_44 (by decide) ?_
              exact ih4 _ (by omega) (some k) (k + 1) rfl (by omega) (by rw [dj_best, if_neg (by rw [c16]; decide), hb])
            · exact absurd rfl c21
          · have hbl := dj_best_lt hb
            have hcc := hcb k
            have hcd := hcb b
            rw [show gm_oi (some b) = nI b from rfl]
            refine es_iload_n (pc := 19) dX4_cheapestUnsettled_19 rfl ?_
            refine es_iconstM (pc := 20) dX4_cheapestUnsettled_20 (-1) ic_m1 ?_
            refine es_icmp_eq (pc := 21) (tgt := 39) dX4_cheapestUnsettled_21 (by decide) (fun c21 => ?_) (fun c21 => ?_)
            · exact absurd c21 (nI_nm1 (by omega))
            · refine es_aload_n (pc := 24) dX4_cheapestUnsettled_24 rfl ?_
              refine es_getR (pc := 25) dX4_cheapestUnsettled_25 fr_4_19 fld_7_2 ?_
              refine es_iload_n (pc := 28) dX4_cheapestUnsettled_28 rfl ?_
              refine es_iald (pc := 29) dX4_cheapestUnsettled_29 lay_10 (by omega) ?_
              refine es_top (hc _ (by omega)) ?_
              refine es_aload_n (pc := 30) dX4_cheapestUnsettled_30 rfl ?_
              refine es_getR (pc := 31) dX4_cheapestUnsettled_31 fr_4_19 fld_7_2 ?_
              refine es_iload_n (pc := 34) dX4_cheapestUnsettled_34 rfl ?_
              refine es_iald (pc := 35) dX4_cheapestUnsettled_35 lay_10 (by omega) ?_
              refine es_top (hc _ (by omega)) ?_
              refine es_icmp_geN (pc := 36) 41 dX4_cheapestUnsettled_36 (by decide) (by omega) (by omega) (fun c36 => ?_) (fun c36 => ?_)
              · refine es_iincN (pc := 41) 1 dX4_cheapestUnsettled_41 ic_1 rfl (ok1_2 rfl) ?_
                refine es_goto (pc := 44) (tgt := 4) dX4_cheapestUnsettled_44 (by decide) ?_
                exact ih4 _ (by omega) (some b) (k + 1) rfl (by omega) (by rw [dj_best, if_neg (by rw [c16]; decide), hb]; exact if_neg (by omega))
              · refine es_iload_n (pc := 39) dX4_cheapestUnsettled_39 rfl ?_
                refine es_istore_n (pc := 40) dX4_cheapestUnsettled_40 (ok1_1 rfl) ?_
                refine es_iincN (pc := 41) 1 dX4_cheapestUnsettled_41 ic_1 rfl (ok1_2 rfl) ?_
                refine es_goto (pc := 44) (tgt := 4) dX4_cheapestUnsettled_44 (by decide) ?_
                exact ih4 _ (by omega) (some k) (k + 1) rfl (by omega) (by rw [dj_best, if_neg (by rw [c16]; decide), hb]; exact if_pos c36)
  refine es_iconstM (pc := 0) dX4_cheapestUnsettled_0 (-1) ic_m1 ?_
  refine es_istore_n (pc := 1) dX4_cheapestUnsettled_1 (ok1_1 rfl) ?_
  refine es_iconstN (pc := 2) 0 dX4_cheapestUnsettled_2 ic_0 ?_
  refine es_istore_n (pc := 3) dX4_cheapestUnsettled_3 (ok1_2 rfl) ?_
  exact hl4 _ none 0 rfl (by omega) rfl
set_option maxHeartbeats 2000000 in
set_option maxRecDepth 20000 in
theorem X4_cheapestBySettling_ok {d : Nat} {μ : ev_M} {q : Nat → Nat → Nat} {a b : Nat} (hS : ∀ f t, f < 10 → t < 10 → μ (24 + f) t = nI (q f t)) (hq : ∀ f t, f < 10 → t < 10 → q f t ≤ 1000000) (ha : a < 10 := by omega) (hb : b < 10 := by omega) (hd : 2 ≤ d := by omega) : SPi (ev_CALL d) 26 [.ref 7, .int (nI a), .int (nI b)] μ (fun x μ2 => x = nI ((dj q a 10).1 b) ∧ ∀ k, k ≠ 10 → k ≠ 11 → μ2 k = μ k) := by
  obtain ⟨d, rfl⟩ : ∃ q, d = q + 1 := ⟨d - 1, by omega⟩
  refine SPi.of (Nat.le_of_ble_eq_true rfl) ?_
  show es (ev_CALL d) 4 cX4_cheapestBySettling (some .int) 0 (0, fun _ => 0, []) (fun r μ2 => ∃ x9 : Int32, r = (some (.int x9), 0) ∧ (fun x μ2 => x = nI ((dj q a 10).1 b) ∧ ∀ k, k ≠ 10 → k ≠ 11 → μ2 k = μ k) x9 μ2) 0 [.ref 7, .int (nI a), .int (nI b), .null, .null, .null] [] μ 0
  have hl40 : ∀ (n9 : Nat) (ν : ev_M) (j1 j2 : Value) (r : Nat), n9 = 10 - r → (r ≤ 10) → (∀ t, t < 10 → ν 10 t = nI ((dj q a r).1 t)) → (∀ t, t < 10 → ν 11 t = bI ((dj q a r).2 t)) → (∀ k, k ≠ 10 → k ≠ 11 → ν k = μ k) → es (ev_CALL d) 4 cX4_cheapestBySettling (some .int) 0 (0, fun _ => 0, []) (fun r μ2 => ∃ x9 : Int32, r = (some (.int x9), 0) ∧ (fun x μ2 => x = nI ((dj q a 10).1 b) ∧ ∀ k, k ≠ 10 → k ≠ 11 → μ2 k = μ k) x9 μ2) 40 [.ref 7, .int (nI a), .int (nI b), .int (nI r), j1, j2] [] ν 0 := by
    intro n9
    induction n9 using Nat.strongRecOn with
    | ind n9 ih40 =>
      intro ν j1 j2 r hn9 hr gc gs gF
      subst hn9
      have ih := ih40
      refine es_iload_n (pc := 40) dX4_cheapestBySettling_40 rfl ?_
      refine es_bipushN (pc := 41) 10 dX4_cheapestBySettling_41 bp_10 ?_
      refine es_icmp_geN (pc := 43) 126 dX4_cheapestBySettling_43 (by decide) (by omega) (by omega) (fun c43 => ?_) (fun c43 => ?_)
      · refine es_aload_n (pc := 126) dX4_cheapestBySettling_126 rfl ?_
        refine es_getR (pc := 127) dX4_cheapestBySettling_127 fr_4_19 fld_7_2 ?_
        refine es_iload_n (pc := 130) dX4_cheapestBySettling_130 rfl ?_
        refine es_iald (pc := 131) dX4_cheapestBySettling_131 lay_10 (by omega) ?_
        refine es_top (gc _ (by omega)) ?_
        refine es_ireturn (pc := 132) dX4_cheapestBySettling_132 rfl (vp_nar_int _) (by decide) ?_
        exact ⟨_, rfl, by rw [show r = 10 by omega], gF⟩
      · refine es_aload_n (pc := 46) dX4_cheapestBySettling_46 rfl ?_
        refine es_cv0_p (pc := 47) dX4_cheapestBySettling_47 mr_4_38 rfl rfl (by decide) (by decide) rfl (Nat.le_of_ble_eq_true rfl) (Nat.zero_le _) (X4_cheapestUnsettled_ok gc gs (fun t => dj_le)) ?_
        refine es_istore (pc := 50) dX4_cheapestBySettling_50 (ok1_4 rfl) ?_
        rcases hbst : dj_best (dj q a r).1 (dj q a r).2 10 with _ | nx
        · have hst := dj_stop hbst (10 - r)
          refine es_iload (pc := 52) dX4_cheapestBySettling_52 rfl ?_
          refine es_iconstM (pc := 54) dX4_cheapestBySettling_54 (-1) ic_m1 ?_
          refine es_icmp_ne (pc := 55) (tgt := 61) dX4_cheapestBySettling_55 (by decide) (fun c55 => ?_) (fun c55 => ?_)
          · exact absurd rfl c55
          · refine es_goto (pc := 58) (tgt := 126) dX4_cheapestBySettling_58 (by decide) ?_
            refine es_aload_n (pc := 126) dX4_cheapestBySettling_126 rfl ?_
            refine es_getR (pc := 127) dX4_cheapestBySettling_127 fr_4_19 fld_7_2 ?_
            refine es_iload_n (pc := 130) dX4_cheapestBySettling_130 rfl ?_
            refine es_iald (pc := 131) dX4_cheapestBySettling_131 lay_10 (by omega) ?_
            refine es_top (gc _ (by omega)) ?_
            refine es_ireturn (pc := 132) dX4_cheapestBySettling_132 rfl (vp_nar_int _) (by decide) ?_
            exact ⟨_, rfl, by rw [← hst, show r + (10 - r) = 10 by omega], gF⟩
        · have hnx := dj_best_lt hbst
          rw [show gm_oi (some nx) = nI nx from rfl]
          refine es_iload (pc := 52) dX4_cheapestBySettling_52 rfl ?_
          refine es_iconstM (pc := 54) dX4_cheapestBySettling_54 (-1) ic_m1 ?_
          refine es_icmp_ne (pc := 55) (tgt := 61) dX4_cheapestBySettling_55 (by decide) (fun c55 => ?_) (fun c55 => ?_)
          · refine es_aload_n (pc := 61) dX4_cheapestBySettling_61 rfl ?_
            refine es_getR (pc := 62) dX4_cheapestBySettling_62 fr_4_23 fld_7_3 ?_
            refine es_iload (pc := 65) dX4_cheapestBySettling_65 rfl ?_
            refine es_iconstN (pc := 67) 1 dX4_cheapestBySettling_67 ic_1 ?_
            refine es_zast (pc := 68) dX4_cheapestBySettling_68 lay_11 (by omega) rfl ?_
            have hl72 : ∀ (n9 : Nat) (ν : ev_M) (k : Nat), n9 = 10 - k → (k ≤ 10) → (∀ t, t < 10 → ν 10 t = nI (dj_relax q nx (dj q a r).1 k t)) → (∀ t, t < 10 → ν 11 t = bI (decide (t = nx) || (dj q a r).2 t)) → (∀ k, k ≠ 10 → k ≠ 11 → ν k = μ k) → es (ev_CALL d) 4 cX4_cheapestBySettling (some .int) 0 (0, fun _ => 0, []) (fun r μ2 => ∃ x9 : Int32, r = (some (.int x9), 0) ∧ (fun x μ2 => x = nI ((dj q a 10).1 b) ∧ ∀ k, k ≠ 10 → k ≠ 11 → μ2 k = μ k) x9 μ2) 72 [.ref 7, .int (nI a), .int (nI b), .int (nI r), .int (nI nx), .int (nI k)] [] ν 0 := by
              intro n9
              induction n9 using Nat.strongRecOn with
              | ind n9 ih72 =>
                intro ν k hn9 hk kc ks kF
                subst hn9
                have ih := ih72
                have b1 : dj_relax q nx (dj q a r).1 k k ≤ 1000000 := Nat.le_trans dj_relax_le dj_le
                have b2 : dj_relax q nx (dj q a r).1 k nx ≤ 1000000 := Nat.le_trans dj_relax_le dj_le
                have b3 : k < 10 → q nx k ≤ 1000000 := fun h => hq nx k hnx h
                refine es_iload (pc := 72) dX4_cheapestBySettling_72 rfl ?_
                refine es_bipushN (pc := 74) 10 dX4_cheapestBySettling_74 bp_10 ?_
                refine es_icmp_geN (pc := 76) 120 dX4_cheapestBySettling_76 (by decide) (by omega) (by omega) (fun c76 => ?_) (fun c76 => ?_)
                · refine es_iincN (pc := 120) 1 dX4_cheapestBySettling_120 ic_1 rfl (ok1_3 rfl) ?_
                  refine es_goto (pc := 123) (tgt := 40) dX4_cheapestBySettling_123 (by decide) ?_
                  exact ih40 _ (by omega) _ _ _ (r + 1) rfl (by omega) (fun t ht => by rw [kc t ht, show k = 10 by omega, dj, dj_round, hbst]) (fun t ht => by rw [ks t ht, dj, dj_round, hbst]) kF
                · refine es_aload_n (pc := 79) dX4_cheapestBySettling_79 rfl ?_
                  refine es_getR (pc := 80) dX4_cheapestBySettling_80 fr_4_19 fld_7_2 ?_
                  refine es_iload (pc := 83) dX4_cheapestBySettling_83 rfl ?_
                  refine es_aload_n (pc := 85) dX4_cheapestBySettling_85 rfl ?_
                  refine es_getR (pc := 86) dX4_cheapestBySettling_86 fr_4_19 fld_7_2 ?_
                  refine es_iload (pc := 89) dX4_cheapestBySettling_89 rfl ?_
                  refine es_iald (pc := 91) dX4_cheapestBySettling_91 lay_10 (by omega) ?_
                  refine es_top (kc _ (by omega)) ?_
                  refine es_aload_n (pc := 92) dX4_cheapestBySettling_92 rfl ?_
                  refine es_getR (pc := 93) dX4_cheapestBySettling_93 fr_4_19 fld_7_2 ?_
                  refine es_iload (pc := 96) dX4_cheapestBySettling_96 rfl ?_
                  refine es_iald (pc := 98) dX4_cheapestBySettling_98 lay_10 (by omega) ?_
                  refine es_top (kc _ (by omega)) ?_
                  refine es_aload_n (pc := 99) dX4_cheapestBySettling_99 rfl ?_
                  refine es_getR (pc := 100) dX4_cheapestBySettling_100 fr_4_11 fld_7_0 ?_
                  refine es_iload (pc := 103) dX4_cheapestBySettling_103 rfl ?_
                  refine es_aaldq (pc := 105) dX4_cheapestBySettling_105 lay_8 (by omega) (rows8 _ (by omega)) ?_
                  refine es_iload (pc := 106) dX4_cheapestBySettling_106 rfl ?_
                  refine es_iald (pc := 108) dX4_cheapestBySettling_108 (lay24 _ (by omega)) (by omega) ?_
                  refine es_top ((congrFun (kF _ (by omega) (by omega)) _).trans (hS _ _ (by omega) (by omega))) ?_
                  refine es_iaddN (pc := 109) dX4_cheapestBySettling_109 ?_
                  refine es_mmin (pc := 110) dX4_cheapestBySettling_110 mr_4_42 (Nat.le_of_ble_eq_true rfl) ?_
                  refine es_top (gm_minN (by have := b3 c76; omega) (by have := b3 c76; omega)) ?_
                  refine es_iast (pc := 113) dX4_cheapestBySettling_113 lay_10 (by omega) ?_
                  refine es_iincN (pc := 114) 1 dX4_cheapestBySettling_114 ic_1 rfl (ok1_5 rfl) ?_
                  refine es_goto (pc := 117) (tgt := 72) dX4_cheapestBySettling_117 (by decide) ?_
                  refine ih72 _ (by omega) _ (k + 1) rfl (by omega) (fun t ht => ?_) (fun t ht => ?_) (fun z h1 h2 => ?_)
                  · rw [ms_at, dj_relax_s]
                    by_cases h : t = k
                    · rw [if_pos h, if_pos h]
                    · rw [if_neg h, if_neg h, kc t ht]
                  · rw [ms_ne (by decide), ks t ht]
                  · rw [ms_ne h1, kF z h1 h2]
            refine es_iconstN (pc := 69) 0 dX4_cheapestBySettling_69 ic_0 ?_
            refine es_istore (pc := 70) dX4_cheapestBySettling_70 (ok1_5 rfl) ?_
            exact hl72 _ _ 0 rfl (by omega) (fun t ht => by rw [ms_ne (by decide)]; exact gc t ht) (fun t ht => by rw [ms_at]; by_cases h : t = nx; (rw [if_pos h, h]; simp [bI, nI_one]); (rw [if_neg h, gs t ht]; simp [h])) (fun z h1 h2 => by rw [ms_ne h2, gF z h1 h2])
          · exact absurd c55 (nI_nm1 (by omega))
  have hl2 : ∀ (n9 : Nat) (ν : ev_M) (k : Nat), n9 = 10 - k → (k ≤ 10) → (∀ t, t < k → ν 10 t = nI (dj_i a t)) → (∀ t, t < k → ν 11 t = bI false) → (∀ k, k ≠ 10 → k ≠ 11 → ν k = μ k) → es (ev_CALL d) 4 cX4_cheapestBySettling (some .int) 0 (0, fun _ => 0, []) (fun r μ2 => ∃ x9 : Int32, r = (some (.int x9), 0) ∧ (fun x μ2 => x = nI ((dj q a 10).1 b) ∧ ∀ k, k ≠ 10 → k ≠ 11 → μ2 k = μ k) x9 μ2) 2 [.ref 7, .int (nI a), .int (nI b), .int (nI k), .null, .null] [] ν 0 := by
    intro n9
    induction n9 using Nat.strongRecOn with
    | ind n9 ih2 =>
      intro ν k hn9 hk gc gs gF
      subst hn9
      have ih := ih2
      refine es_iload_n (pc := 2) dX4_cheapestBySettling_2 rfl ?_
      refine es_bipushN (pc := 3) 10 dX4_cheapestBySettling_3 bp_10 ?_
      refine es_icmp_geN (pc := 5) 38 dX4_cheapestBySettling_5 (by decide) (by omega) (by omega) (fun c5 => ?_) (fun c5 => ?_)
      · refine es_iconstN (pc := 38) 0 dX4_cheapestBySettling_38 ic_0 ?_
        refine es_istore_n (pc := 39) dX4_cheapestBySettling_39 (ok1_3 rfl) ?_
        exact hl40 _ _ _ _ 0 rfl (by omega) (fun t ht => gc t (by omega)) (fun t ht => gs t (by omega)) gF
      · refine es_aload_n (pc := 8) dX4_cheapestBySettling_8 rfl ?_
        refine es_getR (pc := 9) dX4_cheapestBySettling_9 fr_4_19 fld_7_2 ?_
        refine es_iload_n (pc := 12) dX4_cheapestBySettling_12 rfl ?_
        refine es_iload_n (pc := 13) dX4_cheapestBySettling_13 rfl ?_
        refine es_iload_n (pc := 14) dX4_cheapestBySettling_14 rfl ?_
        refine es_icmp_neN (pc := 15) 22 dX4_cheapestBySettling_15 (by decide) (by omega) (by omega) (fun c15 => ?_) (fun c15 => ?_)
        · refine es_ldc (pc := 22) dX4_cheapestBySettling_22 ci_4_37 ?_
          refine es_iast (pc := 24) dX4_cheapestBySettling_24 lay_10 (by omega) ?_
          refine es_aload_n (pc := 25) dX4_cheapestBySettling_25 rfl ?_
          refine es_getR (pc := 26) dX4_cheapestBySettling_26 fr_4_23 fld_7_3 ?_
          refine es_iload_n (pc := 29) dX4_cheapestBySettling_29 rfl ?_
          refine es_iconstN (pc := 30) 0 dX4_cheapestBySettling_30 ic_0 ?_
          refine es_zast (pc := 31) dX4_cheapestBySettling_31 lay_11 (by omega) rfl ?_
          refine es_iincN (pc := 32) 1 dX4_cheapestBySettling_32 ic_1 rfl (ok1_3 rfl) ?_
          refine es_goto (pc := 35) (tgt := 2) dX4_cheapestBySettling_35 (by decide) ?_
          refine ih2 _ (by omega) _ (k + 1) rfl (by omega) (fun t ht => ?_) (fun t ht => ?_) (fun z h1 h2 => ?_)
          · rw [ms_ne (by omega), ms_at, dj_i]
            by_cases h : t = k
            · rw [if_pos h, h]; rw [if_neg c15, million]
            · rw [if_neg h, gc t (by omega), dj_i]
          · rw [ms_at]
            by_cases h : t = k
            · rw [if_pos h]; rfl
            · rw [if_neg h, ms_ne (by omega), gs t (by omega)]
          · rw [ms_ne h2, ms_ne h1, gF z h1 h2]
        · refine es_iconstN (pc := 18) 0 dX4_cheapestBySettling_18 ic_0 ?_
          refine es_goto (pc := 19) (tgt := 24) dX4_cheapestBySettling_19 (by decide) ?_
          refine es_iast (pc := 24) dX4_cheapestBySettling_24 lay_10 (by omega) ?_
          refine es_aload_n (pc := 25) dX4_cheapestBySettling_25 rfl ?_
          refine es_getR (pc := 26) dX4_cheapestBySettling_26 fr_4_23 fld_7_3 ?_
          refine es_iload_n (pc := 29) dX4_cheapestBySettling_29 rfl ?_
          refine es_iconstN (pc := 30) 0 dX4_cheapestBySettling_30 ic_0 ?_
          refine es_zast (pc := 31) dX4_cheapestBySettling_31 lay_11 (by omega) rfl ?_
          refine es_iincN (pc := 32) 1 dX4_cheapestBySettling_32 ic_1 rfl (ok1_3 rfl) ?_
          refine es_goto (pc := 35) (tgt := 2) dX4_cheapestBySettling_35 (by decide) ?_
          refine ih2 _ (by omega) _ (k + 1) rfl (by omega) (fun t ht => ?_) (fun t ht => ?_) (fun z h1 h2 => ?_)
          · rw [ms_ne (by omega), ms_at, dj_i]
            by_cases h : t = k
            · rw [if_pos h, h]; rw [if_pos c15]
            · rw [if_neg h, gc t (by omega), dj_i]
          · rw [ms_at]
            by_cases h : t = k
            · rw [if_pos h]; rfl
            · rw [if_neg h, ms_ne (by omega), gs t (by omega)]
          · rw [ms_ne h2, ms_ne h1, gF z h1 h2]
  refine es_iconstN (pc := 0) 0 dX4_cheapestBySettling_0 ic_0 ?_
  refine es_istore_n (pc := 1) dX4_cheapestBySettling_1 (ok1_3 rfl) ?_
  exact hl2 _ μ 0 rfl (by omega) (fun t h => absurd h (Nat.not_lt_zero t)) (fun t h => absurd h (Nat.not_lt_zero t)) (fun _ _ _ => rfl)
set_option maxHeartbeats 2000000 in
set_option maxRecDepth 20000 in
theorem X4_allowGoingOver_ok {d : Nat} {μ : ev_M} {w : Nat → Nat → Nat} {ov : Nat} (hm : ∀ f t, f < 10 → t < 10 → μ (24 + (10 + f)) t = nI (w f t)) (hb : ∀ f t, f < 10 → t < 10 → w f t ≤ 1000000) (ho : ov < 10 := by omega) (hd : 1 ≤ d := by omega) : SPv (ev_CALL d) 29 [.ref 7, .int (nI ov)] μ (fun μ2 => (∀ f t, f < 10 → t < 10 → μ2 (24 + (10 + f)) t = nI (fw_all ov w 10 f t)) ∧ ∀ k, (k < 34 ∨ 44 ≤ k) → μ2 k = μ k) := by
  obtain ⟨d, rfl⟩ : ∃ q, d = q + 1 := ⟨d - 1, by omega⟩
  refine SPv.of (Nat.le_of_ble_eq_true rfl) ?_
  show es (ev_CALL d) 4 cX4_allowGoingOver none 0 (0, fun _ => 0, []) (fun r μ2 => r = (none, 0) ∧ (fun μ2 => (∀ f t, f < 10 → t < 10 → μ2 (24 + (10 + f)) t = nI (fw_all ov w 10 f t)) ∧ ∀ k, (k < 34 ∨ 44 ≤ k) → μ2 k = μ k) μ2) 0 [.ref 7, .int (nI ov), .null, .null] [] μ 0
  have hl2 : ∀ (n9 : Nat) (ν : ev_M) (j0 : Value) (i : Nat), n9 = 10 - i → (i ≤ 10) → (∀ f t, f < 10 → t < 10 → ν (24 + (10 + f)) t = nI (fw_all ov w i f t)) → (∀ k, (k < 34 ∨ 44 ≤ k) → ν k = μ k) → es (ev_CALL d) 4 cX4_allowGoingOver none 0 (0, fun _ => 0, []) (fun r μ2 => r = (none, 0) ∧ (fun μ2 => (∀ f t, f < 10 → t < 10 → μ2 (24 + (10 + f)) t = nI (fw_all ov w 10 f t)) ∧ ∀ k, (k < 34 ∨ 44 ≤ k) → μ2 k = μ k) μ2) 2 [.ref 7, .int (nI ov), .int (nI i), j0] [] ν 0 := by
    intro n9
    induction n9 using Nat.strongRecOn with
    | ind n9 ih2 =>
      intro ν j0 i hn9 hi gA gF
      subst hn9
      have ih := ih2
      refine es_iload_n (pc := 2) dX4_allowGoingOver_2 rfl ?_
      refine es_bipushN (pc := 3) 10 dX4_allowGoingOver_3 bp_10 ?_
      refine es_icmp_geN (pc := 5) 64 dX4_allowGoingOver_5 (by decide) (by omega) (by omega) (fun c5 => ?_) (fun c5 => ?_)
      · refine es_vreturn (pc := 64) dX4_allowGoingOver_64 rfl (by decide) ?_
        exact ⟨rfl, fun f t h1 h2 => by rw [gA f t h1 h2, show i = 10 by omega], gF⟩
      · have hl10 : ∀ (n9 : Nat) (ν : ev_M) (j : Nat), n9 = 10 - j → (j ≤ 10) → (∀ f t, f < 10 → t < 10 → ν (24 + (10 + f)) t = nI (fw_row ov i (fw_all ov w i) j f t)) → (∀ k, (k < 34 ∨ 44 ≤ k) → ν k = μ k) → es (ev_CALL d) 4 cX4_allowGoingOver none 0 (0, fun _ => 0, []) (fun r μ2 => r = (none, 0) ∧ (fun μ2 => (∀ f t, f < 10 → t < 10 → μ2 (24 + (10 + f)) t = nI (fw_all ov w 10 f t)) ∧ ∀ k, (k < 34 ∨ 44 ≤ k) → μ2 k = μ k) μ2) 10 [.ref 7, .int (nI ov), .int (nI i), .int (nI j)] [] ν 0 := by
          intro n9
          induction n9 using Nat.strongRecOn with
          | ind n9 ih10 =>
            intro ν j hn9 hj kA kF
            subst hn9
            have ih := ih10
            have b0 : ∀ f t, f < 10 → t < 10 → fw_row ov i (fw_all ov w i) j f t ≤ 1000000 := fun f t h1 h2 => Nat.le_trans fw_row_le (Nat.le_trans fw_all_le (hb f t h1 h2))
            refine es_iload_n (pc := 10) dX4_allowGoingOver_10 rfl ?_
            refine es_bipushN (pc := 11) 10 dX4_allowGoingOver_11 bp_10 ?_
            refine es_icmp_geN (pc := 13) 58 dX4_allowGoingOver_13 (by decide) (by omega) (by omega) (fun c13 => ?_) (fun c13 => ?_)
            · refine es_iincN (pc := 58) 1 dX4_allowGoingOver_58 ic_1 rfl (ok1_2 rfl) ?_
              refine es_goto (pc := 61) (tgt := 2) dX4_allowGoingOver_61 (by decide) ?_
              exact ih2 _ (by omega) _ _ (i + 1) rfl (by omega) (fun f t h1 h2 => by rw [kA f t h1 h2, show j = 10 by omega, fw_all]) kF
            · refine es_aload_n (pc := 16) dX4_allowGoingOver_16 rfl ?_
              refine es_getR (pc := 17) dX4_allowGoingOver_17 fr_4_16 fld_7_1 ?_
              refine es_iload_n (pc := 20) dX4_allowGoingOver_20 rfl ?_
              refine es_aaldq (pc := 21) dX4_allowGoingOver_21 lay_9 (by omega) (rows9 _ (by omega)) ?_
              refine es_iload_n (pc := 22) dX4_allowGoingOver_22 rfl ?_
              refine es_aload_n (pc := 23) dX4_allowGoingOver_23 rfl ?_
              refine es_getR (pc := 24) dX4_allowGoingOver_24 fr_4_16 fld_7_1 ?_
              refine es_iload_n (pc := 27) dX4_allowGoingOver_27 rfl ?_
              refine es_aaldq (pc := 28) dX4_allowGoingOver_28 lay_9 (by omega) (rows9 _ (by omega)) ?_
              refine es_iload_n (pc := 29) dX4_allowGoingOver_29 rfl ?_
              refine es_iald (pc := 30) dX4_allowGoingOver_30 (lay24 _ (by omega)) (by omega) ?_
              refine es_top (kA _ _ (by omega) (by omega)) ?_
              refine es_aload_n (pc := 31) dX4_allowGoingOver_31 rfl ?_
              refine es_getR (pc := 32) dX4_allowGoingOver_32 fr_4_16 fld_7_1 ?_
              refine es_iload_n (pc := 35) dX4_allowGoingOver_35 rfl ?_
              refine es_aaldq (pc := 36) dX4_allowGoingOver_36 lay_9 (by omega) (rows9 _ (by omega)) ?_
              refine es_iload_n (pc := 37) dX4_allowGoingOver_37 rfl ?_
              refine es_iald (pc := 38) dX4_allowGoingOver_38 (lay24 _ (by omega)) (by omega) ?_
              refine es_top (kA _ _ (by omega) (by omega)) ?_
              refine es_aload_n (pc := 39) dX4_allowGoingOver_39 rfl ?_
              refine es_getR (pc := 40) dX4_allowGoingOver_40 fr_4_16 fld_7_1 ?_
              refine es_iload_n (pc := 43) dX4_allowGoingOver_43 rfl ?_
              refine es_aaldq (pc := 44) dX4_allowGoingOver_44 lay_9 (by omega) (rows9 _ (by omega)) ?_
              refine es_iload_n (pc := 45) dX4_allowGoingOver_45 rfl ?_
              refine es_iald (pc := 46) dX4_allowGoingOver_46 (lay24 _ (by omega)) (by omega) ?_
              refine es_top (kA _ _ (by omega) (by omega)) ?_
              refine es_iaddN (pc := 47) dX4_allowGoingOver_47 ?_
              refine es_mmin (pc := 48) dX4_allowGoingOver_48 mr_4_42 (Nat.le_of_ble_eq_true rfl) ?_
              refine es_top (gm_minN (by have := b0 i j (by omega) (by omega); omega) (by have := b0 i ov (by omega) (by omega); have := b0 ov j (by omega) (by omega); omega)) ?_
              refine es_iast (pc := 51) dX4_allowGoingOver_51 (lay24 _ (by omega)) (by omega) ?_
              refine es_iincN (pc := 52) 1 dX4_allowGoingOver_52 ic_1 rfl (ok1_3 rfl) ?_
              refine es_goto (pc := 55) (tgt := 10) dX4_allowGoingOver_55 (by decide) ?_
              refine ih10 _ (by omega) _ (j + 1) rfl (by omega) (fun f t h1 h2 => ?_) (fun z hz => ?_)
              · rw [ms_full, fw_row, fw_in]
                by_cases h : f = i ∧ t = j
                · rw [if_pos ⟨by omega, h.2⟩, if_pos h]
                · rw [if_neg (fun q => h ⟨by omega, q.2⟩), if_neg h, kA f t h1 h2]
              · rw [ms_ne (by omega), kF z hz]
        refine es_iconstN (pc := 8) 0 dX4_allowGoingOver_8 ic_0 ?_
        refine es_istore_n (pc := 9) dX4_allowGoingOver_9 (ok1_3 rfl) ?_
        exact hl10 _ ν 0 rfl (by omega) gA gF
  refine es_iconstN (pc := 0) 0 dX4_allowGoingOver_0 ic_0 ?_
  refine es_istore_n (pc := 1) dX4_allowGoingOver_1 (ok1_2 rfl) ?_
  exact hl2 _ μ _ 0 rfl (by omega) hm (fun _ _ => rfl)
set_option maxHeartbeats 2000000 in
set_option maxRecDepth 20000 in
theorem X4_cheapestByGoingOver_ok {d : Nat} {μ : ev_M} {q : Nat → Nat → Nat} {a b : Nat} (hS : ∀ f t, f < 10 → t < 10 → μ (24 + f) t = nI (q f t)) (hq : ∀ f t, f < 10 → t < 10 → q f t ≤ 1000000) (ha : a < 10 := by omega) (hb : b < 10 := by omega) (hd : 2 ≤ d := by omega) : SPi (ev_CALL d) 28 [.ref 7, .int (nI a), .int (nI b)] μ (fun x μ2 => x = nI (fw q 10 a b) ∧ ∀ k, (k < 34 ∨ 44 ≤ k) → μ2 k = μ k) := by
  obtain ⟨d, rfl⟩ : ∃ q, d = q + 1 := ⟨d - 1, by omega⟩
  refine SPi.of (Nat.le_of_ble_eq_true rfl) ?_
  show es (ev_CALL d) 4 cX4_cheapestByGoingOver (some .int) 0 (0, fun _ => 0, []) (fun r μ2 => ∃ x9 : Int32, r = (some (.int x9), 0) ∧ (fun x μ2 => x = nI (fw q 10 a b) ∧ ∀ k, (k < 34 ∨ 44 ≤ k) → μ2 k = μ k) x9 μ2) 0 [.ref 7, .int (nI a), .int (nI b), .null] [] μ 0
  have hl35 : ∀ (n9 : Nat) (ν : ev_M) (k : Nat), n9 = 10 - k → (k ≤ 10) → (∀ f t, f < 10 → t < 10 → ν (24 + (10 + f)) t = nI (fw q k f t)) → (∀ k, (k < 34 ∨ 44 ≤ k) → ν k = μ k) → es (ev_CALL d) 4 cX4_cheapestByGoingOver (some .int) 0 (0, fun _ => 0, []) (fun r μ2 => ∃ x9 : Int32, r = (some (.int x9), 0) ∧ (fun x μ2 => x = nI (fw q 10 a b) ∧ ∀ k, (k < 34 ∨ 44 ≤ k) → μ2 k = μ k) x9 μ2) 35 [.ref 7, .int (nI a), .int (nI b), .int (nI k)] [] ν 0 := by
    intro n9
    induction n9 using Nat.strongRecOn with
    | ind n9 ih35 =>
      intro ν k hn9 hk gA gF
      subst hn9
      have ih := ih35
      refine es_iload_n (pc := 35) dX4_cheapestByGoingOver_35 rfl ?_
      refine es_bipushN (pc := 36) 10 dX4_cheapestByGoingOver_36 bp_10 ?_
      refine es_icmp_geN (pc := 38) 52 dX4_cheapestByGoingOver_38 (by decide) (by omega) (by omega) (fun c38 => ?_) (fun c38 => ?_)
      · refine es_aload_n (pc := 52) dX4_cheapestByGoingOver_52 rfl ?_
        refine es_getR (pc := 53) dX4_cheapestByGoingOver_53 fr_4_16 fld_7_1 ?_
        refine es_iload_n (pc := 56) dX4_cheapestByGoingOver_56 rfl ?_
        refine es_aaldq (pc := 57) dX4_cheapestByGoingOver_57 lay_9 (by omega) (rows9 _ (by omega)) ?_
        refine es_iload_n (pc := 58) dX4_cheapestByGoingOver_58 rfl ?_
        refine es_iald (pc := 59) dX4_cheapestByGoingOver_59 (lay24 _ (by omega)) (by omega) ?_
        refine es_top (gA _ _ (by omega) (by omega)) ?_
        refine es_ireturn (pc := 60) dX4_cheapestByGoingOver_60 rfl (vp_nar_int _) (by decide) ?_
        exact ⟨_, rfl, by rw [show k = 10 by omega], gF⟩
      · refine es_aload_n (pc := 41) dX4_cheapestByGoingOver_41 rfl ?_
        refine es_iload_n (pc := 42) dX4_cheapestByGoingOver_42 rfl ?_
        refine es_cv1_v (pc := 43) dX4_cheapestByGoingOver_43 mr_4_53 rfl rfl (by decide) (by decide) rfl (Nat.le_of_ble_eq_true rfl) (Nat.zero_le _) (X4_allowGoingOver_ok gA (fun f t h1 h2 => Nat.le_trans fw_le (hq f t h1 h2))) (fun μ43 h43 => ?_)
        refine es_iincN (pc := 46) 1 dX4_cheapestByGoingOver_46 ic_1 rfl (ok1_3 rfl) ?_
        refine es_goto (pc := 49) (tgt := 35) dX4_cheapestByGoingOver_49 (by decide) ?_
        exact ih35 _ (by omega) _ (k + 1) rfl (by omega) (fun f t h1 h2 => by rw [h43.1 f t h1 h2, fw]) (fun z hz => by rw [h43.2 z hz, gF z hz])
  have hl2 : ∀ (n9 : Nat) (ν : ev_M) (k : Nat), n9 = 10 - k → (k ≤ 10) → (∀ f t, f < k → t < 10 → ν (24 + (10 + f)) t = nI (q f t)) → (∀ k, (k < 34 ∨ 44 ≤ k) → ν k = μ k) → es (ev_CALL d) 4 cX4_cheapestByGoingOver (some .int) 0 (0, fun _ => 0, []) (fun r μ2 => ∃ x9 : Int32, r = (some (.int x9), 0) ∧ (fun x μ2 => x = nI (fw q 10 a b) ∧ ∀ k, (k < 34 ∨ 44 ≤ k) → μ2 k = μ k) x9 μ2) 2 [.ref 7, .int (nI a), .int (nI b), .int (nI k)] [] ν 0 := by
    intro n9
    induction n9 using Nat.strongRecOn with
    | ind n9 ih2 =>
      intro ν k hn9 hk gA gF
      subst hn9
      have ih := ih2
      refine es_iload_n (pc := 2) dX4_cheapestByGoingOver_2 rfl ?_
      refine es_bipushN (pc := 3) 10 dX4_cheapestByGoingOver_3 bp_10 ?_
      refine es_icmp_geN (pc := 5) 33 dX4_cheapestByGoingOver_5 (by decide) (by omega) (by omega) (fun c5 => ?_) (fun c5 => ?_)
      · refine es_iconstN (pc := 33) 0 dX4_cheapestByGoingOver_33 ic_0 ?_
        refine es_istore_n (pc := 34) dX4_cheapestByGoingOver_34 (ok1_3 rfl) ?_
        exact hl35 _ _ 0 rfl (by omega) (fun f t h1 h2 => gA f t (by omega) h2) gF
      · refine es_aload_n (pc := 8) dX4_cheapestByGoingOver_8 rfl ?_
        refine es_getR (pc := 9) dX4_cheapestByGoingOver_9 fr_4_11 fld_7_0 ?_
        refine es_iload_n (pc := 12) dX4_cheapestByGoingOver_12 rfl ?_
        refine es_aaldq (pc := 13) dX4_cheapestByGoingOver_13 lay_8 (by omega) (rows8 _ (by omega)) ?_
        refine es_iconstN (pc := 14) 0 dX4_cheapestByGoingOver_14 ic_0 ?_
        refine es_aload_n (pc := 15) dX4_cheapestByGoingOver_15 rfl ?_
        refine es_getR (pc := 16) dX4_cheapestByGoingOver_16 fr_4_16 fld_7_1 ?_
        refine es_iload_n (pc := 19) dX4_cheapestByGoingOver_19 rfl ?_
        refine es_aaldq (pc := 20) dX4_cheapestByGoingOver_20 lay_9 (by omega) (rows9 _ (by omega)) ?_
        refine es_iconstN (pc := 21) 0 dX4_cheapestByGoingOver_21 ic_0 ?_
        refine es_bipushN (pc := 22) 10 dX4_cheapestByGoingOver_22 bp_10 ?_
        refine es_copy (pc := 24) dX4_cheapestByGoingOver_24 (by decide +kernel) (lay24 _ (by omega)) (lay24 _ (by omega)) (by omega) (by omega) (Nat.le_of_ble_eq_true rfl) ?_
        refine es_iincN (pc := 27) 1 dX4_cheapestByGoingOver_27 ic_1 rfl (ok1_3 rfl) ?_
        refine es_goto (pc := 30) (tgt := 2) dX4_cheapestByGoingOver_30 (by decide) ?_
        refine ih2 _ (by omega) _ (k + 1) rfl (by omega) (fun f t h1 h2 => ?_) (fun z hz => ?_)
        · rw [cp_full]
          by_cases h : f = k
          · rw [if_pos ⟨by omega, h2⟩, gF _ (by omega), h, hS k t (by omega) h2]
          · rw [if_neg (by omega), gA f t (by omega) h2]
        · rw [cp_ne (by omega), gF z hz]
  refine es_iconstN (pc := 0) 0 dX4_cheapestByGoingOver_0 ic_0 ?_
  refine es_istore_n (pc := 1) dX4_cheapestByGoingOver_1 (ok1_3 rfl) ?_
  exact hl2 _ μ 0 rfl (by omega) (fun f t h => absurd h (Nat.not_lt_zero f)) (fun _ _ => rfl)
