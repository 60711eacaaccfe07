theorem gm_is_neg {x : Int32} {n : Nat} (h : x < 0) : gm_is x n = false := by
  have q1 : x < 0 ↔ x.toInt < 0 := Int32.lt_iff_toInt_lt
  unfold gm_is
  have := q1.mp h
  simp; omega
theorem gm_is_gt {x : Int32} {n m : Nat} (h : ¬ x ≤ nI m) (hn : n ≤ m + 1) (hm : m ≤ 400) : gm_is x n = false := by
  have q2 : x ≤ nI m ↔ x.toInt ≤ (m : Int) := by rw [Int32.le_iff_toInt_le, nI_toInt (by omega)]
  unfold gm_is
  have := mt q2.mpr h
  simp; omega
theorem gm_is_ge {x : Int32} {n : Nat} (h : nI n ≤ x) (hm : n ≤ 400) : gm_is x n = false := by
  have q2 : nI n ≤ x ↔ (n : Int) ≤ x.toInt := by rw [Int32.le_iff_toInt_le, nI_toInt (by omega)]
  unfold gm_is
  have := q2.mp h
  simp; omega
theorem gm_is_ok {x : Int32} {n m : Nat} (h1 : ¬ x < 0) (h : x ≤ nI m) (hn : m < n) (hm : m ≤ 400) : gm_is x n = true := by
  have q1 : x < 0 ↔ x.toInt < 0 := Int32.lt_iff_toInt_lt
  have q2 : x ≤ nI m ↔ x.toInt ≤ (m : Int) := by rw [Int32.le_iff_toInt_le, nI_toInt (by omega)]
  unfold gm_is
  have := q2.mp h
  have := mt q1.mpr h1
  simp; omega
theorem gm_is_ok2 {x : Int32} {n : Nat} (h1 : ¬ x < 0) (h : ¬ nI n ≤ x) (hm : n ≤ 400) : gm_is x n = true := by
  have q1 : x < 0 ↔ x.toInt < 0 := Int32.lt_iff_toInt_lt
  have q2 : nI n ≤ x ↔ (n : Int) ≤ x.toInt := by rw [Int32.le_iff_toInt_le, nI_toInt (by omega)]
  unfold gm_is
  have := mt q2.mpr h
  have := mt q1.mpr h1
  simp; omega
theorem st_lo {k : Nat} (h : k < 4) : ev_st 201 k = some (nI (gm_lo k)) := by
  rcases (show k = 0 ∨ k = 1 ∨ k = 2 ∨ k = 3 by omega) with rfl | rfl | rfl | rfl <;> decide +kernel
theorem st_up {k : Nat} (h : k < 4) : ev_st 202 k = some (nI (gm_up k)) := by
  rcases (show k = 0 ∨ k = 1 ∨ k = 2 ∨ k = 3 by omega) with rfl | rfl | rfl | rfl <;> decide +kernel
theorem rm_over_c {μ : ev_M} {r : gm_R} (h : gR μ 44 = r) : (!decide (μ 44 10 ≤ 0) && !decide (nI 9999 ≤ μ 44 13)) = !rm_over r := by
  subst h
  unfold rm_over
  rw [r44_players, r44_moves, Bool.not_not]
theorem rm_why_c {μ : ev_M} {r : gm_R} {p t : Nat} (h : gR μ 44 = r) (hp : p < 4) (ht : t < 10) (ha : rPl r p < 10) : gm_why (μ 47 1) (μ 45) (μ 50 p) (rPl r p) t = rm_why r p t := by
  unfold rm_why
  rw [gm_why_cong (rH_44 h) ha ht, ← r44_1 (μ := μ), ← r44_below (μ := μ) hp, h]
theorem rm_tagw_c {μ : ev_M} {r : gm_R} {p q : Nat} (h : gR μ 44 = r) (ha : rPl r p < 10) (hb : rPl r q < 10) : gm_tagw (μ 45) (μ 47 3) (rIt r) p q (rPl r p) (rPl r q) = rm_tagw r p q := by
  unfold rm_tagw
  rw [gm_tagw_cong (rH_44 h) ha hb, ← r44_3 (μ := μ), h]
theorem rm_price_c {μ : ev_M} {r : gm_R} {a t : Nat} (h : gR μ 44 = r) (ht : t < 10) (ha : a < 10) : gm_price (μ 47 1) (μ 45) a t = gm_price (r 1) (rH r) a t := by
  rw [gm_price_cong (rH_44 h) ha ht, ← r44_1 (μ := μ), h]
theorem RepC.keep {μ μ2 : ev_M} {S : gS} {s : Nat} (hR : RepC μ S) (hs : s < 2) (h : gR μ2 (55 + 11 * s) = gR μ 44) (hf : gm_Fr (55 + 11 * s) μ μ2) : RepC (ev_ms μ2 2 s (nI 1)) (S.1, S.2.1, ((fun q => decide (q = s) || S.2.2.1.1 q), (fun q => if q = s then S.1 else S.2.2.1.2 q)), S.2.2.2) := by
  unfold gm_Fr at hf
  obtain ⟨g, ⟨ol, p1, p2, p3, p4, p5⟩, ss, l, m, c⟩ := hR
  refine ⟨?_, ⟨ol, ?_, p2, ?_, p4, fun i hi => ?_⟩, fun x hx => ⟨?_, fun hy => ?_⟩, ?_, m, ?_⟩
  · rw [gR_wo (by omega), gR_cong (μ := μ) (fun k _ _ => hf k (by omega)), g]
  · rw [ms_ne (by omega), hf 3 (by omega), p1]
  · rw [ms_ne (by omega), hf 3 (by omega), p3]
  · rw [gR_wo (by omega), gR_cong (μ := μ) (fun k _ _ => hf k (by omega)), p5 i hi]
  · rw [ms_at]
    by_cases e : x = s
    · rw [if_pos e]; simp [e, bI, nI_one]
    · rw [if_neg e, hf 2 (by omega), (ss x hx).1]; simp [e]
  · dsimp only at hy ⊢
    rw [gR_wo (by omega)]
    by_cases e : x = s
    · rw [if_pos e, e, h, g]
    · rw [if_neg e, gR_cong (μ := μ) (fun k _ _ => hf k (by omega))]
      exact (ss x hx).2 (by simpa [e] using hy)
  · rw [ms_ne (by omega), hf 5 (by omega), l]
  · rw [ms_ne (by omega), hf 6 (by omega), c]
theorem RepC.undo {μ μ2 : ev_M} {S : gS} {ol : Nat} (hR : RepC μ S) (hn0 : 0 < S.2.1.1) (ho : μ 3 1 = nI ol) (ho6 : ol < 6) (h : μ2 3 1 = nI ol ∧ μ2 3 2 = nI (S.2.1.1 - 1) ∧ gR μ2 44 = gR μ (77 + 11 * ((ol + (S.2.1.1 - 1)) % 6)) ∧ ∀ k, k ≠ 3 → (k < 44 ∨ 55 ≤ k) → μ2 k = μ k) : RepC μ2 (S.2.1.2 (S.2.1.1 - 1), (S.2.1.1 - 1, S.2.1.2), S.2.2.1, S.2.2.2) := by
  obtain ⟨g, ⟨ol', p1, p2, p3, p4, p5⟩, ss, l, m, c⟩ := hR
  obtain rfl : ol' = ol := nI_inj (by omega) (by omega) (p1.symm.trans ho)
  obtain ⟨h1, h2, h3, hf⟩ := h
  refine ⟨?_, ⟨ol', h1, p2, h2, by dsimp only; omega, fun i hi => ?_⟩, fun x hx => ⟨?_, fun hy => ?_⟩, ?_, m, ?_⟩
  · rw [h3, p5 _ (by omega)]
  · dsimp only at hi ⊢
    rw [gR_cong (μ := μ) (fun k _ _ => hf k (by omega) (by omega)), p5 i (by omega)]
  · rw [hf 2 (by omega) (by omega), (ss x hx).1]
  · rw [gR_cong (μ := μ) (fun k _ _ => hf k (by omega) (by omega)), (ss x hx).2 hy]
  · rw [hf 5 (by omega) (by omega), l]
  · rw [hf 6 (by omega) (by omega), c]
theorem RepC.txt {μ : ev_M} {S : gS} {n : Nat} (hR : RepC μ S) (hn : n ≤ 60) : RepC (ev_ms μ 5 1 (nI n)) (S.1, S.2.1, S.2.2.1, (n, S.2.2.2.2)) := by
  obtain ⟨g, ⟨ol, p1, p2, p3, p4, p5⟩, ss, l, m, c⟩ := hR
  refine ⟨?_, ⟨ol, ?_, p2, ?_, p4, fun i hi => ?_⟩, fun x hx => ⟨?_, fun hy => ?_⟩, ?_, hn, ?_⟩
  · rw [gR_wo (by omega), g]
  · rw [ms_ne (by omega), p1]
  · rw [ms_ne (by omega), p3]
  · rw [gR_wo (by omega), p5 i hi]
  · rw [ms_ne (by omega), (ss x hx).1]
  · rw [gR_wo (by omega), (ss x hx).2 hy]
  · rw [ms_full]; simp
  · rw [ms_ne (by omega), c]
theorem RepC.code {μ : ev_M} {S : gS} {n : Nat} {x : Int32} (hR : RepC μ S) : RepC (ev_ms μ 6 n x) (S.1, S.2.1, S.2.2.1, (S.2.2.2.1, gCodes S.2.2.2.2 n x)) := by
  obtain ⟨g, ⟨ol, p1, p2, p3, p4, p5⟩, ss, l, m, c⟩ := hR
  refine ⟨?_, ⟨ol, ?_, p2, ?_, p4, fun i hi => ?_⟩, fun x hx => ⟨?_, fun hy => ?_⟩, ?_, m, ?_⟩
  · rw [gR_wo (by omega), g]
  · rw [ms_ne (by omega), p1]
  · rw [ms_ne (by omega), p3]
  · rw [gR_wo (by omega), p5 i hi]
  · rw [ms_ne (by omega), (ss x hx).1]
  · rw [gR_wo (by omega), (ss x hx).2 hy]
  · rw [ms_ne (by omega), l]
  · funext j
    rw [ms_at]; unfold gCodes; rw [← c]
theorem Fr5.ms {μ μ2 : ev_M} {k i : Nat} {x : Int32} (h : Fr5 μ μ2) (hk : k < 14 ∨ 24 ≤ k) : Fr5 μ (ev_ms μ2 k i x) := fun q a b => by rw [ms_ne (by omega), h q a b]
theorem Fr5.gmk {μ μ2 : ev_M} {g : Nat} (h : gm_Fr g μ μ2) (hg : 44 ≤ g) : Fr5 μ μ2 := fun k a b => h k (by omega)

set_option maxHeartbeats 2000000 in
set_option maxRecDepth 20000 in
theorem X5_isTower_ok {d : Nat} {μ : ev_M} {x : Int32} (hd : 1 ≤ d := by omega) : ev_CALL d 43 [.int x] μ (some (.int (bI (gm_is x 10))), 0) μ := by
  obtain ⟨d, rfl⟩ : ∃ q, d = q + 1 := ⟨d - 1, by omega⟩
  refine SPp.of (Nat.le_of_ble_eq_true rfl) ?_
  show es (ev_CALL d) 5 cX5_isTower (some .boolean) 0 (0, fun _ => 0, []) (fun r μ2 => r = (some (.int (bI (gm_is x 10))), 0) ∧ μ2 = μ) 0 [.int x] [] μ 0
  refine es_iload_n (pc := 0) dX5_isTower_0 rfl ?_
  refine es_if_lt (pc := 1) (tgt := 14) dX5_isTower_1 (by decide) (fun c1 => ?_) (fun c1 => ?_)
  · refine es_iconstN (pc := 14) 0 dX5_isTower_14 ic_0 ?_
    refine es_ireturn (pc := 15) dX5_isTower_15 rfl (rfl) (by decide) ?_
    exact ⟨by rw [gm_is_neg c1]; rfl, rfl⟩
  · refine es_iload_n (pc := 4) dX5_isTower_4 rfl ?_
    refine es_bipushN (pc := 5) 10 dX5_isTower_5 bp_10 ?_
    refine es_icmp_ge (pc := 7) (tgt := 14) dX5_isTower_7 (by decide) (fun c7 => ?_) (fun c7 => ?_)
    · refine es_iconstN (pc := 14) 0 dX5_isTower_14 ic_0 ?_
      refine es_ireturn (pc := 15) dX5_isTower_15 rfl (rfl) (by decide) ?_
      exact ⟨by rw [gm_is_ge c7 (by decide)]; rfl, rfl⟩
    · refine es_iconstN (pc := 10) 1 dX5_isTower_10 ic_1 ?_
      refine es_goto (pc := 11) (tgt := 15) dX5_isTower_11 (by decide) ?_
      refine es_ireturn (pc := 15) dX5_isTower_15 rfl (rfl) (by decide) ?_
      exact ⟨by rw [gm_is_ok2 c1 c7 (by decide)]; rfl, rfl⟩
set_option maxHeartbeats 2000000 in
set_option maxRecDepth 20000 in
theorem X5_isSetting_ok {d : Nat} {μ : ev_M} {x : Int32} (hd : 1 ≤ d := by omega) : ev_CALL d 51 [.int x] μ (some (.int (bI (gm_is x 4))), 0) μ := by
  obtain ⟨d, rfl⟩ : ∃ q, d = q + 1 := ⟨d - 1, by omega⟩
  refine SPp.of (Nat.le_of_ble_eq_true rfl) ?_
  show es (ev_CALL d) 5 cX5_isSetting (some .boolean) 0 (0, fun _ => 0, []) (fun r μ2 => r = (some (.int (bI (gm_is x 4))), 0) ∧ μ2 = μ) 0 [.int x] [] μ 0
  refine es_iload_n (pc := 0) dX5_isSetting_0 rfl ?_
  refine es_if_lt (pc := 1) (tgt := 13) dX5_isSetting_1 (by decide) (fun c1 => ?_) (fun c1 => ?_)
  · refine es_iconstN (pc := 13) 0 dX5_isSetting_13 ic_0 ?_
    refine es_ireturn (pc := 14) dX5_isSetting_14 rfl (rfl) (by decide) ?_
    exact ⟨by rw [gm_is_neg c1]; rfl, rfl⟩
  · refine es_iload_n (pc := 4) dX5_isSetting_4 rfl ?_
    refine es_iconstN (pc := 5) 4 dX5_isSetting_5 ic_4 ?_
    refine es_icmp_ge (pc := 6) (tgt := 13) dX5_isSetting_6 (by decide) (fun c6 => ?_) (fun c6 => ?_)
    · refine es_iconstN (pc := 13) 0 dX5_isSetting_13 ic_0 ?_
      refine es_ireturn (pc := 14) dX5_isSetting_14 rfl (rfl) (by decide) ?_
      exact ⟨by rw [gm_is_ge c6 (by decide)]; rfl, rfl⟩
    · refine es_iconstN (pc := 9) 1 dX5_isSetting_9 ic_1 ?_
      refine es_goto (pc := 10) (tgt := 14) dX5_isSetting_10 (by decide) ?_
      refine es_ireturn (pc := 14) dX5_isSetting_14 rfl (rfl) (by decide) ?_
      exact ⟨by rw [gm_is_ok2 c1 c6 (by decide)]; rfl, rfl⟩
set_option maxHeartbeats 2000000 in
set_option maxRecDepth 20000 in
theorem X5_height_ok {d : Nat} {μ : ev_M} {S : gS} {x y : Int32} (hR : RepC μ S) (hW : WFS S) (hd : 4 ≤ d := by omega) : SPx (ev_CALL d) 42 [.ref 0, .int x, .int y] μ (QC (op_height S x y) μ) (QE [0, 1] (op_height S x y) μ) := by
  obtain ⟨d, rfl⟩ : ∃ q, d = q + 1 := ⟨d - 1, by omega⟩
  refine SPx.of (Nat.le_of_ble_eq_true rfl) ?_
  show es (ev_CALL d) 5 cX5_height (some .int) 1 (0, fun _ => 0, []) (fun r μ2 => (∃ x9 : Int32, r = (some (.int x9), 0) ∧ (QC (op_height S x y) μ) x9 μ2) ∨ (∃ E9 : Nat, r = (none, E9 + 1) ∧ (QE [0, 1] (op_height S x y) μ) E9 μ2)) 0 [.ref 0, .int x, .int y, .null] [] μ 0
  have hm6 := hR.m
  obtain ⟨ol, ho, ho6, hn, hn6, hsv⟩ := hR.2.1
  obtain ⟨wP, wP4, won, won4, wit, wit4, wpl, wpb⟩ := WG.of (r := S.1) hR.g hW.1
  refine es_iload_n (pc := 0) dX5_height_0 rfl ?_
  refine es_cs1_p (pc := 1) dX5_height_1 mr_5_52 rfl rfl rfl (Nat.le_of_ble_eq_true rfl) (Nat.zero_le _) (X5_isTower_ok) ?_
  refine es_if_neB (pc := 4) 17 dX5_height_4 (by decide) (fun c4 => ?_) (fun c4 => ?_)
  · obtain ⟨t, ht, rfl⟩ := gm_is_t c4 (by decide)
    refine es_iload_n (pc := 17) dX5_height_17 rfl ?_
    refine es_if_lt (pc := 18) (tgt := 27) dX5_height_18 (by decide) (fun c18 => ?_) (fun c18 => ?_)
    · refine es_throw (pc := 27) (E := 1) dX5_height_27 dX5_height_30 dX5_height_31 dX5_height_33 dX5_height_36 (by decide +kernel) (by decide) ?_
      exact Or.inr ⟨_, rfl, QE.of 1 (by rw [op_height, if_neg (by simp [c4]), if_pos (gm_is_neg c18)]) rfl hR⟩
    · refine es_iload_n (pc := 21) dX5_height_21 rfl ?_
      refine es_bipushN (pc := 22) 9 dX5_height_22 bp_9 ?_
      refine es_icmp_le (pc := 24) (tgt := 37) dX5_height_24 (by decide) (fun c24 => ?_) (fun c24 => ?_)
      · refine es_aload_n (pc := 37) dX5_height_37 rfl ?_
        refine es_getR (pc := 38) dX5_height_38 fr_5_27 fld_0_3 ?_
        refine es_aload_n (pc := 41) dX5_height_41 rfl ?_
        refine es_getR (pc := 42) dX5_height_42 fr_5_10 fld_0_0 ?_
        refine es_cv1_v (pc := 45) dX5_height_45 mr_5_68 rfl rfl (by decide) (by decide) rfl (Nat.le_of_ble_eq_true rfl) (Nat.zero_le _) (X1_save_ok hn ho) (fun μ45 h45 => ?_)
        obtain ⟨hR2, f2⟩ := RepC.save hR ho ho6 h45
        obtain ⟨vP, vP4, von, von4, vit, vit4, vpl, vpb⟩ := WG.of (r := S.1) hR2.g hW.1
        refine es_aload_n (pc := 48) dX5_height_48 rfl ?_
        refine es_getR (pc := 49) dX5_height_49 fr_5_10 fld_0_0 ?_
        refine es_getR (pc := 52) dX5_height_52 fr_5_72 fld_44_0 ?_
        refine es_iload_n (pc := 55) dX5_height_55 rfl ?_
        refine es_iald (pc := 56) dX5_height_56 lay_45 (by omega) ?_
        refine es_istore_n (pc := 57) dX5_height_57 (ok1_3 rfl) ?_
        refine es_aload_n (pc := 58) dX5_height_58 rfl ?_
        refine es_getR (pc := 59) dX5_height_59 fr_5_10 fld_0_0 ?_
        refine es_getR (pc := 62) dX5_height_62 fr_5_72 fld_44_0 ?_
        refine es_iload_n (pc := 65) dX5_height_65 rfl ?_
        refine es_iload_n (pc := 66) dX5_height_66 rfl ?_
        refine es_iast (pc := 67) dX5_height_67 lay_45 (by omega) ?_
        refine es_iload_n (pc := 68) dX5_height_68 rfl ?_
        refine es_ireturn (pc := 69) dX5_height_69 rfl (vp_nar_int _) (by decide) ?_
        exact Or.inl ⟨_, rfl, QC.of (by rw [op_height, if_neg (by simp [c4]), if_neg (by simp [gm_is_ok c18 c24 (show 9 < 10 by decide) (by decide)]), cl_nI (by omega)] <;> rfl) (by rw [← r44_h (μ := μ45) ht, hR2.g]) (RepC.game hR2 (by rw [w44_h ht, hR2.g]) (gm_Fr.rf.ms (by decide))) (f2.ms (by decide))⟩
      · refine es_throw (pc := 27) (E := 1) dX5_height_27 dX5_height_30 dX5_height_31 dX5_height_33 dX5_height_36 (by decide +kernel) (by decide) ?_
        exact Or.inr ⟨_, rfl, QE.of 1 (by rw [op_height, if_neg (by simp [c4]), if_pos (gm_is_gt c24 (by decide) (by decide))]) rfl hR⟩
  · refine es_throw (pc := 7) (E := 0) dX5_height_7 dX5_height_10 dX5_height_11 dX5_height_13 dX5_height_16 (by decide +kernel) (by decide) ?_
    exact Or.inr ⟨_, rfl, QE.of 0 (by rw [op_height, if_pos c4]) rfl hR⟩
set_option maxHeartbeats 2000000 in
set_option maxRecDepth 20000 in
theorem X5_player_ok {d : Nat} {μ : ev_M} {S : gS} {x y : Int32} (hR : RepC μ S) (hW : WFS S) (hd : 4 ≤ d := by omega) : SPx (ev_CALL d) 47 [.ref 0, .int x, .int y] μ (QC (op_player S x y) μ) (QE [0, 1, 2] (op_player S x y) μ) := by
  obtain ⟨d, rfl⟩ : ∃ q, d = q + 1 := ⟨d - 1, by omega⟩
  refine SPx.of (Nat.le_of_ble_eq_true rfl) ?_
  show es (ev_CALL d) 5 cX5_player (some .int) 1 (0, fun _ => 0, []) (fun r μ2 => (∃ x9 : Int32, r = (some (.int x9), 0) ∧ (QC (op_player S x y) μ) x9 μ2) ∨ (∃ E9 : Nat, r = (none, E9 + 1) ∧ (QE [0, 1, 2] (op_player S x y) μ) E9 μ2)) 0 [.ref 0, .int x, .int y] [] μ 0
  have hm6 := hR.m
  obtain ⟨ol, ho, ho6, hn, hn6, hsv⟩ := hR.2.1
  obtain ⟨wP, wP4, won, won4, wit, wit4, wpl, wpb⟩ := WG.of (r := S.1) hR.g hW.1
  refine es_iload_n (pc := 0) dX5_player_0 rfl ?_
  refine es_cs1_p (pc := 1) dX5_player_1 mr_5_52 rfl rfl rfl (Nat.le_of_ble_eq_true rfl) (Nat.zero_le _) (X5_isTower_ok) ?_
  refine es_if_neB (pc := 4) 17 dX5_player_4 (by decide) (fun c4 => ?_) (fun c4 => ?_)
  · obtain ⟨t, ht, rfl⟩ := gm_is_t c4 (by decide)
    refine es_iload_n (pc := 17) dX5_player_17 rfl ?_
    refine es_if_lt (pc := 18) (tgt := 28) dX5_player_18 (by decide) (fun c18 => ?_) (fun c18 => ?_)
    · refine es_throw (pc := 28) (E := 1) dX5_player_28 dX5_player_31 dX5_player_32 dX5_player_34 dX5_player_37 (by decide +kernel) (by decide) ?_
      exact Or.inr ⟨_, rfl, QE.of 1 (by rw [op_player, if_neg (by simp [c4]), if_pos (gm_is_neg c18)]) rfl hR⟩
    · refine es_iload_n (pc := 21) dX5_player_21 rfl ?_
      refine es_sipushN (pc := 22) 200 dX5_player_22 sp_200 ?_
      refine es_icmp_le (pc := 25) (tgt := 38) dX5_player_25 (by decide) (fun c25 => ?_) (fun c25 => ?_)
      · refine es_aload_n (pc := 38) dX5_player_38 rfl ?_
        refine es_getR (pc := 39) dX5_player_39 fr_5_10 fld_0_0 ?_
        refine es_getI (pc := 42) dX5_player_42 fr_5_78 fld_44_10 ?_
        refine es_top wP ?_
        refine es_iconstN (pc := 45) 4 dX5_player_45 ic_4 ?_
        refine es_icmp_ltN (pc := 46) 59 dX5_player_46 (by decide) (by omega) (by omega) (fun c46 => ?_) (fun c46 => ?_)
        · refine es_aload_n (pc := 59) dX5_player_59 rfl ?_
          refine es_getR (pc := 60) dX5_player_60 fr_5_27 fld_0_3 ?_
          refine es_aload_n (pc := 63) dX5_player_63 rfl ?_
          refine es_getR (pc := 64) dX5_player_64 fr_5_10 fld_0_0 ?_
          refine es_cv1_v (pc := 67) dX5_player_67 mr_5_68 rfl rfl (by decide) (by decide) rfl (Nat.le_of_ble_eq_true rfl) (Nat.zero_le _) (X1_save_ok hn ho) (fun μ67 h67 => ?_)
          obtain ⟨hR2, f2⟩ := RepC.save hR ho ho6 h67
          obtain ⟨vP, vP4, von, von4, vit, vit4, vpl, vpb⟩ := WG.of (r := S.1) hR2.g hW.1
          refine es_aload_n (pc := 70) dX5_player_70 rfl ?_
          refine es_getR (pc := 71) dX5_player_71 fr_5_10 fld_0_0 ?_
          refine es_iload_n (pc := 74) dX5_player_74 rfl ?_
          refine es_iload_n (pc := 75) dX5_player_75 rfl ?_
          refine es_cv2_i (pc := 76) dX5_player_76 mr_5_87 rfl rfl (by decide) (by decide) rfl (Nat.le_of_ble_eq_true rfl) (Nat.zero_le _) (X0_addPlayer_ok vP) (fun x76 μ76 h76 => ?_)
          refine es_ireturn (pc := 79) dX5_player_79 rfl (vp_nar_int _) (by decide) ?_
          exact Or.inl ⟨_, rfl, QC.of (by rw [op_player, if_neg (by simp [c4]), if_neg (by simp [gm_is_ok c18 c25 (show 200 < 201 by decide) (by decide)]), if_neg (by omega), cl_nI (by omega)] <;> rfl) (h76.1) (RepC.game hR2 (by rw [h76.2.1, hR2.g]) h76.2.2) (f2.tr (Fr5.of_gm h76.2.2))⟩
        · refine es_throw (pc := 49) (E := 2) dX5_player_49 dX5_player_52 dX5_player_53 dX5_player_55 dX5_player_58 (by decide +kernel) (by decide) ?_
          exact Or.inr ⟨_, rfl, QE.of 2 (by rw [op_player, if_neg (by simp [c4]), if_neg (by simp [gm_is_ok c18 c25 (show 200 < 201 by decide) (by decide)]), if_pos (by omega)]) rfl hR⟩
      · refine es_throw (pc := 28) (E := 1) dX5_player_28 dX5_player_31 dX5_player_32 dX5_player_34 dX5_player_37 (by decide +kernel) (by decide) ?_
        exact Or.inr ⟨_, rfl, QE.of 1 (by rw [op_player, if_neg (by simp [c4]), if_pos (gm_is_gt c25 (by decide) (by decide))]) rfl hR⟩
  · refine es_throw (pc := 7) (E := 0) dX5_player_7 dX5_player_10 dX5_player_11 dX5_player_13 dX5_player_16 (by decide +kernel) (by decide) ?_
    exact Or.inr ⟨_, rfl, QE.of 0 (by rw [op_player, if_pos c4]) rfl hR⟩
set_option maxHeartbeats 2000000 in
set_option maxRecDepth 20000 in
theorem X5_set_ok {d : Nat} {μ : ev_M} {S : gS} {x y : Int32} (hR : RepC μ S) (hW : WFS S) (hd : 4 ≤ d := by omega) : SPx (ev_CALL d) 50 [.ref 0, .int x, .int y] μ (QC (op_set S x y) μ) (QE [0, 1] (op_set S x y) μ) := by
  obtain ⟨d, rfl⟩ : ∃ q, d = q + 1 := ⟨d - 1, by omega⟩
  refine SPx.of (Nat.le_of_ble_eq_true rfl) ?_
  show es (ev_CALL d) 5 cX5_set (some .int) 1 (0, fun _ => 0, []) (fun r μ2 => (∃ x9 : Int32, r = (some (.int x9), 0) ∧ (QC (op_set S x y) μ) x9 μ2) ∨ (∃ E9 : Nat, r = (none, E9 + 1) ∧ (QE [0, 1] (op_set S x y) μ) E9 μ2)) 0 [.ref 0, .int x, .int y, .null] [] μ 0
  have hm6 := hR.m
  obtain ⟨ol, ho, ho6, hn, hn6, hsv⟩ := hR.2.1
  obtain ⟨wP, wP4, won, won4, wit, wit4, wpl, wpb⟩ := WG.of (r := S.1) hR.g hW.1
  refine es_iload_n (pc := 0) dX5_set_0 rfl ?_
  refine es_cs1_p (pc := 1) dX5_set_1 mr_5_91 rfl rfl rfl (Nat.le_of_ble_eq_true rfl) (Nat.zero_le _) (X5_isSetting_ok) ?_
  refine es_if_neB (pc := 4) 17 dX5_set_4 (by decide) (fun c4 => ?_) (fun c4 => ?_)
  · obtain ⟨t, ht, rfl⟩ := gm_is_t c4 (by decide)
    refine es_iload_n (pc := 17) dX5_set_17 rfl ?_
    refine es_gets (pc := 18) (r := 201) dX5_set_18 (by decide +kernel) ?_
    refine es_iload_n (pc := 21) dX5_set_21 rfl ?_
    refine es_tald (pc := 22) dX5_set_22 (st_lo ht) ?_
    refine es_icmp_lt (pc := 23) (tgt := 35) dX5_set_23 (by decide) (fun c23 => ?_) (fun c23 => ?_)
    · refine es_throw (pc := 35) (E := 1) dX5_set_35 dX5_set_38 dX5_set_39 dX5_set_41 dX5_set_44 (by decide +kernel) (by decide) ?_
      exact Or.inr ⟨_, rfl, QE.of 1 (by rw [op_set, if_neg (by simp [c4]), if_pos (by rw [cl_nI (by omega)]; simp [Int32.not_le.mpr c23])]) rfl hR⟩
    · refine es_iload_n (pc := 26) dX5_set_26 rfl ?_
      refine es_gets (pc := 27) (r := 202) dX5_set_27 (by decide +kernel) ?_
      refine es_iload_n (pc := 30) dX5_set_30 rfl ?_
      refine es_tald (pc := 31) dX5_set_31 (st_up ht) ?_
      refine es_icmp_le (pc := 32) (tgt := 45) dX5_set_32 (by decide) (fun c32 => ?_) (fun c32 => ?_)
      · refine es_aload_n (pc := 45) dX5_set_45 rfl ?_
        refine es_getR (pc := 46) dX5_set_46 fr_5_27 fld_0_3 ?_
        refine es_aload_n (pc := 49) dX5_set_49 rfl ?_
        refine es_getR (pc := 50) dX5_set_50 fr_5_10 fld_0_0 ?_
        refine es_cv1_v (pc := 53) dX5_set_53 mr_5_68 rfl rfl (by decide) (by decide) rfl (Nat.le_of_ble_eq_true rfl) (Nat.zero_le _) (X1_save_ok hn ho) (fun μ53 h53 => ?_)
        obtain ⟨hR2, f2⟩ := RepC.save hR ho ho6 h53
        obtain ⟨vP, vP4, von, von4, vit, vit4, vpl, vpb⟩ := WG.of (r := S.1) hR2.g hW.1
        refine es_aload_n (pc := 56) dX5_set_56 rfl ?_
        refine es_getR (pc := 57) dX5_set_57 fr_5_10 fld_0_0 ?_
        refine es_getR (pc := 60) dX5_set_60 fr_5_104 fld_44_2 ?_
        refine es_iload_n (pc := 63) dX5_set_63 rfl ?_
        refine es_iald (pc := 64) dX5_set_64 lay_47 (by omega) ?_
        refine es_istore_n (pc := 65) dX5_set_65 (ok1_3 rfl) ?_
        refine es_aload_n (pc := 66) dX5_set_66 rfl ?_
        refine es_getR (pc := 67) dX5_set_67 fr_5_10 fld_0_0 ?_
        refine es_getR (pc := 70) dX5_set_70 fr_5_104 fld_44_2 ?_
        refine es_iload_n (pc := 73) dX5_set_73 rfl ?_
        refine es_iload_n (pc := 74) dX5_set_74 rfl ?_
        refine es_iast (pc := 75) dX5_set_75 lay_47 (by omega) ?_
        refine es_iload_n (pc := 76) dX5_set_76 rfl ?_
        refine es_ireturn (pc := 77) dX5_set_77 rfl (vp_nar_int _) (by decide) ?_
        exact Or.inl ⟨_, rfl, QC.of (by rw [op_set, if_neg (by simp [c4]), if_neg (by rw [cl_nI (by omega)]; simp [Int32.not_lt.mp c23, c32]), cl_nI (by omega)] <;> rfl) (by rw [← r44_s (μ := μ53) ht, hR2.g]) (RepC.game hR2 (by rw [w44_s ht, hR2.g]) (gm_Fr.rf.ms (by decide))) (f2.ms (by decide))⟩
      · refine es_throw (pc := 35) (E := 1) dX5_set_35 dX5_set_38 dX5_set_39 dX5_set_41 dX5_set_44 (by decide +kernel) (by decide) ?_
        exact Or.inr ⟨_, rfl, QE.of 1 (by rw [op_set, if_neg (by simp [c4]), if_pos (by rw [cl_nI (by omega)]; simp [c32])]) rfl hR⟩
  · refine es_throw (pc := 7) (E := 0) dX5_set_7 dX5_set_10 dX5_set_11 dX5_set_13 dX5_set_16 (by decide +kernel) (by decide) ?_
    exact Or.inr ⟨_, rfl, QE.of 0 (by rw [op_set, if_pos c4]) rfl hR⟩
set_option maxHeartbeats 2000000 in
set_option maxRecDepth 20000 in
theorem X5_rest_ok {d : Nat} {μ : ev_M} {S : gS} (hR : RepC μ S) (hW : WFS S) (hd : 4 ≤ d := by omega) : SPx (ev_CALL d) 53 [.ref 0] μ (QC (op_rest S) μ) (QE [2] (op_rest S) μ) := by
  obtain ⟨d, rfl⟩ : ∃ q, d = q + 1 := ⟨d - 1, by omega⟩
  refine SPx.of (Nat.le_of_ble_eq_true rfl) ?_
  show es (ev_CALL d) 5 cX5_rest (some .int) 1 (0, fun _ => 0, []) (fun r μ2 => (∃ x9 : Int32, r = (some (.int x9), 0) ∧ (QC (op_rest S) μ) x9 μ2) ∨ (∃ E9 : Nat, r = (none, E9 + 1) ∧ (QE [2] (op_rest S) μ) E9 μ2)) 0 [.ref 0] [] μ 0
  have hm6 := hR.m
  obtain ⟨ol, ho, ho6, hn, hn6, hsv⟩ := hR.2.1
  obtain ⟨wP, wP4, won, won4, wit, wit4, wpl, wpb⟩ := WG.of (r := S.1) hR.g hW.1
  refine es_aload_n (pc := 0) dX5_rest_0 rfl ?_
  refine es_getR (pc := 1) dX5_rest_1 fr_5_10 fld_0_0 ?_
  refine es_cv0_p (pc := 4) dX5_rest_4 mr_5_107 rfl rfl (by decide) (by decide) rfl (Nat.le_of_ble_eq_true rfl) (Nat.zero_le _) (X0_takesMoves_ok) ?_
  rw [rm_over_c hR.g]
  refine es_if_neB (pc := 7) 20 dX5_rest_7 (by decide) (fun c7 => ?_) (fun c7 => ?_)
  · refine es_aload_n (pc := 20) dX5_rest_20 rfl ?_
    refine es_getR (pc := 21) dX5_rest_21 fr_5_27 fld_0_3 ?_
    refine es_aload_n (pc := 24) dX5_rest_24 rfl ?_
    refine es_getR (pc := 25) dX5_rest_25 fr_5_10 fld_0_0 ?_
    refine es_cv1_v (pc := 28) dX5_rest_28 mr_5_68 rfl rfl (by decide) (by decide) rfl (Nat.le_of_ble_eq_true rfl) (Nat.zero_le _) (X1_save_ok hn ho) (fun μ28 h28 => ?_)
    obtain ⟨hR2, f2⟩ := RepC.save hR ho ho6 h28
    obtain ⟨vP, vP4, von, von4, vit, vit4, vpl, vpb⟩ := WG.of (r := S.1) hR2.g hW.1
    refine es_aload_n (pc := 31) dX5_rest_31 rfl ?_
    refine es_getR (pc := 32) dX5_rest_32 fr_5_10 fld_0_0 ?_
    refine es_cv0_i (pc := 35) dX5_rest_35 mr_5_113 rfl rfl (by decide) (by decide) rfl (Nat.le_of_ble_eq_true rfl) (Nat.zero_le _) (X0_endMove_ok vP von) (fun x35 μ35 h35 => ?_)
    refine es_ireturn (pc := 38) dX5_rest_38 rfl (vp_nar_int _) (by decide) ?_
    exact Or.inl ⟨_, rfl, QC.of (by rw [op_rest, if_neg (by simpa using c7)] <;> rfl) (by rw [h35.1, hR2.g]) (RepC.game hR2 (by rw [h35.2.1, hR2.g] <;> rfl) h35.2.2) (f2.tr (Fr5.of_gm h35.2.2))⟩
  · refine es_throw (pc := 10) (E := 2) dX5_rest_10 dX5_rest_13 dX5_rest_14 dX5_rest_16 dX5_rest_19 (by decide +kernel) (by decide) ?_
    exact Or.inr ⟨_, rfl, QE.of 0 (by rw [op_rest, if_pos (by simpa using c7)]) rfl hR⟩
set_option maxHeartbeats 2000000 in
set_option maxRecDepth 20000 in
theorem X5_stride_ok {d : Nat} {μ : ev_M} {S : gS} {x : Int32} (hR : RepC μ S) (hW : WFS S) (hd : 6 ≤ d := by omega) : SPx (ev_CALL d) 57 [.ref 0, .int x] μ (QC (op_stride S x) μ) (QE [0, 2] (op_stride S x) μ) := by
  obtain ⟨d, rfl⟩ : ∃ q, d = q + 1 := ⟨d - 1, by omega⟩
  refine SPx.of (Nat.le_of_ble_eq_true rfl) ?_
  show es (ev_CALL d) 5 cX5_stride (some .int) 1 (0, fun _ => 0, []) (fun r μ2 => (∃ x9 : Int32, r = (some (.int x9), 0) ∧ (QC (op_stride S x) μ) x9 μ2) ∨ (∃ E9 : Nat, r = (none, E9 + 1) ∧ (QE [0, 2] (op_stride S x) μ) E9 μ2)) 0 [.ref 0, .int x] [] μ 0
  have hm6 := hR.m
  obtain ⟨ol, ho, ho6, hn, hn6, hsv⟩ := hR.2.1
  obtain ⟨wP, wP4, won, won4, wit, wit4, wpl, wpb⟩ := WG.of (r := S.1) hR.g hW.1
  refine es_iload_n (pc := 0) dX5_stride_0 rfl ?_
  refine es_cs1_p (pc := 1) dX5_stride_1 mr_5_52 rfl rfl rfl (Nat.le_of_ble_eq_true rfl) (Nat.zero_le _) (X5_isTower_ok) ?_
  refine es_if_neB (pc := 4) 17 dX5_stride_4 (by decide) (fun c4 => ?_) (fun c4 => ?_)
  · obtain ⟨t, ht, rfl⟩ := gm_is_t c4 (by decide)
    refine es_aload_n (pc := 17) dX5_stride_17 rfl ?_
    refine es_getR (pc := 18) dX5_stride_18 fr_5_10 fld_0_0 ?_
    refine es_cv0_p (pc := 21) dX5_stride_21 mr_5_107 rfl rfl (by decide) (by decide) rfl (Nat.le_of_ble_eq_true rfl) (Nat.zero_le _) (X0_takesMoves_ok) ?_
    rw [rm_over_c hR.g]
    refine es_if_neB (pc := 24) 37 dX5_stride_24 (by decide) (fun c24 => ?_) (fun c24 => ?_)
    · refine es_aload_n (pc := 37) dX5_stride_37 rfl ?_
      refine es_getR (pc := 38) dX5_stride_38 fr_5_27 fld_0_3 ?_
      refine es_aload_n (pc := 41) dX5_stride_41 rfl ?_
      refine es_getR (pc := 42) dX5_stride_42 fr_5_10 fld_0_0 ?_
      refine es_cv1_v (pc := 45) dX5_stride_45 mr_5_68 rfl rfl (by decide) (by decide) rfl (Nat.le_of_ble_eq_true rfl) (Nat.zero_le _) (X1_save_ok hn ho) (fun μ45 h45 => ?_)
      obtain ⟨hR2, f2⟩ := RepC.save hR ho ho6 h45
      obtain ⟨vP, vP4, von, von4, vit, vit4, vpl, vpb⟩ := WG.of (r := S.1) hR2.g hW.1
      refine es_aload_n (pc := 48) dX5_stride_48 rfl ?_
      refine es_getR (pc := 49) dX5_stride_49 fr_5_10 fld_0_0 ?_
      refine es_iload_n (pc := 52) dX5_stride_52 rfl ?_
      refine es_cv1_i (pc := 53) dX5_stride_53 mr_5_117 rfl rfl (by decide) (by decide) rfl (Nat.le_of_ble_eq_true rfl) (Nat.zero_le _) (X0_moveByStride_ok vP von (vpl _ von4) (ha := vpb _)) (fun x53 μ53 h53 => ?_)
      refine es_ireturn (pc := 56) dX5_stride_56 rfl (vp_nar_int _) (by decide) ?_
      exact Or.inl ⟨_, rfl, QC.of (by rw [op_stride, if_neg (by simp [c4]), if_neg (by simpa using c24), cl_nI (by omega)] <;> rfl) (by rw [h53.1]; exact rm_why_c (r := S.1) hR2.g von4 ht (vpb _)) (RepC.game hR2 (by rw [h53.2.1, rm_why_c (r := S.1) hR2.g von4 ht (vpb _), rm_price_c (r := S.1) hR2.g ht (vpb _), hR2.g] <;> rfl) h53.2.2) (f2.tr (Fr5.of_gm h53.2.2))⟩
    · refine es_throw (pc := 27) (E := 2) dX5_stride_27 dX5_stride_30 dX5_stride_31 dX5_stride_33 dX5_stride_36 (by decide +kernel) (by decide) ?_
      exact Or.inr ⟨_, rfl, QE.of 1 (by rw [op_stride, if_neg (by simp [c4]), if_pos (by simpa using c24)]) rfl hR⟩
  · refine es_throw (pc := 7) (E := 0) dX5_stride_7 dX5_stride_10 dX5_stride_11 dX5_stride_13 dX5_stride_16 (by decide +kernel) (by decide) ?_
    exact Or.inr ⟨_, rfl, QE.of 0 (by rw [op_stride, if_pos c4]) rfl hR⟩
set_option maxHeartbeats 2000000 in
set_option maxRecDepth 20000 in
theorem X5_turnOver_ok {d : Nat} {μ : ev_M} {S : gS} (hR : RepC μ S) (hW : WFS S) (hd : 6 ≤ d := by omega) : SPx (ev_CALL d) 62 [.ref 0] μ (QC (op_turn S) μ) (QE [2] (op_turn S) μ) := by
  obtain ⟨d, rfl⟩ : ∃ q, d = q + 1 := ⟨d - 1, by omega⟩
  refine SPx.of (Nat.le_of_ble_eq_true rfl) ?_
  show es (ev_CALL d) 5 cX5_turnOver (some .int) 1 (0, fun _ => 0, []) (fun r μ2 => (∃ x9 : Int32, r = (some (.int x9), 0) ∧ (QC (op_turn S) μ) x9 μ2) ∨ (∃ E9 : Nat, r = (none, E9 + 1) ∧ (QE [2] (op_turn S) μ) E9 μ2)) 0 [.ref 0] [] μ 0
  have hm6 := hR.m
  obtain ⟨ol, ho, ho6, hn, hn6, hsv⟩ := hR.2.1
  obtain ⟨wP, wP4, won, won4, wit, wit4, wpl, wpb⟩ := WG.of (r := S.1) hR.g hW.1
  refine es_aload_n (pc := 0) dX5_turnOver_0 rfl ?_
  refine es_getR (pc := 1) dX5_turnOver_1 fr_5_10 fld_0_0 ?_
  refine es_cv0_p (pc := 4) dX5_turnOver_4 mr_5_107 rfl rfl (by decide) (by decide) rfl (Nat.le_of_ble_eq_true rfl) (Nat.zero_le _) (X0_takesMoves_ok) ?_
  rw [rm_over_c hR.g]
  refine es_if_neB (pc := 7) 20 dX5_turnOver_7 (by decide) (fun c7 => ?_) (fun c7 => ?_)
  · refine es_aload_n (pc := 20) dX5_turnOver_20 rfl ?_
    refine es_getR (pc := 21) dX5_turnOver_21 fr_5_27 fld_0_3 ?_
    refine es_aload_n (pc := 24) dX5_turnOver_24 rfl ?_
    refine es_getR (pc := 25) dX5_turnOver_25 fr_5_10 fld_0_0 ?_
    refine es_cv1_v (pc := 28) dX5_turnOver_28 mr_5_68 rfl rfl (by decide) (by decide) rfl (Nat.le_of_ble_eq_true rfl) (Nat.zero_le _) (X1_save_ok hn ho) (fun μ28 h28 => ?_)
    obtain ⟨hR2, f2⟩ := RepC.save hR ho ho6 h28
    obtain ⟨vP, vP4, von, von4, vit, vit4, vpl, vpb⟩ := WG.of (r := S.1) hR2.g hW.1
    refine es_aload_n (pc := 31) dX5_turnOver_31 rfl ?_
    refine es_getR (pc := 32) dX5_turnOver_32 fr_5_10 fld_0_0 ?_
    refine es_cv0_i (pc := 35) dX5_turnOver_35 mr_5_121 rfl rfl (by decide) (by decide) rfl (Nat.le_of_ble_eq_true rfl) (Nat.zero_le _) (X0_moveByTurn_ok vP von (vpl _ von4) (ha := vpb _)) (fun x35 μ35 h35 => ?_)
    refine es_ireturn (pc := 38) dX5_turnOver_38 rfl (vp_nar_int _) (by decide) ?_
    exact Or.inl ⟨_, rfl, QC.of (by rw [op_turn, if_neg (by simpa using c7)] <;> rfl) (by rw [h35.1, ← r44_below (μ := μ28) von4, ← r44_2 (μ := μ28), hR2.g]; unfold rm_turn; split <;> rfl) (RepC.game hR2 (by rw [h35.2.1, ← r44_below (μ := μ28) von4, ← r44_2 (μ := μ28), hR2.g]; unfold rm_turn; split <;> rfl) h35.2.2) (f2.tr (Fr5.of_gm h35.2.2))⟩
  · refine es_throw (pc := 10) (E := 2) dX5_turnOver_10 dX5_turnOver_13 dX5_turnOver_14 dX5_turnOver_16 dX5_turnOver_19 (by decide +kernel) (by decide) ?_
    exact Or.inr ⟨_, rfl, QE.of 0 (by rw [op_turn, if_pos (by simpa using c7)]) rfl hR⟩
set_option maxHeartbeats 2000000 in
set_option maxRecDepth 20000 in
theorem X5_tag_ok {d : Nat} {μ : ev_M} {S : gS} {x : Int32} (hR : RepC μ S) (hW : WFS S) (hd : 6 ≤ d := by omega) : SPx (ev_CALL d) 65 [.ref 0, .int x] μ (QC (op_tag S x) μ) (QE [0, 2] (op_tag S x) μ) := by
  obtain ⟨d, rfl⟩ : ∃ q, d = q + 1 := ⟨d - 1, by omega⟩
  refine SPx.of (Nat.le_of_ble_eq_true rfl) ?_
  show es (ev_CALL d) 5 cX5_tag (some .int) 1 (0, fun _ => 0, []) (fun r μ2 => (∃ x9 : Int32, r = (some (.int x9), 0) ∧ (QC (op_tag S x) μ) x9 μ2) ∨ (∃ E9 : Nat, r = (none, E9 + 1) ∧ (QE [0, 2] (op_tag S x) μ) E9 μ2)) 0 [.ref 0, .int x] [] μ 0
  have hm6 := hR.m
  obtain ⟨ol, ho, ho6, hn, hn6, hsv⟩ := hR.2.1
  obtain ⟨wP, wP4, won, won4, wit, wit4, wpl, wpb⟩ := WG.of (r := S.1) hR.g hW.1
  refine es_aload_n (pc := 0) dX5_tag_0 rfl ?_
  refine es_getR (pc := 1) dX5_tag_1 fr_5_10 fld_0_0 ?_
  refine es_iload_n (pc := 4) dX5_tag_4 rfl ?_
  refine es_cv1_p (pc := 5) dX5_tag_5 mr_5_124 rfl rfl (by decide) (by decide) rfl (Nat.le_of_ble_eq_true rfl) (Nat.zero_le _) (X0_hasPlayer_ok) ?_
  rw [wP, gm_is_c (by omega)]
  refine es_if_neB (pc := 8) 21 dX5_tag_8 (by decide) (fun c8 => ?_) (fun c8 => ?_)
  · obtain ⟨t, ht, rfl⟩ := gm_is_t c8 (by omega)
    refine es_aload_n (pc := 21) dX5_tag_21 rfl ?_
    refine es_getR (pc := 22) dX5_tag_22 fr_5_10 fld_0_0 ?_
    refine es_cv0_p (pc := 25) dX5_tag_25 mr_5_107 rfl rfl (by decide) (by decide) rfl (Nat.le_of_ble_eq_true rfl) (Nat.zero_le _) (X0_takesMoves_ok) ?_
    rw [rm_over_c hR.g]
    refine es_if_neB (pc := 28) 41 dX5_tag_28 (by decide) (fun c28 => ?_) (fun c28 => ?_)
    · refine es_aload_n (pc := 41) dX5_tag_41 rfl ?_
      refine es_getR (pc := 42) dX5_tag_42 fr_5_27 fld_0_3 ?_
      refine es_aload_n (pc := 45) dX5_tag_45 rfl ?_
      refine es_getR (pc := 46) dX5_tag_46 fr_5_10 fld_0_0 ?_
      refine es_cv1_v (pc := 49) dX5_tag_49 mr_5_68 rfl rfl (by decide) (by decide) rfl (Nat.le_of_ble_eq_true rfl) (Nat.zero_le _) (X1_save_ok hn ho) (fun μ49 h49 => ?_)
      obtain ⟨hR2, f2⟩ := RepC.save hR ho ho6 h49
      obtain ⟨vP, vP4, von, von4, vit, vit4, vpl, vpb⟩ := WG.of (r := S.1) hR2.g hW.1
      refine es_aload_n (pc := 52) dX5_tag_52 rfl ?_
      refine es_getR (pc := 53) dX5_tag_53 fr_5_10 fld_0_0 ?_
      refine es_iload_n (pc := 56) dX5_tag_56 rfl ?_
      refine es_cv1_i (pc := 57) dX5_tag_57 mr_5_131 rfl rfl (by decide) (by decide) rfl (Nat.le_of_ble_eq_true rfl) (Nat.zero_le _) (X0_moveByTag_ok (pl := rPl S.1) vP von vit vpl vpb) (fun x57 μ57 h57 => ?_)
      refine es_ireturn (pc := 60) dX5_tag_60 rfl (vp_nar_int _) (by decide) ?_
      exact Or.inl ⟨_, rfl, QC.of (by rw [op_tag, if_neg (by simp [c8]), if_neg (by simpa using c28), cl_nI (by omega)] <;> rfl) (by rw [h57.1]; exact rm_tagw_c (r := S.1) hR2.g (vpb _) (vpb _)) (RepC.game hR2 (by rw [h57.2.1, rm_tagw_c (r := S.1) hR2.g (vpb _) (vpb _), hR2.g] <;> rfl) h57.2.2) (f2.tr (Fr5.of_gm h57.2.2))⟩
    · refine es_throw (pc := 31) (E := 2) dX5_tag_31 dX5_tag_34 dX5_tag_35 dX5_tag_37 dX5_tag_40 (by decide +kernel) (by decide) ?_
      exact Or.inr ⟨_, rfl, QE.of 1 (by rw [op_tag, if_neg (by simp [c8]), if_pos (by simpa using c28)]) rfl hR⟩
  · refine es_throw (pc := 11) (E := 0) dX5_tag_11 dX5_tag_14 dX5_tag_15 dX5_tag_17 dX5_tag_20 (by decide +kernel) (by decide) ?_
    exact Or.inr ⟨_, rfl, QE.of 0 (by rw [op_tag, if_pos c8]) rfl hR⟩
