def RG (μ : ev_M) (a : Nat) (x y : Int32) (ly : Nat → Int32) : Prop := μ 14 9 = nI a ∧ μ 14 10 = x ∧ μ 14 11 = y ∧ ∀ k, k < 10 → μ 21 k = ly k
/-- only the registers change -/
def FG (μ μ2 : ev_M) : Prop := (∀ q, q ≠ 14 → q ≠ 21 → μ2 q = μ q) ∧ ∀ i, i < 9 → μ2 14 i = μ 14 i
/-- the registers and the row change -/
def FH (μ μ2 : ev_M) : Prop := (∀ q, q ≠ 14 → q ≠ 21 → q ≠ 15 → μ2 q = μ q) ∧ ∀ i, i < 9 → μ2 14 i = μ 14 i
theorem FG.rf {μ : ev_M} : FG μ μ := ⟨fun _ _ _ => rfl, fun _ _ => rfl⟩
theorem FG.tr {μ μ2 μ3 : ev_M} (h : FG μ μ2) (h2 : FG μ2 μ3) : FG μ μ3 := ⟨fun q a b => (h2.1 q a b).trans (h.1 q a b), fun i a => (h2.2 i a).trans (h.2 i a)⟩
theorem FH.rf {μ : ev_M} : FH μ μ := ⟨fun _ _ _ _ => rfl, fun _ _ => rfl⟩
theorem FH.tr {μ μ2 μ3 : ev_M} (h : FH μ μ2) (h2 : FH μ2 μ3) : FH μ μ3 := ⟨fun q a b c => (h2.1 q a b c).trans (h.1 q a b c), fun i a => (h2.2 i a).trans (h.2 i a)⟩
theorem FG.h {μ μ2 : ev_M} (h : FG μ μ2) : FH μ μ2 := ⟨fun q a b _ => h.1 q a b, h.2⟩
theorem FH.w {μ μ2 : ev_M} {j : Nat} {x : Int32} (h : FH μ μ2) : FH μ (ev_ms μ2 15 j x) := ⟨fun q a b c => by rw [ms_ne c, h.1 q a b c], fun i a => by rw [ms_ne (by decide), h.2 i a]⟩
theorem FG.w14 {μ μ2 : ev_M} {j : Nat} {x : Int32} (h : FG μ μ2) (hj : 9 ≤ j) : FG μ (ev_ms μ2 14 j x) := ⟨fun q a b => by rw [ms_ne a, h.1 q a b], fun i a => by rw [ms_at, if_neg (by omega), h.2 i a]⟩
theorem FG.w21 {μ μ2 : ev_M} {j : Nat} {x : Int32} (h : FG μ μ2) : FG μ (ev_ms μ2 21 j x) := ⟨fun q a b => by rw [ms_ne b, h.1 q a b], fun i a => by rw [ms_ne (by decide), h.2 i a]⟩
theorem RG.w15 {μ : ev_M} {a j : Nat} {x y z : Int32} {ly : Nat → Int32} (h : RG μ a x y ly) : RG (ev_ms μ 15 j z) a x y ly := ⟨by rw [ms_ne (by decide)]; exact h.1, by rw [ms_ne (by decide)]; exact h.2.1, by rw [ms_ne (by decide)]; exact h.2.2.1, fun k hk => by rw [ms_ne (by decide)]; exact h.2.2.2 k hk⟩
theorem FG.row {μ μ2 : ev_M} (h : FG μ μ2) : mR μ2 = mR μ := mR_cong (h.1 15 (by decide) (by decide))
def rput (r : gm_R) (p a : Nat) (x y : Int32) (ly : Nat → Int32) : gm_R := fun j => if 21 ≤ j ∧ j < 31 then ly (j - 21) else upd (upd (upd r (31 + 7 * p) (nI a)) (31 + 7 * p + 1) x) (31 + 7 * p + 2) y j
theorem rput_o {r : gm_R} {p a j : Nat} {x y : Int32} {ly : Nat → Int32} (h : (j < 21 ∨ 31 ≤ j) ∧ j ≠ 31 + 7 * p ∧ j ≠ 31 + 7 * p + 1 ∧ j ≠ 31 + 7 * p + 2) : rput r p a x y ly j = r j := by
  unfold rput
  rw [if_neg (by omega), upd_ne h.2.2.2, upd_ne h.2.2.1, upd_ne h.2.1]
def rends (r : gm_R) (P on a : Nat) (x y : Int32) (ly : Nat → Int32) : gm_R := upd (upd (upd (rput r on a (x - wk_g (r 0) x) (y + wk_g (r 0) x) ly) (31 + 7 * on + 3) (r (31 + 7 * on + 3) + nI 1)) 7 (r 7 + nI 1)) 5 (nI (if on + 1 < P then on + 1 else 0))
theorem wk_g_c {a b : Int32} : (if a < b then a else b) = wk_g a b := by
  unfold wk_g
  rcases Decidable.em (a < b) with h | h
  · rw [if_pos h, if_neg (fun q => Int32.lt_irrefl (Int32.lt_trans h q))]
  · rw [if_neg h]
    split
    · rfl
    · rename_i q
      exact Int32.le_antisymm (Int32.not_lt.mp h) (Int32.not_lt.mp q)
theorem gm_why_f {s bl : Int32} {h : Nat → Int32} {a b : Nat} : gm_why s h bl a b = if a = b then nI 1 else if gm_sees h a b = false then nI 2 else if bl < gm_price s h a b then nI 3 else nI 0 := rfl
set_option maxHeartbeats 2000000 in
set_option maxRecDepth 20000 in
theorem X6_strideReason_ok {d : Nat} {μ : ev_M} {a t : Nat} (h9 : μ 14 9 = nI a) (ha : a < 10 := by omega) (ht : t < 10 := by omega) (hd : 3 ≤ d := by omega) : ev_CALL d 121 [.ref 14, .int (nI t)] μ (some (.int (gm_why (μ 15 1) (fun k => μ 15 (11 + k)) (μ 14 11) a t)), 0) μ := by
  obtain ⟨d, rfl⟩ : ∃ q, d = q + 1 := ⟨d - 1, by omega⟩
  refine SPp.of (Nat.le_of_ble_eq_true rfl) ?_
  show es (ev_CALL d) 6 cX6_strideReason (some .int) 0 (0, fun _ => 0, []) (fun r μ2 => r = (some (.int (gm_why (μ 15 1) (fun k => μ 15 (11 + k)) (μ 14 11) a t)), 0) ∧ μ2 = μ) 0 [.ref 14, .int (nI t)] [] μ 0
  refine es_aload_n (pc := 0) dX6_strideReason_0 rfl ?_
  refine es_getI (pc := 1) dX6_strideReason_1 fr_6_67 fld_14_9 ?_
  refine es_top h9 ?_
  refine es_iload_n (pc := 4) dX6_strideReason_4 rfl ?_
  refine es_icmp_neN (pc := 5) 12 dX6_strideReason_5 (by decide) (by omega) (by omega) (fun c5 => ?_) (fun c5 => ?_)
  · refine es_aload_n (pc := 12) dX6_strideReason_12 rfl ?_
    refine es_aload_n (pc := 13) dX6_strideReason_13 rfl ?_
    refine es_getI (pc := 14) dX6_strideReason_14 fr_6_67 fld_14_9 ?_
    refine es_top h9 ?_
    refine es_iload_n (pc := 17) dX6_strideReason_17 rfl ?_
    refine es_cv2_p (pc := 18) dX6_strideReason_18 mr_6_59 rfl rfl (by decide) (by decide) rfl (Nat.le_of_ble_eq_true rfl) (Nat.zero_le _) (X6_sees_ok) ?_
    refine es_if_neB (pc := 21) 28 dX6_strideReason_21 (by decide) (fun c21 => ?_) (fun c21 => ?_)
    · refine es_aload_n (pc := 28) dX6_strideReason_28 rfl ?_
      refine es_aload_n (pc := 29) dX6_strideReason_29 rfl ?_
      refine es_getI (pc := 30) dX6_strideReason_30 fr_6_67 fld_14_9 ?_
      refine es_top h9 ?_
      refine es_iload_n (pc := 33) dX6_strideReason_33 rfl ?_
      refine es_cv2_p (pc := 34) dX6_strideReason_34 mr_6_76 rfl rfl (by decide) (by decide) rfl (Nat.le_of_ble_eq_true rfl) (Nat.zero_le _) (X6_strideOf_ok) ?_
      refine es_aload_n (pc := 37) dX6_strideReason_37 rfl ?_
      refine es_getI (pc := 38) dX6_strideReason_38 fr_6_73 fld_14_11 ?_
      refine es_icmp_le (pc := 41) (tgt := 48) dX6_strideReason_41 (by decide) (fun c41 => ?_) (fun c41 => ?_)
      · refine es_iconstN (pc := 48) 0 dX6_strideReason_48 ic_0 ?_
        refine es_ireturn (pc := 49) dX6_strideReason_49 rfl (vp_nar_int _) (by decide) ?_
        exact ⟨vI (by rw [gm_why, if_neg (by omega), if_neg (by simp [c21]), if_neg (Int32.not_lt.mpr c41)]), rfl⟩
      · refine es_iconstN (pc := 44) 3 dX6_strideReason_44 ic_3 ?_
        refine es_goto (pc := 45) (tgt := 49) dX6_strideReason_45 (by decide) ?_
        refine es_ireturn (pc := 49) dX6_strideReason_49 rfl (vp_nar_int _) (by decide) ?_
        exact ⟨vI (by rw [gm_why, if_neg (by omega), if_neg (by simp [c21]), if_pos (Int32.not_le.mp c41)]), rfl⟩
    · refine es_iconstN (pc := 24) 2 dX6_strideReason_24 ic_2 ?_
      refine es_goto (pc := 25) (tgt := 49) dX6_strideReason_25 (by decide) ?_
      refine es_ireturn (pc := 49) dX6_strideReason_49 rfl (vp_nar_int _) (by decide) ?_
      exact ⟨vI (by rw [gm_why, if_neg (by omega), if_pos c21]), rfl⟩
  · refine es_iconstN (pc := 8) 1 dX6_strideReason_8 ic_1 ?_
    refine es_goto (pc := 9) (tgt := 49) dX6_strideReason_9 (by decide) ?_
    refine es_ireturn (pc := 49) dX6_strideReason_49 rfl (vp_nar_int _) (by decide) ?_
    exact ⟨vI (by rw [gm_why, if_pos (by omega)]), rfl⟩
set_option maxHeartbeats 2000000 in
set_option maxRecDepth 20000 in
theorem X6_strides_ok {d : Nat} {μ : ev_M} {a t : Nat} {x y : Int32} {ly : Nat → Int32} (hG : RG μ a x y ly) (ha : a < 10 := by omega) (ht : t < 10 := by omega) (hd : 3 ≤ d := by omega) : SPv (ev_CALL d) 126 [.ref 14, .int (nI t)] μ (fun μ2 => RG μ2 t (x + upd ly a (ly a + gm_price (μ 15 1) (fun k => μ 15 (11 + k)) a t) t) (y - gm_price (μ 15 1) (fun k => μ 15 (11 + k)) a t) (upd (upd ly a (ly a + gm_price (μ 15 1) (fun k => μ 15 (11 + k)) a t)) t (nI 0)) ∧ FG μ μ2) := by
  obtain ⟨d, rfl⟩ : ∃ q, d = q + 1 := ⟨d - 1, by omega⟩
  refine SPv.of (Nat.le_of_ble_eq_true rfl) ?_
  show es (ev_CALL d) 6 cX6_strides none 0 (0, fun _ => 0, []) (fun r μ2 => r = (none, 0) ∧ (fun μ2 => RG μ2 t (x + upd ly a (ly a + gm_price (μ 15 1) (fun k => μ 15 (11 + k)) a t) t) (y - gm_price (μ 15 1) (fun k => μ 15 (11 + k)) a t) (upd (upd ly a (ly a + gm_price (μ 15 1) (fun k => μ 15 (11 + k)) a t)) t (nI 0)) ∧ FG μ μ2) μ2) 0 [.ref 14, .int (nI t), .null] [] μ 0
  refine es_aload_n (pc := 0) dX6_strides_0 rfl ?_
  refine es_aload_n (pc := 1) dX6_strides_1 rfl ?_
  refine es_getI (pc := 2) dX6_strides_2 fr_6_67 fld_14_9 ?_
  refine es_top hG.1 ?_
  refine es_iload_n (pc := 5) dX6_strides_5 rfl ?_
  refine es_cv2_p (pc := 6) dX6_strides_6 mr_6_76 rfl rfl (by decide) (by decide) rfl (Nat.le_of_ble_eq_true rfl) (Nat.zero_le _) (X6_strideOf_ok) ?_
  refine es_istore_n (pc := 9) dX6_strides_9 (ok1_2 rfl) ?_
  refine es_aload_n (pc := 10) dX6_strides_10 rfl ?_
  refine es_dup (pc := 11) dX6_strides_11 rfl ?_
  refine es_getI (pc := 12) dX6_strides_12 fr_6_73 fld_14_11 ?_
  refine es_iload_n (pc := 15) dX6_strides_15 rfl ?_
  refine es_isub (pc := 16) dX6_strides_16 ?_
  refine es_putI (pc := 17) dX6_strides_17 fr_6_73 fld_14_11 ?_
  refine es_aload_n (pc := 20) dX6_strides_20 rfl ?_
  refine es_getR (pc := 21) dX6_strides_21 fr_6_29 fld_14_12 ?_
  refine es_aload_n (pc := 24) dX6_strides_24 rfl ?_
  refine es_getI (pc := 25) dX6_strides_25 fr_6_67 fld_14_9 ?_
  refine es_top (by simp [ms_full]; exact hG.1) ?_
  refine es_dup2 (pc := 28) dX6_strides_28 rfl rfl ?_
  refine es_iald (pc := 29) dX6_strides_29 lay_21 (by omega) ?_
  refine es_iload_n (pc := 30) dX6_strides_30 rfl ?_
  refine es_iadd (pc := 31) dX6_strides_31 ?_
  refine es_iast (pc := 32) dX6_strides_32 lay_21 (by omega) ?_
  refine es_aload_n (pc := 33) dX6_strides_33 rfl ?_
  refine es_iload_n (pc := 34) dX6_strides_34 rfl ?_
  refine es_putI (pc := 35) dX6_strides_35 fr_6_67 fld_14_9 ?_
  refine es_aload_n (pc := 38) dX6_strides_38 rfl ?_
  refine es_dup (pc := 39) dX6_strides_39 rfl ?_
  refine es_getI (pc := 40) dX6_strides_40 fr_6_70 fld_14_10 ?_
  refine es_aload_n (pc := 43) dX6_strides_43 rfl ?_
  refine es_getR (pc := 44) dX6_strides_44 fr_6_29 fld_14_12 ?_
  refine es_iload_n (pc := 47) dX6_strides_47 rfl ?_
  refine es_iald (pc := 48) dX6_strides_48 lay_21 (by omega) ?_
  refine es_iadd (pc := 49) dX6_strides_49 ?_
  refine es_putI (pc := 50) dX6_strides_50 fr_6_70 fld_14_10 ?_
  refine es_aload_n (pc := 53) dX6_strides_53 rfl ?_
  refine es_getR (pc := 54) dX6_strides_54 fr_6_29 fld_14_12 ?_
  refine es_iload_n (pc := 57) dX6_strides_57 rfl ?_
  refine es_iconstN (pc := 58) 0 dX6_strides_58 ic_0 ?_
  refine es_iast (pc := 59) dX6_strides_59 lay_21 (by omega) ?_
  refine es_vreturn (pc := 60) dX6_strides_60 rfl (by decide) ?_
  obtain ⟨e1, e2, e3, e4⟩ := hG
  refine ⟨rfl, ⟨?_, ?_, ?_, fun k hk => ?_⟩, ?_⟩
  · simp [ms_full]
  · simp [ms_full, upd, e2, e4 t ht, e4 a ha]
  · simp [ms_full, e3]
  · simp [ms_full, upd, e4 k hk, e4 a ha]
    try (split <;> simp_all)
  · exact ((((FG.rf.w14 (by omega)).w21).w14 (by omega)).w14 (by omega)).w21
set_option maxHeartbeats 2000000 in
set_option maxRecDepth 20000 in
theorem X6_turns_ok {d : Nat} {μ : ev_M} {a : Nat} {x y : Int32} {ly : Nat → Int32} (hG : RG μ a x y ly) (ha : a < 10 := by omega) (hd : 1 ≤ d := by omega) : SPv (ev_CALL d) 129 [.ref 14] μ (fun μ2 => RG μ2 a (y - μ 15 2) x (upd ly a (ly a + μ 15 2)) ∧ FG μ μ2) := by
  obtain ⟨d, rfl⟩ : ∃ q, d = q + 1 := ⟨d - 1, by omega⟩
  refine SPv.of (Nat.le_of_ble_eq_true rfl) ?_
  show es (ev_CALL d) 6 cX6_turns none 0 (0, fun _ => 0, []) (fun r μ2 => r = (none, 0) ∧ (fun μ2 => RG μ2 a (y - μ 15 2) x (upd ly a (ly a + μ 15 2)) ∧ FG μ μ2) μ2) 0 [.ref 14, .null] [] μ 0
  refine es_aload_n (pc := 0) dX6_turns_0 rfl ?_
  refine es_dup (pc := 1) dX6_turns_1 rfl ?_
  refine es_getI (pc := 2) dX6_turns_2 fr_6_73 fld_14_11 ?_
  refine es_aload_n (pc := 5) dX6_turns_5 rfl ?_
  refine es_getR (pc := 6) dX6_turns_6 fr_6_7 fld_14_0 ?_
  refine es_iconstN (pc := 9) 2 dX6_turns_9 ic_2 ?_
  refine es_iald (pc := 10) dX6_turns_10 lay_15 (by omega) ?_
  refine es_isub (pc := 11) dX6_turns_11 ?_
  refine es_putI (pc := 12) dX6_turns_12 fr_6_73 fld_14_11 ?_
  refine es_aload_n (pc := 15) dX6_turns_15 rfl ?_
  refine es_getR (pc := 16) dX6_turns_16 fr_6_29 fld_14_12 ?_
  refine es_aload_n (pc := 19) dX6_turns_19 rfl ?_
  refine es_getI (pc := 20) dX6_turns_20 fr_6_67 fld_14_9 ?_
  refine es_top (by simp [ms_full]; exact hG.1) ?_
  refine es_dup2 (pc := 23) dX6_turns_23 rfl rfl ?_
  refine es_iald (pc := 24) dX6_turns_24 lay_21 (by omega) ?_
  refine es_aload_n (pc := 25) dX6_turns_25 rfl ?_
  refine es_getR (pc := 26) dX6_turns_26 fr_6_7 fld_14_0 ?_
  refine es_iconstN (pc := 29) 2 dX6_turns_29 ic_2 ?_
  refine es_iald (pc := 30) dX6_turns_30 lay_15 (by omega) ?_
  refine es_iadd (pc := 31) dX6_turns_31 ?_
  refine es_iast (pc := 32) dX6_turns_32 lay_21 (by omega) ?_
  refine es_aload_n (pc := 33) dX6_turns_33 rfl ?_
  refine es_getI (pc := 34) dX6_turns_34 fr_6_70 fld_14_10 ?_
  refine es_istore_n (pc := 37) dX6_turns_37 (ok1_1 rfl) ?_
  refine es_aload_n (pc := 38) dX6_turns_38 rfl ?_
  refine es_aload_n (pc := 39) dX6_turns_39 rfl ?_
  refine es_getI (pc := 40) dX6_turns_40 fr_6_73 fld_14_11 ?_
  refine es_putI (pc := 43) dX6_turns_43 fr_6_70 fld_14_10 ?_
  refine es_aload_n (pc := 46) dX6_turns_46 rfl ?_
  refine es_iload_n (pc := 47) dX6_turns_47 rfl ?_
  refine es_putI (pc := 48) dX6_turns_48 fr_6_73 fld_14_11 ?_
  refine es_vreturn (pc := 51) dX6_turns_51 rfl (by decide) ?_
  obtain ⟨e1, e2, e3, e4⟩ := hG
  refine ⟨rfl, ⟨?_, ?_, ?_, fun k hk => ?_⟩, ?_⟩
  · simp [ms_full, e1]
  · simp [ms_full, e3]
  · simp [ms_full, e2]
  · simp [ms_full, upd, e4 k hk, e4 a ha]
  · exact (((FG.rf.w14 (by omega)).w21).w14 (by omega)).w14 (by omega)
set_option maxHeartbeats 2000000 in
set_option maxRecDepth 20000 in
theorem X6_runs_ok {d : Nat} {μ : ev_M} {a : Nat} {x y : Int32} {ly : Nat → Int32} (hG : RG μ a x y ly) (hd : 1 ≤ d := by omega) : SPi (ev_CALL d) 116 [.ref 14] μ (fun g μ2 => g = wk_g (μ 15 0) x ∧ RG μ2 a (x - wk_g (μ 15 0) x) (y + wk_g (μ 15 0) x) ly ∧ FG μ μ2) := by
  obtain ⟨d, rfl⟩ : ∃ q, d = q + 1 := ⟨d - 1, by omega⟩
  refine SPi.of (Nat.le_of_ble_eq_true rfl) ?_
  show es (ev_CALL d) 6 cX6_runs (some .int) 0 (0, fun _ => 0, []) (fun r μ2 => ∃ x9 : Int32, r = (some (.int x9), 0) ∧ (fun g μ2 => g = wk_g (μ 15 0) x ∧ RG μ2 a (x - wk_g (μ 15 0) x) (y + wk_g (μ 15 0) x) ly ∧ FG μ μ2) x9 μ2) 0 [.ref 14, .null] [] μ 0
  refine es_aload_n (pc := 0) dX6_runs_0 rfl ?_
  refine es_getR (pc := 1) dX6_runs_1 fr_6_7 fld_14_0 ?_
  refine es_iconstN (pc := 4) 0 dX6_runs_4 ic_0 ?_
  refine es_iald (pc := 5) dX6_runs_5 lay_15 (by omega) ?_
  refine es_aload_n (pc := 6) dX6_runs_6 rfl ?_
  refine es_getI (pc := 7) dX6_runs_7 fr_6_70 fld_14_10 ?_
  refine es_icmp_ge (pc := 10) (tgt := 22) dX6_runs_10 (by decide) (fun c10 => ?_) (fun c10 => ?_)
  · refine es_aload_n (pc := 22) dX6_runs_22 rfl ?_
    refine es_getI (pc := 23) dX6_runs_23 fr_6_70 fld_14_10 ?_
    refine es_top (show _ = wk_g (μ 15 0) x by rw [← wk_g_c, ← hG.2.1, if_neg (Int32.not_lt.mpr c10)]) ?_
    refine es_istore_n (pc := 26) dX6_runs_26 (ok1_1 rfl) ?_
    refine es_aload_n (pc := 27) dX6_runs_27 rfl ?_
    refine es_dup (pc := 28) dX6_runs_28 rfl ?_
    refine es_getI (pc := 29) dX6_runs_29 fr_6_70 fld_14_10 ?_
    refine es_iload_n (pc := 32) dX6_runs_32 rfl ?_
    refine es_isub (pc := 33) dX6_runs_33 ?_
    refine es_putI (pc := 34) dX6_runs_34 fr_6_70 fld_14_10 ?_
    refine es_aload_n (pc := 37) dX6_runs_37 rfl ?_
    refine es_dup (pc := 38) dX6_runs_38 rfl ?_
    refine es_getI (pc := 39) dX6_runs_39 fr_6_73 fld_14_11 ?_
    refine es_iload_n (pc := 42) dX6_runs_42 rfl ?_
    refine es_iadd (pc := 43) dX6_runs_43 ?_
    refine es_putI (pc := 44) dX6_runs_44 fr_6_73 fld_14_11 ?_
    refine es_iload_n (pc := 47) dX6_runs_47 rfl ?_
    refine es_ireturn (pc := 48) dX6_runs_48 rfl (vp_nar_int _) (by decide) ?_
    obtain ⟨e1, e2, e3, e4⟩ := hG
    refine ⟨_, rfl, rfl, ⟨?_, ?_, ?_, fun k hk => ?_⟩, ?_⟩
    · simp [ms_full, e1]
    · simp [ms_full, e2]
    · simp [ms_full, e3]
    · simp [ms_full, e4 k hk]
    · exact (FG.rf.w14 (by omega)).w14 (by omega)
  · refine es_aload_n (pc := 13) dX6_runs_13 rfl ?_
    refine es_getR (pc := 14) dX6_runs_14 fr_6_7 fld_14_0 ?_
    refine es_iconstN (pc := 17) 0 dX6_runs_17 ic_0 ?_
    refine es_iald (pc := 18) dX6_runs_18 lay_15 (by omega) ?_
    refine es_goto (pc := 19) (tgt := 26) dX6_runs_19 (by decide) ?_
    refine es_top (show _ = wk_g (μ 15 0) x by rw [← wk_g_c, ← hG.2.1, if_pos (Int32.not_le.mp c10)]) ?_
    refine es_istore_n (pc := 26) dX6_runs_26 (ok1_1 rfl) ?_
    refine es_aload_n (pc := 27) dX6_runs_27 rfl ?_
    refine es_dup (pc := 28) dX6_runs_28 rfl ?_
    refine es_getI (pc := 29) dX6_runs_29 fr_6_70 fld_14_10 ?_
    refine es_iload_n (pc := 32) dX6_runs_32 rfl ?_
    refine es_isub (pc := 33) dX6_runs_33 ?_
    refine es_putI (pc := 34) dX6_runs_34 fr_6_70 fld_14_10 ?_
    refine es_aload_n (pc := 37) dX6_runs_37 rfl ?_
    refine es_dup (pc := 38) dX6_runs_38 rfl ?_
    refine es_getI (pc := 39) dX6_runs_39 fr_6_73 fld_14_11 ?_
    refine es_iload_n (pc := 42) dX6_runs_42 rfl ?_
    refine es_iadd (pc := 43) dX6_runs_43 ?_
    refine es_putI (pc := 44) dX6_runs_44 fr_6_73 fld_14_11 ?_
    refine es_iload_n (pc := 47) dX6_runs_47 rfl ?_
    refine es_ireturn (pc := 48) dX6_runs_48 rfl (vp_nar_int _) (by decide) ?_
    obtain ⟨e1, e2, e3, e4⟩ := hG
    refine ⟨_, rfl, rfl, ⟨?_, ?_, ?_, fun k hk => ?_⟩, ?_⟩
    · simp [ms_full, e1]
    · simp [ms_full, e2]
    · simp [ms_full, e3]
    · simp [ms_full, e4 k hk]
    · exact (FG.rf.w14 (by omega)).w14 (by omega)
set_option maxHeartbeats 2000000 in
set_option maxRecDepth 20000 in
theorem X6_put_ok {d : Nat} {μ : ev_M} {p a : Nat} {x y : Int32} {ly : Nat → Int32} (hG : RG μ a x y ly) (hp : p < 4 := by omega) (hd : 1 ≤ d := by omega) : SPv (ev_CALL d) 117 [.ref 14, .int (nI p)] μ (fun μ2 => mR μ2 = rput (mR μ) p a x y ly ∧ FH μ μ2 ∧ RG μ2 a x y ly) := by
  obtain ⟨d, rfl⟩ : ∃ q, d = q + 1 := ⟨d - 1, by omega⟩
  refine SPv.of (Nat.le_of_ble_eq_true rfl) ?_
  show es (ev_CALL d) 6 cX6_put none 0 (0, fun _ => 0, []) (fun r μ2 => r = (none, 0) ∧ (fun μ2 => mR μ2 = rput (mR μ) p a x y ly ∧ FH μ μ2 ∧ RG μ2 a x y ly) μ2) 0 [.ref 14, .int (nI p), .null] [] μ 0
  refine es_aload_n (pc := 0) dX6_put_0 rfl ?_
  refine es_getR (pc := 1) dX6_put_1 fr_6_7 fld_14_0 ?_
  refine es_bipushN (pc := 4) 31 dX6_put_4 bp_31 ?_
  refine es_bipushN (pc := 6) 7 dX6_put_6 bp_7 ?_
  refine es_iload_n (pc := 8) dX6_put_8 rfl ?_
  refine es_imulN (pc := 9) dX6_put_9 ?_
  refine es_iaddN (pc := 10) dX6_put_10 ?_
  refine es_iconstN (pc := 11) 0 dX6_put_11 ic_0 ?_
  refine es_iaddN (pc := 12) dX6_put_12 ?_
  refine es_aload_n (pc := 13) dX6_put_13 rfl ?_
  refine es_getI (pc := 14) dX6_put_14 fr_6_67 fld_14_9 ?_
  refine es_top hG.1 ?_
  refine es_iast (pc := 17) dX6_put_17 lay_15 (by omega) ?_
  refine es_aload_n (pc := 18) dX6_put_18 rfl ?_
  refine es_getR (pc := 19) dX6_put_19 fr_6_7 fld_14_0 ?_
  refine es_bipushN (pc := 22) 31 dX6_put_22 bp_31 ?_
  refine es_bipushN (pc := 24) 7 dX6_put_24 bp_7 ?_
  refine es_iload_n (pc := 26) dX6_put_26 rfl ?_
  refine es_imulN (pc := 27) dX6_put_27 ?_
  refine es_iaddN (pc := 28) dX6_put_28 ?_
  refine es_iconstN (pc := 29) 1 dX6_put_29 ic_1 ?_
  refine es_iaddN (pc := 30) dX6_put_30 ?_
  refine es_aload_n (pc := 31) dX6_put_31 rfl ?_
  refine es_getI (pc := 32) dX6_put_32 fr_6_70 fld_14_10 ?_
  refine es_top (show _ = x by rw [ms_ne (by decide)]; exact hG.2.1) ?_
  refine es_iast (pc := 35) dX6_put_35 lay_15 (by omega) ?_
  refine es_aload_n (pc := 36) dX6_put_36 rfl ?_
  refine es_getR (pc := 37) dX6_put_37 fr_6_7 fld_14_0 ?_
  refine es_bipushN (pc := 40) 31 dX6_put_40 bp_31 ?_
  refine es_bipushN (pc := 42) 7 dX6_put_42 bp_7 ?_
  refine es_iload_n (pc := 44) dX6_put_44 rfl ?_
  refine es_imulN (pc := 45) dX6_put_45 ?_
  refine es_iaddN (pc := 46) dX6_put_46 ?_
  refine es_iconstN (pc := 47) 2 dX6_put_47 ic_2 ?_
  refine es_iaddN (pc := 48) dX6_put_48 ?_
  refine es_aload_n (pc := 49) dX6_put_49 rfl ?_
  refine es_getI (pc := 50) dX6_put_50 fr_6_73 fld_14_11 ?_
  refine es_top (show _ = y by rw [ms_ne (by decide), ms_ne (by decide)]; exact hG.2.2.1) ?_
  refine es_iast (pc := 53) dX6_put_53 lay_15 (by omega) ?_
  have hl56 : ∀ (n9 : Nat) (ν : ev_M) (k : Nat), n9 = 10 - k → (k ≤ 10) → (mR ν = fun j => if 21 ≤ j ∧ j < 21 + k then ly (j - 21) else (upd (upd (upd (mR μ) (31 + 7 * p) (nI a)) (31 + 7 * p + 1) x) (31 + 7 * p + 2) y) j) → (FH μ ν) → (RG ν a x y ly) → es (ev_CALL d) 6 cX6_put none 0 (0, fun _ => 0, []) (fun r μ2 => r = (none, 0) ∧ (fun μ2 => mR μ2 = rput (mR μ) p a x y ly ∧ FH μ μ2 ∧ RG μ2 a x y ly) μ2) 56 [.ref 14, .int (nI p), .int (nI k)] [] ν 0 := by
    intro n9
    induction n9 using Nat.strongRecOn with
    | ind n9 ih56 =>
      intro ν k hn9 hk h1 h2 h3
      subst hn9
      have ih := ih56
      refine es_iload_n (pc := 56) dX6_put_56 rfl ?_
      refine es_bipushN (pc := 57) 10 dX6_put_57 bp_10 ?_
      refine es_icmp_geN (pc := 59) 83 dX6_put_59 (by decide) (by omega) (by omega) (fun c59 => ?_) (fun c59 => ?_)
      · refine es_vreturn (pc := 83) dX6_put_83 rfl (by decide) ?_
        refine ⟨rfl, ?_, h2, h3⟩
        rw [h1, show k = 10 by omega]
        rfl
      · refine es_aload_n (pc := 62) dX6_put_62 rfl ?_
        refine es_getR (pc := 63) dX6_put_63 fr_6_7 fld_14_0 ?_
        refine es_bipushN (pc := 66) 21 dX6_put_66 bp_21 ?_
        refine es_iload_n (pc := 68) dX6_put_68 rfl ?_
        refine es_iaddN (pc := 69) dX6_put_69 ?_
        refine es_aload_n (pc := 70) dX6_put_70 rfl ?_
        refine es_getR (pc := 71) dX6_put_71 fr_6_29 fld_14_12 ?_
        refine es_iload_n (pc := 74) dX6_put_74 rfl ?_
        refine es_iald (pc := 75) dX6_put_75 lay_21 (by omega) ?_
        refine es_iast (pc := 76) dX6_put_76 lay_15 (by omega) ?_
        refine es_iincN (pc := 77) 1 dX6_put_77 ic_1 rfl (ok1_2 rfl) ?_
        refine es_goto (pc := 80) (tgt := 56) dX6_put_80 (by decide) ?_
        refine ih56 _ (by omega) _ (k + 1) rfl (by omega) ?_ h2.w h3.w15
        rw [mR_w (by omega), h1, h3.2.2.2 k (by omega)]
        funext j
        show (if j = 21 + k then ly k else (if 21 ≤ j ∧ j < 21 + k then ly (j - 21) else (upd (upd (upd (mR μ) (31 + 7 * p) (nI a)) (31 + 7 * p + 1) x) (31 + 7 * p + 2) y) j)) = (if 21 ≤ j ∧ j < 21 + (k + 1) then ly (j - 21) else (upd (upd (upd (mR μ) (31 + 7 * p) (nI a)) (31 + 7 * p + 1) x) (31 + 7 * p + 2) y) j)
        by_cases e : j = 21 + k
        · rw [if_pos e, if_pos (by omega), show j - 21 = k by omega]
        · rw [if_neg e]
          by_cases e9 : 21 ≤ j ∧ j < 21 + k
          · rw [if_pos e9, if_pos (by omega)]
          · rw [if_neg e9, if_neg (by omega)]
  refine es_iconstN (pc := 54) 0 dX6_put_54 ic_0 ?_
  refine es_istore_n (pc := 55) dX6_put_55 (ok1_2 rfl) ?_
  refine hl56 _ _ 0 rfl (by omega) ?_ FH.rf.w.w.w (RG.w15 (RG.w15 (RG.w15 hG)))
  rw [mR_w (by omega), mR_w (by omega), mR_w (by omega)]
  funext j
  exact (if_neg (by omega)).symm
theorem rem_on {on P : Nat} (h : on < P) : (on + 1) % P = if on + 1 < P then on + 1 else 0 := by
  split
  · exact Nat.mod_eq_of_lt (by omega)
  · rw [show on + 1 = P by omega, Nat.mod_self]
set_option maxHeartbeats 2000000 in
set_option maxRecDepth 20000 in
theorem X6_ends_ok {d : Nat} {μ : ev_M} {P on a : Nat} {x y : Int32} {ly : Nat → Int32} (hP : μ 15 4 = nI P) (hon : μ 15 5 = nI on) (hG : RG μ a x y ly) (hP4 : P ≤ 4 := by omega) (ho4 : on < P := by omega) (hd : 2 ≤ d := by omega) : SPi (ev_CALL d) 115 [.ref 14] μ (fun g μ2 => g = wk_g (μ 15 0) x ∧ mR μ2 = rends (mR μ) P on a x y ly ∧ FH μ μ2) := by
  obtain ⟨d, rfl⟩ : ∃ q, d = q + 1 := ⟨d - 1, by omega⟩
  refine SPi.of (Nat.le_of_ble_eq_true rfl) ?_
  show es (ev_CALL d) 6 cX6_ends (some .int) 0 (0, fun _ => 0, []) (fun r μ2 => ∃ x9 : Int32, r = (some (.int x9), 0) ∧ (fun g μ2 => g = wk_g (μ 15 0) x ∧ mR μ2 = rends (mR μ) P on a x y ly ∧ FH μ μ2) x9 μ2) 0 [.ref 14, .null, .null] [] μ 0
  refine es_aload_n (pc := 0) dX6_ends_0 rfl ?_
  refine es_getR (pc := 1) dX6_ends_1 fr_6_7 fld_14_0 ?_
  refine es_iconstN (pc := 4) 5 dX6_ends_4 ic_5 ?_
  refine es_iald (pc := 5) dX6_ends_5 lay_15 (by omega) ?_
  refine es_top (hon) ?_
  refine es_istore_n (pc := 6) dX6_ends_6 (ok1_1 rfl) ?_
  refine es_aload_n (pc := 7) dX6_ends_7 rfl ?_
  refine es_cv0_i (pc := 8) dX6_ends_8 mr_6_79 rfl rfl (by decide) (by decide) rfl (Nat.le_of_ble_eq_true rfl) (Nat.zero_le _) (X6_runs_ok hG) (fun x8 μ8 h8 => ?_)
  obtain ⟨g1, g2, g3⟩ := h8
  refine es_istore_n (pc := 11) dX6_ends_11 (ok1_2 rfl) ?_
  refine es_aload_n (pc := 12) dX6_ends_12 rfl ?_
  refine es_iload_n (pc := 13) dX6_ends_13 rfl ?_
  refine es_cv1_v (pc := 14) dX6_ends_14 mr_6_83 rfl rfl (by decide) (by decide) rfl (Nat.le_of_ble_eq_true rfl) (Nat.zero_le _) (X6_put_ok g2) (fun μ14 h14 => ?_)
  obtain ⟨p1, p2, p3⟩ := h14
  refine es_aload_n (pc := 17) dX6_ends_17 rfl ?_
  refine es_iload_n (pc := 18) dX6_ends_18 rfl ?_
  refine es_iconstN (pc := 19) 3 dX6_ends_19 ic_3 ?_
  refine es_iconstN (pc := 20) 1 dX6_ends_20 ic_1 ?_
  refine es_cv3_v (pc := 21) dX6_ends_21 mr_6_87 rfl rfl (by decide) (by decide) rfl (Nat.le_of_ble_eq_true rfl) (Nat.zero_le _) (X6_more_ok) (fun μ21 h21 => ?_)
  subst h21
  have q1 : mR μ14 = rput (mR μ) on a (x - wk_g (μ 15 0) x) (y + wk_g (μ 15 0) x) ly := by rw [p1, g3.row]
  have hP14 : μ14 15 4 = nI P := (mR_r (μ := μ14) (j := 4) (by decide)).symm.trans (by rw [q1, rput_o (by omega), mR_r (by decide), hP])
  have hP9 : ∀ j z w, j ≠ 4 → 31 + 7 * on + 3 ≠ 4 → ev_ms (ev_ms μ14 15 (31 + 7 * on + 3) z) 15 j w 15 4 = nI P := fun j z w h8 h9 => by rw [ms_at, if_neg (Ne.symm h8), ms_at, if_neg (Ne.symm h9), hP14]
  refine es_aload_n (pc := 24) dX6_ends_24 rfl ?_
  refine es_getR (pc := 25) dX6_ends_25 fr_6_7 fld_14_0 ?_
  refine es_bipushN (pc := 28) 7 dX6_ends_28 bp_7 ?_
  refine es_dup2 (pc := 30) dX6_ends_30 rfl rfl ?_
  refine es_iald (pc := 31) dX6_ends_31 lay_15 (by omega) ?_
  refine es_iconstN (pc := 32) 1 dX6_ends_32 ic_1 ?_
  refine es_iadd (pc := 33) dX6_ends_33 ?_
  refine es_iast (pc := 34) dX6_ends_34 lay_15 (by omega) ?_
  refine es_aload_n (pc := 35) dX6_ends_35 rfl ?_
  refine es_getR (pc := 36) dX6_ends_36 fr_6_7 fld_14_0 ?_
  refine es_iconstN (pc := 39) 5 dX6_ends_39 ic_5 ?_
  refine es_iload_n (pc := 40) dX6_ends_40 rfl ?_
  refine es_iconstN (pc := 41) 1 dX6_ends_41 ic_1 ?_
  refine es_iaddN (pc := 42) dX6_ends_42 ?_
  refine es_aload_n (pc := 43) dX6_ends_43 rfl ?_
  refine es_getR (pc := 44) dX6_ends_44 fr_6_7 fld_14_0 ?_
  refine es_iconstN (pc := 47) 4 dX6_ends_47 ic_4 ?_
  refine es_iald (pc := 48) dX6_ends_48 lay_15 (by omega) ?_
  refine es_top ((by rw [ms_at, if_neg (by omega), ms_at, if_neg (by omega), hP14])) ?_
  refine es_iremN (pc := 49) dX6_ends_49 (by omega) (by omega) (by omega) ?_
  refine es_iast (pc := 50) dX6_ends_50 lay_15 (by omega) ?_
  refine es_iload_n (pc := 51) dX6_ends_51 rfl ?_
  refine es_ireturn (pc := 52) dX6_ends_52 rfl (vp_nar_int _) (by decide) ?_
  refine ⟨_, rfl, g1, ?_, ?_⟩
  · rw [rem_on ho4, mR_w (by omega), mR_w (by omega), mR_w (by omega), q1, rends, mR_r (by omega)]
    have a1 : μ14 15 (31 + 7 * on + 3) = μ 15 (31 + 7 * on + 3) := (mR_r (μ := μ14) (by omega)).symm.trans (by rw [q1, rput_o (by omega), mR_r (by omega)])
    have a2 : ∀ z, ev_ms μ14 15 (31 + 7 * on + 3) z 15 7 = μ 15 7 := fun z => by rw [ms_at, if_neg (by omega)]; exact (mR_r (μ := μ14) (j := 7) (by omega)).symm.trans (by rw [q1, rput_o (by omega), mR_r (by omega)])
    rw [a1, a2, mR_r (by omega), mR_r (by omega)]
  · exact (g3.h.tr p2).w.w.w
set_option maxHeartbeats 2000000 in
set_option maxRecDepth 20000 in
theorem X6_refuses_ok {d : Nat} {μ : ev_M} {x : Int32} (hd : 1 ≤ d := by omega) : SPi (ev_CALL d) 125 [.ref 14, .int x] μ (fun y μ2 => y = x ∧ μ2 = ev_ms μ 15 8 (μ 15 8 + nI 1)) := by
  obtain ⟨d, rfl⟩ : ∃ q, d = q + 1 := ⟨d - 1, by omega⟩
  refine SPi.of (Nat.le_of_ble_eq_true rfl) ?_
  show es (ev_CALL d) 6 cX6_refuses (some .int) 0 (0, fun _ => 0, []) (fun r μ2 => ∃ x9 : Int32, r = (some (.int x9), 0) ∧ (fun y μ2 => y = x ∧ μ2 = ev_ms μ 15 8 (μ 15 8 + nI 1)) x9 μ2) 0 [.ref 14, .int x] [] μ 0
  refine es_aload_n (pc := 0) dX6_refuses_0 rfl ?_
  refine es_getR (pc := 1) dX6_refuses_1 fr_6_7 fld_14_0 ?_
  refine es_bipushN (pc := 4) 8 dX6_refuses_4 bp_8 ?_
  refine es_dup2 (pc := 6) dX6_refuses_6 rfl rfl ?_
  refine es_iald (pc := 7) dX6_refuses_7 lay_15 (by omega) ?_
  refine es_iconstN (pc := 8) 1 dX6_refuses_8 ic_1 ?_
  refine es_iadd (pc := 9) dX6_refuses_9 ?_
  refine es_iast (pc := 10) dX6_refuses_10 lay_15 (by omega) ?_
  refine es_iload_n (pc := 11) dX6_refuses_11 rfl ?_
  refine es_ireturn (pc := 12) dX6_refuses_12 rfl (vp_nar_int _) (by decide) ?_
  exact ⟨_, rfl, rfl, rfl⟩
set_option maxHeartbeats 2000000 in
set_option maxRecDepth 20000 in
theorem X6_tagReason_ok {d : Nat} {μ : ev_M} {p q it a b : Nat} (hit : μ 15 6 = nI it) (hpa : μ 15 (31 + 7 * p) = nI a) (hqb : μ 15 (31 + 7 * q) = nI b) (hp : p < 4 := by omega) (hq : q < 4 := by omega) (hi4 : it < 4 := by omega) (ha : a < 10 := by omega) (hb : b < 10 := by omega) (hd : 2 ≤ d := by omega) : ev_CALL d 133 [.ref 14, .int (nI p), .int (nI q)] μ (some (.int (gm_tagw (fun k => μ 15 (11 + k)) (μ 15 3) it p q a b)), 0) μ := by
  obtain ⟨d, rfl⟩ : ∃ q, d = q + 1 := ⟨d - 1, by omega⟩
  refine SPp.of (Nat.le_of_ble_eq_true rfl) ?_
  show es (ev_CALL d) 6 cX6_tagReason (some .int) 0 (0, fun _ => 0, []) (fun r μ2 => r = (some (.int (gm_tagw (fun k => μ 15 (11 + k)) (μ 15 3) it p q a b)), 0) ∧ μ2 = μ) 0 [.ref 14, .int (nI p), .int (nI q), .null, .null] [] μ 0
  refine es_aload_n (pc := 0) dX6_tagReason_0 rfl ?_
  refine es_iload_n (pc := 1) dX6_tagReason_1 rfl ?_
  refine es_iconstN (pc := 2) 0 dX6_tagReason_2 ic_0 ?_
  refine es_cv2_p (pc := 3) dX6_tagReason_3 mr_6_63 rfl rfl (by decide) (by decide) rfl (Nat.le_of_ble_eq_true rfl) (Nat.zero_le _) (X6_its_ok) ?_
  refine es_top hpa ?_
  refine es_istore_n (pc := 6) dX6_tagReason_6 (ok1_3 rfl) ?_
  refine es_aload_n (pc := 7) dX6_tagReason_7 rfl ?_
  refine es_iload_n (pc := 8) dX6_tagReason_8 rfl ?_
  refine es_iconstN (pc := 9) 0 dX6_tagReason_9 ic_0 ?_
  refine es_cv2_p (pc := 10) dX6_tagReason_10 mr_6_63 rfl rfl (by decide) (by decide) rfl (Nat.le_of_ble_eq_true rfl) (Nat.zero_le _) (X6_its_ok) ?_
  refine es_top hqb ?_
  refine es_istore (pc := 13) dX6_tagReason_13 (ok1_4 rfl) ?_
  refine es_iload_n (pc := 15) dX6_tagReason_15 rfl ?_
  refine es_aload_n (pc := 16) dX6_tagReason_16 rfl ?_
  refine es_getR (pc := 17) dX6_tagReason_17 fr_6_7 fld_14_0 ?_
  refine es_bipushN (pc := 20) 6 dX6_tagReason_20 bp_6 ?_
  refine es_iald (pc := 22) dX6_tagReason_22 lay_15 (by omega) ?_
  refine es_top (hit) ?_
  refine es_icmp_eqN (pc := 23) 30 dX6_tagReason_23 (by decide) (by omega) (by omega) (fun c23 => ?_) (fun c23 => ?_)
  · refine es_iload_n (pc := 30) dX6_tagReason_30 rfl ?_
    refine es_iload_n (pc := 31) dX6_tagReason_31 rfl ?_
    refine es_icmp_neN (pc := 32) 40 dX6_tagReason_32 (by decide) (by omega) (by omega) (fun c32 => ?_) (fun c32 => ?_)
    · refine es_aload_n (pc := 40) dX6_tagReason_40 rfl ?_
      refine es_iload_n (pc := 41) dX6_tagReason_41 rfl ?_
      refine es_iload (pc := 42) dX6_tagReason_42 rfl ?_
      refine es_cv2_p (pc := 44) dX6_tagReason_44 mr_6_59 rfl rfl (by decide) (by decide) rfl (Nat.le_of_ble_eq_true rfl) (Nat.zero_le _) (X6_sees_ok) ?_
      refine es_if_neB (pc := 47) 54 dX6_tagReason_47 (by decide) (fun c47 => ?_) (fun c47 => ?_)
      · refine es_iload_n (pc := 54) dX6_tagReason_54 rfl ?_
        refine es_iload (pc := 55) dX6_tagReason_55 rfl ?_
        refine es_isub (pc := 57) dX6_tagReason_57 ?_
        refine es_cs1_p (pc := 58) dX6_tagReason_58 mr_6_56 rfl rfl rfl (Nat.le_of_ble_eq_true rfl) (Nat.zero_le _) (X6_size_ok) ?_
        rw [sz_n (by omega) (by omega), ds_comm]
        refine es_aload_n (pc := 61) dX6_tagReason_61 rfl ?_
        refine es_getR (pc := 62) dX6_tagReason_62 fr_6_7 fld_14_0 ?_
        refine es_iconstN (pc := 65) 3 dX6_tagReason_65 ic_3 ?_
        refine es_iald (pc := 66) dX6_tagReason_66 lay_15 (by omega) ?_
        refine es_icmp_le (pc := 67) (tgt := 75) dX6_tagReason_67 (by decide) (fun c67 => ?_) (fun c67 => ?_)
        · refine es_iconstN (pc := 75) 0 dX6_tagReason_75 ic_0 ?_
          refine es_ireturn (pc := 76) dX6_tagReason_76 rfl (vp_nar_int _) (by decide) ?_
          exact ⟨vI (by rw [gm_tagw, if_neg (by omega), if_neg (by omega), if_neg (by simp [c47]), if_neg (Int32.not_lt.mpr c67)]), rfl⟩
        · refine es_bipushN (pc := 70) 7 dX6_tagReason_70 bp_7 ?_
          refine es_goto (pc := 72) (tgt := 76) dX6_tagReason_72 (by decide) ?_
          refine es_ireturn (pc := 76) dX6_tagReason_76 rfl (vp_nar_int _) (by decide) ?_
          exact ⟨vI (by rw [gm_tagw, if_neg (by omega), if_neg (by omega), if_neg (by simp [c47]), if_pos (Int32.not_le.mp c67)]), rfl⟩
      · refine es_iconstN (pc := 50) 2 dX6_tagReason_50 ic_2 ?_
        refine es_goto (pc := 51) (tgt := 76) dX6_tagReason_51 (by decide) ?_
        refine es_ireturn (pc := 76) dX6_tagReason_76 rfl (vp_nar_int _) (by decide) ?_
        exact ⟨vI (by rw [gm_tagw, if_neg (by omega), if_neg (by omega), if_pos c47]), rfl⟩
    · refine es_bipushN (pc := 35) 6 dX6_tagReason_35 bp_6 ?_
      refine es_goto (pc := 37) (tgt := 76) dX6_tagReason_37 (by decide) ?_
      refine es_ireturn (pc := 76) dX6_tagReason_76 rfl (vp_nar_int _) (by decide) ?_
      exact ⟨vI (by rw [gm_tagw, if_neg (by omega), if_pos (by omega)]), rfl⟩
  · refine es_iconstN (pc := 26) 5 dX6_tagReason_26 ic_5 ?_
    refine es_goto (pc := 27) (tgt := 76) dX6_tagReason_27 (by decide) ?_
    refine es_ireturn (pc := 76) dX6_tagReason_76 rfl (vp_nar_int _) (by decide) ?_
    exact ⟨vI (by rw [gm_tagw, if_pos (by omega)]), rfl⟩
theorem nI_gt0 {P : Nat} (h : 0 < P) (h4 : P ≤ 4) : ¬ nI P ≤ 0 := Int32.not_le.mpr (by rw [← nI_0]; exact nI_lt h (by omega))
set_option maxHeartbeats 2000000 in
set_option maxRecDepth 20000 in
theorem X6_isOver_ok {d : Nat} {μ : ev_M} {P : Nat} (hP : μ 15 4 = nI P) (hP4 : P ≤ 4 := by omega) (hd : 1 ≤ d := by omega) : ev_CALL d 111 [.ref 14] μ (some (.int (bI (rm_over (mR μ)))), 0) μ := by
  obtain ⟨d, rfl⟩ : ∃ q, d = q + 1 := ⟨d - 1, by omega⟩
  refine SPp.of (Nat.le_of_ble_eq_true rfl) ?_
  show es (ev_CALL d) 6 cX6_isOver (some .boolean) 0 (0, fun _ => 0, []) (fun r μ2 => r = (some (.int (bI (rm_over (mR μ)))), 0) ∧ μ2 = μ) 0 [.ref 14] [] μ 0
  refine es_aload_n (pc := 0) dX6_isOver_0 rfl ?_
  refine es_getR (pc := 1) dX6_isOver_1 fr_6_7 fld_14_0 ?_
  refine es_iconstN (pc := 4) 4 dX6_isOver_4 ic_4 ?_
  refine es_iald (pc := 5) dX6_isOver_5 lay_15 (by omega) ?_
  refine es_top (hP) ?_
  refine es_if_eqN (pc := 6) 22 dX6_isOver_6 (by decide) (by omega) (fun c6 => ?_) (fun c6 => ?_)
  · refine es_iconstN (pc := 22) 1 dX6_isOver_22 ic_1 ?_
    refine es_goto (pc := 23) (tgt := 27) dX6_isOver_23 (by decide) ?_
    refine es_ireturn (pc := 27) dX6_isOver_27 rfl (rfl) (by decide) ?_
    exact ⟨vI (by rw [rm_over, mR_r (by decide), mR_r (by decide), hP]; rw [show P = 0 by omega]; rfl), rfl⟩
  · refine es_aload_n (pc := 9) dX6_isOver_9 rfl ?_
    refine es_getR (pc := 10) dX6_isOver_10 fr_6_7 fld_14_0 ?_
    refine es_bipushN (pc := 13) 7 dX6_isOver_13 bp_7 ?_
    refine es_iald (pc := 15) dX6_isOver_15 lay_15 (by omega) ?_
    refine es_sipushN (pc := 16) 9999 dX6_isOver_16 sp_9999 ?_
    refine es_icmp_lt (pc := 19) (tgt := 26) dX6_isOver_19 (by decide) (fun c19 => ?_) (fun c19 => ?_)
    · refine es_iconstN (pc := 26) 0 dX6_isOver_26 ic_0 ?_
      refine es_ireturn (pc := 27) dX6_isOver_27 rfl (rfl) (by decide) ?_
      have hq := nI_gt0 (P := P) (by omega) hP4
      exact ⟨vI (by rw [rm_over, mR_r (by decide), mR_r (by decide), hP]; simp [hq, Int32.not_le.mpr c19, bI, nI_0, nI_one]), rfl⟩
    · refine es_iconstN (pc := 22) 1 dX6_isOver_22 ic_1 ?_
      refine es_goto (pc := 23) (tgt := 27) dX6_isOver_23 (by decide) ?_
      refine es_ireturn (pc := 27) dX6_isOver_27 rfl (rfl) (by decide) ?_
      have hq := nI_gt0 (P := P) (by omega) hP4
      exact ⟨vI (by rw [rm_over, mR_r (by decide), mR_r (by decide), hP]; simp [hq, Int32.not_lt.mp c19, bI, nI_0, nI_one]), rfl⟩
