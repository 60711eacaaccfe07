theorem nd_c1 {l : UInt64} {c : Nat} {q : Int} (h : ND l c q) : 0 ≤ Op.cmpValue (FP.dcmp l FP.dconst1) .g ↔ ¬ q < -52 := by
  rw [← nd_lt1 h]
  cases hd : FP.dcmp l FP.dconst1 with
  | none =>
    obtain ⟨o, ho⟩ := FP.Core.dcmp_of_notNaN ((FP.Core.notNaN_iff l).mpr (nd_nan h)) ((FP.Core.notNaN_iff FP.dconst1).mpr nd_one.1)
    rw [show FP.Core.dcmp l FP.dconst1 = FP.dcmp l FP.dconst1 from rfl, hd] at ho
    cases ho
  | some o => cases o <;> decide
theorem nd_c0 {a : UInt64} {c : Nat} {q : Int} (h : ND a c q) : 0 < Op.cmpValue (FP.dcmp a FP.dconst0) .g := by
  have e := FP.Core.dcmp_gt_key (nd_nan h) (show FP.Core.val64 FP.dconst0 ≠ .nan by decide +kernel)
  have hk := nd_key h
  obtain ⟨h1, h2, h3, h4, h5⟩ := h
  have : 1 ≤ (q + 1075).toNat := by omega
  have := Nat.mul_le_mul_right (2 ^ 52) this
  rw [show FP.dcmp a FP.dconst0 = FP.Core.dcmp a FP.dconst0 from rfl, e.mpr (by rw [hk, show FP.Core.dkey FP.dconst0 = 0 by decide +kernel]; omega)]
  decide
theorem vJ {a b : Int64} (h : a = b) : ((some (Value.long a), 0) : ev_R) = (some (.long b), 0) := by rw [h]
theorem j_dec : ∀ n, n < 200 → Int64.ofNat (1023 - n) - Int64.ofNat 1 = Int64.ofNat (1023 - (n + 1)) := by decide +kernel
theorem j_shl : ∀ E, E < 1024 → Int64.ofNat E <<< ((nI 52).toInt64 &&& 63) = Int64.ofNat (E * 2 ^ 52) := by decide +kernel
theorem j_add {x y : Nat} : Int64.ofNat x + Int64.ofNat y = Int64.ofNat (x + y) := by
  first
  | exact (Int64.ofNat_add x y).symm
  | (apply Int64.toBitVec_inj.mp; simp)
theorem j_raw {a : UInt64} : a.toInt64 = Int64.ofNat a.toNat := by
  apply Int64.toBitVec_inj.mp
  simp
set_option maxHeartbeats 2000000 in
set_option maxRecDepth 20000 in
theorem X5_bitsOf_z {d : Nat} {μ : ev_M}  (hd : 1 ≤ d := by omega) : ev_CALL d 39 [.double FP.dconst0] μ (some (.long (FP.dconst0.toInt64)), 0) μ := by
  obtain ⟨d, rfl⟩ : ∃ q, d = q + 1 := ⟨d - 1, by omega⟩
  refine SPp.of (Nat.le_of_ble_eq_true rfl) ?_
  show es (ev_CALL d) 5 cX5_bitsOf (some .long) 0 (0, fun _ => 0, []) (fun r μ2 => r = (some (.long (FP.dconst0.toInt64)), 0) ∧ μ2 = μ) 0 [.double FP.dconst0, .null, .null, .null, .null, .null, .null] [] μ 0
  refine es_dload_n (pc := 0) dX5_bitsOf_0 rfl ?_
  refine es_dconst0 (pc := 1) dX5_bitsOf_1 ?_
  refine es_dcmp (pc := 2) dX5_bitsOf_2 ?_
  refine es_if_gt (pc := 3) (tgt := 8) dX5_bitsOf_3 (by decide) (fun c3 => ?_) (fun c3 => ?_)
  · exact absurd c3 (by decide +kernel)
  · refine es_lconst (pc := 6) dX5_bitsOf_6 ?_
    refine es_lreturn (pc := 7) dX5_bitsOf_7 rfl (by decide) ?_
    exact ⟨vJ (by decide), rfl⟩
set_option maxHeartbeats 2000000 in
set_option maxRecDepth 20000 in
theorem X5_bitsOf_n {d : Nat} {μ : ev_M} {a : UInt64} {c : Nat} {q : Int} (hN : ND a c q) (hq1 : -100 ≤ q) (hq2 : q ≤ -52) (hd : 1 ≤ d := by omega) : ev_CALL d 39 [.double a] μ (some (.long (a.toInt64)), 0) μ := by
  obtain ⟨d, rfl⟩ : ∃ q, d = q + 1 := ⟨d - 1, by omega⟩
  refine SPp.of (Nat.le_of_ble_eq_true rfl) ?_
  show es (ev_CALL d) 5 cX5_bitsOf (some .long) 0 (0, fun _ => 0, []) (fun r μ2 => r = (some (.long (a.toInt64)), 0) ∧ μ2 = μ) 0 [.double a, .null, .null, .null, .null, .null, .null] [] μ 0
  refine es_dload_n (pc := 0) dX5_bitsOf_0 rfl ?_
  refine es_dconst0 (pc := 1) dX5_bitsOf_1 ?_
  refine es_dcmp (pc := 2) dX5_bitsOf_2 ?_
  refine es_if_gt (pc := 3) (tgt := 8) dX5_bitsOf_3 (by decide) (fun c3 => ?_) (fun c3 => ?_)
  · have hl18 : ∀ (n9 : Nat) (l : UInt64) (n : Nat), n9 = 200 - n → (ND l c (q + n)) → (q + n ≤ -52) → es (ev_CALL d) 5 cX5_bitsOf (some .long) 0 (0, fun _ => 0, []) (fun r μ2 => r = (some (.long (a.toInt64)), 0) ∧ μ2 = μ) 18 [.double a, .null, .double l, .null, .long (Int64.ofNat (1023 - n)), .null, .int (nI n)] [] μ 0 := by
      intro n9
      induction n9 using Nat.strongRecOn with
      | ind n9 ih18 =>
        intro l n hn9 hl hn
        subst hn9
        have ih := ih18
        refine es_iload (pc := 18) dX5_bitsOf_18 rfl ?_
        refine es_sipushN (pc := 20) 1000 dX5_bitsOf_20 sp_1000 ?_
        refine es_icmp_geN (pc := 23) 50 dX5_bitsOf_23 (by decide) (by omega) (by omega) (fun c23 => ?_) (fun c23 => ?_)
        · exact absurd c23 (by omega)
        · refine es_dload_n (pc := 26) dX5_bitsOf_26 rfl ?_
          refine es_dconst1 (pc := 27) dX5_bitsOf_27 ?_
          refine es_dcmp (pc := 28) dX5_bitsOf_28 ?_
          refine es_if_ge (pc := 29) (tgt := 50) dX5_bitsOf_29 (by decide) (fun c29 => ?_) (fun c29 => ?_)
          · have hqe := mt (nd_c1 hl).mpr
            have hq9 : ¬ q + n < -52 := (nd_c1 hl).mp c29
            have hne : q + n = -52 := by omega
            rw [hne] at hl
            obtain ⟨k1, k2, k3⟩ := nd_frac hl
            refine es_lload (pc := 50) dX5_bitsOf_50 rfl ?_
            refine es_bipushN (pc := 52) 52 dX5_bitsOf_52 bp_52 ?_
            refine es_lshl (pc := 54) dX5_bitsOf_54 ?_
            refine es_dload_n (pc := 55) dX5_bitsOf_55 rfl ?_
            refine es_dconst1 (pc := 56) dX5_bitsOf_56 ?_
            refine es_dsub (pc := 57) dX5_bitsOf_57 (k1) ?_
            refine es_ldc2d (pc := 58) dX5_bitsOf_58 cd_5_305 ?_
            refine es_dmul (pc := 61) dX5_bitsOf_61 (k2) ?_
            refine es_d2l (pc := 62) dX5_bitsOf_62 ?_
            refine es_ladd (pc := 63) dX5_bitsOf_63 ?_
            refine es_lreturn (pc := 64) dX5_bitsOf_64 rfl (by decide) ?_
            exact ⟨vJ (by rw [k3, j_shl _ (by omega), j_add, j_raw, nd_bits hN, show (q + 1075).toNat = 1023 - n by omega]), rfl⟩
          · have hq9 : q + n < -52 := by
              by_cases w : q + n < -52
              · exact w
              · exact absurd ((nd_c1 hl).mpr w) c29
            have hl2 := nd_dbl hl (by omega)
            refine es_dload_n (pc := 32) dX5_bitsOf_32 rfl ?_
            refine es_ldc2d (pc := 33) dX5_bitsOf_33 cd_5_303 ?_
            refine es_dmul (pc := 36) dX5_bitsOf_36 (nd_n64 hl2) ?_
            refine es_dstore_n (pc := 37) dX5_bitsOf_37 (ok2_2 rfl) ?_
            refine es_lload (pc := 38) dX5_bitsOf_38 rfl ?_
            refine es_lconst (pc := 40) dX5_bitsOf_40 ?_
            refine es_lsub (pc := 41) dX5_bitsOf_41 ?_
            refine es_lstore (pc := 42) dX5_bitsOf_42 (ok2_4 rfl) ?_
            refine es_iincN (pc := 44) 1 dX5_bitsOf_44 ic_1 rfl (ok1_6 rfl) ?_
            refine es_goto (pc := 47) (tgt := 18) dX5_bitsOf_47 (by decide) ?_
            rw [show Int64.ofNat (1023 - n) - Int64.ofNat ((1 : Fin 2) : Nat) = Int64.ofNat (1023 - (n + 1)) from j_dec n (by omega)]
            exact ih18 _ (by omega) _ (n + 1) rfl (by rw [show q + ((n + 1 : Nat) : Int) = q + n + 1 by omega]; exact hl2) (by omega)
    refine es_dload_n (pc := 8) dX5_bitsOf_8 rfl ?_
    refine es_dstore_n (pc := 9) dX5_bitsOf_9 (ok2_2 rfl) ?_
    refine es_ldc2 (pc := 10) dX5_bitsOf_10 cl_5_301 ?_
    refine es_lstore (pc := 13) dX5_bitsOf_13 (ok2_4 rfl) ?_
    refine es_iconstN (pc := 15) 0 dX5_bitsOf_15 ic_0 ?_
    refine es_istore (pc := 16) dX5_bitsOf_16 (ok1_6 rfl) ?_
    exact hl18 _ a 0 rfl (by simpa using hN) (by omega)
  · exact absurd (nd_c0 hN) c3
