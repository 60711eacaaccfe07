theorem i64_nat {T : Nat} (h : T < 2 ^ 63) : (Int64.ofNat T).toInt = (T : Int) := by
  first
  | exact Int64.toInt_ofNat_of_lt h
  | (rw [Int64.toInt_ofNat]; exact Int.bmod_eq_of_le (by omega) (by omega))
theorem nd_frac {l : UInt64} {c : Nat} (h : ND l c (-52)) : vf_n64 (FP.dsub l FP.dconst1) ∧ vf_n64 (FP.dmul (FP.dsub l FP.dconst1) 4841369599423283200) ∧ FP.d2l (FP.dmul (FP.dsub l FP.dconst1) 4841369599423283200) = Int64.ofNat (c - 2 ^ 52) := by
  obtain ⟨h1, h2, h3, -, -⟩ := h
  obtain ⟨T, hT⟩ : ∃ T, T = c - 2 ^ 52 := ⟨_, rfl⟩
  rw [← hT]
  have hU : FP.Core.sumUnits false c (-52) true (2 ^ 52) (-52) (min (-52) (-52)) = (T : Int) := by
    unfold FP.Core.sumUnits FP.Core.inUnits FP.Core.signed
    simp only [Int.min_self, Int.sub_self, Int.toNat_zero, Nat.pow_zero, Nat.mul_one]
    simp
    omega
  have hv : FP.Core.val64 (FP.dsub l FP.dconst1) = FP.Core.round FP.Core.b64 (.fin false T (-52)) := by
    show FP.Core.val64 (FP.Core.dsub l FP.dconst1) = _
    rw [FP.Core.val64_dsub, h1, nd_m1.1]
    show FP.Core.round FP.Core.b64 (.fin (FP.Core.sumSign false true (FP.Core.sumUnits false c (-52) true (2 ^ 52) (-52) (min (-52) (-52)))) (FP.Core.sumUnits false c (-52) true (2 ^ 52) (-52) (min (-52) (-52))).natAbs (min (-52) (-52))) = _
    rw [hU, Int.natAbs_natCast, Int.min_self]
    congr 2
    unfold FP.Core.sumSign
    split
    · rfl
    · exact decide_eq_false (by omega)
  rcases Nat.eq_zero_or_pos T with h0 | h0
  · subst h0
    have e : FP.dsub l FP.dconst1 = 0 := by
      rw [← FP.Core.of64_val64 (a := FP.dsub l FP.dconst1) (by rw [hv]; decide +kernel), hv]
      decide +kernel
    rw [e]
    exact ⟨by unfold vf_n64; decide, by unfold vf_n64; decide +kernel, by decide +kernel⟩
  · have hl : T.log2 ≤ 51 := by
      have := (Nat.log2_lt (n := T) (k := 52) (by omega)).mpr (by omega)
      omega
    have p1 : 2 ^ 52 ≤ T * 2 ^ (52 - T.log2) := by
      have := Nat.mul_le_mul_right (2 ^ (52 - T.log2)) (Nat.log2_self_le (n := T) (by omega))
      rwa [← Nat.pow_add, show T.log2 + (52 - T.log2) = 52 by omega] at this
    have p2 : T * 2 ^ (52 - T.log2) < 2 ^ 53 := by
      have := Nat.mul_lt_mul_of_pos_right (Nat.lt_log2_self (n := T)) (Nat.pow_pos (n := 52 - T.log2) (show 0 < 2 by decide))
      rwa [← Nat.pow_add, show T.log2 + 1 + (52 - T.log2) = 53 by omega] at this
    have n1 : ND (FP.dsub l FP.dconst1) (T * 2 ^ (52 - T.log2)) ((T.log2 : Int) - 104) := by
      refine ⟨?_, p1, p2, by omega, by omega⟩
      rw [hv]
      show FP.Core.roundRatio FP.Core.b64 false T 1 (-52) = _
      refine FP.Core.roundRatio_exact FP.Core.good_b64 (by decide) (nd_fits p1 p2 (by omega) (by omega)) ?_
      rw [show (-52 - ((T.log2 : Int) - 104)).toNat = 52 - T.log2 by omega, show ((T.log2 : Int) - 104 - -52).toNat = 0 by omega, Nat.pow_zero, Nat.mul_one, Nat.mul_one]
    have n2 : ND (FP.dmul (FP.dsub l FP.dconst1) 4841369599423283200) (T * 2 ^ (52 - T.log2)) ((T.log2 : Int) - 52) := by
      refine ⟨?_, p1, p2, by omega, by omega⟩
      show FP.Core.val64 (FP.Core.dmul _ _) = _
      rw [FP.Core.val64_dmul, n1.1, nd_m1.2]
      show FP.Core.roundRatio FP.Core.b64 false (T * 2 ^ (52 - T.log2) * 2 ^ 52) 1 ((T.log2 : Int) - 104 + 0) = _
      refine FP.Core.roundRatio_exact FP.Core.good_b64 (by decide) (nd_fits p1 p2 (by omega) (by omega)) ?_
      rw [show ((T.log2 : Int) - 104 + 0 - ((T.log2 : Int) - 52)).toNat = 0 by omega, show ((T.log2 : Int) - 52 - ((T.log2 : Int) - 104 + 0)).toNat = 52 by omega, Nat.pow_zero, Nat.mul_one, Nat.mul_one]
    refine ⟨nd_n64 n1, nd_n64 n2, FP.Core.d2l_int ?_⟩
    unfold FP.Core.DInt
    rw [n2.1, i64_nat (by omega)]
    show FP.Core.signed false _ = _
    unfold FP.Core.signed
    rw [show ((T.log2 : Int) - 52).toNat = 0 by omega, show (-((T.log2 : Int) - 52)).toNat = 52 - T.log2 by omega, Nat.pow_zero, Nat.mul_one]
    simp
