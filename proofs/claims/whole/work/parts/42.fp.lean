/-! shares as doubles: normal positive ones -/
def ND (a : UInt64) (c : Nat) (q : Int) : Prop := FP.Core.val64 a = .fin false c q ∧ 2 ^ 52 ≤ c ∧ c < 2 ^ 53 ∧ -1074 ≤ q ∧ q ≤ 971
theorem nd_qmin : FP.Core.Fmt.qmin FP.Core.b64 = -1074 := by decide
theorem nd_qmax : FP.Core.Fmt.qmax FP.Core.b64 = 971 := by decide
theorem nd_tails : FP.Core.Fmt.tails FP.Core.b64 = 2 ^ 52 := by decide
theorem nd_fits {c : Nat} {q : Int} (h1 : 2 ^ 52 ≤ c) (h2 : c < 2 ^ 53) (h3 : -1074 ≤ q) (h4 : q ≤ 971) : FP.Core.fits FP.Core.b64 (.fin false c q) := ⟨h2, by rw [nd_qmin]; exact h3, by rw [nd_qmax]; exact h4, Or.inr (by rw [nd_tails]; exact h1)⟩
theorem nd_two : FP.Core.val64 4611686018427387904 = .fin false (2 ^ 52) (-51) := by decide +kernel
theorem nd_dbl {a : UInt64} {c : Nat} {q : Int} (h : ND a c q) (hq : q < 971) : ND (FP.dmul a 4611686018427387904) c (q + 1) := by
  obtain ⟨h1, h2, h3, h4, h5⟩ := h
  refine ⟨?_, h2, h3, by omega, by omega⟩
  show FP.Core.val64 (FP.Core.dmul a _) = _
  rw [FP.Core.val64_dmul, h1, nd_two]
  show FP.Core.roundRatio FP.Core.b64 false (c * 2 ^ 52) 1 (q + -51) = _
  refine FP.Core.roundRatio_exact FP.Core.good_b64 (by decide) (nd_fits h2 h3 (by omega) (by omega)) ?_
  rw [show (q + -51 - (q + 1)).toNat = 0 by omega, show (q + 1 - (q + -51)).toNat = 52 by omega]
  omega
theorem nd_bits {a : UInt64} {c : Nat} {q : Int} (h : ND a c q) : a.toNat = (q + 1075).toNat * 2 ^ 52 + (c - 2 ^ 52) := by
  obtain ⟨h1, h2, h3, h4, h5⟩ := h
  have e := FP.Core.of64_val64 (a := a) (by rw [h1]; exact fun h => by cases h)
  rw [h1] at e
  rw [← e]
  unfold FP.Core.of64 FP.Core.encode
  dsimp only
  rw [nd_tails, nd_qmin, if_neg (by omega)]
  unfold FP.Core.assemble
  rw [nd_tails, show (q - -1074).toNat + 1 = (q + 1075).toNat by omega]
  simp only [Bool.toNat_false, Nat.zero_mul, Nat.zero_add]
  rw [UInt64.toNat_ofNat']
  apply Nat.mod_eq_of_lt
  have : (q + 1075).toNat ≤ 2046 := by omega
  have := Nat.mul_le_mul_right (2 ^ 52) this
  omega
theorem nd_nan {a : UInt64} {c : Nat} {q : Int} (h : ND a c q) : FP.Core.val64 a ≠ .nan := by rw [h.1]; exact fun h => by cases h
theorem nd_n64 {a : UInt64} {c : Nat} {q : Int} (h : ND a c q) : vf_n64 a := by
  have hb := nd_bits h
  obtain ⟨h1, h2, h3, h4, h5⟩ := h
  have : (q + 1075).toNat ≤ 2046 := by omega
  have := Nat.mul_le_mul_right (2 ^ 52) this
  unfold vf_n64
  rw [UInt64.le_iff_toNat_le, UInt64.toNat_and]
  refine Nat.le_trans Nat.and_le_left ?_
  show a.toNat ≤ 0x7ff0000000000000
  omega
theorem nd_key {a : UInt64} {c : Nat} {q : Int} (h : ND a c q) : FP.Core.dkey a = (((q + 1075).toNat * 2 ^ 52 + (c - 2 ^ 52) : Nat) : Int) := by
  have hb := nd_bits h
  obtain ⟨h1, h2, h3, h4, h5⟩ := h
  have : (q + 1075).toNat ≤ 2046 := by omega
  have := Nat.mul_le_mul_right (2 ^ 52) this
  unfold FP.Core.dkey
  rw [if_neg (by omega), hb]
theorem nd_one : FP.Core.val64 FP.dconst1 ≠ .nan ∧ FP.Core.dkey FP.dconst1 = ((1023 * 2 ^ 52 : Nat) : Int) := by decide +kernel
theorem nd_lt1 {a : UInt64} {c : Nat} {q : Int} (h : ND a c q) : FP.dcmp a FP.dconst1 = some .lt ↔ q < -52 := by
  have hk := nd_key h
  have e := FP.Core.dcmp_lt_key (nd_nan h) nd_one.1
  obtain ⟨h1, h2, h3, h4, h5⟩ := h
  rw [show FP.dcmp a FP.dconst1 = FP.Core.dcmp a FP.dconst1 from rfl, e, hk, nd_one.2]
  constructor
  · intro h9
    by_cases hq : q < -52
    · exact hq
    · have : 1023 ≤ (q + 1075).toNat := by omega
      have := Nat.mul_le_mul_right (2 ^ 52) this
      omega
  · intro h9
    have : (q + 1075).toNat ≤ 1022 := by omega
    have := Nat.mul_le_mul_right (2 ^ 52) this
    omega
/-- the last step: what stands behind the point, as a whole number -/
theorem nd_m1 : FP.Core.val64 FP.dconst1 = .fin false (2 ^ 52) (-52) ∧ FP.Core.val64 4841369599423283200 = .fin false (2 ^ 52) 0 := by decide +kernel
