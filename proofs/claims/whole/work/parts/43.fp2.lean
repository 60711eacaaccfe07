/-! the share of up to 800 grains is a normal double, at most one -/
theorem nd_i2d : ∀ G, G < 801 → 0 < G → FP.Core.val64 (FP.Core.i2d (nI G)) = .fin false (G * 2 ^ (52 - G.log2)) ((G.log2 : Int) - 52) ∧ 2 ^ 52 ≤ G * 2 ^ (52 - G.log2) ∧ G * 2 ^ (52 - G.log2) < 2 ^ 53 ∧ G.log2 ≤ 9 := by decide +kernel
theorem nd_log {A : Nat} (h1 : 2 ^ 52 ≤ A) (h2 : A < 2 ^ 53) : A.log2 = 52 := by
  have a1 := (Nat.le_log2 (by omega)).mpr h1
  have a2 := (Nat.log2_lt (by omega)).mpr h2
  omega
theorem nd_settle {c : Nat} {q : Int} (h1 : 2 ^ 52 ≤ c) (h2 : c ≤ 2 ^ 53) (h3 : -1000 ≤ q) (h4 : q ≤ 900) : FP.Core.settle FP.Core.b64 false c q = (if c < 2 ^ 53 then .fin false c q else .fin false (2 ^ 52) (q + 1)) := by
  unfold FP.Core.settle FP.Core.bound
  rw [nd_tails, nd_qmax, if_pos (show q ≤ 971 by omega), if_pos (show q + 1 ≤ 971 by omega)]
  rfl
theorem nd_ratio {A D : Nat} {e : Int} (a1 : 2 ^ 52 ≤ A) (a2 : A < 2 ^ 53) (d1 : 2 ^ 52 ≤ D) (d2 : D < 2 ^ 53) (e1 : -20 ≤ e) (e2 : e ≤ 0) (e3 : e = 0 → D ≤ A → A = D) : ∃ c q, FP.Core.roundRatio FP.Core.b64 false A D e = .fin false c q ∧ 2 ^ 52 ≤ c ∧ c < 2 ^ 53 ∧ -100 ≤ q ∧ q ≤ -52 := by
  have hq : FP.Core.quantum FP.Core.b64 A D e = (if D ≤ A then e - 52 else e - 53) := by
    unfold FP.Core.quantum FP.Core.leading
    rw [nd_log a1 a2, nd_log d1 d2, nd_qmin, show (FP.Core.b64.p : Int) - 1 = 52 from rfl]
    simp only [Int.sub_self, Int.toNat_zero, Int.neg_zero, Nat.pow_zero, Nat.mul_one]
    by_cases h : D ≤ A
    · rw [if_pos h, if_pos h]; omega
    · rw [if_neg h, if_neg h]; omega
  have hr : FP.Core.roundRatio FP.Core.b64 false A D e = FP.Core.roundAt FP.Core.b64 false A D e (FP.Core.quantum FP.Core.b64 A D e) := by
    unfold FP.Core.roundRatio
    rw [if_neg (by omega)]
  rw [hr, hq]
  unfold FP.Core.roundAt FP.Core.unitsNum FP.Core.unitsDen
  by_cases h : D ≤ A
  · rw [if_pos h, show (e - (e - 52)).toNat = 52 by omega, show (e - 52 - e).toNat = 0 by omega, Nat.pow_zero, Nat.mul_one]
    have n1 := FP.Core.nearest_ge (A := A * 2 ^ 52) (B := D) (M := 2 ^ 52) (by omega) (by omega)
    have n2 := FP.Core.nearest_le (A := A * 2 ^ 52) (B := D) (M := 2 ^ 53) (by omega) (by omega)
    rw [nd_settle n1 n2 (by omega) (by omega)]
    by_cases hc : FP.Core.nearest (A * 2 ^ 52) D < 2 ^ 53
    · rw [if_pos hc]; exact ⟨_, _, rfl, n1, hc, by omega, by omega⟩
    · rw [if_neg hc]
      refine ⟨_, _, rfl, by omega, by omega, by omega, ?_⟩
      by_cases he : e = 0
      · have := e3 he h
        subst this
        rw [Nat.mul_comm, FP.Core.nearest_exact _ (by omega)] at hc
        omega
      · omega
  · rw [if_neg h, show (e - (e - 53)).toNat = 53 by omega, show (e - 53 - e).toNat = 0 by omega, Nat.pow_zero, Nat.mul_one]
    have n1 := FP.Core.nearest_ge (A := A * 2 ^ 53) (B := D) (M := 2 ^ 52) (by omega) (by omega)
    have n2 := FP.Core.nearest_le (A := A * 2 ^ 53) (B := D) (M := 2 ^ 53) (by omega) (by omega)
    rw [nd_settle n1 n2 (by omega) (by omega)]
    by_cases hc : FP.Core.nearest (A * 2 ^ 53) D < 2 ^ 53
    · rw [if_pos hc]; exact ⟨_, _, rfl, n1, hc, by omega, by omega⟩
    · rw [if_neg hc]; exact ⟨_, _, rfl, by omega, by omega, by omega, by omega⟩
theorem nd_share {B G : Nat} (hB : 0 < B) (hBG : B ≤ G) (hG : G < 801) : ∃ c q, ND (FP.ddiv (FP.i2d (nI B)) (FP.i2d (nI G))) c q ∧ -100 ≤ q ∧ q ≤ -52 := by
  obtain ⟨b1, b2, b3, b4⟩ := nd_i2d B (by omega) hB
  obtain ⟨g1, g2, g3, g4⟩ := nd_i2d G hG (by omega)
  have hl : B.log2 ≤ G.log2 := by
    rw [Nat.le_log2 (by omega)]
    exact Nat.le_trans (Nat.log2_self_le (by omega)) hBG
  obtain ⟨c, q, h1, h2, h3, h4, h5⟩ := nd_ratio (e := ((B.log2 : Int) - 52) - ((G.log2 : Int) - 52)) b2 b3 g2 g3 (by omega) (by omega) (fun he hd => by
    have e : B.log2 = G.log2 := by omega
    rw [e] at hd ⊢
    have := Nat.le_of_mul_le_mul_right hd (Nat.pow_pos (by decide))
    rw [show B = G by omega])
  refine ⟨c, q, ⟨?_, h2, h3, by omega, by omega⟩, h4, h5⟩
  show FP.Core.val64 (FP.Core.ddiv (FP.Core.i2d (nI B)) (FP.Core.i2d (nI G))) = _
  rw [FP.Core.val64_ddiv, b1, g1]
  show (if G * 2 ^ (52 - G.log2) = 0 then _ else FP.Core.roundRatio FP.Core.b64 false _ _ _) = _
  rw [if_neg (by omega), h1]
