/-! a game's share: nothing, or a quotient of small whole numbers -/
theorem gm_sum_N {f : Nat → Int32} {g : Nat → Nat} {z : Nat} : ∀ {n : Nat}, (∀ k, k < n → f k = nI (g k)) → gm_sum f (nI z) n = nI (z + nsum g n)
  | 0, _ => rfl
  | n + 1, h => by
    show gm_sum f (nI z) n + f n = nI (z + (nsum g n + g n))
    rw [gm_sum_N (fun k hk => h k (by omega)), h n (by omega), nI_add, Nat.add_assoc]
theorem nsum_mono {f : Nat → Nat} {n : Nat} : ∀ k, nsum f n ≤ nsum f (n + k)
  | 0 => Nat.le_refl _
  | k + 1 => Nat.le_trans (nsum_mono k) (Nat.le_add_right _ _)
theorem sh_num {r : gm_R} (hW : WFr r) : ∃ B G, gm_sum (fun p => r (31 + 7 * p + 2)) (nI 0) (rP r) = nI B ∧ rGl r = nI G ∧ B ≤ G ∧ G < 801 := by
  obtain ⟨it, s0, s1, s2, s3, hh, sd, pl, ab, bl, ⟨-, ⟨b0, b1, -⟩, -, ⟨d1, d2, d3, d4⟩, -⟩, hT, -⟩ := WFx.of hW
  refine ⟨nsum bl (rP r), nsum bl (rP r) + nsum ab (rP r), ?_, ?_, by omega, ?_⟩
  · rw [gm_sum_N (g := bl) (fun k hk => d4 k (by omega)), Nat.zero_add]
  · unfold rGl
    rw [gm_sum_N (g := bl) (fun k hk => d4 k (by omega)), Nat.zero_add, gm_sum_N (g := ab) (fun k hk => d3 k (by omega))]
  · have m1 := nsum_mono (f := bl) (n := rP r) (4 - rP r)
    have m2 := nsum_mono (f := ab) (n := rP r) (4 - rP r)
    rw [show rP r + (4 - rP r) = 4 by omega] at m1 m2
    omega
theorem sh_0 : ∀ G, G < 801 → 0 < G → FP.Core.ddiv (FP.Core.i2d (nI 0)) (FP.Core.i2d (nI G)) = 0 := by decide +kernel
theorem sh_cs {r : gm_R} (hW : WFr r) : (rGl r ≠ 0 → 0 < rGl r) ∧ (rGl r ≠ 0 → vf_n64 (FP.ddiv (FP.i2d (gm_sum (fun p => r (31 + 7 * p + 2)) (nI 0) (rP r))) (FP.i2d (rGl r)))) ∧ (rShare r = FP.dconst0 ∨ ∃ c q, ND (rShare r) c q ∧ -100 ≤ q ∧ q ≤ -52) := by
  obtain ⟨B, G, h1, h2, h3, h4⟩ := sh_num hW
  unfold rShare gm_share
  rw [h1, h2]
  rcases Nat.eq_zero_or_pos G with h0 | h0
  · subst h0
    exact ⟨fun h => absurd nI_0 h, fun h => absurd nI_0 h, Or.inl (if_pos (by decide))⟩
  · have hg : 0 < nI G := by rw [← nI_0]; exact nI_lt h0 (by omega)
    rw [if_neg (Int32.not_le.mpr hg)]
    rcases Nat.eq_zero_or_pos B with hb | hb
    · subst hb
      have e : FP.ddiv (FP.i2d (nI 0)) (FP.i2d (nI G)) = 0 := sh_0 G h4 h0
      rw [e]
      exact ⟨fun _ => hg, fun _ => by unfold vf_n64; decide, Or.inl rfl⟩
    · obtain ⟨c, q, k1, k2, k3⟩ := nd_share hb h3 h4
      exact ⟨fun _ => hg, fun _ => nd_n64 k1, Or.inr ⟨c, q, k1, k2, k3⟩⟩
theorem sh_nan {r : gm_R} (hW : WFr r) : FP.Core.val64 (rShare r) ≠ .nan := by
  rcases (sh_cs hW).2.2 with h | ⟨c, q, h, -⟩
  · rw [h]; decide +kernel
  · exact nd_nan h
theorem X5_bits_share {d : Nat} {μ : ev_M} {r : gm_R} (hW : WFr r) (hd : 1 ≤ d := by omega) : ev_CALL d 39 [.double (rShare r)] μ (some (.long (rShare r).toInt64), 0) μ := by
  rcases (sh_cs hW).2.2 with h | ⟨c, q, h, h1, h2⟩
  · rw [h]; exact X5_bitsOf_z
  · exact X5_bitsOf_n h h1 h2
