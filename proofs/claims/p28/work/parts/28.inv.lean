/-! what the moves keep of what the law holds: sand, moves, tags -/
theorem sT_s {r : gm_R} {k n : Nat} : sT r k (n + 1) = sT r k n + r (31 + 7 * n + k) := rfl
theorem su_ne {r : gm_R} {j k : Nat} {x : Int32} (hk : k < 7) (h : j < 31 ∨ (j - 31) % 7 ≠ k) : ∀ {n : Nat}, sT (upd r j x) k n = sT r k n
  | 0 => rfl
  | n + 1 => by
    rw [sT_s, sT_s, su_ne hk h, upd_ne (by omega)]
theorem su_far {r : gm_R} {p k : Nat} {x : Int32} : ∀ {n : Nat}, n ≤ p → sT (upd r (31 + 7 * p + k) x) k n = sT r k n
  | 0, _ => rfl
  | n + 1, h => by
    rw [sT_s, sT_s, su_far (by omega), upd_ne (by omega)]
theorem su_eq {r : gm_R} {p k : Nat} {x : Int32} : ∀ {n : Nat}, p < n → sT (upd r (31 + 7 * p + k) x) k n = sT r k n + (x - r (31 + 7 * p + k))
  | 0, h => absurd h (Nat.not_lt_zero p)
  | n + 1, h => by
    rw [sT_s, sT_s]
    by_cases e : p = n
    · subst e
      rw [su_far (Nat.le_refl _), upd_eq]
      grind
    · rw [su_eq (by omega), upd_ne (by omega)]
      grind
def sW (r : gm_R) (n : Nat) : Int32 := gm_sum (fun t => r (21 + t)) (nI 0) n
theorem sW_s {r : gm_R} {n : Nat} : sW r (n + 1) = sW r n + r (21 + n) := rfl
theorem tw_ne {r : gm_R} {j : Nat} {x : Int32} : ∀ {n : Nat}, (j < 21 ∨ 21 + n ≤ j) → sW (upd r j x) n = sW r n
  | 0, _ => rfl
  | n + 1, h => by
    rw [sW_s, sW_s, tw_ne (by omega), upd_ne (by omega)]
theorem tw_eq {r : gm_R} {t : Nat} {x : Int32} : ∀ {n : Nat}, t < n → sW (upd r (21 + t) x) n = sW r n + (x - r (21 + t))
  | 0, h => absurd h (Nat.not_lt_zero t)
  | n + 1, h => by
    rw [sW_s, sW_s]
    by_cases e : t = n
    · subst e
      rw [tw_ne (Or.inr (Nat.le_refl _)), upd_eq]
      grind
    · rw [tw_eq (by omega), upd_ne (by omega)]
      grind
def INVP (r : gm_R) (P : Nat) : Prop := (sT r 1 P + sT r 2 P + sW r 10 = r 10 ∧ sT r 3 P = r 7 ∧ sT r 4 P = r 9 ∧ sT r 5 P = r 9) ∧
  ∀ p, P ≤ p → p < 4 → r (31 + 7 * p + 3) = 0 ∧ r (31 + 7 * p + 4) = 0 ∧ r (31 + 7 * p + 5) = 0
theorem INVP.inv {r : gm_R} (h : INVP r (rP r)) : INV r := by
  obtain ⟨⟨h1, h2⟩, -⟩ := h
  refine ⟨?_, h2⟩
  have e : rGl r = sT r 1 (rP r) + sT r 2 (rP r) := by rw [← rGl_two, sum_two]; rfl
  rw [e]
  exact h1
theorem inv_end {r : gm_R} {P on : Nat} {g : Int32} (h : INVP r P) (ho : on < P) (h4 : P ≤ 4) : INVP (gm_end r P on g) P := by
  obtain ⟨⟨h1, h2, h3, h5⟩, hz⟩ := h
  unfold gm_end
  refine ⟨⟨?_, ?_, ?_, ?_⟩, fun p h6 h7 => ?_⟩
  · simp (disch := omega) only [su_eq, su_ne, tw_ne, upd_ne, upd_eq]
    grind
  · simp (disch := omega) only [su_eq, su_ne, tw_ne, upd_ne, upd_eq, nI_one]
    grind
  · simp (disch := omega) only [su_eq, su_ne, tw_ne, upd_ne, upd_eq]
    grind
  · simp (disch := omega) only [su_eq, su_ne, tw_ne, upd_ne, upd_eq]
    grind
  · simp (disch := omega) only [upd_ne]
    exact hz p h6 h7
theorem inv_ref {r : gm_R} {P : Nat} (h : INVP r P) : INVP (gm_ref r) P := by
  obtain ⟨⟨h1, h2, h3, h5⟩, hz⟩ := h
  unfold gm_ref
  refine ⟨⟨?_, ?_, ?_, ?_⟩, fun p h6 h7 => ?_⟩
  · simp (disch := omega) only [su_eq, su_ne, tw_ne, upd_ne, upd_eq]
    grind
  · simp (disch := omega) only [su_eq, su_ne, tw_ne, upd_ne, upd_eq]
    grind
  · simp (disch := omega) only [su_eq, su_ne, tw_ne, upd_ne, upd_eq]
    grind
  · simp (disch := omega) only [su_eq, su_ne, tw_ne, upd_ne, upd_eq]
    grind
  · simp (disch := omega) only [upd_ne]
    exact hz p h6 h7
theorem inv_pay {r : gm_R} {P on a : Nat} {g : Int32} (h : INVP r P) (ho : on < P) (h4 : P ≤ 4) (ha : a < 10) : INVP (gm_pay r on a g) P := by
  obtain ⟨⟨h1, h2, h3, h5⟩, hz⟩ := h
  unfold gm_pay
  refine ⟨⟨?_, ?_, ?_, ?_⟩, fun p h6 h7 => ?_⟩
  · simp (disch := omega) only [su_eq, su_ne, tw_eq, tw_ne, upd_ne, upd_eq]
    grind
  · simp (disch := omega) only [su_eq, su_ne, tw_ne, upd_ne, upd_eq]
    grind
  · simp (disch := omega) only [su_eq, su_ne, tw_ne, upd_ne, upd_eq]
    grind
  · simp (disch := omega) only [su_eq, su_ne, tw_ne, upd_ne, upd_eq]
    grind
  · simp (disch := omega) only [upd_ne]
    exact hz p h6 h7
theorem inv_swap {r : gm_R} {P on : Nat} (h : INVP r P) (ho : on < P) (h4 : P ≤ 4) : INVP (upd (upd r (31 + 7 * on + 1) (r (31 + 7 * on + 2))) (31 + 7 * on + 2) (r (31 + 7 * on + 1))) P := by
  obtain ⟨⟨h1, h2, h3, h5⟩, hz⟩ := h
  refine ⟨⟨?_, ?_, ?_, ?_⟩, fun p h6 h7 => ?_⟩
  · simp (disch := omega) only [su_eq, su_ne, tw_eq, tw_ne, upd_ne, upd_eq]
    grind
  · simp (disch := omega) only [su_eq, su_ne, tw_ne, upd_ne, upd_eq]
    grind
  · simp (disch := omega) only [su_eq, su_ne, tw_ne, upd_ne, upd_eq]
    grind
  · simp (disch := omega) only [su_eq, su_ne, tw_ne, upd_ne, upd_eq]
    grind
  · simp (disch := omega) only [upd_ne]
    exact hz p h6 h7
theorem inv_come {r : gm_R} {P on t : Nat} {x : Int32} (h : INVP r P) (ho : on < P) (h4 : P ≤ 4) (ht : t < 10) : INVP (upd (upd (upd r (31 + 7 * on) x) (31 + 7 * on + 1) (r (31 + 7 * on + 1) + r (21 + t))) (21 + t) (nI 0)) P := by
  obtain ⟨⟨h1, h2, h3, h5⟩, hz⟩ := h
  refine ⟨⟨?_, ?_, ?_, ?_⟩, fun p h6 h7 => ?_⟩
  · simp (disch := omega) only [su_eq, su_ne, tw_eq, tw_ne, upd_ne, upd_eq, nI_0]
    grind
  · simp (disch := omega) only [su_eq, su_ne, tw_ne, upd_ne, upd_eq]
    grind
  · simp (disch := omega) only [su_eq, su_ne, tw_ne, upd_ne, upd_eq]
    grind
  · simp (disch := omega) only [su_eq, su_ne, tw_ne, upd_ne, upd_eq]
    grind
  · simp (disch := omega) only [upd_ne]
    exact hz p h6 h7
theorem inv_tag {r : gm_R} {P on q : Nat} (h : INVP r P) (ho : on < P) (hq : q < P) (h4 : P ≤ 4) : INVP (gm_tag r on q) P := by
  obtain ⟨⟨h1, h2, h3, h5⟩, hz⟩ := h
  unfold gm_tag
  generalize gm_half r q = g
  refine ⟨⟨?_, ?_, ?_, ?_⟩, fun p h6 h7 => ?_⟩
  · simp (disch := omega) only [su_eq, su_ne, tw_eq, tw_ne, upd_ne, upd_eq]
    grind
  · simp (disch := omega) only [su_eq, su_ne, tw_ne, upd_ne, upd_eq]
    grind
  · simp (disch := omega) only [su_eq, su_ne, tw_ne, upd_ne, upd_eq, nI_one]
    grind
  · simp (disch := omega) only [su_eq, su_ne, tw_ne, upd_ne, upd_eq, nI_one]
    grind
  · simp (disch := omega) only [upd_ne]
    exact hz p h6 h7
theorem inv_add {r : gm_R} {P t : Nat} {x : Int32} (h : INVP r P) (h4 : P < 4) (h0 : r (31 + 7 * P + 1) = 0 ∧ r (31 + 7 * P + 2) = 0) : INVP (gm_add r P t x) (P + 1) := by
  obtain ⟨⟨h1, h2, h3, h5⟩, hz⟩ := h
  obtain ⟨z3, z4, z5⟩ := hz P (Nat.le_refl _) h4
  unfold gm_add
  refine ⟨⟨?_, ?_, ?_, ?_⟩, fun p h6 h7 => ?_⟩
  · simp (disch := omega) only [sT_s, su_far, su_ne, tw_eq, tw_ne, upd_ne, upd_eq]
    grind
  · simp (disch := omega) only [sT_s, su_far, su_ne, tw_ne, upd_ne, upd_eq]
    grind
  · simp (disch := omega) only [sT_s, su_far, su_ne, tw_ne, upd_ne, upd_eq]
    grind
  · simp (disch := omega) only [sT_s, su_far, su_ne, tw_ne, upd_ne, upd_eq]
    grind
  · simp (disch := omega) only [upd_ne]
    exact hz p (by omega) h7
theorem inv_lo {r : gm_R} {P j : Nat} {x : Int32} (h : INVP r P) (hj : j < 21) (h1 : j ≠ 10) (h2 : j ≠ 7) (h3 : j ≠ 9) : INVP (upd r j x) P := by
  obtain ⟨⟨h1, h2, h3, h5⟩, hz⟩ := h
  refine ⟨⟨?_, ?_, ?_, ?_⟩, fun p h6 h7 => ?_⟩
  · simp (disch := omega) only [su_ne, tw_ne, upd_ne]
    exact h1
  · simp (disch := omega) only [su_ne, tw_ne, upd_ne]
    exact h2
  · simp (disch := omega) only [su_ne, tw_ne, upd_ne]
    exact h3
  · simp (disch := omega) only [su_ne, tw_ne, upd_ne]
    exact h5
  · simp (disch := omega) only [upd_ne]
    exact hz p h6 h7
