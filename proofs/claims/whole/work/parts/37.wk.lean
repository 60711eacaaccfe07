/-! the fewest own turns: the program's search and the law's list of all of them -/
abbrev wS : Type := (Nat → Int32) × Nat × Int32 × Int32
def wRun (r : gm_R) (s : wS) : wS := (s.1, s.2.1, s.2.2.1 - wk_g (r 0) s.2.2.1, s.2.2.2 + wk_g (r 0) s.2.2.1)
/-- one own turn: a stride (0 to 9), nothing (10), turning over (11) -/
def stp (r : gm_R) (mv : Nat) (s : wS) : Option wS :=
  if mv < 10 then (if mv ≠ s.2.1 ∧ nI (rq r s.2.1 mv) ≤ s.2.2.2 then some (wRun r (upd (upd s.1 mv (nI 0)) s.2.1 (upd s.1 mv (nI 0) s.2.1 + nI (rq r s.2.1 mv)), mv, s.2.2.1 + s.1 mv, s.2.2.2 - nI (rq r s.2.1 mv))) else none)
  else if mv = 10 then some (wRun r s)
  else if s.2.2.2 < r 2 then none else some (wRun r (upd s.1 s.2.1 (s.1 s.2.1 + r 2), s.2.1, s.2.2.2 - r 2, s.2.2.1))
def Eg (r : gm_R) (gl : Nat) : Nat → wS → Prop
  | 0, s => s.2.1 = gl
  | j + 1, s => ∃ mv, mv < 12 ∧ ∃ s2, stp r mv s = some s2 ∧ Eg r gl j s2
def wR (r : gm_R) (gl n : Nat) (s : wS) : Bool := wk_rc (fun f t => nI (rq r f t)) gl (r 0) (r 2) n s.1 s.2.1 s.2.2.1 s.2.2.2
theorem wk_any_ex {f : Nat → Bool} : ∀ n, wk_any f n = true ↔ ∃ k, k < n ∧ f k = true
  | 0 => ⟨fun h => (by cases h), fun ⟨k, hk, _⟩ => absurd hk (Nat.not_lt_zero k)⟩
  | n + 1 => by
    show (wk_any f n || f n) = true ↔ _
    rw [Bool.or_eq_true, wk_any_ex n]
    constructor
    · rintro (⟨k, hk, h⟩ | h)
      · exact ⟨k, by omega, h⟩
      · exact ⟨n, by omega, h⟩
    · rintro ⟨k, hk, h⟩
      rcases Nat.lt_or_ge k n with q | q
      · exact Or.inl ⟨k, q, h⟩
      · rw [show k = n by omega] at h; exact Or.inr h
theorem wR_s {r : gm_R} {gl n : Nat} {s : wS} : wR r gl (n + 1) s = true ↔ nI (rq r s.2.1 gl) ≤ s.2.2.2 ∨ (¬ nI (rq r s.2.1 gl) ≤ s.2.2.2 ∧ n ≠ 0 ∧ ∃ mv s2, mv < 12 ∧ stp r mv s = some s2 ∧ wR r gl n s2 = true) := by
  obtain ⟨ly, a, ab, bl⟩ := s
  unfold wR
  rw [wk_rc]
  dsimp only
  by_cases h1 : nI (rq r a gl) ≤ bl
  · rw [if_pos h1]; simp [h1]
  · rw [if_neg h1]
    by_cases h2 : n = 0
    · rw [if_pos h2]; simp [h1, h2]
    · rw [if_neg h2, Bool.or_eq_true, Bool.or_eq_true, wk_any_ex]
      constructor
      · intro h
        refine Or.inr ⟨h1, h2, ?_⟩
        rcases h with h | h | ⟨k, hk, h⟩
        · exact ⟨10, _, by omega, rfl, h⟩
        · by_cases h3 : bl < r 2
          · rw [if_pos h3] at h; cases h
          · rw [if_neg h3] at h
            exact ⟨11, wRun r (upd ly a (ly a + r 2), a, bl - r 2, ab), by omega, by unfold stp; rw [if_neg (by omega), if_neg (by omega), if_neg h3], h⟩
        · simp only [Bool.and_eq_true, decide_eq_true_eq] at h
          exact ⟨k, wRun r (upd (upd ly k (nI 0)) a (upd ly k (nI 0) a + nI (rq r a k)), k, ab + ly k, bl - nI (rq r a k)), by omega, by unfold stp; rw [if_pos hk, if_pos ⟨h.1, h.2.1⟩], h.2.2⟩
      · rintro (h | ⟨-, -, mv, s2, hm, hs, h⟩)
        · exact absurd h h1
        · unfold stp at hs
          by_cases e1 : mv < 10
          · rw [if_pos e1] at hs
            by_cases e2 : mv ≠ a ∧ nI (rq r a mv) ≤ bl
            · rw [if_pos e2] at hs
              cases hs
              right; right
              refine ⟨mv, e1, ?_⟩
              simp only [Bool.and_eq_true, decide_eq_true_eq]
              exact ⟨e2.1, e2.2, h⟩
            · rw [if_neg e2] at hs; cases hs
          · rw [if_neg e1] at hs
            by_cases e2 : mv = 10
            · rw [if_pos e2] at hs; cases hs
              exact Or.inl h
            · rw [if_neg e2] at hs
              by_cases e3 : bl < r 2
              · rw [if_pos e3] at hs; cases hs
              · rw [if_neg e3] at hs; cases hs
                right; left
                rw [if_neg e3]; exact h
theorem stp_at {r : gm_R} {mv : Nat} {s s2 : wS} (h : stp r mv s = some s2) : s2.2.1 = (if mv < 10 then mv else s.2.1) ∧ (mv < 10 → mv ≠ s.2.1 ∧ nI (rq r s.2.1 mv) ≤ s.2.2.2) := by
  unfold stp at h
  by_cases e1 : mv < 10
  · rw [if_pos e1] at h ⊢
    split at h
    · rename_i e2
      cases h
      exact ⟨rfl, fun _ => e2⟩
    · cases h
  · rw [if_neg e1] at h ⊢
    refine ⟨?_, fun q => absurd q e1⟩
    split at h
    · cases h; rfl
    · split at h
      · cases h
      · cases h; rfl
theorem wR_E {r : gm_R} {gl : Nat} (hg : gl < 10) : ∀ (n : Nat) (s : wS), s.2.1 ≠ gl → (wR r gl n s = true ↔ ∃ j, 1 ≤ j ∧ j ≤ n ∧ Eg r gl j s)
  | 0, s, _ => ⟨fun h => (by unfold wR wk_rc at h; cases h), fun ⟨j, h1, h2, _⟩ => (by omega)⟩
  | n + 1, s, hs => by
    rw [wR_s]
    constructor
    · rintro (h | ⟨h1, h2, mv, s2, hm, h3, h4⟩)
      · have hst : ∃ s2, stp r gl s = some s2 := by unfold stp; rw [if_pos hg, if_pos ⟨fun e => hs e.symm, h⟩]; exact ⟨_, rfl⟩
        obtain ⟨s2, e2⟩ := hst
        refine ⟨1, by omega, by omega, gl, by omega, s2, e2, ?_⟩
        have := (stp_at e2).1
        rw [if_pos hg] at this
        exact this
      · have ha := stp_at h3
        have hn : s2.2.1 ≠ gl := by
          intro e
          by_cases e1 : mv < 10
          · rw [if_pos e1] at ha
            have := (ha.2 e1).2
            rw [show mv = gl by rw [← e]; exact ha.1.symm] at this
            exact h1 this
          · rw [if_neg e1] at ha
            exact hs (ha.1.symm.trans e)
        obtain ⟨j, j1, j2, j3⟩ := (wR_E hg n s2 hn).mp h4
        exact ⟨j + 1, by omega, by omega, mv, hm, s2, h3, j3⟩
    · rintro ⟨j, j1, j2, j3⟩
      obtain ⟨i, rfl⟩ : ∃ i, j = i + 1 := ⟨j - 1, by omega⟩
      obtain ⟨mv, hm, s2, h3, h4⟩ := j3
      have ha := stp_at h3
      by_cases hgl : nI (rq r s.2.1 gl) ≤ s.2.2.2
      · exact Or.inl hgl
      · right
        have hn : s2.2.1 ≠ gl := by
          intro e
          by_cases e1 : mv < 10
          · rw [if_pos e1] at ha
            have := (ha.2 e1).2
            rw [show mv = gl by rw [← e]; exact ha.1.symm] at this
            exact hgl this
          · rw [if_neg e1] at ha
            exact hs (ha.1.symm.trans e)
        have hi : 1 ≤ i := by
          rcases Nat.eq_zero_or_pos i with e | e
          · subst e; exact absurd h4 hn
          · exact e
        exact ⟨hgl, by omega, mv, s2, hm, h3, (wR_E hg n s2 hn).mpr ⟨i, hi, by omega, h4⟩⟩
/-- the law's list: so many turns, told by a number of as many digits -/
def sq (r : gm_R) : Nat → Nat → wS → Option wS
  | 0, _, s => some s
  | n + 1, m, s => match stp r (m / 12 ^ n) s with
    | none => none
    | some s2 => sq r n (m % 12 ^ n) s2
theorem sq_E {r : gm_R} {gl : Nat} : ∀ (n : Nat) (s : wS), Eg r gl n s ↔ ∃ m s2, m < 12 ^ n ∧ sq r n m s = some s2 ∧ s2.2.1 = gl
  | 0, s => ⟨fun h => ⟨0, s, by decide, rfl, h⟩, fun ⟨m, s2, _, h1, h2⟩ => by cases h1; exact h2⟩
  | n + 1, s => by
    have hp : 0 < 12 ^ n := Nat.pow_pos (by decide)
    constructor
    · rintro ⟨mv, hm, s2, h1, h2⟩
      obtain ⟨m, s3, h3, h4, h5⟩ := (sq_E n s2).mp h2
      refine ⟨mv * 12 ^ n + m, s3, ?_, ?_, h5⟩
      · rw [Nat.pow_succ]
        have : mv * 12 ^ n + 12 ^ n ≤ 12 * 12 ^ n := by
          rw [← Nat.succ_mul]; exact Nat.mul_le_mul_right _ hm
        omega
      · unfold sq
        rw [show (mv * 12 ^ n + m) / 12 ^ n = mv by rw [Nat.mul_comm, Nat.mul_add_div hp, Nat.div_eq_of_lt h3, Nat.add_zero], h1]
        dsimp only
        rw [show (mv * 12 ^ n + m) % 12 ^ n = m by rw [Nat.mul_comm, Nat.mul_add_mod, Nat.mod_eq_of_lt h3]]
        exact h4
    · rintro ⟨m, s3, h3, h4, h5⟩
      unfold sq at h4
      cases hs : stp r (m / 12 ^ n) s with
      | none => rw [hs] at h4; cases h4
      | some s2 =>
        rw [hs] at h4
        dsimp only at h4
        refine ⟨m / 12 ^ n, ?_, s2, hs, (sq_E n s2).mpr ⟨m % 12 ^ n, s3, Nat.mod_lt _ hp, h4, h5⟩⟩
        rw [Nat.div_lt_iff_lt_mul hp]
        rw [Nat.pow_succ] at h3
        omega
/-- sand and place of a player's own turns stay in bounds -/
def Bd (s : wS) : Prop := s.2.1 < 10 ∧ ∃ (x y : Nat) (l : Nat → Nat), s.2.2.1 = nI x ∧ s.2.2.2 = nI y ∧ (∀ k, k < 10 → s.1 k = nI (l k)) ∧ x + y + nsum l 10 ≤ 800
theorem wk_gN {x s : Nat} (hx : x < 2 ^ 31) (hs : s < 2 ^ 31) : wk_g (nI s) (nI x) = nI (min x s) := by
  unfold wk_g
  by_cases h : x < s
  · rw [if_pos (nI_lt h hs), Nat.min_eq_left (by omega)]
  · rw [if_neg (nI_nlt (by omega) hx), Nat.min_eq_right (by omega)]
theorem Bd.run {r : gm_R} {s : wS} (hW : WFr r) (h : Bd s) : Bd (wRun r s) := by
  obtain ⟨P, on, it, br, s0, s1, s2, s3, hh, sd, pl, ab, bl, ⟨a1, a2, a3, -⟩, -⟩ := hW
  obtain ⟨h1, x, y, l, h2, h3, h4, h5⟩ := h
  refine ⟨h1, x - min x s0, y + min x s0, l, ?_, ?_, h4, by omega⟩
  · show s.2.2.1 - wk_g (r 0) s.2.2.1 = _
    rw [h2, a1, wk_gN (by omega) (by omega), pk_sub (by omega)]
  · show s.2.2.2 + wk_g (r 0) s.2.2.1 = _
    rw [h2, h3, a1, wk_gN (by omega) (by omega), nI_add]
theorem Bd_stp {r : gm_R} {mv : Nat} {s t : wS} (hW : WFr r) (h : Bd s) (hs : stp r mv s = some t) : Bd t := by
  have hW' := hW
  obtain ⟨P, on, it, br, s0, s1, s2, s3, hh, sd, pl, ab, bl, ⟨a1, a2, a3, a4, a5, a6, a7, a8, a9⟩, -⟩ := hW'
  obtain ⟨h1, x, y, l, h2, h3, h4, h5⟩ := h
  have la := nsum_le (f := l) h1
  unfold stp at hs
  by_cases e1 : mv < 10
  · rw [if_pos e1] at hs
    by_cases e2 : mv ≠ s.2.1 ∧ nI (rq r s.2.1 mv) ≤ s.2.2.2
    · rw [if_pos e2] at hs
      cases hs
      have hq : rq r s.2.1 mv ≤ y := by
        have := e2.2
        rw [h3] at this
        exact (nI_leI (by have := rq_le hW h1 e1; omega) (by omega)).mp this
      refine Bd.run hW ⟨e1, x + l mv, y - rq r s.2.1 mv, nup (nup l mv 0) s.2.1 (l s.2.1 + rq r s.2.1 mv), ?_, ?_, fun k hk => ?_, ?_⟩
      · show s.2.2.1 + s.1 mv = _
        rw [h2, h4 mv e1, nI_add]
      · show s.2.2.2 - nI _ = _
        rw [h3, pk_sub hq]
      · show upd (upd s.1 mv (nI 0)) s.2.1 (upd s.1 mv (nI 0) s.2.1 + nI (rq r s.2.1 mv)) k = _
        rw [upd_ne (Ne.symm e2.1)]
        unfold upd nup
        by_cases e3 : k = s.2.1
        · rw [if_pos e3, if_pos e3, h4 _ h1, nI_add]
        · rw [if_neg e3, if_neg e3]
          by_cases e4 : k = mv
          · rw [if_pos e4, if_pos e4]
          · rw [if_neg e4, if_neg e4, h4 k hk]
      · have v1 := nsum_nup (f := nup l mv 0) (v := l s.2.1 + rq r s.2.1 mv) h1
        have v2 := nsum_nup (f := l) (v := 0) e1
        rw [nup_ne (Ne.symm e2.1)] at v1
        omega
    · rw [if_neg e2] at hs; cases hs
  · rw [if_neg e1] at hs
    by_cases e2 : mv = 10
    · rw [if_pos e2] at hs; cases hs
      exact Bd.run hW ⟨h1, x, y, l, h2, h3, h4, h5⟩
    · rw [if_neg e2] at hs
      by_cases e3 : s.2.2.2 < r 2
      · rw [if_pos e3] at hs; cases hs
      · rw [if_neg e3] at hs; cases hs
        have hq : s2 ≤ y := by
          rcases Nat.lt_or_ge y s2 with q | q
          · exact absurd (by rw [h3, a6]; exact nI_lt q (by omega)) e3
          · exact q
        refine Bd.run hW ⟨h1, y - s2, x, nup l s.2.1 (l s.2.1 + s2), ?_, h2, fun k hk => ?_, ?_⟩
        · show s.2.2.2 - r 2 = _
          rw [h3, a6, pk_sub hq]
        · show upd s.1 s.2.1 (s.1 s.2.1 + r 2) k = _
          unfold upd nup
          by_cases e5 : k = s.2.1
          · rw [if_pos e5, if_pos e5, h4 _ h1, a6, nI_add]
          · rw [if_neg e5, if_neg e5, h4 k hk]
        · have v1 := nsum_nup (f := l) (v := l s.2.1 + s2) h1
          omega
theorem why_iff {r : gm_R} {s : wS} {mv : Nat} (hW : WFr r) (h : Bd s) (hm : mv < 10) : gm_why (r 1) (rH r) s.2.2.2 s.2.1 mv = 0 ↔ (mv ≠ s.2.1 ∧ nI (rq r s.2.1 mv) ≤ s.2.2.2) := by
  obtain ⟨h1, x, y, l, h2, h3, h4, h5⟩ := h
  unfold gm_why
  by_cases e1 : s.2.1 = mv
  · rw [if_pos e1]
    exact ⟨fun h => absurd h (by decide), fun h => absurd e1.symm h.1⟩
  · rw [if_neg e1]
    by_cases e2 : gm_sees (rH r) s.2.1 mv = false
    · rw [if_pos e2]
      refine ⟨fun h => absurd h (by decide), fun h => ?_⟩
      have hq := h.2
      rw [show rq r s.2.1 mv = 1000000 by unfold rq; rw [if_neg (by rw [e2]; decide)], h3] at hq
      have := (nI_leI (by omega) (by omega)).mp hq
      omega
    · have e4 : gm_price (r 1) (rH r) s.2.1 mv = nI (rq r s.2.1 mv) := by
        rw [(rq_price hW h1 hm).1]
        exact congrArg nI (if_pos (by simpa using e2)).symm
      rw [if_neg e2, e4]
      split
      · rename_i e3
        exact ⟨fun h => absurd h (by decide), fun h => absurd h.2 (Int32.not_le.mpr e3)⟩
      · rename_i e3
        exact ⟨fun _ => ⟨Ne.symm e1, Int32.not_lt.mp e3⟩, fun _ => rfl⟩
