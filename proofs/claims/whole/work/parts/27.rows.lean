/-! the law's steps are the program's steps -/
/-- a row of registers, closed: the game's row with those values -/
theorem mw_ends {r r2 : gm_R} {P on a : Nat} {x y : Int32} {ly : Nat → Int32} (ho : on < 4) (h0 : r2 (31 + 7 * on) = nI a) (h1 : r2 (31 + 7 * on + 1) = x) (h2 : r2 (31 + 7 * on + 2) = y) (h3 : ∀ k, k < 10 → r2 (21 + k) = ly k) (h4 : ∀ j, (j < 21 ∨ 31 ≤ j) → j ≠ 31 + 7 * on → j ≠ 31 + 7 * on + 1 → j ≠ 31 + 7 * on + 2 → r2 j = r j) : rends r P on a x y ly = gm_ends r2 P on := by
  subst h1 h2
  funext j
  unfold rends gm_ends gm_end rput gm_run wk_g
  rw [h4 0 (by omega) (by omega) (by omega) (by omega), h4 7 (by omega) (by omega) (by omega) (by omega), h4 (31 + 7 * on + 3) (by omega) (by omega) (by omega) (by omega)]
  unfold upd
  by_cases h1 : j = 5
  · rw [if_pos h1, if_pos h1]
  rw [if_neg h1, if_neg h1]
  by_cases h2 : j = 7
  · rw [if_pos h2, if_pos h2]
  rw [if_neg h2, if_neg h2]
  by_cases h3' : j = 31 + 7 * on + 3
  · rw [if_pos h3', if_pos h3']
  rw [if_neg h3', if_neg h3']
  dsimp only
  by_cases h4' : 21 ≤ j ∧ j < 31
  · rw [if_pos h4', if_neg (by omega), if_neg (by omega), ← h3 (j - 21) (by omega), show 21 + (j - 21) = j by omega]
  rw [if_neg h4']
  by_cases h5 : j = 31 + 7 * on + 2
  · rw [if_pos h5, if_pos h5]
  rw [if_neg h5, if_neg h5]
  by_cases h6 : j = 31 + 7 * on + 1
  · rw [if_pos h6, if_pos h6]
  rw [if_neg h6, if_neg h6]
  by_cases h7 : j = 31 + 7 * on
  · rw [if_pos h7, h7, h0]
  · rw [if_neg h7, h4 j (by omega) h7 h6 h5]
theorem mw_wait {r : gm_R} {P on : Nat} (ho : on < 4) (hr : ∀ p, p < 4 → r (31 + 7 * p) = nI (rPl r p)) : rends r P on (rPl r on) (r (31 + 7 * on + 1)) (r (31 + 7 * on + 2)) (fun k => r (21 + k)) = gm_ends r P on := mw_ends ho (hr on ho) rfl rfl (fun _ _ => rfl) (fun _ _ _ _ _ => rfl)
theorem mw_go {r : gm_R} {P on a t : Nat} {pr : Int32} (ho : on < 4) (ha : a < 10) (ht : t < 10) : rends (upd r (31 + 7 * on + 6) (r (31 + 7 * on + 6) + pr)) P on t (r (31 + 7 * on + 1) + upd (fun k => r (21 + k)) a (r (21 + a) + pr) t) (r (31 + 7 * on + 2) - pr) (upd (upd (fun k => r (21 + k)) a (r (21 + a) + pr)) t (nI 0)) = gm_ends (gm_go r on a t pr) P on := by
  refine mw_ends ho ?_ ?_ ?_ (fun k hk => ?_) (fun j h1 h2 h3 h4 => ?_)
  · unfold gm_go; rw [upd_ne (by omega), upd_ne (by omega), upd_eq]
  · unfold gm_go
    rw [upd_ne (by omega), upd_eq]
    unfold gm_pay
    rw [upd_ne (by omega), upd_ne (by omega), upd_ne (by omega)]
    congr 1
    by_cases e : t = a
    · subst e; rw [upd_eq, upd_eq]
    · rw [upd_ne (by omega), upd_ne e, upd_ne (by omega), upd_ne (by omega)]
  · unfold gm_go gm_pay
    rw [upd_ne (by omega), upd_ne (by omega), upd_ne (by omega), upd_ne (by omega), upd_ne (by omega), upd_eq]
  · unfold gm_go
    by_cases e : k = t
    · subst e; rw [upd_eq, upd_eq]
    · rw [upd_ne (by omega), upd_ne (by omega), upd_ne (by omega), upd_ne e]
      unfold gm_pay
      by_cases e2 : k = a
      · subst e2; rw [upd_eq, upd_eq]
      · rw [upd_ne (by omega), upd_ne (by omega), upd_ne (by omega), upd_ne e2]
  · unfold gm_go gm_pay
    rw [upd_ne (by omega), upd_ne (by omega), upd_ne (by omega), upd_ne (by omega)]
    by_cases e : j = 31 + 7 * on + 6
    · subst e; rw [upd_eq, upd_eq]
    · rw [upd_ne e, upd_ne e, upd_ne (by omega)]
theorem mw_turn {r : gm_R} {P on a : Nat} (ho : on < 4) (ha : a < 10) (hp : r (31 + 7 * on) = nI a) : rends (upd r (31 + 7 * on + 6) (r (31 + 7 * on + 6) + r 2)) P on a (r (31 + 7 * on + 2) - r 2) (r (31 + 7 * on + 1)) (upd (fun k => r (21 + k)) a (r (21 + a) + r 2)) = gm_ends (gm_turn r on a) P on := by
  have q1 : ∀ j, (j < 21 ∨ 31 ≤ j) → j ≠ 31 + 7 * on + 2 → j ≠ 31 + 7 * on + 6 → gm_pay r on a (r 2) j = r j := fun j h1 h2 h3 => by
    unfold gm_pay
    rw [upd_ne (by omega), upd_ne (by omega), upd_ne (by omega)]
  refine mw_ends ho ?_ ?_ ?_ (fun k hk => ?_) (fun j h1 h2 h3 h4 => ?_)
  · unfold gm_turn; rw [upd_ne (by omega), upd_ne (by omega), q1 _ (by omega) (by omega) (by omega), hp]
  · unfold gm_turn
    rw [upd_ne (by omega), upd_eq]
    unfold gm_pay
    rw [upd_ne (by omega), upd_ne (by omega), upd_eq]
  · unfold gm_turn
    rw [upd_eq, q1 _ (by omega) (by omega) (by omega)]
  · unfold gm_turn
    rw [upd_ne (by omega), upd_ne (by omega)]
    unfold gm_pay
    by_cases e2 : k = a
    · subst e2; rw [upd_eq, upd_eq]
    · rw [upd_ne (by omega), upd_ne (by omega), upd_ne (by omega), upd_ne e2]
  · unfold gm_turn
    rw [upd_ne (by omega), upd_ne (by omega)]
    unfold gm_pay
    by_cases e : j = 31 + 7 * on + 6
    · subst e; rw [upd_ne (by omega), upd_eq, upd_eq]
    · rw [upd_ne (by omega), upd_ne e, upd_ne e, upd_ne (by omega)]
