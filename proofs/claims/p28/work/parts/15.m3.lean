/-! Ways: prices as numbers -/
def gm_sg (st : Int32) (h : Nat → Int32) (f t : Nat) : Int32 := if gm_sees h f t = true then gm_price st h f t else 1000000
def gm_oi : Option Nat → Int32
  | none => -1
  | some k => nI k
def dj_best (c : Nat → Nat) (sd : Nat → Bool) : Nat → Option Nat
  | 0 => none
  | k + 1 => if sd k = true then dj_best c sd k else match dj_best c sd k with
    | none => some k
    | some b => if c k < c b then some k else some b
theorem dj_best_lt {c : Nat → Nat} {sd : Nat → Bool} : ∀ {k b : Nat}, dj_best c sd k = some b → b < k
  | 0, b, h => by cases h
  | k + 1, b, h => by
    unfold dj_best at h
    by_cases hs : sd k = true
    · rw [if_pos hs] at h
      have := dj_best_lt h; omega
    · rw [if_neg hs] at h
      cases hq : dj_best c sd k with
      | none =>
        rw [hq] at h
        cases h; omega
      | some b2 =>
        rw [hq] at h
        dsimp only at h
        have := dj_best_lt hq
        by_cases hc : c k < c b2
        · rw [if_pos hc] at h; cases h; omega
        · rw [if_neg hc] at h; cases h; omega
def dj_i (a t : Nat) : Nat := if t = a then 0 else 1000000
def dj_relax (s : Nat → Nat → Nat) (nx : Nat) (c : Nat → Nat) : Nat → Nat → Nat
  | 0 => c
  | k + 1 => fun t => if t = k then min (dj_relax s nx c k k) (dj_relax s nx c k nx + s nx k) else dj_relax s nx c k t
theorem dj_relax_s {s : Nat → Nat → Nat} {nx : Nat} {c : Nat → Nat} {k t : Nat} : dj_relax s nx c (k + 1) t = if t = k then min (dj_relax s nx c k k) (dj_relax s nx c k nx + s nx k) else dj_relax s nx c k t := rfl
def dj_round (s : Nat → Nat → Nat) (q : (Nat → Nat) × (Nat → Bool)) : (Nat → Nat) × (Nat → Bool) := match dj_best q.1 q.2 10 with
  | none => q
  | some nx => (dj_relax s nx q.1 10, fun t => decide (t = nx) || q.2 t)
def dj (s : Nat → Nat → Nat) (a : Nat) : Nat → (Nat → Nat) × (Nat → Bool)
  | 0 => (dj_i a, fun _ => false)
  | r + 1 => dj_round s (dj s a r)
theorem dj_stop {s : Nat → Nat → Nat} {a r : Nat} (h : dj_best (dj s a r).1 (dj s a r).2 10 = none) : ∀ k, dj s a (r + k) = dj s a r
  | 0 => rfl
  | k + 1 => by
    show dj_round s (dj s a (r + k)) = _
    rw [dj_stop h k, dj_round, h]
theorem dj_relax_le {s : Nat → Nat → Nat} {nx : Nat} {c : Nat → Nat} : ∀ {k t : Nat}, dj_relax s nx c k t ≤ c t
  | 0, t => Nat.le_refl _
  | k + 1, t => by
    show (if t = k then _ else _) ≤ _
    split
    · rename_i h; subst h
      exact Nat.le_trans (Nat.min_le_left _ _) dj_relax_le
    · exact dj_relax_le
theorem dj_le {s : Nat → Nat → Nat} {a t : Nat} : ∀ {r : Nat}, (dj s a r).1 t ≤ 1000000
  | 0 => by
    show (if _ then _ else _) ≤ _
    split <;> omega
  | r + 1 => by
    show (dj_round s (dj s a r)).1 t ≤ _
    unfold dj_round
    split
    · exact dj_le
    · exact Nat.le_trans dj_relax_le dj_le
def fw_in (m : Nat → Nat → Nat) (o i j : Nat) : Nat → Nat → Nat := fun f t => if f = i ∧ t = j then min (m i j) (m i o + m o j) else m f t
def fw_row (o i : Nat) (m : Nat → Nat → Nat) : Nat → Nat → Nat → Nat
  | 0 => m
  | j + 1 => fw_in (fw_row o i m j) o i j
def fw_all (o : Nat) (m : Nat → Nat → Nat) : Nat → Nat → Nat → Nat
  | 0 => m
  | i + 1 => fw_row o i (fw_all o m i) 10
def fw (s : Nat → Nat → Nat) : Nat → Nat → Nat → Nat
  | 0 => s
  | o + 1 => fw_all o (fw s o) 10
theorem fw_in_le {m : Nat → Nat → Nat} {o i j f t : Nat} : fw_in m o i j f t ≤ m f t := by
  unfold fw_in
  split
  · rename_i h; obtain ⟨rfl, rfl⟩ := h
    exact Nat.min_le_left _ _
  · exact Nat.le_refl _
theorem fw_row_le {m : Nat → Nat → Nat} {o i f t : Nat} : ∀ {j : Nat}, fw_row o i m j f t ≤ m f t
  | 0 => Nat.le_refl _
  | j + 1 => Nat.le_trans fw_in_le fw_row_le
theorem fw_all_le {m : Nat → Nat → Nat} {o f t : Nat} : ∀ {i : Nat}, fw_all o m i f t ≤ m f t
  | 0 => Nat.le_refl _
  | i + 1 => Nat.le_trans fw_row_le fw_all_le
theorem fw_le {s : Nat → Nat → Nat} {f t : Nat} : ∀ {o : Nat}, fw s o f t ≤ s f t
  | 0 => Nat.le_refl _
  | o + 1 => Nat.le_trans fw_all_le fw_le
theorem nI_nm1 {k : Nat} (h : k < 2 ^ 31) : nI k ≠ -1 := fun e => by
  have e2 := congrArg Int32.toInt e
  rw [nI_toInt h] at e2
  have : (-1 : Int32).toInt = -1 := by decide
  omega
theorem million : (1000000 : Int32) = nI 1000000 := by decide +kernel
