/-! rows as games: what a move does; the whole state; what every call answers -/
def gm_is (x : Int32) (n : Nat) : Bool := decide (0 ≤ x.toInt) && decide (x.toInt < (n : Int))
theorem gm_is_t {x : Int32} {n : Nat} (h : gm_is x n = true) (hn : n ≤ 400) : ∃ k, k < n ∧ x = nI k := by
  unfold gm_is at h
  simp only [Bool.and_eq_true, decide_eq_true_eq] at h
  refine ⟨x.toInt.toNat, by omega, Int32.toInt_inj.mp ?_⟩
  rw [nI_toInt (by omega)]
  omega
theorem gm_is_nI {k n : Nat} (hk : k < 2 ^ 31) : gm_is (nI k) n = decide (k < n) := by
  unfold gm_is
  rw [nI_toInt hk]
  by_cases h : k < n
  · simp [h]
  · simp [h]
theorem gm_is_c {x : Int32} {n : Nat} (hn : n ≤ 400) : (!decide (x < 0) && !decide (nI n ≤ x)) = gm_is x n := by
  unfold gm_is
  have q1 : x < 0 ↔ x.toInt < 0 := Int32.lt_iff_toInt_lt
  have q2 : nI n ≤ x ↔ (n : Int) ≤ x.toInt := by rw [← nI_toInt (n := n) (by omega)]; exact Int32.le_iff_toInt_le
  rw [Bool.eq_iff_iff]
  simp [q1, q2]
theorem gm_is_m {x : Int32} {n : Nat} (hn : n ≤ 400) (h0 : 0 < n) : (decide (nI 0 ≤ x) && decide (x ≤ nI (n - 1))) = gm_is x n := by
  unfold gm_is
  have q1 : nI 0 ≤ x ↔ (0 : Int) ≤ x.toInt := by rw [Int32.le_iff_toInt_le, nI_toInt (by omega)]; rfl
  have q2 : x ≤ nI (n - 1) ↔ x.toInt ≤ ((n - 1 : Nat) : Int) := by rw [← nI_toInt (n := n - 1) (by omega)]; exact Int32.le_iff_toInt_le
  rw [Bool.eq_iff_iff]
  simp [q1, q2]
  omega
/-- the numbers of a row -/
def rP (r : gm_R) : Nat := (r 4).toNatClampNeg
def rOn (r : gm_R) : Nat := (r 5).toNatClampNeg
def rIt (r : gm_R) : Nat := (r 6).toNatClampNeg
def rPl (r : gm_R) (p : Nat) : Nat := (r (31 + 7 * p)).toNatClampNeg
def rH (r : gm_R) : Nat → Int32 := fun k => r (11 + k)
def nsum (f : Nat → Nat) : Nat → Nat
  | 0 => 0
  | n + 1 => nsum f n + f n
theorem nsum_le {f : Nat → Nat} {i : Nat} : ∀ {n : Nat}, i < n → f i ≤ nsum f n
  | 0, h => absurd h (Nat.not_lt_zero i)
  | n + 1, h => by
    show f i ≤ nsum f n + f n
    rcases Nat.lt_or_ge i n with q | q
    · have := nsum_le (f := f) q; omega
    · have : i = n := by omega
      subst this; omega
theorem nsum_cong {f g : Nat → Nat} : ∀ {n : Nat}, (∀ k, k < n → f k = g k) → nsum f n = nsum g n
  | 0, _ => rfl
  | n + 1, h => by
    show nsum f n + f n = nsum g n + g n
    rw [nsum_cong (fun k hk => h k (by omega)), h n (by omega)]
def nup (f : Nat → Nat) (i v : Nat) : Nat → Nat := fun k => if k = i then v else f k
theorem nsum_nup {f : Nat → Nat} {i v : Nat} : ∀ {n : Nat}, i < n → nsum (nup f i v) n + f i = nsum f n + v
  | 0, h => absurd h (Nat.not_lt_zero i)
  | n + 1, h => by
    show nsum (nup f i v) n + nup f i v n + f i = nsum f n + f n + v
    rcases Nat.lt_or_ge i n with q | q
    · have := nsum_nup (f := f) (v := v) q
      rw [show nup f i v n = f n from if_neg (by omega)]; omega
    · have : i = n := by omega
      subst this
      rw [show nup f i v i = v from if_pos rfl, nsum_cong (f := nup f i v) (g := f) (fun k hk => if_neg (by omega))]; omega
/-- a row that is a game's: its numbers; the sand of all is what was brought -/
def WFr (r : gm_R) : Prop := ∃ (P on it br s0 s1 s2 s3 : Nat) (hh sd pl ab bl : Nat → Nat),
  (r 0 = nI s0 ∧ 1 ≤ s0 ∧ s0 ≤ 20 ∧ r 1 = nI s1 ∧ s1 ≤ 9 ∧ r 2 = nI s2 ∧ s2 ≤ 20 ∧ r 3 = nI s3 ∧ s3 ≤ 9) ∧
  (r 4 = nI P ∧ P ≤ 4 ∧ r 5 = nI on ∧ on < 4 ∧ (0 < P → on < P) ∧ (P = 0 → on = 0) ∧ r 6 = nI it ∧ it < 4 ∧ (0 < P → it < P) ∧ (P = 0 → it = 0)) ∧
  ((∀ k, k < 10 → r (11 + k) = nI (hh k)) ∧ (∀ k, hh k ≤ 9) ∧ (∀ k, k < 10 → r (21 + k) = nI (sd k))) ∧
  ((∀ p, p < 4 → r (31 + 7 * p) = nI (pl p)) ∧ (∀ p, pl p < 10) ∧ (∀ p, p < 4 → r (31 + 7 * p + 1) = nI (ab p)) ∧ (∀ p, p < 4 → r (31 + 7 * p + 2) = nI (bl p)) ∧ (∀ p, P ≤ p → p < 4 → ab p = 0 ∧ bl p = 0)) ∧
  nsum sd 10 + nsum ab 4 + nsum bl 4 = br ∧ br ≤ 200 * P ∧ (∀ j, 59 ≤ j → r j = 0)
theorem cl_nI {k : Nat} (h : k < 2 ^ 31) : (nI k).toNatClampNeg = k := nI_clamp h
def rm_wait (r : gm_R) : gm_R := gm_ends r (rP r) (rOn r)
def rm_turn (r : gm_R) : Int32 × gm_R := if r (31 + 7 * rOn r + 2) < r 2 then (nI 4, gm_ref r) else (nI 0, gm_ends (gm_turn r (rOn r) (rPl r (rOn r))) (rP r) (rOn r))
def rm_why (r : gm_R) (p t : Nat) : Int32 := gm_why (r 1) (rH r) (r (31 + 7 * p + 2)) (rPl r p) t
def rm_stride (r : gm_R) (t : Nat) : Int32 × gm_R := (rm_why r (rOn r) t, if rm_why r (rOn r) t = 0 then gm_ends (gm_go r (rOn r) (rPl r (rOn r)) t (gm_price (r 1) (rH r) (rPl r (rOn r)) t)) (rP r) (rOn r) else gm_ref r)
def rm_tagw (r : gm_R) (p q : Nat) : Int32 := gm_tagw (rH r) (r 3) (rIt r) p q (rPl r p) (rPl r q)
def rm_tag (r : gm_R) (q : Nat) : Int32 × gm_R := (rm_tagw r (rOn r) q, if rm_tagw r (rOn r) q = 0 then gm_ends (gm_tag r (rOn r) q) (rP r) (rOn r) else gm_ref r)
/-- no move may be made -/
def rm_over (r : gm_R) : Bool := !(!decide (r 4 ≤ 0) && !decide (nI 9999 ≤ r 7))
/-- the state: the row, the saved ones, the slots, the buffer -/
abbrev gS : Type := gm_R × (Nat × (Nat → gm_R)) × ((Nat → Bool) × (Nat → gm_R)) × (Nat × (Nat → Int32))
def gSave (S : gS) : Nat × (Nat → gm_R) := if S.2.1.1 = 6 then (6, fun i => if i < 5 then S.2.1.2 (i + 1) else S.1) else (S.2.1.1 + 1, fun i => if i = S.2.1.1 then S.1 else S.2.1.2 i)
/-- the state with another row, the old one saved -/
def gTo (S : gS) (r : gm_R) : gS := (r, gSave S, S.2.2.1, S.2.2.2)
def WFS (S : gS) : Prop := WFr S.1 ∧ S.2.1.1 ≤ 6 ∧ (∀ i, i < S.2.1.1 → WFr (S.2.1.2 i)) ∧ (∀ s, s < 2 → S.2.2.1.1 s = true → WFr (S.2.2.1.2 s)) ∧ S.2.2.2.1 ≤ 60
/-- what a call answers: 0 or which exception, the answer, the state behind it -/
abbrev gA : Type := Nat × Int32 × gS
def op_height (S : gS) (x y : Int32) : gA := if gm_is x 10 = false then (1, 0, S) else if gm_is y 10 = false then (2, 0, S) else (0, S.1 (11 + x.toNatClampNeg), gTo S (upd S.1 (11 + x.toNatClampNeg) y))
def op_player (S : gS) (x y : Int32) : gA := if gm_is x 10 = false then (1, 0, S) else if gm_is y 201 = false then (2, 0, S) else if 4 ≤ rP S.1 then (3, 0, S) else (0, nI (rP S.1), gTo S (gm_add S.1 (rP S.1) x.toNatClampNeg y))
def gm_lo (k : Nat) : Nat := if k = 0 then 1 else 0
def gm_up (k : Nat) : Nat := if k = 0 then 20 else if k = 2 then 20 else 9
def op_set (S : gS) (x y : Int32) : gA := if gm_is x 4 = false then (1, 0, S) else if (decide (nI (gm_lo x.toNatClampNeg) ≤ y) && decide (y ≤ nI (gm_up x.toNatClampNeg))) = false then (2, 0, S) else (0, S.1 x.toNatClampNeg, gTo S (upd S.1 x.toNatClampNeg y))
def op_rest (S : gS) : gA := if rm_over S.1 = true then (1, 0, S) else (0, gm_run S.1 (rOn S.1), gTo S (rm_wait S.1))
def op_stride (S : gS) (x : Int32) : gA := if gm_is x 10 = false then (1, 0, S) else if rm_over S.1 = true then (2, 0, S) else (0, (rm_stride S.1 x.toNatClampNeg).1, gTo S (rm_stride S.1 x.toNatClampNeg).2)
def op_turn (S : gS) : gA := if rm_over S.1 = true then (1, 0, S) else (0, (rm_turn S.1).1, gTo S (rm_turn S.1).2)
def op_tag (S : gS) (x : Int32) : gA := if gm_is x (rP S.1) = false then (1, 0, S) else if rm_over S.1 = true then (2, 0, S) else (0, (rm_tag S.1 x.toNatClampNeg).1, gTo S (rm_tag S.1 x.toNatClampNeg).2)
def gCodes (f : Nat → Int32) (n : Nat) (c : Int32) : Nat → Int32 := fun i => if i = n then c else f i
def op_append (S : gS) (x : Int32) : gA := if (decide (nI 33 ≤ x) && decide (x ≤ nI 126)) = false then (1, 0, S) else if 60 ≤ S.2.2.2.1 then (2, 0, S) else (0, nI (S.2.2.2.1 + 1), (S.1, S.2.1, S.2.2.1, (S.2.2.2.1 + 1, gCodes S.2.2.2.2 S.2.2.2.1 x)))
def gClr (S : gS) : gS := (S.1, S.2.1, S.2.2.1, (0, S.2.2.2.2))
def op_clear (S : gS) : gA := (0, nI S.2.2.2.1, gClr S)
def op_error (S : gS) : gA := (0, nI (gm_fw S.2.2.2.2 S.2.2.2.1), S)
/-- a move of a text: whether it is done, the row behind it -/
def rm_play (r : gm_R) (c d : Int32) : Bool × gm_R := if rm_over r = true then (false, r)
  else if c = nI 119 then (true, rm_wait r)
  else if c = nI 111 then (decide ((rm_turn r).1 = 0), (rm_turn r).2)
  else if c = nI 115 then (if gm_is d 10 = false then (false, r) else (decide ((rm_stride r d.toNatClampNeg).1 = 0), (rm_stride r d.toNatClampNeg).2))
  else (if gm_is d (rP r) = false then (false, r) else (decide ((rm_tag r d.toNatClampNeg).1 = 0), (rm_tag r d.toNatClampNeg).2))
/-- the moves of a text from a place on, so many at most: how many are done, the row behind them -/
def rm_runs (f : Nat → Int32) (n : Nat) : Nat → Nat → gm_R → Nat × gm_R
  | 0, _, r => (0, r)
  | m + 1, k, r => if k < n then
      (if (rm_play r (gm_cd f n k) (gm_dg (gm_cd f n (k + 1)))).1 = true then ((rm_runs f n m (k + gm_wd (gm_cd f n k)) (rm_play r (gm_cd f n k) (gm_dg (gm_cd f n (k + 1)))).2).1 + 1, (rm_runs f n m (k + gm_wd (gm_cd f n k)) (rm_play r (gm_cd f n k) (gm_dg (gm_cd f n (k + 1)))).2).2)
       else (0, (rm_play r (gm_cd f n k) (gm_dg (gm_cd f n (k + 1)))).2))
    else (0, r)
def op_run (S : gS) : gA := if gm_tells S.2.2.2.2 S.2.2.2.1 = false then (1, 0, S) else (0, nI (rm_runs S.2.2.2.2 S.2.2.2.1 60 0 S.1).1, gClr (gTo S (rm_runs S.2.2.2.2 S.2.2.2.1 60 0 S.1).2))
def op_keep (S : gS) (x : Int32) : gA := if gm_is x 2 = false then (1, 0, S) else (0, S.1 7, (S.1, S.2.1, ((fun s => decide (s = x.toNatClampNeg) || S.2.2.1.1 s), (fun s => if s = x.toNatClampNeg then S.1 else S.2.2.1.2 s)), S.2.2.2))
def op_back (S : gS) (x : Int32) : gA := if gm_is x 2 = false then (1, 0, S) else if S.2.2.1.1 x.toNatClampNeg = false then (2, 0, S) else (0, S.2.2.1.2 x.toNatClampNeg 7, gTo S (S.2.2.1.2 x.toNatClampNeg))
def op_undo (S : gS) : gA := if S.2.1.1 = 0 then (1, 0, S) else (0, nI (S.2.1.1 - 1), (S.2.1.2 (S.2.1.1 - 1), (S.2.1.1 - 1, S.2.1.2), S.2.2.1, S.2.2.2))
def rTower (r : gm_R) (t w : Nat) : Int32 := if w = 0 then r (11 + t) else if w = 1 then r (21 + t) else if w = 2 then gm_mask (fun k => decide (r (31 + 7 * k) = nI t)) (rP r) else gm_mask (gm_sees (rH r) t) 10
def op_tower (S : gS) (x y : Int32) : gA := if gm_is x 10 = false then (1, 0, S) else if gm_is y 4 = false then (2, 0, S) else (0, rTower S.1 x.toNatClampNeg y.toNatClampNeg, S)
def rPlayer (r : gm_R) (p w : Nat) : Int32 := if w < 3 then r (31 + 7 * p + w) else if w = 3 then bI (decide (r 6 = nI p)) else if w < 8 then r (31 + 7 * p + (w - 1)) else gm_mask (fun t => decide (rm_why r p t = 0)) 10
def op_playerOf (S : gS) (x y : Int32) : gA := if gm_is x (rP S.1) = false then (1, 0, S) else if gm_is y 9 = false then (2, 0, S) else (0, rPlayer S.1 x.toNatClampNeg y.toNatClampNeg, S)
def rGl (r : gm_R) : Int32 := gm_sum (fun p => r (31 + 7 * p + 1)) (gm_sum (fun p => r (31 + 7 * p + 2)) (nI 0) (rP r)) (rP r)
def rTw (r : gm_R) : Int32 := gm_sum (fun t => r (21 + t)) (nI 0) 10
def sNum (S : gS) (w : Nat) : Int32 := if w = 0 then S.1 4 else if w = 1 then (if S.1 4 ≤ 0 then -1 else S.1 5) else if w = 2 then (if S.1 4 ≤ 0 then -1 else S.1 6) else if w = 3 then S.1 7 else if w = 4 then S.1 8 else if w = 5 then S.1 9 else if w = 6 then rGl S.1 + rTw S.1 else if w = 7 then rGl S.1 else if w = 8 then rTw S.1 else if w = 9 then S.1 10 else nI S.2.1.1
def op_count (S : gS) (x : Int32) : gA := if gm_is x 11 = false then (1, 0, S) else (0, sNum S x.toNatClampNeg, S)
def op_setting (S : gS) (x : Int32) : gA := if gm_is x 4 = false then (1, 0, S) else (0, S.1 x.toNatClampNeg, S)
def op_whyNot (S : gS) (x y : Int32) : gA := if (gm_is x (rP S.1) && gm_is y 10) = false then (1, 0, S) else (0, rm_why S.1 x.toNatClampNeg y.toNatClampNeg, S)
def rPrey (r : gm_R) : Int32 := gm_mask (fun k => decide (rm_tagw r (rIt r) k = 0)) (rP r)
def rLook (r : gm_R) : Nat := (gm_look (fun t => gm_bc (gm_mask (gm_sees (rH r) t) 10)) 10).1
def rShare (r : gm_R) : UInt64 := gm_share (gm_sum (fun p => r (31 + 7 * p + 2)) (nI 0) (rP r)) (rGl r)
