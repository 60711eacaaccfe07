/-! what the game is, told once: a row of 59 ints (0 run, 1 step, 2 turn, 3 reach, 4 players, 5 on, 6 it, 7 moves, 8 refused, 9 tags, 10 brought, 11.. heights, 21.. sand, 31 + 7 p .. a player's at, above, below, made, tagged, was, paid) -/
abbrev gm_R : Type := Nat → Int32
/-- the row of the game at a cell -/
def gR (μ : ev_M) (g : Nat) : gm_R := fun j => if j < 59 then (if j < 4 then μ (g + 3) j else if j < 11 then μ g (j + 6) else if j < 21 then μ (g + 1) (j - 11) else if j < 31 then μ (g + 2) (j - 21) else μ (g + 4 + (j - 31) % 7) ((j - 31) / 7)) else 0
theorem gR_set {μ : ev_M} {g k : Nat} (h : k < 4) : gR μ g k = μ (g + 3) k := by unfold gR; rw [if_pos (by omega), if_pos h]
theorem gR_fld {μ : ev_M} {g k : Nat} (h : k < 7) : gR μ g (4 + k) = μ g (10 + k) := by
  unfold gR; rw [if_pos (by omega), if_neg (by omega), if_pos (by omega), show 4 + k + 6 = 10 + k by omega]
theorem gR_h {μ : ev_M} {g k : Nat} (h : k < 10) : gR μ g (11 + k) = μ (g + 1) k := by
  unfold gR; rw [if_pos (by omega), if_neg (by omega), if_neg (by omega), if_pos (by omega), show 11 + k - 11 = k by omega]
theorem gR_l {μ : ev_M} {g k : Nat} (h : k < 10) : gR μ g (21 + k) = μ (g + 2) k := by
  unfold gR; rw [if_pos (by omega), if_neg (by omega), if_neg (by omega), if_neg (by omega), if_pos (by omega), show 21 + k - 21 = k by omega]
theorem gR_p {μ : ev_M} {g p w : Nat} (h : w < 7) (hp : p < 4) : gR μ g (31 + 7 * p + w) = μ (g + 4 + w) p := by
  dsimp only [gR]
  rw [if_pos (by omega), if_neg (by omega), if_neg (by omega), if_neg (by omega), if_neg (by omega), show (31 + 7 * p + w - 31) % 7 = w by omega, show (31 + 7 * p + w - 31) / 7 = p by omega]
theorem ms_at {μ : ev_M} {k i j : Nat} {x : Int32} : ev_ms μ k i x k j = if j = i then x else μ k j := by
  unfold ev_ms upd; rw [if_pos rfl]
theorem ms_ne {μ : ev_M} {k i q : Nat} {x : Int32} (h : q ≠ k) : ev_ms μ k i x q = μ q := by unfold ev_ms; rw [if_neg h]
theorem ms_full {μ : ev_M} {k i q j : Nat} {x : Int32} : ev_ms μ k i x q j = if q = k ∧ j = i then x else μ q j := by
  unfold ev_ms upd
  by_cases h1 : q = k
  · subst h1
    by_cases h2 : j = i
    · rw [if_pos rfl, if_pos h2, if_pos ⟨rfl, h2⟩]
    · rw [if_pos rfl, if_neg h2, if_neg (fun h => h2 h.2)]
  · rw [if_neg h1, if_neg (fun h => h1 h.1)]
theorem gR_wset {μ : ev_M} {g i : Nat} {x : Int32} (hi : i < 4) : gR (ev_ms μ (g + 3) i x) g = upd (gR μ g) i x := by
  funext j
  simp only [gR, upd, ms_full]
  repeat' split
  all_goals first | rfl | (exfalso; omega) | (simp only [true_and] at *; exfalso; omega)
theorem gR_wfld {μ : ev_M} {g i : Nat} {x : Int32} (hi : i < 7) : gR (ev_ms μ g (10 + i) x) g = upd (gR μ g) (4 + i) x := by
  funext j
  simp only [gR, upd, ms_full]
  repeat' split
  all_goals first | rfl | (exfalso; omega) | (simp only [true_and] at *; exfalso; omega)
theorem gR_wh {μ : ev_M} {g i : Nat} {x : Int32} (hi : i < 10) : gR (ev_ms μ (g + 1) i x) g = upd (gR μ g) (11 + i) x := by
  funext j
  simp only [gR, upd, ms_full]
  repeat' split
  all_goals first | rfl | (exfalso; omega) | (simp only [true_and] at *; exfalso; omega)
theorem gR_wl {μ : ev_M} {g i : Nat} {x : Int32} (hi : i < 10) : gR (ev_ms μ (g + 2) i x) g = upd (gR μ g) (21 + i) x := by
  funext j
  simp only [gR, upd, ms_full]
  repeat' split
  all_goals first | rfl | (exfalso; omega) | (simp only [true_and] at *; exfalso; omega)
theorem gR_wp {μ : ev_M} {g p w : Nat} {x : Int32} (hw : w < 7) (hp : p < 4) : gR (ev_ms μ (g + 4 + w) p x) g = upd (gR μ g) (31 + 7 * p + w) x := by
  funext j
  simp only [gR, upd, ms_full]
  repeat' split
  all_goals first | rfl | (exfalso; omega) | (simp only [true_and] at *; exfalso; omega)
theorem gR_wo {μ : ev_M} {g k i : Nat} {x : Int32} (h : k < g ∨ g + 11 ≤ k) : gR (ev_ms μ k i x) g = gR μ g := by
  funext j
  dsimp only [gR]
  rw [ms_ne (by omega), ms_ne (by omega), ms_ne (by omega), ms_ne (by omega), ms_ne (by omega)]
-- numbers
theorem gm_maxN {a b : Nat} (ha : a < 2 ^ 31) (hb : b < 2 ^ 31) : (if nI a < nI b then nI b else nI a) = nI (max a b) := by
  by_cases h : a < b
  · rw [if_pos (nI_lt h hb), Nat.max_eq_right (by omega)]
  · rw [if_neg (nI_nlt (by omega) ha), Nat.max_eq_left (by omega)]
theorem gm_minN {a b : Nat} (ha : a < 2 ^ 31) (hb : b < 2 ^ 31) : (if nI b < nI a then nI b else nI a) = nI (min a b) := by
  by_cases h : b < a
  · rw [if_pos (nI_lt h ha), Nat.min_eq_right (by omega)]
  · rw [if_neg (nI_nlt (by omega) hb), Nat.min_eq_left (by omega)]
theorem gm_absN {a b : Nat} (ha : a < 2 ^ 30) (hb : b < 2 ^ 30) : (if 0 ≤ nI b - nI a then nI b - nI a else 0 - (nI b - nI a)) = nI (if a < b then b - a else a - b) := by
  have e := pk_sub_toInt (a := b) (b := a) hb ha
  by_cases h : a < b
  · rw [if_pos h, if_pos, pk_sub (by omega)]
    rw [Int32.le_iff_toInt_le, e]
    show (0 : Int) ≤ _
    omega
  · rw [if_neg h]
    by_cases h2 : a = b
    · subst h2
      rw [if_pos, pk_sub (Nat.le_refl _)]
      rw [Int32.le_iff_toInt_le, e]
      show (0 : Int) ≤ _
      omega
    · rw [if_neg, ← pk_sub (by omega)]
      · rw [Int32.zero_sub, Int32.neg_sub]
      · rw [Int32.le_iff_toInt_le, e]
        show ¬ (0 : Int) ≤ _
        omega
def gm_mx (x y : Int32) : Int32 := if x < y then y else x
def gm_clr (h : Nat → Int32) (hi : Int32) : Nat → Nat → Bool
  | _, 0 => true
  | k, n + 1 => if hi < h k then false else gm_clr h hi (k + 1) n
/-- a tower sees another one -/
def gm_sees (h : Nat → Int32) (a b : Nat) : Bool := gm_clr h (gm_mx (h a) (h b)) (min a b + 1) (max a b - (min a b + 1))
/-- a row of bits told one after the other -/
def gm_mask (f : Nat → Bool) : Nat → Int32
  | 0 => 0
  | n + 1 => gm_mask f n ||| (if f n then nI 1 <<< (nI n &&& 31) else 0)
theorem gm_mask_t {f : Nat → Bool} {n : Nat} (h : f n = true) : gm_mask f (n + 1) = gm_mask f n ||| (nI 1 <<< (nI n &&& 31)) := by
  show gm_mask f n ||| _ = _
  rw [if_pos h]
theorem gm_mask_f {f : Nat → Bool} {n : Nat} (h : f n = false) : gm_mask f (n + 1) = gm_mask f n := by
  show gm_mask f n ||| _ = _
  rw [if_neg (by rw [h]; decide), Int32.or_zero]
theorem gm_mask_cong {f g : Nat → Bool} : ∀ {n : Nat}, (∀ k, k < n → f k = g k) → gm_mask f n = gm_mask g n
  | 0, _ => rfl
  | n + 1, h => by
    show gm_mask f n ||| _ = gm_mask g n ||| _
    rw [gm_mask_cong (fun k hk => h k (by omega)), h n (by omega)]
/-- the price of a stride -/
def gm_price (s : Int32) (h : Nat → Int32) (a b : Nat) : Int32 := s * nI (if a < b then b - a else a - b) + gm_mx (nI 0) (h b - h a)
/-- why a stride from a to b with that sand below is refused: 0 it isn't -/
def gm_why (s : Int32) (h : Nat → Int32) (bl : Int32) (a b : Nat) : Int32 := if a = b then nI 1 else if gm_sees h a b = false then nI 2 else if bl < gm_price s h a b then nI 3 else nI 0
/-- why p at a can't tag q at b -/
def gm_tagw (h : Nat → Int32) (reach : Int32) (it p q a b : Nat) : Int32 := if p ≠ it then nI 5 else if p = q then nI 6 else if gm_sees h a b = false then nI 2 else if reach < nI (if b < a then a - b else b - a) then nI 7 else nI 0
def gm_sum (f : Nat → Int32) (z : Int32) : Nat → Int32
  | 0 => z
  | n + 1 => gm_sum f z n + f n
def gm_ush (x : Int32) (k : Nat) : Int32 := (x.toUInt32 >>> ((nI k).toUInt32 &&& Int32.toUInt32 31)).toInt32
def gm_bc1 (x : Int32) : Int32 := x - (gm_ush x 1 &&& 1431655765)
def gm_bc2 (x : Int32) : Int32 := (x &&& 858993459) + (gm_ush x 2 &&& 858993459)
def gm_bc3 (x : Int32) : Int32 := (x + gm_ush x 4) &&& 252645135
def gm_bc4 (x : Int32) : Int32 := x + gm_ush x 8
def gm_bc5 (x : Int32) : Int32 := x + gm_ush x 16
def gm_bc (x : Int32) : Int32 := gm_bc5 (gm_bc4 (gm_bc3 (gm_bc2 (gm_bc1 x)))) &&& nI 63
/-- the first of the largest ones -/
def gm_look (c : Nat → Int32) : Nat → Nat × Int32
  | 0 => (0, nI 0)
  | n + 1 => if (gm_look c n).2 < c n then (n, c n) else gm_look c n
def gm_share (B G : Int32) : UInt64 := if G ≤ 0 then FP.dconst0 else FP.ddiv (FP.i2d B) (FP.i2d G)
/-- a game's cells alone change -/
def gm_Fr (g : Nat) (μ μ2 : ev_M) : Prop := ∀ k, k < g ∨ g + 11 ≤ k → μ2 k = μ k
theorem gm_Fr.rf {g : Nat} {μ : ev_M} : gm_Fr g μ μ := fun _ _ => rfl
theorem gm_Fr.tr {g : Nat} {μ μ2 μ3 : ev_M} (h : gm_Fr g μ μ2) (h2 : gm_Fr g μ2 μ3) : gm_Fr g μ μ3 := fun k hk => (h2 k hk).trans (h k hk)
theorem gm_Fr.ms {g k i : Nat} {x : Int32} {μ μ2 : ev_M} (h : gm_Fr g μ μ2) (hk : g ≤ k ∧ k < g + 11) : gm_Fr g μ (ev_ms μ2 k i x) := fun q hq => by
  rw [ms_ne (by omega)]; exact h q hq
/-- behind a move: g grains run, the next one is on the move -/
def gm_end (r : gm_R) (P on : Nat) (g : Int32) : gm_R := upd (upd (upd (upd (upd r (31 + 7 * on + 1) (r (31 + 7 * on + 1) - g)) (31 + 7 * on + 2) (r (31 + 7 * on + 2) + g)) (31 + 7 * on + 3) (r (31 + 7 * on + 3) + nI 1)) 7 (r 7 + nI 1)) 5 (nI (if on + 1 < P then on + 1 else 0))
def gm_run (r : gm_R) (on : Nat) : Int32 := if r (31 + 7 * on + 1) < r 0 then r (31 + 7 * on + 1) else r 0
/-- grains are paid by the one on the move at a tower -/
def gm_pay (r : gm_R) (on at_ : Nat) (g : Int32) : gm_R := upd (upd (upd r (31 + 7 * on + 2) (r (31 + 7 * on + 2) - g)) (31 + 7 * on + 6) (r (31 + 7 * on + 6) + g)) (21 + at_) (r (21 + at_) + g)
theorem w44_players {μ : ev_M} {x : Int32} : gR (ev_ms μ 44 10 x) 44 = upd (gR μ 44) 4 x := gR_wfld (g := 44) (i := 0) (by decide)
theorem r44_players {μ : ev_M} : gR μ 44 4 = μ 44 10 := gR_fld (g := 44) (k := 0) (by decide)
theorem w44_onMove {μ : ev_M} {x : Int32} : gR (ev_ms μ 44 11 x) 44 = upd (gR μ 44) 5 x := gR_wfld (g := 44) (i := 1) (by decide)
theorem r44_onMove {μ : ev_M} : gR μ 44 5 = μ 44 11 := gR_fld (g := 44) (k := 1) (by decide)
theorem w44_it {μ : ev_M} {x : Int32} : gR (ev_ms μ 44 12 x) 44 = upd (gR μ 44) 6 x := gR_wfld (g := 44) (i := 2) (by decide)
theorem r44_it {μ : ev_M} : gR μ 44 6 = μ 44 12 := gR_fld (g := 44) (k := 2) (by decide)
theorem w44_moves {μ : ev_M} {x : Int32} : gR (ev_ms μ 44 13 x) 44 = upd (gR μ 44) 7 x := gR_wfld (g := 44) (i := 3) (by decide)
theorem r44_moves {μ : ev_M} : gR μ 44 7 = μ 44 13 := gR_fld (g := 44) (k := 3) (by decide)
theorem w44_refused {μ : ev_M} {x : Int32} : gR (ev_ms μ 44 14 x) 44 = upd (gR μ 44) 8 x := gR_wfld (g := 44) (i := 4) (by decide)
theorem r44_refused {μ : ev_M} : gR μ 44 8 = μ 44 14 := gR_fld (g := 44) (k := 4) (by decide)
theorem w44_tags {μ : ev_M} {x : Int32} : gR (ev_ms μ 44 15 x) 44 = upd (gR μ 44) 9 x := gR_wfld (g := 44) (i := 5) (by decide)
theorem r44_tags {μ : ev_M} : gR μ 44 9 = μ 44 15 := gR_fld (g := 44) (k := 5) (by decide)
theorem w44_brought {μ : ev_M} {x : Int32} : gR (ev_ms μ 44 16 x) 44 = upd (gR μ 44) 10 x := gR_wfld (g := 44) (i := 6) (by decide)
theorem r44_brought {μ : ev_M} : gR μ 44 10 = μ 44 16 := gR_fld (g := 44) (k := 6) (by decide)
theorem w44_place {μ : ev_M} {p : Nat} {x : Int32} (hp : p < 4) : gR (ev_ms μ 48 p x) 44 = upd (gR μ 44) (31 + 7 * p) x := gR_wp (g := 44) (w := 0) (by decide) hp
theorem r44_place {μ : ev_M} {p : Nat} (hp : p < 4) : gR μ 44 (31 + 7 * p) = μ 48 p := gR_p (g := 44) (w := 0) (by decide) hp
theorem w44_above {μ : ev_M} {p : Nat} {x : Int32} (hp : p < 4) : gR (ev_ms μ 49 p x) 44 = upd (gR μ 44) (31 + 7 * p + 1) x := gR_wp (g := 44) (w := 1) (by decide) hp
theorem r44_above {μ : ev_M} {p : Nat} (hp : p < 4) : gR μ 44 (31 + 7 * p + 1) = μ 49 p := gR_p (g := 44) (w := 1) (by decide) hp
theorem w44_below {μ : ev_M} {p : Nat} {x : Int32} (hp : p < 4) : gR (ev_ms μ 50 p x) 44 = upd (gR μ 44) (31 + 7 * p + 2) x := gR_wp (g := 44) (w := 2) (by decide) hp
theorem r44_below {μ : ev_M} {p : Nat} (hp : p < 4) : gR μ 44 (31 + 7 * p + 2) = μ 50 p := gR_p (g := 44) (w := 2) (by decide) hp
theorem w44_made {μ : ev_M} {p : Nat} {x : Int32} (hp : p < 4) : gR (ev_ms μ 51 p x) 44 = upd (gR μ 44) (31 + 7 * p + 3) x := gR_wp (g := 44) (w := 3) (by decide) hp
theorem r44_made {μ : ev_M} {p : Nat} (hp : p < 4) : gR μ 44 (31 + 7 * p + 3) = μ 51 p := gR_p (g := 44) (w := 3) (by decide) hp
theorem w44_tagged {μ : ev_M} {p : Nat} {x : Int32} (hp : p < 4) : gR (ev_ms μ 52 p x) 44 = upd (gR μ 44) (31 + 7 * p + 4) x := gR_wp (g := 44) (w := 4) (by decide) hp
theorem r44_tagged {μ : ev_M} {p : Nat} (hp : p < 4) : gR μ 44 (31 + 7 * p + 4) = μ 52 p := gR_p (g := 44) (w := 4) (by decide) hp
theorem w44_was {μ : ev_M} {p : Nat} {x : Int32} (hp : p < 4) : gR (ev_ms μ 53 p x) 44 = upd (gR μ 44) (31 + 7 * p + 5) x := gR_wp (g := 44) (w := 5) (by decide) hp
theorem r44_was {μ : ev_M} {p : Nat} (hp : p < 4) : gR μ 44 (31 + 7 * p + 5) = μ 53 p := gR_p (g := 44) (w := 5) (by decide) hp
theorem w44_paid {μ : ev_M} {p : Nat} {x : Int32} (hp : p < 4) : gR (ev_ms μ 54 p x) 44 = upd (gR μ 44) (31 + 7 * p + 6) x := gR_wp (g := 44) (w := 6) (by decide) hp
theorem r44_paid {μ : ev_M} {p : Nat} (hp : p < 4) : gR μ 44 (31 + 7 * p + 6) = μ 54 p := gR_p (g := 44) (w := 6) (by decide) hp
theorem w44_h {μ : ev_M} {t : Nat} {x : Int32} (ht : t < 10) : gR (ev_ms μ 45 t x) 44 = upd (gR μ 44) (11 + t) x := gR_wh (g := 44) ht
theorem r44_h {μ : ev_M} {t : Nat} (ht : t < 10) : gR μ 44 (11 + t) = μ 45 t := gR_h (g := 44) ht
theorem w44_l {μ : ev_M} {t : Nat} {x : Int32} (ht : t < 10) : gR (ev_ms μ 46 t x) 44 = upd (gR μ 44) (21 + t) x := gR_wl (g := 44) ht
theorem r44_l {μ : ev_M} {t : Nat} (ht : t < 10) : gR μ 44 (21 + t) = μ 46 t := gR_l (g := 44) ht
theorem w44_s {μ : ev_M} {t : Nat} {x : Int32} (ht : t < 4) : gR (ev_ms μ 47 t x) 44 = upd (gR μ 44) t x := gR_wset (g := 44) ht
theorem r44_s {μ : ev_M} {t : Nat} (ht : t < 4) : gR μ 44 t = μ 47 t := gR_set (g := 44) ht
theorem r44_0 {μ : ev_M} : gR μ 44 0 = μ 47 0 := r44_s (by decide)
theorem r44_1 {μ : ev_M} : gR μ 44 1 = μ 47 1 := r44_s (by decide)
theorem r44_2 {μ : ev_M} : gR μ 44 2 = μ 47 2 := r44_s (by decide)
theorem r44_3 {μ : ev_M} : gR μ 44 3 = μ 47 3 := r44_s (by decide)
theorem upd_ne {f : Nat → Int32} {k j : Nat} {x : Int32} (h : j ≠ k) : upd f k x j = f j := by unfold upd; rw [if_neg h]
theorem upd_eq {f : Nat → Int32} {k : Nat} {x : Int32} : upd f k x k = x := by unfold upd; rw [if_pos rfl]
/-- a stride from a to t: paid, gone, gathered -/
def gm_go (r : gm_R) (on a t : Nat) (pr : Int32) : gm_R := upd (upd (upd (gm_pay r on a pr) (31 + 7 * on) (nI t)) (31 + 7 * on + 1) (gm_pay r on a pr (31 + 7 * on + 1) + gm_pay r on a pr (21 + t))) (21 + t) (nI 0)
def gm_turn (r : gm_R) (on a : Nat) : gm_R := upd (upd (gm_pay r on a (r 2)) (31 + 7 * on + 1) (gm_pay r on a (r 2) (31 + 7 * on + 2))) (31 + 7 * on + 2) (gm_pay r on a (r 2) (31 + 7 * on + 1))
def gm_half (r : gm_R) (q : Nat) : Int32 := r (31 + 7 * q + 2) / nI 2
def gm_tag (r : gm_R) (on q : Nat) : gm_R := upd (upd (upd (upd (upd (upd r (31 + 7 * q + 2) (r (31 + 7 * q + 2) - gm_half r q)) (31 + 7 * on + 1) (r (31 + 7 * on + 1) + gm_half r q)) (31 + 7 * on + 4) (r (31 + 7 * on + 4) + nI 1)) (31 + 7 * q + 5) (r (31 + 7 * q + 5) + nI 1)) 9 (r 9 + nI 1)) 6 (nI q)
def gm_ends (r : gm_R) (P on : Nat) : gm_R := gm_end r P on (gm_run r on)
def gm_ref (r : gm_R) : gm_R := upd r 8 (r 8 + nI 1)
def gm_add (r : gm_R) (P t : Nat) (sand : Int32) : gm_R := upd (upd (upd (upd r (31 + 7 * P) (nI t)) (31 + 7 * P + 1) sand) 10 (r 10 + sand)) 4 (nI (P + 1))
theorem gm_pay_lo {r : gm_R} {on a j : Nat} {g : Int32} (h : j < 21) : gm_pay r on a g j = r j := by
  unfold gm_pay
  rw [upd_ne (by omega), upd_ne (by omega), upd_ne (by omega)]
theorem gm_pay_pl {r : gm_R} {on a p : Nat} {g : Int32} (ha : a < 10) : gm_pay r on a g (31 + 7 * p) = r (31 + 7 * p) := by
  unfold gm_pay
  rw [upd_ne (by omega), upd_ne (by omega), upd_ne (by omega)]
