/-! Walk: the own turns ahead -/
def wk_g (rn ab : Int32) : Int32 := if ab < rn then ab else rn
def wk_any (f : Nat → Bool) : Nat → Bool
  | 0 => false
  | k + 1 => wk_any f k || f k
theorem wk_any_mono {f : Nat → Bool} {k : Nat} (h : wk_any f k = true) : ∀ j, wk_any f (k + j) = true
  | 0 => h
  | j + 1 => by
    show (wk_any f (k + j) || _) = true
    rw [wk_any_mono h j]; rfl
/-- whether the goal is reached within so many own turns, the last one a stride to it -/
def wk_rc (S : Nat → Nat → Int32) (gl : Nat) (rn tn : Int32) : Nat → (Nat → Int32) → Nat → Int32 → Int32 → Bool
  | 0, _, _, _, _ => false
  | n + 1, ly, a, ab, bl => if S a gl ≤ bl then true else if n = 0 then false else
    (wk_rc S gl rn tn n ly a (ab - wk_g rn ab) (bl + wk_g rn ab)) ||
    ((if bl < tn then false else wk_rc S gl rn tn n (upd ly a (ly a + tn)) a (bl - tn - wk_g rn (bl - tn)) (ab + wk_g rn (bl - tn))) ||
    wk_any (fun k => decide (k ≠ a) && (decide (S a k ≤ bl) && wk_rc S gl rn tn n (upd (upd ly k (nI 0)) a (upd ly k (nI 0) a + S a k)) k (ab + ly k - wk_g rn (ab + ly k)) (bl - S a k + wk_g rn (ab + ly k)))) 10)
def WKS (μ : ev_M) (S : Nat → Nat → Int32) (gl : Nat) (rn tn : Int32) : Prop := (∀ f t, f < 10 → t < 10 → μ (24 + f) t = S f t) ∧ μ 12 1 = nI gl ∧ μ 12 2 = rn ∧ μ 12 3 = tn
theorem WKS.ms {μ : ev_M} {S : Nat → Nat → Int32} {gl : Nat} {rn tn x : Int32} {i : Nat} (h : WKS μ S gl rn tn) : WKS (ev_ms μ 13 i x) S gl rn tn := by
  obtain ⟨h1, h2, h3, h4⟩ := h
  refine ⟨fun f t hf ht => by rw [ms_ne (by omega)]; exact h1 f t hf ht, ?_, ?_, ?_⟩
  · rw [ms_ne (by decide)]; exact h2
  · rw [ms_ne (by decide)]; exact h3
  · rw [ms_ne (by decide)]; exact h4
theorem ms_ms {μ : ev_M} {k i : Nat} {x y : Int32} : ev_ms (ev_ms μ k i x) k i y = ev_ms μ k i y := by
  funext q j
  simp only [ms_full]
  split <;> rfl
theorem ms_self {μ : ev_M} {k i : Nat} {x : Int32} (h : x = μ k i) : ev_ms μ k i x = μ := by
  funext q j
  simp only [ms_full]
  split
  · rename_i h2; rw [h, h2.1, h2.2]
  · rfl
theorem wk_back1 {μ : ev_M} {a : Nat} {g : Int32} : ev_ms (ev_ms μ 13 a (μ 13 a + g)) 13 a (ev_ms μ 13 a (μ 13 a + g) 13 a - g) = μ := by
  rw [ms_ms]
  refine ms_self ?_
  rw [ms_at, if_pos rfl, Int32.add_sub_cancel]
theorem wk_back2 {μ : ev_M} {a k : Nat} {g z : Int32} (h : k ≠ a) : ev_ms (ev_ms (ev_ms (ev_ms μ 13 k z) 13 a (ev_ms μ 13 k z 13 a + g)) 13 a (ev_ms (ev_ms μ 13 k z) 13 a (ev_ms μ 13 k z 13 a + g) 13 a - g)) 13 k (μ 13 k) = μ := by
  rw [wk_back1 (μ := ev_ms μ 13 k z), ms_ms]
  exact ms_self rfl
/-- within n turns: what reaches answers, at depth 3 n + 1 -/
def WKR (S : Nat → Nat → Int32) (gl : Nat) (rn tn : Int32) (n : Nat) : Prop := ∀ (d : Nat) (μ : ev_M) (a : Nat) (ab bl : Int32), WKS μ S gl rn tn → a < 10 → 3 * n + 1 ≤ d → ev_CALL d 35 [.ref 12, .ref 7, .int (nI a), .int ab, .int bl, .int (nI n)] μ (some (.int (bI (wk_rc S gl rn tn n (μ 13) a ab bl))), 0) μ

def wk_few (f : Nat → Bool) : Int32 := if f 1 then nI 1 else if f 2 then nI 2 else if f 3 then nI 3 else if f 4 then nI 4 else -1
theorem wk_few_no {f : Nat → Bool} (h : ∀ j, 0 < j → j < 5 → f j = false) : wk_few f = -1 := by
  unfold wk_few
  rw [h 1 (by omega) (by omega), h 2 (by omega) (by omega), h 3 (by omega) (by omega), h 4 (by omega) (by omega)]
  rfl
theorem wk_few_k {f : Nat → Bool} {k : Nat} (h : ∀ j, 0 < j → j < k → f j = false) (hk : f k = true) (h0 : 0 < k) (h4 : k ≤ 4) : wk_few f = nI k := by
  unfold wk_few
  rcases (show k = 1 ∨ k = 2 ∨ k = 3 ∨ k = 4 by omega) with rfl | rfl | rfl | rfl
  · rw [if_pos hk]
  · rw [h 1 (by omega) (by omega), hk]; rfl
  · rw [h 1 (by omega) (by omega), h 2 (by omega) (by omega), hk]; rfl
  · rw [h 1 (by omega) (by omega), h 2 (by omega) (by omega), h 3 (by omega) (by omega), hk]; rfl
