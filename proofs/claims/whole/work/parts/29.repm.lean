/-! the state as the law's own game holds it -/
def pR (μ : ev_M) (c i : Nat) : gm_R := fun j => if j < 59 then μ c (59 * i + j) else 0
theorem pR_cong {μ μ2 : ev_M} {c c2 i i2 : Nat} (h : ∀ j, j < 59 → μ2 c2 (59 * i2 + j) = μ c (59 * i + j)) : pR μ2 c2 i2 = pR μ c i := by
  funext j
  unfold pR
  by_cases e : j < 59
  · rw [if_pos e, if_pos e, h j e]
  · rw [if_neg e, if_neg e]
def RepM (μ : ev_M) (S : gS) : Prop := mR μ = S.1 ∧ (μ 14 5 = nI S.2.1.1 ∧ S.2.1.1 ≤ 6 ∧ ∀ i, i < S.2.1.1 → pR μ 16 i = S.2.1.2 i) ∧
  (∀ s, s < 2 → μ 19 s = bI (S.2.2.1.1 s) ∧ (S.2.2.1.1 s = true → pR μ 18 s = S.2.2.1.2 s)) ∧ μ 14 7 = nI S.2.2.2.1 ∧ S.2.2.2.1 ≤ 60 ∧ μ 20 = S.2.2.2.2
def FrM (μ μ2 : ev_M) : Prop := ∀ k, (k < 14 ∨ 22 < k) → μ2 k = μ k
theorem FrM.rf {μ : ev_M} : FrM μ μ := fun _ _ => rfl
theorem FrM.tr {μ μ2 μ3 : ev_M} (h : FrM μ μ2) (h2 : FrM μ2 μ3) : FrM μ μ3 := fun k a => (h2 k a).trans (h k a)
theorem FrM.ms {μ μ2 : ev_M} {k i : Nat} {x : Int32} (h : FrM μ μ2) (hk : 14 ≤ k ∧ k ≤ 22) : FrM μ (ev_ms μ2 k i x) := fun q a => by rw [ms_ne (by omega), h q a]
theorem FH.fr {μ μ2 : ev_M} (h : FH μ μ2) : FrM μ μ2 := fun k a => h.1 k (by omega) (by omega) (by omega)
theorem FG.fr {μ μ2 : ev_M} (h : FG μ μ2) : FrM μ μ2 := fun k a => h.1 k (by omega) (by omega)
theorem RepM.cong {μ μ2 : ev_M} {S : gS} (hR : RepM μ S) (h : ∀ k, (k = 15 ∨ k = 16 ∨ k = 18 ∨ k = 19 ∨ k = 20) → μ2 k = μ k) (h5 : μ2 14 5 = μ 14 5) (h7 : μ2 14 7 = μ 14 7) : RepM μ2 S := by
  obtain ⟨r1, ⟨r2, r3, r4⟩, r5, r6, r7, r8⟩ := hR
  exact ⟨by rw [mR_cong (h 15 (by omega)), r1], ⟨by rw [h5, r2], r3, fun i hi => by rw [← r4 i hi]; exact pR_cong (fun j _ => by rw [h 16 (by omega)])⟩, fun s hs => ⟨by rw [h 19 (by omega), (r5 s hs).1], fun hf => by rw [← (r5 s hs).2 hf]; exact pR_cong (fun j _ => by rw [h 18 (by omega)])⟩, by rw [h7, r6], r7, by rw [h 20 (by omega), r8]⟩
theorem RepM.t {μ : ev_M} {S : gS} {x : Int32} (hR : RepM μ S) : RepM (ev_ms μ 14 8 x) S := hR.cong (fun k hk => ms_ne (by omega)) (by rw [ms_at, if_neg (by decide)]) (by rw [ms_at, if_neg (by decide)])
theorem RepM.fg {μ μ2 : ev_M} {S : gS} (hR : RepM μ S) (h : FG μ μ2) : RepM μ2 S := hR.cong (fun k hk => h.1 k (by omega) (by omega)) (h.2 5 (by decide)) (h.2 7 (by decide))
theorem RepM.g {μ : ev_M} {S : gS} (h : RepM μ S) : mR μ = S.1 := h.1
theorem RepM.n {μ : ev_M} {S : gS} (h : RepM μ S) : μ 14 5 = nI S.2.1.1 := h.2.1.1
theorem RepM.n6 {μ : ev_M} {S : gS} (h : RepM μ S) : S.2.1.1 ≤ 6 := h.2.1.2.1
theorem RepM.l {μ : ev_M} {S : gS} (h : RepM μ S) : μ 14 7 = nI S.2.2.2.1 := h.2.2.2.1
theorem RepM.m {μ : ev_M} {S : gS} (h : RepM μ S) : S.2.2.2.1 ≤ 60 := h.2.2.2.2.1
theorem RepM.c {μ : ev_M} {S : gS} (h : RepM μ S) : μ 20 = S.2.2.2.2 := h.2.2.2.2.2
theorem RepM.s {μ : ev_M} {S : gS} (h : RepM μ S) {s : Nat} (hs : s < 2) : μ 19 s = bI (S.2.2.1.1 s) := (h.2.2.1 s hs).1
theorem RepM.s2 {μ : ev_M} {S : gS} (h : RepM μ S) {s : Nat} (hs : s < 2) (hf : S.2.2.1.1 s = true) : pR μ 18 s = S.2.2.1.2 s := (h.2.2.1 s hs).2 hf
/-- remembered -/
def RM (μ μ2 : ev_M) : Prop := (∀ j, j < 59 → μ2 17 j = μ 15 j) ∧ ∀ q, q ≠ 17 → μ2 q = μ q
theorem RM.rep {μ μ2 : ev_M} {S : gS} (h : RM μ μ2) (hR : RepM μ S) : RepM μ2 S := hR.cong (fun k hk => h.2 k (by omega)) (by rw [h.2 14 (by omega)]) (by rw [h.2 14 (by omega)])
theorem RM.fr {μ μ2 : ev_M} (h : RM μ μ2) : FrM μ μ2 := fun k a => h.2 k (by omega)
def RC (n : Nat) (μ μ2 : ev_M) : Prop := μ2 14 5 = nI (gm_n2 n + 1) ∧ (∀ i, i ≠ 5 → μ2 14 i = μ 14 i) ∧ (∀ i j, i < gm_n2 n → j < 59 → μ2 16 (59 * i + j) = μ 16 (59 * (if n = 6 then i + 1 else i) + j)) ∧ (∀ j, j < 59 → μ2 16 (59 * gm_n2 n + j) = μ 17 j) ∧ ∀ q, q ≠ 14 → q ≠ 16 → μ2 q = μ q
theorem RepM.save {μ μ1 μ2 μ3 : ev_M} {S : gS} {r : gm_R} (hR : RepM μ S) (h1 : RM μ μ1) (h2 : FH μ1 μ2) (hr : mR μ2 = r) (h3 : RC S.2.1.1 μ2 μ3) : RepM μ3 (gTo S r) ∧ μ3 14 8 = μ 14 8 ∧ FrM μ μ3 := by
  obtain ⟨r1, ⟨r2, r3, r4⟩, r5, r6, r7, r8⟩ := hR
  obtain ⟨k1, k2, k3, k4, k5⟩ := h3
  have q0 : ∀ q, q ≠ 14 → q ≠ 21 → q ≠ 15 → q ≠ 17 → q ≠ 16 → μ3 q = μ q := fun q a b c d e => by rw [k5 q a e, h2.1 q a b c, h1.2 q d]
  refine ⟨⟨?_, ⟨?_, ?_, fun i hi => ?_⟩, fun s hs => ⟨?_, fun hf => ?_⟩, ?_, r7, ?_⟩, ?_, ?_⟩
  · rw [mR_cong (k5 15 (by decide) (by decide)), hr]; rfl
  · rw [k1]; unfold gm_n2 gTo gSave; dsimp only; split <;> rfl
  · unfold gTo gSave; dsimp only; split <;> (dsimp only; omega)
  · have e17 : ∀ j, j < 59 → μ2 17 j = μ 15 j := fun j hj => by rw [h2.1 17 (by decide) (by decide) (by decide), h1.1 j hj]
    have e16 : μ2 16 = μ 16 := by rw [h2.1 16 (by decide) (by decide) (by decide), h1.2 16 (by decide)]
    have el : pR μ3 16 (gm_n2 S.2.1.1) = S.1 := by
      rw [← r1]
      funext j
      unfold pR mR
      by_cases hj : j < 59
      · rw [if_pos hj, if_pos hj, k4 j hj, e17 j hj]
      · rw [if_neg hj, if_neg hj]
    unfold gTo gSave at hi ⊢
    dsimp only at hi ⊢
    by_cases h6 : S.2.1.1 = 6
    · have en : gm_n2 S.2.1.1 = 5 := by rw [gm_n2, if_pos h6]
      rw [if_pos h6] at hi ⊢
      dsimp only at hi ⊢
      by_cases h5 : i < 5
      · rw [if_pos h5, ← r4 (i + 1) (by omega)]
        exact pR_cong (fun j hj => by rw [k3 i j (by omega) hj, if_pos h6, e16])
      · rw [if_neg h5, show i = gm_n2 S.2.1.1 by omega, el]
    · have en : gm_n2 S.2.1.1 = S.2.1.1 := by rw [gm_n2, if_neg h6]
      rw [if_neg h6] at hi ⊢
      dsimp only at hi ⊢
      by_cases h5 : i = S.2.1.1
      · rw [if_pos h5, show i = gm_n2 S.2.1.1 by omega, el]
      · rw [if_neg h5, ← r4 i (by omega)]
        exact pR_cong (fun j hj => by rw [k3 i j (by omega) hj, if_neg h6, e16])
  · rw [q0 19 (by decide) (by decide) (by decide) (by decide) (by decide), (r5 s hs).1]; rfl
  · refine Eq.trans (pR_cong (fun j _ => by rw [q0 18 (by decide) (by decide) (by decide) (by decide) (by decide)])) ((r5 s hs).2 hf)
  · rw [k2 7 (by decide), h2.2 7 (by decide), h1.2 14 (by decide), r6]; rfl
  · rw [q0 20 (by decide) (by decide) (by decide) (by decide) (by decide), r8]; rfl
  · rw [k2 8 (by decide), h2.2 8 (by decide), h1.2 14 (by decide)]
  · intro k hk
    exact q0 k (by omega) (by omega) (by omega) (by omega) (by omega)
def QM (o : gA) (μ : ev_M) (x : Int32) (μ2 : ev_M) : Prop := μ2 14 8 = nI o.1 ∧ (o.1 = 0 → x = o.2.1) ∧ RepM μ2 o.2.2 ∧ FrM μ μ2
theorem QM.of {o : gA} {μ μ2 : ev_M} {a x : Int32} {S2 : gS} (h : o = (0, a, S2)) (h0 : μ2 14 8 = nI 0) (h1 : x = a) (h2 : RepM μ2 S2) (h3 : FrM μ μ2) : QM o μ x μ2 := by subst h; exact ⟨h0, fun _ => h1, h2, h3⟩
theorem QM.no {o : gA} {μ μ2 : ev_M} {x a : Int32} {k : Nat} {S : gS} (h : o = (k + 1, a, S)) (hR : RepM μ S) (h2 : μ2 = ev_ms (ev_ms μ 14 8 (nI 0)) 14 8 (nI (k + 1))) : QM o μ x μ2 := by
  subst h h2
  exact ⟨by simp [ms_full], fun h => absurd h (by simp), hR.t.t, (FrM.rf.ms (by decide)).ms (by decide)⟩
/-- a call that saves: what stands behind it -/
theorem QM.sv {o : gA} {μ μ1 μ2 μ3 : ev_M} {S : gS} {r : gm_R} {a x : Int32} (hR : RepM μ S) (h1 : RM (ev_ms μ 14 8 (nI 0)) μ1) (h2 : FH μ1 μ2) (hr : mR μ2 = r) (h3 : RC S.2.1.1 μ2 μ3) (h : o = (0, a, gTo S r)) (hx : x = a) : QM o μ x μ3 := by
  obtain ⟨q1, q2, q3⟩ := RepM.save (hR.t (x := nI 0)) h1 h2 hr h3
  exact QM.of h (by rw [q2]; simp [ms_full]) hx q1 (FrM.tr (FrM.rf.ms (by decide)) q3)
