theorem nI_inj {a b : Nat} (ha : a < 2 ^ 31) (hb : b < 2 ^ 31) (h : nI a = nI b) : a = b := by rw [← nI_clamp ha, ← nI_clamp hb, h]
/-! the state as the program's cells hold it -/
theorem gm_clr_cong {h g : Nat → Int32} {hi : Int32} {N : Nat} (e : ∀ k, k < N → h k = g k) : ∀ (n k : Nat), k + n ≤ N → gm_clr h hi k n = gm_clr g hi k n
  | 0, _, _ => rfl
  | n + 1, k, hk => by
    unfold gm_clr
    rw [e k (by omega), gm_clr_cong e n (k + 1) (by omega)]
theorem gm_sees_cong {h g : Nat → Int32} (e : ∀ k, k < 10 → h k = g k) {a b : Nat} (ha : a < 10) (hb : b < 10) : gm_sees h a b = gm_sees g a b := by
  unfold gm_sees
  rw [e a ha, e b hb, gm_clr_cong e _ _ (by omega)]
theorem gm_price_cong {h g : Nat → Int32} {s : Int32} (e : ∀ k, k < 10 → h k = g k) {a b : Nat} (ha : a < 10) (hb : b < 10) : gm_price s h a b = gm_price s g a b := by
  unfold gm_price
  rw [e a ha, e b hb]
theorem gm_why_cong {h g : Nat → Int32} {s bl : Int32} (e : ∀ k, k < 10 → h k = g k) {a b : Nat} (ha : a < 10) (hb : b < 10) : gm_why s h bl a b = gm_why s g bl a b := by
  unfold gm_why
  rw [gm_sees_cong e ha hb, gm_price_cong e ha hb]
theorem gm_tagw_cong {h g : Nat → Int32} {s : Int32} {it p q : Nat} (e : ∀ k, k < 10 → h k = g k) {a b : Nat} (ha : a < 10) (hb : b < 10) : gm_tagw h s it p q a b = gm_tagw g s it p q a b := by
  unfold gm_tagw
  rw [gm_sees_cong e ha hb]
theorem gm_sum_cong {f g : Nat → Int32} {z : Int32} : ∀ {n : Nat}, (∀ k, k < n → f k = g k) → gm_sum f z n = gm_sum g z n
  | 0, _ => rfl
  | n + 1, h => by
    show gm_sum f z n + f n = gm_sum g z n + g n
    rw [gm_sum_cong (fun k hk => h k (by omega)), h n (by omega)]
theorem gm_look_cong {f g : Nat → Int32} : ∀ {n : Nat}, (∀ k, k < n → f k = g k) → gm_look f n = gm_look g n
  | 0, _ => rfl
  | n + 1, h => by
    unfold gm_look
    rw [gm_look_cong (fun k hk => h k (by omega)), h n (by omega)]
theorem rH_44 {μ : ev_M} {r : gm_R} (h : gR μ 44 = r) : ∀ k, k < 10 → μ 45 k = rH r k := fun k hk => by
  subst h
  exact (r44_h hk).symm
def RepC (μ : ev_M) (S : gS) : Prop := gR μ 44 = S.1 ∧
  (∃ ol, μ 3 1 = nI ol ∧ ol < 6 ∧ μ 3 2 = nI S.2.1.1 ∧ S.2.1.1 ≤ 6 ∧ ∀ i, i < S.2.1.1 → gR μ (77 + 11 * ((ol + i) % 6)) = S.2.1.2 i) ∧
  (∀ s, s < 2 → μ 2 s = bI (S.2.2.1.1 s) ∧ (S.2.2.1.1 s = true → gR μ (55 + 11 * s) = S.2.2.1.2 s)) ∧
  μ 5 1 = nI S.2.2.2.1 ∧ S.2.2.2.1 ≤ 60 ∧ μ 6 = S.2.2.2.2
theorem RepC.g {μ : ev_M} {S : gS} (h : RepC μ S) : gR μ 44 = S.1 := h.1
theorem RepC.l {μ : ev_M} {S : gS} (h : RepC μ S) : μ 5 1 = nI S.2.2.2.1 := h.2.2.2.1
theorem RepC.m {μ : ev_M} {S : gS} (h : RepC μ S) : S.2.2.2.1 ≤ 60 := h.2.2.2.2.1
theorem RepC.c {μ : ev_M} {S : gS} (h : RepC μ S) : μ 6 = S.2.2.2.2 := h.2.2.2.2.2
theorem RepC.s {μ : ev_M} {S : gS} (h : RepC μ S) {s : Nat} (hs : s < 2) : μ 2 s = bI (S.2.2.1.1 s) := (h.2.2.1 s hs).1
theorem RepC.s2 {μ : ev_M} {S : gS} (h : RepC μ S) {s : Nat} (hs : s < 2) (hf : S.2.2.1.1 s = true) : gR μ (55 + 11 * s) = S.2.2.1.2 s := (h.2.2.1 s hs).2 hf
/-- the law's cells stay -/
def Fr5 (μ μ2 : ev_M) : Prop := ∀ k, 14 ≤ k → k < 24 → μ2 k = μ k
theorem Fr5.rf {μ : ev_M} : Fr5 μ μ := fun _ _ _ => rfl
theorem Fr5.tr {μ μ2 μ3 : ev_M} (h : Fr5 μ μ2) (h2 : Fr5 μ2 μ3) : Fr5 μ μ3 := fun k a b => (h2 k a b).trans (h k a b)
theorem gR_cong {μ μ2 : ev_M} {g : Nat} (h : ∀ k, g ≤ k → k < g + 11 → μ2 k = μ k) : gR μ2 g = gR μ g := by
  funext j
  simp only [gR]
  by_cases h59 : j < 59
  · rw [if_pos h59, if_pos h59, h (g + 3) (by omega) (by omega), h g (by omega) (by omega), h (g + 1) (by omega) (by omega), h (g + 2) (by omega) (by omega), h _ (by omega) (by omega)]
  · rw [if_neg h59, if_neg h59]
/-- the cells that hold no state -/
def gNo (k : Nat) : Prop := (7 ≤ k ∧ k < 44) ∨ 143 ≤ k
theorem RepC.cong {μ μ2 : ev_M} {S : gS} (hR : RepC μ S) (h : ∀ k, ¬ gNo k → μ2 k = μ k) : RepC μ2 S := by
  unfold gNo at h
  obtain ⟨g, ⟨ol, p1, p2, p3, p4, p5⟩, s, l, m, c⟩ := hR
  refine ⟨?_, ⟨ol, ?_, p2, ?_, p4, fun i hi => ?_⟩, fun x hx => ⟨?_, fun hy => ?_⟩, ?_, m, ?_⟩
  · rw [gR_cong (μ := μ) (fun k _ _ => h k (by omega)), g]
  · rw [h 3 (by omega), p1]
  · rw [h 3 (by omega), p3]
  · rw [gR_cong (μ := μ) (fun k _ _ => h k (by omega)), p5 i hi]
  · rw [h 2 (by omega), (s x hx).1]
  · rw [gR_cong (μ := μ) (fun k _ _ => h k (by omega)), (s x hx).2 hy]
  · rw [h 5 (by omega), l]
  · rw [h 6 (by omega), c]
theorem RepC.game {μ μ2 : ev_M} {S : gS} {r : gm_R} (hR : RepC μ S) (h : gR μ2 44 = r) (hf : gm_Fr 44 μ μ2) : RepC μ2 (r, S.2) := by
  unfold gm_Fr at hf
  obtain ⟨g, ⟨ol, p1, p2, p3, p4, p5⟩, s, l, m, c⟩ := hR
  refine ⟨h, ⟨ol, ?_, p2, ?_, p4, fun i hi => ?_⟩, fun x hx => ⟨?_, fun hy => ?_⟩, ?_, m, ?_⟩
  · rw [hf 3 (by omega), p1]
  · rw [hf 3 (by omega), p3]
  · rw [gR_cong (μ := μ) (fun k _ _ => hf k (by omega)), p5 i hi]
  · rw [hf 2 (by omega), (s x hx).1]
  · rw [gR_cong (μ := μ) (fun k _ _ => hf k (by omega)), (s x hx).2 hy]
  · rw [hf 5 (by omega), l]
  · rw [hf 6 (by omega), c]
theorem Fr5.of_gm {μ μ2 : ev_M} (h : gm_Fr 44 μ μ2) : Fr5 μ μ2 := fun k a b => h k (by omega)
theorem RepC.save {μ μ2 : ev_M} {S : gS} {ol : Nat} (hR : RepC μ S) (ho : μ 3 1 = nI ol) (ho6 : ol < 6) (h : μ2 3 1 = nI (gm_o2 S.2.1.1 ol) ∧ μ2 3 2 = nI (gm_n2 S.2.1.1 + 1) ∧ gR μ2 (77 + 11 * ((gm_o2 S.2.1.1 ol + gm_n2 S.2.1.1) % 6)) = gR μ 44 ∧ ∀ k, k ≠ 3 → (k < 77 + 11 * ((gm_o2 S.2.1.1 ol + gm_n2 S.2.1.1) % 6) ∨ 77 + 11 * ((gm_o2 S.2.1.1 ol + gm_n2 S.2.1.1) % 6) + 11 ≤ k) → μ2 k = μ k) : RepC μ2 (S.1, gSave S, S.2.2) ∧ Fr5 μ μ2 := by
  obtain ⟨g, ⟨ol', p1, p2, p3, p4, p5⟩, s, l, m, c⟩ := hR
  obtain rfl : ol' = ol := nI_inj (by omega) (by omega) (p1.symm.trans ho)
  obtain ⟨h1, h2, h3, h4⟩ := h
  refine ⟨⟨?_, ⟨gm_o2 S.2.1.1 ol', h1, ?_, ?_, ?_, fun i hi => ?_⟩, fun x hx => ⟨?_, fun hy => ?_⟩, ?_, m, ?_⟩, fun k _ _ => h4 k (by omega) (by omega)⟩
  · rw [gR_cong (μ := μ) (fun k _ _ => h4 k (by omega) (by omega)), g]
  · unfold gm_o2; split <;> omega
  · rw [h2]; unfold gm_n2 gSave; split <;> rfl
  · unfold gSave; split <;> (dsimp only; omega)
  · by_cases h6 : S.2.1.1 = 6
    · have e1 : gm_o2 S.2.1.1 ol' = (ol' + 1) % 6 := by rw [gm_o2, if_pos h6]
      have e2 : gm_n2 S.2.1.1 = 5 := by rw [gm_n2, if_pos h6]
      rw [e1, e2] at h3 h4
      rw [e1]
      unfold gSave at hi ⊢
      rw [if_pos h6] at hi ⊢
      dsimp only at hi ⊢
      by_cases h5 : i < 5
      · rw [if_pos h5, ← p5 (i + 1) (by omega), show ((ol' + 1) % 6 + i) % 6 = (ol' + (i + 1)) % 6 by omega]
        exact gR_cong (fun k _ _ => h4 k (by omega) (by omega))
      · rw [if_neg h5, show i = 5 by omega, h3, g]
    · have e1 : gm_o2 S.2.1.1 ol' = ol' := by rw [gm_o2, if_neg h6]
      have e2 : gm_n2 S.2.1.1 = S.2.1.1 := by rw [gm_n2, if_neg h6]
      rw [e1, e2] at h3 h4
      rw [e1]
      unfold gSave at hi ⊢
      rw [if_neg h6] at hi ⊢
      dsimp only at hi ⊢
      by_cases h5 : i = S.2.1.1
      · rw [if_pos h5, h5, h3, g]
      · rw [if_neg h5, ← p5 i (by omega)]
        exact gR_cong (fun k _ _ => h4 k (by omega) (by omega))
  · rw [h4 2 (by omega) (by omega), (s x hx).1]
  · rw [gR_cong (μ := μ) (fun k _ _ => h4 k (by omega) (by omega)), (s x hx).2 hy]
  · rw [h4 5 (by omega) (by omega), l]
  · rw [h4 6 (by omega) (by omega), c]
/-- what a game's row tells of its cells -/
def WG (μ : ev_M) (r : gm_R) : Prop := μ 44 10 = nI (rP r) ∧ rP r ≤ 4 ∧ μ 44 11 = nI (rOn r) ∧ rOn r < 4 ∧ μ 44 12 = nI (rIt r) ∧ rIt r < 4 ∧ (∀ p, p < 4 → μ 48 p = nI (rPl r p)) ∧ ∀ p, rPl r p < 10
theorem WG.of {μ : ev_M} {r : gm_R} (hg : gR μ 44 = r) (hW : WFr r) : WG μ r := by
  obtain ⟨P, on, it, br, s0, s1, s2, s3, hh, sd, pl, ab, bl, ⟨a1, a2, a3, a4, a5, a6, a7, a8, a9⟩, ⟨b1, b2, b3, b4, b5, b6, b7, b8, b9, b10⟩, ⟨c1, c2, c3⟩, ⟨d1, d2, d3, d4, d5⟩, e1, e2, e3⟩ := hW
  have q1 : rP r = P := by unfold rP; rw [b1, cl_nI (by omega)]
  have q2 : rOn r = on := by unfold rOn; rw [b3, cl_nI (by omega)]
  have q3 : rIt r = it := by unfold rIt; rw [b7, cl_nI (by omega)]
  have q4 : ∀ p, p < 4 → rPl r p = pl p := fun p hp => by unfold rPl; rw [d1 p hp, cl_nI (by have := d2 p; omega)]
  refine ⟨?_, ?_, ?_, ?_, ?_, ?_, fun p hp => ?_, fun p => ?_⟩
  · rw [← r44_players (μ := μ), hg, q1, b1]
  · omega
  · rw [← r44_onMove (μ := μ), hg, q2, b3]
  · omega
  · rw [← r44_it (μ := μ), hg, q3, b7]
  · omega
  · rw [← r44_place (μ := μ) hp, hg, q4 p hp, d1 p hp]
  · by_cases hp : p < 4
    · rw [q4 p hp]; exact d2 p
    · unfold rPl; rw [e3 _ (by omega)]; decide
def QC (o : gA) (μ : ev_M) (x : Int32) (μ2 : ev_M) : Prop := o.1 = 0 ∧ x = o.2.1 ∧ RepC μ2 o.2.2 ∧ Fr5 μ μ2
def QE (es : List Nat) (o : gA) (μ : ev_M) (E : Nat) (μ2 : ev_M) : Prop := (∃ c, o.1 = c + 1 ∧ es[c]? = some E) ∧ RepC μ2 o.2.2 ∧ Fr5 μ μ2
theorem QC.of {o : gA} {μ μ2 : ev_M} {a x : Int32} {S2 : gS} (h : o = (0, a, S2)) (h1 : x = a) (h2 : RepC μ2 S2) (h3 : Fr5 μ μ2) : QC o μ x μ2 := by subst h; exact ⟨rfl, h1, h2, h3⟩
theorem QE.of {es : List Nat} {o : gA} {μ : ev_M} {E : Nat} {S : gS} {a : Int32} (c : Nat) (h : o = (c + 1, a, S)) (h1 : es[c]? = some E) (h2 : RepC μ S) : QE es o μ E μ := by subst h; exact ⟨⟨c, rfl, h1⟩, h2, Fr5.rf⟩
