/-! cheapest ways: three ways to find them, one answer -/
def Wn (q : Nat → Nat → Nat) (a : Nat) : Nat → Nat → Nat → Prop
  | 0, b, c => b = a ∧ c = 0
  | n + 1, b, c => ∃ u c0, u < 10 ∧ Wn q a n u c0 ∧ c = c0 + q u b
def Wk (q : Nat → Nat → Nat) (a b c : Nat) : Prop := ∃ n, Wn q a n b c
theorem Wk.z {q : Nat → Nat → Nat} {a : Nat} : Wk q a a 0 := ⟨0, rfl, rfl⟩
theorem Wk.s {q : Nat → Nat → Nat} {a u b c : Nat} (hu : u < 10) (h : Wk q a u c) : Wk q a b (c + q u b) := by
  obtain ⟨n, h⟩ := h
  exact ⟨n + 1, u, c, hu, h, rfl⟩
theorem Wk.app {q : Nat → Nat → Nat} {a u : Nat} {c1 : Nat} (h : Wk q a u c1) : ∀ (n b c2 : Nat), Wn q u n b c2 → Wk q a b (c1 + c2)
  | 0, b, c2, ⟨h1, h2⟩ => by subst h1 h2; exact h
  | n + 1, b, c2, ⟨v, c0, hv, h1, h2⟩ => by
    subst h2
    rw [← Nat.add_assoc]
    exact Wk.s hv (Wk.app h n v c0 h1)
def IsD (q : Nat → Nat → Nat) (a : Nat) (D : Nat → Nat) : Prop := (∀ b, b < 10 → Wk q a b (D b)) ∧ ∀ b c, b < 10 → Wk q a b c → D b ≤ c
theorem IsD.uniq {q : Nat → Nat → Nat} {a : Nat} {D E : Nat → Nat} (h : IsD q a D) (h2 : IsD q a E) {b : Nat} (hb : b < 10) : D b = E b := Nat.le_antisymm (h.2 b _ hb (h2.1 b hb)) (h2.2 b _ hb (h.1 b hb))
theorem IsD.low {q : Nat → Nat → Nat} {a : Nat} {D : Nat → Nat} (h0 : D a = 0) (ht : ∀ u v, u < 10 → v < 10 → D v ≤ D u + q u v) : ∀ n b c, b < 10 → Wn q a n b c → D b ≤ c
  | 0, b, c, _, ⟨h1, h2⟩ => by subst h1 h2; omega
  | n + 1, b, c, hb, ⟨u, c0, hu, h1, h2⟩ => by
    have := IsD.low h0 ht n u c0 hu h1
    have := ht u b hu hb
    omega
theorem IsD.mk2 {q : Nat → Nat → Nat} {a : Nat} {D : Nat → Nat} (h0 : D a = 0) (ht : ∀ u v, u < 10 → v < 10 → D v ≤ D u + q u v) (hc : ∀ b, b < 10 → ∃ c, Wk q a b c ∧ c < 100000) (hw : ∀ b, b < 10 → 100000 ≤ D b ∨ Wk q a b (D b)) : IsD q a D := by
  have hl : ∀ b c, b < 10 → Wk q a b c → D b ≤ c := fun b c hb h => by obtain ⟨n, h⟩ := h; exact IsD.low h0 ht n b c hb h
  refine ⟨fun b hb => ?_, hl⟩
  rcases hw b hb with h | h
  · obtain ⟨c, h1, h2⟩ := hc b hb
    have := hl b c hb h1
    omega
  · exact h
/-! Dijkstra -/
theorem dj_best_sp {c : Nat → Nat} {sd : Nat → Bool} : ∀ {k b : Nat}, dj_best c sd k = some b → sd b = false ∧ ∀ t, t < k → sd t = false → c b ≤ c t
  | 0, b, h => by cases h
  | k + 1, b, h => by
    unfold dj_best at h
    by_cases hs : sd k = true
    · rw [if_pos hs] at h
      obtain ⟨h1, h2⟩ := dj_best_sp h
      refine ⟨h1, fun t ht h3 => ?_⟩
      rcases Nat.lt_or_ge t k with q | q
      · exact h2 t q h3
      · rw [show t = k by omega, hs] at h3; cases h3
    · rw [if_neg hs] at h
      cases hq : dj_best c sd k with
      | none =>
        rw [hq] at h
        cases h
        refine ⟨by simpa using hs, fun t ht h3 => ?_⟩
        rcases Nat.lt_or_ge t k with q | q
        · exact absurd h3 (by rw [dj_best_none hq t q]; decide)
        · rw [show t = k by omega]; exact Nat.le_refl _
      | some b2 =>
        rw [hq] at h
        dsimp only at h
        obtain ⟨h1, h2⟩ := dj_best_sp hq
        by_cases hc : c k < c b2
        · rw [if_pos hc] at h
          cases h
          refine ⟨by simpa using hs, fun t ht h3 => ?_⟩
          rcases Nat.lt_or_ge t k with q | q
          · have := h2 t q h3; omega
          · rw [show t = k by omega]; exact Nat.le_refl _
        · rw [if_neg hc] at h
          cases h
          refine ⟨h1, fun t ht h3 => ?_⟩
          rcases Nat.lt_or_ge t k with q | q
          · exact h2 t q h3
          · rw [show t = k by omega]; omega
where
  dj_best_none {c : Nat → Nat} {sd : Nat → Bool} : ∀ {k : Nat}, dj_best c sd k = none → ∀ t, t < k → sd t = true
  | 0, _, t, ht => absurd ht (Nat.not_lt_zero t)
  | k + 1, h, t, ht => by
    unfold dj_best at h
    by_cases hs : sd k = true
    · rw [if_pos hs] at h
      rcases Nat.lt_or_ge t k with q | q
      · exact dj_best_none h t q
      · rw [show t = k by omega]; exact hs
    · rw [if_neg hs] at h
      cases hq : dj_best c sd k with
      | none => rw [hq] at h; cases h
      | some b2 =>
        rw [hq] at h
        dsimp only at h
        split at h <;> cases h
theorem dj_relax_v {s : Nat → Nat → Nat} {nx : Nat} {c : Nat → Nat} : ∀ k t, dj_relax s nx c k nx = c nx ∧ dj_relax s nx c k t = if t < k then min (c t) (c nx + s nx t) else c t
  | 0, t => ⟨rfl, by rw [if_neg (by omega)]; rfl⟩
  | k + 1, t => by
    have h1 := (dj_relax_v (s := s) (nx := nx) (c := c) k nx).1
    have h2 : ∀ t, dj_relax s nx c (k + 1) t = if t < k + 1 then min (c t) (c nx + s nx t) else c t := fun t => by
      rw [dj_relax_s]
      by_cases e : t = k
      · subst e
        rw [if_pos rfl, if_pos (by omega), h1, (dj_relax_v t t).2, if_neg (by omega)]
      · rw [if_neg e, (dj_relax_v k t).2]
        by_cases e2 : t < k
        · rw [if_pos e2, if_pos (by omega)]
        · rw [if_neg e2, if_neg (by omega)]
    refine ⟨?_, h2 t⟩
    rw [h2 nx]
    split
    · exact Nat.min_eq_left (by omega)
    · rfl
def DI (s : Nat → Nat → Nat) (a : Nat) (c : Nat → Nat) (sd : Nat → Bool) : Prop := c a = 0 ∧ (∀ b, b < 10 → c b = 1000000 ∨ Wk s a b (c b)) ∧ (∀ u v, u < 10 → v < 10 → sd u = true → c v ≤ c u + s u v) ∧ ∀ u v, u < 10 → v < 10 → sd u = true → sd v = false → c u ≤ c v
def cnt (f : Nat → Bool) : Nat → Nat
  | 0 => 0
  | n + 1 => cnt f n + (if f n = true then 1 else 0)
theorem cnt_le {f : Nat → Bool} : ∀ n, cnt f n ≤ n
  | 0 => Nat.le_refl _
  | n + 1 => by
    have := cnt_le (f := f) n
    unfold cnt
    split <;> omega
theorem cnt_all {f : Nat → Bool} : ∀ n, cnt f n = n → ∀ t, t < n → f t = true
  | 0, _, t, ht => absurd ht (Nat.not_lt_zero t)
  | n + 1, h, t, ht => by
    unfold cnt at h
    have := cnt_le (f := f) n
    by_cases hf : f n = true
    · rw [if_pos hf] at h
      rcases Nat.lt_or_ge t n with q | q
      · exact cnt_all n (by omega) t q
      · rw [show t = n by omega]; exact hf
    · rw [if_neg hf] at h; omega
theorem cnt_up {f : Nat → Bool} {x : Nat} (hx : f x = false) : ∀ n, cnt (fun t => decide (t = x) || f t) n = cnt f n + (if x < n then 1 else 0)
  | 0 => rfl
  | n + 1 => by
    unfold cnt
    rw [cnt_up hx n]
    by_cases e : n = x
    · subst e
      rw [if_neg (by omega), if_pos (by simp), if_neg (by rw [hx]; decide), if_pos (by omega)]
    · rw [show (decide (n = x) || f n) = f n by simp [e]]
      by_cases e2 : x < n
      · rw [if_pos e2, show (if x < n + 1 then 1 else 0) = 1 from if_pos (by omega)]; omega
      · rw [if_neg e2, show (if x < n + 1 then 1 else 0) = 0 from if_neg (by omega)]; omega
theorem dj_inv {s : Nat → Nat → Nat} {a : Nat} (ha : a < 10) : ∀ n, n ≤ 10 → DI s a (dj s a n).1 (dj s a n).2 ∧ cnt (dj s a n).2 10 = n
  | 0, _ => by
    refine ⟨⟨if_pos rfl, fun b hb => ?_, fun u v _ _ h => (by cases h), fun u v _ _ h => (by cases h)⟩, rfl⟩
    show dj_i a b = _ ∨ Wk s a b (dj_i a b)
    unfold dj_i
    by_cases e : b = a
    · right; rw [if_pos e, e]; exact Wk.z
    · left; rw [if_neg e]
  | n + 1, hn => by
    obtain ⟨⟨h1, h2, h3, h4⟩, h5⟩ := dj_inv (s := s) ha n (by omega)
    have hle : ∀ t, (dj s a n).1 t ≤ 1000000 := fun t => dj_le
    cases hb : dj_best (dj s a n).1 (dj s a n).2 10 with
    | none =>
      have hall := dj_best_sp.dj_best_none hb
      have : cnt (dj s a n).2 10 = 10 := by
        have hg : ∀ m, m ≤ 10 → cnt (dj s a n).2 m = m := by
          intro m
          induction m with
          | zero => intro _; rfl
          | succ m ih => intro hm; unfold cnt; rw [ih (by omega), if_pos (hall m (by omega))]
        exact hg 10 (Nat.le_refl _)
      omega
    | some nx =>
      have hnx := dj_best_lt hb
      obtain ⟨b1, b2⟩ := dj_best_sp hb
      have e : dj s a (n + 1) = (dj_relax s nx (dj s a n).1 10, fun t => decide (t = nx) || (dj s a n).2 t) := by
        show dj_round s (dj s a n) = _
        unfold dj_round
        rw [hb]
      rw [e]
      dsimp only
      generalize (dj s a n).1 = c at *
      generalize (dj s a n).2 = sd at *
      have hv : ∀ t, t < 10 → dj_relax s nx c 10 t = min (c t) (c nx + s nx t) := fun t ht => by rw [(dj_relax_v 10 t).2, if_pos ht]
      have hsd : ∀ u, u < 10 → (decide (u = nx) || sd u) = true → u = nx ∨ sd u = true := fun u _ h => by simpa using h
      have hun : ∀ v, (decide (v = nx) || sd v) = false → v ≠ nx ∧ sd v = false := fun v h => by simpa using h
      have hold : ∀ u, u < 10 → sd u = true → dj_relax s nx c 10 u = c u := fun u hu h => by
        rw [hv u hu]
        have := h4 u nx hu hnx h b1
        exact Nat.min_eq_left (by omega)
      have hnn : dj_relax s nx c 10 nx = c nx := (dj_relax_v 10 nx).1
      refine ⟨⟨?_, fun b hb => ?_, fun u v hu hv2 h => ?_, fun u v hu hv2 h h' => ?_⟩, ?_⟩
      · rw [hv a ha, h1]; exact Nat.zero_min _
      · rw [hv b hb]
        rcases Nat.le_total (c b) (c nx + s nx b) with q | q
        · rw [Nat.min_eq_left q]; exact h2 b hb
        · rw [Nat.min_eq_right q]
          rcases h2 nx hnx with w | w
          · left; have := hle b; omega
          · right; exact Wk.s hnx w
      · rcases hsd u hu h with rfl | h
        · rw [hnn, hv v hv2]; exact Nat.min_le_right _ _
        · rw [hold u hu h, hv v hv2]
          exact Nat.le_trans (Nat.min_le_left _ _) (h3 u v hu hv2 h)
      · obtain ⟨k1, k2⟩ := hun v h'
        rcases hsd u hu h with rfl | h
        · rw [hnn, hv v hv2]
          have := b2 v hv2 k2
          omega
        · rw [hold u hu h, hv v hv2]
          have := h4 u v hu hv2 h k2
          have := h4 u nx hu hnx h b1
          omega
      · rw [cnt_up b1, if_pos hnx, h5]
theorem dj_D {s : Nat → Nat → Nat} {a : Nat} (ha : a < 10) (hc : ∀ b, b < 10 → ∃ c, Wk s a b c ∧ c < 100000) : IsD s a (dj s a 10).1 := by
  obtain ⟨⟨h1, h2, h3, -⟩, h5⟩ := dj_inv (s := s) ha 10 (Nat.le_refl _)
  exact IsD.mk2 h1 (fun u v hu hv => h3 u v hu hv (cnt_all 10 h5 u hu)) hc (fun b hb => by rcases h2 b hb with h | h; exact Or.inl (by omega); exact Or.inr h)
/-! going over -/
theorem fw_row_v {m : Nat → Nat → Nat} {o i : Nat} (h0 : m o o = 0) : ∀ j f t, fw_row o i m j f t = if f = i ∧ t < j then min (m i t) (m i o + m o t) else m f t
  | 0, f, t => by rw [if_neg (by omega)]; rfl
  | j + 1, f, t => by
    have ih := fw_row_v (m := m) (o := o) (i := i) h0 j
    have e1 : fw_row o i m j i j = m i j := by rw [ih, if_neg (by omega)]
    have e2 : fw_row o i m j i o = m i o := by
      rw [ih]
      split
      · exact Nat.min_eq_left (by omega)
      · rfl
    have e3 : fw_row o i m j o j = m o j := by rw [ih, if_neg (by omega)]
    show fw_in (fw_row o i m j) o i j f t = _
    unfold fw_in
    rw [e1, e2, e3]
    by_cases e : f = i ∧ t = j
    · rw [if_pos e, if_pos (by omega), e.2]
    · rw [if_neg e, ih]
      by_cases e4 : f = i ∧ t < j
      · rw [if_pos e4, if_pos (by omega)]
      · rw [if_neg e4, if_neg (by omega)]
theorem fw_all_v {m : Nat → Nat → Nat} {o : Nat} (h0 : m o o = 0) (ho : o < 10) : ∀ k f t, t < 10 → fw_all o m k f t = if f < k then min (m f t) (m f o + m o t) else m f t
  | 0, f, t, _ => by rw [if_neg (by omega)]; rfl
  | k + 1, f, t, ht => by
    · have ih := fw_all_v (m := m) (o := o) h0 ho k
      have e0 : ∀ t, t < 10 → fw_all o m k o t = m o t := fun t ht => by
        rw [ih o t ht]
        split
        · rw [h0, Nat.zero_add]; exact Nat.min_self _
        · rfl
      show fw_row o k (fw_all o m k) 10 f t = _
      rw [fw_row_v (by rw [e0 o ho, h0])]
      by_cases e : f = k
      · subst e
        rw [if_pos ⟨rfl, ht⟩, if_pos (by omega), e0 t ht, ih f t ht, ih f o ho, if_neg (by omega), if_neg (by omega)]
      · rw [if_neg (by omega), ih f t ht]
        by_cases e2 : f < k
        · rw [if_pos e2, if_pos (by omega)]
        · rw [if_neg e2, if_neg (by omega)]
def FI (q m : Nat → Nat → Nat) (k : Nat) : Prop := (∀ i, i < 10 → m i i = 0) ∧ (∀ i j, i < 10 → j < 10 → Wk q i j (m i j)) ∧ (∀ i j, i < 10 → j < 10 → m i j ≤ q i j) ∧ ∀ u i j, u < k → i < 10 → j < 10 → m i j ≤ m i u + m u j
theorem fw_inv {q : Nat → Nat → Nat} (h0 : ∀ i, i < 10 → q i i = 0) : ∀ k, k ≤ 10 → FI q (fw q k) k
  | 0, _ => ⟨h0, fun i j hi hj => by have := Wk.s (q := q) (b := j) hi (Wk.z (a := i)); rw [Nat.zero_add] at this; exact this, fun _ _ _ _ => Nat.le_refl _, fun u i j hu => absurd hu (Nat.not_lt_zero u)⟩
  | k + 1, hk => by
    obtain ⟨h1, h2, h3, h4⟩ := fw_inv h0 k (by omega)
    have hk9 : k < 10 := by omega
    have hv : ∀ f t, f < 10 → t < 10 → fw q (k + 1) f t = min (fw q k f t) (fw q k f k + fw q k k t) := fun f t hf ht => by
      show fw_all k (fw q k) 10 f t = _
      rw [fw_all_v (h1 k hk9) hk9 10 f t ht, if_pos hf]
    refine ⟨fun i hi => ?_, fun i j hi hj => ?_, fun i j hi hj => ?_, fun u i j hu hi hj => ?_⟩
    · rw [hv i i hi hi, h1 i hi]; exact Nat.zero_min _
    · rw [hv i j hi hj]
      rcases Nat.le_total (fw q k i j) (fw q k i k + fw q k k j) with w | w
      · rw [Nat.min_eq_left w]; exact h2 i j hi hj
      · rw [Nat.min_eq_right w]
        obtain ⟨n, hn⟩ := h2 k j hk9 hj
        exact Wk.app (h2 i k hi hk9) n j _ hn
    · rw [hv i j hi hj]; exact Nat.le_trans (Nat.min_le_left _ _) (h3 i j hi hj)
    · have hu9 : u < 10 := by omega
      rw [hv i j hi hj, hv i u hi hu9, hv u j hu9 hj]
      have k1 := h1 k hk9
      rcases Nat.lt_or_ge u k with w | w
      · have a1 := h4 u i j w hi hj
        have a2 := h4 u i k w hi hk9
        have a3 := h4 u k j w hk9 hj
        have a4 := h4 u k k w hk9 hk9
        omega
      · obtain rfl : u = k := by omega
        omega
theorem fw_D {q : Nat → Nat → Nat} {a : Nat} (ha : a < 10) (h0 : ∀ i, i < 10 → q i i = 0) : IsD q a (fw q 10 a) := by
  obtain ⟨h1, h2, h3, h4⟩ := fw_inv h0 10 (Nat.le_refl _)
  refine ⟨fun b hb => h2 a b ha hb, fun b c hb h => ?_⟩
  obtain ⟨n, h⟩ := h
  refine IsD.low (h1 a ha) (fun u v hu hv => ?_) n b c hb h
  have := h4 u a v hu ha hv
  have := h3 u v hu hv
  omega
