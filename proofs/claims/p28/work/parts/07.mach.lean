/-! the machine's side of the pure steps: the world as one list of cells, locals as a list, what the kit's rows say of them -/
def ev_cv (ad : Nat → Nat) : Value → Value
  | .ref r => .ref (ad r)
  | .int x => .int x
  | .long x => .long x
  | .float x => .float x
  | .double x => .double x
  | .null => .null
  | v => v
theorem ev_cvc {ad : Nat → Nat} (v : Value) : (ev_cv ad v).category = v.category := by cases v <;> rfl
def ev_fl (ad : Nat → Nat) (f : Nat → Int32) : Nat → List (Option Nat) → List Value
  | _, [] => []
  | i, none :: t => .int (f i) :: ev_fl ad f (i + 1) t
  | i, some r :: t => .ref (ad r) :: ev_fl ad f (i + 1) t
def ev_re (ad : Nat → Nat) (rs : List (Option Nat)) : Nat → Option Nat := fun i => (rs.getD i none).map ad
def ev_en (ca : Nat → ClassId) (ad : Nat → Nat) (k : Nat) (f : Nat → Int32) : va_E := match ev_lay k with
  | (0, ci, fs) => .inr (ci, ev_fl ad f 0 fs)
  | (1, n, _) => .inl (ca 0, n, .inl f)
  | (2, n, _) => .inl (ca 1, n, .inl f)
  | (3, n, rs) => .inl (ca 2, n, .inr (.inr (.inr (.inr (ev_re ad rs)))))
  | (4, n, _) => .inl (ca 3, n, .inr (.inl (fun i => (f i).toInt64)))
  | (_, n, rs) => .inl (ca 4, n, .inr (.inr (.inr (.inr (ev_re ad rs)))))
/-- the ids of the world's cells: 14 to 23 are none -/
def ev_id (j : Nat) : Nat := if j < 14 then j else j + 10
def ev_pl (k : Nat) : Nat := if k < 14 then k else k - 10
def ev_in (k : Nat) : Prop := k < 143 ∧ (k < 14 ∨ 24 ≤ k)
theorem ev_id_in {j : Nat} (h : j < 133) : ev_in (ev_id j) ∧ ev_pl (ev_id j) = j := by
  by_cases c : j < 14
  · have e : ev_id j = j := if_pos c
    rw [e]
    exact ⟨⟨by omega, Or.inl c⟩, if_pos c⟩
  · have e : ev_id j = j + 10 := if_neg c
    rw [e]
    exact ⟨⟨by omega, Or.inr (by omega)⟩, by unfold ev_pl; rw [if_neg (by omega)]; omega⟩
theorem ev_pl_lt {k : Nat} (h : ev_in k) : ev_pl k < 133 ∧ ev_id (ev_pl k) = k := by
  obtain ⟨h1, h2⟩ := h
  by_cases c : k < 14
  · have e : ev_pl k = k := if_pos c
    rw [e]
    exact ⟨by omega, if_pos c⟩
  · have e : ev_pl k = k - 10 := if_neg c
    rw [e]
    exact ⟨by omega, by unfold ev_id; rw [if_neg (by omega)]; omega⟩
def ev_wl (ca : Nat → ClassId) (ad : Nat → Nat) (μ : ev_M) : va_W := (List.range 133).map (fun j => (ad (ev_id j), ev_en ca ad (ev_id j) (μ (ev_id j))))
theorem ev_wl_j {ca : Nat → ClassId} {ad : Nat → Nat} {μ : ev_M} {j : Nat} (h : j < 133) : (ev_wl ca ad μ)[j]? = some (ad (ev_id j), ev_en ca ad (ev_id j) (μ (ev_id j))) := by
  unfold ev_wl
  rw [List.getElem?_map, List.getElem?_range h]
  rfl
theorem ev_wl_get {ca : Nat → ClassId} {ad : Nat → Nat} {μ : ev_M} {k : Nat} (h : ev_in k) : (ev_wl ca ad μ)[ev_pl k]? = some (ad k, ev_en ca ad k (μ k)) := by
  obtain ⟨h1, h2⟩ := ev_pl_lt h
  rw [ev_wl_j h1, h2]
theorem ev_wl_inv {ca : Nat → ClassId} {ad : Nat → Nat} {μ : ev_M} {j : Nat} {q : Nat × va_E} (h : (ev_wl ca ad μ)[j]? = some q) : j < 133 ∧ q = (ad (ev_id j), ev_en ca ad (ev_id j) (μ (ev_id j))) := by
  have hk : j < 133 := by
    have := (List.getElem?_eq_some_iff.mp h).1
    simpa [ev_wl] using this
  rw [ev_wl_j hk] at h
  exact ⟨hk, (Option.some.inj h).symm⟩
def ev_ty (ca : Nat → ClassId) : List (ClassId × FieldType) := [(ca 0, .int), (ca 1, .boolean), (ca 2, .object RX0), (ca 3, .byte), (ca 4, .array .int)]
theorem ev_lay_lt {k t n : Nat} {rs : List (Option Nat)} (h : ev_lay k = (t, n, rs)) (ht : t ≠ 9) : ev_in k := by
  have h0 : ∀ k, k < 24 → 14 ≤ k → ev_lay k = (9, 0, []) := by decide +kernel
  rcases Nat.lt_or_ge k 143 with q | q
  · rcases Nat.lt_or_ge k 14 with q2 | q2
    · exact ⟨q, Or.inl q2⟩
    · rcases Nat.lt_or_ge k 24 with q3 | q3
      · rw [h0 k q3 q2] at h
        cases h
        exact absurd rfl ht
      · exact ⟨q, Or.inr q3⟩
  · have e : ev_lay k = (9, 0, []) := by
      unfold ev_lay
      rw [if_neg (by omega), if_neg (by omega), if_neg (by omega)]
    rw [e] at h
    cases h
    exact absurd rfl ht
theorem ev_lay_n0 : ∀ k, k < 143 → (ev_lay k).2.1 ≤ 400 := by decide +kernel
theorem ev_lay_n {k t n : Nat} {rs : List (Option Nat)} (h : ev_lay k = (t, n, rs)) (ht : t ≠ 9) : n ≤ 400 := by
  have := ev_lay_n0 k (ev_lay_lt h ht).1
  rw [h] at this
  exact this
theorem ev_wl_set {ca : Nat → ClassId} {ad : Nat → Nat} {μ μ2 : ev_M} {k : Nat} {e : va_E} (h : ev_in k) (he : ev_en ca ad k (μ2 k) = e) (ho : ∀ q, q ≠ k → μ2 q = μ q) : (ev_wl ca ad μ).set (ev_pl k) (ad k, e) = ev_wl ca ad μ2 := by
  apply List.ext_getElem?
  intro j
  by_cases hj : j < 133
  · by_cases hk : ev_pl k = j
    · subst hk
      rw [List.getElem?_set_self (by simpa [ev_wl] using hj), ev_wl_get h, he]
    · rw [List.getElem?_set_ne hk, ev_wl_j hj, ev_wl_j hj, ho (ev_id j) (fun q => hk (by rw [← q]; exact (ev_id_in hj).2))]
  · rw [List.getElem?_eq_none (by simp [ev_wl]; omega), List.getElem?_eq_none (by simp [ev_wl]; omega)]
theorem ev_wl_D {A : Nat → Prop} {ca : Nat → ClassId} {ad : Nat → Nat} {μ : ev_M} (h : va_D A (ev_wl ca ad μ)) (μ2 : ev_M) : va_D A (ev_wl ca ad μ2) := by
  refine ⟨fun i j p q hi hj hpq => ?_, fun k q hk => ?_⟩
  · obtain ⟨hi1, rfl⟩ := ev_wl_inv hi
    obtain ⟨hj1, rfl⟩ := ev_wl_inv hj
    exact h.1 i j _ _ (ev_wl_j hi1) (ev_wl_j hj1) hpq
  · obtain ⟨hk1, rfl⟩ := ev_wl_inv hk
    exact h.2 k (ad (ev_id k), ev_en ca ad (ev_id k) (μ (ev_id k))) (ev_wl_j hk1)
-- locals
def ev_nn : Value → Bool
  | .null => false
  | _ => true
def ev_lv (ad : Nat → Nat) : Nat → List Value → List (Nat × Value)
  | _, [] => []
  | i, v :: t => if ev_nn v then (i, ev_cv ad v) :: ev_lv ad (i + 1) t else ev_lv ad (i + 1) t
theorem ev_lv_mem {ad : Nat → Nat} {q : Nat × Value} : ∀ {L : List Value} {i : Nat}, q ∈ ev_lv ad i L ↔ ∃ (j : Nat) (v : Value), q.1 = i + j ∧ L[j]? = some v ∧ ev_nn v = true ∧ q.2 = ev_cv ad v := by
  intro L
  induction L with
  | nil => intro i; simp [ev_lv]
  | cons w t ih =>
    intro i
    unfold ev_lv
    constructor
    · intro h
      by_cases hw : ev_nn w = true
      · rw [if_pos hw] at h
        rcases List.mem_cons.mp h with rfl | h
        · exact ⟨0, w, rfl, rfl, hw, rfl⟩
        · obtain ⟨j, v, h1, h2, h3, h4⟩ := ih.mp h
          exact ⟨j + 1, v, by omega, by simpa using h2, h3, h4⟩
      · rw [if_neg hw] at h
        obtain ⟨j, v, h1, h2, h3, h4⟩ := ih.mp h
        exact ⟨j + 1, v, by omega, by simpa using h2, h3, h4⟩
    · rintro ⟨j, v, h1, h2, h3, h4⟩
      cases j with
      | zero =>
        simp at h2
        subst h2
        rw [if_pos h3]
        have : q = (i, ev_cv ad w) := Prod.ext (by simpa using h1) h4
        rw [this]
        exact List.mem_cons_self
      | succ j =>
        have hm : q ∈ ev_lv ad (i + 1) t := ih.mpr ⟨j, v, by omega, by simpa using h2, h3, h4⟩
        by_cases hw : ev_nn w = true
        · rw [if_pos hw]; exact List.mem_cons_of_mem _ hm
        · rw [if_neg hw]; exact hm
def ev_lc (ad : Nat → Nat) (nL : Nat) (ls : Array Slot) (L : List Value) : Prop := ls.size = nL ∧ lv_has ls nL (ev_lv ad 0 L) ∧ L.length = nL
theorem ev_lc_at {ad : Nat → Nat} {nL : Nat} {ls : Array Slot} {L : List Value} {i : Nat} {v : Value} (hl : ev_lc ad nL ls L) (h : L[i]? = some v) (hv : ev_nn v = true) : ls[i]? = some (.val (ev_cv ad v)) :=
  hl.2.1.2.2 (i, ev_cv ad v) (ev_lv_mem.mpr ⟨i, v, (Nat.zero_add i).symm, h, hv, rfl⟩)
theorem ev_lc_lt {ad : Nat → Nat} {nL : Nat} {ls : Array Slot} {L : List Value} {k : Nat} (hl : ev_lc ad nL ls L) (h : ev_ok1 L k) : k < nL := by rw [← hl.2.2]; exact h.1
theorem ev_lc_lt2 {ad : Nat → Nat} {nL : Nat} {ls : Array Slot} {L : List Value} {k : Nat} (hl : ev_lc ad nL ls L) (h : ev_ok2 L k) : k + 1 < nL := by rw [← hl.2.2]; exact h.1
theorem ev_lv_sub {ls : Array Slot} {nL : Nat} {l l2 : List (Nat × Value)} (h : lv_has ls nL l) (hs : ∀ q ∈ l2, q ∈ l) : lv_has ls nL l2 := ⟨h.1, h.2.1, fun q hq => h.2.2 q (hs q hq)⟩
theorem ev_lc_st1 {ad : Nat → Nat} {nL : Nat} {ls ls2 : Array Slot} {L : List Value} {k : Nat} {v w : Value} (hl : ev_lc ad nL ls L) (h : ev_ok1 L k) (hw : ev_cv ad v = w) (h2 : lv_has ls2 nL ((k, w) :: (ev_lv ad 0 L).filter (fun q => !(q.1 == k) && !(q.1 + 1 == k && q.2.category == 2)))) : ev_lc ad nL ls2 (L.set k v) := by
  refine ⟨h2.1, ev_lv_sub h2 fun q hq => ?_, by rw [List.length_set]; exact hl.2.2⟩
  obtain ⟨j, u, h3, h4, h5, h6⟩ := ev_lv_mem.mp hq
  rw [Nat.zero_add] at h3
  by_cases hjk : k = j
  · subst hjk
    rw [List.getElem?_set_self h.1] at h4
    cases h4
    have : q = (k, w) := Prod.ext h3 (by rw [h6, hw])
    rw [this]
    exact List.mem_cons_self
  · rw [List.getElem?_set_ne hjk] at h4
    refine List.mem_cons_of_mem _ (List.mem_filter.mpr ⟨ev_lv_mem.mpr ⟨j, u, by omega, h4, h5, h6⟩, ?_⟩)
    have e1 : (q.1 == k) = false := by
      simp only [beq_eq_false_iff_ne]; omega
    have e2 : (q.1 + 1 == k && q.2.category == 2) = false := by
      by_cases hj : j + 1 = k
      · have hc := h.2 j u hj h4
        rw [h6, ev_cvc, hc]
        simp
      · have : (q.1 + 1 == k) = false := by simp only [beq_eq_false_iff_ne]; omega
        rw [this]; rfl
    rw [e1, e2]; rfl
theorem ev_lc_st2 {ad : Nat → Nat} {nL : Nat} {ls ls2 : Array Slot} {L : List Value} {k : Nat} {v w : Value} (hl : ev_lc ad nL ls L) (h : ev_ok2 L k) (hw : ev_cv ad v = w) (h2 : lv_has ls2 nL ((k, w) :: (ev_lv ad 0 L).filter (fun q => !(q.1 == k) && (!(q.1 == k + 1) && !(q.1 + 1 == k && q.2.category == 2))))) : ev_lc ad nL ls2 ((L.set k v).set (k + 1) .null) := by
  refine ⟨h2.1, ev_lv_sub h2 fun q hq => ?_, by rw [List.length_set, List.length_set]; exact hl.2.2⟩
  obtain ⟨j, u, h3, h4, h5, h6⟩ := ev_lv_mem.mp hq
  rw [Nat.zero_add] at h3
  by_cases hj1 : k + 1 = j
  · subst hj1
    rw [List.getElem?_set_self (by rw [List.length_set]; exact h.1)] at h4
    cases h4
    cases h5
  rw [List.getElem?_set_ne hj1] at h4
  by_cases hjk : k = j
  · subst hjk
    rw [List.getElem?_set_self (by have := h.1; omega)] at h4
    cases h4
    have : q = (k, w) := Prod.ext h3 (by rw [h6, hw])
    rw [this]
    exact List.mem_cons_self
  · rw [List.getElem?_set_ne hjk] at h4
    refine List.mem_cons_of_mem _ (List.mem_filter.mpr ⟨ev_lv_mem.mpr ⟨j, u, by omega, h4, h5, h6⟩, ?_⟩)
    have e1 : (q.1 == k) = false := by
      simp only [beq_eq_false_iff_ne]; omega
    have e3 : (q.1 == k + 1) = false := by
      simp only [beq_eq_false_iff_ne]; omega
    have e2 : (q.1 + 1 == k && q.2.category == 2) = false := by
      by_cases hj : j + 1 = k
      · have hc := h.2 j u hj h4
        rw [h6, ev_cvc, hc]
        simp
      · have : (q.1 + 1 == k) = false := by simp only [beq_eq_false_iff_ne]; omega
        rw [this]; rfl
    rw [e1, e2, e3]; rfl
theorem ev_wk_at : ∀ {L L2 : List Value}, ev_wk L L2 → L2.length = L.length ∧ ∀ (j : Nat) (v : Value), L2[j]? = some v → ev_nn v = true → L[j]? = some v
  | [], [], _ => ⟨rfl, fun _ _ h => by simp at h⟩
  | [], _ :: _, h => by simp [ev_wk] at h
  | _ :: _, [], h => by simp [ev_wk] at h
  | v :: s, w :: t, h => by
    obtain ⟨h1, h2⟩ := h
    obtain ⟨i1, i2⟩ := ev_wk_at h2
    refine ⟨by simp [i1], fun j u hj hn => ?_⟩
    cases j with
    | zero =>
      simp at hj
      subst hj
      rcases h1 with rfl | rfl
      · cases hn
      · rfl
    | succ j => simpa using i2 j u (by simpa using hj) hn
theorem ev_lc_wk {ad : Nat → Nat} {nL : Nat} {ls : Array Slot} {L L2 : List Value} (hl : ev_lc ad nL ls L) (h : ev_wk L L2) : ev_lc ad nL ls L2 := by
  obtain ⟨h1, h2⟩ := ev_wk_at h
  refine ⟨hl.1, ev_lv_sub hl.2.1 fun q hq => ?_, h1.trans hl.2.2⟩
  obtain ⟨j, v, a1, a2, a3, a4⟩ := ev_lv_mem.mp hq
  exact ev_lv_mem.mpr ⟨j, v, a1, h2 j v a2 a3, a3, a4⟩
-- fields
theorem ev_fl_int {ad : Nat → Nat} {f : Nat → Int32} : ∀ {fs : List (Option Nat)} {i k : Nat}, fs[k]? = some none → (ev_fl ad f i fs)[k]? = some (.int (f (i + k)))
  | [], _, _, h => by simp at h
  | none :: t, i, 0, _ => rfl
  | some r :: t, i, 0, h => by simp at h
  | none :: t, i, k + 1, h => by
    have := ev_fl_int (ad := ad) (f := f) (fs := t) (i := i + 1) (k := k) (by simpa using h)
    rw [show i + (k + 1) = i + 1 + k by omega]
    simpa [ev_fl] using this
  | some r :: t, i, k + 1, h => by
    have := ev_fl_int (ad := ad) (f := f) (fs := t) (i := i + 1) (k := k) (by simpa using h)
    rw [show i + (k + 1) = i + 1 + k by omega]
    simpa [ev_fl] using this
theorem ev_fl_ref {ad : Nat → Nat} {f : Nat → Int32} : ∀ {fs : List (Option Nat)} {i k r : Nat}, fs[k]? = some (some r) → (ev_fl ad f i fs)[k]? = some (.ref (ad r))
  | [], _, _, _, h => by simp at h
  | none :: t, i, 0, _, h => by simp at h
  | some r :: t, i, 0, r2, h => by
    simp at h
    subst h
    rfl
  | none :: t, i, k + 1, r, h => by simpa [ev_fl] using ev_fl_ref (ad := ad) (f := f) (fs := t) (i := i + 1) (k := k) (r := r) (by simpa using h)
  | some r :: t, i, k + 1, r2, h => by simpa [ev_fl] using ev_fl_ref (ad := ad) (f := f) (fs := t) (i := i + 1) (k := k) (r := r2) (by simpa using h)
theorem ev_fl_upd {ad : Nat → Nat} {f : Nat → Int32} {x : Int32} : ∀ {fs : List (Option Nat)} {i j : Nat}, j < i → ev_fl ad (upd f j x) i fs = ev_fl ad f i fs
  | [], _, _, _ => rfl
  | none :: t, i, j, h => by
    simp only [ev_fl]
    rw [ev_fl_upd (by omega)]
    simp [upd]; omega
  | some r :: t, i, j, h => by
    simp only [ev_fl]
    rw [ev_fl_upd (by omega)]
theorem ev_fl_set {ad : Nat → Nat} {f : Nat → Int32} {x : Int32} : ∀ {fs : List (Option Nat)} {i k : Nat}, fs[k]? = some none → (ev_fl ad f i fs).set k (.int x) = ev_fl ad (upd f (i + k) x) i fs
  | [], _, _, h => by simp at h
  | none :: t, i, 0, _ => by
    simp only [ev_fl, List.set_cons_zero]
    rw [Nat.add_zero, ev_fl_upd (by omega)]
    simp [upd]
  | some r :: t, i, 0, h => by simp at h
  | none :: t, i, k + 1, h => by
    have := ev_fl_set (ad := ad) (f := f) (x := x) (fs := t) (i := i + 1) (k := k) (by simpa using h)
    simp only [ev_fl, List.set_cons_succ]
    rw [this, show i + (k + 1) = i + 1 + k by omega]
    simp [upd]; omega
  | some r :: t, i, k + 1, h => by
    have := ev_fl_set (ad := ad) (f := f) (x := x) (fs := t) (i := i + 1) (k := k) (by simpa using h)
    simp only [ev_fl, List.set_cons_succ]
    rw [this, show i + (k + 1) = i + 1 + k by omega]
theorem ev_fl_len {ad : Nat → Nat} {f : Nat → Int32} : ∀ {fs : List (Option Nat)} {i : Nat}, (ev_fl ad f i fs).length = fs.length
  | [], _ => rfl
  | none :: t, i => by simp [ev_fl, ev_fl_len (fs := t)]
  | some r :: t, i => by simp [ev_fl, ev_fl_len (fs := t)]
theorem ev_fld_s {k0 ci k : Nat} {o : Option Nat} (h : ev_fld k0 ci k = some o) : ev_in k0 ∧ ∃ fs, ev_lay k0 = (0, ci, fs) ∧ fs[k]? = some o := by
  unfold ev_fld at h
  generalize hq : ev_lay k0 = q at h
  obtain ⟨t, c, fs⟩ := q
  dsimp only at h
  by_cases hc : t = 0 ∧ c = ci
  · rw [if_pos hc] at h
    obtain ⟨rfl, rfl⟩ := hc
    exact ⟨ev_lay_lt hq (by decide), fs, rfl, h⟩
  · rw [if_neg hc] at h; cases h
theorem ev_en0 {ca : Nat → ClassId} {ad : Nat → Nat} {k ci : Nat} {fs : List (Option Nat)} {f : Nat → Int32} (h : ev_lay k = (0, ci, fs)) : ev_en ca ad k f = .inr (ci, ev_fl ad f 0 fs) := by unfold ev_en; rw [h]; rfl
theorem ev_en1 {ca : Nat → ClassId} {ad : Nat → Nat} {k n : Nat} {rs : List (Option Nat)} {f : Nat → Int32} (h : ev_lay k = (1, n, rs)) : ev_en ca ad k f = .inl (ca 0, n, .inl f) := by unfold ev_en; rw [h]; rfl
theorem ev_en2 {ca : Nat → ClassId} {ad : Nat → Nat} {k n : Nat} {rs : List (Option Nat)} {f : Nat → Int32} (h : ev_lay k = (2, n, rs)) : ev_en ca ad k f = .inl (ca 1, n, .inl f) := by unfold ev_en; rw [h]; rfl
theorem ev_en3 {ca : Nat → ClassId} {ad : Nat → Nat} {k n : Nat} {rs : List (Option Nat)} {f : Nat → Int32} (h : ev_lay k = (3, n, rs)) : ev_en ca ad k f = .inl (ca 2, n, .inr (.inr (.inr (.inr (ev_re ad rs))))) := by unfold ev_en; rw [h]; rfl
theorem ev_en5 {ca : Nat → ClassId} {ad : Nat → Nat} {k n : Nat} {rs : List (Option Nat)} {f : Nat → Int32} (h : ev_lay k = (5, n, rs)) : ev_en ca ad k f = .inl (ca 4, n, .inr (.inr (.inr (.inr (ev_re ad rs))))) := by unfold ev_en; rw [h]; rfl
theorem ev_fr_w {oc i ci k : Nat} (h : ev_fr oc i = some (ci, k)) : (Cond.fieldLink (ev_cn oc) i (ev_T ci k).1 (ev_T ci k).2.1 (ev_T ci k).2.2.1) ∈ ev_TB ∧ ci < 6 ∧ k < ev_tN ci := by
  unfold ev_fr at h
  cases hq : ev_frT.lookup (oc, i) with
  | none => rw [hq] at h; cases h
  | some q =>
    rw [hq] at h
    obtain ⟨a, b, c⟩ := q
    cases h
    obtain ⟨h1, h2, h3⟩ := ev_fr_t _ (ev_lk hq)
    exact ⟨ev_TBi h1 rfl, h2, h3⟩
theorem ev_cl7 {ci : Nat} (h : ci < 6) : vwCl[ci]? = some (ev_cn ci, ev_T ci, ev_tN ci) := by
  match ci, h with
  | 0, _ => rfl
  | 1, _ => rfl
  | 2, _ => rfl
  | 3, _ => rfl
  | 4, _ => rfl
  | 5, _ => rfl
theorem ev_laysB {ci : Nat} (h : ci < 6) : ∀ w ∈ u_ws (ev_cn ci) (ev_T ci) (ev_tN ci), w ∈ ev_TB := fun w hw => by
  refine ev_TBm (ev_lays_t ci h w hw) ?_
  obtain ⟨k, -, rfl⟩ := List.mem_map.mp hw
  unfold u_lay
  by_cases hq : (ev_T ci k).2.2.2 = true
  · rw [if_pos hq]; rfl
  · rw [if_neg hq]; rfl
def ev_ty0 (ci : Nat) : Nat → FieldType := match ci with
  | 0 => tyX0 | 1 => tyX1 | 2 => tyX2 | 3 => tyX3 | 4 => tyX4 | 5 => tyX5 | _ => tyX6
theorem ev_ty_ok {ci : Nat} (h : ci < 6) : ∀ k, k < ev_tN ci → parseFieldDescriptor (ev_T ci k).2.2.1 = some (ev_ty0 ci k) := by
  match ci, h with
  | 0, _ => exact tyX0_ok
  | 1, _ => exact tyX1_ok
  | 2, _ => exact tyX2_ok
  | 3, _ => exact tyX3_ok
  | 4, _ => exact tyX4_ok
  | 5, _ => exact tyX5_ok
theorem ev_nm_ok {ci : Nat} (h : ci < 6) : ∀ a, a < ev_tN ci → ∀ b, b < ev_tN ci → a ≠ b → (ev_T ci a).2.1 ≠ (ev_T ci b).2.1 := by
  match ci, h with
  | 0, _ => exact nmX0
  | 1, _ => exact nmX1
  | 2, _ => exact nmX2
  | 3, _ => exact nmX3
  | 4, _ => exact nmX4
  | 5, _ => exact nmX5
theorem ev_int0 : ∀ k0, k0 < 143 → ∀ k, k < 17 → (decide ((ev_lay k0).1 = 0) && decide ((ev_lay k0).2.2[k]? = some none)) = true → ((ev_T (ev_lay k0).2.1 k).2.2.1 = "I" ∧ (ev_T (ev_lay k0).2.1 k).2.2.2 = false) := by decide +kernel
theorem ev_intI : parseFieldDescriptor "I" = some .int := by decide +kernel
theorem ev_len0 : ∀ k0, k0 < 143 → (ev_lay k0).2.2.length ≤ 17 := by decide +kernel
theorem ev_int {k0 ci k : Nat} {fs : List (Option Nat)} (h : ev_lay k0 = (0, ci, fs)) (hf : fs[k]? = some none) : parseFieldDescriptor (ev_T ci k).2.2.1 = some .int ∧ (ev_T ci k).2.2.2 = false := by
  have hk0 := (ev_lay_lt h (by decide)).1
  have hlen := ev_len0 k0 hk0
  rw [h] at hlen
  have hk : k < 17 := Nat.lt_of_lt_of_le (List.getElem?_eq_some_iff.mp hf).1 hlen
  have := ev_int0 k0 hk0 k hk (by rw [h]; simp [hf])
  rw [h] at this
  exact ⟨by rw [this.1]; exact ev_intI, this.2⟩
