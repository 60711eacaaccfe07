/-! what the moves keep -/
def Rw (r : gm_R) (P on it s0 s1 s2 s3 : Nat) (hh sd pl ab bl : Nat → Nat) : Prop :=
  (r 0 = nI s0 ∧ 1 ≤ s0 ∧ s0 ≤ 20 ∧ r 1 = nI s1 ∧ s1 ≤ 9 ∧ r 2 = nI s2 ∧ s2 ≤ 20 ∧ r 3 = nI s3 ∧ s3 ≤ 9) ∧
  (r 4 = nI P ∧ P ≤ 4 ∧ r 5 = nI on ∧ on < 4 ∧ (0 < P → on < P) ∧ (P = 0 → on = 0) ∧ r 6 = nI it ∧ it < 4 ∧ (0 < P → it < P) ∧ (P = 0 → it = 0)) ∧
  ((∀ k, k < 10 → r (11 + k) = nI (hh k)) ∧ (∀ k, hh k ≤ 9) ∧ (∀ k, k < 10 → r (21 + k) = nI (sd k))) ∧
  ((∀ p, p < 4 → r (31 + 7 * p) = nI (pl p)) ∧ (∀ p, pl p < 10) ∧ (∀ p, p < 4 → r (31 + 7 * p + 1) = nI (ab p)) ∧ (∀ p, p < 4 → r (31 + 7 * p + 2) = nI (bl p))) ∧ (∀ j, 59 ≤ j → r j = 0)
def Tot (P : Nat) (sd ab bl : Nat → Nat) : Prop := nsum sd 10 + nsum ab 4 + nsum bl 4 ≤ 200 * P ∧ ∀ p, P ≤ p → p < 4 → ab p = 0 ∧ bl p = 0
def WFx (r : gm_R) (P on : Nat) : Prop := ∃ it s0 s1 s2 s3 hh sd pl ab bl, Rw r P on it s0 s1 s2 s3 hh sd pl ab bl ∧ Tot P sd ab bl
theorem WFx.of {r : gm_R} (h : WFr r) : WFx r (rP r) (rOn r) := by
  obtain ⟨P, on, it, br, s0, s1, s2, s3, hh, sd, pl, ab, bl, a, b, c, ⟨d1, d2, d3, d4, d5⟩, e1, e2, e3⟩ := h
  have q1 : rP r = P := by unfold rP; rw [b.1, cl_nI (by have := b.2.1; omega)]
  have q2 : rOn r = on := by unfold rOn; rw [b.2.2.1, cl_nI (by have := b.2.2.2.1; omega)]
  rw [q1, q2]
  exact ⟨it, s0, s1, s2, s3, hh, sd, pl, ab, bl, ⟨a, b, c, ⟨d1, d2, d3, d4⟩, e3⟩, by rw [e1]; exact e2, d5⟩
theorem WFx.wf {r : gm_R} {P on : Nat} (h : WFx r P on) : WFr r := by
  obtain ⟨it, s0, s1, s2, s3, hh, sd, pl, ab, bl, ⟨a, b, c, ⟨d1, d2, d3, d4⟩, e3⟩, e1, e2⟩ := h
  exact ⟨P, on, it, _, s0, s1, s2, s3, hh, sd, pl, ab, bl, a, b, c, ⟨d1, d2, d3, d4, e2⟩, rfl, e1, e3⟩
theorem Rw.sd {r : gm_R} {P on it s0 s1 s2 s3 : Nat} {hh sd pl ab bl : Nat → Nat} {t v : Nat} (ht : t < 10) (h : Rw r P on it s0 s1 s2 s3 hh sd pl ab bl) : Rw (upd r (21 + t) (nI v)) P on it s0 s1 s2 s3 hh (nup sd t v) pl ab bl := by
  obtain ⟨⟨a0, a1, a2, a3, a4, a5, a6, a7, a8⟩, ⟨b0, b1, b2, b3, b4, b5, b6, b7, b8, b9⟩, ⟨c1, c2, c3⟩, ⟨d1, d2, d3, d4⟩, e⟩ := h
  exact ⟨⟨(upd_ne (by omega)).trans a0, a1, a2, (upd_ne (by omega)).trans a3, a4, (upd_ne (by omega)).trans a5, a6, (upd_ne (by omega)).trans a7, a8⟩, ⟨(upd_ne (by omega)).trans b0, b1, (upd_ne (by omega)).trans b2, b3, b4, b5, (upd_ne (by omega)).trans b6, b7, b8, b9⟩, ⟨fun k hk => (upd_ne (by omega)).trans (c1 k hk), c2, (fun k hk => by
    unfold nup upd
    by_cases e9 : k = t
    · subst e9; rw [if_pos rfl, if_pos rfl]
    · rw [if_neg (by omega), if_neg e9]; exact c3 k hk)⟩, ⟨fun k hk => (upd_ne (by omega)).trans (d1 k hk), d2, fun k hk => (upd_ne (by omega)).trans (d3 k hk), fun k hk => (upd_ne (by omega)).trans (d4 k hk)⟩, fun j hj => (upd_ne (by omega)).trans (e j hj)⟩
theorem Rw.ab {r : gm_R} {P on it s0 s1 s2 s3 : Nat} {hh sd pl ab bl : Nat → Nat} {p v : Nat} (hp : p < 4) (h : Rw r P on it s0 s1 s2 s3 hh sd pl ab bl) : Rw (upd r (31 + 7 * p + 1) (nI v)) P on it s0 s1 s2 s3 hh sd pl (nup ab p v) bl := by
  obtain ⟨⟨a0, a1, a2, a3, a4, a5, a6, a7, a8⟩, ⟨b0, b1, b2, b3, b4, b5, b6, b7, b8, b9⟩, ⟨c1, c2, c3⟩, ⟨d1, d2, d3, d4⟩, e⟩ := h
  exact ⟨⟨(upd_ne (by omega)).trans a0, a1, a2, (upd_ne (by omega)).trans a3, a4, (upd_ne (by omega)).trans a5, a6, (upd_ne (by omega)).trans a7, a8⟩, ⟨(upd_ne (by omega)).trans b0, b1, (upd_ne (by omega)).trans b2, b3, b4, b5, (upd_ne (by omega)).trans b6, b7, b8, b9⟩, ⟨fun k hk => (upd_ne (by omega)).trans (c1 k hk), c2, fun k hk => (upd_ne (by omega)).trans (c3 k hk)⟩, ⟨fun k hk => (upd_ne (by omega)).trans (d1 k hk), d2, (fun k hk => by
    unfold nup upd
    by_cases e9 : k = p
    · subst e9; rw [if_pos rfl, if_pos rfl]
    · rw [if_neg (by omega), if_neg e9]; exact d3 k hk), fun k hk => (upd_ne (by omega)).trans (d4 k hk)⟩, fun j hj => (upd_ne (by omega)).trans (e j hj)⟩
theorem Rw.bl {r : gm_R} {P on it s0 s1 s2 s3 : Nat} {hh sd pl ab bl : Nat → Nat} {p v : Nat} (hp : p < 4) (h : Rw r P on it s0 s1 s2 s3 hh sd pl ab bl) : Rw (upd r (31 + 7 * p + 2) (nI v)) P on it s0 s1 s2 s3 hh sd pl ab (nup bl p v) := by
  obtain ⟨⟨a0, a1, a2, a3, a4, a5, a6, a7, a8⟩, ⟨b0, b1, b2, b3, b4, b5, b6, b7, b8, b9⟩, ⟨c1, c2, c3⟩, ⟨d1, d2, d3, d4⟩, e⟩ := h
  exact ⟨⟨(upd_ne (by omega)).trans a0, a1, a2, (upd_ne (by omega)).trans a3, a4, (upd_ne (by omega)).trans a5, a6, (upd_ne (by omega)).trans a7, a8⟩, ⟨(upd_ne (by omega)).trans b0, b1, (upd_ne (by omega)).trans b2, b3, b4, b5, (upd_ne (by omega)).trans b6, b7, b8, b9⟩, ⟨fun k hk => (upd_ne (by omega)).trans (c1 k hk), c2, fun k hk => (upd_ne (by omega)).trans (c3 k hk)⟩, ⟨fun k hk => (upd_ne (by omega)).trans (d1 k hk), d2, fun k hk => (upd_ne (by omega)).trans (d3 k hk), (fun k hk => by
    unfold nup upd
    by_cases e9 : k = p
    · subst e9; rw [if_pos rfl, if_pos rfl]
    · rw [if_neg (by omega), if_neg e9]; exact d4 k hk)⟩, fun j hj => (upd_ne (by omega)).trans (e j hj)⟩
theorem Rw.pl {r : gm_R} {P on it s0 s1 s2 s3 : Nat} {hh sd pl ab bl : Nat → Nat} {p v : Nat} (hp : p < 4) (hv : v < 10) (h : Rw r P on it s0 s1 s2 s3 hh sd pl ab bl) : Rw (upd r (31 + 7 * p) (nI v)) P on it s0 s1 s2 s3 hh sd (nup pl p v) ab bl := by
  obtain ⟨⟨a0, a1, a2, a3, a4, a5, a6, a7, a8⟩, ⟨b0, b1, b2, b3, b4, b5, b6, b7, b8, b9⟩, ⟨c1, c2, c3⟩, ⟨d1, d2, d3, d4⟩, e⟩ := h
  exact ⟨⟨(upd_ne (by omega)).trans a0, a1, a2, (upd_ne (by omega)).trans a3, a4, (upd_ne (by omega)).trans a5, a6, (upd_ne (by omega)).trans a7, a8⟩, ⟨(upd_ne (by omega)).trans b0, b1, (upd_ne (by omega)).trans b2, b3, b4, b5, (upd_ne (by omega)).trans b6, b7, b8, b9⟩, ⟨fun k hk => (upd_ne (by omega)).trans (c1 k hk), c2, fun k hk => (upd_ne (by omega)).trans (c3 k hk)⟩, ⟨(fun k hk => by
    unfold nup upd
    by_cases e9 : k = p
    · subst e9; rw [if_pos rfl, if_pos rfl]
    · rw [if_neg (by omega), if_neg e9]; exact d1 k hk), (fun q => by unfold nup; split; exact hv; exact d2 q), fun k hk => (upd_ne (by omega)).trans (d3 k hk), fun k hk => (upd_ne (by omega)).trans (d4 k hk)⟩, fun j hj => (upd_ne (by omega)).trans (e j hj)⟩
theorem Rw.hh {r : gm_R} {P on it s0 s1 s2 s3 : Nat} {hh sd pl ab bl : Nat → Nat} {t v : Nat} (ht : t < 10) (hv : v ≤ 9) (h : Rw r P on it s0 s1 s2 s3 hh sd pl ab bl) : Rw (upd r (11 + t) (nI v)) P on it s0 s1 s2 s3 (nup hh t v) sd pl ab bl := by
  obtain ⟨⟨a0, a1, a2, a3, a4, a5, a6, a7, a8⟩, ⟨b0, b1, b2, b3, b4, b5, b6, b7, b8, b9⟩, ⟨c1, c2, c3⟩, ⟨d1, d2, d3, d4⟩, e⟩ := h
  exact ⟨⟨(upd_ne (by omega)).trans a0, a1, a2, (upd_ne (by omega)).trans a3, a4, (upd_ne (by omega)).trans a5, a6, (upd_ne (by omega)).trans a7, a8⟩, ⟨(upd_ne (by omega)).trans b0, b1, (upd_ne (by omega)).trans b2, b3, b4, b5, (upd_ne (by omega)).trans b6, b7, b8, b9⟩, ⟨(fun k hk => by
    unfold nup upd
    by_cases e9 : k = t
    · subst e9; rw [if_pos rfl, if_pos rfl]
    · rw [if_neg (by omega), if_neg e9]; exact c1 k hk), (fun q => by unfold nup; split; exact hv; exact c2 q), fun k hk => (upd_ne (by omega)).trans (c3 k hk)⟩, ⟨fun k hk => (upd_ne (by omega)).trans (d1 k hk), d2, fun k hk => (upd_ne (by omega)).trans (d3 k hk), fun k hk => (upd_ne (by omega)).trans (d4 k hk)⟩, fun j hj => (upd_ne (by omega)).trans (e j hj)⟩
theorem Rw.no {r : gm_R} {P on it s0 s1 s2 s3 : Nat} {hh sd pl ab bl : Nat → Nat} {j : Nat} {x : Int32} (hj : (7 ≤ j ∧ j < 11) ∨ ∃ p, p < 4 ∧ 31 + 7 * p + 3 ≤ j ∧ j < 31 + 7 * p + 7) (h : Rw r P on it s0 s1 s2 s3 hh sd pl ab bl) : Rw (upd r j x) P on it s0 s1 s2 s3 hh sd pl ab bl := by
  have hj2 : (7 ≤ j ∧ j < 11) ∨ (31 ≤ j ∧ j < 59 ∧ 3 ≤ (j - 31) % 7) := by
    rcases hj with hj | ⟨p, hp, h1, h2⟩ <;> omega
  obtain ⟨⟨a0, a1, a2, a3, a4, a5, a6, a7, a8⟩, ⟨b0, b1, b2, b3, b4, b5, b6, b7, b8, b9⟩, ⟨c1, c2, c3⟩, ⟨d1, d2, d3, d4⟩, e⟩ := h
  exact ⟨⟨(upd_ne (by omega)).trans a0, a1, a2, (upd_ne (by omega)).trans a3, a4, (upd_ne (by omega)).trans a5, a6, (upd_ne (by omega)).trans a7, a8⟩, ⟨(upd_ne (by omega)).trans b0, b1, (upd_ne (by omega)).trans b2, b3, b4, b5, (upd_ne (by omega)).trans b6, b7, b8, b9⟩, ⟨fun k hk => (upd_ne (by omega)).trans (c1 k hk), c2, fun k hk => (upd_ne (by omega)).trans (c3 k hk)⟩, ⟨fun k hk => (upd_ne (by omega)).trans (d1 k hk), d2, fun k hk => (upd_ne (by omega)).trans (d3 k hk), fun k hk => (upd_ne (by omega)).trans (d4 k hk)⟩, fun j hj => (upd_ne (by omega)).trans (e j hj)⟩
theorem Rw.on {r : gm_R} {P on it s0 s1 s2 s3 : Nat} {hh sd pl ab bl : Nat → Nat} {n : Nat} (hn : n < 4) (hn2 : 0 < P → n < P) (hn3 : P = 0 → n = 0) (h : Rw r P on it s0 s1 s2 s3 hh sd pl ab bl) : Rw (upd r 5 (nI n)) P n it s0 s1 s2 s3 hh sd pl ab bl := by
  obtain ⟨⟨a0, a1, a2, a3, a4, a5, a6, a7, a8⟩, ⟨b0, b1, b2, b3, b4, b5, b6, b7, b8, b9⟩, ⟨c1, c2, c3⟩, ⟨d1, d2, d3, d4⟩, e⟩ := h
  exact ⟨⟨(upd_ne (by omega)).trans a0, a1, a2, (upd_ne (by omega)).trans a3, a4, (upd_ne (by omega)).trans a5, a6, (upd_ne (by omega)).trans a7, a8⟩, ⟨(upd_ne (by omega)).trans b0, b1, upd_eq, hn, hn2, hn3, (upd_ne (by omega)).trans b6, b7, b8, b9⟩, ⟨fun k hk => (upd_ne (by omega)).trans (c1 k hk), c2, fun k hk => (upd_ne (by omega)).trans (c3 k hk)⟩, ⟨fun k hk => (upd_ne (by omega)).trans (d1 k hk), d2, fun k hk => (upd_ne (by omega)).trans (d3 k hk), fun k hk => (upd_ne (by omega)).trans (d4 k hk)⟩, fun j hj => (upd_ne (by omega)).trans (e j hj)⟩
theorem Rw.it {r : gm_R} {P on it s0 s1 s2 s3 : Nat} {hh sd pl ab bl : Nat → Nat} {n : Nat} (hn : n < 4) (hn2 : 0 < P → n < P) (hn3 : P = 0 → n = 0) (h : Rw r P on it s0 s1 s2 s3 hh sd pl ab bl) : Rw (upd r 6 (nI n)) P on n s0 s1 s2 s3 hh sd pl ab bl := by
  obtain ⟨⟨a0, a1, a2, a3, a4, a5, a6, a7, a8⟩, ⟨b0, b1, b2, b3, b4, b5, b6, b7, b8, b9⟩, ⟨c1, c2, c3⟩, ⟨d1, d2, d3, d4⟩, e⟩ := h
  exact ⟨⟨(upd_ne (by omega)).trans a0, a1, a2, (upd_ne (by omega)).trans a3, a4, (upd_ne (by omega)).trans a5, a6, (upd_ne (by omega)).trans a7, a8⟩, ⟨(upd_ne (by omega)).trans b0, b1, (upd_ne (by omega)).trans b2, b3, b4, b5, upd_eq, hn, hn2, hn3⟩, ⟨fun k hk => (upd_ne (by omega)).trans (c1 k hk), c2, fun k hk => (upd_ne (by omega)).trans (c3 k hk)⟩, ⟨fun k hk => (upd_ne (by omega)).trans (d1 k hk), d2, fun k hk => (upd_ne (by omega)).trans (d3 k hk), fun k hk => (upd_ne (by omega)).trans (d4 k hk)⟩, fun j hj => (upd_ne (by omega)).trans (e j hj)⟩
theorem Rw.P {r : gm_R} {P on it s0 s1 s2 s3 : Nat} {hh sd pl ab bl : Nat → Nat} (hP : P < 4) (h : Rw r P on it s0 s1 s2 s3 hh sd pl ab bl) : Rw (upd r 4 (nI (P + 1))) (P + 1) on it s0 s1 s2 s3 hh sd pl ab bl := by
  obtain ⟨⟨a0, a1, a2, a3, a4, a5, a6, a7, a8⟩, ⟨b0, b1, b2, b3, b4, b5, b6, b7, b8, b9⟩, ⟨c1, c2, c3⟩, ⟨d1, d2, d3, d4⟩, e⟩ := h
  exact ⟨⟨(upd_ne (by omega)).trans a0, a1, a2, (upd_ne (by omega)).trans a3, a4, (upd_ne (by omega)).trans a5, a6, (upd_ne (by omega)).trans a7, a8⟩, ⟨upd_eq, by omega, (upd_ne (by omega)).trans b2, b3, (fun _ => by rcases Nat.eq_zero_or_pos P with q | q; rw [b5 q]; omega; have := b4 q; omega), (fun h9 => by omega), (upd_ne (by omega)).trans b6, b7, (fun _ => by rcases Nat.eq_zero_or_pos P with q | q; rw [b9 q]; omega; have := b8 q; omega), (fun h9 => by omega)⟩, ⟨fun k hk => (upd_ne (by omega)).trans (c1 k hk), c2, fun k hk => (upd_ne (by omega)).trans (c3 k hk)⟩, ⟨fun k hk => (upd_ne (by omega)).trans (d1 k hk), d2, fun k hk => (upd_ne (by omega)).trans (d3 k hk), fun k hk => (upd_ne (by omega)).trans (d4 k hk)⟩, fun j hj => (upd_ne (by omega)).trans (e j hj)⟩
theorem Rw.s0 {r : gm_R} {P on it s0 s1 s2 s3 : Nat} {hh sd pl ab bl : Nat → Nat} {v : Nat} (hv1 : 1 ≤ v) (hv : v ≤ 20) (h : Rw r P on it s0 s1 s2 s3 hh sd pl ab bl) : Rw (upd r 0 (nI v)) P on it v s1 s2 s3 hh sd pl ab bl := by
  obtain ⟨⟨a0, a1, a2, a3, a4, a5, a6, a7, a8⟩, ⟨b0, b1, b2, b3, b4, b5, b6, b7, b8, b9⟩, ⟨c1, c2, c3⟩, ⟨d1, d2, d3, d4⟩, e⟩ := h
  exact ⟨⟨upd_eq, hv1, hv, (upd_ne (by omega)).trans a3, a4, (upd_ne (by omega)).trans a5, a6, (upd_ne (by omega)).trans a7, a8⟩, ⟨(upd_ne (by omega)).trans b0, b1, (upd_ne (by omega)).trans b2, b3, b4, b5, (upd_ne (by omega)).trans b6, b7, b8, b9⟩, ⟨fun k hk => (upd_ne (by omega)).trans (c1 k hk), c2, fun k hk => (upd_ne (by omega)).trans (c3 k hk)⟩, ⟨fun k hk => (upd_ne (by omega)).trans (d1 k hk), d2, fun k hk => (upd_ne (by omega)).trans (d3 k hk), fun k hk => (upd_ne (by omega)).trans (d4 k hk)⟩, fun j hj => (upd_ne (by omega)).trans (e j hj)⟩
theorem Rw.s1 {r : gm_R} {P on it s0 s1 s2 s3 : Nat} {hh sd pl ab bl : Nat → Nat} {v : Nat} (hv1 : 0 ≤ v) (hv : v ≤ 9) (h : Rw r P on it s0 s1 s2 s3 hh sd pl ab bl) : Rw (upd r 1 (nI v)) P on it s0 v s2 s3 hh sd pl ab bl := by
  obtain ⟨⟨a0, a1, a2, a3, a4, a5, a6, a7, a8⟩, ⟨b0, b1, b2, b3, b4, b5, b6, b7, b8, b9⟩, ⟨c1, c2, c3⟩, ⟨d1, d2, d3, d4⟩, e⟩ := h
  exact ⟨⟨(upd_ne (by omega)).trans a0, a1, a2, upd_eq, hv, (upd_ne (by omega)).trans a5, a6, (upd_ne (by omega)).trans a7, a8⟩, ⟨(upd_ne (by omega)).trans b0, b1, (upd_ne (by omega)).trans b2, b3, b4, b5, (upd_ne (by omega)).trans b6, b7, b8, b9⟩, ⟨fun k hk => (upd_ne (by omega)).trans (c1 k hk), c2, fun k hk => (upd_ne (by omega)).trans (c3 k hk)⟩, ⟨fun k hk => (upd_ne (by omega)).trans (d1 k hk), d2, fun k hk => (upd_ne (by omega)).trans (d3 k hk), fun k hk => (upd_ne (by omega)).trans (d4 k hk)⟩, fun j hj => (upd_ne (by omega)).trans (e j hj)⟩
theorem Rw.s2 {r : gm_R} {P on it s0 s1 s2 s3 : Nat} {hh sd pl ab bl : Nat → Nat} {v : Nat} (hv1 : 0 ≤ v) (hv : v ≤ 20) (h : Rw r P on it s0 s1 s2 s3 hh sd pl ab bl) : Rw (upd r 2 (nI v)) P on it s0 s1 v s3 hh sd pl ab bl := by
  obtain ⟨⟨a0, a1, a2, a3, a4, a5, a6, a7, a8⟩, ⟨b0, b1, b2, b3, b4, b5, b6, b7, b8, b9⟩, ⟨c1, c2, c3⟩, ⟨d1, d2, d3, d4⟩, e⟩ := h
  exact ⟨⟨(upd_ne (by omega)).trans a0, a1, a2, (upd_ne (by omega)).trans a3, a4, upd_eq, hv, (upd_ne (by omega)).trans a7, a8⟩, ⟨(upd_ne (by omega)).trans b0, b1, (upd_ne (by omega)).trans b2, b3, b4, b5, (upd_ne (by omega)).trans b6, b7, b8, b9⟩, ⟨fun k hk => (upd_ne (by omega)).trans (c1 k hk), c2, fun k hk => (upd_ne (by omega)).trans (c3 k hk)⟩, ⟨fun k hk => (upd_ne (by omega)).trans (d1 k hk), d2, fun k hk => (upd_ne (by omega)).trans (d3 k hk), fun k hk => (upd_ne (by omega)).trans (d4 k hk)⟩, fun j hj => (upd_ne (by omega)).trans (e j hj)⟩
theorem Rw.s3 {r : gm_R} {P on it s0 s1 s2 s3 : Nat} {hh sd pl ab bl : Nat → Nat} {v : Nat} (hv1 : 0 ≤ v) (hv : v ≤ 9) (h : Rw r P on it s0 s1 s2 s3 hh sd pl ab bl) : Rw (upd r 3 (nI v)) P on it s0 s1 s2 v hh sd pl ab bl := by
  obtain ⟨⟨a0, a1, a2, a3, a4, a5, a6, a7, a8⟩, ⟨b0, b1, b2, b3, b4, b5, b6, b7, b8, b9⟩, ⟨c1, c2, c3⟩, ⟨d1, d2, d3, d4⟩, e⟩ := h
  exact ⟨⟨(upd_ne (by omega)).trans a0, a1, a2, (upd_ne (by omega)).trans a3, a4, (upd_ne (by omega)).trans a5, a6, upd_eq, hv⟩, ⟨(upd_ne (by omega)).trans b0, b1, (upd_ne (by omega)).trans b2, b3, b4, b5, (upd_ne (by omega)).trans b6, b7, b8, b9⟩, ⟨fun k hk => (upd_ne (by omega)).trans (c1 k hk), c2, fun k hk => (upd_ne (by omega)).trans (c3 k hk)⟩, ⟨fun k hk => (upd_ne (by omega)).trans (d1 k hk), d2, fun k hk => (upd_ne (by omega)).trans (d3 k hk), fun k hk => (upd_ne (by omega)).trans (d4 k hk)⟩, fun j hj => (upd_ne (by omega)).trans (e j hj)⟩
theorem tot_le {P : Nat} {sd ab bl : Nat → Nat} (hT : Tot P sd ab bl) (hP : P ≤ 4) : (∀ k, k < 10 → sd k ≤ 800) ∧ (∀ p, p < 4 → ab p + bl p ≤ 800) ∧ (∀ k p, k < 10 → p < 4 → sd k + ab p + bl p ≤ 800) ∧ ∀ p q, p < 4 → q < 4 → ab p + bl q ≤ 800 := by
  have h := hT.1
  refine ⟨fun k hk => ?_, fun p hp => ?_, fun k p hk hp => ?_, fun p q hp hq => ?_⟩
  · have := nsum_le (f := sd) hk; omega
  · have := nsum_le (f := ab) hp; have := nsum_le (f := bl) hp; omega
  · have := nsum_le (f := sd) hk; have := nsum_le (f := ab) hp; have := nsum_le (f := bl) hp; omega
  · have := nsum_le (f := ab) hp; have := nsum_le (f := bl) hq; omega
theorem tot_nz {P p : Nat} {sd ab bl sd' ab' bl' : Nat → Nat} (hT : Tot P sd ab bl) (h : nsum sd' 10 + nsum ab' 4 + nsum bl' 4 ≤ nsum sd 10 + nsum ab 4 + nsum bl 4) (hz : ∀ p, P ≤ p → p < 4 → ab' p = ab p ∧ bl' p = bl p) : Tot P sd' ab' bl' := ⟨Nat.le_trans h hT.1, fun p h1 h2 => by rw [(hz p h1 h2).1, (hz p h1 h2).2]; exact hT.2 p h1 h2⟩
theorem nup_ne {f : Nat → Nat} {i v k : Nat} (h : k ≠ i) : nup f i v k = f k := if_neg h
theorem nup_eq {f : Nat → Nat} {i v : Nat} : nup f i v i = v := if_pos rfl
theorem gm_run_n {r : gm_R} {on a s : Nat} (h1 : r (31 + 7 * on + 1) = nI a) (h2 : r 0 = nI s) (ha : a ≤ 800) (hs : s ≤ 20) : gm_run r on = nI (min a s) := by
  unfold gm_run
  rw [h1, h2]
  by_cases h : a < s
  · rw [if_pos (nI_lt h (by omega)), Nat.min_eq_left (by omega)]
  · rw [if_neg (nI_nlt (by omega) (by omega)), Nat.min_eq_right (by omega)]
theorem WFx.ends {r : gm_R} {P on : Nat} (h : WFx r P on) (h0 : 0 < P) : ∃ on2, WFx (gm_ends r P on) P on2 := by
  obtain ⟨it, s0, s1, s2, s3, hh, sd, pl, ab, bl, hR, hT⟩ := h
  have hR' := hR
  obtain ⟨⟨a0, a1, a2, a3, a4, a5, a6, a7, a8⟩, ⟨b0, b1, b2, b3, b4, b5, b6, b7, b8, b9⟩, ⟨c1, c2, c3⟩, ⟨d1, d2, d3, d4⟩, e⟩ := hR'
  obtain ⟨t1, t2, t3, t4⟩ := tot_le hT b1
  have hon := b4 h0
  have u1 := t2 on b3
  unfold gm_ends
  rw [gm_run_n (d3 on b3) a0 (by omega) a2]
  refine ⟨if on + 1 < P then on + 1 else 0, it, s0, s1, s2, s3, hh, sd, pl, nup ab on (ab on - min (ab on) s0), nup bl on (bl on + min (ab on) s0), ?_, ?_⟩
  · unfold gm_end
    rw [d3 on b3, pk_sub (by omega), d4 on b3, nI_add]
    exact ((((hR.ab b3).bl b3).no (Or.inr ⟨on, b3, by omega, by omega⟩)).no (Or.inl (by omega))).on (by split <;> omega) (fun _ => by split <;> omega) (fun h9 => by omega)
  · refine tot_nz (p := 0) hT ?_ (fun p h1 h2 => ⟨nup_ne (by omega), nup_ne (by omega)⟩)
    have v1 := nsum_nup (f := ab) (v := ab on - min (ab on) s0) b3
    have v2 := nsum_nup (f := bl) (v := bl on + min (ab on) s0) b3
    omega
theorem WFx.ref {r : gm_R} {P on : Nat} (h : WFx r P on) : WFx (gm_ref r) P on := by
  obtain ⟨it, s0, s1, s2, s3, hh, sd, pl, ab, bl, hR, hT⟩ := h
  exact ⟨it, s0, s1, s2, s3, hh, sd, pl, ab, bl, hR.no (Or.inl (by omega)), hT⟩
theorem Rw.pay {r : gm_R} {P on it s0 s1 s2 s3 : Nat} {hh sd pl ab bl : Nat → Nat} {a g : Nat} (h : Rw r P on it s0 s1 s2 s3 hh sd pl ab bl) (ha : a < 10) (hg : g ≤ bl on) : Rw (gm_pay r on a (nI g)) P on it s0 s1 s2 s3 hh (nup sd a (sd a + g)) pl ab (nup bl on (bl on - g)) := by
  have hR' := h
  obtain ⟨⟨a0, a1, a2, a3, a4, a5, a6, a7, a8⟩, ⟨b0, b1, b2, b3, b4, b5, b6, b7, b8, b9⟩, ⟨c1, c2, c3⟩, ⟨d1, d2, d3, d4⟩, e⟩ := hR'
  unfold gm_pay
  rw [d4 on b3, pk_sub hg, c3 a ha, nI_add]
  exact ((h.bl b3).no (Or.inr ⟨on, b3, by omega, by omega⟩)).sd ha
theorem WFx.turn {r : gm_R} {P on a : Nat} (h : WFx r P on) (h0 : 0 < P) (ha : a < 10) (hc : ¬ r (31 + 7 * on + 2) < r 2) : WFx (gm_turn r on a) P on := by
  obtain ⟨it, s0, s1, s2, s3, hh, sd, pl, ab, bl, hR, hT⟩ := h
  have hR' := hR
  obtain ⟨⟨a0, a1, a2, a3, a4, a5, a6, a7, a8⟩, ⟨b0, b1, b2, b3, b4, b5, b6, b7, b8, b9⟩, ⟨c1, c2, c3⟩, ⟨d1, d2, d3, d4⟩, e⟩ := hR'
  obtain ⟨t1, t2, t3, t4⟩ := tot_le hT b1
  have hon := b4 h0
  have u1 := t2 on b3
  have u2 : s2 ≤ bl on := by
    rcases Nat.lt_or_ge (bl on) s2 with q | q
    · exact absurd (by rw [d4 on b3, a5]; exact nI_lt q (by omega)) hc
    · exact q
  have hp := hR.pay (a := a) ha u2
  have hp' := hp
  obtain ⟨-, -, -, ⟨-, -, f3, f4⟩, -⟩ := hp'
  unfold gm_turn
  rw [a5, f3 on b3, f4 on b3]
  refine ⟨it, s0, s1, s2, s3, hh, _, pl, _, _, (hp.ab b3).bl b3, ?_⟩
  refine tot_nz (p := 0) hT ?_ (fun p h1 h2 => ⟨nup_ne (by omega), by rw [nup_ne (by omega), nup_ne (by omega)]⟩)
  have v1 := nsum_nup (f := ab) (v := nup bl on (bl on - s2) on) b3
  have v2 := nsum_nup (f := nup bl on (bl on - s2)) (v := ab on) b3
  have v3 := nsum_nup (f := bl) (v := bl on - s2) b3
  have v4 := nsum_nup (f := sd) (v := sd a + s2) ha
  rw [nup_eq] at v1 v2
  rw [nup_eq]
  omega
theorem WFx.go {r : gm_R} {P on a t g : Nat} (h : WFx r P on) (h0 : 0 < P) (ha : a < 10) (ht : t < 10) (hg : g < 2 ^ 31) (hc : ¬ r (31 + 7 * on + 2) < nI g) : WFx (gm_go r on a t (nI g)) P on := by
  obtain ⟨it, s0, s1, s2, s3, hh, sd, pl, ab, bl, hR, hT⟩ := h
  have hR' := hR
  obtain ⟨⟨a0, a1, a2, a3, a4, a5, a6, a7, a8⟩, ⟨b0, b1, b2, b3, b4, b5, b6, b7, b8, b9⟩, ⟨c1, c2, c3⟩, ⟨d1, d2, d3, d4⟩, e⟩ := hR'
  obtain ⟨t1, t2, t3, t4⟩ := tot_le hT b1
  have hon := b4 h0
  have u1 := t2 on b3
  have u2 : g ≤ bl on := by
    rcases Nat.lt_or_ge (bl on) g with q | q
    · exact absurd (by rw [d4 on b3]; exact nI_lt q (by omega)) hc
    · exact q
  have hp := hR.pay (a := a) ha u2
  have hp' := hp
  obtain ⟨-, -, ⟨-, -, f5⟩, ⟨-, -, f3, f4⟩, -⟩ := hp'
  unfold gm_go
  rw [f3 on b3, f5 t ht, nI_add]
  refine ⟨it, s0, s1, s2, s3, hh, _, _, _, _, ((hp.pl b3 ht).ab b3).sd ht, ?_⟩
  refine tot_nz (p := 0) hT ?_ (fun p h1 h2 => ⟨nup_ne (by omega), nup_ne (by omega)⟩)
  have v1 := nsum_nup (f := ab) (v := ab on + nup sd a (sd a + g) t) b3
  have v2 := nsum_nup (f := nup sd a (sd a + g)) (v := 0) ht
  have v3 := nsum_nup (f := bl) (v := bl on - g) b3
  have v4 := nsum_nup (f := sd) (v := sd a + g) ha
  omega
theorem WFx.tag {r : gm_R} {P on q : Nat} (h : WFx r P on) (h0 : 0 < P) (hq : q < P) : WFx (gm_tag r on q) P on := by
  obtain ⟨it, s0, s1, s2, s3, hh, sd, pl, ab, bl, hR, hT⟩ := h
  have hR' := hR
  obtain ⟨⟨a0, a1, a2, a3, a4, a5, a6, a7, a8⟩, ⟨b0, b1, b2, b3, b4, b5, b6, b7, b8, b9⟩, ⟨c1, c2, c3⟩, ⟨d1, d2, d3, d4⟩, e⟩ := hR'
  obtain ⟨t1, t2, t3, t4⟩ := tot_le hT b1
  have hon := b4 h0
  have u1 := t4 on q b3 (by omega)
  have eh : gm_half r q = nI (bl q / 2) := by
    unfold gm_half
    rw [d4 q (by omega), pk_div (by omega) (by omega) (by omega)]
  unfold gm_tag
  rw [eh, d4 q (by omega), pk_sub (by omega), d3 on b3, nI_add]
  refine ⟨q, s0, s1, s2, s3, hh, _, _, _, _, (((((hR.bl (by omega)).ab b3).no (Or.inr ⟨on, b3, by omega, by omega⟩)).no (Or.inr ⟨q, by omega, by omega, by omega⟩)).no (Or.inl (by omega))).it (by omega) (fun _ => hq) (fun h9 => by omega), ?_⟩
  refine tot_nz (p := 0) hT ?_ (fun p h1 h2 => ⟨nup_ne (by omega), nup_ne (by omega)⟩)
  have v1 := nsum_nup (f := ab) (v := ab on + bl q / 2) b3
  have v3 := nsum_nup (f := bl) (v := bl q - bl q / 2) (show q < 4 by omega)
  omega
theorem WFx.add {r : gm_R} {P on t v : Nat} (h : WFx r P on) (hP : P < 4) (ht : t < 10) (hv : v ≤ 200) : WFx (gm_add r P t (nI v)) (P + 1) on := by
  obtain ⟨it, s0, s1, s2, s3, hh, sd, pl, ab, bl, hR, hT⟩ := h
  unfold gm_add
  refine ⟨it, s0, s1, s2, s3, hh, _, _, _, _, (((hR.pl hP ht).ab hP).no (Or.inl (by omega))).P hP, ?_, fun p h1 h2 => ?_⟩
  · have v1 := nsum_nup (f := ab) (v := v) hP
    have := hT.1
    omega
  · rw [nup_ne (by omega)]; exact hT.2 p (by omega) h2
theorem WFx.set {r : gm_R} {P on k v : Nat} (h : WFx r P on) (hk : k < 4) (h1 : gm_lo k ≤ v) (h2 : v ≤ gm_up k) : WFx (upd r k (nI v)) P on := by
  obtain ⟨it, s0, s1, s2, s3, hh, sd, pl, ab, bl, hR, hT⟩ := h
  rcases (show k = 0 ∨ k = 1 ∨ k = 2 ∨ k = 3 by omega) with rfl | rfl | rfl | rfl
  · exact ⟨_, _, _, _, _, _, _, _, _, _, hR.s0 h1 h2, hT⟩
  · exact ⟨_, _, _, _, _, _, _, _, _, _, hR.s1 h1 h2, hT⟩
  · exact ⟨_, _, _, _, _, _, _, _, _, _, hR.s2 h1 h2, hT⟩
  · exact ⟨_, _, _, _, _, _, _, _, _, _, hR.s3 h1 h2, hT⟩
theorem WFx.high {r : gm_R} {P on k v : Nat} (h : WFx r P on) (hk : k < 10) (h2 : v ≤ 9) : WFx (upd r (11 + k) (nI v)) P on := by
  obtain ⟨it, s0, s1, s2, s3, hh, sd, pl, ab, bl, hR, hT⟩ := h
  exact ⟨_, _, _, _, _, _, _, _, _, _, hR.hh hk h2, hT⟩
theorem over_P {r : gm_R} (hW : WFr r) (h : rm_over r = false) : 0 < rP r := by
  have hx := WFx.of hW
  obtain ⟨it, s0, s1, s2, s3, hh, sd, pl, ab, bl, ⟨-, ⟨b0, b1, -⟩, -⟩, -⟩ := hx
  rcases Nat.eq_zero_or_pos (rP r) with q | q
  · rw [q] at b0
    unfold rm_over at h
    rw [b0] at h
    simp [nI_0] at h
  · exact q
theorem wf_pl {r : gm_R} (hW : WFr r) : ∀ p, rPl r p < 10 := by
  obtain ⟨P, on, it, br, s0, s1, s2, s3, hh, sd, pl, ab, bl, -, -, -, ⟨d1, d2, -⟩, -, -, e3⟩ := hW
  intro p
  unfold rPl
  by_cases hp : p < 4
  · rw [d1 p hp, cl_nI (by have := d2 p; omega)]; exact d2 p
  · rw [e3 _ (by omega)]; decide
theorem wf_on {r : gm_R} (hW : WFr r) : rP r ≤ 4 ∧ rOn r < 4 ∧ (0 < rP r → rOn r < rP r) := by
  obtain ⟨it, s0, s1, s2, s3, hh, sd, pl, ab, bl, ⟨-, ⟨b0, b1, b2, b3, b4, -⟩, -⟩, -⟩ := WFx.of hW
  exact ⟨b1, b3, b4⟩
theorem wf_wait {r : gm_R} (hW : WFr r) (h : 0 < rP r) : WFr (rm_wait r) := by
  obtain ⟨on2, h2⟩ := (WFx.of hW).ends h
  exact h2.wf
theorem wf_turn {r : gm_R} (hW : WFr r) (h : 0 < rP r) : WFr (rm_turn r).2 := by
  unfold rm_turn
  split
  · exact (WFx.of hW).ref.wf
  · rename_i hc
    obtain ⟨on2, h2⟩ := ((WFx.of hW).turn h (wf_pl hW _) hc).ends h
    exact h2.wf
theorem wf_stride {r : gm_R} {t : Nat} (hW : WFr r) (h : 0 < rP r) (ht : t < 10) : WFr (rm_stride r t).2 := by
  unfold rm_stride
  dsimp only
  split
  · rename_i hc
    have hq := rq_price hW (wf_pl hW (rOn r)) ht
    have hn : ¬ r (31 + 7 * rOn r + 2) < gm_price (r 1) (rH r) (rPl r (rOn r)) t := by
      intro h9
      unfold rm_why gm_why at hc
      rw [if_pos h9] at hc
      revert hc
      split
      · exact fun h8 => absurd h8 (by decide)
      · split
        · exact fun h8 => absurd h8 (by decide)
        · exact fun h8 => absurd h8 (by decide)
    rw [hq.1] at hn ⊢
    obtain ⟨on2, h2⟩ := ((WFx.of hW).go h (wf_pl hW _) ht (by have := hq.2; omega) hn).ends h
    exact h2.wf
  · exact (WFx.of hW).ref.wf
theorem wf_tag {r : gm_R} {q : Nat} (hW : WFr r) (h : 0 < rP r) (hq : q < rP r) : WFr (rm_tag r q).2 := by
  unfold rm_tag
  dsimp only
  split
  · obtain ⟨on2, h2⟩ := ((WFx.of hW).tag h hq).ends h
    exact h2.wf
  · exact (WFx.of hW).ref.wf
theorem wf_play {r : gm_R} {c e : Int32} (hW : WFr r) : WFr (rm_play r c e).2 := by
  unfold rm_play
  by_cases ho : rm_over r = true
  · rw [if_pos ho]; exact hW
  · rw [if_neg ho]
    have h := over_P hW (by simpa using ho)
    split
    · exact wf_wait hW h
    · split
      · exact wf_turn hW h
      · split
        · split
          · exact hW
          · rename_i hs
            obtain ⟨k, hk, rfl⟩ := gm_is_t (n := 10) (by simpa using hs) (by decide)
            rw [cl_nI (by omega)]
            exact wf_stride hW h hk
        · split
          · exact hW
          · rename_i hs
            obtain ⟨k, hk, rfl⟩ := gm_is_t (n := rP r) (by simpa using hs) (by have := (wf_on hW).1; omega)
            have := (wf_on hW).1
            rw [cl_nI (by omega)]
            exact wf_tag hW h hk
theorem wf_runs {f : Nat → Int32} {n : Nat} : ∀ {m k : Nat} {r : gm_R}, WFr r → WFr (rm_runs f n m k r).2
  | 0, _, _, h => h
  | m + 1, k, r, h => by
    unfold rm_runs
    split
    · split
      · exact wf_runs (wf_play h)
      · exact wf_play h
    · exact h
