/-! what a move leaves, told place by place -/
def mEnd (R r2 : gm_R) (P on : Nat) : Prop := r2 (31 + 7 * on) = R (31 + 7 * on) ∧ r2 (31 + 7 * on + 1) = R (31 + 7 * on + 1) - gm_run R on ∧ r2 (31 + 7 * on + 2) = R (31 + 7 * on + 2) + gm_run R on ∧ r2 (31 + 7 * on + 6) = R (31 + 7 * on + 6) ∧
  (∀ t, t < 10 → r2 (21 + t) = R (21 + t)) ∧ r2 5 = nI ((on + 1) % P) ∧ r2 7 = R 7 + nI 1 ∧ r2 8 = R 8 ∧ r2 6 = R 6 ∧ (∀ q, q ≠ on → r2 (31 + 7 * q + 2) = R (31 + 7 * q + 2)) ∧ (∀ k, k < 5 → r2 k = R k)
theorem mv_ends {R : gm_R} {P on : Nat} (ho : on < P) : mEnd R (gm_ends R P on) P on := by
  unfold gm_ends gm_end mEnd
  generalize gm_run R on = g
  refine ⟨?_, ?_, ?_, ?_, fun t ht => ?_, ?_, ?_, ?_, ?_, fun q hq => ?_, fun k hk => ?_⟩
  · simp (disch := omega) only [upd_ne]
  · simp (disch := omega) only [upd_ne, upd_eq]
  · simp (disch := omega) only [upd_ne, upd_eq]
  · simp (disch := omega) only [upd_ne]
  · simp (disch := omega) only [upd_ne]
  · rw [upd_eq]
    by_cases h : on + 1 < P
    · rw [if_pos h, Nat.mod_eq_of_lt h]
    · rw [if_neg h, show on + 1 = P by omega, Nat.mod_self]
  · simp (disch := omega) only [upd_ne, upd_eq]
  · simp (disch := omega) only [upd_ne]
  · simp (disch := omega) only [upd_ne]
  · simp (disch := omega) only [upd_ne]
  · simp (disch := omega) only [upd_ne]
theorem mv_endq {R r2 : gm_R} {P on : Nat} (ho : on < P) (h : r2 = gm_ends R P on) : mEnd R r2 P on := by rw [h]; exact mv_ends ho
theorem mv_go {r : gm_R} {on a t : Nat} {g : Int32} (ha : a < 10) (ht : t < 10) (hne : a ≠ t) {R : gm_R} (hR : R = gm_go r on a t g) :
    R (31 + 7 * on) = nI t ∧ R (31 + 7 * on + 1) = r (31 + 7 * on + 1) + r (21 + t) ∧ R (31 + 7 * on + 2) = r (31 + 7 * on + 2) - g ∧ R (31 + 7 * on + 6) = r (31 + 7 * on + 6) + g ∧ R (21 + a) = r (21 + a) + g ∧ R (21 + t) = nI 0 ∧ R 7 = r 7 ∧ R 8 = r 8 ∧ R 6 = r 6 ∧ ∀ k, k < 5 → R k = r k := by
  subst hR
  unfold gm_go gm_pay
  refine ⟨?_, ?_, ?_, ?_, ?_, ?_, ?_, ?_, ?_, fun k hk => ?_⟩
  · simp (disch := omega) only [upd_ne, upd_eq]
  · simp (disch := omega) only [upd_ne, upd_eq]
  · simp (disch := omega) only [upd_ne, upd_eq]
  · simp (disch := omega) only [upd_ne, upd_eq]
  · simp (disch := omega) only [upd_ne, upd_eq]
  · rw [upd_eq]
  · simp (disch := omega) only [upd_ne]
  · simp (disch := omega) only [upd_ne]
  · simp (disch := omega) only [upd_ne]
  · simp (disch := omega) only [upd_ne]
theorem mv_turn {r : gm_R} {on a : Nat} (ha : a < 10) {R : gm_R} (hR : R = gm_turn r on a) :
    R (31 + 7 * on) = r (31 + 7 * on) ∧ R (31 + 7 * on + 1) = r (31 + 7 * on + 2) - r 2 ∧ R (31 + 7 * on + 2) = r (31 + 7 * on + 1) ∧ R (31 + 7 * on + 6) = r (31 + 7 * on + 6) + r 2 ∧ R (21 + a) = r (21 + a) + r 2 ∧ R 7 = r 7 ∧ R 8 = r 8 ∧ R 6 = r 6 ∧ ∀ k, k < 5 → R k = r k := by
  subst hR
  unfold gm_turn gm_pay
  refine ⟨?_, ?_, ?_, ?_, ?_, ?_, ?_, ?_, fun k hk => ?_⟩
  · simp (disch := omega) only [upd_ne, upd_eq]
  · simp (disch := omega) only [upd_ne, upd_eq]
  · simp (disch := omega) only [upd_ne, upd_eq]
  · simp (disch := omega) only [upd_ne, upd_eq]
  · simp (disch := omega) only [upd_ne, upd_eq]
  · simp (disch := omega) only [upd_ne]
  · simp (disch := omega) only [upd_ne]
  · simp (disch := omega) only [upd_ne]
  · simp (disch := omega) only [upd_ne]
theorem mv_tag {r : gm_R} {on q : Nat} (hne : on ≠ q) {R : gm_R} (hR : R = gm_tag r on q) :
    R (31 + 7 * on) = r (31 + 7 * on) ∧ R (31 + 7 * on + 1) = r (31 + 7 * on + 1) + r (31 + 7 * q + 2) / nI 2 ∧ R (31 + 7 * on + 2) = r (31 + 7 * on + 2) ∧ R (31 + 7 * on + 6) = r (31 + 7 * on + 6) ∧ (∀ t, t < 10 → R (21 + t) = r (21 + t)) ∧ R 7 = r 7 ∧ R 8 = r 8 ∧ R 6 = nI q ∧ R (31 + 7 * q + 2) = r (31 + 7 * q + 2) - r (31 + 7 * q + 2) / nI 2 ∧ ∀ k, k < 5 → R k = r k := by
  subst hR
  unfold gm_tag gm_half
  generalize r (31 + 7 * q + 2) / nI 2 = g
  refine ⟨?_, ?_, ?_, ?_, fun t ht => ?_, ?_, ?_, ?_, ?_, fun k hk => ?_⟩
  · simp (disch := omega) only [upd_ne, upd_eq]
  · simp (disch := omega) only [upd_ne, upd_eq]
  · simp (disch := omega) only [upd_ne, upd_eq]
  · simp (disch := omega) only [upd_ne, upd_eq]
  · simp (disch := omega) only [upd_ne, upd_eq]
  · simp (disch := omega) only [upd_ne]
  · simp (disch := omega) only [upd_ne]
  · rw [upd_eq]
  · simp (disch := omega) only [upd_ne, upd_eq]
  · simp (disch := omega) only [upd_ne]
theorem rP_k {r r2 : gm_R} (h : r2 4 = r 4) : rP r2 = rP r := by unfold rP; rw [h]
theorem inv_ends {r : gm_R} {P on : Nat} (h : INVP r P) (ho : on < P) (h4 : P ≤ 4) : INVP (gm_ends r P on) P := inv_end h ho h4
theorem inv_turn {r : gm_R} {P on a : Nat} (h : INVP r P) (ho : on < P) (h4 : P ≤ 4) (ha : a < 10) : INVP (gm_turn r on a) P := inv_swap (inv_pay h ho h4 ha) ho h4
theorem inv_go {r : gm_R} {P on a t : Nat} {g : Int32} (h : INVP r P) (ho : on < P) (h4 : P ≤ 4) (ha : a < 10) (ht : t < 10) : INVP (gm_go r on a t g) P := inv_come (inv_pay h ho h4 ha) ho h4 ht
/-- what the law holds of a row between its acts: k acts at most were made -/
def HLD (r : gm_R) (P k : Nat) : Prop := WFr r ∧ rP r = P ∧ 0 < P ∧ INVP r P ∧ ∃ m, m ≤ k ∧ r 7 = nI m
theorem HLD.ends {r R : gm_R} {P k : Nat} (h : HLD r P k) (hW : WFr (gm_ends R P (rOn r))) (hI : INVP R P) (h7 : R 7 = r 7) (h4 : R 4 = r 4) : HLD (gm_ends R P (rOn r)) P (k + 1) := by
  obtain ⟨w, p, p0, i, m, hm, h7'⟩ := h
  obtain ⟨q4, q5, q6⟩ := wf_on w
  have ho : rOn r < P := by rw [← p]; exact q6 (by omega)
  have e := mv_ends (R := R) ho
  obtain ⟨-, -, -, -, -, -, e7, -, -, -, ek⟩ := e
  refine ⟨hW, ?_, p0, inv_ends hI ho (by omega), m + 1, by omega, ?_⟩
  · rw [rP_k ((ek 4 (by omega)).trans h4), p]
  · rw [e7, h7, h7', nI_add]
theorem HLD.ref {r : gm_R} {P k : Nat} (h : HLD r P k) : HLD (gm_ref r) P (k + 1) := by
  obtain ⟨w, p, p0, i, m, hm, h7⟩ := h
  have e : ∀ j, j ≠ 8 → gm_ref r j = r j := fun j hj => upd_ne hj
  exact ⟨(WFx.of w).ref.wf, by rw [rP_k (e 4 (by decide)), p], p0, inv_ref i, m, by omega, by rw [e 7 (by decide), h7]⟩
theorem HLD.wait {r : gm_R} {P k : Nat} (h : HLD r P k) : HLD (rm_wait r) P (k + 1) := by
  have hw := wf_wait h.1 (by rw [h.2.1]; exact h.2.2.1)
  unfold rm_wait at hw ⊢
  rw [h.2.1] at hw ⊢
  exact h.ends hw h.2.2.2.1 rfl rfl
theorem HLD.turn {r : gm_R} {P k : Nat} (h : HLD r P k) : HLD (rm_turn r).2 P (k + 1) := by
  have hw := wf_turn h.1 (by rw [h.2.1]; exact h.2.2.1)
  obtain ⟨q4, q5, q6⟩ := wf_on h.1
  have ho : rOn r < P := by rw [← h.2.1]; exact q6 (by rw [h.2.1]; exact h.2.2.1)
  unfold rm_turn at hw ⊢
  by_cases c : r (31 + 7 * rOn r + 2) < r 2
  · rw [if_pos c]; exact h.ref
  · rw [if_neg c] at hw ⊢
    dsimp only at hw ⊢
    rw [h.2.1] at hw ⊢
    have e := mv_turn (r := r) (on := rOn r) (wf_pl h.1 (rOn r)) rfl
    exact h.ends hw (inv_turn h.2.2.2.1 ho (by rw [← h.2.1]; exact q4) (wf_pl h.1 _)) e.2.2.2.2.2.1 (e.2.2.2.2.2.2.2.2 4 (by decide))
theorem why_ne {r : gm_R} {p t : Nat} (h : rm_why r p t = 0) : rPl r p ≠ t := by
  intro e
  unfold rm_why gm_why at h
  rw [if_pos e] at h
  revert h
  decide
theorem HLD.stride {r : gm_R} {P k t : Nat} (h : HLD r P k) (ht : t < 10) : HLD (rm_stride r t).2 P (k + 1) := by
  have hw := wf_stride h.1 (by rw [h.2.1]; exact h.2.2.1) ht
  obtain ⟨q4, q5, q6⟩ := wf_on h.1
  have ho : rOn r < P := by rw [← h.2.1]; exact q6 (by rw [h.2.1]; exact h.2.2.1)
  unfold rm_stride at hw ⊢
  dsimp only at hw ⊢
  by_cases c : rm_why r (rOn r) t = 0
  · rw [if_pos c] at hw ⊢
    rw [h.2.1] at hw ⊢
    have e := mv_go (r := r) (on := rOn r) (t := t) (g := gm_price (r 1) (rH r) (rPl r (rOn r)) t) (wf_pl h.1 (rOn r)) ht (why_ne c) rfl
    exact h.ends hw (inv_go h.2.2.2.1 ho (by rw [← h.2.1]; exact q4) (wf_pl h.1 _) ht) e.2.2.2.2.2.2.1 (e.2.2.2.2.2.2.2.2.2 4 (by decide))
  · rw [if_neg c]; exact h.ref
theorem tagw_ne {r : gm_R} {q : Nat} (h : rm_tagw r (rOn r) q = 0) : rOn r = rIt r ∧ rOn r ≠ q := by
  unfold rm_tagw gm_tagw at h
  by_cases e : rOn r = rIt r
  · refine ⟨e, fun e2 => ?_⟩
    rw [if_neg (fun q => q e), if_pos e2] at h
    revert h
    decide
  · rw [if_pos e] at h
    exact absurd h (by decide)
theorem HLD.tag {r : gm_R} {P k q : Nat} (h : HLD r P k) (hq : q < P) : HLD (rm_tag r q).2 P (k + 1) := by
  have hw := wf_tag h.1 (by rw [h.2.1]; exact h.2.2.1) (by rw [h.2.1]; exact hq)
  obtain ⟨q4, q5, q6⟩ := wf_on h.1
  have ho : rOn r < P := by rw [← h.2.1]; exact q6 (by rw [h.2.1]; exact h.2.2.1)
  unfold rm_tag at hw ⊢
  dsimp only at hw ⊢
  by_cases c : rm_tagw r (rOn r) q = 0
  · rw [if_pos c] at hw ⊢
    rw [h.2.1] at hw ⊢
    have e := mv_tag (r := r) (tagw_ne c).2 rfl
    exact h.ends hw (inv_tag h.2.2.2.1 ho hq (by rw [← h.2.1]; exact q4)) e.2.2.2.2.2.1 (e.2.2.2.2.2.2.2.2.2 4 (by decide))
  · rw [if_neg c]; exact h.ref
theorem HLD.over {r : gm_R} {P k : Nat} (h : HLD r P k) (hk : k < 9999) : rm_over r = false := by
  obtain ⟨w, p, p0, i, m, hm, h7⟩ := h
  have h4 := (wf_on w).1
  have e4 := (wf_n w).1
  unfold rm_over
  rw [e4, h7, decide_eq_false (le_n0 (by omega) h4), decide_eq_false]
  · rfl
  · rw [Int32.le_iff_toInt_le, nI_toInt (by omega), nI_toInt (by omega)]
    omega
theorem HLD.lo {r : gm_R} {P k j : Nat} {x : Int32} (h : HLD r P k) (hw : WFr (upd r j x)) (hj : j < 21) (h1 : j ≠ 10) (h2 : j ≠ 7) (h3 : j ≠ 9) (h4 : j ≠ 4) : HLD (upd r j x) P (k + 1) := by
  obtain ⟨w, p, p0, i, m, hm, h7⟩ := h
  exact ⟨hw, by rw [rP_k (upd_ne (Ne.symm h4)), p], p0, inv_lo i hj h1 h2 h3, m, by omega, by rw [upd_ne (Ne.symm h2), h7]⟩
/-- a call that answers -/
theorem SPx.c {call : Nat → List Value → ev_M → ev_R → ev_M → Prop} {y : Nat} {as : List Value} {μ : ev_M} {o : gA} {es : List Nat} {a : Int32} {S2 : gS} (h : SPx call y as μ (QC o μ) (QE es o μ)) (h0 : o = (0, a, S2)) : SPi call y as μ (fun x μ2 => x = a ∧ RepC μ2 S2) := by
  rcases h with ⟨x, μ2, hc, q1, q2, q3, -⟩ | ⟨E, μ2, hc, ⟨c, q1, -⟩, -⟩
  · rw [h0] at q2 q3
    exact ⟨x, μ2, hc, q2, q3⟩
  · rw [h0] at q1
    exact absurd q1 (by simp)
theorem C_1 {d : Nat} {μ : ev_M} {S : gS} (hR : RepC μ S) (hW : WFS S) (hp : 0 < rP S.1 := by omega) (hd : 5 ≤ d := by omega) : ev_CALL d 90 [.ref 0, .int (nI 1)] μ (some (.int (nI (rOn S.1))), 0) μ := by
  have h := G_count (w := 1) hR hW (by omega) hd
  have hi := wf_n hW.1
  have e : sNum S 1 = nI (rOn S.1) := by
    show (if S.1 4 ≤ 0 then (-1 : Int32) else S.1 5) = _
    rw [hi.1, if_neg (le_n0 hp (wf_on hW.1).1), hi.2.2.2]
  rw [e] at h
  exact h
theorem O_rest {d : Nat} {μ : ev_M} {S : gS} (hR : RepC μ S) (hW : WFS S) (hv : rm_over S.1 = false) (hd : 4 ≤ d := by omega) : SPi (ev_CALL d) 53 [.ref 0] μ (fun x μ2 => x = gm_run S.1 (rOn S.1) ∧ RepC μ2 (gTo S (rm_wait S.1))) := (X5_rest_ok hR hW hd).c (by rw [op_rest, if_neg (by rw [hv]; decide)])
theorem O_turn {d : Nat} {μ : ev_M} {S : gS} (hR : RepC μ S) (hW : WFS S) (hv : rm_over S.1 = false) (hd : 6 ≤ d := by omega) : SPi (ev_CALL d) 62 [.ref 0] μ (fun x μ2 => x = (rm_turn S.1).1 ∧ RepC μ2 (gTo S (rm_turn S.1).2)) := (X5_turnOver_ok hR hW hd).c (by rw [op_turn, if_neg (by rw [hv]; decide)])
theorem O_stride {d : Nat} {μ : ev_M} {S : gS} {t : Nat} (hR : RepC μ S) (hW : WFS S) (hv : rm_over S.1 = false) (ht : t < 10 := by omega) (hd : 6 ≤ d := by omega) : SPi (ev_CALL d) 57 [.ref 0, .int (nI t)] μ (fun x μ2 => x = rm_why S.1 (rOn S.1) t ∧ RepC μ2 (gTo S (rm_stride S.1 t).2)) := (X5_stride_ok hR hW hd).c (by rw [op_stride, gm_is_nI (by omega), decide_eq_true ht, if_neg (by decide), if_neg (by rw [hv]; decide), cl_nI (by omega)]; rfl)
theorem O_tag {d : Nat} {μ : ev_M} {S : gS} {q : Nat} (hR : RepC μ S) (hW : WFS S) (hv : rm_over S.1 = false) (hq : q < rP S.1 := by omega) (h4 : rP S.1 ≤ 4 := by omega) (hd : 6 ≤ d := by omega) : SPi (ev_CALL d) 65 [.ref 0, .int (nI q)] μ (fun x μ2 => x = rm_tagw S.1 (rOn S.1) q ∧ RepC μ2 (gTo S (rm_tag S.1 q).2)) := (X5_tag_ok hR hW hd).c (by rw [op_tag, gm_is_nI (by omega), decide_eq_true hq, if_neg (by decide), if_neg (by rw [hv]; decide), cl_nI (by omega)]; rfl)
theorem O_height {d : Nat} {μ : ev_M} {S : gS} {t h : Nat} (hR : RepC μ S) (hW : WFS S) (ht : t < 10 := by omega) (hh : h < 10 := by omega) (hd : 4 ≤ d := by omega) : SPi (ev_CALL d) 42 [.ref 0, .int (nI t), .int (nI h)] μ (fun x μ2 => x = S.1 (11 + t) ∧ RepC μ2 (gTo S (upd S.1 (11 + t) (nI h)))) := (X5_height_ok hR hW hd).c (by rw [op_height, gm_is_nI (by omega), gm_is_nI (by omega), decide_eq_true ht, decide_eq_true hh, if_neg (by decide), if_neg (by decide), cl_nI (by omega)])
theorem O_player {d : Nat} {μ : ev_M} {S : gS} {t v : Nat} (hR : RepC μ S) (hW : WFS S) (h4 : rP S.1 < 4) (ht : t < 10 := by omega) (hv : v < 201 := by omega) (hd : 4 ≤ d := by omega) : SPi (ev_CALL d) 47 [.ref 0, .int (nI t), .int (nI v)] μ (fun x μ2 => x = nI (rP S.1) ∧ RepC μ2 (gTo S (gm_add S.1 (rP S.1) t (nI v)))) := (X5_player_ok hR hW hd).c (by rw [op_player, gm_is_nI (by omega), gm_is_nI (by omega), decide_eq_true ht, decide_eq_true hv, if_neg (by decide), if_neg (by decide), if_neg (by omega), cl_nI (by omega)])
theorem O_set {d : Nat} {μ : ev_M} {S : gS} {k v : Nat} (hR : RepC μ S) (hW : WFS S) (hk : k < 4 := by omega) (h1 : gm_lo k ≤ v) (h2 : v ≤ gm_up k) (hu : gm_up k ≤ 20) (hd : 4 ≤ d := by omega) : SPi (ev_CALL d) 50 [.ref 0, .int (nI k), .int (nI v)] μ (fun x μ2 => x = S.1 k ∧ RepC μ2 (gTo S (upd S.1 k (nI v)))) := (X5_set_ok hR hW hd).c (by
  have e1 : nI (gm_lo k) ≤ nI v := by rw [Int32.le_iff_toInt_le, nI_toInt (by omega), nI_toInt (by omega)]; omega
  have e2 : nI v ≤ nI (gm_up k) := by rw [Int32.le_iff_toInt_le, nI_toInt (by omega), nI_toInt (by omega)]; omega
  rw [op_set, gm_is_nI (by omega), decide_eq_true hk, cl_nI (by omega), decide_eq_true e1, decide_eq_true e2, if_neg (by decide), if_neg (by decide)])
