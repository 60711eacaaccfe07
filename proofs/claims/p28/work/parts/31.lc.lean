/-! the law's method that reads the script; what the law holds of the state -/
theorem sc_big {v : Int32} (h : v = 20810003) : v = nI 20810003 := h.trans (by decide +kernel)
theorem cell_es {d : Nat} {ex : ev_X} (h0 : 0 < ex.1) (h1 : ex.1 < 2 ^ 30) {j : Nat} {μ : ev_M} (hj : j < 2 ^ 30) : es (ev_CALL d) 9 cL_cell (some .int) 0 (ex.1, ex.2.1, []) (fun r μ2 => r = (some (.int (ev_sc ex j)), 0) ∧ μ2 = μ) 0 [.ref 200, .int (nI j)] [] μ 0 := by
  refine es_iload_n (pc := 0) dL_cell_0 rfl ?_
  refine es_aload_n (pc := 1) dL_cell_1 rfl ?_
  refine es_slen (pc := 2) dL_cell_2 h0 ?_
  refine es_icmp_geN (pc := 3) 12 dL_cell_3 (by decide) (by omega) (by show ex.1 - 1 < 2 ^ 31; omega) (fun c3 => ?_) (fun c3 => ?_)
  · have c3 : ex.1 - 1 ≤ j := c3
    refine es_ldc (pc := 12) dL_cell_12 ci_9_7 ?_
    refine es_iload_n (pc := 14) dL_cell_14 rfl ?_
    refine es_imul (pc := 15) dL_cell_15 ?_
    refine es_sipushN (pc := 16) 26801 dL_cell_16 sp_26801 ?_
    refine es_iadd (pc := 19) dL_cell_19 ?_
    refine es_ireturn (pc := 20) dL_cell_20 rfl (vp_nar_int _) (by decide) ?_
    refine ⟨vI ?_, rfl⟩
    unfold ev_sc
    rw [if_neg (by omega)]
    rfl
  · have c3 : j < ex.1 - 1 := c3
    refine es_aload_n (pc := 6) dL_cell_6 rfl ?_
    refine es_iload_n (pc := 7) dL_cell_7 rfl ?_
    refine es_sald (pc := 8) dL_cell_8 (by show j + 1 < ex.1; omega) ?_
    refine es_goto (pc := 9) (tgt := 20) dL_cell_9 (by decide) ?_
    refine es_ireturn (pc := 20) dL_cell_20 rfl (vp_nar_int _) (by decide) ?_
    refine ⟨vI ?_, rfl⟩
    unfold ev_sc
    rw [if_pos (by omega)]
theorem cell_M {l : Launch} {base : Nat} {D : va_G} {ca : Nat → ClassId} {ad : Nat → Nat} {d : Nat} {ex : ev_X} (h0 : 0 < ex.1) (h1 : ex.1 < 2 ^ 30) : ev_KC l base D ca ad (d + 1) ex :=
  ev_cellM h1 (fun j μ hj => by
    obtain ⟨rf, μf, ⟨rfl, rfl⟩, hE⟩ := cell_es (d := d) (μ := μ) h0 h1 hj
    exact hE)
def HS (S : gS) (P k : Nat) : Prop := WFS S ∧ HLD S.1 P k
theorem HS.p {S : gS} {P k : Nat} (h : HS S P k) : rP S.1 = P ∧ 0 < P ∧ P ≤ 4 := ⟨h.2.2.1, h.2.2.2.1, by rw [← h.2.2.1]; exact (wf_on h.1.1).1⟩
theorem HS.inv {S : gS} {P k : Nat} (h : HS S P k) : INV S.1 := by
  have h9 := h.2.2.2.2.1
  rw [← h.2.2.1] at h9
  exact h9.inv
theorem HS.over {S : gS} {P k : Nat} (h : HS S P k) (hk : k < 9999) : rm_over S.1 = false := h.2.over hk
theorem HS.wait {S : gS} {P k : Nat} (h : HS S P k) (hk : k < 9999) : HS (gTo S (rm_wait S.1)) P (k + 1) := by
  refine ⟨?_, h.2.wait⟩
  have h9 := wfs_rest h.1
  rw [op_rest, if_neg (by rw [h.over hk]; decide)] at h9
  exact h9
theorem HS.turn {S : gS} {P k : Nat} (h : HS S P k) (hk : k < 9999) : HS (gTo S (rm_turn S.1).2) P (k + 1) := by
  refine ⟨?_, h.2.turn⟩
  have h9 := wfs_turn h.1
  rw [op_turn, if_neg (by rw [h.over hk]; decide)] at h9
  exact h9
theorem HS.stride {S : gS} {P k t : Nat} (h : HS S P k) (hk : k < 9999) (ht : t < 10) : HS (gTo S (rm_stride S.1 t).2) P (k + 1) := by
  refine ⟨?_, h.2.stride ht⟩
  have h9 := wfs_stride (x := nI t) h.1
  rw [op_stride, gm_is_nI (by omega), decide_eq_true ht, if_neg (by decide), if_neg (by rw [h.over hk]; decide), cl_nI (by omega)] at h9
  exact h9
theorem HS.tag {S : gS} {P k q : Nat} (h : HS S P k) (hk : k < 9999) (hq : q < P) : HS (gTo S (rm_tag S.1 q).2) P (k + 1) := by
  refine ⟨?_, h.2.tag hq⟩
  have hp := h.p
  have h9 := wfs_tag (x := nI q) h.1
  rw [op_tag, gm_is_nI (by omega), hp.1, decide_eq_true hq, if_neg (by decide), if_neg (by rw [h.over hk]; decide), cl_nI (by omega)] at h9
  exact h9
theorem wfs_h {S : gS} {t h : Nat} (hW : WFS S) (ht : t < 10) (hh : h < 10) : WFS (gTo S (upd S.1 (11 + t) (nI h))) := by
  have h9 := wfs_height (x := nI t) (y := nI h) hW
  rw [op_height, gm_is_nI (by omega), gm_is_nI (by omega), decide_eq_true ht, decide_eq_true hh, if_neg (by decide), if_neg (by decide), cl_nI (by omega)] at h9
  exact h9
theorem HS.high {S : gS} {P k t h : Nat} (H : HS S P k) (ht : t < 10) (hh : h < 10) : HS (gTo S (upd S.1 (11 + t) (nI h))) P (k + 1) := by
  have h9 := wfs_h H.1 ht hh
  exact ⟨h9, H.2.lo h9.1 (by omega) (by omega) (by omega) (by omega) (by omega)⟩
theorem L_mv_0 {d : Nat} {μ : ev_M} {S : gS} {P k to : Nat} (hR : RepC μ S) (H : HS S P k) (hk : k < 9999 := by omega) (ht : to < 10 := by omega) (hd : 7 ≤ d := by omega) : SPi (ev_CALL d) 179 [.ref 0, .int (nI 0), .int (nI to)] μ (fun x μ2 => x = bI true ∧ ∃ S2, RepC μ2 S2 ∧ HS S2 P (k + 1)) := by
  obtain ⟨x, μ2, hc, h1, h2⟩ := L_moves_0 (d := d) (to := to) hR H.1 (by rw [H.2.2.1]; exact H.2) hk ht hd
  exact ⟨x, μ2, hc, h1, _, h2, H.wait hk⟩
theorem L_mv_1 {d : Nat} {μ : ev_M} {S : gS} {P k to : Nat} (hR : RepC μ S) (H : HS S P k) (hk : k < 9999 := by omega) (ht : to < 10 := by omega) (hd : 7 ≤ d := by omega) : SPi (ev_CALL d) 179 [.ref 0, .int (nI 1), .int (nI to)] μ (fun x μ2 => x = bI true ∧ ∃ S2, RepC μ2 S2 ∧ HS S2 P (k + 1)) := by
  obtain ⟨x, μ2, hc, h1, h2⟩ := L_moves_1 (d := d) (to := to) hR H.1 (by rw [H.2.2.1]; exact H.2) hk ht hd
  exact ⟨x, μ2, hc, h1, _, h2, H.stride hk ht⟩
theorem L_mv_2 {d : Nat} {μ : ev_M} {S : gS} {P k to : Nat} (hR : RepC μ S) (H : HS S P k) (hk : k < 9999 := by omega) (ht : to < 10 := by omega) (hd : 7 ≤ d := by omega) : SPi (ev_CALL d) 179 [.ref 0, .int (nI 2), .int (nI to)] μ (fun x μ2 => x = bI true ∧ ∃ S2, RepC μ2 S2 ∧ HS S2 P (k + 1)) := by
  obtain ⟨x, μ2, hc, h1, h2⟩ := L_moves_2 (d := d) (to := to) hR H.1 (by rw [H.2.2.1]; exact H.2) hk ht hd
  exact ⟨x, μ2, hc, h1, _, h2, H.turn hk⟩
theorem L_mv_3 {d : Nat} {μ : ev_M} {S : gS} {P k to : Nat} (hR : RepC μ S) (H : HS S P k) (hk : k < 9999 := by omega) (ht : to < P := by omega) (hd : 7 ≤ d := by omega) : SPi (ev_CALL d) 179 [.ref 0, .int (nI 3), .int (nI to)] μ (fun x μ2 => x = bI true ∧ ∃ S2, RepC μ2 S2 ∧ HS S2 P (k + 1)) := by
  obtain ⟨x, μ2, hc, h1, h2⟩ := L_moves_3 (d := d) (to := to) hR H.1 (by rw [H.2.2.1]; exact H.2) hk (by rw [H.2.2.1]; exact ht) hd
  exact ⟨x, μ2, hc, h1, _, h2, H.tag hk ht⟩
/-- while the game is set up: p players, so much sand brought -/
def H1 (S : gS) (p br : Nat) : Prop := WFS S ∧ rP S.1 = p ∧ INVP S.1 p ∧ S.1 7 = nI 0 ∧ S.1 5 = nI 0 ∧ S.1 6 = nI 0 ∧ S.1 10 = nI br
theorem H1.lo {S : gS} {p br j : Nat} {x : Int32} (h : H1 S p br) (hw : WFS (gTo S (upd S.1 j x))) (hj : j < 4 ∨ (10 < j ∧ j < 21)) : H1 (gTo S (upd S.1 j x)) p br := by
  obtain ⟨w, h1, h2, h3, h4, h5, h6⟩ := h
  have e : ∀ q, q ≠ j → (gTo S (upd S.1 j x)).1 q = S.1 q := fun q hq => upd_ne hq
  exact ⟨hw, by rw [rP_k (e 4 (by omega)), h1], inv_lo h2 (by omega) (by omega) (by omega) (by omega), by rw [e 7 (by omega), h3], by rw [e 5 (by omega), h4], by rw [e 6 (by omega), h5], by rw [e 10 (by omega), h6]⟩
theorem wfs_s {S : gS} {k v : Nat} (hW : WFS S) (hk : k < 4) (h1 : gm_lo k ≤ v) (h2 : v ≤ gm_up k) (hu : gm_up k ≤ 20) : WFS (gTo S (upd S.1 k (nI v))) := by
  have h9 := wfs_set (x := nI k) (y := nI v) hW
  have e1 : nI (gm_lo k) ≤ nI v := by rw [Int32.le_iff_toInt_le, nI_toInt (by omega), nI_toInt (by omega)]; omega
  have e2 : nI v ≤ nI (gm_up k) := by rw [Int32.le_iff_toInt_le, nI_toInt (by omega), nI_toInt (by omega)]; omega
  rw [op_set, gm_is_nI (by omega), decide_eq_true hk, cl_nI (by omega), decide_eq_true e1, decide_eq_true e2, if_neg (by decide), if_neg (by decide)] at h9
  exact h9
theorem H1.set {S : gS} {p br k v : Nat} (h : H1 S p br) (hk : k < 4) (h1 : gm_lo k ≤ v) (h2 : v ≤ gm_up k) (hu : gm_up k ≤ 20) : H1 (gTo S (upd S.1 k (nI v))) p br := h.lo (wfs_s h.1 hk h1 h2 hu) (Or.inl hk)
theorem H1.high {S : gS} {p br t v : Nat} (h : H1 S p br) (ht : t < 10) (hv : v < 10) : H1 (gTo S (upd S.1 (11 + t) (nI v))) p br := h.lo (wfs_h h.1 ht hv) (Or.inr (by omega))
theorem bl_0 {r : gm_R} {p : Nat} (hW : WFr r) (hp : rP r = p) (h4 : p < 4) : r (31 + 7 * p + 1) = 0 ∧ r (31 + 7 * p + 2) = 0 := by
  obtain ⟨P, on, it, br, s0, s1, s2, s3, hh, sd, pl, ab, bl, -, ⟨b0, b1, -⟩, -, ⟨d1, d2, d3, d4, d5⟩, -⟩ := hW
  have q1 : rP r = P := by unfold rP; rw [b0, cl_nI (by omega)]
  have := d5 p (by omega) h4
  rw [d3 p h4, d4 p h4, this.1, this.2]
  exact ⟨rfl, rfl⟩
theorem H1.add {S : gS} {p br t v : Nat} (h : H1 S p br) (h4 : p < 4) (ht : t < 10) (hv : v < 201) : H1 (gTo S (gm_add S.1 (rP S.1) t (nI v))) (p + 1) (br + v) ∧ (gm_add S.1 (rP S.1) t (nI v)) (31 + 7 * p + 1) = nI v ∧ (gm_add S.1 (rP S.1) t (nI v)) (31 + 7 * p + 2) = nI 0 := by
  obtain ⟨w, h1, h2, h3, h5, h6, h7⟩ := h
  have hb := bl_0 w.1 h1 h4
  have h9 := wfs_player (x := nI t) (y := nI v) w
  rw [op_player, gm_is_nI (by omega), gm_is_nI (by omega), decide_eq_true ht, decide_eq_true hv, if_neg (by decide), if_neg (by decide), if_neg (by omega), cl_nI (by omega)] at h9
  have hi := inv_add (t := t) (x := nI v) h2 h4 hb
  rw [h1] at h9 ⊢
  refine ⟨⟨h9, ?_, hi, ?_, ?_, ?_, ?_⟩, ?_, ?_⟩
  · show ((gm_add S.1 p t (nI v)) 4).toNatClampNeg = p + 1
    unfold gm_add
    rw [upd_eq, cl_nI (by omega)]
  · show gm_add S.1 p t (nI v) 7 = _
    unfold gm_add
    simp (disch := omega) only [upd_ne]
    exact h3
  · show gm_add S.1 p t (nI v) 5 = _
    unfold gm_add
    simp (disch := omega) only [upd_ne]
    exact h5
  · show gm_add S.1 p t (nI v) 6 = _
    unfold gm_add
    simp (disch := omega) only [upd_ne]
    exact h6
  · show gm_add S.1 p t (nI v) 10 = _
    unfold gm_add
    simp (disch := omega) only [upd_ne, upd_eq]
    rw [h7, nI_add]
  · unfold gm_add
    simp (disch := omega) only [upd_ne, upd_eq]
  · unfold gm_add
    simp (disch := omega) only [upd_ne, upd_eq]
    rw [hb.2]; rfl
theorem H1.hs {S : gS} {p br : Nat} (h : H1 S p br) (hp : 0 < p) : HS S p 0 := ⟨h.1, h.1.1, h.2.1, hp, h.2.2.1, 0, Nat.le_refl _, h.2.2.2.1⟩
theorem hi_0 {r : gm_R} (hW : WFr r) {k : Nat} (hk : k < 10) : ¬ r (11 + k) < 0 := by
  obtain ⟨P, on, it, br, s0, s1, s2, s3, hh, sd, pl, ab, bl, -, -, ⟨c1, c2, -⟩, -⟩ := hW
  have := c2 k
  rw [c1 k hk]
  exact nI_n0 (by omega)
