theorem gm_wd_le (c : Int32) : gm_wd c ≤ 2 := by unfold gm_wd; split <;> omega
theorem rm_runs_ge {f : Nat → Int32} {n : Nat} {m k : Nat} {r : gm_R} {dn : Nat} (h : n ≤ k) : (dn + (rm_runs f n m k r).1, (rm_runs f n m k r).2) = (dn, r) := by
  cases m with
  | zero => rfl
  | succ m => unfold rm_runs; rw [if_neg (by omega)]; rfl
theorem op_run_ok {S : gS} {dn : Nat} {r : gm_R} (h : gm_tells S.2.2.2.2 S.2.2.2.1 = true) (hr : rm_runs S.2.2.2.2 S.2.2.2.1 60 0 S.1 = (dn, r)) : op_run S = (0, nI dn, gClr (gTo S r)) := by
  rw [op_run, if_neg (by simp [h]), hr]
theorem WFr.saved {S : gS} (h : WFS S) : (gSave S).1 ≤ 6 ∧ ∀ i, i < (gSave S).1 → WFr ((gSave S).2 i) := by
  obtain ⟨h1, h2, h3, h4, h5⟩ := h
  unfold gSave
  split
  · refine ⟨by dsimp only; omega, fun i hi => ?_⟩
    dsimp only
    split
    · exact h3 _ (by omega)
    · exact h1
  · refine ⟨by dsimp only; omega, fun i hi => ?_⟩
    dsimp only at hi ⊢
    split
    · exact h1
    · exact h3 _ (by omega)
theorem WFS.to {S : gS} {r : gm_R} (h : WFS S) (hr : WFr r) : WFS (gTo S r) := ⟨hr, (WFr.saved h).1, (WFr.saved h).2, h.2.2.2.1, h.2.2.2.2⟩
theorem WFS.clr {S : gS} (h : WFS S) : WFS (gClr S) := ⟨h.1, h.2.1, h.2.2.1, h.2.2.2.1, Nat.zero_le _⟩
theorem gm_is_y {x : Int32} {n : Nat} (h : ¬ gm_is x n = false) (hn : n ≤ 400) : ∃ k, k < n ∧ x = nI k := gm_is_t (by simpa using h) hn
theorem wfs_height {S : gS} {x y : Int32} (h : WFS S) : WFS (op_height S x y).2.2 := by
  unfold op_height
  split
  · exact h
  · split
    · exact h
    · rename_i h1 h2
      obtain ⟨k, hk, rfl⟩ := gm_is_y h1 (by decide)
      obtain ⟨v, hv, rfl⟩ := gm_is_y h2 (by decide)
      rw [cl_nI (by omega)]
      exact h.to ((WFx.of h.1).high hk (by omega)).wf
theorem wfs_player {S : gS} {x y : Int32} (h : WFS S) : WFS (op_player S x y).2.2 := by
  unfold op_player
  split
  · exact h
  · split
    · exact h
    · split
      · exact h
      · rename_i h1 h2 h3
        obtain ⟨k, hk, rfl⟩ := gm_is_y h1 (by decide)
        obtain ⟨v, hv, rfl⟩ := gm_is_y h2 (by decide)
        rw [cl_nI (by omega)]
        exact h.to ((WFx.of h.1).add (by omega) hk (by omega)).wf

theorem wfs_set {S : gS} {x y : Int32} (h : WFS S) : WFS (op_set S x y).2.2 := by
  unfold op_set
  split
  · exact h
  · split
    · exact h
    · rename_i h1 h2
      obtain ⟨k, hk, rfl⟩ := gm_is_y h1 (by decide)
      rw [cl_nI (by omega)] at h2 ⊢
      simp only [Bool.not_eq_false, Bool.and_eq_true, decide_eq_true_eq] at h2
      have hlo : gm_lo k ≤ 1 := by unfold gm_lo; split <;> omega
      have hup : gm_up k ≤ 20 := by unfold gm_up; repeat (first | split | omega)
      have q1 : (gm_lo k : Int) ≤ y.toInt := by rw [← nI_toInt (n := gm_lo k) (by omega)]; exact Int32.le_iff_toInt_le.mp h2.1
      have q2 : y.toInt ≤ (gm_up k : Int) := by rw [← nI_toInt (n := gm_up k) (by omega)]; exact Int32.le_iff_toInt_le.mp h2.2
      have ey : y = nI y.toInt.toNat := Int32.toInt_inj.mp (by rw [nI_toInt (by omega)]; omega)
      rw [ey]
      exact h.to ((WFx.of h.1).set hk (by omega) (by omega)).wf
theorem wfs_rest {S : gS} (h : WFS S) : WFS (op_rest S).2.2 := by
  unfold op_rest
  split
  · exact h
  · rename_i h1
    exact h.to (wf_wait h.1 (over_P h.1 (by simpa using h1)))
theorem wfs_turn {S : gS} (h : WFS S) : WFS (op_turn S).2.2 := by
  unfold op_turn
  split
  · exact h
  · rename_i h1
    exact h.to (wf_turn h.1 (over_P h.1 (by simpa using h1)))
theorem wfs_stride {S : gS} {x : Int32} (h : WFS S) : WFS (op_stride S x).2.2 := by
  unfold op_stride
  split
  · exact h
  · split
    · exact h
    · rename_i h1 h2
      obtain ⟨k, hk, rfl⟩ := gm_is_y h1 (by decide)
      rw [cl_nI (by omega)]
      exact h.to (wf_stride h.1 (over_P h.1 (by simpa using h2)) hk)
theorem wfs_tag {S : gS} {x : Int32} (h : WFS S) : WFS (op_tag S x).2.2 := by
  unfold op_tag
  have h4 := (wf_on h.1).1
  split
  · exact h
  · split
    · exact h
    · rename_i h1 h2
      obtain ⟨k, hk, rfl⟩ := gm_is_y h1 (by omega)
      rw [cl_nI (by omega)]
      exact h.to (wf_tag h.1 (over_P h.1 (by simpa using h2)) hk)
theorem wfs_append {S : gS} {x : Int32} (h : WFS S) : WFS (op_append S x).2.2 := by
  unfold op_append
  split
  · exact h
  · split
    · exact h
    · exact ⟨h.1, h.2.1, h.2.2.1, h.2.2.2.1, by dsimp only; omega⟩
theorem wfs_run {S : gS} (h : WFS S) : WFS (op_run S).2.2 := by
  unfold op_run
  split
  · exact h
  · exact (h.to (wf_runs h.1)).clr
theorem wfs_keep {S : gS} {x : Int32} (h : WFS S) : WFS (op_keep S x).2.2 := by
  unfold op_keep
  split
  · exact h
  · refine ⟨h.1, h.2.1, h.2.2.1, fun s hs hf => ?_, h.2.2.2.2⟩
    dsimp only at hf ⊢
    split
    · exact h.1
    · rename_i hn
      exact h.2.2.2.1 s hs (by simpa [hn] using hf)
theorem wfs_back {S : gS} {x : Int32} (h : WFS S) : WFS (op_back S x).2.2 := by
  unfold op_back
  split
  · exact h
  · split
    · exact h
    · rename_i h1 h2
      obtain ⟨k, hk, rfl⟩ := gm_is_y h1 (by decide)
      rw [cl_nI (by omega)] at h2 ⊢
      exact h.to (h.2.2.2.1 k hk (by simpa using h2))
theorem wfs_undo {S : gS} (h : WFS S) : WFS (op_undo S).2.2 := by
  unfold op_undo
  have h2 := h.2.1
  split
  · exact h
  · exact ⟨h.2.2.1 _ (by omega), by dsimp only; omega, fun i hi => h.2.2.1 i (by dsimp only at hi; omega), h.2.2.2.1, h.2.2.2.2⟩
