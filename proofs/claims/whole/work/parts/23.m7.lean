theorem gm_wd_le (c : Int32) : gm_wd c ≤ 2 := by unfold gm_wd; split <;> omega
theorem rm_runs_ge {f : Nat → Int32} {n : Nat} {m k : Nat} {r : gm_R} {dn : Nat} (h : n ≤ k) : (dn + (rm_runs f n m k r).1, (rm_runs f n m k r).2) = (dn, r) := by
  cases m with
  | zero => rfl
  | succ m => unfold rm_runs; rw [if_neg (by omega)]; rfl
theorem op_run_ok {S : gS} {dn : Nat} {r : gm_R} (h : gm_tells S.2.2.2.2 S.2.2.2.1 = true) (hr : rm_runs S.2.2.2.2 S.2.2.2.1 60 0 S.1 = (dn, r)) : op_run S = (0, nI dn, gClr (gTo S r)) := by
  rw [op_run, if_neg (by simp [h]), hr]
theorem WFr.saved {S : gS} (h : WFS S) : (gSave S).1 ≤ 6 ∧ ∀ i, i < (gSave S).1 → WFr ((gSave S).2 i) := by
  obtain ⟨h1, h2, h3, h4, h5⟩ := h
  unfold gSave
  split
  · refine ⟨by dsimp only; omega, fun i hi => ?_⟩
    dsimp only
    split
    · exact h3 _ (by omega)
    · exact h1
  · refine ⟨by dsimp only; omega, fun i hi => ?_⟩
    dsimp only at hi ⊢
    split
    · exact h1
    · exact h3 _ (by omega)
theorem WFS.to {S : gS} {r : gm_R} (h : WFS S) (hr : WFr r) : WFS (gTo S r) := ⟨hr, (WFr.saved h).1, (WFr.saved h).2, h.2.2.2.1, h.2.2.2.2⟩
theorem WFS.clr {S : gS} (h : WFS S) : WFS (gClr S) := ⟨h.1, h.2.1, h.2.2.1, h.2.2.2.1, Nat.zero_le _⟩
theorem gm_is_y {x : Int32} {n : Nat} (h : ¬ gm_is x n = false) (hn : n ≤ 400) : ∃ k, k < n ∧ x = nI k := gm_is_t (by simpa using h) hn
theorem wfs_height {S : gS} {x y : Int32} (h : WFS S) : WFS (op_height S x y).2.2 := by
  unfold op_height
  split
  · exact h
  · split
    · exact h
    · rename_i h1 h2
      obtain ⟨k, hk, rfl⟩ := gm_is_y h1 (by decide)
      obtain ⟨v, hv, rfl⟩ := gm_is_y h2 (by decide)
      rw [cl_nI (by omega)]
      exact h.to ((WFx.of h.1).high hk (by omega)).wf
theorem wfs_player {S : gS} {x y : Int32} (h : WFS S) : WFS (op_player S x y).2.2 := by
  unfold op_player
  split
  · exact h
  · split
    · exact h
    · split
      · exact h
      · rename_i h1 h2 h3
        obtain ⟨k, hk, rfl⟩ := gm_is_y h1 (by decide)
        obtain ⟨v, hv, rfl⟩ := gm_is_y h2 (by decide)
        rw [cl_nI (by omega)]
        exact h.to ((WFx.of h.1).add (by omega) hk (by omega)).wf

theorem wfs_set {S : gS} {x y : Int32} (h : WFS S) : WFS (op_set S x y).2.2 := by
  unfold op_set
  split
  · exact h
  · split
    · exact h
    · rename_i h1 h2
      obtain ⟨k, hk, rfl⟩ := gm_is_y h1 (by decide)
      rw [cl_nI (by omega)] at h2 ⊢
      simp only [Bool.not_eq_false, Bool.and_eq_true, decide_eq_true_eq] at h2
      have hlo : gm_lo k ≤ 1 := by unfold gm_lo; split <;> omega
      have hup : gm_up k ≤ 20 := by unfold gm_up; repeat (first | split | omega)
      have q1 : (gm_lo k : Int) ≤ y.toInt := by rw [← nI_toInt (n := gm_lo k) (by omega)]; exact Int32.le_iff_toInt_le.mp h2.1
      have q2 : y.toInt ≤ (gm_up k : Int) := by rw [← nI_toInt (n := gm_up k) (by omega)]; exact Int32.le_iff_toInt_le.mp h2.2
      have ey : y = nI y.toInt.toNat := Int32.toInt_inj.mp (by rw [nI_toInt (by omega)]; omega)
      rw [ey]
      exact h.to ((WFx.of h.1).set hk (by omega) (by omega)).wf
theorem wfs_rest {S : gS} (h : WFS S) : WFS (op_rest S).2.2 := by
  unfold op_rest
  split
  · exact h
  · rename_i h1
    exact h.to (wf_wait h.1 (over_P h.1 (by simpa using h1)))
theorem wfs_turn {S : gS} (h : WFS S) : WFS (op_turn S).2.2 := by
  unfold op_turn
  split
  · exact h
  · rename_i h1
    exact h.to (wf_turn h.1 (over_P h.1 (by simpa using h1)))
theorem wfs_stride {S : gS} {x : Int32} (h : WFS S) : WFS (op_stride S x).2.2 := by
  unfold op_stride
  split
  · exact h
  · split
    · exact h
    · rename_i h1 h2
      obtain ⟨k, hk, rfl⟩ := gm_is_y h1 (by decide)
      rw [cl_nI (by omega)]
      exact h.to (wf_stride h.1 (over_P h.1 (by simpa using h2)) hk)
theorem wfs_tag {S : gS} {x : Int32} (h : WFS S) : WFS (op_tag S x).2.2 := by
  unfold op_tag
  have h4 := (wf_on h.1).1
  split
  · exact h
  · split
    · exact h
    · rename_i h1 h2
      obtain ⟨k, hk, rfl⟩ := gm_is_y h1 (by omega)
      rw [cl_nI (by omega)]
      exact h.to (wf_tag h.1 (over_P h.1 (by simpa using h2)) hk)
theorem wfs_append {S : gS} {x : Int32} (h : WFS S) : WFS (op_append S x).2.2 := by
  unfold op_append
  split
  · exact h
  · split
    · exact h
    · exact ⟨h.1, h.2.1, h.2.2.1, h.2.2.2.1, by dsimp only; omega⟩
theorem wfs_run {S : gS} (h : WFS S) : WFS (op_run S).2.2 := by
  unfold op_run
  split
  · exact h
  · exact (h.to (wf_runs h.1)).clr
theorem wfs_keep {S : gS} {x : Int32} (h : WFS S) : WFS (op_keep S x).2.2 := by
  unfold op_keep
  split
  · exact h
  · refine ⟨h.1, h.2.1, h.2.2.1, fun s hs hf => ?_, h.2.2.2.2⟩
    dsimp only at hf ⊢
    split
    · exact h.1
    · rename_i hn
      exact h.2.2.2.1 s hs (by simpa [hn] using hf)
theorem wfs_back {S : gS} {x : Int32} (h : WFS S) : WFS (op_back S x).2.2 := by
  unfold op_back
  split
  · exact h
  · split
    · exact h
    · rename_i h1 h2
      obtain ⟨k, hk, rfl⟩ := gm_is_y h1 (by decide)
      rw [cl_nI (by omega)] at h2 ⊢
      exact h.to (h.2.2.2.1 k hk (by simpa using h2))
theorem wfs_undo {S : gS} (h : WFS S) : WFS (op_undo S).2.2 := by
  unfold op_undo
  have h2 := h.2.1
  split
  · exact h
  · exact ⟨h.2.2.1 _ (by omega), by dsimp only; omega, fun i hi => h.2.2.1 i (by dsimp only at hi; omega), h.2.2.2.1, h.2.2.2.2⟩
set_option maxHeartbeats 2000000 in
set_option maxRecDepth 20000 in
theorem X5_run_ok {d : Nat} {μ : ev_M} {S : gS} (hR : RepC μ S) (hW : WFS S) (hd : 8 ≤ d := by omega) : SPx (ev_CALL d) 72 [.ref 0] μ (QC (op_run S) μ) (QE [1] (op_run S) μ) := by
  obtain ⟨d, rfl⟩ : ∃ q, d = q + 1 := ⟨d - 1, by omega⟩
  refine SPx.of (Nat.le_of_ble_eq_true rfl) ?_
  show es (ev_CALL d) 5 cX5_run (some .int) 1 (0, fun _ => 0, []) (fun r μ2 => (∃ x9 : Int32, r = (some (.int x9), 0) ∧ (QC (op_run S) μ) x9 μ2) ∨ (∃ E9 : Nat, r = (none, E9 + 1) ∧ (QE [1] (op_run S) μ) E9 μ2)) 0 [.ref 0, .null, .null] [] μ 0
  have hm6 := hR.m
  obtain ⟨ol, ho, ho6, hn, hn6, hsv⟩ := hR.2.1
  obtain ⟨wP, wP4, won, won4, wit, wit4, wpl, wpb⟩ := WG.of (r := S.1) hR.g hW.1
  refine es_aload_n (pc := 0) dX5_run_0 rfl ?_
  refine es_getR (pc := 1) dX5_run_1 fr_5_34 fld_0_4 ?_
  refine es_cv0_p (pc := 4) dX5_run_4 mr_5_150 rfl rfl (by decide) (by decide) rfl (Nat.le_of_ble_eq_true rfl) (Nat.zero_le _) (X2_tellsGame_ok hR.l) ?_
  rw [hR.c]
  refine es_if_neB (pc := 7) 20 dX5_run_7 (by decide) (fun c7 => ?_) (fun c7 => ?_)
  · refine es_aload_n (pc := 20) dX5_run_20 rfl ?_
    refine es_getR (pc := 21) dX5_run_21 fr_5_27 fld_0_3 ?_
    refine es_aload_n (pc := 24) dX5_run_24 rfl ?_
    refine es_getR (pc := 25) dX5_run_25 fr_5_10 fld_0_0 ?_
    refine es_cv1_v (pc := 28) dX5_run_28 mr_5_68 rfl rfl (by decide) (by decide) rfl (Nat.le_of_ble_eq_true rfl) (Nat.zero_le _) (X1_save_ok hn ho) (fun μ28 h28 => ?_)
    obtain ⟨hR2, f2⟩ := RepC.save hR ho ho6 h28
    obtain ⟨vP, vP4, von, von4, vit, vit4, vpl, vpb⟩ := WG.of (r := S.1) hR2.g hW.1
    have hl35 : ∀ (n9 : Nat) (ν : ev_M) (r : gm_R) (dn k : Nat), n9 = 60 - dn → (RepC ν (r, gSave S, S.2.2)) → (WFr r) → (Fr5 μ ν) → (dn ≤ 60) → (k ≤ 2 * dn) → (rm_runs S.2.2.2.2 S.2.2.2.1 60 0 S.1 = (dn + (rm_runs S.2.2.2.2 S.2.2.2.1 (60 - dn) k r).1, (rm_runs S.2.2.2.2 S.2.2.2.1 (60 - dn) k r).2)) → es (ev_CALL d) 5 cX5_run (some .int) 1 (0, fun _ => 0, []) (fun r μ2 => (∃ x9 : Int32, r = (some (.int x9), 0) ∧ (QC (op_run S) μ) x9 μ2) ∨ (∃ E9 : Nat, r = (none, E9 + 1) ∧ (QE [1] (op_run S) μ) E9 μ2)) 35 [.ref 0, .int (nI dn), .int (nI k)] [] ν 0 := by
      intro n9
      induction n9 using Nat.strongRecOn with
      | ind n9 ih35 =>
        intro ν r dn k hn9 hN hr hf hd9 hk hi
        subst hn9
        have ih := ih35
        refine es_iload_n (pc := 35) dX5_run_35 rfl ?_
        refine es_bipushN (pc := 36) 60 dX5_run_36 bp_60 ?_
        refine es_icmp_geN (pc := 38) 94 dX5_run_38 (by decide) (by omega) (by omega) (fun c38 => ?_) (fun c38 => ?_)
        · refine es_aload_n (pc := 94) dX5_run_94 rfl ?_
          refine es_getR (pc := 95) dX5_run_95 fr_5_34 fld_0_4 ?_
          refine es_cv0_i (pc := 98) dX5_run_98 mr_5_144 rfl rfl (by decide) (by decide) rfl (Nat.le_of_ble_eq_true rfl) (Nat.zero_le _) (X2_empty_ok) (fun x98 μ98 h98 => ?_)
          refine es_pop (pc := 101) dX5_run_101 rfl ?_
          refine es_iload_n (pc := 102) dX5_run_102 rfl ?_
          refine es_ireturn (pc := 103) dX5_run_103 rfl (vp_nar_int _) (by decide) ?_
          rw [h98.2]
          refine Or.inl ⟨_, rfl, QC.of (op_run_ok (S := S) (dn := dn) c7 (by rw [hi, show 60 - dn = 0 by omega]; rfl)) rfl (RepC.txt hN (n := 0) (by omega)) (Fr5.ms hf (by decide))⟩
        · refine es_iload_n (pc := 41) dX5_run_41 rfl ?_
          refine es_aload_n (pc := 42) dX5_run_42 rfl ?_
          refine es_getR (pc := 43) dX5_run_43 fr_5_34 fld_0_4 ?_
          refine es_getI (pc := 46) dX5_run_46 fr_5_136 fld_5_1 ?_
          refine es_top (show ν 5 1 = nI S.2.2.2.1 from hN.l) ?_
          refine es_icmp_geN (pc := 49) 94 dX5_run_49 (by decide) (by omega) (by omega) (fun c49 => ?_) (fun c49 => ?_)
          · refine es_aload_n (pc := 94) dX5_run_94 rfl ?_
            refine es_getR (pc := 95) dX5_run_95 fr_5_34 fld_0_4 ?_
            refine es_cv0_i (pc := 98) dX5_run_98 mr_5_144 rfl rfl (by decide) (by decide) rfl (Nat.le_of_ble_eq_true rfl) (Nat.zero_le _) (X2_empty_ok) (fun x98 μ98 h98 => ?_)
            refine es_pop (pc := 101) dX5_run_101 rfl ?_
            refine es_iload_n (pc := 102) dX5_run_102 rfl ?_
            refine es_ireturn (pc := 103) dX5_run_103 rfl (vp_nar_int _) (by decide) ?_
            rw [h98.2]
            refine Or.inl ⟨_, rfl, QC.of (op_run_ok (S := S) (dn := dn) c7 (by rw [hi]; exact (rm_runs_ge (by omega)))) rfl (RepC.txt hN (n := 0) (by omega)) (Fr5.ms hf (by decide))⟩
          · refine es_aload_n (pc := 52) dX5_run_52 rfl ?_
            refine es_aload_n (pc := 53) dX5_run_53 rfl ?_
            refine es_getR (pc := 54) dX5_run_54 fr_5_34 fld_0_4 ?_
            refine es_iload_n (pc := 57) dX5_run_57 rfl ?_
            refine es_cv1_p (pc := 58) dX5_run_58 mr_5_155 rfl rfl (by decide) (by decide) rfl (Nat.le_of_ble_eq_true rfl) (Nat.zero_le _) (X2_codeAt_ok (show ν 5 1 = nI S.2.2.2.1 from hN.l)) ?_
            refine es_aload_n (pc := 61) dX5_run_61 rfl ?_
            refine es_getR (pc := 62) dX5_run_62 fr_5_34 fld_0_4 ?_
            refine es_iload_n (pc := 65) dX5_run_65 rfl ?_
            refine es_iconstN (pc := 66) 1 dX5_run_66 ic_1 ?_
            refine es_iaddN (pc := 67) dX5_run_67 ?_
            refine es_cv1_p (pc := 68) dX5_run_68 mr_5_158 rfl rfl (by decide) (by decide) rfl (Nat.le_of_ble_eq_true rfl) (Nat.zero_le _) (X2_digitAt_ok (show ν 5 1 = nI S.2.2.2.1 from hN.l)) ?_
            refine es_cv2_i (pc := 71) dX5_run_71 mr_5_161 rfl rfl (by decide) (by decide) rfl (Nat.le_of_ble_eq_true rfl) (Nat.zero_le _) (X5_playMove_ok hN hr) (fun x71 μ71 h71 => ?_)
            obtain ⟨rfl, hR7, f7⟩ := h71
            try dsimp only at hR7
            refine es_if_eqB (pc := 74) 94 dX5_run_74 (by decide) (fun c74 => ?_) (fun c74 => ?_)
            · try dsimp only at c74
              refine es_aload_n (pc := 94) dX5_run_94 rfl ?_
              refine es_getR (pc := 95) dX5_run_95 fr_5_34 fld_0_4 ?_
              refine es_cv0_i (pc := 98) dX5_run_98 mr_5_144 rfl rfl (by decide) (by decide) rfl (Nat.le_of_ble_eq_true rfl) (Nat.zero_le _) (X2_empty_ok) (fun x98 μ98 h98 => ?_)
              refine es_pop (pc := 101) dX5_run_101 rfl ?_
              refine es_iload_n (pc := 102) dX5_run_102 rfl ?_
              refine es_ireturn (pc := 103) dX5_run_103 rfl (vp_nar_int _) (by decide) ?_
              rw [h98.2]
              refine Or.inl ⟨_, rfl, QC.of (op_run_ok (S := S) (dn := dn) c7 (by rw [hi, show 60 - dn = (60 - (dn + 1)) + 1 by omega, rm_runs, if_pos c49, if_neg (by rw [← show ν 6 = S.2.2.2.2 from hN.c]; simpa using c74), ← show ν 6 = S.2.2.2.2 from hN.c] <;> rfl)) rfl (RepC.txt hR7 (n := 0) (by omega)) (Fr5.ms (hf.tr f7) (by decide))⟩
            · try dsimp only at c74
              refine es_iincN (pc := 77) 1 dX5_run_77 ic_1 rfl (ok1_1 rfl) ?_
              refine es_iload_n (pc := 80) dX5_run_80 rfl ?_
              refine es_aload_n (pc := 81) dX5_run_81 rfl ?_
              refine es_getR (pc := 82) dX5_run_82 fr_5_34 fld_0_4 ?_
              refine es_iload_n (pc := 85) dX5_run_85 rfl ?_
              refine es_cv1_p (pc := 86) dX5_run_86 mr_5_165 rfl rfl (by decide) (by decide) rfl (Nat.le_of_ble_eq_true rfl) (Nat.zero_le _) (X2_widthOfMove_ok (show μ71 5 1 = nI S.2.2.2.1 from hR7.l)) ?_
              refine es_iaddN (pc := 89) dX5_run_89 ?_
              refine es_istore_n (pc := 90) dX5_run_90 (ok1_2 rfl) ?_
              refine es_goto (pc := 91) (tgt := 35) dX5_run_91 (by decide) ?_
              refine ih35 _ (by omega) _ _ (dn + 1) _ rfl hR7 (wf_play hr) (hf.tr f7) (by omega) (by have := gm_wd_le (gm_cd (ν 6) S.2.2.2.1 k); have := gm_wd_le (gm_cd (μ71 6) S.2.2.2.1 k); omega) ?_
              rw [hi, show 60 - dn = (60 - (dn + 1)) + 1 by omega, rm_runs, if_pos c49, if_pos (by rw [← c74, show ν 6 = S.2.2.2.2 from hN.c])]
              rw [show μ71 6 = S.2.2.2.2 from hR7.c, show ν 6 = S.2.2.2.2 from hN.c]
              simp only [Nat.add_assoc, Nat.add_comm 1]
    refine es_iconstN (pc := 31) 0 dX5_run_31 ic_0 ?_
    refine es_istore_n (pc := 32) dX5_run_32 (ok1_1 rfl) ?_
    refine es_iconstN (pc := 33) 0 dX5_run_33 ic_0 ?_
    refine es_istore_n (pc := 34) dX5_run_34 (ok1_2 rfl) ?_
    exact hl35 _ μ28 S.1 0 0 rfl hR2 hW.1 f2 (by omega) (by omega) (by simp)
  · refine es_throw (pc := 10) (E := 1) dX5_run_10 dX5_run_13 dX5_run_14 dX5_run_16 dX5_run_19 (by decide +kernel) (by decide) ?_
    exact Or.inr ⟨_, rfl, QE.of 0 (by rw [op_run, if_pos c7]) rfl hR⟩
