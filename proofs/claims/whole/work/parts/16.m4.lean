/-! Walk: the own turns ahead -/
def wk_g (rn ab : Int32) : Int32 := if ab < rn then ab else rn
def wk_any (f : Nat → Bool) : Nat → Bool
  | 0 => false
  | k + 1 => wk_any f k || f k
theorem wk_any_mono {f : Nat → Bool} {k : Nat} (h : wk_any f k = true) : ∀ j, wk_any f (k + j) = true
  | 0 => h
  | j + 1 => by
    show (wk_any f (k + j) || _) = true
    rw [wk_any_mono h j]; rfl
/-- whether the goal is reached within so many own turns, the last one a stride to it -/
def wk_rc (S : Nat → Nat → Int32) (gl : Nat) (rn tn : Int32) : Nat → (Nat → Int32) → Nat → Int32 → Int32 → Bool
  | 0, _, _, _, _ => false
  | n + 1, ly, a, ab, bl => if S a gl ≤ bl then true else if n = 0 then false else
    (wk_rc S gl rn tn n ly a (ab - wk_g rn ab) (bl + wk_g rn ab)) ||
    ((if bl < tn then false else wk_rc S gl rn tn n (upd ly a (ly a + tn)) a (bl - tn - wk_g rn (bl - tn)) (ab + wk_g rn (bl - tn))) ||
    wk_any (fun k => decide (k ≠ a) && (decide (S a k ≤ bl) && wk_rc S gl rn tn n (upd (upd ly k (nI 0)) a (upd ly k (nI 0) a + S a k)) k (ab + ly k - wk_g rn (ab + ly k)) (bl - S a k + wk_g rn (ab + ly k)))) 10)
def WKS (μ : ev_M) (S : Nat → Nat → Int32) (gl : Nat) (rn tn : Int32) : Prop := (∀ f t, f < 10 → t < 10 → μ (24 + f) t = S f t) ∧ μ 12 1 = nI gl ∧ μ 12 2 = rn ∧ μ 12 3 = tn
theorem WKS.ms {μ : ev_M} {S : Nat → Nat → Int32} {gl : Nat} {rn tn x : Int32} {i : Nat} (h : WKS μ S gl rn tn) : WKS (ev_ms μ 13 i x) S gl rn tn := by
  obtain ⟨h1, h2, h3, h4⟩ := h
  refine ⟨fun f t hf ht => by rw [ms_ne (by omega)]; exact h1 f t hf ht, ?_, ?_, ?_⟩
  · rw [ms_ne (by decide)]; exact h2
  · rw [ms_ne (by decide)]; exact h3
  · rw [ms_ne (by decide)]; exact h4
theorem ms_ms {μ : ev_M} {k i : Nat} {x y : Int32} : ev_ms (ev_ms μ k i x) k i y = ev_ms μ k i y := by
  funext q j
  simp only [ms_full]
  split <;> rfl
theorem ms_self {μ : ev_M} {k i : Nat} {x : Int32} (h : x = μ k i) : ev_ms μ k i x = μ := by
  funext q j
  simp only [ms_full]
  split
  · rename_i h2; rw [h, h2.1, h2.2]
  · rfl
theorem wk_back1 {μ : ev_M} {a : Nat} {g : Int32} : ev_ms (ev_ms μ 13 a (μ 13 a + g)) 13 a (ev_ms μ 13 a (μ 13 a + g) 13 a - g) = μ := by
  rw [ms_ms]
  refine ms_self ?_
  rw [ms_at, if_pos rfl, Int32.add_sub_cancel]
theorem wk_back2 {μ : ev_M} {a k : Nat} {g z : Int32} (h : k ≠ a) : ev_ms (ev_ms (ev_ms (ev_ms μ 13 k z) 13 a (ev_ms μ 13 k z 13 a + g)) 13 a (ev_ms (ev_ms μ 13 k z) 13 a (ev_ms μ 13 k z 13 a + g) 13 a - g)) 13 k (μ 13 k) = μ := by
  rw [wk_back1 (μ := ev_ms μ 13 k z), ms_ms]
  exact ms_self rfl
/-- within n turns: what reaches answers, at depth 3 n + 1 -/
def WKR (S : Nat → Nat → Int32) (gl : Nat) (rn tn : Int32) (n : Nat) : Prop := ∀ (d : Nat) (μ : ev_M) (a : Nat) (ab bl : Int32), WKS μ S gl rn tn → a < 10 → 3 * n + 1 ≤ d → ev_CALL d 35 [.ref 12, .ref 7, .int (nI a), .int ab, .int bl, .int (nI n)] μ (some (.int (bI (wk_rc S gl rn tn n (μ 13) a ab bl))), 0) μ

set_option maxHeartbeats 2000000 in
set_option maxRecDepth 20000 in
theorem X3_run_ok {d : Nat} {μ : ev_M} {S : Nat → Nat → Int32} {gl n a : Nat} {rn tn ab bl : Int32} (H : WKR S gl rn tn n) (hw : WKS μ S gl rn tn) (ha : a < 10 := by omega) (hn : n < 10 := by omega) (hd : 3 * n + 2 ≤ d := by omega) : ev_CALL d 36 [.ref 12, .ref 7, .int (nI a), .int ab, .int bl, .int (nI (n + 1))] μ (some (.int (bI (wk_rc S gl rn tn n (μ 13) a (ab - wk_g rn ab) (bl + wk_g rn ab)))), 0) μ := by
  obtain ⟨d, rfl⟩ : ∃ q, d = q + 1 := ⟨d - 1, by omega⟩
  refine SPp.of (Nat.le_of_ble_eq_true rfl) ?_
  show es (ev_CALL d) 3 cX3_reachesBehindRun (some .boolean) 0 (0, fun _ => 0, []) (fun r μ2 => r = (some (.int (bI (wk_rc S gl rn tn n (μ 13) a (ab - wk_g rn ab) (bl + wk_g rn ab)))), 0) ∧ μ2 = μ) 0 [.ref 12, .ref 7, .int (nI a), .int ab, .int bl, .int (nI (n + 1)), .null] [] μ 0
  refine es_aload_n (pc := 0) dX3_reachesBehindRun_0 rfl ?_
  refine es_getI (pc := 1) dX3_reachesBehindRun_1 fr_3_19 fld_12_2 ?_
  refine es_top hw.2.2.1 ?_
  refine es_iload_n (pc := 4) dX3_reachesBehindRun_4 rfl ?_
  refine es_mmin (pc := 5) dX3_reachesBehindRun_5 mr_3_65 (Nat.le_of_ble_eq_true rfl) ?_
  show es _ _ _ _ _ _ _ _ _ (.int (wk_g rn ab) :: _) _ _
  refine es_istore (pc := 8) dX3_reachesBehindRun_8 (ok1_6 rfl) ?_
  refine es_aload_n (pc := 10) dX3_reachesBehindRun_10 rfl ?_
  refine es_aload_n (pc := 11) dX3_reachesBehindRun_11 rfl ?_
  refine es_iload_n (pc := 12) dX3_reachesBehindRun_12 rfl ?_
  refine es_iload_n (pc := 13) dX3_reachesBehindRun_13 rfl ?_
  refine es_iload (pc := 14) dX3_reachesBehindRun_14 rfl ?_
  refine es_isub (pc := 16) dX3_reachesBehindRun_16 ?_
  refine es_iload (pc := 17) dX3_reachesBehindRun_17 rfl ?_
  refine es_iload (pc := 19) dX3_reachesBehindRun_19 rfl ?_
  refine es_iadd (pc := 21) dX3_reachesBehindRun_21 ?_
  refine es_iload (pc := 22) dX3_reachesBehindRun_22 rfl ?_
  refine es_iconstN (pc := 24) 1 dX3_reachesBehindRun_24 ic_1 ?_
  refine es_isubN (pc := 25) dX3_reachesBehindRun_25 (by omega) ?_
  refine es_cs6_p (pc := 26) dX3_reachesBehindRun_26 mr_3_46 rfl rfl rfl (Nat.le_of_ble_eq_true rfl) (Nat.zero_le _) (H _ _ _ _ _ hw (by omega) (by omega)) ?_
  refine es_ireturn (pc := 29) dX3_reachesBehindRun_29 rfl (es_bret) (by decide) ?_
  exact ⟨rfl, rfl⟩
set_option maxHeartbeats 2000000 in
set_option maxRecDepth 20000 in
theorem X3_turn_ok {d : Nat} {μ : ev_M} {S : Nat → Nat → Int32} {gl n a : Nat} {rn tn ab bl : Int32} (H : WKR S gl rn tn n) (hw : WKS μ S gl rn tn) (ha : a < 10 := by omega) (hn : n < 10 := by omega) (hd : 3 * n + 3 ≤ d := by omega) : ev_CALL d 37 [.ref 12, .ref 7, .int (nI a), .int ab, .int bl, .int (nI (n + 1))] μ (some (.int (bI (if bl < tn then false else wk_rc S gl rn tn n (upd (μ 13) a (μ 13 a + tn)) a (bl - tn - wk_g rn (bl - tn)) (ab + wk_g rn (bl - tn))))), 0) μ := by
  obtain ⟨d, rfl⟩ : ∃ q, d = q + 1 := ⟨d - 1, by omega⟩
  refine SPp.of (Nat.le_of_ble_eq_true rfl) ?_
  show es (ev_CALL d) 3 cX3_reachesBehindTurn (some .boolean) 0 (0, fun _ => 0, []) (fun r μ2 => r = (some (.int (bI (if bl < tn then false else wk_rc S gl rn tn n (upd (μ 13) a (μ 13 a + tn)) a (bl - tn - wk_g rn (bl - tn)) (ab + wk_g rn (bl - tn))))), 0) ∧ μ2 = μ) 0 [.ref 12, .ref 7, .int (nI a), .int ab, .int bl, .int (nI (n + 1)), .null, .null] [] μ 0
  refine es_aload_n (pc := 0) dX3_reachesBehindTurn_0 rfl ?_
  refine es_getI (pc := 1) dX3_reachesBehindTurn_1 fr_3_22 fld_12_3 ?_
  refine es_top hw.2.2.2 ?_
  refine es_istore (pc := 4) dX3_reachesBehindTurn_4 (ok1_6 rfl) ?_
  refine es_iload (pc := 6) dX3_reachesBehindTurn_6 rfl ?_
  refine es_iload (pc := 8) dX3_reachesBehindTurn_8 rfl ?_
  refine es_icmp_le (pc := 10) (tgt := 15) dX3_reachesBehindTurn_10 (by decide) (fun c10 => ?_) (fun c10 => ?_)
  · refine es_aload_n (pc := 15) dX3_reachesBehindTurn_15 rfl ?_
    refine es_getR (pc := 16) dX3_reachesBehindTurn_16 fr_3_9 fld_12_0 ?_
    refine es_iload_n (pc := 19) dX3_reachesBehindTurn_19 rfl ?_
    refine es_dup2 (pc := 20) dX3_reachesBehindTurn_20 rfl rfl ?_
    refine es_iald (pc := 21) dX3_reachesBehindTurn_21 lay_13 (by omega) ?_
    refine es_iload (pc := 22) dX3_reachesBehindTurn_22 rfl ?_
    refine es_iadd (pc := 24) dX3_reachesBehindTurn_24 ?_
    refine es_iast (pc := 25) dX3_reachesBehindTurn_25 lay_13 (by omega) ?_
    refine es_aload_n (pc := 26) dX3_reachesBehindTurn_26 rfl ?_
    refine es_aload_n (pc := 27) dX3_reachesBehindTurn_27 rfl ?_
    refine es_iload_n (pc := 28) dX3_reachesBehindTurn_28 rfl ?_
    refine es_iload (pc := 29) dX3_reachesBehindTurn_29 rfl ?_
    refine es_iload (pc := 31) dX3_reachesBehindTurn_31 rfl ?_
    refine es_isub (pc := 33) dX3_reachesBehindTurn_33 ?_
    refine es_iload_n (pc := 34) dX3_reachesBehindTurn_34 rfl ?_
    refine es_iload (pc := 35) dX3_reachesBehindTurn_35 rfl ?_
    refine es_cs6_p (pc := 37) dX3_reachesBehindTurn_37 mr_3_56 rfl rfl rfl (Nat.le_of_ble_eq_true rfl) (Nat.zero_le _) (X3_run_ok H hw.ms) ?_
    refine es_istore (pc := 40) dX3_reachesBehindTurn_40 (ok1_7 rfl) ?_
    refine es_aload_n (pc := 42) dX3_reachesBehindTurn_42 rfl ?_
    refine es_getR (pc := 43) dX3_reachesBehindTurn_43 fr_3_9 fld_12_0 ?_
    refine es_iload_n (pc := 46) dX3_reachesBehindTurn_46 rfl ?_
    refine es_dup2 (pc := 47) dX3_reachesBehindTurn_47 rfl rfl ?_
    refine es_iald (pc := 48) dX3_reachesBehindTurn_48 lay_13 (by omega) ?_
    refine es_iload (pc := 49) dX3_reachesBehindTurn_49 rfl ?_
    refine es_isub (pc := 51) dX3_reachesBehindTurn_51 ?_
    refine es_iast (pc := 52) dX3_reachesBehindTurn_52 lay_13 (by omega) ?_
    refine es_mem wk_back1 ?_
    refine es_iload (pc := 53) dX3_reachesBehindTurn_53 rfl ?_
    refine es_ireturn (pc := 55) dX3_reachesBehindTurn_55 rfl (es_bret) (by decide) ?_
    exact ⟨by rw [if_neg (Int32.not_lt.mpr c10)]; rfl, rfl⟩
  · refine es_iconstN (pc := 13) 0 dX3_reachesBehindTurn_13 ic_0 ?_
    refine es_ireturn (pc := 14) dX3_reachesBehindTurn_14 rfl (rfl) (by decide) ?_
    exact ⟨by rw [if_pos (Int32.not_le.mp c10)]; rfl, rfl⟩
set_option maxHeartbeats 2000000 in
set_option maxRecDepth 20000 in
theorem X3_stride_ok {d : Nat} {μ : ev_M} {S : Nat → Nat → Int32} {gl n a : Nat} {rn tn ab bl : Int32} (H : WKR S gl rn tn n) (hw : WKS μ S gl rn tn) (ha : a < 10 := by omega) (hn : n < 10 := by omega) (hd : 3 * n + 3 ≤ d := by omega) : ev_CALL d 38 [.ref 12, .ref 7, .int (nI a), .int ab, .int bl, .int (nI (n + 1))] μ (some (.int (bI (wk_any (fun k => decide (k ≠ a) && (decide (S a k ≤ bl) && wk_rc S gl rn tn n (upd (upd (μ 13) k (nI 0)) a (upd (μ 13) k (nI 0) a + S a k)) k (ab + μ 13 k - wk_g rn (ab + μ 13 k)) (bl - S a k + wk_g rn (ab + μ 13 k)))) 10))), 0) μ := by
  obtain ⟨d, rfl⟩ : ∃ q, d = q + 1 := ⟨d - 1, by omega⟩
  refine SPp.of (Nat.le_of_ble_eq_true rfl) ?_
  show es (ev_CALL d) 3 cX3_reachesBehindStride (some .boolean) 0 (0, fun _ => 0, []) (fun r μ2 => r = (some (.int (bI (wk_any (fun k => decide (k ≠ a) && (decide (S a k ≤ bl) && wk_rc S gl rn tn n (upd (upd (μ 13) k (nI 0)) a (upd (μ 13) k (nI 0) a + S a k)) k (ab + μ 13 k - wk_g rn (ab + μ 13 k)) (bl - S a k + wk_g rn (ab + μ 13 k)))) 10))), 0) ∧ μ2 = μ) 0 [.ref 12, .ref 7, .int (nI a), .int ab, .int bl, .int (nI (n + 1)), .null, .null, .null, .null] [] μ 0
  have hl6 : ∀ (n9 : Nat) (fnd : Bool) (j8 j9 : Value) (k : Nat), n9 = 10 - k → (k ≤ 10) → (fnd = wk_any (fun k => decide (k ≠ a) && (decide (S a k ≤ bl) && wk_rc S gl rn tn n (upd (upd (μ 13) k (nI 0)) a (upd (μ 13) k (nI 0) a + S a k)) k (ab + μ 13 k - wk_g rn (ab + μ 13 k)) (bl - S a k + wk_g rn (ab + μ 13 k)))) k) → es (ev_CALL d) 3 cX3_reachesBehindStride (some .boolean) 0 (0, fun _ => 0, []) (fun r μ2 => r = (some (.int (bI (wk_any (fun k => decide (k ≠ a) && (decide (S a k ≤ bl) && wk_rc S gl rn tn n (upd (upd (μ 13) k (nI 0)) a (upd (μ 13) k (nI 0) a + S a k)) k (ab + μ 13 k - wk_g rn (ab + μ 13 k)) (bl - S a k + wk_g rn (ab + μ 13 k)))) 10))), 0) ∧ μ2 = μ) 6 [.ref 12, .ref 7, .int (nI a), .int ab, .int bl, .int (nI (n + 1)), .int (bI fnd), .int (nI k), j8, j9] [] μ 0 := by
    intro n9
    induction n9 using Nat.strongRecOn with
    | ind n9 ih6 =>
      intro fnd j8 j9 k hn9 hk hf
      subst hn9
      have ih := ih6
      refine es_iload (pc := 6) dX3_reachesBehindStride_6 rfl ?_
      refine es_bipushN (pc := 8) 10 dX3_reachesBehindStride_8 bp_10 ?_
      refine es_icmp_geN (pc := 10) 116 dX3_reachesBehindStride_10 (by decide) (by omega) (by omega) (fun c10 => ?_) (fun c10 => ?_)
      · refine es_iload (pc := 116) dX3_reachesBehindStride_116 rfl ?_
        refine es_ireturn (pc := 118) dX3_reachesBehindStride_118 rfl (es_bret) (by decide) ?_
        exact ⟨by rw [hf, show k = 10 by omega], rfl⟩
      · refine es_iload (pc := 13) dX3_reachesBehindStride_13 rfl ?_
        refine es_if_neB (pc := 15) 116 dX3_reachesBehindStride_15 (by decide) (fun c15 => ?_) (fun c15 => ?_)
        · refine es_iload (pc := 116) dX3_reachesBehindStride_116 rfl ?_
          refine es_ireturn (pc := 118) dX3_reachesBehindStride_118 rfl (es_bret) (by decide) ?_
          exact ⟨by rw [c15] at hf ⊢; have := wk_any_mono hf.symm (10 - k); rw [show k + (10 - k) = 10 by omega] at this; rw [this], rfl⟩
        · refine es_aload_n (pc := 18) dX3_reachesBehindStride_18 rfl ?_
          refine es_getR (pc := 19) dX3_reachesBehindStride_19 fr_3_50 fld_7_0 ?_
          refine es_iload_n (pc := 22) dX3_reachesBehindStride_22 rfl ?_
          refine es_aaldq (pc := 23) dX3_reachesBehindStride_23 lay_8 (by omega) (rows8 _ (by omega)) ?_
          refine es_iload (pc := 24) dX3_reachesBehindStride_24 rfl ?_
          refine es_iald (pc := 26) dX3_reachesBehindStride_26 (lay24 _ (by omega)) (by omega) ?_
          refine es_top (hw.1 _ _ (by omega) (by omega)) ?_
          refine es_istore (pc := 27) dX3_reachesBehindStride_27 (ok1_8 rfl) ?_
          refine es_iload (pc := 29) dX3_reachesBehindStride_29 rfl ?_
          refine es_iload_n (pc := 31) dX3_reachesBehindStride_31 rfl ?_
          refine es_icmp_eqN (pc := 32) 110 dX3_reachesBehindStride_32 (by decide) (by omega) (by omega) (fun c32 => ?_) (fun c32 => ?_)
          · refine es_iincN (pc := 110) 1 dX3_reachesBehindStride_110 ic_1 rfl (ok1_7 rfl) ?_
            refine es_goto (pc := 113) (tgt := 6) dX3_reachesBehindStride_113 (by decide) ?_
            exact ih6 _ (by omega) fnd _ _ (k + 1) rfl (by omega) (by rw [wk_any, ← hf, c15]; simp [c32])
          · refine es_iload (pc := 35) dX3_reachesBehindStride_35 rfl ?_
            refine es_iload (pc := 37) dX3_reachesBehindStride_37 rfl ?_
            refine es_icmp_gt (pc := 39) (tgt := 110) dX3_reachesBehindStride_39 (by decide) (fun c39 => ?_) (fun c39 => ?_)
            · refine es_iincN (pc := 110) 1 dX3_reachesBehindStride_110 ic_1 rfl (ok1_7 rfl) ?_
              refine es_goto (pc := 113) (tgt := 6) dX3_reachesBehindStride_113 (by decide) ?_
              exact ih6 _ (by omega) fnd _ _ (k + 1) rfl (by omega) (by rw [wk_any, ← hf, c15]; simp [Int32.not_le.mpr c39])
            · refine es_aload_n (pc := 42) dX3_reachesBehindStride_42 rfl ?_
              refine es_getR (pc := 43) dX3_reachesBehindStride_43 fr_3_9 fld_12_0 ?_
              refine es_iload (pc := 46) dX3_reachesBehindStride_46 rfl ?_
              refine es_iald (pc := 48) dX3_reachesBehindStride_48 lay_13 (by omega) ?_
              refine es_istore (pc := 49) dX3_reachesBehindStride_49 (ok1_9 rfl) ?_
              refine es_aload_n (pc := 51) dX3_reachesBehindStride_51 rfl ?_
              refine es_getR (pc := 52) dX3_reachesBehindStride_52 fr_3_9 fld_12_0 ?_
              refine es_iload (pc := 55) dX3_reachesBehindStride_55 rfl ?_
              refine es_iconstN (pc := 57) 0 dX3_reachesBehindStride_57 ic_0 ?_
              refine es_iast (pc := 58) dX3_reachesBehindStride_58 lay_13 (by omega) ?_
              refine es_aload_n (pc := 59) dX3_reachesBehindStride_59 rfl ?_
              refine es_getR (pc := 60) dX3_reachesBehindStride_60 fr_3_9 fld_12_0 ?_
              refine es_iload_n (pc := 63) dX3_reachesBehindStride_63 rfl ?_
              refine es_dup2 (pc := 64) dX3_reachesBehindStride_64 rfl rfl ?_
              refine es_iald (pc := 65) dX3_reachesBehindStride_65 lay_13 (by omega) ?_
              refine es_iload (pc := 66) dX3_reachesBehindStride_66 rfl ?_
              refine es_iadd (pc := 68) dX3_reachesBehindStride_68 ?_
              refine es_iast (pc := 69) dX3_reachesBehindStride_69 lay_13 (by omega) ?_
              refine es_aload_n (pc := 70) dX3_reachesBehindStride_70 rfl ?_
              refine es_aload_n (pc := 71) dX3_reachesBehindStride_71 rfl ?_
              refine es_iload (pc := 72) dX3_reachesBehindStride_72 rfl ?_
              refine es_iload_n (pc := 74) dX3_reachesBehindStride_74 rfl ?_
              refine es_iload (pc := 75) dX3_reachesBehindStride_75 rfl ?_
              refine es_iadd (pc := 77) dX3_reachesBehindStride_77 ?_
              refine es_iload (pc := 78) dX3_reachesBehindStride_78 rfl ?_
              refine es_iload (pc := 80) dX3_reachesBehindStride_80 rfl ?_
              refine es_isub (pc := 82) dX3_reachesBehindStride_82 ?_
              refine es_iload (pc := 83) dX3_reachesBehindStride_83 rfl ?_
              refine es_cs6_p (pc := 85) dX3_reachesBehindStride_85 mr_3_56 rfl rfl rfl (Nat.le_of_ble_eq_true rfl) (Nat.zero_le _) (X3_run_ok H hw.ms.ms) ?_
              refine es_istore (pc := 88) dX3_reachesBehindStride_88 (ok1_6 rfl) ?_
              refine es_aload_n (pc := 90) dX3_reachesBehindStride_90 rfl ?_
              refine es_getR (pc := 91) dX3_reachesBehindStride_91 fr_3_9 fld_12_0 ?_
              refine es_iload_n (pc := 94) dX3_reachesBehindStride_94 rfl ?_
              refine es_dup2 (pc := 95) dX3_reachesBehindStride_95 rfl rfl ?_
              refine es_iald (pc := 96) dX3_reachesBehindStride_96 lay_13 (by omega) ?_
              refine es_iload (pc := 97) dX3_reachesBehindStride_97 rfl ?_
              refine es_isub (pc := 99) dX3_reachesBehindStride_99 ?_
              refine es_iast (pc := 100) dX3_reachesBehindStride_100 lay_13 (by omega) ?_
              refine es_aload_n (pc := 101) dX3_reachesBehindStride_101 rfl ?_
              refine es_getR (pc := 102) dX3_reachesBehindStride_102 fr_3_9 fld_12_0 ?_
              refine es_iload (pc := 105) dX3_reachesBehindStride_105 rfl ?_
              refine es_iload (pc := 107) dX3_reachesBehindStride_107 rfl ?_
              refine es_iast (pc := 109) dX3_reachesBehindStride_109 lay_13 (by omega) ?_
              refine es_mem (wk_back2 c32) ?_
              refine es_iincN (pc := 110) 1 dX3_reachesBehindStride_110 ic_1 rfl (ok1_7 rfl) ?_
              refine es_goto (pc := 113) (tgt := 6) dX3_reachesBehindStride_113 (by decide) ?_
              exact ih6 _ (by omega) _ _ _ (k + 1) rfl (by omega) (by rw [wk_any, ← hf, c15]; simp [c32, Int32.not_lt.mp c39]; rfl)
  refine es_iconstN (pc := 0) 0 dX3_reachesBehindStride_0 ic_0 ?_
  refine es_istore (pc := 1) dX3_reachesBehindStride_1 (ok1_6 rfl) ?_
  refine es_iconstN (pc := 3) 0 dX3_reachesBehindStride_3 ic_0 ?_
  refine es_istore (pc := 4) dX3_reachesBehindStride_4 (ok1_7 rfl) ?_
  exact hl6 _ false _ _ 0 rfl (by omega) rfl
set_option maxHeartbeats 2000000 in
set_option maxRecDepth 20000 in
theorem X3_reaches_s {d : Nat} {μ : ev_M} {S : Nat → Nat → Int32} {gl n a : Nat} {rn tn ab bl : Int32} (H : WKR S gl rn tn n) (hw : WKS μ S gl rn tn) (ha : a < 10 := by omega) (hg : gl < 10 := by omega) (hn : n < 10 := by omega) (hd : 3 * (n + 1) + 1 ≤ d := by omega) : ev_CALL d 35 [.ref 12, .ref 7, .int (nI a), .int ab, .int bl, .int (nI (n + 1))] μ (some (.int (bI (wk_rc S gl rn tn (n + 1) (μ 13) a ab bl))), 0) μ := by
  obtain ⟨d, rfl⟩ : ∃ q, d = q + 1 := ⟨d - 1, by omega⟩
  refine SPp.of (Nat.le_of_ble_eq_true rfl) ?_
  show es (ev_CALL d) 3 cX3_reaches (some .boolean) 0 (0, fun _ => 0, []) (fun r μ2 => r = (some (.int (bI (wk_rc S gl rn tn (n + 1) (μ 13) a ab bl))), 0) ∧ μ2 = μ) 0 [.ref 12, .ref 7, .int (nI a), .int ab, .int bl, .int (nI (n + 1))] [] μ 0
  refine es_iload (pc := 0) dX3_reaches_0 rfl ?_
  refine es_if_gtN (pc := 2) 7 dX3_reaches_2 (by decide) (by omega) (fun c2 => ?_) (fun c2 => ?_)
  · refine es_aload_n (pc := 7) dX3_reaches_7 rfl ?_
    refine es_getR (pc := 8) dX3_reaches_8 fr_3_50 fld_7_0 ?_
    refine es_iload_n (pc := 11) dX3_reaches_11 rfl ?_
    refine es_aaldq (pc := 12) dX3_reaches_12 lay_8 (by omega) (rows8 _ (by omega)) ?_
    refine es_aload_n (pc := 13) dX3_reaches_13 rfl ?_
    refine es_getI (pc := 14) dX3_reaches_14 fr_3_15 fld_12_1 ?_
    refine es_top hw.2.1 ?_
    refine es_iald (pc := 17) dX3_reaches_17 (lay24 _ (by omega)) (by omega) ?_
    refine es_top (hw.1 _ _ (by omega) (by omega)) ?_
    refine es_iload (pc := 18) dX3_reaches_18 rfl ?_
    refine es_icmp_gt (pc := 20) (tgt := 25) dX3_reaches_20 (by decide) (fun c20 => ?_) (fun c20 => ?_)
    · refine es_iload (pc := 25) dX3_reaches_25 rfl ?_
      refine es_iconstN (pc := 27) 1 dX3_reaches_27 ic_1 ?_
      refine es_icmp_neN (pc := 28) 33 dX3_reaches_28 (by decide) (by omega) (by omega) (fun c28 => ?_) (fun c28 => ?_)
      · refine es_aload_n (pc := 33) dX3_reaches_33 rfl ?_
        refine es_aload_n (pc := 34) dX3_reaches_34 rfl ?_
        refine es_iload_n (pc := 35) dX3_reaches_35 rfl ?_
        refine es_iload_n (pc := 36) dX3_reaches_36 rfl ?_
        refine es_iload (pc := 37) dX3_reaches_37 rfl ?_
        refine es_iload (pc := 39) dX3_reaches_39 rfl ?_
        refine es_cs6_p (pc := 41) dX3_reaches_41 mr_3_56 rfl rfl rfl (Nat.le_of_ble_eq_true rfl) (Nat.zero_le _) (X3_run_ok H hw) ?_
        refine es_if_neB (pc := 44) 75 dX3_reaches_44 (by decide) (fun c44 => ?_) (fun c44 => ?_)
        · refine es_iconstN (pc := 75) 1 dX3_reaches_75 ic_1 ?_
          refine es_goto (pc := 76) (tgt := 80) dX3_reaches_76 (by decide) ?_
          refine es_ireturn (pc := 80) dX3_reaches_80 rfl (rfl) (by decide) ?_
          exact ⟨by rw [wk_rc, if_neg (Int32.not_le.mpr c20), if_neg (by omega)]; rw [c44]; rfl, rfl⟩
        · refine es_aload_n (pc := 47) dX3_reaches_47 rfl ?_
          refine es_aload_n (pc := 48) dX3_reaches_48 rfl ?_
          refine es_iload_n (pc := 49) dX3_reaches_49 rfl ?_
          refine es_iload_n (pc := 50) dX3_reaches_50 rfl ?_
          refine es_iload (pc := 51) dX3_reaches_51 rfl ?_
          refine es_iload (pc := 53) dX3_reaches_53 rfl ?_
          refine es_cs6_p (pc := 55) dX3_reaches_55 mr_3_59 rfl rfl rfl (Nat.le_of_ble_eq_true rfl) (Nat.zero_le _) (X3_turn_ok H hw) ?_
          refine es_if_neB (pc := 58) 75 dX3_reaches_58 (by decide) (fun c58 => ?_) (fun c58 => ?_)
          · refine es_iconstN (pc := 75) 1 dX3_reaches_75 ic_1 ?_
            refine es_goto (pc := 76) (tgt := 80) dX3_reaches_76 (by decide) ?_
            refine es_ireturn (pc := 80) dX3_reaches_80 rfl (rfl) (by decide) ?_
            exact ⟨by rw [wk_rc, if_neg (Int32.not_le.mpr c20), if_neg (by omega)]; rw [c44, c58]; rfl, rfl⟩
          · refine es_aload_n (pc := 61) dX3_reaches_61 rfl ?_
            refine es_aload_n (pc := 62) dX3_reaches_62 rfl ?_
            refine es_iload_n (pc := 63) dX3_reaches_63 rfl ?_
            refine es_iload_n (pc := 64) dX3_reaches_64 rfl ?_
            refine es_iload (pc := 65) dX3_reaches_65 rfl ?_
            refine es_iload (pc := 67) dX3_reaches_67 rfl ?_
            refine es_cs6_p (pc := 69) dX3_reaches_69 mr_3_62 rfl rfl rfl (Nat.le_of_ble_eq_true rfl) (Nat.zero_le _) (X3_stride_ok H hw) ?_
            refine es_if_eqB (pc := 72) 79 dX3_reaches_72 (by decide) (fun c72 => ?_) (fun c72 => ?_)
            · refine es_iconstN (pc := 79) 0 dX3_reaches_79 ic_0 ?_
              refine es_ireturn (pc := 80) dX3_reaches_80 rfl (rfl) (by decide) ?_
              exact ⟨by rw [wk_rc, if_neg (Int32.not_le.mpr c20), if_neg (by omega)]; rw [c44, c58, c72]; rfl, rfl⟩
            · refine es_iconstN (pc := 75) 1 dX3_reaches_75 ic_1 ?_
              refine es_goto (pc := 76) (tgt := 80) dX3_reaches_76 (by decide) ?_
              refine es_ireturn (pc := 80) dX3_reaches_80 rfl (rfl) (by decide) ?_
              exact ⟨by rw [wk_rc, if_neg (Int32.not_le.mpr c20), if_neg (by omega)]; rw [c44, c58, c72]; rfl, rfl⟩
      · refine es_iconstN (pc := 31) 0 dX3_reaches_31 ic_0 ?_
        refine es_ireturn (pc := 32) dX3_reaches_32 rfl (rfl) (by decide) ?_
        exact ⟨by rw [wk_rc, if_neg (Int32.not_le.mpr c20), if_pos (by omega)]; rfl, rfl⟩
    · refine es_iconstN (pc := 23) 1 dX3_reaches_23 ic_1 ?_
      refine es_ireturn (pc := 24) dX3_reaches_24 rfl (rfl) (by decide) ?_
      exact ⟨by rw [wk_rc, if_pos (Int32.not_lt.mp c20)]; rfl, rfl⟩
  · exact absurd c2 (by omega)
set_option maxHeartbeats 2000000 in
set_option maxRecDepth 20000 in
theorem X3_reaches_0 {d : Nat} {μ : ev_M} {a : Nat} {ab bl : Int32} (hd : 1 ≤ d := by omega) : ev_CALL d 35 [.ref 12, .ref 7, .int (nI a), .int ab, .int bl, .int (nI 0)] μ (some (.int (bI false)), 0) μ := by
  obtain ⟨d, rfl⟩ : ∃ q, d = q + 1 := ⟨d - 1, by omega⟩
  refine SPp.of (Nat.le_of_ble_eq_true rfl) ?_
  show es (ev_CALL d) 3 cX3_reaches (some .boolean) 0 (0, fun _ => 0, []) (fun r μ2 => r = (some (.int (bI false)), 0) ∧ μ2 = μ) 0 [.ref 12, .ref 7, .int (nI a), .int ab, .int bl, .int (nI 0)] [] μ 0
  refine es_iload (pc := 0) dX3_reaches_0 rfl ?_
  refine es_if_gtN (pc := 2) 7 dX3_reaches_2 (by decide) (by omega) (fun c2 => ?_) (fun c2 => ?_)
  · exact absurd c2 (by omega)
  · refine es_iconstN (pc := 5) 0 dX3_reaches_5 ic_0 ?_
    refine es_ireturn (pc := 6) dX3_reaches_6 rfl (rfl) (by decide) ?_
    exact ⟨rfl, rfl⟩
theorem X3_reaches_ok {S : Nat → Nat → Int32} {gl : Nat} {rn tn : Int32} (hg : gl < 10) : ∀ n, n < 10 → WKR S gl rn tn n
  | 0, _ => fun d μ a ab bl _ _ hd => X3_reaches_0
  | n + 1, hn => fun d μ a ab bl hw ha hd => X3_reaches_s (X3_reaches_ok hg n (by omega)) hw
def wk_few (f : Nat → Bool) : Int32 := if f 1 then nI 1 else if f 2 then nI 2 else if f 3 then nI 3 else if f 4 then nI 4 else -1
theorem wk_few_no {f : Nat → Bool} (h : ∀ j, 0 < j → j < 5 → f j = false) : wk_few f = -1 := by
  unfold wk_few
  rw [h 1 (by omega) (by omega), h 2 (by omega) (by omega), h 3 (by omega) (by omega), h 4 (by omega) (by omega)]
  rfl
theorem wk_few_k {f : Nat → Bool} {k : Nat} (h : ∀ j, 0 < j → j < k → f j = false) (hk : f k = true) (h0 : 0 < k) (h4 : k ≤ 4) : wk_few f = nI k := by
  unfold wk_few
  rcases (show k = 1 ∨ k = 2 ∨ k = 3 ∨ k = 4 by omega) with rfl | rfl | rfl | rfl
  · rw [if_pos hk]
  · rw [h 1 (by omega) (by omega), hk]; rfl
  · rw [h 1 (by omega) (by omega), h 2 (by omega) (by omega), hk]; rfl
  · rw [h 1 (by omega) (by omega), h 2 (by omega) (by omega), h 3 (by omega) (by omega), hk]; rfl
set_option maxHeartbeats 2000000 in
set_option maxRecDepth 20000 in
theorem X3_fewestTurns_ok {d : Nat} {μ : ev_M} {S : Nat → Nat → Int32} {p a t : Nat} (hS : ∀ f t, f < 10 → t < 10 → μ (24 + f) t = S f t) (hpl : μ 48 p = nI a) (hp : p < 4 := by omega) (ha : a < 10 := by omega) (ht : t < 10 := by omega) (hd : 14 ≤ d := by omega) : SPi (ev_CALL d) 34 [.ref 12, .ref 44, .ref 7, .int (nI p), .int (nI t)] μ (fun x μ2 => x = (if a = t then nI 0 else wk_few (fun n => wk_rc S t (μ 47 0) (μ 47 2) n (fun j => if j < 10 then μ 46 j else μ 13 j) a (μ 49 p) (μ 50 p))) ∧ ∀ k, k ≠ 12 → k ≠ 13 → μ2 k = μ k) := by
  obtain ⟨d, rfl⟩ : ∃ q, d = q + 1 := ⟨d - 1, by omega⟩
  refine SPi.of (Nat.le_of_ble_eq_true rfl) ?_
  show es (ev_CALL d) 3 cX3_fewestTurns (some .int) 0 (0, fun _ => 0, []) (fun r μ2 => ∃ x9 : Int32, r = (some (.int x9), 0) ∧ (fun x μ2 => x = (if a = t then nI 0 else wk_few (fun n => wk_rc S t (μ 47 0) (μ 47 2) n (fun j => if j < 10 then μ 46 j else μ 13 j) a (μ 49 p) (μ 50 p))) ∧ ∀ k, k ≠ 12 → k ≠ 13 → μ2 k = μ k) x9 μ2) 0 [.ref 12, .ref 44, .ref 7, .int (nI p), .int (nI t), .null] [] μ 0
  refine es_aload_n (pc := 0) dX3_fewestTurns_0 rfl ?_
  refine es_getR (pc := 1) dX3_fewestTurns_1 fr_3_25 fld_44_3 ?_
  refine es_iload_n (pc := 4) dX3_fewestTurns_4 rfl ?_
  refine es_iald (pc := 5) dX3_fewestTurns_5 lay_48 (by omega) ?_
  refine es_top (hpl) ?_
  refine es_iload (pc := 6) dX3_fewestTurns_6 rfl ?_
  refine es_icmp_neN (pc := 8) 13 dX3_fewestTurns_8 (by decide) (by omega) (by omega) (fun c8 => ?_) (fun c8 => ?_)
  · refine es_aload_n (pc := 13) dX3_fewestTurns_13 rfl ?_
    refine es_getR (pc := 14) dX3_fewestTurns_14 fr_3_30 fld_44_1 ?_
    refine es_iconstN (pc := 17) 0 dX3_fewestTurns_17 ic_0 ?_
    refine es_aload_n (pc := 18) dX3_fewestTurns_18 rfl ?_
    refine es_getR (pc := 19) dX3_fewestTurns_19 fr_3_9 fld_12_0 ?_
    refine es_iconstN (pc := 22) 0 dX3_fewestTurns_22 ic_0 ?_
    refine es_bipushN (pc := 23) 10 dX3_fewestTurns_23 bp_10 ?_
    refine es_copy (pc := 25) dX3_fewestTurns_25 (by decide +kernel) lay_46 lay_13 (by omega) (by omega) (Nat.le_of_ble_eq_true rfl) ?_
    refine es_aload_n (pc := 28) dX3_fewestTurns_28 rfl ?_
    refine es_iload (pc := 29) dX3_fewestTurns_29 rfl ?_
    refine es_putI (pc := 31) dX3_fewestTurns_31 fr_3_15 fld_12_1 ?_
    refine es_aload_n (pc := 34) dX3_fewestTurns_34 rfl ?_
    refine es_aload_n (pc := 35) dX3_fewestTurns_35 rfl ?_
    refine es_getR (pc := 36) dX3_fewestTurns_36 fr_3_37 fld_44_2 ?_
    refine es_iconstN (pc := 39) 0 dX3_fewestTurns_39 ic_0 ?_
    refine es_iald (pc := 40) dX3_fewestTurns_40 lay_47 (by omega) ?_
    refine es_putI (pc := 41) dX3_fewestTurns_41 fr_3_19 fld_12_2 ?_
    refine es_aload_n (pc := 44) dX3_fewestTurns_44 rfl ?_
    refine es_aload_n (pc := 45) dX3_fewestTurns_45 rfl ?_
    refine es_getR (pc := 46) dX3_fewestTurns_46 fr_3_37 fld_44_2 ?_
    refine es_iconstN (pc := 49) 2 dX3_fewestTurns_49 ic_2 ?_
    refine es_iald (pc := 50) dX3_fewestTurns_50 lay_47 (by omega) ?_
    refine es_putI (pc := 51) dX3_fewestTurns_51 fr_3_22 fld_12_3 ?_
    have hl57 : ∀ (n9 : Nat) (ν : ev_M) (k : Nat), n9 = 5 - k → (k ≤ 5) → (WKS ν S t (μ 47 0) (μ 47 2)) → (ν 13 = (fun j => if j < 10 then μ 46 j else μ 13 j)) → (∀ k, k ≠ 12 → k ≠ 13 → ν k = μ k) → (0 < k) → (∀ j, 0 < j → j < k → (fun n => wk_rc S t (μ 47 0) (μ 47 2) n (fun j => if j < 10 then μ 46 j else μ 13 j) a (μ 49 p) (μ 50 p)) j = false) → es (ev_CALL d) 3 cX3_fewestTurns (some .int) 0 (0, fun _ => 0, []) (fun r μ2 => ∃ x9 : Int32, r = (some (.int x9), 0) ∧ (fun x μ2 => x = (if a = t then nI 0 else wk_few (fun n => wk_rc S t (μ 47 0) (μ 47 2) n (fun j => if j < 10 then μ 46 j else μ 13 j) a (μ 49 p) (μ 50 p))) ∧ ∀ k, k ≠ 12 → k ≠ 13 → μ2 k = μ k) x9 μ2) 57 [.ref 12, .ref 44, .ref 7, .int (nI p), .int (nI t), .int (nI k)] [] ν 0 := by
      intro n9
      induction n9 using Nat.strongRecOn with
      | ind n9 ih57 =>
        intro ν k hn9 hk hw h13 hF h0 hno
        subst hn9
        have ih := ih57
        have e49 : ν 49 = μ 49 := hF 49 (by decide) (by decide)
        have e50 : ν 50 = μ 50 := hF 50 (by decide) (by decide)
        refine es_iload (pc := 57) dX3_fewestTurns_57 rfl ?_
        refine es_iconstN (pc := 59) 4 dX3_fewestTurns_59 ic_4 ?_
        refine es_icmp_gtN (pc := 60) 100 dX3_fewestTurns_60 (by decide) (by omega) (by omega) (fun c60 => ?_) (fun c60 => ?_)
        · refine es_iconstM (pc := 100) dX3_fewestTurns_100 (-1) ic_m1 ?_
          refine es_ireturn (pc := 101) dX3_fewestTurns_101 rfl (vp_nar_int _) (by decide) ?_
          exact ⟨_, rfl, by rw [if_neg c8]; exact (wk_few_no (fun j h1 h2 => hno j h1 (by omega))).symm, hF⟩
        · refine es_aload_n (pc := 63) dX3_fewestTurns_63 rfl ?_
          refine es_aload_n (pc := 64) dX3_fewestTurns_64 rfl ?_
          refine es_aload_n (pc := 65) dX3_fewestTurns_65 rfl ?_
          refine es_getR (pc := 66) dX3_fewestTurns_66 fr_3_25 fld_44_3 ?_
          refine es_iload_n (pc := 69) dX3_fewestTurns_69 rfl ?_
          refine es_iald (pc := 70) dX3_fewestTurns_70 lay_48 (by omega) ?_
          refine es_top ((congrFun (hF _ (by decide) (by decide)) _).trans hpl) ?_
          refine es_aload_n (pc := 71) dX3_fewestTurns_71 rfl ?_
          refine es_getR (pc := 72) dX3_fewestTurns_72 fr_3_40 fld_44_4 ?_
          refine es_iload_n (pc := 75) dX3_fewestTurns_75 rfl ?_
          refine es_iald (pc := 76) dX3_fewestTurns_76 lay_49 (by omega) ?_
          refine es_aload_n (pc := 77) dX3_fewestTurns_77 rfl ?_
          refine es_getR (pc := 78) dX3_fewestTurns_78 fr_3_43 fld_44_5 ?_
          refine es_iload_n (pc := 81) dX3_fewestTurns_81 rfl ?_
          refine es_iald (pc := 82) dX3_fewestTurns_82 lay_50 (by omega) ?_
          refine es_iload (pc := 83) dX3_fewestTurns_83 rfl ?_
          refine es_cs6_p (pc := 85) dX3_fewestTurns_85 mr_3_46 rfl rfl rfl (Nat.le_of_ble_eq_true rfl) (Nat.zero_le _) (X3_reaches_ok (S := S) (by omega) k (by omega) _ _ _ _ _ hw (by omega) (by omega)) ?_
          refine es_if_eqB (pc := 88) 94 dX3_fewestTurns_88 (by decide) (fun c88 => ?_) (fun c88 => ?_)
          · refine es_iincN (pc := 94) 1 dX3_fewestTurns_94 ic_1 rfl (ok1_5 rfl) ?_
            refine es_goto (pc := 97) (tgt := 57) dX3_fewestTurns_97 (by decide) ?_
            exact ih57 _ (by omega) _ (k + 1) rfl (by omega) hw h13 hF (by omega) (fun j h1 h2 => by
              rcases Nat.lt_or_ge j k with q | q
              · exact hno j h1 q
              · obtain rfl : j = k := by omega
                have c9 := c88
                rw [h13, e49, e50] at c9
                exact c9)
          · refine es_iload (pc := 91) dX3_fewestTurns_91 rfl ?_
            refine es_ireturn (pc := 93) dX3_fewestTurns_93 rfl (vp_nar_int _) (by decide) ?_
            have c9 := c88
            rw [h13, e49, e50] at c9
            exact ⟨_, rfl, by rw [if_neg c8]; exact (wk_few_k (k := k) hno c9 h0 (by omega)).symm, hF⟩
    refine es_iconstN (pc := 54) 1 dX3_fewestTurns_54 ic_1 ?_
    refine es_istore (pc := 55) dX3_fewestTurns_55 (ok1_5 rfl) ?_
    exact hl57 _ _ 1 rfl (by omega) ⟨fun f t9 h1 h2 => (by simp only [ms_full, cp_full]; rw [if_neg (by omega), if_neg (by omega), if_neg (by omega), if_neg (by omega)]; exact hS f t9 h1 h2), by simp [ms_full], by simp [ms_full, cp_full], by simp [ms_full, cp_full]⟩ (by funext j; simp [ms_full, cp_full]) (fun k h1 h2 => by rw [ms_ne h1, ms_ne h1, ms_ne h1, cp_ne h2]) (by omega) (fun j h1 h2 => by omega)
  · refine es_iconstN (pc := 11) 0 dX3_fewestTurns_11 ic_0 ?_
    refine es_ireturn (pc := 12) dX3_fewestTurns_12 rfl (vp_nar_int _) (by decide) ?_
    exact ⟨_, rfl, by rw [if_pos c8], fun _ _ _ => rfl⟩
