def Fr24 (μ μ2 : ev_M) : Prop := ∀ k, (k < 10 ∨ (14 ≤ k ∧ k < 34) ∨ 44 ≤ k) → μ2 k = μ k
theorem Fr24.tr {μ μ2 μ3 : ev_M} (h : Fr24 μ μ2) (h2 : Fr24 μ2 μ3) : Fr24 μ μ3 := fun k a => (h2 k a).trans (h k a)
theorem Fr24.r {μ μ2 : ev_M} {S : gS} (h : Fr24 μ μ2) (hR : RepC μ S) : RepC μ2 S := hR.cong (fun k hk => h k (by unfold gNo at hk; omega))
theorem Fr24.f {μ μ2 : ev_M} (h : Fr24 μ μ2) : Fr5 μ μ2 := fun k _ _ => h k (by omega)
theorem rPr_0 {r : gm_R} {t : Nat} : rPr r 0 0 t = nI ((dj (rq r) 0 10).1 t) := if_pos rfl
theorem rPr_1 {r : gm_R} {t : Nat} : rPr r (nI 1) 0 t = nI (fw (rq r) 10 0 t) := if_neg (by decide)
set_option maxHeartbeats 2000000 in
set_option maxRecDepth 20000 in
theorem X5_withTowers_ok {d : Nat} {μ : ev_M} {S : gS} {h : Int64} (hR : RepC μ S) (hW : WFS S) (hQ : ∀ f t, f < 10 → t < 10 → μ (24 + f) t = nI (rq S.1 f t)) (hd : 6 ≤ d := by omega) : SPl (ev_CALL d) 23 [.ref 0, .long h] μ (fun x μ2 => x = dgT S.1 10 h ∧ Fr24 μ μ2) := by
  obtain ⟨d, rfl⟩ : ∃ q, d = q + 1 := ⟨d - 1, by omega⟩
  refine SPl.of (Nat.le_of_ble_eq_true rfl) ?_
  show es (ev_CALL d) 5 cX5_withTowers (some .long) 0 (0, fun _ => 0, []) (fun r μ2 => ∃ x9 : Int64, r = (some (.long x9), 0) ∧ (fun x μ2 => x = dgT S.1 10 h ∧ Fr24 μ μ2) x9 μ2) 0 [.ref 0, .long h, .null, .null, .null, .null, .null] [] μ 0
  refine es_lload_n (pc := 0) dX5_withTowers_0 rfl ?_
  refine es_lstore_n (pc := 1) dX5_withTowers_1 (ok2_3 rfl) ?_
  have hl5 : ∀ (n9 : Nat) (ν : ev_M) (g : Int64) (t : Nat) (j : Value), n9 = 10 - t → (Fr24 μ ν) → (t ≤ 10) → (g = dgT S.1 t h) → es (ev_CALL d) 5 cX5_withTowers (some .long) 0 (0, fun _ => 0, []) (fun r μ2 => ∃ x9 : Int64, r = (some (.long x9), 0) ∧ (fun x μ2 => x = dgT S.1 10 h ∧ Fr24 μ μ2) x9 μ2) 5 [.ref 0, .long h, .null, .long g, .null, .int (nI t), j] [] ν 0 := by
    intro n9
    induction n9 using Nat.strongRecOn with
    | ind n9 ih5 =>
      intro ν g t j hn9 hf ht hg
      subst hn9
      have ih := ih5
      have hRn := hf.r hR
      have hQn : ∀ f t, f < 10 → t < 10 → ν (24 + f) t = nI (rq S.1 f t) := fun f t a b => by rw [hf _ (by omega), hQ f t a b]
      refine es_iload (pc := 5) dX5_withTowers_5 rfl ?_
      refine es_bipushN (pc := 7) 10 dX5_withTowers_7 bp_10 ?_
      refine es_icmp_geN (pc := 9) 85 dX5_withTowers_9 (by decide) (by omega) (by omega) (fun c9 => ?_) (fun c9 => ?_)
      · refine es_lload_n (pc := 85) dX5_withTowers_85 rfl ?_
        refine es_lreturn (pc := 86) dX5_withTowers_86 rfl (by decide) ?_
        exact ⟨_, rfl, by rw [hg, show t = 10 by omega], hf⟩
      · have hl15 : ∀ (n9 : Nat) (g : Int64) (w : Nat), n9 = 4 - w → (w ≤ 4) → (g = dgl (rTower S.1 t) w (dgT S.1 t h)) → es (ev_CALL d) 5 cX5_withTowers (some .long) 0 (0, fun _ => 0, []) (fun r μ2 => ∃ x9 : Int64, r = (some (.long x9), 0) ∧ (fun x μ2 => x = dgT S.1 10 h ∧ Fr24 μ μ2) x9 μ2) 15 [.ref 0, .long h, .null, .long g, .null, .int (nI t), .int (nI w)] [] ν 0 := by
          intro n9
          induction n9 using Nat.strongRecOn with
          | ind n9 ih15 =>
            intro g w hn9 hw hg9
            subst hn9
            have ih := ih15
            refine es_iload (pc := 15) dX5_withTowers_15 rfl ?_
            refine es_iconstN (pc := 17) 4 dX5_withTowers_17 ic_4 ?_
            refine es_icmp_geN (pc := 18) 43 dX5_withTowers_18 (by decide) (by omega) (by omega) (fun c18 => ?_) (fun c18 => ?_)
            · refine es_ldc2 (pc := 43) dX5_withTowers_43 cl_5_233 ?_
              refine es_lload_n (pc := 46) dX5_withTowers_46 rfl ?_
              refine es_lmul (pc := 47) dX5_withTowers_47 ?_
              refine es_aload_n (pc := 48) dX5_withTowers_48 rfl ?_
              refine es_getR (pc := 49) dX5_withTowers_49 fr_5_41 fld_0_5 ?_
              refine es_iconstN (pc := 52) 0 dX5_withTowers_52 ic_0 ?_
              refine es_iload (pc := 53) dX5_withTowers_53 rfl ?_
              refine es_cv2_i (pc := 55) dX5_withTowers_55 mr_5_206 rfl rfl (by decide) (by decide) rfl (Nat.le_of_ble_eq_true rfl) (Nat.zero_le _) (X4_cheapestBySettling_ok (a := 0) hQn (fun f t a b => rq_le hW.1 a b)) (fun x55 μ55 h55 => ?_)
              have hQ5 : ∀ f t, f < 10 → t < 10 → μ55 (24 + f) t = nI (rq S.1 f t) := fun f t a b => by rw [h55.2 _ (by omega) (by omega), hQn f t a b]
              refine es_i2l (pc := 58) dX5_withTowers_58 ?_
              refine es_ladd (pc := 59) dX5_withTowers_59 ?_
              refine es_lstore_n (pc := 60) dX5_withTowers_60 (ok2_3 rfl) ?_
              refine es_ldc2 (pc := 61) dX5_withTowers_61 cl_5_233 ?_
              refine es_lload_n (pc := 64) dX5_withTowers_64 rfl ?_
              refine es_lmul (pc := 65) dX5_withTowers_65 ?_
              refine es_aload_n (pc := 66) dX5_withTowers_66 rfl ?_
              refine es_getR (pc := 67) dX5_withTowers_67 fr_5_41 fld_0_5 ?_
              refine es_iconstN (pc := 70) 0 dX5_withTowers_70 ic_0 ?_
              refine es_iload (pc := 71) dX5_withTowers_71 rfl ?_
              refine es_cv2_i (pc := 73) dX5_withTowers_73 mr_5_209 rfl rfl (by decide) (by decide) rfl (Nat.le_of_ble_eq_true rfl) (Nat.zero_le _) (X4_cheapestByGoingOver_ok (a := 0) hQ5 (fun f t a b => rq_le hW.1 a b)) (fun x73 μ73 h73 => ?_)
              refine es_i2l (pc := 76) dX5_withTowers_76 ?_
              refine es_ladd (pc := 77) dX5_withTowers_77 ?_
              refine es_lstore_n (pc := 78) dX5_withTowers_78 (ok2_3 rfl) ?_
              refine es_iincN (pc := 79) 1 dX5_withTowers_79 ic_1 rfl (ok1_5 rfl) ?_
              refine es_goto (pc := 82) (tgt := 5) dX5_withTowers_82 (by decide) ?_
              refine ih5 _ (by omega) _ _ (t + 1) _ rfl ((hf.tr (fun k hk => h55.2 k (by omega) (by omega))).tr (fun k hk => h73.2 k (by omega))) (by omega) ?_
              rw [h73.1, h55.1, hg9, show w = 4 by omega, ← rPr_0, ← rPr_1]
              rfl
            · refine es_ldc2 (pc := 21) dX5_withTowers_21 cl_5_233 ?_
              refine es_lload_n (pc := 24) dX5_withTowers_24 rfl ?_
              refine es_lmul (pc := 25) dX5_withTowers_25 ?_
              refine es_aload_n (pc := 26) dX5_withTowers_26 rfl ?_
              refine es_iload (pc := 27) dX5_withTowers_27 rfl ?_
              refine es_iload (pc := 29) dX5_withTowers_29 rfl ?_
              refine es_cv2_p (pc := 31) dX5_withTowers_31 mr_5_188 rfl rfl (by decide) (by decide) rfl (Nat.le_of_ble_eq_true rfl) (Nat.zero_le _) (X5_towerProperty_ok hRn hW) ?_
              refine es_i2l (pc := 34) dX5_withTowers_34 ?_
              refine es_ladd (pc := 35) dX5_withTowers_35 ?_
              refine es_lstore_n (pc := 36) dX5_withTowers_36 (ok2_3 rfl) ?_
              refine es_iincN (pc := 37) 1 dX5_withTowers_37 ic_1 rfl (ok1_6 rfl) ?_
              refine es_goto (pc := 40) (tgt := 15) dX5_withTowers_40 (by decide) ?_
              exact ih15 _ (by omega) _ (w + 1) rfl (by omega) (by rw [hg9]; rfl)
        refine es_iconstN (pc := 12) 0 dX5_withTowers_12 ic_0 ?_
        refine es_istore (pc := 13) dX5_withTowers_13 (ok1_6 rfl) ?_
        exact hl15 _ _ 0 rfl (by omega) hg
  refine es_iconstN (pc := 2) 0 dX5_withTowers_2 ic_0 ?_
  refine es_istore (pc := 3) dX5_withTowers_3 (ok1_5 rfl) ?_
  exact hl5 _ μ h 0 _ rfl (fun _ _ => rfl) (by omega) rfl
set_option maxHeartbeats 2000000 in
set_option maxRecDepth 20000 in
theorem X5_withPlayer_ok {d : Nat} {μ : ev_M} {S : gS} {h : Int64} {p : Nat} (hR : RepC μ S) (hW : WFS S) (hQ : ∀ f t, f < 10 → t < 10 → μ (24 + f) t = nI (rq S.1 f t)) (hp : p < 4 := by omega) (hd : 16 ≤ d := by omega) : SPl (ev_CALL d) 30 [.ref 0, .long h, .int (nI p)] μ (fun x μ2 => x = dgP1 S.1 p h ∧ Fr24 μ μ2) := by
  obtain ⟨d, rfl⟩ : ∃ q, d = q + 1 := ⟨d - 1, by omega⟩
  refine SPl.of (Nat.le_of_ble_eq_true rfl) ?_
  show es (ev_CALL d) 5 cX5_withPlayer (some .long) 0 (0, fun _ => 0, []) (fun r μ2 => ∃ x9 : Int64, r = (some (.long x9), 0) ∧ (fun x μ2 => x = dgP1 S.1 p h ∧ Fr24 μ μ2) x9 μ2) 0 [.ref 0, .long h, .null, .int (nI p), .null, .null, .null] [] μ 0
  have hm6 := hR.m
  obtain ⟨ol, ho, ho6, hn, hn6, hsv⟩ := hR.2.1
  obtain ⟨wP, wP4, won, won4, wit, wit4, wpl, wpb⟩ := WG.of (r := S.1) hR.g hW.1
  refine es_lload_n (pc := 0) dX5_withPlayer_0 rfl ?_
  refine es_lstore (pc := 1) dX5_withPlayer_1 (ok2_4 rfl) ?_
  have hl6 : ∀ (n9 : Nat) (g : Int64) (w : Nat), n9 = 9 - w → (w ≤ 9) → (g = dgl (rPlayer S.1 p) w h) → es (ev_CALL d) 5 cX5_withPlayer (some .long) 0 (0, fun _ => 0, []) (fun r μ2 => ∃ x9 : Int64, r = (some (.long x9), 0) ∧ (fun x μ2 => x = dgP1 S.1 p h ∧ Fr24 μ μ2) x9 μ2) 6 [.ref 0, .long h, .null, .int (nI p), .long g, .null, .int (nI w)] [] μ 0 := by
    intro n9
    induction n9 using Nat.strongRecOn with
    | ind n9 ih6 =>
      intro g w hn9 hw hg
      subst hn9
      have ih := ih6
      refine es_iload (pc := 6) dX5_withPlayer_6 rfl ?_
      refine es_bipushN (pc := 8) 9 dX5_withPlayer_8 bp_9 ?_
      refine es_icmp_geN (pc := 10) 36 dX5_withPlayer_10 (by decide) (by omega) (by omega) (fun c10 => ?_) (fun c10 => ?_)
      · have hl39 : ∀ (n9 : Nat) (g : Int64) (t : Nat), n9 = 10 - t → (t ≤ 10) → (g = dgl (fun t => rm_why S.1 p t) t (dgl (rPlayer S.1 p) 9 h)) → es (ev_CALL d) 5 cX5_withPlayer (some .long) 0 (0, fun _ => 0, []) (fun r μ2 => ∃ x9 : Int64, r = (some (.long x9), 0) ∧ (fun x μ2 => x = dgP1 S.1 p h ∧ Fr24 μ μ2) x9 μ2) 39 [.ref 0, .long h, .null, .int (nI p), .long g, .null, .int (nI t)] [] μ 0 := by
          intro n9
          induction n9 using Nat.strongRecOn with
          | ind n9 ih39 =>
            intro g t hn9 ht hg9
            subst hn9
            have ih := ih39
            refine es_iload (pc := 39) dX5_withPlayer_39 rfl ?_
            refine es_bipushN (pc := 41) 10 dX5_withPlayer_41 bp_10 ?_
            refine es_icmp_geN (pc := 43) 72 dX5_withPlayer_43 (by decide) (by omega) (by omega) (fun c43 => ?_) (fun c43 => ?_)
            · refine es_ldc2 (pc := 72) dX5_withPlayer_72 cl_5_233 ?_
              refine es_lload (pc := 75) dX5_withPlayer_75 rfl ?_
              refine es_lmul (pc := 77) dX5_withPlayer_77 ?_
              refine es_aload_n (pc := 78) dX5_withPlayer_78 rfl ?_
              refine es_getR (pc := 79) dX5_withPlayer_79 fr_5_48 fld_0_6 ?_
              refine es_aload_n (pc := 82) dX5_withPlayer_82 rfl ?_
              refine es_getR (pc := 83) dX5_withPlayer_83 fr_5_10 fld_0_0 ?_
              refine es_aload_n (pc := 86) dX5_withPlayer_86 rfl ?_
              refine es_getR (pc := 87) dX5_withPlayer_87 fr_5_41 fld_0_5 ?_
              refine es_iload_n (pc := 90) dX5_withPlayer_90 rfl ?_
              refine es_bipushN (pc := 91) 9 dX5_withPlayer_91 bp_9 ?_
              refine es_cv4_i (pc := 93) dX5_withPlayer_93 mr_5_217 rfl rfl (by decide) (by decide) rfl (Nat.le_of_ble_eq_true rfl) (Nat.zero_le _) (X3_fewestTurns_ok hQ (wpl p hp) (ha := wpb _)) (fun x93 μ93 h93 => ?_)
              refine es_i2l (pc := 96) dX5_withPlayer_96 ?_
              refine es_ladd (pc := 97) dX5_withPlayer_97 ?_
              refine es_lreturn (pc := 98) dX5_withPlayer_98 rfl (by decide) ?_
              exact ⟨_, rfl, by rw [hg9, show t = 10 by omega, h93.1, rMov_c hR.g hp (wpb _)]; rfl, fun k hk => h93.2 k (by omega) (by omega)⟩
            · refine es_ldc2 (pc := 46) dX5_withPlayer_46 cl_5_233 ?_
              refine es_lload (pc := 49) dX5_withPlayer_49 rfl ?_
              refine es_lmul (pc := 51) dX5_withPlayer_51 ?_
              refine es_aload_n (pc := 52) dX5_withPlayer_52 rfl ?_
              refine es_getR (pc := 53) dX5_withPlayer_53 fr_5_10 fld_0_0 ?_
              refine es_iload_n (pc := 56) dX5_withPlayer_56 rfl ?_
              refine es_iload (pc := 57) dX5_withPlayer_57 rfl ?_
              refine es_cv2_p (pc := 59) dX5_withPlayer_59 mr_5_214 rfl rfl (by decide) (by decide) rfl (Nat.le_of_ble_eq_true rfl) (Nat.zero_le _) (X0_refusalOfStride_ok (wpl _ hp) (ha := wpb _)) ?_
              refine es_i2l (pc := 62) dX5_withPlayer_62 ?_
              refine es_ladd (pc := 63) dX5_withPlayer_63 ?_
              refine es_lstore (pc := 64) dX5_withPlayer_64 (ok2_4 rfl) ?_
              refine es_iincN (pc := 66) 1 dX5_withPlayer_66 ic_1 rfl (ok1_6 rfl) ?_
              refine es_goto (pc := 69) (tgt := 39) dX5_withPlayer_69 (by decide) ?_
              exact ih39 _ (by omega) _ (t + 1) rfl (by omega) (by rw [hg9, rm_why_c hR.g hp (by omega) (wpb _)]; rfl)
        refine es_iconstN (pc := 36) 0 dX5_withPlayer_36 ic_0 ?_
        refine es_istore (pc := 37) dX5_withPlayer_37 (ok1_6 rfl) ?_
        exact hl39 _ _ 0 rfl (by omega) (by rw [hg, show w = 9 by omega]; rfl)
      · refine es_ldc2 (pc := 13) dX5_withPlayer_13 cl_5_233 ?_
        refine es_lload (pc := 16) dX5_withPlayer_16 rfl ?_
        refine es_lmul (pc := 18) dX5_withPlayer_18 ?_
        refine es_aload_n (pc := 19) dX5_withPlayer_19 rfl ?_
        refine es_iload_n (pc := 20) dX5_withPlayer_20 rfl ?_
        refine es_iload (pc := 21) dX5_withPlayer_21 rfl ?_
        refine es_cv2_p (pc := 23) dX5_withPlayer_23 mr_5_193 rfl rfl (by decide) (by decide) rfl (Nat.le_of_ble_eq_true rfl) (Nat.zero_le _) (X5_playerProperty_ok hR hW) ?_
        refine es_i2l (pc := 26) dX5_withPlayer_26 ?_
        refine es_ladd (pc := 27) dX5_withPlayer_27 ?_
        refine es_lstore (pc := 28) dX5_withPlayer_28 (ok2_4 rfl) ?_
        refine es_iincN (pc := 30) 1 dX5_withPlayer_30 ic_1 rfl (ok1_6 rfl) ?_
        refine es_goto (pc := 33) (tgt := 6) dX5_withPlayer_33 (by decide) ?_
        exact ih6 _ (by omega) _ (w + 1) rfl (by omega) (by rw [hg]; rfl)
  refine es_iconstN (pc := 3) 0 dX5_withPlayer_3 ic_0 ?_
  refine es_istore (pc := 4) dX5_withPlayer_4 (ok1_6 rfl) ?_
  exact hl6 _ h 0 rfl (by omega) rfl
