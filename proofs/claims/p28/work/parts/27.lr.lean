/-! reasons: why each stride would be refused, whom the one who is it could tag -/
theorem why_1 {r : gm_R} {p t : Nat} (h : rPl r p = t) : nI 1 = rm_why r p t := by
  unfold rm_why gm_why
  rw [if_pos h]
theorem why_2 {r : gm_R} {p t : Nat} (h : ¬ rPl r p = t) (h2 : gm_sees (rH r) (rPl r p) t = false) : nI 2 = rm_why r p t := by
  unfold rm_why gm_why
  rw [if_neg h, if_pos h2]
theorem why_3 {r : gm_R} {p t : Nat} (h : ¬ rPl r p = t) (h2 : gm_sees (rH r) (rPl r p) t = true) (h3 : ¬ gm_price (r 1) (rH r) (rPl r p) t ≤ r (31 + 7 * p + 2)) : nI 3 = rm_why r p t := by
  unfold rm_why gm_why
  rw [if_neg h, if_neg (by rw [h2]; decide), if_pos (Int32.not_le.mp h3)]
theorem why_0 {r : gm_R} {p t : Nat} (h : ¬ rPl r p = t) (h2 : gm_sees (rH r) (rPl r p) t = true) (h3 : gm_price (r 1) (rH r) (rPl r p) t ≤ r (31 + 7 * p + 2)) : nI 0 = rm_why r p t := by
  unfold rm_why gm_why
  rw [if_neg h, if_neg (by rw [h2]; decide), if_neg (Int32.not_lt.mpr h3)]
theorem prey_6 {r : gm_R} {p : Nat} (h : p = rIt r) : decide (rm_tagw r (rIt r) p = 0) = false := by
  unfold rm_tagw gm_tagw
  rw [if_neg (by simp), if_pos h.symm]
  decide
theorem prey_2 {r : gm_R} {p : Nat} (h : p ≠ rIt r) (h2 : gm_sees (rH r) (rPl r (rIt r)) (rPl r p) = false) : decide (rm_tagw r (rIt r) p = 0) = false := by
  unfold rm_tagw gm_tagw
  rw [if_neg (by simp), if_neg (fun q => h q.symm), if_pos h2]
  decide
theorem prey_7 {r : gm_R} {p : Nat} (h : p ≠ rIt r) (h2 : gm_sees (rH r) (rPl r (rIt r)) (rPl r p) = true) (h3 : r 3 < nI (if rPl r (rIt r) < rPl r p then rPl r p - rPl r (rIt r) else rPl r (rIt r) - rPl r p)) : decide (rm_tagw r (rIt r) p = 0) = false := by
  unfold rm_tagw gm_tagw
  rw [ds_comm] at h3
  rw [if_neg (by simp), if_neg (fun q => h q.symm), if_neg (by rw [h2]; decide), if_pos h3]
  decide
theorem prey_0 {r : gm_R} {p : Nat} (h : p ≠ rIt r) (h2 : gm_sees (rH r) (rPl r (rIt r)) (rPl r p) = true) (h3 : ¬ r 3 < nI (if rPl r (rIt r) < rPl r p then rPl r p - rPl r (rIt r) else rPl r (rIt r) - rPl r p)) : decide (rm_tagw r (rIt r) p = 0) = true := by
  unfold rm_tagw gm_tagw
  rw [ds_comm] at h3
  rw [if_neg (by simp), if_neg (fun q => h q.symm), if_neg (by rw [h2]; decide), if_neg h3]
  decide
set_option maxHeartbeats 2000000 in
set_option maxRecDepth 20000 in
theorem L_reasons_ok {d : Nat} {μ : ev_M} {S : gS} (hR : RepC μ S) (hW : WFS S) (hd : 7 ≤ d := by omega) : ev_CALL d 178 [.ref 0] μ (some (.int (bI true)), 0) μ := by
  obtain ⟨d, rfl⟩ : ∃ q, d = q + 1 := ⟨d - 1, by omega⟩
  refine SPp.of (Nat.le_of_ble_eq_true rfl) ?_
  show es (ev_CALL d) 9 cL_reasons (some .boolean) 0 (0, fun _ => 0, []) (fun r μ2 => r = (some (.int (bI true)), 0) ∧ μ2 = μ) 0 [.ref 0, .null, .null, .null, .null, .null, .null] [] μ 0
  obtain ⟨hi1, hi2, hi3, hi5⟩ := wf_n hW.1
  obtain ⟨h4, hon4, hon⟩ := wf_on hW.1
  have hat : ∀ p, rPl S.1 p < 10 := wf_pl hW.1
  have hl8 : ∀ (n9 : Nat) (p : Nat) (j3 j4 j5 j6 : Value), n9 = rP S.1 - p → (p ≤ rP S.1) → es (ev_CALL d) 9 cL_reasons (some .boolean) 0 (0, fun _ => 0, []) (fun r μ2 => r = (some (.int (bI true)), 0) ∧ μ2 = μ) 8 [.ref 0, .int (nI (rP S.1)), .int (nI p), j3, j4, j5, j6] [] μ 0 := by
    intro n9
    induction n9 using Nat.strongRecOn with
    | ind n9 ih8 =>
      intro p j3 j4 j5 j6 hn9 hp
      subst hn9
      have ih := ih8
      refine es_iload_n (pc := 8) dL_reasons_8 rfl ?_
      refine es_iload_n (pc := 9) dL_reasons_9 rfl ?_
      refine es_icmp_geN (pc := 10) 138 dL_reasons_10 (by decide) (by omega) (by omega) (fun c10 => ?_) (fun c10 => ?_)
      · have hl142 : ∀ (n9 : Nat) (prey : Int32) (p : Nat) (j4 j5 j6 : Value), n9 = rP S.1 - p → (p ≤ rP S.1) → (prey = gm_mask (fun k => decide (rm_tagw S.1 (rIt S.1) k = 0)) p) → es (ev_CALL d) 9 cL_reasons (some .boolean) 0 (0, fun _ => 0, []) (fun r μ2 => r = (some (.int (bI true)), 0) ∧ μ2 = μ) 142 [.ref 0, .int (nI (rP S.1)), .int prey, .int (nI p), j4, j5, j6] [] μ 0 := by
          intro n9
          induction n9 using Nat.strongRecOn with
          | ind n9 ih142 =>
            intro prey p j4 j5 j6 hn9 hp hm
            subst hn9
            have ih := ih142
            refine es_iload_n (pc := 142) dL_reasons_142 rfl ?_
            refine es_iload_n (pc := 143) dL_reasons_143 rfl ?_
            refine es_icmp_geN (pc := 144) 221 dL_reasons_144 (by decide) (by omega) (by omega) (fun c144 => ?_) (fun c144 => ?_)
            · refine es_aload_n (pc := 221) dL_reasons_221 rfl ?_
              refine es_cv0_p (pc := 222) dL_reasons_222 mr_9_45 rfl rfl (by decide) (by decide) rfl (Nat.le_of_ble_eq_true rfl) (Nat.zero_le _) (X5_prey_ok hR hW) ?_
              refine es_iload_n (pc := 225) dL_reasons_225 rfl ?_
              refine es_icmp_ne (pc := 226) (tgt := 233) dL_reasons_226 (by decide) (fun c226 => ?_) (fun c226 => ?_)
              · exact absurd (by rw [hm, show p = rP S.1 by omega]; rfl) c226
              · refine es_iconstN (pc := 229) 1 dL_reasons_229 ic_1 ?_
                refine es_goto (pc := 230) (tgt := 234) dL_reasons_230 (by decide) ?_
                refine es_ireturn (pc := 234) dL_reasons_234 rfl (rfl) (by decide) ?_
                exact ⟨rfl, rfl⟩
            · have hit := hi3 (by omega)
              have hq1 := hat (rIt S.1)
              have hq2 := hat p
              refine es_aload_n (pc := 147) dL_reasons_147 rfl ?_
              refine es_iconstN (pc := 148) 2 dL_reasons_148 ic_2 ?_
              refine es_cv1_p (pc := 149) dL_reasons_149 mr_9_24 rfl rfl (by decide) (by decide) rfl (Nat.le_of_ble_eq_true rfl) (Nat.zero_le _) (C_2 hR hW) ?_
              refine es_istore (pc := 152) dL_reasons_152 (ok1_4 rfl) ?_
              refine es_iload_n (pc := 154) dL_reasons_154 rfl ?_
              refine es_iload_n (pc := 155) dL_reasons_155 rfl ?_
              refine es_iload (pc := 156) dL_reasons_156 rfl ?_
              refine es_icmp_eqN (pc := 158) 212 dL_reasons_158 (by decide) (by omega) (by omega) (fun c158 => ?_) (fun c158 => ?_)
              · refine es_iconstN (pc := 212) 0 dL_reasons_212 ic_0 ?_
                refine es_ior (pc := 213) dL_reasons_213 ?_
                refine es_istore_n (pc := 214) dL_reasons_214 (ok1_2 rfl) ?_
                refine es_iincN (pc := 215) 1 dL_reasons_215 ic_1 rfl (ok1_3 rfl) ?_
                refine es_goto (pc := 218) (tgt := 142) dL_reasons_218 (by decide) ?_
                exact ih142 _ (by omega) _ (p + 1) _ _ _ rfl (by omega) (msk_f hm (prey_6 c158))
              · refine es_aload_n (pc := 161) dL_reasons_161 rfl ?_
                refine es_aload_n (pc := 162) dL_reasons_162 rfl ?_
                refine es_iload (pc := 163) dL_reasons_163 rfl ?_
                refine es_iconstN (pc := 165) 0 dL_reasons_165 ic_0 ?_
                refine es_cv2_p (pc := 166) dL_reasons_166 mr_9_31 rfl rfl (by decide) (by decide) rfl (Nat.le_of_ble_eq_true rfl) (Nat.zero_le _) (P_at hR hW (hp := hi3 (by omega))) ?_
                refine es_aload_n (pc := 169) dL_reasons_169 rfl ?_
                refine es_iload_n (pc := 170) dL_reasons_170 rfl ?_
                refine es_iconstN (pc := 171) 0 dL_reasons_171 ic_0 ?_
                refine es_cv2_p (pc := 172) dL_reasons_172 mr_9_31 rfl rfl (by decide) (by decide) rfl (Nat.le_of_ble_eq_true rfl) (Nat.zero_le _) (P_at hR hW) ?_
                refine es_cs3_p (pc := 175) dL_reasons_175 mr_9_27 rfl rfl rfl (Nat.le_of_ble_eq_true rfl) (Nat.zero_le _) (L_sees_ok hR hW (ha := hat _) (hb := hat _)) ?_
                refine es_if_eqB (pc := 178) 212 dL_reasons_178 (by decide) (fun c178 => ?_) (fun c178 => ?_)
                · refine es_iconstN (pc := 212) 0 dL_reasons_212 ic_0 ?_
                  refine es_ior (pc := 213) dL_reasons_213 ?_
                  refine es_istore_n (pc := 214) dL_reasons_214 (ok1_2 rfl) ?_
                  refine es_iincN (pc := 215) 1 dL_reasons_215 ic_1 rfl (ok1_3 rfl) ?_
                  refine es_goto (pc := 218) (tgt := 142) dL_reasons_218 (by decide) ?_
                  exact ih142 _ (by omega) _ (p + 1) _ _ _ rfl (by omega) (msk_f hm (prey_2 c158 c178))
                · refine es_aload_n (pc := 181) dL_reasons_181 rfl ?_
                  refine es_iload (pc := 182) dL_reasons_182 rfl ?_
                  refine es_iconstN (pc := 184) 0 dL_reasons_184 ic_0 ?_
                  refine es_cv2_p (pc := 185) dL_reasons_185 mr_9_31 rfl rfl (by decide) (by decide) rfl (Nat.le_of_ble_eq_true rfl) (Nat.zero_le _) (P_at hR hW (hp := hi3 (by omega))) ?_
                  refine es_aload_n (pc := 188) dL_reasons_188 rfl ?_
                  refine es_iload_n (pc := 189) dL_reasons_189 rfl ?_
                  refine es_iconstN (pc := 190) 0 dL_reasons_190 ic_0 ?_
                  refine es_cv2_p (pc := 191) dL_reasons_191 mr_9_31 rfl rfl (by decide) (by decide) rfl (Nat.le_of_ble_eq_true rfl) (Nat.zero_le _) (P_at hR hW) ?_
                  refine es_isub (pc := 194) dL_reasons_194 ?_
                  refine es_cs1_p (pc := 195) dL_reasons_195 mr_9_19 rfl rfl rfl (Nat.le_of_ble_eq_true rfl) (Nat.zero_le _) (L_size_ok) ?_
                  refine es_top (sz_n (by omega) (by omega)) ?_
                  refine es_aload_n (pc := 198) dL_reasons_198 rfl ?_
                  refine es_iconstN (pc := 199) 3 dL_reasons_199 ic_3 ?_
                  refine es_cv1_p (pc := 200) dL_reasons_200 mr_9_15 rfl rfl (by decide) (by decide) rfl (Nat.le_of_ble_eq_true rfl) (Nat.zero_le _) (G_setting hR hW) ?_
                  refine es_icmp_gt (pc := 203) (tgt := 212) dL_reasons_203 (by decide) (fun c203 => ?_) (fun c203 => ?_)
                  · refine es_iconstN (pc := 212) 0 dL_reasons_212 ic_0 ?_
                    refine es_ior (pc := 213) dL_reasons_213 ?_
                    refine es_istore_n (pc := 214) dL_reasons_214 (ok1_2 rfl) ?_
                    refine es_iincN (pc := 215) 1 dL_reasons_215 ic_1 rfl (ok1_3 rfl) ?_
                    refine es_goto (pc := 218) (tgt := 142) dL_reasons_218 (by decide) ?_
                    exact ih142 _ (by omega) _ (p + 1) _ _ _ rfl (by omega) (msk_f hm (prey_7 c158 c178 c203))
                  · refine es_iconstN (pc := 206) 1 dL_reasons_206 ic_1 ?_
                    refine es_iload_n (pc := 207) dL_reasons_207 rfl ?_
                    refine es_ishl (pc := 208) dL_reasons_208 ?_
                    refine es_goto (pc := 209) (tgt := 213) dL_reasons_209 (by decide) ?_
                    refine es_ior (pc := 213) dL_reasons_213 ?_
                    refine es_istore_n (pc := 214) dL_reasons_214 (ok1_2 rfl) ?_
                    refine es_iincN (pc := 215) 1 dL_reasons_215 ic_1 rfl (ok1_3 rfl) ?_
                    refine es_goto (pc := 218) (tgt := 142) dL_reasons_218 (by decide) ?_
                    exact ih142 _ (by omega) _ (p + 1) _ _ _ rfl (by omega) (msk_t hm (prey_0 c158 c178 c203))
        refine es_iconstN (pc := 138) 0 dL_reasons_138 ic_0 ?_
        refine es_istore_n (pc := 139) dL_reasons_139 (ok1_2 rfl) ?_
        refine es_iconstN (pc := 140) 0 dL_reasons_140 ic_0 ?_
        refine es_istore_n (pc := 141) dL_reasons_141 (ok1_3 rfl) ?_
        exact hl142 _ _ 0 _ _ _ rfl (by omega) rfl
      · have hl26 : ∀ (n9 : Nat) (can : Int32) (t : Nat) (j6 : Value), n9 = 10 - t → (t ≤ 10) → (can = gm_mask (fun t => decide (rm_why S.1 p t = 0)) t) → es (ev_CALL d) 9 cL_reasons (some .boolean) 0 (0, fun _ => 0, []) (fun r μ2 => r = (some (.int (bI true)), 0) ∧ μ2 = μ) 26 [.ref 0, .int (nI (rP S.1)), .int (nI p), .int (nI (rPl S.1 p)), .int can, .int (nI t), j6] [] μ 0 := by
          intro n9
          induction n9 using Nat.strongRecOn with
          | ind n9 ih26 =>
            intro can t j6 hn9 ht hc
            subst hn9
            have ih := ih26
            refine es_iload (pc := 26) dL_reasons_26 rfl ?_
            refine es_bipushN (pc := 28) 10 dL_reasons_28 bp_10 ?_
            refine es_icmp_geN (pc := 30) 118 dL_reasons_30 (by decide) (by omega) (by omega) (fun c30 => ?_) (fun c30 => ?_)
            · refine es_aload_n (pc := 118) dL_reasons_118 rfl ?_
              refine es_iload_n (pc := 119) dL_reasons_119 rfl ?_
              refine es_bipushN (pc := 120) 8 dL_reasons_120 bp_8 ?_
              refine es_cv2_p (pc := 122) dL_reasons_122 mr_9_31 rfl rfl (by decide) (by decide) rfl (Nat.le_of_ble_eq_true rfl) (Nat.zero_le _) (G_playerOf hR hW) ?_
              refine es_iload (pc := 125) dL_reasons_125 rfl ?_
              refine es_icmp_eq (pc := 127) (tgt := 132) dL_reasons_127 (by decide) (fun c127 => ?_) (fun c127 => ?_)
              · refine es_iincN (pc := 132) 1 dL_reasons_132 ic_1 rfl (ok1_2 rfl) ?_
                refine es_goto (pc := 135) (tgt := 8) dL_reasons_135 (by decide) ?_
                exact ih8 _ (by omega) (p + 1) _ _ _ _ rfl (by omega)
              · exact absurd (by rw [hc, show t = 10 by omega]; rfl) c127
            · have hp10 := hat p
              refine es_iload (pc := 33) dL_reasons_33 rfl ?_
              refine es_iload_n (pc := 35) dL_reasons_35 rfl ?_
              refine es_icmp_neN (pc := 36) 43 dL_reasons_36 (by decide) (by omega) (by omega) (fun c36 => ?_) (fun c36 => ?_)
              · refine es_aload_n (pc := 43) dL_reasons_43 rfl ?_
                refine es_iload_n (pc := 44) dL_reasons_44 rfl ?_
                refine es_iload (pc := 45) dL_reasons_45 rfl ?_
                refine es_cs3_p (pc := 47) dL_reasons_47 mr_9_27 rfl rfl rfl (Nat.le_of_ble_eq_true rfl) (Nat.zero_le _) (L_sees_ok hR hW (ha := hat _)) ?_
                refine es_if_neB (pc := 50) 57 dL_reasons_50 (by decide) (fun c50 => ?_) (fun c50 => ?_)
                · refine es_aload_n (pc := 57) dL_reasons_57 rfl ?_
                  refine es_iload_n (pc := 58) dL_reasons_58 rfl ?_
                  refine es_iload (pc := 59) dL_reasons_59 rfl ?_
                  refine es_cs3_p (pc := 61) dL_reasons_61 mr_9_38 rfl rfl rfl (Nat.le_of_ble_eq_true rfl) (Nat.zero_le _) (L_stride_ok hR hW (ha := hat _)) ?_
                  refine es_aload_n (pc := 64) dL_reasons_64 rfl ?_
                  refine es_iload_n (pc := 65) dL_reasons_65 rfl ?_
                  refine es_iconstN (pc := 66) 2 dL_reasons_66 ic_2 ?_
                  refine es_cv2_p (pc := 67) dL_reasons_67 mr_9_31 rfl rfl (by decide) (by decide) rfl (Nat.le_of_ble_eq_true rfl) (Nat.zero_le _) (G_playerOf hR hW) ?_
                  refine es_icmp_le (pc := 70) (tgt := 77) dL_reasons_70 (by decide) (fun c70 => ?_) (fun c70 => ?_)
                  · refine es_iconstN (pc := 77) 0 dL_reasons_77 ic_0 ?_
                    refine es_top (why_0 (fun q => c36 q.symm) c50 c70) ?_
                    refine es_istore (pc := 78) dL_reasons_78 (ok1_6 rfl) ?_
                    refine es_iload (pc := 80) dL_reasons_80 rfl ?_
                    refine es_iload (pc := 82) dL_reasons_82 rfl ?_
                    refine es_if_ne (pc := 84) (tgt := 94) dL_reasons_84 (by decide) (fun c84 => ?_) (fun c84 => ?_)
                    · refine es_iconstN (pc := 94) 0 dL_reasons_94 ic_0 ?_
                      refine es_ior (pc := 95) dL_reasons_95 ?_
                      refine es_istore (pc := 96) dL_reasons_96 (ok1_4 rfl) ?_
                      refine es_aload_n (pc := 98) dL_reasons_98 rfl ?_
                      refine es_iload_n (pc := 99) dL_reasons_99 rfl ?_
                      refine es_iload (pc := 100) dL_reasons_100 rfl ?_
                      refine es_cv2_p (pc := 102) dL_reasons_102 mr_9_42 rfl rfl (by decide) (by decide) rfl (Nat.le_of_ble_eq_true rfl) (Nat.zero_le _) (G_whyNot hR hW) ?_
                      refine es_iload (pc := 105) dL_reasons_105 rfl ?_
                      refine es_icmp_eq (pc := 107) (tgt := 112) dL_reasons_107 (by decide) (fun c107 => ?_) (fun c107 => ?_)
                      · refine es_iincN (pc := 112) 1 dL_reasons_112 ic_1 rfl (ok1_5 rfl) ?_
                        refine es_goto (pc := 115) (tgt := 26) dL_reasons_115 (by decide) ?_
                        exact ih26 _ (by omega) _ (t + 1) _ rfl (by omega) (msk_f hc (decide_eq_false c84))
                      · exact absurd rfl c107
                    · refine es_iconstN (pc := 87) 1 dL_reasons_87 ic_1 ?_
                      refine es_iload (pc := 88) dL_reasons_88 rfl ?_
                      refine es_ishl (pc := 90) dL_reasons_90 ?_
                      refine es_goto (pc := 91) (tgt := 95) dL_reasons_91 (by decide) ?_
                      refine es_ior (pc := 95) dL_reasons_95 ?_
                      refine es_istore (pc := 96) dL_reasons_96 (ok1_4 rfl) ?_
                      refine es_aload_n (pc := 98) dL_reasons_98 rfl ?_
                      refine es_iload_n (pc := 99) dL_reasons_99 rfl ?_
                      refine es_iload (pc := 100) dL_reasons_100 rfl ?_
                      refine es_cv2_p (pc := 102) dL_reasons_102 mr_9_42 rfl rfl (by decide) (by decide) rfl (Nat.le_of_ble_eq_true rfl) (Nat.zero_le _) (G_whyNot hR hW) ?_
                      refine es_iload (pc := 105) dL_reasons_105 rfl ?_
                      refine es_icmp_eq (pc := 107) (tgt := 112) dL_reasons_107 (by decide) (fun c107 => ?_) (fun c107 => ?_)
                      · refine es_iincN (pc := 112) 1 dL_reasons_112 ic_1 rfl (ok1_5 rfl) ?_
                        refine es_goto (pc := 115) (tgt := 26) dL_reasons_115 (by decide) ?_
                        exact ih26 _ (by omega) _ (t + 1) _ rfl (by omega) (msk_t hc (decide_eq_true c84))
                      · exact absurd rfl c107
                  · refine es_iconstN (pc := 73) 3 dL_reasons_73 ic_3 ?_
                    refine es_goto (pc := 74) (tgt := 78) dL_reasons_74 (by decide) ?_
                    refine es_top (why_3 (fun q => c36 q.symm) c50 c70) ?_
                    refine es_istore (pc := 78) dL_reasons_78 (ok1_6 rfl) ?_
                    refine es_iload (pc := 80) dL_reasons_80 rfl ?_
                    refine es_iload (pc := 82) dL_reasons_82 rfl ?_
                    refine es_if_ne (pc := 84) (tgt := 94) dL_reasons_84 (by decide) (fun c84 => ?_) (fun c84 => ?_)
                    · refine es_iconstN (pc := 94) 0 dL_reasons_94 ic_0 ?_
                      refine es_ior (pc := 95) dL_reasons_95 ?_
                      refine es_istore (pc := 96) dL_reasons_96 (ok1_4 rfl) ?_
                      refine es_aload_n (pc := 98) dL_reasons_98 rfl ?_
                      refine es_iload_n (pc := 99) dL_reasons_99 rfl ?_
                      refine es_iload (pc := 100) dL_reasons_100 rfl ?_
                      refine es_cv2_p (pc := 102) dL_reasons_102 mr_9_42 rfl rfl (by decide) (by decide) rfl (Nat.le_of_ble_eq_true rfl) (Nat.zero_le _) (G_whyNot hR hW) ?_
                      refine es_iload (pc := 105) dL_reasons_105 rfl ?_
                      refine es_icmp_eq (pc := 107) (tgt := 112) dL_reasons_107 (by decide) (fun c107 => ?_) (fun c107 => ?_)
                      · refine es_iincN (pc := 112) 1 dL_reasons_112 ic_1 rfl (ok1_5 rfl) ?_
                        refine es_goto (pc := 115) (tgt := 26) dL_reasons_115 (by decide) ?_
                        exact ih26 _ (by omega) _ (t + 1) _ rfl (by omega) (msk_f hc (decide_eq_false c84))
                      · exact absurd rfl c107
                    · refine es_iconstN (pc := 87) 1 dL_reasons_87 ic_1 ?_
                      refine es_iload (pc := 88) dL_reasons_88 rfl ?_
                      refine es_ishl (pc := 90) dL_reasons_90 ?_
                      refine es_goto (pc := 91) (tgt := 95) dL_reasons_91 (by decide) ?_
                      refine es_ior (pc := 95) dL_reasons_95 ?_
                      refine es_istore (pc := 96) dL_reasons_96 (ok1_4 rfl) ?_
                      refine es_aload_n (pc := 98) dL_reasons_98 rfl ?_
                      refine es_iload_n (pc := 99) dL_reasons_99 rfl ?_
                      refine es_iload (pc := 100) dL_reasons_100 rfl ?_
                      refine es_cv2_p (pc := 102) dL_reasons_102 mr_9_42 rfl rfl (by decide) (by decide) rfl (Nat.le_of_ble_eq_true rfl) (Nat.zero_le _) (G_whyNot hR hW) ?_
                      refine es_iload (pc := 105) dL_reasons_105 rfl ?_
                      refine es_icmp_eq (pc := 107) (tgt := 112) dL_reasons_107 (by decide) (fun c107 => ?_) (fun c107 => ?_)
                      · refine es_iincN (pc := 112) 1 dL_reasons_112 ic_1 rfl (ok1_5 rfl) ?_
                        refine es_goto (pc := 115) (tgt := 26) dL_reasons_115 (by decide) ?_
                        exact ih26 _ (by omega) _ (t + 1) _ rfl (by omega) (msk_t hc (decide_eq_true c84))
                      · exact absurd rfl c107
                · refine es_iconstN (pc := 53) 2 dL_reasons_53 ic_2 ?_
                  refine es_goto (pc := 54) (tgt := 78) dL_reasons_54 (by decide) ?_
                  refine es_top (why_2 (fun q => c36 q.symm) c50) ?_
                  refine es_istore (pc := 78) dL_reasons_78 (ok1_6 rfl) ?_
                  refine es_iload (pc := 80) dL_reasons_80 rfl ?_
                  refine es_iload (pc := 82) dL_reasons_82 rfl ?_
                  refine es_if_ne (pc := 84) (tgt := 94) dL_reasons_84 (by decide) (fun c84 => ?_) (fun c84 => ?_)
                  · refine es_iconstN (pc := 94) 0 dL_reasons_94 ic_0 ?_
                    refine es_ior (pc := 95) dL_reasons_95 ?_
                    refine es_istore (pc := 96) dL_reasons_96 (ok1_4 rfl) ?_
                    refine es_aload_n (pc := 98) dL_reasons_98 rfl ?_
                    refine es_iload_n (pc := 99) dL_reasons_99 rfl ?_
                    refine es_iload (pc := 100) dL_reasons_100 rfl ?_
                    refine es_cv2_p (pc := 102) dL_reasons_102 mr_9_42 rfl rfl (by decide) (by decide) rfl (Nat.le_of_ble_eq_true rfl) (Nat.zero_le _) (G_whyNot hR hW) ?_
                    refine es_iload (pc := 105) dL_reasons_105 rfl ?_
                    refine es_icmp_eq (pc := 107) (tgt := 112) dL_reasons_107 (by decide) (fun c107 => ?_) (fun c107 => ?_)
                    · refine es_iincN (pc := 112) 1 dL_reasons_112 ic_1 rfl (ok1_5 rfl) ?_
                      refine es_goto (pc := 115) (tgt := 26) dL_reasons_115 (by decide) ?_
                      exact ih26 _ (by omega) _ (t + 1) _ rfl (by omega) (msk_f hc (decide_eq_false c84))
                    · exact absurd rfl c107
                  · refine es_iconstN (pc := 87) 1 dL_reasons_87 ic_1 ?_
                    refine es_iload (pc := 88) dL_reasons_88 rfl ?_
                    refine es_ishl (pc := 90) dL_reasons_90 ?_
                    refine es_goto (pc := 91) (tgt := 95) dL_reasons_91 (by decide) ?_
                    refine es_ior (pc := 95) dL_reasons_95 ?_
                    refine es_istore (pc := 96) dL_reasons_96 (ok1_4 rfl) ?_
                    refine es_aload_n (pc := 98) dL_reasons_98 rfl ?_
                    refine es_iload_n (pc := 99) dL_reasons_99 rfl ?_
                    refine es_iload (pc := 100) dL_reasons_100 rfl ?_
                    refine es_cv2_p (pc := 102) dL_reasons_102 mr_9_42 rfl rfl (by decide) (by decide) rfl (Nat.le_of_ble_eq_true rfl) (Nat.zero_le _) (G_whyNot hR hW) ?_
                    refine es_iload (pc := 105) dL_reasons_105 rfl ?_
                    refine es_icmp_eq (pc := 107) (tgt := 112) dL_reasons_107 (by decide) (fun c107 => ?_) (fun c107 => ?_)
                    · refine es_iincN (pc := 112) 1 dL_reasons_112 ic_1 rfl (ok1_5 rfl) ?_
                      refine es_goto (pc := 115) (tgt := 26) dL_reasons_115 (by decide) ?_
                      exact ih26 _ (by omega) _ (t + 1) _ rfl (by omega) (msk_t hc (decide_eq_true c84))
                    · exact absurd rfl c107
              · refine es_iconstN (pc := 39) 1 dL_reasons_39 ic_1 ?_
                refine es_goto (pc := 40) (tgt := 78) dL_reasons_40 (by decide) ?_
                refine es_top (why_1 c36.symm) ?_
                refine es_istore (pc := 78) dL_reasons_78 (ok1_6 rfl) ?_
                refine es_iload (pc := 80) dL_reasons_80 rfl ?_
                refine es_iload (pc := 82) dL_reasons_82 rfl ?_
                refine es_if_ne (pc := 84) (tgt := 94) dL_reasons_84 (by decide) (fun c84 => ?_) (fun c84 => ?_)
                · refine es_iconstN (pc := 94) 0 dL_reasons_94 ic_0 ?_
                  refine es_ior (pc := 95) dL_reasons_95 ?_
                  refine es_istore (pc := 96) dL_reasons_96 (ok1_4 rfl) ?_
                  refine es_aload_n (pc := 98) dL_reasons_98 rfl ?_
                  refine es_iload_n (pc := 99) dL_reasons_99 rfl ?_
                  refine es_iload (pc := 100) dL_reasons_100 rfl ?_
                  refine es_cv2_p (pc := 102) dL_reasons_102 mr_9_42 rfl rfl (by decide) (by decide) rfl (Nat.le_of_ble_eq_true rfl) (Nat.zero_le _) (G_whyNot hR hW) ?_
                  refine es_iload (pc := 105) dL_reasons_105 rfl ?_
                  refine es_icmp_eq (pc := 107) (tgt := 112) dL_reasons_107 (by decide) (fun c107 => ?_) (fun c107 => ?_)
                  · refine es_iincN (pc := 112) 1 dL_reasons_112 ic_1 rfl (ok1_5 rfl) ?_
                    refine es_goto (pc := 115) (tgt := 26) dL_reasons_115 (by decide) ?_
                    exact ih26 _ (by omega) _ (t + 1) _ rfl (by omega) (msk_f hc (decide_eq_false c84))
                  · exact absurd rfl c107
                · refine es_iconstN (pc := 87) 1 dL_reasons_87 ic_1 ?_
                  refine es_iload (pc := 88) dL_reasons_88 rfl ?_
                  refine es_ishl (pc := 90) dL_reasons_90 ?_
                  refine es_goto (pc := 91) (tgt := 95) dL_reasons_91 (by decide) ?_
                  refine es_ior (pc := 95) dL_reasons_95 ?_
                  refine es_istore (pc := 96) dL_reasons_96 (ok1_4 rfl) ?_
                  refine es_aload_n (pc := 98) dL_reasons_98 rfl ?_
                  refine es_iload_n (pc := 99) dL_reasons_99 rfl ?_
                  refine es_iload (pc := 100) dL_reasons_100 rfl ?_
                  refine es_cv2_p (pc := 102) dL_reasons_102 mr_9_42 rfl rfl (by decide) (by decide) rfl (Nat.le_of_ble_eq_true rfl) (Nat.zero_le _) (G_whyNot hR hW) ?_
                  refine es_iload (pc := 105) dL_reasons_105 rfl ?_
                  refine es_icmp_eq (pc := 107) (tgt := 112) dL_reasons_107 (by decide) (fun c107 => ?_) (fun c107 => ?_)
                  · refine es_iincN (pc := 112) 1 dL_reasons_112 ic_1 rfl (ok1_5 rfl) ?_
                    refine es_goto (pc := 115) (tgt := 26) dL_reasons_115 (by decide) ?_
                    exact ih26 _ (by omega) _ (t + 1) _ rfl (by omega) (msk_t hc (decide_eq_true c84))
                  · exact absurd rfl c107
        refine es_aload_n (pc := 13) dL_reasons_13 rfl ?_
        refine es_iload_n (pc := 14) dL_reasons_14 rfl ?_
        refine es_iconstN (pc := 15) 0 dL_reasons_15 ic_0 ?_
        refine es_cv2_p (pc := 16) dL_reasons_16 mr_9_31 rfl rfl (by decide) (by decide) rfl (Nat.le_of_ble_eq_true rfl) (Nat.zero_le _) (P_at hR hW) ?_
        refine es_istore_n (pc := 19) dL_reasons_19 (ok1_3 rfl) ?_
        refine es_iconstN (pc := 20) 0 dL_reasons_20 ic_0 ?_
        refine es_istore (pc := 21) dL_reasons_21 (ok1_4 rfl) ?_
        refine es_iconstN (pc := 23) 0 dL_reasons_23 ic_0 ?_
        refine es_istore (pc := 24) dL_reasons_24 (ok1_5 rfl) ?_
        exact hl26 _ _ 0 _ rfl (by omega) rfl
  refine es_aload_n (pc := 0) dL_reasons_0 rfl ?_
  refine es_iconstN (pc := 1) 0 dL_reasons_1 ic_0 ?_
  refine es_cv1_p (pc := 2) dL_reasons_2 mr_9_24 rfl rfl (by decide) (by decide) rfl (Nat.le_of_ble_eq_true rfl) (Nat.zero_le _) (C_0 hR hW) ?_
  refine es_istore_n (pc := 5) dL_reasons_5 (ok1_1 rfl) ?_
  refine es_iconstN (pc := 6) 0 dL_reasons_6 ic_0 ?_
  refine es_istore_n (pc := 7) dL_reasons_7 (ok1_2 rfl) ?_
  exact hl8 _ 0 _ _ _ _ rfl (by omega)
