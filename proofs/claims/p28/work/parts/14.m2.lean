theorem gm_fwk_le (f : Nat → Int32) : ∀ n k s, gm_fwk f k s n ≤ k + n
  | 0, k, s => Nat.le_refl _
  | n + 1, k, s => by
    unfold gm_fwk
    split
    · omega
    · have := gm_fwk_le f n (k + 1) (gm_dn s (f k)); omega
theorem gm_fw_le (f : Nat → Int32) (n : Nat) : gm_fw f n ≤ n := by have := gm_fwk_le f n 0 0; unfold gm_fw; omega
def gm_o2 (n ol : Nat) : Nat := if n = 6 then (ol + 1) % 6 else ol
def gm_n2 (n : Nat) : Nat := if n = 6 then 5 else n
set_option maxHeartbeats 2000000 in
set_option maxRecDepth 20000 in
theorem X1_save_ok {d : Nat} {μ : ev_M} {n ol : Nat} (hh : μ 3 2 = nI n) (ho : μ 3 1 = nI ol) (hn : n ≤ 6 := by omega) (ho6 : ol < 6 := by omega) (hd : 2 ≤ d := by omega) : SPv (ev_CALL d) 44 [.ref 3, .ref 44] μ (fun μ2 => μ2 3 1 = nI (gm_o2 n ol) ∧ μ2 3 2 = nI (gm_n2 n + 1) ∧ gR μ2 (77 + 11 * ((gm_o2 n ol + gm_n2 n) % 6)) = gR μ 44 ∧ ∀ k, k ≠ 3 → (k < 77 + 11 * ((gm_o2 n ol + gm_n2 n) % 6) ∨ 77 + 11 * ((gm_o2 n ol + gm_n2 n) % 6) + 11 ≤ k) → μ2 k = μ k) := by
  obtain ⟨d, rfl⟩ : ∃ q, d = q + 1 := ⟨d - 1, by omega⟩
  refine SPv.of (Nat.le_of_ble_eq_true rfl) ?_
  show es (ev_CALL d) 1 cX1_save none 0 (0, fun _ => 0, []) (fun r μ2 => r = (none, 0) ∧ (fun μ2 => μ2 3 1 = nI (gm_o2 n ol) ∧ μ2 3 2 = nI (gm_n2 n + 1) ∧ gR μ2 (77 + 11 * ((gm_o2 n ol + gm_n2 n) % 6)) = gR μ 44 ∧ ∀ k, k ≠ 3 → (k < 77 + 11 * ((gm_o2 n ol + gm_n2 n) % 6) ∨ 77 + 11 * ((gm_o2 n ol + gm_n2 n) % 6) + 11 ≤ k) → μ2 k = μ k) μ2) 0 [.ref 3, .ref 44] [] μ 0
  have hl32 : ∀ (ν : ev_M), (ν 3 1 = nI (gm_o2 n ol)) → (ν 3 2 = nI (gm_n2 n)) → (∀ k, k ≠ 3 → ν k = μ k) → es (ev_CALL d) 1 cX1_save none 0 (0, fun _ => 0, []) (fun r μ2 => r = (none, 0) ∧ (fun μ2 => μ2 3 1 = nI (gm_o2 n ol) ∧ μ2 3 2 = nI (gm_n2 n + 1) ∧ gR μ2 (77 + 11 * ((gm_o2 n ol + gm_n2 n) % 6)) = gR μ 44 ∧ ∀ k, k ≠ 3 → (k < 77 + 11 * ((gm_o2 n ol + gm_n2 n) % 6) ∨ 77 + 11 * ((gm_o2 n ol + gm_n2 n) % 6) + 11 ≤ k) → μ2 k = μ k) μ2) 32 [.ref 3, .ref 44] [] ν 0 := by
    intro ν h1 h2 h3
    have ho2 : gm_o2 n ol < 6 := by unfold gm_o2; split <;> omega
    have hn2 : gm_n2 n ≤ 5 := by unfold gm_n2; split <;> omega
    refine es_aload_n (pc := 32) dX1_save_32 rfl ?_
    refine es_getR (pc := 33) dX1_save_33 fr_1_11 fld_3_0 ?_
    refine es_aload_n (pc := 36) dX1_save_36 rfl ?_
    refine es_getI (pc := 37) dX1_save_37 fr_1_15 fld_3_1 ?_
    refine es_top h1 ?_
    refine es_aload_n (pc := 40) dX1_save_40 rfl ?_
    refine es_getI (pc := 41) dX1_save_41 fr_1_19 fld_3_2 ?_
    refine es_top h2 ?_
    refine es_iaddN (pc := 44) dX1_save_44 ?_
    refine es_bipushN (pc := 45) 6 dX1_save_45 bp_6 ?_
    refine es_iremN (pc := 47) dX1_save_47 (by omega) (by omega) (by omega) ?_
    generalize hi9 : (gm_o2 n ol + gm_n2 n) % 6 = i9
    rcases (show i9 = 0 ∨ i9 = 1 ∨ i9 = 2 ∨ i9 = 3 ∨ i9 = 4 ∨ i9 = 5 by omega) with rfl | rfl | rfl | rfl | rfl | rfl
    · skip
      refine es_aald (pc := 48) dX1_save_48 lay_4 (by omega) (rfl) ?_
      refine es_aload_n (pc := 49) dX1_save_49 rfl ?_
      refine es_cv1_v (pc := 50) dX1_save_50 mr_1_23 rfl rfl (by decide) (by decide) rfl (Nat.le_of_ble_eq_true rfl) (Nat.zero_le _) (X0_become_77_44) (fun μ50 h50 => ?_)
      obtain ⟨g1, g2⟩ := h50
      have hh3 : μ50 3 2 = nI (gm_n2 n) := by rw [g2 3 (by omega)]; exact h2
      refine es_aload_n (pc := 53) dX1_save_53 rfl ?_
      refine es_dup (pc := 54) dX1_save_54 rfl ?_
      refine es_getI (pc := 55) dX1_save_55 fr_1_19 fld_3_2 ?_
      refine es_top hh3 ?_
      refine es_iconstN (pc := 58) 1 dX1_save_58 ic_1 ?_
      refine es_iaddN (pc := 59) dX1_save_59 ?_
      refine es_putI (pc := 60) dX1_save_60 fr_1_19 fld_3_2 ?_
      refine es_vreturn (pc := 63) dX1_save_63 rfl (by decide) ?_
      refine ⟨rfl, ?_, ?_, ?_, ?_⟩
      · simp only [ms_full]; simp; rw [g2 3 (by omega)]; exact h1
      · simp [ms_full]
      · rw [gR_wo (by omega), g1]
        funext j
        simp only [gR]
        rw [h3 44 (by decide), h3 (44 + 1) (by decide), h3 (44 + 2) (by decide), h3 (44 + 3) (by decide), h3 _ (by omega)]
      · intro k hk hk2
        rw [ms_ne hk, g2 k (by omega), h3 k hk]
    · skip
      refine es_aald (pc := 48) dX1_save_48 lay_4 (by omega) (rfl) ?_
      refine es_aload_n (pc := 49) dX1_save_49 rfl ?_
      refine es_cv1_v (pc := 50) dX1_save_50 mr_1_23 rfl rfl (by decide) (by decide) rfl (Nat.le_of_ble_eq_true rfl) (Nat.zero_le _) (X0_become_88_44) (fun μ50 h50 => ?_)
      obtain ⟨g1, g2⟩ := h50
      have hh3 : μ50 3 2 = nI (gm_n2 n) := by rw [g2 3 (by omega)]; exact h2
      refine es_aload_n (pc := 53) dX1_save_53 rfl ?_
      refine es_dup (pc := 54) dX1_save_54 rfl ?_
      refine es_getI (pc := 55) dX1_save_55 fr_1_19 fld_3_2 ?_
      refine es_top hh3 ?_
      refine es_iconstN (pc := 58) 1 dX1_save_58 ic_1 ?_
      refine es_iaddN (pc := 59) dX1_save_59 ?_
      refine es_putI (pc := 60) dX1_save_60 fr_1_19 fld_3_2 ?_
      refine es_vreturn (pc := 63) dX1_save_63 rfl (by decide) ?_
      refine ⟨rfl, ?_, ?_, ?_, ?_⟩
      · simp only [ms_full]; simp; rw [g2 3 (by omega)]; exact h1
      · simp [ms_full]
      · rw [gR_wo (by omega), g1]
        funext j
        simp only [gR]
        rw [h3 44 (by decide), h3 (44 + 1) (by decide), h3 (44 + 2) (by decide), h3 (44 + 3) (by decide), h3 _ (by omega)]
      · intro k hk hk2
        rw [ms_ne hk, g2 k (by omega), h3 k hk]
    · skip
      refine es_aald (pc := 48) dX1_save_48 lay_4 (by omega) (rfl) ?_
      refine es_aload_n (pc := 49) dX1_save_49 rfl ?_
      refine es_cv1_v (pc := 50) dX1_save_50 mr_1_23 rfl rfl (by decide) (by decide) rfl (Nat.le_of_ble_eq_true rfl) (Nat.zero_le _) (X0_become_99_44) (fun μ50 h50 => ?_)
      obtain ⟨g1, g2⟩ := h50
      have hh3 : μ50 3 2 = nI (gm_n2 n) := by rw [g2 3 (by omega)]; exact h2
      refine es_aload_n (pc := 53) dX1_save_53 rfl ?_
      refine es_dup (pc := 54) dX1_save_54 rfl ?_
      refine es_getI (pc := 55) dX1_save_55 fr_1_19 fld_3_2 ?_
      refine es_top hh3 ?_
      refine es_iconstN (pc := 58) 1 dX1_save_58 ic_1 ?_
      refine es_iaddN (pc := 59) dX1_save_59 ?_
      refine es_putI (pc := 60) dX1_save_60 fr_1_19 fld_3_2 ?_
      refine es_vreturn (pc := 63) dX1_save_63 rfl (by decide) ?_
      refine ⟨rfl, ?_, ?_, ?_, ?_⟩
      · simp only [ms_full]; simp; rw [g2 3 (by omega)]; exact h1
      · simp [ms_full]
      · rw [gR_wo (by omega), g1]
        funext j
        simp only [gR]
        rw [h3 44 (by decide), h3 (44 + 1) (by decide), h3 (44 + 2) (by decide), h3 (44 + 3) (by decide), h3 _ (by omega)]
      · intro k hk hk2
        rw [ms_ne hk, g2 k (by omega), h3 k hk]
    · skip
      refine es_aald (pc := 48) dX1_save_48 lay_4 (by omega) (rfl) ?_
      refine es_aload_n (pc := 49) dX1_save_49 rfl ?_
      refine es_cv1_v (pc := 50) dX1_save_50 mr_1_23 rfl rfl (by decide) (by decide) rfl (Nat.le_of_ble_eq_true rfl) (Nat.zero_le _) (X0_become_110_44) (fun μ50 h50 => ?_)
      obtain ⟨g1, g2⟩ := h50
      have hh3 : μ50 3 2 = nI (gm_n2 n) := by rw [g2 3 (by omega)]; exact h2
      refine es_aload_n (pc := 53) dX1_save_53 rfl ?_
      refine es_dup (pc := 54) dX1_save_54 rfl ?_
      refine es_getI (pc := 55) dX1_save_55 fr_1_19 fld_3_2 ?_
      refine es_top hh3 ?_
      refine es_iconstN (pc := 58) 1 dX1_save_58 ic_1 ?_
      refine es_iaddN (pc := 59) dX1_save_59 ?_
      refine es_putI (pc := 60) dX1_save_60 fr_1_19 fld_3_2 ?_
      refine es_vreturn (pc := 63) dX1_save_63 rfl (by decide) ?_
      refine ⟨rfl, ?_, ?_, ?_, ?_⟩
      · simp only [ms_full]; simp; rw [g2 3 (by omega)]; exact h1
      · simp [ms_full]
      · rw [gR_wo (by omega), g1]
        funext j
        simp only [gR]
        rw [h3 44 (by decide), h3 (44 + 1) (by decide), h3 (44 + 2) (by decide), h3 (44 + 3) (by decide), h3 _ (by omega)]
      · intro k hk hk2
        rw [ms_ne hk, g2 k (by omega), h3 k hk]
    · skip
      refine es_aald (pc := 48) dX1_save_48 lay_4 (by omega) (rfl) ?_
      refine es_aload_n (pc := 49) dX1_save_49 rfl ?_
      refine es_cv1_v (pc := 50) dX1_save_50 mr_1_23 rfl rfl (by decide) (by decide) rfl (Nat.le_of_ble_eq_true rfl) (Nat.zero_le _) (X0_become_121_44) (fun μ50 h50 => ?_)
      obtain ⟨g1, g2⟩ := h50
      have hh3 : μ50 3 2 = nI (gm_n2 n) := by rw [g2 3 (by omega)]; exact h2
      refine es_aload_n (pc := 53) dX1_save_53 rfl ?_
      refine es_dup (pc := 54) dX1_save_54 rfl ?_
      refine es_getI (pc := 55) dX1_save_55 fr_1_19 fld_3_2 ?_
      refine es_top hh3 ?_
      refine es_iconstN (pc := 58) 1 dX1_save_58 ic_1 ?_
      refine es_iaddN (pc := 59) dX1_save_59 ?_
      refine es_putI (pc := 60) dX1_save_60 fr_1_19 fld_3_2 ?_
      refine es_vreturn (pc := 63) dX1_save_63 rfl (by decide) ?_
      refine ⟨rfl, ?_, ?_, ?_, ?_⟩
      · simp only [ms_full]; simp; rw [g2 3 (by omega)]; exact h1
      · simp [ms_full]
      · rw [gR_wo (by omega), g1]
        funext j
        simp only [gR]
        rw [h3 44 (by decide), h3 (44 + 1) (by decide), h3 (44 + 2) (by decide), h3 (44 + 3) (by decide), h3 _ (by omega)]
      · intro k hk hk2
        rw [ms_ne hk, g2 k (by omega), h3 k hk]
    · skip
      refine es_aald (pc := 48) dX1_save_48 lay_4 (by omega) (rfl) ?_
      refine es_aload_n (pc := 49) dX1_save_49 rfl ?_
      refine es_cv1_v (pc := 50) dX1_save_50 mr_1_23 rfl rfl (by decide) (by decide) rfl (Nat.le_of_ble_eq_true rfl) (Nat.zero_le _) (X0_become_132_44) (fun μ50 h50 => ?_)
      obtain ⟨g1, g2⟩ := h50
      have hh3 : μ50 3 2 = nI (gm_n2 n) := by rw [g2 3 (by omega)]; exact h2
      refine es_aload_n (pc := 53) dX1_save_53 rfl ?_
      refine es_dup (pc := 54) dX1_save_54 rfl ?_
      refine es_getI (pc := 55) dX1_save_55 fr_1_19 fld_3_2 ?_
      refine es_top hh3 ?_
      refine es_iconstN (pc := 58) 1 dX1_save_58 ic_1 ?_
      refine es_iaddN (pc := 59) dX1_save_59 ?_
      refine es_putI (pc := 60) dX1_save_60 fr_1_19 fld_3_2 ?_
      refine es_vreturn (pc := 63) dX1_save_63 rfl (by decide) ?_
      refine ⟨rfl, ?_, ?_, ?_, ?_⟩
      · simp only [ms_full]; simp; rw [g2 3 (by omega)]; exact h1
      · simp [ms_full]
      · rw [gR_wo (by omega), g1]
        funext j
        simp only [gR]
        rw [h3 44 (by decide), h3 (44 + 1) (by decide), h3 (44 + 2) (by decide), h3 (44 + 3) (by decide), h3 _ (by omega)]
      · intro k hk hk2
        rw [ms_ne hk, g2 k (by omega), h3 k hk]
  refine es_aload_n (pc := 0) dX1_save_0 rfl ?_
  refine es_getI (pc := 1) dX1_save_1 fr_1_19 fld_3_2 ?_
  refine es_top hh ?_
  refine es_bipushN (pc := 4) 6 dX1_save_4 bp_6 ?_
  refine es_icmp_neN (pc := 6) 32 dX1_save_6 (by decide) (by omega) (by omega) (fun c6 => ?_) (fun c6 => ?_)
  · have e1 : gm_o2 n ol = ol := by rw [gm_o2, if_neg c6]
    have e2 : gm_n2 n = n := by rw [gm_n2, if_neg c6]
    exact hl32 _ (by rw [e1, ho]) (by rw [e2, hh]) (fun _ _ => rfl)
  · have e1 : gm_o2 n ol = (ol + 1) % 6 := by rw [gm_o2, if_pos c6]
    have e2 : gm_n2 n = 5 := by rw [gm_n2, if_pos c6]
    refine es_aload_n (pc := 9) dX1_save_9 rfl ?_
    refine es_aload_n (pc := 10) dX1_save_10 rfl ?_
    refine es_getI (pc := 11) dX1_save_11 fr_1_15 fld_3_1 ?_
    refine es_top ho ?_
    refine es_iconstN (pc := 14) 1 dX1_save_14 ic_1 ?_
    refine es_iaddN (pc := 15) dX1_save_15 ?_
    refine es_bipushN (pc := 16) 6 dX1_save_16 bp_6 ?_
    refine es_iremN (pc := 18) dX1_save_18 (by omega) (by omega) (by omega) ?_
    refine es_putI (pc := 19) dX1_save_19 fr_1_15 fld_3_1 ?_
    refine es_aload_n (pc := 22) dX1_save_22 rfl ?_
    refine es_dup (pc := 23) dX1_save_23 rfl ?_
    refine es_getI (pc := 24) dX1_save_24 fr_1_19 fld_3_2 ?_
    refine es_top hh ?_
    refine es_iconstN (pc := 27) 1 dX1_save_27 ic_1 ?_
    refine es_isubN (pc := 28) dX1_save_28 (by omega) ?_
    refine es_putI (pc := 29) dX1_save_29 fr_1_19 fld_3_2 ?_
    exact hl32 _ (by rw [e1]; simp [ms_full]) (by rw [e2]; simp [ms_full, c6]) (fun k hk => by rw [ms_ne hk, ms_ne hk])
