set_option maxHeartbeats 2000000 in
set_option maxRecDepth 20000 in
theorem X0_become_44_66 {d : Nat} {μ : ev_M}  (hd : 1 ≤ d := by omega) : SPv (ev_CALL d) 45 [.ref 44, .ref 66] μ (fun μ2 => gR μ2 44 = gR μ 66 ∧ gm_Fr 44 μ μ2) := by
  obtain ⟨d, rfl⟩ : ∃ q, d = q + 1 := ⟨d - 1, by omega⟩
  refine SPv.of (Nat.le_of_ble_eq_true rfl) ?_
  show es (ev_CALL d) 0 cX0_become none 0 (0, fun _ => 0, []) (fun r μ2 => r = (none, 0) ∧ (fun μ2 => gR μ2 44 = gR μ 66 ∧ gm_Fr 44 μ μ2) μ2) 0 [.ref 44, .ref 66] [] μ 0
  refine es_aload_n (pc := 0) dX0_become_0 rfl ?_
  refine es_getR (pc := 1) dX0_become_1 fr_0_9 fld_66_0 ?_
  refine es_iconstN (pc := 4) 0 dX0_become_4 ic_0 ?_
  refine es_aload_n (pc := 5) dX0_become_5 rfl ?_
  refine es_getR (pc := 6) dX0_become_6 fr_0_9 fld_44_0 ?_
  refine es_iconstN (pc := 9) 0 dX0_become_9 ic_0 ?_
  refine es_bipushN (pc := 10) 10 dX0_become_10 bp_10 ?_
  refine es_copy (pc := 12) dX0_become_12 (by decide +kernel) lay_67 lay_45 (by omega) (by omega) (Nat.le_of_ble_eq_true rfl) ?_
  refine es_aload_n (pc := 15) dX0_become_15 rfl ?_
  refine es_getR (pc := 16) dX0_become_16 fr_0_15 fld_66_1 ?_
  refine es_iconstN (pc := 19) 0 dX0_become_19 ic_0 ?_
  refine es_aload_n (pc := 20) dX0_become_20 rfl ?_
  refine es_getR (pc := 21) dX0_become_21 fr_0_15 fld_44_1 ?_
  refine es_iconstN (pc := 24) 0 dX0_become_24 ic_0 ?_
  refine es_bipushN (pc := 25) 10 dX0_become_25 bp_10 ?_
  refine es_copy (pc := 27) dX0_become_27 (by decide +kernel) lay_68 lay_46 (by omega) (by omega) (Nat.le_of_ble_eq_true rfl) ?_
  refine es_aload_n (pc := 30) dX0_become_30 rfl ?_
  refine es_getR (pc := 31) dX0_become_31 fr_0_18 fld_66_2 ?_
  refine es_iconstN (pc := 34) 0 dX0_become_34 ic_0 ?_
  refine es_aload_n (pc := 35) dX0_become_35 rfl ?_
  refine es_getR (pc := 36) dX0_become_36 fr_0_18 fld_44_2 ?_
  refine es_iconstN (pc := 39) 0 dX0_become_39 ic_0 ?_
  refine es_iconstN (pc := 40) 4 dX0_become_40 ic_4 ?_
  refine es_copy (pc := 41) dX0_become_41 (by decide +kernel) lay_69 lay_47 (by omega) (by omega) (Nat.le_of_ble_eq_true rfl) ?_
  refine es_aload_n (pc := 44) dX0_become_44 rfl ?_
  refine es_getR (pc := 45) dX0_become_45 fr_0_21 fld_66_3 ?_
  refine es_iconstN (pc := 48) 0 dX0_become_48 ic_0 ?_
  refine es_aload_n (pc := 49) dX0_become_49 rfl ?_
  refine es_getR (pc := 50) dX0_become_50 fr_0_21 fld_44_3 ?_
  refine es_iconstN (pc := 53) 0 dX0_become_53 ic_0 ?_
  refine es_iconstN (pc := 54) 4 dX0_become_54 ic_4 ?_
  refine es_copy (pc := 55) dX0_become_55 (by decide +kernel) lay_70 lay_48 (by omega) (by omega) (Nat.le_of_ble_eq_true rfl) ?_
  refine es_aload_n (pc := 58) dX0_become_58 rfl ?_
  refine es_getR (pc := 59) dX0_become_59 fr_0_24 fld_66_4 ?_
  refine es_iconstN (pc := 62) 0 dX0_become_62 ic_0 ?_
  refine es_aload_n (pc := 63) dX0_become_63 rfl ?_
  refine es_getR (pc := 64) dX0_become_64 fr_0_24 fld_44_4 ?_
  refine es_iconstN (pc := 67) 0 dX0_become_67 ic_0 ?_
  refine es_iconstN (pc := 68) 4 dX0_become_68 ic_4 ?_
  refine es_copy (pc := 69) dX0_become_69 (by decide +kernel) lay_71 lay_49 (by omega) (by omega) (Nat.le_of_ble_eq_true rfl) ?_
  refine es_aload_n (pc := 72) dX0_become_72 rfl ?_
  refine es_getR (pc := 73) dX0_become_73 fr_0_27 fld_66_5 ?_
  refine es_iconstN (pc := 76) 0 dX0_become_76 ic_0 ?_
  refine es_aload_n (pc := 77) dX0_become_77 rfl ?_
  refine es_getR (pc := 78) dX0_become_78 fr_0_27 fld_44_5 ?_
  refine es_iconstN (pc := 81) 0 dX0_become_81 ic_0 ?_
  refine es_iconstN (pc := 82) 4 dX0_become_82 ic_4 ?_
  refine es_copy (pc := 83) dX0_become_83 (by decide +kernel) lay_72 lay_50 (by omega) (by omega) (Nat.le_of_ble_eq_true rfl) ?_
  refine es_aload_n (pc := 86) dX0_become_86 rfl ?_
  refine es_getR (pc := 87) dX0_become_87 fr_0_30 fld_66_6 ?_
  refine es_iconstN (pc := 90) 0 dX0_become_90 ic_0 ?_
  refine es_aload_n (pc := 91) dX0_become_91 rfl ?_
  refine es_getR (pc := 92) dX0_become_92 fr_0_30 fld_44_6 ?_
  refine es_iconstN (pc := 95) 0 dX0_become_95 ic_0 ?_
  refine es_iconstN (pc := 96) 4 dX0_become_96 ic_4 ?_
  refine es_copy (pc := 97) dX0_become_97 (by decide +kernel) lay_73 lay_51 (by omega) (by omega) (Nat.le_of_ble_eq_true rfl) ?_
  refine es_aload_n (pc := 100) dX0_become_100 rfl ?_
  refine es_getR (pc := 101) dX0_become_101 fr_0_33 fld_66_7 ?_
  refine es_iconstN (pc := 104) 0 dX0_become_104 ic_0 ?_
  refine es_aload_n (pc := 105) dX0_become_105 rfl ?_
  refine es_getR (pc := 106) dX0_become_106 fr_0_33 fld_44_7 ?_
  refine es_iconstN (pc := 109) 0 dX0_become_109 ic_0 ?_
  refine es_iconstN (pc := 110) 4 dX0_become_110 ic_4 ?_
  refine es_copy (pc := 111) dX0_become_111 (by decide +kernel) lay_74 lay_52 (by omega) (by omega) (Nat.le_of_ble_eq_true rfl) ?_
  refine es_aload_n (pc := 114) dX0_become_114 rfl ?_
  refine es_getR (pc := 115) dX0_become_115 fr_0_36 fld_66_8 ?_
  refine es_iconstN (pc := 118) 0 dX0_become_118 ic_0 ?_
  refine es_aload_n (pc := 119) dX0_become_119 rfl ?_
  refine es_getR (pc := 120) dX0_become_120 fr_0_36 fld_44_8 ?_
  refine es_iconstN (pc := 123) 0 dX0_become_123 ic_0 ?_
  refine es_iconstN (pc := 124) 4 dX0_become_124 ic_4 ?_
  refine es_copy (pc := 125) dX0_become_125 (by decide +kernel) lay_75 lay_53 (by omega) (by omega) (Nat.le_of_ble_eq_true rfl) ?_
  refine es_aload_n (pc := 128) dX0_become_128 rfl ?_
  refine es_getR (pc := 129) dX0_become_129 fr_0_39 fld_66_9 ?_
  refine es_iconstN (pc := 132) 0 dX0_become_132 ic_0 ?_
  refine es_aload_n (pc := 133) dX0_become_133 rfl ?_
  refine es_getR (pc := 134) dX0_become_134 fr_0_39 fld_44_9 ?_
  refine es_iconstN (pc := 137) 0 dX0_become_137 ic_0 ?_
  refine es_iconstN (pc := 138) 4 dX0_become_138 ic_4 ?_
  refine es_copy (pc := 139) dX0_become_139 (by decide +kernel) lay_76 lay_54 (by omega) (by omega) (Nat.le_of_ble_eq_true rfl) ?_
  refine es_aload_n (pc := 142) dX0_become_142 rfl ?_
  refine es_aload_n (pc := 143) dX0_become_143 rfl ?_
  refine es_getI (pc := 144) dX0_become_144 fr_0_42 fld_66_10 ?_
  refine es_putI (pc := 147) dX0_become_147 fr_0_42 fld_44_10 ?_
  refine es_aload_n (pc := 150) dX0_become_150 rfl ?_
  refine es_aload_n (pc := 151) dX0_become_151 rfl ?_
  refine es_getI (pc := 152) dX0_become_152 fr_0_46 fld_66_11 ?_
  refine es_putI (pc := 155) dX0_become_155 fr_0_46 fld_44_11 ?_
  refine es_aload_n (pc := 158) dX0_become_158 rfl ?_
  refine es_aload_n (pc := 159) dX0_become_159 rfl ?_
  refine es_getI (pc := 160) dX0_become_160 fr_0_49 fld_66_12 ?_
  refine es_putI (pc := 163) dX0_become_163 fr_0_49 fld_44_12 ?_
  refine es_aload_n (pc := 166) dX0_become_166 rfl ?_
  refine es_aload_n (pc := 167) dX0_become_167 rfl ?_
  refine es_getI (pc := 168) dX0_become_168 fr_0_52 fld_66_13 ?_
  refine es_putI (pc := 171) dX0_become_171 fr_0_52 fld_44_13 ?_
  refine es_aload_n (pc := 174) dX0_become_174 rfl ?_
  refine es_aload_n (pc := 175) dX0_become_175 rfl ?_
  refine es_getI (pc := 176) dX0_become_176 fr_0_55 fld_66_14 ?_
  refine es_putI (pc := 179) dX0_become_179 fr_0_55 fld_44_14 ?_
  refine es_aload_n (pc := 182) dX0_become_182 rfl ?_
  refine es_aload_n (pc := 183) dX0_become_183 rfl ?_
  refine es_getI (pc := 184) dX0_become_184 fr_0_58 fld_66_15 ?_
  refine es_putI (pc := 187) dX0_become_187 fr_0_58 fld_44_15 ?_
  refine es_aload_n (pc := 190) dX0_become_190 rfl ?_
  refine es_aload_n (pc := 191) dX0_become_191 rfl ?_
  refine es_getI (pc := 192) dX0_become_192 fr_0_61 fld_66_16 ?_
  refine es_putI (pc := 195) dX0_become_195 fr_0_61 fld_44_16 ?_
  refine es_vreturn (pc := 198) dX0_become_198 rfl (by decide) ?_
  refine ⟨rfl, ?_, ?_⟩
  · funext j
    simp only [gR]
    by_cases h59 : j < 59
    · rw [if_pos h59, if_pos h59]
      simp only [ms_full, cp_full]
      by_cases h1 : j < 4
      · simp [h1]
      · by_cases h2 : j < 11
        · simp [h1, h2]
          rcases (show j = 4 ∨ j = 5 ∨ j = 6 ∨ j = 7 ∨ j = 8 ∨ j = 9 ∨ j = 10 by omega) with rfl | rfl | rfl | rfl | rfl | rfl | rfl <;> simp
        · by_cases h3 : j < 21
          · simp [h1, h2, h3]; omega
          · by_cases h4 : j < 31
            · simp [h1, h2, h3, h4]; omega
            · have h5 : (j - 31) / 7 < 4 := by omega
              rcases (show (j - 31) % 7 = 0 ∨ (j - 31) % 7 = 1 ∨ (j - 31) % 7 = 2 ∨ (j - 31) % 7 = 3 ∨ (j - 31) % 7 = 4 ∨ (j - 31) % 7 = 5 ∨ (j - 31) % 7 = 6 by omega) with q | q | q | q | q | q | q <;> simp [h1, h2, h3, h4, h5, q]
    · rw [if_neg h59, if_neg h59]
  · intro q hq
    repeat (first | rfl | rw [ms_ne (by omega)] | rw [cp_ne (by omega)])
set_option maxHeartbeats 2000000 in
set_option maxRecDepth 20000 in
theorem X0_become_66_44 {d : Nat} {μ : ev_M}  (hd : 1 ≤ d := by omega) : SPv (ev_CALL d) 45 [.ref 66, .ref 44] μ (fun μ2 => gR μ2 66 = gR μ 44 ∧ gm_Fr 66 μ μ2) := by
  obtain ⟨d, rfl⟩ : ∃ q, d = q + 1 := ⟨d - 1, by omega⟩
  refine SPv.of (Nat.le_of_ble_eq_true rfl) ?_
  show es (ev_CALL d) 0 cX0_become none 0 (0, fun _ => 0, []) (fun r μ2 => r = (none, 0) ∧ (fun μ2 => gR μ2 66 = gR μ 44 ∧ gm_Fr 66 μ μ2) μ2) 0 [.ref 66, .ref 44] [] μ 0
  refine es_aload_n (pc := 0) dX0_become_0 rfl ?_
  refine es_getR (pc := 1) dX0_become_1 fr_0_9 fld_44_0 ?_
  refine es_iconstN (pc := 4) 0 dX0_become_4 ic_0 ?_
  refine es_aload_n (pc := 5) dX0_become_5 rfl ?_
  refine es_getR (pc := 6) dX0_become_6 fr_0_9 fld_66_0 ?_
  refine es_iconstN (pc := 9) 0 dX0_become_9 ic_0 ?_
  refine es_bipushN (pc := 10) 10 dX0_become_10 bp_10 ?_
  refine es_copy (pc := 12) dX0_become_12 (by decide +kernel) lay_45 lay_67 (by omega) (by omega) (Nat.le_of_ble_eq_true rfl) ?_
  refine es_aload_n (pc := 15) dX0_become_15 rfl ?_
  refine es_getR (pc := 16) dX0_become_16 fr_0_15 fld_44_1 ?_
  refine es_iconstN (pc := 19) 0 dX0_become_19 ic_0 ?_
  refine es_aload_n (pc := 20) dX0_become_20 rfl ?_
  refine es_getR (pc := 21) dX0_become_21 fr_0_15 fld_66_1 ?_
  refine es_iconstN (pc := 24) 0 dX0_become_24 ic_0 ?_
  refine es_bipushN (pc := 25) 10 dX0_become_25 bp_10 ?_
  refine es_copy (pc := 27) dX0_become_27 (by decide +kernel) lay_46 lay_68 (by omega) (by omega) (Nat.le_of_ble_eq_true rfl) ?_
  refine es_aload_n (pc := 30) dX0_become_30 rfl ?_
  refine es_getR (pc := 31) dX0_become_31 fr_0_18 fld_44_2 ?_
  refine es_iconstN (pc := 34) 0 dX0_become_34 ic_0 ?_
  refine es_aload_n (pc := 35) dX0_become_35 rfl ?_
  refine es_getR (pc := 36) dX0_become_36 fr_0_18 fld_66_2 ?_
  refine es_iconstN (pc := 39) 0 dX0_become_39 ic_0 ?_
  refine es_iconstN (pc := 40) 4 dX0_become_40 ic_4 ?_
  refine es_copy (pc := 41) dX0_become_41 (by decide +kernel) lay_47 lay_69 (by omega) (by omega) (Nat.le_of_ble_eq_true rfl) ?_
  refine es_aload_n (pc := 44) dX0_become_44 rfl ?_
  refine es_getR (pc := 45) dX0_become_45 fr_0_21 fld_44_3 ?_
  refine es_iconstN (pc := 48) 0 dX0_become_48 ic_0 ?_
  refine es_aload_n (pc := 49) dX0_become_49 rfl ?_
  refine es_getR (pc := 50) dX0_become_50 fr_0_21 fld_66_3 ?_
  refine es_iconstN (pc := 53) 0 dX0_become_53 ic_0 ?_
  refine es_iconstN (pc := 54) 4 dX0_become_54 ic_4 ?_
  refine es_copy (pc := 55) dX0_become_55 (by decide +kernel) lay_48 lay_70 (by omega) (by omega) (Nat.le_of_ble_eq_true rfl) ?_
  refine es_aload_n (pc := 58) dX0_become_58 rfl ?_
  refine es_getR (pc := 59) dX0_become_59 fr_0_24 fld_44_4 ?_
  refine es_iconstN (pc := 62) 0 dX0_become_62 ic_0 ?_
  refine es_aload_n (pc := 63) dX0_become_63 rfl ?_
  refine es_getR (pc := 64) dX0_become_64 fr_0_24 fld_66_4 ?_
  refine es_iconstN (pc := 67) 0 dX0_become_67 ic_0 ?_
  refine es_iconstN (pc := 68) 4 dX0_become_68 ic_4 ?_
  refine es_copy (pc := 69) dX0_become_69 (by decide +kernel) lay_49 lay_71 (by omega) (by omega) (Nat.le_of_ble_eq_true rfl) ?_
  refine es_aload_n (pc := 72) dX0_become_72 rfl ?_
  refine es_getR (pc := 73) dX0_become_73 fr_0_27 fld_44_5 ?_
  refine es_iconstN (pc := 76) 0 dX0_become_76 ic_0 ?_
  refine es_aload_n (pc := 77) dX0_become_77 rfl ?_
  refine es_getR (pc := 78) dX0_become_78 fr_0_27 fld_66_5 ?_
  refine es_iconstN (pc := 81) 0 dX0_become_81 ic_0 ?_
  refine es_iconstN (pc := 82) 4 dX0_become_82 ic_4 ?_
  refine es_copy (pc := 83) dX0_become_83 (by decide +kernel) lay_50 lay_72 (by omega) (by omega) (Nat.le_of_ble_eq_true rfl) ?_
  refine es_aload_n (pc := 86) dX0_become_86 rfl ?_
  refine es_getR (pc := 87) dX0_become_87 fr_0_30 fld_44_6 ?_
  refine es_iconstN (pc := 90) 0 dX0_become_90 ic_0 ?_
  refine es_aload_n (pc := 91) dX0_become_91 rfl ?_
  refine es_getR (pc := 92) dX0_become_92 fr_0_30 fld_66_6 ?_
  refine es_iconstN (pc := 95) 0 dX0_become_95 ic_0 ?_
  refine es_iconstN (pc := 96) 4 dX0_become_96 ic_4 ?_
  refine es_copy (pc := 97) dX0_become_97 (by decide +kernel) lay_51 lay_73 (by omega) (by omega) (Nat.le_of_ble_eq_true rfl) ?_
  refine es_aload_n (pc := 100) dX0_become_100 rfl ?_
  refine es_getR (pc := 101) dX0_become_101 fr_0_33 fld_44_7 ?_
  refine es_iconstN (pc := 104) 0 dX0_become_104 ic_0 ?_
  refine es_aload_n (pc := 105) dX0_become_105 rfl ?_
  refine es_getR (pc := 106) dX0_become_106 fr_0_33 fld_66_7 ?_
  refine es_iconstN (pc := 109) 0 dX0_become_109 ic_0 ?_
  refine es_iconstN (pc := 110) 4 dX0_become_110 ic_4 ?_
  refine es_copy (pc := 111) dX0_become_111 (by decide +kernel) lay_52 lay_74 (by omega) (by omega) (Nat.le_of_ble_eq_true rfl) ?_
  refine es_aload_n (pc := 114) dX0_become_114 rfl ?_
  refine es_getR (pc := 115) dX0_become_115 fr_0_36 fld_44_8 ?_
  refine es_iconstN (pc := 118) 0 dX0_become_118 ic_0 ?_
  refine es_aload_n (pc := 119) dX0_become_119 rfl ?_
  refine es_getR (pc := 120) dX0_become_120 fr_0_36 fld_66_8 ?_
  refine es_iconstN (pc := 123) 0 dX0_become_123 ic_0 ?_
  refine es_iconstN (pc := 124) 4 dX0_become_124 ic_4 ?_
  refine es_copy (pc := 125) dX0_become_125 (by decide +kernel) lay_53 lay_75 (by omega) (by omega) (Nat.le_of_ble_eq_true rfl) ?_
  refine es_aload_n (pc := 128) dX0_become_128 rfl ?_
  refine es_getR (pc := 129) dX0_become_129 fr_0_39 fld_44_9 ?_
  refine es_iconstN (pc := 132) 0 dX0_become_132 ic_0 ?_
  refine es_aload_n (pc := 133) dX0_become_133 rfl ?_
  refine es_getR (pc := 134) dX0_become_134 fr_0_39 fld_66_9 ?_
  refine es_iconstN (pc := 137) 0 dX0_become_137 ic_0 ?_
  refine es_iconstN (pc := 138) 4 dX0_become_138 ic_4 ?_
  refine es_copy (pc := 139) dX0_become_139 (by decide +kernel) lay_54 lay_76 (by omega) (by omega) (Nat.le_of_ble_eq_true rfl) ?_
  refine es_aload_n (pc := 142) dX0_become_142 rfl ?_
  refine es_aload_n (pc := 143) dX0_become_143 rfl ?_
  refine es_getI (pc := 144) dX0_become_144 fr_0_42 fld_44_10 ?_
  refine es_putI (pc := 147) dX0_become_147 fr_0_42 fld_66_10 ?_
  refine es_aload_n (pc := 150) dX0_become_150 rfl ?_
  refine es_aload_n (pc := 151) dX0_become_151 rfl ?_
  refine es_getI (pc := 152) dX0_become_152 fr_0_46 fld_44_11 ?_
  refine es_putI (pc := 155) dX0_become_155 fr_0_46 fld_66_11 ?_
  refine es_aload_n (pc := 158) dX0_become_158 rfl ?_
  refine es_aload_n (pc := 159) dX0_become_159 rfl ?_
  refine es_getI (pc := 160) dX0_become_160 fr_0_49 fld_44_12 ?_
  refine es_putI (pc := 163) dX0_become_163 fr_0_49 fld_66_12 ?_
  refine es_aload_n (pc := 166) dX0_become_166 rfl ?_
  refine es_aload_n (pc := 167) dX0_become_167 rfl ?_
  refine es_getI (pc := 168) dX0_become_168 fr_0_52 fld_44_13 ?_
  refine es_putI (pc := 171) dX0_become_171 fr_0_52 fld_66_13 ?_
  refine es_aload_n (pc := 174) dX0_become_174 rfl ?_
  refine es_aload_n (pc := 175) dX0_become_175 rfl ?_
  refine es_getI (pc := 176) dX0_become_176 fr_0_55 fld_44_14 ?_
  refine es_putI (pc := 179) dX0_become_179 fr_0_55 fld_66_14 ?_
  refine es_aload_n (pc := 182) dX0_become_182 rfl ?_
  refine es_aload_n (pc := 183) dX0_become_183 rfl ?_
  refine es_getI (pc := 184) dX0_become_184 fr_0_58 fld_44_15 ?_
  refine es_putI (pc := 187) dX0_become_187 fr_0_58 fld_66_15 ?_
  refine es_aload_n (pc := 190) dX0_become_190 rfl ?_
  refine es_aload_n (pc := 191) dX0_become_191 rfl ?_
  refine es_getI (pc := 192) dX0_become_192 fr_0_61 fld_44_16 ?_
  refine es_putI (pc := 195) dX0_become_195 fr_0_61 fld_66_16 ?_
  refine es_vreturn (pc := 198) dX0_become_198 rfl (by decide) ?_
  refine ⟨rfl, ?_, ?_⟩
  · funext j
    simp only [gR]
    by_cases h59 : j < 59
    · rw [if_pos h59, if_pos h59]
      simp only [ms_full, cp_full]
      by_cases h1 : j < 4
      · simp [h1]
      · by_cases h2 : j < 11
        · simp [h1, h2]
          rcases (show j = 4 ∨ j = 5 ∨ j = 6 ∨ j = 7 ∨ j = 8 ∨ j = 9 ∨ j = 10 by omega) with rfl | rfl | rfl | rfl | rfl | rfl | rfl <;> simp
        · by_cases h3 : j < 21
          · simp [h1, h2, h3]; omega
          · by_cases h4 : j < 31
            · simp [h1, h2, h3, h4]; omega
            · have h5 : (j - 31) / 7 < 4 := by omega
              rcases (show (j - 31) % 7 = 0 ∨ (j - 31) % 7 = 1 ∨ (j - 31) % 7 = 2 ∨ (j - 31) % 7 = 3 ∨ (j - 31) % 7 = 4 ∨ (j - 31) % 7 = 5 ∨ (j - 31) % 7 = 6 by omega) with q | q | q | q | q | q | q <;> simp [h1, h2, h3, h4, h5, q]
    · rw [if_neg h59, if_neg h59]
  · intro q hq
    repeat (first | rfl | rw [ms_ne (by omega)] | rw [cp_ne (by omega)])
set_option maxHeartbeats 2000000 in
set_option maxRecDepth 20000 in
theorem X0_become_44_77 {d : Nat} {μ : ev_M}  (hd : 1 ≤ d := by omega) : SPv (ev_CALL d) 45 [.ref 44, .ref 77] μ (fun μ2 => gR μ2 44 = gR μ 77 ∧ gm_Fr 44 μ μ2) := by
  obtain ⟨d, rfl⟩ : ∃ q, d = q + 1 := ⟨d - 1, by omega⟩
  refine SPv.of (Nat.le_of_ble_eq_true rfl) ?_
  show es (ev_CALL d) 0 cX0_become none 0 (0, fun _ => 0, []) (fun r μ2 => r = (none, 0) ∧ (fun μ2 => gR μ2 44 = gR μ 77 ∧ gm_Fr 44 μ μ2) μ2) 0 [.ref 44, .ref 77] [] μ 0
  refine es_aload_n (pc := 0) dX0_become_0 rfl ?_
  refine es_getR (pc := 1) dX0_become_1 fr_0_9 fld_77_0 ?_
  refine es_iconstN (pc := 4) 0 dX0_become_4 ic_0 ?_
  refine es_aload_n (pc := 5) dX0_become_5 rfl ?_
  refine es_getR (pc := 6) dX0_become_6 fr_0_9 fld_44_0 ?_
  refine es_iconstN (pc := 9) 0 dX0_become_9 ic_0 ?_
  refine es_bipushN (pc := 10) 10 dX0_become_10 bp_10 ?_
  refine es_copy (pc := 12) dX0_become_12 (by decide +kernel) lay_78 lay_45 (by omega) (by omega) (Nat.le_of_ble_eq_true rfl) ?_
  refine es_aload_n (pc := 15) dX0_become_15 rfl ?_
  refine es_getR (pc := 16) dX0_become_16 fr_0_15 fld_77_1 ?_
  refine es_iconstN (pc := 19) 0 dX0_become_19 ic_0 ?_
  refine es_aload_n (pc := 20) dX0_become_20 rfl ?_
  refine es_getR (pc := 21) dX0_become_21 fr_0_15 fld_44_1 ?_
  refine es_iconstN (pc := 24) 0 dX0_become_24 ic_0 ?_
  refine es_bipushN (pc := 25) 10 dX0_become_25 bp_10 ?_
  refine es_copy (pc := 27) dX0_become_27 (by decide +kernel) lay_79 lay_46 (by omega) (by omega) (Nat.le_of_ble_eq_true rfl) ?_
  refine es_aload_n (pc := 30) dX0_become_30 rfl ?_
  refine es_getR (pc := 31) dX0_become_31 fr_0_18 fld_77_2 ?_
  refine es_iconstN (pc := 34) 0 dX0_become_34 ic_0 ?_
  refine es_aload_n (pc := 35) dX0_become_35 rfl ?_
  refine es_getR (pc := 36) dX0_become_36 fr_0_18 fld_44_2 ?_
  refine es_iconstN (pc := 39) 0 dX0_become_39 ic_0 ?_
  refine es_iconstN (pc := 40) 4 dX0_become_40 ic_4 ?_
  refine es_copy (pc := 41) dX0_become_41 (by decide +kernel) lay_80 lay_47 (by omega) (by omega) (Nat.le_of_ble_eq_true rfl) ?_
  refine es_aload_n (pc := 44) dX0_become_44 rfl ?_
  refine es_getR (pc := 45) dX0_become_45 fr_0_21 fld_77_3 ?_
  refine es_iconstN (pc := 48) 0 dX0_become_48 ic_0 ?_
  refine es_aload_n (pc := 49) dX0_become_49 rfl ?_
  refine es_getR (pc := 50) dX0_become_50 fr_0_21 fld_44_3 ?_
  refine es_iconstN (pc := 53) 0 dX0_become_53 ic_0 ?_
  refine es_iconstN (pc := 54) 4 dX0_become_54 ic_4 ?_
  refine es_copy (pc := 55) dX0_become_55 (by decide +kernel) lay_81 lay_48 (by omega) (by omega) (Nat.le_of_ble_eq_true rfl) ?_
  refine es_aload_n (pc := 58) dX0_become_58 rfl ?_
  refine es_getR (pc := 59) dX0_become_59 fr_0_24 fld_77_4 ?_
  refine es_iconstN (pc := 62) 0 dX0_become_62 ic_0 ?_
  refine es_aload_n (pc := 63) dX0_become_63 rfl ?_
  refine es_getR (pc := 64) dX0_become_64 fr_0_24 fld_44_4 ?_
  refine es_iconstN (pc := 67) 0 dX0_become_67 ic_0 ?_
  refine es_iconstN (pc := 68) 4 dX0_become_68 ic_4 ?_
  refine es_copy (pc := 69) dX0_become_69 (by decide +kernel) lay_82 lay_49 (by omega) (by omega) (Nat.le_of_ble_eq_true rfl) ?_
  refine es_aload_n (pc := 72) dX0_become_72 rfl ?_
  refine es_getR (pc := 73) dX0_become_73 fr_0_27 fld_77_5 ?_
  refine es_iconstN (pc := 76) 0 dX0_become_76 ic_0 ?_
  refine es_aload_n (pc := 77) dX0_become_77 rfl ?_
  refine es_getR (pc := 78) dX0_become_78 fr_0_27 fld_44_5 ?_
  refine es_iconstN (pc := 81) 0 dX0_become_81 ic_0 ?_
  refine es_iconstN (pc := 82) 4 dX0_become_82 ic_4 ?_
  refine es_copy (pc := 83) dX0_become_83 (by decide +kernel) lay_83 lay_50 (by omega) (by omega) (Nat.le_of_ble_eq_true rfl) ?_
  refine es_aload_n (pc := 86) dX0_become_86 rfl ?_
  refine es_getR (pc := 87) dX0_become_87 fr_0_30 fld_77_6 ?_
  refine es_iconstN (pc := 90) 0 dX0_become_90 ic_0 ?_
  refine es_aload_n (pc := 91) dX0_become_91 rfl ?_
  refine es_getR (pc := 92) dX0_become_92 fr_0_30 fld_44_6 ?_
  refine es_iconstN (pc := 95) 0 dX0_become_95 ic_0 ?_
  refine es_iconstN (pc := 96) 4 dX0_become_96 ic_4 ?_
  refine es_copy (pc := 97) dX0_become_97 (by decide +kernel) lay_84 lay_51 (by omega) (by omega) (Nat.le_of_ble_eq_true rfl) ?_
  refine es_aload_n (pc := 100) dX0_become_100 rfl ?_
  refine es_getR (pc := 101) dX0_become_101 fr_0_33 fld_77_7 ?_
  refine es_iconstN (pc := 104) 0 dX0_become_104 ic_0 ?_
  refine es_aload_n (pc := 105) dX0_become_105 rfl ?_
  refine es_getR (pc := 106) dX0_become_106 fr_0_33 fld_44_7 ?_
  refine es_iconstN (pc := 109) 0 dX0_become_109 ic_0 ?_
  refine es_iconstN (pc := 110) 4 dX0_become_110 ic_4 ?_
  refine es_copy (pc := 111) dX0_become_111 (by decide +kernel) lay_85 lay_52 (by omega) (by omega) (Nat.le_of_ble_eq_true rfl) ?_
  refine es_aload_n (pc := 114) dX0_become_114 rfl ?_
  refine es_getR (pc := 115) dX0_become_115 fr_0_36 fld_77_8 ?_
  refine es_iconstN (pc := 118) 0 dX0_become_118 ic_0 ?_
  refine es_aload_n (pc := 119) dX0_become_119 rfl ?_
  refine es_getR (pc := 120) dX0_become_120 fr_0_36 fld_44_8 ?_
  refine es_iconstN (pc := 123) 0 dX0_become_123 ic_0 ?_
  refine es_iconstN (pc := 124) 4 dX0_become_124 ic_4 ?_
  refine es_copy (pc := 125) dX0_become_125 (by decide +kernel) lay_86 lay_53 (by omega) (by omega) (Nat.le_of_ble_eq_true rfl) ?_
  refine es_aload_n (pc := 128) dX0_become_128 rfl ?_
  refine es_getR (pc := 129) dX0_become_129 fr_0_39 fld_77_9 ?_
  refine es_iconstN (pc := 132) 0 dX0_become_132 ic_0 ?_
  refine es_aload_n (pc := 133) dX0_become_133 rfl ?_
  refine es_getR (pc := 134) dX0_become_134 fr_0_39 fld_44_9 ?_
  refine es_iconstN (pc := 137) 0 dX0_become_137 ic_0 ?_
  refine es_iconstN (pc := 138) 4 dX0_become_138 ic_4 ?_
  refine es_copy (pc := 139) dX0_become_139 (by decide +kernel) lay_87 lay_54 (by omega) (by omega) (Nat.le_of_ble_eq_true rfl) ?_
  refine es_aload_n (pc := 142) dX0_become_142 rfl ?_
  refine es_aload_n (pc := 143) dX0_become_143 rfl ?_
  refine es_getI (pc := 144) dX0_become_144 fr_0_42 fld_77_10 ?_
  refine es_putI (pc := 147) dX0_become_147 fr_0_42 fld_44_10 ?_
  refine es_aload_n (pc := 150) dX0_become_150 rfl ?_
  refine es_aload_n (pc := 151) dX0_become_151 rfl ?_
  refine es_getI (pc := 152) dX0_become_152 fr_0_46 fld_77_11 ?_
  refine es_putI (pc := 155) dX0_become_155 fr_0_46 fld_44_11 ?_
  refine es_aload_n (pc := 158) dX0_become_158 rfl ?_
  refine es_aload_n (pc := 159) dX0_become_159 rfl ?_
  refine es_getI (pc := 160) dX0_become_160 fr_0_49 fld_77_12 ?_
  refine es_putI (pc := 163) dX0_become_163 fr_0_49 fld_44_12 ?_
  refine es_aload_n (pc := 166) dX0_become_166 rfl ?_
  refine es_aload_n (pc := 167) dX0_become_167 rfl ?_
  refine es_getI (pc := 168) dX0_become_168 fr_0_52 fld_77_13 ?_
  refine es_putI (pc := 171) dX0_become_171 fr_0_52 fld_44_13 ?_
  refine es_aload_n (pc := 174) dX0_become_174 rfl ?_
  refine es_aload_n (pc := 175) dX0_become_175 rfl ?_
  refine es_getI (pc := 176) dX0_become_176 fr_0_55 fld_77_14 ?_
  refine es_putI (pc := 179) dX0_become_179 fr_0_55 fld_44_14 ?_
  refine es_aload_n (pc := 182) dX0_become_182 rfl ?_
  refine es_aload_n (pc := 183) dX0_become_183 rfl ?_
  refine es_getI (pc := 184) dX0_become_184 fr_0_58 fld_77_15 ?_
  refine es_putI (pc := 187) dX0_become_187 fr_0_58 fld_44_15 ?_
  refine es_aload_n (pc := 190) dX0_become_190 rfl ?_
  refine es_aload_n (pc := 191) dX0_become_191 rfl ?_
  refine es_getI (pc := 192) dX0_become_192 fr_0_61 fld_77_16 ?_
  refine es_putI (pc := 195) dX0_become_195 fr_0_61 fld_44_16 ?_
  refine es_vreturn (pc := 198) dX0_become_198 rfl (by decide) ?_
  refine ⟨rfl, ?_, ?_⟩
  · funext j
    simp only [gR]
    by_cases h59 : j < 59
    · rw [if_pos h59, if_pos h59]
      simp only [ms_full, cp_full]
      by_cases h1 : j < 4
      · simp [h1]
      · by_cases h2 : j < 11
        · simp [h1, h2]
          rcases (show j = 4 ∨ j = 5 ∨ j = 6 ∨ j = 7 ∨ j = 8 ∨ j = 9 ∨ j = 10 by omega) with rfl | rfl | rfl | rfl | rfl | rfl | rfl <;> simp
        · by_cases h3 : j < 21
          · simp [h1, h2, h3]; omega
          · by_cases h4 : j < 31
            · simp [h1, h2, h3, h4]; omega
            · have h5 : (j - 31) / 7 < 4 := by omega
              rcases (show (j - 31) % 7 = 0 ∨ (j - 31) % 7 = 1 ∨ (j - 31) % 7 = 2 ∨ (j - 31) % 7 = 3 ∨ (j - 31) % 7 = 4 ∨ (j - 31) % 7 = 5 ∨ (j - 31) % 7 = 6 by omega) with q | q | q | q | q | q | q <;> simp [h1, h2, h3, h4, h5, q]
    · rw [if_neg h59, if_neg h59]
  · intro q hq
    repeat (first | rfl | rw [ms_ne (by omega)] | rw [cp_ne (by omega)])
set_option maxHeartbeats 2000000 in
set_option maxRecDepth 20000 in
theorem X0_become_77_44 {d : Nat} {μ : ev_M}  (hd : 1 ≤ d := by omega) : SPv (ev_CALL d) 45 [.ref 77, .ref 44] μ (fun μ2 => gR μ2 77 = gR μ 44 ∧ gm_Fr 77 μ μ2) := by
  obtain ⟨d, rfl⟩ : ∃ q, d = q + 1 := ⟨d - 1, by omega⟩
  refine SPv.of (Nat.le_of_ble_eq_true rfl) ?_
  show es (ev_CALL d) 0 cX0_become none 0 (0, fun _ => 0, []) (fun r μ2 => r = (none, 0) ∧ (fun μ2 => gR μ2 77 = gR μ 44 ∧ gm_Fr 77 μ μ2) μ2) 0 [.ref 77, .ref 44] [] μ 0
  refine es_aload_n (pc := 0) dX0_become_0 rfl ?_
  refine es_getR (pc := 1) dX0_become_1 fr_0_9 fld_44_0 ?_
  refine es_iconstN (pc := 4) 0 dX0_become_4 ic_0 ?_
  refine es_aload_n (pc := 5) dX0_become_5 rfl ?_
  refine es_getR (pc := 6) dX0_become_6 fr_0_9 fld_77_0 ?_
  refine es_iconstN (pc := 9) 0 dX0_become_9 ic_0 ?_
  refine es_bipushN (pc := 10) 10 dX0_become_10 bp_10 ?_
  refine es_copy (pc := 12) dX0_become_12 (by decide +kernel) lay_45 lay_78 (by omega) (by omega) (Nat.le_of_ble_eq_true rfl) ?_
  refine es_aload_n (pc := 15) dX0_become_15 rfl ?_
  refine es_getR (pc := 16) dX0_become_16 fr_0_15 fld_44_1 ?_
  refine es_iconstN (pc := 19) 0 dX0_become_19 ic_0 ?_
  refine es_aload_n (pc := 20) dX0_become_20 rfl ?_
  refine es_getR (pc := 21) dX0_become_21 fr_0_15 fld_77_1 ?_
  refine es_iconstN (pc := 24) 0 dX0_become_24 ic_0 ?_
  refine es_bipushN (pc := 25) 10 dX0_become_25 bp_10 ?_
  refine es_copy (pc := 27) dX0_become_27 (by decide +kernel) lay_46 lay_79 (by omega) (by omega) (Nat.le_of_ble_eq_true rfl) ?_
  refine es_aload_n (pc := 30) dX0_become_30 rfl ?_
  refine es_getR (pc := 31) dX0_become_31 fr_0_18 fld_44_2 ?_
  refine es_iconstN (pc := 34) 0 dX0_become_34 ic_0 ?_
  refine es_aload_n (pc := 35) dX0_become_35 rfl ?_
  refine es_getR (pc := 36) dX0_become_36 fr_0_18 fld_77_2 ?_
  refine es_iconstN (pc := 39) 0 dX0_become_39 ic_0 ?_
  refine es_iconstN (pc := 40) 4 dX0_become_40 ic_4 ?_
  refine es_copy (pc := 41) dX0_become_41 (by decide +kernel) lay_47 lay_80 (by omega) (by omega) (Nat.le_of_ble_eq_true rfl) ?_
  refine es_aload_n (pc := 44) dX0_become_44 rfl ?_
  refine es_getR (pc := 45) dX0_become_45 fr_0_21 fld_44_3 ?_
  refine es_iconstN (pc := 48) 0 dX0_become_48 ic_0 ?_
  refine es_aload_n (pc := 49) dX0_become_49 rfl ?_
  refine es_getR (pc := 50) dX0_become_50 fr_0_21 fld_77_3 ?_
  refine es_iconstN (pc := 53) 0 dX0_become_53 ic_0 ?_
  refine es_iconstN (pc := 54) 4 dX0_become_54 ic_4 ?_
  refine es_copy (pc := 55) dX0_become_55 (by decide +kernel) lay_48 lay_81 (by omega) (by omega) (Nat.le_of_ble_eq_true rfl) ?_
  refine es_aload_n (pc := 58) dX0_become_58 rfl ?_
  refine es_getR (pc := 59) dX0_become_59 fr_0_24 fld_44_4 ?_
  refine es_iconstN (pc := 62) 0 dX0_become_62 ic_0 ?_
  refine es_aload_n (pc := 63) dX0_become_63 rfl ?_
  refine es_getR (pc := 64) dX0_become_64 fr_0_24 fld_77_4 ?_
  refine es_iconstN (pc := 67) 0 dX0_become_67 ic_0 ?_
  refine es_iconstN (pc := 68) 4 dX0_become_68 ic_4 ?_
  refine es_copy (pc := 69) dX0_become_69 (by decide +kernel) lay_49 lay_82 (by omega) (by omega) (Nat.le_of_ble_eq_true rfl) ?_
  refine es_aload_n (pc := 72) dX0_become_72 rfl ?_
  refine es_getR (pc := 73) dX0_become_73 fr_0_27 fld_44_5 ?_
  refine es_iconstN (pc := 76) 0 dX0_become_76 ic_0 ?_
  refine es_aload_n (pc := 77) dX0_become_77 rfl ?_
  refine es_getR (pc := 78) dX0_become_78 fr_0_27 fld_77_5 ?_
  refine es_iconstN (pc := 81) 0 dX0_become_81 ic_0 ?_
  refine es_iconstN (pc := 82) 4 dX0_become_82 ic_4 ?_
  refine es_copy (pc := 83) dX0_become_83 (by decide +kernel) lay_50 lay_83 (by omega) (by omega) (Nat.le_of_ble_eq_true rfl) ?_
  refine es_aload_n (pc := 86) dX0_become_86 rfl ?_
  refine es_getR (pc := 87) dX0_become_87 fr_0_30 fld_44_6 ?_
  refine es_iconstN (pc := 90) 0 dX0_become_90 ic_0 ?_
  refine es_aload_n (pc := 91) dX0_become_91 rfl ?_
  refine es_getR (pc := 92) dX0_become_92 fr_0_30 fld_77_6 ?_
  refine es_iconstN (pc := 95) 0 dX0_become_95 ic_0 ?_
  refine es_iconstN (pc := 96) 4 dX0_become_96 ic_4 ?_
  refine es_copy (pc := 97) dX0_become_97 (by decide +kernel) lay_51 lay_84 (by omega) (by omega) (Nat.le_of_ble_eq_true rfl) ?_
  refine es_aload_n (pc := 100) dX0_become_100 rfl ?_
  refine es_getR (pc := 101) dX0_become_101 fr_0_33 fld_44_7 ?_
  refine es_iconstN (pc := 104) 0 dX0_become_104 ic_0 ?_
  refine es_aload_n (pc := 105) dX0_become_105 rfl ?_
  refine es_getR (pc := 106) dX0_become_106 fr_0_33 fld_77_7 ?_
  refine es_iconstN (pc := 109) 0 dX0_become_109 ic_0 ?_
  refine es_iconstN (pc := 110) 4 dX0_become_110 ic_4 ?_
  refine es_copy (pc := 111) dX0_become_111 (by decide +kernel) lay_52 lay_85 (by omega) (by omega) (Nat.le_of_ble_eq_true rfl) ?_
  refine es_aload_n (pc := 114) dX0_become_114 rfl ?_
  refine es_getR (pc := 115) dX0_become_115 fr_0_36 fld_44_8 ?_
  refine es_iconstN (pc := 118) 0 dX0_become_118 ic_0 ?_
  refine es_aload_n (pc := 119) dX0_become_119 rfl ?_
  refine es_getR (pc := 120) dX0_become_120 fr_0_36 fld_77_8 ?_
  refine es_iconstN (pc := 123) 0 dX0_become_123 ic_0 ?_
  refine es_iconstN (pc := 124) 4 dX0_become_124 ic_4 ?_
  refine es_copy (pc := 125) dX0_become_125 (by decide +kernel) lay_53 lay_86 (by omega) (by omega) (Nat.le_of_ble_eq_true rfl) ?_
  refine es_aload_n (pc := 128) dX0_become_128 rfl ?_
  refine es_getR (pc := 129) dX0_become_129 fr_0_39 fld_44_9 ?_
  refine es_iconstN (pc := 132) 0 dX0_become_132 ic_0 ?_
  refine es_aload_n (pc := 133) dX0_become_133 rfl ?_
  refine es_getR (pc := 134) dX0_become_134 fr_0_39 fld_77_9 ?_
  refine es_iconstN (pc := 137) 0 dX0_become_137 ic_0 ?_
  refine es_iconstN (pc := 138) 4 dX0_become_138 ic_4 ?_
  refine es_copy (pc := 139) dX0_become_139 (by decide +kernel) lay_54 lay_87 (by omega) (by omega) (Nat.le_of_ble_eq_true rfl) ?_
  refine es_aload_n (pc := 142) dX0_become_142 rfl ?_
  refine es_aload_n (pc := 143) dX0_become_143 rfl ?_
  refine es_getI (pc := 144) dX0_become_144 fr_0_42 fld_44_10 ?_
  refine es_putI (pc := 147) dX0_become_147 fr_0_42 fld_77_10 ?_
  refine es_aload_n (pc := 150) dX0_become_150 rfl ?_
  refine es_aload_n (pc := 151) dX0_become_151 rfl ?_
  refine es_getI (pc := 152) dX0_become_152 fr_0_46 fld_44_11 ?_
  refine es_putI (pc := 155) dX0_become_155 fr_0_46 fld_77_11 ?_
  refine es_aload_n (pc := 158) dX0_become_158 rfl ?_
  refine es_aload_n (pc := 159) dX0_become_159 rfl ?_
  refine es_getI (pc := 160) dX0_become_160 fr_0_49 fld_44_12 ?_
  refine es_putI (pc := 163) dX0_become_163 fr_0_49 fld_77_12 ?_
  refine es_aload_n (pc := 166) dX0_become_166 rfl ?_
  refine es_aload_n (pc := 167) dX0_become_167 rfl ?_
  refine es_getI (pc := 168) dX0_become_168 fr_0_52 fld_44_13 ?_
  refine es_putI (pc := 171) dX0_become_171 fr_0_52 fld_77_13 ?_
  refine es_aload_n (pc := 174) dX0_become_174 rfl ?_
  refine es_aload_n (pc := 175) dX0_become_175 rfl ?_
  refine es_getI (pc := 176) dX0_become_176 fr_0_55 fld_44_14 ?_
  refine es_putI (pc := 179) dX0_become_179 fr_0_55 fld_77_14 ?_
  refine es_aload_n (pc := 182) dX0_become_182 rfl ?_
  refine es_aload_n (pc := 183) dX0_become_183 rfl ?_
  refine es_getI (pc := 184) dX0_become_184 fr_0_58 fld_44_15 ?_
  refine es_putI (pc := 187) dX0_become_187 fr_0_58 fld_77_15 ?_
  refine es_aload_n (pc := 190) dX0_become_190 rfl ?_
  refine es_aload_n (pc := 191) dX0_become_191 rfl ?_
  refine es_getI (pc := 192) dX0_become_192 fr_0_61 fld_44_16 ?_
  refine es_putI (pc := 195) dX0_become_195 fr_0_61 fld_77_16 ?_
  refine es_vreturn (pc := 198) dX0_become_198 rfl (by decide) ?_
  refine ⟨rfl, ?_, ?_⟩
  · funext j
    simp only [gR]
    by_cases h59 : j < 59
    · rw [if_pos h59, if_pos h59]
      simp only [ms_full, cp_full]
      by_cases h1 : j < 4
      · simp [h1]
      · by_cases h2 : j < 11
        · simp [h1, h2]
          rcases (show j = 4 ∨ j = 5 ∨ j = 6 ∨ j = 7 ∨ j = 8 ∨ j = 9 ∨ j = 10 by omega) with rfl | rfl | rfl | rfl | rfl | rfl | rfl <;> simp
        · by_cases h3 : j < 21
          · simp [h1, h2, h3]; omega
          · by_cases h4 : j < 31
            · simp [h1, h2, h3, h4]; omega
            · have h5 : (j - 31) / 7 < 4 := by omega
              rcases (show (j - 31) % 7 = 0 ∨ (j - 31) % 7 = 1 ∨ (j - 31) % 7 = 2 ∨ (j - 31) % 7 = 3 ∨ (j - 31) % 7 = 4 ∨ (j - 31) % 7 = 5 ∨ (j - 31) % 7 = 6 by omega) with q | q | q | q | q | q | q <;> simp [h1, h2, h3, h4, h5, q]
    · rw [if_neg h59, if_neg h59]
  · intro q hq
    repeat (first | rfl | rw [ms_ne (by omega)] | rw [cp_ne (by omega)])
set_option maxHeartbeats 2000000 in
set_option maxRecDepth 20000 in
theorem X0_become_44_88 {d : Nat} {μ : ev_M}  (hd : 1 ≤ d := by omega) : SPv (ev_CALL d) 45 [.ref 44, .ref 88] μ (fun μ2 => gR μ2 44 = gR μ 88 ∧ gm_Fr 44 μ μ2) := by
  obtain ⟨d, rfl⟩ : ∃ q, d = q + 1 := ⟨d - 1, by omega⟩
  refine SPv.of (Nat.le_of_ble_eq_true rfl) ?_
  show es (ev_CALL d) 0 cX0_become none 0 (0, fun _ => 0, []) (fun r μ2 => r = (none, 0) ∧ (fun μ2 => gR μ2 44 = gR μ 88 ∧ gm_Fr 44 μ μ2) μ2) 0 [.ref 44, .ref 88] [] μ 0
  refine es_aload_n (pc := 0) dX0_become_0 rfl ?_
  refine es_getR (pc := 1) dX0_become_1 fr_0_9 fld_88_0 ?_
  refine es_iconstN (pc := 4) 0 dX0_become_4 ic_0 ?_
  refine es_aload_n (pc := 5) dX0_become_5 rfl ?_
  refine es_getR (pc := 6) dX0_become_6 fr_0_9 fld_44_0 ?_
  refine es_iconstN (pc := 9) 0 dX0_become_9 ic_0 ?_
  refine es_bipushN (pc := 10) 10 dX0_become_10 bp_10 ?_
  refine es_copy (pc := 12) dX0_become_12 (by decide +kernel) lay_89 lay_45 (by omega) (by omega) (Nat.le_of_ble_eq_true rfl) ?_
  refine es_aload_n (pc := 15) dX0_become_15 rfl ?_
  refine es_getR (pc := 16) dX0_become_16 fr_0_15 fld_88_1 ?_
  refine es_iconstN (pc := 19) 0 dX0_become_19 ic_0 ?_
  refine es_aload_n (pc := 20) dX0_become_20 rfl ?_
  refine es_getR (pc := 21) dX0_become_21 fr_0_15 fld_44_1 ?_
  refine es_iconstN (pc := 24) 0 dX0_become_24 ic_0 ?_
  refine es_bipushN (pc := 25) 10 dX0_become_25 bp_10 ?_
  refine es_copy (pc := 27) dX0_become_27 (by decide +kernel) lay_90 lay_46 (by omega) (by omega) (Nat.le_of_ble_eq_true rfl) ?_
  refine es_aload_n (pc := 30) dX0_become_30 rfl ?_
  refine es_getR (pc := 31) dX0_become_31 fr_0_18 fld_88_2 ?_
  refine es_iconstN (pc := 34) 0 dX0_become_34 ic_0 ?_
  refine es_aload_n (pc := 35) dX0_become_35 rfl ?_
  refine es_getR (pc := 36) dX0_become_36 fr_0_18 fld_44_2 ?_
  refine es_iconstN (pc := 39) 0 dX0_become_39 ic_0 ?_
  refine es_iconstN (pc := 40) 4 dX0_become_40 ic_4 ?_
  refine es_copy (pc := 41) dX0_become_41 (by decide +kernel) lay_91 lay_47 (by omega) (by omega) (Nat.le_of_ble_eq_true rfl) ?_
  refine es_aload_n (pc := 44) dX0_become_44 rfl ?_
  refine es_getR (pc := 45) dX0_become_45 fr_0_21 fld_88_3 ?_
  refine es_iconstN (pc := 48) 0 dX0_become_48 ic_0 ?_
  refine es_aload_n (pc := 49) dX0_become_49 rfl ?_
  refine es_getR (pc := 50) dX0_become_50 fr_0_21 fld_44_3 ?_
  refine es_iconstN (pc := 53) 0 dX0_become_53 ic_0 ?_
  refine es_iconstN (pc := 54) 4 dX0_become_54 ic_4 ?_
  refine es_copy (pc := 55) dX0_become_55 (by decide +kernel) lay_92 lay_48 (by omega) (by omega) (Nat.le_of_ble_eq_true rfl) ?_
  refine es_aload_n (pc := 58) dX0_become_58 rfl ?_
  refine es_getR (pc := 59) dX0_become_59 fr_0_24 fld_88_4 ?_
  refine es_iconstN (pc := 62) 0 dX0_become_62 ic_0 ?_
  refine es_aload_n (pc := 63) dX0_become_63 rfl ?_
  refine es_getR (pc := 64) dX0_become_64 fr_0_24 fld_44_4 ?_
  refine es_iconstN (pc := 67) 0 dX0_become_67 ic_0 ?_
  refine es_iconstN (pc := 68) 4 dX0_become_68 ic_4 ?_
  refine es_copy (pc := 69) dX0_become_69 (by decide +kernel) lay_93 lay_49 (by omega) (by omega) (Nat.le_of_ble_eq_true rfl) ?_
  refine es_aload_n (pc := 72) dX0_become_72 rfl ?_
  refine es_getR (pc := 73) dX0_become_73 fr_0_27 fld_88_5 ?_
  refine es_iconstN (pc := 76) 0 dX0_become_76 ic_0 ?_
  refine es_aload_n (pc := 77) dX0_become_77 rfl ?_
  refine es_getR (pc := 78) dX0_become_78 fr_0_27 fld_44_5 ?_
  refine es_iconstN (pc := 81) 0 dX0_become_81 ic_0 ?_
  refine es_iconstN (pc := 82) 4 dX0_become_82 ic_4 ?_
  refine es_copy (pc := 83) dX0_become_83 (by decide +kernel) lay_94 lay_50 (by omega) (by omega) (Nat.le_of_ble_eq_true rfl) ?_
  refine es_aload_n (pc := 86) dX0_become_86 rfl ?_
  refine es_getR (pc := 87) dX0_become_87 fr_0_30 fld_88_6 ?_
  refine es_iconstN (pc := 90) 0 dX0_become_90 ic_0 ?_
  refine es_aload_n (pc := 91) dX0_become_91 rfl ?_
  refine es_getR (pc := 92) dX0_become_92 fr_0_30 fld_44_6 ?_
  refine es_iconstN (pc := 95) 0 dX0_become_95 ic_0 ?_
  refine es_iconstN (pc := 96) 4 dX0_become_96 ic_4 ?_
  refine es_copy (pc := 97) dX0_become_97 (by decide +kernel) lay_95 lay_51 (by omega) (by omega) (Nat.le_of_ble_eq_true rfl) ?_
  refine es_aload_n (pc := 100) dX0_become_100 rfl ?_
  refine es_getR (pc := 101) dX0_become_101 fr_0_33 fld_88_7 ?_
  refine es_iconstN (pc := 104) 0 dX0_become_104 ic_0 ?_
  refine es_aload_n (pc := 105) dX0_become_105 rfl ?_
  refine es_getR (pc := 106) dX0_become_106 fr_0_33 fld_44_7 ?_
  refine es_iconstN (pc := 109) 0 dX0_become_109 ic_0 ?_
  refine es_iconstN (pc := 110) 4 dX0_become_110 ic_4 ?_
  refine es_copy (pc := 111) dX0_become_111 (by decide +kernel) lay_96 lay_52 (by omega) (by omega) (Nat.le_of_ble_eq_true rfl) ?_
  refine es_aload_n (pc := 114) dX0_become_114 rfl ?_
  refine es_getR (pc := 115) dX0_become_115 fr_0_36 fld_88_8 ?_
  refine es_iconstN (pc := 118) 0 dX0_become_118 ic_0 ?_
  refine es_aload_n (pc := 119) dX0_become_119 rfl ?_
  refine es_getR (pc := 120) dX0_become_120 fr_0_36 fld_44_8 ?_
  refine es_iconstN (pc := 123) 0 dX0_become_123 ic_0 ?_
  refine es_iconstN (pc := 124) 4 dX0_become_124 ic_4 ?_
  refine es_copy (pc := 125) dX0_become_125 (by decide +kernel) lay_97 lay_53 (by omega) (by omega) (Nat.le_of_ble_eq_true rfl) ?_
  refine es_aload_n (pc := 128) dX0_become_128 rfl ?_
  refine es_getR (pc := 129) dX0_become_129 fr_0_39 fld_88_9 ?_
  refine es_iconstN (pc := 132) 0 dX0_become_132 ic_0 ?_
  refine es_aload_n (pc := 133) dX0_become_133 rfl ?_
  refine es_getR (pc := 134) dX0_become_134 fr_0_39 fld_44_9 ?_
  refine es_iconstN (pc := 137) 0 dX0_become_137 ic_0 ?_
  refine es_iconstN (pc := 138) 4 dX0_become_138 ic_4 ?_
  refine es_copy (pc := 139) dX0_become_139 (by decide +kernel) lay_98 lay_54 (by omega) (by omega) (Nat.le_of_ble_eq_true rfl) ?_
  refine es_aload_n (pc := 142) dX0_become_142 rfl ?_
  refine es_aload_n (pc := 143) dX0_become_143 rfl ?_
  refine es_getI (pc := 144) dX0_become_144 fr_0_42 fld_88_10 ?_
  refine es_putI (pc := 147) dX0_become_147 fr_0_42 fld_44_10 ?_
  refine es_aload_n (pc := 150) dX0_become_150 rfl ?_
  refine es_aload_n (pc := 151) dX0_become_151 rfl ?_
  refine es_getI (pc := 152) dX0_become_152 fr_0_46 fld_88_11 ?_
  refine es_putI (pc := 155) dX0_become_155 fr_0_46 fld_44_11 ?_
  refine es_aload_n (pc := 158) dX0_become_158 rfl ?_
  refine es_aload_n (pc := 159) dX0_become_159 rfl ?_
  refine es_getI (pc := 160) dX0_become_160 fr_0_49 fld_88_12 ?_
  refine es_putI (pc := 163) dX0_become_163 fr_0_49 fld_44_12 ?_
  refine es_aload_n (pc := 166) dX0_become_166 rfl ?_
  refine es_aload_n (pc := 167) dX0_become_167 rfl ?_
  refine es_getI (pc := 168) dX0_become_168 fr_0_52 fld_88_13 ?_
  refine es_putI (pc := 171) dX0_become_171 fr_0_52 fld_44_13 ?_
  refine es_aload_n (pc := 174) dX0_become_174 rfl ?_
  refine es_aload_n (pc := 175) dX0_become_175 rfl ?_
  refine es_getI (pc := 176) dX0_become_176 fr_0_55 fld_88_14 ?_
  refine es_putI (pc := 179) dX0_become_179 fr_0_55 fld_44_14 ?_
  refine es_aload_n (pc := 182) dX0_become_182 rfl ?_
  refine es_aload_n (pc := 183) dX0_become_183 rfl ?_
  refine es_getI (pc := 184) dX0_become_184 fr_0_58 fld_88_15 ?_
  refine es_putI (pc := 187) dX0_become_187 fr_0_58 fld_44_15 ?_
  refine es_aload_n (pc := 190) dX0_become_190 rfl ?_
  refine es_aload_n (pc := 191) dX0_become_191 rfl ?_
  refine es_getI (pc := 192) dX0_become_192 fr_0_61 fld_88_16 ?_
  refine es_putI (pc := 195) dX0_become_195 fr_0_61 fld_44_16 ?_
  refine es_vreturn (pc := 198) dX0_become_198 rfl (by decide) ?_
  refine ⟨rfl, ?_, ?_⟩
  · funext j
    simp only [gR]
    by_cases h59 : j < 59
    · rw [if_pos h59, if_pos h59]
      simp only [ms_full, cp_full]
      by_cases h1 : j < 4
      · simp [h1]
      · by_cases h2 : j < 11
        · simp [h1, h2]
          rcases (show j = 4 ∨ j = 5 ∨ j = 6 ∨ j = 7 ∨ j = 8 ∨ j = 9 ∨ j = 10 by omega) with rfl | rfl | rfl | rfl | rfl | rfl | rfl <;> simp
        · by_cases h3 : j < 21
          · simp [h1, h2, h3]; omega
          · by_cases h4 : j < 31
            · simp [h1, h2, h3, h4]; omega
            · have h5 : (j - 31) / 7 < 4 := by omega
              rcases (show (j - 31) % 7 = 0 ∨ (j - 31) % 7 = 1 ∨ (j - 31) % 7 = 2 ∨ (j - 31) % 7 = 3 ∨ (j - 31) % 7 = 4 ∨ (j - 31) % 7 = 5 ∨ (j - 31) % 7 = 6 by omega) with q | q | q | q | q | q | q <;> simp [h1, h2, h3, h4, h5, q]
    · rw [if_neg h59, if_neg h59]
  · intro q hq
    repeat (first | rfl | rw [ms_ne (by omega)] | rw [cp_ne (by omega)])
set_option maxHeartbeats 2000000 in
set_option maxRecDepth 20000 in
theorem X0_become_88_44 {d : Nat} {μ : ev_M}  (hd : 1 ≤ d := by omega) : SPv (ev_CALL d) 45 [.ref 88, .ref 44] μ (fun μ2 => gR μ2 88 = gR μ 44 ∧ gm_Fr 88 μ μ2) := by
  obtain ⟨d, rfl⟩ : ∃ q, d = q + 1 := ⟨d - 1, by omega⟩
  refine SPv.of (Nat.le_of_ble_eq_true rfl) ?_
  show es (ev_CALL d) 0 cX0_become none 0 (0, fun _ => 0, []) (fun r μ2 => r = (none, 0) ∧ (fun μ2 => gR μ2 88 = gR μ 44 ∧ gm_Fr 88 μ μ2) μ2) 0 [.ref 88, .ref 44] [] μ 0
  refine es_aload_n (pc := 0) dX0_become_0 rfl ?_
  refine es_getR (pc := 1) dX0_become_1 fr_0_9 fld_44_0 ?_
  refine es_iconstN (pc := 4) 0 dX0_become_4 ic_0 ?_
  refine es_aload_n (pc := 5) dX0_become_5 rfl ?_
  refine es_getR (pc := 6) dX0_become_6 fr_0_9 fld_88_0 ?_
  refine es_iconstN (pc := 9) 0 dX0_become_9 ic_0 ?_
  refine es_bipushN (pc := 10) 10 dX0_become_10 bp_10 ?_
  refine es_copy (pc := 12) dX0_become_12 (by decide +kernel) lay_45 lay_89 (by omega) (by omega) (Nat.le_of_ble_eq_true rfl) ?_
  refine es_aload_n (pc := 15) dX0_become_15 rfl ?_
  refine es_getR (pc := 16) dX0_become_16 fr_0_15 fld_44_1 ?_
  refine es_iconstN (pc := 19) 0 dX0_become_19 ic_0 ?_
  refine es_aload_n (pc := 20) dX0_become_20 rfl ?_
  refine es_getR (pc := 21) dX0_become_21 fr_0_15 fld_88_1 ?_
  refine es_iconstN (pc := 24) 0 dX0_become_24 ic_0 ?_
  refine es_bipushN (pc := 25) 10 dX0_become_25 bp_10 ?_
  refine es_copy (pc := 27) dX0_become_27 (by decide +kernel) lay_46 lay_90 (by omega) (by omega) (Nat.le_of_ble_eq_true rfl) ?_
  refine es_aload_n (pc := 30) dX0_become_30 rfl ?_
  refine es_getR (pc := 31) dX0_become_31 fr_0_18 fld_44_2 ?_
  refine es_iconstN (pc := 34) 0 dX0_become_34 ic_0 ?_
  refine es_aload_n (pc := 35) dX0_become_35 rfl ?_
  refine es_getR (pc := 36) dX0_become_36 fr_0_18 fld_88_2 ?_
  refine es_iconstN (pc := 39) 0 dX0_become_39 ic_0 ?_
  refine es_iconstN (pc := 40) 4 dX0_become_40 ic_4 ?_
  refine es_copy (pc := 41) dX0_become_41 (by decide +kernel) lay_47 lay_91 (by omega) (by omega) (Nat.le_of_ble_eq_true rfl) ?_
  refine es_aload_n (pc := 44) dX0_become_44 rfl ?_
  refine es_getR (pc := 45) dX0_become_45 fr_0_21 fld_44_3 ?_
  refine es_iconstN (pc := 48) 0 dX0_become_48 ic_0 ?_
  refine es_aload_n (pc := 49) dX0_become_49 rfl ?_
  refine es_getR (pc := 50) dX0_become_50 fr_0_21 fld_88_3 ?_
  refine es_iconstN (pc := 53) 0 dX0_become_53 ic_0 ?_
  refine es_iconstN (pc := 54) 4 dX0_become_54 ic_4 ?_
  refine es_copy (pc := 55) dX0_become_55 (by decide +kernel) lay_48 lay_92 (by omega) (by omega) (Nat.le_of_ble_eq_true rfl) ?_
  refine es_aload_n (pc := 58) dX0_become_58 rfl ?_
  refine es_getR (pc := 59) dX0_become_59 fr_0_24 fld_44_4 ?_
  refine es_iconstN (pc := 62) 0 dX0_become_62 ic_0 ?_
  refine es_aload_n (pc := 63) dX0_become_63 rfl ?_
  refine es_getR (pc := 64) dX0_become_64 fr_0_24 fld_88_4 ?_
  refine es_iconstN (pc := 67) 0 dX0_become_67 ic_0 ?_
  refine es_iconstN (pc := 68) 4 dX0_become_68 ic_4 ?_
  refine es_copy (pc := 69) dX0_become_69 (by decide +kernel) lay_49 lay_93 (by omega) (by omega) (Nat.le_of_ble_eq_true rfl) ?_
  refine es_aload_n (pc := 72) dX0_become_72 rfl ?_
  refine es_getR (pc := 73) dX0_become_73 fr_0_27 fld_44_5 ?_
  refine es_iconstN (pc := 76) 0 dX0_become_76 ic_0 ?_
  refine es_aload_n (pc := 77) dX0_become_77 rfl ?_
  refine es_getR (pc := 78) dX0_become_78 fr_0_27 fld_88_5 ?_
  refine es_iconstN (pc := 81) 0 dX0_become_81 ic_0 ?_
  refine es_iconstN (pc := 82) 4 dX0_become_82 ic_4 ?_
  refine es_copy (pc := 83) dX0_become_83 (by decide +kernel) lay_50 lay_94 (by omega) (by omega) (Nat.le_of_ble_eq_true rfl) ?_
  refine es_aload_n (pc := 86) dX0_become_86 rfl ?_
  refine es_getR (pc := 87) dX0_become_87 fr_0_30 fld_44_6 ?_
  refine es_iconstN (pc := 90) 0 dX0_become_90 ic_0 ?_
  refine es_aload_n (pc := 91) dX0_become_91 rfl ?_
  refine es_getR (pc := 92) dX0_become_92 fr_0_30 fld_88_6 ?_
  refine es_iconstN (pc := 95) 0 dX0_become_95 ic_0 ?_
  refine es_iconstN (pc := 96) 4 dX0_become_96 ic_4 ?_
  refine es_copy (pc := 97) dX0_become_97 (by decide +kernel) lay_51 lay_95 (by omega) (by omega) (Nat.le_of_ble_eq_true rfl) ?_
  refine es_aload_n (pc := 100) dX0_become_100 rfl ?_
  refine es_getR (pc := 101) dX0_become_101 fr_0_33 fld_44_7 ?_
  refine es_iconstN (pc := 104) 0 dX0_become_104 ic_0 ?_
  refine es_aload_n (pc := 105) dX0_become_105 rfl ?_
  refine es_getR (pc := 106) dX0_become_106 fr_0_33 fld_88_7 ?_
  refine es_iconstN (pc := 109) 0 dX0_become_109 ic_0 ?_
  refine es_iconstN (pc := 110) 4 dX0_become_110 ic_4 ?_
  refine es_copy (pc := 111) dX0_become_111 (by decide +kernel) lay_52 lay_96 (by omega) (by omega) (Nat.le_of_ble_eq_true rfl) ?_
  refine es_aload_n (pc := 114) dX0_become_114 rfl ?_
  refine es_getR (pc := 115) dX0_become_115 fr_0_36 fld_44_8 ?_
  refine es_iconstN (pc := 118) 0 dX0_become_118 ic_0 ?_
  refine es_aload_n (pc := 119) dX0_become_119 rfl ?_
  refine es_getR (pc := 120) dX0_become_120 fr_0_36 fld_88_8 ?_
  refine es_iconstN (pc := 123) 0 dX0_become_123 ic_0 ?_
  refine es_iconstN (pc := 124) 4 dX0_become_124 ic_4 ?_
  refine es_copy (pc := 125) dX0_become_125 (by decide +kernel) lay_53 lay_97 (by omega) (by omega) (Nat.le_of_ble_eq_true rfl) ?_
  refine es_aload_n (pc := 128) dX0_become_128 rfl ?_
  refine es_getR (pc := 129) dX0_become_129 fr_0_39 fld_44_9 ?_
  refine es_iconstN (pc := 132) 0 dX0_become_132 ic_0 ?_
  refine es_aload_n (pc := 133) dX0_become_133 rfl ?_
  refine es_getR (pc := 134) dX0_become_134 fr_0_39 fld_88_9 ?_
  refine es_iconstN (pc := 137) 0 dX0_become_137 ic_0 ?_
  refine es_iconstN (pc := 138) 4 dX0_become_138 ic_4 ?_
  refine es_copy (pc := 139) dX0_become_139 (by decide +kernel) lay_54 lay_98 (by omega) (by omega) (Nat.le_of_ble_eq_true rfl) ?_
  refine es_aload_n (pc := 142) dX0_become_142 rfl ?_
  refine es_aload_n (pc := 143) dX0_become_143 rfl ?_
  refine es_getI (pc := 144) dX0_become_144 fr_0_42 fld_44_10 ?_
  refine es_putI (pc := 147) dX0_become_147 fr_0_42 fld_88_10 ?_
  refine es_aload_n (pc := 150) dX0_become_150 rfl ?_
  refine es_aload_n (pc := 151) dX0_become_151 rfl ?_
  refine es_getI (pc := 152) dX0_become_152 fr_0_46 fld_44_11 ?_
  refine es_putI (pc := 155) dX0_become_155 fr_0_46 fld_88_11 ?_
  refine es_aload_n (pc := 158) dX0_become_158 rfl ?_
  refine es_aload_n (pc := 159) dX0_become_159 rfl ?_
  refine es_getI (pc := 160) dX0_become_160 fr_0_49 fld_44_12 ?_
  refine es_putI (pc := 163) dX0_become_163 fr_0_49 fld_88_12 ?_
  refine es_aload_n (pc := 166) dX0_become_166 rfl ?_
  refine es_aload_n (pc := 167) dX0_become_167 rfl ?_
  refine es_getI (pc := 168) dX0_become_168 fr_0_52 fld_44_13 ?_
  refine es_putI (pc := 171) dX0_become_171 fr_0_52 fld_88_13 ?_
  refine es_aload_n (pc := 174) dX0_become_174 rfl ?_
  refine es_aload_n (pc := 175) dX0_become_175 rfl ?_
  refine es_getI (pc := 176) dX0_become_176 fr_0_55 fld_44_14 ?_
  refine es_putI (pc := 179) dX0_become_179 fr_0_55 fld_88_14 ?_
  refine es_aload_n (pc := 182) dX0_become_182 rfl ?_
  refine es_aload_n (pc := 183) dX0_become_183 rfl ?_
  refine es_getI (pc := 184) dX0_become_184 fr_0_58 fld_44_15 ?_
  refine es_putI (pc := 187) dX0_become_187 fr_0_58 fld_88_15 ?_
  refine es_aload_n (pc := 190) dX0_become_190 rfl ?_
  refine es_aload_n (pc := 191) dX0_become_191 rfl ?_
  refine es_getI (pc := 192) dX0_become_192 fr_0_61 fld_44_16 ?_
  refine es_putI (pc := 195) dX0_become_195 fr_0_61 fld_88_16 ?_
  refine es_vreturn (pc := 198) dX0_become_198 rfl (by decide) ?_
  refine ⟨rfl, ?_, ?_⟩
  · funext j
    simp only [gR]
    by_cases h59 : j < 59
    · rw [if_pos h59, if_pos h59]
      simp only [ms_full, cp_full]
      by_cases h1 : j < 4
      · simp [h1]
      · by_cases h2 : j < 11
        · simp [h1, h2]
          rcases (show j = 4 ∨ j = 5 ∨ j = 6 ∨ j = 7 ∨ j = 8 ∨ j = 9 ∨ j = 10 by omega) with rfl | rfl | rfl | rfl | rfl | rfl | rfl <;> simp
        · by_cases h3 : j < 21
          · simp [h1, h2, h3]; omega
          · by_cases h4 : j < 31
            · simp [h1, h2, h3, h4]; omega
            · have h5 : (j - 31) / 7 < 4 := by omega
              rcases (show (j - 31) % 7 = 0 ∨ (j - 31) % 7 = 1 ∨ (j - 31) % 7 = 2 ∨ (j - 31) % 7 = 3 ∨ (j - 31) % 7 = 4 ∨ (j - 31) % 7 = 5 ∨ (j - 31) % 7 = 6 by omega) with q | q | q | q | q | q | q <;> simp [h1, h2, h3, h4, h5, q]
    · rw [if_neg h59, if_neg h59]
  · intro q hq
    repeat (first | rfl | rw [ms_ne (by omega)] | rw [cp_ne (by omega)])
set_option maxHeartbeats 2000000 in
set_option maxRecDepth 20000 in
theorem X0_become_44_99 {d : Nat} {μ : ev_M}  (hd : 1 ≤ d := by omega) : SPv (ev_CALL d) 45 [.ref 44, .ref 99] μ (fun μ2 => gR μ2 44 = gR μ 99 ∧ gm_Fr 44 μ μ2) := by
  obtain ⟨d, rfl⟩ : ∃ q, d = q + 1 := ⟨d - 1, by omega⟩
  refine SPv.of (Nat.le_of_ble_eq_true rfl) ?_
  show es (ev_CALL d) 0 cX0_become none 0 (0, fun _ => 0, []) (fun r μ2 => r = (none, 0) ∧ (fun μ2 => gR μ2 44 = gR μ 99 ∧ gm_Fr 44 μ μ2) μ2) 0 [.ref 44, .ref 99] [] μ 0
  refine es_aload_n (pc := 0) dX0_become_0 rfl ?_
  refine es_getR (pc := 1) dX0_become_1 fr_0_9 fld_99_0 ?_
  refine es_iconstN (pc := 4) 0 dX0_become_4 ic_0 ?_
  refine es_aload_n (pc := 5) dX0_become_5 rfl ?_
  refine es_getR (pc := 6) dX0_become_6 fr_0_9 fld_44_0 ?_
  refine es_iconstN (pc := 9) 0 dX0_become_9 ic_0 ?_
  refine es_bipushN (pc := 10) 10 dX0_become_10 bp_10 ?_
  refine es_copy (pc := 12) dX0_become_12 (by decide +kernel) lay_100 lay_45 (by omega) (by omega) (Nat.le_of_ble_eq_true rfl) ?_
  refine es_aload_n (pc := 15) dX0_become_15 rfl ?_
  refine es_getR (pc := 16) dX0_become_16 fr_0_15 fld_99_1 ?_
  refine es_iconstN (pc := 19) 0 dX0_become_19 ic_0 ?_
  refine es_aload_n (pc := 20) dX0_become_20 rfl ?_
  refine es_getR (pc := 21) dX0_become_21 fr_0_15 fld_44_1 ?_
  refine es_iconstN (pc := 24) 0 dX0_become_24 ic_0 ?_
  refine es_bipushN (pc := 25) 10 dX0_become_25 bp_10 ?_
  refine es_copy (pc := 27) dX0_become_27 (by decide +kernel) lay_101 lay_46 (by omega) (by omega) (Nat.le_of_ble_eq_true rfl) ?_
  refine es_aload_n (pc := 30) dX0_become_30 rfl ?_
  refine es_getR (pc := 31) dX0_become_31 fr_0_18 fld_99_2 ?_
  refine es_iconstN (pc := 34) 0 dX0_become_34 ic_0 ?_
  refine es_aload_n (pc := 35) dX0_become_35 rfl ?_
  refine es_getR (pc := 36) dX0_become_36 fr_0_18 fld_44_2 ?_
  refine es_iconstN (pc := 39) 0 dX0_become_39 ic_0 ?_
  refine es_iconstN (pc := 40) 4 dX0_become_40 ic_4 ?_
  refine es_copy (pc := 41) dX0_become_41 (by decide +kernel) lay_102 lay_47 (by omega) (by omega) (Nat.le_of_ble_eq_true rfl) ?_
  refine es_aload_n (pc := 44) dX0_become_44 rfl ?_
  refine es_getR (pc := 45) dX0_become_45 fr_0_21 fld_99_3 ?_
  refine es_iconstN (pc := 48) 0 dX0_become_48 ic_0 ?_
  refine es_aload_n (pc := 49) dX0_become_49 rfl ?_
  refine es_getR (pc := 50) dX0_become_50 fr_0_21 fld_44_3 ?_
  refine es_iconstN (pc := 53) 0 dX0_become_53 ic_0 ?_
  refine es_iconstN (pc := 54) 4 dX0_become_54 ic_4 ?_
  refine es_copy (pc := 55) dX0_become_55 (by decide +kernel) lay_103 lay_48 (by omega) (by omega) (Nat.le_of_ble_eq_true rfl) ?_
  refine es_aload_n (pc := 58) dX0_become_58 rfl ?_
  refine es_getR (pc := 59) dX0_become_59 fr_0_24 fld_99_4 ?_
  refine es_iconstN (pc := 62) 0 dX0_become_62 ic_0 ?_
  refine es_aload_n (pc := 63) dX0_become_63 rfl ?_
  refine es_getR (pc := 64) dX0_become_64 fr_0_24 fld_44_4 ?_
  refine es_iconstN (pc := 67) 0 dX0_become_67 ic_0 ?_
  refine es_iconstN (pc := 68) 4 dX0_become_68 ic_4 ?_
  refine es_copy (pc := 69) dX0_become_69 (by decide +kernel) lay_104 lay_49 (by omega) (by omega) (Nat.le_of_ble_eq_true rfl) ?_
  refine es_aload_n (pc := 72) dX0_become_72 rfl ?_
  refine es_getR (pc := 73) dX0_become_73 fr_0_27 fld_99_5 ?_
  refine es_iconstN (pc := 76) 0 dX0_become_76 ic_0 ?_
  refine es_aload_n (pc := 77) dX0_become_77 rfl ?_
  refine es_getR (pc := 78) dX0_become_78 fr_0_27 fld_44_5 ?_
  refine es_iconstN (pc := 81) 0 dX0_become_81 ic_0 ?_
  refine es_iconstN (pc := 82) 4 dX0_become_82 ic_4 ?_
  refine es_copy (pc := 83) dX0_become_83 (by decide +kernel) lay_105 lay_50 (by omega) (by omega) (Nat.le_of_ble_eq_true rfl) ?_
  refine es_aload_n (pc := 86) dX0_become_86 rfl ?_
  refine es_getR (pc := 87) dX0_become_87 fr_0_30 fld_99_6 ?_
  refine es_iconstN (pc := 90) 0 dX0_become_90 ic_0 ?_
  refine es_aload_n (pc := 91) dX0_become_91 rfl ?_
  refine es_getR (pc := 92) dX0_become_92 fr_0_30 fld_44_6 ?_
  refine es_iconstN (pc := 95) 0 dX0_become_95 ic_0 ?_
  refine es_iconstN (pc := 96) 4 dX0_become_96 ic_4 ?_
  refine es_copy (pc := 97) dX0_become_97 (by decide +kernel) lay_106 lay_51 (by omega) (by omega) (Nat.le_of_ble_eq_true rfl) ?_
  refine es_aload_n (pc := 100) dX0_become_100 rfl ?_
  refine es_getR (pc := 101) dX0_become_101 fr_0_33 fld_99_7 ?_
  refine es_iconstN (pc := 104) 0 dX0_become_104 ic_0 ?_
  refine es_aload_n (pc := 105) dX0_become_105 rfl ?_
  refine es_getR (pc := 106) dX0_become_106 fr_0_33 fld_44_7 ?_
  refine es_iconstN (pc := 109) 0 dX0_become_109 ic_0 ?_
  refine es_iconstN (pc := 110) 4 dX0_become_110 ic_4 ?_
  refine es_copy (pc := 111) dX0_become_111 (by decide +kernel) lay_107 lay_52 (by omega) (by omega) (Nat.le_of_ble_eq_true rfl) ?_
  refine es_aload_n (pc := 114) dX0_become_114 rfl ?_
  refine es_getR (pc := 115) dX0_become_115 fr_0_36 fld_99_8 ?_
  refine es_iconstN (pc := 118) 0 dX0_become_118 ic_0 ?_
  refine es_aload_n (pc := 119) dX0_become_119 rfl ?_
  refine es_getR (pc := 120) dX0_become_120 fr_0_36 fld_44_8 ?_
  refine es_iconstN (pc := 123) 0 dX0_become_123 ic_0 ?_
  refine es_iconstN (pc := 124) 4 dX0_become_124 ic_4 ?_
  refine es_copy (pc := 125) dX0_become_125 (by decide +kernel) lay_108 lay_53 (by omega) (by omega) (Nat.le_of_ble_eq_true rfl) ?_
  refine es_aload_n (pc := 128) dX0_become_128 rfl ?_
  refine es_getR (pc := 129) dX0_become_129 fr_0_39 fld_99_9 ?_
  refine es_iconstN (pc := 132) 0 dX0_become_132 ic_0 ?_
  refine es_aload_n (pc := 133) dX0_become_133 rfl ?_
  refine es_getR (pc := 134) dX0_become_134 fr_0_39 fld_44_9 ?_
  refine es_iconstN (pc := 137) 0 dX0_become_137 ic_0 ?_
  refine es_iconstN (pc := 138) 4 dX0_become_138 ic_4 ?_
  refine es_copy (pc := 139) dX0_become_139 (by decide +kernel) lay_109 lay_54 (by omega) (by omega) (Nat.le_of_ble_eq_true rfl) ?_
  refine es_aload_n (pc := 142) dX0_become_142 rfl ?_
  refine es_aload_n (pc := 143) dX0_become_143 rfl ?_
  refine es_getI (pc := 144) dX0_become_144 fr_0_42 fld_99_10 ?_
  refine es_putI (pc := 147) dX0_become_147 fr_0_42 fld_44_10 ?_
  refine es_aload_n (pc := 150) dX0_become_150 rfl ?_
  refine es_aload_n (pc := 151) dX0_become_151 rfl ?_
  refine es_getI (pc := 152) dX0_become_152 fr_0_46 fld_99_11 ?_
  refine es_putI (pc := 155) dX0_become_155 fr_0_46 fld_44_11 ?_
  refine es_aload_n (pc := 158) dX0_become_158 rfl ?_
  refine es_aload_n (pc := 159) dX0_become_159 rfl ?_
  refine es_getI (pc := 160) dX0_become_160 fr_0_49 fld_99_12 ?_
  refine es_putI (pc := 163) dX0_become_163 fr_0_49 fld_44_12 ?_
  refine es_aload_n (pc := 166) dX0_become_166 rfl ?_
  refine es_aload_n (pc := 167) dX0_become_167 rfl ?_
  refine es_getI (pc := 168) dX0_become_168 fr_0_52 fld_99_13 ?_
  refine es_putI (pc := 171) dX0_become_171 fr_0_52 fld_44_13 ?_
  refine es_aload_n (pc := 174) dX0_become_174 rfl ?_
  refine es_aload_n (pc := 175) dX0_become_175 rfl ?_
  refine es_getI (pc := 176) dX0_become_176 fr_0_55 fld_99_14 ?_
  refine es_putI (pc := 179) dX0_become_179 fr_0_55 fld_44_14 ?_
  refine es_aload_n (pc := 182) dX0_become_182 rfl ?_
  refine es_aload_n (pc := 183) dX0_become_183 rfl ?_
  refine es_getI (pc := 184) dX0_become_184 fr_0_58 fld_99_15 ?_
  refine es_putI (pc := 187) dX0_become_187 fr_0_58 fld_44_15 ?_
  refine es_aload_n (pc := 190) dX0_become_190 rfl ?_
  refine es_aload_n (pc := 191) dX0_become_191 rfl ?_
  refine es_getI (pc := 192) dX0_become_192 fr_0_61 fld_99_16 ?_
  refine es_putI (pc := 195) dX0_become_195 fr_0_61 fld_44_16 ?_
  refine es_vreturn (pc := 198) dX0_become_198 rfl (by decide) ?_
  refine ⟨rfl, ?_, ?_⟩
  · funext j
    simp only [gR]
    by_cases h59 : j < 59
    · rw [if_pos h59, if_pos h59]
      simp only [ms_full, cp_full]
      by_cases h1 : j < 4
      · simp [h1]
      · by_cases h2 : j < 11
        · simp [h1, h2]
          rcases (show j = 4 ∨ j = 5 ∨ j = 6 ∨ j = 7 ∨ j = 8 ∨ j = 9 ∨ j = 10 by omega) with rfl | rfl | rfl | rfl | rfl | rfl | rfl <;> simp
        · by_cases h3 : j < 21
          · simp [h1, h2, h3]; omega
          · by_cases h4 : j < 31
            · simp [h1, h2, h3, h4]; omega
            · have h5 : (j - 31) / 7 < 4 := by omega
              rcases (show (j - 31) % 7 = 0 ∨ (j - 31) % 7 = 1 ∨ (j - 31) % 7 = 2 ∨ (j - 31) % 7 = 3 ∨ (j - 31) % 7 = 4 ∨ (j - 31) % 7 = 5 ∨ (j - 31) % 7 = 6 by omega) with q | q | q | q | q | q | q <;> simp [h1, h2, h3, h4, h5, q]
    · rw [if_neg h59, if_neg h59]
  · intro q hq
    repeat (first | rfl | rw [ms_ne (by omega)] | rw [cp_ne (by omega)])
set_option maxHeartbeats 2000000 in
set_option maxRecDepth 20000 in
theorem X0_become_99_44 {d : Nat} {μ : ev_M}  (hd : 1 ≤ d := by omega) : SPv (ev_CALL d) 45 [.ref 99, .ref 44] μ (fun μ2 => gR μ2 99 = gR μ 44 ∧ gm_Fr 99 μ μ2) := by
  obtain ⟨d, rfl⟩ : ∃ q, d = q + 1 := ⟨d - 1, by omega⟩
  refine SPv.of (Nat.le_of_ble_eq_true rfl) ?_
  show es (ev_CALL d) 0 cX0_become none 0 (0, fun _ => 0, []) (fun r μ2 => r = (none, 0) ∧ (fun μ2 => gR μ2 99 = gR μ 44 ∧ gm_Fr 99 μ μ2) μ2) 0 [.ref 99, .ref 44] [] μ 0
  refine es_aload_n (pc := 0) dX0_become_0 rfl ?_
  refine es_getR (pc := 1) dX0_become_1 fr_0_9 fld_44_0 ?_
  refine es_iconstN (pc := 4) 0 dX0_become_4 ic_0 ?_
  refine es_aload_n (pc := 5) dX0_become_5 rfl ?_
  refine es_getR (pc := 6) dX0_become_6 fr_0_9 fld_99_0 ?_
  refine es_iconstN (pc := 9) 0 dX0_become_9 ic_0 ?_
  refine es_bipushN (pc := 10) 10 dX0_become_10 bp_10 ?_
  refine es_copy (pc := 12) dX0_become_12 (by decide +kernel) lay_45 lay_100 (by omega) (by omega) (Nat.le_of_ble_eq_true rfl) ?_
  refine es_aload_n (pc := 15) dX0_become_15 rfl ?_
  refine es_getR (pc := 16) dX0_become_16 fr_0_15 fld_44_1 ?_
  refine es_iconstN (pc := 19) 0 dX0_become_19 ic_0 ?_
  refine es_aload_n (pc := 20) dX0_become_20 rfl ?_
  refine es_getR (pc := 21) dX0_become_21 fr_0_15 fld_99_1 ?_
  refine es_iconstN (pc := 24) 0 dX0_become_24 ic_0 ?_
  refine es_bipushN (pc := 25) 10 dX0_become_25 bp_10 ?_
  refine es_copy (pc := 27) dX0_become_27 (by decide +kernel) lay_46 lay_101 (by omega) (by omega) (Nat.le_of_ble_eq_true rfl) ?_
  refine es_aload_n (pc := 30) dX0_become_30 rfl ?_
  refine es_getR (pc := 31) dX0_become_31 fr_0_18 fld_44_2 ?_
  refine es_iconstN (pc := 34) 0 dX0_become_34 ic_0 ?_
  refine es_aload_n (pc := 35) dX0_become_35 rfl ?_
  refine es_getR (pc := 36) dX0_become_36 fr_0_18 fld_99_2 ?_
  refine es_iconstN (pc := 39) 0 dX0_become_39 ic_0 ?_
  refine es_iconstN (pc := 40) 4 dX0_become_40 ic_4 ?_
  refine es_copy (pc := 41) dX0_become_41 (by decide +kernel) lay_47 lay_102 (by omega) (by omega) (Nat.le_of_ble_eq_true rfl) ?_
  refine es_aload_n (pc := 44) dX0_become_44 rfl ?_
  refine es_getR (pc := 45) dX0_become_45 fr_0_21 fld_44_3 ?_
  refine es_iconstN (pc := 48) 0 dX0_become_48 ic_0 ?_
  refine es_aload_n (pc := 49) dX0_become_49 rfl ?_
  refine es_getR (pc := 50) dX0_become_50 fr_0_21 fld_99_3 ?_
  refine es_iconstN (pc := 53) 0 dX0_become_53 ic_0 ?_
  refine es_iconstN (pc := 54) 4 dX0_become_54 ic_4 ?_
  refine es_copy (pc := 55) dX0_become_55 (by decide +kernel) lay_48 lay_103 (by omega) (by omega) (Nat.le_of_ble_eq_true rfl) ?_
  refine es_aload_n (pc := 58) dX0_become_58 rfl ?_
  refine es_getR (pc := 59) dX0_become_59 fr_0_24 fld_44_4 ?_
  refine es_iconstN (pc := 62) 0 dX0_become_62 ic_0 ?_
  refine es_aload_n (pc := 63) dX0_become_63 rfl ?_
  refine es_getR (pc := 64) dX0_become_64 fr_0_24 fld_99_4 ?_
  refine es_iconstN (pc := 67) 0 dX0_become_67 ic_0 ?_
  refine es_iconstN (pc := 68) 4 dX0_become_68 ic_4 ?_
  refine es_copy (pc := 69) dX0_become_69 (by decide +kernel) lay_49 lay_104 (by omega) (by omega) (Nat.le_of_ble_eq_true rfl) ?_
  refine es_aload_n (pc := 72) dX0_become_72 rfl ?_
  refine es_getR (pc := 73) dX0_become_73 fr_0_27 fld_44_5 ?_
  refine es_iconstN (pc := 76) 0 dX0_become_76 ic_0 ?_
  refine es_aload_n (pc := 77) dX0_become_77 rfl ?_
  refine es_getR (pc := 78) dX0_become_78 fr_0_27 fld_99_5 ?_
  refine es_iconstN (pc := 81) 0 dX0_become_81 ic_0 ?_
  refine es_iconstN (pc := 82) 4 dX0_become_82 ic_4 ?_
  refine es_copy (pc := 83) dX0_become_83 (by decide +kernel) lay_50 lay_105 (by omega) (by omega) (Nat.le_of_ble_eq_true rfl) ?_
  refine es_aload_n (pc := 86) dX0_become_86 rfl ?_
  refine es_getR (pc := 87) dX0_become_87 fr_0_30 fld_44_6 ?_
  refine es_iconstN (pc := 90) 0 dX0_become_90 ic_0 ?_
  refine es_aload_n (pc := 91) dX0_become_91 rfl ?_
  refine es_getR (pc := 92) dX0_become_92 fr_0_30 fld_99_6 ?_
  refine es_iconstN (pc := 95) 0 dX0_become_95 ic_0 ?_
  refine es_iconstN (pc := 96) 4 dX0_become_96 ic_4 ?_
  refine es_copy (pc := 97) dX0_become_97 (by decide +kernel) lay_51 lay_106 (by omega) (by omega) (Nat.le_of_ble_eq_true rfl) ?_
  refine es_aload_n (pc := 100) dX0_become_100 rfl ?_
  refine es_getR (pc := 101) dX0_become_101 fr_0_33 fld_44_7 ?_
  refine es_iconstN (pc := 104) 0 dX0_become_104 ic_0 ?_
  refine es_aload_n (pc := 105) dX0_become_105 rfl ?_
  refine es_getR (pc := 106) dX0_become_106 fr_0_33 fld_99_7 ?_
  refine es_iconstN (pc := 109) 0 dX0_become_109 ic_0 ?_
  refine es_iconstN (pc := 110) 4 dX0_become_110 ic_4 ?_
  refine es_copy (pc := 111) dX0_become_111 (by decide +kernel) lay_52 lay_107 (by omega) (by omega) (Nat.le_of_ble_eq_true rfl) ?_
  refine es_aload_n (pc := 114) dX0_become_114 rfl ?_
  refine es_getR (pc := 115) dX0_become_115 fr_0_36 fld_44_8 ?_
  refine es_iconstN (pc := 118) 0 dX0_become_118 ic_0 ?_
  refine es_aload_n (pc := 119) dX0_become_119 rfl ?_
  refine es_getR (pc := 120) dX0_become_120 fr_0_36 fld_99_8 ?_
  refine es_iconstN (pc := 123) 0 dX0_become_123 ic_0 ?_
  refine es_iconstN (pc := 124) 4 dX0_become_124 ic_4 ?_
  refine es_copy (pc := 125) dX0_become_125 (by decide +kernel) lay_53 lay_108 (by omega) (by omega) (Nat.le_of_ble_eq_true rfl) ?_
  refine es_aload_n (pc := 128) dX0_become_128 rfl ?_
  refine es_getR (pc := 129) dX0_become_129 fr_0_39 fld_44_9 ?_
  refine es_iconstN (pc := 132) 0 dX0_become_132 ic_0 ?_
  refine es_aload_n (pc := 133) dX0_become_133 rfl ?_
  refine es_getR (pc := 134) dX0_become_134 fr_0_39 fld_99_9 ?_
  refine es_iconstN (pc := 137) 0 dX0_become_137 ic_0 ?_
  refine es_iconstN (pc := 138) 4 dX0_become_138 ic_4 ?_
  refine es_copy (pc := 139) dX0_become_139 (by decide +kernel) lay_54 lay_109 (by omega) (by omega) (Nat.le_of_ble_eq_true rfl) ?_
  refine es_aload_n (pc := 142) dX0_become_142 rfl ?_
  refine es_aload_n (pc := 143) dX0_become_143 rfl ?_
  refine es_getI (pc := 144) dX0_become_144 fr_0_42 fld_44_10 ?_
  refine es_putI (pc := 147) dX0_become_147 fr_0_42 fld_99_10 ?_
  refine es_aload_n (pc := 150) dX0_become_150 rfl ?_
  refine es_aload_n (pc := 151) dX0_become_151 rfl ?_
  refine es_getI (pc := 152) dX0_become_152 fr_0_46 fld_44_11 ?_
  refine es_putI (pc := 155) dX0_become_155 fr_0_46 fld_99_11 ?_
  refine es_aload_n (pc := 158) dX0_become_158 rfl ?_
  refine es_aload_n (pc := 159) dX0_become_159 rfl ?_
  refine es_getI (pc := 160) dX0_become_160 fr_0_49 fld_44_12 ?_
  refine es_putI (pc := 163) dX0_become_163 fr_0_49 fld_99_12 ?_
  refine es_aload_n (pc := 166) dX0_become_166 rfl ?_
  refine es_aload_n (pc := 167) dX0_become_167 rfl ?_
  refine es_getI (pc := 168) dX0_become_168 fr_0_52 fld_44_13 ?_
  refine es_putI (pc := 171) dX0_become_171 fr_0_52 fld_99_13 ?_
  refine es_aload_n (pc := 174) dX0_become_174 rfl ?_
  refine es_aload_n (pc := 175) dX0_become_175 rfl ?_
  refine es_getI (pc := 176) dX0_become_176 fr_0_55 fld_44_14 ?_
  refine es_putI (pc := 179) dX0_become_179 fr_0_55 fld_99_14 ?_
  refine es_aload_n (pc := 182) dX0_become_182 rfl ?_
  refine es_aload_n (pc := 183) dX0_become_183 rfl ?_
  refine es_getI (pc := 184) dX0_become_184 fr_0_58 fld_44_15 ?_
  refine es_putI (pc := 187) dX0_become_187 fr_0_58 fld_99_15 ?_
  refine es_aload_n (pc := 190) dX0_become_190 rfl ?_
  refine es_aload_n (pc := 191) dX0_become_191 rfl ?_
  refine es_getI (pc := 192) dX0_become_192 fr_0_61 fld_44_16 ?_
  refine es_putI (pc := 195) dX0_become_195 fr_0_61 fld_99_16 ?_
  refine es_vreturn (pc := 198) dX0_become_198 rfl (by decide) ?_
  refine ⟨rfl, ?_, ?_⟩
  · funext j
    simp only [gR]
    by_cases h59 : j < 59
    · rw [if_pos h59, if_pos h59]
      simp only [ms_full, cp_full]
      by_cases h1 : j < 4
      · simp [h1]
      · by_cases h2 : j < 11
        · simp [h1, h2]
          rcases (show j = 4 ∨ j = 5 ∨ j = 6 ∨ j = 7 ∨ j = 8 ∨ j = 9 ∨ j = 10 by omega) with rfl | rfl | rfl | rfl | rfl | rfl | rfl <;> simp
        · by_cases h3 : j < 21
          · simp [h1, h2, h3]; omega
          · by_cases h4 : j < 31
            · simp [h1, h2, h3, h4]; omega
            · have h5 : (j - 31) / 7 < 4 := by omega
              rcases (show (j - 31) % 7 = 0 ∨ (j - 31) % 7 = 1 ∨ (j - 31) % 7 = 2 ∨ (j - 31) % 7 = 3 ∨ (j - 31) % 7 = 4 ∨ (j - 31) % 7 = 5 ∨ (j - 31) % 7 = 6 by omega) with q | q | q | q | q | q | q <;> simp [h1, h2, h3, h4, h5, q]
    · rw [if_neg h59, if_neg h59]
  · intro q hq
    repeat (first | rfl | rw [ms_ne (by omega)] | rw [cp_ne (by omega)])
set_option maxHeartbeats 2000000 in
set_option maxRecDepth 20000 in
theorem X0_become_44_110 {d : Nat} {μ : ev_M}  (hd : 1 ≤ d := by omega) : SPv (ev_CALL d) 45 [.ref 44, .ref 110] μ (fun μ2 => gR μ2 44 = gR μ 110 ∧ gm_Fr 44 μ μ2) := by
  obtain ⟨d, rfl⟩ : ∃ q, d = q + 1 := ⟨d - 1, by omega⟩
  refine SPv.of (Nat.le_of_ble_eq_true rfl) ?_
  show es (ev_CALL d) 0 cX0_become none 0 (0, fun _ => 0, []) (fun r μ2 => r = (none, 0) ∧ (fun μ2 => gR μ2 44 = gR μ 110 ∧ gm_Fr 44 μ μ2) μ2) 0 [.ref 44, .ref 110] [] μ 0
  refine es_aload_n (pc := 0) dX0_become_0 rfl ?_
  refine es_getR (pc := 1) dX0_become_1 fr_0_9 fld_110_0 ?_
  refine es_iconstN (pc := 4) 0 dX0_become_4 ic_0 ?_
  refine es_aload_n (pc := 5) dX0_become_5 rfl ?_
  refine es_getR (pc := 6) dX0_become_6 fr_0_9 fld_44_0 ?_
  refine es_iconstN (pc := 9) 0 dX0_become_9 ic_0 ?_
  refine es_bipushN (pc := 10) 10 dX0_become_10 bp_10 ?_
  refine es_copy (pc := 12) dX0_become_12 (by decide +kernel) lay_111 lay_45 (by omega) (by omega) (Nat.le_of_ble_eq_true rfl) ?_
  refine es_aload_n (pc := 15) dX0_become_15 rfl ?_
  refine es_getR (pc := 16) dX0_become_16 fr_0_15 fld_110_1 ?_
  refine es_iconstN (pc := 19) 0 dX0_become_19 ic_0 ?_
  refine es_aload_n (pc := 20) dX0_become_20 rfl ?_
  refine es_getR (pc := 21) dX0_become_21 fr_0_15 fld_44_1 ?_
  refine es_iconstN (pc := 24) 0 dX0_become_24 ic_0 ?_
  refine es_bipushN (pc := 25) 10 dX0_become_25 bp_10 ?_
  refine es_copy (pc := 27) dX0_become_27 (by decide +kernel) lay_112 lay_46 (by omega) (by omega) (Nat.le_of_ble_eq_true rfl) ?_
  refine es_aload_n (pc := 30) dX0_become_30 rfl ?_
  refine es_getR (pc := 31) dX0_become_31 fr_0_18 fld_110_2 ?_
  refine es_iconstN (pc := 34) 0 dX0_become_34 ic_0 ?_
  refine es_aload_n (pc := 35) dX0_become_35 rfl ?_
  refine es_getR (pc := 36) dX0_become_36 fr_0_18 fld_44_2 ?_
  refine es_iconstN (pc := 39) 0 dX0_become_39 ic_0 ?_
  refine es_iconstN (pc := 40) 4 dX0_become_40 ic_4 ?_
  refine es_copy (pc := 41) dX0_become_41 (by decide +kernel) lay_113 lay_47 (by omega) (by omega) (Nat.le_of_ble_eq_true rfl) ?_
  refine es_aload_n (pc := 44) dX0_become_44 rfl ?_
  refine es_getR (pc := 45) dX0_become_45 fr_0_21 fld_110_3 ?_
  refine es_iconstN (pc := 48) 0 dX0_become_48 ic_0 ?_
  refine es_aload_n (pc := 49) dX0_become_49 rfl ?_
  refine es_getR (pc := 50) dX0_become_50 fr_0_21 fld_44_3 ?_
  refine es_iconstN (pc := 53) 0 dX0_become_53 ic_0 ?_
  refine es_iconstN (pc := 54) 4 dX0_become_54 ic_4 ?_
  refine es_copy (pc := 55) dX0_become_55 (by decide +kernel) lay_114 lay_48 (by omega) (by omega) (Nat.le_of_ble_eq_true rfl) ?_
  refine es_aload_n (pc := 58) dX0_become_58 rfl ?_
  refine es_getR (pc := 59) dX0_become_59 fr_0_24 fld_110_4 ?_
  refine es_iconstN (pc := 62) 0 dX0_become_62 ic_0 ?_
  refine es_aload_n (pc := 63) dX0_become_63 rfl ?_
  refine es_getR (pc := 64) dX0_become_64 fr_0_24 fld_44_4 ?_
  refine es_iconstN (pc := 67) 0 dX0_become_67 ic_0 ?_
  refine es_iconstN (pc := 68) 4 dX0_become_68 ic_4 ?_
  refine es_copy (pc := 69) dX0_become_69 (by decide +kernel) lay_115 lay_49 (by omega) (by omega) (Nat.le_of_ble_eq_true rfl) ?_
  refine es_aload_n (pc := 72) dX0_become_72 rfl ?_
  refine es_getR (pc := 73) dX0_become_73 fr_0_27 fld_110_5 ?_
  refine es_iconstN (pc := 76) 0 dX0_become_76 ic_0 ?_
  refine es_aload_n (pc := 77) dX0_become_77 rfl ?_
  refine es_getR (pc := 78) dX0_become_78 fr_0_27 fld_44_5 ?_
  refine es_iconstN (pc := 81) 0 dX0_become_81 ic_0 ?_
  refine es_iconstN (pc := 82) 4 dX0_become_82 ic_4 ?_
  refine es_copy (pc := 83) dX0_become_83 (by decide +kernel) lay_116 lay_50 (by omega) (by omega) (Nat.le_of_ble_eq_true rfl) ?_
  refine es_aload_n (pc := 86) dX0_become_86 rfl ?_
  refine es_getR (pc := 87) dX0_become_87 fr_0_30 fld_110_6 ?_
  refine es_iconstN (pc := 90) 0 dX0_become_90 ic_0 ?_
  refine es_aload_n (pc := 91) dX0_become_91 rfl ?_
  refine es_getR (pc := 92) dX0_become_92 fr_0_30 fld_44_6 ?_
  refine es_iconstN (pc := 95) 0 dX0_become_95 ic_0 ?_
  refine es_iconstN (pc := 96) 4 dX0_become_96 ic_4 ?_
  refine es_copy (pc := 97) dX0_become_97 (by decide +kernel) lay_117 lay_51 (by omega) (by omega) (Nat.le_of_ble_eq_true rfl) ?_
  refine es_aload_n (pc := 100) dX0_become_100 rfl ?_
  refine es_getR (pc := 101) dX0_become_101 fr_0_33 fld_110_7 ?_
  refine es_iconstN (pc := 104) 0 dX0_become_104 ic_0 ?_
  refine es_aload_n (pc := 105) dX0_become_105 rfl ?_
  refine es_getR (pc := 106) dX0_become_106 fr_0_33 fld_44_7 ?_
  refine es_iconstN (pc := 109) 0 dX0_become_109 ic_0 ?_
  refine es_iconstN (pc := 110) 4 dX0_become_110 ic_4 ?_
  refine es_copy (pc := 111) dX0_become_111 (by decide +kernel) lay_118 lay_52 (by omega) (by omega) (Nat.le_of_ble_eq_true rfl) ?_
  refine es_aload_n (pc := 114) dX0_become_114 rfl ?_
  refine es_getR (pc := 115) dX0_become_115 fr_0_36 fld_110_8 ?_
  refine es_iconstN (pc := 118) 0 dX0_become_118 ic_0 ?_
  refine es_aload_n (pc := 119) dX0_become_119 rfl ?_
  refine es_getR (pc := 120) dX0_become_120 fr_0_36 fld_44_8 ?_
  refine es_iconstN (pc := 123) 0 dX0_become_123 ic_0 ?_
  refine es_iconstN (pc := 124) 4 dX0_become_124 ic_4 ?_
  refine es_copy (pc := 125) dX0_become_125 (by decide +kernel) lay_119 lay_53 (by omega) (by omega) (Nat.le_of_ble_eq_true rfl) ?_
  refine es_aload_n (pc := 128) dX0_become_128 rfl ?_
  refine es_getR (pc := 129) dX0_become_129 fr_0_39 fld_110_9 ?_
  refine es_iconstN (pc := 132) 0 dX0_become_132 ic_0 ?_
  refine es_aload_n (pc := 133) dX0_become_133 rfl ?_
  refine es_getR (pc := 134) dX0_become_134 fr_0_39 fld_44_9 ?_
  refine es_iconstN (pc := 137) 0 dX0_become_137 ic_0 ?_
  refine es_iconstN (pc := 138) 4 dX0_become_138 ic_4 ?_
  refine es_copy (pc := 139) dX0_become_139 (by decide +kernel) lay_120 lay_54 (by omega) (by omega) (Nat.le_of_ble_eq_true rfl) ?_
  refine es_aload_n (pc := 142) dX0_become_142 rfl ?_
  refine es_aload_n (pc := 143) dX0_become_143 rfl ?_
  refine es_getI (pc := 144) dX0_become_144 fr_0_42 fld_110_10 ?_
  refine es_putI (pc := 147) dX0_become_147 fr_0_42 fld_44_10 ?_
  refine es_aload_n (pc := 150) dX0_become_150 rfl ?_
  refine es_aload_n (pc := 151) dX0_become_151 rfl ?_
  refine es_getI (pc := 152) dX0_become_152 fr_0_46 fld_110_11 ?_
  refine es_putI (pc := 155) dX0_become_155 fr_0_46 fld_44_11 ?_
  refine es_aload_n (pc := 158) dX0_become_158 rfl ?_
  refine es_aload_n (pc := 159) dX0_become_159 rfl ?_
  refine es_getI (pc := 160) dX0_become_160 fr_0_49 fld_110_12 ?_
  refine es_putI (pc := 163) dX0_become_163 fr_0_49 fld_44_12 ?_
  refine es_aload_n (pc := 166) dX0_become_166 rfl ?_
  refine es_aload_n (pc := 167) dX0_become_167 rfl ?_
  refine es_getI (pc := 168) dX0_become_168 fr_0_52 fld_110_13 ?_
  refine es_putI (pc := 171) dX0_become_171 fr_0_52 fld_44_13 ?_
  refine es_aload_n (pc := 174) dX0_become_174 rfl ?_
  refine es_aload_n (pc := 175) dX0_become_175 rfl ?_
  refine es_getI (pc := 176) dX0_become_176 fr_0_55 fld_110_14 ?_
  refine es_putI (pc := 179) dX0_become_179 fr_0_55 fld_44_14 ?_
  refine es_aload_n (pc := 182) dX0_become_182 rfl ?_
  refine es_aload_n (pc := 183) dX0_become_183 rfl ?_
  refine es_getI (pc := 184) dX0_become_184 fr_0_58 fld_110_15 ?_
  refine es_putI (pc := 187) dX0_become_187 fr_0_58 fld_44_15 ?_
  refine es_aload_n (pc := 190) dX0_become_190 rfl ?_
  refine es_aload_n (pc := 191) dX0_become_191 rfl ?_
  refine es_getI (pc := 192) dX0_become_192 fr_0_61 fld_110_16 ?_
  refine es_putI (pc := 195) dX0_become_195 fr_0_61 fld_44_16 ?_
  refine es_vreturn (pc := 198) dX0_become_198 rfl (by decide) ?_
  refine ⟨rfl, ?_, ?_⟩
  · funext j
    simp only [gR]
    by_cases h59 : j < 59
    · rw [if_pos h59, if_pos h59]
      simp only [ms_full, cp_full]
      by_cases h1 : j < 4
      · simp [h1]
      · by_cases h2 : j < 11
        · simp [h1, h2]
          rcases (show j = 4 ∨ j = 5 ∨ j = 6 ∨ j = 7 ∨ j = 8 ∨ j = 9 ∨ j = 10 by omega) with rfl | rfl | rfl | rfl | rfl | rfl | rfl <;> simp
        · by_cases h3 : j < 21
          · simp [h1, h2, h3]; omega
          · by_cases h4 : j < 31
            · simp [h1, h2, h3, h4]; omega
            · have h5 : (j - 31) / 7 < 4 := by omega
              rcases (show (j - 31) % 7 = 0 ∨ (j - 31) % 7 = 1 ∨ (j - 31) % 7 = 2 ∨ (j - 31) % 7 = 3 ∨ (j - 31) % 7 = 4 ∨ (j - 31) % 7 = 5 ∨ (j - 31) % 7 = 6 by omega) with q | q | q | q | q | q | q <;> simp [h1, h2, h3, h4, h5, q]
    · rw [if_neg h59, if_neg h59]
  · intro q hq
    repeat (first | rfl | rw [ms_ne (by omega)] | rw [cp_ne (by omega)])
set_option maxHeartbeats 2000000 in
set_option maxRecDepth 20000 in
theorem X0_become_110_44 {d : Nat} {μ : ev_M}  (hd : 1 ≤ d := by omega) : SPv (ev_CALL d) 45 [.ref 110, .ref 44] μ (fun μ2 => gR μ2 110 = gR μ 44 ∧ gm_Fr 110 μ μ2) := by
  obtain ⟨d, rfl⟩ : ∃ q, d = q + 1 := ⟨d - 1, by omega⟩
  refine SPv.of (Nat.le_of_ble_eq_true rfl) ?_
  show es (ev_CALL d) 0 cX0_become none 0 (0, fun _ => 0, []) (fun r μ2 => r = (none, 0) ∧ (fun μ2 => gR μ2 110 = gR μ 44 ∧ gm_Fr 110 μ μ2) μ2) 0 [.ref 110, .ref 44] [] μ 0
  refine es_aload_n (pc := 0) dX0_become_0 rfl ?_
  refine es_getR (pc := 1) dX0_become_1 fr_0_9 fld_44_0 ?_
  refine es_iconstN (pc := 4) 0 dX0_become_4 ic_0 ?_
  refine es_aload_n (pc := 5) dX0_become_5 rfl ?_
  refine es_getR (pc := 6) dX0_become_6 fr_0_9 fld_110_0 ?_
  refine es_iconstN (pc := 9) 0 dX0_become_9 ic_0 ?_
  refine es_bipushN (pc := 10) 10 dX0_become_10 bp_10 ?_
  refine es_copy (pc := 12) dX0_become_12 (by decide +kernel) lay_45 lay_111 (by omega) (by omega) (Nat.le_of_ble_eq_true rfl) ?_
  refine es_aload_n (pc := 15) dX0_become_15 rfl ?_
  refine es_getR (pc := 16) dX0_become_16 fr_0_15 fld_44_1 ?_
  refine es_iconstN (pc := 19) 0 dX0_become_19 ic_0 ?_
  refine es_aload_n (pc := 20) dX0_become_20 rfl ?_
  refine es_getR (pc := 21) dX0_become_21 fr_0_15 fld_110_1 ?_
  refine es_iconstN (pc := 24) 0 dX0_become_24 ic_0 ?_
  refine es_bipushN (pc := 25) 10 dX0_become_25 bp_10 ?_
  refine es_copy (pc := 27) dX0_become_27 (by decide +kernel) lay_46 lay_112 (by omega) (by omega) (Nat.le_of_ble_eq_true rfl) ?_
  refine es_aload_n (pc := 30) dX0_become_30 rfl ?_
  refine es_getR (pc := 31) dX0_become_31 fr_0_18 fld_44_2 ?_
  refine es_iconstN (pc := 34) 0 dX0_become_34 ic_0 ?_
  refine es_aload_n (pc := 35) dX0_become_35 rfl ?_
  refine es_getR (pc := 36) dX0_become_36 fr_0_18 fld_110_2 ?_
  refine es_iconstN (pc := 39) 0 dX0_become_39 ic_0 ?_
  refine es_iconstN (pc := 40) 4 dX0_become_40 ic_4 ?_
  refine es_copy (pc := 41) dX0_become_41 (by decide +kernel) lay_47 lay_113 (by omega) (by omega) (Nat.le_of_ble_eq_true rfl) ?_
  refine es_aload_n (pc := 44) dX0_become_44 rfl ?_
  refine es_getR (pc := 45) dX0_become_45 fr_0_21 fld_44_3 ?_
  refine es_iconstN (pc := 48) 0 dX0_become_48 ic_0 ?_
  refine es_aload_n (pc := 49) dX0_become_49 rfl ?_
  refine es_getR (pc := 50) dX0_become_50 fr_0_21 fld_110_3 ?_
  refine es_iconstN (pc := 53) 0 dX0_become_53 ic_0 ?_
  refine es_iconstN (pc := 54) 4 dX0_become_54 ic_4 ?_
  refine es_copy (pc := 55) dX0_become_55 (by decide +kernel) lay_48 lay_114 (by omega) (by omega) (Nat.le_of_ble_eq_true rfl) ?_
  refine es_aload_n (pc := 58) dX0_become_58 rfl ?_
  refine es_getR (pc := 59) dX0_become_59 fr_0_24 fld_44_4 ?_
  refine es_iconstN (pc := 62) 0 dX0_become_62 ic_0 ?_
  refine es_aload_n (pc := 63) dX0_become_63 rfl ?_
  refine es_getR (pc := 64) dX0_become_64 fr_0_24 fld_110_4 ?_
  refine es_iconstN (pc := 67) 0 dX0_become_67 ic_0 ?_
  refine es_iconstN (pc := 68) 4 dX0_become_68 ic_4 ?_
  refine es_copy (pc := 69) dX0_become_69 (by decide +kernel) lay_49 lay_115 (by omega) (by omega) (Nat.le_of_ble_eq_true rfl) ?_
  refine es_aload_n (pc := 72) dX0_become_72 rfl ?_
  refine es_getR (pc := 73) dX0_become_73 fr_0_27 fld_44_5 ?_
  refine es_iconstN (pc := 76) 0 dX0_become_76 ic_0 ?_
  refine es_aload_n (pc := 77) dX0_become_77 rfl ?_
  refine es_getR (pc := 78) dX0_become_78 fr_0_27 fld_110_5 ?_
  refine es_iconstN (pc := 81) 0 dX0_become_81 ic_0 ?_
  refine es_iconstN (pc := 82) 4 dX0_become_82 ic_4 ?_
  refine es_copy (pc := 83) dX0_become_83 (by decide +kernel) lay_50 lay_116 (by omega) (by omega) (Nat.le_of_ble_eq_true rfl) ?_
  refine es_aload_n (pc := 86) dX0_become_86 rfl ?_
  refine es_getR (pc := 87) dX0_become_87 fr_0_30 fld_44_6 ?_
  refine es_iconstN (pc := 90) 0 dX0_become_90 ic_0 ?_
  refine es_aload_n (pc := 91) dX0_become_91 rfl ?_
  refine es_getR (pc := 92) dX0_become_92 fr_0_30 fld_110_6 ?_
  refine es_iconstN (pc := 95) 0 dX0_become_95 ic_0 ?_
  refine es_iconstN (pc := 96) 4 dX0_become_96 ic_4 ?_
  refine es_copy (pc := 97) dX0_become_97 (by decide +kernel) lay_51 lay_117 (by omega) (by omega) (Nat.le_of_ble_eq_true rfl) ?_
  refine es_aload_n (pc := 100) dX0_become_100 rfl ?_
  refine es_getR (pc := 101) dX0_become_101 fr_0_33 fld_44_7 ?_
  refine es_iconstN (pc := 104) 0 dX0_become_104 ic_0 ?_
  refine es_aload_n (pc := 105) dX0_become_105 rfl ?_
  refine es_getR (pc := 106) dX0_become_106 fr_0_33 fld_110_7 ?_
  refine es_iconstN (pc := 109) 0 dX0_become_109 ic_0 ?_
  refine es_iconstN (pc := 110) 4 dX0_become_110 ic_4 ?_
  refine es_copy (pc := 111) dX0_become_111 (by decide +kernel) lay_52 lay_118 (by omega) (by omega) (Nat.le_of_ble_eq_true rfl) ?_
  refine es_aload_n (pc := 114) dX0_become_114 rfl ?_
  refine es_getR (pc := 115) dX0_become_115 fr_0_36 fld_44_8 ?_
  refine es_iconstN (pc := 118) 0 dX0_become_118 ic_0 ?_
  refine es_aload_n (pc := 119) dX0_become_119 rfl ?_
  refine es_getR (pc := 120) dX0_become_120 fr_0_36 fld_110_8 ?_
  refine es_iconstN (pc := 123) 0 dX0_become_123 ic_0 ?_
  refine es_iconstN (pc := 124) 4 dX0_become_124 ic_4 ?_
  refine es_copy (pc := 125) dX0_become_125 (by decide +kernel) lay_53 lay_119 (by omega) (by omega) (Nat.le_of_ble_eq_true rfl) ?_
  refine es_aload_n (pc := 128) dX0_become_128 rfl ?_
  refine es_getR (pc := 129) dX0_become_129 fr_0_39 fld_44_9 ?_
  refine es_iconstN (pc := 132) 0 dX0_become_132 ic_0 ?_
  refine es_aload_n (pc := 133) dX0_become_133 rfl ?_
  refine es_getR (pc := 134) dX0_become_134 fr_0_39 fld_110_9 ?_
  refine es_iconstN (pc := 137) 0 dX0_become_137 ic_0 ?_
  refine es_iconstN (pc := 138) 4 dX0_become_138 ic_4 ?_
  refine es_copy (pc := 139) dX0_become_139 (by decide +kernel) lay_54 lay_120 (by omega) (by omega) (Nat.le_of_ble_eq_true rfl) ?_
  refine es_aload_n (pc := 142) dX0_become_142 rfl ?_
  refine es_aload_n (pc := 143) dX0_become_143 rfl ?_
  refine es_getI (pc := 144) dX0_become_144 fr_0_42 fld_44_10 ?_
  refine es_putI (pc := 147) dX0_become_147 fr_0_42 fld_110_10 ?_
  refine es_aload_n (pc := 150) dX0_become_150 rfl ?_
  refine es_aload_n (pc := 151) dX0_become_151 rfl ?_
  refine es_getI (pc := 152) dX0_become_152 fr_0_46 fld_44_11 ?_
  refine es_putI (pc := 155) dX0_become_155 fr_0_46 fld_110_11 ?_
  refine es_aload_n (pc := 158) dX0_become_158 rfl ?_
  refine es_aload_n (pc := 159) dX0_become_159 rfl ?_
  refine es_getI (pc := 160) dX0_become_160 fr_0_49 fld_44_12 ?_
  refine es_putI (pc := 163) dX0_become_163 fr_0_49 fld_110_12 ?_
  refine es_aload_n (pc := 166) dX0_become_166 rfl ?_
  refine es_aload_n (pc := 167) dX0_become_167 rfl ?_
  refine es_getI (pc := 168) dX0_become_168 fr_0_52 fld_44_13 ?_
  refine es_putI (pc := 171) dX0_become_171 fr_0_52 fld_110_13 ?_
  refine es_aload_n (pc := 174) dX0_become_174 rfl ?_
  refine es_aload_n (pc := 175) dX0_become_175 rfl ?_
  refine es_getI (pc := 176) dX0_become_176 fr_0_55 fld_44_14 ?_
  refine es_putI (pc := 179) dX0_become_179 fr_0_55 fld_110_14 ?_
  refine es_aload_n (pc := 182) dX0_become_182 rfl ?_
  refine es_aload_n (pc := 183) dX0_become_183 rfl ?_
  refine es_getI (pc := 184) dX0_become_184 fr_0_58 fld_44_15 ?_
  refine es_putI (pc := 187) dX0_become_187 fr_0_58 fld_110_15 ?_
  refine es_aload_n (pc := 190) dX0_become_190 rfl ?_
  refine es_aload_n (pc := 191) dX0_become_191 rfl ?_
  refine es_getI (pc := 192) dX0_become_192 fr_0_61 fld_44_16 ?_
  refine es_putI (pc := 195) dX0_become_195 fr_0_61 fld_110_16 ?_
  refine es_vreturn (pc := 198) dX0_become_198 rfl (by decide) ?_
  refine ⟨rfl, ?_, ?_⟩
  · funext j
    simp only [gR]
    by_cases h59 : j < 59
    · rw [if_pos h59, if_pos h59]
      simp only [ms_full, cp_full]
      by_cases h1 : j < 4
      · simp [h1]
      · by_cases h2 : j < 11
        · simp [h1, h2]
          rcases (show j = 4 ∨ j = 5 ∨ j = 6 ∨ j = 7 ∨ j = 8 ∨ j = 9 ∨ j = 10 by omega) with rfl | rfl | rfl | rfl | rfl | rfl | rfl <;> simp
        · by_cases h3 : j < 21
          · simp [h1, h2, h3]; omega
          · by_cases h4 : j < 31
            · simp [h1, h2, h3, h4]; omega
            · have h5 : (j - 31) / 7 < 4 := by omega
              rcases (show (j - 31) % 7 = 0 ∨ (j - 31) % 7 = 1 ∨ (j - 31) % 7 = 2 ∨ (j - 31) % 7 = 3 ∨ (j - 31) % 7 = 4 ∨ (j - 31) % 7 = 5 ∨ (j - 31) % 7 = 6 by omega) with q | q | q | q | q | q | q <;> simp [h1, h2, h3, h4, h5, q]
    · rw [if_neg h59, if_neg h59]
  · intro q hq
    repeat (first | rfl | rw [ms_ne (by omega)] | rw [cp_ne (by omega)])
set_option maxHeartbeats 2000000 in
set_option maxRecDepth 20000 in
theorem X0_become_44_121 {d : Nat} {μ : ev_M}  (hd : 1 ≤ d := by omega) : SPv (ev_CALL d) 45 [.ref 44, .ref 121] μ (fun μ2 => gR μ2 44 = gR μ 121 ∧ gm_Fr 44 μ μ2) := by
  obtain ⟨d, rfl⟩ : ∃ q, d = q + 1 := ⟨d - 1, by omega⟩
  refine SPv.of (Nat.le_of_ble_eq_true rfl) ?_
  show es (ev_CALL d) 0 cX0_become none 0 (0, fun _ => 0, []) (fun r μ2 => r = (none, 0) ∧ (fun μ2 => gR μ2 44 = gR μ 121 ∧ gm_Fr 44 μ μ2) μ2) 0 [.ref 44, .ref 121] [] μ 0
  refine es_aload_n (pc := 0) dX0_become_0 rfl ?_
  refine es_getR (pc := 1) dX0_become_1 fr_0_9 fld_121_0 ?_
  refine es_iconstN (pc := 4) 0 dX0_become_4 ic_0 ?_
  refine es_aload_n (pc := 5) dX0_become_5 rfl ?_
  refine es_getR (pc := 6) dX0_become_6 fr_0_9 fld_44_0 ?_
  refine es_iconstN (pc := 9) 0 dX0_become_9 ic_0 ?_
  refine es_bipushN (pc := 10) 10 dX0_become_10 bp_10 ?_
  refine es_copy (pc := 12) dX0_become_12 (by decide +kernel) lay_122 lay_45 (by omega) (by omega) (Nat.le_of_ble_eq_true rfl) ?_
  refine es_aload_n (pc := 15) dX0_become_15 rfl ?_
  refine es_getR (pc := 16) dX0_become_16 fr_0_15 fld_121_1 ?_
  refine es_iconstN (pc := 19) 0 dX0_become_19 ic_0 ?_
  refine es_aload_n (pc := 20) dX0_become_20 rfl ?_
  refine es_getR (pc := 21) dX0_become_21 fr_0_15 fld_44_1 ?_
  refine es_iconstN (pc := 24) 0 dX0_become_24 ic_0 ?_
  refine es_bipushN (pc := 25) 10 dX0_become_25 bp_10 ?_
  refine es_copy (pc := 27) dX0_become_27 (by decide +kernel) lay_123 lay_46 (by omega) (by omega) (Nat.le_of_ble_eq_true rfl) ?_
  refine es_aload_n (pc := 30) dX0_become_30 rfl ?_
  refine es_getR (pc := 31) dX0_become_31 fr_0_18 fld_121_2 ?_
  refine es_iconstN (pc := 34) 0 dX0_become_34 ic_0 ?_
  refine es_aload_n (pc := 35) dX0_become_35 rfl ?_
  refine es_getR (pc := 36) dX0_become_36 fr_0_18 fld_44_2 ?_
  refine es_iconstN (pc := 39) 0 dX0_become_39 ic_0 ?_
  refine es_iconstN (pc := 40) 4 dX0_become_40 ic_4 ?_
  refine es_copy (pc := 41) dX0_become_41 (by decide +kernel) lay_124 lay_47 (by omega) (by omega) (Nat.le_of_ble_eq_true rfl) ?_
  refine es_aload_n (pc := 44) dX0_become_44 rfl ?_
  refine es_getR (pc := 45) dX0_become_45 fr_0_21 fld_121_3 ?_
  refine es_iconstN (pc := 48) 0 dX0_become_48 ic_0 ?_
  refine es_aload_n (pc := 49) dX0_become_49 rfl ?_
  refine es_getR (pc := 50) dX0_become_50 fr_0_21 fld_44_3 ?_
  refine es_iconstN (pc := 53) 0 dX0_become_53 ic_0 ?_
  refine es_iconstN (pc := 54) 4 dX0_become_54 ic_4 ?_
  refine es_copy (pc := 55) dX0_become_55 (by decide +kernel) lay_125 lay_48 (by omega) (by omega) (Nat.le_of_ble_eq_true rfl) ?_
  refine es_aload_n (pc := 58) dX0_become_58 rfl ?_
  refine es_getR (pc := 59) dX0_become_59 fr_0_24 fld_121_4 ?_
  refine es_iconstN (pc := 62) 0 dX0_become_62 ic_0 ?_
  refine es_aload_n (pc := 63) dX0_become_63 rfl ?_
  refine es_getR (pc := 64) dX0_become_64 fr_0_24 fld_44_4 ?_
  refine es_iconstN (pc := 67) 0 dX0_become_67 ic_0 ?_
  refine es_iconstN (pc := 68) 4 dX0_become_68 ic_4 ?_
  refine es_copy (pc := 69) dX0_become_69 (by decide +kernel) lay_126 lay_49 (by omega) (by omega) (Nat.le_of_ble_eq_true rfl) ?_
  refine es_aload_n (pc := 72) dX0_become_72 rfl ?_
  refine es_getR (pc := 73) dX0_become_73 fr_0_27 fld_121_5 ?_
  refine es_iconstN (pc := 76) 0 dX0_become_76 ic_0 ?_
  refine es_aload_n (pc := 77) dX0_become_77 rfl ?_
  refine es_getR (pc := 78) dX0_become_78 fr_0_27 fld_44_5 ?_
  refine es_iconstN (pc := 81) 0 dX0_become_81 ic_0 ?_
  refine es_iconstN (pc := 82) 4 dX0_become_82 ic_4 ?_
  refine es_copy (pc := 83) dX0_become_83 (by decide +kernel) lay_127 lay_50 (by omega) (by omega) (Nat.le_of_ble_eq_true rfl) ?_
  refine es_aload_n (pc := 86) dX0_become_86 rfl ?_
  refine es_getR (pc := 87) dX0_become_87 fr_0_30 fld_121_6 ?_
  refine es_iconstN (pc := 90) 0 dX0_become_90 ic_0 ?_
  refine es_aload_n (pc := 91) dX0_become_91 rfl ?_
  refine es_getR (pc := 92) dX0_become_92 fr_0_30 fld_44_6 ?_
  refine es_iconstN (pc := 95) 0 dX0_become_95 ic_0 ?_
  refine es_iconstN (pc := 96) 4 dX0_become_96 ic_4 ?_
  refine es_copy (pc := 97) dX0_become_97 (by decide +kernel) lay_128 lay_51 (by omega) (by omega) (Nat.le_of_ble_eq_true rfl) ?_
  refine es_aload_n (pc := 100) dX0_become_100 rfl ?_
  refine es_getR (pc := 101) dX0_become_101 fr_0_33 fld_121_7 ?_
  refine es_iconstN (pc := 104) 0 dX0_become_104 ic_0 ?_
  refine es_aload_n (pc := 105) dX0_become_105 rfl ?_
  refine es_getR (pc := 106) dX0_become_106 fr_0_33 fld_44_7 ?_
  refine es_iconstN (pc := 109) 0 dX0_become_109 ic_0 ?_
  refine es_iconstN (pc := 110) 4 dX0_become_110 ic_4 ?_
  refine es_copy (pc := 111) dX0_become_111 (by decide +kernel) lay_129 lay_52 (by omega) (by omega) (Nat.le_of_ble_eq_true rfl) ?_
  refine es_aload_n (pc := 114) dX0_become_114 rfl ?_
  refine es_getR (pc := 115) dX0_become_115 fr_0_36 fld_121_8 ?_
  refine es_iconstN (pc := 118) 0 dX0_become_118 ic_0 ?_
  refine es_aload_n (pc := 119) dX0_become_119 rfl ?_
  refine es_getR (pc := 120) dX0_become_120 fr_0_36 fld_44_8 ?_
  refine es_iconstN (pc := 123) 0 dX0_become_123 ic_0 ?_
  refine es_iconstN (pc := 124) 4 dX0_become_124 ic_4 ?_
  refine es_copy (pc := 125) dX0_become_125 (by decide +kernel) lay_130 lay_53 (by omega) (by omega) (Nat.le_of_ble_eq_true rfl) ?_
  refine es_aload_n (pc := 128) dX0_become_128 rfl ?_
  refine es_getR (pc := 129) dX0_become_129 fr_0_39 fld_121_9 ?_
  refine es_iconstN (pc := 132) 0 dX0_become_132 ic_0 ?_
  refine es_aload_n (pc := 133) dX0_become_133 rfl ?_
  refine es_getR (pc := 134) dX0_become_134 fr_0_39 fld_44_9 ?_
  refine es_iconstN (pc := 137) 0 dX0_become_137 ic_0 ?_
  refine es_iconstN (pc := 138) 4 dX0_become_138 ic_4 ?_
  refine es_copy (pc := 139) dX0_become_139 (by decide +kernel) lay_131 lay_54 (by omega) (by omega) (Nat.le_of_ble_eq_true rfl) ?_
  refine es_aload_n (pc := 142) dX0_become_142 rfl ?_
  refine es_aload_n (pc := 143) dX0_become_143 rfl ?_
  refine es_getI (pc := 144) dX0_become_144 fr_0_42 fld_121_10 ?_
  refine es_putI (pc := 147) dX0_become_147 fr_0_42 fld_44_10 ?_
  refine es_aload_n (pc := 150) dX0_become_150 rfl ?_
  refine es_aload_n (pc := 151) dX0_become_151 rfl ?_
  refine es_getI (pc := 152) dX0_become_152 fr_0_46 fld_121_11 ?_
  refine es_putI (pc := 155) dX0_become_155 fr_0_46 fld_44_11 ?_
  refine es_aload_n (pc := 158) dX0_become_158 rfl ?_
  refine es_aload_n (pc := 159) dX0_become_159 rfl ?_
  refine es_getI (pc := 160) dX0_become_160 fr_0_49 fld_121_12 ?_
  refine es_putI (pc := 163) dX0_become_163 fr_0_49 fld_44_12 ?_
  refine es_aload_n (pc := 166) dX0_become_166 rfl ?_
  refine es_aload_n (pc := 167) dX0_become_167 rfl ?_
  refine es_getI (pc := 168) dX0_become_168 fr_0_52 fld_121_13 ?_
  refine es_putI (pc := 171) dX0_become_171 fr_0_52 fld_44_13 ?_
  refine es_aload_n (pc := 174) dX0_become_174 rfl ?_
  refine es_aload_n (pc := 175) dX0_become_175 rfl ?_
  refine es_getI (pc := 176) dX0_become_176 fr_0_55 fld_121_14 ?_
  refine es_putI (pc := 179) dX0_become_179 fr_0_55 fld_44_14 ?_
  refine es_aload_n (pc := 182) dX0_become_182 rfl ?_
  refine es_aload_n (pc := 183) dX0_become_183 rfl ?_
  refine es_getI (pc := 184) dX0_become_184 fr_0_58 fld_121_15 ?_
  refine es_putI (pc := 187) dX0_become_187 fr_0_58 fld_44_15 ?_
  refine es_aload_n (pc := 190) dX0_become_190 rfl ?_
  refine es_aload_n (pc := 191) dX0_become_191 rfl ?_
  refine es_getI (pc := 192) dX0_become_192 fr_0_61 fld_121_16 ?_
  refine es_putI (pc := 195) dX0_become_195 fr_0_61 fld_44_16 ?_
  refine es_vreturn (pc := 198) dX0_become_198 rfl (by decide) ?_
  refine ⟨rfl, ?_, ?_⟩
  · funext j
    simp only [gR]
    by_cases h59 : j < 59
    · rw [if_pos h59, if_pos h59]
      simp only [ms_full, cp_full]
      by_cases h1 : j < 4
      · simp [h1]
      · by_cases h2 : j < 11
        · simp [h1, h2]
          rcases (show j = 4 ∨ j = 5 ∨ j = 6 ∨ j = 7 ∨ j = 8 ∨ j = 9 ∨ j = 10 by omega) with rfl | rfl | rfl | rfl | rfl | rfl | rfl <;> simp
        · by_cases h3 : j < 21
          · simp [h1, h2, h3]; omega
          · by_cases h4 : j < 31
            · simp [h1, h2, h3, h4]; omega
            · have h5 : (j - 31) / 7 < 4 := by omega
              rcases (show (j - 31) % 7 = 0 ∨ (j - 31) % 7 = 1 ∨ (j - 31) % 7 = 2 ∨ (j - 31) % 7 = 3 ∨ (j - 31) % 7 = 4 ∨ (j - 31) % 7 = 5 ∨ (j - 31) % 7 = 6 by omega) with q | q | q | q | q | q | q <;> simp [h1, h2, h3, h4, h5, q]
    · rw [if_neg h59, if_neg h59]
  · intro q hq
    repeat (first | rfl | rw [ms_ne (by omega)] | rw [cp_ne (by omega)])
set_option maxHeartbeats 2000000 in
set_option maxRecDepth 20000 in
theorem X0_become_121_44 {d : Nat} {μ : ev_M}  (hd : 1 ≤ d := by omega) : SPv (ev_CALL d) 45 [.ref 121, .ref 44] μ (fun μ2 => gR μ2 121 = gR μ 44 ∧ gm_Fr 121 μ μ2) := by
  obtain ⟨d, rfl⟩ : ∃ q, d = q + 1 := ⟨d - 1, by omega⟩
  refine SPv.of (Nat.le_of_ble_eq_true rfl) ?_
  show es (ev_CALL d) 0 cX0_become none 0 (0, fun _ => 0, []) (fun r μ2 => r = (none, 0) ∧ (fun μ2 => gR μ2 121 = gR μ 44 ∧ gm_Fr 121 μ μ2) μ2) 0 [.ref 121, .ref 44] [] μ 0
  refine es_aload_n (pc := 0) dX0_become_0 rfl ?_
  refine es_getR (pc := 1) dX0_become_1 fr_0_9 fld_44_0 ?_
  refine es_iconstN (pc := 4) 0 dX0_become_4 ic_0 ?_
  refine es_aload_n (pc := 5) dX0_become_5 rfl ?_
  refine es_getR (pc := 6) dX0_become_6 fr_0_9 fld_121_0 ?_
  refine es_iconstN (pc := 9) 0 dX0_become_9 ic_0 ?_
  refine es_bipushN (pc := 10) 10 dX0_become_10 bp_10 ?_
  refine es_copy (pc := 12) dX0_become_12 (by decide +kernel) lay_45 lay_122 (by omega) (by omega) (Nat.le_of_ble_eq_true rfl) ?_
  refine es_aload_n (pc := 15) dX0_become_15 rfl ?_
  refine es_getR (pc := 16) dX0_become_16 fr_0_15 fld_44_1 ?_
  refine es_iconstN (pc := 19) 0 dX0_become_19 ic_0 ?_
  refine es_aload_n (pc := 20) dX0_become_20 rfl ?_
  refine es_getR (pc := 21) dX0_become_21 fr_0_15 fld_121_1 ?_
  refine es_iconstN (pc := 24) 0 dX0_become_24 ic_0 ?_
  refine es_bipushN (pc := 25) 10 dX0_become_25 bp_10 ?_
  refine es_copy (pc := 27) dX0_become_27 (by decide +kernel) lay_46 lay_123 (by omega) (by omega) (Nat.le_of_ble_eq_true rfl) ?_
  refine es_aload_n (pc := 30) dX0_become_30 rfl ?_
  refine es_getR (pc := 31) dX0_become_31 fr_0_18 fld_44_2 ?_
  refine es_iconstN (pc := 34) 0 dX0_become_34 ic_0 ?_
  refine es_aload_n (pc := 35) dX0_become_35 rfl ?_
  refine es_getR (pc := 36) dX0_become_36 fr_0_18 fld_121_2 ?_
  refine es_iconstN (pc := 39) 0 dX0_become_39 ic_0 ?_
  refine es_iconstN (pc := 40) 4 dX0_become_40 ic_4 ?_
  refine es_copy (pc := 41) dX0_become_41 (by decide +kernel) lay_47 lay_124 (by omega) (by omega) (Nat.le_of_ble_eq_true rfl) ?_
  refine es_aload_n (pc := 44) dX0_become_44 rfl ?_
  refine es_getR (pc := 45) dX0_become_45 fr_0_21 fld_44_3 ?_
  refine es_iconstN (pc := 48) 0 dX0_become_48 ic_0 ?_
  refine es_aload_n (pc := 49) dX0_become_49 rfl ?_
  refine es_getR (pc := 50) dX0_become_50 fr_0_21 fld_121_3 ?_
  refine es_iconstN (pc := 53) 0 dX0_become_53 ic_0 ?_
  refine es_iconstN (pc := 54) 4 dX0_become_54 ic_4 ?_
  refine es_copy (pc := 55) dX0_become_55 (by decide +kernel) lay_48 lay_125 (by omega) (by omega) (Nat.le_of_ble_eq_true rfl) ?_
  refine es_aload_n (pc := 58) dX0_become_58 rfl ?_
  refine es_getR (pc := 59) dX0_become_59 fr_0_24 fld_44_4 ?_
  refine es_iconstN (pc := 62) 0 dX0_become_62 ic_0 ?_
  refine es_aload_n (pc := 63) dX0_become_63 rfl ?_
  refine es_getR (pc := 64) dX0_become_64 fr_0_24 fld_121_4 ?_
  refine es_iconstN (pc := 67) 0 dX0_become_67 ic_0 ?_
  refine es_iconstN (pc := 68) 4 dX0_become_68 ic_4 ?_
  refine es_copy (pc := 69) dX0_become_69 (by decide +kernel) lay_49 lay_126 (by omega) (by omega) (Nat.le_of_ble_eq_true rfl) ?_
  refine es_aload_n (pc := 72) dX0_become_72 rfl ?_
  refine es_getR (pc := 73) dX0_become_73 fr_0_27 fld_44_5 ?_
  refine es_iconstN (pc := 76) 0 dX0_become_76 ic_0 ?_
  refine es_aload_n (pc := 77) dX0_become_77 rfl ?_
  refine es_getR (pc := 78) dX0_become_78 fr_0_27 fld_121_5 ?_
  refine es_iconstN (pc := 81) 0 dX0_become_81 ic_0 ?_
  refine es_iconstN (pc := 82) 4 dX0_become_82 ic_4 ?_
  refine es_copy (pc := 83) dX0_become_83 (by decide +kernel) lay_50 lay_127 (by omega) (by omega) (Nat.le_of_ble_eq_true rfl) ?_
  refine es_aload_n (pc := 86) dX0_become_86 rfl ?_
  refine es_getR (pc := 87) dX0_become_87 fr_0_30 fld_44_6 ?_
  refine es_iconstN (pc := 90) 0 dX0_become_90 ic_0 ?_
  refine es_aload_n (pc := 91) dX0_become_91 rfl ?_
  refine es_getR (pc := 92) dX0_become_92 fr_0_30 fld_121_6 ?_
  refine es_iconstN (pc := 95) 0 dX0_become_95 ic_0 ?_
  refine es_iconstN (pc := 96) 4 dX0_become_96 ic_4 ?_
  refine es_copy (pc := 97) dX0_become_97 (by decide +kernel) lay_51 lay_128 (by omega) (by omega) (Nat.le_of_ble_eq_true rfl) ?_
  refine es_aload_n (pc := 100) dX0_become_100 rfl ?_
  refine es_getR (pc := 101) dX0_become_101 fr_0_33 fld_44_7 ?_
  refine es_iconstN (pc := 104) 0 dX0_become_104 ic_0 ?_
  refine es_aload_n (pc := 105) dX0_become_105 rfl ?_
  refine es_getR (pc := 106) dX0_become_106 fr_0_33 fld_121_7 ?_
  refine es_iconstN (pc := 109) 0 dX0_become_109 ic_0 ?_
  refine es_iconstN (pc := 110) 4 dX0_become_110 ic_4 ?_
  refine es_copy (pc := 111) dX0_become_111 (by decide +kernel) lay_52 lay_129 (by omega) (by omega) (Nat.le_of_ble_eq_true rfl) ?_
  refine es_aload_n (pc := 114) dX0_become_114 rfl ?_
  refine es_getR (pc := 115) dX0_become_115 fr_0_36 fld_44_8 ?_
  refine es_iconstN (pc := 118) 0 dX0_become_118 ic_0 ?_
  refine es_aload_n (pc := 119) dX0_become_119 rfl ?_
  refine es_getR (pc := 120) dX0_become_120 fr_0_36 fld_121_8 ?_
  refine es_iconstN (pc := 123) 0 dX0_become_123 ic_0 ?_
  refine es_iconstN (pc := 124) 4 dX0_become_124 ic_4 ?_
  refine es_copy (pc := 125) dX0_become_125 (by decide +kernel) lay_53 lay_130 (by omega) (by omega) (Nat.le_of_ble_eq_true rfl) ?_
  refine es_aload_n (pc := 128) dX0_become_128 rfl ?_
  refine es_getR (pc := 129) dX0_become_129 fr_0_39 fld_44_9 ?_
  refine es_iconstN (pc := 132) 0 dX0_become_132 ic_0 ?_
  refine es_aload_n (pc := 133) dX0_become_133 rfl ?_
  refine es_getR (pc := 134) dX0_become_134 fr_0_39 fld_121_9 ?_
  refine es_iconstN (pc := 137) 0 dX0_become_137 ic_0 ?_
  refine es_iconstN (pc := 138) 4 dX0_become_138 ic_4 ?_
  refine es_copy (pc := 139) dX0_become_139 (by decide +kernel) lay_54 lay_131 (by omega) (by omega) (Nat.le_of_ble_eq_true rfl) ?_
  refine es_aload_n (pc := 142) dX0_become_142 rfl ?_
  refine es_aload_n (pc := 143) dX0_become_143 rfl ?_
  refine es_getI (pc := 144) dX0_become_144 fr_0_42 fld_44_10 ?_
  refine es_putI (pc := 147) dX0_become_147 fr_0_42 fld_121_10 ?_
  refine es_aload_n (pc := 150) dX0_become_150 rfl ?_
  refine es_aload_n (pc := 151) dX0_become_151 rfl ?_
  refine es_getI (pc := 152) dX0_become_152 fr_0_46 fld_44_11 ?_
  refine es_putI (pc := 155) dX0_become_155 fr_0_46 fld_121_11 ?_
  refine es_aload_n (pc := 158) dX0_become_158 rfl ?_
  refine es_aload_n (pc := 159) dX0_become_159 rfl ?_
  refine es_getI (pc := 160) dX0_become_160 fr_0_49 fld_44_12 ?_
  refine es_putI (pc := 163) dX0_become_163 fr_0_49 fld_121_12 ?_
  refine es_aload_n (pc := 166) dX0_become_166 rfl ?_
  refine es_aload_n (pc := 167) dX0_become_167 rfl ?_
  refine es_getI (pc := 168) dX0_become_168 fr_0_52 fld_44_13 ?_
  refine es_putI (pc := 171) dX0_become_171 fr_0_52 fld_121_13 ?_
  refine es_aload_n (pc := 174) dX0_become_174 rfl ?_
  refine es_aload_n (pc := 175) dX0_become_175 rfl ?_
  refine es_getI (pc := 176) dX0_become_176 fr_0_55 fld_44_14 ?_
  refine es_putI (pc := 179) dX0_become_179 fr_0_55 fld_121_14 ?_
  refine es_aload_n (pc := 182) dX0_become_182 rfl ?_
  refine es_aload_n (pc := 183) dX0_become_183 rfl ?_
  refine es_getI (pc := 184) dX0_become_184 fr_0_58 fld_44_15 ?_
  refine es_putI (pc := 187) dX0_become_187 fr_0_58 fld_121_15 ?_
  refine es_aload_n (pc := 190) dX0_become_190 rfl ?_
  refine es_aload_n (pc := 191) dX0_become_191 rfl ?_
  refine es_getI (pc := 192) dX0_become_192 fr_0_61 fld_44_16 ?_
  refine es_putI (pc := 195) dX0_become_195 fr_0_61 fld_121_16 ?_
  refine es_vreturn (pc := 198) dX0_become_198 rfl (by decide) ?_
  refine ⟨rfl, ?_, ?_⟩
  · funext j
    simp only [gR]
    by_cases h59 : j < 59
    · rw [if_pos h59, if_pos h59]
      simp only [ms_full, cp_full]
      by_cases h1 : j < 4
      · simp [h1]
      · by_cases h2 : j < 11
        · simp [h1, h2]
          rcases (show j = 4 ∨ j = 5 ∨ j = 6 ∨ j = 7 ∨ j = 8 ∨ j = 9 ∨ j = 10 by omega) with rfl | rfl | rfl | rfl | rfl | rfl | rfl <;> simp
        · by_cases h3 : j < 21
          · simp [h1, h2, h3]; omega
          · by_cases h4 : j < 31
            · simp [h1, h2, h3, h4]; omega
            · have h5 : (j - 31) / 7 < 4 := by omega
              rcases (show (j - 31) % 7 = 0 ∨ (j - 31) % 7 = 1 ∨ (j - 31) % 7 = 2 ∨ (j - 31) % 7 = 3 ∨ (j - 31) % 7 = 4 ∨ (j - 31) % 7 = 5 ∨ (j - 31) % 7 = 6 by omega) with q | q | q | q | q | q | q <;> simp [h1, h2, h3, h4, h5, q]
    · rw [if_neg h59, if_neg h59]
  · intro q hq
    repeat (first | rfl | rw [ms_ne (by omega)] | rw [cp_ne (by omega)])
set_option maxHeartbeats 2000000 in
set_option maxRecDepth 20000 in
theorem X0_become_44_132 {d : Nat} {μ : ev_M}  (hd : 1 ≤ d := by omega) : SPv (ev_CALL d) 45 [.ref 44, .ref 132] μ (fun μ2 => gR μ2 44 = gR μ 132 ∧ gm_Fr 44 μ μ2) := by
  obtain ⟨d, rfl⟩ : ∃ q, d = q + 1 := ⟨d - 1, by omega⟩
  refine SPv.of (Nat.le_of_ble_eq_true rfl) ?_
  show es (ev_CALL d) 0 cX0_become none 0 (0, fun _ => 0, []) (fun r μ2 => r = (none, 0) ∧ (fun μ2 => gR μ2 44 = gR μ 132 ∧ gm_Fr 44 μ μ2) μ2) 0 [.ref 44, .ref 132] [] μ 0
  refine es_aload_n (pc := 0) dX0_become_0 rfl ?_
  refine es_getR (pc := 1) dX0_become_1 fr_0_9 fld_132_0 ?_
  refine es_iconstN (pc := 4) 0 dX0_become_4 ic_0 ?_
  refine es_aload_n (pc := 5) dX0_become_5 rfl ?_
  refine es_getR (pc := 6) dX0_become_6 fr_0_9 fld_44_0 ?_
  refine es_iconstN (pc := 9) 0 dX0_become_9 ic_0 ?_
  refine es_bipushN (pc := 10) 10 dX0_become_10 bp_10 ?_
  refine es_copy (pc := 12) dX0_become_12 (by decide +kernel) lay_133 lay_45 (by omega) (by omega) (Nat.le_of_ble_eq_true rfl) ?_
  refine es_aload_n (pc := 15) dX0_become_15 rfl ?_
  refine es_getR (pc := 16) dX0_become_16 fr_0_15 fld_132_1 ?_
  refine es_iconstN (pc := 19) 0 dX0_become_19 ic_0 ?_
  refine es_aload_n (pc := 20) dX0_become_20 rfl ?_
  refine es_getR (pc := 21) dX0_become_21 fr_0_15 fld_44_1 ?_
  refine es_iconstN (pc := 24) 0 dX0_become_24 ic_0 ?_
  refine es_bipushN (pc := 25) 10 dX0_become_25 bp_10 ?_
  refine es_copy (pc := 27) dX0_become_27 (by decide +kernel) lay_134 lay_46 (by omega) (by omega) (Nat.le_of_ble_eq_true rfl) ?_
  refine es_aload_n (pc := 30) dX0_become_30 rfl ?_
  refine es_getR (pc := 31) dX0_become_31 fr_0_18 fld_132_2 ?_
  refine es_iconstN (pc := 34) 0 dX0_become_34 ic_0 ?_
  refine es_aload_n (pc := 35) dX0_become_35 rfl ?_
  refine es_getR (pc := 36) dX0_become_36 fr_0_18 fld_44_2 ?_
  refine es_iconstN (pc := 39) 0 dX0_become_39 ic_0 ?_
  refine es_iconstN (pc := 40) 4 dX0_become_40 ic_4 ?_
  refine es_copy (pc := 41) dX0_become_41 (by decide +kernel) lay_135 lay_47 (by omega) (by omega) (Nat.le_of_ble_eq_true rfl) ?_
  refine es_aload_n (pc := 44) dX0_become_44 rfl ?_
  refine es_getR (pc := 45) dX0_become_45 fr_0_21 fld_132_3 ?_
  refine es_iconstN (pc := 48) 0 dX0_become_48 ic_0 ?_
  refine es_aload_n (pc := 49) dX0_become_49 rfl ?_
  refine es_getR (pc := 50) dX0_become_50 fr_0_21 fld_44_3 ?_
  refine es_iconstN (pc := 53) 0 dX0_become_53 ic_0 ?_
  refine es_iconstN (pc := 54) 4 dX0_become_54 ic_4 ?_
  refine es_copy (pc := 55) dX0_become_55 (by decide +kernel) lay_136 lay_48 (by omega) (by omega) (Nat.le_of_ble_eq_true rfl) ?_
  refine es_aload_n (pc := 58) dX0_become_58 rfl ?_
  refine es_getR (pc := 59) dX0_become_59 fr_0_24 fld_132_4 ?_
  refine es_iconstN (pc := 62) 0 dX0_become_62 ic_0 ?_
  refine es_aload_n (pc := 63) dX0_become_63 rfl ?_
  refine es_getR (pc := 64) dX0_become_64 fr_0_24 fld_44_4 ?_
  refine es_iconstN (pc := 67) 0 dX0_become_67 ic_0 ?_
  refine es_iconstN (pc := 68) 4 dX0_become_68 ic_4 ?_
  refine es_copy (pc := 69) dX0_become_69 (by decide +kernel) lay_137 lay_49 (by omega) (by omega) (Nat.le_of_ble_eq_true rfl) ?_
  refine es_aload_n (pc := 72) dX0_become_72 rfl ?_
  refine es_getR (pc := 73) dX0_become_73 fr_0_27 fld_132_5 ?_
  refine es_iconstN (pc := 76) 0 dX0_become_76 ic_0 ?_
  refine es_aload_n (pc := 77) dX0_become_77 rfl ?_
  refine es_getR (pc := 78) dX0_become_78 fr_0_27 fld_44_5 ?_
  refine es_iconstN (pc := 81) 0 dX0_become_81 ic_0 ?_
  refine es_iconstN (pc := 82) 4 dX0_become_82 ic_4 ?_
  refine es_copy (pc := 83) dX0_become_83 (by decide +kernel) lay_138 lay_50 (by omega) (by omega) (Nat.le_of_ble_eq_true rfl) ?_
  refine es_aload_n (pc := 86) dX0_become_86 rfl ?_
  refine es_getR (pc := 87) dX0_become_87 fr_0_30 fld_132_6 ?_
  refine es_iconstN (pc := 90) 0 dX0_become_90 ic_0 ?_
  refine es_aload_n (pc := 91) dX0_become_91 rfl ?_
  refine es_getR (pc := 92) dX0_become_92 fr_0_30 fld_44_6 ?_
  refine es_iconstN (pc := 95) 0 dX0_become_95 ic_0 ?_
  refine es_iconstN (pc := 96) 4 dX0_become_96 ic_4 ?_
  refine es_copy (pc := 97) dX0_become_97 (by decide +kernel) lay_139 lay_51 (by omega) (by omega) (Nat.le_of_ble_eq_true rfl) ?_
  refine es_aload_n (pc := 100) dX0_become_100 rfl ?_
  refine es_getR (pc := 101) dX0_become_101 fr_0_33 fld_132_7 ?_
  refine es_iconstN (pc := 104) 0 dX0_become_104 ic_0 ?_
  refine es_aload_n (pc := 105) dX0_become_105 rfl ?_
  refine es_getR (pc := 106) dX0_become_106 fr_0_33 fld_44_7 ?_
  refine es_iconstN (pc := 109) 0 dX0_become_109 ic_0 ?_
  refine es_iconstN (pc := 110) 4 dX0_become_110 ic_4 ?_
  refine es_copy (pc := 111) dX0_become_111 (by decide +kernel) lay_140 lay_52 (by omega) (by omega) (Nat.le_of_ble_eq_true rfl) ?_
  refine es_aload_n (pc := 114) dX0_become_114 rfl ?_
  refine es_getR (pc := 115) dX0_become_115 fr_0_36 fld_132_8 ?_
  refine es_iconstN (pc := 118) 0 dX0_become_118 ic_0 ?_
  refine es_aload_n (pc := 119) dX0_become_119 rfl ?_
  refine es_getR (pc := 120) dX0_become_120 fr_0_36 fld_44_8 ?_
  refine es_iconstN (pc := 123) 0 dX0_become_123 ic_0 ?_
  refine es_iconstN (pc := 124) 4 dX0_become_124 ic_4 ?_
  refine es_copy (pc := 125) dX0_become_125 (by decide +kernel) lay_141 lay_53 (by omega) (by omega) (Nat.le_of_ble_eq_true rfl) ?_
  refine es_aload_n (pc := 128) dX0_become_128 rfl ?_
  refine es_getR (pc := 129) dX0_become_129 fr_0_39 fld_132_9 ?_
  refine es_iconstN (pc := 132) 0 dX0_become_132 ic_0 ?_
  refine es_aload_n (pc := 133) dX0_become_133 rfl ?_
  refine es_getR (pc := 134) dX0_become_134 fr_0_39 fld_44_9 ?_
  refine es_iconstN (pc := 137) 0 dX0_become_137 ic_0 ?_
  refine es_iconstN (pc := 138) 4 dX0_become_138 ic_4 ?_
  refine es_copy (pc := 139) dX0_become_139 (by decide +kernel) lay_142 lay_54 (by omega) (by omega) (Nat.le_of_ble_eq_true rfl) ?_
  refine es_aload_n (pc := 142) dX0_become_142 rfl ?_
  refine es_aload_n (pc := 143) dX0_become_143 rfl ?_
  refine es_getI (pc := 144) dX0_become_144 fr_0_42 fld_132_10 ?_
  refine es_putI (pc := 147) dX0_become_147 fr_0_42 fld_44_10 ?_
  refine es_aload_n (pc := 150) dX0_become_150 rfl ?_
  refine es_aload_n (pc := 151) dX0_become_151 rfl ?_
  refine es_getI (pc := 152) dX0_become_152 fr_0_46 fld_132_11 ?_
  refine es_putI (pc := 155) dX0_become_155 fr_0_46 fld_44_11 ?_
  refine es_aload_n (pc := 158) dX0_become_158 rfl ?_
  refine es_aload_n (pc := 159) dX0_become_159 rfl ?_
  refine es_getI (pc := 160) dX0_become_160 fr_0_49 fld_132_12 ?_
  refine es_putI (pc := 163) dX0_become_163 fr_0_49 fld_44_12 ?_
  refine es_aload_n (pc := 166) dX0_become_166 rfl ?_
  refine es_aload_n (pc := 167) dX0_become_167 rfl ?_
  refine es_getI (pc := 168) dX0_become_168 fr_0_52 fld_132_13 ?_
  refine es_putI (pc := 171) dX0_become_171 fr_0_52 fld_44_13 ?_
  refine es_aload_n (pc := 174) dX0_become_174 rfl ?_
  refine es_aload_n (pc := 175) dX0_become_175 rfl ?_
  refine es_getI (pc := 176) dX0_become_176 fr_0_55 fld_132_14 ?_
  refine es_putI (pc := 179) dX0_become_179 fr_0_55 fld_44_14 ?_
  refine es_aload_n (pc := 182) dX0_become_182 rfl ?_
  refine es_aload_n (pc := 183) dX0_become_183 rfl ?_
  refine es_getI (pc := 184) dX0_become_184 fr_0_58 fld_132_15 ?_
  refine es_putI (pc := 187) dX0_become_187 fr_0_58 fld_44_15 ?_
  refine es_aload_n (pc := 190) dX0_become_190 rfl ?_
  refine es_aload_n (pc := 191) dX0_become_191 rfl ?_
  refine es_getI (pc := 192) dX0_become_192 fr_0_61 fld_132_16 ?_
  refine es_putI (pc := 195) dX0_become_195 fr_0_61 fld_44_16 ?_
  refine es_vreturn (pc := 198) dX0_become_198 rfl (by decide) ?_
  refine ⟨rfl, ?_, ?_⟩
  · funext j
    simp only [gR]
    by_cases h59 : j < 59
    · rw [if_pos h59, if_pos h59]
      simp only [ms_full, cp_full]
      by_cases h1 : j < 4
      · simp [h1]
      · by_cases h2 : j < 11
        · simp [h1, h2]
          rcases (show j = 4 ∨ j = 5 ∨ j = 6 ∨ j = 7 ∨ j = 8 ∨ j = 9 ∨ j = 10 by omega) with rfl | rfl | rfl | rfl | rfl | rfl | rfl <;> simp
        · by_cases h3 : j < 21
          · simp [h1, h2, h3]; omega
          · by_cases h4 : j < 31
            · simp [h1, h2, h3, h4]; omega
            · have h5 : (j - 31) / 7 < 4 := by omega
              rcases (show (j - 31) % 7 = 0 ∨ (j - 31) % 7 = 1 ∨ (j - 31) % 7 = 2 ∨ (j - 31) % 7 = 3 ∨ (j - 31) % 7 = 4 ∨ (j - 31) % 7 = 5 ∨ (j - 31) % 7 = 6 by omega) with q | q | q | q | q | q | q <;> simp [h1, h2, h3, h4, h5, q]
    · rw [if_neg h59, if_neg h59]
  · intro q hq
    repeat (first | rfl | rw [ms_ne (by omega)] | rw [cp_ne (by omega)])
set_option maxHeartbeats 2000000 in
set_option maxRecDepth 20000 in
theorem X0_become_132_44 {d : Nat} {μ : ev_M}  (hd : 1 ≤ d := by omega) : SPv (ev_CALL d) 45 [.ref 132, .ref 44] μ (fun μ2 => gR μ2 132 = gR μ 44 ∧ gm_Fr 132 μ μ2) := by
  obtain ⟨d, rfl⟩ : ∃ q, d = q + 1 := ⟨d - 1, by omega⟩
  refine SPv.of (Nat.le_of_ble_eq_true rfl) ?_
  show es (ev_CALL d) 0 cX0_become none 0 (0, fun _ => 0, []) (fun r μ2 => r = (none, 0) ∧ (fun μ2 => gR μ2 132 = gR μ 44 ∧ gm_Fr 132 μ μ2) μ2) 0 [.ref 132, .ref 44] [] μ 0
  refine es_aload_n (pc := 0) dX0_become_0 rfl ?_
  refine es_getR (pc := 1) dX0_become_1 fr_0_9 fld_44_0 ?_
  refine es_iconstN (pc := 4) 0 dX0_become_4 ic_0 ?_
  refine es_aload_n (pc := 5) dX0_become_5 rfl ?_
  refine es_getR (pc := 6) dX0_become_6 fr_0_9 fld_132_0 ?_
  refine es_iconstN (pc := 9) 0 dX0_become_9 ic_0 ?_
  refine es_bipushN (pc := 10) 10 dX0_become_10 bp_10 ?_
  refine es_copy (pc := 12) dX0_become_12 (by decide +kernel) lay_45 lay_133 (by omega) (by omega) (Nat.le_of_ble_eq_true rfl) ?_
  refine es_aload_n (pc := 15) dX0_become_15 rfl ?_
  refine es_getR (pc := 16) dX0_become_16 fr_0_15 fld_44_1 ?_
  refine es_iconstN (pc := 19) 0 dX0_become_19 ic_0 ?_
  refine es_aload_n (pc := 20) dX0_become_20 rfl ?_
  refine es_getR (pc := 21) dX0_become_21 fr_0_15 fld_132_1 ?_
  refine es_iconstN (pc := 24) 0 dX0_become_24 ic_0 ?_
  refine es_bipushN (pc := 25) 10 dX0_become_25 bp_10 ?_
  refine es_copy (pc := 27) dX0_become_27 (by decide +kernel) lay_46 lay_134 (by omega) (by omega) (Nat.le_of_ble_eq_true rfl) ?_
  refine es_aload_n (pc := 30) dX0_become_30 rfl ?_
  refine es_getR (pc := 31) dX0_become_31 fr_0_18 fld_44_2 ?_
  refine es_iconstN (pc := 34) 0 dX0_become_34 ic_0 ?_
  refine es_aload_n (pc := 35) dX0_become_35 rfl ?_
  refine es_getR (pc := 36) dX0_become_36 fr_0_18 fld_132_2 ?_
  refine es_iconstN (pc := 39) 0 dX0_become_39 ic_0 ?_
  refine es_iconstN (pc := 40) 4 dX0_become_40 ic_4 ?_
  refine es_copy (pc := 41) dX0_become_41 (by decide +kernel) lay_47 lay_135 (by omega) (by omega) (Nat.le_of_ble_eq_true rfl) ?_
  refine es_aload_n (pc := 44) dX0_become_44 rfl ?_
  refine es_getR (pc := 45) dX0_become_45 fr_0_21 fld_44_3 ?_
  refine es_iconstN (pc := 48) 0 dX0_become_48 ic_0 ?_
  refine es_aload_n (pc := 49) dX0_become_49 rfl ?_
  refine es_getR (pc := 50) dX0_become_50 fr_0_21 fld_132_3 ?_
  refine es_iconstN (pc := 53) 0 dX0_become_53 ic_0 ?_
  refine es_iconstN (pc := 54) 4 dX0_become_54 ic_4 ?_
  refine es_copy (pc := 55) dX0_become_55 (by decide +kernel) lay_48 lay_136 (by omega) (by omega) (Nat.le_of_ble_eq_true rfl) ?_
  refine es_aload_n (pc := 58) dX0_become_58 rfl ?_
  refine es_getR (pc := 59) dX0_become_59 fr_0_24 fld_44_4 ?_
  refine es_iconstN (pc := 62) 0 dX0_become_62 ic_0 ?_
  refine es_aload_n (pc := 63) dX0_become_63 rfl ?_
  refine es_getR (pc := 64) dX0_become_64 fr_0_24 fld_132_4 ?_
  refine es_iconstN (pc := 67) 0 dX0_become_67 ic_0 ?_
  refine es_iconstN (pc := 68) 4 dX0_become_68 ic_4 ?_
  refine es_copy (pc := 69) dX0_become_69 (by decide +kernel) lay_49 lay_137 (by omega) (by omega) (Nat.le_of_ble_eq_true rfl) ?_
  refine es_aload_n (pc := 72) dX0_become_72 rfl ?_
  refine es_getR (pc := 73) dX0_become_73 fr_0_27 fld_44_5 ?_
  refine es_iconstN (pc := 76) 0 dX0_become_76 ic_0 ?_
  refine es_aload_n (pc := 77) dX0_become_77 rfl ?_
  refine es_getR (pc := 78) dX0_become_78 fr_0_27 fld_132_5 ?_
  refine es_iconstN (pc := 81) 0 dX0_become_81 ic_0 ?_
  refine es_iconstN (pc := 82) 4 dX0_become_82 ic_4 ?_
  refine es_copy (pc := 83) dX0_become_83 (by decide +kernel) lay_50 lay_138 (by omega) (by omega) (Nat.le_of_ble_eq_true rfl) ?_
  refine es_aload_n (pc := 86) dX0_become_86 rfl ?_
  refine es_getR (pc := 87) dX0_become_87 fr_0_30 fld_44_6 ?_
  refine es_iconstN (pc := 90) 0 dX0_become_90 ic_0 ?_
  refine es_aload_n (pc := 91) dX0_become_91 rfl ?_
  refine es_getR (pc := 92) dX0_become_92 fr_0_30 fld_132_6 ?_
  refine es_iconstN (pc := 95) 0 dX0_become_95 ic_0 ?_
  refine es_iconstN (pc := 96) 4 dX0_become_96 ic_4 ?_
  refine es_copy (pc := 97) dX0_become_97 (by decide +kernel) lay_51 lay_139 (by omega) (by omega) (Nat.le_of_ble_eq_true rfl) ?_
  refine es_aload_n (pc := 100) dX0_become_100 rfl ?_
  refine es_getR (pc := 101) dX0_become_101 fr_0_33 fld_44_7 ?_
  refine es_iconstN (pc := 104) 0 dX0_become_104 ic_0 ?_
  refine es_aload_n (pc := 105) dX0_become_105 rfl ?_
  refine es_getR (pc := 106) dX0_become_106 fr_0_33 fld_132_7 ?_
  refine es_iconstN (pc := 109) 0 dX0_become_109 ic_0 ?_
  refine es_iconstN (pc := 110) 4 dX0_become_110 ic_4 ?_
  refine es_copy (pc := 111) dX0_become_111 (by decide +kernel) lay_52 lay_140 (by omega) (by omega) (Nat.le_of_ble_eq_true rfl) ?_
  refine es_aload_n (pc := 114) dX0_become_114 rfl ?_
  refine es_getR (pc := 115) dX0_become_115 fr_0_36 fld_44_8 ?_
  refine es_iconstN (pc := 118) 0 dX0_become_118 ic_0 ?_
  refine es_aload_n (pc := 119) dX0_become_119 rfl ?_
  refine es_getR (pc := 120) dX0_become_120 fr_0_36 fld_132_8 ?_
  refine es_iconstN (pc := 123) 0 dX0_become_123 ic_0 ?_
  refine es_iconstN (pc := 124) 4 dX0_become_124 ic_4 ?_
  refine es_copy (pc := 125) dX0_become_125 (by decide +kernel) lay_53 lay_141 (by omega) (by omega) (Nat.le_of_ble_eq_true rfl) ?_
  refine es_aload_n (pc := 128) dX0_become_128 rfl ?_
  refine es_getR (pc := 129) dX0_become_129 fr_0_39 fld_44_9 ?_
  refine es_iconstN (pc := 132) 0 dX0_become_132 ic_0 ?_
  refine es_aload_n (pc := 133) dX0_become_133 rfl ?_
  refine es_getR (pc := 134) dX0_become_134 fr_0_39 fld_132_9 ?_
  refine es_iconstN (pc := 137) 0 dX0_become_137 ic_0 ?_
  refine es_iconstN (pc := 138) 4 dX0_become_138 ic_4 ?_
  refine es_copy (pc := 139) dX0_become_139 (by decide +kernel) lay_54 lay_142 (by omega) (by omega) (Nat.le_of_ble_eq_true rfl) ?_
  refine es_aload_n (pc := 142) dX0_become_142 rfl ?_
  refine es_aload_n (pc := 143) dX0_become_143 rfl ?_
  refine es_getI (pc := 144) dX0_become_144 fr_0_42 fld_44_10 ?_
  refine es_putI (pc := 147) dX0_become_147 fr_0_42 fld_132_10 ?_
  refine es_aload_n (pc := 150) dX0_become_150 rfl ?_
  refine es_aload_n (pc := 151) dX0_become_151 rfl ?_
  refine es_getI (pc := 152) dX0_become_152 fr_0_46 fld_44_11 ?_
  refine es_putI (pc := 155) dX0_become_155 fr_0_46 fld_132_11 ?_
  refine es_aload_n (pc := 158) dX0_become_158 rfl ?_
  refine es_aload_n (pc := 159) dX0_become_159 rfl ?_
  refine es_getI (pc := 160) dX0_become_160 fr_0_49 fld_44_12 ?_
  refine es_putI (pc := 163) dX0_become_163 fr_0_49 fld_132_12 ?_
  refine es_aload_n (pc := 166) dX0_become_166 rfl ?_
  refine es_aload_n (pc := 167) dX0_become_167 rfl ?_
  refine es_getI (pc := 168) dX0_become_168 fr_0_52 fld_44_13 ?_
  refine es_putI (pc := 171) dX0_become_171 fr_0_52 fld_132_13 ?_
  refine es_aload_n (pc := 174) dX0_become_174 rfl ?_
  refine es_aload_n (pc := 175) dX0_become_175 rfl ?_
  refine es_getI (pc := 176) dX0_become_176 fr_0_55 fld_44_14 ?_
  refine es_putI (pc := 179) dX0_become_179 fr_0_55 fld_132_14 ?_
  refine es_aload_n (pc := 182) dX0_become_182 rfl ?_
  refine es_aload_n (pc := 183) dX0_become_183 rfl ?_
  refine es_getI (pc := 184) dX0_become_184 fr_0_58 fld_44_15 ?_
  refine es_putI (pc := 187) dX0_become_187 fr_0_58 fld_132_15 ?_
  refine es_aload_n (pc := 190) dX0_become_190 rfl ?_
  refine es_aload_n (pc := 191) dX0_become_191 rfl ?_
  refine es_getI (pc := 192) dX0_become_192 fr_0_61 fld_44_16 ?_
  refine es_putI (pc := 195) dX0_become_195 fr_0_61 fld_132_16 ?_
  refine es_vreturn (pc := 198) dX0_become_198 rfl (by decide) ?_
  refine ⟨rfl, ?_, ?_⟩
  · funext j
    simp only [gR]
    by_cases h59 : j < 59
    · rw [if_pos h59, if_pos h59]
      simp only [ms_full, cp_full]
      by_cases h1 : j < 4
      · simp [h1]
      · by_cases h2 : j < 11
        · simp [h1, h2]
          rcases (show j = 4 ∨ j = 5 ∨ j = 6 ∨ j = 7 ∨ j = 8 ∨ j = 9 ∨ j = 10 by omega) with rfl | rfl | rfl | rfl | rfl | rfl | rfl <;> simp
        · by_cases h3 : j < 21
          · simp [h1, h2, h3]; omega
          · by_cases h4 : j < 31
            · simp [h1, h2, h3, h4]; omega
            · have h5 : (j - 31) / 7 < 4 := by omega
              rcases (show (j - 31) % 7 = 0 ∨ (j - 31) % 7 = 1 ∨ (j - 31) % 7 = 2 ∨ (j - 31) % 7 = 3 ∨ (j - 31) % 7 = 4 ∨ (j - 31) % 7 = 5 ∨ (j - 31) % 7 = 6 by omega) with q | q | q | q | q | q | q <;> simp [h1, h2, h3, h4, h5, q]
    · rw [if_neg h59, if_neg h59]
  · intro q hq
    repeat (first | rfl | rw [ms_ne (by omega)] | rw [cp_ne (by omega)])
