theorem ev_lk {α β : Type} [BEq α] [LawfulBEq α] {l : List (α × β)} {k : α} {v : β} (h : l.lookup k = some v) : (k, v) ∈ l := by
  induction l with
  | nil => simp at h
  | cons q t ih =>
    obtain ⟨q1, q2⟩ := q
    by_cases hq : k == q1
    · rw [List.lookup_cons, hq] at h
      have := LawfulBEq.eq_of_beq hq
      simp at h
      subst this; subst h
      exact List.mem_cons_self
    · have hq' : (k == q1) = false := by simpa using hq
      rw [List.lookup_cons, hq'] at h
      exact List.mem_cons_of_mem _ (ih h)
def ev_TB : List Cond := lw_tbl.filter goodWord
theorem ev_TBi {i : Nat} {w : Cond} (h : lw_tbl[i]? = some w) (g : goodWord w = true) : w ∈ ev_TB := List.mem_filter.mpr ⟨List.mem_of_getElem? h, g⟩
theorem ev_TBm {w : Cond} (h : w ∈ lw_tbl) (g : goodWord w = true) : w ∈ ev_TB := List.mem_filter.mpr ⟨h, g⟩
def ev_T (ci : Nat) : u_T := match ci with
  | 0 => TX0 | 1 => TX1 | 2 => TX2 | 3 => TX3 | 4 => TX4 | 5 => TX5 | _ => TX6
def ev_tN (ci : Nat) : Nat := match ci with
  | 0 => 17 | 1 => 3 | 2 => 2 | 3 => 4 | 4 => 4 | 5 => 7 | _ => 14
theorem ev_fr_t : ∀ q ∈ ev_frT, lw_tbl[q.2.2.2]? = some (Cond.fieldLink (ev_cn q.1.1) q.1.2 (ev_T q.2.1 q.2.2.1).1 (ev_T q.2.1 q.2.2.1).2.1 (ev_T q.2.1 q.2.2.1).2.2.1) ∧ q.2.1 < 7 ∧ q.2.2.1 < ev_tN q.2.1 := by decide +kernel
theorem ev_lays_t : ∀ ci, ci < 7 → ∀ w ∈ u_ws (ev_cn ci) (ev_T ci) (ev_tN ci), w ∈ lw_tbl := by decide +kernel
theorem ev_ci_t : ∀ q ∈ ev_ciT, lw_tbl[q.2.2]? = some (Cond.constant (ev_cn q.1.1) q.1.2 q.2.1) := by decide +kernel
theorem ev_cl_t : ∀ q ∈ ev_clT, lw_tbl[q.2.2]? = some (Cond.constantLong (ev_cn q.1.1) q.1.2 q.2.1) := by decide +kernel
theorem ev_cd_t : ∀ q ∈ ev_cdT, lw_tbl[q.2.2]? = some (Cond.constantDouble (ev_cn q.1.1) q.1.2 q.2.1) := by decide +kernel
theorem ev_sr_t : ∀ q ∈ ev_srT, lw_tbl[q.2.2]? = some (Cond.fieldLink RX5 q.1.2 RX5 (if q.2.1 = 201 then "SETTING_LEAST" else "SETTING_MOST") "[I") ∧ q.1.1 = 5 ∧ (q.2.1 = 201 ∨ q.2.1 = 202) := by decide +kernel
theorem ev_cp_t : ∀ q ∈ ev_cpT, lw_tbl[q.2]? = some (Cond.methodLink (ev_cn q.1.1) q.1.2 arraycopyName) := by decide +kernel
theorem ev_mq_t : ∀ q ∈ ev_mqT, (Cond.methodLink (ev_cn q.1.1) q.1.2 (if q.2 = 901 then Lib.Math.max.name else if q.2 = 902 then Lib.Math.min.name else if q.2 = 903 then Lib.Math.abs.name else ⟨"java/lang/Double", "doubleToRawLongBits", "(D)J"⟩)) ∈ lw_tbl := by decide +kernel
theorem ev_ms_t : ∀ w ∈ ([.static Lib.Math.max.name, .static Lib.Math.min.name, .static Lib.Math.abs.name, .initialized "java/lang/Math", .code Lib.Math.max.name Lib.Math.max.code 2 (some .int), .code Lib.Math.min.name Lib.Math.min.code 2 (some .int), .code Lib.Math.abs.name Lib.Math.abs.code 1 (some .int), .native ⟨"java/lang/Double", "doubleToRawLongBits", "(D)J"⟩, .static ⟨"java/lang/Double", "doubleToRawLongBits", "(D)J"⟩, .initialized "java/lang/Double", .native arraycopyName, .static arraycopyName, .initialized "java/lang/System"] : List Cond), w ∈ lw_tbl := by decide +kernel
theorem ev_x0 : ∀ w ∈ (vx_atS RX5 60 "java/lang/IndexOutOfBoundsException" ["java/lang/RuntimeException", "java/lang/Exception"]).filter goodWord, w ∈ lw_tbl := by decide +kernel
theorem ev_x1 : ∀ w ∈ (vx_atS RX5 67 "java/lang/IllegalArgumentException" ["java/lang/RuntimeException", "java/lang/Exception"]).filter goodWord, w ∈ lw_tbl := by decide +kernel
theorem ev_x2 : ∀ w ∈ (vx_atS RX5 86 "java/lang/IllegalStateException" ["java/lang/RuntimeException", "java/lang/Exception"]).filter goodWord, w ∈ lw_tbl := by decide +kernel
def ev_cw (y : Nat) : Cond := if (ev_yh y).isEmpty then .code (ev_yn y) (ev_yb y) (ev_yL y) (ev_yr y) else .codeWith (ev_yn y) (ev_yb y) (ev_yL y) (ev_yr y) (ev_yh y)

def ev_cixT : List Nat := [263, 267, 271, 275, 278, 281, 285, 289, 293, 297, 310, 314, 318, 321, 328, 332, 336, 340, 344, 350, 355, 359, 364, 369, 373, 377, 382, 386, 391, 398, 402, 406, 410, 414, 420, 424, 427, 431, 434, 437, 444, 447, 453, 456, 544, 548, 552, 557, 578, 581, 585, 588, 597, 601, 605, 610, 613, 617, 621, 625, 629, 633, 637, 641, 644, 648, 652, 658, 661, 665, 671, 674, 678, 682, 686, 691, 696, 700, 703, 707, 712, 716, 720, 724, 729, 732, 736, 740, 744, 748, 752, 756, 760, 763, 767, 771, 775, 779, 783, 836, 840, 844, 848, 851, 855, 859, 863, 867, 871, 875, 879, 883, 887, 891, 895, 899, 903, 907, 911, 915, 919, 923, 927, 931, 934, 938, 942, 946, 950, 954, 958, 962, 966, 970, 974, 978, 982, 986, 990, 994, 998, 1002, 1006, 1010, 1014, 1018, 1022, 1026, 1030, 1034, 1038, 1042, 1046, 1050, 1054, 1058, 1062, 1066, 1071, 1075, 1079, 1083, 1087, 1091, 1095, 1099, 1102, 1106, 1110, 1114, 1119, 1122]
def ev_cix (y : Nat) : Nat := ev_cixT.getD y 0
theorem ev_code_0 : ∀ y ∈ List.range' 0 12, lw_tbl[ev_cix y]? = some (ev_cw y) := by decide +kernel
theorem ev_code_12 : ∀ y ∈ List.range' 12 12, lw_tbl[ev_cix y]? = some (ev_cw y) := by decide +kernel
theorem ev_code_24 : ∀ y ∈ List.range' 24 12, lw_tbl[ev_cix y]? = some (ev_cw y) := by decide +kernel
theorem ev_code_36 : ∀ y ∈ List.range' 36 12, lw_tbl[ev_cix y]? = some (ev_cw y) := by decide +kernel
theorem ev_code_48 : ∀ y ∈ List.range' 48 12, lw_tbl[ev_cix y]? = some (ev_cw y) := by decide +kernel
theorem ev_code_60 : ∀ y ∈ List.range' 60 12, lw_tbl[ev_cix y]? = some (ev_cw y) := by decide +kernel
theorem ev_code_72 : ∀ y ∈ List.range' 72 12, lw_tbl[ev_cix y]? = some (ev_cw y) := by decide +kernel
theorem ev_code_84 : ∀ y ∈ List.range' 84 12, lw_tbl[ev_cix y]? = some (ev_cw y) := by decide +kernel
theorem ev_code_96 : ∀ y ∈ List.range' 96 12, lw_tbl[ev_cix y]? = some (ev_cw y) := by decide +kernel
theorem ev_code_108 : ∀ y ∈ List.range' 108 12, lw_tbl[ev_cix y]? = some (ev_cw y) := by decide +kernel
theorem ev_code_120 : ∀ y ∈ List.range' 120 12, lw_tbl[ev_cix y]? = some (ev_cw y) := by decide +kernel
theorem ev_code_132 : ∀ y ∈ List.range' 132 12, lw_tbl[ev_cix y]? = some (ev_cw y) := by decide +kernel
theorem ev_code_144 : ∀ y ∈ List.range' 144 12, lw_tbl[ev_cix y]? = some (ev_cw y) := by decide +kernel
theorem ev_code_156 : ∀ y ∈ List.range' 156 12, lw_tbl[ev_cix y]? = some (ev_cw y) := by decide +kernel
theorem ev_code_168 : ∀ y ∈ List.range' 168 4, lw_tbl[ev_cix y]? = some (ev_cw y) := by decide +kernel
theorem ev_code_t {y : Nat} (h : y < 172) : ev_cw y ∈ lw_tbl := by
  by_cases c0 : y < 12
  · exact List.mem_of_getElem? (ev_code_0 y (List.mem_range'_1.mpr ⟨by omega, by omega⟩))
  by_cases c12 : y < 24
  · exact List.mem_of_getElem? (ev_code_12 y (List.mem_range'_1.mpr ⟨by omega, by omega⟩))
  by_cases c24 : y < 36
  · exact List.mem_of_getElem? (ev_code_24 y (List.mem_range'_1.mpr ⟨by omega, by omega⟩))
  by_cases c36 : y < 48
  · exact List.mem_of_getElem? (ev_code_36 y (List.mem_range'_1.mpr ⟨by omega, by omega⟩))
  by_cases c48 : y < 60
  · exact List.mem_of_getElem? (ev_code_48 y (List.mem_range'_1.mpr ⟨by omega, by omega⟩))
  by_cases c60 : y < 72
  · exact List.mem_of_getElem? (ev_code_60 y (List.mem_range'_1.mpr ⟨by omega, by omega⟩))
  by_cases c72 : y < 84
  · exact List.mem_of_getElem? (ev_code_72 y (List.mem_range'_1.mpr ⟨by omega, by omega⟩))
  by_cases c84 : y < 96
  · exact List.mem_of_getElem? (ev_code_84 y (List.mem_range'_1.mpr ⟨by omega, by omega⟩))
  by_cases c96 : y < 108
  · exact List.mem_of_getElem? (ev_code_96 y (List.mem_range'_1.mpr ⟨by omega, by omega⟩))
  by_cases c108 : y < 120
  · exact List.mem_of_getElem? (ev_code_108 y (List.mem_range'_1.mpr ⟨by omega, by omega⟩))
  by_cases c120 : y < 132
  · exact List.mem_of_getElem? (ev_code_120 y (List.mem_range'_1.mpr ⟨by omega, by omega⟩))
  by_cases c132 : y < 144
  · exact List.mem_of_getElem? (ev_code_132 y (List.mem_range'_1.mpr ⟨by omega, by omega⟩))
  by_cases c144 : y < 156
  · exact List.mem_of_getElem? (ev_code_144 y (List.mem_range'_1.mpr ⟨by omega, by omega⟩))
  by_cases c156 : y < 168
  · exact List.mem_of_getElem? (ev_code_156 y (List.mem_range'_1.mpr ⟨by omega, by omega⟩))
  exact List.mem_of_getElem? (ev_code_168 y (List.mem_range'_1.mpr ⟨by omega, by omega⟩))
/-- a call's words but the code -/
def ev_mok (q : (Nat × Nat) × Nat × Nat × Nat × Nat × Nat × Nat) : Prop := q.2.1 < 172 ∧ lw_tbl[q.2.2.1]? = some (Cond.methodLink (ev_cn q.1.1) q.1.2 (ev_yn q.2.1)) ∧ (ev_kd q.2.1 = 0 → lw_tbl[q.2.2.2.1]? = some (Cond.instanceMethod (ev_yn q.2.1)) ∧ lw_tbl[q.2.2.2.2.1]? = some (Cond.selects (ev_cn (ev_yo q.2.1)) (ev_yn q.2.1) (ev_yn q.2.1))) ∧ (ev_kd q.2.1 = 1 → lw_tbl[q.2.2.2.1]? = some (Cond.static (ev_yn q.2.1))) ∧ lw_tbl[q.2.2.2.2.2.1]? = some (Cond.initialized (ev_yn q.2.1).cls)
theorem ev_mr_0 : ∀ q ∈ (ev_mrT.drop 0).take 20, ev_mok q := by unfold ev_mok; decide +kernel
theorem ev_mr_20 : ∀ q ∈ (ev_mrT.drop 20).take 20, ev_mok q := by unfold ev_mok; decide +kernel
theorem ev_mr_40 : ∀ q ∈ (ev_mrT.drop 40).take 20, ev_mok q := by unfold ev_mok; decide +kernel
theorem ev_mr_60 : ∀ q ∈ (ev_mrT.drop 60).take 20, ev_mok q := by unfold ev_mok; decide +kernel
theorem ev_mr_80 : ∀ q ∈ (ev_mrT.drop 80).take 20, ev_mok q := by unfold ev_mok; decide +kernel
theorem ev_mr_100 : ∀ q ∈ (ev_mrT.drop 100).take 20, ev_mok q := by unfold ev_mok; decide +kernel
theorem ev_mr_120 : ∀ q ∈ (ev_mrT.drop 120).take 20, ev_mok q := by unfold ev_mok; decide +kernel
theorem ev_mr_140 : ∀ q ∈ (ev_mrT.drop 140).take 20, ev_mok q := by unfold ev_mok; decide +kernel
theorem ev_mr_160 : ∀ q ∈ (ev_mrT.drop 160).take 20, ev_mok q := by unfold ev_mok; decide +kernel
theorem ev_mr_180 : ∀ q ∈ (ev_mrT.drop 180).take 20, ev_mok q := by unfold ev_mok; decide +kernel
theorem ev_dt {α : Type} {P : α → Prop} {l : List α} (n : Nat) (h1 : ∀ q ∈ l.take n, P q) (h2 : ∀ q ∈ l.drop n, P q) : ∀ q ∈ l, P q := fun q h => by
  rw [← List.take_append_drop n l] at h
  exact (List.mem_append.mp h).elim (h1 q) (h2 q)
theorem ev_mr_t : ∀ q ∈ ev_mrT, ev_mok q := by
  refine ev_dt 20 (by simpa using ev_mr_0) ?_
  try rw [List.drop_drop]
  refine ev_dt 20 ev_mr_20 ?_
  try rw [List.drop_drop]
  refine ev_dt 20 ev_mr_40 ?_
  try rw [List.drop_drop]
  refine ev_dt 20 ev_mr_60 ?_
  try rw [List.drop_drop]
  refine ev_dt 20 ev_mr_80 ?_
  try rw [List.drop_drop]
  refine ev_dt 20 ev_mr_100 ?_
  try rw [List.drop_drop]
  refine ev_dt 20 ev_mr_120 ?_
  try rw [List.drop_drop]
  refine ev_dt 20 ev_mr_140 ?_
  try rw [List.drop_drop]
  refine ev_dt 20 ev_mr_160 ?_
  try rw [List.drop_drop]
  intro q h
  exact ev_mr_180 q (by rw [List.take_of_length_le (by decide +kernel)]; exact h)
theorem ev_yo_t : ∀ y, y < 172 → (ev_yn y).cls = ev_cn (ev_yo y) ∧ (ev_yn y).cls ≠ "java/lang/invoke/MethodHandle" ∧ (ev_yn y).cls ≠ "java/lang/invoke/VarHandle" ∧ (parseMethodDescriptor (ev_yn y).desc).map (fun d => d.parameters.length) = some (ev_np y) ∧ plainName (ev_yn y).cls = true ∧ ev_yL y ≤ 14 ∧ (parseMethodDescriptor (ev_yn y).desc).map (fun d => d.returnType) = some (ev_yr y) := by decide +kernel
theorem mr_9_112 : ev_mr 9 112 = some 0 := by decide +kernel
theorem mr_5_144 : ev_mr 5 144 = some 1 := by decide +kernel
theorem mr_9_116 : ev_mr 9 116 = some 2 := by decide +kernel
theorem mr_5_147 : ev_mr 5 147 = some 3 := by decide +kernel
theorem mr_2_19 : ev_mr 2 19 = some 4 := by decide +kernel
theorem mr_2_35 : ev_mr 2 35 = some 5 := by decide +kernel
theorem mr_9_154 : ev_mr 9 154 = some 6 := by decide +kernel
theorem mr_5_221 : ev_mr 5 221 = some 7 := by decide +kernel
theorem mr_0_104 : ev_mr 0 104 = some 8 := by decide +kernel
theorem mr_0_82 : ev_mr 0 82 = some 9 := by decide +kernel
theorem mr_9_158 : ev_mr 9 158 = some 10 := by decide +kernel
theorem mr_5_224 : ev_mr 5 224 = some 11 := by decide +kernel
theorem mr_0_86 : ev_mr 0 86 = some 12 := by decide +kernel
theorem mr_0_90 : ev_mr 0 90 = some 13 := by decide +kernel
theorem mr_9_162 : ev_mr 9 162 = some 14 := by decide +kernel
theorem mr_5_227 : ev_mr 5 227 = some 15 := by decide +kernel
theorem mr_0_121 : ev_mr 0 121 = some 16 := by decide +kernel
theorem mr_0_118 : ev_mr 0 118 = some 17 := by decide +kernel
theorem mr_9_167 : ev_mr 9 167 = some 18 := by decide +kernel
theorem mr_5_198 : ev_mr 5 198 = some 19 := by decide +kernel
theorem mr_5_292 : ev_mr 5 292 = some 16 := by decide +kernel
theorem mr_5_295 : ev_mr 5 295 = some 20 := by decide +kernel
theorem mr_5_203 : ev_mr 5 203 = some 21 := by decide +kernel
theorem mr_4_27 : ev_mr 4 27 = some 9 := by decide +kernel
theorem mr_4_33 : ev_mr 4 33 = some 22 := by decide +kernel
theorem mr_5_235 : ev_mr 5 235 = some 23 := by decide +kernel
theorem mr_5_188 : ev_mr 5 188 = some 24 := by decide +kernel
theorem mr_5_250 : ev_mr 5 250 = some 25 := by decide +kernel
theorem mr_5_253 : ev_mr 5 253 = some 12 := by decide +kernel
theorem mr_5_206 : ev_mr 5 206 = some 26 := by decide +kernel
theorem mr_4_38 : ev_mr 4 38 = some 27 := by decide +kernel
theorem mr_5_209 : ev_mr 5 209 = some 28 := by decide +kernel
theorem mr_4_53 : ev_mr 4 53 = some 29 := by decide +kernel
theorem mr_5_239 : ev_mr 5 239 = some 30 := by decide +kernel
theorem mr_5_193 : ev_mr 5 193 = some 31 := by decide +kernel
theorem mr_5_280 : ev_mr 5 280 = some 32 := by decide +kernel
theorem mr_0_101 : ev_mr 0 101 = some 33 := by decide +kernel
theorem mr_0_98 : ev_mr 0 98 = some 22 := by decide +kernel
theorem mr_5_214 : ev_mr 5 214 = some 33 := by decide +kernel
theorem mr_5_217 : ev_mr 5 217 = some 34 := by decide +kernel
theorem mr_3_46 : ev_mr 3 46 = some 35 := by decide +kernel
theorem mr_3_56 : ev_mr 3 56 = some 36 := by decide +kernel
theorem mr_3_59 : ev_mr 3 59 = some 37 := by decide +kernel
theorem mr_3_62 : ev_mr 3 62 = some 38 := by decide +kernel
theorem mr_5_243 : ev_mr 5 243 = some 39 := by decide +kernel
theorem mr_5_155 : ev_mr 5 155 = some 40 := by decide +kernel
theorem mr_9_80 : ev_mr 9 80 = some 41 := by decide +kernel
theorem mr_9_7 : ev_mr 9 7 = some 42 := by decide +kernel
theorem mr_5_52 : ev_mr 5 52 = some 43 := by decide +kernel
theorem mr_5_68 : ev_mr 5 68 = some 44 := by decide +kernel
theorem mr_1_23 : ev_mr 1 23 = some 45 := by decide +kernel
theorem mr_9_89 : ev_mr 9 89 = some 46 := by decide +kernel
theorem mr_9_17 : ev_mr 9 17 = some 47 := by decide +kernel
theorem mr_5_87 : ev_mr 5 87 = some 48 := by decide +kernel
theorem mr_9_92 : ev_mr 9 92 = some 49 := by decide +kernel
theorem mr_9_22 : ev_mr 9 22 = some 50 := by decide +kernel
theorem mr_5_91 : ev_mr 5 91 = some 51 := by decide +kernel
theorem mr_9_95 : ev_mr 9 95 = some 52 := by decide +kernel
theorem mr_9_25 : ev_mr 9 25 = some 53 := by decide +kernel
theorem mr_5_107 : ev_mr 5 107 = some 54 := by decide +kernel
theorem mr_5_113 : ev_mr 5 113 = some 55 := by decide +kernel
theorem mr_9_99 : ev_mr 9 99 = some 56 := by decide +kernel
theorem mr_9_29 : ev_mr 9 29 = some 57 := by decide +kernel
theorem mr_5_117 : ev_mr 5 117 = some 58 := by decide +kernel
theorem mr_0_107 : ev_mr 0 107 = some 59 := by decide +kernel
theorem mr_0_110 : ev_mr 0 110 = some 60 := by decide +kernel
theorem mr_0_114 : ev_mr 0 114 = some 55 := by decide +kernel
theorem mr_9_103 : ev_mr 9 103 = some 61 := by decide +kernel
theorem mr_9_33 : ev_mr 9 33 = some 62 := by decide +kernel
theorem mr_5_121 : ev_mr 5 121 = some 63 := by decide +kernel
theorem mr_9_106 : ev_mr 9 106 = some 64 := by decide +kernel
theorem mr_9_36 : ev_mr 9 36 = some 65 := by decide +kernel
theorem mr_5_124 : ev_mr 5 124 = some 66 := by decide +kernel
theorem mr_5_131 : ev_mr 5 131 = some 67 := by decide +kernel
theorem mr_9_109 : ev_mr 9 109 = some 68 := by decide +kernel
theorem mr_9_39 : ev_mr 9 39 = some 69 := by decide +kernel
theorem mr_5_141 : ev_mr 5 141 = some 70 := by decide +kernel
theorem mr_9_120 : ev_mr 9 120 = some 71 := by decide +kernel
theorem mr_9_42 : ev_mr 9 42 = some 72 := by decide +kernel
theorem mr_5_150 : ev_mr 5 150 = some 73 := by decide +kernel
theorem mr_2_23 : ev_mr 2 23 = some 3 := by decide +kernel
theorem mr_2_27 : ev_mr 2 27 = some 74 := by decide +kernel
theorem mr_5_158 : ev_mr 5 158 = some 75 := by decide +kernel
theorem mr_2_31 : ev_mr 2 31 = some 40 := by decide +kernel
theorem mr_5_161 : ev_mr 5 161 = some 76 := by decide +kernel
theorem mr_5_165 : ev_mr 5 165 = some 77 := by decide +kernel
theorem mr_9_123 : ev_mr 9 123 = some 78 := by decide +kernel
theorem mr_9_45 : ev_mr 9 45 = some 79 := by decide +kernel
theorem mr_5_170 : ev_mr 5 170 = some 45 := by decide +kernel
theorem mr_9_126 : ev_mr 9 126 = some 80 := by decide +kernel
theorem mr_9_48 : ev_mr 9 48 = some 81 := by decide +kernel
theorem mr_9_129 : ev_mr 9 129 = some 82 := by decide +kernel
theorem mr_9_51 : ev_mr 9 51 = some 83 := by decide +kernel
theorem mr_5_183 : ev_mr 5 183 = some 84 := by decide +kernel
theorem mr_9_132 : ev_mr 9 132 = some 85 := by decide +kernel
theorem mr_9_54 : ev_mr 9 54 = some 86 := by decide +kernel
theorem mr_9_135 : ev_mr 9 135 = some 87 := by decide +kernel
theorem mr_9_57 : ev_mr 9 57 = some 88 := by decide +kernel
theorem mr_9_138 : ev_mr 9 138 = some 89 := by decide +kernel
theorem mr_9_60 : ev_mr 9 60 = some 90 := by decide +kernel
theorem mr_9_141 : ev_mr 9 141 = some 91 := by decide +kernel
theorem mr_9_63 : ev_mr 9 63 = some 92 := by decide +kernel
theorem mr_9_144 : ev_mr 9 144 = some 93 := by decide +kernel
theorem mr_9_66 : ev_mr 9 66 = some 94 := by decide +kernel
theorem mr_9_148 : ev_mr 9 148 = some 95 := by decide +kernel
theorem mr_9_70 : ev_mr 9 70 = some 96 := by decide +kernel
theorem mr_9_151 : ev_mr 9 151 = some 97 := by decide +kernel
theorem mr_9_73 : ev_mr 9 73 = some 98 := by decide +kernel
theorem mr_9_86 : ev_mr 9 86 = some 99 := by decide +kernel
theorem mr_9_131 : ev_mr 9 131 = some 100 := by decide +kernel
theorem mr_6_46 : ev_mr 6 46 = some 101 := by decide +kernel
theorem mr_9_125 : ev_mr 9 125 = some 102 := by decide +kernel
theorem mr_6_39 : ev_mr 6 39 = some 103 := by decide +kernel
theorem mr_9_128 : ev_mr 9 128 = some 104 := by decide +kernel
theorem mr_6_50 : ev_mr 6 50 = some 105 := by decide +kernel
theorem mr_6_53 : ev_mr 6 53 = some 106 := by decide +kernel
theorem mr_9_85 : ev_mr 9 85 = some 107 := by decide +kernel
theorem mr_9_91 : ev_mr 9 91 = some 108 := by decide +kernel
theorem mr_9_94 : ev_mr 9 94 = some 109 := by decide +kernel
theorem mr_9_98 : ev_mr 9 98 = some 110 := by decide +kernel
theorem mr_6_112 : ev_mr 6 112 = some 111 := by decide +kernel
theorem mr_6_116 : ev_mr 6 116 = some 112 := by decide +kernel
theorem mr_6_91 : ev_mr 6 91 = some 113 := by decide +kernel
theorem mr_6_63 : ev_mr 6 63 = some 114 := by decide +kernel
theorem mr_6_94 : ev_mr 6 94 = some 115 := by decide +kernel
theorem mr_6_79 : ev_mr 6 79 = some 116 := by decide +kernel
theorem mr_6_83 : ev_mr 6 83 = some 117 := by decide +kernel
theorem mr_6_87 : ev_mr 6 87 = some 118 := by decide +kernel
theorem mr_9_102 : ev_mr 9 102 = some 119 := by decide +kernel
theorem mr_6_119 : ev_mr 6 119 = some 120 := by decide +kernel
theorem mr_6_97 : ev_mr 6 97 = some 121 := by decide +kernel
theorem mr_6_59 : ev_mr 6 59 = some 122 := by decide +kernel
theorem mr_6_76 : ev_mr 6 76 = some 123 := by decide +kernel
theorem mr_6_56 : ev_mr 6 56 = some 124 := by decide +kernel
theorem mr_6_100 : ev_mr 6 100 = some 125 := by decide +kernel
theorem mr_6_103 : ev_mr 6 103 = some 126 := by decide +kernel
theorem mr_9_105 : ev_mr 9 105 = some 127 := by decide +kernel
theorem mr_6_122 : ev_mr 6 122 = some 128 := by decide +kernel
theorem mr_6_106 : ev_mr 6 106 = some 129 := by decide +kernel
theorem mr_9_108 : ev_mr 9 108 = some 130 := by decide +kernel
theorem mr_6_125 : ev_mr 6 125 = some 131 := by decide +kernel
theorem mr_6_129 : ev_mr 6 129 = some 132 := by decide +kernel
theorem mr_6_109 : ev_mr 6 109 = some 133 := by decide +kernel
theorem mr_9_111 : ev_mr 9 111 = some 134 := by decide +kernel
theorem mr_9_115 : ev_mr 9 115 = some 135 := by decide +kernel
theorem mr_9_119 : ev_mr 9 119 = some 136 := by decide +kernel
theorem mr_6_138 : ev_mr 6 138 = some 137 := by decide +kernel
theorem mr_6_141 : ev_mr 6 141 = some 138 := by decide +kernel
theorem mr_6_135 : ev_mr 6 135 = some 139 := by decide +kernel
theorem mr_9_122 : ev_mr 9 122 = some 140 := by decide +kernel
theorem mr_6_144 : ev_mr 6 144 = some 141 := by decide +kernel
theorem mr_6_147 : ev_mr 6 147 = some 142 := by decide +kernel
theorem mr_9_134 : ev_mr 9 134 = some 143 := by decide +kernel
theorem mr_6_156 : ev_mr 6 156 = some 144 := by decide +kernel
theorem mr_6_150 : ev_mr 6 150 = some 145 := by decide +kernel
theorem mr_6_153 : ev_mr 6 153 = some 146 := by decide +kernel
theorem mr_9_137 : ev_mr 9 137 = some 147 := by decide +kernel
theorem mr_6_165 : ev_mr 6 165 = some 148 := by decide +kernel
theorem mr_6_162 : ev_mr 6 162 = some 149 := by decide +kernel
theorem mr_6_159 : ev_mr 6 159 = some 150 := by decide +kernel
theorem mr_9_140 : ev_mr 9 140 = some 151 := by decide +kernel
theorem mr_6_174 : ev_mr 6 174 = some 152 := by decide +kernel
theorem mr_6_168 : ev_mr 6 168 = some 153 := by decide +kernel
theorem mr_6_171 : ev_mr 6 171 = some 154 := by decide +kernel
theorem mr_9_143 : ev_mr 9 143 = some 155 := by decide +kernel
theorem mr_9_147 : ev_mr 9 147 = some 156 := by decide +kernel
theorem mr_6_178 : ev_mr 6 178 = some 157 := by decide +kernel
theorem mr_9_150 : ev_mr 9 150 = some 158 := by decide +kernel
theorem mr_9_153 : ev_mr 9 153 = some 159 := by decide +kernel
theorem mr_6_185 : ev_mr 6 185 = some 160 := by decide +kernel
theorem mr_6_181 : ev_mr 6 181 = some 161 := by decide +kernel
theorem mr_9_157 : ev_mr 9 157 = some 162 := by decide +kernel
theorem mr_6_188 : ev_mr 6 188 = some 163 := by decide +kernel
theorem mr_9_161 : ev_mr 9 161 = some 164 := by decide +kernel
theorem mr_6_194 : ev_mr 6 194 = some 165 := by decide +kernel
theorem mr_6_191 : ev_mr 6 191 = some 166 := by decide +kernel
theorem mr_9_166 : ev_mr 9 166 = some 167 := by decide +kernel
theorem mr_6_197 : ev_mr 6 197 = some 168 := by decide +kernel
theorem mr_9_171 : ev_mr 9 171 = some 169 := by decide +kernel
theorem mr_6_205 : ev_mr 6 205 = some 170 := by decide +kernel
theorem mr_8_122 : ev_mr 8 122 = some 171 := by decide +kernel
theorem mr_0_73 : ev_mr 0 73 = some 901 := by decide +kernel
theorem mr_0_79 : ev_mr 0 79 = some 902 := by decide +kernel
theorem mr_0_95 : ev_mr 0 95 = some 903 := by decide +kernel
theorem mr_4_42 : ev_mr 4 42 = some 902 := by decide +kernel
theorem mr_3_65 : ev_mr 3 65 = some 902 := by decide +kernel
theorem mr_8_134 : ev_mr 8 134 = some 904 := by decide +kernel
theorem fr_0_9 : ev_fr 0 9 = some (0, 0) := by decide +kernel
theorem fr_5_72 : ev_fr 5 72 = some (0, 0) := by decide +kernel
theorem fr_0_15 : ev_fr 0 15 = some (0, 1) := by decide +kernel
theorem fr_3_30 : ev_fr 3 30 = some (0, 1) := by decide +kernel
theorem fr_5_247 : ev_fr 5 247 = some (0, 1) := by decide +kernel
theorem fr_0_18 : ev_fr 0 18 = some (0, 2) := by decide +kernel
theorem fr_3_37 : ev_fr 3 37 = some (0, 2) := by decide +kernel
theorem fr_5_104 : ev_fr 5 104 = some (0, 2) := by decide +kernel
theorem fr_0_21 : ev_fr 0 21 = some (0, 3) := by decide +kernel
theorem fr_3_25 : ev_fr 3 25 = some (0, 3) := by decide +kernel
theorem fr_5_256 : ev_fr 5 256 = some (0, 3) := by decide +kernel
theorem fr_0_24 : ev_fr 0 24 = some (0, 4) := by decide +kernel
theorem fr_3_40 : ev_fr 3 40 = some (0, 4) := by decide +kernel
theorem fr_5_259 : ev_fr 5 259 = some (0, 4) := by decide +kernel
theorem fr_0_27 : ev_fr 0 27 = some (0, 5) := by decide +kernel
theorem fr_3_43 : ev_fr 3 43 = some (0, 5) := by decide +kernel
theorem fr_5_262 : ev_fr 5 262 = some (0, 5) := by decide +kernel
theorem fr_0_30 : ev_fr 0 30 = some (0, 6) := by decide +kernel
theorem fr_5_268 : ev_fr 5 268 = some (0, 6) := by decide +kernel
theorem fr_0_33 : ev_fr 0 33 = some (0, 7) := by decide +kernel
theorem fr_5_271 : ev_fr 5 271 = some (0, 7) := by decide +kernel
theorem fr_0_36 : ev_fr 0 36 = some (0, 8) := by decide +kernel
theorem fr_5_274 : ev_fr 5 274 = some (0, 8) := by decide +kernel
theorem fr_0_39 : ev_fr 0 39 = some (0, 9) := by decide +kernel
theorem fr_5_277 : ev_fr 5 277 = some (0, 9) := by decide +kernel
theorem fr_0_42 : ev_fr 0 42 = some (0, 10) := by decide +kernel
theorem fr_5_78 : ev_fr 5 78 = some (0, 10) := by decide +kernel
theorem fr_0_46 : ev_fr 0 46 = some (0, 11) := by decide +kernel
theorem fr_5_283 : ev_fr 5 283 = some (0, 11) := by decide +kernel
theorem fr_0_49 : ev_fr 0 49 = some (0, 12) := by decide +kernel
theorem fr_5_265 : ev_fr 5 265 = some (0, 12) := by decide +kernel
theorem fr_0_52 : ev_fr 0 52 = some (0, 13) := by decide +kernel
theorem fr_5_173 : ev_fr 5 173 = some (0, 13) := by decide +kernel
theorem fr_0_55 : ev_fr 0 55 = some (0, 14) := by decide +kernel
theorem fr_5_286 : ev_fr 5 286 = some (0, 14) := by decide +kernel
theorem fr_0_58 : ev_fr 0 58 = some (0, 15) := by decide +kernel
theorem fr_5_289 : ev_fr 5 289 = some (0, 15) := by decide +kernel
theorem fr_0_61 : ev_fr 0 61 = some (0, 16) := by decide +kernel
theorem fr_5_298 : ev_fr 5 298 = some (0, 16) := by decide +kernel
theorem fr_1_11 : ev_fr 1 11 = some (1, 0) := by decide +kernel
theorem fr_1_15 : ev_fr 1 15 = some (1, 1) := by decide +kernel
theorem fr_1_19 : ev_fr 1 19 = some (1, 2) := by decide +kernel
theorem fr_5_178 : ev_fr 5 178 = some (1, 2) := by decide +kernel
theorem fr_2_11 : ev_fr 2 11 = some (2, 0) := by decide +kernel
theorem fr_2_15 : ev_fr 2 15 = some (2, 1) := by decide +kernel
theorem fr_5_136 : ev_fr 5 136 = some (2, 1) := by decide +kernel
theorem fr_4_11 : ev_fr 4 11 = some (4, 0) := by decide +kernel
theorem fr_3_50 : ev_fr 3 50 = some (4, 0) := by decide +kernel
theorem fr_4_16 : ev_fr 4 16 = some (4, 1) := by decide +kernel
theorem fr_4_19 : ev_fr 4 19 = some (4, 2) := by decide +kernel
theorem fr_4_23 : ev_fr 4 23 = some (4, 3) := by decide +kernel
theorem fr_3_9 : ev_fr 3 9 = some (3, 0) := by decide +kernel
theorem fr_3_15 : ev_fr 3 15 = some (3, 1) := by decide +kernel
theorem fr_3_19 : ev_fr 3 19 = some (3, 2) := by decide +kernel
theorem fr_3_22 : ev_fr 3 22 = some (3, 3) := by decide +kernel
theorem fr_5_10 : ev_fr 5 10 = some (5, 0) := by decide +kernel
theorem fr_5_16 : ev_fr 5 16 = some (5, 1) := by decide +kernel
theorem fr_5_20 : ev_fr 5 20 = some (5, 2) := by decide +kernel
theorem fr_5_27 : ev_fr 5 27 = some (5, 3) := by decide +kernel
theorem fr_5_34 : ev_fr 5 34 = some (5, 4) := by decide +kernel
theorem fr_5_41 : ev_fr 5 41 = some (5, 5) := by decide +kernel
theorem fr_5_48 : ev_fr 5 48 = some (5, 6) := by decide +kernel
theorem fr_6_7 : ev_fr 6 7 = some (6, 0) := by decide +kernel
theorem fr_6_13 : ev_fr 6 13 = some (6, 1) := by decide +kernel
theorem fr_6_16 : ev_fr 6 16 = some (6, 2) := by decide +kernel
theorem fr_6_19 : ev_fr 6 19 = some (6, 3) := by decide +kernel
theorem fr_6_22 : ev_fr 6 22 = some (6, 4) := by decide +kernel
theorem fr_6_43 : ev_fr 6 43 = some (6, 5) := by decide +kernel
theorem fr_6_26 : ev_fr 6 26 = some (6, 6) := by decide +kernel
theorem fr_6_132 : ev_fr 6 132 = some (6, 7) := by decide +kernel
theorem fr_6_35 : ev_fr 6 35 = some (6, 8) := by decide +kernel
theorem fr_6_67 : ev_fr 6 67 = some (6, 9) := by decide +kernel
theorem fr_6_70 : ev_fr 6 70 = some (6, 10) := by decide +kernel
theorem fr_6_73 : ev_fr 6 73 = some (6, 11) := by decide +kernel
theorem fr_6_29 : ev_fr 6 29 = some (6, 12) := by decide +kernel
theorem fr_6_32 : ev_fr 6 32 = some (6, 13) := by decide +kernel
theorem ci_7_265 : ev_ci 7 265 = some 1431655765 := by decide +kernel
theorem ci_7_266 : ev_ci 7 266 = some 858993459 := by decide +kernel
theorem ci_7_267 : ev_ci 7 267 = some 252645135 := by decide +kernel
theorem ci_4_37 : ev_ci 4 37 = some 1000000 := by decide +kernel
theorem ci_6_177 : ev_ci 6 177 = some 100000 := by decide +kernel
theorem cl_5_231 : ev_cl 5 231 = some 3229 := by decide +kernel
theorem cl_5_233 : ev_cl 5 233 = some 31 := by decide +kernel
theorem cl_5_301 : ev_cl 5 301 = some 1023 := by decide +kernel
theorem cl_6_201 : ev_cl 6 201 = some 3229 := by decide +kernel
theorem cl_6_203 : ev_cl 6 203 = some 31 := by decide +kernel
theorem cl_8_137 : ev_cl 8 137 = some 9221120237041090560 := by decide +kernel
theorem cd_5_303 : ev_cd 5 303 = some 4611686018427387904 := by decide +kernel
theorem cd_5_305 : ev_cd 5 305 = some 4841369599423283200 := by decide +kernel
