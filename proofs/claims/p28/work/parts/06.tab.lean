theorem ev_lk {α β : Type} [BEq α] [LawfulBEq α] {l : List (α × β)} {k : α} {v : β} (h : l.lookup k = some v) : (k, v) ∈ l := by
  induction l with
  | nil => simp at h
  | cons q t ih =>
    obtain ⟨q1, q2⟩ := q
    by_cases hq : k == q1
    · rw [List.lookup_cons, hq] at h
      have := LawfulBEq.eq_of_beq hq
      simp at h
      subst this; subst h
      exact List.mem_cons_self
    · have hq' : (k == q1) = false := by simpa using hq
      rw [List.lookup_cons, hq'] at h
      exact List.mem_cons_of_mem _ (ih h)
def ev_TB : List Cond := lw_tbl.filter goodWord
theorem ev_TBi {i : Nat} {w : Cond} (h : lw_tbl[i]? = some w) (g : goodWord w = true) : w ∈ ev_TB := List.mem_filter.mpr ⟨List.mem_of_getElem? h, g⟩
theorem ev_TBm {w : Cond} (h : w ∈ lw_tbl) (g : goodWord w = true) : w ∈ ev_TB := List.mem_filter.mpr ⟨h, g⟩
def ev_T (ci : Nat) : u_T := match ci with
  | 0 => TX0 | 1 => TX1 | 2 => TX2 | 3 => TX3 | 4 => TX4 | 5 => TX5 | _ => TX6
def ev_tN (ci : Nat) : Nat := match ci with
  | 0 => 17 | 1 => 3 | 2 => 2 | 3 => 4 | 4 => 4 | 5 => 7 | _ => 14
theorem ev_fr_t : ∀ q ∈ ev_frT, lw_tbl[q.2.2.2]? = some (Cond.fieldLink (ev_cn q.1.1) q.1.2 (ev_T q.2.1 q.2.2.1).1 (ev_T q.2.1 q.2.2.1).2.1 (ev_T q.2.1 q.2.2.1).2.2.1) ∧ q.2.1 < 6 ∧ q.2.2.1 < ev_tN q.2.1 := by decide +kernel
theorem ev_lays_t : ∀ ci, ci < 6 → ∀ w ∈ u_ws (ev_cn ci) (ev_T ci) (ev_tN ci), w ∈ lw_tbl := by decide +kernel
theorem ev_ci_t : ∀ q ∈ ev_ciT, lw_tbl[q.2.2]? = some (Cond.constant (ev_cn q.1.1) q.1.2 q.2.1) := by decide +kernel
theorem ev_cl_t : ∀ q ∈ ev_clT, lw_tbl[q.2.2]? = some (Cond.constantLong (ev_cn q.1.1) q.1.2 q.2.1) := by decide +kernel
theorem ev_cd_t : ∀ q ∈ ev_cdT, lw_tbl[q.2.2]? = some (Cond.constantDouble (ev_cn q.1.1) q.1.2 q.2.1) := by decide +kernel
theorem ev_sr_t : ∀ q ∈ ev_srT, lw_tbl[q.2.2]? = some (Cond.fieldLink RX5 q.1.2 RX5 (if q.2.1 = 201 then "SETTING_LEAST" else "SETTING_MOST") "[I") ∧ q.1.1 = 5 ∧ (q.2.1 = 201 ∨ q.2.1 = 202) := by decide +kernel
theorem ev_cp_t : ∀ q ∈ ev_cpT, lw_tbl[q.2]? = some (Cond.methodLink (ev_cn q.1.1) q.1.2 arraycopyName) := by decide +kernel
theorem ev_mq_t : ∀ q ∈ ev_mqT, (Cond.methodLink (ev_cn q.1.1) q.1.2 (if q.2 = 901 then Lib.Math.max.name else if q.2 = 902 then Lib.Math.min.name else if q.2 = 903 then Lib.Math.abs.name else ⟨"java/lang/Double", "doubleToRawLongBits", "(D)J"⟩)) ∈ lw_tbl := by decide +kernel
theorem ev_ms_t : ∀ w ∈ ([.static Lib.Math.max.name, .static Lib.Math.min.name, .static Lib.Math.abs.name, .initialized "java/lang/Math", .code Lib.Math.max.name Lib.Math.max.code 2 (some .int), .code Lib.Math.min.name Lib.Math.min.code 2 (some .int), .code Lib.Math.abs.name Lib.Math.abs.code 1 (some .int), .native arraycopyName, .static arraycopyName, .initialized "java/lang/System"] : List Cond), w ∈ lw_tbl := by decide +kernel
def ev_cw (y : Nat) : Cond := if (ev_yh y).isEmpty then .code (ev_yn y) (ev_yb y) (ev_yL y) (ev_yr y) else .codeWith (ev_yn y) (ev_yb y) (ev_yL y) (ev_yr y) (ev_yh y)

def ev_cixT : List Nat := [210, 210, 210, 210, 210, 210, 472, 476, 480, 369, 438, 442, 434, 446, 210, 210, 395, 399, 210, 391, 403, 210, 379, 210, 426, 430, 210, 210, 210, 210, 210, 357, 361, 365, 210, 210, 210, 210, 210, 210, 210, 210, 207, 210, 298, 302, 210, 309, 330, 210, 334, 337, 210, 487, 491, 496, 210, 500, 504, 508, 512, 210, 517, 521, 210, 525, 351, 530, 210, 210, 210, 210, 210, 210, 210, 210, 210, 210, 210, 210, 210, 210, 210, 210, 210, 210, 421, 210, 347, 210, 386, 210, 459, 210, 210, 210, 466, 210, 210, 210, 210, 210, 210, 210, 210, 210, 210, 210, 210, 210, 210, 210, 210, 210, 210, 210, 210, 210, 210, 210, 210, 210, 210, 210, 210, 210, 210, 210, 210, 210, 210, 210, 210, 210, 210, 210, 210, 210, 210, 210, 210, 210, 210, 210, 210, 210, 210, 210, 210, 210, 210, 210, 210, 210, 210, 210, 210, 210, 210, 210, 210, 210, 210, 210, 210, 210, 210, 210, 210, 210, 210, 210, 406, 410, 462, 417, 455, 414, 452, 483]
def ev_cix (y : Nat) : Nat := ev_cixT.getD y 0
theorem ev_code_0 : ∀ y ∈ List.range' 0 12, lw_tbl[ev_cix y]? = some (ev_cw y) := by decide +kernel
theorem ev_code_12 : ∀ y ∈ List.range' 12 12, lw_tbl[ev_cix y]? = some (ev_cw y) := by decide +kernel
theorem ev_code_24 : ∀ y ∈ List.range' 24 12, lw_tbl[ev_cix y]? = some (ev_cw y) := by decide +kernel
theorem ev_code_36 : ∀ y ∈ List.range' 36 12, lw_tbl[ev_cix y]? = some (ev_cw y) := by decide +kernel
theorem ev_code_48 : ∀ y ∈ List.range' 48 12, lw_tbl[ev_cix y]? = some (ev_cw y) := by decide +kernel
theorem ev_code_60 : ∀ y ∈ List.range' 60 12, lw_tbl[ev_cix y]? = some (ev_cw y) := by decide +kernel
theorem ev_code_72 : ∀ y ∈ List.range' 72 12, lw_tbl[ev_cix y]? = some (ev_cw y) := by decide +kernel
theorem ev_code_84 : ∀ y ∈ List.range' 84 12, lw_tbl[ev_cix y]? = some (ev_cw y) := by decide +kernel
theorem ev_code_96 : ∀ y ∈ List.range' 96 12, lw_tbl[ev_cix y]? = some (ev_cw y) := by decide +kernel
theorem ev_code_108 : ∀ y ∈ List.range' 108 12, lw_tbl[ev_cix y]? = some (ev_cw y) := by decide +kernel
theorem ev_code_120 : ∀ y ∈ List.range' 120 12, lw_tbl[ev_cix y]? = some (ev_cw y) := by decide +kernel
theorem ev_code_132 : ∀ y ∈ List.range' 132 12, lw_tbl[ev_cix y]? = some (ev_cw y) := by decide +kernel
theorem ev_code_144 : ∀ y ∈ List.range' 144 12, lw_tbl[ev_cix y]? = some (ev_cw y) := by decide +kernel
theorem ev_code_156 : ∀ y ∈ List.range' 156 12, lw_tbl[ev_cix y]? = some (ev_cw y) := by decide +kernel
theorem ev_code_168 : ∀ y ∈ List.range' 168 4, lw_tbl[ev_cix y]? = some (ev_cw y) := by decide +kernel
set_option maxRecDepth 100000 in
theorem ev_codq_172 : lw_tbl[ev_cix 172]? = some (ev_cw 172) := by first | rfl | decide +kernel
theorem ev_code_172 : ∀ y ∈ List.range' 172 1, lw_tbl[ev_cix y]? = some (ev_cw y) := fun y h => by
  obtain rfl : y = 172 := by have := List.mem_range'_1.mp h; omega
  exact ev_codq_172
set_option maxRecDepth 100000 in
theorem ev_codq_173 : lw_tbl[ev_cix 173]? = some (ev_cw 173) := by first | rfl | decide +kernel
theorem ev_code_173 : ∀ y ∈ List.range' 173 1, lw_tbl[ev_cix y]? = some (ev_cw y) := fun y h => by
  obtain rfl : y = 173 := by have := List.mem_range'_1.mp h; omega
  exact ev_codq_173
set_option maxRecDepth 100000 in
theorem ev_codq_174 : lw_tbl[ev_cix 174]? = some (ev_cw 174) := by first | rfl | decide +kernel
theorem ev_code_174 : ∀ y ∈ List.range' 174 1, lw_tbl[ev_cix y]? = some (ev_cw y) := fun y h => by
  obtain rfl : y = 174 := by have := List.mem_range'_1.mp h; omega
  exact ev_codq_174
set_option maxRecDepth 100000 in
theorem ev_codq_175 : lw_tbl[ev_cix 175]? = some (ev_cw 175) := by first | rfl | decide +kernel
theorem ev_code_175 : ∀ y ∈ List.range' 175 1, lw_tbl[ev_cix y]? = some (ev_cw y) := fun y h => by
  obtain rfl : y = 175 := by have := List.mem_range'_1.mp h; omega
  exact ev_codq_175
set_option maxRecDepth 100000 in
theorem ev_codq_176 : lw_tbl[ev_cix 176]? = some (ev_cw 176) := by first | rfl | decide +kernel
theorem ev_code_176 : ∀ y ∈ List.range' 176 1, lw_tbl[ev_cix y]? = some (ev_cw y) := fun y h => by
  obtain rfl : y = 176 := by have := List.mem_range'_1.mp h; omega
  exact ev_codq_176
set_option maxRecDepth 100000 in
theorem ev_codq_177 : lw_tbl[ev_cix 177]? = some (ev_cw 177) := by first | rfl | decide +kernel
theorem ev_code_177 : ∀ y ∈ List.range' 177 1, lw_tbl[ev_cix y]? = some (ev_cw y) := fun y h => by
  obtain rfl : y = 177 := by have := List.mem_range'_1.mp h; omega
  exact ev_codq_177
set_option maxRecDepth 100000 in
theorem ev_codq_178 : lw_tbl[ev_cix 178]? = some (ev_cw 178) := by first | rfl | decide +kernel
theorem ev_code_178 : ∀ y ∈ List.range' 178 1, lw_tbl[ev_cix y]? = some (ev_cw y) := fun y h => by
  obtain rfl : y = 178 := by have := List.mem_range'_1.mp h; omega
  exact ev_codq_178
set_option maxRecDepth 100000 in
theorem ev_codq_179 : lw_tbl[ev_cix 179]? = some (ev_cw 179) := by first | rfl | decide +kernel
theorem ev_code_179 : ∀ y ∈ List.range' 179 1, lw_tbl[ev_cix y]? = some (ev_cw y) := fun y h => by
  obtain rfl : y = 179 := by have := List.mem_range'_1.mp h; omega
  exact ev_codq_179
theorem ev_code_t {y : Nat} (h : y < 180) : ev_cw y ∈ lw_tbl := by
  by_cases c0 : y < 12
  · exact List.mem_of_getElem? (ev_code_0 y (List.mem_range'_1.mpr ⟨by omega, by omega⟩))
  by_cases c12 : y < 24
  · exact List.mem_of_getElem? (ev_code_12 y (List.mem_range'_1.mpr ⟨by omega, by omega⟩))
  by_cases c24 : y < 36
  · exact List.mem_of_getElem? (ev_code_24 y (List.mem_range'_1.mpr ⟨by omega, by omega⟩))
  by_cases c36 : y < 48
  · exact List.mem_of_getElem? (ev_code_36 y (List.mem_range'_1.mpr ⟨by omega, by omega⟩))
  by_cases c48 : y < 60
  · exact List.mem_of_getElem? (ev_code_48 y (List.mem_range'_1.mpr ⟨by omega, by omega⟩))
  by_cases c60 : y < 72
  · exact List.mem_of_getElem? (ev_code_60 y (List.mem_range'_1.mpr ⟨by omega, by omega⟩))
  by_cases c72 : y < 84
  · exact List.mem_of_getElem? (ev_code_72 y (List.mem_range'_1.mpr ⟨by omega, by omega⟩))
  by_cases c84 : y < 96
  · exact List.mem_of_getElem? (ev_code_84 y (List.mem_range'_1.mpr ⟨by omega, by omega⟩))
  by_cases c96 : y < 108
  · exact List.mem_of_getElem? (ev_code_96 y (List.mem_range'_1.mpr ⟨by omega, by omega⟩))
  by_cases c108 : y < 120
  · exact List.mem_of_getElem? (ev_code_108 y (List.mem_range'_1.mpr ⟨by omega, by omega⟩))
  by_cases c120 : y < 132
  · exact List.mem_of_getElem? (ev_code_120 y (List.mem_range'_1.mpr ⟨by omega, by omega⟩))
  by_cases c132 : y < 144
  · exact List.mem_of_getElem? (ev_code_132 y (List.mem_range'_1.mpr ⟨by omega, by omega⟩))
  by_cases c144 : y < 156
  · exact List.mem_of_getElem? (ev_code_144 y (List.mem_range'_1.mpr ⟨by omega, by omega⟩))
  by_cases c156 : y < 168
  · exact List.mem_of_getElem? (ev_code_156 y (List.mem_range'_1.mpr ⟨by omega, by omega⟩))
  by_cases c168 : y < 172
  · exact List.mem_of_getElem? (ev_code_168 y (List.mem_range'_1.mpr ⟨by omega, by omega⟩))
  by_cases c172 : y < 173
  · exact List.mem_of_getElem? (ev_code_172 y (List.mem_range'_1.mpr ⟨by omega, by omega⟩))
  by_cases c173 : y < 174
  · exact List.mem_of_getElem? (ev_code_173 y (List.mem_range'_1.mpr ⟨by omega, by omega⟩))
  by_cases c174 : y < 175
  · exact List.mem_of_getElem? (ev_code_174 y (List.mem_range'_1.mpr ⟨by omega, by omega⟩))
  by_cases c175 : y < 176
  · exact List.mem_of_getElem? (ev_code_175 y (List.mem_range'_1.mpr ⟨by omega, by omega⟩))
  by_cases c176 : y < 177
  · exact List.mem_of_getElem? (ev_code_176 y (List.mem_range'_1.mpr ⟨by omega, by omega⟩))
  by_cases c177 : y < 178
  · exact List.mem_of_getElem? (ev_code_177 y (List.mem_range'_1.mpr ⟨by omega, by omega⟩))
  by_cases c178 : y < 179
  · exact List.mem_of_getElem? (ev_code_178 y (List.mem_range'_1.mpr ⟨by omega, by omega⟩))
  exact List.mem_of_getElem? (ev_code_179 y (List.mem_range'_1.mpr ⟨by omega, by omega⟩))
/-- a call's words but the code -/
def ev_mok (q : (Nat × Nat) × Nat × Nat × Nat × Nat × Nat × Nat) : Prop := q.2.1 < 180 ∧ lw_tbl[q.2.2.1]? = some (Cond.methodLink (ev_cn q.1.1) q.1.2 (ev_yn q.2.1)) ∧ (ev_kd q.2.1 = 0 → lw_tbl[q.2.2.2.1]? = some (Cond.instanceMethod (ev_yn q.2.1)) ∧ lw_tbl[q.2.2.2.2.1]? = some (Cond.selects (ev_cn (ev_yo q.2.1)) (ev_yn q.2.1) (ev_yn q.2.1))) ∧ (ev_kd q.2.1 = 1 → lw_tbl[q.2.2.2.1]? = some (Cond.static (ev_yn q.2.1))) ∧ lw_tbl[q.2.2.2.2.2.1]? = some (Cond.initialized (ev_yn q.2.1).cls)
theorem ev_mr_0 : ∀ q ∈ (ev_mrT.drop 0).take 20, ev_mok q := by unfold ev_mok; decide +kernel
theorem ev_mr_20 : ∀ q ∈ (ev_mrT.drop 20).take 20, ev_mok q := by unfold ev_mok; decide +kernel
theorem ev_mr_40 : ∀ q ∈ (ev_mrT.drop 40).take 20, ev_mok q := by unfold ev_mok; decide +kernel
theorem ev_dt {α : Type} {P : α → Prop} {l : List α} (n : Nat) (h1 : ∀ q ∈ l.take n, P q) (h2 : ∀ q ∈ l.drop n, P q) : ∀ q ∈ l, P q := fun q h => by
  rw [← List.take_append_drop n l] at h
  exact (List.mem_append.mp h).elim (h1 q) (h2 q)
theorem ev_mr_t : ∀ q ∈ ev_mrT, ev_mok q := by
  refine ev_dt 20 (by simpa using ev_mr_0) ?_
  try rw [List.drop_drop]
  refine ev_dt 20 ev_mr_20 ?_
  try rw [List.drop_drop]
  intro q h
  exact ev_mr_40 q (by rw [List.take_of_length_le (by decide +kernel)]; exact h)
theorem ev_yo_t : ∀ y, y < 180 → (ev_yn y).cls = ev_cn (ev_yo y) ∧ (ev_yn y).cls ≠ "java/lang/invoke/MethodHandle" ∧ (ev_yn y).cls ≠ "java/lang/invoke/VarHandle" ∧ (parseMethodDescriptor (ev_yn y).desc).map (fun d => d.parameters.length) = some (ev_np y) ∧ plainName (ev_yn y).cls = true ∧ ev_yL y ≤ 23 ∧ (parseMethodDescriptor (ev_yn y).desc).map (fun d => d.returnType) = some (ev_yr y) := by decide +kernel
theorem mr_9_67 : ev_mr 9 67 = some 42 := by decide +kernel
theorem mr_5_52 : ev_mr 5 52 = some 43 := by decide +kernel
theorem mr_5_68 : ev_mr 5 68 = some 44 := by decide +kernel
theorem mr_1_23 : ev_mr 1 23 = some 45 := by decide +kernel
theorem mr_9_73 : ev_mr 9 73 = some 47 := by decide +kernel
theorem mr_5_87 : ev_mr 5 87 = some 48 := by decide +kernel
theorem mr_9_70 : ev_mr 9 70 = some 50 := by decide +kernel
theorem mr_5_91 : ev_mr 5 91 = some 51 := by decide +kernel
theorem mr_9_31 : ev_mr 9 31 = some 88 := by decide +kernel
theorem mr_5_124 : ev_mr 5 124 = some 66 := by decide +kernel
theorem mr_5_193 : ev_mr 5 193 = some 31 := by decide +kernel
theorem mr_5_280 : ev_mr 5 280 = some 32 := by decide +kernel
theorem mr_0_101 : ev_mr 0 101 = some 33 := by decide +kernel
theorem mr_0_82 : ev_mr 0 82 = some 9 := by decide +kernel
theorem mr_0_98 : ev_mr 0 98 = some 22 := by decide +kernel
theorem mr_9_24 : ev_mr 9 24 = some 90 := by decide +kernel
theorem mr_5_198 : ev_mr 5 198 = some 19 := by decide +kernel
theorem mr_5_292 : ev_mr 5 292 = some 16 := by decide +kernel
theorem mr_0_118 : ev_mr 0 118 = some 17 := by decide +kernel
theorem mr_5_295 : ev_mr 5 295 = some 20 := by decide +kernel
theorem mr_9_60 : ev_mr 9 60 = some 172 := by decide +kernel
theorem mr_9_64 : ev_mr 9 64 = some 173 := by decide +kernel
theorem mr_9_79 : ev_mr 9 79 = some 177 := by decide +kernel
theorem mr_9_27 : ev_mr 9 27 = some 175 := by decide +kernel
theorem mr_9_9 : ev_mr 9 9 = some 86 := by decide +kernel
theorem mr_5_188 : ev_mr 5 188 = some 24 := by decide +kernel
theorem mr_5_250 : ev_mr 5 250 = some 25 := by decide +kernel
theorem mr_5_253 : ev_mr 5 253 = some 12 := by decide +kernel
theorem mr_9_34 : ev_mr 9 34 = some 10 := by decide +kernel
theorem mr_5_224 : ev_mr 5 224 = some 11 := by decide +kernel
theorem mr_0_86 : ev_mr 0 86 = some 12 := by decide +kernel
theorem mr_0_90 : ev_mr 0 90 = some 13 := by decide +kernel
theorem mr_9_83 : ev_mr 9 83 = some 178 := by decide +kernel
theorem mr_9_38 : ev_mr 9 38 = some 176 := by decide +kernel
theorem mr_9_15 : ev_mr 9 15 = some 92 := by decide +kernel
theorem mr_9_19 : ev_mr 9 19 = some 174 := by decide +kernel
theorem mr_9_42 : ev_mr 9 42 = some 96 := by decide +kernel
theorem mr_5_214 : ev_mr 5 214 = some 33 := by decide +kernel
theorem mr_9_45 : ev_mr 9 45 = some 6 := by decide +kernel
theorem mr_5_221 : ev_mr 5 221 = some 7 := by decide +kernel
theorem mr_0_104 : ev_mr 0 104 = some 8 := by decide +kernel
theorem mr_9_76 : ev_mr 9 76 = some 179 := by decide +kernel
theorem mr_9_48 : ev_mr 9 48 = some 53 := by decide +kernel
theorem mr_5_107 : ev_mr 5 107 = some 54 := by decide +kernel
theorem mr_5_113 : ev_mr 5 113 = some 55 := by decide +kernel
theorem mr_9_51 : ev_mr 9 51 = some 57 := by decide +kernel
theorem mr_5_117 : ev_mr 5 117 = some 58 := by decide +kernel
theorem mr_0_107 : ev_mr 0 107 = some 59 := by decide +kernel
theorem mr_0_110 : ev_mr 0 110 = some 60 := by decide +kernel
theorem mr_0_114 : ev_mr 0 114 = some 55 := by decide +kernel
theorem mr_9_53 : ev_mr 9 53 = some 62 := by decide +kernel
theorem mr_5_121 : ev_mr 5 121 = some 63 := by decide +kernel
theorem mr_9_56 : ev_mr 9 56 = some 65 := by decide +kernel
theorem mr_5_131 : ev_mr 5 131 = some 67 := by decide +kernel
theorem mr_0_73 : ev_mr 0 73 = some 901 := by decide +kernel
theorem mr_0_79 : ev_mr 0 79 = some 902 := by decide +kernel
theorem mr_0_95 : ev_mr 0 95 = some 903 := by decide +kernel
theorem fr_0_9 : ev_fr 0 9 = some (0, 0) := by decide +kernel
theorem fr_5_72 : ev_fr 5 72 = some (0, 0) := by decide +kernel
theorem fr_0_15 : ev_fr 0 15 = some (0, 1) := by decide +kernel
theorem fr_5_247 : ev_fr 5 247 = some (0, 1) := by decide +kernel
theorem fr_0_18 : ev_fr 0 18 = some (0, 2) := by decide +kernel
theorem fr_5_104 : ev_fr 5 104 = some (0, 2) := by decide +kernel
theorem fr_0_21 : ev_fr 0 21 = some (0, 3) := by decide +kernel
theorem fr_5_256 : ev_fr 5 256 = some (0, 3) := by decide +kernel
theorem fr_0_24 : ev_fr 0 24 = some (0, 4) := by decide +kernel
theorem fr_5_259 : ev_fr 5 259 = some (0, 4) := by decide +kernel
theorem fr_0_27 : ev_fr 0 27 = some (0, 5) := by decide +kernel
theorem fr_5_262 : ev_fr 5 262 = some (0, 5) := by decide +kernel
theorem fr_0_30 : ev_fr 0 30 = some (0, 6) := by decide +kernel
theorem fr_5_268 : ev_fr 5 268 = some (0, 6) := by decide +kernel
theorem fr_0_33 : ev_fr 0 33 = some (0, 7) := by decide +kernel
theorem fr_5_271 : ev_fr 5 271 = some (0, 7) := by decide +kernel
theorem fr_0_36 : ev_fr 0 36 = some (0, 8) := by decide +kernel
theorem fr_5_274 : ev_fr 5 274 = some (0, 8) := by decide +kernel
theorem fr_0_39 : ev_fr 0 39 = some (0, 9) := by decide +kernel
theorem fr_5_277 : ev_fr 5 277 = some (0, 9) := by decide +kernel
theorem fr_0_42 : ev_fr 0 42 = some (0, 10) := by decide +kernel
theorem fr_5_78 : ev_fr 5 78 = some (0, 10) := by decide +kernel
theorem fr_0_46 : ev_fr 0 46 = some (0, 11) := by decide +kernel
theorem fr_5_283 : ev_fr 5 283 = some (0, 11) := by decide +kernel
theorem fr_0_49 : ev_fr 0 49 = some (0, 12) := by decide +kernel
theorem fr_5_265 : ev_fr 5 265 = some (0, 12) := by decide +kernel
theorem fr_0_52 : ev_fr 0 52 = some (0, 13) := by decide +kernel
theorem fr_5_173 : ev_fr 5 173 = some (0, 13) := by decide +kernel
theorem fr_0_55 : ev_fr 0 55 = some (0, 14) := by decide +kernel
theorem fr_5_286 : ev_fr 5 286 = some (0, 14) := by decide +kernel
theorem fr_0_58 : ev_fr 0 58 = some (0, 15) := by decide +kernel
theorem fr_5_289 : ev_fr 5 289 = some (0, 15) := by decide +kernel
theorem fr_0_61 : ev_fr 0 61 = some (0, 16) := by decide +kernel
theorem fr_5_298 : ev_fr 5 298 = some (0, 16) := by decide +kernel
theorem fr_1_11 : ev_fr 1 11 = some (1, 0) := by decide +kernel
theorem fr_1_15 : ev_fr 1 15 = some (1, 1) := by decide +kernel
theorem fr_1_19 : ev_fr 1 19 = some (1, 2) := by decide +kernel
theorem fr_5_178 : ev_fr 5 178 = some (1, 2) := by decide +kernel
theorem fr_2_11 : ev_fr 2 11 = some (2, 0) := by decide +kernel
theorem fr_2_15 : ev_fr 2 15 = some (2, 1) := by decide +kernel
theorem fr_4_11 : ev_fr 4 11 = some (4, 0) := by decide +kernel
theorem fr_4_16 : ev_fr 4 16 = some (4, 1) := by decide +kernel
theorem fr_4_19 : ev_fr 4 19 = some (4, 2) := by decide +kernel
theorem fr_4_23 : ev_fr 4 23 = some (4, 3) := by decide +kernel
theorem fr_3_9 : ev_fr 3 9 = some (3, 0) := by decide +kernel
theorem fr_3_15 : ev_fr 3 15 = some (3, 1) := by decide +kernel
theorem fr_3_19 : ev_fr 3 19 = some (3, 2) := by decide +kernel
theorem fr_3_22 : ev_fr 3 22 = some (3, 3) := by decide +kernel
theorem fr_5_10 : ev_fr 5 10 = some (5, 0) := by decide +kernel
theorem fr_5_16 : ev_fr 5 16 = some (5, 1) := by decide +kernel
theorem fr_5_20 : ev_fr 5 20 = some (5, 2) := by decide +kernel
theorem fr_5_27 : ev_fr 5 27 = some (5, 3) := by decide +kernel
theorem fr_5_34 : ev_fr 5 34 = some (5, 4) := by decide +kernel
theorem fr_5_41 : ev_fr 5 41 = some (5, 5) := by decide +kernel
theorem fr_5_48 : ev_fr 5 48 = some (5, 6) := by decide +kernel
theorem ci_9_7 : ev_ci 9 7 = some 20810003 := by decide +kernel
theorem ci_9_8 : ev_ci 9 8 = some 2147483647 := by decide +kernel
theorem ci_7_265 : ev_ci 7 265 = some 1431655765 := by decide +kernel
theorem ci_7_266 : ev_ci 7 266 = some 858993459 := by decide +kernel
theorem ci_7_267 : ev_ci 7 267 = some 252645135 := by decide +kernel
