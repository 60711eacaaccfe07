def SPd (call : Nat → List Value → ev_M → ev_R → ev_M → Prop) (y : Nat) (as : List Value) (μ : ev_M) (P : UInt64 → ev_M → Prop) : Prop := ∃ (x : UInt64) (μ2 : ev_M), call y as μ (some (.double x), 0) μ2 ∧ P x μ2
theorem SPd.of {d y : Nat} {as : List Value} {μ : ev_M} {P : UInt64 → ev_M → Prop} (hl : (ev_fl2 as).length ≤ ev_yL y) (h : es (ev_CALL d) (ev_yo y) (ev_yb y) (ev_yr y) (ev_mc y) (0, fun _ => 0, ev_yh y) (fun r μ2 => ∃ x : UInt64, r = (some (.double x), 0) ∧ P x μ2) 0 (ev_ent as (ev_yL y)) [] μ 0) : SPd (ev_CALL (d + 1)) y as μ P := by
  obtain ⟨rf, μf, ⟨x, rfl, hp⟩, hE⟩ := h
  exact ⟨x, μf, ⟨hl, hE⟩, hp⟩
section EsRows3
variable {call : Nat → List Value → ev_M → ev_R → ev_M → Prop} {oc : Nat} {cc : ByteArray} {rt : Option FieldType} {am : Nat} {ex : ev_X} {Po : ev_R → ev_M → Prop}
theorem es_cv0_d {P : UInt64 → ev_M → Prop} {pc : Nat} {L st : List Value} {μ : ev_M} {a i y r : Nat} (h0 : decode cc pc = .ok (.invokevirtual i, 3)) (h1 : ev_mr oc i = some y) (h2 : ev_kd y = 0) (h3 : 0 = ev_np y) (h4 : (ev_lay r).1 = 0) (h5 : (ev_lay r).2.1 = ev_yo y) (hm : ev_mc y = 0) (h8 : (st.map Value.category).sum ≤ 8) (ha : a ≤ am) (hs : SPd call y (.ref r :: []) μ P) (k : ∀ (x : UInt64) (μ2 : ev_M), P x μ2 → es call oc cc rt am ex Po (pc + 3) L (.double x :: st) μ2 a) : es call oc cc rt am ex Po pc L (.ref r :: st) μ a := by
  obtain ⟨x, μ2, hc, hP⟩ := hs
  obtain ⟨rf, μf, hp, hE⟩ := k x μ2 hP
  exact ⟨rf, μf, hp, ev_callv (as := []) h0 h1 h2 h3 h4 h5 hc (by rw [hm]; exact ha) h8 (by rw [hm]; exact hE)⟩
end EsRows3
set_option maxHeartbeats 2000000 in
set_option maxRecDepth 20000 in
theorem X6_thrown_ok {d : Nat} {μ : ev_M}  (hd : 1 ≤ d := by omega) : ev_CALL d 99 [.ref 14] μ (some (.int (μ 14 8)), 0) μ := by
  obtain ⟨d, rfl⟩ : ∃ q, d = q + 1 := ⟨d - 1, by omega⟩
  refine SPp.of (Nat.le_of_ble_eq_true rfl) ?_
  show es (ev_CALL d) 6 cX6_thrown (some .int) 0 (0, fun _ => 0, []) (fun r μ2 => r = (some (.int (μ 14 8)), 0) ∧ μ2 = μ) 0 [.ref 14] [] μ 0
  refine es_aload_n (pc := 0) dX6_thrown_0 rfl ?_
  refine es_getI (pc := 1) dX6_thrown_1 fr_6_35 fld_14_8 ?_
  refine es_ireturn (pc := 4) dX6_thrown_4 rfl (vp_nar_int _) (by decide) ?_
  exact ⟨rfl, rfl⟩
set_option maxHeartbeats 2000000 in
set_option maxRecDepth 20000 in
theorem X6_belowShare_ok {d : Nat} {μ : ev_M} {S : gS} (hR : RepM μ S) (hW : WFS S) (hd : 5 ≤ d := by omega) : SPd (ev_CALL d) 167 [.ref 14] μ (fun x μ2 => x = rShare S.1 ∧ RepM μ2 S ∧ FrM μ μ2) := by
  obtain ⟨d, rfl⟩ : ∃ q, d = q + 1 := ⟨d - 1, by omega⟩
  refine SPd.of (Nat.le_of_ble_eq_true rfl) ?_
  show es (ev_CALL d) 6 cX6_belowShare (some .double) 0 (0, fun _ => 0, []) (fun r μ2 => ∃ x9 : UInt64, r = (some (.double x9), 0) ∧ (fun x μ2 => x = rShare S.1 ∧ RepM μ2 S ∧ FrM μ μ2) x9 μ2) 0 [.ref 14] [] μ 0
  have hR0 := hR.t (x := nI 0)
  refine es_aload_n (pc := 0) dX6_belowShare_0 rfl ?_
  refine es_iconstN (pc := 1) 0 dX6_belowShare_1 ic_0 ?_
  refine es_putI (pc := 2) dX6_belowShare_2 fr_6_35 fld_14_8 ?_
  refine es_aload_n (pc := 5) dX6_belowShare_5 rfl ?_
  refine es_cv0_p (pc := 6) dX6_belowShare_6 mr_6_197 rfl rfl (by decide) (by decide) rfl (Nat.le_of_ble_eq_true rfl) (Nat.zero_le _) (X6_share_ok (R := S.1) hR0.g hW.1 (sh_cs hW.1).1 (sh_cs hW.1).2.1) ?_
  refine es_dreturn (pc := 9) dX6_belowShare_9 rfl (by decide) ?_
  exact ⟨_, rfl, rfl, hR0, FrM.rf.ms (by decide)⟩
