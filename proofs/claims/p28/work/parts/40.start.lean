/-! what the statement gives of the start: the classes, the statics, the texts -/
theorem lw_arr {s : State} {args : Array Value} {ty : FieldType} (h : (Cond.arrayClass ty).before args s = true) : ∃ cA : ClassId, ArrOfT s cA ty ∧ s.vm.findClass ("[" ++ ty.toString) = some cA := by
  obtain ⟨cA, kA, comp, h1, h2, h3⟩ := Cond.arrayClass_spec h
  exact ⟨cA, fun n z => ⟨fun k h => (by cases h), kA, h2, comp, h3⟩, h1⟩
theorem lw_arrG {s : State} {args : Array Value} {C : String} (h : (Cond.arrayOver (.object C)).before args s = true) : ∃ cA : ClassId, ArrOfT s cA (.object C) ∧ va_RA s cA (.object C) := by
  obtain ⟨comp, cA, kA, h1, h2, h3, h4, h5⟩ := Cond.arrayOver_spec h
  exact ⟨cA, fun n z => ⟨fun k h => (by cases h), kA, h3, comp, h4⟩, kA, comp, h3, h4, h1, h5⟩
theorem lw_arrA {s : State} {args : Array Value} {ty : FieldType} (h : (Cond.arrayOver (.array ty)).before args s = true) : ∃ cA : ClassId, ArrOfT s cA (.array ty) ∧ s.vm.findClass ("[" ++ (FieldType.array ty).toString) = some cA := by
  obtain ⟨comp, cA, kA, h1, h2, h3, h4, h5⟩ := Jvm.Stand.arrayOver_specB h
  exact ⟨cA, fun n z => ⟨fun k h => (by cases h), kA, h3, comp, h4⟩, h5⟩
theorem lw_A {s : State} : ∀ a : Nat, a < s.heap.size → ¬ ev_A s.heap.size a := fun a h q => absurd h (Nat.not_lt.mpr q)
theorem lw_stat {s : State} {args : Array Value} {n : String} {v0 v1 v2 v3 : Int32} (hl : (Cond.laysStatic RX5 n "[I").before args s = true) (hini : (Cond.initialized RX5).before args s = true) (harr : (Cond.arrayOf (.static RX5 n "[I") .int).before args s = true) (hlen : (Cond.eq (.length (.static RX5 n "[I")) (.int 4)).before args s = true)
    (h0 : (Cond.eq (.elem (.static RX5 n "[I") (.int 0)) (.int v0)).before args s = true) (h1 : (Cond.eq (.elem (.static RX5 n "[I") (.int 1)) (.int v1)).before args s = true) (h2 : (Cond.eq (.elem (.static RX5 n "[I") (.int 2)) (.int v2)).before args s = true) (h3 : (Cond.eq (.elem (.static RX5 n "[I") (.int 3)) (.int v3)).before args s = true) :
    ∃ t : Nat, va_Z RX5 n "[I" (.ref t) (ev_A s.heap.size) s s.heap ∧ va_T .int t 4 (fun j => .int (([v0, v1, v2, v3] : List Int32).getD j 0)) (ev_A s.heap.size) s s.heap := by
  obtain ⟨t, ht, hT⟩ := va_Tof (N := 4) (f := fun j => .int (([v0, v1, v2, v3] : List Int32).getD j 0)) (by decide) harr (va_eqt hlen) (fun j hj => by
    match j, hj with
    | 0, _ => exact va_eqt h0
    | 1, _ => exact va_eqt h1
    | 2, _ => exact va_eqt h2
    | 3, _ => exact va_eqt h3
    | j + 4, h => exact absurd h (by omega)) lw_A
  exact ⟨t, va_Zof hl hini ht lw_A, hT⟩
theorem lw_xn : ∀ w ∈ ct_XN, w ∈ lw_tbl := by decide +kernel
theorem lw_inst : ∀ ci, ci < 6 → (Cond.instantiable (ev_cn ci) (ev_tN ci)) ∈ lw_tbl := by decide +kernel
theorem lw_vwCl {ci : Nat} {q : vw_C} (h : vwCl[ci]? = some q) : ci < 6 ∧ q = (ev_cn ci, ev_T ci, ev_tN ci) := by
  have hlt : ci < 6 := (List.getElem?_eq_some_iff.mp h).1
  rw [ev_cl7 hlt] at h
  exact ⟨hlt, (Option.some.inj h).symm⟩
theorem lw_fl : ∀ w ∈ ([.arrayOf (.static RX5 "SETTING_LEAST" "[I") .int, .eq (.length (.static RX5 "SETTING_LEAST" "[I")) (.int 4), .eq (.elem (.static RX5 "SETTING_LEAST" "[I") (.int 0)) (.int 1), .eq (.elem (.static RX5 "SETTING_LEAST" "[I") (.int 1)) (.int 0), .eq (.elem (.static RX5 "SETTING_LEAST" "[I") (.int 2)) (.int 0), .eq (.elem (.static RX5 "SETTING_LEAST" "[I") (.int 3)) (.int 0),
  .arrayOf (.static RX5 "SETTING_MOST" "[I") .int, .eq (.length (.static RX5 "SETTING_MOST" "[I")) (.int 4), .eq (.elem (.static RX5 "SETTING_MOST" "[I") (.int 0)) (.int 20), .eq (.elem (.static RX5 "SETTING_MOST" "[I") (.int 1)) (.int 9), .eq (.elem (.static RX5 "SETTING_MOST" "[I") (.int 2)) (.int 20), .eq (.elem (.static RX5 "SETTING_MOST" "[I") (.int 3)) (.int 9),
  .arrayOf (.static RX5 "SETTING_AT_FIRST" "[I") .int, .eq (.length (.static RX5 "SETTING_AT_FIRST" "[I")) (.int 4), .eq (.elem (.static RX5 "SETTING_AT_FIRST" "[I") (.int 0)) (.int 3), .eq (.elem (.static RX5 "SETTING_AT_FIRST" "[I") (.int 1)) (.int 2), .eq (.elem (.static RX5 "SETTING_AT_FIRST" "[I") (.int 2)) (.int 1), .eq (.elem (.static RX5 "SETTING_AT_FIRST" "[I") (.int 3)) (.int 1)] : List Cond), w ∈ flatC (Jvm.Cond.and given_1 narrow_1) := by decide +kernel
theorem lw_ls : ∀ w ∈ ([.laysStatic RX5 "SETTING_AT_FIRST" "[I", .laysStatic RX5 "SETTING_LEAST" "[I", .laysStatic RX5 "SETTING_MOST" "[I", .initialized RX5, .arrayClass .int, .arrayClass .boolean, .arrayClass .byte, .arrayOver (.object RX0), .arrayOver (.array .int)] : List Cond), w ∈ lw_tbl := by decide +kernel
theorem lw_St {s : State} {args : Array Value} (hts : ∀ w ∈ lw_tbl, w.before args s = true) (hgv : (Jvm.Cond.and given_1 narrow_1).before args s = true) : ∃ (D : va_G) (ca : Nat → ClassId) (r1 r2 r3 : Nat), va_K D vwCl (ev_ty ca) s ∧ (∀ ad : Nat → Nat, ad 201 = r1 → ad 202 = r2 → ev_ST (ev_A s.heap.size) ad s s.heap) ∧ ct_X (ev_A s.heap.size) r3 s s.heap := by
  have hs := flat_of_before _ hgv
  have hf := fun w hw => hs w (lw_fl w hw)
  have hg := fun w hw => hts w (lw_ls w hw)
  have hcls : ∀ ci, ∃ (cC : ClassId) (iS : Nat → Nat), ci < 6 → u_Kn s (ev_cn ci) (ev_T ci) (ev_tN ci) cC iS := by
    intro ci
    by_cases h : ci < 6
    · obtain ⟨cC, iS, h1⟩ := u_known hts (ev_lays_t ci h) (hts _ (lw_inst ci h))
      exact ⟨cC, iS, fun _ => h1⟩
    · exact ⟨0, fun _ => 0, fun q => absurd q h⟩
  obtain ⟨dC, hcls⟩ := Classical.axiomOfChoice hcls
  obtain ⟨dI, hcls⟩ := Classical.axiomOfChoice hcls
  obtain ⟨c0, a0, b0⟩ := lw_arr (hg (.arrayClass .int) (by simp))
  obtain ⟨c1, a1, b1⟩ := lw_arr (hg (.arrayClass .boolean) (by simp))
  obtain ⟨c2, a2, b2⟩ := lw_arrG (hg (.arrayOver (.object RX0)) (by simp))
  obtain ⟨c3, a3, b3⟩ := lw_arr (hg (.arrayClass .byte) (by simp))
  obtain ⟨c4, a4, b4⟩ := lw_arrA (hg (.arrayOver (.array .int)) (by simp))
  obtain ⟨r1, z1, t1⟩ := lw_stat (n := "SETTING_LEAST") (v0 := 1) (v1 := 0) (v2 := 0) (v3 := 0) (hg _ (by simp)) (hg _ (by simp)) (hf _ (by simp)) (hf _ (by simp)) (hf _ (by simp)) (hf _ (by simp)) (hf _ (by simp)) (hf _ (by simp))
  obtain ⟨r2, z2, t2⟩ := lw_stat (n := "SETTING_MOST") (v0 := 20) (v1 := 9) (v2 := 20) (v3 := 9) (hg _ (by simp)) (hg _ (by simp)) (hf _ (by simp)) (hf _ (by simp)) (hf _ (by simp)) (hf _ (by simp)) (hf _ (by simp)) (hf _ (by simp))
  obtain ⟨r3, z3, t3⟩ := lw_stat (n := "SETTING_AT_FIRST") (v0 := 3) (v1 := 2) (v2 := 1) (v3 := 1) (hg _ (by simp)) (hg _ (by simp)) (hf _ (by simp)) (hf _ (by simp)) (hf _ (by simp)) (hf _ (by simp)) (hf _ (by simp)) (hf _ (by simp))
  refine ⟨(dC, dI), fun k => [c0, c1, c2, c3, c4].getD k 0, r1, r2, r3, ⟨fun ci q hq => ?_, fun k q hq => ?_⟩, fun ad e1 e2 => ?_, va_AO.of (hg (.arrayOver (.object RX0)) (by simp)), hg (.arrayOver (.array .int)) (by simp), fun w hw => ?_, z3, t3⟩
  · obtain ⟨h7, rfl⟩ := lw_vwCl hq
    exact hcls ci h7
  · match k, hq with
    | 0, hq => cases hq; exact ⟨a0, b0⟩
    | 1, hq => cases hq; exact ⟨a1, b1⟩
    | 2, hq => cases hq; exact ⟨a2, b2⟩
    | 3, hq => cases hq; exact ⟨a3, b3⟩
    | 4, hq => cases hq; exact ⟨a4, b4⟩
    | k + 5, hq => simp [ev_ty] at hq
  · refine ⟨⟨?_, ?_⟩, ⟨?_, ?_⟩, trivial⟩
    · rw [e1]; exact z1
    · rw [e1]; exact t1
    · rw [e2]; exact z2
    · rw [e2]; exact t2
  · have ho : ∀ w ∈ ct_XN, w.onTables = true := by decide +kernel
    exact va_Nw.of (ho w hw) (hts w (lw_xn w hw))
