/-! methods by their depth; their contracts -/
def ev_fl2 (as : List Value) : List Value := as.flatMap (fun v => if v.category = 2 then [v, .null] else [v])
def ev_ent (as : List Value) (n : Nat) : List Value := ev_fl2 as ++ List.replicate (n - (ev_fl2 as).length) .null
def ev_CALL : Nat → Nat → List Value → ev_M → ev_R → ev_M → Prop
  | 0 => fun _ _ _ _ _ => False
  | d + 1 => fun y as μ r μ2 => (ev_fl2 as).length ≤ ev_yL y ∧ ev_Ev (ev_CALL d) (ev_yo y) (ev_yb y) (ev_yr y) (ev_mc y) (0, fun _ => 0, ev_yh y) r μ2 0 (ev_ent as (ev_yL y)) [] μ 0
theorem ev_lv_nulls {ad : Nat → Nat} : ∀ {n i : Nat}, ev_lv ad i (List.replicate n .null) = []
  | 0, _ => rfl
  | n + 1, i => by
    rw [List.replicate_succ]
    unfold ev_lv
    exact ev_lv_nulls
theorem ev_lv_ent {ad : Nat → Nat} {n : Nat} : ∀ {as : List Value} {i : Nat}, ∀ q ∈ ev_lv ad i (ev_fl2 as ++ List.replicate n .null), q ∈ lv_args i (as.map (ev_cv ad))
  | [], i, q, h => by
    simp only [ev_fl2, List.flatMap_nil, List.nil_append] at h
    rw [ev_lv_nulls] at h
    cases h
  | v :: t, i, q, h => by
    have e : ev_fl2 (v :: t) = (if v.category = 2 then [v, .null] else [v]) ++ ev_fl2 t := by simp [ev_fl2]
    rw [e, List.append_assoc] at h
    simp only [List.map_cons, lv_args, ev_cvc]
    by_cases hc : v.category = 2
    · rw [if_pos hc] at h ⊢
      have hn : ev_nn v = true := by cases v <;> first | rfl | (simp [Value.category] at hc)
      simp only [List.cons_append, List.nil_append, ev_lv, hn, if_true] at h
      rcases List.mem_cons.mp h with rfl | h
      · exact List.mem_cons_self
      · refine List.mem_cons_of_mem _ (ev_lv_ent (n := n) q ?_)
        simpa [ev_nn] using h
    · rw [if_neg hc] at h ⊢
      simp only [List.cons_append, List.nil_append, ev_lv] at h
      by_cases hn : ev_nn v = true
      · rw [if_pos hn] at h
        rcases List.mem_cons.mp h with rfl | h
        · exact List.mem_cons_self
        · exact List.mem_cons_of_mem _ (ev_lv_ent (n := n) q h)
      · rw [if_neg hn] at h
        exact List.mem_cons_of_mem _ (ev_lv_ent (n := n) q h)
theorem ev_lgsl {ad : Nat → Nat} : ∀ {as : List Value}, (lg_sl (as.map (ev_cv ad))).length = (ev_fl2 as).length
  | [] => rfl
  | v :: t => by
    have ih := ev_lgsl (ad := ad) (as := t)
    simp only [lg_sl, ev_fl2, List.map_cons, List.flatMap_cons, List.length_append, ev_cvc] at ih ⊢
    rw [ih]
    by_cases hc : v.category = 2
    · rw [if_pos hc, if_pos hc]; rfl
    · rw [if_neg hc, if_neg hc]; rfl
theorem ev_lc_ent {ad : Nat → Nat} {as : List Value} {n : Nat} (h : (ev_fl2 as).length ≤ n) : ev_lc ad n ((lg_sl (as.map (ev_cv ad)) ++ List.replicate (n - (lg_sl (as.map (ev_cv ad))).length) Slot.unset).toArray) (ev_ent as n) := by
  have h1 := lv_entry (as.map (ev_cv ad)) (n := n) (by rw [ev_lgsl]; exact h)
  refine ⟨h1.1, ev_lv_sub h1 (fun q hq => ev_lv_ent q hq), ?_⟩
  unfold ev_ent
  rw [List.length_append, List.length_replicate]
  omega
theorem ev_rmd {d : Nat} {ws : List Cond} : (d + 3 ≤ (headSpec ws (ev_rm (d + 1))).room.frames ∧ 42 * d + 130 ≤ (headSpec ws (ev_rm (d + 1))).room.locals) ∧ (0 ≤ (headSpec ws (ev_rm (d + 1))).room.cells ∧ 0 ≤ (headSpec ws (ev_rm (d + 1))).room.slots) := ⟨⟨by show _ ≤ d + 1 + 2; omega, by show _ ≤ 42 * (d + 1) + 88; omega⟩, Nat.zero_le _, Nat.zero_le _⟩
set_option maxHeartbeats 4000000 in
theorem ev_IHd {l : Launch} {base : Nat} {D : va_G} {ca : Nat → ClassId} {ad : Nat → Nat} : ∀ d, ev_IH l base D ca ad d (ev_CALL d) := by
  intro d
  induction d with
  | zero => intro y as μ v μ2 h; exact h.elim
  | succ d IH =>
    intro y as μ v μ2 h hy
    obtain ⟨hlen, hE⟩ := h
    obtain ⟨o1, o2, o3, o4, o5, o6, o7⟩ := ev_yo_t y hy
    have hcw : ev_ws y = Cond.code (ev_yn y) (ev_yb y) (ev_yL y) (ev_yr y) :: ev_TB := by unfold ev_ws ev_cw; rw [ev_yh0 y hy]; rfl
    refine Met.ofW o5 hcw ?_
    · intro p e s m args below meth c s₁ B hml hv
      obtain ⟨rfl, hP, hK, hD0, hST, hbs⟩ := hv
      have hx := B.exec
      have hb := B.bytes
      have hr := B.returns
      have hlocks := B.notSynchronized
      have hts0 := atoms_spec (ws := ev_ws y) B.pre
      have hts : ∀ w ∈ ev_TB, w.before (as.map (ev_cv ad)).toArray s = true := fun w hw => hts0 w (List.mem_cons_of_mem _ hw)
      have hown : s.vm.findClass (ev_cn (ev_yo y)) = some m.cls := by rw [← o1]; exact findClass_of_methodNamed B.named
      rw [lg_entry_eq]
      have hl := ev_lc_ent (ad := ad) (n := ev_yL y) (as := as) hlen
      have hl : ev_lc ad (ev_yL y) ((lg_sl (as.map (ev_cv ad)) ++ List.replicate (ev_yL y - (lg_sl (as.map (ev_cv ad))).length) Slot.unset).toArray) (ev_ent (as) (ev_yL y)) := hl
      generalize (lg_sl (as.map (ev_cv ad)) ++ List.replicate (ev_yL y - (lg_sl (as.map (ev_cv ad))).length) Slot.unset).toArray = ls at hl ⊢
      have hFin : ev_Fin p l e (headSpec (ev_ws y) (ev_rm (d + 1))).room s m (as.map (ev_cv ad)).toArray below meth c base D ca ad (ev_yo y) (ev_yb y) (ev_yr y) 0 0 (v, 0) μ2 (MQ below (ev_Qn base D ca ad (v.map (ev_cv ad)) μ2) (as.map (ev_cv ad)).toArray s 0 0 (ev_A base)) := by
        refine ⟨?_, ?_, ?_, ?_⟩
        · intro pc ls H locs x ty hd hrt hn hrf hP1 hS1
          have h9 : v = some (.int x) := congrArg Prod.fst hrf
          rw [h9]
          exact W.zret hx hb (hr.trans hrt) hn (fun t ht _ => ⟨rfl, by rw [ht]; exact hP1, hS1.F ht⟩) hS1.2.2 hd hlocks
        · intro pc ls H locs x hd hrt hrf hP1 hS1
          have h9 : v = some (.long x) := congrArg Prod.fst hrf
          rw [h9]
          exact W.lret hx hb (hr.trans hrt) (fun t ht _ => ⟨rfl, by rw [ht]; exact hP1, hS1.F ht⟩) hS1.2.2 hd hlocks
        · intro pc ls H locs x hd hrt hrf hP1 hS1
          have h9 : v = some (.double x) := congrArg Prod.fst hrf
          rw [h9]
          exact W.dret hx hb (hr.trans hrt) (fun t ht _ => ⟨rfl, by rw [ht]; exact hP1, hS1.F ht⟩) hS1.2.2 hd hlocks
        · intro pc ls H locs hd hrt hrf hP1 hS1
          have h9 : v = none := congrArg Prod.fst hrf
          rw [h9]
          exact W.vret hx hb (hr.trans hrt) (fun t ht _ => ⟨rfl, by rw [ht]; exact hP1, hS1.F ht⟩) hS1.2.2 hd hlocks
      have hsnd := ev_sound (d := d) (c0 := 0) (s0 := 0) (am := ev_mc y) (ex := (0, fun _ => 0, ev_yh y)) hx hb hml hown hts hK (ev_wl_D hD0) hbs hST ev_rmd.1 ev_rmd.2 (fun h => absurd h (Nat.lt_irrefl 0)) (fun h => absurd (ev_yh0 y hy) h) IH hFin
      exact hE _ hsnd s.heap [] ls hP va_S.rf hl
set_option maxHeartbeats 4000000 in
/-- the law's method that reads the script -/
theorem ev_cellM {l : Launch} {base : Nat} {D : va_G} {ca : Nat → ClassId} {ad : Nat → Nat} {d : Nat} {ex : ev_X} (hx2 : ex.1 < 2 ^ 30) (h : ∀ (j : Nat) (μ : ev_M), j < 2 ^ 30 → ev_Ev (ev_CALL d) (ev_yo 172) (ev_yb 172) (ev_yr 172) 0 (ex.1, ex.2.1, []) (some (.int (ev_sc ex j)), 0) μ 0 (ev_ent [.ref 200, .int (nI j)] (ev_yL 172)) [] μ 0) : ev_KC l base D ca ad (d + 1) ex := by
  intro j μ2 hj
  have hE := h j μ2 hj
  have hy : 172 < 180 := by decide
  obtain ⟨o1, o2, o3, o4, o5, o6, o7⟩ := ev_yo_t 172 hy
  have hcw : ev_ws 172 = Cond.code (ev_yn 172) (ev_yb 172) (ev_yL 172) (ev_yr 172) :: ev_TB := by unfold ev_ws ev_cw; rw [ev_yh0 172 hy]; rfl
  have hlen : (ev_fl2 [.ref 200, .int (nI j)]).length ≤ ev_yL 172 := Nat.le_of_ble_eq_true rfl
  have hq : (some (Value.int (ev_sc ex j))).map (ev_cv ad) = some (.int (ev_sc ex j)) := rfl
  refine Met.ofW o5 hcw ?_
  · intro p e s m args below meth c s₁ B hml hv
    obtain ⟨rfl, ⟨hP, hK, hD0, hST, hbs⟩, hX, hX2, hX3⟩ := hv
    have hx := B.exec
    have hb := B.bytes
    have hr := B.returns
    have hlocks := B.notSynchronized
    have hts0 := atoms_spec (ws := ev_ws 172) B.pre
    have hts : ∀ w ∈ ev_TB, w.before ([Value.ref (ad 200), Value.int (nI j)]).toArray s = true := fun w hw => hts0 w (List.mem_cons_of_mem _ hw)
    have hown : s.vm.findClass (ev_cn (ev_yo 172)) = some m.cls := by rw [← o1]; exact findClass_of_methodNamed B.named
    rw [lg_entry_eq]
    have hl := ev_lc_ent (ad := ad) (n := ev_yL 172) (as := [Value.ref 200, Value.int (nI j)]) hlen
    have hl : ev_lc ad (ev_yL 172) ((lg_sl ([Value.ref (ad 200), Value.int (nI j)]) ++ List.replicate (ev_yL 172 - (lg_sl ([Value.ref (ad 200), Value.int (nI j)])).length) Slot.unset).toArray) (ev_ent ([Value.ref 200, Value.int (nI j)]) (ev_yL 172)) := hl
    generalize (lg_sl ([Value.ref (ad 200), Value.int (nI j)]) ++ List.replicate (ev_yL 172 - (lg_sl ([Value.ref (ad 200), Value.int (nI j)])).length) Slot.unset).toArray = ls at hl ⊢
    have hFin : ev_Fin p l e (headSpec (ev_ws 172) (ev_rm (d + 1))).room s m ([Value.ref (ad 200), Value.int (nI j)]).toArray below meth c base D ca ad (ev_yo 172) (ev_yb 172) (ev_yr 172) 0 0 ((some (Value.int (ev_sc ex j))), 0) μ2 (MQ below (ev_Qn base D ca ad ((some (Value.int (ev_sc ex j))).map (ev_cv ad)) μ2) ([Value.ref (ad 200), Value.int (nI j)]).toArray s 0 0 (ev_A base)) := by
      refine ⟨?_, ?_, ?_, ?_⟩
      · intro pc ls H locs x ty hd hrt hn hrf hP1 hS1
        have h9 : (some (Value.int (ev_sc ex j))) = some (.int x) := congrArg Prod.fst hrf
        rw [h9]
        exact W.zret hx hb (hr.trans hrt) hn (fun t ht _ => ⟨rfl, by rw [ht]; exact hP1, hS1.F ht⟩) hS1.2.2 hd hlocks
      · intro pc ls H locs x hd hrt hrf hP1 hS1
        have h9 : (some (Value.int (ev_sc ex j))) = some (.long x) := congrArg Prod.fst hrf
        rw [h9]
        exact W.lret hx hb (hr.trans hrt) (fun t ht _ => ⟨rfl, by rw [ht]; exact hP1, hS1.F ht⟩) hS1.2.2 hd hlocks
      · intro pc ls H locs x hd hrt hrf hP1 hS1
        have h9 : (some (Value.int (ev_sc ex j))) = some (.double x) := congrArg Prod.fst hrf
        rw [h9]
        exact W.dret hx hb (hr.trans hrt) (fun t ht _ => ⟨rfl, by rw [ht]; exact hP1, hS1.F ht⟩) hS1.2.2 hd hlocks
      · intro pc ls H locs hd hrt hrf hP1 hS1
        have h9 : (some (Value.int (ev_sc ex j))) = none := congrArg Prod.fst hrf
        rw [h9]
        exact W.vret hx hb (hr.trans hrt) (fun t ht _ => ⟨rfl, by rw [ht]; exact hP1, hS1.F ht⟩) hS1.2.2 hd hlocks
    have hsnd := ev_sound (d := d) (c0 := 0) (s0 := 0) (am := 0) (ex := (ex.1, ex.2.1, [])) hx hb hml hown hts hK (ev_wl_D hD0) hbs hST ev_rmd.1 ev_rmd.2 (fun _ => ⟨hX, hX2, hX3, hx2⟩) (fun h => absurd rfl h) (ev_IHd d) hFin
    exact hE _ hsnd s.heap [] ls hP va_S.rf hl
