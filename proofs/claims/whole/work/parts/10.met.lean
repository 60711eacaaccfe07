/-! methods by their depth; their contracts -/
def ev_fl2 (as : List Value) : List Value := as.flatMap (fun v => if v.category = 2 then [v, .null] else [v])
def ev_ent (as : List Value) (n : Nat) : List Value := ev_fl2 as ++ List.replicate (n - (ev_fl2 as).length) .null
def ev_CALL : Nat → Nat → List Value → ev_M → ev_R → ev_M → Prop
  | 0 => fun _ _ _ _ _ => False
  | d + 1 => fun y as μ r μ2 => (ev_fl2 as).length ≤ ev_yL y ∧ ev_Ev (ev_CALL d) (ev_yo y) (ev_yb y) (ev_yr y) (ev_mc y) (0, fun _ => 0, ev_yh y) r μ2 0 (ev_ent as (ev_yL y)) [] μ 0
theorem ev_lv_nulls {ad : Nat → Nat} : ∀ {n i : Nat}, ev_lv ad i (List.replicate n .null) = []
  | 0, _ => rfl
  | n + 1, i => by
    rw [List.replicate_succ]
    unfold ev_lv
    exact ev_lv_nulls
theorem ev_lv_ent {ad : Nat → Nat} {n : Nat} : ∀ {as : List Value} {i : Nat}, ∀ q ∈ ev_lv ad i (ev_fl2 as ++ List.replicate n .null), q ∈ lv_args i (as.map (ev_cv ad))
  | [], i, q, h => by
    simp only [ev_fl2, List.flatMap_nil, List.nil_append] at h
    rw [ev_lv_nulls] at h
    cases h
  | v :: t, i, q, h => by
    have e : ev_fl2 (v :: t) = (if v.category = 2 then [v, .null] else [v]) ++ ev_fl2 t := by simp [ev_fl2]
    rw [e, List.append_assoc] at h
    simp only [List.map_cons, lv_args, ev_cvc]
    by_cases hc : v.category = 2
    · rw [if_pos hc] at h ⊢
      have hn : ev_nn v = true := by cases v <;> first | rfl | (simp [Value.category] at hc)
      simp only [List.cons_append, List.nil_append, ev_lv, hn, if_true] at h
      rcases List.mem_cons.mp h with rfl | h
      · exact List.mem_cons_self
      · refine List.mem_cons_of_mem _ (ev_lv_ent (n := n) q ?_)
        simpa [ev_nn] using h
    · rw [if_neg hc] at h ⊢
      simp only [List.cons_append, List.nil_append, ev_lv] at h
      by_cases hn : ev_nn v = true
      · rw [if_pos hn] at h
        rcases List.mem_cons.mp h with rfl | h
        · exact List.mem_cons_self
        · exact List.mem_cons_of_mem _ (ev_lv_ent (n := n) q h)
      · rw [if_neg hn] at h
        exact List.mem_cons_of_mem _ (ev_lv_ent (n := n) q h)
theorem ev_lgsl {ad : Nat → Nat} : ∀ {as : List Value}, (lg_sl (as.map (ev_cv ad))).length = (ev_fl2 as).length
  | [] => rfl
  | v :: t => by
    have ih := ev_lgsl (ad := ad) (as := t)
    simp only [lg_sl, ev_fl2, List.map_cons, List.flatMap_cons, List.length_append, ev_cvc] at ih ⊢
    rw [ih]
    by_cases hc : v.category = 2
    · rw [if_pos hc, if_pos hc]; rfl
    · rw [if_neg hc, if_neg hc]; rfl
theorem ev_lc_ent {ad : Nat → Nat} {as : List Value} {n : Nat} (h : (ev_fl2 as).length ≤ n) : ev_lc ad n ((lg_sl (as.map (ev_cv ad)) ++ List.replicate (n - (lg_sl (as.map (ev_cv ad))).length) Slot.unset).toArray) (ev_ent as n) := by
  have h1 := lv_entry (as.map (ev_cv ad)) (n := n) (by rw [ev_lgsl]; exact h)
  refine ⟨h1.1, ev_lv_sub h1 (fun q hq => ev_lv_ent q hq), ?_⟩
  unfold ev_ent
  rw [List.length_append, List.length_replicate]
  omega
theorem ev_ofWH {l : Launch} {y : MethodName} {ws ws' : List Cond} {rm : Room} {Pc : Array Value → State → Prop} {Qc : Array Value → State → Outcome → State → Prop} {mc ms : Nat} {free : Addr → Prop} {cc : ByteArray} {maxL : Nat} {ret : Option FieldType} {hh : List (Nat × Nat × Nat × Nat)}
    (hy : plainName y.cls = true) (hw : ws = Cond.codeWith y cc maxL ret hh :: ws')
    (body : ∀ p e s m args below meth c s₁, BodyLoose p l y (headSpec ws rm) cc maxL ret e s m args below meth c s₁ → c.maxLocals = maxL → Pc args s →
      W p l e (headSpec ws rm).room s m args below meth c s.heap [] 0 0 (MQ below Qc args s mc ms free) (entryFrame m args maxL)) : Met l y ws rm Pc Qc mc ms free := by
  refine MetFree.of_bodyS (code := cc) (maxLocals := maxL) (ret := ret) hy ?_ ?_
  · intro args s m h hn
    obtain ⟨m9, meth, c, hn9, h1, h2, h3, h4, -, h5, h6, -⟩ := Cond.codeWith_spec (atoms_spec (ws := ws) h _ (by rw [hw]; exact List.mem_cons_self))
    cases hn.symm.trans hn9
    exact ⟨meth, c, h1, h2, h3, h4, h5, h6⟩
  · intro p e s m args below meth c s₁ B hml hP _
    have hh0 : s₁.heap = s.heap := by rw [B.state]; rfl
    obtain ⟨t, a1, o, b1, b2, b3⟩ := body p e s m args below meth c s₁ B hml hP s₁ hh0 (Stand.of_body B)
    exact ⟨t, o, a1, b1, b2, ⟨b3.1, b3.2⟩⟩
theorem ev_tr_t : ∀ q ∈ ev_trT, q.2 < 3 ∧ (q.2 = 0 → q.1.1 = 56 ∧ q.1.2.2 = 60) ∧ (q.2 = 1 → q.1.1 = 63 ∧ q.1.2.2 = 67) ∧ (q.2 = 2 → q.1.1 = 82 ∧ q.1.2.2 = 86) := by decide +kernel
theorem ev_tr_s {oc ik is ic E : Nat} (h : ev_tr oc ik is ic = some E) : oc = 5 ∧ ((ik, is, ic), E) ∈ ev_trT := by
  unfold ev_tr at h
  by_cases h5 : oc = 5
  · rw [if_pos h5] at h
    exact ⟨h5, ev_lk h⟩
  · rw [if_neg h5] at h; cases h
theorem ev_clk : ∀ q ∈ ([(56, "java/lang/IndexOutOfBoundsException"), (63, "java/lang/IllegalArgumentException"), (82, "java/lang/IllegalStateException")] : List (Nat × String)), (Cond.classLink RX5 q.1 q.2) ∈ lw_tbl ∧ (Cond.initialized q.2) ∈ lw_tbl := by decide +kernel

theorem ev_xo0 : ∀ w ∈ (vx_atS RX5 60 "java/lang/IndexOutOfBoundsException" ["java/lang/RuntimeException", "java/lang/Exception"]).filter (fun w => !goodWord w), w ∈ ev_XW := by decide +kernel
theorem ev_xg0 : ∀ w ∈ Cond.classLink RX5 56 "java/lang/IndexOutOfBoundsException" :: Cond.initialized "java/lang/IndexOutOfBoundsException" :: vx_atS RX5 60 "java/lang/IndexOutOfBoundsException" ["java/lang/RuntimeException", "java/lang/Exception"], vx_ot w = true := by decide +kernel
theorem ev_xa0 {A : Nat → Prop} {ad : Nat → Nat} {s : State} {args : Array Value} {H : Heap} (hts : ∀ w ∈ ev_TB, w.before args s = true) (hST : ev_ST A ad s H) : ∀ w ∈ vx_atS RX5 60 "java/lang/IndexOutOfBoundsException" ["java/lang/RuntimeException", "java/lang/Exception"], w.before args s = true :=
  vx_hat (B := ev_XW) (fun w hw => hts w (ev_TBm (ev_x0 w hw) (List.mem_filter.mp hw).2)) ev_xo0 (fun w hw => by
    have h9 := hST.2.2.2.2.1 w hw
    have ho : ∀ w ∈ ev_XW, w.onTables = true := by decide +kernel
    exact va_Nw.use (ho w hw) h9)
theorem ev_xo1 : ∀ w ∈ (vx_atS RX5 67 "java/lang/IllegalArgumentException" ["java/lang/RuntimeException", "java/lang/Exception"]).filter (fun w => !goodWord w), w ∈ ev_XW := by decide +kernel
theorem ev_xg1 : ∀ w ∈ Cond.classLink RX5 63 "java/lang/IllegalArgumentException" :: Cond.initialized "java/lang/IllegalArgumentException" :: vx_atS RX5 67 "java/lang/IllegalArgumentException" ["java/lang/RuntimeException", "java/lang/Exception"], vx_ot w = true := by decide +kernel
theorem ev_xa1 {A : Nat → Prop} {ad : Nat → Nat} {s : State} {args : Array Value} {H : Heap} (hts : ∀ w ∈ ev_TB, w.before args s = true) (hST : ev_ST A ad s H) : ∀ w ∈ vx_atS RX5 67 "java/lang/IllegalArgumentException" ["java/lang/RuntimeException", "java/lang/Exception"], w.before args s = true :=
  vx_hat (B := ev_XW) (fun w hw => hts w (ev_TBm (ev_x1 w hw) (List.mem_filter.mp hw).2)) ev_xo1 (fun w hw => by
    have h9 := hST.2.2.2.2.1 w hw
    have ho : ∀ w ∈ ev_XW, w.onTables = true := by decide +kernel
    exact va_Nw.use (ho w hw) h9)
theorem ev_xo2 : ∀ w ∈ (vx_atS RX5 86 "java/lang/IllegalStateException" ["java/lang/RuntimeException", "java/lang/Exception"]).filter (fun w => !goodWord w), w ∈ ev_XW := by decide +kernel
theorem ev_xg2 : ∀ w ∈ Cond.classLink RX5 82 "java/lang/IllegalStateException" :: Cond.initialized "java/lang/IllegalStateException" :: vx_atS RX5 86 "java/lang/IllegalStateException" ["java/lang/RuntimeException", "java/lang/Exception"], vx_ot w = true := by decide +kernel
theorem ev_xa2 {A : Nat → Prop} {ad : Nat → Nat} {s : State} {args : Array Value} {H : Heap} (hts : ∀ w ∈ ev_TB, w.before args s = true) (hST : ev_ST A ad s H) : ∀ w ∈ vx_atS RX5 86 "java/lang/IllegalStateException" ["java/lang/RuntimeException", "java/lang/Exception"], w.before args s = true :=
  vx_hat (B := ev_XW) (fun w hw => hts w (ev_TBm (ev_x2 w hw) (List.mem_filter.mp hw).2)) ev_xo2 (fun w hw => by
    have h9 := hST.2.2.2.2.1 w hw
    have ho : ∀ w ∈ ev_XW, w.onTables = true := by decide +kernel
    exact va_Nw.use (ho w hw) h9)
section EvT
variable {p : Program} {l : Launch} {e : Env} {R : Room} {s : State} {m : MethodId} {args : Array Value} {below : List Frame} {meth : Method} {c : Code} {H : Heap} {locs : List Loc} {cells slots : Nat}
variable {cc : ByteArray} {pc : Nat} {ls : Array Slot} {D : va_G} {ca : Nat → ClassId} {ad : Nat → Nat} {μ2 : ev_M} {base oc : Nat} {Qc : Array Value → State → Outcome → State → Prop}
set_option maxHeartbeats 4000000 in
theorem ev_thr (hx : p.tables.exec = Jvm.exec) (hb : c.code = cc) (hflags : l.stackTraces = false) (hown : s.vm.findClass (ev_cn oc) = some m.cls) (hts : ∀ w ∈ ev_TB, w.before args s = true) (hST : ev_ST (ev_A base) ad s s.heap) (hP : va_P D vwCl (ev_wl ca ad μ2) H) (hS : va_S (ev_A base) s.heap H locs) (hsz : ls.size = c.maxLocals) (hno : ∀ x ∈ c.exceptionTable.toList, False)
    (hR : 10 ≤ R.frames ∧ 300 ≤ R.locals ∧ cells + 1 ≤ R.cells ∧ slots + 6 ≤ R.slots) (hlocks : meth.locks = false) {E mc ms : Nat} {r : ev_R} (hr : r.2 = E + 1) (hc : cells + 1 ≤ mc) (hs : slots + 6 ≤ ms) (h : ev_thq cc oc pc E) :
    W p l e R s m args below meth c H locs cells slots (vx_MQ below Qc (ev_XC base D ca ad r μ2) args s mc ms (ev_A base)) (F0 m pc ls []) := by
  obtain ⟨ik, is, ic, d0, d3, htr, hd⟩ := h
  obtain ⟨rfl, hmem⟩ := ev_tr_s htr
  obtain ⟨hE3, t0, t1, t2⟩ := ev_tr_t _ hmem
  dsimp only at hE3 t0 t1 t2
  obtain ⟨tx, sa, hstr⟩ := hST.2.2.2.1 _ hmem
  dsimp only at hstr
  have hU := hST.2.2.1.1
  have hN := hST.2.2.1.2
  have hxx : ∀ t : State, s.vm.Alike t.vm → H.size ≤ t.heap.size → (∀ q : Nat, q < H.size → t.heap[q]? = H[q]?) → ev_XC base D ca ad r μ2 (ev_ex E) s t := fun t _ h1 h2 =>
    ⟨E, hr, rfl, hP.kept (fun k q hk => h2 _ (vx_lt hP hk)), Nat.le_trans hS.1 h1, fun q g1 g2 => (h2 q (Nat.lt_of_lt_of_le g1 hS.1)).trans (hS.2.1 q g1 g2)⟩
  have hnm : ∀ n ∈ (["java/lang/RuntimeException", "java/lang/Exception"] : List String), Bundle.fit n = true := by decide +kernel
  rcases (show E = 0 ∨ E = 1 ∨ E = 2 by omega) with rfl | rfl | rfl
  · obtain ⟨rfl, rfl⟩ := t0 rfl
    have hk := ev_clk (56, "java/lang/IndexOutOfBoundsException") (by simp)
    rcases hd with ⟨d4, d6, d9⟩ | ⟨d4, d6, d9⟩
    · exact vx_throwS (own := RX5) (cls := "java/lang/IndexOutOfBoundsException") (names := ["java/lang/RuntimeException", "java/lang/Exception"]) hx hb hflags hown (by decide +kernel) hnm (hts _ (ev_TBm hk.1 rfl)) (hts _ (ev_TBm hk.2 rfl)) hstr (ev_xa0 hts hST) ev_xg0 hU hN hS hsz d0 d3 d4 d6 d9 (fun x hx9 => (hno x hx9).elim) (by show 2 + 3 < _; omega) (by show 0 + (13 * (2 + 1) + 43) ≤ _; omega) hR.2.2.1 hR.2.2.2 hlocks hxx hS.2.2 hc hs
    · exact vx_throwSW (own := RX5) (cls := "java/lang/IndexOutOfBoundsException") (names := ["java/lang/RuntimeException", "java/lang/Exception"]) hx hb hflags hown (by decide +kernel) hnm (hts _ (ev_TBm hk.1 rfl)) (hts _ (ev_TBm hk.2 rfl)) hstr (ev_xa0 hts hST) ev_xg0 hU hN hS hsz d0 d3 d4 d6 d9 (fun x hx9 => (hno x hx9).elim) (by show 2 + 3 < _; omega) (by show 0 + (13 * (2 + 1) + 43) ≤ _; omega) hR.2.2.1 hR.2.2.2 hlocks hxx hS.2.2 hc hs
  · obtain ⟨rfl, rfl⟩ := t1 rfl
    have hk := ev_clk (63, "java/lang/IllegalArgumentException") (by simp)
    rcases hd with ⟨d4, d6, d9⟩ | ⟨d4, d6, d9⟩
    · exact vx_throwS (own := RX5) (cls := "java/lang/IllegalArgumentException") (names := ["java/lang/RuntimeException", "java/lang/Exception"]) hx hb hflags hown (by decide +kernel) hnm (hts _ (ev_TBm hk.1 rfl)) (hts _ (ev_TBm hk.2 rfl)) hstr (ev_xa1 hts hST) ev_xg1 hU hN hS hsz d0 d3 d4 d6 d9 (fun x hx9 => (hno x hx9).elim) (by show 2 + 3 < _; omega) (by show 0 + (13 * (2 + 1) + 43) ≤ _; omega) hR.2.2.1 hR.2.2.2 hlocks hxx hS.2.2 hc hs
    · exact vx_throwSW (own := RX5) (cls := "java/lang/IllegalArgumentException") (names := ["java/lang/RuntimeException", "java/lang/Exception"]) hx hb hflags hown (by decide +kernel) hnm (hts _ (ev_TBm hk.1 rfl)) (hts _ (ev_TBm hk.2 rfl)) hstr (ev_xa1 hts hST) ev_xg1 hU hN hS hsz d0 d3 d4 d6 d9 (fun x hx9 => (hno x hx9).elim) (by show 2 + 3 < _; omega) (by show 0 + (13 * (2 + 1) + 43) ≤ _; omega) hR.2.2.1 hR.2.2.2 hlocks hxx hS.2.2 hc hs
  · obtain ⟨rfl, rfl⟩ := t2 rfl
    have hk := ev_clk (82, "java/lang/IllegalStateException") (by simp)
    rcases hd with ⟨d4, d6, d9⟩ | ⟨d4, d6, d9⟩
    · exact vx_throwS (own := RX5) (cls := "java/lang/IllegalStateException") (names := ["java/lang/RuntimeException", "java/lang/Exception"]) hx hb hflags hown (by decide +kernel) hnm (hts _ (ev_TBm hk.1 rfl)) (hts _ (ev_TBm hk.2 rfl)) hstr (ev_xa2 hts hST) ev_xg2 hU hN hS hsz d0 d3 d4 d6 d9 (fun x hx9 => (hno x hx9).elim) (by show 2 + 3 < _; omega) (by show 0 + (13 * (2 + 1) + 43) ≤ _; omega) hR.2.2.1 hR.2.2.2 hlocks hxx hS.2.2 hc hs
    · exact vx_throwSW (own := RX5) (cls := "java/lang/IllegalStateException") (names := ["java/lang/RuntimeException", "java/lang/Exception"]) hx hb hflags hown (by decide +kernel) hnm (hts _ (ev_TBm hk.1 rfl)) (hts _ (ev_TBm hk.2 rfl)) hstr (ev_xa2 hts hST) ev_xg2 hU hN hS hsz d0 d3 d4 d6 d9 (fun x hx9 => (hno x hx9).elim) (by show 2 + 3 < _; omega) (by show 0 + (13 * (2 + 1) + 43) ≤ _; omega) hR.2.2.1 hR.2.2.2 hlocks hxx hS.2.2 hc hs
end EvT
set_option maxHeartbeats 4000000 in
theorem ev_IHd {l : Launch} (hflags : l.stackTraces = false) {base : Nat} {D : va_G} {ca : Nat → ClassId} {ad : Nat → Nat} : ∀ d, ev_IH l base D ca ad d (ev_CALL d) := by
  intro d
  induction d with
  | zero => intro y as μ r μ2 h; exact h.elim
  | succ d IH =>
    intro y as μ r μ2 h hy
    obtain ⟨hlen, hE⟩ := h
    obtain ⟨o1, o2, o3, o4, o5, o6, o7⟩ := ev_yo_t y hy
    have hRm : ∀ {ws : List Cond}, d + 11 ≤ (headSpec ws (ev_rm (d + 1) y)).room.frames ∧ 60 * d + 360 ≤ (headSpec ws (ev_rm (d + 1) y)).room.locals := fun {ws} => ⟨by show _ ≤ d + 1 + 10; omega, by show _ ≤ 60 * (d + 1) + 300; omega⟩
    have hcap : ∀ {ws : List Cond}, 0 + ev_mc y ≤ (headSpec ws (ev_rm (d + 1) y)).room.cells ∧ 0 + 6 * ev_mc y ≤ (headSpec ws (ev_rm (d + 1) y)).room.slots := fun {ws} => ⟨by show _ ≤ ev_mc y; omega, by show _ ≤ 6 * ev_mc y; omega⟩
    refine ⟨fun hth hr0 => ?_, fun hth => ?_⟩
    · obtain ⟨v, r2⟩ := r
      dsimp only at hr0
      subst hr0
      have body : ∀ (p : Program) (e : Env) (s : State) (m : MethodId) (args : Array Value) (below : List Frame) (meth : Method) (c : Code) (s₁ : State), BodyLoose p l (ev_yn y) (headSpec (ev_ws y) (ev_rm (d + 1) y)) (ev_yb y) (ev_yL y) (ev_yr y) e s m args below meth c s₁ → c.maxLocals = ev_yL y → va_Pc (as.map (ev_cv ad)) (ev_WD base D ca ad μ) args s →
          W p l e (headSpec (ev_ws y) (ev_rm (d + 1) y)).room s m args below meth c s.heap [] 0 0 (MQ below (ev_Qn base D ca ad (v.map (ev_cv ad)) μ2) args s (ev_mc y) (6 * ev_mc y) (ev_A base)) (entryFrame m args (ev_yL y)) := by
        intro p e s m args below meth c s₁ B hml hv
        obtain ⟨rfl, hP, hK, hD0, hST, hbs⟩ := hv
        have hx := B.exec
        have hb := B.bytes
        have hr := B.returns
        have hlocks := B.notSynchronized
        have hts0 := atoms_spec (ws := ev_ws y) B.pre
        have hts : ∀ w ∈ ev_TB, w.before (as.map (ev_cv ad)).toArray s = true := fun w hw => hts0 w (List.mem_cons_of_mem _ hw)
        have hown : s.vm.findClass (ev_cn (ev_yo y)) = some m.cls := by rw [← o1]; exact findClass_of_methodNamed B.named
        have htab : ev_yh y ≠ [] → c.exceptionTable.toList = tableOf (ev_yh y) := by
          intro hne
          have hcw : ev_cw y = Cond.codeWith (ev_yn y) (ev_yb y) (ev_yL y) (ev_yr y) (ev_yh y) := by unfold ev_cw; rw [if_neg (by simpa using hne)]
          exact vx_table (x := ev_yn y) B (by rw [← hcw]; exact hts0 _ List.mem_cons_self)
        rw [lg_entry_eq]
        have hl := ev_lc_ent (ad := ad) hlen
        generalize (lg_sl (as.map (ev_cv ad)) ++ List.replicate (ev_yL y - (lg_sl (as.map (ev_cv ad))).length) Slot.unset).toArray = ls at hl ⊢
        have hFin : ev_Fin p l e (headSpec (ev_ws y) (ev_rm (d + 1) y)).room s m (as.map (ev_cv ad)).toArray below meth c base D ca ad (ev_yo y) (ev_yb y) (ev_yr y) (ev_mc y) (ev_yL y) 0 0 (v, 0) μ2 (MQ below (ev_Qn base D ca ad (v.map (ev_cv ad)) μ2) (as.map (ev_cv ad)).toArray s (ev_mc y) (6 * ev_mc y) (ev_A base)) := by
          refine ⟨?_, ?_, ?_, ?_, ?_⟩
          · intro pc a ls H locs x ty hd hrt hn hrf ha hP1 hS1
            cases hrf
            exact W.widen (k := ev_mc y) (n := 6 * ev_mc y) (by omega) (by omega) (W.zret hx hb (hr.trans hrt) hn (fun t ht _ => ⟨rfl, by rw [ht]; exact hP1, hS1.F ht⟩) hS1.2.2 hd hlocks)
          · intro pc a ls H locs x hd hrt hrf ha hP1 hS1
            cases hrf
            exact W.widen (k := ev_mc y) (n := 6 * ev_mc y) (by omega) (by omega) (W.lret hx hb (hr.trans hrt) (fun t ht _ => ⟨rfl, by rw [ht]; exact hP1, hS1.F ht⟩) hS1.2.2 hd hlocks)
          · intro pc a ls H locs x hd hrt hrf ha hP1 hS1
            cases hrf
            exact W.widen (k := ev_mc y) (n := 6 * ev_mc y) (by omega) (by omega) (W.dret hx hb (hr.trans hrt) (fun t ht _ => ⟨rfl, by rw [ht]; exact hP1, hS1.F ht⟩) hS1.2.2 hd hlocks)
          · intro pc a ls H locs hd hrt hrf ha hP1 hS1
            cases hrf
            exact W.widen (k := ev_mc y) (n := 6 * ev_mc y) (by omega) (by omega) (W.vret hx hb (hr.trans hrt) (fun t ht _ => ⟨rfl, by rw [ht]; exact hP1, hS1.F ht⟩) hS1.2.2 hd hlocks)
          · intro pc a E ls H locs _ hrf
            cases hrf
        have hsnd := ev_sound (d := d) (c0 := 0) (s0 := 0) (ex := (0, fun _ => 0, ev_yh y)) hx hb hml hown hts hK (ev_wl_D hD0) hbs hST hRm hcap (fun h => absurd h (Nat.lt_irrefl 0)) htab IH hFin
        exact hE _ hsnd (Nat.zero_le _) s.heap [] ls hP va_S.rf hl
      by_cases hyh : ev_yh y = []
      · have hcw : ev_ws y = Cond.code (ev_yn y) (ev_yb y) (ev_yL y) (ev_yr y) :: ev_TB := by unfold ev_ws ev_cw; rw [hyh]; rfl
        exact Met.ofW o5 hcw body
      · have hcw : ev_ws y = Cond.codeWith (ev_yn y) (ev_yb y) (ev_yL y) (ev_yr y) (ev_yh y) :: ev_TB := by
          unfold ev_ws ev_cw
          rw [if_neg (by simpa using hyh)]
        exact ev_ofWH o5 hcw body
    · obtain ⟨hyh, hmc, hkd⟩ := ev_th_yh y hy hth
      have hcw : ev_ws y = Cond.code (ev_yn y) (ev_yb y) (ev_yL y) (ev_yr y) :: ev_TB := by unfold ev_ws ev_cw; rw [hyh]; rfl
      refine vx_ofW o5 hcw ?_
      intro p e s m args below meth c s₁ B hml hno hv
      obtain ⟨rfl, hP, hK, hD0, hST, hbs⟩ := hv
      have hx := B.exec
      have hb := B.bytes
      have hr := B.returns
      have hlocks := B.notSynchronized
      have hts0 := atoms_spec (ws := ev_ws y) B.pre
      have hts : ∀ w ∈ ev_TB, w.before (as.map (ev_cv ad)).toArray s = true := fun w hw => hts0 w (List.mem_cons_of_mem _ hw)
      have hown : s.vm.findClass (ev_cn (ev_yo y)) = some m.cls := by rw [← o1]; exact findClass_of_methodNamed B.named
      rw [lg_entry_eq]
      have hl := ev_lc_ent (ad := ad) hlen
      generalize (lg_sl (as.map (ev_cv ad)) ++ List.replicate (ev_yL y - (lg_sl (as.map (ev_cv ad))).length) Slot.unset).toArray = ls at hl ⊢
      have hFin : ev_Fin p l e (headSpec (ev_ws y) (ev_rm (d + 1) y)).room s m (as.map (ev_cv ad)).toArray below meth c base D ca ad (ev_yo y) (ev_yb y) (ev_yr y) (ev_mc y) (ev_yL y) 0 0 r μ2 (vx_MQ below (ev_QX base D ca ad r μ2) (ev_XC base D ca ad r μ2) (as.map (ev_cv ad)).toArray s (ev_mc y) (6 * ev_mc y) (ev_A base)) := by
        refine ⟨?_, ?_, ?_, ?_, ?_⟩
        · intro pc a ls H locs x ty hd hrt hn hrf ha hP1 hS1
          subst hrf
          exact vx_ret (W.widen (k := ev_mc y) (n := 6 * ev_mc y) (by omega) (by omega) (W.zret hx hb (hr.trans hrt) hn (fun t ht _ => ⟨rfl, rfl, by rw [ht]; exact hP1, hS1.F ht⟩) hS1.2.2 hd hlocks))
        · intro pc a ls H locs x hd hrt hrf ha hP1 hS1
          subst hrf
          exact vx_ret (W.widen (k := ev_mc y) (n := 6 * ev_mc y) (by omega) (by omega) (W.lret hx hb (hr.trans hrt) (fun t ht _ => ⟨rfl, rfl, by rw [ht]; exact hP1, hS1.F ht⟩) hS1.2.2 hd hlocks))
        · intro pc a ls H locs x hd hrt hrf ha hP1 hS1
          subst hrf
          exact vx_ret (W.widen (k := ev_mc y) (n := 6 * ev_mc y) (by omega) (by omega) (W.dret hx hb (hr.trans hrt) (fun t ht _ => ⟨rfl, rfl, by rw [ht]; exact hP1, hS1.F ht⟩) hS1.2.2 hd hlocks))
        · intro pc a ls H locs hd hrt hrf ha hP1 hS1
          subst hrf
          exact vx_ret (W.widen (k := ev_mc y) (n := 6 * ev_mc y) (by omega) (by omega) (W.vret hx hb (hr.trans hrt) (fun t ht _ => ⟨rfl, rfl, by rw [ht]; exact hP1, hS1.F ht⟩) hS1.2.2 hd hlocks))
        · intro pc a E ls H locs hq hrf ha hsz hP1 hS1
          exact ev_thr hx hb hflags hown hts hST hP1 hS1 (hsz.trans hml.symm) hno ⟨by have := (hRm (ws := ev_ws y)).1; omega, by have := (hRm (ws := ev_ws y)).2; omega, by show 0 + a + 1 ≤ ev_mc y; omega, by show 0 + 6 * a + 6 ≤ 6 * ev_mc y; omega⟩ hlocks (by rw [hrf]) (by omega) (by omega) hq
      have hsnd := ev_sound (d := d) (c0 := 0) (s0 := 0) (ex := (0, fun _ => 0, ev_yh y)) hx hb hml hown hts hK (ev_wl_D hD0) hbs hST hRm hcap (fun h => absurd h (Nat.lt_irrefl 0)) (fun h => absurd hyh h) IH hFin
      exact hE _ hsnd (Nat.zero_le _) s.heap [] ls hP va_S.rf hl

