/-! what the constructors make: a new object goes behind the world, with all that its constructor makes -/
theorem va_AOA.moved {ty : FieldType} {u U : State} (hvm : u.vm.Alike U.vm) (h : va_AOA ty u) : va_AOA ty U := Jvm.Stand.arrayOver_alikeB hvm h
def ct_XN : List Cond := [.fieldLinkNest RX0 64 RX5 "SETTING_AT_FIRST" "[I" RX5, .methodLinkNest RX5 33 yX2_init RX5, .methodLinkNest RX5 40 yX4_init RX5, .methodLinkNest RX5 47 yX3_init RX5]
def ct_first : Nat → Value := fun j => .int (([3, 2, 1, 1] : List Int32).getD j 0)
/-- what a constructor asks of the machine but for its words -/
def ct_X (A : Nat → Prop) (r3 : Nat) (U : State) (H : Heap) : Prop := va_AO RX0 U ∧ va_AOA .int U ∧ (∀ w ∈ ct_XN, va_Nw w U) ∧ va_Z RX5 "SETTING_AT_FIRST" "[I" (.ref r3) A U H ∧ va_T .int r3 4 ct_first A U H
theorem ct_X.kept {A : Nat → Prop} {r3 : Nat} {s U : State} {H H1 : Heap} (h : ct_X A r3 s H) (hW : s.WarmedH U.vm) (hq : ∀ a : Nat, a < H.size → ¬ A a → H1[a]? = H[a]?) : ct_X A r3 U H1 := by
  obtain ⟨a, b, c, d, e⟩ := h
  refine ⟨a.moved hW.alike, b.moved hW.alike, fun w hw => ?_, (d.moved hW.alike).kept hq, (e.moved hW.alike).kept hq⟩
  have h9 := c w hw
  simp only [ct_XN, List.mem_cons, List.not_mem_nil, or_false] at hw
  rcases hw with rfl | rfl | rfl | rfl
  · exact va_Nw.warmF hW h9
  · exact va_Nw.warmM hW h9
  · exact va_Nw.warmM hW h9
  · exact va_Nw.warmM hW h9
theorem ct_X.narrow {A B : Nat → Prop} {r3 : Nat} {s : State} {H : Heap} (h : ct_X A r3 s H) (hAB : ∀ q, B q → A q) : ct_X B r3 s H := ⟨h.1, h.2.1, h.2.2.1, h.2.2.2.1.narrow hAB, h.2.2.2.2.narrow hAB⟩
def ct_P (D : va_G) (ca : Nat → ClassId) (h0 : Nat) (e0 : va_E) (sz r3 : Nat) (U : State) : Prop := U.heap.size = sz ∧ va_P D vwCl [(h0, e0)] U.heap ∧ va_K D vwCl (ev_ty ca) U ∧ va_D (fun _ => True) [(h0, e0)] ∧ ct_X (va_A [(h0, e0)] sz) r3 U U.heap
def ct_B (D : va_G) (h0 : Nat) (e0 : va_E) (sz : Nat) (w1 : va_W) (t : State) : Prop := va_P D vwCl w1 t.heap ∧ va_D (va_A [(h0, e0)] sz) w1
theorem ct_blind {D : va_G} {ca : Nat → ClassId} {h0 : Nat} {e0 : va_E} {sz r3 : Nat} {av : List Value} : FrameBlind (va_Pc av (ct_P D ca h0 e0 sz r3)) := by
  intro a U g mk h
  obtain ⟨h1, h2, h3, h4, h5, h6⟩ := h
  exact ⟨h1, h2, h3, va_K.moved (u := U) (U := U.calling g mk a) (Vm.Alike.refl U.vm) h4, h5, h6.kept (State.WarmedH.refl U) (fun _ _ _ => rfl)⟩
/-- a constructor's contract: the blank object e0 at h0 before, the world w1 behind -/
def ct_M (l : Launch) (D : va_G) (ca : Nat → ClassId) {S : Type} (y : MethodName) (b : ByteArray) (n : Nat) (rm : Room) (e0 : va_E) (po : Nat → S → Prop) (w1 : Nat → S → va_W) (mc ms : Nat) : Prop :=
  ∀ (r3 h0 sz : Nat), Met l y (Cond.code y b n none :: ev_TB) rm (va_Pc [.ref h0] (ct_P D ca h0 e0 sz r3)) (va_Qv (po h0) (fun u => ct_B D h0 e0 sz (w1 h0 u)) (va_A [(h0, e0)] sz)) mc ms (va_A [(h0, e0)] sz)
theorem va_P.comm {D : va_G} {cl : List vw_C} {a b : va_W} {H : Heap} (h : va_P D cl (a ++ b) H) : va_P D cl (b ++ a) H := by
  have := va_P.swap (a := []) (b := a) (c := b) h
  exact this
theorem va_D.comm {A : Nat → Prop} {a b : va_W} (h : va_D A (a ++ b)) : va_D A (b ++ a) := by
  have := va_D.swap (a := []) (b := a) (c := b) h
  exact this
theorem ct_goodTB {w : Cond} (h : w ∈ ev_TB) : GoodIn ev_TB (w :: ev_TB) := fun v hv => by
  rcases List.mem_cons.mp hv with rfl | hv
  · exact ⟨h, ev_good_TB _ h⟩
  · exact ⟨hv, ev_good_TB v hv⟩
theorem ct_caI {D : va_G} {ca : Nat → ClassId} {cA : ClassId} {s : State} (h : va_K D vwCl (ev_ty ca ++ [(cA, .int)]) s) : cA = ca 0 := by
  have h1 : s.vm.findClass ("[" ++ FieldType.int.toString) = some cA := (h.2 5 (cA, .int) rfl).2
  have h2 : s.vm.findClass ("[" ++ FieldType.int.toString) = some (ca 0) := (h.2 0 (ca 0, .int) rfl).2
  exact Option.some.inj (h1.symm.trans h2)
theorem ct_caZ {D : va_G} {ca : Nat → ClassId} {cA : ClassId} {s : State} (h : va_K D vwCl (ev_ty ca ++ [(cA, .boolean)]) s) : cA = ca 1 := by
  have h1 : s.vm.findClass ("[" ++ FieldType.boolean.toString) = some cA := (h.2 5 (cA, .boolean) rfl).2
  have h2 : s.vm.findClass ("[" ++ FieldType.boolean.toString) = some (ca 1) := (h.2 1 (ca 1, .boolean) rfl).2
  exact Option.some.inj (h1.symm.trans h2)
theorem ct_caG {D : va_G} {ca : Nat → ClassId} {cA : ClassId} {s : State} (h : va_K D vwCl (ev_ty ca ++ [(cA, .object RX0)]) s) : cA = ca 2 := by
  obtain ⟨-, -, -, -, -, h1⟩ : va_RA s cA (.object RX0) := (h.2 5 (cA, .object RX0) rfl).2
  obtain ⟨-, -, -, -, -, h2⟩ : va_RA s (ca 2) (.object RX0) := (h.2 2 (ca 2, .object RX0) rfl).2
  exact Option.some.inj (h1.symm.trans h2)
theorem ct_caA {D : va_G} {ca : Nat → ClassId} {cA : ClassId} {s : State} (h : va_K D vwCl (ev_ty ca ++ [(cA, .array .int)]) s) : cA = ca 4 := by
  have h1 : s.vm.findClass ("[" ++ (FieldType.array .int).toString) = some cA := (h.2 5 (cA, .array .int) rfl).2
  have h2 : s.vm.findClass ("[" ++ (FieldType.array .int).toString) = some (ca 4) := (h.2 4 (ca 4, .array .int) rfl).2
  exact Option.some.inj (h1.symm.trans h2)
section CtK
variable {p : Program} {l : Launch} {e : Env} {R : Room} {s : State} {m : MethodId} {args : Array Value} {below : List Frame} {meth : Method} {c : Code} {H : Heap} {locs : List Loc} {cells slots : Nat} {Q : State → Prop}
variable {cc : ByteArray} {pc : Nat} {ls : Array Slot} {rest : List Value} {D : va_G} {ca : Nat → ClassId} {A : Nat → Prop} {ws : va_W} {own : String} {nL r3 : Nat}
set_option maxHeartbeats 1000000 in
/-- a new object, its constructor run -/
theorem ct_newI {S : Type} {y : MethodName} {b : ByteArray} {nY : Nat} {rm : Room} {ci : Nat} {fs : List Value} {po : Nat → S → Prop} {w1 : Nat → S → va_W} {mc ms ik im : Nat} (hM : ct_M l D ca y b nY rm (.inr (ci, fs)) po w1 mc ms)
    (S0 : CallFix p m c cc nL s args ev_TB own) (hls : ls.size = nL) (hK : va_K D vwCl (ev_ty ca) s) (hP : va_P D vwCl ws H) (hD : va_D A ws) (hS : va_S A s.heap H locs) (hA : ∀ q, s.heap.size ≤ q → A q) (hX : ct_X A r3 s s.heap)
    (hci : ci < 6) (hfs : ∀ j, j < ev_tN ci → defaultValue (ev_ty0 ci j) = vp_V fs j) (hy1 : y.name = "<init>") (hyd : y.cls ≠ "java/lang/invoke/MethodHandle" ∧ y.cls ≠ "java/lang/invoke/VarHandle" ∧ (parseMethodDescriptor y.desc).map (fun d => d.parameters.length) = some 0)
    (g1 : (Cond.classLink own ik (ev_cn ci)) ∈ ev_TB) (g2 : (Cond.instantiable (ev_cn ci) (ev_tN ci)) ∈ ev_TB) (g3 : (Cond.initialized (ev_cn ci)) ∈ ev_TB) (g4 : (Cond.methodLink own im y) ∈ ev_TB) (g5 : (Cond.instanceMethod y) ∈ ev_TB) (g6 : (Cond.code y b nY none) ∈ ev_TB) (g7 : (Cond.initialized y.cls) ∈ ev_TB)
    (hrm : rm.cells = mc ∧ rm.slots = ms) (hR : rm.frames + 1 ≤ R.frames ∧ 8 + (nY + 11) + rm.locals ≤ R.locals) (hcap : cells + 1 + mc ≤ R.cells ∧ slots + ev_tN ci + ms ≤ R.slots) (hrest : (rest.map fun v => v.category).sum ≤ 7)
    (d0 : decode cc pc = .ok (.new ik, 3)) (d3 : decode cc (pc + 3) = .ok (.dup, 1)) (d4 : decode cc (pc + 3 + 1) = .ok (.invokespecial im, 3))
    (kk : ∀ (q : Nat) (u : S) (H1 : Heap) (locs1 : List Loc), po q u → va_P D vwCl (ws ++ w1 q u) H1 → va_D A (ws ++ w1 q u) → va_S A s.heap H1 locs1 → W p l e R s m args below meth c H1 locs1 (cells + 1 + mc) (slots + ev_tN ci + ms) Q (F0 m (pc + 3 + 1 + 3) ls (.ref q :: rest))) : W p l e R s m args below meth c H locs cells slots Q (F0 m pc ls rest) := by
  obtain ⟨hx, hb, hml, hown, hts⟩ := id S0
  refine va_new (ci := ci) (fs := fs) (C := ev_cn ci) (T := ev_T ci) (N := ev_tN ci) hx hb hts (ev_laysB hci) (ev_ty0 ci) (ev_ty_ok hci) hown (hts _ g1) (hts _ g2) (hts _ g3) hK hP hD hS hA (ev_cl7 hci) hfs (by omega) (by omega) d0 (fun q H1 hP1 hD1 hS1 => ?_)
  refine lv_dup hx hb d3 rfl ?_
  have hP2 := va_P.comm hP1
  have hD2 := va_D.comm hD1
  have hF := va_free (wc := [(q, .inr (ci, fs))]) hD2 hS1 hA [0] rfl
  have hPc : va_P D vwCl [(q, .inr (ci, fs))] H1 := hP2.sub [0] rfl
  have hDc : va_D A [(q, .inr (ci, fs))] := hD2.sub [0] (by decide) rfl
  refine va_callv (va_runI (As := []) (rest := .ref q :: rest) S0 (hM r3 q H1.size) (cwI 0 hts (ct_goodTB g6) rfl hrm.1 hrm.2 (hts _ g7) (hts _ g4) (hts _ g5) hy1 hyd hR) ⟨ct_blind, fun U hU hW => ⟨rfl, by rw [hU], by rw [hU]; exact hPc, va_K.moved hW.alike hK, hDc.weaken (fun _ _ _ _ => trivial), ?_⟩⟩ rfl rfl hls rfl (lv_room (by rw [List.map_cons, List.sum_cons]; show 1 + _ ≤ 8; omega)) d4 hcap) hS1 (fun q _ h => hF q h) hF (fun u t H2 locs2 ht hvm hpo hB hz1 hk1 hS2 => ?_)
  · rw [hU]
    exact (hX.kept hW (fun a h1 h2 => hS1.2.1 a h1 h2)).narrow hF
  · obtain ⟨hP3, hD3⟩ := hB
    rw [ht] at hP3
    obtain ⟨hP4, hD4⟩ := va_joinQ (X := [(q, .inr (ci, fs))]) (cx := [(q, .inr (ci, fs))]) (wr := []) (w1 := w1 q u) (pl := ws) hP2 hD2 [0] [] rfl rfl (by decide) (by simp) hk1 hF hP3 hD3
    exact kk q u H2 locs2 hpo (va_P.comm hP4) (va_D.comm hD4) hS2
set_option maxHeartbeats 1000000 in
/-- the same, the constructor a nest mate's private one -/
theorem ct_newN {S : Type} {y : MethodName} {b : ByteArray} {nY : Nat} {rm : Room} {ci : Nat} {fs : List Value} {po : Nat → S → Prop} {w1 : Nat → S → va_W} {mc ms ik im : Nat} (hM : ct_M l D ca y b nY rm (.inr (ci, fs)) po w1 mc ms)
    (S0 : CallFix p m c cc nL s args ev_TB own) (hls : ls.size = nL) (hK : va_K D vwCl (ev_ty ca) s) (hP : va_P D vwCl ws H) (hD : va_D A ws) (hS : va_S A s.heap H locs) (hA : ∀ q, s.heap.size ≤ q → A q) (hX : ct_X A r3 s s.heap)
    (hci : ci < 6) (hfs : ∀ j, j < ev_tN ci → defaultValue (ev_ty0 ci j) = vp_V fs j) (hy1 : y.name = "<init>") (hyd : y.cls ≠ "java/lang/invoke/MethodHandle" ∧ y.cls ≠ "java/lang/invoke/VarHandle" ∧ (parseMethodDescriptor y.desc).map (fun d => d.parameters.length) = some 0)
    (g1 : (Cond.classLink own ik (ev_cn ci)) ∈ ev_TB) (g2 : (Cond.instantiable (ev_cn ci) (ev_tN ci)) ∈ ev_TB) (g3 : (Cond.initialized (ev_cn ci)) ∈ ev_TB) (g4 : (Cond.methodLinkNest own im y RX5) ∈ ct_XN) (g5 : (Cond.instanceMethod y) ∈ ev_TB) (g6 : (Cond.code y b nY none) ∈ ev_TB) (g7 : (Cond.initialized y.cls) ∈ ev_TB)
    (hrm : rm.cells = mc ∧ rm.slots = ms) (hR : rm.frames + 1 ≤ R.frames ∧ 8 + (nY + 11) + rm.locals ≤ R.locals) (hcap : cells + 1 + mc ≤ R.cells ∧ slots + ev_tN ci + ms ≤ R.slots) (hrest : (rest.map fun v => v.category).sum ≤ 7)
    (d0 : decode cc pc = .ok (.new ik, 3)) (d3 : decode cc (pc + 3) = .ok (.dup, 1)) (d4 : decode cc (pc + 3 + 1) = .ok (.invokespecial im, 3))
    (kk : ∀ (q : Nat) (u : S) (H1 : Heap) (locs1 : List Loc), po q u → va_P D vwCl (ws ++ w1 q u) H1 → va_D A (ws ++ w1 q u) → va_S A s.heap H1 locs1 → W p l e R s m args below meth c H1 locs1 (cells + 1 + mc) (slots + ev_tN ci + ms) Q (F0 m (pc + 3 + 1 + 3) ls (.ref q :: rest))) : W p l e R s m args below meth c H locs cells slots Q (F0 m pc ls rest) := by
  obtain ⟨hx, hb, hml, hown, hts⟩ := id S0
  refine va_new (ci := ci) (fs := fs) (C := ev_cn ci) (T := ev_T ci) (N := ev_tN ci) hx hb hts (ev_laysB hci) (ev_ty0 ci) (ev_ty_ok hci) hown (hts _ g1) (hts _ g2) (hts _ g3) hK hP hD hS hA (ev_cl7 hci) hfs (by omega) (by omega) d0 (fun q H1 hP1 hD1 hS1 => ?_)
  refine lv_dup hx hb d3 rfl ?_
  have hP2 := va_P.comm hP1
  have hD2 := va_D.comm hD1
  have hF := va_free (wc := [(q, .inr (ci, fs))]) hD2 hS1 hA [0] rfl
  have hPc : va_P D vwCl [(q, .inr (ci, fs))] H1 := hP2.sub [0] rfl
  have hDc : va_D A [(q, .inr (ci, fs))] := hD2.sub [0] (by decide) rfl
  refine va_callv (va_runIN (As := []) (rest := .ref q :: rest) S0 (hM r3 q H1.size) ⟨va_cnB 0 hts (ct_goodTB g6) rfl hrm.1 hrm.2 (hX.2.2.1 _ g4) (hts _ g7) hyd hR, hy1, hts _ g5⟩ ⟨ct_blind, fun U hU hW => ⟨rfl, by rw [hU], by rw [hU]; exact hPc, va_K.moved hW.alike hK, hDc.weaken (fun _ _ _ _ => trivial), ?_⟩⟩ rfl rfl hls rfl (lv_room (by rw [List.map_cons, List.sum_cons]; show 1 + _ ≤ 8; omega)) d4 hcap) hS1 (fun q _ h => hF q h) hF (fun u t H2 locs2 ht hvm hpo hB hz1 hk1 hS2 => ?_)
  · rw [hU]
    exact (hX.kept hW (fun a h1 h2 => hS1.2.1 a h1 h2)).narrow hF
  · obtain ⟨hP3, hD3⟩ := hB
    rw [ht] at hP3
    obtain ⟨hP4, hD4⟩ := va_joinQ (X := [(q, .inr (ci, fs))]) (cx := [(q, .inr (ci, fs))]) (wr := []) (w1 := w1 q u) (pl := ws) hP2 hD2 [0] [] rfl rfl (by decide) (by simp) hk1 hF hP3 hD3
    exact kk q u H2 locs2 hpo (va_P.comm hP4) (va_D.comm hD4) hS2
/-- a new row of ints -/
theorem ct_newaI {n N' : Nat} (S0 : CallFix p m c cc nL s args ev_TB own) (hK : va_K D vwCl (ev_ty ca) s) (hP : va_P D vwCl ws H) (hD : va_D A ws) (hS : va_S A s.heap H locs) (hA : ∀ q, s.heap.size ≤ q → A q) (g1 : (Cond.arrayClass .int) ∈ ev_TB) (hn : n = N') (hN : N' ≤ 1000) (hcap : cells + 1 ≤ R.cells ∧ slots + N' ≤ R.slots) (d0 : decode cc pc = .ok (.newarray .int, 2))
    (kk : ∀ (q : Nat) (H1 : Heap), va_P D vwCl (ws ++ [(q, .inl (ca 0, N', .inl (fun _ => 0)))]) H1 → va_D A (ws ++ [(q, .inl (ca 0, N', .inl (fun _ => 0)))]) → va_S A s.heap H1 locs → W p l e R s m args below meth c H1 locs (cells + 1) (slots + N') Q (F0 m (pc + 2) ls (.ref q :: rest))) : W p l e R s m args below meth c H locs cells slots Q (F0 m pc ls (.int (nI n) :: rest)) := by
  subst hn
  refine va_newa (atype := .int) (ty := .int) (a0 := (n, .inl (fun _ => 0))) S0.1 S0.2.1 (S0.2.2.2.2 _ g1) rfl hK hP hD hS hA (fun _ => rfl) (nI_pos (by omega)) (nI_clamp (by omega)) (by show n * 4 ≤ _; omega) hcap.1 hcap.2 d0 (fun q cA H1 hK1 hP1 hD1 hS1 => ?_)
  rw [ct_caI hK1] at hP1 hD1
  exact kk q H1 hP1 hD1 hS1
theorem ct_newaZ {n N' : Nat} (S0 : CallFix p m c cc nL s args ev_TB own) (hK : va_K D vwCl (ev_ty ca) s) (hP : va_P D vwCl ws H) (hD : va_D A ws) (hS : va_S A s.heap H locs) (hA : ∀ q, s.heap.size ≤ q → A q) (g1 : (Cond.arrayClass .boolean) ∈ ev_TB) (hn : n = N') (hN : N' ≤ 1000) (hcap : cells + 1 ≤ R.cells ∧ slots + N' ≤ R.slots) (d0 : decode cc pc = .ok (.newarray .boolean, 2))
    (kk : ∀ (q : Nat) (H1 : Heap), va_P D vwCl (ws ++ [(q, .inl (ca 1, N', .inl (fun _ => 0)))]) H1 → va_D A (ws ++ [(q, .inl (ca 1, N', .inl (fun _ => 0)))]) → va_S A s.heap H1 locs → W p l e R s m args below meth c H1 locs (cells + 1) (slots + N') Q (F0 m (pc + 2) ls (.ref q :: rest))) : W p l e R s m args below meth c H locs cells slots Q (F0 m pc ls (.int (nI n) :: rest)) := by
  subst hn
  refine va_newa (atype := .boolean) (ty := .boolean) (a0 := (n, .inl (fun _ => 0))) S0.1 S0.2.1 (S0.2.2.2.2 _ g1) rfl hK hP hD hS hA (fun _ => rfl) (nI_pos (by omega)) (nI_clamp (by omega)) (by show n * 1 ≤ _; omega) hcap.1 hcap.2 d0 (fun q cA H1 hK1 hP1 hD1 hS1 => ?_)
  rw [ct_caZ hK1] at hP1 hD1
  exact kk q H1 hP1 hD1 hS1
/-- a new row of games, all null -/
theorem ct_newq {n N' ik : Nat} (S0 : CallFix p m c cc nL s args ev_TB own) (hK : va_K D vwCl (ev_ty ca) s) (hP : va_P D vwCl ws H) (hD : va_D A ws) (hS : va_S A s.heap H locs) (hA : ∀ q, s.heap.size ≤ q → A q) (hX : ct_X A r3 s s.heap) (g1 : (Cond.classLink own ik RX0) ∈ ev_TB) (hn : n = N') (hN : N' ≤ 1000) (hcap : cells + 1 ≤ R.cells ∧ slots + N' ≤ R.slots) (d0 : decode cc pc = .ok (.anewarray ik, 3))
    (kk : ∀ (q : Nat) (H1 : Heap), va_P D vwCl (ws ++ [(q, .inl (ca 2, N', .inr (.inr (.inr (.inr (fun _ => none))))))]) H1 → va_D A (ws ++ [(q, .inl (ca 2, N', .inr (.inr (.inr (.inr (fun _ => none))))))]) → va_S A s.heap H1 locs → W p l e R s m args below meth c H1 locs (cells + 1) (slots + N') Q (F0 m (pc + 3) ls (.ref q :: rest))) : W p l e R s m args below meth c H locs cells slots Q (F0 m pc ls (.int (nI n) :: rest)) := by
  subst hn
  refine va_newq (C := RX0) S0.1 S0.2.1 S0.2.2.2.1 (S0.2.2.2.2 _ g1) hX.1 hK hP hD hS hA (nI_pos (by omega)) (nI_clamp (by omega)) (by omega) hcap.1 hcap.2 d0 (fun q cA H1 hK1 hP1 hD1 hS1 => ?_)
  rw [ct_caG hK1] at hP1 hD1
  exact kk q H1 hP1 hD1 hS1
/-- a field of the first object is set -/
theorem ct_put {h0 ci k i : Nat} {fs : List Value} {v : Value} {ty : FieldType} (S0 : CallFix p m c cc nL s args ev_TB own) (hin : meth.name = "<init>") (hK : va_K D vwCl (ev_ty ca) s) (hP : va_P D vwCl ((h0, .inr (ci, fs)) :: ws) H) (hD : va_D A ((h0, .inr (ci, fs)) :: ws)) (hS : va_S A s.heap H locs) (hci : ci < 6) (hk : k < ev_tN ci) (g1 : (Cond.fieldLink own i (ev_T ci k).1 (ev_T ci k).2.1 (ev_T ci k).2.2.1) ∈ ev_TB) (ho : (ev_T ci k).1 = own)
    (hd : parseFieldDescriptor (ev_T ci k).2.2.1 = some ty) (hn : narrow ty v = v) (hfit : fits ty v = true) (hl : k < fs.length) (d0 : decode cc pc = .ok (.putfield i, 3))
    (kk : ∀ (H1 : Heap) (locs1 : List Loc), va_P D vwCl ((h0, .inr (ci, fs.set k v)) :: ws) H1 → va_D A ((h0, .inr (ci, fs.set k v)) :: ws) → va_S A s.heap H1 locs1 → W p l e R s m args below meth c H1 locs1 cells slots Q (F0 m (pc + 3) ls rest)) : W p l e R s m args below meth c H locs cells slots Q (F0 m pc ls (v :: .ref h0 :: rest)) := by
  cases hf : (ev_T ci k).2.2.2 with
  | true => exact va_putF (ref := (ev_T ci k).1) (own := own) (C := ev_cn ci) (T := ev_T ci) (N := ev_tN ci) (ci := ci) S0.1 S0.2.1 S0.2.2.2.2 (ev_laysB hci) (ev_ty0 ci) (ev_ty_ok hci) (ev_nm_ok hci) S0.2.2.2.1 hK hP hD hS 0 rfl (ev_cl7 hci) k hk (S0.2.2.2.2 _ g1) (fun _ h => h) hf hin ho hd hn hfit hl d0 kk
  | false => exact va_put (ref := (ev_T ci k).1) (own := own) (C := ev_cn ci) (T := ev_T ci) (N := ev_tN ci) (ci := ci) S0.1 S0.2.1 S0.2.2.2.2 (ev_laysB hci) (ev_ty0 ci) (ev_ty_ok hci) (ev_nm_ok hci) S0.2.2.2.1 hK hP hD hS 0 rfl (ev_cl7 hci) k hk (S0.2.2.2.2 _ g1) (fun _ h => h) hf hd hn hfit hl d0 kk
/-- a field of the first object is read -/
theorem ct_get {h0 ci k i : Nat} {fs : List Value} {v : Value} (S0 : CallFix p m c cc nL s args ev_TB own) (hK : va_K D vwCl (ev_ty ca) s) (hP : va_P D vwCl ((h0, .inr (ci, fs)) :: ws) H) (hci : ci < 6) (hk : k < ev_tN ci) (g1 : (Cond.fieldLink own i (ev_T ci k).1 (ev_T ci k).2.1 (ev_T ci k).2.2.1) ∈ ev_TB) (hv : fs[k]? = some v) (d0 : decode cc pc = .ok (.getfield i, 3))
    (kk : W p l e R s m args below meth c H locs cells slots Q (F0 m (pc + 3) ls (v :: rest))) : W p l e R s m args below meth c H locs cells slots Q (F0 m pc ls (.ref h0 :: rest)) :=
  va_get (ref := (ev_T ci k).1) (own := own) (C := ev_cn ci) (T := ev_T ci) (N := ev_tN ci) (ci := ci) S0.1 S0.2.1 S0.2.2.2.2 (ev_laysB hci) S0.2.2.2.1 hK hP 0 rfl (ev_cl7 hci) k hk (S0.2.2.2.2 _ g1) (fun _ h => h) hv d0 kk
/-- the object's own <init> -/
theorem ct_obj {a i : Nat} (S0 : CallFix p m c cc nL s args ev_TB own) (hls : ls.size = nL) (g1 : (Cond.methodLink own i objectInit) ∈ ev_TB) (hf : 1 ≤ R.frames) (hlo : 12 ≤ R.locals) (d0 : decode cc pc = .ok (.invokespecial i, 3)) (kk : W p l e R s m args below meth c H locs cells slots Q (F0 m (pc + 3) ls [])) : W p l e R s m args below meth c H locs cells slots Q (F0 m pc ls [.ref a]) :=
  W.objInit S0.1 S0.2.1 S0.2.2.2.1 (S0.2.2.2.2 _ g1) (S0.2.2.2.2 (.instanceMethod objectInit) (ev_TBm (by decide +kernel) rfl)) (S0.2.2.2.2 (.code objectInit ⟨#[0xb1]⟩ 1 none) (ev_TBm (by decide +kernel) rfl)) rfl (hls.trans S0.2.2.1.symm) rfl d0 hf hlo kk
/-- a game into a row of games -/
theorem ct_astq {a v q0 qk n i : Nat} {f : Nat → Option Nat} {vs : List Value} (S0 : CallFix p m c cc nL s args ev_TB own) (hK : va_K D vwCl (ev_ty ca) s) (hP : va_P D vwCl ws H) (hD : va_D A ws) (hS : va_S A s.heap H locs) (ha : ws[q0]? = some (a, .inl (ca 2, n, .inr (.inr (.inr (.inr f)))))) (hv : ws[qk]? = some (v, .inr (0, vs))) (hi : i < n) (hn : n ≤ 1000) (d0 : decode cc pc = .ok (.aastore, 1))
    (kk : ∀ (H1 : Heap) (locs1 : List Loc), va_P D vwCl (ws.set q0 (a, .inl (ca 2, n, .inr (.inr (.inr (.inr (va_up f i (some v)))))))) H1 → va_D A (ws.set q0 (a, .inl (ca 2, n, .inr (.inr (.inr (.inr (va_up f i (some v)))))))) → va_S A s.heap H1 locs1 → W p l e R s m args below meth c H1 locs1 cells slots Q (F0 m (pc + 1) ls rest)) : W p l e R s m args below meth c H locs cells slots Q (F0 m pc ls (.ref v :: .int (nI i) :: .ref a :: rest)) := by
  refine va_astq (r := (RX0, ev_T 0, ev_tN 0)) S0.1 S0.2.1 hK hP hD hS q0 2 qk 0 ha rfl hv rfl (vp_in_nI hi (by omega)) d0 ?_
  rw [nI_clamp (by omega)]
  exact kk
/-- an int into a row of ints -/
theorem ct_iast {a q0 n i : Nat} {f : Nat → Int32} {x : Int32} (S0 : CallFix p m c cc nL s args ev_TB own) (hK : va_K D vwCl (ev_ty ca) s) (hP : va_P D vwCl ws H) (hD : va_D A ws) (hS : va_S A s.heap H locs) (ha : ws[q0]? = some (a, .inl (ca 0, n, .inl f))) (hi : i < n) (hn : n ≤ 1000) (d0 : decode cc pc = .ok (.iastore, 1))
    (kk : ∀ (H1 : Heap) (locs1 : List Loc), va_P D vwCl (ws.set q0 (a, .inl (ca 0, n, .inl (upd f i x)))) H1 → va_D A (ws.set q0 (a, .inl (ca 0, n, .inl (upd f i x)))) → va_S A s.heap H1 locs1 → W p l e R s m args below meth c H1 locs1 cells slots Q (F0 m (pc + 1) ls rest)) : W p l e R s m args below meth c H locs cells slots Q (F0 m pc ls (.int x :: .int (nI i) :: .ref a :: rest)) := by
  refine va_iast S0.1 S0.2.1 hK hP hD hS q0 0 ha rfl (vp_in_nI hi (by omega)) d0 ?_
  rw [nI_clamp (by omega)]
  exact kk
/-- the first settings, read -/
theorem ct_gets (S0 : CallFix p m c cc nL s args ev_TB RX0) (hX : ct_X A r3 s s.heap) (hS : va_S A s.heap H locs) (d0 : decode cc pc = .ok (.getstatic 64, 3)) (kk : W p l e R s m args below meth c H locs cells slots Q (F0 m (pc + 3) ls (.ref r3 :: rest))) : W p l e R s m args below meth c H locs cells slots Q (F0 m pc ls rest) :=
  va_getsN (own := RX0) (ref := RX5) (host := RX5) S0.1 S0.2.1 hX.2.2.2.1 hS S0.2.2.2.1 (va_Nw.use rfl (hX.2.2.1 _ (by simp [ct_XN]))) (fun _ h => h) d0 kk
theorem ct_ti {i : Nat} {x : Int32} (S0 : CallFix p m c cc nL s args ev_TB own) (hX : ct_X A r3 s s.heap) (hS : va_S A s.heap H locs) (hi : i < 4) (hx : ([3, 2, 1, 1] : List Int32).getD i 0 = x) (d0 : decode cc pc = .ok (.iaload, 1)) (kk : W p l e R s m args below meth c H locs cells slots Q (F0 m (pc + 1) ls (.int x :: rest))) : W p l e R s m args below meth c H locs cells slots Q (F0 m pc ls (.int (nI i) :: .ref r3 :: rest)) := by
  refine va_ti S0.1 S0.2.1 hX.2.2.2.2 hS (vp_in_nI hi (by omega)) (v := .int x) ?_ d0 kk
  rw [nI_clamp (by omega)]
  show Value.int _ = _
  rw [hx]
end CtK
theorem ct_rotP {D : va_G} {cl : List vw_C} {a r : va_W} {y : Nat × va_E} {H : Heap} (h : va_P D cl (a ++ (r ++ [y])) H) : va_P D cl ((a ++ [y]) ++ r) H := by
  rw [← List.append_assoc] at h
  exact va_P.swap h
theorem ct_rotD {A : Nat → Prop} {a r : va_W} {y : Nat × va_E} (h : va_D A (a ++ (r ++ [y]))) : va_D A ((a ++ [y]) ++ r) := by
  rw [← List.append_assoc] at h
  exact va_D.swap h
theorem ct_of {l : Launch} {D : va_G} {ca : Nat → ClassId} {S : Type} {y : MethodName} {b : ByteArray} {n : Nat} {rm : Room} {e0 : va_E} {po : Nat → S → Prop} {w1 : Nat → S → va_W} {mc ms : Nat} (hy : plainName y.cls = true) (hn : 1 ≤ n)
    (body : ∀ (p : Program) (e : Env) (s : State) (m : MethodId) (args : Array Value) (below : List Frame) (meth : Method) (c : Code) (A : Nat → Prop) (r3 h0 : Nat) (ls : Array Slot), CallFix p m c b n s args ev_TB y.cls → meth.sig.returnType = none → meth.name = y.name → meth.locks = false → va_K D vwCl (ev_ty ca) s → va_P D vwCl [(h0, e0)] s.heap → va_D A [(h0, e0)] → (∀ q, s.heap.size ≤ q → A q) → ct_X A r3 s s.heap → lv_has ls n [(0, .ref h0)] →
      W p l e rm s m args below meth c s.heap [] 0 0 (MQ below (va_Qv (po h0) (fun (u : S) (t : State) => va_P D vwCl (w1 h0 u) t.heap ∧ va_D A (w1 h0 u)) A) args s mc ms A) (F0 m 0 ls [])) : ct_M l D ca y b n rm e0 po w1 mc ms := by
  intro r3 h0 sz
  refine Met.ofW (cc := b) (maxL := n) (ret := none) hy rfl ?_
  intro p e s m args below meth c s₁ B hml hv
  obtain ⟨rfl, hsz, hP, hK, hD0, hX⟩ := hv
  have hx := B.exec
  have hb := B.bytes
  have hr := B.returns
  have hts0 := atoms_spec (ws := Cond.code y b n none :: ev_TB) B.pre
  have hown : s.vm.findClass y.cls = some m.cls := findClass_of_methodNamed B.named
  have hlocks := B.notSynchronized
  have hin : meth.name = y.name := (name_of_methodNamed B.named B.method).1
  subst hsz
  have hD := hD0.self (sz := s.heap.size)
  have hl := lv_entry ([.ref h0]) (n := n) hn
  rw [lg_entry_eq]
  exact body p e s m _ below meth c (va_A [(h0, e0)] s.heap.size) r3 h0 _ ⟨hx, hb, hml, hown, fun w hw => hts0 w (List.mem_cons_of_mem _ hw)⟩ hr hin hlocks hK hP hD (fun q h => Or.inr h) hX hl
theorem ct_end {S : Type} {p : Program} {l : Launch} {e : Env} {R : Room} {s : State} {m : MethodId} {args : Array Value} {below : List Frame} {meth : Method} {c : Code} {H : Heap} {locs : List Loc} {cells slots : Nat} {cc : ByteArray} {pc nL : Nat} {ls : Array Slot} {D : va_G} {A : Nat → Prop} {own : String} {post : S → Prop} {w1 : S → va_W} {mc ms : Nat}
    (S0 : CallFix p m c cc nL s args ev_TB own) (hr : meth.sig.returnType = none) (hlocks : meth.locks = false) (u : S) (hu : post u) (hP : va_P D vwCl (w1 u) H) (hD : va_D A (w1 u)) (hS : va_S A s.heap H locs) (h1 : cells ≤ mc) (h2 : slots ≤ ms) (d0 : decode cc pc = .ok (.return_, 1)) : W p l e R s m args below meth c H locs cells slots (MQ below (va_Qv post (fun (u : S) (t : State) => va_P D vwCl (w1 u) t.heap ∧ va_D A (w1 u)) A) args s mc ms A) (F0 m pc ls []) :=
  W.widen h1 h2 (W.vret S0.1 S0.2.1 hr (fun t ht _ => ⟨⟨u, rfl, hu, by rw [ht]; exact hP, hD⟩, hS.F ht⟩) hS.2.2 d0 hlocks)

