/-! calls, ends, and the soundness of the pure steps -/
def ev_A (base : Nat) : Nat → Prop := fun q => base ≤ q
def ev_WD (base : Nat) (D : va_G) (ca : Nat → ClassId) (ad : Nat → Nat) (μ : ev_M) (U : State) : Prop := va_P D vwCl (ev_wl ca ad μ) U.heap ∧ va_K D vwCl (ev_ty ca) U ∧ va_D (ev_A base) (ev_wl ca ad μ) ∧ ev_ST (ev_A base) ad U U.heap ∧ base ≤ U.heap.size
def ev_Qn (base : Nat) (D : va_G) (ca : Nat → ClassId) (ad : Nat → Nat) (rv : Option Value) (μ2 : ev_M) : Array Value → State → Outcome → State → Prop := fun _ st o t => o = .returned rv ∧ va_P D vwCl (ev_wl ca ad μ2) t.heap ∧ va_F (ev_A base) st t
def ev_ws (y : Nat) : List Cond := ev_cw y :: ev_TB
def ev_rm (d : Nat) : Room := { frames := d + 2, cells := 0, slots := 0, locals := 42 * d + 88 }
def ev_K1 (l : Launch) (base : Nat) (D : va_G) (ca : Nat → ClassId) (ad : Nat → Nat) (d y : Nat) (as : List Value) (μ : ev_M) (v : Option Value) (μ2 : ev_M) : Prop := Met l (ev_yn y) (ev_ws y) (ev_rm d) (va_Pc (as.map (ev_cv ad)) (ev_WD base D ca ad μ)) (ev_Qn base D ca ad (v.map (ev_cv ad)) μ2) 0 0 (ev_A base)
theorem ev_blind {base : Nat} {D : va_G} {ca : Nat → ClassId} {ad : Nat → Nat} {μ : ev_M} {av : List Value} : FrameBlind (va_Pc av (ev_WD base D ca ad μ)) := by
  intro a U g mk h
  obtain ⟨h1, h2, h3, h4, h5, h6⟩ := h
  exact ⟨h1, h2, va_K.moved (u := U) (U := U.calling g mk a) (Vm.Alike.refl U.vm) h3, h4, h5.kept (State.WarmedH.refl U) (fun _ _ _ => rfl), h6⟩
theorem ev_good_TB : ∀ w ∈ ev_TB, (w.onTables && w.keeps) = true ∨ ∃ ty, w = .arrayClass ty := fun w h => good_of_word (List.mem_filter.mp h).2
theorem ev_cw_good (y : Nat) : goodWord (ev_cw y) = true := by
  unfold ev_cw
  by_cases h : (ev_yh y).isEmpty = true
  · rw [if_pos h]; rfl
  · rw [if_neg h]; rfl
theorem ev_goodIn {y : Nat} (hy : y < 180) {pre : List Cond} (h : ∀ w ∈ pre, w ∈ ev_TB) : GoodIn ev_TB (pre ++ ev_ws y) := by
  intro w hw
  rcases List.mem_append.mp hw with q | q
  · exact ⟨h w q, ev_good_TB w (h w q)⟩
  · rcases List.mem_cons.mp q with rfl | q
    · have := ev_TBm (ev_code_t hy) (ev_cw_good y)
      exact ⟨this, ev_good_TB _ this⟩
    · exact ⟨q, ev_good_TB w q⟩
theorem ev_mr_s {oc i y : Nat} (h : ev_mr oc i = some y) (hk : ev_kd y = 0 ∨ ev_kd y = 1) : y < 180 ∧ (Cond.methodLink (ev_cn oc) i (ev_yn y)) ∈ ev_TB ∧ (ev_kd y = 0 → (Cond.instanceMethod (ev_yn y)) ∈ ev_TB ∧ (Cond.selects (ev_yn y).cls (ev_yn y) (ev_yn y)) ∈ ev_TB) ∧ (ev_kd y = 1 → (Cond.static (ev_yn y)) ∈ ev_TB) ∧ (Cond.initialized (ev_yn y).cls) ∈ ev_TB := by
  unfold ev_mr at h
  cases hq : ev_mrT.lookup (oc, i) with
  | some q =>
    rw [hq] at h
    cases h
    obtain ⟨h1, h2, h3, h4, h5⟩ := ev_mr_t _ (ev_lk hq)
    refine ⟨h1, ev_TBi h2 rfl, fun hk => ⟨ev_TBi (h3 hk).1 rfl, ?_⟩, fun hk => ev_TBi (h4 hk) rfl, ev_TBi h5 rfl⟩
    rw [(ev_yo_t _ h1).1]
    exact ev_TBi (h3 hk).2 rfl
  | none =>
    rw [hq] at h
    have h9 : ∀ q ∈ ev_mqT, ev_kd q.2 = 9 := by decide +kernel
    have := h9 _ (ev_lk h)
    dsimp only at this
    omega
theorem ev_yh0 : ∀ y, y < 180 → ev_yh y = [] := by decide +kernel
theorem ev_rm_of {d y : Nat} (hy : y < 180) {R : Room} (h : d + 3 ≤ R.frames ∧ 42 * d + 130 ≤ R.locals) : (ev_rm d).frames + 1 ≤ R.frames ∧ 8 + (ev_yL y + 11) + (ev_rm d).locals ≤ R.locals := by
  have := (ev_yo_t y hy).2.2.2.2.2.1
  refine ⟨?_, ?_⟩
  · show d + 2 + 1 ≤ _; omega
  · show 8 + (ev_yL y + 11) + (42 * d + 88) ≤ _; omega
section EvC
variable {p : Program} {l : Launch} {e : Env} {R : Room} {s : State} {m : MethodId} {args : Array Value} {below : List Frame} {meth : Method} {c : Code} {H : Heap} {locs : List Loc} {cells slots mc ms : Nat} {Q : State → Prop}
variable {cc : ByteArray} {pc : Nat} {ls : Array Slot} {rest st0 : List Value} {D : va_G} {ca : Nat → ClassId} {ad : Nat → Nat} {μ μ2 : ev_M} {base : Nat} {oc : Nat} {a9 : Array Value}
theorem ev_after {rv : Option Value} (hr : va_Run p l e R s m args below meth c H locs cells slots mc ms (F0 m pc ls st0) rest (ev_Qn base D ca ad rv μ2 a9) (ev_A base)) (hS : va_S (ev_A base) s.heap H locs)
    (kk : ∀ (H1 : Heap) (locs1 : List Loc), va_P D vwCl (ev_wl ca ad μ2) H1 → va_S (ev_A base) s.heap H1 locs1 → W p l e R s m args below meth c H1 locs1 (cells + mc) (slots + ms) Q (F0 m (pc + 3) ls (rv.toList ++ rest))) : W p l e R s m args below meth c H locs cells slots Q (F0 m pc ls st0) := by
  intro T hT X
  obtain ⟨v, st₀, t, T', L, h0, X', hL, e1, e2, ⟨hv, hP, hF⟩, st⟩ := hr T hT X
  cases hv
  obtain ⟨k1, k2, k3⟩ := vx_keep h0 e1 hS (fun _ _ h => h) (fun _ h => h) hL hF
  rw [e1] at k3
  obtain ⟨t2, a1, b1⟩ := kk t.heap (locs ++ L) hP k3 T' e1 X'
  exact ⟨t2, st t2 a1, b1⟩
theorem ev_pre {as : List Value} (hK : va_K D vwCl (ev_ty ca) s) (hP : va_P D vwCl (ev_wl ca ad μ) H) (hD : va_D (ev_A base) (ev_wl ca ad μ)) (hST : ev_ST (ev_A base) ad s s.heap) (hS : va_S (ev_A base) s.heap H locs) (hb : base ≤ s.heap.size) : ∀ U : State, U.heap = H → s.WarmedH U.vm → va_Pc (as.map (ev_cv ad)) (ev_WD base D ca ad μ) (as.map (ev_cv ad)).toArray U := by
  intro U hU hW
  refine ⟨rfl, by rw [hU]; exact hP, va_K.moved hW.alike hK, hD, ?_, by rw [hU]; exact Nat.le_trans hb hS.1⟩
  exact hST.kept hW (fun a h1 h2 => by rw [hU]; exact hS.2.1 a h1 h2)
end EvC
/-- what the method's end owes -/
def ev_Fin (p : Program) (l : Launch) (e : Env) (R : Room) (s : State) (m : MethodId) (args : Array Value) (below : List Frame) (meth : Method) (c : Code) (base : Nat) (D : va_G) (ca : Nat → ClassId) (ad : Nat → Nat) (oc : Nat) (cc : ByteArray) (rt : Option FieldType) (c0 s0 : Nat) (rf : ev_R) (μf : ev_M) (Q : State → Prop) : Prop :=
  (∀ (pc : Nat) (ls : Array Slot) (H : Heap) (locs : List Loc) (x : Int32) (ty : FieldType), decode cc pc = .ok (.ireturn, 1) → rt = some ty → narrow ty (.int x) = .int x → rf = (some (.int x), 0) → va_P D vwCl (ev_wl ca ad μf) H → va_S (ev_A base) s.heap H locs → W p l e R s m args below meth c H locs c0 s0 Q (F0 m pc ls [.int x])) ∧
  (∀ (pc : Nat) (ls : Array Slot) (H : Heap) (locs : List Loc) (x : Int64), decode cc pc = .ok (.lreturn, 1) → rt = some .long → rf = (some (.long x), 0) → va_P D vwCl (ev_wl ca ad μf) H → va_S (ev_A base) s.heap H locs → W p l e R s m args below meth c H locs c0 s0 Q (F0 m pc ls [.long x])) ∧
  (∀ (pc : Nat) (ls : Array Slot) (H : Heap) (locs : List Loc) (x : UInt64), decode cc pc = .ok (.dreturn, 1) → rt = some .double → rf = (some (.double x), 0) → va_P D vwCl (ev_wl ca ad μf) H → va_S (ev_A base) s.heap H locs → W p l e R s m args below meth c H locs c0 s0 Q (F0 m pc ls [.double x])) ∧
  (∀ (pc : Nat) (ls : Array Slot) (H : Heap) (locs : List Loc), decode cc pc = .ok (.return_, 1) → rt = none → rf = (none, 0) → va_P D vwCl (ev_wl ca ad μf) H → va_S (ev_A base) s.heap H locs → W p l e R s m args below meth c H locs c0 s0 Q (F0 m pc ls []))
def ev_mP (p : Program) (l : Launch) (e : Env) (R : Room) (s : State) (m : MethodId) (args : Array Value) (below : List Frame) (meth : Method) (c : Code) (base : Nat) (D : va_G) (ca : Nat → ClassId) (ad : Nat → Nat) (nL c0 s0 : Nat) (Q : State → Prop) : Nat → List Value → List Value → ev_M → Nat → Prop :=
  fun pc L st μ _ => ∀ (H : Heap) (locs : List Loc) (ls : Array Slot), va_P D vwCl (ev_wl ca ad μ) H → va_S (ev_A base) s.heap H locs → ev_lc ad nL ls L → W p l e R s m args below meth c H locs c0 s0 Q (F0 m pc ls (st.map (ev_cv ad)))
def ev_IH (l : Launch) (base : Nat) (D : va_G) (ca : Nat → ClassId) (ad : Nat → Nat) (d : Nat) (call : Nat → List Value → ev_M → ev_R → ev_M → Prop) : Prop := ∀ (y : Nat) (as : List Value) (μ : ev_M) (v : Option Value) (μ2 : ev_M), call y as μ (v, 0) μ2 → y < 180 → ev_K1 l base D ca ad d y as μ v μ2
/-- the script at its place, for the law's method that reads it -/
def ev_WX (base : Nat) (D : va_G) (ca : Nat → ClassId) (ad : Nat → Nat) (μ : ev_M) (n : Nat) (xs : Nat → Int32) (U : State) : Prop := ev_WD base D ca ad μ U ∧ va_X (ad 200) n xs U U.heap ∧ ad 200 < U.heap.size ∧ ¬ (ev_A base) (ad 200)
def ev_KC (l : Launch) (base : Nat) (D : va_G) (ca : Nat → ClassId) (ad : Nat → Nat) (d : Nat) (ex : ev_X) : Prop := ∀ (j : Nat) (μ : ev_M), j < 2 ^ 30 → Met l (ev_yn 172) (ev_ws 172) (ev_rm d) (va_Pc [.ref (ad 200), .int (nI j)] (ev_WX base D ca ad μ (ex.1 - 1) ex.2.1)) (ev_Qn base D ca ad (some (.int (ev_sc ex j))) μ) 0 0 (ev_A base)
theorem ev_blindX {base : Nat} {D : va_G} {ca : Nat → ClassId} {ad : Nat → Nat} {μ : ev_M} {av : List Value} {n : Nat} {xs : Nat → Int32} : FrameBlind (va_Pc av (ev_WX base D ca ad μ n xs)) := by
  intro a U g mk h
  obtain ⟨h1, ⟨h2, h3, h4, h5, h6⟩, ⟨scr, x1, x2, x3⟩, h8, h9⟩ := h
  exact ⟨h1, ⟨h2, va_K.moved (u := U) (U := U.calling g mk a) (Vm.Alike.refl U.vm) h3, h4, h5.kept (State.WarmedH.refl U) (fun _ _ _ => rfl), h6⟩, ⟨scr, x1, x2, x3⟩, h8, h9⟩
theorem ev_mapapp {ad : Nat → Nat} {as st : List Value} : (as.reverse ++ st).map (ev_cv ad) = (as.map (ev_cv ad)).reverse ++ st.map (ev_cv ad) := by rw [List.map_append, List.map_reverse]
theorem ev_mapopt {ad : Nat → Nat} {v : Option Value} {st : List Value} : (v.toList ++ st).map (ev_cv ad) = (v.map (ev_cv ad)).toList ++ st.map (ev_cv ad) := by cases v <;> rfl

set_option maxHeartbeats 4000000 in
set_option maxRecDepth 100000 in
theorem ev_sound {p : Program} {l : Launch} {e : Env} {R : Room} {s : State} {m : MethodId} {args : Array Value} {below : List Frame} {meth : Method} {c : Code} {base : Nat} {D : va_G} {ca : Nat → ClassId} {ad : Nat → Nat} {am nL c0 s0 d : Nat} {Q : State → Prop} {call : Nat → List Value → ev_M → ev_R → ev_M → Prop} {oc : Nat} {cc : ByteArray} {rt : Option FieldType} {ex : ev_X} {v9 : Option Value} {μf : ev_M}
    (hx : p.tables.exec = Jvm.exec) (hb : c.code = cc) (hml : c.maxLocals = nL) (hown : s.vm.findClass (ev_cn oc) = some m.cls) (hts : ∀ w ∈ ev_TB, w.before args s = true) (hK : va_K D vwCl (ev_ty ca) s) (hDa : ∀ μ : ev_M, va_D (ev_A base) (ev_wl ca ad μ)) (hbs : base ≤ s.heap.size) (hST : ev_ST (ev_A base) ad s s.heap)
    (hRm : d + 3 ≤ R.frames ∧ 42 * d + 130 ≤ R.locals) (hcap : c0 ≤ R.cells ∧ s0 ≤ R.slots) (hXs : 0 < ex.1 → va_X (ad 200) (ex.1 - 1) ex.2.1 s s.heap ∧ ad 200 < s.heap.size ∧ ¬ (ev_A base) (ad 200) ∧ ex.1 < 2 ^ 30) (hCell : ex.2.2 ≠ [] → 0 < ex.1 ∧ ev_KC l base D ca ad d ex)
    (IH : ev_IH l base D ca ad d call) (hFin : ev_Fin p l e R s m args below meth c base D ca ad oc cc rt c0 s0 (v9, 0) μf Q) :
    ev_Cl call oc cc rt am ex (v9, 0) μf (ev_mP p l e R s m args below meth c base D ca ad nL c0 s0 Q) := by
  have hRm0 : 3 ≤ R.frames ∧ 88 ≤ R.locals := ⟨by omega, by omega⟩
  refine ⟨?_, ?_, ?_, ?_, ?_, ?_, ?_, ?_, ?_, ?_, ?_, ?_, ?_, ?_, ?_, ?_, ?_, ?_, ?_, ?_, ?_, ?_, ?_, ?_, ?_, ?_, ?_, ?_, ?_, ?_, ?_, ?_, ?_, ?_, ?_, ?_, ?_, ?_, ?_, ?_, ?_, ?_, ?_, ?_, ?_, ?_, ?_, ?_, ?_, ?_, ?_, ?_, ?_, ?_, ?_, ?_, ?_, ?_, ?_, ?_, ?_, ?_, ?_, ?_, ?_, ?_, ?_, ?_, ?_, ?_, ?_, ?_, ?_, ?_, ?_, ?_, ?_, ?_, ?_, ?_, ?_, ?_, ?_, ?_, ?_, ?_, ?_, ?_, ?_, ?_, ?_, ?_, ?_, ?_, ?_, ?_⟩
  · unfold ev_c_iconst ev_mP
    intro pc L st μ a n hd  k H locs ls hP hS hl
    exact lv_iconst hx hb hd rfl (k H locs ls hP hS hl)
  · unfold ev_c_bipush ev_mP
    intro pc L st μ a n hd  k H locs ls hP hS hl
    exact lv_bipush hx hb hd rfl (k H locs ls hP hS hl)
  · unfold ev_c_sipush ev_mP
    intro pc L st μ a n hd  k H locs ls hP hS hl
    exact lv_sipush hx hb hd rfl (k H locs ls hP hS hl)
  · unfold ev_c_lconst ev_mP
    intro pc L st μ a n hd  k H locs ls hP hS hl
    exact lv_lconst hx hb hd rfl (k H locs ls hP hS hl)
  · unfold ev_c_dconst0 ev_mP
    intro pc L st μ a  hd  k H locs ls hP hS hl
    exact lv_dconst0 hx hb hd (k H locs ls hP hS hl)
  · unfold ev_c_dconst1 ev_mP
    intro pc L st μ a  hd  k H locs ls hP hS hl
    exact lv_dconst1 hx hb hd (k H locs ls hP hS hl)
  · unfold ev_c_ldc ev_mP
    intro pc L st μ a i v hd h1 k H locs ls hP hS hl
    exact lv_ldc hx hb hown (hts _ (ev_ci_ok h1)) hd (k H locs ls hP hS hl)
  · unfold ev_c_ldcw ev_mP
    intro pc L st μ a i v hd h1 k H locs ls hP hS hl
    exact lv_ldcw hx hb hown (hts _ (ev_ci_ok h1)) hd (k H locs ls hP hS hl)
  · unfold ev_c_ldc2 ev_mP
    intro pc L st μ a i v hd h1 k H locs ls hP hS hl
    exact lv_ldc2 hx hb hown (hts _ (ev_cl_ok h1)) hd (k H locs ls hP hS hl)
  · unfold ev_c_ldc2d ev_mP
    intro pc L st μ a i v hd h1 k H locs ls hP hS hl
    exact lv_ldc2d hx hb hown (hts _ (ev_cd_ok h1)) hd (k H locs ls hP hS hl)
  · unfold ev_c_iload_n ev_mP
    intro pc L st μ a k x hd h1 kk H locs ls hP hS hl
    exact lv_iload_n hx hb hd rfl (ev_lc_at hl h1 rfl) (kk H locs ls hP hS hl)
  · unfold ev_c_iload ev_mP
    intro pc L st μ a k x hd h1 kk H locs ls hP hS hl
    exact lv_iload hx hb hd (ev_lc_at hl h1 rfl) (kk H locs ls hP hS hl)
  · unfold ev_c_lload_n ev_mP
    intro pc L st μ a k x hd h1 kk H locs ls hP hS hl
    exact lv_lload_n hx hb hd rfl (ev_lc_at hl h1 rfl) (kk H locs ls hP hS hl)
  · unfold ev_c_lload ev_mP
    intro pc L st μ a k x hd h1 kk H locs ls hP hS hl
    exact lv_lload hx hb hd (ev_lc_at hl h1 rfl) (kk H locs ls hP hS hl)
  · unfold ev_c_dload_n ev_mP
    intro pc L st μ a k x hd h1 kk H locs ls hP hS hl
    exact lv_dload_n hx hb hd rfl (ev_lc_at hl h1 rfl) (kk H locs ls hP hS hl)
  · unfold ev_c_dload ev_mP
    intro pc L st μ a k x hd h1 kk H locs ls hP hS hl
    exact lv_dload hx hb hd (ev_lc_at hl h1 rfl) (kk H locs ls hP hS hl)
  · unfold ev_c_aload_n ev_mP
    intro pc L st μ a k x hd h1 kk H locs ls hP hS hl
    exact lv_aload_n hx hb hd rfl (ev_lc_at hl h1 rfl) (kk H locs ls hP hS hl)
  · unfold ev_c_aload ev_mP
    intro pc L st μ a k x hd h1 kk H locs ls hP hS hl
    exact lv_aload hx hb hd (ev_lc_at hl h1 rfl) (kk H locs ls hP hS hl)
  · unfold ev_c_istore_n ev_mP
    intro pc L st μ a k x hd h1 kk H locs ls hP hS hl
    exact lv_istore_n hx hb hd rfl hl.2.1 (ev_lc_lt hl h1) rfl (fun ls2 hl2 => kk H locs ls2 hP hS (ev_lc_st1 hl h1 rfl hl2))
  · unfold ev_c_istore ev_mP
    intro pc L st μ a k x hd h1 kk H locs ls hP hS hl
    exact lv_istore hx hb hd hl.2.1 (ev_lc_lt hl h1) rfl (fun ls2 hl2 => kk H locs ls2 hP hS (ev_lc_st1 hl h1 rfl hl2))
  · unfold ev_c_astore_n ev_mP
    intro pc L st μ a k x hd h1 kk H locs ls hP hS hl
    exact lv_astore_n hx hb hd rfl hl.2.1 (ev_lc_lt hl h1) rfl (fun ls2 hl2 => kk H locs ls2 hP hS (ev_lc_st1 hl h1 rfl hl2))
  · unfold ev_c_astore ev_mP
    intro pc L st μ a k x hd h1 kk H locs ls hP hS hl
    exact lv_astore hx hb hd hl.2.1 (ev_lc_lt hl h1) rfl (fun ls2 hl2 => kk H locs ls2 hP hS (ev_lc_st1 hl h1 rfl hl2))
  · unfold ev_c_lstore_n ev_mP
    intro pc L st μ a k x hd h1 kk H locs ls hP hS hl
    exact lv_lstore_n hx hb hd rfl hl.2.1 (ev_lc_lt2 hl h1) rfl (fun ls2 hl2 => kk H locs ls2 hP hS (ev_lc_st2 hl h1 rfl hl2))
  · unfold ev_c_lstore ev_mP
    intro pc L st μ a k x hd h1 kk H locs ls hP hS hl
    exact lv_lstore hx hb hd hl.2.1 (ev_lc_lt2 hl h1) rfl (fun ls2 hl2 => kk H locs ls2 hP hS (ev_lc_st2 hl h1 rfl hl2))
  · unfold ev_c_dstore_n ev_mP
    intro pc L st μ a k x hd h1 kk H locs ls hP hS hl
    exact lv_dstore_n hx hb hd rfl hl.2.1 (ev_lc_lt2 hl h1) rfl (fun ls2 hl2 => kk H locs ls2 hP hS (ev_lc_st2 hl h1 rfl hl2))
  · unfold ev_c_dstore ev_mP
    intro pc L st μ a k x hd h1 kk H locs ls hP hS hl
    exact lv_dstore hx hb hd hl.2.1 (ev_lc_lt2 hl h1) rfl (fun ls2 hl2 => kk H locs ls2 hP hS (ev_lc_st2 hl h1 rfl hl2))
  · unfold ev_c_iinc ev_mP
    intro pc L st μ a k0 n x hd h1 h2 k H locs ls hP hS hl
    obtain ⟨q, hq⟩ := List.getElem?_of_mem (ev_lv_mem.mpr ⟨k0, .int x, (Nat.zero_add k0).symm, h1, rfl, rfl⟩ : (k0, Value.int x) ∈ ev_lv ad 0 L)
    exact lv_iinc hx hb hd hl.2.1 hq rfl (ev_lc_lt hl h2) rfl (fun ls2 hl2 => k H locs ls2 hP hS (ev_lc_st1 hl h2 rfl hl2))
  · unfold ev_c_iadd ev_mP
    intro pc L st μ a x y hd  k H locs ls hP hS hl
    exact lv_iadd hx hb hd (k H locs ls hP hS hl)
  · unfold ev_c_isub ev_mP
    intro pc L st μ a x y hd  k H locs ls hP hS hl
    exact lv_isub hx hb hd (k H locs ls hP hS hl)
  · unfold ev_c_imul ev_mP
    intro pc L st μ a x y hd  k H locs ls hP hS hl
    exact lv_imul hx hb hd (k H locs ls hP hS hl)
  · unfold ev_c_iand ev_mP
    intro pc L st μ a x y hd  k H locs ls hP hS hl
    exact lv_iand hx hb hd (k H locs ls hP hS hl)
  · unfold ev_c_ior ev_mP
    intro pc L st μ a x y hd  k H locs ls hP hS hl
    exact lv_ior hx hb hd (k H locs ls hP hS hl)
  · unfold ev_c_ishl ev_mP
    intro pc L st μ a x y hd  k H locs ls hP hS hl
    exact lv_ishl hx hb hd (k H locs ls hP hS hl)
  · unfold ev_c_ishr ev_mP
    intro pc L st μ a x y hd  k H locs ls hP hS hl
    exact lv_ishr hx hb hd (k H locs ls hP hS hl)
  · unfold ev_c_iushr ev_mP
    intro pc L st μ a x y hd  k H locs ls hP hS hl
    exact lv_iushr hx hb hd rfl (k H locs ls hP hS hl)
  · unfold ev_c_idiv ev_mP
    intro pc L st μ a x y hd h1 k H locs ls hP hS hl
    exact lv_idiv hx hb hd h1 (k H locs ls hP hS hl)
  · unfold ev_c_irem ev_mP
    intro pc L st μ a x y hd h1 k H locs ls hP hS hl
    exact lv_irem hx hb hd h1 (k H locs ls hP hS hl)
  · unfold ev_c_ineg ev_mP
    intro pc L st μ a x hd  k H locs ls hP hS hl
    exact lv_ineg hx hb hd (k H locs ls hP hS hl)
  · unfold ev_c_ladd ev_mP
    intro pc L st μ a x y hd  k H locs ls hP hS hl
    exact lv_ladd hx hb hd (k H locs ls hP hS hl)
  · unfold ev_c_lsub ev_mP
    intro pc L st μ a x y hd  k H locs ls hP hS hl
    exact lv_lsub hx hb hd (k H locs ls hP hS hl)
  · unfold ev_c_lmul ev_mP
    intro pc L st μ a x y hd  k H locs ls hP hS hl
    exact lv_lmul hx hb hd (k H locs ls hP hS hl)
  · unfold ev_c_lshl ev_mP
    intro pc L st μ a x y hd  k H locs ls hP hS hl
    exact lv_lshl hx hb hd rfl (k H locs ls hP hS hl)
  · unfold ev_c_lcmp ev_mP
    intro pc L st μ a x y hd  k H locs ls hP hS hl
    exact W.lcmp hx hb hd (k H locs ls hP hS hl)
  · unfold ev_c_i2l ev_mP
    intro pc L st μ a x hd  k H locs ls hP hS hl
    exact lv_i2l hx hb hd rfl (k H locs ls hP hS hl)
  · unfold ev_c_i2d ev_mP
    intro pc L st μ a x hd  k H locs ls hP hS hl
    exact lv_i2d hx hb hd (k H locs ls hP hS hl)
  · unfold ev_c_d2l ev_mP
    intro pc L st μ a x hd  k H locs ls hP hS hl
    exact lv_d2l hx hb hd (k H locs ls hP hS hl)
  · unfold ev_c_dmul ev_mP
    intro pc L st μ a x y hd h1 k H locs ls hP hS hl
    exact lv_dmul hx hb hd h1 (k H locs ls hP hS hl)
  · unfold ev_c_dsub ev_mP
    intro pc L st μ a x y hd h1 k H locs ls hP hS hl
    exact lv_dsub hx hb hd h1 (k H locs ls hP hS hl)
  · unfold ev_c_ddiv ev_mP
    intro pc L st μ a x y hd h1 k H locs ls hP hS hl
    exact lv_ddiv hx hb hd h1 (k H locs ls hP hS hl)
  · unfold ev_c_dcmp ev_mP
    intro pc L st μ a x y op hd  k H locs ls hP hS hl
    exact lv_dcmp hx hb hd (k H locs ls hP hS hl)
  · unfold ev_c_dup ev_mP
    intro pc L st μ a v hd h1 k H locs ls hP hS hl
    exact lv_dup hx hb hd ((ev_cvc _).trans h1) (k H locs ls hP hS hl)
  · unfold ev_c_dup2 ev_mP
    intro pc L st μ a v w hd h1 h2 k H locs ls hP hS hl
    exact lv_dup2_11 hx hb hd ((ev_cvc _).trans h1) ((ev_cvc _).trans h2) (k H locs ls hP hS hl)
  · unfold ev_c_pop ev_mP
    intro pc L st μ a v hd h1 k H locs ls hP hS hl
    exact lv_pop hx hb hd ((ev_cvc _).trans h1) (k H locs ls hP hS hl)
  · unfold ev_c_getI ev_mP
    intro pc L st μ a i k0 ci k hd h1 h2 kk H locs ls hP hS hl
    exact ev_mgetI hx hb hts hown hK hP h1 h2 hd (kk H locs ls hP hS hl)
  · unfold ev_c_getR ev_mP
    intro pc L st μ a i k0 ci k r hd h1 h2 kk H locs ls hP hS hl
    exact ev_mgetR hx hb hts hown hK hP h1 h2 hd (kk H locs ls hP hS hl)
  · unfold ev_c_putI ev_mP
    intro pc L st μ a i k0 ci k x hd h1 h2 kk H locs ls hP hS hl
    exact ev_mputI hx hb hts hown hK hP (hDa μ) hS h1 h2 hd (fun H1 l1 hP1 hS1 => kk H1 l1 ls hP1 hS1 hl)
  · unfold ev_c_gets ev_mP
    intro pc L st μ a i r hd h1 k H locs ls hP hS hl
    exact ev_mgets hx hb hts hown hST hS h1 hd (k H locs ls hP hS hl)
  · unfold ev_c_iald ev_mP
    intro pc L st μ a k0 n i rs hd h1 h2 k H locs ls hP hS hl
    exact ev_miald hx hb hK hP h1 h2 hd (k H locs ls hP hS hl)
  · unfold ev_c_zald ev_mP
    intro pc L st μ a k0 n i rs hd h1 h2 k H locs ls hP hS hl
    exact ev_mzald hx hb hK hP h1 h2 hd (k H locs ls hP hS hl)
  · unfold ev_c_aald ev_mP
    intro pc L st μ a k0 n i r rs hd h1 h2 h3 k H locs ls hP hS hl
    exact ev_maald hx hb hK hP h1 h2 h3 hd (k H locs ls hP hS hl)
  · unfold ev_c_aaldq ev_mP
    intro pc L st μ a k0 n i r rs hd h1 h2 h3 k H locs ls hP hS hl
    exact ev_maaldq hx hb hK hP h1 h2 h3 hd (k H locs ls hP hS hl)
  · unfold ev_c_iast ev_mP
    intro pc L st μ a k0 n i rs x hd h1 h2 k H locs ls hP hS hl
    exact ev_miast hx hb hK hP (hDa μ) hS h1 h2 hd (fun H1 l1 hP1 hS1 => k H1 l1 ls hP1 hS1 hl)
  · unfold ev_c_zast ev_mP
    intro pc L st μ a k0 n i rs x hd h1 h2 h3 k H locs ls hP hS hl
    exact ev_mzast hx hb hK hP (hDa μ) hS h1 h2 h3 hd (fun H1 l1 hP1 hS1 => k H1 l1 ls hP1 hS1 hl)
  · unfold ev_c_sald ev_mP
    intro pc L st μ a i hd h1 k H locs ls hP hS hl
    exact ev_msald hx hb hXs hS h1 hd (k H locs ls hP hS hl)
  · unfold ev_c_slen ev_mP
    intro pc L st μ a  hd h1 k H locs ls hP hS hl
    exact ev_mslen hx hb hXs hS h1 hd (k H locs ls hP hS hl)
  · unfold ev_c_tald ev_mP
    intro pc L st μ a r i v hd h1 k H locs ls hP hS hl
    exact ev_mtald hx hb hST hS h1 hd (k H locs ls hP hS hl)
  · unfold ev_c_copy ev_mP
    intro pc L st μ a i k0 k1 n0 n1 n r0 r1 hd h1 h2 h3 h4 h5 h6 k H locs ls hP hS hl
    exact ev_mcopy hx hb hml hl.1 hts hown hK hP (hDa μ) hS hRm0 h1 h2 h3 h4 h5 h6 hd (fun H1 l1 hP1 hS1 => k H1 l1 ls hP1 hS1 hl)
  · unfold ev_c_mmax ev_mP
    intro pc L st μ a i x y hd h1 h2 k H locs ls hP hS hl
    exact ev_mmmax hx hb hml hl.1 hts hown hRm0 hcap.1 hcap.2 h1 h2 hd (k H locs ls hP hS hl)
  · unfold ev_c_mmin ev_mP
    intro pc L st μ a i x y hd h1 h2 k H locs ls hP hS hl
    exact ev_mmmin hx hb hml hl.1 hts hown hRm0 hcap.1 hcap.2 h1 h2 hd (k H locs ls hP hS hl)
  · unfold ev_c_mabs ev_mP
    intro pc L st μ a i x hd h1 h2 k H locs ls hP hS hl
    exact ev_mmabs hx hb hml hl.1 hts hown hRm0 hcap.1 hcap.2 h1 h2 hd (k H locs ls hP hS hl)
  · unfold ev_c_icmp_eq ev_mP
    intro pc L st μ a x y off tgt hd h1 kt kf H locs ls hP hS hl
    exact lv_icmp_eq hx hb hd h1 (fun c => kt c H locs ls hP hS hl) (fun c => kf c H locs ls hP hS hl)
  · unfold ev_c_icmp_ne ev_mP
    intro pc L st μ a x y off tgt hd h1 kt kf H locs ls hP hS hl
    exact lv_icmp_ne hx hb hd h1 (fun c => kt c H locs ls hP hS hl) (fun c => kf c H locs ls hP hS hl)
  · unfold ev_c_icmp_lt ev_mP
    intro pc L st μ a x y off tgt hd h1 kt kf H locs ls hP hS hl
    exact lv_icmp_lt hx hb hd h1 (fun c => kt c H locs ls hP hS hl) (fun c => kf c H locs ls hP hS hl)
  · unfold ev_c_icmp_ge ev_mP
    intro pc L st μ a x y off tgt hd h1 kt kf H locs ls hP hS hl
    exact lv_icmp_ge hx hb hd h1 (fun c => kt c H locs ls hP hS hl) (fun c => kf c H locs ls hP hS hl)
  · unfold ev_c_icmp_gt ev_mP
    intro pc L st μ a x y off tgt hd h1 kt kf H locs ls hP hS hl
    exact lv_icmp_gt hx hb hd h1 (fun c => kt c H locs ls hP hS hl) (fun c => kf c H locs ls hP hS hl)
  · unfold ev_c_icmp_le ev_mP
    intro pc L st μ a x y off tgt hd h1 kt kf H locs ls hP hS hl
    exact lv_icmp_le hx hb hd h1 (fun c => kt c H locs ls hP hS hl) (fun c => kf c H locs ls hP hS hl)
  · unfold ev_c_if_eq ev_mP
    intro pc L st μ a x off tgt hd h1 kt kf H locs ls hP hS hl
    exact lv_if_eq hx hb hd h1 (fun c => kt c H locs ls hP hS hl) (fun c => kf c H locs ls hP hS hl)
  · unfold ev_c_if_ne ev_mP
    intro pc L st μ a x off tgt hd h1 kt kf H locs ls hP hS hl
    exact lv_if_ne hx hb hd h1 (fun c => kt c H locs ls hP hS hl) (fun c => kf c H locs ls hP hS hl)
  · unfold ev_c_if_lt ev_mP
    intro pc L st μ a x off tgt hd h1 kt kf H locs ls hP hS hl
    exact lv_if_lt hx hb hd h1 (fun c => kt c H locs ls hP hS hl) (fun c => kf c H locs ls hP hS hl)
  · unfold ev_c_if_ge ev_mP
    intro pc L st μ a x off tgt hd h1 kt kf H locs ls hP hS hl
    exact lv_if_ge hx hb hd h1 (fun c => kt c H locs ls hP hS hl) (fun c => kf c H locs ls hP hS hl)
  · unfold ev_c_if_gt ev_mP
    intro pc L st μ a x off tgt hd h1 kt kf H locs ls hP hS hl
    exact lv_if_gt hx hb hd h1 (fun c => kt c H locs ls hP hS hl) (fun c => kf c H locs ls hP hS hl)
  · unfold ev_c_if_le ev_mP
    intro pc L st μ a x off tgt hd h1 kt kf H locs ls hP hS hl
    exact lv_if_le hx hb hd h1 (fun c => kt c H locs ls hP hS hl) (fun c => kf c H locs ls hP hS hl)
  · unfold ev_c_goto ev_mP
    intro pc L st μ a off tgt hd h1 k H locs ls hP hS hl
    exact lv_goto hx hb hd h1 (k H locs ls hP hS hl)
  · unfold ev_c_tabin ev_mP
    intro pc L st μ a x dflt lo hi off offs len tgt hd h1 h2 h3 h4 k H locs ls hP hS hl
    exact lv_tableIn hx hb hd h1 h2 h3 h4 (k H locs ls hP hS hl)
  · unfold ev_c_tabout ev_mP
    intro pc L st μ a x dflt lo hi offs len tgt hd h1 h2 k H locs ls hP hS hl
    exact lv_tableOut hx hb hd h1 h2 (k H locs ls hP hS hl)
  · unfold ev_c_look ev_mP
    intro pc L st μ a x dflt off ps len tgt hd h1 h2 h3 k H locs ls hP hS hl
    exact lv_lookup hx hb hd h1 h2 h3 (k H locs ls hP hS hl)
  · unfold ev_c_forget ev_mP
    intro pc L L2 st μ a h1 k H locs ls hP hS hl
    exact k H locs ls hP hS (ev_lc_wk hl h1)
  · unfold ev_c_callv ev_mP
    intro pc L st μ μ2 a i y r as v hd h1 h2 h3 h4 h5 h6 h8 k H locs ls hP hS hl
    obtain ⟨hy, w1, w2, -, w4⟩ := ev_mr_s h1 (Or.inl h2)
    obtain ⟨w2, w3⟩ := w2 h2
    obtain ⟨o1, o2, o3, o4, o5, o6, o7⟩ := ev_yo_t y hy
    have i1 := IH y _ μ _ μ2 h6 hy
    have hlr : ev_lay r = (0, ev_yo y, (ev_lay r).2.2) := by rw [← h4, ← h5]
    have hr : ev_in r := ev_lay_lt hlr (by decide)
    have hci : ev_yo y < 6 := by
      have h9 : ∀ y, y < 180 → ev_kd y = 0 → ev_yo y < 6 := by decide +kernel
      exact h9 y hy h2
    have hcw : ev_ws y = Cond.code (ev_yn y) (ev_yb y) (ev_yL y) (ev_yr y) :: ev_TB := by unfold ev_ws ev_cw; rw [ev_yh0 y hy]; rfl
    have hpre : PreV s H (ev_yn y).cls (ad r) (va_Pc ((.ref r :: as).map (ev_cv ad)) (ev_WD base D ca ad μ)) (as.map (ev_cv ad)) := by
      refine ⟨ev_blind, ?_, ev_pre (as := .ref r :: as) hK hP (hDa μ) hST hS hbs⟩
      rw [o1]
      exact va_recv hK hP (ev_cl7 hci) (by rw [ev_wl_get hr, ev_en0 hlr])
    have hcall : CallW R s args (ev_cn oc) (ev_yn y).cls i (ev_yn y) (ev_yb y) (ev_yL y) (ev_yr y) (ev_ws y) (ev_rm d) 0 0 (ev_np y) :=
      cwV (ev_np y) hts (ev_goodIn hy (pre := [.methodLink (ev_cn oc) i (ev_yn y), .instanceMethod (ev_yn y), .selects (ev_yn y).cls (ev_yn y) (ev_yn y), .initialized (ev_yn y).cls]) (fun w hw => by
        simp only [List.mem_cons, List.not_mem_nil, or_false] at hw
        rcases hw with rfl | rfl | rfl | rfl <;> assumption)) hcw rfl rfl ⟨rfl, o2, o3, o4⟩ (ev_rm_of hy hRm)
    have hstk : (as.reverse ++ Value.ref r :: st).map (ev_cv ad) = (as.map (ev_cv ad)).reverse ++ .ref (ad r) :: st.map (ev_cv ad) := ev_mapapp
    rw [hstk]
    have hk9 : ∀ (H1 : Heap) (locs1 : List Loc), va_P D vwCl (ev_wl ca ad μ2) H1 → va_S (ev_A base) s.heap H1 locs1 → W p l e R s m args below meth c H1 locs1 (c0 + 0) (s0 + 0) Q (F0 m (pc + 3) ls ((v.map (ev_cv ad)).toList ++ st.map (ev_cv ad))) := fun H1 locs1 hP1 hS1 => by
      have := k H1 locs1 ls hP1 hS1 hl
      rw [ev_mapopt] at this
      exact this
    exact ev_after (va_runV ⟨hx, hb, hml, hown, hts⟩ i1 hcall hpre rfl (by rw [List.length_map]; exact h3) hl.1 rfl (lv_room (ev_rs8 h8)) hd hcap) hS hk9
  · unfold ev_c_calls ev_mP
    intro pc L st μ μ2 a i y as v hd h1 h2 h3 h6 h8 k H locs ls hP hS hl
    obtain ⟨hy, w1, -, w2, w4⟩ := ev_mr_s h1 (Or.inr h2)
    have w2 := w2 h2
    obtain ⟨o1, o2, o3, o4, o5, o6, o7⟩ := ev_yo_t y hy
    have i1 := IH y _ μ _ μ2 h6 hy
    have hpre : PreS s H (va_Pc (as.map (ev_cv ad)) (ev_WD base D ca ad μ)) (as.map (ev_cv ad)) := ⟨ev_blind, ev_pre hK hP (hDa μ) hST hS hbs⟩
    have hG : GoodIn ev_TB (va_wsS (ev_cn oc) i (ev_yn y) (ev_ws y)) := ev_goodIn hy (pre := [.methodLink (ev_cn oc) i (ev_yn y), .static (ev_yn y), .initialized (ev_yn y).cls]) (fun w hw => by
        simp only [List.mem_cons, List.not_mem_nil, or_false] at hw
        rcases hw with rfl | rfl | rfl <;> assumption)
    rw [ev_mapapp]
    have hk9 : ∀ (H1 : Heap) (locs1 : List Loc), va_P D vwCl (ev_wl ca ad μ2) H1 → va_S (ev_A base) s.heap H1 locs1 → W p l e R s m args below meth c H1 locs1 (c0 + 0) (s0 + 0) Q (F0 m (pc + 3) ls ((v.map (ev_cv ad)).toList ++ st.map (ev_cv ad))) := fun H1 locs1 hP1 hS1 => by
      have := k H1 locs1 ls hP1 hS1 hl
      rw [ev_mapopt] at this
      exact this
    have hcw : ev_ws y = Cond.code (ev_yn y) (ev_yb y) (ev_yL y) (ev_yr y) :: ev_TB := by unfold ev_ws ev_cw; rw [ev_yh0 y hy]; rfl
    exact ev_after (va_runS ⟨hx, hb, hml, hown, hts⟩ i1 (va_cwS (ev_np y) hts hG hcw rfl rfl ⟨o2, o3, o4⟩ (ev_rm_of hy hRm)) hpre rfl (by rw [List.length_map]; exact h3) hl.1 rfl (lv_room (ev_rs8 h8)) hd hcap) hS hk9
  · unfold ev_c_cellc ev_mP
    intro pc L st μ a i j hd h1 hne hj h8 k H locs ls hP hS hl
    obtain ⟨hx0, hC⟩ := hCell hne
    obtain ⟨xs1, xs2, xs3, xs4⟩ := hXs hx0
    have hy : 172 < 180 := by decide
    obtain ⟨-, w1, -, w2, w4⟩ := ev_mr_s h1 (Or.inr (by decide +kernel))
    have w2 := w2 (by decide +kernel)
    obtain ⟨o1, o2, o3, o4, o5, o6, o7⟩ := ev_yo_t 172 hy
    have i1 := hC j μ hj
    have hpre : PreS s H (va_Pc [.ref (ad 200), .int (nI j)] (ev_WX base D ca ad μ (ex.1 - 1) ex.2.1)) [.ref (ad 200), .int (nI j)] := ⟨ev_blindX, fun U hU hW => by
      refine ⟨rfl, (ev_pre (as := []) hK hP (hDa μ) hST hS hbs U hU hW).2, ?_, by rw [hU]; exact Nat.lt_of_lt_of_le xs2 hS.1, xs3⟩
      obtain ⟨scr, y1, y2, y3⟩ := xs1
      exact ⟨scr, by rw [hU, hS.2.1 _ xs2 xs3]; exact y1, State.isArrayOf_alike hW.alike y2, y3⟩⟩
    have hG : GoodIn ev_TB (va_wsS (ev_cn oc) i (ev_yn 172) (ev_ws 172)) := ev_goodIn hy (pre := [.methodLink (ev_cn oc) i (ev_yn 172), .static (ev_yn 172), .initialized (ev_yn 172).cls]) (fun w hw => by
        simp only [List.mem_cons, List.not_mem_nil, or_false] at hw
        rcases hw with rfl | rfl | rfl <;> assumption)
    have hcw : ev_ws 172 = Cond.code (ev_yn 172) (ev_yb 172) (ev_yL 172) (ev_yr 172) :: ev_TB := by unfold ev_ws ev_cw; rw [ev_yh0 172 hy]; rfl
    exact ev_after (rest := st.map (ev_cv ad)) (va_runS ⟨hx, hb, hml, hown, hts⟩ i1 (va_cwS (ev_np 172) hts hG hcw rfl rfl ⟨o2, o3, o4⟩ (ev_rm_of hy hRm)) hpre rfl rfl hl.1 rfl (lv_room (ev_rs8 h8)) hd hcap) hS (fun H1 locs1 hP1 hS1 => k H1 locs1 ls hP1 hS1 hl)
  · unfold ev_c_ireturn ev_mP
    intro pc L μ a x ty hd h1 h2 h3 hμ h4 H locs ls hP hS hl
    subst hμ
    exact hFin.1 pc ls H locs x ty hd h1 h2 h3 hP hS
  · unfold ev_c_lreturn ev_mP
    intro pc L μ a x hd h1 h3 hμ h4 H locs ls hP hS hl
    subst hμ
    exact hFin.2.1 pc ls H locs x hd h1 h3 hP hS
  · unfold ev_c_dreturn ev_mP
    intro pc L μ a x hd h1 h3 hμ h4 H locs ls hP hS hl
    subst hμ
    exact hFin.2.2.1 pc ls H locs x hd h1 h3 hP hS
  · unfold ev_c_vreturn ev_mP
    intro pc L μ a hd h1 h3 hμ h4 H locs ls hP hS hl
    subst hμ
    exact hFin.2.2.2 pc ls H locs hd h1 h3 hP hS
  · unfold ev_c_throw ev_mP
    intro pc L μ a ik is ic E h1 h2 h3 h4 h5 h6 h8 hμ H locs ls hP hS hl
    cases h8
  · unfold ev_c_throww ev_mP
    intro pc L μ a ik is ic E h1 h2 h3 h4 h5 h6 h8 hμ H locs ls hP hS hl
    cases h8
