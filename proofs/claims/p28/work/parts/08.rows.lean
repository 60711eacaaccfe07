/-! the kit's rows over the world -/
def ev_ST (A : Nat → Prop) (ad : Nat → Nat) (s : State) (H : Heap) : Prop :=
  (va_Z RX5 "SETTING_LEAST" "[I" (.ref (ad 201)) A s H ∧ va_T .int (ad 201) 4 (fun j => .int (([1, 0, 0, 0] : List Int32).getD j 0)) A s H) ∧
  (va_Z RX5 "SETTING_MOST" "[I" (.ref (ad 202)) A s H ∧ va_T .int (ad 202) 4 (fun j => .int (([20, 9, 20, 9] : List Int32).getD j 0)) A s H) ∧ True
theorem ev_ST.kept {A : Nat → Prop} {ad : Nat → Nat} {s U : State} {H H1 : Heap} (h : ev_ST A ad s H) (hW : s.WarmedH U.vm) (hq : ∀ a : Nat, a < H.size → ¬ A a → H1[a]? = H[a]?) : ev_ST A ad U H1 := by
  obtain ⟨⟨a1, a2⟩, ⟨b1, b2⟩, -⟩ := h
  exact ⟨⟨(a1.moved hW.alike).kept hq, (a2.moved hW.alike).kept hq⟩, ⟨(b1.moved hW.alike).kept hq, (b2.moved hW.alike).kept hq⟩, trivial⟩
theorem ev_clamp {i n : Nat} (h : i < n) (hn : n ≤ 400) : (nI i).toNatClampNeg = i := nI_clamp (by omega)
section EvM
variable {p : Program} {l : Launch} {e : Env} {R : Room} {s : State} {m : MethodId} {args : Array Value} {below : List Frame} {meth : Method} {c : Code} {H : Heap} {locs : List Loc} {cells slots : Nat} {Q : State → Prop}
variable {cc : ByteArray} {pc : Nat} {ls : Array Slot} {rest : List Value} {D : va_G} {ca : Nat → ClassId} {ad : Nat → Nat} {μ : ev_M} {A : Nat → Prop} {oc : Nat}
theorem ev_mgetI (hx : p.tables.exec = Jvm.exec) (hb : c.code = cc) (hts : ∀ w ∈ ev_TB, w.before args s = true) (hown : s.vm.findClass (ev_cn oc) = some m.cls) (hK : va_K D vwCl (ev_ty ca) s) (hP : va_P D vwCl (ev_wl ca ad μ) H) {i k0 ci k : Nat} (h1 : ev_fr oc i = some (ci, k)) (h2 : ev_fld k0 ci k = some none) (hd : decode cc pc = .ok (.getfield i, 3))
    (kk : W p l e R s m args below meth c H locs cells slots Q (F0 m (pc + 3) ls (.int (μ k0 k) :: rest))) : W p l e R s m args below meth c H locs cells slots Q (F0 m pc ls (.ref (ad k0) :: rest)) := by
  obtain ⟨hw, hci, hk⟩ := ev_fr_w h1
  obtain ⟨hl, fs, hlay, hf⟩ := ev_fld_s h2
  have hf2 := ev_fl_int (ad := ad) (f := μ k0) (i := 0) hf
  rw [Nat.zero_add] at hf2
  exact va_get (ref := (ev_T ci k).1) (own := ev_cn oc) (C := ev_cn ci) (T := ev_T ci) (N := ev_tN ci) (ci := ci) hx hb hts (ev_laysB hci) hown hK hP (ev_pl k0) (by rw [ev_wl_get hl, ev_en0 hlay]) (ev_cl7 hci) k hk (hts _ hw) (fun _ h => h) hf2 hd kk
theorem ev_mgetR (hx : p.tables.exec = Jvm.exec) (hb : c.code = cc) (hts : ∀ w ∈ ev_TB, w.before args s = true) (hown : s.vm.findClass (ev_cn oc) = some m.cls) (hK : va_K D vwCl (ev_ty ca) s) (hP : va_P D vwCl (ev_wl ca ad μ) H) {i k0 ci k r : Nat} (h1 : ev_fr oc i = some (ci, k)) (h2 : ev_fld k0 ci k = some (some r)) (hd : decode cc pc = .ok (.getfield i, 3))
    (kk : W p l e R s m args below meth c H locs cells slots Q (F0 m (pc + 3) ls (.ref (ad r) :: rest))) : W p l e R s m args below meth c H locs cells slots Q (F0 m pc ls (.ref (ad k0) :: rest)) := by
  obtain ⟨hw, hci, hk⟩ := ev_fr_w h1
  obtain ⟨hl, fs, hlay, hf⟩ := ev_fld_s h2
  exact va_get (ref := (ev_T ci k).1) (own := ev_cn oc) (C := ev_cn ci) (T := ev_T ci) (N := ev_tN ci) (ci := ci) hx hb hts (ev_laysB hci) hown hK hP (ev_pl k0) (by rw [ev_wl_get hl, ev_en0 hlay]) (ev_cl7 hci) k hk (hts _ hw) (fun _ h => h) (ev_fl_ref (ad := ad) (f := μ k0) (i := 0) hf) hd kk
theorem ev_ms_ne {k i q : Nat} {x : Int32} (h : q ≠ k) : ev_ms μ k i x q = μ q := by unfold ev_ms; rw [if_neg h]
theorem ev_ms_eq {k i : Nat} {x : Int32} : ev_ms μ k i x k = upd (μ k) i x := by unfold ev_ms; rw [if_pos rfl]
theorem ev_mputI (hx : p.tables.exec = Jvm.exec) (hb : c.code = cc) (hts : ∀ w ∈ ev_TB, w.before args s = true) (hown : s.vm.findClass (ev_cn oc) = some m.cls) (hK : va_K D vwCl (ev_ty ca) s) (hP : va_P D vwCl (ev_wl ca ad μ) H) (hD : va_D A (ev_wl ca ad μ)) (hS : va_S A s.heap H locs) {i k0 ci k : Nat} {x : Int32} (h1 : ev_fr oc i = some (ci, k)) (h2 : ev_fld k0 ci k = some none) (hd : decode cc pc = .ok (.putfield i, 3))
    (kk : ∀ (H1 : Heap) (locs1 : List Loc), va_P D vwCl (ev_wl ca ad (ev_ms μ k0 k x)) H1 → va_S A s.heap H1 locs1 → W p l e R s m args below meth c H1 locs1 cells slots Q (F0 m (pc + 3) ls rest)) : W p l e R s m args below meth c H locs cells slots Q (F0 m pc ls (.int x :: .ref (ad k0) :: rest)) := by
  obtain ⟨hw, hci, hk⟩ := ev_fr_w h1
  obtain ⟨hl, fs, hlay, hf⟩ := ev_fld_s h2
  obtain ⟨hint, hfin⟩ := ev_int hlay hf
  have hset : (ev_fl ad (μ k0) 0 fs).set k (.int x) = ev_fl ad (upd (μ k0) k x) 0 fs := by
    have := ev_fl_set (ad := ad) (f := μ k0) (x := x) (i := 0) hf
    rwa [Nat.zero_add] at this
  refine va_put (ref := (ev_T ci k).1) (own := ev_cn oc) (C := ev_cn ci) (T := ev_T ci) (N := ev_tN ci) (ci := ci) hx hb hts (ev_laysB hci) (ev_ty0 ci) (ev_ty_ok hci) (ev_nm_ok hci) hown hK hP hD hS (ev_pl k0) (by rw [ev_wl_get hl, ev_en0 hlay]) (ev_cl7 hci) k hk (hts _ hw) (fun _ h => h) hfin hint rfl rfl (by rw [ev_fl_len]; exact (List.getElem?_eq_some_iff.mp hf).1) hd (fun H1 locs1 hP1 _ hS1 => kk H1 locs1 ?_ hS1)
  rw [hset, ev_wl_set (μ2 := ev_ms μ k0 k x) hl (by rw [ev_en0 hlay, ev_ms_eq]) (fun q hq => ev_ms_ne hq)] at hP1
  exact hP1
theorem ev_mgets (hx : p.tables.exec = Jvm.exec) (hb : c.code = cc) (hts : ∀ w ∈ ev_TB, w.before args s = true) (hown : s.vm.findClass (ev_cn oc) = some m.cls) (hST : ev_ST A ad s s.heap) (hS : va_S A s.heap H locs) {i r : Nat} (h1 : ev_sr oc i = some r) (hd : decode cc pc = .ok (.getstatic i, 3))
    (kk : W p l e R s m args below meth c H locs cells slots Q (F0 m (pc + 3) ls (.ref (ad r) :: rest))) : W p l e R s m args below meth c H locs cells slots Q (F0 m pc ls rest) := by
  unfold ev_sr at h1
  cases hq : ev_srT.lookup (oc, i) with
  | none => rw [hq] at h1; cases h1
  | some q =>
    rw [hq] at h1
    obtain ⟨a, b⟩ := q
    cases h1
    obtain ⟨g1, g2, g3⟩ := ev_sr_t _ (ev_lk hq)
    dsimp only at g1 g2 g3
    subst g2
    rcases g3 with rfl | rfl
    · exact va_gets (own := RX5) (ref := RX5) hx hb hST.1.1 hS hown (hts _ (ev_TBi g1 rfl)) (fun _ h => h) hd kk
    · exact va_gets (own := RX5) (ref := RX5) hx hb hST.2.1.1 hS hown (hts _ (ev_TBi g1 rfl)) (fun _ h => h) hd kk
theorem ev_miald (hx : p.tables.exec = Jvm.exec) (hb : c.code = cc) (hK : va_K D vwCl (ev_ty ca) s) (hP : va_P D vwCl (ev_wl ca ad μ) H) {k0 n i : Nat} {rs : List (Option Nat)} (h1 : ev_lay k0 = (1, n, rs)) (h2 : i < n) (hd : decode cc pc = .ok (.iaload, 1))
    (kk : W p l e R s m args below meth c H locs cells slots Q (F0 m (pc + 1) ls (.int (μ k0 i) :: rest))) : W p l e R s m args below meth c H locs cells slots Q (F0 m pc ls (.int (nI i) :: .ref (ad k0) :: rest)) := by
  have hn := ev_lay_n h1 (by decide)
  refine va_iald hx hb hK hP (ev_pl k0) 0 (by rw [ev_wl_get (ev_lay_lt h1 (by decide)), ev_en1 h1]) rfl (vp_in_nI h2 (by omega)) hd ?_
  rw [ev_clamp h2 hn]
  exact kk
theorem ev_mzald (hx : p.tables.exec = Jvm.exec) (hb : c.code = cc) (hK : va_K D vwCl (ev_ty ca) s) (hP : va_P D vwCl (ev_wl ca ad μ) H) {k0 n i : Nat} {rs : List (Option Nat)} (h1 : ev_lay k0 = (2, n, rs)) (h2 : i < n) (hd : decode cc pc = .ok (.baload, 1))
    (kk : W p l e R s m args below meth c H locs cells slots Q (F0 m (pc + 1) ls (.int (μ k0 i) :: rest))) : W p l e R s m args below meth c H locs cells slots Q (F0 m pc ls (.int (nI i) :: .ref (ad k0) :: rest)) := by
  have hn := ev_lay_n h1 (by decide)
  refine va_zald hx hb hK hP (ev_pl k0) 1 (by rw [ev_wl_get (ev_lay_lt h1 (by decide)), ev_en2 h1]) rfl (vp_in_nI h2 (by omega)) hd ?_
  rw [ev_clamp h2 hn]
  exact kk
theorem ev_maald (hx : p.tables.exec = Jvm.exec) (hb : c.code = cc) (hK : va_K D vwCl (ev_ty ca) s) (hP : va_P D vwCl (ev_wl ca ad μ) H) {k0 n i r : Nat} {rs : List (Option Nat)} (h1 : ev_lay k0 = (3, n, rs)) (h2 : i < n) (h3 : rs.getD i none = some r) (hd : decode cc pc = .ok (.aaload, 1))
    (kk : W p l e R s m args below meth c H locs cells slots Q (F0 m (pc + 1) ls (.ref (ad r) :: rest))) : W p l e R s m args below meth c H locs cells slots Q (F0 m pc ls (.int (nI i) :: .ref (ad k0) :: rest)) := by
  have hn := ev_lay_n h1 (by decide)
  refine va_aldq hx hb hK hP (ev_pl k0) 2 (by rw [ev_wl_get (ev_lay_lt h1 (by decide)), ev_en3 h1]) rfl (vp_in_nI h2 (by omega)) hd ?_
  rw [ev_clamp h2 hn]
  unfold ev_re
  rw [h3]
  exact kk
theorem ev_maaldq (hx : p.tables.exec = Jvm.exec) (hb : c.code = cc) (hK : va_K D vwCl (ev_ty ca) s) (hP : va_P D vwCl (ev_wl ca ad μ) H) {k0 n i r : Nat} {rs : List (Option Nat)} (h1 : ev_lay k0 = (5, n, rs)) (h2 : i < n) (h3 : rs.getD i none = some r) (hd : decode cc pc = .ok (.aaload, 1))
    (kk : W p l e R s m args below meth c H locs cells slots Q (F0 m (pc + 1) ls (.ref (ad r) :: rest))) : W p l e R s m args below meth c H locs cells slots Q (F0 m pc ls (.int (nI i) :: .ref (ad k0) :: rest)) := by
  have hn := ev_lay_n h1 (by decide)
  have ha : (ev_wl ca ad μ)[ev_pl k0]? = some (ad k0, .inl (ca 4, n, .inr (.inr (.inr (.inr (ev_re ad rs)))))) := by rw [ev_wl_get (ev_lay_lt h1 (by decide)), ev_en5 h1]
  have hlt : (nI i).toNatClampNeg < n := by rw [ev_clamp h2 hn]; exact h2
  have h31 : n < 2 ^ 31 := by omega
  have hvi : vp_in (nI i) n := vp_in_nI h2 h31
  refine W.aald (v := va_rf (ev_re ad rs (nI i).toNatClampNeg)) (ty := .array .int) hx hb (hP (ev_pl k0) _ ha) ((hK.2 4 _ rfl).1 n (fun j => va_rf (ev_re ad rs j))) rfl (fun q => by cases q) (by show ¬ (nI i < 0 ∨ (arrV _ _ _).slots.size ≤ _); rw [arrV_size]; exact hvi) (arrV_read _ _ hlt) rfl rfl hd ?_
  rw [ev_clamp h2 hn]
  unfold ev_re
  rw [h3]
  exact kk
theorem ev_miast (hx : p.tables.exec = Jvm.exec) (hb : c.code = cc) (hK : va_K D vwCl (ev_ty ca) s) (hP : va_P D vwCl (ev_wl ca ad μ) H) (hD : va_D A (ev_wl ca ad μ)) (hS : va_S A s.heap H locs) {k0 n i : Nat} {rs : List (Option Nat)} {x : Int32} (h1 : ev_lay k0 = (1, n, rs)) (h2 : i < n) (hd : decode cc pc = .ok (.iastore, 1))
    (kk : ∀ (H1 : Heap) (locs1 : List Loc), va_P D vwCl (ev_wl ca ad (ev_ms μ k0 i x)) H1 → va_S A s.heap H1 locs1 → W p l e R s m args below meth c H1 locs1 cells slots Q (F0 m (pc + 1) ls rest)) : W p l e R s m args below meth c H locs cells slots Q (F0 m pc ls (.int x :: .int (nI i) :: .ref (ad k0) :: rest)) := by
  have hn := ev_lay_n h1 (by decide)
  refine va_iast hx hb hK hP hD hS (ev_pl k0) 0 (by rw [ev_wl_get (ev_lay_lt h1 (by decide)), ev_en1 h1]) rfl (vp_in_nI h2 (by omega)) hd (fun H1 locs1 hP1 _ hS1 => kk H1 locs1 ?_ hS1)
  rw [ev_clamp h2 hn, ev_wl_set (μ2 := ev_ms μ k0 i x) (ev_lay_lt h1 (by decide)) (by rw [ev_en1 h1, ev_ms_eq]) (fun q hq => ev_ms_ne hq)] at hP1
  exact hP1
theorem ev_mzast (hx : p.tables.exec = Jvm.exec) (hb : c.code = cc) (hK : va_K D vwCl (ev_ty ca) s) (hP : va_P D vwCl (ev_wl ca ad μ) H) (hD : va_D A (ev_wl ca ad μ)) (hS : va_S A s.heap H locs) {k0 n i : Nat} {rs : List (Option Nat)} {x : Int32} (h1 : ev_lay k0 = (2, n, rs)) (h2 : i < n) (h3 : vp_nar .boolean x = x) (hd : decode cc pc = .ok (.bastore, 1))
    (kk : ∀ (H1 : Heap) (locs1 : List Loc), va_P D vwCl (ev_wl ca ad (ev_ms μ k0 i x)) H1 → va_S A s.heap H1 locs1 → W p l e R s m args below meth c H1 locs1 cells slots Q (F0 m (pc + 1) ls rest)) : W p l e R s m args below meth c H locs cells slots Q (F0 m pc ls (.int x :: .int (nI i) :: .ref (ad k0) :: rest)) := by
  have hn := ev_lay_n h1 (by decide)
  refine va_zast hx hb hK hP hD hS (ev_pl k0) 1 (by rw [ev_wl_get (ev_lay_lt h1 (by decide)), ev_en2 h1]) rfl (vp_in_nI h2 (by omega)) hd (fun H1 locs1 hP1 _ hS1 => kk H1 locs1 ?_ hS1)
  rw [ev_clamp h2 hn, h3, ev_wl_set (μ2 := ev_ms μ k0 i x) (ev_lay_lt h1 (by decide)) (by rw [ev_en2 h1, ev_ms_eq]) (fun q hq => ev_ms_ne hq)] at hP1
  exact hP1
theorem ev_msald (hx : p.tables.exec = Jvm.exec) (hb : c.code = cc) {ex : ev_X} (hXs : 0 < ex.1 → va_X (ad 200) (ex.1 - 1) ex.2.1 s s.heap ∧ ad 200 < s.heap.size ∧ ¬ A (ad 200) ∧ ex.1 < 2 ^ 30) (hS : va_S A s.heap H locs) {i : Nat} (h1 : i + 1 < ex.1) (hd : decode cc pc = .ok (.iaload, 1))
    (kk : W p l e R s m args below meth c H locs cells slots Q (F0 m (pc + 1) ls (.int (ex.2.1 i) :: rest))) : W p l e R s m args below meth c H locs cells slots Q (F0 m pc ls (.int (nI i) :: .ref (ad 200) :: rest)) := by
  obtain ⟨h2, h3, h4, h5⟩ := hXs (by omega)
  refine va_sld hx hb h2 h3 h4 hS (vp_in_nI (by omega) (by omega)) hd ?_
  rw [nI_clamp (by omega)]
  exact kk
theorem ev_mslen (hx : p.tables.exec = Jvm.exec) (hb : c.code = cc) {ex : ev_X} (hXs : 0 < ex.1 → va_X (ad 200) (ex.1 - 1) ex.2.1 s s.heap ∧ ad 200 < s.heap.size ∧ ¬ A (ad 200) ∧ ex.1 < 2 ^ 30) (hS : va_S A s.heap H locs) (h1 : 0 < ex.1) (hd : decode cc pc = .ok (.arraylength, 1))
    (kk : W p l e R s m args below meth c H locs cells slots Q (F0 m (pc + 1) ls (.int (nI (ex.1 - 1)) :: rest))) : W p l e R s m args below meth c H locs cells slots Q (F0 m pc ls (.ref (ad 200) :: rest)) := by
  obtain ⟨h2, h3, h4, h5⟩ := hXs h1
  exact va_slen hx hb h2 h3 h4 hS hd kk
theorem ev_mtald (hx : p.tables.exec = Jvm.exec) (hb : c.code = cc) (hST : ev_ST A ad s s.heap) (hS : va_S A s.heap H locs) {r i : Nat} {v : Int32} (h1 : ev_st r i = some v) (hd : decode cc pc = .ok (.iaload, 1))
    (kk : W p l e R s m args below meth c H locs cells slots Q (F0 m (pc + 1) ls (.int v :: rest))) : W p l e R s m args below meth c H locs cells slots Q (F0 m pc ls (.int (nI i) :: .ref (ad r) :: rest)) := by
  unfold ev_st at h1
  by_cases e1 : r = 201
  · subst e1
    rw [if_pos rfl] at h1
    have hi : i < 4 := (List.getElem?_eq_some_iff.mp h1).1
    refine va_ti hx hb hST.1.2 hS (vp_in_nI hi (by decide)) (v := .int v) ?_ hd kk
    rw [nI_clamp (by omega)]
    show Value.int _ = _
    rw [List.getD_eq_getElem?_getD, h1]; rfl
  · rw [if_neg e1] at h1
    by_cases e2 : r = 202
    · subst e2
      rw [if_pos rfl] at h1
      have hi : i < 4 := (List.getElem?_eq_some_iff.mp h1).1
      refine va_ti hx hb hST.2.1.2 hS (vp_in_nI hi (by decide)) (v := .int v) ?_ hd kk
      rw [nI_clamp (by omega)]
      show Value.int _ = _
      rw [List.getD_eq_getElem?_getD, h1]; rfl
    · rw [if_neg e2] at h1; cases h1
theorem ev_rs8 {L : List Value} (h : (L.map Value.category).sum ≤ 8) : ((L.map (ev_cv ad)).map fun v => v.category).sum ≤ 8 := by
  rw [List.map_map]
  have : (fun v : Value => v.category) ∘ ev_cv ad = Value.category := funext fun v => ev_cvc v
  rw [this]
  exact h
theorem ev_mcopy (hx : p.tables.exec = Jvm.exec) (hb : c.code = cc) {nL : Nat} (hml : c.maxLocals = nL) (hl : ls.size = nL) (hts : ∀ w ∈ ev_TB, w.before args s = true) (hown : s.vm.findClass (ev_cn oc) = some m.cls) (hK : va_K D vwCl (ev_ty ca) s) (hP : va_P D vwCl (ev_wl ca ad μ) H) (hD : va_D A (ev_wl ca ad μ)) (hS : va_S A s.heap H locs) (hRm : 3 ≤ R.frames ∧ 88 ≤ R.locals) {i k0 k1 n0 n1 n : Nat} {r0 r1 : List (Option Nat)} {st : List Value} (h1 : ev_cpr oc i = true) (h2 : ev_lay k0 = (1, n0, r0)) (h3 : ev_lay k1 = (1, n1, r1)) (h4 : n ≤ n0) (h5 : n ≤ n1) (h6 : (st.map Value.category).sum ≤ 8) (hd : decode cc pc = .ok (.invokestatic i, 3))
    (kk : ∀ (H1 : Heap) (locs1 : List Loc), va_P D vwCl (ev_wl ca ad (ev_cp μ k0 k1 n)) H1 → va_S A s.heap H1 locs1 → W p l e R s m args below meth c H1 locs1 cells slots Q (F0 m (pc + 3) ls (st.map (ev_cv ad)))) : W p l e R s m args below meth c H locs cells slots Q (F0 m pc ls (.int (nI n) :: .int (nI 0) :: .ref (ad k1) :: .int (nI 0) :: .ref (ad k0) :: st.map (ev_cv ad))) := by
  have hn := ev_lay_n h2 (by decide)
  obtain ⟨q, hq⟩ := Option.isSome_iff_exists.mp (show (ev_cpT.lookup (oc, i)).isSome = true from h1)
  have g1 := ev_cp_t _ (ev_lk hq)
  have cn : (nI n).toNatClampNeg = n := nI_clamp (by omega)
  have c0 : (nI 0).toNatClampNeg = 0 := nI_clamp (by omega)
  have h8 := ev_rs8 (ad := ad) h6
  refine va_copyi hx hb (hml.trans hl.symm) hown (hts _ (ev_TBi g1 rfl)) (hts _ (ev_TBm (ev_ms_t (.native arraycopyName) (by simp)) rfl)) (hts _ (ev_TBm (ev_ms_t (.static arraycopyName) (by simp)) rfl)) (hts _ (ev_TBm (ev_ms_t (.initialized "java/lang/System") (by simp)) rfl)) hK hP hD hS (ev_pl k0) (ev_pl k1) 0 0
    (by rw [ev_wl_get (ev_lay_lt h2 (by decide)), ev_en1 h2]) (by rw [ev_wl_get (ev_lay_lt h3 (by decide)), ev_en1 h3]) rfl rfl rfl (nI_pos (by omega)) (nI_pos (by omega)) (nI_pos (by omega)) (by rw [cn, c0]; omega) (by rw [cn, c0]; omega) (fun _ _ => rfl) (by omega) (Nat.le_trans (Nat.add_le_add_right h8 _) (Nat.le_trans (by decide) hRm.2)) hd (fun H1 locs1 hP1 _ hS1 => kk H1 locs1 ?_ hS1)
  have hu : va_cpy (μ k0) (μ k1) 0 0 n = ev_cp μ k0 k1 n k1 := by
    funext j
    unfold va_cpy ev_cp
    rw [if_pos rfl]
    by_cases hj : j < n
    · rw [if_pos ⟨Nat.zero_le _, by omega⟩, if_pos hj]; simp
    · rw [if_neg (by omega), if_neg hj]
  rw [cn, c0, hu, ev_wl_set (μ2 := ev_cp μ k0 k1 n) (ev_lay_lt h3 (by decide)) (by rw [ev_en1 h3]) (fun q hq => by unfold ev_cp; rw [if_neg hq])] at hP1
  exact hP1
theorem ev_mq_w {i y : Nat} (h : ev_mr oc i = some y) (hy : 900 < y) : (Cond.methodLink (ev_cn oc) i (if y = 901 then Lib.Math.max.name else if y = 902 then Lib.Math.min.name else if y = 903 then Lib.Math.abs.name else ⟨"java/lang/Double", "doubleToRawLongBits", "(D)J"⟩)) ∈ ev_TB := by
  unfold ev_mr at h
  cases hq : ev_mrT.lookup (oc, i) with
  | some q =>
    rw [hq] at h
    cases h
    have := (ev_mr_t _ (ev_lk hq)).1
    dsimp only at this
    omega
  | none =>
    rw [hq] at h
    exact ev_TBm (ev_mq_t _ (ev_lk h)) rfl
theorem ev_mmmax (hx : p.tables.exec = Jvm.exec) (hb : c.code = cc) {nL : Nat} (hml : c.maxLocals = nL) (hl : ls.size = nL) (hts : ∀ w ∈ ev_TB, w.before args s = true) (hown : s.vm.findClass (ev_cn oc) = some m.cls) (hRm : 3 ≤ R.frames ∧ 88 ≤ R.locals) (hc : cells ≤ R.cells) (hs : slots ≤ R.slots) {i : Nat} {x y : Int32} {st : List Value} (h1 : ev_mr oc i = some 901) (h2 : (st.map Value.category).sum ≤ 8) (hd : decode cc pc = .ok (.invokestatic i, 3))
    (kk : W p l e R s m args below meth c H locs cells slots Q (F0 m (pc + 3) ls (.int (if x < y then y else x) :: st.map (ev_cv ad)))) : W p l e R s m args below meth c H locs cells slots Q (F0 m pc ls (.int y :: .int x :: st.map (ev_cv ad))) :=
  va_mmax hx hb (hml.trans hl.symm) hown (hts _ (ev_mq_w h1 (by decide))) (hts _ (ev_TBm (ev_ms_t (.static Lib.Math.max.name) (by simp)) rfl)) (hts _ (ev_TBm (ev_ms_t (.initialized "java/lang/Math") (by simp)) rfl)) (hts _ (ev_TBm (ev_ms_t (.code Lib.Math.max.name Lib.Math.max.code 2 (some .int)) (by simp)) rfl)) (by omega) (by have := ev_rs8 (ad := ad) h2; omega) hc hs hd kk
theorem ev_mmmin (hx : p.tables.exec = Jvm.exec) (hb : c.code = cc) {nL : Nat} (hml : c.maxLocals = nL) (hl : ls.size = nL) (hts : ∀ w ∈ ev_TB, w.before args s = true) (hown : s.vm.findClass (ev_cn oc) = some m.cls) (hRm : 3 ≤ R.frames ∧ 88 ≤ R.locals) (hc : cells ≤ R.cells) (hs : slots ≤ R.slots) {i : Nat} {x y : Int32} {st : List Value} (h1 : ev_mr oc i = some 902) (h2 : (st.map Value.category).sum ≤ 8) (hd : decode cc pc = .ok (.invokestatic i, 3))
    (kk : W p l e R s m args below meth c H locs cells slots Q (F0 m (pc + 3) ls (.int (if y < x then y else x) :: st.map (ev_cv ad)))) : W p l e R s m args below meth c H locs cells slots Q (F0 m pc ls (.int y :: .int x :: st.map (ev_cv ad))) :=
  va_mmin hx hb (hml.trans hl.symm) hown (hts _ (ev_mq_w h1 (by decide))) (hts _ (ev_TBm (ev_ms_t (.static Lib.Math.min.name) (by simp)) rfl)) (hts _ (ev_TBm (ev_ms_t (.initialized "java/lang/Math") (by simp)) rfl)) (hts _ (ev_TBm (ev_ms_t (.code Lib.Math.min.name Lib.Math.min.code 2 (some .int)) (by simp)) rfl)) (by omega) (by have := ev_rs8 (ad := ad) h2; omega) hc hs hd kk
theorem ev_mmabs (hx : p.tables.exec = Jvm.exec) (hb : c.code = cc) {nL : Nat} (hml : c.maxLocals = nL) (hl : ls.size = nL) (hts : ∀ w ∈ ev_TB, w.before args s = true) (hown : s.vm.findClass (ev_cn oc) = some m.cls) (hRm : 3 ≤ R.frames ∧ 88 ≤ R.locals) (hc : cells ≤ R.cells) (hs : slots ≤ R.slots) {i : Nat} {x : Int32} {st : List Value} (h1 : ev_mr oc i = some 903) (h2 : (st.map Value.category).sum ≤ 8) (hd : decode cc pc = .ok (.invokestatic i, 3))
    (kk : W p l e R s m args below meth c H locs cells slots Q (F0 m (pc + 3) ls (.int (if 0 ≤ x then x else 0 - x) :: st.map (ev_cv ad)))) : W p l e R s m args below meth c H locs cells slots Q (F0 m pc ls (.int x :: st.map (ev_cv ad))) :=
  va_mabs hx hb (hml.trans hl.symm) hown (hts _ (ev_mq_w h1 (by decide))) (hts _ (ev_TBm (ev_ms_t (.static Lib.Math.abs.name) (by simp)) rfl)) (hts _ (ev_TBm (ev_ms_t (.initialized "java/lang/Math") (by simp)) rfl)) (hts _ (ev_TBm (ev_ms_t (.code Lib.Math.abs.name Lib.Math.abs.code 1 (some .int)) (by simp)) rfl)) (by omega) (by have := ev_rs8 (ad := ad) h2; omega) hc hs hd kk
end EvM
theorem ev_ci_ok {oc i : Nat} {v : Int32} (h : ev_ci oc i = some v) : (Cond.constant (ev_cn oc) i v) ∈ ev_TB := by
  unfold ev_ci at h
  cases hq : ev_ciT.lookup (oc, i) with
  | none => rw [hq] at h; cases h
  | some q =>
    rw [hq] at h
    obtain ⟨a, b⟩ := q
    cases h
    exact ev_TBi (ev_ci_t _ (ev_lk hq)) rfl
theorem ev_cl_ok {oc i : Nat} {v : Int64} (h : ev_cl oc i = some v) : (Cond.constantLong (ev_cn oc) i v) ∈ ev_TB := by
  unfold ev_cl at h
  cases hq : ev_clT.lookup (oc, i) with
  | none => rw [hq] at h; cases h
  | some q =>
    rw [hq] at h
    obtain ⟨a, b⟩ := q
    cases h
    exact ev_TBi (ev_cl_t _ (ev_lk hq)) rfl
theorem ev_cd_ok {oc i : Nat} {v : UInt64} (h : ev_cd oc i = some v) : (Cond.constantDouble (ev_cn oc) i v) ∈ ev_TB := by
  unfold ev_cd at h
  cases hq : ev_cdT.lookup (oc, i) with
  | none => rw [hq] at h; cases h
  | some q =>
    rw [hq] at h
    obtain ⟨a, b⟩ := q
    cases h
    exact ev_TBi (ev_cd_t _ (ev_lk hq)) rfl
