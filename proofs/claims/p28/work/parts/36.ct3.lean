/-! HourglassTag() -/
set_option maxHeartbeats 4000000 in
set_option maxRecDepth 100000 in
/-- HourglassTag() -/
theorem ct_X5 (l : Launch) (D : va_G) (ca : Nat → ClassId) : ct_M l D ca yX5_init cX5_init 2 ({ frames := 5, cells := 132, slots := 954, locals := 120 }) (.inr (5, [.null, .null, .null, .null, .null, .null, .null])) (fun h0 w => w.1 0 0 = h0) (fun _ w => xW ca w) 132 954 := by
  refine ct_of (by decide +kernel) (by decide) ?_
  intro p e s m args below meth c A r3 h0 ls S0 hr hin hlocks hK hP hD hA hX hl
  have hx := S0.1
  have hb := S0.2.1
  have hS : va_S A s.heap s.heap [] := va_S.rf
  refine lv_aload_n hx hb dX5_init_0 rfl (lv_at hl 0 rfl) ?_
  refine ct_obj S0 hl.1 (ev_TBm (by decide +kernel) rfl) (Nat.le_of_ble_eq_true rfl) (Nat.le_of_ble_eq_true rfl) dX5_init_1 ?_
  refine lv_aload_n hx hb dX5_init_4 rfl (lv_at hl 0 rfl) ?_
  refine ct_newI (fs := [.null, .null, .null, .null, .null, .null, .null, .null, .null, .null, .int 0, .int 0, .int 0, .int 0, .int 0, .int 0, .int 0]) (ci := 0) (ct_X0 l D ca) S0 hl.1 hK hP hD hS hA hX (by decide) (fun j hj => by
      revert j; decide) rfl ⟨by decide +kernel, by decide +kernel, by decide +kernel⟩ (ev_TBm (by decide +kernel) rfl) (ev_TBm (by decide +kernel) rfl) (ev_TBm (by decide +kernel) rfl) (ev_TBm (by decide +kernel) rfl) (ev_TBm (by decide +kernel) rfl) (ev_TBm (by decide +kernel) rfl) (ev_TBm (by decide +kernel) rfl) ⟨rfl, rfl⟩ ⟨Nat.le_of_ble_eq_true rfl, Nat.le_of_ble_eq_true rfl⟩ ⟨Nat.le_of_ble_eq_true rfl, Nat.le_of_ble_eq_true rfl⟩ (Nat.le_of_ble_eq_true rfl) dX5_init_5 dX5_init_8 dX5_init_9 (fun q5 u5 H locs hpo hP hD hS => ?_)
  have hpo : u5 0 = q5 := hpo
  subst hpo
  have hP : va_P D vwCl ((h0, .inr (5, [.null, .null, .null, .null, .null, .null, .null])) :: ([] ++ gW ca u5)) H := hP
  have hD : va_D A ((h0, .inr (5, [.null, .null, .null, .null, .null, .null, .null])) :: ([] ++ gW ca u5)) := hD
  refine ct_put (ty := .object RX0) (v := .ref (u5 0)) S0 hin hK hP hD hS (by decide) (k := 0) (by decide) (by exact (ev_fr_w (oc := 5) (i := 10) (ci := 5) (k := 0) (by decide +kernel)).1) rfl (by decide +kernel) rfl rfl (Nat.le_of_ble_eq_true rfl) dX5_init_12 (fun H locs hP hD hS => ?_)
  have hP : va_P D vwCl ((h0, .inr (5, [.ref (u5 0), .null, .null, .null, .null, .null, .null])) :: ([] ++ gW ca u5)) H := hP
  have hD : va_D A ((h0, .inr (5, [.ref (u5 0), .null, .null, .null, .null, .null, .null])) :: ([] ++ gW ca u5)) := hD
  refine lv_aload_n hx hb dX5_init_15 rfl (lv_at hl 0 rfl) ?_
  refine lv_iconst (v := nI 2) hx hb dX5_init_16 (by decide +kernel) ?_
  refine ct_newq (N' := 2) S0 hK hP hD hS hA hX (ev_TBm (by decide +kernel) rfl) rfl (by decide) ⟨Nat.le_of_ble_eq_true rfl, Nat.le_of_ble_eq_true rfl⟩ dX5_init_17 (fun q17 H hP hD hS => ?_)
  have hP := ct_rotP (a := [(h0, .inr (5, [.ref (u5 0), .null, .null, .null, .null, .null, .null]))]) (r := ([] ++ gW ca u5)) (y := (q17, .inl (ca 2, 2, .inr (.inr (.inr (.inr (fun _ => none))))))) hP
  have hD := ct_rotD (a := [(h0, .inr (5, [.ref (u5 0), .null, .null, .null, .null, .null, .null]))]) (r := ([] ++ gW ca u5)) (y := (q17, .inl (ca 2, 2, .inr (.inr (.inr (.inr (fun _ => none))))))) hD
  have hP : va_P D vwCl ((h0, .inr (5, [.ref (u5 0), .null, .null, .null, .null, .null, .null])) :: (q17, .inl (ca 2, 2, .inr (.inr (.inr (.inr (fun _ => none)))))) :: ([] ++ gW ca u5)) H := hP
  have hD : va_D A ((h0, .inr (5, [.ref (u5 0), .null, .null, .null, .null, .null, .null])) :: (q17, .inl (ca 2, 2, .inr (.inr (.inr (.inr (fun _ => none)))))) :: ([] ++ gW ca u5)) := hD
  refine ct_put (ty := .array (.object RX0)) (v := .ref q17) S0 hin hK hP hD hS (by decide) (k := 1) (by decide) (by exact (ev_fr_w (oc := 5) (i := 16) (ci := 5) (k := 1) (by decide +kernel)).1) rfl (by decide +kernel) rfl rfl (Nat.le_of_ble_eq_true rfl) dX5_init_20 (fun H locs hP hD hS => ?_)
  have hP : va_P D vwCl ((h0, .inr (5, [.ref (u5 0), .ref q17, .null, .null, .null, .null, .null])) :: (q17, .inl (ca 2, 2, .inr (.inr (.inr (.inr (fun _ => none)))))) :: ([] ++ gW ca u5)) H := hP
  have hD : va_D A ((h0, .inr (5, [.ref (u5 0), .ref q17, .null, .null, .null, .null, .null])) :: (q17, .inl (ca 2, 2, .inr (.inr (.inr (.inr (fun _ => none)))))) :: ([] ++ gW ca u5)) := hD
  refine lv_aload_n hx hb dX5_init_23 rfl (lv_at hl 0 rfl) ?_
  refine lv_iconst (v := nI 2) hx hb dX5_init_24 (by decide +kernel) ?_
  refine ct_newaZ (N' := 2) S0 hK hP hD hS hA (ev_TBm (by decide +kernel) rfl) rfl (by decide) ⟨Nat.le_of_ble_eq_true rfl, Nat.le_of_ble_eq_true rfl⟩ dX5_init_25 (fun q25 H hP hD hS => ?_)
  have hP := ct_rotP (a := [(h0, .inr (5, [.ref (u5 0), .ref q17, .null, .null, .null, .null, .null])), (q17, .inl (ca 2, 2, .inr (.inr (.inr (.inr (fun _ => none))))))]) (r := ([] ++ gW ca u5)) (y := (q25, .inl (ca 1, 2, .inl (fun _ => 0)))) hP
  have hD := ct_rotD (a := [(h0, .inr (5, [.ref (u5 0), .ref q17, .null, .null, .null, .null, .null])), (q17, .inl (ca 2, 2, .inr (.inr (.inr (.inr (fun _ => none))))))]) (r := ([] ++ gW ca u5)) (y := (q25, .inl (ca 1, 2, .inl (fun _ => 0)))) hD
  have hP : va_P D vwCl ((h0, .inr (5, [.ref (u5 0), .ref q17, .null, .null, .null, .null, .null])) :: (q17, .inl (ca 2, 2, .inr (.inr (.inr (.inr (fun _ => none)))))) :: (q25, .inl (ca 1, 2, .inl (fun _ => 0))) :: ([] ++ gW ca u5)) H := hP
  have hD : va_D A ((h0, .inr (5, [.ref (u5 0), .ref q17, .null, .null, .null, .null, .null])) :: (q17, .inl (ca 2, 2, .inr (.inr (.inr (.inr (fun _ => none)))))) :: (q25, .inl (ca 1, 2, .inl (fun _ => 0))) :: ([] ++ gW ca u5)) := hD
  refine ct_put (ty := .array .boolean) (v := .ref q25) S0 hin hK hP hD hS (by decide) (k := 2) (by decide) (by exact (ev_fr_w (oc := 5) (i := 20) (ci := 5) (k := 2) (by decide +kernel)).1) rfl (by decide +kernel) rfl rfl (Nat.le_of_ble_eq_true rfl) dX5_init_27 (fun H locs hP hD hS => ?_)
  have hP : va_P D vwCl ((h0, .inr (5, [.ref (u5 0), .ref q17, .ref q25, .null, .null, .null, .null])) :: (q17, .inl (ca 2, 2, .inr (.inr (.inr (.inr (fun _ => none)))))) :: (q25, .inl (ca 1, 2, .inl (fun _ => 0))) :: ([] ++ gW ca u5)) H := hP
  have hD : va_D A ((h0, .inr (5, [.ref (u5 0), .ref q17, .ref q25, .null, .null, .null, .null])) :: (q17, .inl (ca 2, 2, .inr (.inr (.inr (.inr (fun _ => none)))))) :: (q25, .inl (ca 1, 2, .inl (fun _ => 0))) :: ([] ++ gW ca u5)) := hD
  refine lv_aload_n hx hb dX5_init_30 rfl (lv_at hl 0 rfl) ?_
  refine ct_newI (fs := [.null, .int 0, .int 0]) (ci := 1) (ct_X1 l D ca) S0 hl.1 hK hP hD hS hA hX (by decide) (fun j hj => by
      revert j; decide) rfl ⟨by decide +kernel, by decide +kernel, by decide +kernel⟩ (ev_TBm (by decide +kernel) rfl) (ev_TBm (by decide +kernel) rfl) (ev_TBm (by decide +kernel) rfl) (ev_TBm (by decide +kernel) rfl) (ev_TBm (by decide +kernel) rfl) (ev_TBm (by decide +kernel) rfl) (ev_TBm (by decide +kernel) rfl) ⟨rfl, rfl⟩ ⟨Nat.le_of_ble_eq_true rfl, Nat.le_of_ble_eq_true rfl⟩ ⟨Nat.le_of_ble_eq_true rfl, Nat.le_of_ble_eq_true rfl⟩ (Nat.le_of_ble_eq_true rfl) dX5_init_31 dX5_init_34 dX5_init_35 (fun q31 u31 H locs hpo hP hD hS => ?_)
  have hpo : u31 6 0 = q31 := hpo
  subst hpo
  have hP : va_P D vwCl ((h0, .inr (5, [.ref (u5 0), .ref q17, .ref q25, .null, .null, .null, .null])) :: (q17, .inl (ca 2, 2, .inr (.inr (.inr (.inr (fun _ => none)))))) :: (q25, .inl (ca 1, 2, .inl (fun _ => 0))) :: (([] ++ gW ca u5) ++ pW ca u31)) H := hP
  have hD : va_D A ((h0, .inr (5, [.ref (u5 0), .ref q17, .ref q25, .null, .null, .null, .null])) :: (q17, .inl (ca 2, 2, .inr (.inr (.inr (.inr (fun _ => none)))))) :: (q25, .inl (ca 1, 2, .inl (fun _ => 0))) :: (([] ++ gW ca u5) ++ pW ca u31)) := hD
  refine ct_put (ty := .object RX1) (v := .ref (u31 6 0)) S0 hin hK hP hD hS (by decide) (k := 3) (by decide) (by exact (ev_fr_w (oc := 5) (i := 27) (ci := 5) (k := 3) (by decide +kernel)).1) rfl (by decide +kernel) rfl rfl (Nat.le_of_ble_eq_true rfl) dX5_init_38 (fun H locs hP hD hS => ?_)
  have hP : va_P D vwCl ((h0, .inr (5, [.ref (u5 0), .ref q17, .ref q25, .ref (u31 6 0), .null, .null, .null])) :: (q17, .inl (ca 2, 2, .inr (.inr (.inr (.inr (fun _ => none)))))) :: (q25, .inl (ca 1, 2, .inl (fun _ => 0))) :: (([] ++ gW ca u5) ++ pW ca u31)) H := hP
  have hD : va_D A ((h0, .inr (5, [.ref (u5 0), .ref q17, .ref q25, .ref (u31 6 0), .null, .null, .null])) :: (q17, .inl (ca 2, 2, .inr (.inr (.inr (.inr (fun _ => none)))))) :: (q25, .inl (ca 1, 2, .inl (fun _ => 0))) :: (([] ++ gW ca u5) ++ pW ca u31)) := hD
  refine lv_aload_n hx hb dX5_init_41 rfl (lv_at hl 0 rfl) ?_
  refine ct_newN (fs := [.null, .int 0]) (ci := 2) (ct_X2 l D ca) S0 hl.1 hK hP hD hS hA hX (by decide) (fun j hj => by
      revert j; decide) rfl ⟨by decide +kernel, by decide +kernel, by decide +kernel⟩ (ev_TBm (by decide +kernel) rfl) (ev_TBm (by decide +kernel) rfl) (ev_TBm (by decide +kernel) rfl) (List.mem_of_getElem? (i := 1) rfl) (ev_TBm (by decide +kernel) rfl) (ev_TBm (by decide +kernel) rfl) (ev_TBm (by decide +kernel) rfl) ⟨rfl, rfl⟩ ⟨Nat.le_of_ble_eq_true rfl, Nat.le_of_ble_eq_true rfl⟩ ⟨Nat.le_of_ble_eq_true rfl, Nat.le_of_ble_eq_true rfl⟩ (Nat.le_of_ble_eq_true rfl) dX5_init_42 dX5_init_45 dX5_init_46 (fun q42 u42 H locs hpo hP hD hS => ?_)
  have hpo : u42 0 = q42 := hpo
  subst hpo
  have hP : va_P D vwCl ((h0, .inr (5, [.ref (u5 0), .ref q17, .ref q25, .ref (u31 6 0), .null, .null, .null])) :: (q17, .inl (ca 2, 2, .inr (.inr (.inr (.inr (fun _ => none)))))) :: (q25, .inl (ca 1, 2, .inl (fun _ => 0))) :: ((([] ++ gW ca u5) ++ pW ca u31) ++ tW ca u42)) H := hP
  have hD : va_D A ((h0, .inr (5, [.ref (u5 0), .ref q17, .ref q25, .ref (u31 6 0), .null, .null, .null])) :: (q17, .inl (ca 2, 2, .inr (.inr (.inr (.inr (fun _ => none)))))) :: (q25, .inl (ca 1, 2, .inl (fun _ => 0))) :: ((([] ++ gW ca u5) ++ pW ca u31) ++ tW ca u42)) := hD
  refine ct_put (ty := .object RX2) (v := .ref (u42 0)) S0 hin hK hP hD hS (by decide) (k := 4) (by decide) (by exact (ev_fr_w (oc := 5) (i := 34) (ci := 5) (k := 4) (by decide +kernel)).1) rfl (by decide +kernel) rfl rfl (Nat.le_of_ble_eq_true rfl) dX5_init_49 (fun H locs hP hD hS => ?_)
  have hP : va_P D vwCl ((h0, .inr (5, [.ref (u5 0), .ref q17, .ref q25, .ref (u31 6 0), .ref (u42 0), .null, .null])) :: (q17, .inl (ca 2, 2, .inr (.inr (.inr (.inr (fun _ => none)))))) :: (q25, .inl (ca 1, 2, .inl (fun _ => 0))) :: ((([] ++ gW ca u5) ++ pW ca u31) ++ tW ca u42)) H := hP
  have hD : va_D A ((h0, .inr (5, [.ref (u5 0), .ref q17, .ref q25, .ref (u31 6 0), .ref (u42 0), .null, .null])) :: (q17, .inl (ca 2, 2, .inr (.inr (.inr (.inr (fun _ => none)))))) :: (q25, .inl (ca 1, 2, .inl (fun _ => 0))) :: ((([] ++ gW ca u5) ++ pW ca u31) ++ tW ca u42)) := hD
  refine lv_aload_n hx hb dX5_init_52 rfl (lv_at hl 0 rfl) ?_
  refine ct_newN (fs := [.null, .null, .null, .null]) (ci := 4) (ct_X4 l D ca) S0 hl.1 hK hP hD hS hA hX (by decide) (fun j hj => by
      revert j; decide) rfl ⟨by decide +kernel, by decide +kernel, by decide +kernel⟩ (ev_TBm (by decide +kernel) rfl) (ev_TBm (by decide +kernel) rfl) (ev_TBm (by decide +kernel) rfl) (List.mem_of_getElem? (i := 2) rfl) (ev_TBm (by decide +kernel) rfl) (ev_TBm (by decide +kernel) rfl) (ev_TBm (by decide +kernel) rfl) ⟨rfl, rfl⟩ ⟨Nat.le_of_ble_eq_true rfl, Nat.le_of_ble_eq_true rfl⟩ ⟨Nat.le_of_ble_eq_true rfl, Nat.le_of_ble_eq_true rfl⟩ (Nat.le_of_ble_eq_true rfl) dX5_init_53 dX5_init_56 dX5_init_57 (fun q53 u53 H locs hpo hP hD hS => ?_)
  have hpo : u53 0 0 = q53 := hpo
  subst hpo
  have hP : va_P D vwCl ((h0, .inr (5, [.ref (u5 0), .ref q17, .ref q25, .ref (u31 6 0), .ref (u42 0), .null, .null])) :: (q17, .inl (ca 2, 2, .inr (.inr (.inr (.inr (fun _ => none)))))) :: (q25, .inl (ca 1, 2, .inl (fun _ => 0))) :: (((([] ++ gW ca u5) ++ pW ca u31) ++ tW ca u42) ++ yW ca u53)) H := hP
  have hD : va_D A ((h0, .inr (5, [.ref (u5 0), .ref q17, .ref q25, .ref (u31 6 0), .ref (u42 0), .null, .null])) :: (q17, .inl (ca 2, 2, .inr (.inr (.inr (.inr (fun _ => none)))))) :: (q25, .inl (ca 1, 2, .inl (fun _ => 0))) :: (((([] ++ gW ca u5) ++ pW ca u31) ++ tW ca u42) ++ yW ca u53)) := hD
  refine ct_put (ty := .object RX4) (v := .ref (u53 0 0)) S0 hin hK hP hD hS (by decide) (k := 5) (by decide) (by exact (ev_fr_w (oc := 5) (i := 41) (ci := 5) (k := 5) (by decide +kernel)).1) rfl (by decide +kernel) rfl rfl (Nat.le_of_ble_eq_true rfl) dX5_init_60 (fun H locs hP hD hS => ?_)
  have hP : va_P D vwCl ((h0, .inr (5, [.ref (u5 0), .ref q17, .ref q25, .ref (u31 6 0), .ref (u42 0), .ref (u53 0 0), .null])) :: (q17, .inl (ca 2, 2, .inr (.inr (.inr (.inr (fun _ => none)))))) :: (q25, .inl (ca 1, 2, .inl (fun _ => 0))) :: (((([] ++ gW ca u5) ++ pW ca u31) ++ tW ca u42) ++ yW ca u53)) H := hP
  have hD : va_D A ((h0, .inr (5, [.ref (u5 0), .ref q17, .ref q25, .ref (u31 6 0), .ref (u42 0), .ref (u53 0 0), .null])) :: (q17, .inl (ca 2, 2, .inr (.inr (.inr (.inr (fun _ => none)))))) :: (q25, .inl (ca 1, 2, .inl (fun _ => 0))) :: (((([] ++ gW ca u5) ++ pW ca u31) ++ tW ca u42) ++ yW ca u53)) := hD
  refine lv_aload_n hx hb dX5_init_63 rfl (lv_at hl 0 rfl) ?_
  refine ct_newN (fs := [.null, .int 0, .int 0, .int 0]) (ci := 3) (ct_X3 l D ca) S0 hl.1 hK hP hD hS hA hX (by decide) (fun j hj => by
      revert j; decide) rfl ⟨by decide +kernel, by decide +kernel, by decide +kernel⟩ (ev_TBm (by decide +kernel) rfl) (ev_TBm (by decide +kernel) rfl) (ev_TBm (by decide +kernel) rfl) (List.mem_of_getElem? (i := 3) rfl) (ev_TBm (by decide +kernel) rfl) (ev_TBm (by decide +kernel) rfl) (ev_TBm (by decide +kernel) rfl) ⟨rfl, rfl⟩ ⟨Nat.le_of_ble_eq_true rfl, Nat.le_of_ble_eq_true rfl⟩ ⟨Nat.le_of_ble_eq_true rfl, Nat.le_of_ble_eq_true rfl⟩ (Nat.le_of_ble_eq_true rfl) dX5_init_64 dX5_init_67 dX5_init_68 (fun q64 u64 H locs hpo hP hD hS => ?_)
  have hpo : u64 0 = q64 := hpo
  subst hpo
  have hP : va_P D vwCl ((h0, .inr (5, [.ref (u5 0), .ref q17, .ref q25, .ref (u31 6 0), .ref (u42 0), .ref (u53 0 0), .null])) :: (q17, .inl (ca 2, 2, .inr (.inr (.inr (.inr (fun _ => none)))))) :: (q25, .inl (ca 1, 2, .inl (fun _ => 0))) :: ((((([] ++ gW ca u5) ++ pW ca u31) ++ tW ca u42) ++ yW ca u53) ++ kW ca u64)) H := hP
  have hD : va_D A ((h0, .inr (5, [.ref (u5 0), .ref q17, .ref q25, .ref (u31 6 0), .ref (u42 0), .ref (u53 0 0), .null])) :: (q17, .inl (ca 2, 2, .inr (.inr (.inr (.inr (fun _ => none)))))) :: (q25, .inl (ca 1, 2, .inl (fun _ => 0))) :: ((((([] ++ gW ca u5) ++ pW ca u31) ++ tW ca u42) ++ yW ca u53) ++ kW ca u64)) := hD
  refine ct_put (ty := .object RX3) (v := .ref (u64 0)) S0 hin hK hP hD hS (by decide) (k := 6) (by decide) (by exact (ev_fr_w (oc := 5) (i := 48) (ci := 5) (k := 6) (by decide +kernel)).1) rfl (by decide +kernel) rfl rfl (Nat.le_of_ble_eq_true rfl) dX5_init_71 (fun H locs hP hD hS => ?_)
  have hP : va_P D vwCl ((h0, .inr (5, [.ref (u5 0), .ref q17, .ref q25, .ref (u31 6 0), .ref (u42 0), .ref (u53 0 0), .ref (u64 0)])) :: (q17, .inl (ca 2, 2, .inr (.inr (.inr (.inr (fun _ => none)))))) :: (q25, .inl (ca 1, 2, .inl (fun _ => 0))) :: ((((([] ++ gW ca u5) ++ pW ca u31) ++ tW ca u42) ++ yW ca u53) ++ kW ca u64)) H := hP
  have hD : va_D A ((h0, .inr (5, [.ref (u5 0), .ref q17, .ref q25, .ref (u31 6 0), .ref (u42 0), .ref (u53 0 0), .ref (u64 0)])) :: (q17, .inl (ca 2, 2, .inr (.inr (.inr (.inr (fun _ => none)))))) :: (q25, .inl (ca 1, 2, .inl (fun _ => 0))) :: ((((([] ++ gW ca u5) ++ pW ca u31) ++ tW ca u42) ++ yW ca u53) ++ kW ca u64)) := hD
  refine lv_iconst (v := nI 0) hx hb dX5_init_74 (by decide +kernel) ?_
  refine lv_istore_n (lv' := [(1, .int (nI 0)), (0, .ref h0)]) hx hb dX5_init_75 rfl hl (by decide) rfl (fun ls hl => ?_)
  refine lv_iload_n hx hb dX5_init_76 rfl (lv_at hl 0 rfl) ?_
  refine lv_iconst (v := nI 2) hx hb dX5_init_77 (by decide +kernel) ?_
  refine lv_icmp_ge (tgt := 100) hx hb dX5_init_78 (by decide) (fun h9 => absurd h9 (by decide)) (fun _ => ?_)
  refine lv_aload_n hx hb dX5_init_81 rfl (lv_at hl 1 rfl) ?_
  refine ct_get (v := .ref q17) S0 hK hP (by decide) (k := 1) (by decide) (by exact (ev_fr_w (oc := 5) (i := 16) (ci := 5) (k := 1) (by decide +kernel)).1) rfl dX5_init_82 ?_
  refine lv_iload_n hx hb dX5_init_85 rfl (lv_at hl 0 rfl) ?_
  refine ct_newI (fs := [.null, .null, .null, .null, .null, .null, .null, .null, .null, .null, .int 0, .int 0, .int 0, .int 0, .int 0, .int 0, .int 0]) (ci := 0) (ct_X0 l D ca) S0 hl.1 hK hP hD hS hA hX (by decide) (fun j hj => by
      revert j; decide) rfl ⟨by decide +kernel, by decide +kernel, by decide +kernel⟩ (ev_TBm (by decide +kernel) rfl) (ev_TBm (by decide +kernel) rfl) (ev_TBm (by decide +kernel) rfl) (ev_TBm (by decide +kernel) rfl) (ev_TBm (by decide +kernel) rfl) (ev_TBm (by decide +kernel) rfl) (ev_TBm (by decide +kernel) rfl) ⟨rfl, rfl⟩ ⟨Nat.le_of_ble_eq_true rfl, Nat.le_of_ble_eq_true rfl⟩ ⟨Nat.le_of_ble_eq_true rfl, Nat.le_of_ble_eq_true rfl⟩ (Nat.le_of_ble_eq_true rfl) dX5_init_86 dX5_init_89 dX5_init_90 (fun q86_0 u86_0 H locs hpo hP hD hS => ?_)
  have hpo : u86_0 0 = q86_0 := hpo
  subst hpo
  have hP : va_P D vwCl ((h0, .inr (5, [.ref (u5 0), .ref q17, .ref q25, .ref (u31 6 0), .ref (u42 0), .ref (u53 0 0), .ref (u64 0)])) :: (q17, .inl (ca 2, 2, .inr (.inr (.inr (.inr (fun _ => none)))))) :: (q25, .inl (ca 1, 2, .inl (fun _ => 0))) :: (((((([] ++ gW ca u5) ++ pW ca u31) ++ tW ca u42) ++ yW ca u53) ++ kW ca u64) ++ gW ca u86_0)) H := hP
  have hD : va_D A ((h0, .inr (5, [.ref (u5 0), .ref q17, .ref q25, .ref (u31 6 0), .ref (u42 0), .ref (u53 0 0), .ref (u64 0)])) :: (q17, .inl (ca 2, 2, .inr (.inr (.inr (.inr (fun _ => none)))))) :: (q25, .inl (ca 1, 2, .inl (fun _ => 0))) :: (((((([] ++ gW ca u5) ++ pW ca u31) ++ tW ca u42) ++ yW ca u53) ++ kW ca u64) ++ gW ca u86_0)) := hD
  refine ct_astq (i := 0) S0 hK hP hD hS (q0 := 1) (qk := 111) rfl rfl (by decide) (by decide) dX5_init_93 (fun H locs hP hD hS => ?_)
  have hP : va_P D vwCl ((h0, .inr (5, [.ref (u5 0), .ref q17, .ref q25, .ref (u31 6 0), .ref (u42 0), .ref (u53 0 0), .ref (u64 0)])) :: (q17, .inl (ca 2, 2, .inr (.inr (.inr (.inr ((va_up (fun _ => none) 0 (some (u86_0 0))))))))) :: (q25, .inl (ca 1, 2, .inl (fun _ => 0))) :: (((((([] ++ gW ca u5) ++ pW ca u31) ++ tW ca u42) ++ yW ca u53) ++ kW ca u64) ++ gW ca u86_0)) H := hP
  have hD : va_D A ((h0, .inr (5, [.ref (u5 0), .ref q17, .ref q25, .ref (u31 6 0), .ref (u42 0), .ref (u53 0 0), .ref (u64 0)])) :: (q17, .inl (ca 2, 2, .inr (.inr (.inr (.inr ((va_up (fun _ => none) 0 (some (u86_0 0))))))))) :: (q25, .inl (ca 1, 2, .inl (fun _ => 0))) :: (((((([] ++ gW ca u5) ++ pW ca u31) ++ tW ca u42) ++ yW ca u53) ++ kW ca u64) ++ gW ca u86_0)) := hD
  refine lv_iinc (v := nI 1) (lv' := [(1, .int (nI 1)), (0, .ref h0)]) hx hb dX5_init_94 hl (k := 0) rfl (by decide +kernel) (by decide) rfl (fun ls hl => ?_)
  refine lv_goto (tgt := 76) hx hb dX5_init_97 (by decide) ?_
  refine lv_iload_n hx hb dX5_init_76 rfl (lv_at hl 0 rfl) ?_
  refine lv_iconst (v := nI 2) hx hb dX5_init_77 (by decide +kernel) ?_
  refine lv_icmp_ge (tgt := 100) hx hb dX5_init_78 (by decide) (fun h9 => absurd h9 (by decide)) (fun _ => ?_)
  refine lv_aload_n hx hb dX5_init_81 rfl (lv_at hl 1 rfl) ?_
  refine ct_get (v := .ref q17) S0 hK hP (by decide) (k := 1) (by decide) (by exact (ev_fr_w (oc := 5) (i := 16) (ci := 5) (k := 1) (by decide +kernel)).1) rfl dX5_init_82 ?_
  refine lv_iload_n hx hb dX5_init_85 rfl (lv_at hl 0 rfl) ?_
  refine ct_newI (fs := [.null, .null, .null, .null, .null, .null, .null, .null, .null, .null, .int 0, .int 0, .int 0, .int 0, .int 0, .int 0, .int 0]) (ci := 0) (ct_X0 l D ca) S0 hl.1 hK hP hD hS hA hX (by decide) (fun j hj => by
      revert j; decide) rfl ⟨by decide +kernel, by decide +kernel, by decide +kernel⟩ (ev_TBm (by decide +kernel) rfl) (ev_TBm (by decide +kernel) rfl) (ev_TBm (by decide +kernel) rfl) (ev_TBm (by decide +kernel) rfl) (ev_TBm (by decide +kernel) rfl) (ev_TBm (by decide +kernel) rfl) (ev_TBm (by decide +kernel) rfl) ⟨rfl, rfl⟩ ⟨Nat.le_of_ble_eq_true rfl, Nat.le_of_ble_eq_true rfl⟩ ⟨Nat.le_of_ble_eq_true rfl, Nat.le_of_ble_eq_true rfl⟩ (Nat.le_of_ble_eq_true rfl) dX5_init_86 dX5_init_89 dX5_init_90 (fun q86_1 u86_1 H locs hpo hP hD hS => ?_)
  have hpo : u86_1 0 = q86_1 := hpo
  subst hpo
  have hP : va_P D vwCl ((h0, .inr (5, [.ref (u5 0), .ref q17, .ref q25, .ref (u31 6 0), .ref (u42 0), .ref (u53 0 0), .ref (u64 0)])) :: (q17, .inl (ca 2, 2, .inr (.inr (.inr (.inr ((va_up (fun _ => none) 0 (some (u86_0 0))))))))) :: (q25, .inl (ca 1, 2, .inl (fun _ => 0))) :: ((((((([] ++ gW ca u5) ++ pW ca u31) ++ tW ca u42) ++ yW ca u53) ++ kW ca u64) ++ gW ca u86_0) ++ gW ca u86_1)) H := hP
  have hD : va_D A ((h0, .inr (5, [.ref (u5 0), .ref q17, .ref q25, .ref (u31 6 0), .ref (u42 0), .ref (u53 0 0), .ref (u64 0)])) :: (q17, .inl (ca 2, 2, .inr (.inr (.inr (.inr ((va_up (fun _ => none) 0 (some (u86_0 0))))))))) :: (q25, .inl (ca 1, 2, .inl (fun _ => 0))) :: ((((((([] ++ gW ca u5) ++ pW ca u31) ++ tW ca u42) ++ yW ca u53) ++ kW ca u64) ++ gW ca u86_0) ++ gW ca u86_1)) := hD
  refine ct_astq (i := 1) S0 hK hP hD hS (q0 := 1) (qk := 122) rfl rfl (by decide) (by decide) dX5_init_93 (fun H locs hP hD hS => ?_)
  have hP : va_P D vwCl ((h0, .inr (5, [.ref (u5 0), .ref q17, .ref q25, .ref (u31 6 0), .ref (u42 0), .ref (u53 0 0), .ref (u64 0)])) :: (q17, .inl (ca 2, 2, .inr (.inr (.inr (.inr ((va_up (va_up (fun _ => none) 0 (some (u86_0 0))) 1 (some (u86_1 0))))))))) :: (q25, .inl (ca 1, 2, .inl (fun _ => 0))) :: ((((((([] ++ gW ca u5) ++ pW ca u31) ++ tW ca u42) ++ yW ca u53) ++ kW ca u64) ++ gW ca u86_0) ++ gW ca u86_1)) H := hP
  have hD : va_D A ((h0, .inr (5, [.ref (u5 0), .ref q17, .ref q25, .ref (u31 6 0), .ref (u42 0), .ref (u53 0 0), .ref (u64 0)])) :: (q17, .inl (ca 2, 2, .inr (.inr (.inr (.inr ((va_up (va_up (fun _ => none) 0 (some (u86_0 0))) 1 (some (u86_1 0))))))))) :: (q25, .inl (ca 1, 2, .inl (fun _ => 0))) :: ((((((([] ++ gW ca u5) ++ pW ca u31) ++ tW ca u42) ++ yW ca u53) ++ kW ca u64) ++ gW ca u86_0) ++ gW ca u86_1)) := hD
  refine lv_iinc (v := nI 2) (lv' := [(1, .int (nI 2)), (0, .ref h0)]) hx hb dX5_init_94 hl (k := 0) rfl (by decide +kernel) (by decide) rfl (fun ls hl => ?_)
  refine lv_goto (tgt := 76) hx hb dX5_init_97 (by decide) ?_
  refine lv_iload_n hx hb dX5_init_76 rfl (lv_at hl 0 rfl) ?_
  refine lv_iconst (v := nI 2) hx hb dX5_init_77 (by decide +kernel) ?_
  refine lv_icmp_ge (tgt := 100) hx hb dX5_init_78 (by decide) (fun _ => ?_) (fun h9 => absurd (by decide) h9)
  obtain ⟨U, hU⟩ : ∃ U : Nat → Nat → Nat, U = (fun k => [(fun j => [h0, q17, q25].getD j 0), u5, u86_0, u86_1, u42, u64].getD k (fun _ => 0)) := ⟨_, rfl⟩
  have he : (va_up (va_up (fun _ => none) 0 (some (u86_0 0))) 1 (some (u86_1 0))) = ct_q 2 (fun i => U (i + 2) 0) := by
    subst hU
    funext i
    match i with
    | 0 => rfl
    | 1 => rfl
    | i + 2 => simp [va_up, ct_q]
  rw [he] at hP hD
  subst hU
  exact ct_end (post := fun w : (Nat → Nat → Nat) × (Nat → Nat → Nat) × (Nat → Nat → Nat) => w.1 0 0 = h0) (w1 := fun w => xW ca w) S0 hr hlocks ((fun k => [(fun j => [h0, q17, q25].getD j 0), u5, u86_0, u86_1, u42, u64].getD k (fun _ => 0)), u31, u53) rfl hP hD hS (Nat.le_of_ble_eq_true rfl) (Nat.le_of_ble_eq_true rfl) dX5_init_100

