/-! Past(), the law's own game, Ways() -/
set_option maxHeartbeats 4000000 in
set_option maxRecDepth 100000 in
/-- Past() -/
theorem ct_X1 (l : Launch) (D : va_G) (ca : Nat → ClassId) : ct_M l D ca yX1_init cX1_init 2 ({ frames := 3, cells := 67, slots := 420, locals := 80 }) (.inr (1, [.null, .int 0, .int 0])) (fun h0 u => u 6 0 = h0) (fun _ u => pW ca u) 67 420 := by
  refine ct_of (by decide +kernel) (by decide) ?_
  intro p e s m args below meth c A r3 h0 ls S0 hr hin hlocks hK hP hD hA hX hl
  have hx := S0.1
  have hb := S0.2.1
  have hS : va_S A s.heap s.heap [] := va_S.rf
  refine lv_aload_n hx hb dX1_init_0 rfl (lv_at hl 0 rfl) ?_
  refine ct_obj S0 hl.1 (ev_TBm (by decide +kernel) rfl) (Nat.le_of_ble_eq_true rfl) (Nat.le_of_ble_eq_true rfl) dX1_init_1 ?_
  refine lv_aload_n hx hb dX1_init_4 rfl (lv_at hl 0 rfl) ?_
  refine lv_bipush (v := nI 6) hx hb dX1_init_5 (by decide +kernel) ?_
  refine ct_newq (N' := 6) S0 hK hP hD hS hA hX (ev_TBm (by decide +kernel) rfl) rfl (by decide) ⟨Nat.le_of_ble_eq_true rfl, Nat.le_of_ble_eq_true rfl⟩ dX1_init_7 (fun q7 H hP hD hS => ?_)
  have hP : va_P D vwCl [(h0, .inr (1, [.null, .int 0, .int 0])), (q7, .inl (ca 2, 6, .inr (.inr (.inr (.inr (fun _ => none))))))] H := hP
  have hD : va_D A [(h0, .inr (1, [.null, .int 0, .int 0])), (q7, .inl (ca 2, 6, .inr (.inr (.inr (.inr (fun _ => none))))))] := hD
  refine ct_put (ty := .array (.object RX0)) (v := .ref q7) S0 hin hK hP hD hS (by decide) (k := 0) (by decide) (by exact (ev_fr_w (oc := 1) (i := 11) (ci := 1) (k := 0) (by decide +kernel)).1) rfl (by decide +kernel) rfl rfl (Nat.le_of_ble_eq_true rfl) dX1_init_10 (fun H locs hP hD hS => ?_)
  have hP : va_P D vwCl [(h0, .inr (1, [.ref q7, .int 0, .int 0])), (q7, .inl (ca 2, 6, .inr (.inr (.inr (.inr (fun _ => none))))))] H := hP
  have hD : va_D A [(h0, .inr (1, [.ref q7, .int 0, .int 0])), (q7, .inl (ca 2, 6, .inr (.inr (.inr (.inr (fun _ => none))))))] := hD
  refine lv_aload_n hx hb dX1_init_13 rfl (lv_at hl 0 rfl) ?_
  refine lv_iconst (v := nI 0) hx hb dX1_init_14 (by decide +kernel) ?_
  refine ct_put (ty := .int) (v := .int 0) S0 hin hK hP hD hS (by decide) (k := 1) (by decide) (by exact (ev_fr_w (oc := 1) (i := 15) (ci := 1) (k := 1) (by decide +kernel)).1) rfl (by decide +kernel) rfl rfl (Nat.le_of_ble_eq_true rfl) dX1_init_15 (fun H locs hP hD hS => ?_)
  have hP : va_P D vwCl [(h0, .inr (1, [.ref q7, .int 0, .int 0])), (q7, .inl (ca 2, 6, .inr (.inr (.inr (.inr (fun _ => none))))))] H := hP
  have hD : va_D A [(h0, .inr (1, [.ref q7, .int 0, .int 0])), (q7, .inl (ca 2, 6, .inr (.inr (.inr (.inr (fun _ => none))))))] := hD
  refine lv_aload_n hx hb dX1_init_18 rfl (lv_at hl 0 rfl) ?_
  refine lv_iconst (v := nI 0) hx hb dX1_init_19 (by decide +kernel) ?_
  refine ct_put (ty := .int) (v := .int 0) S0 hin hK hP hD hS (by decide) (k := 2) (by decide) (by exact (ev_fr_w (oc := 1) (i := 19) (ci := 1) (k := 2) (by decide +kernel)).1) rfl (by decide +kernel) rfl rfl (Nat.le_of_ble_eq_true rfl) dX1_init_20 (fun H locs hP hD hS => ?_)
  have hP : va_P D vwCl [(h0, .inr (1, [.ref q7, .int 0, .int 0])), (q7, .inl (ca 2, 6, .inr (.inr (.inr (.inr (fun _ => none))))))] H := hP
  have hD : va_D A [(h0, .inr (1, [.ref q7, .int 0, .int 0])), (q7, .inl (ca 2, 6, .inr (.inr (.inr (.inr (fun _ => none))))))] := hD
  refine lv_iconst (v := nI 0) hx hb dX1_init_23 (by decide +kernel) ?_
  refine lv_istore_n (lv' := [(1, .int (nI 0)), (0, .ref h0)]) hx hb dX1_init_24 rfl hl (by decide) rfl (fun ls hl => ?_)
  refine lv_iload_n hx hb dX1_init_25 rfl (lv_at hl 0 rfl) ?_
  refine lv_bipush (v := nI 6) hx hb dX1_init_26 (by decide +kernel) ?_
  refine lv_icmp_ge (tgt := 50) hx hb dX1_init_28 (by decide) (fun h9 => absurd h9 (by decide)) (fun _ => ?_)
  refine lv_aload_n hx hb dX1_init_31 rfl (lv_at hl 1 rfl) ?_
  refine ct_get (v := .ref q7) S0 hK hP (by decide) (k := 0) (by decide) (by exact (ev_fr_w (oc := 1) (i := 11) (ci := 1) (k := 0) (by decide +kernel)).1) rfl dX1_init_32 ?_
  refine lv_iload_n hx hb dX1_init_35 rfl (lv_at hl 0 rfl) ?_
  refine ct_newI (fs := [.null, .null, .null, .null, .null, .null, .null, .null, .null, .null, .int 0, .int 0, .int 0, .int 0, .int 0, .int 0, .int 0]) (ci := 0) (ct_X0 l D ca) S0 hl.1 hK hP hD hS hA hX (by decide) (fun j hj => by
      revert j; decide) rfl ⟨by decide +kernel, by decide +kernel, by decide +kernel⟩ (ev_TBm (by decide +kernel) rfl) (ev_TBm (by decide +kernel) rfl) (ev_TBm (by decide +kernel) rfl) (ev_TBm (by decide +kernel) rfl) (ev_TBm (by decide +kernel) rfl) (ev_TBm (by decide +kernel) rfl) (ev_TBm (by decide +kernel) rfl) ⟨rfl, rfl⟩ ⟨Nat.le_of_ble_eq_true rfl, Nat.le_of_ble_eq_true rfl⟩ ⟨Nat.le_of_ble_eq_true rfl, Nat.le_of_ble_eq_true rfl⟩ (Nat.le_of_ble_eq_true rfl) dX1_init_36 dX1_init_39 dX1_init_40 (fun q36_0 u36_0 H locs hpo hP hD hS => ?_)
  have hpo : u36_0 0 = q36_0 := hpo
  subst hpo
  have hP : va_P D vwCl ((h0, .inr (1, [.ref q7, .int 0, .int 0])) :: (q7, .inl (ca 2, 6, .inr (.inr (.inr (.inr (fun _ => none)))))) :: ([] ++ gW ca u36_0)) H := hP
  have hD : va_D A ((h0, .inr (1, [.ref q7, .int 0, .int 0])) :: (q7, .inl (ca 2, 6, .inr (.inr (.inr (.inr (fun _ => none)))))) :: ([] ++ gW ca u36_0)) := hD
  refine ct_astq (i := 0) S0 hK hP hD hS (q0 := 1) (qk := 2) rfl rfl (by decide) (by decide) dX1_init_43 (fun H locs hP hD hS => ?_)
  have hP : va_P D vwCl ((h0, .inr (1, [.ref q7, .int 0, .int 0])) :: (q7, .inl (ca 2, 6, .inr (.inr (.inr (.inr ((va_up (fun _ => none) 0 (some (u36_0 0))))))))) :: ([] ++ gW ca u36_0)) H := hP
  have hD : va_D A ((h0, .inr (1, [.ref q7, .int 0, .int 0])) :: (q7, .inl (ca 2, 6, .inr (.inr (.inr (.inr ((va_up (fun _ => none) 0 (some (u36_0 0))))))))) :: ([] ++ gW ca u36_0)) := hD
  refine lv_iinc (v := nI 1) (lv' := [(1, .int (nI 1)), (0, .ref h0)]) hx hb dX1_init_44 hl (k := 0) rfl (by decide +kernel) (by decide) rfl (fun ls hl => ?_)
  refine lv_goto (tgt := 25) hx hb dX1_init_47 (by decide) ?_
  refine lv_iload_n hx hb dX1_init_25 rfl (lv_at hl 0 rfl) ?_
  refine lv_bipush (v := nI 6) hx hb dX1_init_26 (by decide +kernel) ?_
  refine lv_icmp_ge (tgt := 50) hx hb dX1_init_28 (by decide) (fun h9 => absurd h9 (by decide)) (fun _ => ?_)
  refine lv_aload_n hx hb dX1_init_31 rfl (lv_at hl 1 rfl) ?_
  refine ct_get (v := .ref q7) S0 hK hP (by decide) (k := 0) (by decide) (by exact (ev_fr_w (oc := 1) (i := 11) (ci := 1) (k := 0) (by decide +kernel)).1) rfl dX1_init_32 ?_
  refine lv_iload_n hx hb dX1_init_35 rfl (lv_at hl 0 rfl) ?_
  refine ct_newI (fs := [.null, .null, .null, .null, .null, .null, .null, .null, .null, .null, .int 0, .int 0, .int 0, .int 0, .int 0, .int 0, .int 0]) (ci := 0) (ct_X0 l D ca) S0 hl.1 hK hP hD hS hA hX (by decide) (fun j hj => by
      revert j; decide) rfl ⟨by decide +kernel, by decide +kernel, by decide +kernel⟩ (ev_TBm (by decide +kernel) rfl) (ev_TBm (by decide +kernel) rfl) (ev_TBm (by decide +kernel) rfl) (ev_TBm (by decide +kernel) rfl) (ev_TBm (by decide +kernel) rfl) (ev_TBm (by decide +kernel) rfl) (ev_TBm (by decide +kernel) rfl) ⟨rfl, rfl⟩ ⟨Nat.le_of_ble_eq_true rfl, Nat.le_of_ble_eq_true rfl⟩ ⟨Nat.le_of_ble_eq_true rfl, Nat.le_of_ble_eq_true rfl⟩ (Nat.le_of_ble_eq_true rfl) dX1_init_36 dX1_init_39 dX1_init_40 (fun q36_1 u36_1 H locs hpo hP hD hS => ?_)
  have hpo : u36_1 0 = q36_1 := hpo
  subst hpo
  have hP : va_P D vwCl ((h0, .inr (1, [.ref q7, .int 0, .int 0])) :: (q7, .inl (ca 2, 6, .inr (.inr (.inr (.inr ((va_up (fun _ => none) 0 (some (u36_0 0))))))))) :: (([] ++ gW ca u36_0) ++ gW ca u36_1)) H := hP
  have hD : va_D A ((h0, .inr (1, [.ref q7, .int 0, .int 0])) :: (q7, .inl (ca 2, 6, .inr (.inr (.inr (.inr ((va_up (fun _ => none) 0 (some (u36_0 0))))))))) :: (([] ++ gW ca u36_0) ++ gW ca u36_1)) := hD
  refine ct_astq (i := 1) S0 hK hP hD hS (q0 := 1) (qk := 13) rfl rfl (by decide) (by decide) dX1_init_43 (fun H locs hP hD hS => ?_)
  have hP : va_P D vwCl ((h0, .inr (1, [.ref q7, .int 0, .int 0])) :: (q7, .inl (ca 2, 6, .inr (.inr (.inr (.inr ((va_up (va_up (fun _ => none) 0 (some (u36_0 0))) 1 (some (u36_1 0))))))))) :: (([] ++ gW ca u36_0) ++ gW ca u36_1)) H := hP
  have hD : va_D A ((h0, .inr (1, [.ref q7, .int 0, .int 0])) :: (q7, .inl (ca 2, 6, .inr (.inr (.inr (.inr ((va_up (va_up (fun _ => none) 0 (some (u36_0 0))) 1 (some (u36_1 0))))))))) :: (([] ++ gW ca u36_0) ++ gW ca u36_1)) := hD
  refine lv_iinc (v := nI 2) (lv' := [(1, .int (nI 2)), (0, .ref h0)]) hx hb dX1_init_44 hl (k := 0) rfl (by decide +kernel) (by decide) rfl (fun ls hl => ?_)
  refine lv_goto (tgt := 25) hx hb dX1_init_47 (by decide) ?_
  refine lv_iload_n hx hb dX1_init_25 rfl (lv_at hl 0 rfl) ?_
  refine lv_bipush (v := nI 6) hx hb dX1_init_26 (by decide +kernel) ?_
  refine lv_icmp_ge (tgt := 50) hx hb dX1_init_28 (by decide) (fun h9 => absurd h9 (by decide)) (fun _ => ?_)
  refine lv_aload_n hx hb dX1_init_31 rfl (lv_at hl 1 rfl) ?_
  refine ct_get (v := .ref q7) S0 hK hP (by decide) (k := 0) (by decide) (by exact (ev_fr_w (oc := 1) (i := 11) (ci := 1) (k := 0) (by decide +kernel)).1) rfl dX1_init_32 ?_
  refine lv_iload_n hx hb dX1_init_35 rfl (lv_at hl 0 rfl) ?_
  refine ct_newI (fs := [.null, .null, .null, .null, .null, .null, .null, .null, .null, .null, .int 0, .int 0, .int 0, .int 0, .int 0, .int 0, .int 0]) (ci := 0) (ct_X0 l D ca) S0 hl.1 hK hP hD hS hA hX (by decide) (fun j hj => by
      revert j; decide) rfl ⟨by decide +kernel, by decide +kernel, by decide +kernel⟩ (ev_TBm (by decide +kernel) rfl) (ev_TBm (by decide +kernel) rfl) (ev_TBm (by decide +kernel) rfl) (ev_TBm (by decide +kernel) rfl) (ev_TBm (by decide +kernel) rfl) (ev_TBm (by decide +kernel) rfl) (ev_TBm (by decide +kernel) rfl) ⟨rfl, rfl⟩ ⟨Nat.le_of_ble_eq_true rfl, Nat.le_of_ble_eq_true rfl⟩ ⟨Nat.le_of_ble_eq_true rfl, Nat.le_of_ble_eq_true rfl⟩ (Nat.le_of_ble_eq_true rfl) dX1_init_36 dX1_init_39 dX1_init_40 (fun q36_2 u36_2 H locs hpo hP hD hS => ?_)
  have hpo : u36_2 0 = q36_2 := hpo
  subst hpo
  have hP : va_P D vwCl ((h0, .inr (1, [.ref q7, .int 0, .int 0])) :: (q7, .inl (ca 2, 6, .inr (.inr (.inr (.inr ((va_up (va_up (fun _ => none) 0 (some (u36_0 0))) 1 (some (u36_1 0))))))))) :: ((([] ++ gW ca u36_0) ++ gW ca u36_1) ++ gW ca u36_2)) H := hP
  have hD : va_D A ((h0, .inr (1, [.ref q7, .int 0, .int 0])) :: (q7, .inl (ca 2, 6, .inr (.inr (.inr (.inr ((va_up (va_up (fun _ => none) 0 (some (u36_0 0))) 1 (some (u36_1 0))))))))) :: ((([] ++ gW ca u36_0) ++ gW ca u36_1) ++ gW ca u36_2)) := hD
  refine ct_astq (i := 2) S0 hK hP hD hS (q0 := 1) (qk := 24) rfl rfl (by decide) (by decide) dX1_init_43 (fun H locs hP hD hS => ?_)
  have hP : va_P D vwCl ((h0, .inr (1, [.ref q7, .int 0, .int 0])) :: (q7, .inl (ca 2, 6, .inr (.inr (.inr (.inr ((va_up (va_up (va_up (fun _ => none) 0 (some (u36_0 0))) 1 (some (u36_1 0))) 2 (some (u36_2 0))))))))) :: ((([] ++ gW ca u36_0) ++ gW ca u36_1) ++ gW ca u36_2)) H := hP
  have hD : va_D A ((h0, .inr (1, [.ref q7, .int 0, .int 0])) :: (q7, .inl (ca 2, 6, .inr (.inr (.inr (.inr ((va_up (va_up (va_up (fun _ => none) 0 (some (u36_0 0))) 1 (some (u36_1 0))) 2 (some (u36_2 0))))))))) :: ((([] ++ gW ca u36_0) ++ gW ca u36_1) ++ gW ca u36_2)) := hD
  refine lv_iinc (v := nI 3) (lv' := [(1, .int (nI 3)), (0, .ref h0)]) hx hb dX1_init_44 hl (k := 0) rfl (by decide +kernel) (by decide) rfl (fun ls hl => ?_)
  refine lv_goto (tgt := 25) hx hb dX1_init_47 (by decide) ?_
  refine lv_iload_n hx hb dX1_init_25 rfl (lv_at hl 0 rfl) ?_
  refine lv_bipush (v := nI 6) hx hb dX1_init_26 (by decide +kernel) ?_
  refine lv_icmp_ge (tgt := 50) hx hb dX1_init_28 (by decide) (fun h9 => absurd h9 (by decide)) (fun _ => ?_)
  refine lv_aload_n hx hb dX1_init_31 rfl (lv_at hl 1 rfl) ?_
  refine ct_get (v := .ref q7) S0 hK hP (by decide) (k := 0) (by decide) (by exact (ev_fr_w (oc := 1) (i := 11) (ci := 1) (k := 0) (by decide +kernel)).1) rfl dX1_init_32 ?_
  refine lv_iload_n hx hb dX1_init_35 rfl (lv_at hl 0 rfl) ?_
  refine ct_newI (fs := [.null, .null, .null, .null, .null, .null, .null, .null, .null, .null, .int 0, .int 0, .int 0, .int 0, .int 0, .int 0, .int 0]) (ci := 0) (ct_X0 l D ca) S0 hl.1 hK hP hD hS hA hX (by decide) (fun j hj => by
      revert j; decide) rfl ⟨by decide +kernel, by decide +kernel, by decide +kernel⟩ (ev_TBm (by decide +kernel) rfl) (ev_TBm (by decide +kernel) rfl) (ev_TBm (by decide +kernel) rfl) (ev_TBm (by decide +kernel) rfl) (ev_TBm (by decide +kernel) rfl) (ev_TBm (by decide +kernel) rfl) (ev_TBm (by decide +kernel) rfl) ⟨rfl, rfl⟩ ⟨Nat.le_of_ble_eq_true rfl, Nat.le_of_ble_eq_true rfl⟩ ⟨Nat.le_of_ble_eq_true rfl, Nat.le_of_ble_eq_true rfl⟩ (Nat.le_of_ble_eq_true rfl) dX1_init_36 dX1_init_39 dX1_init_40 (fun q36_3 u36_3 H locs hpo hP hD hS => ?_)
  have hpo : u36_3 0 = q36_3 := hpo
  subst hpo
  have hP : va_P D vwCl ((h0, .inr (1, [.ref q7, .int 0, .int 0])) :: (q7, .inl (ca 2, 6, .inr (.inr (.inr (.inr ((va_up (va_up (va_up (fun _ => none) 0 (some (u36_0 0))) 1 (some (u36_1 0))) 2 (some (u36_2 0))))))))) :: (((([] ++ gW ca u36_0) ++ gW ca u36_1) ++ gW ca u36_2) ++ gW ca u36_3)) H := hP
  have hD : va_D A ((h0, .inr (1, [.ref q7, .int 0, .int 0])) :: (q7, .inl (ca 2, 6, .inr (.inr (.inr (.inr ((va_up (va_up (va_up (fun _ => none) 0 (some (u36_0 0))) 1 (some (u36_1 0))) 2 (some (u36_2 0))))))))) :: (((([] ++ gW ca u36_0) ++ gW ca u36_1) ++ gW ca u36_2) ++ gW ca u36_3)) := hD
  refine ct_astq (i := 3) S0 hK hP hD hS (q0 := 1) (qk := 35) rfl rfl (by decide) (by decide) dX1_init_43 (fun H locs hP hD hS => ?_)
  have hP : va_P D vwCl ((h0, .inr (1, [.ref q7, .int 0, .int 0])) :: (q7, .inl (ca 2, 6, .inr (.inr (.inr (.inr ((va_up (va_up (va_up (va_up (fun _ => none) 0 (some (u36_0 0))) 1 (some (u36_1 0))) 2 (some (u36_2 0))) 3 (some (u36_3 0))))))))) :: (((([] ++ gW ca u36_0) ++ gW ca u36_1) ++ gW ca u36_2) ++ gW ca u36_3)) H := hP
  have hD : va_D A ((h0, .inr (1, [.ref q7, .int 0, .int 0])) :: (q7, .inl (ca 2, 6, .inr (.inr (.inr (.inr ((va_up (va_up (va_up (va_up (fun _ => none) 0 (some (u36_0 0))) 1 (some (u36_1 0))) 2 (some (u36_2 0))) 3 (some (u36_3 0))))))))) :: (((([] ++ gW ca u36_0) ++ gW ca u36_1) ++ gW ca u36_2) ++ gW ca u36_3)) := hD
  refine lv_iinc (v := nI 4) (lv' := [(1, .int (nI 4)), (0, .ref h0)]) hx hb dX1_init_44 hl (k := 0) rfl (by decide +kernel) (by decide) rfl (fun ls hl => ?_)
  refine lv_goto (tgt := 25) hx hb dX1_init_47 (by decide) ?_
  refine lv_iload_n hx hb dX1_init_25 rfl (lv_at hl 0 rfl) ?_
  refine lv_bipush (v := nI 6) hx hb dX1_init_26 (by decide +kernel) ?_
  refine lv_icmp_ge (tgt := 50) hx hb dX1_init_28 (by decide) (fun h9 => absurd h9 (by decide)) (fun _ => ?_)
  refine lv_aload_n hx hb dX1_init_31 rfl (lv_at hl 1 rfl) ?_
  refine ct_get (v := .ref q7) S0 hK hP (by decide) (k := 0) (by decide) (by exact (ev_fr_w (oc := 1) (i := 11) (ci := 1) (k := 0) (by decide +kernel)).1) rfl dX1_init_32 ?_
  refine lv_iload_n hx hb dX1_init_35 rfl (lv_at hl 0 rfl) ?_
  refine ct_newI (fs := [.null, .null, .null, .null, .null, .null, .null, .null, .null, .null, .int 0, .int 0, .int 0, .int 0, .int 0, .int 0, .int 0]) (ci := 0) (ct_X0 l D ca) S0 hl.1 hK hP hD hS hA hX (by decide) (fun j hj => by
      revert j; decide) rfl ⟨by decide +kernel, by decide +kernel, by decide +kernel⟩ (ev_TBm (by decide +kernel) rfl) (ev_TBm (by decide +kernel) rfl) (ev_TBm (by decide +kernel) rfl) (ev_TBm (by decide +kernel) rfl) (ev_TBm (by decide +kernel) rfl) (ev_TBm (by decide +kernel) rfl) (ev_TBm (by decide +kernel) rfl) ⟨rfl, rfl⟩ ⟨Nat.le_of_ble_eq_true rfl, Nat.le_of_ble_eq_true rfl⟩ ⟨Nat.le_of_ble_eq_true rfl, Nat.le_of_ble_eq_true rfl⟩ (Nat.le_of_ble_eq_true rfl) dX1_init_36 dX1_init_39 dX1_init_40 (fun q36_4 u36_4 H locs hpo hP hD hS => ?_)
  have hpo : u36_4 0 = q36_4 := hpo
  subst hpo
  have hP : va_P D vwCl ((h0, .inr (1, [.ref q7, .int 0, .int 0])) :: (q7, .inl (ca 2, 6, .inr (.inr (.inr (.inr ((va_up (va_up (va_up (va_up (fun _ => none) 0 (some (u36_0 0))) 1 (some (u36_1 0))) 2 (some (u36_2 0))) 3 (some (u36_3 0))))))))) :: ((((([] ++ gW ca u36_0) ++ gW ca u36_1) ++ gW ca u36_2) ++ gW ca u36_3) ++ gW ca u36_4)) H := hP
  have hD : va_D A ((h0, .inr (1, [.ref q7, .int 0, .int 0])) :: (q7, .inl (ca 2, 6, .inr (.inr (.inr (.inr ((va_up (va_up (va_up (va_up (fun _ => none) 0 (some (u36_0 0))) 1 (some (u36_1 0))) 2 (some (u36_2 0))) 3 (some (u36_3 0))))))))) :: ((((([] ++ gW ca u36_0) ++ gW ca u36_1) ++ gW ca u36_2) ++ gW ca u36_3) ++ gW ca u36_4)) := hD
  refine ct_astq (i := 4) S0 hK hP hD hS (q0 := 1) (qk := 46) rfl rfl (by decide) (by decide) dX1_init_43 (fun H locs hP hD hS => ?_)
  have hP : va_P D vwCl ((h0, .inr (1, [.ref q7, .int 0, .int 0])) :: (q7, .inl (ca 2, 6, .inr (.inr (.inr (.inr ((va_up (va_up (va_up (va_up (va_up (fun _ => none) 0 (some (u36_0 0))) 1 (some (u36_1 0))) 2 (some (u36_2 0))) 3 (some (u36_3 0))) 4 (some (u36_4 0))))))))) :: ((((([] ++ gW ca u36_0) ++ gW ca u36_1) ++ gW ca u36_2) ++ gW ca u36_3) ++ gW ca u36_4)) H := hP
  have hD : va_D A ((h0, .inr (1, [.ref q7, .int 0, .int 0])) :: (q7, .inl (ca 2, 6, .inr (.inr (.inr (.inr ((va_up (va_up (va_up (va_up (va_up (fun _ => none) 0 (some (u36_0 0))) 1 (some (u36_1 0))) 2 (some (u36_2 0))) 3 (some (u36_3 0))) 4 (some (u36_4 0))))))))) :: ((((([] ++ gW ca u36_0) ++ gW ca u36_1) ++ gW ca u36_2) ++ gW ca u36_3) ++ gW ca u36_4)) := hD
  refine lv_iinc (v := nI 5) (lv' := [(1, .int (nI 5)), (0, .ref h0)]) hx hb dX1_init_44 hl (k := 0) rfl (by decide +kernel) (by decide) rfl (fun ls hl => ?_)
  refine lv_goto (tgt := 25) hx hb dX1_init_47 (by decide) ?_
  refine lv_iload_n hx hb dX1_init_25 rfl (lv_at hl 0 rfl) ?_
  refine lv_bipush (v := nI 6) hx hb dX1_init_26 (by decide +kernel) ?_
  refine lv_icmp_ge (tgt := 50) hx hb dX1_init_28 (by decide) (fun h9 => absurd h9 (by decide)) (fun _ => ?_)
  refine lv_aload_n hx hb dX1_init_31 rfl (lv_at hl 1 rfl) ?_
  refine ct_get (v := .ref q7) S0 hK hP (by decide) (k := 0) (by decide) (by exact (ev_fr_w (oc := 1) (i := 11) (ci := 1) (k := 0) (by decide +kernel)).1) rfl dX1_init_32 ?_
  refine lv_iload_n hx hb dX1_init_35 rfl (lv_at hl 0 rfl) ?_
  refine ct_newI (fs := [.null, .null, .null, .null, .null, .null, .null, .null, .null, .null, .int 0, .int 0, .int 0, .int 0, .int 0, .int 0, .int 0]) (ci := 0) (ct_X0 l D ca) S0 hl.1 hK hP hD hS hA hX (by decide) (fun j hj => by
      revert j; decide) rfl ⟨by decide +kernel, by decide +kernel, by decide +kernel⟩ (ev_TBm (by decide +kernel) rfl) (ev_TBm (by decide +kernel) rfl) (ev_TBm (by decide +kernel) rfl) (ev_TBm (by decide +kernel) rfl) (ev_TBm (by decide +kernel) rfl) (ev_TBm (by decide +kernel) rfl) (ev_TBm (by decide +kernel) rfl) ⟨rfl, rfl⟩ ⟨Nat.le_of_ble_eq_true rfl, Nat.le_of_ble_eq_true rfl⟩ ⟨Nat.le_of_ble_eq_true rfl, Nat.le_of_ble_eq_true rfl⟩ (Nat.le_of_ble_eq_true rfl) dX1_init_36 dX1_init_39 dX1_init_40 (fun q36_5 u36_5 H locs hpo hP hD hS => ?_)
  have hpo : u36_5 0 = q36_5 := hpo
  subst hpo
  have hP : va_P D vwCl ((h0, .inr (1, [.ref q7, .int 0, .int 0])) :: (q7, .inl (ca 2, 6, .inr (.inr (.inr (.inr ((va_up (va_up (va_up (va_up (va_up (fun _ => none) 0 (some (u36_0 0))) 1 (some (u36_1 0))) 2 (some (u36_2 0))) 3 (some (u36_3 0))) 4 (some (u36_4 0))))))))) :: (((((([] ++ gW ca u36_0) ++ gW ca u36_1) ++ gW ca u36_2) ++ gW ca u36_3) ++ gW ca u36_4) ++ gW ca u36_5)) H := hP
  have hD : va_D A ((h0, .inr (1, [.ref q7, .int 0, .int 0])) :: (q7, .inl (ca 2, 6, .inr (.inr (.inr (.inr ((va_up (va_up (va_up (va_up (va_up (fun _ => none) 0 (some (u36_0 0))) 1 (some (u36_1 0))) 2 (some (u36_2 0))) 3 (some (u36_3 0))) 4 (some (u36_4 0))))))))) :: (((((([] ++ gW ca u36_0) ++ gW ca u36_1) ++ gW ca u36_2) ++ gW ca u36_3) ++ gW ca u36_4) ++ gW ca u36_5)) := hD
  refine ct_astq (i := 5) S0 hK hP hD hS (q0 := 1) (qk := 57) rfl rfl (by decide) (by decide) dX1_init_43 (fun H locs hP hD hS => ?_)
  have hP : va_P D vwCl ((h0, .inr (1, [.ref q7, .int 0, .int 0])) :: (q7, .inl (ca 2, 6, .inr (.inr (.inr (.inr ((va_up (va_up (va_up (va_up (va_up (va_up (fun _ => none) 0 (some (u36_0 0))) 1 (some (u36_1 0))) 2 (some (u36_2 0))) 3 (some (u36_3 0))) 4 (some (u36_4 0))) 5 (some (u36_5 0))))))))) :: (((((([] ++ gW ca u36_0) ++ gW ca u36_1) ++ gW ca u36_2) ++ gW ca u36_3) ++ gW ca u36_4) ++ gW ca u36_5)) H := hP
  have hD : va_D A ((h0, .inr (1, [.ref q7, .int 0, .int 0])) :: (q7, .inl (ca 2, 6, .inr (.inr (.inr (.inr ((va_up (va_up (va_up (va_up (va_up (va_up (fun _ => none) 0 (some (u36_0 0))) 1 (some (u36_1 0))) 2 (some (u36_2 0))) 3 (some (u36_3 0))) 4 (some (u36_4 0))) 5 (some (u36_5 0))))))))) :: (((((([] ++ gW ca u36_0) ++ gW ca u36_1) ++ gW ca u36_2) ++ gW ca u36_3) ++ gW ca u36_4) ++ gW ca u36_5)) := hD
  refine lv_iinc (v := nI 6) (lv' := [(1, .int (nI 6)), (0, .ref h0)]) hx hb dX1_init_44 hl (k := 0) rfl (by decide +kernel) (by decide) rfl (fun ls hl => ?_)
  refine lv_goto (tgt := 25) hx hb dX1_init_47 (by decide) ?_
  refine lv_iload_n hx hb dX1_init_25 rfl (lv_at hl 0 rfl) ?_
  refine lv_bipush (v := nI 6) hx hb dX1_init_26 (by decide +kernel) ?_
  refine lv_icmp_ge (tgt := 50) hx hb dX1_init_28 (by decide) (fun _ => ?_) (fun h9 => absurd (by decide) h9)
  obtain ⟨U, hU⟩ : ∃ U : Nat → Nat → Nat, U = (fun k => [u36_0, u36_1, u36_2, u36_3, u36_4, u36_5, (fun j => [h0, q7].getD j 0)].getD k (fun _ => 0)) := ⟨_, rfl⟩
  have he : (va_up (va_up (va_up (va_up (va_up (va_up (fun _ => none) 0 (some (u36_0 0))) 1 (some (u36_1 0))) 2 (some (u36_2 0))) 3 (some (u36_3 0))) 4 (some (u36_4 0))) 5 (some (u36_5 0))) = ct_q 6 (fun i => U i 0) := by
    subst hU
    funext i
    match i with
    | 0 => rfl
    | 1 => rfl
    | 2 => rfl
    | 3 => rfl
    | 4 => rfl
    | 5 => rfl
    | i + 6 => simp [va_up, ct_q]
  rw [he] at hP hD
  subst hU
  exact ct_end (post := fun u : Nat → Nat → Nat => u 6 0 = h0) (w1 := fun u => pW ca u) S0 hr hlocks (fun k => [u36_0, u36_1, u36_2, u36_3, u36_4, u36_5, (fun j => [h0, q7].getD j 0)].getD k (fun _ => 0)) rfl hP hD hS (Nat.le_of_ble_eq_true rfl) (Nat.le_of_ble_eq_true rfl) dX1_init_50

section CtMna
variable {p : Program} {l : Launch} {e : Env} {R : Room} {s : State} {m : MethodId} {args : Array Value} {below : List Frame} {meth : Method} {c : Code} {H : Heap} {locs : List Loc} {cells slots : Nat} {Q : State → Prop}
variable {cc : ByteArray} {pc : Nat} {ls : Array Slot} {rest : List Value} {D : va_G} {ca : Nat → ClassId} {A : Nat → Prop} {ws : va_W} {own : String} {nL r3 : Nat}
/-- ten rows of ten ints -/
theorem ct_mna {ik : Nat} (S0 : CallFix p m c cc nL s args ev_TB own) (hX : ct_X A r3 s s.heap) (hK : va_K D vwCl (ev_ty ca) s) (hP : va_P D vwCl ws H) (hD : va_D A ws) (hS : va_S A s.heap H locs) (hA : ∀ q, s.heap.size ≤ q → A q) (g1 : (Cond.classLink own ik "[[I") ∈ ev_TB) (g2 : (Cond.arrayClass .int) ∈ ev_TB) (hcap : cells + (1 + 10) ≤ R.cells ∧ slots + (10 + 10 * 10) ≤ R.slots) (d0 : decode cc pc = .ok (.multianewarray ik 2, 4))
    (kk : ∀ (q : Nat) (r : Nat → Nat) (H1 : Heap), va_P D vwCl ((ws ++ [(q, .inl (ca 4, 10, .inr (.inr (.inr (.inr (ct_q 10 r))))))]) ++ rW ca r) H1 → va_D A ((ws ++ [(q, .inl (ca 4, 10, .inr (.inr (.inr (.inr (ct_q 10 r))))))]) ++ rW ca r) → va_S A s.heap H1 locs → W p l e R s m args below meth c H1 locs (cells + 1 + 10) (slots + 10 + 10 * 10) Q (F0 m (pc + 4) ls (.ref q :: rest))) : W p l e R s m args below meth c H locs cells slots Q (F0 m pc ls (.int (nI 10) :: .int (nI 10) :: rest)) := by
  have hcl : ("[" ++ (FieldType.array .int).toString) = "[[I" := by decide +kernel
  have hcy : s.vm.findClass (FieldType.array .int).toString = some (ca 0) := (hK.2 0 (ca 0, .int) rfl).2
  refine va_mna (X := ws) (L := []) (f := fun _ => .inr (0, [])) (ty := .int) (cy := ca 0) (z := (10, .inl (fun _ => 0))) (N' := 10) (K' := 10) S0.1 S0.2.1 S0.2.2.2.1 (by rw [hcl]; exact S0.2.2.2.2 _ g1) hX.2.1 (S0.2.2.2.2 _ g2) hcy hK (by show va_P D vwCl (ws ++ []) H; rw [List.append_nil]; exact hP) (by show va_D A (ws ++ []); rw [List.append_nil]; exact hD) hS hA (nI_pos (by decide)) (nI_pos (by decide)) (nI_clamp (by decide)) (nI_clamp (by decide)) (by decide) (by decide) (by decide) rfl rfl hcap.1 hcap.2 (fun c => by show ({ cls := c, slots := Array.replicate 10 (Value.int 0), vm := .none } : Cell) = _; rw [arrV_new]; rfl) d0 (fun q r cA H1 _ _ hK1 hP1 hD1 hS1 => ?_)
  have e9 : va_pl ([] ++ (List.range 10).map r) (vr_up (fun _ => .inr (0, [])) ((List.range 10).map r) (.inl (ca 0, ((10, .inl (fun _ => 0)) : vp_A)))) = rW ca r := by
    unfold va_pl rW
    rw [List.nil_append, List.map_map]
    refine List.map_congr_left fun i hi => ?_
    show (r i, vr_up _ _ _ (r i)) = _
    rw [vr_up_in (List.mem_map.mpr ⟨i, hi, rfl⟩)]
  rw [ct_caA hK1, e9] at hP1 hD1
  exact kk q r H1 hP1 hD1 hS1
end CtMna
set_option maxHeartbeats 4000000 in
set_option maxRecDepth 100000 in
/-- Ways() -/
theorem ct_X4 (l : Launch) (D : va_G) (ca : Nat → ClassId) : ct_M l D ca yX4_init cX4_init 1 ({ frames := 2, cells := 24, slots := 240, locals := 40 }) (.inr (4, [.null, .null, .null, .null])) (fun h0 u => u 0 0 = h0) (fun _ u => yW ca u) 24 240 := by
  refine ct_of (by decide +kernel) (by decide) ?_
  intro p e s m args below meth c A r3 h0 ls S0 hr hin hlocks hK hP hD hA hX hl
  have hx := S0.1
  have hb := S0.2.1
  have hS : va_S A s.heap s.heap [] := va_S.rf
  refine lv_aload_n hx hb dX4_init_0 rfl (lv_at hl 0 rfl) ?_
  refine ct_obj S0 hl.1 (ev_TBm (by decide +kernel) rfl) (Nat.le_of_ble_eq_true rfl) (Nat.le_of_ble_eq_true rfl) dX4_init_1 ?_
  refine lv_aload_n hx hb dX4_init_4 rfl (lv_at hl 0 rfl) ?_
  refine lv_bipush (v := nI 10) hx hb dX4_init_5 (by decide +kernel) ?_
  refine lv_bipush (v := nI 10) hx hb dX4_init_7 (by decide +kernel) ?_
  refine ct_mna S0 hX hK hP hD hS hA (ev_TBm (by decide +kernel) rfl) (ev_TBm (by decide +kernel) rfl) ⟨Nat.le_of_ble_eq_true rfl, Nat.le_of_ble_eq_true rfl⟩ dX4_init_9 (fun q9 r9 H hP hD hS => ?_)
  have hP : va_P D vwCl ((h0, .inr (4, [.null, .null, .null, .null])) :: (([] ++ [(q9, .inl (ca 4, 10, .inr (.inr (.inr (.inr (ct_q 10 r9))))))]) ++ rW ca r9)) H := hP
  have hD : va_D A ((h0, .inr (4, [.null, .null, .null, .null])) :: (([] ++ [(q9, .inl (ca 4, 10, .inr (.inr (.inr (.inr (ct_q 10 r9))))))]) ++ rW ca r9)) := hD
  refine ct_put (ty := .array (.array .int)) (v := .ref q9) S0 hin hK hP hD hS (by decide) (k := 0) (by decide) (by exact (ev_fr_w (oc := 4) (i := 11) (ci := 4) (k := 0) (by decide +kernel)).1) rfl (by decide +kernel) rfl rfl (Nat.le_of_ble_eq_true rfl) dX4_init_13 (fun H locs hP hD hS => ?_)
  have hP : va_P D vwCl ((h0, .inr (4, [.ref q9, .null, .null, .null])) :: (([] ++ [(q9, .inl (ca 4, 10, .inr (.inr (.inr (.inr (ct_q 10 r9))))))]) ++ rW ca r9)) H := hP
  have hD : va_D A ((h0, .inr (4, [.ref q9, .null, .null, .null])) :: (([] ++ [(q9, .inl (ca 4, 10, .inr (.inr (.inr (.inr (ct_q 10 r9))))))]) ++ rW ca r9)) := hD
  refine lv_aload_n hx hb dX4_init_16 rfl (lv_at hl 0 rfl) ?_
  refine lv_bipush (v := nI 10) hx hb dX4_init_17 (by decide +kernel) ?_
  refine lv_bipush (v := nI 10) hx hb dX4_init_19 (by decide +kernel) ?_
  refine ct_mna S0 hX hK hP hD hS hA (ev_TBm (by decide +kernel) rfl) (ev_TBm (by decide +kernel) rfl) ⟨Nat.le_of_ble_eq_true rfl, Nat.le_of_ble_eq_true rfl⟩ dX4_init_21 (fun q21 r21 H hP hD hS => ?_)
  have hP : va_P D vwCl ((h0, .inr (4, [.ref q9, .null, .null, .null])) :: (((([] ++ [(q9, .inl (ca 4, 10, .inr (.inr (.inr (.inr (ct_q 10 r9))))))]) ++ rW ca r9) ++ [(q21, .inl (ca 4, 10, .inr (.inr (.inr (.inr (ct_q 10 r21))))))]) ++ rW ca r21)) H := hP
  have hD : va_D A ((h0, .inr (4, [.ref q9, .null, .null, .null])) :: (((([] ++ [(q9, .inl (ca 4, 10, .inr (.inr (.inr (.inr (ct_q 10 r9))))))]) ++ rW ca r9) ++ [(q21, .inl (ca 4, 10, .inr (.inr (.inr (.inr (ct_q 10 r21))))))]) ++ rW ca r21)) := hD
  refine ct_put (ty := .array (.array .int)) (v := .ref q21) S0 hin hK hP hD hS (by decide) (k := 1) (by decide) (by exact (ev_fr_w (oc := 4) (i := 16) (ci := 4) (k := 1) (by decide +kernel)).1) rfl (by decide +kernel) rfl rfl (Nat.le_of_ble_eq_true rfl) dX4_init_25 (fun H locs hP hD hS => ?_)
  have hP : va_P D vwCl ((h0, .inr (4, [.ref q9, .ref q21, .null, .null])) :: (((([] ++ [(q9, .inl (ca 4, 10, .inr (.inr (.inr (.inr (ct_q 10 r9))))))]) ++ rW ca r9) ++ [(q21, .inl (ca 4, 10, .inr (.inr (.inr (.inr (ct_q 10 r21))))))]) ++ rW ca r21)) H := hP
  have hD : va_D A ((h0, .inr (4, [.ref q9, .ref q21, .null, .null])) :: (((([] ++ [(q9, .inl (ca 4, 10, .inr (.inr (.inr (.inr (ct_q 10 r9))))))]) ++ rW ca r9) ++ [(q21, .inl (ca 4, 10, .inr (.inr (.inr (.inr (ct_q 10 r21))))))]) ++ rW ca r21)) := hD
  refine lv_aload_n hx hb dX4_init_28 rfl (lv_at hl 0 rfl) ?_
  refine lv_bipush (v := nI 10) hx hb dX4_init_29 (by decide +kernel) ?_
  refine ct_newaI (N' := 10) S0 hK hP hD hS hA (ev_TBm (by decide +kernel) rfl) rfl (by decide) ⟨Nat.le_of_ble_eq_true rfl, Nat.le_of_ble_eq_true rfl⟩ dX4_init_31 (fun q31 H hP hD hS => ?_)
  have hP : va_P D vwCl ((h0, .inr (4, [.ref q9, .ref q21, .null, .null])) :: ((((([] ++ [(q9, .inl (ca 4, 10, .inr (.inr (.inr (.inr (ct_q 10 r9))))))]) ++ rW ca r9) ++ [(q21, .inl (ca 4, 10, .inr (.inr (.inr (.inr (ct_q 10 r21))))))]) ++ rW ca r21) ++ [(q31, .inl (ca 0, 10, .inl (fun _ => 0)))])) H := hP
  have hD : va_D A ((h0, .inr (4, [.ref q9, .ref q21, .null, .null])) :: ((((([] ++ [(q9, .inl (ca 4, 10, .inr (.inr (.inr (.inr (ct_q 10 r9))))))]) ++ rW ca r9) ++ [(q21, .inl (ca 4, 10, .inr (.inr (.inr (.inr (ct_q 10 r21))))))]) ++ rW ca r21) ++ [(q31, .inl (ca 0, 10, .inl (fun _ => 0)))])) := hD
  refine ct_put (ty := .array .int) (v := .ref q31) S0 hin hK hP hD hS (by decide) (k := 2) (by decide) (by exact (ev_fr_w (oc := 4) (i := 19) (ci := 4) (k := 2) (by decide +kernel)).1) rfl (by decide +kernel) rfl rfl (Nat.le_of_ble_eq_true rfl) dX4_init_33 (fun H locs hP hD hS => ?_)
  have hP : va_P D vwCl ((h0, .inr (4, [.ref q9, .ref q21, .ref q31, .null])) :: ((((([] ++ [(q9, .inl (ca 4, 10, .inr (.inr (.inr (.inr (ct_q 10 r9))))))]) ++ rW ca r9) ++ [(q21, .inl (ca 4, 10, .inr (.inr (.inr (.inr (ct_q 10 r21))))))]) ++ rW ca r21) ++ [(q31, .inl (ca 0, 10, .inl (fun _ => 0)))])) H := hP
  have hD : va_D A ((h0, .inr (4, [.ref q9, .ref q21, .ref q31, .null])) :: ((((([] ++ [(q9, .inl (ca 4, 10, .inr (.inr (.inr (.inr (ct_q 10 r9))))))]) ++ rW ca r9) ++ [(q21, .inl (ca 4, 10, .inr (.inr (.inr (.inr (ct_q 10 r21))))))]) ++ rW ca r21) ++ [(q31, .inl (ca 0, 10, .inl (fun _ => 0)))])) := hD
  refine lv_aload_n hx hb dX4_init_36 rfl (lv_at hl 0 rfl) ?_
  refine lv_bipush (v := nI 10) hx hb dX4_init_37 (by decide +kernel) ?_
  refine ct_newaZ (N' := 10) S0 hK hP hD hS hA (ev_TBm (by decide +kernel) rfl) rfl (by decide) ⟨Nat.le_of_ble_eq_true rfl, Nat.le_of_ble_eq_true rfl⟩ dX4_init_39 (fun q39 H hP hD hS => ?_)
  have hP : va_P D vwCl ((h0, .inr (4, [.ref q9, .ref q21, .ref q31, .null])) :: (((((([] ++ [(q9, .inl (ca 4, 10, .inr (.inr (.inr (.inr (ct_q 10 r9))))))]) ++ rW ca r9) ++ [(q21, .inl (ca 4, 10, .inr (.inr (.inr (.inr (ct_q 10 r21))))))]) ++ rW ca r21) ++ [(q31, .inl (ca 0, 10, .inl (fun _ => 0)))]) ++ [(q39, .inl (ca 1, 10, .inl (fun _ => 0)))])) H := hP
  have hD : va_D A ((h0, .inr (4, [.ref q9, .ref q21, .ref q31, .null])) :: (((((([] ++ [(q9, .inl (ca 4, 10, .inr (.inr (.inr (.inr (ct_q 10 r9))))))]) ++ rW ca r9) ++ [(q21, .inl (ca 4, 10, .inr (.inr (.inr (.inr (ct_q 10 r21))))))]) ++ rW ca r21) ++ [(q31, .inl (ca 0, 10, .inl (fun _ => 0)))]) ++ [(q39, .inl (ca 1, 10, .inl (fun _ => 0)))])) := hD
  refine ct_put (ty := .array .boolean) (v := .ref q39) S0 hin hK hP hD hS (by decide) (k := 3) (by decide) (by exact (ev_fr_w (oc := 4) (i := 23) (ci := 4) (k := 3) (by decide +kernel)).1) rfl (by decide +kernel) rfl rfl (Nat.le_of_ble_eq_true rfl) dX4_init_41 (fun H locs hP hD hS => ?_)
  have hP : va_P D vwCl ((h0, .inr (4, [.ref q9, .ref q21, .ref q31, .ref q39])) :: (((((([] ++ [(q9, .inl (ca 4, 10, .inr (.inr (.inr (.inr (ct_q 10 r9))))))]) ++ rW ca r9) ++ [(q21, .inl (ca 4, 10, .inr (.inr (.inr (.inr (ct_q 10 r21))))))]) ++ rW ca r21) ++ [(q31, .inl (ca 0, 10, .inl (fun _ => 0)))]) ++ [(q39, .inl (ca 1, 10, .inl (fun _ => 0)))])) H := hP
  have hD : va_D A ((h0, .inr (4, [.ref q9, .ref q21, .ref q31, .ref q39])) :: (((((([] ++ [(q9, .inl (ca 4, 10, .inr (.inr (.inr (.inr (ct_q 10 r9))))))]) ++ rW ca r9) ++ [(q21, .inl (ca 4, 10, .inr (.inr (.inr (.inr (ct_q 10 r21))))))]) ++ rW ca r21) ++ [(q31, .inl (ca 0, 10, .inl (fun _ => 0)))]) ++ [(q39, .inl (ca 1, 10, .inl (fun _ => 0)))])) := hD
  exact ct_end (post := fun u : Nat → Nat → Nat => u 0 0 = h0) (w1 := fun u => yW ca u) S0 hr hlocks (fun k => [(fun j => [h0, q9, q21, q31, q39].getD j 0), r9, r21].getD k (fun _ => 0)) rfl hP hD hS (Nat.le_of_ble_eq_true rfl) (Nat.le_of_ble_eq_true rfl) dX4_init_44

