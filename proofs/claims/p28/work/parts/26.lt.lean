/-! towers: what the law counts, and what the class answers -/
def gm_cnt (f : Nat → Bool) : Nat → Int32
  | 0 => nI 0
  | n + 1 => gm_cnt f n + (if f n then nI 1 else nI 0)
theorem bc_all : ∀ b0 b1 b2 b3 b4 b5 b6 b7 b8 b9 : Bool, gm_bc (gm_mask (fun k => [b0, b1, b2, b3, b4, b5, b6, b7, b8, b9].getD k false) 10) = gm_cnt (fun k => [b0, b1, b2, b3, b4, b5, b6, b7, b8, b9].getD k false) 10 := by decide +kernel
theorem gm_cnt_cong {f g : Nat → Bool} : ∀ {n : Nat}, (∀ k, k < n → f k = g k) → gm_cnt f n = gm_cnt g n
  | 0, _ => rfl
  | n + 1, h => by
    show gm_cnt f n + _ = gm_cnt g n + _
    rw [gm_cnt_cong (fun k hk => h k (by omega)), h n (by omega)]
theorem bc_cnt (f : Nat → Bool) : gm_bc (gm_mask f 10) = gm_cnt f 10 := by
  have e : ∀ k, k < 10 → f k = [f 0, f 1, f 2, f 3, f 4, f 5, f 6, f 7, f 8, f 9].getD k false := by
    intro k hk
    rcases (show k = 0 ∨ k = 1 ∨ k = 2 ∨ k = 3 ∨ k = 4 ∨ k = 5 ∨ k = 6 ∨ k = 7 ∨ k = 8 ∨ k = 9 by omega) with rfl | rfl | rfl | rfl | rfl | rfl | rfl | rfl | rfl | rfl <;> rfl
  rw [gm_mask_cong e, gm_cnt_cong e]
  exact bc_all (f 0) (f 1) (f 2) (f 3) (f 4) (f 5) (f 6) (f 7) (f 8) (f 9)
theorem sum_z {f : Nat → Int32} {z : Int32} : ∀ {n : Nat}, gm_sum f z n = z + gm_sum f (nI 0) n
  | 0 => by show z = z + nI 0; rw [nI_0, Int32.add_zero]
  | n + 1 => by
    show gm_sum f z n + f n = z + (gm_sum f (nI 0) n + f n)
    rw [sum_z (n := n), Int32.add_assoc]
theorem sum_two {f g : Nat → Int32} : ∀ {n : Nat}, gm_sum (fun k => f k + g k) (nI 0) n = gm_sum f (nI 0) n + gm_sum g (nI 0) n
  | 0 => by show nI 0 = nI 0 + nI 0; rw [nI_0, Int32.add_zero]
  | n + 1 => by
    show gm_sum (fun k => f k + g k) (nI 0) n + (f n + g n) = gm_sum f (nI 0) n + f n + (gm_sum g (nI 0) n + g n)
    rw [sum_two (n := n)]
    ac_rfl
theorem rGl_two {r : gm_R} : gm_sum (fun p => r (31 + 7 * p + 1) + r (31 + 7 * p + 2)) (nI 0) (rP r) = rGl r := by
  unfold rGl
  rw [sum_two, sum_z (z := gm_sum (fun p => r (31 + 7 * p + 2)) (nI 0) (rP r)), Int32.add_comm]
/-- who is it, told once for each player -/
theorem sum_it {i : Nat} : ∀ {n : Nat}, gm_sum (fun p => bI (decide (i = p))) (nI 0) n = (if i < n then nI 1 else nI 0)
  | 0 => by rw [if_neg (by omega)]; rfl
  | n + 1 => by
    show gm_sum (fun p => bI (decide (i = p))) (nI 0) n + bI (decide (i = n)) = _
    rw [sum_it (n := n)]
    by_cases h : i < n
    · rw [if_pos h, if_pos (by omega), decide_eq_false (by omega)]; rfl
    · by_cases h2 : i = n
      · rw [if_neg h, if_pos (by omega), decide_eq_true h2]; rfl
      · rw [if_neg h, if_neg (by omega), decide_eq_false h2]; rfl
/-- what the law holds of the state: sand, moves and tags add up -/
def sT (r : gm_R) (k n : Nat) : Int32 := gm_sum (fun p => r (31 + 7 * p + k)) (nI 0) n
def INV (r : gm_R) : Prop := rGl r + rTw r = r 10 ∧ sT r 3 (rP r) = r 7 ∧ sT r 4 (rP r) = r 9 ∧ sT r 5 (rP r) = r 9
theorem wf_n {r : gm_R} (hW : WFr r) : r 4 = nI (rP r) ∧ r 6 = nI (rIt r) ∧ (0 < rP r → rIt r < rP r) ∧ r 5 = nI (rOn r) := by
  obtain ⟨P, on, it, br, s0, s1, s2, s3, hh, sd, pl, ab, bl, -, ⟨b0, b1, b2, b3, b4, b5, b6, b7, b8, b9⟩, -⟩ := hW
  unfold rP rIt rOn
  rw [b0, b6, b2, cl_nI (by omega), cl_nI (by omega), cl_nI (by omega)]
  exact ⟨rfl, rfl, b8, rfl⟩
theorem wf_0 {r : gm_R} (hW : WFr r) : (∀ k, k < 10 → ¬ r (21 + k) < 0) ∧ ∀ p, p < 4 → ¬ r (31 + 7 * p + 1) < 0 ∧ ¬ r (31 + 7 * p + 2) < 0 := by
  obtain ⟨P, on, it, br, s0, s1, s2, s3, hh, sd, pl, ab, bl, -, ⟨b0, b1, -⟩, ⟨-, -, c3⟩, ⟨d1, d2, d3, d4, d5⟩, e1, e2, -⟩ := hW
  refine ⟨fun k hk => ?_, fun p hp => ⟨?_, ?_⟩⟩
  · have := nsum_le (f := sd) hk
    rw [c3 k hk]; exact nI_n0 (by omega)
  · have := nsum_le (f := ab) hp
    rw [d3 p hp]; exact nI_n0 (by omega)
  · have := nsum_le (f := bl) hp
    rw [d4 p hp]; exact nI_n0 (by omega)
theorem wf_at {r : gm_R} (hW : WFr r) {p : Nat} (hp : p < 4) : r (31 + 7 * p) = nI (rPl r p) ∧ rPl r p < 10 := by
  refine ⟨?_, wf_pl hW p⟩
  obtain ⟨P, on, it, br, s0, s1, s2, s3, hh, sd, pl, ab, bl, -, -, -, ⟨d1, d2, -⟩, -⟩ := hW
  unfold rPl
  rw [d1 p hp, cl_nI (by have := d2 p; omega)]
theorem P_it {d : Nat} {μ : ev_M} {S : gS} {p : Nat} (hR : RepC μ S) (hW : WFS S) (hp : p < rP S.1 := by omega) (hd : 6 ≤ d := by omega) : ev_CALL d 88 [.ref 0, .int (nI p), .int (nI 3)] μ (some (.int (bI (decide (rIt S.1 = p)))), 0) μ := by
  have h := G_playerOf (w := 3) hR hW hp (by omega) hd
  have h4 := (wf_on hW.1).1
  have hi := wf_n hW.1
  have e : rPlayer S.1 p 3 = bI (decide (rIt S.1 = p)) := by
    show bI (decide (S.1 6 = nI p)) = _
    have := hi.2.2.1 (by omega)
    rw [hi.2.1, decide_eq_decide.mpr (nI_eq (a := rIt S.1) (b := p) (by omega) (by omega))]
  rw [e] at h
  exact h
theorem P_at {d : Nat} {μ : ev_M} {S : gS} {p : Nat} (hR : RepC μ S) (hW : WFS S) (hp : p < rP S.1 := by omega) (hd : 6 ≤ d := by omega) : ev_CALL d 88 [.ref 0, .int (nI p), .int (nI 0)] μ (some (.int (nI (rPl S.1 p))), 0) μ := by
  have h := G_playerOf (w := 0) hR hW hp (by omega) hd
  have h4 := (wf_on hW.1).1
  have e : rPlayer S.1 p 0 = nI (rPl S.1 p) := (wf_at hW.1 (by omega)).1
  rw [e] at h
  exact h
theorem C_0 {d : Nat} {μ : ev_M} {S : gS} (hR : RepC μ S) (hW : WFS S) (hd : 5 ≤ d := by omega) : ev_CALL d 90 [.ref 0, .int (nI 0)] μ (some (.int (nI (rP S.1))), 0) μ := by
  have h := G_count (w := 0) hR hW (by omega) hd
  have e : sNum S 0 = nI (rP S.1) := (wf_n hW.1).1
  rw [e] at h
  exact h
theorem le_n0 {k : Nat} (hk : 0 < k) (h4 : k ≤ 4) : ¬ nI k ≤ 0 := by
  rw [Int32.le_iff_toInt_le, nI_toInt (by omega)]
  show ¬ (k : Int) ≤ 0
  omega
theorem C_2 {d : Nat} {μ : ev_M} {S : gS} (hR : RepC μ S) (hW : WFS S) (hp : 0 < rP S.1 := by omega) (hd : 5 ≤ d := by omega) : ev_CALL d 90 [.ref 0, .int (nI 2)] μ (some (.int (nI (rIt S.1))), 0) μ := by
  have h := G_count (w := 2) hR hW (by omega) hd
  have hi := wf_n hW.1
  have e : sNum S 2 = nI (rIt S.1) := by
    show (if S.1 4 ≤ 0 then (-1 : Int32) else S.1 6) = _
    rw [hi.1, if_neg (le_n0 hp (wf_on hW.1).1), hi.2.1]
  rw [e] at h
  exact h
theorem bI_1 {b : Bool} : bI b = nI 1 ↔ b = true := by cases b <;> decide
theorem msk_t {f : Nat → Bool} {m : Int32} {k : Nat} (hm : m = gm_mask f k) (h : f k = true) : m ||| (nI 1 <<< (nI k &&& 31)) = gm_mask f (k + 1) := by rw [hm, gm_mask_t h]
theorem msk_f {f : Nat → Bool} {m : Int32} {k : Nat} (hm : m = gm_mask f k) (h : f k = false) : m ||| nI 0 = gm_mask f (k + 1) := by rw [hm, gm_mask_f h, nI_0, Int32.or_zero]
theorem cnt_t {f : Nat → Bool} {m : Int32} {k : Nat} (hm : m = gm_cnt f k) (h : f k = true) : m + nI 1 = gm_cnt f (k + 1) := by
  show _ = gm_cnt f k + (if f k then nI 1 else nI 0)
  rw [hm, if_pos h]
theorem cnt_f {f : Nat → Bool} {m : Int32} {k : Nat} (hm : m = gm_cnt f k) (h : f k = false) : m + nI 0 = gm_cnt f (k + 1) := by
  show _ = gm_cnt f k + (if f k then nI 1 else nI 0)
  rw [hm, if_neg (by rw [h]; decide)]
theorem look_gt {c : Nat → Int32} {t l : Nat} {m x : Int32} (h : gm_look c t = (l, m)) (hx : x = c t) (hc : ¬ x ≤ m) : gm_look c (t + 1) = (t, x) := by
  unfold gm_look
  rw [h, if_pos (by rw [← hx]; exact Int32.not_le.mp hc), hx]
theorem look_le {c : Nat → Int32} {t l : Nat} {m x : Int32} (h : gm_look c t = (l, m)) (hx : x = c t) (hc : x ≤ m) : gm_look c (t + 1) = (l, m) := by
  unfold gm_look
  rw [h, if_neg (by rw [← hx]; exact Int32.not_lt.mpr hc)]
set_option maxHeartbeats 2000000 in
set_option maxRecDepth 20000 in
theorem L_towers_ok {d : Nat} {μ : ev_M} {S : gS} (hR : RepC μ S) (hW : WFS S) (hI : INV S.1) (hd : 7 ≤ d := by omega) : ev_CALL d 177 [.ref 0] μ (some (.int (bI true)), 0) μ := by
  obtain ⟨d, rfl⟩ : ∃ q, d = q + 1 := ⟨d - 1, by omega⟩
  refine SPp.of (Nat.le_of_ble_eq_true rfl) ?_
  show es (ev_CALL d) 9 cL_towers (some .boolean) 0 (0, fun _ => 0, []) (fun r μ2 => r = (some (.int (bI true)), 0) ∧ μ2 = μ) 0 [.ref 0, .null, .null, .null, .null, .null, .null, .null, .null, .null, .null] [] μ 0
  obtain ⟨hi1, hi2, hi3, hi5⟩ := wf_n hW.1
  obtain ⟨h4, hon4, hon⟩ := wf_on hW.1
  obtain ⟨z1, z2⟩ := wf_0 hW.1
  have hat : ∀ p, p < 4 → rPl S.1 p < 10 := fun p hp => (wf_at hW.1 hp).2
  have hl16 : ∀ (n9 : Nat) (lies most : Int32) (lk t : Nat) (j6 j7 j8 j9 j10 : Value), n9 = 10 - t → (t ≤ 10) → (lies = gm_sum (fun t => S.1 (21 + t)) (nI 0) t) → (gm_look (fun t => gm_cnt (gm_sees (rH S.1) t) 10) t = (lk, most)) → es (ev_CALL d) 9 cL_towers (some .boolean) 0 (0, fun _ => 0, []) (fun r μ2 => r = (some (.int (bI true)), 0) ∧ μ2 = μ) 16 [.ref 0, .int (nI (rP S.1)), .int lies, .int most, .int (nI lk), .int (nI t), j6, j7, j8, j9, j10] [] μ 0 := by
    intro n9
    induction n9 using Nat.strongRecOn with
    | ind n9 ih16 =>
      intro lies most lk t j6 j7 j8 j9 j10 hn9 ht hl hk
      subst hn9
      have ih := ih16
      refine es_iload (pc := 16) dL_towers_16 rfl ?_
      refine es_bipushN (pc := 18) 10 dL_towers_18 bp_10 ?_
      refine es_icmp_geN (pc := 20) 211 dL_towers_20 (by decide) (by omega) (by omega) (fun c20 => ?_) (fun c20 => ?_)
      · have hl229 : ∀ (n9 : Nat) (gl its made tags tagged : Int32) (p : Nat), n9 = rP S.1 - p → (p ≤ rP S.1) → (gl = gm_sum (fun p => S.1 (31 + 7 * p + 1) + S.1 (31 + 7 * p + 2)) (nI 0) p) → (its = gm_sum (fun p => bI (decide (rIt S.1 = p))) (nI 0) p) → (made = sT S.1 3 p) → (tags = sT S.1 4 p) → (tagged = sT S.1 5 p) → es (ev_CALL d) 9 cL_towers (some .boolean) 0 (0, fun _ => 0, []) (fun r μ2 => r = (some (.int (bI true)), 0) ∧ μ2 = μ) 229 [.ref 0, .int (nI (rP S.1)), .int lies, .int most, .int (nI lk), .int gl, .int its, .int made, .int tags, .int tagged, .int (nI p)] [] μ 0 := by
          intro n9
          induction n9 using Nat.strongRecOn with
          | ind n9 ih229 =>
            intro gl its made tags tagged p hn9 hp g1 g2 g3 g4 g5
            subst hn9
            have ih := ih229
            refine es_iload (pc := 229) dL_towers_229 rfl ?_
            refine es_iload_n (pc := 231) dL_towers_231 rfl ?_
            refine es_icmp_geN (pc := 232) 366 dL_towers_232 (by decide) (by omega) (by omega) (fun c232 => ?_) (fun c232 => ?_)
            · obtain rfl : p = rP S.1 := by omega
              obtain rfl : t = 10 := by omega
              have e7 : sNum S 7 = gl := by rw [g1]; exact rGl_two.symm
              have e8 : sNum S 8 = lies := by rw [hl]; rfl
              have e6 : sNum S 6 = lies + gl := by rw [← e7, ← e8]; exact Int32.add_comm _ _
              have e9 : sNum S 6 = sNum S 9 := hI.1
              have eL : rLook S.1 = lk := by
                unfold rLook
                rw [gm_look_cong (g := (fun t => gm_cnt (gm_sees (rH S.1) t) 10)) (fun t ht => bc_cnt _), hk]
              refine es_aload_n (pc := 366) dL_towers_366 rfl ?_
              refine es_bipushN (pc := 367) 7 dL_towers_367 bp_7 ?_
              refine es_cv1_p (pc := 369) dL_towers_369 mr_9_24 rfl rfl (by decide) (by decide) rfl (Nat.le_of_ble_eq_true rfl) (Nat.zero_le _) (G_count hR hW) ?_
              refine es_iload (pc := 372) dL_towers_372 rfl ?_
              refine es_icmp_ne (pc := 374) (tgt := 419) dL_towers_374 (by decide) (fun c374 => ?_) (fun c374 => ?_)
              · exact absurd e7 c374
              · refine es_aload_n (pc := 377) dL_towers_377 rfl ?_
                refine es_bipushN (pc := 378) 8 dL_towers_378 bp_8 ?_
                refine es_cv1_p (pc := 380) dL_towers_380 mr_9_24 rfl rfl (by decide) (by decide) rfl (Nat.le_of_ble_eq_true rfl) (Nat.zero_le _) (G_count hR hW) ?_
                refine es_iload_n (pc := 383) dL_towers_383 rfl ?_
                refine es_icmp_ne (pc := 384) (tgt := 419) dL_towers_384 (by decide) (fun c384 => ?_) (fun c384 => ?_)
                · exact absurd e8 c384
                · refine es_aload_n (pc := 387) dL_towers_387 rfl ?_
                  refine es_bipushN (pc := 388) 6 dL_towers_388 bp_6 ?_
                  refine es_cv1_p (pc := 390) dL_towers_390 mr_9_24 rfl rfl (by decide) (by decide) rfl (Nat.le_of_ble_eq_true rfl) (Nat.zero_le _) (G_count hR hW) ?_
                  refine es_iload_n (pc := 393) dL_towers_393 rfl ?_
                  refine es_iload (pc := 394) dL_towers_394 rfl ?_
                  refine es_iadd (pc := 396) dL_towers_396 ?_
                  refine es_icmp_ne (pc := 397) (tgt := 419) dL_towers_397 (by decide) (fun c397 => ?_) (fun c397 => ?_)
                  · exact absurd e6 c397
                  · refine es_aload_n (pc := 400) dL_towers_400 rfl ?_
                    refine es_bipushN (pc := 401) 6 dL_towers_401 bp_6 ?_
                    refine es_cv1_p (pc := 403) dL_towers_403 mr_9_24 rfl rfl (by decide) (by decide) rfl (Nat.le_of_ble_eq_true rfl) (Nat.zero_le _) (G_count hR hW) ?_
                    refine es_aload_n (pc := 406) dL_towers_406 rfl ?_
                    refine es_bipushN (pc := 407) 9 dL_towers_407 bp_9 ?_
                    refine es_cv1_p (pc := 409) dL_towers_409 mr_9_24 rfl rfl (by decide) (by decide) rfl (Nat.le_of_ble_eq_true rfl) (Nat.zero_le _) (G_count hR hW) ?_
                    refine es_icmp_ne (pc := 412) (tgt := 419) dL_towers_412 (by decide) (fun c412 => ?_) (fun c412 => ?_)
                    · exact absurd e9 c412
                    · refine es_iconstN (pc := 415) 1 dL_towers_415 ic_1 ?_
                      refine es_goto (pc := 416) (tgt := 420) dL_towers_416 (by decide) ?_
                      refine es_istore (pc := 420) dL_towers_420 (ok1_10 rfl) ?_
                      refine es_iload (pc := 422) dL_towers_422 rfl ?_
                      refine es_if_eq (pc := 424) (tgt := 481) dL_towers_424 (by decide) (fun c424 => ?_) (fun c424 => ?_)
                      · exact absurd c424 (by decide)
                      · refine es_aload_n (pc := 427) dL_towers_427 rfl ?_
                        refine es_cv0_p (pc := 428) dL_towers_428 mr_9_34 rfl rfl (by decide) (by decide) rfl (Nat.le_of_ble_eq_true rfl) (Nat.zero_le _) (X5_lookout_ok hR hW) ?_
                        refine es_iload (pc := 431) dL_towers_431 rfl ?_
                        refine es_icmp_ne (pc := 433) (tgt := 481) dL_towers_433 (by decide) (fun c433 => ?_) (fun c433 => ?_)
                        · exact absurd (by rw [eL]) c433
                        · refine es_iload (pc := 436) dL_towers_436 rfl ?_
                          refine es_iload_n (pc := 438) dL_towers_438 rfl ?_
                          refine es_if_ne (pc := 439) (tgt := 446) dL_towers_439 (by decide) (fun c439 => ?_) (fun c439 => ?_)
                          · refine es_iconstN (pc := 446) 1 dL_towers_446 ic_1 ?_
                            skip
                            refine es_icmp_ne (pc := 447) (tgt := 481) dL_towers_447 (by decide) (fun c447 => ?_) (fun c447 => ?_)
                            · exact absurd (by rw [g2, sum_it, if_pos (hi3 (by rcases Nat.eq_zero_or_pos (rP S.1) with q | q; exact absurd (by rw [q]; rfl) c439; exact q))]) c447
                            · refine es_iload (pc := 450) dL_towers_450 rfl ?_
                              refine es_aload_n (pc := 452) dL_towers_452 rfl ?_
                              refine es_iconstN (pc := 453) 3 dL_towers_453 ic_3 ?_
                              refine es_cv1_p (pc := 454) dL_towers_454 mr_9_24 rfl rfl (by decide) (by decide) rfl (Nat.le_of_ble_eq_true rfl) (Nat.zero_le _) (G_count hR hW) ?_
                              refine es_icmp_ne (pc := 457) (tgt := 481) dL_towers_457 (by decide) (fun c457 => ?_) (fun c457 => ?_)
                              · exact absurd (by rw [g3]; exact hI.2.1) c457
                              · refine es_iload (pc := 460) dL_towers_460 rfl ?_
                                refine es_aload_n (pc := 462) dL_towers_462 rfl ?_
                                refine es_iconstN (pc := 463) 5 dL_towers_463 ic_5 ?_
                                refine es_cv1_p (pc := 464) dL_towers_464 mr_9_24 rfl rfl (by decide) (by decide) rfl (Nat.le_of_ble_eq_true rfl) (Nat.zero_le _) (G_count hR hW) ?_
                                refine es_icmp_ne (pc := 467) (tgt := 481) dL_towers_467 (by decide) (fun c467 => ?_) (fun c467 => ?_)
                                · exact absurd (by rw [g4]; exact hI.2.2.1) c467
                                · refine es_iload (pc := 470) dL_towers_470 rfl ?_
                                  refine es_iload (pc := 472) dL_towers_472 rfl ?_
                                  refine es_icmp_ne (pc := 474) (tgt := 481) dL_towers_474 (by decide) (fun c474 => ?_) (fun c474 => ?_)
                                  · exact absurd (by rw [g5, g4]; exact hI.2.2.2.trans hI.2.2.1.symm) c474
                                  · refine es_iconstN (pc := 477) 1 dL_towers_477 ic_1 ?_
                                    refine es_goto (pc := 478) (tgt := 482) dL_towers_478 (by decide) ?_
                                    refine es_ireturn (pc := 482) dL_towers_482 rfl (rfl) (by decide) ?_
                                    exact ⟨rfl, rfl⟩
                          · refine es_iconstN (pc := 442) 0 dL_towers_442 ic_0 ?_
                            refine es_goto (pc := 443) (tgt := 447) dL_towers_443 (by decide) ?_
                            skip
                            refine es_icmp_ne (pc := 447) (tgt := 481) dL_towers_447 (by decide) (fun c447 => ?_) (fun c447 => ?_)
                            · exact absurd (by rw [g2, sum_it, if_neg (by have := nI_inj (a := rP S.1) (b := 0) (by omega) (by omega) (c439.trans nI_0.symm); omega)]) c447
                            · refine es_iload (pc := 450) dL_towers_450 rfl ?_
                              refine es_aload_n (pc := 452) dL_towers_452 rfl ?_
                              refine es_iconstN (pc := 453) 3 dL_towers_453 ic_3 ?_
                              refine es_cv1_p (pc := 454) dL_towers_454 mr_9_24 rfl rfl (by decide) (by decide) rfl (Nat.le_of_ble_eq_true rfl) (Nat.zero_le _) (G_count hR hW) ?_
                              refine es_icmp_ne (pc := 457) (tgt := 481) dL_towers_457 (by decide) (fun c457 => ?_) (fun c457 => ?_)
                              · exact absurd (by rw [g3]; exact hI.2.1) c457
                              · refine es_iload (pc := 460) dL_towers_460 rfl ?_
                                refine es_aload_n (pc := 462) dL_towers_462 rfl ?_
                                refine es_iconstN (pc := 463) 5 dL_towers_463 ic_5 ?_
                                refine es_cv1_p (pc := 464) dL_towers_464 mr_9_24 rfl rfl (by decide) (by decide) rfl (Nat.le_of_ble_eq_true rfl) (Nat.zero_le _) (G_count hR hW) ?_
                                refine es_icmp_ne (pc := 467) (tgt := 481) dL_towers_467 (by decide) (fun c467 => ?_) (fun c467 => ?_)
                                · exact absurd (by rw [g4]; exact hI.2.2.1) c467
                                · refine es_iload (pc := 470) dL_towers_470 rfl ?_
                                  refine es_iload (pc := 472) dL_towers_472 rfl ?_
                                  refine es_icmp_ne (pc := 474) (tgt := 481) dL_towers_474 (by decide) (fun c474 => ?_) (fun c474 => ?_)
                                  · exact absurd (by rw [g5, g4]; exact hI.2.2.2.trans hI.2.2.1.symm) c474
                                  · refine es_iconstN (pc := 477) 1 dL_towers_477 ic_1 ?_
                                    refine es_goto (pc := 478) (tgt := 482) dL_towers_478 (by decide) ?_
                                    refine es_ireturn (pc := 482) dL_towers_482 rfl (rfl) (by decide) ?_
                                    exact ⟨rfl, rfl⟩
            · refine es_aload_n (pc := 235) dL_towers_235 rfl ?_
              refine es_iload (pc := 236) dL_towers_236 rfl ?_
              refine es_iconstN (pc := 238) 1 dL_towers_238 ic_1 ?_
              refine es_cv2_p (pc := 239) dL_towers_239 mr_9_31 rfl rfl (by decide) (by decide) rfl (Nat.le_of_ble_eq_true rfl) (Nat.zero_le _) (G_playerOf hR hW) ?_
              refine es_if_lt (pc := 242) (tgt := 289) dL_towers_242 (by decide) (fun c242 => ?_) (fun c242 => ?_)
              · exact absurd c242 (z2 p (by omega)).1
              · refine es_aload_n (pc := 245) dL_towers_245 rfl ?_
                refine es_iload (pc := 246) dL_towers_246 rfl ?_
                refine es_iconstN (pc := 248) 2 dL_towers_248 ic_2 ?_
                refine es_cv2_p (pc := 249) dL_towers_249 mr_9_31 rfl rfl (by decide) (by decide) rfl (Nat.le_of_ble_eq_true rfl) (Nat.zero_le _) (G_playerOf hR hW) ?_
                refine es_if_lt (pc := 252) (tgt := 289) dL_towers_252 (by decide) (fun c252 => ?_) (fun c252 => ?_)
                · exact absurd c252 (z2 p (by omega)).2
                · refine es_aload_n (pc := 255) dL_towers_255 rfl ?_
                  refine es_iload (pc := 256) dL_towers_256 rfl ?_
                  refine es_iconstN (pc := 258) 3 dL_towers_258 ic_3 ?_
                  refine es_cv2_p (pc := 259) dL_towers_259 mr_9_31 rfl rfl (by decide) (by decide) rfl (Nat.le_of_ble_eq_true rfl) (Nat.zero_le _) (P_it hR hW) ?_
                  refine es_iconstN (pc := 262) 1 dL_towers_262 ic_1 ?_
                  refine es_icmp_ne (pc := 263) (tgt := 270) dL_towers_263 (by decide) (fun c263 => ?_) (fun c263 => ?_)
                  · refine es_iconstN (pc := 270) 0 dL_towers_270 ic_0 ?_
                    refine es_aload_n (pc := 271) dL_towers_271 rfl ?_
                    refine es_iconstN (pc := 272) 2 dL_towers_272 ic_2 ?_
                    refine es_cv1_p (pc := 273) dL_towers_273 mr_9_24 rfl rfl (by decide) (by decide) rfl (Nat.le_of_ble_eq_true rfl) (Nat.zero_le _) (C_2 hR hW) ?_
                    refine es_iload (pc := 276) dL_towers_276 rfl ?_
                    refine es_icmp_neN (pc := 278) 285 dL_towers_278 (by decide) (by omega) (by omega) (fun c278 => ?_) (fun c278 => ?_)
                    · refine es_iconstN (pc := 285) 0 dL_towers_285 ic_0 ?_
                      refine es_icmp_eqN (pc := 286) 291 dL_towers_286 (by decide) (by omega) (by omega) (fun c286 => ?_) (fun c286 => ?_)
                      · refine es_iload (pc := 291) dL_towers_291 rfl ?_
                        refine es_aload_n (pc := 293) dL_towers_293 rfl ?_
                        refine es_iload (pc := 294) dL_towers_294 rfl ?_
                        refine es_iconstN (pc := 296) 1 dL_towers_296 ic_1 ?_
                        refine es_cv2_p (pc := 297) dL_towers_297 mr_9_31 rfl rfl (by decide) (by decide) rfl (Nat.le_of_ble_eq_true rfl) (Nat.zero_le _) (G_playerOf hR hW) ?_
                        refine es_aload_n (pc := 300) dL_towers_300 rfl ?_
                        refine es_iload (pc := 301) dL_towers_301 rfl ?_
                        refine es_iconstN (pc := 303) 2 dL_towers_303 ic_2 ?_
                        refine es_cv2_p (pc := 304) dL_towers_304 mr_9_31 rfl rfl (by decide) (by decide) rfl (Nat.le_of_ble_eq_true rfl) (Nat.zero_le _) (G_playerOf hR hW) ?_
                        refine es_iadd (pc := 307) dL_towers_307 ?_
                        refine es_iadd (pc := 308) dL_towers_308 ?_
                        refine es_istore (pc := 309) dL_towers_309 (ok1_5 rfl) ?_
                        refine es_iload (pc := 311) dL_towers_311 rfl ?_
                        refine es_aload_n (pc := 313) dL_towers_313 rfl ?_
                        refine es_iload (pc := 314) dL_towers_314 rfl ?_
                        refine es_iconstN (pc := 316) 3 dL_towers_316 ic_3 ?_
                        refine es_cv2_p (pc := 317) dL_towers_317 mr_9_31 rfl rfl (by decide) (by decide) rfl (Nat.le_of_ble_eq_true rfl) (Nat.zero_le _) (P_it hR hW) ?_
                        refine es_iadd (pc := 320) dL_towers_320 ?_
                        refine es_istore (pc := 321) dL_towers_321 (ok1_6 rfl) ?_
                        refine es_iload (pc := 323) dL_towers_323 rfl ?_
                        refine es_aload_n (pc := 325) dL_towers_325 rfl ?_
                        refine es_iload (pc := 326) dL_towers_326 rfl ?_
                        refine es_iconstN (pc := 328) 4 dL_towers_328 ic_4 ?_
                        refine es_cv2_p (pc := 329) dL_towers_329 mr_9_31 rfl rfl (by decide) (by decide) rfl (Nat.le_of_ble_eq_true rfl) (Nat.zero_le _) (G_playerOf hR hW) ?_
                        refine es_iadd (pc := 332) dL_towers_332 ?_
                        refine es_istore (pc := 333) dL_towers_333 (ok1_7 rfl) ?_
                        refine es_iload (pc := 335) dL_towers_335 rfl ?_
                        refine es_aload_n (pc := 337) dL_towers_337 rfl ?_
                        refine es_iload (pc := 338) dL_towers_338 rfl ?_
                        refine es_iconstN (pc := 340) 5 dL_towers_340 ic_5 ?_
                        refine es_cv2_p (pc := 341) dL_towers_341 mr_9_31 rfl rfl (by decide) (by decide) rfl (Nat.le_of_ble_eq_true rfl) (Nat.zero_le _) (G_playerOf hR hW) ?_
                        refine es_iadd (pc := 344) dL_towers_344 ?_
                        refine es_istore (pc := 345) dL_towers_345 (ok1_8 rfl) ?_
                        refine es_iload (pc := 347) dL_towers_347 rfl ?_
                        refine es_aload_n (pc := 349) dL_towers_349 rfl ?_
                        refine es_iload (pc := 350) dL_towers_350 rfl ?_
                        refine es_bipushN (pc := 352) 6 dL_towers_352 bp_6 ?_
                        refine es_cv2_p (pc := 354) dL_towers_354 mr_9_31 rfl rfl (by decide) (by decide) rfl (Nat.le_of_ble_eq_true rfl) (Nat.zero_le _) (G_playerOf hR hW) ?_
                        refine es_iadd (pc := 357) dL_towers_357 ?_
                        refine es_istore (pc := 358) dL_towers_358 (ok1_9 rfl) ?_
                        refine es_iincN (pc := 360) 1 dL_towers_360 ic_1 rfl (ok1_10 rfl) ?_
                        refine es_goto (pc := 363) (tgt := 229) dL_towers_363 (by decide) ?_
                        exact ih229 _ (by omega) _ _ _ _ _ (p + 1) rfl (by omega) (by rw [g1]; rfl) (by rw [g2]; rfl) (by rw [g3]; rfl) (by rw [g4]; rfl) (by rw [g5]; rfl)
                      · exact absurd rfl c286
                    · exact absurd (bI_1.mpr (decide_eq_true c278)) c263
                  · refine es_iconstN (pc := 266) 1 dL_towers_266 ic_1 ?_
                    refine es_goto (pc := 267) (tgt := 271) dL_towers_267 (by decide) ?_
                    refine es_aload_n (pc := 271) dL_towers_271 rfl ?_
                    refine es_iconstN (pc := 272) 2 dL_towers_272 ic_2 ?_
                    refine es_cv1_p (pc := 273) dL_towers_273 mr_9_24 rfl rfl (by decide) (by decide) rfl (Nat.le_of_ble_eq_true rfl) (Nat.zero_le _) (C_2 hR hW) ?_
                    refine es_iload (pc := 276) dL_towers_276 rfl ?_
                    refine es_icmp_neN (pc := 278) 285 dL_towers_278 (by decide) (by omega) (by omega) (fun c278 => ?_) (fun c278 => ?_)
                    · exact absurd (of_decide_eq_true (bI_1.mp c263)) c278
                    · refine es_iconstN (pc := 281) 1 dL_towers_281 ic_1 ?_
                      refine es_goto (pc := 282) (tgt := 286) dL_towers_282 (by decide) ?_
                      refine es_icmp_eqN (pc := 286) 291 dL_towers_286 (by decide) (by omega) (by omega) (fun c286 => ?_) (fun c286 => ?_)
                      · refine es_iload (pc := 291) dL_towers_291 rfl ?_
                        refine es_aload_n (pc := 293) dL_towers_293 rfl ?_
                        refine es_iload (pc := 294) dL_towers_294 rfl ?_
                        refine es_iconstN (pc := 296) 1 dL_towers_296 ic_1 ?_
                        refine es_cv2_p (pc := 297) dL_towers_297 mr_9_31 rfl rfl (by decide) (by decide) rfl (Nat.le_of_ble_eq_true rfl) (Nat.zero_le _) (G_playerOf hR hW) ?_
                        refine es_aload_n (pc := 300) dL_towers_300 rfl ?_
                        refine es_iload (pc := 301) dL_towers_301 rfl ?_
                        refine es_iconstN (pc := 303) 2 dL_towers_303 ic_2 ?_
                        refine es_cv2_p (pc := 304) dL_towers_304 mr_9_31 rfl rfl (by decide) (by decide) rfl (Nat.le_of_ble_eq_true rfl) (Nat.zero_le _) (G_playerOf hR hW) ?_
                        refine es_iadd (pc := 307) dL_towers_307 ?_
                        refine es_iadd (pc := 308) dL_towers_308 ?_
                        refine es_istore (pc := 309) dL_towers_309 (ok1_5 rfl) ?_
                        refine es_iload (pc := 311) dL_towers_311 rfl ?_
                        refine es_aload_n (pc := 313) dL_towers_313 rfl ?_
                        refine es_iload (pc := 314) dL_towers_314 rfl ?_
                        refine es_iconstN (pc := 316) 3 dL_towers_316 ic_3 ?_
                        refine es_cv2_p (pc := 317) dL_towers_317 mr_9_31 rfl rfl (by decide) (by decide) rfl (Nat.le_of_ble_eq_true rfl) (Nat.zero_le _) (P_it hR hW) ?_
                        refine es_iadd (pc := 320) dL_towers_320 ?_
                        refine es_istore (pc := 321) dL_towers_321 (ok1_6 rfl) ?_
                        refine es_iload (pc := 323) dL_towers_323 rfl ?_
                        refine es_aload_n (pc := 325) dL_towers_325 rfl ?_
                        refine es_iload (pc := 326) dL_towers_326 rfl ?_
                        refine es_iconstN (pc := 328) 4 dL_towers_328 ic_4 ?_
                        refine es_cv2_p (pc := 329) dL_towers_329 mr_9_31 rfl rfl (by decide) (by decide) rfl (Nat.le_of_ble_eq_true rfl) (Nat.zero_le _) (G_playerOf hR hW) ?_
                        refine es_iadd (pc := 332) dL_towers_332 ?_
                        refine es_istore (pc := 333) dL_towers_333 (ok1_7 rfl) ?_
                        refine es_iload (pc := 335) dL_towers_335 rfl ?_
                        refine es_aload_n (pc := 337) dL_towers_337 rfl ?_
                        refine es_iload (pc := 338) dL_towers_338 rfl ?_
                        refine es_iconstN (pc := 340) 5 dL_towers_340 ic_5 ?_
                        refine es_cv2_p (pc := 341) dL_towers_341 mr_9_31 rfl rfl (by decide) (by decide) rfl (Nat.le_of_ble_eq_true rfl) (Nat.zero_le _) (G_playerOf hR hW) ?_
                        refine es_iadd (pc := 344) dL_towers_344 ?_
                        refine es_istore (pc := 345) dL_towers_345 (ok1_8 rfl) ?_
                        refine es_iload (pc := 347) dL_towers_347 rfl ?_
                        refine es_aload_n (pc := 349) dL_towers_349 rfl ?_
                        refine es_iload (pc := 350) dL_towers_350 rfl ?_
                        refine es_bipushN (pc := 352) 6 dL_towers_352 bp_6 ?_
                        refine es_cv2_p (pc := 354) dL_towers_354 mr_9_31 rfl rfl (by decide) (by decide) rfl (Nat.le_of_ble_eq_true rfl) (Nat.zero_le _) (G_playerOf hR hW) ?_
                        refine es_iadd (pc := 357) dL_towers_357 ?_
                        refine es_istore (pc := 358) dL_towers_358 (ok1_9 rfl) ?_
                        refine es_iincN (pc := 360) 1 dL_towers_360 ic_1 rfl (ok1_10 rfl) ?_
                        refine es_goto (pc := 363) (tgt := 229) dL_towers_363 (by decide) ?_
                        exact ih229 _ (by omega) _ _ _ _ _ (p + 1) rfl (by omega) (by rw [g1]; rfl) (by rw [g2]; rfl) (by rw [g3]; rfl) (by rw [g4]; rfl) (by rw [g5]; rfl)
                      · exact absurd rfl c286
        refine es_iconstN (pc := 211) 0 dL_towers_211 ic_0 ?_
        refine es_istore (pc := 212) dL_towers_212 (ok1_5 rfl) ?_
        refine es_iconstN (pc := 214) 0 dL_towers_214 ic_0 ?_
        refine es_istore (pc := 215) dL_towers_215 (ok1_6 rfl) ?_
        refine es_iconstN (pc := 217) 0 dL_towers_217 ic_0 ?_
        refine es_istore (pc := 218) dL_towers_218 (ok1_7 rfl) ?_
        refine es_iconstN (pc := 220) 0 dL_towers_220 ic_0 ?_
        refine es_istore (pc := 221) dL_towers_221 (ok1_8 rfl) ?_
        refine es_iconstN (pc := 223) 0 dL_towers_223 ic_0 ?_
        refine es_istore (pc := 224) dL_towers_224 (ok1_9 rfl) ?_
        refine es_iconstN (pc := 226) 0 dL_towers_226 ic_0 ?_
        refine es_istore (pc := 227) dL_towers_227 (ok1_10 rfl) ?_
        exact hl229 _ _ _ _ _ _ 0 rfl (by omega) rfl rfl rfl rfl rfl
      · have hl35 : ∀ (n9 : Nat) (seen many : Int32) (k : Nat) (j10 : Value), n9 = 10 - k → (k ≤ 10) → (seen = gm_mask (gm_sees (rH S.1) t) k) → (many = gm_cnt (gm_sees (rH S.1) t) k) → es (ev_CALL d) 9 cL_towers (some .boolean) 0 (0, fun _ => 0, []) (fun r μ2 => r = (some (.int (bI true)), 0) ∧ μ2 = μ) 35 [.ref 0, .int (nI (rP S.1)), .int lies, .int most, .int (nI lk), .int (nI t), .int seen, .int many, .int (nI 0), .int (nI k), j10] [] μ 0 := by
          intro n9
          induction n9 using Nat.strongRecOn with
          | ind n9 ih35 =>
            intro seen many k j10 hn9 hk2 hs hc
            subst hn9
            have ih := ih35
            refine es_iload (pc := 35) dL_towers_35 rfl ?_
            refine es_bipushN (pc := 37) 10 dL_towers_37 bp_10 ?_
            refine es_icmp_geN (pc := 39) 91 dL_towers_39 (by decide) (by omega) (by omega) (fun c39 => ?_) (fun c39 => ?_)
            · have hl94 : ∀ (n9 : Nat) (stand : Int32) (p : Nat) (j10 : Value), n9 = rP S.1 - p → (p ≤ rP S.1) → (stand = gm_mask (fun p => decide (rPl S.1 p = t)) p) → es (ev_CALL d) 9 cL_towers (some .boolean) 0 (0, fun _ => 0, []) (fun r μ2 => r = (some (.int (bI true)), 0) ∧ μ2 = μ) 94 [.ref 0, .int (nI (rP S.1)), .int lies, .int most, .int (nI lk), .int (nI t), .int seen, .int many, .int stand, .int (nI p), j10] [] μ 0 := by
                intro n9
                induction n9 using Nat.strongRecOn with
                | ind n9 ih94 =>
                  intro stand p j10 hn9 hp hst
                  subst hn9
                  have ih := ih94
                  refine es_iload (pc := 94) dL_towers_94 rfl ?_
                  refine es_iload_n (pc := 96) dL_towers_96 rfl ?_
                  refine es_icmp_geN (pc := 97) 131 dL_towers_97 (by decide) (by omega) (by omega) (fun c97 => ?_) (fun c97 => ?_)
                  · have hs9 : rTower S.1 t 3 = seen := by rw [hs, show k = 10 by omega]; rfl
                    have hc9 : many = gm_cnt (gm_sees (rH S.1) t) 10 := by rw [hc, show k = 10 by omega]
                    have hst9 : rTower S.1 t 2 = stand := by
                      rw [hst, show p = rP S.1 by omega]
                      exact gm_mask_cong (fun k9 hk9 => by rw [(wf_at hW.1 (show k9 < 4 by omega)).1, decide_eq_decide.mpr (nI_eq (a := rPl S.1 k9) (b := t) (by have := hat k9 (by omega); omega) (by omega))])
                    have hl9 := hl
                    have hk9 := hk
                    refine es_aload_n (pc := 131) dL_towers_131 rfl ?_
                    refine es_iload (pc := 132) dL_towers_132 rfl ?_
                    refine es_iconstN (pc := 134) 3 dL_towers_134 ic_3 ?_
                    refine es_cv2_p (pc := 135) dL_towers_135 mr_9_9 rfl rfl (by decide) (by decide) rfl (Nat.le_of_ble_eq_true rfl) (Nat.zero_le _) (G_tower hR hW) ?_
                    refine es_iload (pc := 138) dL_towers_138 rfl ?_
                    refine es_icmp_ne (pc := 140) (tgt := 165) dL_towers_140 (by decide) (fun c140 => ?_) (fun c140 => ?_)
                    · exact absurd hs9 c140
                    · refine es_aload_n (pc := 143) dL_towers_143 rfl ?_
                      refine es_iload (pc := 144) dL_towers_144 rfl ?_
                      refine es_iconstN (pc := 146) 2 dL_towers_146 ic_2 ?_
                      refine es_cv2_p (pc := 147) dL_towers_147 mr_9_9 rfl rfl (by decide) (by decide) rfl (Nat.le_of_ble_eq_true rfl) (Nat.zero_le _) (G_tower hR hW) ?_
                      refine es_iload (pc := 150) dL_towers_150 rfl ?_
                      refine es_icmp_ne (pc := 152) (tgt := 165) dL_towers_152 (by decide) (fun c152 => ?_) (fun c152 => ?_)
                      · exact absurd hst9 c152
                      · refine es_aload_n (pc := 155) dL_towers_155 rfl ?_
                        refine es_iload (pc := 156) dL_towers_156 rfl ?_
                        refine es_iconstN (pc := 158) 1 dL_towers_158 ic_1 ?_
                        refine es_cv2_p (pc := 159) dL_towers_159 mr_9_9 rfl rfl (by decide) (by decide) rfl (Nat.le_of_ble_eq_true rfl) (Nat.zero_le _) (G_tower hR hW) ?_
                        refine es_if_ge (pc := 162) (tgt := 167) dL_towers_162 (by decide) (fun c162 => ?_) (fun c162 => ?_)
                        · refine es_iload_n (pc := 167) dL_towers_167 rfl ?_
                          refine es_aload_n (pc := 168) dL_towers_168 rfl ?_
                          refine es_iload (pc := 169) dL_towers_169 rfl ?_
                          refine es_iconstN (pc := 171) 1 dL_towers_171 ic_1 ?_
                          refine es_cv2_p (pc := 172) dL_towers_172 mr_9_9 rfl rfl (by decide) (by decide) rfl (Nat.le_of_ble_eq_true rfl) (Nat.zero_le _) (G_tower hR hW) ?_
                          refine es_iadd (pc := 175) dL_towers_175 ?_
                          refine es_istore_n (pc := 176) dL_towers_176 (ok1_2 rfl) ?_
                          refine es_iload (pc := 177) dL_towers_177 rfl ?_
                          refine es_iload_n (pc := 179) dL_towers_179 rfl ?_
                          refine es_icmp_le (pc := 180) (tgt := 188) dL_towers_180 (by decide) (fun c180 => ?_) (fun c180 => ?_)
                          · refine es_iload (pc := 188) dL_towers_188 rfl ?_
                            refine es_istore (pc := 190) dL_towers_190 (ok1_4 rfl) ?_
                            refine es_iload (pc := 192) dL_towers_192 rfl ?_
                            refine es_iload_n (pc := 194) dL_towers_194 rfl ?_
                            refine es_icmp_le (pc := 195) (tgt := 203) dL_towers_195 (by decide) (fun c195 => ?_) (fun c195 => ?_)
                            · refine es_iload_n (pc := 203) dL_towers_203 rfl ?_
                              refine es_istore_n (pc := 204) dL_towers_204 (ok1_3 rfl) ?_
                              refine es_iincN (pc := 205) 1 dL_towers_205 ic_1 rfl (ok1_5 rfl) ?_
                              refine es_goto (pc := 208) (tgt := 16) dL_towers_208 (by decide) ?_
                              exact ih16 _ (by omega) _ _ lk (t + 1) _ _ _ _ _ rfl (by omega) (by rw [hl9]; rfl) (look_le hk9 hc9 c180)
                            · exact absurd c180 c195
                          · refine es_iload (pc := 183) dL_towers_183 rfl ?_
                            refine es_goto (pc := 185) (tgt := 190) dL_towers_185 (by decide) ?_
                            refine es_istore (pc := 190) dL_towers_190 (ok1_4 rfl) ?_
                            refine es_iload (pc := 192) dL_towers_192 rfl ?_
                            refine es_iload_n (pc := 194) dL_towers_194 rfl ?_
                            refine es_icmp_le (pc := 195) (tgt := 203) dL_towers_195 (by decide) (fun c195 => ?_) (fun c195 => ?_)
                            · exact absurd c195 c180
                            · refine es_iload (pc := 198) dL_towers_198 rfl ?_
                              refine es_goto (pc := 200) (tgt := 204) dL_towers_200 (by decide) ?_
                              refine es_istore_n (pc := 204) dL_towers_204 (ok1_3 rfl) ?_
                              refine es_iincN (pc := 205) 1 dL_towers_205 ic_1 rfl (ok1_5 rfl) ?_
                              refine es_goto (pc := 208) (tgt := 16) dL_towers_208 (by decide) ?_
                              exact ih16 _ (by omega) _ _ t (t + 1) _ _ _ _ _ rfl (by omega) (by rw [hl9]; rfl) (look_gt hk9 hc9 c180)
                        · exact absurd (Int32.not_lt.mp (z1 t (by omega))) c162
                  · have hp10 := hat p (by omega)
                    refine es_iload (pc := 100) dL_towers_100 rfl ?_
                    refine es_aload_n (pc := 102) dL_towers_102 rfl ?_
                    refine es_iload (pc := 103) dL_towers_103 rfl ?_
                    refine es_iconstN (pc := 105) 0 dL_towers_105 ic_0 ?_
                    refine es_cv2_p (pc := 106) dL_towers_106 mr_9_31 rfl rfl (by decide) (by decide) rfl (Nat.le_of_ble_eq_true rfl) (Nat.zero_le _) (P_at hR hW) ?_
                    refine es_iload (pc := 109) dL_towers_109 rfl ?_
                    refine es_icmp_neN (pc := 111) 121 dL_towers_111 (by decide) (by omega) (by omega) (fun c111 => ?_) (fun c111 => ?_)
                    · refine es_iconstN (pc := 121) 0 dL_towers_121 ic_0 ?_
                      refine es_ior (pc := 122) dL_towers_122 ?_
                      refine es_istore (pc := 123) dL_towers_123 (ok1_8 rfl) ?_
                      refine es_iincN (pc := 125) 1 dL_towers_125 ic_1 rfl (ok1_9 rfl) ?_
                      refine es_goto (pc := 128) (tgt := 94) dL_towers_128 (by decide) ?_
                      exact ih94 _ (by omega) _ (p + 1) _ rfl (by omega) (msk_f hst (decide_eq_false c111))
                    · refine es_iconstN (pc := 114) 1 dL_towers_114 ic_1 ?_
                      refine es_iload (pc := 115) dL_towers_115 rfl ?_
                      refine es_ishl (pc := 117) dL_towers_117 ?_
                      refine es_goto (pc := 118) (tgt := 122) dL_towers_118 (by decide) ?_
                      refine es_ior (pc := 122) dL_towers_122 ?_
                      refine es_istore (pc := 123) dL_towers_123 (ok1_8 rfl) ?_
                      refine es_iincN (pc := 125) 1 dL_towers_125 ic_1 rfl (ok1_9 rfl) ?_
                      refine es_goto (pc := 128) (tgt := 94) dL_towers_128 (by decide) ?_
                      exact ih94 _ (by omega) _ (p + 1) _ rfl (by omega) (msk_t hst (decide_eq_true c111))
              refine es_iconstN (pc := 91) 0 dL_towers_91 ic_0 ?_
              refine es_istore (pc := 92) dL_towers_92 (ok1_9 rfl) ?_
              exact hl94 _ _ 0 _ rfl (by omega) rfl
            · refine es_aload_n (pc := 42) dL_towers_42 rfl ?_
              refine es_iload (pc := 43) dL_towers_43 rfl ?_
              refine es_iload (pc := 45) dL_towers_45 rfl ?_
              refine es_cs3_p (pc := 47) dL_towers_47 mr_9_27 rfl rfl rfl (Nat.le_of_ble_eq_true rfl) (Nat.zero_le _) (L_sees_ok hR hW) ?_
              refine es_istore (pc := 50) dL_towers_50 (ok1_10 rfl) ?_
              refine es_iload (pc := 52) dL_towers_52 rfl ?_
              refine es_iload (pc := 54) dL_towers_54 rfl ?_
              refine es_if_eqB (pc := 56) 66 dL_towers_56 (by decide) (fun c56 => ?_) (fun c56 => ?_)
              · refine es_iconstN (pc := 66) 0 dL_towers_66 ic_0 ?_
                refine es_ior (pc := 67) dL_towers_67 ?_
                refine es_istore (pc := 68) dL_towers_68 (ok1_6 rfl) ?_
                refine es_iload (pc := 70) dL_towers_70 rfl ?_
                refine es_iload (pc := 72) dL_towers_72 rfl ?_
                refine es_if_eqB (pc := 74) 81 dL_towers_74 (by decide) (fun c74 => ?_) (fun c74 => ?_)
                · refine es_iconstN (pc := 81) 0 dL_towers_81 ic_0 ?_
                  refine es_iadd (pc := 82) dL_towers_82 ?_
                  refine es_istore (pc := 83) dL_towers_83 (ok1_7 rfl) ?_
                  refine es_iincN (pc := 85) 1 dL_towers_85 ic_1 rfl (ok1_9 rfl) ?_
                  refine es_goto (pc := 88) (tgt := 35) dL_towers_88 (by decide) ?_
                  exact ih35 _ (by omega) _ _ (k + 1) _ rfl (by omega) (msk_f hs c56) (cnt_f hc c56)
                · exact absurd (c56.symm.trans c74) (by decide)
              · refine es_iconstN (pc := 59) 1 dL_towers_59 ic_1 ?_
                refine es_iload (pc := 60) dL_towers_60 rfl ?_
                refine es_ishl (pc := 62) dL_towers_62 ?_
                refine es_goto (pc := 63) (tgt := 67) dL_towers_63 (by decide) ?_
                refine es_ior (pc := 67) dL_towers_67 ?_
                refine es_istore (pc := 68) dL_towers_68 (ok1_6 rfl) ?_
                refine es_iload (pc := 70) dL_towers_70 rfl ?_
                refine es_iload (pc := 72) dL_towers_72 rfl ?_
                refine es_if_eqB (pc := 74) 81 dL_towers_74 (by decide) (fun c74 => ?_) (fun c74 => ?_)
                · exact absurd (c56.symm.trans c74) (by decide)
                · refine es_iconstN (pc := 77) 1 dL_towers_77 ic_1 ?_
                  refine es_goto (pc := 78) (tgt := 82) dL_towers_78 (by decide) ?_
                  refine es_iadd (pc := 82) dL_towers_82 ?_
                  refine es_istore (pc := 83) dL_towers_83 (ok1_7 rfl) ?_
                  refine es_iincN (pc := 85) 1 dL_towers_85 ic_1 rfl (ok1_9 rfl) ?_
                  refine es_goto (pc := 88) (tgt := 35) dL_towers_88 (by decide) ?_
                  exact ih35 _ (by omega) _ _ (k + 1) _ rfl (by omega) (msk_t hs c56) (cnt_t hc c56)
        refine es_iconstN (pc := 23) 0 dL_towers_23 ic_0 ?_
        refine es_istore (pc := 24) dL_towers_24 (ok1_6 rfl) ?_
        refine es_iconstN (pc := 26) 0 dL_towers_26 ic_0 ?_
        refine es_istore (pc := 27) dL_towers_27 (ok1_7 rfl) ?_
        refine es_iconstN (pc := 29) 0 dL_towers_29 ic_0 ?_
        refine es_istore (pc := 30) dL_towers_30 (ok1_8 rfl) ?_
        refine es_iconstN (pc := 32) 0 dL_towers_32 ic_0 ?_
        refine es_istore (pc := 33) dL_towers_33 (ok1_9 rfl) ?_
        exact hl35 _ _ _ 0 _ rfl (by omega) rfl rfl
  refine es_aload_n (pc := 0) dL_towers_0 rfl ?_
  refine es_iconstN (pc := 1) 0 dL_towers_1 ic_0 ?_
  refine es_cv1_p (pc := 2) dL_towers_2 mr_9_24 rfl rfl (by decide) (by decide) rfl (Nat.le_of_ble_eq_true rfl) (Nat.zero_le _) (C_0 hR hW) ?_
  refine es_istore_n (pc := 5) dL_towers_5 (ok1_1 rfl) ?_
  refine es_iconstN (pc := 6) 0 dL_towers_6 ic_0 ?_
  refine es_istore_n (pc := 7) dL_towers_7 (ok1_2 rfl) ?_
  refine es_iconstN (pc := 8) 0 dL_towers_8 ic_0 ?_
  refine es_istore_n (pc := 9) dL_towers_9 (ok1_3 rfl) ?_
  refine es_iconstN (pc := 10) 0 dL_towers_10 ic_0 ?_
  refine es_istore (pc := 11) dL_towers_11 (ok1_4 rfl) ?_
  refine es_iconstN (pc := 13) 0 dL_towers_13 ic_0 ?_
  refine es_istore (pc := 14) dL_towers_14 (ok1_5 rfl) ?_
  exact hl16 _ _ _ 0 0 _ _ _ _ _ rfl (by omega) rfl rfl
