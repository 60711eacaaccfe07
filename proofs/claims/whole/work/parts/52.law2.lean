/-! the law's loop -/
theorem lw_and31 (x : Int32) : ∃ j, j < 32 ∧ x &&& nI 31 = nI j := pk_andE x (m := nI 31) 5 (by decide)
theorem lw_h4 {L j : Nat} (hL : L ≤ 2048) (hj : 4 * j ≤ L + 3) (c : ¬ (nI L - nI 4 < nI (4 * j))) : 4 * j + 4 ≤ L := by
  rcases Nat.lt_or_ge L (4 * j + 4) with q | q
  · refine absurd ?_ c
    have e := pk_sub_toInt (a := L) (b := 4) (by omega) (by omega)
    rw [Int32.lt_iff_toInt_lt, e, nI_toInt (by omega)]
    omega
  · exact q
set_option maxHeartbeats 4000000 in
set_option maxRecDepth 20000 in
theorem law_sw {d L i a : Nat} {xs : Nat → Int32} {μ : ev_M} {S : gS} (hd : 20 ≤ d) (hi : i + 4 ≤ L) (hL : L ≤ 2048) (ha : a + 1 ≤ 512) (h : gLS μ S) (k : ∀ (μ2 : ev_M) (S2 : gS) (a2 : Nat), a2 ≤ a + 1 → gLS μ2 S2 → lwS d L xs 1383 (lwL i) [] μ2 a2) : ∀ n : Nat, n < 32 → lwS d L xs 39 (lwL i) [.int (nI n)] μ a := by
  intro n hn
  match n, hn with
  | 0, _ => exact es_tabin (pc := 39) (tgt := 152) (off := 113) dL_law_39 (by decide) (by decide) (by decide) (by decide) (law_c0 hd hi hL ha h k)
  | 1, _ => exact es_tabin (pc := 39) (tgt := 220) (off := 181) dL_law_39 (by decide) (by decide) (by decide) (by decide) (law_c1 hd hi hL ha h k)
  | 2, _ => exact es_tabin (pc := 39) (tgt := 288) (off := 249) dL_law_39 (by decide) (by decide) (by decide) (by decide) (law_c2 hd hi hL ha h k)
  | 3, _ => exact es_tabin (pc := 39) (tgt := 356) (off := 317) dL_law_39 (by decide) (by decide) (by decide) (by decide) (law_c3 hd hi hL ha h k)
  | 4, _ => exact es_tabin (pc := 39) (tgt := 400) (off := 361) dL_law_39 (by decide) (by decide) (by decide) (by decide) (law_c4 hd hi hL ha h k)
  | 5, _ => exact es_tabin (pc := 39) (tgt := 456) (off := 417) dL_law_39 (by decide) (by decide) (by decide) (by decide) (law_c5 hd hi hL ha h k)
  | 6, _ => exact es_tabin (pc := 39) (tgt := 500) (off := 461) dL_law_39 (by decide) (by decide) (by decide) (by decide) (law_c6 hd hi hL ha h k)
  | 7, _ => exact es_tabin (pc := 39) (tgt := 556) (off := 517) dL_law_39 (by decide) (by decide) (by decide) (by decide) (law_c7 hd hi hL ha h k)
  | 8, _ => exact es_tabin (pc := 39) (tgt := 612) (off := 573) dL_law_39 (by decide) (by decide) (by decide) (by decide) (law_c8 hd hi hL ha h k)
  | 9, _ => exact es_tabin (pc := 39) (tgt := 625) (off := 586) dL_law_39 (by decide) (by decide) (by decide) (by decide) (law_c9 hd hi hL ha h k)
  | 10, _ => exact es_tabin (pc := 39) (tgt := 638) (off := 599) dL_law_39 (by decide) (by decide) (by decide) (by decide) (law_c10 hd hi hL ha h k)
  | 11, _ => exact es_tabin (pc := 39) (tgt := 682) (off := 643) dL_law_39 (by decide) (by decide) (by decide) (by decide) (law_c11 hd hi hL ha h k)
  | 12, _ => exact es_tabin (pc := 39) (tgt := 738) (off := 699) dL_law_39 (by decide) (by decide) (by decide) (by decide) (law_c12 hd hi hL ha h k)
  | 13, _ => exact es_tabin (pc := 39) (tgt := 794) (off := 755) dL_law_39 (by decide) (by decide) (by decide) (by decide) (law_c13 hd hi hL ha h k)
  | 14, _ => exact es_tabin (pc := 39) (tgt := 838) (off := 799) dL_law_39 (by decide) (by decide) (by decide) (by decide) (law_c14 hd hi hL ha h k)
  | 15, _ => exact es_tabin (pc := 39) (tgt := 906) (off := 867) dL_law_39 (by decide) (by decide) (by decide) (by decide) (law_c15 hd hi hL ha h k)
  | 16, _ => exact es_tabin (pc := 39) (tgt := 974) (off := 935) dL_law_39 (by decide) (by decide) (by decide) (by decide) (law_c16 hd hi hL ha h k)
  | 17, _ => exact es_tabin (pc := 39) (tgt := 1030) (off := 991) dL_law_39 (by decide) (by decide) (by decide) (by decide) (law_c17 hd hi hL ha h k)
  | 18, _ => exact es_tabin (pc := 39) (tgt := 1086) (off := 1047) dL_law_39 (by decide) (by decide) (by decide) (by decide) (law_c18 hd hi hL ha h k)
  | 19, _ => exact es_tabin (pc := 39) (tgt := 1166) (off := 1127) dL_law_39 (by decide) (by decide) (by decide) (by decide) (law_c19 hd hi hL ha h k)
  | 20, _ => exact es_tabin (pc := 39) (tgt := 1234) (off := 1195) dL_law_39 (by decide) (by decide) (by decide) (by decide) (law_c20 hd hi hL ha h k)
  | 21, _ => exact es_tabin (pc := 39) (tgt := 1302) (off := 1263) dL_law_39 (by decide) (by decide) (by decide) (by decide) (law_c21 hd hi hL ha h k)
  | 22, _ => exact es_tabin (pc := 39) (tgt := 1315) (off := 1276) dL_law_39 (by decide) (by decide) (by decide) (by decide) (law_c22 hd hi hL ha h k)
  | 23, _ => exact es_tabin (pc := 39) (tgt := 1328) (off := 1289) dL_law_39 (by decide) (by decide) (by decide) (by decide) (law_c23 hd hi hL ha h k)
  | 24, _ => exact es_tabin (pc := 39) (tgt := 1369) (off := 1330) dL_law_39 (by decide) (by decide) (by decide) (by decide) (law_c24 hd hi hL ha h k)
  | 25, _ => exact es_tabout (pc := 39) (tgt := 1383) dL_law_39 (by decide) (by decide) (k μ S a (Nat.le_succ a) h)
  | 26, _ => exact es_tabout (pc := 39) (tgt := 1383) dL_law_39 (by decide) (by decide) (k μ S a (Nat.le_succ a) h)
  | 27, _ => exact es_tabout (pc := 39) (tgt := 1383) dL_law_39 (by decide) (by decide) (k μ S a (Nat.le_succ a) h)
  | 28, _ => exact es_tabout (pc := 39) (tgt := 1383) dL_law_39 (by decide) (by decide) (k μ S a (Nat.le_succ a) h)
  | 29, _ => exact es_tabout (pc := 39) (tgt := 1383) dL_law_39 (by decide) (by decide) (k μ S a (Nat.le_succ a) h)
  | 30, _ => exact es_tabout (pc := 39) (tgt := 1383) dL_law_39 (by decide) (by decide) (k μ S a (Nat.le_succ a) h)
  | 31, _ => exact es_tabout (pc := 39) (tgt := 1383) dL_law_39 (by decide) (by decide) (k μ S a (Nat.le_succ a) h)
  | n + 32, h => exact absurd h (by omega)
set_option maxHeartbeats 4000000 in
set_option maxRecDepth 20000 in
theorem law_loop {d L : Nat} {xs : Nat → Int32} (hd : 20 ≤ d) (hL : L ≤ 2048) : ∀ (n j a : Nat) (μ : ev_M) (S : gS), n = 513 - j → a ≤ j → 4 * j ≤ L + 3 → gLS μ S → lwS d L xs 23 (lwL (4 * j)) [] μ a := by
  intro n
  induction n with
  | zero => intro j a μ S hn ha hj h; exfalso; omega
  | succ n ih =>
    intro j a μ S hn ha hj h
    refine es_iload (pc := 23) dL_law_23 rfl ?_
    refine es_aload_n (pc := 25) dL_law_25 rfl ?_
    refine es_slen (pc := 26) dL_law_26 (Nat.succ_pos L) ?_
    refine es_iconstN (pc := 27) 4 dL_law_27 ic_4 ?_
    refine es_isub (pc := 28) dL_law_28 ?_
    refine es_icmp_gt (pc := 29) (tgt := 1389) dL_law_29 (by decide) (fun c => ?_) (fun c => ?_)
    · refine es_iconstN (pc := 1389) 1 dL_law_1389 ic_1 ?_
      refine es_ireturn (pc := 1390) dL_law_1390 rfl rfl (by omega) ?_
      rfl
    · have hi : 4 * j + 4 ≤ L := lw_h4 hL hj c
      have hk : ∀ (μ2 : ev_M) (S2 : gS) (a2 : Nat), a2 ≤ a + 1 → gLS μ2 S2 → lwS d L xs 1383 (lwL (4 * j)) [] μ2 a2 := by
        intro μ2 S2 a2 ha2 h2
        refine es_iincN (pc := 1383) 4 dL_law_1383 ic_4 rfl (ok1_4 rfl) ?_
        refine es_goto (pc := 1386) (tgt := 23) dL_law_1386 (by decide) ?_
        exact ih (j + 1) a2 μ2 S2 (by omega) (by omega) (by omega) h2
      refine es_aload_n (pc := 32) dL_law_32 rfl ?_
      refine es_iload (pc := 33) dL_law_33 rfl ?_
      refine es_sald (pc := 35) dL_law_35 (by show 4 * j + 1 < L + 1; omega) ?_
      refine es_bipushN (pc := 36) 31 dL_law_36 bp_31 ?_
      refine es_iand (pc := 38) dL_law_38 ?_
      obtain ⟨m, hm, he⟩ := lw_and31 (xs (4 * j))
      refine es_top he ?_
      exact law_sw hd hi hL (by omega) h hk m hm
