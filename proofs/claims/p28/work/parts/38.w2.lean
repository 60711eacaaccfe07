/-! behind the constructors: the cells, one by one -/
theorem w_lay0 : ∀ n, n < 9 → ev_lay (44 + 11 * n + 0) = (0, 0, [some (44 + 11 * n + 1), some (44 + 11 * n + 2), some (44 + 11 * n + 3), some (44 + 11 * n + 4), some (44 + 11 * n + 5), some (44 + 11 * n + 6), some (44 + 11 * n + 7), some (44 + 11 * n + 8), some (44 + 11 * n + 9), some (44 + 11 * n + 10), none, none, none, none, none, none, none]) := by decide +kernel
theorem w_lay1 : ∀ n, n < 9 → ev_lay (44 + 11 * n + 1) = (1, 10, []) ∧ ev_lay (44 + 11 * n + 2) = (1, 10, []) := by decide +kernel
theorem w_lay4 : ∀ n, n < 9 → ∀ j, j < 8 → ev_lay (44 + 11 * n + (3 + j)) = (1, 4, []) := by decide +kernel
theorem w_mug {n j : Nat} (hj : j < 11) : w_mu (44 + 11 * n + j) = if j = 3 then ct_fs else fun _ => 0 := by
  unfold w_mu
  rw [if_pos (by omega)]
  by_cases h : j = 3
  · rw [if_pos h, if_pos (by omega)]
  · rw [if_neg h, if_neg (by omega)]
theorem gW_at {ca : Nat → ClassId} {a ad : Nat → Nat} {n : Nat} (hn : n < 9) (ha : ∀ j, j < 11 → ad (44 + 11 * n + j) = a j) : ∀ j, j < 11 → (gW ca a)[j]? = some (ad (44 + 11 * n + j), ev_en ca ad (44 + 11 * n + j) (w_mu (44 + 11 * n + j))) := by
  intro j hj
  rw [ha j hj, w_mug hj]
  match j, hj with
  | 0, _ =>
    rw [ev_en0 (w_lay0 n hn)]
    simp only [ev_fl]
    rw [ha 1 (by decide), ha 2 (by decide), ha 3 (by decide), ha 4 (by decide), ha 5 (by decide), ha 6 (by decide), ha 7 (by decide), ha 8 (by decide), ha 9 (by decide), ha 10 (by decide)]
    rfl
  | 1, _ => rw [ev_en1 (w_lay1 n hn).1]; rfl
  | 2, _ => rw [ev_en1 (w_lay1 n hn).2]; rfl
  | 3, _ => rw [ev_en1 (k := 44 + 11 * n + 3) (w_lay4 n hn 0 (by decide))]; rfl
  | 4, _ => rw [ev_en1 (k := 44 + 11 * n + 4) (w_lay4 n hn 1 (by decide))]; rfl
  | 5, _ => rw [ev_en1 (k := 44 + 11 * n + 5) (w_lay4 n hn 2 (by decide))]; rfl
  | 6, _ => rw [ev_en1 (k := 44 + 11 * n + 6) (w_lay4 n hn 3 (by decide))]; rfl
  | 7, _ => rw [ev_en1 (k := 44 + 11 * n + 7) (w_lay4 n hn 4 (by decide))]; rfl
  | 8, _ => rw [ev_en1 (k := 44 + 11 * n + 8) (w_lay4 n hn 5 (by decide))]; rfl
  | 9, _ => rw [ev_en1 (k := 44 + 11 * n + 9) (w_lay4 n hn 6 (by decide))]; rfl
  | 10, _ => rw [ev_en1 (k := 44 + 11 * n + 10) (w_lay4 n hn 7 (by decide))]; rfl
  | j + 11, h => exact absurd h (by omega)
section WAt
variable {ca : Nat → ClassId} {w : w_T} {b r1 r2 : Nat}
set_option maxRecDepth 20000 in
theorem w_at0 : (w_ws ca w)[0]? = some (w_ad w b r1 r2 0, ev_en ca (w_ad w b r1 r2) 0 (w_mu 0)) := w_cx rfl (by decide)
set_option maxRecDepth 20000 in
theorem w_at1 : (w_ws ca w)[1]? = some (w_ad w b r1 r2 1, ev_en ca (w_ad w b r1 r2) 1 (w_mu 1)) := w_cx (congrArg (fun f => some (w_ad w b r1 r2 1, (.inl (ca 2, 2, .inr (.inr (.inr (.inr f)))) : va_E))) (w_re1 (w := w) (b := b) (r1 := r1) (r2 := r2))) (by decide)
set_option maxRecDepth 20000 in
theorem w_at2 : (w_ws ca w)[2]? = some (w_ad w b r1 r2 2, ev_en ca (w_ad w b r1 r2) 2 (w_mu 2)) := w_cx rfl (by decide)
set_option maxRecDepth 20000 in
theorem w_at3 : (w_ws ca w)[3 + (11 + 0)]? = some (w_ad w b r1 r2 3, ev_en ca (w_ad w b r1 r2) 3 (w_mu 3)) := w_b1 rfl (by decide)
set_option maxRecDepth 20000 in
theorem w_at4 : (w_ws ca w)[3 + (11 + 1)]? = some (w_ad w b r1 r2 4, ev_en ca (w_ad w b r1 r2) 4 (w_mu 4)) := w_b1 (congrArg (fun f => some (w_ad w b r1 r2 4, (.inl (ca 2, 6, .inr (.inr (.inr (.inr f)))) : va_E))) (w_re4 (w := w) (b := b) (r1 := r1) (r2 := r2))) (by decide)
set_option maxRecDepth 20000 in
theorem w_at5 : (w_ws ca w)[3 + (79 + 0)]? = some (w_ad w b r1 r2 5, ev_en ca (w_ad w b r1 r2) 5 (w_mu 5)) := w_b2 rfl (by decide)
set_option maxRecDepth 20000 in
theorem w_at6 : (w_ws ca w)[3 + (79 + 1)]? = some (w_ad w b r1 r2 6, ev_en ca (w_ad w b r1 r2) 6 (w_mu 6)) := w_b2 rfl (by decide)
set_option maxRecDepth 20000 in
theorem w_at7 : (w_ws ca w)[3 + (81 + 0)]? = some (w_ad w b r1 r2 7, ev_en ca (w_ad w b r1 r2) 7 (w_mu 7)) := w_b3 rfl (by decide)
set_option maxRecDepth 20000 in
theorem w_at8 : (w_ws ca w)[3 + (81 + (1 + (0 + 0)))]? = some (w_ad w b r1 r2 8, ev_en ca (w_ad w b r1 r2) 8 (w_mu 8)) := w_b3 (w_y0 (congrArg (fun f => some (w_ad w b r1 r2 8, (.inl (ca 4, 10, .inr (.inr (.inr (.inr f)))) : va_E))) (w_re8 (w := w) (b := b) (r1 := r1) (r2 := r2))) (by decide)) (by decide)
set_option maxRecDepth 20000 in
theorem w_at9 : (w_ws ca w)[3 + (81 + (1 + (11 + 0)))]? = some (w_ad w b r1 r2 9, ev_en ca (w_ad w b r1 r2) 9 (w_mu 9)) := w_b3 (w_y2 (congrArg (fun f => some (w_ad w b r1 r2 9, (.inl (ca 4, 10, .inr (.inr (.inr (.inr f)))) : va_E))) (w_re9 (w := w) (b := b) (r1 := r1) (r2 := r2))) (by decide)) (by decide)
set_option maxRecDepth 20000 in
theorem w_at10 : (w_ws ca w)[3 + (81 + (1 + (22 + 0)))]? = some (w_ad w b r1 r2 10, ev_en ca (w_ad w b r1 r2) 10 (w_mu 10)) := w_b3 (w_y4 rfl (by decide)) (by decide)
set_option maxRecDepth 20000 in
theorem w_at11 : (w_ws ca w)[3 + (81 + (1 + (23 + 0)))]? = some (w_ad w b r1 r2 11, ev_en ca (w_ad w b r1 r2) 11 (w_mu 11)) := w_b3 (w_y5 rfl (by decide)) (by decide)
set_option maxRecDepth 20000 in
theorem w_at12 : (w_ws ca w)[3 + (106 + 0)]? = some (w_ad w b r1 r2 12, ev_en ca (w_ad w b r1 r2) 12 (w_mu 12)) := w_b4 rfl (by decide)
set_option maxRecDepth 20000 in
theorem w_at13 : (w_ws ca w)[3 + (106 + 1)]? = some (w_ad w b r1 r2 13, ev_en ca (w_ad w b r1 r2) 13 (w_mu 13)) := w_b4 rfl (by decide)
theorem w_lay2 : ∀ i, i < 20 → ev_lay (24 + i) = (1, 10, []) := lay24
theorem w_atr24 {i : Nat} (hi : i < 10) : (w_ws ca w)[3 + (81 + (1 + (1 + i)))]? = some (w_ad w b r1 r2 (24 + i), ev_en ca (w_ad w b r1 r2) (24 + i) (w_mu (24 + i))) := by
  refine w_b3 (w_y1 ?_ hi) (by omega)
  rw [w_rr hi, ev_en1 (k := 24 + i) (n := 10) (rs := []) (by have := lay24 (0 + i) (by omega); rwa [show 24 + (0 + i) = 24 + i by omega] at this)]
  have e1 : w_ad w b r1 r2 (24 + i) = w.2.2 1 i := by
    unfold w_ad
    rw [if_neg (by omega), if_pos (by omega), show 24 + i - 24 = i by omega]
  have e2 : w_mu (24 + i) = fun _ => 0 := by
    unfold w_mu
    rw [if_neg (by omega)]
  rw [e1, e2]
theorem w_atr34 {i : Nat} (hi : i < 10) : (w_ws ca w)[3 + (81 + (1 + (12 + i)))]? = some (w_ad w b r1 r2 (34 + i), ev_en ca (w_ad w b r1 r2) (34 + i) (w_mu (34 + i))) := by
  refine w_b3 (w_y3 ?_ hi) (by omega)
  rw [w_rr hi, ev_en1 (k := 34 + i) (n := 10) (rs := []) (by have := lay24 (10 + i) (by omega); rwa [show 24 + (10 + i) = 34 + i by omega] at this)]
  have e1 : w_ad w b r1 r2 (34 + i) = w.2.2 2 i := by
    unfold w_ad
    rw [if_neg (by omega), if_neg (by omega), if_pos (by omega), show 34 + i - 34 = i by omega]
  have e2 : w_mu (34 + i) = fun _ => 0 := by
    unfold w_mu
    rw [if_neg (by omega)]
  rw [e1, e2]
theorem w_atg0 {j : Nat} (hj : j < 11) : (w_ws ca w)[3 + (0 + j)]? = some (w_ad w b r1 r2 (44 + 11 * 0 + j), ev_en ca (w_ad w b r1 r2) (44 + 11 * 0 + j) (w_mu (44 + 11 * 0 + j))) := by
  refine w_b0 (?_) hj
  refine gW_at (n := 0) (by decide) (fun j hj => ?_) j hj
  show w_ad w b r1 r2 (44 + 11 * 0 + j) = _
  unfold w_ad
  rw [if_neg (by omega), if_neg (by omega), if_neg (by omega), if_pos (by omega), show 44 + 11 * 0 + j - 44 = j by omega]
theorem w_atg1 {j : Nat} (hj : j < 11) : (w_ws ca w)[3 + (108 + j)]? = some (w_ad w b r1 r2 (44 + 11 * 1 + j), ev_en ca (w_ad w b r1 r2) (44 + 11 * 1 + j) (w_mu (44 + 11 * 1 + j))) := by
  refine w_b5 (?_) hj
  refine gW_at (n := 1) (by decide) (fun j hj => ?_) j hj
  show w_ad w b r1 r2 (44 + 11 * 1 + j) = _
  unfold w_ad
  rw [if_neg (by omega), if_neg (by omega), if_neg (by omega), if_neg (by omega), if_pos (by omega), show 44 + 11 * 1 + j - 55 = j by omega]
theorem w_atg2 {j : Nat} (hj : j < 11) : (w_ws ca w)[3 + (119 + j)]? = some (w_ad w b r1 r2 (44 + 11 * 2 + j), ev_en ca (w_ad w b r1 r2) (44 + 11 * 2 + j) (w_mu (44 + 11 * 2 + j))) := by
  refine w_b6 (?_) hj
  refine gW_at (n := 2) (by decide) (fun j hj => ?_) j hj
  show w_ad w b r1 r2 (44 + 11 * 2 + j) = _
  unfold w_ad
  rw [if_neg (by omega), if_neg (by omega), if_neg (by omega), if_neg (by omega), if_neg (by omega), if_pos (by omega), show 44 + 11 * 2 + j - 66 = j by omega]
theorem w_atg3 {j : Nat} (hj : j < 11) : (w_ws ca w)[3 + (11 + (2 + (0 + j)))]? = some (w_ad w b r1 r2 (44 + 11 * 3 + j), ev_en ca (w_ad w b r1 r2) (44 + 11 * 3 + j) (w_mu (44 + 11 * 3 + j))) := by
  refine w_b1 (w_p0 (?_) hj) (by omega)
  refine gW_at (n := 3) (by decide) (fun j hj => ?_) j hj
  show w_ad w b r1 r2 (44 + 11 * 3 + j) = _
  unfold w_ad
  rw [if_neg (by omega), if_neg (by omega), if_neg (by omega), if_neg (by omega), if_neg (by omega), if_neg (by omega), if_pos (by omega), show (44 + 11 * 3 + j - 77) / 11 = 0 by omega, show (44 + 11 * 3 + j - 77) % 11 = j by omega]
theorem w_atg4 {j : Nat} (hj : j < 11) : (w_ws ca w)[3 + (11 + (2 + (11 + j)))]? = some (w_ad w b r1 r2 (44 + 11 * 4 + j), ev_en ca (w_ad w b r1 r2) (44 + 11 * 4 + j) (w_mu (44 + 11 * 4 + j))) := by
  refine w_b1 (w_p1 (?_) hj) (by omega)
  refine gW_at (n := 4) (by decide) (fun j hj => ?_) j hj
  show w_ad w b r1 r2 (44 + 11 * 4 + j) = _
  unfold w_ad
  rw [if_neg (by omega), if_neg (by omega), if_neg (by omega), if_neg (by omega), if_neg (by omega), if_neg (by omega), if_pos (by omega), show (44 + 11 * 4 + j - 77) / 11 = 1 by omega, show (44 + 11 * 4 + j - 77) % 11 = j by omega]
theorem w_atg5 {j : Nat} (hj : j < 11) : (w_ws ca w)[3 + (11 + (2 + (22 + j)))]? = some (w_ad w b r1 r2 (44 + 11 * 5 + j), ev_en ca (w_ad w b r1 r2) (44 + 11 * 5 + j) (w_mu (44 + 11 * 5 + j))) := by
  refine w_b1 (w_p2 (?_) hj) (by omega)
  refine gW_at (n := 5) (by decide) (fun j hj => ?_) j hj
  show w_ad w b r1 r2 (44 + 11 * 5 + j) = _
  unfold w_ad
  rw [if_neg (by omega), if_neg (by omega), if_neg (by omega), if_neg (by omega), if_neg (by omega), if_neg (by omega), if_pos (by omega), show (44 + 11 * 5 + j - 77) / 11 = 2 by omega, show (44 + 11 * 5 + j - 77) % 11 = j by omega]
theorem w_atg6 {j : Nat} (hj : j < 11) : (w_ws ca w)[3 + (11 + (2 + (33 + j)))]? = some (w_ad w b r1 r2 (44 + 11 * 6 + j), ev_en ca (w_ad w b r1 r2) (44 + 11 * 6 + j) (w_mu (44 + 11 * 6 + j))) := by
  refine w_b1 (w_p3 (?_) hj) (by omega)
  refine gW_at (n := 6) (by decide) (fun j hj => ?_) j hj
  show w_ad w b r1 r2 (44 + 11 * 6 + j) = _
  unfold w_ad
  rw [if_neg (by omega), if_neg (by omega), if_neg (by omega), if_neg (by omega), if_neg (by omega), if_neg (by omega), if_pos (by omega), show (44 + 11 * 6 + j - 77) / 11 = 3 by omega, show (44 + 11 * 6 + j - 77) % 11 = j by omega]
theorem w_atg7 {j : Nat} (hj : j < 11) : (w_ws ca w)[3 + (11 + (2 + (44 + j)))]? = some (w_ad w b r1 r2 (44 + 11 * 7 + j), ev_en ca (w_ad w b r1 r2) (44 + 11 * 7 + j) (w_mu (44 + 11 * 7 + j))) := by
  refine w_b1 (w_p4 (?_) hj) (by omega)
  refine gW_at (n := 7) (by decide) (fun j hj => ?_) j hj
  show w_ad w b r1 r2 (44 + 11 * 7 + j) = _
  unfold w_ad
  rw [if_neg (by omega), if_neg (by omega), if_neg (by omega), if_neg (by omega), if_neg (by omega), if_neg (by omega), if_pos (by omega), show (44 + 11 * 7 + j - 77) / 11 = 4 by omega, show (44 + 11 * 7 + j - 77) % 11 = j by omega]
theorem w_atg8 {j : Nat} (hj : j < 11) : (w_ws ca w)[3 + (11 + (2 + (55 + j)))]? = some (w_ad w b r1 r2 (44 + 11 * 8 + j), ev_en ca (w_ad w b r1 r2) (44 + 11 * 8 + j) (w_mu (44 + 11 * 8 + j))) := by
  refine w_b1 (w_p5 (?_) hj) (by omega)
  refine gW_at (n := 8) (by decide) (fun j hj => ?_) j hj
  show w_ad w b r1 r2 (44 + 11 * 8 + j) = _
  unfold w_ad
  rw [if_neg (by omega), if_neg (by omega), if_neg (by omega), if_neg (by omega), if_neg (by omega), if_neg (by omega), if_pos (by omega), show (44 + 11 * 8 + j - 77) / 11 = 5 by omega, show (44 + 11 * 8 + j - 77) % 11 = j by omega]
theorem w_at : ∀ k, ev_in k → (w_ws ca w)[w_g k]? = some (w_ad w b r1 r2 k, ev_en ca (w_ad w b r1 r2) k (w_mu k)) := by
  intro k hin
  obtain ⟨hk, h14⟩ := hin
  by_cases h24 : k < 24
  · have h14 : k < 14 := by omega
    match k, h14 with
    | 0, _ => exact w_at0
    | 1, _ => exact w_at1
    | 2, _ => exact w_at2
    | 3, _ => exact w_at3
    | 4, _ => exact w_at4
    | 5, _ => exact w_at5
    | 6, _ => exact w_at6
    | 7, _ => exact w_at7
    | 8, _ => exact w_at8
    | 9, _ => exact w_at9
    | 10, _ => exact w_at10
    | 11, _ => exact w_at11
    | 12, _ => exact w_at12
    | 13, _ => exact w_at13
    | k + 14, h => exact absurd h (by omega)
  by_cases h34 : k < 34
  · obtain ⟨i, rfl⟩ : ∃ i, k = 24 + i := ⟨k - 24, by omega⟩
    rw [show w_g (24 + i) = 3 + (81 + (1 + (1 + i))) by unfold w_g; rw [if_neg h24, if_pos h34]; omega]
    exact w_atr24 (by omega)
  by_cases h44 : k < 44
  · obtain ⟨i, rfl⟩ : ∃ i, k = 34 + i := ⟨k - 34, by omega⟩
    rw [show w_g (34 + i) = 3 + (81 + (1 + (12 + i))) by unfold w_g; rw [if_neg h24, if_neg h34, if_pos h44]; omega]
    exact w_atr34 (by omega)
  obtain ⟨n, j, hn, hj, rfl⟩ : ∃ n j, n < 9 ∧ j < 11 ∧ k = 44 + 11 * n + j := ⟨(k - 44) / 11, (k - 44) % 11, by omega, by omega, by omega⟩
  match n, hn with
  | 0, _ =>
    rw [show w_g (44 + 11 * 0 + j) = 3 + (0 + j) by unfold w_g; rw [if_neg (by omega), if_neg (by omega), if_neg (by omega), if_pos (by omega)]; omega]
    exact w_atg0 hj
  | 1, _ =>
    rw [show w_g (44 + 11 * 1 + j) = 3 + (108 + j) by unfold w_g; rw [if_neg (by omega), if_neg (by omega), if_neg (by omega), if_neg (by omega), if_pos (by omega)]; omega]
    exact w_atg1 hj
  | 2, _ =>
    rw [show w_g (44 + 11 * 2 + j) = 3 + (119 + j) by unfold w_g; rw [if_neg (by omega), if_neg (by omega), if_neg (by omega), if_neg (by omega), if_neg (by omega), if_pos (by omega)]; omega]
    exact w_atg2 hj
  | 3, _ =>
    rw [show w_g (44 + 11 * 3 + j) = 3 + (11 + (2 + (0 + j))) by unfold w_g; rw [if_neg (by omega), if_neg (by omega), if_neg (by omega), if_neg (by omega), if_neg (by omega), if_neg (by omega)]; omega]
    exact w_atg3 hj
  | 4, _ =>
    rw [show w_g (44 + 11 * 4 + j) = 3 + (11 + (2 + (11 + j))) by unfold w_g; rw [if_neg (by omega), if_neg (by omega), if_neg (by omega), if_neg (by omega), if_neg (by omega), if_neg (by omega)]; omega]
    exact w_atg4 hj
  | 5, _ =>
    rw [show w_g (44 + 11 * 5 + j) = 3 + (11 + (2 + (22 + j))) by unfold w_g; rw [if_neg (by omega), if_neg (by omega), if_neg (by omega), if_neg (by omega), if_neg (by omega), if_neg (by omega)]; omega]
    exact w_atg5 hj
  | 6, _ =>
    rw [show w_g (44 + 11 * 6 + j) = 3 + (11 + (2 + (33 + j))) by unfold w_g; rw [if_neg (by omega), if_neg (by omega), if_neg (by omega), if_neg (by omega), if_neg (by omega), if_neg (by omega)]; omega]
    exact w_atg6 hj
  | 7, _ =>
    rw [show w_g (44 + 11 * 7 + j) = 3 + (11 + (2 + (44 + j))) by unfold w_g; rw [if_neg (by omega), if_neg (by omega), if_neg (by omega), if_neg (by omega), if_neg (by omega), if_neg (by omega)]; omega]
    exact w_atg7 hj
  | 8, _ =>
    rw [show w_g (44 + 11 * 8 + j) = 3 + (11 + (2 + (55 + j))) by unfold w_g; rw [if_neg (by omega), if_neg (by omega), if_neg (by omega), if_neg (by omega), if_neg (by omega), if_neg (by omega)]; omega]
    exact w_atg8 hj
  | n + 9, h => exact absurd h (by omega)
theorem w_P {D : va_G} {H : Heap} (h : va_P D vwCl (w_ws ca w) H) : va_P D vwCl (ev_wl ca (w_ad w b r1 r2) w_mu) H := h.by (fun j => w_g (ev_id j)) (fun k x hx => by
  obtain ⟨hk, rfl⟩ := ev_wl_inv hx
  exact w_at _ (ev_id_in hk).1)
theorem w_inj : ∀ i, i < 133 → ∀ j, j < 133 → w_g (ev_id i) = w_g (ev_id j) → i = j := by decide +kernel
theorem w_D {A : Nat → Prop} (h : va_D A (w_ws ca w)) : va_D A (ev_wl ca (w_ad w b r1 r2) w_mu) := h.by (fun j => w_g (ev_id j)) (fun k x hx => by
  obtain ⟨hk, rfl⟩ := ev_wl_inv hx
  exact w_at _ (ev_id_in hk).1) (fun i j hi hj e => by
  have l : (ev_wl ca (w_ad w b r1 r2) w_mu).length = 133 := by simp [ev_wl]
  rw [l] at hi hj
  exact w_inj i hi j hj e)
end WAt
