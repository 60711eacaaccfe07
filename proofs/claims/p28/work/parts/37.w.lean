/-! behind the constructors: one world of 133 cells -/
abbrev w_T : Type := (Nat → Nat → Nat) × (Nat → Nat → Nat) × (Nat → Nat → Nat)
def w_ad (w : w_T) (b r1 r2 : Nat) : Nat → Nat := fun k => if k < 24 then [w.1 0 0, w.1 0 1, w.1 0 2, w.2.1 6 0, w.2.1 6 1, w.1 4 0, w.1 4 1, w.2.2 0 0, w.2.2 0 1, w.2.2 0 2, w.2.2 0 3, w.2.2 0 4, w.1 5 0, w.1 5 1].getD k 0 else if k < 34 then w.2.2 1 (k - 24) else if k < 44 then w.2.2 2 (k - 34) else if k < 55 then w.1 1 (k - 44) else if k < 66 then w.1 2 (k - 55) else if k < 77 then w.1 3 (k - 66) else if k < 143 then w.2.1 ((k - 77) / 11) ((k - 77) % 11) else if k = 200 then b else if k = 201 then r1 else r2
def w_mu : ev_M := fun k => if 44 ≤ k then (if (k - 44) % 11 = 3 then ct_fs else fun _ => 0) else fun _ => 0
def w_ws (ca : Nat → ClassId) (w : w_T) : va_W := xW ca w
def w_g (k : Nat) : Nat := if k < 24 then [0, 1, 2, 14, 15, 82, 83, 84, 85, 96, 107, 108, 109, 110].getD k 0 else if k < 34 then 86 + (k - 24) else if k < 44 then 97 + (k - 34) else if k < 55 then 3 + (k - 44) else if k < 66 then 111 + (k - 55) else if k < 77 then 122 + (k - 66) else 16 + (k - 77)
theorem w_re1 {w : w_T} {b r1 r2 : Nat} : ct_q 2 (fun i => w.1 (i + 2) 0) = ev_re (w_ad w b r1 r2) [some 55, some 66] := by
  funext i
  match i with
  | 0 => rfl
  | 1 => rfl
  | i + 2 => simp [ev_re, ct_q]
theorem w_re4 {w : w_T} {b r1 r2 : Nat} : ct_q 6 (fun i => w.2.1 i 0) = ev_re (w_ad w b r1 r2) [some 77, some 88, some 99, some 110, some 121, some 132] := by
  funext i
  match i with
  | 0 => rfl
  | 1 => rfl
  | 2 => rfl
  | 3 => rfl
  | 4 => rfl
  | 5 => rfl
  | i + 6 => simp [ev_re, ct_q]
theorem w_re8 {w : w_T} {b r1 r2 : Nat} : ct_q 10 (w.2.2 1) = ev_re (w_ad w b r1 r2) [some 24, some 25, some 26, some 27, some 28, some 29, some 30, some 31, some 32, some 33] := by
  funext i
  match i with
  | 0 => rfl
  | 1 => rfl
  | 2 => rfl
  | 3 => rfl
  | 4 => rfl
  | 5 => rfl
  | 6 => rfl
  | 7 => rfl
  | 8 => rfl
  | 9 => rfl
  | i + 10 => simp [ev_re, ct_q]
theorem w_re9 {w : w_T} {b r1 r2 : Nat} : ct_q 10 (w.2.2 2) = ev_re (w_ad w b r1 r2) [some 34, some 35, some 36, some 37, some 38, some 39, some 40, some 41, some 42, some 43] := by
  funext i
  match i with
  | 0 => rfl
  | 1 => rfl
  | 2 => rfl
  | 3 => rfl
  | 4 => rfl
  | 5 => rfl
  | 6 => rfl
  | 7 => rfl
  | 8 => rfl
  | 9 => rfl
  | i + 10 => simp [ev_re, ct_q]
theorem w_l {X Y : va_W} {x : Option (Nat × va_E)} {i : Nat} (h : X[i]? = x) (hl : i < X.length) : (X ++ Y)[i]? = x := by rw [List.getElem?_append_left hl]; exact h
theorem w_r {X Y : va_W} {x : Option (Nat × va_E)} {i n : Nat} (h : Y[i]? = x) (hl : X.length = n) : (X ++ Y)[n + i]? = x := by rw [List.getElem?_append_right (by omega), hl, Nat.add_sub_cancel_left]; exact h
section WLen
variable {ca : Nat → ClassId} {w : w_T}
theorem w_lg {a : Nat → Nat} : (gW ca a).length = 11 := rfl
theorem w_lt {a : Nat → Nat} : (tW ca a).length = 2 := rfl
theorem w_lk {a : Nat → Nat} : (kW ca a).length = 2 := rfl
theorem w_lr {a : Nat → Nat} : (rW ca a).length = 10 := by simp [rW]
theorem w_lp {u : Nat → Nat → Nat} : (pW ca u).length = 68 := by simp [pW, w_lg]
theorem w_ly {u : Nat → Nat → Nat} : (yW ca u).length = 25 := by simp [yW, w_lr]
theorem w_lx : (xW ca w).length = 133 := by simp [xW, w_lg, w_lt, w_lk, w_lp, w_ly]
theorem w_c3 {a b c : Nat × va_E} {T : va_W} {x : Option (Nat × va_E)} {i : Nat} (h : T[i]? = x) : (a :: b :: c :: T)[3 + i]? = x := by
  rw [show 3 + i = i + 1 + 1 + 1 by omega]
  exact h
theorem w_c2 {a b : Nat × va_E} {T : va_W} {x : Option (Nat × va_E)} {i : Nat} (h : T[i]? = x) : (a :: b :: T)[2 + i]? = x := by
  rw [show 2 + i = i + 1 + 1 by omega]
  exact h
theorem w_c1 {a : Nat × va_E} {T : va_W} {x : Option (Nat × va_E)} {i : Nat} (h : T[i]? = x) : (a :: T)[1 + i]? = x := by
  rw [show 1 + i = i + 1 by omega]
  exact h
theorem w_cx {x : Option (Nat × va_E)} {k : Nat} (h : (xW ca w)[k]? = x) (hk : k < 133) : (w_ws ca w)[k]? = x := h
theorem w_b0 {x : Option (Nat × va_E)} {i : Nat} (h : (gW ca (w.1 1))[i]? = x) (hi : i < 11) : (w_ws ca w)[3 + (0 + i)]? = x := w_cx (w_c3 (w_l (w_l (w_l (w_l (w_l (w_l (w_r h (by simp [List.length_nil, List.length_append, w_lg, w_lp, w_lt, w_ly, w_lk])) (by simp [List.length_nil, List.length_append, w_lg, w_lp, w_lt, w_ly, w_lk]; omega)) (by simp [List.length_nil, List.length_append, w_lg, w_lp, w_lt, w_ly, w_lk]; omega)) (by simp [List.length_nil, List.length_append, w_lg, w_lp, w_lt, w_ly, w_lk]; omega)) (by simp [List.length_nil, List.length_append, w_lg, w_lp, w_lt, w_ly, w_lk]; omega)) (by simp [List.length_nil, List.length_append, w_lg, w_lp, w_lt, w_ly, w_lk]; omega)) (by simp [List.length_nil, List.length_append, w_lg, w_lp, w_lt, w_ly, w_lk]; omega))) (by omega)
theorem w_b1 {x : Option (Nat × va_E)} {i : Nat} (h : (pW ca w.2.1)[i]? = x) (hi : i < 68) : (w_ws ca w)[3 + (11 + i)]? = x := w_cx (w_c3 (w_l (w_l (w_l (w_l (w_l (w_r h (by simp [List.length_nil, List.length_append, w_lg, w_lp, w_lt, w_ly, w_lk])) (by simp [List.length_nil, List.length_append, w_lg, w_lp, w_lt, w_ly, w_lk]; omega)) (by simp [List.length_nil, List.length_append, w_lg, w_lp, w_lt, w_ly, w_lk]; omega)) (by simp [List.length_nil, List.length_append, w_lg, w_lp, w_lt, w_ly, w_lk]; omega)) (by simp [List.length_nil, List.length_append, w_lg, w_lp, w_lt, w_ly, w_lk]; omega)) (by simp [List.length_nil, List.length_append, w_lg, w_lp, w_lt, w_ly, w_lk]; omega))) (by omega)
theorem w_b2 {x : Option (Nat × va_E)} {i : Nat} (h : (tW ca (w.1 4))[i]? = x) (hi : i < 2) : (w_ws ca w)[3 + (79 + i)]? = x := w_cx (w_c3 (w_l (w_l (w_l (w_l (w_r h (by simp [List.length_nil, List.length_append, w_lg, w_lp, w_lt, w_ly, w_lk])) (by simp [List.length_nil, List.length_append, w_lg, w_lp, w_lt, w_ly, w_lk]; omega)) (by simp [List.length_nil, List.length_append, w_lg, w_lp, w_lt, w_ly, w_lk]; omega)) (by simp [List.length_nil, List.length_append, w_lg, w_lp, w_lt, w_ly, w_lk]; omega)) (by simp [List.length_nil, List.length_append, w_lg, w_lp, w_lt, w_ly, w_lk]; omega))) (by omega)
theorem w_b3 {x : Option (Nat × va_E)} {i : Nat} (h : (yW ca w.2.2)[i]? = x) (hi : i < 25) : (w_ws ca w)[3 + (81 + i)]? = x := w_cx (w_c3 (w_l (w_l (w_l (w_r h (by simp [List.length_nil, List.length_append, w_lg, w_lp, w_lt, w_ly, w_lk])) (by simp [List.length_nil, List.length_append, w_lg, w_lp, w_lt, w_ly, w_lk]; omega)) (by simp [List.length_nil, List.length_append, w_lg, w_lp, w_lt, w_ly, w_lk]; omega)) (by simp [List.length_nil, List.length_append, w_lg, w_lp, w_lt, w_ly, w_lk]; omega))) (by omega)
theorem w_b4 {x : Option (Nat × va_E)} {i : Nat} (h : (kW ca (w.1 5))[i]? = x) (hi : i < 2) : (w_ws ca w)[3 + (106 + i)]? = x := w_cx (w_c3 (w_l (w_l (w_r h (by simp [List.length_nil, List.length_append, w_lg, w_lp, w_lt, w_ly, w_lk])) (by simp [List.length_nil, List.length_append, w_lg, w_lp, w_lt, w_ly, w_lk]; omega)) (by simp [List.length_nil, List.length_append, w_lg, w_lp, w_lt, w_ly, w_lk]; omega))) (by omega)
theorem w_b5 {x : Option (Nat × va_E)} {i : Nat} (h : (gW ca (w.1 2))[i]? = x) (hi : i < 11) : (w_ws ca w)[3 + (108 + i)]? = x := w_cx (w_c3 (w_l (w_r h (by simp [List.length_nil, List.length_append, w_lg, w_lp, w_lt, w_ly, w_lk])) (by simp [List.length_nil, List.length_append, w_lg, w_lp, w_lt, w_ly, w_lk]; omega))) (by omega)
theorem w_b6 {x : Option (Nat × va_E)} {i : Nat} (h : (gW ca (w.1 3))[i]? = x) (hi : i < 11) : (w_ws ca w)[3 + (119 + i)]? = x := w_cx (w_c3 (w_r h (by simp [List.length_nil, List.length_append, w_lg, w_lp, w_lt, w_ly, w_lk]))) (by omega)
theorem w_p0 {u : Nat → Nat → Nat} {x : Option (Nat × va_E)} {i : Nat} (h : (gW ca (u 0))[i]? = x) (hi : i < 11) : (pW ca u)[2 + (0 + i)]? = x := w_c2 (w_l (w_l (w_l (w_l (w_l (w_r h (by simp [w_lg])) (by simp [w_lg]; omega)) (by simp [w_lg]; omega)) (by simp [w_lg]; omega)) (by simp [w_lg]; omega)) (by simp [w_lg]; omega))
theorem w_p1 {u : Nat → Nat → Nat} {x : Option (Nat × va_E)} {i : Nat} (h : (gW ca (u 1))[i]? = x) (hi : i < 11) : (pW ca u)[2 + (11 + i)]? = x := w_c2 (w_l (w_l (w_l (w_l (w_r h (by simp [w_lg])) (by simp [w_lg]; omega)) (by simp [w_lg]; omega)) (by simp [w_lg]; omega)) (by simp [w_lg]; omega))
theorem w_p2 {u : Nat → Nat → Nat} {x : Option (Nat × va_E)} {i : Nat} (h : (gW ca (u 2))[i]? = x) (hi : i < 11) : (pW ca u)[2 + (22 + i)]? = x := w_c2 (w_l (w_l (w_l (w_r h (by simp [w_lg])) (by simp [w_lg]; omega)) (by simp [w_lg]; omega)) (by simp [w_lg]; omega))
theorem w_p3 {u : Nat → Nat → Nat} {x : Option (Nat × va_E)} {i : Nat} (h : (gW ca (u 3))[i]? = x) (hi : i < 11) : (pW ca u)[2 + (33 + i)]? = x := w_c2 (w_l (w_l (w_r h (by simp [w_lg])) (by simp [w_lg]; omega)) (by simp [w_lg]; omega))
theorem w_p4 {u : Nat → Nat → Nat} {x : Option (Nat × va_E)} {i : Nat} (h : (gW ca (u 4))[i]? = x) (hi : i < 11) : (pW ca u)[2 + (44 + i)]? = x := w_c2 (w_l (w_r h (by simp [w_lg])) (by simp [w_lg]; omega))
theorem w_p5 {u : Nat → Nat → Nat} {x : Option (Nat × va_E)} {i : Nat} (h : (gW ca (u 5))[i]? = x) (hi : i < 11) : (pW ca u)[2 + (55 + i)]? = x := w_c2 (w_r h (by simp [w_lg]))
theorem w_y0 {u : Nat → Nat → Nat} {x : Option (Nat × va_E)} {i : Nat} (h : ([(u 0 1, .inl (ca 4, 10, .inr (.inr (.inr (.inr (ct_q 10 (u 1)))))))] : va_W)[i]? = x) (hi : i < 1) : (yW ca u)[1 + (0 + i)]? = x := w_c1 (w_l (w_l (w_l (w_l (w_l (w_r h (by simp [w_lr])) (by simp [w_lr]; omega)) (by simp [w_lr]; omega)) (by simp [w_lr]; omega)) (by simp [w_lr]; omega)) (by simp [w_lr]; omega))
theorem w_y1 {u : Nat → Nat → Nat} {x : Option (Nat × va_E)} {i : Nat} (h : (rW ca (u 1) : va_W)[i]? = x) (hi : i < 10) : (yW ca u)[1 + (1 + i)]? = x := w_c1 (w_l (w_l (w_l (w_l (w_r h (by simp [w_lr])) (by simp [w_lr]; omega)) (by simp [w_lr]; omega)) (by simp [w_lr]; omega)) (by simp [w_lr]; omega))
theorem w_y2 {u : Nat → Nat → Nat} {x : Option (Nat × va_E)} {i : Nat} (h : ([(u 0 2, .inl (ca 4, 10, .inr (.inr (.inr (.inr (ct_q 10 (u 2)))))))] : va_W)[i]? = x) (hi : i < 1) : (yW ca u)[1 + (11 + i)]? = x := w_c1 (w_l (w_l (w_l (w_r h (by simp [w_lr])) (by simp [w_lr]; omega)) (by simp [w_lr]; omega)) (by simp [w_lr]; omega))
theorem w_y3 {u : Nat → Nat → Nat} {x : Option (Nat × va_E)} {i : Nat} (h : (rW ca (u 2) : va_W)[i]? = x) (hi : i < 10) : (yW ca u)[1 + (12 + i)]? = x := w_c1 (w_l (w_l (w_r h (by simp [w_lr])) (by simp [w_lr]; omega)) (by simp [w_lr]; omega))
theorem w_y4 {u : Nat → Nat → Nat} {x : Option (Nat × va_E)} {i : Nat} (h : ([(u 0 3, .inl (ca 0, 10, .inl (fun _ => 0)))] : va_W)[i]? = x) (hi : i < 1) : (yW ca u)[1 + (22 + i)]? = x := w_c1 (w_l (w_r h (by simp [w_lr])) (by simp [w_lr]; omega))
theorem w_y5 {u : Nat → Nat → Nat} {x : Option (Nat × va_E)} {i : Nat} (h : ([(u 0 4, .inl (ca 1, 10, .inl (fun _ => 0)))] : va_W)[i]? = x) (hi : i < 1) : (yW ca u)[1 + (23 + i)]? = x := w_c1 (w_r h (by simp [w_lr]))
theorem w_rr {r : Nat → Nat} {i : Nat} (hi : i < 10) : (rW ca r)[i]? = some (r i, .inl (ca 0, 10, .inl (fun _ => 0))) := by unfold rW; rw [List.getElem?_map, List.getElem?_range hi]; rfl
end WLen
