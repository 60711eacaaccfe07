/-! prices, fewest moves, digest -/
def rq (r : gm_R) (f t : Nat) : Nat := if gm_sees (rH r) f t = true then (r 1).toNatClampNeg * (if f < t then t - f else f - t) + ((r (11 + t)).toNatClampNeg - (r (11 + f)).toNatClampNeg) else 1000000
theorem gm_mxN {a b : Nat} (ha : a < 2 ^ 30) (hb : b < 2 ^ 30) : gm_mx (nI 0) (nI b - nI a) = nI (b - a) := by
  unfold gm_mx
  by_cases h : a < b
  · rw [pk_sub (by omega), if_pos (nI_lt (by omega) (by omega))]
  · rw [show b - a = 0 by omega, if_neg]
    rw [Int32.lt_iff_toInt_lt, pk_sub_toInt hb ha, nI_toInt (by omega)]
    omega
theorem rq_price {r : gm_R} (hW : WFr r) {f t : Nat} (hf : f < 10) (ht : t < 10) : gm_price (r 1) (rH r) f t = nI ((r 1).toNatClampNeg * (if f < t then t - f else f - t) + ((r (11 + t)).toNatClampNeg - (r (11 + f)).toNatClampNeg)) ∧ (r 1).toNatClampNeg * (if f < t then t - f else f - t) + ((r (11 + t)).toNatClampNeg - (r (11 + f)).toNatClampNeg) ≤ 90 := by
  obtain ⟨P, on, it, br, s0, s1, s2, s3, hh, sd, pl, ab, bl, ⟨a1, a2, a3, a4, a5, a6, a7, a8, a9⟩, -, ⟨c1, c2, c3⟩, -, -⟩ := hW
  have e1 := c2 f
  have e2 := c2 t
  have e3 : s1 * (if f < t then t - f else f - t) ≤ 9 * 9 := Nat.mul_le_mul a5 (by split <;> omega)
  rw [c1 f hf, c1 t ht, a4, cl_nI (by omega), cl_nI (by omega), cl_nI (by omega)]
  refine ⟨?_, by omega⟩
  unfold gm_price
  rw [show rH r t = nI (hh t) from c1 t ht, show rH r f = nI (hh f) from c1 f hf, gm_mxN (by omega) (by omega)]
  rw [pk_mul, nI_add]
theorem rq_sg {r : gm_R} (hW : WFr r) {f t : Nat} (hf : f < 10) (ht : t < 10) : gm_sg (r 1) (rH r) f t = nI (rq r f t) := by
  unfold gm_sg rq
  split
  · exact (rq_price hW hf ht).1
  · rfl
theorem rq_le {r : gm_R} (hW : WFr r) {f t : Nat} (hf : f < 10) (ht : t < 10) : rq r f t ≤ 1000000 := by
  unfold rq
  split
  · have := (rq_price hW hf ht).2; omega
  · omega
theorem rq_c {μ μ2 : ev_M} {r : gm_R} (hg : gR μ 44 = r) (hW : WFr r) (h : ∀ f t, f < 10 → t < 10 → μ2 (24 + f) t = gm_sg (μ 47 1) (μ 45) f t) : ∀ f t, f < 10 → t < 10 → μ2 (24 + f) t = nI (rq r f t) := fun f t hf ht => by
  rw [h f t hf ht, ← rq_sg hW hf ht]
  unfold gm_sg
  rw [gm_sees_cong (rH_44 hg) hf ht, rm_price_c hg ht hf]
def rPr (r : gm_R) (z : Int32) (a b : Nat) : Int32 := if z = 0 then nI ((dj (rq r) a 10).1 b) else nI (fw (rq r) 10 a b)
def op_price (S : gS) (x y z : Int32) : gA := if (gm_is x 10 && gm_is y 10) = false then (1, 0, S) else if gm_is z 2 = false then (2, 0, S) else (0, rPr S.1 z x.toNatClampNeg y.toNatClampNeg, S)
def rMov (r : gm_R) (p t : Nat) : Int32 := if rPl r p = t then nI 0 else wk_few (fun n => wk_rc (fun f t => nI (rq r f t)) t (r 0) (r 2) n (fun j => if j < 10 then r (21 + j) else 0) (rPl r p) (r (31 + 7 * p + 1)) (r (31 + 7 * p + 2)))
def op_moves (S : gS) (x y : Int32) : gA := if (gm_is x (rP S.1) && gm_is y 10) = false then (1, 0, S) else (0, rMov S.1 x.toNatClampNeg y.toNatClampNeg, S)
def dgh (h : Int64) (v : Int32) : Int64 := 31 * h + v.toInt64
def dgl (f : Nat → Int32) : Nat → Int64 → Int64
  | 0, h => h
  | n + 1, h => dgh (dgl f n h) (f n)
def dgT (r : gm_R) : Nat → Int64 → Int64
  | 0, h => h
  | t + 1, h => dgh (dgh (dgl (rTower r t) 4 (dgT r t h)) (rPr r 0 0 t)) (rPr r (nI 1) 0 t)
def dgP1 (r : gm_R) (p : Nat) (h : Int64) : Int64 := dgh (dgl (fun t => rm_why r p t) 10 (dgl (rPlayer r p) 9 h)) (rMov r p 9)
def dgP (r : gm_R) : Nat → Int64 → Int64
  | 0, h => h
  | p + 1, h => dgP1 r p (dgP r p h)
/-- the bits of a share as the program makes them: halving until it is 1 or more -/
def gm_up2 : Nat → UInt64 → Int64 → UInt64 × Int64
  | 0, l, e => (l, e)
  | n + 1, l, e => if Op.cmpValue (FP.dcmp l FP.dconst1) .g < 0 then gm_up2 n (FP.dmul l 4611686018427387904) (e - 1) else (l, e)
theorem wk_any_cong {f g : Nat → Bool} : ∀ {n : Nat}, (∀ k, k < n → f k = g k) → wk_any f n = wk_any g n
  | 0, _ => rfl
  | n + 1, h => by
    unfold wk_any
    rw [wk_any_cong (fun k hk => h k (by omega)), h n (by omega)]
def SPl (call : Nat → List Value → ev_M → ev_R → ev_M → Prop) (y : Nat) (as : List Value) (μ : ev_M) (P : Int64 → ev_M → Prop) : Prop := ∃ (x : Int64) (μ2 : ev_M), call y as μ (some (.long x), 0) μ2 ∧ P x μ2
theorem SPl.of {d y : Nat} {as : List Value} {μ : ev_M} {P : Int64 → ev_M → Prop} (hl : (ev_fl2 as).length ≤ ev_yL y) (h : es (ev_CALL d) (ev_yo y) (ev_yb y) (ev_yr y) (ev_mc y) (0, fun _ => 0, ev_yh y) (fun r μ2 => ∃ x : Int64, r = (some (.long x), 0) ∧ P x μ2) 0 (ev_ent as (ev_yL y)) [] μ 0) : SPl (ev_CALL (d + 1)) y as μ P := by
  obtain ⟨rf, μf, ⟨x, rfl, hp⟩, hE⟩ := h
  exact ⟨x, μf, ⟨hl, hE⟩, hp⟩
section EsRows2
variable {call : Nat → List Value → ev_M → ev_R → ev_M → Prop} {oc : Nat} {cc : ByteArray} {rt : Option FieldType} {am : Nat} {ex : ev_X} {Po : ev_R → ev_M → Prop}
end EsRows2
theorem upd_cong {f g : Nat → Int32} {k : Nat} {x : Int32} (h : ∀ j, j < 10 → f j = g j) : ∀ j, j < 10 → upd f k x j = upd g k x j := fun j hj => by
  unfold upd
  split
  · rfl
  · exact h j hj
theorem wk_rc_cong {S : Nat → Nat → Int32} {gl : Nat} {rn tn : Int32} : ∀ (n : Nat) (ly ly2 : Nat → Int32) (a : Nat) (ab bl : Int32), (∀ j, j < 10 → ly j = ly2 j) → a < 10 → wk_rc S gl rn tn n ly a ab bl = wk_rc S gl rn tn n ly2 a ab bl
  | 0, _, _, _, _, _, _, _ => rfl
  | n + 1, ly, ly2, a, ab, bl, h, ha => by
    unfold wk_rc
    rw [wk_rc_cong n ly ly2 a _ _ h ha, h a ha, wk_rc_cong n (upd ly a (ly2 a + tn)) (upd ly2 a (ly2 a + tn)) a _ _ (upd_cong h) ha]
    rw [wk_any_cong (n := 10) (fun k hk => ?_)]
    rw [h k hk, upd_cong h a ha, wk_rc_cong n _ (upd (upd ly2 k (nI 0)) a (upd ly2 k (nI 0) a + S a k)) k _ _ (upd_cong (upd_cong h)) hk]
theorem rMov_c {μ μ1 : ev_M} {r : gm_R} {p t : Nat} (hg : gR μ1 44 = r) (hp : p < 4) (ha : rPl r p < 10) : (if rPl r p = t then nI 0 else wk_few (fun n => wk_rc (fun f t => nI (rq r f t)) t (μ1 47 0) (μ1 47 2) n (fun j => if j < 10 then μ1 46 j else μ 13 j) (rPl r p) (μ1 49 p) (μ1 50 p))) = rMov r p t := by
  unfold rMov
  subst hg
  simp only [r44_above hp, r44_below hp, r44_0, r44_2]
  split
  · rfl
  · congr 1
    funext n
    apply wk_rc_cong _ _ _ _ _ _ _ ha
    intro j hj
    rw [if_pos hj, if_pos hj, r44_l hj]
