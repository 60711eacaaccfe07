/-! both games side by side -/
theorem QW.m {o : gA} {μ μ2 : ev_M} {x : Int32} {S : gS} (h : QW o μ x μ2) (hR : RepM μ S) : RepM μ2 S := hR.cong (fun k hk => h.2.2.2 k (by omega) (by omega)) (by rw [h.2.2.2 14 (by omega) (by omega)]) (by rw [h.2.2.2 14 (by omega) (by omega)])
theorem QC.m {o : gA} {μ μ2 : ev_M} {x : Int32} {S : gS} (h : QC o μ x μ2) (hR : RepM μ S) : RepM μ2 S := hR.cong (fun k hk => h.2.2.2 k (by omega) (by omega)) (by rw [h.2.2.2 14 (by omega) (by omega)]) (by rw [h.2.2.2 14 (by omega) (by omega)])
theorem FrM.c {μ μ2 : ev_M} {S : gS} (h : FrM μ μ2) (hR : RepC μ S) : RepC μ2 S := hR.cong (fun k hk => by unfold gNo at hk; exact h k (by omega))
theorem Fr5.m {μ μ2 : ev_M} {S : gS} (h : Fr5 μ μ2) (hR : RepM μ S) : RepM μ2 S := hR.cong (fun k hk => h k (by omega) (by omega)) (by rw [h 14 (by omega) (by omega)]) (by rw [h 14 (by omega) (by omega)])
/-- one state in both -/
def gLS (μ : ev_M) (S : gS) : Prop := WFS S ∧ RepC μ S ∧ RepM μ S
/-- a wrapper's call, then the law's own: the same code, the same answer, one state again -/
theorem gLS.two {o : gA} {μ μ1 μ2 : ev_M} {x y : Int32} (h1 : QW o μ x μ1) (h2 : QM o μ1 y μ2) (hw : WFS o.2.2) : gLS μ2 o.2.2 ∧ μ2 14 8 = x ∧ (x = nI 0 → o.1 = 0 ∨ 2 ^ 31 ≤ o.1) ∧ (o.1 = 0 → μ2 23 0 = y) := by
  obtain ⟨a1, a2, a3, a4⟩ := h1
  obtain ⟨b1, b2, b3, b4⟩ := h2
  refine ⟨⟨hw, FrM.c b4 a3, b3⟩, by rw [b1, a1], fun hx => ?_, fun h => ?_⟩
  · by_cases hl : o.1 < 2 ^ 31
    · exact Or.inl (nI_inj hl (by omega) (a1.symm.trans hx))
    · exact Or.inr (by omega)
  · rw [b4 23 (by omega), a2 h, b2 h]
theorem wfs_q {S : gS} {o : gA} (h : WFS S) (ho : o.2.2 = S) : WFS o.2.2 := by rw [ho]; exact h
theorem q_tower {S : gS} {x y : Int32} : (op_tower S x y).2.2 = S := by unfold op_tower; split; rfl; split <;> rfl
theorem q_playerOf {S : gS} {x y : Int32} : (op_playerOf S x y).2.2 = S := by unfold op_playerOf; split; rfl; split <;> rfl
theorem q_count {S : gS} {x : Int32} : (op_count S x).2.2 = S := by unfold op_count; split <;> rfl
theorem q_setting {S : gS} {x : Int32} : (op_setting S x).2.2 = S := by unfold op_setting; split <;> rfl
theorem q_price {S : gS} {x y z : Int32} : (op_price S x y z).2.2 = S := by unfold op_price; split; rfl; split <;> rfl
theorem q_whyNot {S : gS} {x y : Int32} : (op_whyNot S x y).2.2 = S := by unfold op_whyNot; split <;> rfl
theorem q_moves {S : gS} {x y : Int32} : (op_moves S x y).2.2 = S := by unfold op_moves; split <;> rfl
