/-! the first state, of the object -/
def st_0 : gS := (gR w_mu 44, (0, fun _ => gR w_mu 44), (fun _ => false, fun _ => gR w_mu 44), (0, fun _ => 0))
theorem st_r : ∀ j, j < 59 → gR w_mu 44 j = ct_fs j := by decide +kernel
theorem st_f : ∀ j, j < 59 → 4 ≤ j → ct_fs j = nI 0 := by decide +kernel
theorem st_z {j : Nat} (h : 59 ≤ j) : gR w_mu 44 j = 0 := by
  unfold gR
  rw [if_neg (by omega)]
theorem st_0r {j : Nat} (h : j < 59) (h4 : 4 ≤ j) : gR w_mu 44 j = nI 0 := (st_r j h).trans (st_f j h h4)
theorem st_wf : WFr (gR w_mu 44) := by
  refine ⟨0, 0, 0, 0, 3, 2, 1, 1, fun _ => 0, fun _ => 0, fun _ => 0, fun _ => 0, fun _ => 0, ⟨by decide +kernel, by decide, by decide, by decide +kernel, by decide, by decide +kernel, by decide, by decide +kernel, by decide⟩, ⟨st_0r (by decide) (by decide), by decide, st_0r (by decide) (by decide), by decide, fun h => absurd h (by decide), fun _ => rfl, st_0r (by decide) (by decide), by decide, fun h => absurd h (by decide), fun _ => rfl⟩, ⟨fun k hk => st_0r (by omega) (by omega), fun _ => Nat.zero_le _, fun k hk => st_0r (by omega) (by omega)⟩, ⟨fun p hp => st_0r (by omega) (by omega), fun _ => Nat.succ_pos _, fun p hp => st_0r (by omega) (by omega), fun p hp => st_0r (by omega) (by omega), fun _ _ _ => ⟨rfl, rfl⟩⟩, by decide, by decide, fun j hj => st_z hj⟩
theorem st_C : RepC w_mu st_0 := by
  refine ⟨rfl, ⟨0, by decide +kernel, by decide, by decide +kernel, by decide, fun i hi => absurd hi (Nat.not_lt_zero i)⟩, fun s hs => ⟨?_, fun h => by cases h⟩, by decide +kernel, by decide, rfl⟩
  show w_mu 2 s = bI false
  have : s = 0 ∨ s = 1 := by omega
  rcases this with rfl | rfl <;> decide +kernel
theorem st_W : WFS st_0 := ⟨st_wf, by decide, fun i hi => absurd hi (Nat.not_lt_zero i), fun s _ h => (by cases h), by decide⟩
theorem st_I : sT (gR w_mu 44) 1 0 + sT (gR w_mu 44) 2 0 + sW (gR w_mu 44) 10 = gR w_mu 44 10 ∧ sT (gR w_mu 44) 3 0 = gR w_mu 44 7 ∧ sT (gR w_mu 44) 4 0 = gR w_mu 44 9 ∧ sT (gR w_mu 44) 5 0 = gR w_mu 44 9 := by decide +kernel
theorem st_H1 : H1 st_0 0 0 := by
  refine ⟨st_W, ?_, ⟨st_I, fun p _ hp => ⟨(st_0r (j := 31 + 7 * p + 3) (by omega) (by omega)).trans nI_0, (st_0r (j := 31 + 7 * p + 4) (by omega) (by omega)).trans nI_0, (st_0r (j := 31 + 7 * p + 5) (by omega) (by omega)).trans nI_0⟩⟩, show gR w_mu 44 7 = nI 0 from st_0r (by decide) (by decide), show gR w_mu 44 5 = nI 0 from st_0r (by decide) (by decide), show gR w_mu 44 6 = nI 0 from st_0r (by decide) (by decide), show gR w_mu 44 10 = nI 0 from st_0r (by decide) (by decide)⟩
  show (gR w_mu 44 4).toNatClampNeg = 0
  rw [st_0r (by decide) (by decide), cl_nI (by decide)]
theorem st_hz : ∀ k, k < 10 → st_0.1 (11 + k) = nI 0 := fun k hk => st_0r (j := 11 + k) (by omega) (by omega)
