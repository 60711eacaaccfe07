/-! the first state, in both games -/
def st_0 : gS := (gR w_mu 44, (0, fun _ => gR w_mu 44), (fun _ => false, fun _ => gR w_mu 44), (0, fun _ => 0))
theorem st_r : ∀ j, j < 59 → gR w_mu 44 j = ct_fs j := by decide +kernel
theorem st_f : ∀ j, j < 59 → 4 ≤ j → ct_fs j = nI 0 := by decide +kernel
theorem st_z {j : Nat} (h : 59 ≤ j) : gR w_mu 44 j = 0 := by
  unfold gR
  rw [if_neg (by omega)]
theorem st_0r {j : Nat} (h : j < 59) (h4 : 4 ≤ j) : gR w_mu 44 j = nI 0 := (st_r j h).trans (st_f j h h4)
theorem st_wf : WFr (gR w_mu 44) := by
  refine ⟨0, 0, 0, 0, 3, 2, 1, 1, fun _ => 0, fun _ => 0, fun _ => 0, fun _ => 0, fun _ => 0, ⟨by decide +kernel, by decide, by decide, by decide +kernel, by decide, by decide +kernel, by decide, by decide +kernel, by decide⟩, ⟨st_0r (by decide) (by decide), by decide, st_0r (by decide) (by decide), by decide, fun h => absurd h (by decide), fun _ => rfl, st_0r (by decide) (by decide), by decide, fun h => absurd h (by decide), fun _ => rfl⟩, ⟨fun k hk => st_0r (by omega) (by omega), fun _ => Nat.zero_le _, fun k hk => st_0r (by omega) (by omega)⟩, ⟨fun p hp => st_0r (by omega) (by omega), fun _ => Nat.succ_pos _, fun p hp => st_0r (by omega) (by omega), fun p hp => st_0r (by omega) (by omega), fun _ _ _ => ⟨rfl, rfl⟩⟩, by decide, by decide, fun j hj => st_z hj⟩
theorem st_C : RepC w_mu st_0 := by
  refine ⟨rfl, ⟨0, by decide +kernel, by decide, by decide +kernel, by decide, fun i hi => absurd hi (Nat.not_lt_zero i)⟩, fun s hs => ⟨?_, fun h => by cases h⟩, by decide +kernel, by decide, rfl⟩
  show w_mu 2 s = bI false
  have : s = 0 ∨ s = 1 := by omega
  rcases this with rfl | rfl <;> decide +kernel
theorem st_M : RepM w_mu st_0 := by
  refine ⟨?_, ⟨by decide +kernel, by decide, fun i hi => absurd hi (Nat.not_lt_zero i)⟩, fun s hs => ⟨?_, fun h => by cases h⟩, by decide +kernel, by decide, rfl⟩
  · funext j
    show (if j < 59 then w_mu 15 j else 0) = gR w_mu 44 j
    by_cases h : j < 59
    · rw [if_pos h, st_r j h]; rfl
    · rw [if_neg h, st_z (by omega)]
  · show w_mu 19 s = bI false
    have : s = 0 ∨ s = 1 := by omega
    rcases this with rfl | rfl <;> decide +kernel
theorem st_gLS : gLS w_mu st_0 := ⟨⟨st_wf, by decide, fun i hi => absurd hi (Nat.not_lt_zero i), fun s _ h => (by cases h), by decide⟩, st_C, st_M⟩
