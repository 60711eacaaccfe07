section EsIfN
variable {call : Nat → List Value → ev_M → ev_R → ev_M → Prop} {oc : Nat} {cc : ByteArray} {rt : Option FieldType} {am : Nat} {ex : ev_X} {Po : ev_R → ev_M → Prop}
theorem es_if_eqN {pc : Nat} {L st : List Value} {μ : ev_M} {a : Nat} {x : Nat} {off : Int} (tgt : Nat) (h0 : decode cc pc = .ok (.ifCond .eq off, 3)) (h1 : (pc : Int) + off = (tgt : Int)) (hx : x < 2 ^ 31) (kt : x = 0 → es call oc cc rt am ex Po tgt L st μ a) (kf : 0 < x → es call oc cc rt am ex Po (pc + 3) L st μ a) : es call oc cc rt am ex Po pc L (.int (nI x) :: st) μ a := es_if_eq h0 h1 (fun c => kt (by rcases Nat.eq_zero_or_pos x with q | q; exact q; exact absurd c (nI_ne0 q hx))) (fun c => kf (by rcases Nat.eq_zero_or_pos x with q | q; (subst q; exact absurd rfl c); exact q))
theorem es_if_neN {pc : Nat} {L st : List Value} {μ : ev_M} {a : Nat} {x : Nat} {off : Int} (tgt : Nat) (h0 : decode cc pc = .ok (.ifCond .ne off, 3)) (h1 : (pc : Int) + off = (tgt : Int)) (hx : x < 2 ^ 31) (kt : 0 < x → es call oc cc rt am ex Po tgt L st μ a) (kf : x = 0 → es call oc cc rt am ex Po (pc + 3) L st μ a) : es call oc cc rt am ex Po pc L (.int (nI x) :: st) μ a := es_if_ne h0 h1 (fun c => kt (by rcases Nat.eq_zero_or_pos x with q | q; (subst q; exact absurd rfl c); exact q)) (fun c => kf (by rcases Nat.eq_zero_or_pos x with q | q; exact q; exact absurd c (nI_ne0 q hx)))
theorem es_if_ltN {pc : Nat} {L st : List Value} {μ : ev_M} {a : Nat} {x : Nat} {off : Int} (tgt : Nat) (h0 : decode cc pc = .ok (.ifCond .lt off, 3)) (h1 : (pc : Int) + off = (tgt : Int)) (hx : x < 2 ^ 31) (kt : False → es call oc cc rt am ex Po tgt L st μ a) (kf : True → es call oc cc rt am ex Po (pc + 3) L st μ a) : es call oc cc rt am ex Po pc L (.int (nI x) :: st) μ a := es_if_lt h0 h1 (fun c => kt (nI_pos hx c)) (fun _ => kf trivial)
theorem es_if_geN {pc : Nat} {L st : List Value} {μ : ev_M} {a : Nat} {x : Nat} {off : Int} (tgt : Nat) (h0 : decode cc pc = .ok (.ifCond .ge off, 3)) (h1 : (pc : Int) + off = (tgt : Int)) (hx : x < 2 ^ 31) (kt : True → es call oc cc rt am ex Po tgt L st μ a) (kf : False → es call oc cc rt am ex Po (pc + 3) L st μ a) : es call oc cc rt am ex Po pc L (.int (nI x) :: st) μ a := es_if_ge h0 h1 (fun _ => kt trivial) (fun c => kf (c (nI_pos' hx)))
theorem es_if_gtN {pc : Nat} {L st : List Value} {μ : ev_M} {a : Nat} {x : Nat} {off : Int} (tgt : Nat) (h0 : decode cc pc = .ok (.ifCond .gt off, 3)) (h1 : (pc : Int) + off = (tgt : Int)) (hx : x < 2 ^ 31) (kt : 0 < x → es call oc cc rt am ex Po tgt L st μ a) (kf : x = 0 → es call oc cc rt am ex Po (pc + 3) L st μ a) : es call oc cc rt am ex Po pc L (.int (nI x) :: st) μ a := es_if_gt h0 h1 (fun c => kt (by rcases Nat.eq_zero_or_pos x with q | q; (subst q; exact absurd c (by decide)); exact q)) (fun c => kf (by rcases Nat.eq_zero_or_pos x with q | q; exact q; exact absurd (show (0 : Int32) < nI x from nI_lt q hx) c))
theorem es_if_leN {pc : Nat} {L st : List Value} {μ : ev_M} {a : Nat} {x : Nat} {off : Int} (tgt : Nat) (h0 : decode cc pc = .ok (.ifCond .le off, 3)) (h1 : (pc : Int) + off = (tgt : Int)) (hx : x < 2 ^ 31) (kt : x = 0 → es call oc cc rt am ex Po tgt L st μ a) (kf : 0 < x → es call oc cc rt am ex Po (pc + 3) L st μ a) : es call oc cc rt am ex Po pc L (.int (nI x) :: st) μ a := es_if_le h0 h1 (fun c => kt (by rcases Nat.eq_zero_or_pos x with q | q; exact q; exact absurd c (nI_nle q hx))) (fun c => kf (by rcases Nat.eq_zero_or_pos x with q | q; (subst q; exact absurd (by decide) c); exact q))
end EsIfN
-- texts
/-- what is awaited behind a letter, behind a character: 0 a move, 1 a tower, 2 a player, 3 wrong -/
def gm_dl (c : Int32) : Nat := if c = nI 111 ∨ c = nI 119 then 0 else if c = nI 115 then 1 else if c = nI 116 then 2 else 3
def gm_dn (s : Nat) (c : Int32) : Nat := if s = 1 then (if c < nI 48 then 3 else if nI 57 < c then 3 else 0) else if s = 2 then (if c < nI 48 then 3 else if nI 51 < c then 3 else 0) else gm_dl c
def gm_fwk (f : Nat → Int32) : Nat → Nat → Nat → Nat
  | k, _, 0 => k
  | k, s, n + 1 => if gm_dn s (f k) = 3 then k else gm_fwk f (k + 1) (gm_dn s (f k)) n
def gm_fw (f : Nat → Int32) (n : Nat) : Nat := gm_fwk f 0 0 n
def gm_nd (c : Int32) : Bool := decide (c = nI 115) || decide (c = nI 116)
def gm_tells (f : Nat → Int32) (n : Nat) : Bool := decide (0 < n) && (decide (gm_fw f n = n) && !gm_nd (f (n - 1)))
def gm_cd (f : Nat → Int32) (n i : Nat) : Int32 := if i < n then f i else -1
def gm_dg (c : Int32) : Int32 := if c < nI 48 then -1 else if nI 57 < c then -1 else c - nI 48
def gm_wd (c : Int32) : Nat := if gm_nd c then 2 else 1
theorem gm_dl_out {c : Int32} (h : c.toInt < 111 ∨ 119 < c.toInt) : gm_dl c = 3 := by
  unfold gm_dl
  rw [if_neg, if_neg, if_neg]
  · rintro rfl; revert h; decide
  · rintro rfl; revert h; decide
  · rintro (rfl | rfl) <;> (revert h; decide)
theorem gm_dn_lt {s : Nat} {c : Int32} : gm_dn s c < 4 := by
  unfold gm_dn gm_dl
  repeat' split
  all_goals decide
theorem gm_in {c : Int32} (h : ¬ (c.toInt < 111 ∨ 119 < c.toInt)) : c = nI 111 ∨ c = nI 112 ∨ c = nI 113 ∨ c = nI 114 ∨ c = nI 115 ∨ c = nI 116 ∨ c = nI 117 ∨ c = nI 118 ∨ c = nI 119 := by
  have e : ∀ n : Nat, n < 2 ^ 31 → c.toInt = (n : Int) → c = nI n := fun n hn hc => Int32.toInt_inj.mp (by rw [hc, nI_toInt hn])
  rcases (show c.toInt = 111 ∨ c.toInt = 112 ∨ c.toInt = 113 ∨ c.toInt = 114 ∨ c.toInt = 115 ∨ c.toInt = 116 ∨ c.toInt = 117 ∨ c.toInt = 118 ∨ c.toInt = 119 by omega) with q | q | q | q | q | q | q | q | q
  · exact Or.inl (e 111 (by decide) q)
  · exact Or.inr (Or.inl (e 112 (by decide) q))
  · exact Or.inr (Or.inr (Or.inl (e 113 (by decide) q)))
  · exact Or.inr (Or.inr (Or.inr (Or.inl (e 114 (by decide) q))))
  · exact Or.inr (Or.inr (Or.inr (Or.inr (Or.inl (e 115 (by decide) q)))))
  · exact Or.inr (Or.inr (Or.inr (Or.inr (Or.inr (Or.inl (e 116 (by decide) q))))))
  · exact Or.inr (Or.inr (Or.inr (Or.inr (Or.inr (Or.inr (Or.inl (e 117 (by decide) q)))))))
  · exact Or.inr (Or.inr (Or.inr (Or.inr (Or.inr (Or.inr (Or.inr (Or.inl (e 118 (by decide) q))))))))
  · exact Or.inr (Or.inr (Or.inr (Or.inr (Or.inr (Or.inr (Or.inr (Or.inr (e 119 (by decide) q))))))))
