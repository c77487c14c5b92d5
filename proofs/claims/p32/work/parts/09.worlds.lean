/-! THE WORLDS: the house's state is one row of numbers s (the order of the check's own row); what each object holds is told by it -/
def ix (k c : Nat) : Nat := 17 + 11 * k + c
def up (s : Nat → Int) (j : Nat) (v : Int) : Nat → Int := fun k => if k = j then v else s k
theorem up_eq {s : Nat → Int} {j : Nat} {v : Int} : up s j v j = v := if_pos rfl
theorem up_ne {s : Nat → Int} {j k : Nat} {v : Int} (h : k ≠ j) : up s j v k = s k := if_neg h
def hv (s : Nat → Int) (c : Nat) : Nat → Int32 := fun k => jI (s (ix k c))
def hcr (s : Nat → Int) : Nat → Int32 := fun k => jI (s (ix (k / 4) (5 + k % 4)))
def hse (s : Nat → Int) : Nat → Int32 := fun k => if k < 6 then jI (s (11 + k)) else 0
def hst (s : Nat → Int) : Nat → Int32 := fun k => if k < 2 then jI (s k) else 0
def hB (G : vC) (h : Nat → Nat) (s : Nat → Int) : va_W :=
  [(h 0, .inr (1, [.ref (h 1), .ref (h 2), .ref (h 3), .ref (h 4), .ref (h 5), .ref (h 6), .ref (h 7), .ref (h 8), .ref (h 9), .ref (h 10), .int (jI (s 10)), .int (jI (s 3)), .int (jI (s 4)), .int (jI (s 5)), .int (jI (s 2)), .int (jI (s 8)), .int (jI (s 9))])),
   (h 1, .inl (G.2.1, 12, .inl (hv s 0))), (h 2, .inl (G.2.1, 12, .inl (hv s 1))), (h 3, .inl (G.2.1, 12, .inl (hv s 2))), (h 4, .inl (G.2.1, 12, .inl (hv s 3))), (h 5, .inl (G.2.1, 12, .inl (hv s 4))), (h 6, .inl (G.2.1, 12, .inl (hv s 9))), (h 7, .inl (G.2.1, 12, .inl (hv s 10))), (h 8, .inl (G.2.1, 48, .inl (hcr s))), (h 9, .inl (G.2.1, 6, .inl (hse s))), (h 10, .inl (G.2.1, 2, .inl (hst s)))]
theorem hv_eq {s : Nat → Int} {k c : Nat} {v : Int} (hc : c < 11) : hv (up s (ix k c) v) c = upd (hv s c) k (jI v) := by
  funext j
  unfold hv up upd
  by_cases h : j = k
  · subst h; simp
  · rw [if_neg (by unfold ix; omega), if_neg h]
theorem hv_ne {s : Nat → Int} {k c c' : Nat} {v : Int} (hc : c < 11) (hc' : c' < 11) (hn : c ≠ c') : hv (up s (ix k c') v) c = hv s c := by
  funext j
  unfold hv up
  rw [if_neg (by unfold ix; omega)]
theorem hv_lo {s : Nat → Int} {j c : Nat} {v : Int} (hj : j < 17) : hv (up s j v) c = hv s c := by
  funext k
  unfold hv up
  rw [if_neg (by unfold ix; omega)]
theorem hcr_eq {s : Nat → Int} {k w : Nat} {v : Int} (hw : w < 4) : hcr (up s (ix k (5 + w)) v) = upd (hcr s) (k * 4 + w) (jI v) := by
  funext j
  unfold hcr up upd
  by_cases h : j = k * 4 + w
  · rw [if_pos h, if_pos (by unfold ix; omega)]
  · rw [if_neg h, if_neg (by unfold ix; omega)]
theorem hcr_ne {s : Nat → Int} {k c : Nat} {v : Int} (hc : c < 5 ∨ 9 ≤ c) (hc' : c < 11) : hcr (up s (ix k c) v) = hcr s := by
  funext j
  unfold hcr up
  rw [if_neg (by unfold ix; omega)]
theorem hcr_lo {s : Nat → Int} {j : Nat} {v : Int} (hj : j < 17) : hcr (up s j v) = hcr s := by
  funext k
  unfold hcr up
  rw [if_neg (by unfold ix; omega)]
theorem hse_eq {s : Nat → Int} {f : Nat} {v : Int} (hf : f < 6) : hse (up s (11 + f) v) = upd (hse s) f (jI v) := by
  funext j
  unfold hse up upd
  by_cases h : j = f
  · subst h; simp [hf]
  · rw [if_neg h, if_neg (show ¬ 11 + j = 11 + f by omega)]
theorem hse_ne {s : Nat → Int} {j : Nat} {v : Int} (hj : j < 11 ∨ 17 ≤ j) : hse (up s j v) = hse s := by
  funext k
  unfold hse up
  by_cases h : k < 6
  · rw [if_pos h, if_pos h, if_neg (by omega)]
  · rw [if_neg h, if_neg h]
theorem hst_eq {s : Nat → Int} {f : Nat} {v : Int} (hf : f < 2) : hst (up s f v) = upd (hst s) f (jI v) := by
  funext j
  unfold hst up upd
  by_cases h : j = f
  · subst h; simp [hf]
  · rw [if_neg h, if_neg h]
theorem hst_ne {s : Nat → Int} {j : Nat} {v : Int} (hj : 2 ≤ j) : hst (up s j v) = hst s := by
  funext k
  unfold hst up
  by_cases h : k < 2
  · rw [if_pos h, if_pos h, if_neg (by omega)]
  · rw [if_neg h, if_neg h]
theorem up_ix {s : Nat → Int} {k c j : Nat} {v : Int} (hj : j < 17) : up s (ix k c) v j = s j := up_ne (by unfold ix; omega)
theorem ix17 (k c : Nat) : 17 ≤ ix k c := by unfold ix; omega
theorem ix2 (k c : Nat) : 2 ≤ ix k c := by unfold ix; omega
theorem hB_a0 (G : vC) (h : Nat → Nat) (s : Nat → Int) (k : Nat) (v : Int) : (hB G h s).set 1 (h 1, .inl (G.2.1, 12, .inl (upd (hv s 0) k (jI v)))) = hB G h (up s (ix k 0) v) := by
  unfold hB
  rw [hv_eq (s := s) (k := k) (v := v) (c := 0) (by decide), hv_ne (s := s) (k := k) (v := v) (c := 1) (c' := 0) (by decide) (by decide) (by decide), hv_ne (s := s) (k := k) (v := v) (c := 2) (c' := 0) (by decide) (by decide) (by decide), hv_ne (s := s) (k := k) (v := v) (c := 3) (c' := 0) (by decide) (by decide) (by decide), hv_ne (s := s) (k := k) (v := v) (c := 4) (c' := 0) (by decide) (by decide) (by decide), hv_ne (s := s) (k := k) (v := v) (c := 9) (c' := 0) (by decide) (by decide) (by decide), hv_ne (s := s) (k := k) (v := v) (c := 10) (c' := 0) (by decide) (by decide) (by decide), hcr_ne (s := s) (k := k) (v := v) (c := 0) (by decide) (by decide), hse_ne (s := s) (v := v) (Or.inr (ix17 k 0)), hst_ne (s := s) (v := v) (ix2 k 0), up_ix (s := s) (k := k) (c := 0) (v := v) (j := 10) (by decide), up_ix (s := s) (k := k) (c := 0) (v := v) (j := 3) (by decide), up_ix (s := s) (k := k) (c := 0) (v := v) (j := 4) (by decide), up_ix (s := s) (k := k) (c := 0) (v := v) (j := 5) (by decide), up_ix (s := s) (k := k) (c := 0) (v := v) (j := 2) (by decide), up_ix (s := s) (k := k) (c := 0) (v := v) (j := 8) (by decide), up_ix (s := s) (k := k) (c := 0) (v := v) (j := 9) (by decide)]
  rfl

theorem hB_a1 (G : vC) (h : Nat → Nat) (s : Nat → Int) (k : Nat) (v : Int) : (hB G h s).set 2 (h 2, .inl (G.2.1, 12, .inl (upd (hv s 1) k (jI v)))) = hB G h (up s (ix k 1) v) := by
  unfold hB
  rw [hv_ne (s := s) (k := k) (v := v) (c := 0) (c' := 1) (by decide) (by decide) (by decide), hv_eq (s := s) (k := k) (v := v) (c := 1) (by decide), hv_ne (s := s) (k := k) (v := v) (c := 2) (c' := 1) (by decide) (by decide) (by decide), hv_ne (s := s) (k := k) (v := v) (c := 3) (c' := 1) (by decide) (by decide) (by decide), hv_ne (s := s) (k := k) (v := v) (c := 4) (c' := 1) (by decide) (by decide) (by decide), hv_ne (s := s) (k := k) (v := v) (c := 9) (c' := 1) (by decide) (by decide) (by decide), hv_ne (s := s) (k := k) (v := v) (c := 10) (c' := 1) (by decide) (by decide) (by decide), hcr_ne (s := s) (k := k) (v := v) (c := 1) (by decide) (by decide), hse_ne (s := s) (v := v) (Or.inr (ix17 k 1)), hst_ne (s := s) (v := v) (ix2 k 1), up_ix (s := s) (k := k) (c := 1) (v := v) (j := 10) (by decide), up_ix (s := s) (k := k) (c := 1) (v := v) (j := 3) (by decide), up_ix (s := s) (k := k) (c := 1) (v := v) (j := 4) (by decide), up_ix (s := s) (k := k) (c := 1) (v := v) (j := 5) (by decide), up_ix (s := s) (k := k) (c := 1) (v := v) (j := 2) (by decide), up_ix (s := s) (k := k) (c := 1) (v := v) (j := 8) (by decide), up_ix (s := s) (k := k) (c := 1) (v := v) (j := 9) (by decide)]
  rfl

theorem hB_a2 (G : vC) (h : Nat → Nat) (s : Nat → Int) (k : Nat) (v : Int) : (hB G h s).set 3 (h 3, .inl (G.2.1, 12, .inl (upd (hv s 2) k (jI v)))) = hB G h (up s (ix k 2) v) := by
  unfold hB
  rw [hv_ne (s := s) (k := k) (v := v) (c := 0) (c' := 2) (by decide) (by decide) (by decide), hv_ne (s := s) (k := k) (v := v) (c := 1) (c' := 2) (by decide) (by decide) (by decide), hv_eq (s := s) (k := k) (v := v) (c := 2) (by decide), hv_ne (s := s) (k := k) (v := v) (c := 3) (c' := 2) (by decide) (by decide) (by decide), hv_ne (s := s) (k := k) (v := v) (c := 4) (c' := 2) (by decide) (by decide) (by decide), hv_ne (s := s) (k := k) (v := v) (c := 9) (c' := 2) (by decide) (by decide) (by decide), hv_ne (s := s) (k := k) (v := v) (c := 10) (c' := 2) (by decide) (by decide) (by decide), hcr_ne (s := s) (k := k) (v := v) (c := 2) (by decide) (by decide), hse_ne (s := s) (v := v) (Or.inr (ix17 k 2)), hst_ne (s := s) (v := v) (ix2 k 2), up_ix (s := s) (k := k) (c := 2) (v := v) (j := 10) (by decide), up_ix (s := s) (k := k) (c := 2) (v := v) (j := 3) (by decide), up_ix (s := s) (k := k) (c := 2) (v := v) (j := 4) (by decide), up_ix (s := s) (k := k) (c := 2) (v := v) (j := 5) (by decide), up_ix (s := s) (k := k) (c := 2) (v := v) (j := 2) (by decide), up_ix (s := s) (k := k) (c := 2) (v := v) (j := 8) (by decide), up_ix (s := s) (k := k) (c := 2) (v := v) (j := 9) (by decide)]
  rfl

theorem hB_a3 (G : vC) (h : Nat → Nat) (s : Nat → Int) (k : Nat) (v : Int) : (hB G h s).set 4 (h 4, .inl (G.2.1, 12, .inl (upd (hv s 3) k (jI v)))) = hB G h (up s (ix k 3) v) := by
  unfold hB
  rw [hv_ne (s := s) (k := k) (v := v) (c := 0) (c' := 3) (by decide) (by decide) (by decide), hv_ne (s := s) (k := k) (v := v) (c := 1) (c' := 3) (by decide) (by decide) (by decide), hv_ne (s := s) (k := k) (v := v) (c := 2) (c' := 3) (by decide) (by decide) (by decide), hv_eq (s := s) (k := k) (v := v) (c := 3) (by decide), hv_ne (s := s) (k := k) (v := v) (c := 4) (c' := 3) (by decide) (by decide) (by decide), hv_ne (s := s) (k := k) (v := v) (c := 9) (c' := 3) (by decide) (by decide) (by decide), hv_ne (s := s) (k := k) (v := v) (c := 10) (c' := 3) (by decide) (by decide) (by decide), hcr_ne (s := s) (k := k) (v := v) (c := 3) (by decide) (by decide), hse_ne (s := s) (v := v) (Or.inr (ix17 k 3)), hst_ne (s := s) (v := v) (ix2 k 3), up_ix (s := s) (k := k) (c := 3) (v := v) (j := 10) (by decide), up_ix (s := s) (k := k) (c := 3) (v := v) (j := 3) (by decide), up_ix (s := s) (k := k) (c := 3) (v := v) (j := 4) (by decide), up_ix (s := s) (k := k) (c := 3) (v := v) (j := 5) (by decide), up_ix (s := s) (k := k) (c := 3) (v := v) (j := 2) (by decide), up_ix (s := s) (k := k) (c := 3) (v := v) (j := 8) (by decide), up_ix (s := s) (k := k) (c := 3) (v := v) (j := 9) (by decide)]
  rfl

theorem hB_a4 (G : vC) (h : Nat → Nat) (s : Nat → Int) (k : Nat) (v : Int) : (hB G h s).set 5 (h 5, .inl (G.2.1, 12, .inl (upd (hv s 4) k (jI v)))) = hB G h (up s (ix k 4) v) := by
  unfold hB
  rw [hv_ne (s := s) (k := k) (v := v) (c := 0) (c' := 4) (by decide) (by decide) (by decide), hv_ne (s := s) (k := k) (v := v) (c := 1) (c' := 4) (by decide) (by decide) (by decide), hv_ne (s := s) (k := k) (v := v) (c := 2) (c' := 4) (by decide) (by decide) (by decide), hv_ne (s := s) (k := k) (v := v) (c := 3) (c' := 4) (by decide) (by decide) (by decide), hv_eq (s := s) (k := k) (v := v) (c := 4) (by decide), hv_ne (s := s) (k := k) (v := v) (c := 9) (c' := 4) (by decide) (by decide) (by decide), hv_ne (s := s) (k := k) (v := v) (c := 10) (c' := 4) (by decide) (by decide) (by decide), hcr_ne (s := s) (k := k) (v := v) (c := 4) (by decide) (by decide), hse_ne (s := s) (v := v) (Or.inr (ix17 k 4)), hst_ne (s := s) (v := v) (ix2 k 4), up_ix (s := s) (k := k) (c := 4) (v := v) (j := 10) (by decide), up_ix (s := s) (k := k) (c := 4) (v := v) (j := 3) (by decide), up_ix (s := s) (k := k) (c := 4) (v := v) (j := 4) (by decide), up_ix (s := s) (k := k) (c := 4) (v := v) (j := 5) (by decide), up_ix (s := s) (k := k) (c := 4) (v := v) (j := 2) (by decide), up_ix (s := s) (k := k) (c := 4) (v := v) (j := 8) (by decide), up_ix (s := s) (k := k) (c := 4) (v := v) (j := 9) (by decide)]
  rfl

theorem hB_a9 (G : vC) (h : Nat → Nat) (s : Nat → Int) (k : Nat) (v : Int) : (hB G h s).set 6 (h 6, .inl (G.2.1, 12, .inl (upd (hv s 9) k (jI v)))) = hB G h (up s (ix k 9) v) := by
  unfold hB
  rw [hv_ne (s := s) (k := k) (v := v) (c := 0) (c' := 9) (by decide) (by decide) (by decide), hv_ne (s := s) (k := k) (v := v) (c := 1) (c' := 9) (by decide) (by decide) (by decide), hv_ne (s := s) (k := k) (v := v) (c := 2) (c' := 9) (by decide) (by decide) (by decide), hv_ne (s := s) (k := k) (v := v) (c := 3) (c' := 9) (by decide) (by decide) (by decide), hv_ne (s := s) (k := k) (v := v) (c := 4) (c' := 9) (by decide) (by decide) (by decide), hv_eq (s := s) (k := k) (v := v) (c := 9) (by decide), hv_ne (s := s) (k := k) (v := v) (c := 10) (c' := 9) (by decide) (by decide) (by decide), hcr_ne (s := s) (k := k) (v := v) (c := 9) (by decide) (by decide), hse_ne (s := s) (v := v) (Or.inr (ix17 k 9)), hst_ne (s := s) (v := v) (ix2 k 9), up_ix (s := s) (k := k) (c := 9) (v := v) (j := 10) (by decide), up_ix (s := s) (k := k) (c := 9) (v := v) (j := 3) (by decide), up_ix (s := s) (k := k) (c := 9) (v := v) (j := 4) (by decide), up_ix (s := s) (k := k) (c := 9) (v := v) (j := 5) (by decide), up_ix (s := s) (k := k) (c := 9) (v := v) (j := 2) (by decide), up_ix (s := s) (k := k) (c := 9) (v := v) (j := 8) (by decide), up_ix (s := s) (k := k) (c := 9) (v := v) (j := 9) (by decide)]
  rfl

theorem hB_a10 (G : vC) (h : Nat → Nat) (s : Nat → Int) (k : Nat) (v : Int) : (hB G h s).set 7 (h 7, .inl (G.2.1, 12, .inl (upd (hv s 10) k (jI v)))) = hB G h (up s (ix k 10) v) := by
  unfold hB
  rw [hv_ne (s := s) (k := k) (v := v) (c := 0) (c' := 10) (by decide) (by decide) (by decide), hv_ne (s := s) (k := k) (v := v) (c := 1) (c' := 10) (by decide) (by decide) (by decide), hv_ne (s := s) (k := k) (v := v) (c := 2) (c' := 10) (by decide) (by decide) (by decide), hv_ne (s := s) (k := k) (v := v) (c := 3) (c' := 10) (by decide) (by decide) (by decide), hv_ne (s := s) (k := k) (v := v) (c := 4) (c' := 10) (by decide) (by decide) (by decide), hv_ne (s := s) (k := k) (v := v) (c := 9) (c' := 10) (by decide) (by decide) (by decide), hv_eq (s := s) (k := k) (v := v) (c := 10) (by decide), hcr_ne (s := s) (k := k) (v := v) (c := 10) (by decide) (by decide), hse_ne (s := s) (v := v) (Or.inr (ix17 k 10)), hst_ne (s := s) (v := v) (ix2 k 10), up_ix (s := s) (k := k) (c := 10) (v := v) (j := 10) (by decide), up_ix (s := s) (k := k) (c := 10) (v := v) (j := 3) (by decide), up_ix (s := s) (k := k) (c := 10) (v := v) (j := 4) (by decide), up_ix (s := s) (k := k) (c := 10) (v := v) (j := 5) (by decide), up_ix (s := s) (k := k) (c := 10) (v := v) (j := 2) (by decide), up_ix (s := s) (k := k) (c := 10) (v := v) (j := 8) (by decide), up_ix (s := s) (k := k) (c := 10) (v := v) (j := 9) (by decide)]
  rfl

theorem hB_cr (G : vC) (h : Nat → Nat) (s : Nat → Int) (k w : Nat) (hw : w < 4) (v : Int) : (hB G h s).set 8 (h 8, .inl (G.2.1, 48, .inl (upd (hcr s) (k * 4 + w) (jI v)))) = hB G h (up s (ix k (5 + w)) v) := by
  unfold hB
  rw [hv_ne (s := s) (k := k) (v := v) (c := 0) (c' := 5 + w) (by decide) (by omega) (by omega), hv_ne (s := s) (k := k) (v := v) (c := 1) (c' := 5 + w) (by decide) (by omega) (by omega), hv_ne (s := s) (k := k) (v := v) (c := 2) (c' := 5 + w) (by decide) (by omega) (by omega), hv_ne (s := s) (k := k) (v := v) (c := 3) (c' := 5 + w) (by decide) (by omega) (by omega), hv_ne (s := s) (k := k) (v := v) (c := 4) (c' := 5 + w) (by decide) (by omega) (by omega), hv_ne (s := s) (k := k) (v := v) (c := 9) (c' := 5 + w) (by decide) (by omega) (by omega), hv_ne (s := s) (k := k) (v := v) (c := 10) (c' := 5 + w) (by decide) (by omega) (by omega), hcr_eq (s := s) (k := k) (v := v) hw, hse_ne (s := s) (v := v) (Or.inr (ix17 k (5 + w))), hst_ne (s := s) (v := v) (ix2 k (5 + w)), up_ix (s := s) (k := k) (c := 5 + w) (v := v) (j := 10) (by decide), up_ix (s := s) (k := k) (c := 5 + w) (v := v) (j := 3) (by decide), up_ix (s := s) (k := k) (c := 5 + w) (v := v) (j := 4) (by decide), up_ix (s := s) (k := k) (c := 5 + w) (v := v) (j := 5) (by decide), up_ix (s := s) (k := k) (c := 5 + w) (v := v) (j := 2) (by decide), up_ix (s := s) (k := k) (c := 5 + w) (v := v) (j := 8) (by decide), up_ix (s := s) (k := k) (c := 5 + w) (v := v) (j := 9) (by decide)]
  rfl

theorem hB_se (G : vC) (h : Nat → Nat) (s : Nat → Int) (f : Nat) (hf : f < 6) (v : Int) : (hB G h s).set 9 (h 9, .inl (G.2.1, 6, .inl (upd (hse s) f (jI v)))) = hB G h (up s (11 + f) v) := by
  unfold hB
  rw [hv_lo (s := s) (v := v) (c := 0) (j := 11 + f) (by omega), hv_lo (s := s) (v := v) (c := 1) (j := 11 + f) (by omega), hv_lo (s := s) (v := v) (c := 2) (j := 11 + f) (by omega), hv_lo (s := s) (v := v) (c := 3) (j := 11 + f) (by omega), hv_lo (s := s) (v := v) (c := 4) (j := 11 + f) (by omega), hv_lo (s := s) (v := v) (c := 9) (j := 11 + f) (by omega), hv_lo (s := s) (v := v) (c := 10) (j := 11 + f) (by omega), hcr_lo (s := s) (v := v) (j := 11 + f) (by omega), hse_eq (s := s) (v := v) hf, hst_ne (s := s) (v := v) (j := 11 + f) (by omega), up_ne (s := s) (k := 10) (j := 11 + f) (v := v) (by omega), up_ne (s := s) (k := 3) (j := 11 + f) (v := v) (by omega), up_ne (s := s) (k := 4) (j := 11 + f) (v := v) (by omega), up_ne (s := s) (k := 5) (j := 11 + f) (v := v) (by omega), up_ne (s := s) (k := 2) (j := 11 + f) (v := v) (by omega), up_ne (s := s) (k := 8) (j := 11 + f) (v := v) (by omega), up_ne (s := s) (k := 9) (j := 11 + f) (v := v) (by omega)]
  rfl

theorem hB_st (G : vC) (h : Nat → Nat) (s : Nat → Int) (f : Nat) (hf : f < 2) (v : Int) : (hB G h s).set 10 (h 10, .inl (G.2.1, 2, .inl (upd (hst s) f (jI v)))) = hB G h (up s (f) v) := by
  unfold hB
  rw [hv_lo (s := s) (v := v) (c := 0) (j := f) (by omega), hv_lo (s := s) (v := v) (c := 1) (j := f) (by omega), hv_lo (s := s) (v := v) (c := 2) (j := f) (by omega), hv_lo (s := s) (v := v) (c := 3) (j := f) (by omega), hv_lo (s := s) (v := v) (c := 4) (j := f) (by omega), hv_lo (s := s) (v := v) (c := 9) (j := f) (by omega), hv_lo (s := s) (v := v) (c := 10) (j := f) (by omega), hcr_lo (s := s) (v := v) (j := f) (by omega), hse_ne (s := s) (v := v) (j := f) (Or.inl (by omega)), hst_eq (s := s) (v := v) hf, up_ne (s := s) (k := 10) (j := f) (v := v) (by omega), up_ne (s := s) (k := 3) (j := f) (v := v) (by omega), up_ne (s := s) (k := 4) (j := f) (v := v) (by omega), up_ne (s := s) (k := 5) (j := f) (v := v) (by omega), up_ne (s := s) (k := 2) (j := f) (v := v) (by omega), up_ne (s := s) (k := 8) (j := f) (v := v) (by omega), up_ne (s := s) (k := 9) (j := f) (v := v) (by omega)]
  rfl

theorem hB_f10 (G : vC) (h : Nat → Nat) (s : Nat → Int) (v : Int) : (hB G h s).set 0 (h 0, .inr (1, [.ref (h 1), .ref (h 2), .ref (h 3), .ref (h 4), .ref (h 5), .ref (h 6), .ref (h 7), .ref (h 8), .ref (h 9), .ref (h 10), .int (jI v), .int (jI (s 3)), .int (jI (s 4)), .int (jI (s 5)), .int (jI (s 2)), .int (jI (s 8)), .int (jI (s 9))])) = hB G h (up s (10) v) := by
  unfold hB
  rw [hv_lo (s := s) (v := v) (c := 0) (j := 10) (by decide), hv_lo (s := s) (v := v) (c := 1) (j := 10) (by decide), hv_lo (s := s) (v := v) (c := 2) (j := 10) (by decide), hv_lo (s := s) (v := v) (c := 3) (j := 10) (by decide), hv_lo (s := s) (v := v) (c := 4) (j := 10) (by decide), hv_lo (s := s) (v := v) (c := 9) (j := 10) (by decide), hv_lo (s := s) (v := v) (c := 10) (j := 10) (by decide), hcr_lo (s := s) (v := v) (j := 10) (by decide), hse_ne (s := s) (v := v) (j := 10) (Or.inl (by decide)), hst_ne (s := s) (v := v) (j := 10) (by decide), up_eq (s := s) (j := 10) (v := v), up_ne (s := s) (k := 3) (j := 10) (v := v) (by decide), up_ne (s := s) (k := 4) (j := 10) (v := v) (by decide), up_ne (s := s) (k := 5) (j := 10) (v := v) (by decide), up_ne (s := s) (k := 2) (j := 10) (v := v) (by decide), up_ne (s := s) (k := 8) (j := 10) (v := v) (by decide), up_ne (s := s) (k := 9) (j := 10) (v := v) (by decide)]
  rfl

theorem hB_f11 (G : vC) (h : Nat → Nat) (s : Nat → Int) (v : Int) : (hB G h s).set 0 (h 0, .inr (1, [.ref (h 1), .ref (h 2), .ref (h 3), .ref (h 4), .ref (h 5), .ref (h 6), .ref (h 7), .ref (h 8), .ref (h 9), .ref (h 10), .int (jI (s 10)), .int (jI v), .int (jI (s 4)), .int (jI (s 5)), .int (jI (s 2)), .int (jI (s 8)), .int (jI (s 9))])) = hB G h (up s (3) v) := by
  unfold hB
  rw [hv_lo (s := s) (v := v) (c := 0) (j := 3) (by decide), hv_lo (s := s) (v := v) (c := 1) (j := 3) (by decide), hv_lo (s := s) (v := v) (c := 2) (j := 3) (by decide), hv_lo (s := s) (v := v) (c := 3) (j := 3) (by decide), hv_lo (s := s) (v := v) (c := 4) (j := 3) (by decide), hv_lo (s := s) (v := v) (c := 9) (j := 3) (by decide), hv_lo (s := s) (v := v) (c := 10) (j := 3) (by decide), hcr_lo (s := s) (v := v) (j := 3) (by decide), hse_ne (s := s) (v := v) (j := 3) (Or.inl (by decide)), hst_ne (s := s) (v := v) (j := 3) (by decide), up_ne (s := s) (k := 10) (j := 3) (v := v) (by decide), up_eq (s := s) (j := 3) (v := v), up_ne (s := s) (k := 4) (j := 3) (v := v) (by decide), up_ne (s := s) (k := 5) (j := 3) (v := v) (by decide), up_ne (s := s) (k := 2) (j := 3) (v := v) (by decide), up_ne (s := s) (k := 8) (j := 3) (v := v) (by decide), up_ne (s := s) (k := 9) (j := 3) (v := v) (by decide)]
  rfl

theorem hB_f12 (G : vC) (h : Nat → Nat) (s : Nat → Int) (v : Int) : (hB G h s).set 0 (h 0, .inr (1, [.ref (h 1), .ref (h 2), .ref (h 3), .ref (h 4), .ref (h 5), .ref (h 6), .ref (h 7), .ref (h 8), .ref (h 9), .ref (h 10), .int (jI (s 10)), .int (jI (s 3)), .int (jI v), .int (jI (s 5)), .int (jI (s 2)), .int (jI (s 8)), .int (jI (s 9))])) = hB G h (up s (4) v) := by
  unfold hB
  rw [hv_lo (s := s) (v := v) (c := 0) (j := 4) (by decide), hv_lo (s := s) (v := v) (c := 1) (j := 4) (by decide), hv_lo (s := s) (v := v) (c := 2) (j := 4) (by decide), hv_lo (s := s) (v := v) (c := 3) (j := 4) (by decide), hv_lo (s := s) (v := v) (c := 4) (j := 4) (by decide), hv_lo (s := s) (v := v) (c := 9) (j := 4) (by decide), hv_lo (s := s) (v := v) (c := 10) (j := 4) (by decide), hcr_lo (s := s) (v := v) (j := 4) (by decide), hse_ne (s := s) (v := v) (j := 4) (Or.inl (by decide)), hst_ne (s := s) (v := v) (j := 4) (by decide), up_ne (s := s) (k := 10) (j := 4) (v := v) (by decide), up_ne (s := s) (k := 3) (j := 4) (v := v) (by decide), up_eq (s := s) (j := 4) (v := v), up_ne (s := s) (k := 5) (j := 4) (v := v) (by decide), up_ne (s := s) (k := 2) (j := 4) (v := v) (by decide), up_ne (s := s) (k := 8) (j := 4) (v := v) (by decide), up_ne (s := s) (k := 9) (j := 4) (v := v) (by decide)]
  rfl

theorem hB_f13 (G : vC) (h : Nat → Nat) (s : Nat → Int) (v : Int) : (hB G h s).set 0 (h 0, .inr (1, [.ref (h 1), .ref (h 2), .ref (h 3), .ref (h 4), .ref (h 5), .ref (h 6), .ref (h 7), .ref (h 8), .ref (h 9), .ref (h 10), .int (jI (s 10)), .int (jI (s 3)), .int (jI (s 4)), .int (jI v), .int (jI (s 2)), .int (jI (s 8)), .int (jI (s 9))])) = hB G h (up s (5) v) := by
  unfold hB
  rw [hv_lo (s := s) (v := v) (c := 0) (j := 5) (by decide), hv_lo (s := s) (v := v) (c := 1) (j := 5) (by decide), hv_lo (s := s) (v := v) (c := 2) (j := 5) (by decide), hv_lo (s := s) (v := v) (c := 3) (j := 5) (by decide), hv_lo (s := s) (v := v) (c := 4) (j := 5) (by decide), hv_lo (s := s) (v := v) (c := 9) (j := 5) (by decide), hv_lo (s := s) (v := v) (c := 10) (j := 5) (by decide), hcr_lo (s := s) (v := v) (j := 5) (by decide), hse_ne (s := s) (v := v) (j := 5) (Or.inl (by decide)), hst_ne (s := s) (v := v) (j := 5) (by decide), up_ne (s := s) (k := 10) (j := 5) (v := v) (by decide), up_ne (s := s) (k := 3) (j := 5) (v := v) (by decide), up_ne (s := s) (k := 4) (j := 5) (v := v) (by decide), up_eq (s := s) (j := 5) (v := v), up_ne (s := s) (k := 2) (j := 5) (v := v) (by decide), up_ne (s := s) (k := 8) (j := 5) (v := v) (by decide), up_ne (s := s) (k := 9) (j := 5) (v := v) (by decide)]
  rfl

theorem hB_f14 (G : vC) (h : Nat → Nat) (s : Nat → Int) (v : Int) : (hB G h s).set 0 (h 0, .inr (1, [.ref (h 1), .ref (h 2), .ref (h 3), .ref (h 4), .ref (h 5), .ref (h 6), .ref (h 7), .ref (h 8), .ref (h 9), .ref (h 10), .int (jI (s 10)), .int (jI (s 3)), .int (jI (s 4)), .int (jI (s 5)), .int (jI v), .int (jI (s 8)), .int (jI (s 9))])) = hB G h (up s (2) v) := by
  unfold hB
  rw [hv_lo (s := s) (v := v) (c := 0) (j := 2) (by decide), hv_lo (s := s) (v := v) (c := 1) (j := 2) (by decide), hv_lo (s := s) (v := v) (c := 2) (j := 2) (by decide), hv_lo (s := s) (v := v) (c := 3) (j := 2) (by decide), hv_lo (s := s) (v := v) (c := 4) (j := 2) (by decide), hv_lo (s := s) (v := v) (c := 9) (j := 2) (by decide), hv_lo (s := s) (v := v) (c := 10) (j := 2) (by decide), hcr_lo (s := s) (v := v) (j := 2) (by decide), hse_ne (s := s) (v := v) (j := 2) (Or.inl (by decide)), hst_ne (s := s) (v := v) (j := 2) (by decide), up_ne (s := s) (k := 10) (j := 2) (v := v) (by decide), up_ne (s := s) (k := 3) (j := 2) (v := v) (by decide), up_ne (s := s) (k := 4) (j := 2) (v := v) (by decide), up_ne (s := s) (k := 5) (j := 2) (v := v) (by decide), up_eq (s := s) (j := 2) (v := v), up_ne (s := s) (k := 8) (j := 2) (v := v) (by decide), up_ne (s := s) (k := 9) (j := 2) (v := v) (by decide)]
  rfl

theorem hB_f15 (G : vC) (h : Nat → Nat) (s : Nat → Int) (v : Int) : (hB G h s).set 0 (h 0, .inr (1, [.ref (h 1), .ref (h 2), .ref (h 3), .ref (h 4), .ref (h 5), .ref (h 6), .ref (h 7), .ref (h 8), .ref (h 9), .ref (h 10), .int (jI (s 10)), .int (jI (s 3)), .int (jI (s 4)), .int (jI (s 5)), .int (jI (s 2)), .int (jI v), .int (jI (s 9))])) = hB G h (up s (8) v) := by
  unfold hB
  rw [hv_lo (s := s) (v := v) (c := 0) (j := 8) (by decide), hv_lo (s := s) (v := v) (c := 1) (j := 8) (by decide), hv_lo (s := s) (v := v) (c := 2) (j := 8) (by decide), hv_lo (s := s) (v := v) (c := 3) (j := 8) (by decide), hv_lo (s := s) (v := v) (c := 4) (j := 8) (by decide), hv_lo (s := s) (v := v) (c := 9) (j := 8) (by decide), hv_lo (s := s) (v := v) (c := 10) (j := 8) (by decide), hcr_lo (s := s) (v := v) (j := 8) (by decide), hse_ne (s := s) (v := v) (j := 8) (Or.inl (by decide)), hst_ne (s := s) (v := v) (j := 8) (by decide), up_ne (s := s) (k := 10) (j := 8) (v := v) (by decide), up_ne (s := s) (k := 3) (j := 8) (v := v) (by decide), up_ne (s := s) (k := 4) (j := 8) (v := v) (by decide), up_ne (s := s) (k := 5) (j := 8) (v := v) (by decide), up_ne (s := s) (k := 2) (j := 8) (v := v) (by decide), up_eq (s := s) (j := 8) (v := v), up_ne (s := s) (k := 9) (j := 8) (v := v) (by decide)]
  rfl

theorem hB_f16 (G : vC) (h : Nat → Nat) (s : Nat → Int) (v : Int) : (hB G h s).set 0 (h 0, .inr (1, [.ref (h 1), .ref (h 2), .ref (h 3), .ref (h 4), .ref (h 5), .ref (h 6), .ref (h 7), .ref (h 8), .ref (h 9), .ref (h 10), .int (jI (s 10)), .int (jI (s 3)), .int (jI (s 4)), .int (jI (s 5)), .int (jI (s 2)), .int (jI (s 8)), .int (jI v)])) = hB G h (up s (9) v) := by
  unfold hB
  rw [hv_lo (s := s) (v := v) (c := 0) (j := 9) (by decide), hv_lo (s := s) (v := v) (c := 1) (j := 9) (by decide), hv_lo (s := s) (v := v) (c := 2) (j := 9) (by decide), hv_lo (s := s) (v := v) (c := 3) (j := 9) (by decide), hv_lo (s := s) (v := v) (c := 4) (j := 9) (by decide), hv_lo (s := s) (v := v) (c := 9) (j := 9) (by decide), hv_lo (s := s) (v := v) (c := 10) (j := 9) (by decide), hcr_lo (s := s) (v := v) (j := 9) (by decide), hse_ne (s := s) (v := v) (j := 9) (Or.inl (by decide)), hst_ne (s := s) (v := v) (j := 9) (by decide), up_ne (s := s) (k := 10) (j := 9) (v := v) (by decide), up_ne (s := s) (k := 3) (j := 9) (v := v) (by decide), up_ne (s := s) (k := 4) (j := 9) (v := v) (by decide), up_ne (s := s) (k := 5) (j := 9) (v := v) (by decide), up_ne (s := s) (k := 2) (j := 9) (v := v) (by decide), up_ne (s := s) (k := 8) (j := 9) (v := v) (by decide), up_eq (s := s) (j := 9) (v := v)]
  rfl

theorem hB_g6 (G : vC) (h : Nat → Nat) (s : Nat → Int) (v : Int) : hB G h s = hB G h (up s (6) v) := by
  unfold hB
  rw [hv_lo (s := s) (v := v) (c := 0) (j := 6) (by decide), hv_lo (s := s) (v := v) (c := 1) (j := 6) (by decide), hv_lo (s := s) (v := v) (c := 2) (j := 6) (by decide), hv_lo (s := s) (v := v) (c := 3) (j := 6) (by decide), hv_lo (s := s) (v := v) (c := 4) (j := 6) (by decide), hv_lo (s := s) (v := v) (c := 9) (j := 6) (by decide), hv_lo (s := s) (v := v) (c := 10) (j := 6) (by decide), hcr_lo (s := s) (v := v) (j := 6) (by decide), hse_ne (s := s) (v := v) (j := 6) (Or.inl (by decide)), hst_ne (s := s) (v := v) (j := 6) (by decide), up_ne (s := s) (k := 10) (j := 6) (v := v) (by decide), up_ne (s := s) (k := 3) (j := 6) (v := v) (by decide), up_ne (s := s) (k := 4) (j := 6) (v := v) (by decide), up_ne (s := s) (k := 5) (j := 6) (v := v) (by decide), up_ne (s := s) (k := 2) (j := 6) (v := v) (by decide), up_ne (s := s) (k := 8) (j := 6) (v := v) (by decide), up_ne (s := s) (k := 9) (j := 6) (v := v) (by decide)]

theorem hB_g7 (G : vC) (h : Nat → Nat) (s : Nat → Int) (v : Int) : hB G h s = hB G h (up s (7) v) := by
  unfold hB
  rw [hv_lo (s := s) (v := v) (c := 0) (j := 7) (by decide), hv_lo (s := s) (v := v) (c := 1) (j := 7) (by decide), hv_lo (s := s) (v := v) (c := 2) (j := 7) (by decide), hv_lo (s := s) (v := v) (c := 3) (j := 7) (by decide), hv_lo (s := s) (v := v) (c := 4) (j := 7) (by decide), hv_lo (s := s) (v := v) (c := 9) (j := 7) (by decide), hv_lo (s := s) (v := v) (c := 10) (j := 7) (by decide), hcr_lo (s := s) (v := v) (j := 7) (by decide), hse_ne (s := s) (v := v) (j := 7) (Or.inl (by decide)), hst_ne (s := s) (v := v) (j := 7) (by decide), up_ne (s := s) (k := 10) (j := 7) (v := v) (by decide), up_ne (s := s) (k := 3) (j := 7) (v := v) (by decide), up_ne (s := s) (k := 4) (j := 7) (v := v) (by decide), up_ne (s := s) (k := 5) (j := 7) (v := v) (by decide), up_ne (s := s) (k := 2) (j := 7) (v := v) (by decide), up_ne (s := s) (k := 8) (j := 7) (v := v) (by decide), up_ne (s := s) (k := 9) (j := 7) (v := v) (by decide)]

/-- the check's object: its row, the spare one, the history, the snapshot, the text, and its numbers g by their places -/
def mI (f : Nat → Int) : Nat → Int32 := fun k => jI (f k)
theorem mI_upd (f : Nat → Int) (k : Nat) (v : Int) : upd (mI f) k (jI v) = mI (up f k v) := by
  funext j; unfold mI upd up; split <;> rfl
def mB (G : vC) (m : Nat → Nat) (s sp hi sn tx : Nat → Int) (g3 g5 g7 g8 g9 g10 g11 g12 g13 : Int) : va_W :=
  [(m 0, .inr (5, [.ref (m 1), .ref (m 2), .ref (m 3), .int (jI g3), .ref (m 4), .int (jI g5), .ref (m 5), .int (jI g7), .int (jI g8), .int (jI g9), .int (jI g10), .int (jI g11), .int (jI g12), .int (jI g13)])),
   (m 1, .inl (G.2.1, 149, .inl (mI s))), (m 2, .inl (G.2.1, 149, .inl (mI sp))), (m 3, .inl (G.2.1, 596, .inl (mI hi))), (m 4, .inl (G.2.1, 149, .inl (mI sn))), (m 5, .inl (G.2.1, 60, .inl (mI tx)))]
/-- a ballot: with or without lobby; the weights in 64ths as floats; the votes -/
def cd (k : Nat) : FP.Core.Datum := FP.Core.roundRatio FP.Core.b32 false k 1 (-6)
def fB (k : Nat) : UInt32 := FP.Core.of32 (cd k)
def bW (W : Nat → Nat) : Nat → UInt32 := fun k => fB (W k)
def bB (G : vC) (b : Nat → Nat) (lob : Bool) (W : Nat → Nat) (vf : Nat → Int) : va_W :=
  [(b 0, .inr (0, [.int (jI (bI (lob = true))), .ref (b 1), .ref (b 2)])), (b 1, .inl (G.2.2.1, 4, .inr (.inr (.inl (bW W))))), (b 2, .inl (G.2.1, 6, .inl (mI vf)))]
/-- the history: which houses it holds, and how many count -/
def pB (G : vC) (p : Nat → Nat) (f : Nat → Option Nat) (sz : Int) : va_W :=
  [(p 0, .inr (2, [.ref (p 1), .int (jI sz)])), (p 1, .inl (G.2.2.2.2, 4, .inr (.inr (.inr (.inr f)))))]
/-- the sitting: its characters, its things, its numbers: length 4, things 5, at 6 -/
def sB (G : vC) (t : Nat → Nat) (ch ki fi se : Nat → Int) (ln th ps : Int) : va_W :=
  [(t 0, .inr (3, [.ref (t 1), .ref (t 2), .ref (t 3), .ref (t 4), .int (jI ln), .int (jI th), .int (jI ps)])),
   (t 1, .inl (G.2.2.2.1, 60, .inl (mI ch))), (t 2, .inl (G.2.1, 30, .inl (mI ki))), (t 3, .inl (G.2.1, 30, .inl (mI fi))), (t 4, .inl (G.2.1, 30, .inl (mI se)))]
/-- a loop that counts up -/
theorem up_ind (P : Nat → Prop) (N : Nat) (h : ∀ k, k ≤ N → (k < N → P (k + 1)) → P k) : ∀ k, k ≤ N → P k := by
  intro k hk
  obtain ⟨d, hd⟩ : ∃ d, N - k = d := ⟨_, rfl⟩
  induction d generalizing k with
  | zero => exact h k hk (fun q => by omega)
  | succ d ih => exact h k hk (fun q => ih (k + 1) (by omega) (by omega))
