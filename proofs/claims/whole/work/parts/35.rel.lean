/-! history, start -/
def HR (hi : Nat → Int) (hs : Nat → Nat → Int) (sz : Nat) : Prop := ∀ i j, i < sz → j < 149 → hi (149 * i + j) = hs i j
theorem HR.push {hi s : Nat → Int} {hs : Nat → Nat → Int} {sz : Nat} (h : HR hi hs sz) (hz : sz ≤ 4) : HR (phH hi (sz : Int) s) (pushH hs sz s) (if sz = 4 then 4 else sz + 1) := by
  intro i j hi2 hj
  unfold phH pushH
  by_cases q : sz = 4
  · rw [if_pos q] at hi2
    rw [if_pos (by omega), if_pos q]
    unfold cpO
    by_cases q2 : i = 3
    · rw [if_pos (by omega), if_pos q2, show 149 * i + j - 447 = j by omega]
    · rw [if_neg (by omega), if_neg q2]
      unfold shH
      have h2 := h (i + 1) j (by omega) hj
      rw [if_pos (by omega), ← h2, show 149 * i + j + 149 = 149 * (i + 1) + j by omega]
  · rw [if_neg q] at hi2
    rw [if_neg (by omega), if_neg q]
    unfold cpO
    rw [Int.toNat_natCast]
    by_cases q2 : i = sz
    · subst q2
      rw [if_pos (by omega), if_pos rfl, show 149 * i + j - 149 * i = j by omega]
    · rw [if_neg (by omega), if_neg q2]
      exact h i j (by omega) hj
theorem HR.rc {hi s : Nat → Int} {hs : Nat → Nat → Int} {sz : Nat} (h : HR hi hs sz) (hz : sz ≤ 4) (r : Int) : HR (mcH hi (sz : Int) s r) (rcH hs sz s r) (rcZ sz r) := by
  unfold mcH rcH rcZ
  by_cases q : 0 ≤ r
  · rw [if_pos q, if_pos q, if_pos q]
    exact h.push hz
  · rw [if_neg q, if_neg q, if_neg q]
    exact h
theorem mc_rc (sz : Nat) (r : Int) : mcZ (sz : Int) r = ((rcZ sz r : Nat) : Int) := by
  unfold mcZ rcZ phZ
  (repeat' split) <;> omega
theorem rcZ_b {sz : Nat} (h : sz ≤ 4) (r : Int) : rcZ sz r ≤ 4 := by
  unfold rcZ
  (repeat' split) <;> omega
/-- what holds of a state of the house -/
def IG (s : Nat → Int) : Prop := Inv 99999 s ∧ GI s
theorem IG.h9 {s : Nat → Int} (h : IG s) : ∀ k, k < 12 → 0 ≤ s (ix k 9) ∧ s (ix k 9) ≤ 100000 := fun k hk => by
  have h1 := h.2.2.2 k hk
  have h2 := h.1.base
  omega
theorem IG.rc {s : Nat → Int} {hs : Nat → Nat → Int} {sz : Nat} (h : ∀ i, i < sz → IG (hs i)) (hz : sz ≤ 4) (hs0 : IG s) (r : Int) : ∀ i, i < rcZ sz r → IG (rcH hs sz s r i) := by
  intro i hi
  unfold rcZ at hi
  unfold rcH pushH
  by_cases q : 0 ≤ r
  · rw [if_pos q] at hi ⊢
    by_cases q2 : sz = 4
    · rw [if_pos q2] at hi ⊢
      show IG (if i = 3 then s else hs (i + 1))
      by_cases q3 : i = 3
      · rw [if_pos q3]; exact hs0
      · rw [if_neg q3]; exact h _ (by omega)
    · rw [if_neg q2] at hi ⊢
      show IG (if i = sz then s else hs i)
      by_cases q3 : i = sz
      · rw [if_pos q3]; exact hs0
      · rw [if_neg q3]; exact h _ (by omega)
  · rw [if_neg q] at hi ⊢
    exact h i hi
theorem IG.pm {s tx : Nat → Int} (h : IG s) (ln : Int) : IG (pmS s tx ln) := by
  unfold pmS
  split
  · exact ⟨h.1.pf tx ln _, GI.pf h.1 h.2 tx ln _⟩
  · exact h
theorem IG.z : IG hz0 := by
  have hz : ∀ k c, hz0 (ix k c) = 0 := fun k c => hz0_hi (by unfold ix; omega)
  refine ⟨⟨by decide, fun f hf => ?_, fun k hk => ?_, fun k c _ _ _ => hz k c⟩, ?_, ?_, fun k hk => ?_⟩
  · rcases (by omega : f = 0 ∨ f = 1 ∨ f = 2 ∨ f = 3 ∨ f = 4 ∨ f = 5) with rfl | rfl | rfl | rfl | rfl | rfl <;> decide
  · rw [hz k 0, hz k 1, hz k 2, hz k 3, hz k 4, hz k 5, hz k 6, hz k 7, hz k 8]
    decide
  · rw [sum_ext (g := fun _ => 0) 12 (fun k _ => hz k 10)]; rfl
  · rw [sum_ext (g := fun _ => 0) 12 (fun k _ => hz k 9)]; rfl
  · rw [hz k 9]; decide
theorem pfX_b {s tx : Nat → Int} {ln : Int} : ∀ f j, pfX s tx ln f j = -1 ∨ (0 ≤ pfX s tx ln f j ∧ pfX s tx ln f j < (j : Int) + f) := by
  intro f
  induction f with
  | zero => intro j; exact Or.inl rfl
  | succ f ih =>
    intro j
    rw [pfX_s]
    split
    · right; omega
    · have := ih (j + 1)
      omega
theorem pfX_e {s tx : Nat → Int} {ln : Int} : ∀ f j, pfX s tx ln f j ≠ -1 → erP (pfA s tx ln (pfX s tx ln f j).toNat) := by
  intro f
  induction f with
  | zero => intro j h; exact absurd rfl h
  | succ f ih =>
    intro j h
    rw [pfX_s] at h ⊢
    by_cases q : erP (pfA s tx ln j)
    · rw [if_pos q, Int.toNat_natCast]; exact q
    · rw [if_neg q] at h ⊢
      exact ih (j + 1) h
