/-! reading a text: characters tx, length ln -/
def chA (tx : Nat → Int) (ln a : Int) : Int := if 0 ≤ a ∧ a < ln then tx a.toNat else -1
def dgA (tx : Nat → Int) (ln a : Int) : Int := if 48 ≤ chA tx ln a ∧ chA tx ln a ≤ 57 then chA tx ln a - 48 else -1
def rnV (tx : Nat → Int) (ln a l m : Int) : Int := if dgA tx ln a < l ∨ m < dgA tx ln a then -1 else if 0 < dgA tx ln a ∧ 0 ≤ dgA tx ln (a + 1) ∧ 10 * dgA tx ln a + dgA tx ln (a + 1) ≤ m then 10 * dgA tx ln a + dgA tx ln (a + 1) else dgA tx ln a
def rnA (tx : Nat → Int) (ln a l m : Int) : Int := if dgA tx ln a < l ∨ m < dgA tx ln a then a else if 0 < dgA tx ln a ∧ 0 ≤ dgA tx ln (a + 1) ∧ 10 * dgA tx ln a + dgA tx ln (a + 1) ≤ m then a + 2 else a + 1
abbrev prO (tx : Nat → Int) (ln a mf sg l m : Int) : Prop := rnV tx ln (a + 1) 0 mf ≠ -1 ∧ chA tx ln (rnA tx ln (a + 1) 0 mf) = sg ∧ rnV tx ln (rnA tx ln (a + 1) 0 mf + 1) l m ≠ -1
def prA (tx : Nat → Int) (ln a mf sg l m : Int) : Int := if rnV tx ln (a + 1) 0 mf = -1 ∨ chA tx ln (rnA tx ln (a + 1) 0 mf) ≠ sg then rnA tx ln (a + 1) 0 mf else rnA tx ln (rnA tx ln (a + 1) 0 mf + 1) l m
abbrev thO (tx : Nat → Int) (ln a : Int) : Prop := (chA tx ln a = 119 ∧ prO tx ln a 3 42 0 9) ∨ (chA tx ln a = 99 ∧ prO tx ln a 11 58 0 3) ∨ (chA tx ln a = 102 ∧ prO tx ln a 11 43 1 64) ∨ chA tx ln a = 118 ∨ (chA tx ln a = 46 ∧ rnV tx ln (a + 1) 1 99 ≠ -1)
def thA (tx : Nat → Int) (ln a : Int) : Int := if chA tx ln a = 119 then prA tx ln a 3 42 0 9 else if chA tx ln a = 99 then prA tx ln a 11 58 0 3 else if chA tx ln a = 102 then prA tx ln a 11 43 1 64 else if chA tx ln a = 118 then a + 1 else if chA tx ln a = 46 then rnA tx ln (a + 1) 1 99 else a
def thF (tx : Nat → Int) (ln a : Int) : Int := if chA tx ln a = 119 then rnV tx ln (a + 1) 0 3 else if chA tx ln a = 99 then rnV tx ln (a + 1) 0 11 else if chA tx ln a = 102 then rnV tx ln (a + 1) 0 11 else if chA tx ln a = 46 then rnV tx ln (a + 1) 1 99 else 0
def thG (tx : Nat → Int) (ln a : Int) : Int := if chA tx ln a = 119 then rnV tx ln (rnA tx ln (a + 1) 0 3 + 1) 0 9 else if chA tx ln a = 99 then rnV tx ln (rnA tx ln (a + 1) 0 11 + 1) 0 3 else if chA tx ln a = 102 then rnV tx ln (rnA tx ln (a + 1) 0 11 + 1) 1 64 else 0
def SI (tx : Nat → Int) (ln : Int) : Prop := (∀ k, k < 60 → 0 ≤ tx k ∧ tx k < 65536) ∧ 0 ≤ ln ∧ ln ≤ 60
theorem chA_b {tx : Nat → Int} {ln : Int} (h : SI tx ln) (a : Int) : -1 ≤ chA tx ln a ∧ chA tx ln a < 65536 := by
  have h2 := h.2
  unfold chA
  split
  · have := h.1 a.toNat (by omega)
    omega
  · omega
theorem dgA_b {tx : Nat → Int} {ln : Int} (a : Int) : -1 ≤ dgA tx ln a ∧ dgA tx ln a ≤ 9 := by
  unfold dgA
  split <;> omega
theorem rnV_b {tx : Nat → Int} {ln a l m : Int} (hl : 0 ≤ l) (hm : m ≤ 99) (hm2 : -1 ≤ m) : -1 ≤ rnV tx ln a l m ∧ rnV tx ln a l m ≤ m := by
  have h1 := dgA_b (tx := tx) (ln := ln) a
  unfold rnV
  (repeat' split) <;> omega
theorem rnA_b {tx : Nat → Int} {ln a l m : Int} : a ≤ rnA tx ln a l m ∧ rnA tx ln a l m ≤ a + 2 := by
  unfold rnA
  (repeat' split) <;> omega
theorem prA_b {tx : Nat → Int} {ln a mf sg l m : Int} : a ≤ prA tx ln a mf sg l m ∧ prA tx ln a mf sg l m ≤ a + 6 := by
  have h1 := rnA_b (tx := tx) (ln := ln) (a := a + 1) (l := 0) (m := mf)
  have h2 := rnA_b (tx := tx) (ln := ln) (a := rnA tx ln (a + 1) 0 mf + 1) (l := l) (m := m)
  unfold prA
  split <;> omega
theorem if_cg {α : Type} {p q : Prop} [Decidable p] [Decidable q] {a b c d : α} (h : q ↔ p) (h1 : a = c) (h2 : b = d) : (if p then a else b) = (if q then c else d) := by
  subst h1; subst h2
  by_cases z : p
  · rw [if_pos z, if_pos (h.mpr z)]
  · rw [if_neg z, if_neg (fun y => z (h.mp y))]
theorem th_119 {tx : Nat → Int} {ln a : Int} (h : chA tx ln a = 119) : (thO tx ln a ↔ prO tx ln a 3 42 0 9) ∧ thA tx ln a = prA tx ln a 3 42 0 9 ∧ thF tx ln a = rnV tx ln (a + 1) 0 3 ∧ thG tx ln a = rnV tx ln (rnA tx ln (a + 1) 0 3 + 1) 0 9 := by
  unfold thA thF thG thO
  refine ⟨⟨fun q => ?_, fun q => Or.inl ⟨h, q⟩⟩, if_pos h, if_pos h, if_pos h⟩
  rcases q with q | q | q | q | q
  · exact q.2
  all_goals omega
theorem th_99 {tx : Nat → Int} {ln a : Int} (h : chA tx ln a = 99) : (thO tx ln a ↔ prO tx ln a 11 58 0 3) ∧ thA tx ln a = prA tx ln a 11 58 0 3 ∧ thF tx ln a = rnV tx ln (a + 1) 0 11 ∧ thG tx ln a = rnV tx ln (rnA tx ln (a + 1) 0 11 + 1) 0 3 := by
  unfold thA thF thG thO
  rw [if_neg (by omega), if_pos h, if_neg (by omega), if_pos h, if_neg (by omega), if_pos h]
  refine ⟨⟨fun q => ?_, fun q => Or.inr (Or.inl ⟨h, q⟩)⟩, rfl, rfl, rfl⟩
  rcases q with q | q | q | q | q
  · omega
  · exact q.2
  all_goals omega
theorem th_102 {tx : Nat → Int} {ln a : Int} (h : chA tx ln a = 102) : (thO tx ln a ↔ prO tx ln a 11 43 1 64) ∧ thA tx ln a = prA tx ln a 11 43 1 64 ∧ thF tx ln a = rnV tx ln (a + 1) 0 11 ∧ thG tx ln a = rnV tx ln (rnA tx ln (a + 1) 0 11 + 1) 1 64 := by
  unfold thA thF thG thO
  rw [if_neg (by omega), if_neg (by omega), if_pos h, if_neg (by omega), if_neg (by omega), if_pos h, if_neg (by omega), if_neg (by omega), if_pos h]
  refine ⟨⟨fun q => ?_, fun q => Or.inr (Or.inr (Or.inl ⟨h, q⟩))⟩, rfl, rfl, rfl⟩
  rcases q with q | q | q | q | q
  · omega
  · omega
  · exact q.2
  all_goals omega
theorem th_118 {tx : Nat → Int} {ln a : Int} (h : chA tx ln a = 118) : (thO tx ln a ↔ True) ∧ thA tx ln a = a + 1 ∧ thF tx ln a = 0 ∧ thG tx ln a = 0 := by
  unfold thA thF thG thO
  rw [if_neg (by omega), if_neg (by omega), if_neg (by omega), if_pos h, if_neg (by omega), if_neg (by omega), if_neg (by omega), if_neg (by omega), if_neg (by omega), if_neg (by omega), if_neg (by omega)]
  exact ⟨⟨fun _ => trivial, fun _ => Or.inr (Or.inr (Or.inr (Or.inl h)))⟩, rfl, rfl, rfl⟩
theorem th_46 {tx : Nat → Int} {ln a : Int} (h : chA tx ln a = 46) : (thO tx ln a ↔ rnV tx ln (a + 1) 1 99 ≠ -1) ∧ thA tx ln a = rnA tx ln (a + 1) 1 99 ∧ thF tx ln a = rnV tx ln (a + 1) 1 99 ∧ thG tx ln a = 0 := by
  unfold thA thF thG thO
  rw [if_neg (by omega), if_neg (by omega), if_neg (by omega), if_neg (by omega), if_pos h, if_neg (by omega), if_neg (by omega), if_neg (by omega), if_pos h, if_neg (by omega), if_neg (by omega), if_neg (by omega)]
  refine ⟨⟨fun q => ?_, fun q => Or.inr (Or.inr (Or.inr (Or.inr ⟨h, q⟩)))⟩, rfl, rfl, rfl⟩
  rcases q with q | q | q | q | q
  · omega
  · omega
  · omega
  · omega
  · exact q.2
theorem th_x {tx : Nat → Int} {ln a : Int} (h : chA tx ln a ≠ 119 ∧ chA tx ln a ≠ 99 ∧ chA tx ln a ≠ 102 ∧ chA tx ln a ≠ 118 ∧ chA tx ln a ≠ 46) : ¬ thO tx ln a ∧ thA tx ln a = a ∧ thF tx ln a = 0 ∧ thG tx ln a = 0 := by
  obtain ⟨h1, h2, h3, h4, h5⟩ := h
  unfold thA thF thG thO
  rw [if_neg h1, if_neg h2, if_neg h3, if_neg h4, if_neg h5, if_neg h1, if_neg h2, if_neg h3, if_neg h5, if_neg h1, if_neg h2, if_neg h3]
  refine ⟨fun q => ?_, rfl, rfl, rfl⟩
  rcases q with q | q | q | q | q <;> omega
theorem thA_b {tx : Nat → Int} {ln a : Int} : a ≤ thA tx ln a ∧ thA tx ln a ≤ a + 6 := by
  have h1 := prA_b (tx := tx) (ln := ln) (a := a) (mf := 3) (sg := 42) (l := 0) (m := 9)
  have h2 := prA_b (tx := tx) (ln := ln) (a := a) (mf := 11) (sg := 58) (l := 0) (m := 3)
  have h3 := prA_b (tx := tx) (ln := ln) (a := a) (mf := 11) (sg := 43) (l := 1) (m := 64)
  have h4 := rnA_b (tx := tx) (ln := ln) (a := a + 1) (l := 1) (m := 99)
  unfold thA
  (repeat' split) <;> omega

-- X3_append is not reached here

-- X3_empty is not reached here

-- X3_kindOf is not reached here

-- X3_firstOf is not reached here

-- X3_secondOf is not reached here

-- X3_characterAt is not reached here

-- X3_digitAt is not reached here

-- X3_readSign is not reached here

-- X3_readNumber is not reached here

-- X3_add is not reached here

-- X3_readVote is not reached here

-- X3_readTicks is not reached here

-- X3_readPair is not reached here

-- X3_readThing is not reached here
