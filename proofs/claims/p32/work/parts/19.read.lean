/-! the whole text: its fault, its things -/
def rdF (tx : Nat → Int) (ln : Int) : Nat → Int → Int
  | 0, a => a
  | f + 1, a => if ¬ thO tx ln a then thA tx ln a else if ln ≤ thA tx ln a then -1 else if chA tx ln (thA tx ln a) ≠ 59 then thA tx ln a else rdF tx ln f (thA tx ln a + 1)
def rdN (tx : Nat → Int) (ln : Int) : Nat → Int → Int
  | 0, _ => 0
  | f + 1, a => if ¬ thO tx ln a then 0 else if ln ≤ thA tx ln a then 1 else if chA tx ln (thA tx ln a) ≠ 59 then 1 else 1 + rdN tx ln f (thA tx ln a + 1)
def psN (tx : Nat → Int) (ln : Int) : Nat → Int
  | 0 => 0
  | k + 1 => thA tx ln (psN tx ln k) + 1
theorem rdF_a {tx : Nat → Int} {ln a : Int} (f : Nat) (h : ¬ thO tx ln a) : rdF tx ln (f + 1) a = thA tx ln a := if_pos h
theorem rdF_b {tx : Nat → Int} {ln a : Int} (f : Nat) (h : thO tx ln a) (h2 : ln ≤ thA tx ln a) : rdF tx ln (f + 1) a = -1 ∧ rdN tx ln (f + 1) a = 1 := ⟨(if_neg (fun z => z h)).trans (if_pos h2), (if_neg (fun z => z h)).trans (if_pos h2)⟩
theorem rdF_c {tx : Nat → Int} {ln a : Int} (f : Nat) (h : thO tx ln a) (h2 : ¬ ln ≤ thA tx ln a) (h3 : ¬ chA tx ln (thA tx ln a) = 59) : rdF tx ln (f + 1) a = thA tx ln a := (if_neg (fun z => z h)).trans ((if_neg h2).trans (if_pos h3))
theorem rdF_d {tx : Nat → Int} {ln a : Int} (f : Nat) (h : thO tx ln a) (h2 : ¬ ln ≤ thA tx ln a) (h3 : chA tx ln (thA tx ln a) = 59) : rdF tx ln (f + 1) a = rdF tx ln f (thA tx ln a + 1) ∧ rdN tx ln (f + 1) a = 1 + rdN tx ln f (thA tx ln a + 1) := ⟨(if_neg (fun z => z h)).trans ((if_neg h2).trans (if_neg (fun z => z h3))), (if_neg (fun z => z h)).trans ((if_neg h2).trans (if_neg (fun z => z h3)))⟩
/-- row j of the read things is the thing at the j-th place -/
def gdJ (tx : Nat → Int) (ln : Int) (ki fi se : Nat → Int) (j : Nat) : Prop := ki j = chA tx ln (psN tx ln j) ∧ fi j = thF tx ln (psN tx ln j) ∧ se j = thG tx ln (psN tx ln j)
theorem gdJ_up {tx : Nat → Int} {ln : Int} {ki fi se : Nat → Int} {k n : Nat} {a : Int} (hn : n = k) (ha : a = psN tx ln k) (h : ∀ j, j < k → gdJ tx ln ki fi se j) : ∀ j, j < k + 1 → gdJ tx ln (up ki n (chA tx ln a)) (up fi n (thF tx ln a)) (up se n (thG tx ln a)) j := by
  subst hn; subst ha
  intro j hj
  by_cases q : j = n
  · subst q
    exact ⟨up_eq, up_eq, up_eq⟩
  · have h1 := h j (by omega)
    exact ⟨(up_ne q).trans h1.1, (up_ne q).trans h1.2.1, (up_ne q).trans h1.2.2⟩

-- X3_read is not reached here
