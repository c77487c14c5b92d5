/-! the class's words and the reference's are the same -/
/-- who is left over by pairs -/
def tvK (s vf : Nat → Int) (k : Nat) : Int := sumK (fun j => if 0 ≤ vf j ∧ vf j ≤ 3 then s (11 + j) else 0) k
theorem lb_inv {s vf : Nat → Int} (hs : ∀ f, f < 6 → 1 ≤ s (11 + f)) (hv : ∀ f, f < 6 → vf f = -5 ∨ (0 ≤ vf f ∧ vf f ≤ 3)) : ∀ k, k ≤ 6 → 0 ≤ (lbW s vf k).2 ∧ (∀ w : Int, 0 ≤ w → w ≤ 3 → ((w = (lbW s vf k).1 → 2 * hsN s vf w k ≤ tvK s vf k + (lbW s vf k).2) ∧ (w ≠ (lbW s vf k).1 → 2 * hsN s vf w k + (lbW s vf k).2 ≤ tvK s vf k))) := by
  intro k
  induction k with
  | zero => exact fun _ => ⟨Int.le_refl _, fun w _ _ => ⟨fun _ => by show 2 * (0 : Int) ≤ 0 + 0; decide, fun _ => by show 2 * (0 : Int) + 0 ≤ 0; decide⟩⟩
  | succ k ih =>
    intro hk
    obtain ⟨h1, h2⟩ := ih (by omega)
    have hg := hs k (by omega)
    have hvk := hv k (by omega)
    have ht : tvK s vf (k + 1) = tvK s vf k + (if 0 ≤ vf k ∧ vf k ≤ 3 then s (11 + k) else 0) := rfl
    rw [lbW_s, ht]
    simp only []
    by_cases q : 0 ≤ vf k ∧ vf k ≤ 3
    · rw [if_pos q, if_pos q]
      by_cases q2 : vf k = (lbW s vf k).1
      · rw [if_pos q2, if_neg (by omega)]
        simp only []
        refine ⟨by omega, fun w w0 w3 => ?_⟩
        have hw := h2 w w0 w3
        rw [hsN_s]
        constructor
        · intro e
          rw [if_pos (by omega)]
          have := hw.1 e
          omega
        · intro e
          rw [if_neg (by omega)]
          have := hw.2 e
          omega
      · rw [if_neg q2]
        by_cases q3 : (lbW s vf k).2 - s (11 + k) < 0
        · rw [if_pos q3]
          simp only []
          refine ⟨by omega, fun w w0 w3 => ?_⟩
          have hw := h2 w w0 w3
          rw [hsN_s]
          constructor
          · intro e
            rw [if_pos (by omega)]
            have := hw.2 (by omega)
            omega
          · intro e
            rw [if_neg (by omega)]
            by_cases e2 : w = (lbW s vf k).1
            · have := hw.1 e2
              omega
            · have := hw.2 e2
              omega
        · rw [if_neg q3]
          simp only []
          refine ⟨by omega, fun w w0 w3 => ?_⟩
          have hw := h2 w w0 w3
          rw [hsN_s]
          constructor
          · intro e
            rw [if_neg (by omega)]
            have := hw.1 e
            omega
          · intro e
            by_cases e2 : vf k = w
            · rw [if_pos e2]
              have := hw.2 e
              omega
            · rw [if_neg e2]
              have := hw.2 e
              omega
    · rw [if_neg q, if_neg q, if_neg (by omega)]
      simp only []
      refine ⟨h1, fun w w0 w3 => ?_⟩
      have hw := h2 w w0 w3
      rw [hsN_s, if_neg (by omega)]
      constructor
      · intro e
        have := hw.1 e
        omega
      · intro e
        have := hw.2 e
        omega
theorem tv_all {s vf : Nat → Int} (hs : ∀ f, f < 6 → 1 ≤ s (11 + f)) : ∀ k, k ≤ 6 → tvK s vf k ≤ sumK (fun j => s (11 + j)) k := by
  intro k
  induction k with
  | zero => exact fun _ => Int.le_refl _
  | succ k ih =>
    intro hk
    have h1 := ih (by omega)
    have hg := hs k (by omega)
    show tvK s vf k + (if 0 ≤ vf k ∧ vf k ≤ 3 then s (11 + k) else 0) ≤ sumK (fun j => s (11 + j)) k + s (11 + k)
    split <;> omega
theorem dp_bs {t : Int} {s : Nat → Int} (hI : Inv t s) (lb : Bool) : dpR s (pvF s lb) = bsR s (pvF s lb) := by
  have hv : ∀ f, f < 6 → pvF s lb f = -5 ∨ (0 ≤ pvF s lb f ∧ pvF s lb f ≤ 3) := fun f _ => vtR_b hI lb (f : Int)
  have hs : ∀ f, f < 6 → 1 ≤ s (11 + f) := fun f hf => (hI.se f hf).1
  obtain ⟨h1, h2⟩ := lb_inv hs hv 6 (Nat.le_refl _)
  have h3 : tvK s (pvF s lb) 6 ≤ allS s := tv_all hs 6 (Nat.le_refl _)
  have w0 := h2 0 (by decide) (by decide)
  have w1 := h2 1 (by decide) (by decide)
  have w2 := h2 2 (by decide) (by decide)
  have w3 := h2 3 (by decide) (by decide)
  unfold dpR bsR mjP
  by_cases e : 0 ≤ (lbW s (pvF s lb) 6).1 ∧ (lbW s (pvF s lb) 6).1 ≤ 3
  · rcases (by omega : (lbW s (pvF s lb) 6).1 = 0 ∨ (lbW s (pvF s lb) 6).1 = 1 ∨ (lbW s (pvF s lb) 6).1 = 2 ∨ (lbW s (pvF s lb) 6).1 = 3) with q | q | q | q <;> rw [q] at w0 w1 w2 w3 ⊢ <;> (repeat' split) <;> omega
  · rw [if_neg (fun z => e ⟨z.1, z.2.1⟩), if_neg (by omega), if_neg (by omega), if_neg (by omega), if_neg (by omega)]
/-- sums: what stands behind the last scarecrow is 0 -/
theorem sum_ext {f g : Nat → Int} : ∀ n, (∀ k, k < n → f k = g k) → sumK f n = sumK g n := by
  intro n h
  induction n with
  | zero => rfl
  | succ n ih =>
    show sumK f n + f n = sumK g n + g n
    rw [ih (fun k hk => h k (by omega)), h n (by omega)]
theorem sum_0 {f : Nat → Int} (n : Nat) : ∀ d, (∀ k, n ≤ k → k < n + d → f k = 0) → sumK f (n + d) = sumK f n := by
  intro d h
  induction d with
  | zero => rfl
  | succ d ih =>
    show sumK f (n + d) + f (n + d) = sumK f n
    rw [ih (fun k h1 h2 => h k h1 (by omega)), h (n + d) (by omega) (by omega)]
    omega
theorem sum_12 {t : Int} {s : Nat → Int} (hI : Inv t s) {f : Nat → Int} (h : ∀ k : Nat, k < 12 → s 10 ≤ (k : Int) → f k = 0) : sumK f (s 10).toNat = sumK f 12 := by
  have hb := hI.base
  have h2 := sum_0 (f := f) (s 10).toNat (12 - (s 10).toNat) (fun k h1 h2 => h k (by omega) (by omega))
  rw [show (s 10).toNat + (12 - (s 10).toNat) = 12 by omega] at h2
  exact h2.symm
theorem sum_4 (s : Nat → Int) : ∀ n, sumK (fun k => s (ix (k / 4) (5 + k % 4))) (4 * n) = sumK (fun k => crN s k) n := by
  intro n
  induction n with
  | zero => rfl
  | succ n ih =>
    show sumK (fun k => s (ix (k / 4) (5 + k % 4))) (4 * n) + s (ix (4 * n / 4) (5 + 4 * n % 4)) + s (ix ((4 * n + 1) / 4) (5 + (4 * n + 1) % 4)) + s (ix ((4 * n + 2) / 4) (5 + (4 * n + 2) % 4)) + s (ix ((4 * n + 3) / 4) (5 + (4 * n + 3) % 4)) = sumK (fun k => crN s k) n + crN s n
    rw [ih, show 4 * n / 4 = n by omega, show 4 * n % 4 = 0 by omega, show (4 * n + 1) / 4 = n by omega, show (4 * n + 1) % 4 = 1 by omega, show (4 * n + 2) / 4 = n by omega, show (4 * n + 2) % 4 = 2 by omega, show (4 * n + 3) / 4 = n by omega, show (4 * n + 3) % 4 = 3 by omega]
    unfold crN
    simp only [Nat.add_zero, Nat.reduceAdd]
    omega
/-- the ghosts of the class's house: what the reference counts as it goes -/
def GI (s : Nat → Int) : Prop := s 6 = sumK (fun k => s (ix k 10)) 12 ∧ s 7 = sumK (fun k => s (ix k 9)) 12 ∧ ∀ k, k < 12 → 0 ≤ s (ix k 9) ∧ s (ix k 9) ≤ s 2
theorem ct_mc {s : Nat → Int} (hI : Inv 99999 s) (hG : GI s) (g3 g7 c : Int) : ctR s g3 g7 c = mcR s g3 g7 c := by
  have e2 : sumK (fun k => s (ix (k / 4) (5 + k % 4))) 48 = sumK (smF s 5) (s 10).toNat := by
    have h1 : sumK (smF s 5) 12 = sumK (fun k => crN s k) 12 := sum_ext 12 (fun k _ => if_pos rfl)
    rw [sum_12 hI (f := smF s 5) (fun k h1 h2 => by
      show (if (5 : Int) = 5 then crN s k else s (ix k (5 : Int).toNat)) = 0
      rw [if_pos rfl]
      have z5 := hI.2.2.2 k 5 h1 h2 (by decide)
      have z6 := hI.2.2.2 k 6 h1 h2 (by decide)
      have z7 := hI.2.2.2 k 7 h1 h2 (by decide)
      have z8 := hI.2.2.2 k 8 h1 h2 (by decide)
      unfold crN
      omega), h1]
    exact sum_4 s 12
  have e6 : sumK (fun k => s (ix k 4)) 12 = sumK (smF s 4) (s 10).toNat := by
    rw [sum_12 hI (f := smF s 4) (fun k h1 h2 => by
      show (if (4 : Int) = 5 then crN s k else s (ix k (4 : Int).toNat)) = 0
      rw [if_neg (by decide)]
      exact hI.2.2.2 k 4 h1 h2 (by decide))]
    exact sum_ext 12 (fun k _ => (if_neg (by decide)).symm)
  unfold ctR mcR tlR
  rw [e2, e6, ← hG.1, ← hG.2.1]
  (repeat' split) <;> first | rfl | omega
