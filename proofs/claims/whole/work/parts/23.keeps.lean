/-! what the acts keep -/
theorem Inv.own {t : Int} {s : Nat → Int} (h : Inv t s) : Inv (s 2) s := by
  have h0 := h.1
  exact ⟨by omega, h.2.1, h.2.2.1, h.2.2.2⟩
theorem Inv.ra {t : Int} {s : Nat → Int} (h : Inv t s) (f g p w : Int) : Inv t (raS s f g p w) := by
  have hb := h.base
  unfold raS
  split
  · rename_i c
    obtain ⟨c1, c2, c3, c4, c5, c6, c7, c8, c9⟩ := c
    obtain ⟨N, hN⟩ : ∃ N : Nat, s 10 = (N : Int) := ⟨(s 10).toNat, by omega⟩
    have e : (s 10).toNat = N := by omega
    rw [e]
    have hz : ∀ c, c < 11 → s (ix N c) = 0 := fun c hc => h.2.2.2 N c (by omega) (by omega) hc
    have e10 : up (up (up (up (up s (ix N 0) f) (ix N 1) g) (ix N 2) p) (ix N 3) w) (ix N 4) 64 10 = s 10 := by rw [up_ix (by decide), up_ix (by decide), up_ix (by decide), up_ix (by decide), up_ix (by decide)]
    have lo : ∀ j, j < 17 → j ≠ 10 → up (up (up (up (up (up s (ix N 0) f) (ix N 1) g) (ix N 2) p) (ix N 3) w) (ix N 4) 64) 10 (s 10 + 1) j = s j := fun j hj hn => by rw [up_ne hn, up_ix hj, up_ix hj, up_ix hj, up_ix hj, up_ix hj]
    have el : ∀ k c, k ≠ N → up (up (up (up (up (up s (ix N 0) f) (ix N 1) g) (ix N 2) p) (ix N 3) w) (ix N 4) 64) 10 (s 10 + 1) (ix k c) = s (ix k c) ∨ 11 ≤ c := fun k c hk => by
      by_cases hc : c < 11
      · left
        rw [up_ne (by unfold ix; omega), up_ne (by unfold ix; omega), up_ne (by unfold ix; omega), up_ne (by unfold ix; omega), up_ne (by unfold ix; omega), up_ne (by unfold ix; omega)]
      · right; omega
    have el2 : ∀ k c, k ≠ N → c < 11 → up (up (up (up (up (up s (ix N 0) f) (ix N 1) g) (ix N 2) p) (ix N 3) w) (ix N 4) 64) 10 (s 10 + 1) (ix k c) = s (ix k c) := fun k c hk hc => (el k c hk).resolve_right (by omega)
    refine ⟨?_, fun f hf => ?_, fun k hk => ?_, fun k c hk hkn hc => ?_⟩
    · rw [lo 0 (by decide) (by decide), lo 1 (by decide) (by decide), lo 2 (by decide) (by decide), lo 3 (by decide) (by decide), lo 4 (by decide) (by decide), lo 5 (by decide) (by decide), up_eq]
      omega
    · rw [lo (11 + f) (by omega) (by omega)]
      exact h.2.1 f hf
    · by_cases q : k = N
      · subst q
        have z5 := hz 5 (by decide)
        have z6 := hz 6 (by decide)
        have z7 := hz 7 (by decide)
        have z8 := hz 8 (by decide)
        have e5 : ∀ c, 5 ≤ c → c < 11 → up (up (up (up (up (up s (ix k 0) f) (ix k 1) g) (ix k 2) p) (ix k 3) w) (ix k 4) 64) 10 (s 10 + 1) (ix k c) = s (ix k c) := fun c h1 h2 => by
          rw [up_ne (by unfold ix; omega), up_ne (by unfold ix; omega), up_ne (by unfold ix; omega), up_ne (by unfold ix; omega), up_ne (by unfold ix; omega), up_ne (by unfold ix; omega)]
        have d0 : up (up (up (up (up (up s (ix k 0) f) (ix k 1) g) (ix k 2) p) (ix k 3) w) (ix k 4) 64) 10 (s 10 + 1) (ix k 0) = f := by
          rw [up_ne (by unfold ix; omega), up_ne (by unfold ix; omega), up_ne (by unfold ix; omega), up_ne (by unfold ix; omega), up_ne (by unfold ix; omega), up_eq]
        have d1 : up (up (up (up (up (up s (ix k 0) f) (ix k 1) g) (ix k 2) p) (ix k 3) w) (ix k 4) 64) 10 (s 10 + 1) (ix k 1) = g := by
          rw [up_ne (by unfold ix; omega), up_ne (by unfold ix; omega), up_ne (by unfold ix; omega), up_ne (by unfold ix; omega), up_eq]
        have d2 : up (up (up (up (up (up s (ix k 0) f) (ix k 1) g) (ix k 2) p) (ix k 3) w) (ix k 4) 64) 10 (s 10 + 1) (ix k 2) = p := by
          rw [up_ne (by unfold ix; omega), up_ne (by unfold ix; omega), up_ne (by unfold ix; omega), up_eq]
        have d3 : up (up (up (up (up (up s (ix k 0) f) (ix k 1) g) (ix k 2) p) (ix k 3) w) (ix k 4) 64) 10 (s 10 + 1) (ix k 3) = w := by
          rw [up_ne (by unfold ix; omega), up_ne (by unfold ix; omega), up_eq]
        have d4 : up (up (up (up (up (up s (ix k 0) f) (ix k 1) g) (ix k 2) p) (ix k 3) w) (ix k 4) 64) 10 (s 10 + 1) (ix k 4) = 64 := by
          rw [up_ne (by unfold ix; omega), up_eq]
        rw [d0, d1, d2, d3, d4, e5 5 (by decide) (by decide), e5 6 (by decide) (by decide), e5 7 (by decide) (by decide), e5 8 (by decide) (by decide)]
        omega
      · rw [el2 k 0 q (by decide), el2 k 1 q (by decide), el2 k 2 q (by decide), el2 k 3 q (by decide), el2 k 4 q (by decide), el2 k 5 q (by decide), el2 k 6 q (by decide), el2 k 7 q (by decide), el2 k 8 q (by decide)]
        exact h.sc k hk
    · rw [up_eq] at hkn
      rw [el2 k c (by omega) hc]
      exact h.2.2.2 k c hk (by omega) hc
  · exact h
theorem Inv.br {t : Int} {s : Nat → Int} (h : Inv t s) (a b : Int) : Inv t (brS s a b) := by
  have hb := h.base
  unfold brS
  split
  · exact h.a0 a.toNat b (by omega) (by omega) (by omega)
  · exact h
theorem Inv.th {t : Int} {s : Nat → Int} (h : Inv t s) (a b : Int) : Inv t (thS s a b) := by
  have hb := h.base
  unfold thS
  split
  · exact h.a3 a.toNat b (by omega) (by omega) (by omega)
  · exact h
theorem Inv.tc {t : Int} {s : Nat → Int} (h : Inv t s) (a w : Int) : Inv t (tcS s a w) := by
  have hb := h.base
  unfold tcS
  split
  · rename_i c
    have h1 := h.sc a.toNat (by omega)
    have h2 : crN s a.toNat < 9 := by omega
    unfold crN at h2
    rcases (by omega : w.toNat = 0 ∨ w.toNat = 1 ∨ w.toNat = 2 ∨ w.toNat = 3) with q | q | q | q <;> rw [q]
    · exact h.a5 a.toNat _ (by omega) (by omega) (by simp only [Nat.add_zero]; omega)
    · exact h.a6 a.toNat _ (by omega) (by omega) (by simp only [Nat.reduceAdd]; omega)
    · exact h.a7 a.toNat _ (by omega) (by omega) (by simp only [Nat.reduceAdd]; omega)
    · exact h.a8 a.toNat _ (by omega) (by omega) (by simp only [Nat.reduceAdd]; omega)
  · exact h
theorem Inv.so {t : Int} {s : Nat → Int} (h : Inv t s) (a : Int) : Inv t (soS s a) := by
  have hb := h.base
  unfold soS
  split
  · exact h.flies a.toNat (by omega) (by omega)
  · exact h
theorem Inv.stf {t : Int} {s : Nat → Int} (h : Inv t s) (a m : Int) : Inv t (stS s a m) := by
  have hb := h.base
  unfold stS
  split
  · have h1 := h.sc a.toNat (by omega)
    have hf : 0 ≤ flN s a.toNat m ∧ flN s a.toNat m ≤ s 5 ∧ flN s a.toNat m ≤ 64 - s (ix a.toNat 4) := by unfold flN flM; (repeat' split) <;> omega
    have i1 := h.a4 a.toNat (s (ix a.toNat 4) + flN s a.toNat m) (by omega) (by omega) (by omega)
    exact i1.f5 _ (by omega)
  · exact h
theorem Inv.gs {t : Int} {s : Nat → Int} (h : Inv t s) (f m : Int) : Inv t (gsS s f m) := by
  unfold gsS
  split
  · exact h.g f.toNat (by omega) m (by omega)
  · exact h
theorem Inv.bl {t : Int} {s : Nat → Int} (h : Inv t s) (w m : Int) : Inv t (blS s w m) := by
  unfold blS
  split
  · exact (h.f3 w (by omega)).f4 m (by omega)
  · exact h
theorem Inv.ad {t : Int} {s : Nat → Int} (h : Inv t s) (c m : Int) : Inv t (adS s c m) := by
  unfold adS
  by_cases q : 0 ≤ c ∧ c ≤ 1 ∧ 0 ≤ m ∧ m ≤ (if c = 0 then 50 else 8)
  · rw [if_pos q]
    obtain ⟨q1, q2, q3, q4⟩ := q
    rcases (by omega : c = 0 ∨ c = 1) with z | z
    · subst z
      rw [if_pos rfl] at q4
      exact h.f0 m ⟨q3, q4⟩
    · subst z
      rw [if_neg (by decide)] at q4
      exact h.f1 m ⟨q3, q4⟩
  · rw [if_neg q]
    exact h
theorem Inv.cv {t : Int} {s : Nat → Int} (h : Inv t s) (d : Int) : Inv t (cvS s d) := by
  unfold cvS
  split
  · exact (h.f8 _ trivial).f9 _ trivial
  · exact h
theorem Inv.go {s : Nat → Int} (h : Inv 99999 s) (m : Int) : Inv 99999 (goS s m) := by
  have hb := h.base
  unfold goS
  split
  · exact (h.own.ts m.toNat (by omega)).mono (by omega) (by decide)
  · exact h
theorem Inv.dt {s : Nat → Int} (h : Inv 99999 s) (k f g : Int) : Inv 99999 (dtS s k f g) := by
  unfold dtS
  split
  · exact h.tc f g
  · split
    · exact h.stf f g
    · split
      · exact h.cv _
      · split
        · exact h.bl f g
        · exact h.go f
/-! a sitting done -/
def pfS (s tx : Nat → Int) (ln : Int) : Nat → (Nat → Int)
  | 0 => s
  | j + 1 => dtS (pfS s tx ln j) (chA tx ln (psN tx ln j)) (thF tx ln (psN tx ln j)) (thG tx ln (psN tx ln j))
def pfA (s tx : Nat → Int) (ln : Int) (j : Nat) : Int := dtR (pfS s tx ln j) (chA tx ln (psN tx ln j)) (thF tx ln (psN tx ln j)) (thG tx ln (psN tx ln j))
abbrev erP (a : Int) : Prop := a < 0 ∧ a ≠ -5
def pfX (s tx : Nat → Int) (ln : Int) : Nat → Nat → Int
  | 0, _ => -1
  | f + 1, j => if erP (pfA s tx ln j) then (j : Int) else pfX s tx ln f (j + 1)
theorem pfX_s (s tx : Nat → Int) (ln : Int) (f j : Nat) : pfX s tx ln (f + 1) j = if erP (pfA s tx ln j) then (j : Int) else pfX s tx ln f (j + 1) := rfl
theorem Inv.pf {s : Nat → Int} (h : Inv 99999 s) (tx : Nat → Int) (ln : Int) (j : Nat) : Inv 99999 (pfS s tx ln j) := by
  induction j with
  | zero => exact h
  | succ j ih => exact ih.dt _ _ _
theorem thF_b {tx : Nat → Int} {ln a : Int} : -1 ≤ thF tx ln a ∧ thF tx ln a ≤ 99 := by
  have h1 := rnV_b (tx := tx) (ln := ln) (a := a + 1) (l := 0) (m := 3) (by decide) (by decide) (by decide)
  have h2 := rnV_b (tx := tx) (ln := ln) (a := a + 1) (l := 0) (m := 11) (by decide) (by decide) (by decide)
  have h3 := rnV_b (tx := tx) (ln := ln) (a := a + 1) (l := 1) (m := 99) (by decide) (by decide) (by decide)
  unfold thF
  (repeat' split) <;> omega
theorem thG_b {tx : Nat → Int} {ln a : Int} : -1 ≤ thG tx ln a ∧ thG tx ln a ≤ 99 := by
  have h1 := rnV_b (tx := tx) (ln := ln) (a := rnA tx ln (a + 1) 0 3 + 1) (l := 0) (m := 9) (by decide) (by decide) (by decide)
  have h2 := rnV_b (tx := tx) (ln := ln) (a := rnA tx ln (a + 1) 0 11 + 1) (l := 0) (m := 3) (by decide) (by decide) (by decide)
  have h3 := rnV_b (tx := tx) (ln := ln) (a := rnA tx ln (a + 1) 0 11 + 1) (l := 1) (m := 64) (by decide) (by decide) (by decide)
  unfold thG
  (repeat' split) <;> omega
theorem dtR_b {s : Nat → Int} (h : Inv 99999 s) (k f g : Int) : iR (dtR s k f g) := by
  have hb := h.base
  have h0 := bsR_b s (pvF s true)
  have h1 := goR_b h f
  have h2 : iR (tcR s f g) := by
    unfold tcR crN
    split
    · have h1 := h.sc f.toNat (by omega)
      (repeat' split) <;> omega
    · omega
  have h3 : iR (stR s f g) := by
    unfold stR flN flM
    split
    · have h1 := h.sc f.toNat (by omega)
      (repeat' split) <;> omega
    · omega
  have h4 : iR (blR s f g) := by unfold blR; (repeat' split) <;> omega
  have h5 : iR (cvR (bsR s (pvF s true))) := by unfold cvR; split <;> omega
  unfold dtR
  (repeat' split) <;> assumption
def pmN (s tx : Nat → Int) (ln : Int) : Int := pfX s tx ln (rdN tx ln 30 0).toNat 0
def pmR (s tx : Nat → Int) (ln : Int) : Int := if rdF tx ln 30 0 = -1 then (if pmN s tx ln = -1 then rdN tx ln 30 0 else -4) else -100 - rdF tx ln 30 0
def pmS (s tx : Nat → Int) (ln : Int) : Nat → Int := if rdF tx ln 30 0 = -1 ∧ pmN s tx ln = -1 then pfS s tx ln (rdN tx ln 30 0).toNat else s
abbrev pmP (s tx : Nat → Int) (ln : Int) : Prop := rdF tx ln 30 0 = -1 ∧ pmN s tx ln ≠ -1
theorem psN_b {tx : Nat → Int} {ln : Int} (j : Nat) : 0 ≤ psN tx ln j ∧ psN tx ln j ≤ 7 * (j : Int) := by
  induction j with
  | zero => exact ⟨Int.le_refl _, Int.le_refl _⟩
  | succ j ih =>
    have h1 := thA_b (tx := tx) (ln := ln) (a := psN tx ln j)
    show 0 ≤ thA tx ln (psN tx ln j) + 1 ∧ thA tx ln (psN tx ln j) + 1 ≤ _
    omega
theorem rdN_a {tx : Nat → Int} {ln a : Int} (f : Nat) (h : ¬ thO tx ln a) : rdN tx ln (f + 1) a = 0 := if_pos h
theorem rdN_c {tx : Nat → Int} {ln a : Int} (f : Nat) (h : thO tx ln a) (h2 : ¬ ln ≤ thA tx ln a) (h3 : ¬ chA tx ln (thA tx ln a) = 59) : rdN tx ln (f + 1) a = 1 := (if_neg (fun z => z h)).trans ((if_neg h2).trans (if_pos h3))
theorem rdF_b0 {tx : Nat → Int} {ln : Int} : ∀ (f : Nat) (a : Int), 0 ≤ a → -1 ≤ rdF tx ln f a ∧ rdF tx ln f a ≤ a + 7 * (f : Int) ∧ 0 ≤ rdN tx ln f a ∧ rdN tx ln f a ≤ (f : Int) := by
  intro f
  induction f with
  | zero => intro a h0; exact ⟨by show -1 ≤ a; omega, by show a ≤ a + 7 * 0; omega, Int.le_refl _, Int.le_refl _⟩
  | succ f ih =>
    intro a h0
    have h2 := thA_b (tx := tx) (ln := ln) (a := a)
    by_cases q1 : thO tx ln a
    · by_cases q2 : ln ≤ thA tx ln a
      · rw [(rdF_b f q1 q2).1, (rdF_b f q1 q2).2]; omega
      · by_cases q3 : chA tx ln (thA tx ln a) = 59
        · rw [(rdF_d f q1 q2 q3).1, (rdF_d f q1 q2 q3).2]
          have h3 := ih (thA tx ln a + 1) (by omega)
          omega
        · rw [rdF_c f q1 q2 q3, rdN_c f q1 q2 q3]; omega
    · rw [rdF_a f q1, rdN_a f q1]; omega
