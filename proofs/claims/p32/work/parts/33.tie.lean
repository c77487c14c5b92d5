theorem spN_in {s : Nat → Int} {f : Int} : ∀ k, 0 ≤ spN s f k → s (ix (spN s f k).toNat 0) = f := by
  intro k
  induction k with
  | zero => intro h; exact absurd (show (0 : Int) ≤ -5 from h) (by decide)
  | succ k ih =>
    rw [spN_s]
    by_cases q : s (ix k 0) = f ∧ (spN s f k < 0 ∨ bfr s k (spN s f k).toNat)
    · rw [if_pos q]
      intro _
      rw [show ((k : Int)).toNat = k by omega]
      exact q.1
    · rw [if_neg q]
      exact ih
/-! what may swing, seen again -/
theorem sp_up {s : Nat → Int} {k : Nat} {w f : Int} (n : Nat) : spN (up s (ix k 3) w) f n = spN s f n := by
  induction n with
  | zero => rfl
  | succ n ih =>
    rw [spN_s, spN_s, ih]
    have e : ∀ j c, c ≠ 3 → c < 11 → up s (ix k 3) w (ix j c) = s (ix j c) := fun j c h h2 => up_ne (by unfold ix; omega)
    unfold bfr
    rw [e n 0 (by decide) (by decide), e n 1 (by decide) (by decide), e n 4 (by decide) (by decide), e _ 1 (by decide) (by decide), e _ 4 (by decide) (by decide)]
theorem wt_up {s : Nat → Int} {k y : Nat} {w f : Int} {lb : Bool} (h : s (ix k 0) ≠ f) (hy : y < 4) (n : Nat) : wtN (up s (ix k 3) w) lb f y n = wtN s lb f y n := by
  induction n with
  | zero => rfl
  | succ n ih =>
    show wtN (up s (ix k 3) w) lb f y n + wa (up s (ix k 3) w) lb f y n = wtN s lb f y n + wa s lb f y n
    rw [ih]
    congr 1
    have e : ∀ j c, c ≠ 3 → c < 11 → up s (ix k 3) w (ix j c) = s (ix j c) := fun j c h h2 => up_ne (by unfold ix; omega)
    unfold wa lobN
    rw [e n 0 (by decide) (by decide), e n 1 (by decide) (by decide), e n 4 (by decide) (by decide), e n (5 + y) (by omega) (by omega), up_ix (j := 1) (by decide)]
    by_cases q : s (ix n 0) = f
    · have hn : n ≠ k := fun z => h (by rw [← z]; exact q)
      rw [up_ne (k := ix n 3) (by unfold ix; omega)]
    · rw [if_neg q, if_neg q]
theorem vt_up {s : Nat → Int} {k : Nat} {w f : Int} {lb : Bool} (h : s (ix k 0) ≠ f) (hw : 0 ≤ spN s f (s 10).toNat → (s (ix (spN s f (s 10).toNat).toNat 3)).toNat < 4) : vtR (up s (ix k 3) w) lb f = vtR s lb f := by
  have e10 : up s (ix k 3) w 10 = s 10 := up_ix (by decide)
  have eW : ∀ y, y < 4 → wF (up s (ix k 3) w) lb f (s 10).toNat y = wF s lb f (s 10).toNat y := fun y hy => wt_up h hy _
  have eG : grN (wF (up s (ix k 3) w) lb f (s 10).toNat) 4 = grN (wF s lb f (s 10).toNat) 4 := by
    rw [grN_s, grN_s, grN_s, grN_s, grN_s, grN_s, grN_s, grN_s, eW 0 (by decide), eW 1 (by decide), eW 2 (by decide), eW 3 (by decide)]
    rfl
  unfold vtR
  rw [e10, sp_up, eG]
  by_cases q : spN s f (s 10).toNat < 0
  · rw [if_pos q, if_pos q]
  · rw [if_neg q, if_neg q]
    have hsp := spN_in (s := s) (f := f) (s 10).toNat (by omega)
    have hne : (spN s f (s 10).toNat).toNat ≠ k := fun z => h (by rw [← z]; exact hsp)
    rw [up_ne (k := ix (spN s f (s 10).toNat).toNat 3) (by unfold ix; omega)]
    unfold loW
    rw [eW 0 (by decide), eW 1 (by decide), eW 2 (by decide), eW 3 (by decide)]
    rw [eW _ (hw (by omega))]
theorem hsN_cg {s vf vf' : Nat → Int} {w : Int} : ∀ n, (∀ f, f < n → vf f = vf' f) → hsN s vf w n = hsN s vf' w n := by
  intro n h
  induction n with
  | zero => rfl
  | succ n ih => rw [hsN_s, hsN_s, ih (fun f hf => h f (by omega)), h n (by omega)]
theorem bsR_cg {s vf vf' : Nat → Int} (h : ∀ f, f < 6 → vf f = vf' f) : bsR s vf = bsR s vf' := by
  unfold bsR mjP
  rw [hsN_cg (w := 0) 6 h, hsN_cg (w := 1) 6 h, hsN_cg (w := 2) 6 h, hsN_cg (w := 3) 6 h]
theorem csQ_m {t : Int} {s : Nat → Int} (hI : Inv t s) {k : Nat} (hk : k < 12) (u w : Int) : csQ s (pvF s true) u k w ↔ bsR (up s (ix k 3) w) (pvF (up s (ix k 3) w) true) ≠ u := by
  have hs := hI.sc k hk
  have hb := hI.base
  unfold csQ
  rw [bsR_cg (vf := up (pvF s true) (s (ix k 0)).toNat (vtR (up s (ix k 3) w) true (s (ix k 0)))) (vf' := pvF (up s (ix k 3) w) true)]
  intro f hf
  by_cases q : f = (s (ix k 0)).toNat
  · subst q
    rw [up_eq]
    show _ = vtR (up s (ix k 3) w) true (((s (ix k 0)).toNat : Nat) : Int)
    rw [show (((s (ix k 0)).toNat : Nat) : Int) = s (ix k 0) by omega]
  · rw [up_ne q]
    exact (vt_up (by omega) (fun z => by
      have h1 := spN_b s (f : Int) (s 10).toNat
      have h2 := hI.sc (spN s (f : Int) (s 10).toNat).toNat (by omega)
      omega)).symm
theorem csP_m {t : Int} {s : Nat → Int} (hI : Inv t s) {k : Nat} (hk : k < 12) (u : Int) : csP s (pvF s true) u k ↔ (bsR (up s (ix k 3) 0) (pvF (up s (ix k 3) 0) true) ≠ u ∨ bsR (up s (ix k 3) 1) (pvF (up s (ix k 3) 1) true) ≠ u ∨ bsR (up s (ix k 3) 2) (pvF (up s (ix k 3) 2) true) ≠ u ∨ bsR (up s (ix k 3) 3) (pvF (up s (ix k 3) 3) true) ≠ u) := by
  unfold csP
  rw [csQ_m hI hk, csQ_m hI hk, csQ_m hI hk, csQ_m hI hk]
theorem Inv.own {t : Int} {s : Nat → Int} (h : Inv t s) : Inv (s 2) s := by
  have h0 := h.1
  exact ⟨by omega, h.2.1, h.2.2.1, h.2.2.2⟩
theorem Inv.ra {t : Int} {s : Nat → Int} (h : Inv t s) (f g p w : Int) : Inv t (raS s f g p w) := by
  have hb := h.base
  unfold raS
  split
  · rename_i c
    obtain ⟨c1, c2, c3, c4, c5, c6, c7, c8, c9⟩ := c
    obtain ⟨N, hN⟩ : ∃ N : Nat, s 10 = (N : Int) := ⟨(s 10).toNat, by omega⟩
    have e : (s 10).toNat = N := by omega
    rw [e]
    have hz : ∀ c, c < 11 → s (ix N c) = 0 := fun c hc => h.2.2.2 N c (by omega) (by omega) hc
    have e10 : up (up (up (up (up s (ix N 0) f) (ix N 1) g) (ix N 2) p) (ix N 3) w) (ix N 4) 64 10 = s 10 := by rw [up_ix (by decide), up_ix (by decide), up_ix (by decide), up_ix (by decide), up_ix (by decide)]
    have lo : ∀ j, j < 17 → j ≠ 10 → up (up (up (up (up (up s (ix N 0) f) (ix N 1) g) (ix N 2) p) (ix N 3) w) (ix N 4) 64) 10 (s 10 + 1) j = s j := fun j hj hn => by rw [up_ne hn, up_ix hj, up_ix hj, up_ix hj, up_ix hj, up_ix hj]
    have el : ∀ k c, k ≠ N → up (up (up (up (up (up s (ix N 0) f) (ix N 1) g) (ix N 2) p) (ix N 3) w) (ix N 4) 64) 10 (s 10 + 1) (ix k c) = s (ix k c) ∨ 11 ≤ c := fun k c hk => by
      by_cases hc : c < 11
      · left
        rw [up_ne (by unfold ix; omega), up_ne (by unfold ix; omega), up_ne (by unfold ix; omega), up_ne (by unfold ix; omega), up_ne (by unfold ix; omega), up_ne (by unfold ix; omega)]
      · right; omega
    have el2 : ∀ k c, k ≠ N → c < 11 → up (up (up (up (up (up s (ix N 0) f) (ix N 1) g) (ix N 2) p) (ix N 3) w) (ix N 4) 64) 10 (s 10 + 1) (ix k c) = s (ix k c) := fun k c hk hc => (el k c hk).resolve_right (by omega)
    refine ⟨?_, fun f hf => ?_, fun k hk => ?_, fun k c hk hkn hc => ?_⟩
    · rw [lo 0 (by decide) (by decide), lo 1 (by decide) (by decide), lo 2 (by decide) (by decide), lo 3 (by decide) (by decide), lo 4 (by decide) (by decide), lo 5 (by decide) (by decide), up_eq]
      omega
    · rw [lo (11 + f) (by omega) (by omega)]
      exact h.2.1 f hf
    · by_cases q : k = N
      · subst q
        have z5 := hz 5 (by decide)
        have z6 := hz 6 (by decide)
        have z7 := hz 7 (by decide)
        have z8 := hz 8 (by decide)
        have e5 : ∀ c, 5 ≤ c → c < 11 → up (up (up (up (up (up s (ix k 0) f) (ix k 1) g) (ix k 2) p) (ix k 3) w) (ix k 4) 64) 10 (s 10 + 1) (ix k c) = s (ix k c) := fun c h1 h2 => by
          rw [up_ne (by unfold ix; omega), up_ne (by unfold ix; omega), up_ne (by unfold ix; omega), up_ne (by unfold ix; omega), up_ne (by unfold ix; omega), up_ne (by unfold ix; omega)]
        have d0 : up (up (up (up (up (up s (ix k 0) f) (ix k 1) g) (ix k 2) p) (ix k 3) w) (ix k 4) 64) 10 (s 10 + 1) (ix k 0) = f := by
          rw [up_ne (by unfold ix; omega), up_ne (by unfold ix; omega), up_ne (by unfold ix; omega), up_ne (by unfold ix; omega), up_ne (by unfold ix; omega), up_eq]
        have d1 : up (up (up (up (up (up s (ix k 0) f) (ix k 1) g) (ix k 2) p) (ix k 3) w) (ix k 4) 64) 10 (s 10 + 1) (ix k 1) = g := by
          rw [up_ne (by unfold ix; omega), up_ne (by unfold ix; omega), up_ne (by unfold ix; omega), up_ne (by unfold ix; omega), up_eq]
        have d2 : up (up (up (up (up (up s (ix k 0) f) (ix k 1) g) (ix k 2) p) (ix k 3) w) (ix k 4) 64) 10 (s 10 + 1) (ix k 2) = p := by
          rw [up_ne (by unfold ix; omega), up_ne (by unfold ix; omega), up_ne (by unfold ix; omega), up_eq]
        have d3 : up (up (up (up (up (up s (ix k 0) f) (ix k 1) g) (ix k 2) p) (ix k 3) w) (ix k 4) 64) 10 (s 10 + 1) (ix k 3) = w := by
          rw [up_ne (by unfold ix; omega), up_ne (by unfold ix; omega), up_eq]
        have d4 : up (up (up (up (up (up s (ix k 0) f) (ix k 1) g) (ix k 2) p) (ix k 3) w) (ix k 4) 64) 10 (s 10 + 1) (ix k 4) = 64 := by
          rw [up_ne (by unfold ix; omega), up_eq]
        rw [d0, d1, d2, d3, d4, e5 5 (by decide) (by decide), e5 6 (by decide) (by decide), e5 7 (by decide) (by decide), e5 8 (by decide) (by decide)]
        omega
      · rw [el2 k 0 q (by decide), el2 k 1 q (by decide), el2 k 2 q (by decide), el2 k 3 q (by decide), el2 k 4 q (by decide), el2 k 5 q (by decide), el2 k 6 q (by decide), el2 k 7 q (by decide), el2 k 8 q (by decide)]
        exact h.sc k hk
    · rw [up_eq] at hkn
      rw [el2 k c (by omega) hc]
      exact h.2.2.2 k c hk (by omega) hc
  · exact h
theorem Inv.br {t : Int} {s : Nat → Int} (h : Inv t s) (a b : Int) : Inv t (brS s a b) := by
  have hb := h.base
  unfold brS
  split
  · exact h.a0 a.toNat b (by omega) (by omega) (by omega)
  · exact h
theorem Inv.th {t : Int} {s : Nat → Int} (h : Inv t s) (a b : Int) : Inv t (thS s a b) := by
  have hb := h.base
  unfold thS
  split
  · exact h.a3 a.toNat b (by omega) (by omega) (by omega)
  · exact h
theorem Inv.tc {t : Int} {s : Nat → Int} (h : Inv t s) (a w : Int) : Inv t (tcS s a w) := by
  have hb := h.base
  unfold tcS
  split
  · rename_i c
    have h1 := h.sc a.toNat (by omega)
    have h2 : crN s a.toNat < 9 := by omega
    unfold crN at h2
    rcases (by omega : w.toNat = 0 ∨ w.toNat = 1 ∨ w.toNat = 2 ∨ w.toNat = 3) with q | q | q | q <;> rw [q]
    · exact h.a5 a.toNat _ (by omega) (by omega) (by simp only [Nat.add_zero]; omega)
    · exact h.a6 a.toNat _ (by omega) (by omega) (by simp only [Nat.reduceAdd]; omega)
    · exact h.a7 a.toNat _ (by omega) (by omega) (by simp only [Nat.reduceAdd]; omega)
    · exact h.a8 a.toNat _ (by omega) (by omega) (by simp only [Nat.reduceAdd]; omega)
  · exact h
theorem Inv.so {t : Int} {s : Nat → Int} (h : Inv t s) (a : Int) : Inv t (soS s a) := by
  have hb := h.base
  unfold soS
  split
  · exact h.flies a.toNat (by omega) (by omega)
  · exact h
theorem Inv.stf {t : Int} {s : Nat → Int} (h : Inv t s) (a m : Int) : Inv t (stS s a m) := by
  have hb := h.base
  unfold stS
  split
  · have h1 := h.sc a.toNat (by omega)
    have hf : 0 ≤ flN s a.toNat m ∧ flN s a.toNat m ≤ s 5 ∧ flN s a.toNat m ≤ 64 - s (ix a.toNat 4) := by unfold flN flM; (repeat' split) <;> omega
    have i1 := h.a4 a.toNat (s (ix a.toNat 4) + flN s a.toNat m) (by omega) (by omega) (by omega)
    exact i1.f5 _ (by omega)
  · exact h
theorem Inv.gs {t : Int} {s : Nat → Int} (h : Inv t s) (f m : Int) : Inv t (gsS s f m) := by
  unfold gsS
  split
  · exact h.g f.toNat (by omega) m (by omega)
  · exact h
theorem Inv.bl {t : Int} {s : Nat → Int} (h : Inv t s) (w m : Int) : Inv t (blS s w m) := by
  unfold blS
  split
  · exact (h.f3 w (by omega)).f4 m (by omega)
  · exact h
theorem Inv.ad {t : Int} {s : Nat → Int} (h : Inv t s) (c m : Int) : Inv t (adS s c m) := by
  unfold adS
  by_cases q : 0 ≤ c ∧ c ≤ 1 ∧ 0 ≤ m ∧ m ≤ (if c = 0 then 50 else 8)
  · rw [if_pos q]
    obtain ⟨q1, q2, q3, q4⟩ := q
    rcases (by omega : c = 0 ∨ c = 1) with z | z
    · subst z
      rw [if_pos rfl] at q4
      exact h.f0 m ⟨q3, q4⟩
    · subst z
      rw [if_neg (by decide)] at q4
      exact h.f1 m ⟨q3, q4⟩
  · rw [if_neg q]
    exact h
theorem Inv.cv {t : Int} {s : Nat → Int} (h : Inv t s) (d : Int) : Inv t (cvS s d) := by
  unfold cvS
  split
  · exact (h.f8 _ trivial).f9 _ trivial
  · exact h
theorem Inv.go {s : Nat → Int} (h : Inv 99999 s) (m : Int) : Inv 99999 (goS s m) := by
  have hb := h.base
  unfold goS
  split
  · exact (h.own.ts m.toNat (by omega)).mono (by omega) (by decide)
  · exact h
/-! the class's words and the reference's are the same -/
/-- who is left over by pairs -/
def tvK (s vf : Nat → Int) (k : Nat) : Int := sumK (fun j => if 0 ≤ vf j ∧ vf j ≤ 3 then s (11 + j) else 0) k
theorem lb_inv {s vf : Nat → Int} (hs : ∀ f, f < 6 → 1 ≤ s (11 + f)) (hv : ∀ f, f < 6 → vf f = -5 ∨ (0 ≤ vf f ∧ vf f ≤ 3)) : ∀ k, k ≤ 6 → 0 ≤ (lbW s vf k).2 ∧ (∀ w : Int, 0 ≤ w → w ≤ 3 → ((w = (lbW s vf k).1 → 2 * hsN s vf w k ≤ tvK s vf k + (lbW s vf k).2) ∧ (w ≠ (lbW s vf k).1 → 2 * hsN s vf w k + (lbW s vf k).2 ≤ tvK s vf k))) := by
  intro k
  induction k with
  | zero => exact fun _ => ⟨Int.le_refl _, fun w _ _ => ⟨fun _ => by show 2 * (0 : Int) ≤ 0 + 0; decide, fun _ => by show 2 * (0 : Int) + 0 ≤ 0; decide⟩⟩
  | succ k ih =>
    intro hk
    obtain ⟨h1, h2⟩ := ih (by omega)
    have hg := hs k (by omega)
    have hvk := hv k (by omega)
    have ht : tvK s vf (k + 1) = tvK s vf k + (if 0 ≤ vf k ∧ vf k ≤ 3 then s (11 + k) else 0) := rfl
    rw [lbW_s, ht]
    simp only []
    by_cases q : 0 ≤ vf k ∧ vf k ≤ 3
    · rw [if_pos q, if_pos q]
      by_cases q2 : vf k = (lbW s vf k).1
      · rw [if_pos q2, if_neg (by omega)]
        simp only []
        refine ⟨by omega, fun w w0 w3 => ?_⟩
        have hw := h2 w w0 w3
        rw [hsN_s]
        constructor
        · intro e
          rw [if_pos (by omega)]
          have := hw.1 e
          omega
        · intro e
          rw [if_neg (by omega)]
          have := hw.2 e
          omega
      · rw [if_neg q2]
        by_cases q3 : (lbW s vf k).2 - s (11 + k) < 0
        · rw [if_pos q3]
          simp only []
          refine ⟨by omega, fun w w0 w3 => ?_⟩
          have hw := h2 w w0 w3
          rw [hsN_s]
          constructor
          · intro e
            rw [if_pos (by omega)]
            have := hw.2 (by omega)
            omega
          · intro e
            rw [if_neg (by omega)]
            by_cases e2 : w = (lbW s vf k).1
            · have := hw.1 e2
              omega
            · have := hw.2 e2
              omega
        · rw [if_neg q3]
          simp only []
          refine ⟨by omega, fun w w0 w3 => ?_⟩
          have hw := h2 w w0 w3
          rw [hsN_s]
          constructor
          · intro e
            rw [if_neg (by omega)]
            have := hw.1 e
            omega
          · intro e
            by_cases e2 : vf k = w
            · rw [if_pos e2]
              have := hw.2 e
              omega
            · rw [if_neg e2]
              have := hw.2 e
              omega
    · rw [if_neg q, if_neg q, if_neg (by omega)]
      simp only []
      refine ⟨h1, fun w w0 w3 => ?_⟩
      have hw := h2 w w0 w3
      rw [hsN_s, if_neg (by omega)]
      constructor
      · intro e
        have := hw.1 e
        omega
      · intro e
        have := hw.2 e
        omega
theorem tv_all {s vf : Nat → Int} (hs : ∀ f, f < 6 → 1 ≤ s (11 + f)) : ∀ k, k ≤ 6 → tvK s vf k ≤ sumK (fun j => s (11 + j)) k := by
  intro k
  induction k with
  | zero => exact fun _ => Int.le_refl _
  | succ k ih =>
    intro hk
    have h1 := ih (by omega)
    have hg := hs k (by omega)
    show tvK s vf k + (if 0 ≤ vf k ∧ vf k ≤ 3 then s (11 + k) else 0) ≤ sumK (fun j => s (11 + j)) k + s (11 + k)
    split <;> omega
theorem dp_bs {t : Int} {s : Nat → Int} (hI : Inv t s) (lb : Bool) : dpR s (pvF s lb) = bsR s (pvF s lb) := by
  have hv : ∀ f, f < 6 → pvF s lb f = -5 ∨ (0 ≤ pvF s lb f ∧ pvF s lb f ≤ 3) := fun f _ => vtR_b hI lb (f : Int)
  have hs : ∀ f, f < 6 → 1 ≤ s (11 + f) := fun f hf => (hI.se f hf).1
  obtain ⟨h1, h2⟩ := lb_inv hs hv 6 (Nat.le_refl _)
  have h3 : tvK s (pvF s lb) 6 ≤ allS s := tv_all hs 6 (Nat.le_refl _)
  have w0 := h2 0 (by decide) (by decide)
  have w1 := h2 1 (by decide) (by decide)
  have w2 := h2 2 (by decide) (by decide)
  have w3 := h2 3 (by decide) (by decide)
  unfold dpR bsR mjP
  by_cases e : 0 ≤ (lbW s (pvF s lb) 6).1 ∧ (lbW s (pvF s lb) 6).1 ≤ 3
  · rcases (by omega : (lbW s (pvF s lb) 6).1 = 0 ∨ (lbW s (pvF s lb) 6).1 = 1 ∨ (lbW s (pvF s lb) 6).1 = 2 ∨ (lbW s (pvF s lb) 6).1 = 3) with q | q | q | q <;> rw [q] at w0 w1 w2 w3 ⊢ <;> (repeat' split) <;> omega
  · rw [if_neg (fun z => e ⟨z.1, z.2.1⟩), if_neg (by omega), if_neg (by omega), if_neg (by omega), if_neg (by omega)]
/-- sums: what stands behind the last scarecrow is 0 -/
theorem sum_ext {f g : Nat → Int} : ∀ n, (∀ k, k < n → f k = g k) → sumK f n = sumK g n := by
  intro n h
  induction n with
  | zero => rfl
  | succ n ih =>
    show sumK f n + f n = sumK g n + g n
    rw [ih (fun k hk => h k (by omega)), h n (by omega)]
theorem sum_0 {f : Nat → Int} (n : Nat) : ∀ d, (∀ k, n ≤ k → k < n + d → f k = 0) → sumK f (n + d) = sumK f n := by
  intro d h
  induction d with
  | zero => rfl
  | succ d ih =>
    show sumK f (n + d) + f (n + d) = sumK f n
    rw [ih (fun k h1 h2 => h k h1 (by omega)), h (n + d) (by omega) (by omega)]
    omega
theorem sum_12 {t : Int} {s : Nat → Int} (hI : Inv t s) {f : Nat → Int} (h : ∀ k : Nat, k < 12 → s 10 ≤ (k : Int) → f k = 0) : sumK f (s 10).toNat = sumK f 12 := by
  have hb := hI.base
  have h2 := sum_0 (f := f) (s 10).toNat (12 - (s 10).toNat) (fun k h1 h2 => h k (by omega) (by omega))
  rw [show (s 10).toNat + (12 - (s 10).toNat) = 12 by omega] at h2
  exact h2.symm
theorem sum_4 (s : Nat → Int) : ∀ n, sumK (fun k => s (ix (k / 4) (5 + k % 4))) (4 * n) = sumK (fun k => crN s k) n := by
  intro n
  induction n with
  | zero => rfl
  | succ n ih =>
    show sumK (fun k => s (ix (k / 4) (5 + k % 4))) (4 * n) + s (ix (4 * n / 4) (5 + 4 * n % 4)) + s (ix ((4 * n + 1) / 4) (5 + (4 * n + 1) % 4)) + s (ix ((4 * n + 2) / 4) (5 + (4 * n + 2) % 4)) + s (ix ((4 * n + 3) / 4) (5 + (4 * n + 3) % 4)) = sumK (fun k => crN s k) n + crN s n
    rw [ih, show 4 * n / 4 = n by omega, show 4 * n % 4 = 0 by omega, show (4 * n + 1) / 4 = n by omega, show (4 * n + 1) % 4 = 1 by omega, show (4 * n + 2) / 4 = n by omega, show (4 * n + 2) % 4 = 2 by omega, show (4 * n + 3) / 4 = n by omega, show (4 * n + 3) % 4 = 3 by omega]
    unfold crN
    simp only [Nat.add_zero, Nat.reduceAdd]
    omega
/-- the ghosts of the class's house: what the reference counts as it goes -/
def GI (s : Nat → Int) : Prop := s 6 = sumK (fun k => s (ix k 10)) 12 ∧ s 7 = sumK (fun k => s (ix k 9)) 12 ∧ ∀ k, k < 12 → 0 ≤ s (ix k 9) ∧ s (ix k 9) ≤ s 2
/-! the ghosts are kept -/
def okG (j : Nat) : Prop := j ≠ 2 ∧ j ≠ 6 ∧ j ≠ 7 ∧ ∀ k, j ≠ ix k 9 ∧ j ≠ ix k 10
theorem okG_ix (n c : Nat) (hc : c < 9) : okG (ix n c) := ⟨by unfold ix; omega, by unfold ix; omega, by unfold ix; omega, fun k => ⟨by unfold ix; omega, by unfold ix; omega⟩⟩
theorem okG_lo {j : Nat} (h : j < 17) (h2 : j ≠ 2) (h6 : j ≠ 6) (h7 : j ≠ 7) : okG j := ⟨h2, h6, h7, fun k => ⟨by unfold ix; omega, by unfold ix; omega⟩⟩
def GE (s s' : Nat → Int) : Prop := s' 2 = s 2 ∧ s' 6 = s 6 ∧ s' 7 = s 7 ∧ ∀ k, s' (ix k 9) = s (ix k 9) ∧ s' (ix k 10) = s (ix k 10)
theorem GE.rf (s : Nat → Int) : GE s s := ⟨rfl, rfl, rfl, fun _ => ⟨rfl, rfl⟩⟩
theorem GE.u {s0 s : Nat → Int} (h : GE s0 s) {j : Nat} (v : Int) (hj : okG j) : GE s0 (up s j v) :=
  ⟨(up_ne (Ne.symm hj.1)).trans h.1, (up_ne (Ne.symm hj.2.1)).trans h.2.1, (up_ne (Ne.symm hj.2.2.1)).trans h.2.2.1, fun k => ⟨(up_ne (Ne.symm (hj.2.2.2 k).1)).trans (h.2.2.2 k).1, (up_ne (Ne.symm (hj.2.2.2 k).2)).trans (h.2.2.2 k).2⟩⟩
theorem GI.ge {s s' : Nat → Int} (h : GI s) (e : GE s s') : GI s' := by
  obtain ⟨a, b, c⟩ := h
  obtain ⟨e2, e6, e7, e9⟩ := e
  refine ⟨?_, ?_, fun k hk => ?_⟩
  · rw [e6, a]; exact sum_ext 12 (fun k _ => (e9 k).2.symm)
  · rw [e7, b]; exact sum_ext 12 (fun k _ => (e9 k).1.symm)
  · rw [e2, (e9 k).1]; exact c k hk
theorem GE.fly (s : Nat → Int) (k : Nat) : GE s (fly s k) := (((((GE.rf s).u 0 (okG_ix k 5 (by decide))).u 0 (okG_ix k 6 (by decide))).u 0 (okG_ix k 7 (by decide))).u 0 (okG_ix k 8 (by decide)))
theorem GE.ra (s : Nat → Int) (f g p w : Int) : GE s (raS s f g p w) := by
  unfold raS
  split
  · exact ((((((GE.rf s).u _ (okG_ix _ 0 (by decide))).u _ (okG_ix _ 1 (by decide))).u _ (okG_ix _ 2 (by decide))).u _ (okG_ix _ 3 (by decide))).u _ (okG_ix _ 4 (by decide))).u _ (okG_lo (by decide) (by decide) (by decide) (by decide))
  · exact GE.rf s
theorem GE.br (s : Nat → Int) (a b : Int) : GE s (brS s a b) := by
  unfold brS
  split
  · exact (GE.rf s).u _ (okG_ix _ 0 (by decide))
  · exact GE.rf s
theorem GE.th (s : Nat → Int) (a b : Int) : GE s (thS s a b) := by
  unfold thS
  split
  · exact (GE.rf s).u _ (okG_ix _ 3 (by decide))
  · exact GE.rf s
theorem GE.tc (s : Nat → Int) (a w : Int) : GE s (tcS s a w) := by
  unfold tcS
  split
  · exact (GE.rf s).u _ (okG_ix _ _ (by omega))
  · exact GE.rf s
theorem GE.so (s : Nat → Int) (a : Int) : GE s (soS s a) := by
  unfold soS
  split
  · exact GE.fly s _
  · exact GE.rf s
theorem GE.st (s : Nat → Int) (a m : Int) : GE s (stS s a m) := by
  unfold stS
  split
  · exact ((GE.rf s).u _ (okG_ix _ 4 (by decide))).u _ (okG_lo (by decide) (by decide) (by decide) (by decide))
  · exact GE.rf s
theorem GE.gs (s : Nat → Int) (f m : Int) : GE s (gsS s f m) := by
  unfold gsS
  split
  · exact (GE.rf s).u _ (okG_lo (by omega) (by omega) (by omega) (by omega))
  · exact GE.rf s
theorem GE.bl (s : Nat → Int) (w m : Int) : GE s (blS s w m) := by
  unfold blS
  split
  · exact ((GE.rf s).u _ (okG_lo (by decide) (by decide) (by decide) (by decide))).u _ (okG_lo (by decide) (by decide) (by decide) (by decide))
  · exact GE.rf s
theorem GE.ad (s : Nat → Int) (c m : Int) : GE s (adS s c m) := by
  unfold adS
  by_cases q : 0 ≤ c ∧ c ≤ 1 ∧ 0 ≤ m ∧ m ≤ (if c = 0 then 50 else 8)
  · rw [if_pos q]
    have q1 := q.1
    have q2 := q.2.1
    exact (GE.rf s).u _ (okG_lo (by omega) (by omega) (by omega) (by omega))
  · rw [if_neg q]
    exact GE.rf s
theorem GE.cv (s : Nat → Int) (d : Int) : GE s (cvS s d) := by
  unfold cvS
  split
  · exact ((GE.rf s).u _ (okG_lo (by decide) (by decide) (by decide) (by decide))).u _ (okG_lo (by decide) (by decide) (by decide) (by decide))
  · exact GE.rf s
theorem sum_one {f g : Nat → Int} {n : Nat} (h : ∀ k, k ≠ n → g k = f k) : ∀ m, n < m → sumK g m = sumK f m - f n + g n := by
  intro m
  induction m with
  | zero => intro h2; exact absurd h2 (Nat.not_lt_zero n)
  | succ m ih =>
    intro h2
    show sumK g m + g m = sumK f m + f m - f n + g n
    by_cases q : n = m
    · subst q
      rw [sum_ext n (fun k hk => h k (by omega))]
      omega
    · rw [ih (by omega), h m (fun z => q z.symm)]
      omega
abbrev S9 (s : Nat → Int) : Int := sumK (fun k => s (ix k 9)) 12
abbrev S10 (s : Nat → Int) : Int := sumK (fun k => s (ix k 10)) 12
theorem tb_g (s : Nat → Int) {n : Nat} (hn : n < 12) : tbS s n 2 = s 2 ∧ tbS s n 6 = s 6 ∧ tbS s n 7 = s 7 ∧ S10 (tbS s n) = S10 s ∧ S9 (tbS s n) = S9 s + tbR s n := by
  unfold tbS tbR
  by_cases q : tbF s n ≤ s (ix n 2) ∨ s (ix n 3) = s 3
  · rw [if_pos q, if_pos q]
    exact ⟨rfl, rfl, rfl, rfl, by omega⟩
  · rw [if_neg q, if_neg q]
    refine ⟨by rw [up_ix (by decide), up_ix (by decide)], by rw [up_ix (by decide), up_ix (by decide)], by rw [up_ix (by decide), up_ix (by decide)], sum_ext 12 (fun k _ => by rw [up_ne (by unfold ix; omega), up_ne (by unfold ix; omega)]), ?_⟩
    have h := sum_one (f := fun k => s (ix k 9)) (g := fun k => up (up s (ix n 3) (tbN s n)) (ix n 9) (s (ix n 9) + 1) (ix k 9)) (n := n) (fun k hk => by
      show up (up s (ix n 3) (tbN s n)) (ix n 9) (s (ix n 9) + 1) (ix k 9) = s (ix k 9)
      rw [up_ne (by unfold ix; omega), up_ne (by unfold ix; omega)]) 12 hn
    have e : up (up s (ix n 3) (tbN s n)) (ix n 9) (s (ix n 9) + 1) (ix n 9) = s (ix n 9) + 1 := up_eq
    simp only [e] at h
    show sumK (fun k => up (up s (ix n 3) (tbN s n)) (ix n 9) (s (ix n 9) + 1) (ix k 9)) 12 = sumK (fun k => s (ix k 9)) 12 + 1
    omega
theorem tw_g (s : Nat → Int) : ∀ n, n ≤ 12 → twS s n 2 = s 2 ∧ twS s n 6 = s 6 ∧ twS s n 7 = s 7 ∧ S10 (twS s n) = S10 s ∧ S9 (twS s n) = S9 s + twR s n := by
  intro n
  induction n with
  | zero => intro _; exact ⟨rfl, rfl, rfl, rfl, by show S9 s = S9 s + 0; omega⟩
  | succ n ih =>
    intro h
    obtain ⟨a, b, c, d, e⟩ := ih (by omega)
    obtain ⟨a2, b2, c2, d2, e2⟩ := tb_g (twS s n) (n := n) (by omega)
    refine ⟨a2.trans a, b2.trans b, c2.trans c, d2.trans d, ?_⟩
    show S9 (tbS (twS s n) n) = S9 s + (twR s n + tbR (twS s n) n)
    omega
theorem pl_g (s : Nat → Int) {n : Nat} (hn : n < 12) : plS s n 2 = s 2 ∧ plS s n 7 = s 7 ∧ S9 (plS s n) = S9 s ∧ plS s n 6 - S10 (plS s n) = s 6 - S10 s := by
  have h1 : pl1 s n 2 = s 2 ∧ pl1 s n 7 = s 7 ∧ S9 (pl1 s n) = S9 s ∧ pl1 s n 6 - S10 (pl1 s n) = s 6 - S10 s := by
    unfold pl1
    refine ⟨by rw [up_ne (by decide), up_ix (by decide), up_ix (by decide)], by rw [up_ne (by decide), up_ix (by decide), up_ix (by decide)], sum_ext 12 (fun k _ => by rw [up_ne (by unfold ix; omega), up_ne (by unfold ix; omega), up_ne (by unfold ix; omega)]), ?_⟩
    have h := sum_one (f := fun k => s (ix k 10)) (g := fun k => up (up (up s (ix n 4) (s (ix n 4) - plN s n)) (ix n 10) (s (ix n 10) + plN s n)) 6 (s 6 + plN s n) (ix k 10)) (n := n) (fun k hk => by
      show up (up (up s (ix n 4) (s (ix n 4) - plN s n)) (ix n 10) (s (ix n 10) + plN s n)) 6 (s 6 + plN s n) (ix k 10) = s (ix k 10)
      rw [up_ne (by unfold ix; omega), up_ne (by unfold ix; omega), up_ne (by unfold ix; omega)]) 12 hn
    have e : up (up (up s (ix n 4) (s (ix n 4) - plN s n)) (ix n 10) (s (ix n 10) + plN s n)) 6 (s 6 + plN s n) (ix n 10) = s (ix n 10) + plN s n := by rw [up_ne (by unfold ix; omega), up_eq]
    simp only [e] at h
    rw [up_eq]
    show s 6 + plN s n - sumK (fun k => up (up (up s (ix n 4) (s (ix n 4) - plN s n)) (ix n 10) (s (ix n 10) + plN s n)) 6 (s 6 + plN s n) (ix k 10)) 12 = s 6 - sumK (fun k => s (ix k 10)) 12
    omega
  unfold plS
  split
  · have e := GE.fly (pl1 s n) n
    refine ⟨e.1.trans h1.1, e.2.2.1.trans h1.2.1, (sum_ext 12 (fun k _ => (e.2.2.2 k).1)).trans h1.2.2.1, ?_⟩
    have e10 : S10 (fly (pl1 s n) n) = S10 (pl1 s n) := sum_ext 12 (fun k _ => (e.2.2.2 k).2)
    rw [e.2.1, e10]
    exact h1.2.2.2
  · exact h1
theorem pk_g (s : Nat → Int) : ∀ n, n ≤ 12 → pkS s n 2 = s 2 ∧ pkS s n 7 = s 7 ∧ S9 (pkS s n) = S9 s ∧ pkS s n 6 - S10 (pkS s n) = s 6 - S10 s := by
  intro n
  induction n with
  | zero => intro _; exact ⟨rfl, rfl, rfl, rfl⟩
  | succ n ih =>
    intro h
    obtain ⟨a, b, c, d⟩ := ih (by omega)
    obtain ⟨a2, b2, c2, d2⟩ := pl_g (pkS s n) (n := n) (by omega)
    exact ⟨a2.trans a, b2.trans b, c2.trans c, d2.trans d⟩
theorem GI.tk {t : Int} {s : Nat → Int} (hI : Inv t s) (h : GI s) : GI (tkS s) := by
  have hb := hI.base
  obtain ⟨a, b, c, d, e⟩ := tw_g s (s 10).toNat (by omega)
  obtain ⟨a2, b2, c2, d2⟩ := pk_g (twS s (s 10).toNat) (s 10).toNat (by omega)
  have e10 : S10 (tkS s) = S10 (tkA s) := sum_ext 12 (fun k _ => by unfold tkS; rw [shS_lo _ _ (by unfold ix; omega), up_ne (by unfold ix; omega), up_ne (by unfold ix; omega)])
  have e9 : S9 (tkS s) = S9 (tkA s) := sum_ext 12 (fun k _ => by unfold tkS; rw [shS_lo _ _ (by unfold ix; omega), up_ne (by unfold ix; omega), up_ne (by unfold ix; omega)])
  have e6 : tkS s 6 = tkA s 6 := by unfold tkS; rw [shS_lo _ _ (by decide), up_ne (by decide), up_ne (by decide)]
  have e7 : tkS s 7 = tkA s 7 + tkR s := by unfold tkS; rw [shS_lo _ _ (by decide), up_eq]
  have eR : tkR s = twR s (s 10).toNat := rfl
  have eA : tkA s = pkS (twS s (s 10).toNat) (s 10).toNat := rfl
  obtain ⟨h6, h7, h9⟩ := h
  refine ⟨?_, ?_, fun k hk => ?_⟩
  · show tkS s 6 = S10 (tkS s)
    rw [e10, e6, eA]
    have q6 : s 6 = S10 s := h6
    omega
  · show tkS s 7 = S9 (tkS s)
    rw [e9, e7, eA, eR]
    have q7 : s 7 = S9 s := h7
    omega
  · have h1 := tk9 s k
    have h2 := h9 k hk
    have h3 := tkS_2 s
    omega
theorem GI.ts {t : Int} {s : Nat → Int} (hI : Inv t s) (h : GI s) : ∀ j : Nat, t + j ≤ 1000000 → GI (tsS s j) := by
  intro j
  induction j with
  | zero => exact fun _ => h
  | succ j ih => exact fun hj => GI.tk (hI.ts j (by omega)) (ih (by omega))
theorem GI.go {s : Nat → Int} (hI : Inv 99999 s) (h : GI s) (m : Int) : GI (goS s m) := by
  unfold goS
  split
  · exact GI.ts hI h _ (by omega)
  · exact h
theorem rcZ_b {sz : Nat} (h : sz ≤ 4) (r : Int) : rcZ sz r ≤ 4 := by
  unfold rcZ
  (repeat' split) <;> omega
def IG (s : Nat → Int) : Prop := Inv 99999 s ∧ GI s
theorem IG.h9 {s : Nat → Int} (h : IG s) : ∀ k, k < 12 → 0 ≤ s (ix k 9) ∧ s (ix k 9) ≤ 100000 := fun k hk => by
  have h1 := h.2.2.2 k hk
  have h2 := h.1.base
  omega
theorem IG.rc {s : Nat → Int} {hs : Nat → Nat → Int} {sz : Nat} (h : ∀ i, i < sz → IG (hs i)) (hz : sz ≤ 4) (hs0 : IG s) (r : Int) : ∀ i, i < rcZ sz r → IG (rcH hs sz s r i) := by
  intro i hi
  unfold rcZ at hi
  unfold rcH pushH
  by_cases q : 0 ≤ r
  · rw [if_pos q] at hi ⊢
    by_cases q2 : sz = 4
    · rw [if_pos q2] at hi ⊢
      show IG (if i = 3 then s else hs (i + 1))
      by_cases q3 : i = 3
      · rw [if_pos q3]; exact hs0
      · rw [if_neg q3]; exact h _ (by omega)
    · rw [if_neg q2] at hi ⊢
      show IG (if i = sz then s else hs i)
      by_cases q3 : i = sz
      · rw [if_pos q3]; exact hs0
      · rw [if_neg q3]; exact h _ (by omega)
  · rw [if_neg q] at hi ⊢
    exact h i hi
theorem IG.z : IG hz0 := by
  have hz : ∀ k c, hz0 (ix k c) = 0 := fun k c => hz0_hi (by unfold ix; omega)
  refine ⟨⟨by decide, fun f hf => ?_, fun k hk => ?_, fun k c _ _ _ => hz k c⟩, ?_, ?_, fun k hk => ?_⟩
  · rcases (by omega : f = 0 ∨ f = 1 ∨ f = 2 ∨ f = 3 ∨ f = 4 ∨ f = 5) with rfl | rfl | rfl | rfl | rfl | rfl <;> decide
  · rw [hz k 0, hz k 1, hz k 2, hz k 3, hz k 4, hz k 5, hz k 6, hz k 7, hz k 8]
    decide
  · rw [sum_ext (g := fun _ => 0) 12 (fun k _ => hz k 10)]; rfl
  · rw [sum_ext (g := fun _ => 0) 12 (fun k _ => hz k 9)]; rfl
  · rw [hz k 9]; decide
/-- the script at the cell bs, of L ints -/
def LawS (X : vX) (bs L : Nat) (xs : Nat → Int32) : Prop := ∃ G p l e R s m args below meth c A Q nL, X = (G, p, l, e, R, s, m, args, below, meth, c, A, Q, nL) ∧ va_X bs L xs s s.heap ∧ bs < s.heap.size ∧ ¬ A bs
section LawRows
variable {X : vX} {l : Launch} {G : vC} {y : MethodName} {cc : ByteArray} {R : Room} {nL k n pc : Nat} {w : va_W} {lv : List (Nat × Value)} {st : List Value}
theorem V_sld (hX : VS X l G y cc R nL) {bs L : Nat} {xs : Nat → Int32} (hL : LawS X bs L xs) {i : Int} (h0 : 0 ≤ i) (h1 : i < L) (hm : L ≤ 2147483647) {v : Int32} (hv : xs i.toNat = v) (d : decode cc pc = .ok (.iaload, 1)) (kk : V X k n w lv (pc + 1) (.int v :: st)) : V X k n w lv pc (.int (jI i) :: .ref bs :: st) := by
  subst hv
  obtain ⟨p0, e0, s0, m0, args0, below0, meth0, c0, A0, Q0, rfl, hx, hb, hml, hown, hK, hA, hlocks, hnm⟩ := hX
  obtain ⟨G1, p1, l1, e1, R1, s1, m1, args1, below1, meth1, c1, A1, Q1, nL1, he, hX1, hbl, hbA⟩ := hL
  cases he
  intro H locs ls hP hD hS hl
  exact va_sld hx hb hX1 hbl hbA hS (jI_in h0 h1 hm) d (by rw [jI_clamp h0 (by omega)]; exact (kk H locs ls hP hD hS hl))
theorem V_slen (hX : VS X l G y cc R nL) {bs L : Nat} {xs : Nat → Int32} (hL : LawS X bs L xs) (d : decode cc pc = .ok (.arraylength, 1)) (kk : V X k n w lv (pc + 1) (.int (jI (L : Int)) :: st)) : V X k n w lv pc (.ref bs :: st) := by
  obtain ⟨p0, e0, s0, m0, args0, below0, meth0, c0, A0, Q0, rfl, hx, hb, hml, hown, hK, hA, hlocks, hnm⟩ := hX
  obtain ⟨G1, p1, l1, e1, R1, s1, m1, args1, below1, meth1, c1, A1, Q1, nL1, he, hX1, hbl, hbA⟩ := hL
  cases he
  intro H locs ls hP hD hS hl
  exact va_slen hx hb hX1 hbl hbA hS d (kk H locs ls hP hD hS hl)
end LawRows
