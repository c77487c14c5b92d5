/-! the ghosts are kept -/
def okG (j : Nat) : Prop := j ≠ 2 ∧ j ≠ 6 ∧ j ≠ 7 ∧ ∀ k, j ≠ ix k 9 ∧ j ≠ ix k 10
theorem okG_ix (n c : Nat) (hc : c < 9) : okG (ix n c) := ⟨by unfold ix; omega, by unfold ix; omega, by unfold ix; omega, fun k => ⟨by unfold ix; omega, by unfold ix; omega⟩⟩
theorem okG_lo {j : Nat} (h : j < 17) (h2 : j ≠ 2) (h6 : j ≠ 6) (h7 : j ≠ 7) : okG j := ⟨h2, h6, h7, fun k => ⟨by unfold ix; omega, by unfold ix; omega⟩⟩
def GE (s s' : Nat → Int) : Prop := s' 2 = s 2 ∧ s' 6 = s 6 ∧ s' 7 = s 7 ∧ ∀ k, s' (ix k 9) = s (ix k 9) ∧ s' (ix k 10) = s (ix k 10)
theorem GE.rf (s : Nat → Int) : GE s s := ⟨rfl, rfl, rfl, fun _ => ⟨rfl, rfl⟩⟩
theorem GE.u {s0 s : Nat → Int} (h : GE s0 s) {j : Nat} (v : Int) (hj : okG j) : GE s0 (up s j v) :=
  ⟨(up_ne (Ne.symm hj.1)).trans h.1, (up_ne (Ne.symm hj.2.1)).trans h.2.1, (up_ne (Ne.symm hj.2.2.1)).trans h.2.2.1, fun k => ⟨(up_ne (Ne.symm (hj.2.2.2 k).1)).trans (h.2.2.2 k).1, (up_ne (Ne.symm (hj.2.2.2 k).2)).trans (h.2.2.2 k).2⟩⟩
theorem GI.ge {s s' : Nat → Int} (h : GI s) (e : GE s s') : GI s' := by
  obtain ⟨a, b, c⟩ := h
  obtain ⟨e2, e6, e7, e9⟩ := e
  refine ⟨?_, ?_, fun k hk => ?_⟩
  · rw [e6, a]; exact sum_ext 12 (fun k _ => (e9 k).2.symm)
  · rw [e7, b]; exact sum_ext 12 (fun k _ => (e9 k).1.symm)
  · rw [e2, (e9 k).1]; exact c k hk
theorem GE.fly (s : Nat → Int) (k : Nat) : GE s (fly s k) := (((((GE.rf s).u 0 (okG_ix k 5 (by decide))).u 0 (okG_ix k 6 (by decide))).u 0 (okG_ix k 7 (by decide))).u 0 (okG_ix k 8 (by decide)))
theorem GE.ra (s : Nat → Int) (f g p w : Int) : GE s (raS s f g p w) := by
  unfold raS
  split
  · exact ((((((GE.rf s).u _ (okG_ix _ 0 (by decide))).u _ (okG_ix _ 1 (by decide))).u _ (okG_ix _ 2 (by decide))).u _ (okG_ix _ 3 (by decide))).u _ (okG_ix _ 4 (by decide))).u _ (okG_lo (by decide) (by decide) (by decide) (by decide))
  · exact GE.rf s
theorem GE.br (s : Nat → Int) (a b : Int) : GE s (brS s a b) := by
  unfold brS
  split
  · exact (GE.rf s).u _ (okG_ix _ 0 (by decide))
  · exact GE.rf s
theorem GE.th (s : Nat → Int) (a b : Int) : GE s (thS s a b) := by
  unfold thS
  split
  · exact (GE.rf s).u _ (okG_ix _ 3 (by decide))
  · exact GE.rf s
theorem GE.tc (s : Nat → Int) (a w : Int) : GE s (tcS s a w) := by
  unfold tcS
  split
  · exact (GE.rf s).u _ (okG_ix _ _ (by omega))
  · exact GE.rf s
theorem GE.so (s : Nat → Int) (a : Int) : GE s (soS s a) := by
  unfold soS
  split
  · exact GE.fly s _
  · exact GE.rf s
theorem GE.st (s : Nat → Int) (a m : Int) : GE s (stS s a m) := by
  unfold stS
  split
  · exact ((GE.rf s).u _ (okG_ix _ 4 (by decide))).u _ (okG_lo (by decide) (by decide) (by decide) (by decide))
  · exact GE.rf s
theorem GE.gs (s : Nat → Int) (f m : Int) : GE s (gsS s f m) := by
  unfold gsS
  split
  · exact (GE.rf s).u _ (okG_lo (by omega) (by omega) (by omega) (by omega))
  · exact GE.rf s
theorem GE.bl (s : Nat → Int) (w m : Int) : GE s (blS s w m) := by
  unfold blS
  split
  · exact ((GE.rf s).u _ (okG_lo (by decide) (by decide) (by decide) (by decide))).u _ (okG_lo (by decide) (by decide) (by decide) (by decide))
  · exact GE.rf s
theorem GE.ad (s : Nat → Int) (c m : Int) : GE s (adS s c m) := by
  unfold adS
  by_cases q : 0 ≤ c ∧ c ≤ 1 ∧ 0 ≤ m ∧ m ≤ (if c = 0 then 50 else 8)
  · rw [if_pos q]
    have q1 := q.1
    have q2 := q.2.1
    exact (GE.rf s).u _ (okG_lo (by omega) (by omega) (by omega) (by omega))
  · rw [if_neg q]
    exact GE.rf s
theorem GE.cv (s : Nat → Int) (d : Int) : GE s (cvS s d) := by
  unfold cvS
  split
  · exact ((GE.rf s).u _ (okG_lo (by decide) (by decide) (by decide) (by decide))).u _ (okG_lo (by decide) (by decide) (by decide) (by decide))
  · exact GE.rf s
theorem sum_one {f g : Nat → Int} {n : Nat} (h : ∀ k, k ≠ n → g k = f k) : ∀ m, n < m → sumK g m = sumK f m - f n + g n := by
  intro m
  induction m with
  | zero => intro h2; exact absurd h2 (Nat.not_lt_zero n)
  | succ m ih =>
    intro h2
    show sumK g m + g m = sumK f m + f m - f n + g n
    by_cases q : n = m
    · subst q
      rw [sum_ext n (fun k hk => h k (by omega))]
      omega
    · rw [ih (by omega), h m (fun z => q z.symm)]
      omega
abbrev S9 (s : Nat → Int) : Int := sumK (fun k => s (ix k 9)) 12
abbrev S10 (s : Nat → Int) : Int := sumK (fun k => s (ix k 10)) 12
theorem tb_g (s : Nat → Int) {n : Nat} (hn : n < 12) : tbS s n 2 = s 2 ∧ tbS s n 6 = s 6 ∧ tbS s n 7 = s 7 ∧ S10 (tbS s n) = S10 s ∧ S9 (tbS s n) = S9 s + tbR s n := by
  unfold tbS tbR
  by_cases q : tbF s n ≤ s (ix n 2) ∨ s (ix n 3) = s 3
  · rw [if_pos q, if_pos q]
    exact ⟨rfl, rfl, rfl, rfl, by omega⟩
  · rw [if_neg q, if_neg q]
    refine ⟨by rw [up_ix (by decide), up_ix (by decide)], by rw [up_ix (by decide), up_ix (by decide)], by rw [up_ix (by decide), up_ix (by decide)], sum_ext 12 (fun k _ => by rw [up_ne (by unfold ix; omega), up_ne (by unfold ix; omega)]), ?_⟩
    have h := sum_one (f := fun k => s (ix k 9)) (g := fun k => up (up s (ix n 3) (tbN s n)) (ix n 9) (s (ix n 9) + 1) (ix k 9)) (n := n) (fun k hk => by
      show up (up s (ix n 3) (tbN s n)) (ix n 9) (s (ix n 9) + 1) (ix k 9) = s (ix k 9)
      rw [up_ne (by unfold ix; omega), up_ne (by unfold ix; omega)]) 12 hn
    have e : up (up s (ix n 3) (tbN s n)) (ix n 9) (s (ix n 9) + 1) (ix n 9) = s (ix n 9) + 1 := up_eq
    simp only [e] at h
    show sumK (fun k => up (up s (ix n 3) (tbN s n)) (ix n 9) (s (ix n 9) + 1) (ix k 9)) 12 = sumK (fun k => s (ix k 9)) 12 + 1
    omega
theorem tw_g (s : Nat → Int) : ∀ n, n ≤ 12 → twS s n 2 = s 2 ∧ twS s n 6 = s 6 ∧ twS s n 7 = s 7 ∧ S10 (twS s n) = S10 s ∧ S9 (twS s n) = S9 s + twR s n := by
  intro n
  induction n with
  | zero => intro _; exact ⟨rfl, rfl, rfl, rfl, by show S9 s = S9 s + 0; omega⟩
  | succ n ih =>
    intro h
    obtain ⟨a, b, c, d, e⟩ := ih (by omega)
    obtain ⟨a2, b2, c2, d2, e2⟩ := tb_g (twS s n) (n := n) (by omega)
    refine ⟨a2.trans a, b2.trans b, c2.trans c, d2.trans d, ?_⟩
    show S9 (tbS (twS s n) n) = S9 s + (twR s n + tbR (twS s n) n)
    omega
theorem pl_g (s : Nat → Int) {n : Nat} (hn : n < 12) : plS s n 2 = s 2 ∧ plS s n 7 = s 7 ∧ S9 (plS s n) = S9 s ∧ plS s n 6 - S10 (plS s n) = s 6 - S10 s := by
  have h1 : pl1 s n 2 = s 2 ∧ pl1 s n 7 = s 7 ∧ S9 (pl1 s n) = S9 s ∧ pl1 s n 6 - S10 (pl1 s n) = s 6 - S10 s := by
    unfold pl1
    refine ⟨by rw [up_ne (by decide), up_ix (by decide), up_ix (by decide)], by rw [up_ne (by decide), up_ix (by decide), up_ix (by decide)], sum_ext 12 (fun k _ => by rw [up_ne (by unfold ix; omega), up_ne (by unfold ix; omega), up_ne (by unfold ix; omega)]), ?_⟩
    have h := sum_one (f := fun k => s (ix k 10)) (g := fun k => up (up (up s (ix n 4) (s (ix n 4) - plN s n)) (ix n 10) (s (ix n 10) + plN s n)) 6 (s 6 + plN s n) (ix k 10)) (n := n) (fun k hk => by
      show up (up (up s (ix n 4) (s (ix n 4) - plN s n)) (ix n 10) (s (ix n 10) + plN s n)) 6 (s 6 + plN s n) (ix k 10) = s (ix k 10)
      rw [up_ne (by unfold ix; omega), up_ne (by unfold ix; omega), up_ne (by unfold ix; omega)]) 12 hn
    have e : up (up (up s (ix n 4) (s (ix n 4) - plN s n)) (ix n 10) (s (ix n 10) + plN s n)) 6 (s 6 + plN s n) (ix n 10) = s (ix n 10) + plN s n := by rw [up_ne (by unfold ix; omega), up_eq]
    simp only [e] at h
    rw [up_eq]
    show s 6 + plN s n - sumK (fun k => up (up (up s (ix n 4) (s (ix n 4) - plN s n)) (ix n 10) (s (ix n 10) + plN s n)) 6 (s 6 + plN s n) (ix k 10)) 12 = s 6 - sumK (fun k => s (ix k 10)) 12
    omega
  unfold plS
  split
  · have e := GE.fly (pl1 s n) n
    refine ⟨e.1.trans h1.1, e.2.2.1.trans h1.2.1, (sum_ext 12 (fun k _ => (e.2.2.2 k).1)).trans h1.2.2.1, ?_⟩
    have e10 : S10 (fly (pl1 s n) n) = S10 (pl1 s n) := sum_ext 12 (fun k _ => (e.2.2.2 k).2)
    rw [e.2.1, e10]
    exact h1.2.2.2
  · exact h1
theorem pk_g (s : Nat → Int) : ∀ n, n ≤ 12 → pkS s n 2 = s 2 ∧ pkS s n 7 = s 7 ∧ S9 (pkS s n) = S9 s ∧ pkS s n 6 - S10 (pkS s n) = s 6 - S10 s := by
  intro n
  induction n with
  | zero => intro _; exact ⟨rfl, rfl, rfl, rfl⟩
  | succ n ih =>
    intro h
    obtain ⟨a, b, c, d⟩ := ih (by omega)
    obtain ⟨a2, b2, c2, d2⟩ := pl_g (pkS s n) (n := n) (by omega)
    exact ⟨a2.trans a, b2.trans b, c2.trans c, d2.trans d⟩
theorem GI.tk {t : Int} {s : Nat → Int} (hI : Inv t s) (h : GI s) : GI (tkS s) := by
  have hb := hI.base
  obtain ⟨a, b, c, d, e⟩ := tw_g s (s 10).toNat (by omega)
  obtain ⟨a2, b2, c2, d2⟩ := pk_g (twS s (s 10).toNat) (s 10).toNat (by omega)
  have e10 : S10 (tkS s) = S10 (tkA s) := sum_ext 12 (fun k _ => by unfold tkS; rw [shS_lo _ _ (by unfold ix; omega), up_ne (by unfold ix; omega), up_ne (by unfold ix; omega)])
  have e9 : S9 (tkS s) = S9 (tkA s) := sum_ext 12 (fun k _ => by unfold tkS; rw [shS_lo _ _ (by unfold ix; omega), up_ne (by unfold ix; omega), up_ne (by unfold ix; omega)])
  have e6 : tkS s 6 = tkA s 6 := by unfold tkS; rw [shS_lo _ _ (by decide), up_ne (by decide), up_ne (by decide)]
  have e7 : tkS s 7 = tkA s 7 + tkR s := by unfold tkS; rw [shS_lo _ _ (by decide), up_eq]
  have eR : tkR s = twR s (s 10).toNat := rfl
  have eA : tkA s = pkS (twS s (s 10).toNat) (s 10).toNat := rfl
  obtain ⟨h6, h7, h9⟩ := h
  refine ⟨?_, ?_, fun k hk => ?_⟩
  · show tkS s 6 = S10 (tkS s)
    rw [e10, e6, eA]
    have q6 : s 6 = S10 s := h6
    omega
  · show tkS s 7 = S9 (tkS s)
    rw [e9, e7, eA, eR]
    have q7 : s 7 = S9 s := h7
    omega
  · have h1 := tk9 s k
    have h2 := h9 k hk
    have h3 := tkS_2 s
    omega
theorem GI.ts {t : Int} {s : Nat → Int} (hI : Inv t s) (h : GI s) : ∀ j : Nat, t + j ≤ 1000000 → GI (tsS s j) := by
  intro j
  induction j with
  | zero => exact fun _ => h
  | succ j ih => exact fun hj => GI.tk (hI.ts j (by omega)) (ih (by omega))
theorem GI.go {s : Nat → Int} (hI : Inv 99999 s) (h : GI s) (m : Int) : GI (goS s m) := by
  unfold goS
  split
  · exact GI.ts hI h _ (by omega)
  · exact h
theorem GI.dt {s : Nat → Int} (hI : Inv 99999 s) (h : GI s) (k f g : Int) : GI (dtS s k f g) := by
  unfold dtS
  split
  · exact h.ge (GE.tc s f g)
  · split
    · exact h.ge (GE.st s f g)
    · split
      · exact h.ge (GE.cv s _)
      · split
        · exact h.ge (GE.bl s f g)
        · exact GI.go hI h f
theorem GI.pf {s : Nat → Int} (hI : Inv 99999 s) (h : GI s) (tx : Nat → Int) (ln : Int) (j : Nat) : GI (pfS s tx ln j) := by
  induction j with
  | zero => exact h
  | succ j ih => exact GI.dt (hI.pf tx ln j) ih _ _ _
theorem if_mi {s : Nat → Int} (hI : Inv 99999 s) (h : GI s) (m c : Int) : ifR s m c = miR s m c := by
  unfold ifR miR
  by_cases q : 1 ≤ m ∧ m ≤ 300 ∧ 0 ≤ c ∧ c ≤ 2
  · rw [if_pos q, if_pos q, (GI.ts hI h m.toNat (by omega)).1, h.1]
  · rw [if_neg q, if_neg q]
