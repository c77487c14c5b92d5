/-! the law's own way to weigh, to find the speaker, to count votes; that it is the class's -/
def loN (v : Int32) : Int := (v &&& jI 2147483647).toInt
theorem loN_j (v : Int32) : v &&& jI 2147483647 = jI (loN v) := (jI_as _).symm
theorem loN_b (v : Int32) : 0 ≤ loN v ∧ loN v ≤ 2147483647 := by
  have h2 := jI_rng (v &&& jI 2147483647)
  refine ⟨?_, h2.2⟩
  unfold loN
  have e : (v &&& jI 2147483647).toBitVec.toNat < 2147483648 := by
    rw [Int32.toBitVec_and, BitVec.toNat_and]
    have : (jI 2147483647).toBitVec.toNat = 2 ^ 31 - 1 := by decide
    rw [this, Nat.and_two_pow_sub_one_eq_mod]
    exact Nat.mod_lt _ (by decide)
  show 0 ≤ (v &&& jI 2147483647).toBitVec.toInt
  rw [BitVec.toInt_eq_toNat_cond]
  split <;> omega
def byI (s : Nat → Int) (lb : Bool) : Int := if lb = true then s 1 else 0
theorem byI_b {t : Int} {s : Nat → Int} (h : Inv t s) (lb : Bool) : 0 ≤ byI s lb ∧ byI s lb ≤ 8 := by
  have hb := h.base
  unfold byI
  split <;> omega
theorem wt_law {t : Int} {s : Nat → Int} (h : Inv t s) {lb : Bool} {f e : Int} {w k : Nat} (he : e = byI s lb) (hw : w < 4) (hk : k < 12) (hf : s (ix k 0) = f) :
    wtN s lb f w (k + 1) = wtN s lb f w k + (if s (ix k 3) = w then (s (ix k 4)).toNat * (s (ix k 1)).toNat else 0) + 4 * ((s (ix k (5 + w))).toNat * e.toNat) := by
  have e0 : wtN s lb f w (k + 1) = wtN s lb f w k + wa s lb f w k := rfl
  rw [e0]
  unfold wa
  rw [if_pos hf, Nat.add_assoc]
  congr 2
  subst he
  unfold byI lobN
  split
  · rfl
  · show 0 = 4 * ((s (ix k (5 + w))).toNat * 0)
    rw [Nat.mul_zero]
theorem wt_law0 {s : Nat → Int} {lb : Bool} {f : Int} {w k : Nat} (hf : ¬ s (ix k 0) = f) : wtN s lb f w (k + 1) = wtN s lb f w k := by
  show wtN s lb f w k + wa s lb f w k = _
  unfold wa
  rw [if_neg hf]
  rfl
theorem lob_law {t : Int} {s : Nat → Int} (h : Inv t s) {lb : Bool} {e : Int} {w k : Nat} (he : e = byI s lb) (hw : w < 4) (hk : k < 12) :
    s (ix k (5 + w)) * e = (((s (ix k (5 + w))).toNat * e.toNat : Nat) : Int) ∧ (s (ix k (5 + w))).toNat * e.toNat ≤ 72 := by
  have h1 := h.cr k w hk hw
  have h2 := byI_b h lb
  rw [← he] at h2
  constructor
  · rw [Int.natCast_mul, Int.toNat_of_nonneg (by omega), Int.toNat_of_nonneg (by omega)]
  · exact Nat.mul_le_mul (show (s (ix k (5 + w))).toNat ≤ 9 by omega) (show e.toNat ≤ 8 by omega)
/-- who speaks, sought from the last one -/
def fin (s : Nat → Int) (f : Int) : Nat → Int → Int
  | 0, b => b
  | i + 1, b => fin s f i (if s (ix i 0) = f ∧ (b < 0 ∨ 100 * s (ix b.toNat 1) + s (ix b.toNat 4) ≤ 100 * s (ix i 1) + s (ix i 4)) then (i : Int) else b)
theorem fin_s (s : Nat → Int) (f : Int) (i : Nat) (b : Int) : fin s f (i + 1) b = fin s f i (if s (ix i 0) = f ∧ (b < 0 ∨ 100 * s (ix b.toNat 1) + s (ix b.toNat 4) ≤ 100 * s (ix i 1) + s (ix i 4)) then (i : Int) else b) := rfl
def kyK (s : Nat → Int) (j : Nat) : Int := 100 * s (ix j 1) + s (ix j 4)
def cmbF (K : Nat → Int) (P b : Int) : Int := if P < 0 then b else if b < 0 ∨ K b.toNat ≤ K P.toNat then P else b
theorem cmb_step (K : Nat → Int) (m : Prop) [Decidable m] (P b : Int) (i : Nat) : cmbF K P (if m ∧ (b < 0 ∨ K b.toNat ≤ K i) then (i : Int) else b) = cmbF K (if m ∧ (P < 0 ∨ K P.toNat < K i) then (i : Int) else P) b := by
  by_cases c1 : m
  · by_cases c2 : b < 0 ∨ K b.toNat ≤ K i
    · rw [if_pos (show m ∧ (b < 0 ∨ K b.toNat ≤ K i) from ⟨c1, c2⟩)]
      by_cases c3 : P < 0 ∨ K P.toNat < K i
      · rw [if_pos (show m ∧ (P < 0 ∨ K P.toNat < K i) from ⟨c1, c3⟩)]
        unfold cmbF
        simp only [Int.toNat_natCast]
        (repeat' split) <;> omega
      · rw [if_neg (show ¬ (m ∧ (P < 0 ∨ K P.toNat < K i)) from fun q => c3 q.2)]
        unfold cmbF
        simp only [Int.toNat_natCast]
        (repeat' split) <;> omega
    · rw [if_neg (show ¬ (m ∧ (b < 0 ∨ K b.toNat ≤ K i)) from fun q => c2 q.2)]
      by_cases c3 : P < 0 ∨ K P.toNat < K i
      · rw [if_pos (show m ∧ (P < 0 ∨ K P.toNat < K i) from ⟨c1, c3⟩)]
        unfold cmbF
        simp only [Int.toNat_natCast]
        (repeat' split) <;> omega
      · rw [if_neg (show ¬ (m ∧ (P < 0 ∨ K P.toNat < K i)) from fun q => c3 q.2)]
  · rw [if_neg (show ¬ (m ∧ (b < 0 ∨ K b.toNat ≤ K i)) from fun q => c1 q.1), if_neg (show ¬ (m ∧ (P < 0 ∨ K P.toNat < K i)) from fun q => c1 q.1)]
theorem fin_c {t : Int} {s : Nat → Int} (h : Inv t s) (f : Int) : ∀ i, i ≤ 12 → ∀ b : Int, fin s f i b = cmbF (kyK s) (spN s f i) b := by
  intro i
  induction i with
  | zero => intro _ b; unfold cmbF; rw [if_pos (show spN s f 0 < 0 by show (-5 : Int) < 0; decide)]; rfl
  | succ i ih =>
    intro hi b
    have hpb := spN_b s f i
    have hi1 := h.sc i (by omega)
    have hp1 := h.sc (spN s f i).toNat (by omega)
    have e : spN s f (i + 1) = if s (ix i 0) = f ∧ (spN s f i < 0 ∨ kyK s (spN s f i).toNat < kyK s i) then (i : Int) else spN s f i := by
      rw [spN_s]
      have q : (s (ix i 0) = f ∧ (spN s f i < 0 ∨ bfr s i (spN s f i).toNat)) ↔ (s (ix i 0) = f ∧ (spN s f i < 0 ∨ kyK s (spN s f i).toNat < kyK s i)) := by
        unfold bfr kyK
        omega
      by_cases c : s (ix i 0) = f ∧ (spN s f i < 0 ∨ bfr s i (spN s f i).toNat)
      · rw [if_pos c, if_pos (q.mp c)]
      · rw [if_neg c, if_neg (fun z => c (q.mpr z))]
    rw [fin_s, ih (by omega), e]
    exact cmb_step (kyK s) (s (ix i 0) = f) (spN s f i) b i
theorem fin_sp {t : Int} {s : Nat → Int} (h : Inv t s) (f : Int) (n : Nat) (hn : n ≤ 12) : fin s f n (-5) = spN s f n := by
  rw [fin_c h f n hn (-5)]
  have := spN_b s f n
  unfold cmbF
  split
  · omega
  · rw [if_pos (Or.inl (by decide))]
/-- the greatest weight, how many have it and the lowest way, sought from the last way -/
def mwM (W : Nat → Nat) : Nat → Nat
  | 0 => 0
  | j + 1 => if mwM W j < W (3 - j) then W (3 - j) else mwM W j
def mwC (W : Nat → Nat) : Nat → Int
  | 0 => 0
  | j + 1 => if mwM W j < W (3 - j) then 1 else if W (3 - j) = mwM W j then mwC W j + 1 else mwC W j
def mwY (W : Nat → Nat) : Nat → Int
  | 0 => -5
  | j + 1 => if mwM W j ≤ W (3 - j) then 3 - (j : Int) else mwY W j
theorem mwM_s (W : Nat → Nat) (j : Nat) : mwM W (j + 1) = if mwM W j < W (3 - j) then W (3 - j) else mwM W j := rfl
theorem mwC_s (W : Nat → Nat) (j : Nat) : mwC W (j + 1) = if mwM W j < W (3 - j) then 1 else if W (3 - j) = mwM W j then mwC W j + 1 else mwC W j := rfl
theorem mwY_s (W : Nat → Nat) (j : Nat) : mwY W (j + 1) = if mwM W j ≤ W (3 - j) then 3 - (j : Int) else mwY W j := rfl
theorem mwC_b (W : Nat → Nat) : ∀ j, 0 ≤ mwC W j ∧ mwC W j ≤ j := by
  intro j
  induction j with
  | zero => exact ⟨Int.le_refl _, Int.le_refl _⟩
  | succ j ih => rw [mwC_s]; (repeat' split) <;> omega
theorem mwY_b (W : Nat → Nat) : ∀ j, j ≤ 4 → mwY W j = -5 ∨ (0 ≤ mwY W j ∧ mwY W j ≤ 3) := by
  intro j
  induction j with
  | zero => intro _; exact Or.inl rfl
  | succ j ih => intro hj; have := ih (by omega); rw [mwY_s]; split <;> omega
def cnW (W : Nat → Nat) (g : Nat) : Nat → Int
  | 0 => 0
  | j + 1 => cnW W g j + (if W (3 - j) = g then 1 else 0)
def lwW (W : Nat → Nat) (g : Nat) : Nat → Int
  | 0 => -5
  | j + 1 => if W (3 - j) = g then 3 - (j : Int) else lwW W g j
theorem cnW_0 (W : Nat → Nat) (g : Nat) : ∀ j, (∀ i, i < j → W (3 - i) < g) → cnW W g j = 0 := by
  intro j
  induction j with
  | zero => intro _; rfl
  | succ j ih =>
    intro h
    have h1 := h j (by omega)
    show cnW W g j + (if W (3 - j) = g then 1 else 0) = 0
    rw [ih (fun i hi => h i (by omega)), if_neg (by omega)]
    rfl
theorem mw_inv (W : Nat → Nat) : ∀ j, (∀ i, i < j → W (3 - i) ≤ mwM W j) ∧ mwC W j = cnW W (mwM W j) j ∧ mwY W j = lwW W (mwM W j) j := by
  intro j
  induction j with
  | zero => exact ⟨fun i hi => absurd hi (Nat.not_lt_zero i), rfl, rfl⟩
  | succ j ih =>
    obtain ⟨h1, h2, h3⟩ := ih
    have ec : ∀ g, cnW W g (j + 1) = cnW W g j + (if W (3 - j) = g then 1 else 0) := fun _ => rfl
    have el : ∀ g, lwW W g (j + 1) = if W (3 - j) = g then 3 - (j : Int) else lwW W g j := fun _ => rfl
    rw [mwM_s, mwC_s, mwY_s]
    by_cases c1 : mwM W j < W (3 - j)
    · rw [if_pos c1, if_pos c1, if_pos (by omega), ec, el, if_pos rfl, if_pos rfl, cnW_0 W _ j (fun i hi => by have := h1 i hi; omega)]
      refine ⟨fun i hi => ?_, by omega, rfl⟩
      by_cases c2 : i = j
      · subst c2; exact Nat.le_refl _
      · have := h1 i (by omega); omega
    · rw [if_neg c1, if_neg c1, ec, el]
      refine ⟨fun i hi => ?_, ?_, ?_⟩
      · by_cases c2 : i = j
        · subst c2; omega
        · exact h1 i (by omega)
      · by_cases c2 : W (3 - j) = mwM W j
        · rw [if_pos c2, if_pos c2, h2]
        · rw [if_neg c2, if_neg c2, h2]; omega
      · by_cases c2 : W (3 - j) = mwM W j
        · rw [if_pos (by omega), if_pos c2]
        · rw [if_neg (by omega), if_neg c2, h3]
theorem mx_gr (W : Nat → Nat) : mwM W 4 = grN W 4 := by
  have e1 : mwM W 1 = if 0 < W 3 then W 3 else 0 := rfl
  have e2 : mwM W 2 = if mwM W 1 < W 2 then W 2 else mwM W 1 := rfl
  have e3 : mwM W 3 = if mwM W 2 < W 1 then W 1 else mwM W 2 := rfl
  have e4 : mwM W 4 = if mwM W 3 < W 0 then W 0 else mwM W 3 := rfl
  have g1 : grN W 1 = if 0 < W 0 then W 0 else 0 := rfl
  have g2 : grN W 2 = if grN W 1 < W 1 then W 1 else grN W 1 := rfl
  have g3 : grN W 3 = if grN W 2 < W 2 then W 2 else grN W 2 := rfl
  have g4 : grN W 4 = if grN W 3 < W 3 then W 3 else grN W 3 := rfl
  generalize W 0 = A at *
  generalize W 1 = B at *
  generalize W 2 = C at *
  generalize W 3 = D at *
  split at e1 <;> split at g1 <;> split at e2 <;> split at g2 <;> split at e3 <;> split at g3 <;> split at e4 <;> split at g4 <;> omega
theorem mw_tie (W : Nat → Nat) : mwM W 4 = grN W 4 ∧ (mwM W 4 ≠ 0 → mwC W 4 = hmW W (grN W 4) ∧ mwY W 4 = loW W (grN W 4)) := by
  have h := mw_inv W 4
  rw [mx_gr] at h ⊢
  refine ⟨rfl, fun _ => ⟨?_, ?_⟩⟩
  · rw [h.2.1]
    show 0 + (if W 3 = grN W 4 then (1 : Int) else 0) + (if W 2 = grN W 4 then 1 else 0) + (if W 1 = grN W 4 then 1 else 0) + (if W 0 = grN W 4 then 1 else 0) = hmW W (grN W 4)
    unfold hmW
    omega
  · rw [h.2.2]
    show (if W 0 = grN W 4 then 3 - ((3 : Nat) : Int) else if W 1 = grN W 4 then 3 - ((2 : Nat) : Int) else if W 2 = grN W 4 then 3 - ((1 : Nat) : Int) else if W 3 = grN W 4 then 3 - ((0 : Nat) : Int) else -5) = loW W (grN W 4)
    unfold loW
    (repeat' split) <;> omega
def vR (s : Nat → Int) (lb : Bool) (f : Int) : Int :=
  if spN s f (s 10).toNat < 0 then 25 else if grN (wF s lb f (s 10).toNat) 4 = 0 then 35 else
    if hmW (wF s lb f (s 10).toNat) (grN (wF s lb f (s 10).toNat) 4) = 1 then loW (wF s lb f (s 10).toNat) (grN (wF s lb f (s 10).toNat) 4) else
      if wF s lb f (s 10).toNat (s (ix (spN s f (s 10).toNat).toNat 3)).toNat = grN (wF s lb f (s 10).toNat) 4 then 10 + s (ix (spN s f (s 10).toNat).toNat 3) else 20 + loW (wF s lb f (s 10).toNat) (grN (wF s lb f (s 10).toNat) 4)
theorem gr_at (W : Nat → Nat) : grN W 4 = 0 ∨ W 0 = grN W 4 ∨ W 1 = grN W 4 ∨ W 2 = grN W 4 ∨ W 3 = grN W 4 := by
  have g1 : grN W 1 = if 0 < W 0 then W 0 else 0 := rfl
  have g2 : grN W 2 = if grN W 1 < W 1 then W 1 else grN W 1 := rfl
  have g3 : grN W 3 = if grN W 2 < W 2 then W 2 else grN W 2 := rfl
  have g4 : grN W 4 = if grN W 3 < W 3 then W 3 else grN W 3 := rfl
  split at g1 <;> split at g2 <;> split at g3 <;> split at g4 <;> omega
theorem lo_at (W : Nat → Nat) (h : grN W 4 ≠ 0) : 0 ≤ loW W (grN W 4) ∧ loW W (grN W 4) ≤ 3 := by
  have h2 := gr_at W
  unfold loW
  (repeat' split) <;> omega
theorem hm_lo {W : Nat → Nat} {g w : Nat} (h : hmW W g = 1) (hw : w < 4) (e : W w = g) : loW W g = w := by
  unfold hmW at h
  unfold loW
  rcases (by omega : w = 0 ∨ w = 1 ∨ w = 2 ∨ w = 3) with rfl | rfl | rfl | rfl <;>
    ((repeat' split at h) <;> (repeat' split) <;> omega)
def wyI (v : Int) : Int := if v = 25 ∨ v = 35 then -5 else v % 10
theorem vR_b {t : Int} {s : Nat → Int} (h : Inv t s) (lb : Bool) (f : Int) : 0 ≤ vR s lb f ∧ vR s lb f ≤ 35 := by
  have hb := h.base
  have hpb := spN_b s f (s 10).toNat
  unfold vR
  split
  · omega
  · split
    · omega
    · have h1 := h.sc (spN s f (s 10).toNat).toNat (by omega)
      have h2 := lo_at (wF s lb f (s 10).toNat) (by assumption)
      (repeat' split) <;> omega
theorem wy_vR {t : Int} {s : Nat → Int} (h : Inv t s) (lb : Bool) (f : Int) : wyI (vR s lb f) = vtR s lb f := by
  have hb := h.base
  have hpb := spN_b s f (s 10).toNat
  unfold vR vtR
  split
  · rfl
  · split
    · rfl
    · have h1 := h.sc (spN s f (s 10).toNat).toNat (by omega)
      have h2 := lo_at (wF s lb f (s 10).toNat) (by assumption)
      unfold wyI
      split
      · rename_i hm
        rw [if_neg (by omega)]
        split
        · rename_i he
          have h3 := hm_lo hm (by omega) he
          omega
        · omega
      · split
        · rw [if_neg (by omega)]
          omega
        · rw [if_neg (by omega)]
          omega
theorem rs_vR {t : Int} {s : Nat → Int} (h : Inv t s) (lb : Bool) (f : Int) : (if vR s lb f = 25 then 3 else if vR s lb f = 35 then 4 else vR s lb f / 10) = rsR s lb f := by
  have hb := h.base
  have hpb := spN_b s f (s 10).toNat
  unfold vR rsR
  split
  · rfl
  · split
    · rfl
    · have h1 := h.sc (spN s f (s 10).toNat).toNat (by omega)
      have h2 := lo_at (wF s lb f (s 10).toNat) (by assumption)
      split
      · rw [if_neg (by omega), if_neg (by omega)]
        omega
      · split
        · rw [if_neg (by omega), if_neg (by omega)]
          omega
        · rw [if_neg (by omega), if_neg (by omega)]
          omega
/-- the last way with more than half -/
def dcN (s vf : Nat → Int) : Nat → Int
  | 0 => -5
  | j + 1 => if mjP s vf (j : Int) then (j : Int) else dcN s vf j
theorem dcN_s (s vf : Nat → Int) (j : Nat) : dcN s vf (j + 1) = if mjP s vf (j : Int) then (j : Int) else dcN s vf j := rfl
theorem dcN_b (s vf : Nat → Int) : ∀ j, j ≤ 4 → dcN s vf j = -5 ∨ (0 ≤ dcN s vf j ∧ dcN s vf j ≤ 3) := by
  intro j
  induction j with
  | zero => intro _; exact Or.inl rfl
  | succ j ih => intro hj; have := ih (by omega); rw [dcN_s]; split <;> omega
theorem hs_two {s vf : Nat → Int} (hs : ∀ f, f < 6 → 1 ≤ s (11 + f)) (a b : Int) (hab : a ≠ b) : ∀ k, k ≤ 6 → hsN s vf a k + hsN s vf b k ≤ sumK (fun j => s (11 + j)) k := by
  intro k
  induction k with
  | zero => intro _; exact Int.le_refl _
  | succ k ih =>
    intro hk
    have h1 := ih (by omega)
    have h2 := hs k (by omega)
    have e : sumK (fun j => s (11 + j)) (k + 1) = sumK (fun j => s (11 + j)) k + s (11 + k) := rfl
    rw [e, hsN_s, hsN_s]
    by_cases c1 : vf k = a
    · rw [if_pos c1, if_neg (by omega)]; omega
    · by_cases c2 : vf k = b
      · rw [if_neg c1, if_pos c2]; omega
      · rw [if_neg c1, if_neg c2]; omega
theorem mj_one {s vf : Nat → Int} (hs : ∀ f, f < 6 → 1 ≤ s (11 + f)) {a b : Int} (ha : mjP s vf a) (hb : mjP s vf b) : a = b := by
  by_cases q : a = b
  · exact q
  · have h1 := hs_two (vf := vf) hs a b q 6 (Nat.le_refl _)
    unfold mjP at ha hb
    unfold allS at ha hb
    omega
theorem dc_bs {t : Int} {s : Nat → Int} (h : Inv t s) (vf : Nat → Int) : dcN s vf 4 = bsR s vf := by
  have hs : ∀ f, f < 6 → 1 ≤ s (11 + f) := fun f hf => (h.se f hf).1
  have e1 : dcN s vf 1 = if mjP s vf 0 then 0 else -5 := rfl
  have e2 : dcN s vf 2 = if mjP s vf 1 then 1 else dcN s vf 1 := rfl
  have e3 : dcN s vf 3 = if mjP s vf 2 then 2 else dcN s vf 2 := rfl
  have e4 : dcN s vf 4 = if mjP s vf 3 then 3 else dcN s vf 3 := rfl
  have u : ∀ a b : Int, mjP s vf a → mjP s vf b → a = b := fun a b => mj_one hs
  rw [e4, e3, e2, e1]
  unfold bsR
  by_cases c0 : mjP s vf 0
  · rw [if_pos c0, if_pos c0, if_neg (fun q => by have := u _ _ c0 q; omega), if_neg (fun q => by have := u _ _ c0 q; omega), if_neg (fun q => by have := u _ _ c0 q; omega)]
  · rw [if_neg c0, if_neg c0]
    by_cases c1 : mjP s vf 1
    · rw [if_pos c1, if_pos c1, if_neg (fun q => by have := u _ _ c1 q; omega), if_neg (fun q => by have := u _ _ c1 q; omega)]
    · rw [if_neg c1, if_neg c1]
      by_cases c2 : mjP s vf 2
      · rw [if_pos c2, if_pos c2, if_neg (fun q => by have := u _ _ c2 q; omega)]
      · rw [if_neg c2, if_neg c2]
