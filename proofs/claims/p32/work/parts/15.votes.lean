/-! votes, as functions of the state's row: weights in 64ths -/
theorem upN_eq {f : Nat → Nat} {k v : Nat} : upN f k v k = v := if_pos rfl
theorem upN_ne {f : Nat → Nat} {k v j : Nat} (h : j ≠ k) : upN f k v j = f j := if_neg h
def cmpI (a b : Nat) : Int := if a < b then -1 else if a = b then 0 else 1
theorem cmpI_spec (a b : Nat) : (cmpI a b = -1 ∧ a < b) ∨ (cmpI a b = 0 ∧ a = b) ∨ (cmpI a b = 1 ∧ b < a) := by
  unfold cmpI
  split
  · exact Or.inl ⟨rfl, by assumption⟩
  · split
    · exact Or.inr (Or.inl ⟨rfl, by assumption⟩)
    · exact Or.inr (Or.inr ⟨rfl, by omega⟩)
theorem fB_cmpI {a b : Nat} {op : CmpOp} (ha : a < 2 ^ 24) (hb : b < 2 ^ 24) : Op.cmpValue (FP.fcmp (fB a) (fB b)) op = jI (cmpI a b) := by
  rw [fB_cmp ha hb]
  rcases cmpI_spec a b with ⟨h1, h2⟩ | ⟨h1, h2⟩ | ⟨h1, h2⟩
  · rw [h1, (FP.Core.compare_lt_iff _ _).mpr (by omega)]; first | rfl | (cases op <;> rfl)
  · rw [h1, (FP.Core.compare_eq_iff _ _).mpr (by omega)]; first | rfl | (cases op <;> rfl)
  · rw [h1, (FP.Core.compare_gt_iff _ _).mpr (by omega)]; first | rfl | (cases op <;> rfl)
theorem fB_cmpI0 {a : Nat} {op : CmpOp} (ha : a < 2 ^ 24) : Op.cmpValue (FP.fcmp (fB a) FP.fconst0) op = jI (cmpI a 0) := by
  rw [fB_0]
  exact fB_cmpI ha (by decide)
/-- the lobby of scarecrow k for way w -/
def lobN (s : Nat → Int) (k w : Nat) : Nat := (s (ix k (5 + w))).toNat * (s 1).toNat
/-- what scarecrow k adds to way w in field f -/
def wa (s : Nat → Int) (lb : Bool) (f : Int) (w k : Nat) : Nat := if s (ix k 0) = f then (if s (ix k 3) = w then (s (ix k 4)).toNat * (s (ix k 1)).toNat else 0) + (if lb = true then 4 * lobN s k w else 0) else 0
def wtN (s : Nat → Int) (lb : Bool) (f : Int) (w : Nat) : Nat → Nat
  | 0 => 0
  | k + 1 => wtN s lb f w k + wa s lb f w k
def wF (s : Nat → Int) (lb : Bool) (f : Int) (k : Nat) : Nat → Nat := fun w => wtN s lb f w k
def grN (W : Nat → Nat) : Nat → Nat
  | 0 => 0
  | k + 1 => if grN W k < W k then W k else grN W k
abbrev bfr (s : Nat → Int) (a b : Nat) : Prop := s (ix b 1) < s (ix a 1) ∨ (s (ix a 1) = s (ix b 1) ∧ s (ix b 4) < s (ix a 4))
def spN (s : Nat → Int) (f : Int) : Nat → Int
  | 0 => -5
  | k + 1 => if s (ix k 0) = f ∧ (spN s f k < 0 ∨ bfr s k (spN s f k).toNat) then (k : Int) else spN s f k
def loW (W : Nat → Nat) (g : Nat) : Int := if W 0 = g then 0 else if W 1 = g then 1 else if W 2 = g then 2 else if W 3 = g then 3 else -5
def hmW (W : Nat → Nat) (g : Nat) : Int := (if W 0 = g then 1 else 0) + (if W 1 = g then 1 else 0) + (if W 2 = g then 1 else 0) + (if W 3 = g then 1 else 0)
def vtR (s : Nat → Int) (lb : Bool) (f : Int) : Int :=
  if spN s f (s 10).toNat < 0 then -5 else if grN (wF s lb f (s 10).toNat) 4 = 0 then -5 else
    if wF s lb f (s 10).toNat (s (ix (spN s f (s 10).toNat).toNat 3)).toNat = grN (wF s lb f (s 10).toNat) 4 then s (ix (spN s f (s 10).toNat).toNat 3) else loW (wF s lb f (s 10).toNat) (grN (wF s lb f (s 10).toNat) 4)
def rsR (s : Nat → Int) (lb : Bool) (f : Int) : Int :=
  if spN s f (s 10).toNat < 0 then 3 else if grN (wF s lb f (s 10).toNat) 4 = 0 then 4 else
    if hmW (wF s lb f (s 10).toNat) (grN (wF s lb f (s 10).toNat) 4) = 1 then 0 else if wF s lb f (s 10).toNat (s (ix (spN s f (s 10).toNat).toNat 3)).toNat = grN (wF s lb f (s 10).toNat) 4 then 1 else 2
def pvF (s : Nat → Int) (lb : Bool) : Nat → Int := fun f => vtR s lb (f : Int)
def hsN (s vf : Nat → Int) (w : Int) : Nat → Int
  | 0 => 0
  | k + 1 => if vf k = w then hsN s vf w k + s (11 + k) else hsN s vf w k
def allS (s : Nat → Int) : Int := sumK (fun k => s (11 + k)) 6
abbrev mjP (s vf : Nat → Int) (w : Int) : Prop := allS s < 2 * hsN s vf w 6
def bsR (s vf : Nat → Int) : Int := if mjP s vf 0 then 0 else if mjP s vf 1 then 1 else if mjP s vf 2 then 2 else if mjP s vf 3 then 3 else -5
def lbW (s vf : Nat → Int) : Nat → Int × Int
  | 0 => (-5, 0)
  | k + 1 =>
    let l := if 0 ≤ vf k ∧ vf k ≤ 3 then (if vf k = (lbW s vf k).1 then (lbW s vf k).2 + s (11 + k) else (lbW s vf k).2 - s (11 + k)) else (lbW s vf k).2
    if l < 0 then (vf k, -l) else ((lbW s vf k).1, l)
def dpR (s vf : Nat → Int) : Int := if 0 ≤ (lbW s vf 6).1 ∧ (lbW s vf 6).1 ≤ 3 ∧ mjP s vf (lbW s vf 6).1 then (lbW s vf 6).1 else -5
theorem grN_s (W : Nat → Nat) (k : Nat) : grN W (k + 1) = if grN W k < W k then W k else grN W k := rfl
theorem spN_s (s : Nat → Int) (f : Int) (k : Nat) : spN s f (k + 1) = if s (ix k 0) = f ∧ (spN s f k < 0 ∨ bfr s k (spN s f k).toNat) then (k : Int) else spN s f k := rfl
theorem hsN_s (s vf : Nat → Int) (w : Int) (k : Nat) : hsN s vf w (k + 1) = if vf k = w then hsN s vf w k + s (11 + k) else hsN s vf w k := rfl
def vtW (s : Nat → Int) (lb : Bool) (f : Int) (W : Nat → Nat) : Nat → Nat := if spN s f (s 10).toNat < 0 then W else wF s lb f (s 10).toNat
def plW (s : Nat → Int) (lb : Bool) (W : Nat → Nat) : Nat → (Nat → Nat)
  | 0 => W
  | k + 1 => vtW s lb (k : Int) (plW s lb W k)
theorem wF_0 (s : Nat → Int) (lb : Bool) (f : Int) (W : Nat → Nat) (j : Nat) (hj : j < 4) : bW (upN (upN (upN (upN W 0 0) 1 0) 2 0) 3 0) j = bW (wF s lb f 0) j := by
  rcases (by omega : j = 0 ∨ j = 1 ∨ j = 2 ∨ j = 3) with rfl | rfl | rfl | rfl <;> rfl
theorem wF_skip {s : Nat → Int} {lb : Bool} {f : Int} {k : Nat} (h : ¬ s (ix k 0) = f) (j : Nat) : bW (wF s lb f k) j = bW (wF s lb f (k + 1)) j := by
  show fB (wtN s lb f j k) = fB (wtN s lb f j k + wa s lb f j k)
  unfold wa
  rw [if_neg h]
  rfl
theorem wF_q {s : Nat → Int} {f : Int} {k y v : Nat} {lb : Bool} (hl : ¬ lb = true) (h : s (ix k 0) = f) (hy : s (ix k 3) = (y : Int)) (hv : v = wF s lb f k y + (s (ix k 4)).toNat * (s (ix k 1)).toNat) (j : Nat) (hj : j < 4) : bW (upN (wF s lb f k) y v) j = bW (wF s lb f (k + 1)) j := by
  subst hv
  refine congrArg fB ?_
  show _ = wtN s lb f j k + wa s lb f j k
  unfold wa upN
  rw [if_pos h, if_neg hl, hy]
  by_cases q : j = y
  · subst q
    rw [if_pos rfl, if_pos rfl]
    rfl
  · rw [if_neg q, if_neg (by omega)]
    rfl
theorem wF_l {s : Nat → Int} {f : Int} {k y v : Nat} {lb : Bool} (hl : lb = true) (h : s (ix k 0) = f) (hy : s (ix k 3) = (y : Int)) (hv : v = wF s lb f k y + (s (ix k 4)).toNat * (s (ix k 1)).toNat) {a0 a1 a2 a3 : Nat} (h0 : a0 = upN (wF s lb f k) y v 0 + 4 * lobN s k 0) (h1 : a1 = upN (wF s lb f k) y v 1 + 4 * lobN s k 1) (h2 : a2 = upN (wF s lb f k) y v 2 + 4 * lobN s k 2) (h3 : a3 = upN (wF s lb f k) y v 3 + 4 * lobN s k 3) (j : Nat) (hj : j < 4) :
    bW (upN (upN (upN (upN (upN (wF s lb f k) y v) 0 a0) 1 a1) 2 a2) 3 a3) j = bW (wF s lb f (k + 1)) j := by
  have key : ∀ j, upN (wF s lb f k) y v j + 4 * lobN s k j = wF s lb f (k + 1) j := by
    intro j
    show _ = wtN s lb f j k + wa s lb f j k
    unfold wa
    rw [if_pos h, if_pos hl, hy]
    unfold upN
    by_cases q : j = y
    · subst q
      rw [if_pos rfl, if_pos rfl, hv]
      show wtN s lb f j k + _ + _ = _
      omega
    · rw [if_neg q, if_neg (by omega)]
      show wtN s lb f j k + _ = _
      omega
  refine congrArg fB ?_
  rcases (by omega : j = 0 ∨ j = 1 ∨ j = 2 ∨ j = 3) with rfl | rfl | rfl | rfl
  · exact h0.trans (key 0)
  · exact h1.trans (key 1)
  · exact h2.trans (key 2)
  · exact h3.trans (key 3)
theorem pv_fn (s : Nat → Int) (lb : Bool) (vf : Nat → Int) (j : Nat) (hj : j < 6) : mI (up (up (up (up (up (up vf 0 (vtR s lb 0)) 1 (vtR s lb 1)) 2 (vtR s lb 2)) 3 (vtR s lb 3)) 4 (vtR s lb 4)) 5 (vtR s lb 5)) j = mI (pvF s lb) j := by
  rcases (by omega : j = 0 ∨ j = 1 ∨ j = 2 ∨ j = 3 ∨ j = 4 ∨ j = 5) with rfl | rfl | rfl | rfl | rfl | rfl <;> rfl
theorem lbW_s (s vf : Nat → Int) (k : Nat) : lbW s vf (k + 1) = (let l := if 0 ≤ vf k ∧ vf k ≤ 3 then (if vf k = (lbW s vf k).1 then (lbW s vf k).2 + s (11 + k) else (lbW s vf k).2 - s (11 + k)) else (lbW s vf k).2; if l < 0 then (vf k, -l) else ((lbW s vf k).1, l)) := rfl
theorem hmW_b (W : Nat → Nat) (g : Nat) : 0 ≤ hmW W g ∧ hmW W g ≤ 4 := by
  unfold hmW
  repeat' split
  all_goals omega
theorem wa_b {t : Int} {s : Nat → Int} (h : Inv t s) (lb : Bool) (f : Int) (w k : Nat) (hw : w < 4) (hk : k < 12) : wa s lb f w k ≤ 608 ∧ lobN s k w ≤ 72 ∧ (s (ix k 4)).toNat * (s (ix k 1)).toNat ≤ 320 := by
  have h1 := h.sc k hk
  have hb := h.base
  have h2 := h.cr k w hk hw
  have e1 : (s (ix k 4)).toNat * (s (ix k 1)).toNat ≤ 64 * 5 := Nat.mul_le_mul (by omega) (by omega)
  have e2 : lobN s k w ≤ 9 * 8 := Nat.mul_le_mul (by omega) (by omega)
  unfold wa
  refine ⟨?_, by omega, by omega⟩
  repeat' split
  all_goals omega
theorem wtN_b {t : Int} {s : Nat → Int} (h : Inv t s) (lb : Bool) (f : Int) (w k : Nat) (hw : w < 4) (hk : k ≤ 12) : wtN s lb f w k ≤ 608 * k := by
  induction k with
  | zero => exact Nat.le_refl _
  | succ k ih =>
    have h1 := ih (by omega)
    have h2 := (wa_b h lb f w k hw (by omega)).1
    show wtN s lb f w k + wa s lb f w k ≤ _
    omega
theorem wF_b {t : Int} {s : Nat → Int} (h : Inv t s) (lb : Bool) (f : Int) (k : Nat) (hk : k ≤ 12) : ∀ w, w < 4 → wF s lb f k w ≤ 7296 := fun w hw => by
  have := wtN_b h lb f w k hw hk
  show wtN s lb f w k ≤ 7296
  omega
theorem grN_b {W : Nat → Nat} {B : Nat} (h : ∀ w, w < 4 → W w ≤ B) : ∀ k, k ≤ 4 → grN W k ≤ B := by
  intro k hk
  induction k with
  | zero => exact Nat.zero_le _
  | succ k ih =>
    have h1 := ih (by omega)
    have h2 := h k (by omega)
    unfold grN
    split <;> omega
theorem spN_b (s : Nat → Int) (f : Int) (k : Nat) : (spN s f k = -5) ∨ (0 ≤ spN s f k ∧ spN s f k < k) := by
  induction k with
  | zero => exact Or.inl rfl
  | succ k ih =>
    unfold spN
    split
    · right; omega
    · rcases ih with h | h
      · exact Or.inl h
      · right; omega
theorem loW_b (W : Nat → Nat) (g : Nat) : loW W g = -5 ∨ (0 ≤ loW W g ∧ loW W g ≤ 3) := by
  unfold loW
  repeat' split
  all_goals omega
theorem vtR_b {t : Int} {s : Nat → Int} (h : Inv t s) (lb : Bool) (f : Int) : vtR s lb f = -5 ∨ (0 ≤ vtR s lb f ∧ vtR s lb f ≤ 3) := by
  have hb := h.base
  have h1 := spN_b s f (s 10).toNat
  unfold vtR
  split
  · exact Or.inl rfl
  · have h2 := h.sc (spN s f (s 10).toNat).toNat (by omega)
    split
    · exact Or.inl rfl
    · split
      · right; omega
      · exact loW_b _ _
theorem hsN_b {t : Int} {s : Nat → Int} (h : Inv t s) (vf : Nat → Int) (w : Int) (k : Nat) (hk : k ≤ 6) : 0 ≤ hsN s vf w k ∧ hsN s vf w k ≤ 9 * k := by
  induction k with
  | zero => exact ⟨Int.le_refl _, Int.le_refl _⟩
  | succ k ih =>
    have h1 := ih (by omega)
    have h2 := h.se k (by omega)
    unfold hsN
    split <;> omega
theorem sumS_b {t : Int} {s : Nat → Int} (h : Inv t s) (k : Nat) (hk : k ≤ 6) : (k : Int) ≤ sumK (fun k => s (11 + k)) k ∧ sumK (fun k => s (11 + k)) k ≤ 9 * k := by
  induction k with
  | zero => exact ⟨Int.le_refl _, Int.le_refl _⟩
  | succ k ih =>
    have h1 := ih (by omega)
    have h2 := h.se k (by omega)
    show _ ≤ sumK (fun k => s (11 + k)) k + s (11 + k) ∧ sumK (fun k => s (11 + k)) k + s (11 + k) ≤ _
    omega
theorem allS_b {t : Int} {s : Nat → Int} (h : Inv t s) : 6 ≤ allS s ∧ allS s ≤ 54 := by
  have h1 := sumS_b h 6 (by decide)
  unfold allS
  omega
theorem lbW_b {t : Int} {s : Nat → Int} (h : Inv t s) (vf : Nat → Int) (hv : ∀ f, f < 6 → vf f = -5 ∨ (0 ≤ vf f ∧ vf f ≤ 3)) (k : Nat) (hk : k ≤ 6) : ((lbW s vf k).1 = -5 ∨ (0 ≤ (lbW s vf k).1 ∧ (lbW s vf k).1 ≤ 3)) ∧ 0 ≤ (lbW s vf k).2 ∧ (lbW s vf k).2 ≤ 9 * k := by
  induction k with
  | zero => exact ⟨Or.inl rfl, Int.le_refl _, Int.le_refl _⟩
  | succ k ih =>
    obtain ⟨h1, h2, h3⟩ := ih (by omega)
    have h4 := h.se k (by omega)
    have h5 := hv k (by omega)
    unfold lbW
    simp only []
    (repeat' split) <;> simp only [] <;> omega
theorem V.fnf {X : vX} {l : Launch} {G : vC} {y : MethodName} {cc : ByteArray} {R : Room} {nL k n pc : Nat} {w : va_W} {lv : List (Nat × Value)} {st : List Value} (hX : VS X l G y cc R nL) (q : Nat) {a m : Nat} {cA : ClassId} {f g : Nat → UInt32} (he : w[q]? = some (a, .inl (cA, m, .inr (.inr (.inl f))))) (hfg : ∀ j, j < m → f j = g j) {w' : va_W} (hw : w.set q (a, .inl (cA, m, .inr (.inr (.inl g)))) = w') (kk : V X k n w' lv pc st) : V X k n w lv pc st := by
  subst hw
  obtain ⟨p0, e0, s0, m0, args0, below0, meth0, c0, A0, Q0, rfl, hx, hb, hml, hown, hK, hA, hlocks, hnm⟩ := hX
  intro H locs ls hP hD hS hl
  have hc := hP q _ he
  have e : vp_cell cA (m, .inr (.inr (.inl f))) = vp_cell cA (m, .inr (.inr (.inl g))) := by
    unfold vp_cell arrV
    first
      | (simp only []; congr 1; apply Array.ext' ; simp; intro j hj; exact hfg j hj)
      | (congr 1; ext j h1 h2 <;> simp_all)
      | (simp [hfg]; done)
  refine kk H locs ls (hP.set hD he ?_ (fun _ _ => rfl)) (hD.set he) hS hl
  show H[a]? = some (vp_cell cA (m, .inr (.inr (.inl g))))
  rw [← e]
  exact hc
