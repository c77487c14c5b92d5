theorem fb_char {n : Nat} (h : n < 65536) : (nI n).toUInt32.toUInt16.toUInt32.toInt32 = nI n := by
  apply Int32.toBitVec_inj.1
  apply BitVec.eq_of_toNat_eq
  have e1 : (nI n).toBitVec.toNat = n := by
    show (BitVec.ofNat 32 n).toNat = n
    rw [BitVec.toNat_ofNat, Nat.mod_eq_of_lt (by omega)]
  have e2 : ((nI n).toUInt32.toUInt16.toUInt32).toNat = n := by
    rw [UInt16.toNat_toUInt32, UInt32.toNat_toUInt16]
    show (nI n).toBitVec.toNat % 2 ^ 16 = n
    rw [e1, Nat.mod_eq_of_lt (by omega)]
  rw [e1]
  exact e2

/-! helpers of the walks -/
theorem bI_t {c : Prop} [Decidable c] (h : c) : bI c = 1 := if_pos h
theorem bI_f {c : Prop} [Decidable c] (h : ¬ c) : bI c = 0 := if_neg h
theorem bI_c {c d : Prop} [Decidable c] [Decidable d] (h : c ↔ d) : bI c = bI d := by
  by_cases q : c
  · rw [bI_t q, bI_t (h.mp q)]
  · rw [bI_f q, bI_f (fun z => q (h.mpr z))]
theorem nb_bI (c : Prop) [Decidable c] : narrow .boolean (.int (jI (bI c))) = .int (jI (bI c)) := by unfold bI; split <;> rfl
theorem set_l {B B' r : va_W} {p : Nat} {x : Nat × va_E} (h : B.set p x = B') (hp : p < B.length) : (B ++ r).set p x = B' ++ r := by
  rw [List.set_append_left _ _ hp, h]
theorem set_r {B r r' : va_W} {q p : Nat} {x : Nat × va_E} (hq : q = B.length + p) (h : r.set p x = r') : (B ++ r).set q x = B ++ r' := by
  subst hq
  rw [List.set_append_right _ _ (Nat.le_add_right _ _), Nat.add_sub_cancel_left, h]
theorem lk_out {ps : List (Int × Int)} {dflt k : Int} (h : ∀ q ∈ ps, q.1 ≠ k) : Op.lookupswitch.offset ps dflt k = dflt := by
  exact Op.lookupswitch.offset_none (List.find?_eq_none.mpr (fun q hq => by simp [h q hq]))

theorem mB_w1 (G : vC) (m : Nat → Nat) (s sp hi sn tx : Nat → Int) (g3 g5 g7 g8 g9 g10 g11 g12 g13 : Int) (k : Nat) (v : Int) : (mB G m s sp hi sn tx g3 g5 g7 g8 g9 g10 g11 g12 g13).set 1 (m 1, .inl (G.2.1, 149, .inl (upd (mI s) k (jI v)))) = mB G m (up s k v) sp hi sn tx g3 g5 g7 g8 g9 g10 g11 g12 g13 := by
  unfold mB
  rw [← mI_upd]
  rfl

theorem mB_w2 (G : vC) (m : Nat → Nat) (s sp hi sn tx : Nat → Int) (g3 g5 g7 g8 g9 g10 g11 g12 g13 : Int) (k : Nat) (v : Int) : (mB G m s sp hi sn tx g3 g5 g7 g8 g9 g10 g11 g12 g13).set 2 (m 2, .inl (G.2.1, 149, .inl (upd (mI sp) k (jI v)))) = mB G m s (up sp k v) hi sn tx g3 g5 g7 g8 g9 g10 g11 g12 g13 := by
  unfold mB
  rw [← mI_upd]
  rfl

theorem mB_w3 (G : vC) (m : Nat → Nat) (s sp hi sn tx : Nat → Int) (g3 g5 g7 g8 g9 g10 g11 g12 g13 : Int) (k : Nat) (v : Int) : (mB G m s sp hi sn tx g3 g5 g7 g8 g9 g10 g11 g12 g13).set 3 (m 3, .inl (G.2.1, 596, .inl (upd (mI hi) k (jI v)))) = mB G m s sp (up hi k v) sn tx g3 g5 g7 g8 g9 g10 g11 g12 g13 := by
  unfold mB
  rw [← mI_upd]
  rfl

theorem mB_w4 (G : vC) (m : Nat → Nat) (s sp hi sn tx : Nat → Int) (g3 g5 g7 g8 g9 g10 g11 g12 g13 : Int) (k : Nat) (v : Int) : (mB G m s sp hi sn tx g3 g5 g7 g8 g9 g10 g11 g12 g13).set 4 (m 4, .inl (G.2.1, 149, .inl (upd (mI sn) k (jI v)))) = mB G m s sp hi (up sn k v) tx g3 g5 g7 g8 g9 g10 g11 g12 g13 := by
  unfold mB
  rw [← mI_upd]
  rfl

theorem mB_w5 (G : vC) (m : Nat → Nat) (s sp hi sn tx : Nat → Int) (g3 g5 g7 g8 g9 g10 g11 g12 g13 : Int) (k : Nat) (v : Int) : (mB G m s sp hi sn tx g3 g5 g7 g8 g9 g10 g11 g12 g13).set 5 (m 5, .inl (G.2.1, 60, .inl (upd (mI tx) k (jI v)))) = mB G m s sp hi sn (up tx k v) g3 g5 g7 g8 g9 g10 g11 g12 g13 := by
  unfold mB
  rw [← mI_upd]
  rfl

theorem sB_w2 (G : vC) (t : Nat → Nat) (ch ki fi se : Nat → Int) (ln th ps : Int) (k : Nat) (v : Int) : (sB G t ch ki fi se ln th ps).set 2 (t 2, .inl (G.2.1, 30, .inl (upd (mI ki) k (jI v)))) = sB G t ch (up ki k v) fi se ln th ps := by
  unfold sB
  rw [← mI_upd]
  rfl

theorem sB_w3 (G : vC) (t : Nat → Nat) (ch ki fi se : Nat → Int) (ln th ps : Int) (k : Nat) (v : Int) : (sB G t ch ki fi se ln th ps).set 3 (t 3, .inl (G.2.1, 30, .inl (upd (mI fi) k (jI v)))) = sB G t ch ki (up fi k v) se ln th ps := by
  unfold sB
  rw [← mI_upd]
  rfl

theorem sB_w4 (G : vC) (t : Nat → Nat) (ch ki fi se : Nat → Int) (ln th ps : Int) (k : Nat) (v : Int) : (sB G t ch ki fi se ln th ps).set 4 (t 4, .inl (G.2.1, 30, .inl (upd (mI se) k (jI v)))) = sB G t ch ki fi (up se k v) ln th ps := by
  unfold sB
  rw [← mI_upd]
  rfl

theorem vp_nar_c {v : Int} (h0 : 0 ≤ v) (h1 : v < 65536) : vp_nar .char (jI v) = jI v := by
  obtain ⟨k, rfl⟩ := Int.eq_ofNat_of_zero_le h0
  rw [vp_nar_char, ← jI_nI]
  exact fb_char (by omega)
theorem sB_w1 (G : vC) (t : Nat → Nat) (ch ki fi se : Nat → Int) (ln th ps : Int) (k : Nat) (v : Int) (h0 : 0 ≤ v) (h1 : v < 65536) : (sB G t ch ki fi se ln th ps).set 1 (t 1, .inl (G.2.2.2.1, 60, .inl (upd (mI ch) k (vp_nar .char (jI v))))) = sB G t (up ch k v) ki fi se ln th ps := by
  rw [vp_nar_c h0 h1]
  unfold sB
  rw [← mI_upd]
  rfl
def upN (f : Nat → Nat) (k v : Nat) : Nat → Nat := fun j => if j = k then v else f j
theorem bB_w (G : vC) (b : Nat → Nat) (lob : Bool) (W : Nat → Nat) (vf : Nat → Int) (k v : Nat) : (bB G b lob W vf).set 1 (b 1, .inl (G.2.2.1, 4, .inr (.inr (.inl (vf_upd (bW W) k (fB v)))))) = bB G b lob (upN W k v) vf := by
  have e : vf_upd (bW W) k (fB v) = bW (upN W k v) := by funext j; unfold vf_upd bW upN; split <;> rfl
  rw [e]
  rfl
theorem fB_0 : FP.fconst0 = fB 0 := by decide +kernel
theorem bB_w0 (G : vC) (b : Nat → Nat) (lob : Bool) (W : Nat → Nat) (vf : Nat → Int) (k : Nat) : (bB G b lob W vf).set 1 (b 1, .inl (G.2.2.1, 4, .inr (.inr (.inl (vf_upd (bW W) k FP.fconst0))))) = bB G b lob (upN W k 0) vf := by
  rw [fB_0]
  exact bB_w G b lob W vf k 0
theorem bB_v (G : vC) (b : Nat → Nat) (lob : Bool) (W : Nat → Nat) (vf : Nat → Int) (k : Nat) (v : Int) : (bB G b lob W vf).set 2 (b 2, .inl (G.2.1, 6, .inl (upd (mI vf) k (jI v)))) = bB G b lob W (up vf k v) := by
  rw [mI_upd]
  rfl

/-! what a state is: its bounds, t being the last tick -/
def crN (s : Nat → Int) (k : Nat) : Int := s (ix k 5) + s (ix k 6) + s (ix k 7) + s (ix k 8)
def sumK (f : Nat → Int) : Nat → Int
  | 0 => 0
  | k + 1 => sumK f k + f k
def Inv (t : Int) (s : Nat → Int) : Prop :=
  (0 ≤ s 0 ∧ s 0 ≤ 50 ∧ 0 ≤ s 1 ∧ s 1 ≤ 8 ∧ 0 ≤ s 2 ∧ s 2 ≤ t ∧ t ≤ 1000000 ∧ 0 ≤ s 3 ∧ s 3 ≤ 3 ∧ 0 ≤ s 4 ∧ s 4 ≤ 9 ∧ 0 ≤ s 5 ∧ s 5 ≤ 640 ∧ 0 ≤ s 10 ∧ s 10 ≤ 12) ∧
  (∀ f : Nat, f < 6 → 1 ≤ s (11 + f) ∧ s (11 + f) ≤ 9) ∧
  (∀ k : Nat, k < 12 → 0 ≤ s (ix k 0) ∧ s (ix k 0) ≤ 5 ∧ 0 ≤ s (ix k 1) ∧ s (ix k 1) ≤ 5 ∧ 0 ≤ s (ix k 2) ∧ s (ix k 2) ≤ 9 ∧ 0 ≤ s (ix k 3) ∧ s (ix k 3) ≤ 3 ∧ 0 ≤ s (ix k 4) ∧ s (ix k 4) ≤ 64 ∧ 0 ≤ s (ix k 5) ∧ 0 ≤ s (ix k 6) ∧ 0 ≤ s (ix k 7) ∧ 0 ≤ s (ix k 8) ∧ s (ix k 5) + s (ix k 6) + s (ix k 7) + s (ix k 8) ≤ 9) ∧
  (∀ k c : Nat, k < 12 → s 10 ≤ k → c < 11 → s (ix k c) = 0)
theorem Inv.base {t : Int} {s : Nat → Int} (h : Inv t s) : 0 ≤ s 0 ∧ s 0 ≤ 50 ∧ 0 ≤ s 1 ∧ s 1 ≤ 8 ∧ 0 ≤ s 2 ∧ s 2 ≤ t ∧ t ≤ 1000000 ∧ 0 ≤ s 3 ∧ s 3 ≤ 3 ∧ 0 ≤ s 4 ∧ s 4 ≤ 9 ∧ 0 ≤ s 5 ∧ s 5 ≤ 640 ∧ 0 ≤ s 10 ∧ s 10 ≤ 12 := h.1
theorem Inv.se {t : Int} {s : Nat → Int} (h : Inv t s) (f : Nat) (hf : f < 6) : 1 ≤ s (11 + f) ∧ s (11 + f) ≤ 9 := h.2.1 f hf
theorem Inv.sc {t : Int} {s : Nat → Int} (h : Inv t s) (k : Nat) (hk : k < 12) : 0 ≤ s (ix k 0) ∧ s (ix k 0) ≤ 5 ∧ 0 ≤ s (ix k 1) ∧ s (ix k 1) ≤ 5 ∧ 0 ≤ s (ix k 2) ∧ s (ix k 2) ≤ 9 ∧ 0 ≤ s (ix k 3) ∧ s (ix k 3) ≤ 3 ∧ 0 ≤ s (ix k 4) ∧ s (ix k 4) ≤ 64 ∧ 0 ≤ s (ix k 5) ∧ 0 ≤ s (ix k 6) ∧ 0 ≤ s (ix k 7) ∧ 0 ≤ s (ix k 8) ∧ s (ix k 5) + s (ix k 6) + s (ix k 7) + s (ix k 8) ≤ 9 := h.2.2.1 k hk
theorem Inv.cr {t : Int} {s : Nat → Int} (h : Inv t s) (k w : Nat) (hk : k < 12) (hw : w < 4) : 0 ≤ s (ix k (5 + w)) ∧ s (ix k (5 + w)) ≤ 9 := by
  have h1 := h.sc k hk
  rcases (by omega : w = 0 ∨ w = 1 ∨ w = 2 ∨ w = 3) with rfl | rfl | rfl | rfl <;> simp only [Nat.add_zero, Nat.reduceAdd] <;> omega

theorem app_c {a a' b b' : va_W} (h : a = a') (h2 : b = b') : a ++ b = a' ++ b' := by rw [h, h2]
theorem mB_c {G : vC} {m : Nat → Nat} {s sp hi sn tx s' sp' hi' sn' tx' : Nat → Int} {g3 g5 g7 g8 g9 g10 g11 g12 g13 g3' g5' g7' g8' g9' g10' g11' g12' g13' : Int} (h1 : s = s') (h2 : sp = sp') (h3 : hi = hi') (h4 : sn = sn') (h5 : tx = tx') (kg3 : g3 = g3') (kg5 : g5 = g5') (kg7 : g7 = g7') (kg8 : g8 = g8') (kg9 : g9 = g9') (kg10 : g10 = g10') (kg11 : g11 = g11') (kg12 : g12 = g12') (kg13 : g13 = g13') : mB G m s sp hi sn tx g3 g5 g7 g8 g9 g10 g11 g12 g13 = mB G m s' sp' hi' sn' tx' g3' g5' g7' g8' g9' g10' g11' g12' g13' := by rw [h1, h2, h3, h4, h5, kg3, kg5, kg7, kg8, kg9, kg10, kg11, kg12, kg13]
theorem sB_c {G : vC} {t : Nat → Nat} {ch ki fi se ch' ki' fi' se' : Nat → Int} {ln th ps ln' th' ps' : Int} (h1 : ch = ch') (h2 : ki = ki') (h3 : fi = fi') (h4 : se = se') (h5 : ln = ln') (h6 : th = th') (h7 : ps = ps') : sB G t ch ki fi se ln th ps = sB G t ch' ki' fi' se' ln' th' ps' := by rw [h1, h2, h3, h4, h5, h6, h7]
theorem bB_c {G : vC} {b : Nat → Nat} {lob : Bool} {W W' : Nat → Nat} {vf vf' : Nat → Int} (h1 : W = W') (h2 : vf = vf') : bB G b lob W vf = bB G b lob W' vf' := by rw [h1, h2]
theorem V.fn {X : vX} {l : Launch} {G : vC} {y : MethodName} {cc : ByteArray} {R : Room} {nL k n pc : Nat} {w : va_W} {lv : List (Nat × Value)} {st : List Value} (hX : VS X l G y cc R nL) (q : Nat) {a m : Nat} {cA : ClassId} {f g : Nat → Int32} (he : w[q]? = some (a, .inl (cA, m, .inl f))) (hfg : ∀ j, j < m → f j = g j) {w' : va_W} (hw : w.set q (a, .inl (cA, m, .inl g)) = w') (kk : V X k n w' lv pc st) : V X k n w lv pc st := by
  subst hw
  obtain ⟨p0, e0, s0, m0, args0, below0, meth0, c0, A0, Q0, rfl, hx, hb, hml, hown, hK, hA, hlocks, hnm⟩ := hX
  intro H locs ls hP hD hS hl
  have hc := hP q _ he
  have e : vp_cell cA (m, .inl f) = vp_cell cA (m, .inl g) := by
    unfold vp_cell arrV
    first
      | (simp only []; congr 1; apply Array.ext' ; simp; intro j hj; exact hfg j hj)
      | (congr 1; ext j h1 h2 <;> simp_all)
      | (simp [hfg]; done)
  refine kk H locs ls (hP.set hD he ?_ (fun _ _ => rfl)) (hD.set he) hS hl
  show H[a]? = some (vp_cell cA (m, .inl g))
  rw [← e]
  exact hc
