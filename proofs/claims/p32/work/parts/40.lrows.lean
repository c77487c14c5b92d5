section LRows
variable {X : vX} {l : Launch} {G : vC} {y : MethodName} {cc : ByteArray} {R : Room} {nL k n pc : Nat} {w : va_W} {lv : List (Nat × Value)} {st : List Value}
theorem V_lload_n (hX : VS X l G y cc R nL) {i : Fin 4} {v : Int64} (d : decode cc pc = .ok (.lload_n i, 1)) (j : Nat) (hj : lv[j]? = some ((i : Nat), .long v)) (kk : V X k n w lv (pc + 1) (.long v :: st)) : V X k n w lv pc st := by
  obtain ⟨p0, e0, s0, m0, args0, below0, meth0, c0, A0, Q0, rfl, hx, hb, hml, hown, hK, hA, hlocks, hnm⟩ := hX
  intro H locs ls hP hD hS hl
  exact lv_lload_n hx hb d rfl (lv_at hl j hj) (kk H locs ls hP hD hS hl)
theorem V_lload (hX : VS X l G y cc R nL) {i : Nat} {v : Int64} (d : decode cc pc = .ok (.lload i, 2)) (j : Nat) (hj : lv[j]? = some (i, .long v)) (kk : V X k n w lv (pc + 2) (.long v :: st)) : V X k n w lv pc st := by
  obtain ⟨p0, e0, s0, m0, args0, below0, meth0, c0, A0, Q0, rfl, hx, hb, hml, hown, hK, hA, hlocks, hnm⟩ := hX
  intro H locs ls hP hD hS hl
  exact lv_lload hx hb d (lv_at hl j hj) (kk H locs ls hP hD hS hl)
theorem V_lstore_n (hX : VS X l G y cc R nL) {i0 : Fin 4} {i : Nat} {v : Int64} {lv' : List (Nat × Value)} (d : decode cc pc = .ok (.lstore_n i0, 1)) (hi : (i0 : Nat) = i) (hn : i + 1 < nL) (h : (i, Value.long v) :: lv.filter (fun q => !(q.1 == i) && (!(q.1 == i + 1) && !(q.1 + 1 == i && q.2.category == 2))) = lv') (kk : V X k n w lv' (pc + 1) st) : V X k n w lv pc (.long v :: st) := by
  obtain ⟨p0, e0, s0, m0, args0, below0, meth0, c0, A0, Q0, rfl, hx, hb, hml, hown, hK, hA, hlocks, hnm⟩ := hX
  intro H locs ls hP hD hS hl
  exact lv_lstore_n hx hb d hi hl hn h (fun ls hl => (kk H locs ls hP hD hS hl))
theorem V_lstore (hX : VS X l G y cc R nL) {i : Nat} {v : Int64} {lv' : List (Nat × Value)} (d : decode cc pc = .ok (.lstore i, 2)) (hn : i + 1 < nL) (h : (i, Value.long v) :: lv.filter (fun q => !(q.1 == i) && (!(q.1 == i + 1) && !(q.1 + 1 == i && q.2.category == 2))) = lv') (kk : V X k n w lv' (pc + 2) st) : V X k n w lv pc (.long v :: st) := by
  obtain ⟨p0, e0, s0, m0, args0, below0, meth0, c0, A0, Q0, rfl, hx, hb, hml, hown, hK, hA, hlocks, hnm⟩ := hX
  intro H locs ls hP hD hS hl
  exact lv_lstore hx hb d hl hn h (fun ls hl => (kk H locs ls hP hD hS hl))
theorem V_ldc2l (hX : VS X l G y cc R nL) {i : Nat} {v : Int64} (d : decode cc pc = .ok (.ldc2_w i, 3)) (hw : Cond.constantLong y.cls i v ∈ lw_tbl) (ho : v_ok (Cond.constantLong y.cls i v) = true) (kk : V X k n w lv (pc + 3) (.long v :: st)) : V X k n w lv pc st := by
  obtain ⟨p0, e0, s0, m0, args0, below0, meth0, c0, A0, Q0, rfl, hx, hb, hml, hown, hK, hA, hlocks, hnm⟩ := hX
  intro H locs ls hP hD hS hl
  exact lv_ldc2 hx hb hown (hK.use hw ho) d (kk H locs ls hP hD hS hl)
theorem V_ladd (hX : VS X l G y cc R nL) {a b : Int64} (d : decode cc pc = .ok (.ladd, 1)) (kk : V X k n w lv (pc + 1) (.long (a + b) :: st)) : V X k n w lv pc (.long b :: .long a :: st) := by
  obtain ⟨p0, e0, s0, m0, args0, below0, meth0, c0, A0, Q0, rfl, hx, hb, hml, hown, hK, hA, hlocks, hnm⟩ := hX
  intro H locs ls hP hD hS hl
  exact lv_ladd hx hb d (kk H locs ls hP hD hS hl)
theorem V_lmul (hX : VS X l G y cc R nL) {a b : Int64} (d : decode cc pc = .ok (.lmul, 1)) (kk : V X k n w lv (pc + 1) (.long (a * b) :: st)) : V X k n w lv pc (.long b :: .long a :: st) := by
  obtain ⟨p0, e0, s0, m0, args0, below0, meth0, c0, A0, Q0, rfl, hx, hb, hml, hown, hK, hA, hlocks, hnm⟩ := hX
  intro H locs ls hP hD hS hl
  exact lv_lmul hx hb d (kk H locs ls hP hD hS hl)
theorem V_i2l (hX : VS X l G y cc R nL) {a : Int32} (d : decode cc pc = .ok (.i2l, 1)) (kk : V X k n w lv (pc + 1) (.long a.toInt64 :: st)) : V X k n w lv pc (.int a :: st) := by
  obtain ⟨p0, e0, s0, m0, args0, below0, meth0, c0, A0, Q0, rfl, hx, hb, hml, hown, hK, hA, hlocks, hnm⟩ := hX
  intro H locs ls hP hD hS hl
  exact lv_i2l hx hb d rfl (kk H locs ls hP hD hS hl)
theorem V_dmul (hX : VS X l G y cc R nL) {a b r : UInt64} (d : decode cc pc = .ok (.dmul, 1)) (h : FP.dmul a b = r) (hn : vf_n64 r) (kk : V X k n w lv (pc + 1) (.double r :: st)) : V X k n w lv pc (.double b :: .double a :: st) := by
  obtain ⟨p0, e0, s0, m0, args0, below0, meth0, c0, A0, Q0, rfl, hx, hb, hml, hown, hK, hA, hlocks, hnm⟩ := hX
  intro H locs ls hP hD hS hl
  subst h; exact lv_dmul hx hb d hn (kk H locs ls hP hD hS hl)
theorem V_d2l (hX : VS X l G y cc R nL) {a : UInt64} (d : decode cc pc = .ok (.d2l, 1)) (kk : V X k n w lv (pc + 1) (.long (FP.d2l a) :: st)) : V X k n w lv pc (.double a :: st) := by
  obtain ⟨p0, e0, s0, m0, args0, below0, meth0, c0, A0, Q0, rfl, hx, hb, hml, hown, hK, hA, hlocks, hnm⟩ := hX
  intro H locs ls hP hD hS hl
  exact lv_d2l hx hb d (kk H locs ls hP hD hS hl)
theorem V_lcmp (hX : VS X l G y cc R nL) {a b : Int64} {r : Int32} (d : decode cc pc = .ok (.lcmp, 1)) (h : lg_cmp a b = r) (kk : V X k n w lv (pc + 1) (.int r :: st)) : V X k n w lv pc (.long b :: .long a :: st) := by
  obtain ⟨p0, e0, s0, m0, args0, below0, meth0, c0, A0, Q0, rfl, hx, hb, hml, hown, hK, hA, hlocks, hnm⟩ := hX
  intro H locs ls hP hD hS hl
  subst h; exact W.lcmp hx hb d (kk H locs ls hP hD hS hl)
theorem jI_div {a b : Int} (ha : 0 ≤ a) (ha2 : a ≤ 2147483647) (hb : 0 < b) (hb2 : b ≤ 2147483647) : jI a / jI b = jI (a / b) := by
  apply Int32.toInt_inj.mp
  have h1 : 0 ≤ a / b := Int.ediv_nonneg ha (by omega)
  have h2 : a / b ≤ a := Int.ediv_le_self b ha
  rw [Int32.toInt_div, jI_toInt ⟨by omega, by omega⟩, jI_toInt ⟨by omega, by omega⟩, jI_toInt ⟨by omega, by omega⟩, Int.tdiv_eq_ediv_of_nonneg ha, Int.bmod_eq_of_le (by omega) (by omega)]
theorem V_idiv (hX : VS X l G y cc R nL) {a b c : Int} (d : decode cc pc = .ok (.idiv, 1)) (ha : 0 ≤ a) (ha2 : a ≤ 2147483647) (hb0 : 0 < b) (hb2 : b ≤ 2147483647) (h : a / b = c) (kk : V X k n w lv (pc + 1) (.int (jI c) :: st)) : V X k n w lv pc (.int (jI b) :: .int (jI a) :: st) := by
  obtain ⟨p0, e0, s0, m0, args0, below0, meth0, c0, A0, Q0, rfl, hx, hb, hml, hown, hK, hA, hlocks, hnm⟩ := hX
  intro H locs ls hP hD hS hl
  subst h; exact lv_idiv hx hb d (fun hz => by have hq := (jI_eq (a := b) (b := 0) ⟨by omega, hb2⟩ ⟨by omega, by omega⟩).mp hz; omega) (by rw [jI_div ha ha2 hb0 hb2]; exact (kk H locs ls hP hD hS hl))
theorem V_icmp_nev (hX : VS X l G y cc R nL) {a b : Int32} {off : Int} {tgt : Nat} (d : decode cc pc = .ok (.if_icmp .ne off, 3)) (ht : (pc : Int) + off = (tgt : Int)) (h : a = b) (kf : V X k n w lv (pc + 3) st) : V X k n w lv pc (.int b :: .int a :: st) := by
  obtain ⟨p0, e0, s0, m0, args0, below0, meth0, c0, A0, Q0, rfl, hx, hb, hml, hown, hK, hA, hlocks, hnm⟩ := hX
  intro H locs ls hP hD hS hl
  exact lv_icmp_ne hx hb d ht (fun q => absurd h q) (fun _ => kf H locs ls hP hD hS hl)
theorem V_lret (hX : VS X l G y cc R nL) {rm : Room} {post : Option Value → va_W → Prop} (hR : VR X (some .long) rm post) {v : Int64} (d : decode cc pc = .ok (.lreturn, 1)) (hp : post (some (.long v)) w) : V X rm.cells rm.slots w lv pc [.long v] := by
  obtain ⟨p0, e0, s0, m0, args0, below0, meth0, c0, A0, Q0, rfl, hx, hb, hml, hown, hK, hA, hlocks, hnm⟩ := hX
  intro H locs ls hP hD hS hl
  obtain ⟨hr, rfl⟩ := hR
  exact W.lret hx hb hr (fun t ht hW => ⟨⟨some (.long v), w, rfl, hp, by rw [ht]; exact hP, hD⟩, hS.F ht⟩) hS.2.2 d hlocks
end LRows
theorem lc_self (a : Int64) : lg_cmp a a = jI 0 := by
  unfold lg_cmp
  simp
  try rfl
/-! the law's four arrays, one row of numbers s: d 0 the house, d 1 the scarecrows, d 2 the crows, d 3 turns and what was plucked -/
def lq (s : Nat → Int) : Nat → Int32 := fun j => if j < 17 then jI (s j) else 0
def la (s : Nat → Int) : Nat → Int32 := fun j => jI (s (ix (j / 5) (j % 5)))
def lc (s : Nat → Int) : Nat → Int32 := fun j => jI (s (ix (j / 4) (5 + j % 4)))
def ln2 (s : Nat → Int) : Nat → Int32 := fun j => jI (s (ix (j / 2) (9 + j % 2)))
def lB (G : vC) (d : Nat → Nat) (s : Nat → Int) : va_W := [(d 0, .inl (G.2.1, 17, .inl (lq s))), (d 1, .inl (G.2.1, 60, .inl (la s))), (d 2, .inl (G.2.1, 48, .inl (lc s))), (d 3, .inl (G.2.1, 24, .inl (ln2 s)))]
theorem lB_q (G : vC) (d : Nat → Nat) (s : Nat → Int) (k : Nat) (v : Int) (hk : k < 17) : (lB G d s).set 0 (d 0, .inl (G.2.1, 17, .inl (upd (lq s) k (jI v)))) = lB G d (up s k v) := by
  have e0 : upd (lq s) k (jI v) = lq (up s k v) := by
    funext j; unfold lq upd up
    by_cases h : j = k
    · subst h; simp [hk]
    · rw [if_neg h]; show (if j < 17 then jI (s j) else 0) = (if j < 17 then jI (if j = k then v else s j) else 0); by_cases h2 : j < 17
      · rw [if_pos h2, if_pos h2, if_neg h]
      · rw [if_neg h2, if_neg h2]
  have e1 : la (up s k v) = la s := by funext j; unfold la up; rw [if_neg (by unfold ix; omega)]
  have e2 : lc (up s k v) = lc s := by funext j; unfold lc up; rw [if_neg (by unfold ix; omega)]
  have e3 : ln2 (up s k v) = ln2 s := by funext j; unfold ln2 up; rw [if_neg (by unfold ix; omega)]
  unfold lB
  rw [e0, e1, e2, e3]
  rfl
theorem lB_a (G : vC) (d : Nat → Nat) (s : Nat → Int) (k e : Nat) (v : Int) (he : e < 5) : (lB G d s).set 1 (d 1, .inl (G.2.1, 60, .inl (upd (la s) (5 * k + e) (jI v)))) = lB G d (up s (ix k e) v) := by
  have e1 : upd (la s) (5 * k + e) (jI v) = la (up s (ix k e) v) := by
    funext j; unfold la upd up
    by_cases h : j = 5 * k + e
    · rw [if_pos h, if_pos (by unfold ix; omega)]
    · rw [if_neg h, if_neg (by unfold ix; omega)]
  have e0 : lq (up s (ix k e) v) = lq s := by
    funext j; unfold lq up; by_cases h2 : j < 17
    · rw [if_pos h2, if_pos h2, if_neg (by unfold ix; omega)]
    · rw [if_neg h2, if_neg h2]
  have e2 : lc (up s (ix k e) v) = lc s := by funext j; unfold lc up; rw [if_neg (by unfold ix; omega)]
  have e3 : ln2 (up s (ix k e) v) = ln2 s := by funext j; unfold ln2 up; rw [if_neg (by unfold ix; omega)]
  unfold lB
  rw [e0, e1, e2, e3]
  rfl
theorem lB_cr (G : vC) (d : Nat → Nat) (s : Nat → Int) (k e : Nat) (v : Int) (he : e < 4) : (lB G d s).set 2 (d 2, .inl (G.2.1, 48, .inl (upd (lc s) (4 * k + e) (jI v)))) = lB G d (up s (ix k (5 + e)) v) := by
  have e2 : upd (lc s) (4 * k + e) (jI v) = lc (up s (ix k (5 + e)) v) := by
    funext j; unfold lc upd up
    by_cases h : j = 4 * k + e
    · rw [if_pos h, if_pos (by unfold ix; omega)]
    · rw [if_neg h, if_neg (by unfold ix; omega)]
  have e0 : lq (up s (ix k (5 + e)) v) = lq s := by
    funext j; unfold lq up; by_cases h2 : j < 17
    · rw [if_pos h2, if_pos h2, if_neg (by unfold ix; omega)]
    · rw [if_neg h2, if_neg h2]
  have e1 : la (up s (ix k (5 + e)) v) = la s := by funext j; unfold la up; rw [if_neg (by unfold ix; omega)]
  have e3 : ln2 (up s (ix k (5 + e)) v) = ln2 s := by funext j; unfold ln2 up; rw [if_neg (by unfold ix; omega)]
  unfold lB
  rw [e0, e1, e2, e3]
  rfl
theorem lB_n (G : vC) (d : Nat → Nat) (s : Nat → Int) (k e : Nat) (v : Int) (he : e < 2) : (lB G d s).set 3 (d 3, .inl (G.2.1, 24, .inl (upd (ln2 s) (2 * k + e) (jI v)))) = lB G d (up s (ix k (9 + e)) v) := by
  have e3 : upd (ln2 s) (2 * k + e) (jI v) = ln2 (up s (ix k (9 + e)) v) := by
    funext j; unfold ln2 upd up
    by_cases h : j = 2 * k + e
    · rw [if_pos h, if_pos (by unfold ix; omega)]
    · rw [if_neg h, if_neg (by unfold ix; omega)]
  have e0 : lq (up s (ix k (9 + e)) v) = lq s := by
    funext j; unfold lq up; by_cases h2 : j < 17
    · rw [if_pos h2, if_pos h2, if_neg (by unfold ix; omega)]
    · rw [if_neg h2, if_neg h2]
  have e1 : la (up s (ix k (9 + e)) v) = la s := by funext j; unfold la up; rw [if_neg (by unfold ix; omega)]
  have e2 : lc (up s (ix k (9 + e)) v) = lc s := by funext j; unfold lc up; rw [if_neg (by unfold ix; omega)]
  unfold lB
  rw [e0, e1, e2, e3]
  rfl
