/-! the law's own rows: its script, its end -/
theorem and31 (z : Int) : (jI z) &&& (jI 31) = jI (z % 32) := by
  apply Int32.toBitVec_inj.mp
  show (BitVec.ofInt 32 z) &&& (BitVec.ofInt 32 31) = BitVec.ofInt 32 (z % 32)
  apply BitVec.eq_of_toNat_eq
  rw [BitVec.toNat_and, BitVec.toNat_ofInt, BitVec.toNat_ofInt, BitVec.toNat_ofInt]
  have h : (((31 : Int) % ((2 ^ 32 : Nat) : Int)).toNat) = 2 ^ 5 - 1 := by decide
  rw [h, Nat.and_two_pow_sub_one_eq_mod]
  omega
theorem i2c_e (x : Int32) : ∃ e : Int, (x.toUInt32 % 65536).toInt32 = jI e ∧ 0 ≤ e ∧ e < 65536 := by
  have hu : (x.toUInt32 % 65536).toNat < 65536 := by
    rw [UInt32.toNat_mod]
    exact Nat.mod_lt _ (by decide)
  refine ⟨((x.toUInt32 % 65536).toNat : Int), ?_, by omega, by omega⟩
  apply Int32.toBitVec_inj.mp
  show (x.toUInt32 % 65536).toBitVec = BitVec.ofInt 32 (((x.toUInt32 % 65536).toNat : Nat) : Int)
  apply BitVec.eq_of_toNat_eq
  rw [BitVec.toNat_ofInt]
  show (x.toUInt32 % 65536).toNat = _
  omega
/-- the script at the cell bs, of L ints -/
def LawS (X : vX) (bs L : Nat) (xs : Nat → Int32) : Prop := ∃ G p l e R s m args below meth c A Q nL, X = (G, p, l, e, R, s, m, args, below, meth, c, A, Q, nL) ∧ va_X bs L xs s s.heap ∧ bs < s.heap.size ∧ ¬ A bs
section LawRows
variable {X : vX} {l : Launch} {G : vC} {y : MethodName} {cc : ByteArray} {R : Room} {nL k n pc : Nat} {w : va_W} {lv : List (Nat × Value)} {st : List Value}
theorem V_sld (hX : VS X l G y cc R nL) {bs L : Nat} {xs : Nat → Int32} (hL : LawS X bs L xs) {i : Int} (h0 : 0 ≤ i) (h1 : i < L) (hm : L ≤ 2147483647) {v : Int32} (hv : xs i.toNat = v) (d : decode cc pc = .ok (.iaload, 1)) (kk : V X k n w lv (pc + 1) (.int v :: st)) : V X k n w lv pc (.int (jI i) :: .ref bs :: st) := by
  subst hv
  obtain ⟨p0, e0, s0, m0, args0, below0, meth0, c0, A0, Q0, rfl, hx, hb, hml, hown, hK, hA, hlocks, hnm⟩ := hX
  obtain ⟨G1, p1, l1, e1, R1, s1, m1, args1, below1, meth1, c1, A1, Q1, nL1, he, hX1, hbl, hbA⟩ := hL
  cases he
  intro H locs ls hP hD hS hl
  exact va_sld hx hb hX1 hbl hbA hS (jI_in h0 h1 hm) d (by rw [jI_clamp h0 (by omega)]; exact (kk H locs ls hP hD hS hl))
theorem V_slen (hX : VS X l G y cc R nL) {bs L : Nat} {xs : Nat → Int32} (hL : LawS X bs L xs) (d : decode cc pc = .ok (.arraylength, 1)) (kk : V X k n w lv (pc + 1) (.int (jI (L : Int)) :: st)) : V X k n w lv pc (.ref bs :: st) := by
  obtain ⟨p0, e0, s0, m0, args0, below0, meth0, c0, A0, Q0, rfl, hx, hb, hml, hown, hK, hA, hlocks, hnm⟩ := hX
  obtain ⟨G1, p1, l1, e1, R1, s1, m1, args1, below1, meth1, c1, A1, Q1, nL1, he, hX1, hbl, hbA⟩ := hL
  cases he
  intro H locs ls hP hD hS hl
  exact va_slen hx hb hX1 hbl hbA hS d (kk H locs ls hP hD hS hl)
end LawRows
theorem SI.ty {ch : Nat → Int} {ln e : Int} (h : SI ch ln) (he : 0 ≤ e ∧ e < 65536) : SI (if ln < 60 then up ch ln.toNat e else ch) (if ln < 60 then ln + 1 else ln) := by
  have h2 := h.2
  split
  · refine ⟨fun k hk => ?_, by omega, by omega⟩
    unfold up
    split
    · exact he
    · exact h.1 k hk
  · exact h
theorem SI.z {ch : Nat → Int} {ln : Int} (h : SI ch ln) : SI ch 0 := ⟨h.1, by decide, by decide⟩
