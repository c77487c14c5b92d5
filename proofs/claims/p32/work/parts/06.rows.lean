theorem fa_lt (a b : Int32) : a < b ↔ a.toInt < b.toInt := Int32.lt_iff_toInt_lt
theorem fa_le (a b : Int32) : a ≤ b ↔ a.toInt ≤ b.toInt := Int32.le_iff_toInt_le
theorem fa_eq (a b : Int32) : a = b ↔ a.toInt = b.toInt := Int32.toInt_inj.symm
theorem fb_rng (x : Int32) : -2147483648 ≤ x.toInt ∧ x.toInt < 2147483648 := by
  have h1 := Int32.le_toInt x
  have h2 := Int32.toInt_lt x
  omega
theorem fb_bmod {z : Int} (h1 : -2147483648 ≤ z) (h2 : z < 2147483648) : z.bmod (2 ^ 32) = z := by
  rw [Int.bmod_eq_of_le (by omega) (by omega)]
theorem fb_ofI {z : Int} (h1 : -2147483648 ≤ z) (h2 : z < 2147483648) : (Int32.ofInt z).toInt = z := by
  rw [Int32.toInt_ofInt, fb_bmod h1 h2]
theorem fb_asI (x : Int32) : Int32.ofInt x.toInt = x := Int32.ofInt_toInt x
def jI (z : Int) : Int32 := Int32.ofInt z
abbrev iR (a : Int) : Prop := -2147483648 ≤ a ∧ a ≤ 2147483647
theorem jI_toInt {a : Int} (h : iR a) : (jI a).toInt = a := fb_ofI h.1 (by omega)
theorem jI_add (a b : Int) : jI a + jI b = jI (a + b) := (Int32.ofInt_add a b).symm
theorem jI_sub (a b : Int) : jI a - jI b = jI (a - b) := (Int32.ofInt_sub a b).symm
theorem jI_mul (a b : Int) : jI a * jI b = jI (a * b) := (Int32.ofInt_mul a b).symm
theorem jI_neg (a : Int) : -jI a = jI (-a) := (Int32.ofInt_neg a).symm
theorem jI_as (x : Int32) : jI x.toInt = x := fb_asI x
theorem jI_rng (x : Int32) : iR x.toInt := ⟨(fb_rng x).1, by have := (fb_rng x).2; omega⟩
theorem jI_lt {a b : Int} (ha : iR a) (hb : iR b) : jI a < jI b ↔ a < b := by rw [fa_lt, jI_toInt ha, jI_toInt hb]
theorem jI_le {a b : Int} (ha : iR a) (hb : iR b) : jI a ≤ jI b ↔ a ≤ b := by rw [fa_le, jI_toInt ha, jI_toInt hb]
theorem jI_eq {a b : Int} (ha : iR a) (hb : iR b) : jI a = jI b ↔ a = b := by rw [fa_eq, jI_toInt ha, jI_toInt hb]
theorem jI_clamp {a : Int} (h : 0 ≤ a) (h2 : a ≤ 2147483647) : (jI a).toNatClampNeg = a.toNat := by
  show (jI a).toInt.toNat = a.toNat
  rw [jI_toInt ⟨by omega, h2⟩]
theorem jI_in {a : Int} {n : Nat} (h : 0 ≤ a) (h2 : a < n) (hn : n ≤ 2147483647) : vp_in (jI a) n := by
  rw [vp_in_iff, jI_toInt ⟨by omega, by omega⟩]
  omega
theorem jI_nI (k : Nat) : nI k = jI k := by
  first | rfl | (show Int32.ofNat k = Int32.ofInt k; simp) | exact (Int32.ofInt_eq_ofNat).symm | exact Int32.toBitVec_inj.mp (by simp [nI, jI])
theorem jI_rem {a b : Int} (ha : 0 ≤ a) (ha2 : a ≤ 2147483647) (hb : 0 < b) (hb2 : b ≤ 2147483647) : jI a - jI a / jI b * jI b = jI (a % b) := by
  obtain ⟨i, rfl⟩ := Int.eq_ofNat_of_zero_le ha
  obtain ⟨j, rfl⟩ := Int.eq_ofNat_of_zero_le (Int.le_of_lt hb)
  rw [← jI_nI, ← jI_nI, pk_rem (by omega) (by omega) (by omega), jI_nI]
  congr 1
section VRows
variable {X : vX} {l : Launch} {G : vC} {y : MethodName} {cc : ByteArray} {R : Room} {nL k n pc : Nat} {w : va_W} {lv : List (Nat × Value)} {st : List Value}
theorem V_iload_n (hX : VS X l G y cc R nL) {i : Fin 4} {v : Int32} (d : decode cc pc = .ok (.iload_n i, 1)) (j : Nat) (hj : lv[j]? = some ((i : Nat), .int v)) (kk : V X k n w lv (pc + 1) (.int v :: st)) : V X k n w lv pc st := by
  obtain ⟨p0, e0, s0, m0, args0, below0, meth0, c0, A0, Q0, rfl, hx, hb, hml, hown, hK, hA, hlocks, hnm⟩ := hX
  intro H locs ls hP hD hS hl
  exact lv_iload_n hx hb d rfl (lv_at hl j hj) (kk H locs ls hP hD hS hl)
theorem V_iload (hX : VS X l G y cc R nL) {i : Nat} {v : Int32} (d : decode cc pc = .ok (.iload i, 2)) (j : Nat) (hj : lv[j]? = some (i, .int v)) (kk : V X k n w lv (pc + 2) (.int v :: st)) : V X k n w lv pc st := by
  obtain ⟨p0, e0, s0, m0, args0, below0, meth0, c0, A0, Q0, rfl, hx, hb, hml, hown, hK, hA, hlocks, hnm⟩ := hX
  intro H locs ls hP hD hS hl
  exact lv_iload hx hb d (lv_at hl j hj) (kk H locs ls hP hD hS hl)
theorem V_istore_n (hX : VS X l G y cc R nL) {i0 : Fin 4} {i : Nat} {v : Int32} {lv' : List (Nat × Value)} (d : decode cc pc = .ok (.istore_n i0, 1)) (hi : (i0 : Nat) = i) (hn : i < nL) (h : (i, Value.int v) :: lv.filter (fun q => !(q.1 == i) && !(q.1 + 1 == i && q.2.category == 2)) = lv') (kk : V X k n w lv' (pc + 1) st) : V X k n w lv pc (.int v :: st) := by
  obtain ⟨p0, e0, s0, m0, args0, below0, meth0, c0, A0, Q0, rfl, hx, hb, hml, hown, hK, hA, hlocks, hnm⟩ := hX
  intro H locs ls hP hD hS hl
  exact lv_istore_n hx hb d hi hl hn h (fun ls hl => (kk H locs ls hP hD hS hl))
theorem V_istore (hX : VS X l G y cc R nL) {i : Nat} {v : Int32} {lv' : List (Nat × Value)} (d : decode cc pc = .ok (.istore i, 2)) (hn : i < nL) (h : (i, Value.int v) :: lv.filter (fun q => !(q.1 == i) && !(q.1 + 1 == i && q.2.category == 2)) = lv') (kk : V X k n w lv' (pc + 2) st) : V X k n w lv pc (.int v :: st) := by
  obtain ⟨p0, e0, s0, m0, args0, below0, meth0, c0, A0, Q0, rfl, hx, hb, hml, hown, hK, hA, hlocks, hnm⟩ := hX
  intro H locs ls hP hD hS hl
  exact lv_istore hx hb d hl hn h (fun ls hl => (kk H locs ls hP hD hS hl))
theorem V_aload_n (hX : VS X l G y cc R nL) {i : Fin 4} {v : Nat} (d : decode cc pc = .ok (.aload_n i, 1)) (j : Nat) (hj : lv[j]? = some ((i : Nat), .ref v)) (kk : V X k n w lv (pc + 1) (.ref v :: st)) : V X k n w lv pc st := by
  obtain ⟨p0, e0, s0, m0, args0, below0, meth0, c0, A0, Q0, rfl, hx, hb, hml, hown, hK, hA, hlocks, hnm⟩ := hX
  intro H locs ls hP hD hS hl
  exact lv_aload_n hx hb d rfl (lv_at hl j hj) (kk H locs ls hP hD hS hl)
theorem V_aload (hX : VS X l G y cc R nL) {i : Nat} {v : Nat} (d : decode cc pc = .ok (.aload i, 2)) (j : Nat) (hj : lv[j]? = some (i, .ref v)) (kk : V X k n w lv (pc + 2) (.ref v :: st)) : V X k n w lv pc st := by
  obtain ⟨p0, e0, s0, m0, args0, below0, meth0, c0, A0, Q0, rfl, hx, hb, hml, hown, hK, hA, hlocks, hnm⟩ := hX
  intro H locs ls hP hD hS hl
  exact lv_aload hx hb d (lv_at hl j hj) (kk H locs ls hP hD hS hl)
theorem V_astore_n (hX : VS X l G y cc R nL) {i0 : Fin 4} {i : Nat} {v : Nat} {lv' : List (Nat × Value)} (d : decode cc pc = .ok (.astore_n i0, 1)) (hi : (i0 : Nat) = i) (hn : i < nL) (h : (i, Value.ref v) :: lv.filter (fun q => !(q.1 == i) && !(q.1 + 1 == i && q.2.category == 2)) = lv') (kk : V X k n w lv' (pc + 1) st) : V X k n w lv pc (.ref v :: st) := by
  obtain ⟨p0, e0, s0, m0, args0, below0, meth0, c0, A0, Q0, rfl, hx, hb, hml, hown, hK, hA, hlocks, hnm⟩ := hX
  intro H locs ls hP hD hS hl
  exact lv_astore_n hx hb d hi hl hn h (fun ls hl => (kk H locs ls hP hD hS hl))
theorem V_astore (hX : VS X l G y cc R nL) {i : Nat} {v : Nat} {lv' : List (Nat × Value)} (d : decode cc pc = .ok (.astore i, 2)) (hn : i < nL) (h : (i, Value.ref v) :: lv.filter (fun q => !(q.1 == i) && !(q.1 + 1 == i && q.2.category == 2)) = lv') (kk : V X k n w lv' (pc + 2) st) : V X k n w lv pc (.ref v :: st) := by
  obtain ⟨p0, e0, s0, m0, args0, below0, meth0, c0, A0, Q0, rfl, hx, hb, hml, hown, hK, hA, hlocks, hnm⟩ := hX
  intro H locs ls hP hD hS hl
  exact lv_astore hx hb d hl hn h (fun ls hl => (kk H locs ls hP hD hS hl))
theorem V_fload_n (hX : VS X l G y cc R nL) {i : Fin 4} {v : UInt32} (d : decode cc pc = .ok (.fload_n i, 1)) (j : Nat) (hj : lv[j]? = some ((i : Nat), .float v)) (kk : V X k n w lv (pc + 1) (.float v :: st)) : V X k n w lv pc st := by
  obtain ⟨p0, e0, s0, m0, args0, below0, meth0, c0, A0, Q0, rfl, hx, hb, hml, hown, hK, hA, hlocks, hnm⟩ := hX
  intro H locs ls hP hD hS hl
  exact lv_fload_n hx hb d rfl (lv_at hl j hj) (kk H locs ls hP hD hS hl)
theorem V_fload (hX : VS X l G y cc R nL) {i : Nat} {v : UInt32} (d : decode cc pc = .ok (.fload i, 2)) (j : Nat) (hj : lv[j]? = some (i, .float v)) (kk : V X k n w lv (pc + 2) (.float v :: st)) : V X k n w lv pc st := by
  obtain ⟨p0, e0, s0, m0, args0, below0, meth0, c0, A0, Q0, rfl, hx, hb, hml, hown, hK, hA, hlocks, hnm⟩ := hX
  intro H locs ls hP hD hS hl
  exact lv_fload hx hb d (lv_at hl j hj) (kk H locs ls hP hD hS hl)
theorem V_fstore_n (hX : VS X l G y cc R nL) {i0 : Fin 4} {i : Nat} {v : UInt32} {lv' : List (Nat × Value)} (d : decode cc pc = .ok (.fstore_n i0, 1)) (hi : (i0 : Nat) = i) (hn : i < nL) (h : (i, Value.float v) :: lv.filter (fun q => !(q.1 == i) && !(q.1 + 1 == i && q.2.category == 2)) = lv') (kk : V X k n w lv' (pc + 1) st) : V X k n w lv pc (.float v :: st) := by
  obtain ⟨p0, e0, s0, m0, args0, below0, meth0, c0, A0, Q0, rfl, hx, hb, hml, hown, hK, hA, hlocks, hnm⟩ := hX
  intro H locs ls hP hD hS hl
  exact lv_fstore_n hx hb d hi hl hn h (fun ls hl => (kk H locs ls hP hD hS hl))
theorem V_fstore (hX : VS X l G y cc R nL) {i : Nat} {v : UInt32} {lv' : List (Nat × Value)} (d : decode cc pc = .ok (.fstore i, 2)) (hn : i < nL) (h : (i, Value.float v) :: lv.filter (fun q => !(q.1 == i) && !(q.1 + 1 == i && q.2.category == 2)) = lv') (kk : V X k n w lv' (pc + 2) st) : V X k n w lv pc (.float v :: st) := by
  obtain ⟨p0, e0, s0, m0, args0, below0, meth0, c0, A0, Q0, rfl, hx, hb, hml, hown, hK, hA, hlocks, hnm⟩ := hX
  intro H locs ls hP hD hS hl
  exact lv_fstore hx hb d hl hn h (fun ls hl => (kk H locs ls hP hD hS hl))
theorem V_dload_n (hX : VS X l G y cc R nL) {i : Fin 4} {v : UInt64} (d : decode cc pc = .ok (.dload_n i, 1)) (j : Nat) (hj : lv[j]? = some ((i : Nat), .double v)) (kk : V X k n w lv (pc + 1) (.double v :: st)) : V X k n w lv pc st := by
  obtain ⟨p0, e0, s0, m0, args0, below0, meth0, c0, A0, Q0, rfl, hx, hb, hml, hown, hK, hA, hlocks, hnm⟩ := hX
  intro H locs ls hP hD hS hl
  exact lv_dload_n hx hb d rfl (lv_at hl j hj) (kk H locs ls hP hD hS hl)
theorem V_dload (hX : VS X l G y cc R nL) {i : Nat} {v : UInt64} (d : decode cc pc = .ok (.dload i, 2)) (j : Nat) (hj : lv[j]? = some (i, .double v)) (kk : V X k n w lv (pc + 2) (.double v :: st)) : V X k n w lv pc st := by
  obtain ⟨p0, e0, s0, m0, args0, below0, meth0, c0, A0, Q0, rfl, hx, hb, hml, hown, hK, hA, hlocks, hnm⟩ := hX
  intro H locs ls hP hD hS hl
  exact lv_dload hx hb d (lv_at hl j hj) (kk H locs ls hP hD hS hl)
theorem V_dstore (hX : VS X l G y cc R nL) {i : Nat} {v : UInt64} {lv' : List (Nat × Value)} (d : decode cc pc = .ok (.dstore i, 2)) (hn : i + 1 < nL) (h : (i, Value.double v) :: lv.filter (fun q => !(q.1 == i) && (!(q.1 == i + 1) && !(q.1 + 1 == i && q.2.category == 2))) = lv') (kk : V X k n w lv' (pc + 2) st) : V X k n w lv pc (.double v :: st) := by
  obtain ⟨p0, e0, s0, m0, args0, below0, meth0, c0, A0, Q0, rfl, hx, hb, hml, hown, hK, hA, hlocks, hnm⟩ := hX
  intro H locs ls hP hD hS hl
  exact lv_dstore hx hb d hl hn h (fun ls hl => (kk H locs ls hP hD hS hl))
theorem V_iinc (hX : VS X l G y cc R nL) {i : Nat} {c a b : Int} {lv' : List (Nat × Value)} (d : decode cc pc = .ok (.iinc i c, 3)) (j : Nat) (hj : lv[j]? = some (i, .int (jI a))) (hab : a + c = b) (hn : i < nL) (h : (i, Value.int (jI b)) :: lv.filter (fun q => !(q.1 == i) && !(q.1 + 1 == i && q.2.category == 2)) = lv') (kk : V X k n w lv' (pc + 3) st) : V X k n w lv pc st := by
  obtain ⟨p0, e0, s0, m0, args0, below0, meth0, c0, A0, Q0, rfl, hx, hb, hml, hown, hK, hA, hlocks, hnm⟩ := hX
  intro H locs ls hP hD hS hl
  subst hab; exact lv_iinc hx hb d hl hj (jI_add a c) hn h (fun ls hl => (kk H locs ls hP hD hS hl))
theorem V_iconst (hX : VS X l G y cc R nL) {a : Int} (d : decode cc pc = .ok (.iconst a, 1)) (kk : V X k n w lv (pc + 1) (.int (jI a) :: st)) : V X k n w lv pc st := by
  obtain ⟨p0, e0, s0, m0, args0, below0, meth0, c0, A0, Q0, rfl, hx, hb, hml, hown, hK, hA, hlocks, hnm⟩ := hX
  intro H locs ls hP hD hS hl
  exact lv_iconst hx hb d rfl (kk H locs ls hP hD hS hl)
theorem V_bipush (hX : VS X l G y cc R nL) {a : Int} (d : decode cc pc = .ok (.bipush a, 2)) (h : (Int8.ofInt a).toInt32 = jI a) (kk : V X k n w lv (pc + 2) (.int (jI a) :: st)) : V X k n w lv pc st := by
  obtain ⟨p0, e0, s0, m0, args0, below0, meth0, c0, A0, Q0, rfl, hx, hb, hml, hown, hK, hA, hlocks, hnm⟩ := hX
  intro H locs ls hP hD hS hl
  exact lv_bipush hx hb d h (kk H locs ls hP hD hS hl)
theorem V_sipush (hX : VS X l G y cc R nL) {a : Int} (d : decode cc pc = .ok (.sipush a, 3)) (h : (Int16.ofInt a).toInt32 = jI a) (kk : V X k n w lv (pc + 3) (.int (jI a) :: st)) : V X k n w lv pc st := by
  obtain ⟨p0, e0, s0, m0, args0, below0, meth0, c0, A0, Q0, rfl, hx, hb, hml, hown, hK, hA, hlocks, hnm⟩ := hX
  intro H locs ls hP hD hS hl
  exact lv_sipush hx hb d h (kk H locs ls hP hD hS hl)
theorem V_ldc (hX : VS X l G y cc R nL) {a : Int} {i : Nat} {v : Int32} (d : decode cc pc = .ok (.ldc i, 2)) (hw : Cond.constant y.cls i v ∈ lw_tbl) (ho : v_ok (Cond.constant y.cls i v) = true) (hv : v = jI a) (kk : V X k n w lv (pc + 2) (.int (jI a) :: st)) : V X k n w lv pc st := by
  obtain ⟨p0, e0, s0, m0, args0, below0, meth0, c0, A0, Q0, rfl, hx, hb, hml, hown, hK, hA, hlocks, hnm⟩ := hX
  intro H locs ls hP hD hS hl
  subst hv; exact lv_ldc hx hb hown (hK.use hw ho) d (kk H locs ls hP hD hS hl)
theorem V_ldcf (hX : VS X l G y cc R nL) {i : Nat} {v : UInt32} (d : decode cc pc = .ok (.ldc i, 2)) (hw : Cond.constantFloat y.cls i v ∈ lw_tbl) (ho : v_ok (Cond.constantFloat y.cls i v) = true) (kk : V X k n w lv (pc + 2) (.float v :: st)) : V X k n w lv pc st := by
  obtain ⟨p0, e0, s0, m0, args0, below0, meth0, c0, A0, Q0, rfl, hx, hb, hml, hown, hK, hA, hlocks, hnm⟩ := hX
  intro H locs ls hP hD hS hl
  exact lv_ldcf hx hb hown (hK.use hw ho) d (kk H locs ls hP hD hS hl)
theorem V_ldc2d (hX : VS X l G y cc R nL) {i : Nat} {v : UInt64} (d : decode cc pc = .ok (.ldc2_w i, 3)) (hw : Cond.constantDouble y.cls i v ∈ lw_tbl) (ho : v_ok (Cond.constantDouble y.cls i v) = true) (kk : V X k n w lv (pc + 3) (.double v :: st)) : V X k n w lv pc st := by
  obtain ⟨p0, e0, s0, m0, args0, below0, meth0, c0, A0, Q0, rfl, hx, hb, hml, hown, hK, hA, hlocks, hnm⟩ := hX
  intro H locs ls hP hD hS hl
  exact lv_ldc2d hx hb hown (hK.use hw ho) d (kk H locs ls hP hD hS hl)
theorem V_iadd (hX : VS X l G y cc R nL) {a b c : Int} (d : decode cc pc = .ok (.iadd, 1)) (h : a + b = c) (kk : V X k n w lv (pc + 1) (.int (jI c) :: st)) : V X k n w lv pc (.int (jI b) :: .int (jI a) :: st) := by
  obtain ⟨p0, e0, s0, m0, args0, below0, meth0, c0, A0, Q0, rfl, hx, hb, hml, hown, hK, hA, hlocks, hnm⟩ := hX
  intro H locs ls hP hD hS hl
  subst h; exact lv_iadd hx hb d (by rw [jI_add]; exact (kk H locs ls hP hD hS hl))
theorem V_isub (hX : VS X l G y cc R nL) {a b c : Int} (d : decode cc pc = .ok (.isub, 1)) (h : a - b = c) (kk : V X k n w lv (pc + 1) (.int (jI c) :: st)) : V X k n w lv pc (.int (jI b) :: .int (jI a) :: st) := by
  obtain ⟨p0, e0, s0, m0, args0, below0, meth0, c0, A0, Q0, rfl, hx, hb, hml, hown, hK, hA, hlocks, hnm⟩ := hX
  intro H locs ls hP hD hS hl
  subst h; exact lv_isub hx hb d (by rw [jI_sub]; exact (kk H locs ls hP hD hS hl))
theorem V_imul (hX : VS X l G y cc R nL) {a b c : Int} (d : decode cc pc = .ok (.imul, 1)) (h : a * b = c) (kk : V X k n w lv (pc + 1) (.int (jI c) :: st)) : V X k n w lv pc (.int (jI b) :: .int (jI a) :: st) := by
  obtain ⟨p0, e0, s0, m0, args0, below0, meth0, c0, A0, Q0, rfl, hx, hb, hml, hown, hK, hA, hlocks, hnm⟩ := hX
  intro H locs ls hP hD hS hl
  subst h; exact lv_imul hx hb d (by rw [jI_mul]; exact (kk H locs ls hP hD hS hl))
theorem V_ineg (hX : VS X l G y cc R nL) {a c : Int} (d : decode cc pc = .ok (.ineg, 1)) (h : -a = c) (kk : V X k n w lv (pc + 1) (.int (jI c) :: st)) : V X k n w lv pc (.int (jI a) :: st) := by
  obtain ⟨p0, e0, s0, m0, args0, below0, meth0, c0, A0, Q0, rfl, hx, hb, hml, hown, hK, hA, hlocks, hnm⟩ := hX
  intro H locs ls hP hD hS hl
  subst h; exact lv_ineg hx hb d (by rw [jI_neg]; exact (kk H locs ls hP hD hS hl))
theorem V_irem (hX : VS X l G y cc R nL) {a b c : Int} (d : decode cc pc = .ok (.irem, 1)) (ha : 0 ≤ a) (ha2 : a ≤ 2147483647) (hb0 : 0 < b) (hb2 : b ≤ 2147483647) (h : a % b = c) (kk : V X k n w lv (pc + 1) (.int (jI c) :: st)) : V X k n w lv pc (.int (jI b) :: .int (jI a) :: st) := by
  obtain ⟨p0, e0, s0, m0, args0, below0, meth0, c0, A0, Q0, rfl, hx, hb, hml, hown, hK, hA, hlocks, hnm⟩ := hX
  intro H locs ls hP hD hS hl
  subst h; exact lv_irem hx hb d (fun hz => by have hq := (jI_eq (a := b) (b := 0) ⟨by omega, hb2⟩ ⟨by omega, by omega⟩).mp hz; omega) (by rw [jI_rem ha ha2 hb0 hb2]; exact (kk H locs ls hP hD hS hl))
theorem V_ior (hX : VS X l G y cc R nL) {a b : Int32} (d : decode cc pc = .ok (.ior, 1)) (kk : V X k n w lv (pc + 1) (.int (a ||| b) :: st)) : V X k n w lv pc (.int b :: .int a :: st) := by
  obtain ⟨p0, e0, s0, m0, args0, below0, meth0, c0, A0, Q0, rfl, hx, hb, hml, hown, hK, hA, hlocks, hnm⟩ := hX
  intro H locs ls hP hD hS hl
  exact lv_ior hx hb d (kk H locs ls hP hD hS hl)
theorem V_iand (hX : VS X l G y cc R nL) {a b : Int32} (d : decode cc pc = .ok (.iand, 1)) (kk : V X k n w lv (pc + 1) (.int (a &&& b) :: st)) : V X k n w lv pc (.int b :: .int a :: st) := by
  obtain ⟨p0, e0, s0, m0, args0, below0, meth0, c0, A0, Q0, rfl, hx, hb, hml, hown, hK, hA, hlocks, hnm⟩ := hX
  intro H locs ls hP hD hS hl
  exact lv_iand hx hb d (kk H locs ls hP hD hS hl)
theorem V_ishl (hX : VS X l G y cc R nL) {a b : Int32} (d : decode cc pc = .ok (.ishl, 1)) (kk : V X k n w lv (pc + 1) (.int (a <<< (b &&& 31)) :: st)) : V X k n w lv pc (.int b :: .int a :: st) := by
  obtain ⟨p0, e0, s0, m0, args0, below0, meth0, c0, A0, Q0, rfl, hx, hb, hml, hown, hK, hA, hlocks, hnm⟩ := hX
  intro H locs ls hP hD hS hl
  exact lv_ishl hx hb d (kk H locs ls hP hD hS hl)
theorem V_ishr (hX : VS X l G y cc R nL) {a b : Int32} (d : decode cc pc = .ok (.ishr, 1)) (kk : V X k n w lv (pc + 1) (.int (a >>> (b &&& 31)) :: st)) : V X k n w lv pc (.int b :: .int a :: st) := by
  obtain ⟨p0, e0, s0, m0, args0, below0, meth0, c0, A0, Q0, rfl, hx, hb, hml, hown, hK, hA, hlocks, hnm⟩ := hX
  intro H locs ls hP hD hS hl
  exact lv_ishr hx hb d (kk H locs ls hP hD hS hl)
theorem V_i2c (hX : VS X l G y cc R nL) {a v : Int32} (d : decode cc pc = .ok (.i2c, 1)) (h : (a.toUInt32 % 65536).toInt32 = v) (kk : V X k n w lv (pc + 1) (.int v :: st)) : V X k n w lv pc (.int a :: st) := by
  obtain ⟨p0, e0, s0, m0, args0, below0, meth0, c0, A0, Q0, rfl, hx, hb, hml, hown, hK, hA, hlocks, hnm⟩ := hX
  intro H locs ls hP hD hS hl
  exact lv_i2c hx hb d h (kk H locs ls hP hD hS hl)
theorem V_dup (hX : VS X l G y cc R nL) {v : Value} (d : decode cc pc = .ok (.dup, 1)) (h : v.category = 1) (kk : V X k n w lv (pc + 1) (v :: v :: st)) : V X k n w lv pc (v :: st) := by
  obtain ⟨p0, e0, s0, m0, args0, below0, meth0, c0, A0, Q0, rfl, hx, hb, hml, hown, hK, hA, hlocks, hnm⟩ := hX
  intro H locs ls hP hD hS hl
  exact lv_dup hx hb d h (kk H locs ls hP hD hS hl)
theorem V_pop (hX : VS X l G y cc R nL) {v : Value} (d : decode cc pc = .ok (.pop, 1)) (h : v.category = 1) (kk : V X k n w lv (pc + 1) st) : V X k n w lv pc (v :: st) := by
  obtain ⟨p0, e0, s0, m0, args0, below0, meth0, c0, A0, Q0, rfl, hx, hb, hml, hown, hK, hA, hlocks, hnm⟩ := hX
  intro H locs ls hP hD hS hl
  exact lv_pop hx hb d h (kk H locs ls hP hD hS hl)
theorem V_dup2 (hX : VS X l G y cc R nL) {v u : Value} (d : decode cc pc = .ok (.dup2, 1)) (h : v.category = 1) (h2 : u.category = 1) (kk : V X k n w lv (pc + 1) (v :: u :: v :: u :: st)) : V X k n w lv pc (v :: u :: st) := by
  obtain ⟨p0, e0, s0, m0, args0, below0, meth0, c0, A0, Q0, rfl, hx, hb, hml, hown, hK, hA, hlocks, hnm⟩ := hX
  intro H locs ls hP hD hS hl
  exact lv_dup2_11 hx hb d h h2 (kk H locs ls hP hD hS hl)
theorem V_goto (hX : VS X l G y cc R nL) {off : Int} {tgt : Nat} (d : decode cc pc = .ok (.goto off, 3)) (ht : (pc : Int) + off = (tgt : Int)) (kk : V X k n w lv tgt st) : V X k n w lv pc st := by
  obtain ⟨p0, e0, s0, m0, args0, below0, meth0, c0, A0, Q0, rfl, hx, hb, hml, hown, hK, hA, hlocks, hnm⟩ := hX
  intro H locs ls hP hD hS hl
  exact lv_goto hx hb d ht (kk H locs ls hP hD hS hl)
theorem V_icmp_eq (hX : VS X l G y cc R nL) {a b : Int} {off : Int} {tgt : Nat} (d : decode cc pc = .ok (.if_icmp .eq off, 3)) (ht : (pc : Int) + off = (tgt : Int)) (ha : iR a) (hb2 : iR b) (kt : a = b → V X k n w lv tgt st) (kf : ¬ a = b → V X k n w lv (pc + 3) st) : V X k n w lv pc (.int (jI b) :: .int (jI a) :: st) := by
  obtain ⟨p0, e0, s0, m0, args0, below0, meth0, c0, A0, Q0, rfl, hx, hb, hml, hown, hK, hA, hlocks, hnm⟩ := hX
  intro H locs ls hP hD hS hl
  exact lv_icmp_eq hx hb d ht (fun h => kt ((jI_eq ha hb2).mp h) H locs ls hP hD hS hl) (fun h => kf (fun q => h ((jI_eq ha hb2).mpr q)) H locs ls hP hD hS hl)
theorem V_if_eq (hX : VS X l G y cc R nL) {a : Int} {off : Int} {tgt : Nat} (d : decode cc pc = .ok (.ifCond .eq off, 3)) (ht : (pc : Int) + off = (tgt : Int)) (ha : iR a) (kt : a = 0 → V X k n w lv tgt st) (kf : ¬ a = 0 → V X k n w lv (pc + 3) st) : V X k n w lv pc (.int (jI a) :: st) := by
  obtain ⟨p0, e0, s0, m0, args0, below0, meth0, c0, A0, Q0, rfl, hx, hb, hml, hown, hK, hA, hlocks, hnm⟩ := hX
  intro H locs ls hP hD hS hl
  have hz : iR 0 := by decide
  have h0 : (0 : Int32) = jI 0 := rfl
  exact lv_if_eq hx hb d ht (fun h => kt ((jI_eq ha hz).mp h) H locs ls hP hD hS hl) (fun h => kf (fun q => h ((jI_eq ha hz).mpr q)) H locs ls hP hD hS hl)
theorem V_icmp_ne (hX : VS X l G y cc R nL) {a b : Int} {off : Int} {tgt : Nat} (d : decode cc pc = .ok (.if_icmp .ne off, 3)) (ht : (pc : Int) + off = (tgt : Int)) (ha : iR a) (hb2 : iR b) (kt : ¬ a = b → V X k n w lv tgt st) (kf : a = b → V X k n w lv (pc + 3) st) : V X k n w lv pc (.int (jI b) :: .int (jI a) :: st) := by
  obtain ⟨p0, e0, s0, m0, args0, below0, meth0, c0, A0, Q0, rfl, hx, hb, hml, hown, hK, hA, hlocks, hnm⟩ := hX
  intro H locs ls hP hD hS hl
  exact lv_icmp_ne hx hb d ht (fun h => kt (fun q => h ((jI_eq ha hb2).mpr q)) H locs ls hP hD hS hl) (fun h => kf ((jI_eq ha hb2).mp h) H locs ls hP hD hS hl)
theorem V_if_ne (hX : VS X l G y cc R nL) {a : Int} {off : Int} {tgt : Nat} (d : decode cc pc = .ok (.ifCond .ne off, 3)) (ht : (pc : Int) + off = (tgt : Int)) (ha : iR a) (kt : ¬ a = 0 → V X k n w lv tgt st) (kf : a = 0 → V X k n w lv (pc + 3) st) : V X k n w lv pc (.int (jI a) :: st) := by
  obtain ⟨p0, e0, s0, m0, args0, below0, meth0, c0, A0, Q0, rfl, hx, hb, hml, hown, hK, hA, hlocks, hnm⟩ := hX
  intro H locs ls hP hD hS hl
  have hz : iR 0 := by decide
  have h0 : (0 : Int32) = jI 0 := rfl
  exact lv_if_ne hx hb d ht (fun h => kt (fun q => h ((jI_eq ha hz).mpr q)) H locs ls hP hD hS hl) (fun h => kf ((jI_eq ha hz).mp h) H locs ls hP hD hS hl)
theorem V_icmp_lt (hX : VS X l G y cc R nL) {a b : Int} {off : Int} {tgt : Nat} (d : decode cc pc = .ok (.if_icmp .lt off, 3)) (ht : (pc : Int) + off = (tgt : Int)) (ha : iR a) (hb2 : iR b) (kt : a < b → V X k n w lv tgt st) (kf : ¬ a < b → V X k n w lv (pc + 3) st) : V X k n w lv pc (.int (jI b) :: .int (jI a) :: st) := by
  obtain ⟨p0, e0, s0, m0, args0, below0, meth0, c0, A0, Q0, rfl, hx, hb, hml, hown, hK, hA, hlocks, hnm⟩ := hX
  intro H locs ls hP hD hS hl
  exact lv_icmp_lt hx hb d ht (fun h => kt ((jI_lt ha hb2).mp h) H locs ls hP hD hS hl) (fun h => kf (fun q => h ((jI_lt ha hb2).mpr q)) H locs ls hP hD hS hl)
theorem V_if_lt (hX : VS X l G y cc R nL) {a : Int} {off : Int} {tgt : Nat} (d : decode cc pc = .ok (.ifCond .lt off, 3)) (ht : (pc : Int) + off = (tgt : Int)) (ha : iR a) (kt : a < 0 → V X k n w lv tgt st) (kf : ¬ a < 0 → V X k n w lv (pc + 3) st) : V X k n w lv pc (.int (jI a) :: st) := by
  obtain ⟨p0, e0, s0, m0, args0, below0, meth0, c0, A0, Q0, rfl, hx, hb, hml, hown, hK, hA, hlocks, hnm⟩ := hX
  intro H locs ls hP hD hS hl
  have hz : iR 0 := by decide
  have h0 : (0 : Int32) = jI 0 := rfl
  exact lv_if_lt hx hb d ht (fun h => kt ((jI_lt ha hz).mp h) H locs ls hP hD hS hl) (fun h => kf (fun q => h ((jI_lt ha hz).mpr q)) H locs ls hP hD hS hl)
theorem V_icmp_ge (hX : VS X l G y cc R nL) {a b : Int} {off : Int} {tgt : Nat} (d : decode cc pc = .ok (.if_icmp .ge off, 3)) (ht : (pc : Int) + off = (tgt : Int)) (ha : iR a) (hb2 : iR b) (kt : b ≤ a → V X k n w lv tgt st) (kf : ¬ b ≤ a → V X k n w lv (pc + 3) st) : V X k n w lv pc (.int (jI b) :: .int (jI a) :: st) := by
  obtain ⟨p0, e0, s0, m0, args0, below0, meth0, c0, A0, Q0, rfl, hx, hb, hml, hown, hK, hA, hlocks, hnm⟩ := hX
  intro H locs ls hP hD hS hl
  exact lv_icmp_ge hx hb d ht (fun h => kt ((jI_le hb2 ha).mp h) H locs ls hP hD hS hl) (fun h => kf (fun q => h ((jI_le hb2 ha).mpr q)) H locs ls hP hD hS hl)
theorem V_if_ge (hX : VS X l G y cc R nL) {a : Int} {off : Int} {tgt : Nat} (d : decode cc pc = .ok (.ifCond .ge off, 3)) (ht : (pc : Int) + off = (tgt : Int)) (ha : iR a) (kt : 0 ≤ a → V X k n w lv tgt st) (kf : ¬ 0 ≤ a → V X k n w lv (pc + 3) st) : V X k n w lv pc (.int (jI a) :: st) := by
  obtain ⟨p0, e0, s0, m0, args0, below0, meth0, c0, A0, Q0, rfl, hx, hb, hml, hown, hK, hA, hlocks, hnm⟩ := hX
  intro H locs ls hP hD hS hl
  have hz : iR 0 := by decide
  have h0 : (0 : Int32) = jI 0 := rfl
  exact lv_if_ge hx hb d ht (fun h => kt ((jI_le hz ha).mp h) H locs ls hP hD hS hl) (fun h => kf (fun q => h ((jI_le hz ha).mpr q)) H locs ls hP hD hS hl)
theorem V_icmp_gt (hX : VS X l G y cc R nL) {a b : Int} {off : Int} {tgt : Nat} (d : decode cc pc = .ok (.if_icmp .gt off, 3)) (ht : (pc : Int) + off = (tgt : Int)) (ha : iR a) (hb2 : iR b) (kt : b < a → V X k n w lv tgt st) (kf : ¬ b < a → V X k n w lv (pc + 3) st) : V X k n w lv pc (.int (jI b) :: .int (jI a) :: st) := by
  obtain ⟨p0, e0, s0, m0, args0, below0, meth0, c0, A0, Q0, rfl, hx, hb, hml, hown, hK, hA, hlocks, hnm⟩ := hX
  intro H locs ls hP hD hS hl
  exact lv_icmp_gt hx hb d ht (fun h => kt ((jI_lt hb2 ha).mp h) H locs ls hP hD hS hl) (fun h => kf (fun q => h ((jI_lt hb2 ha).mpr q)) H locs ls hP hD hS hl)
theorem V_if_gt (hX : VS X l G y cc R nL) {a : Int} {off : Int} {tgt : Nat} (d : decode cc pc = .ok (.ifCond .gt off, 3)) (ht : (pc : Int) + off = (tgt : Int)) (ha : iR a) (kt : 0 < a → V X k n w lv tgt st) (kf : ¬ 0 < a → V X k n w lv (pc + 3) st) : V X k n w lv pc (.int (jI a) :: st) := by
  obtain ⟨p0, e0, s0, m0, args0, below0, meth0, c0, A0, Q0, rfl, hx, hb, hml, hown, hK, hA, hlocks, hnm⟩ := hX
  intro H locs ls hP hD hS hl
  have hz : iR 0 := by decide
  have h0 : (0 : Int32) = jI 0 := rfl
  exact lv_if_gt hx hb d ht (fun h => kt ((jI_lt hz ha).mp h) H locs ls hP hD hS hl) (fun h => kf (fun q => h ((jI_lt hz ha).mpr q)) H locs ls hP hD hS hl)
theorem V_icmp_le (hX : VS X l G y cc R nL) {a b : Int} {off : Int} {tgt : Nat} (d : decode cc pc = .ok (.if_icmp .le off, 3)) (ht : (pc : Int) + off = (tgt : Int)) (ha : iR a) (hb2 : iR b) (kt : a ≤ b → V X k n w lv tgt st) (kf : ¬ a ≤ b → V X k n w lv (pc + 3) st) : V X k n w lv pc (.int (jI b) :: .int (jI a) :: st) := by
  obtain ⟨p0, e0, s0, m0, args0, below0, meth0, c0, A0, Q0, rfl, hx, hb, hml, hown, hK, hA, hlocks, hnm⟩ := hX
  intro H locs ls hP hD hS hl
  exact lv_icmp_le hx hb d ht (fun h => kt ((jI_le ha hb2).mp h) H locs ls hP hD hS hl) (fun h => kf (fun q => h ((jI_le ha hb2).mpr q)) H locs ls hP hD hS hl)
theorem V_if_le (hX : VS X l G y cc R nL) {a : Int} {off : Int} {tgt : Nat} (d : decode cc pc = .ok (.ifCond .le off, 3)) (ht : (pc : Int) + off = (tgt : Int)) (ha : iR a) (kt : a ≤ 0 → V X k n w lv tgt st) (kf : ¬ a ≤ 0 → V X k n w lv (pc + 3) st) : V X k n w lv pc (.int (jI a) :: st) := by
  obtain ⟨p0, e0, s0, m0, args0, below0, meth0, c0, A0, Q0, rfl, hx, hb, hml, hown, hK, hA, hlocks, hnm⟩ := hX
  intro H locs ls hP hD hS hl
  have hz : iR 0 := by decide
  have h0 : (0 : Int32) = jI 0 := rfl
  exact lv_if_le hx hb d ht (fun h => kt ((jI_le ha hz).mp h) H locs ls hP hD hS hl) (fun h => kf (fun q => h ((jI_le ha hz).mpr q)) H locs ls hP hD hS hl)
def bI (c : Prop) [Decidable c] : Int := if c then 1 else 0
theorem bI_r (c : Prop) [Decidable c] : iR (bI c) := by unfold bI; split <;> decide
theorem bI_0 {c : Prop} [Decidable c] : bI c = 0 ↔ ¬ c := by unfold bI; split <;> simp_all
theorem V_ifz (hX : VS X l G y cc R nL) {c : Prop} [Decidable c] {off : Int} {tgt : Nat} (d : decode cc pc = .ok (.ifCond .eq off, 3)) (ht : (pc : Int) + off = (tgt : Int)) (kt : ¬ c → V X k n w lv tgt st) (kf : c → V X k n w lv (pc + 3) st) : V X k n w lv pc (.int (jI (bI c)) :: st) :=
  V_if_eq hX d ht (bI_r c) (fun h => kt (bI_0.mp h)) (fun h => kf (Decidable.not_not.mp (fun q => h (bI_0.mpr q))))
theorem V_ifnz (hX : VS X l G y cc R nL) {c : Prop} [Decidable c] {off : Int} {tgt : Nat} (d : decode cc pc = .ok (.ifCond .ne off, 3)) (ht : (pc : Int) + off = (tgt : Int)) (kt : c → V X k n w lv tgt st) (kf : ¬ c → V X k n w lv (pc + 3) st) : V X k n w lv pc (.int (jI (bI c)) :: st) :=
  V_if_ne hX d ht (bI_r c) (fun h => kt (Decidable.not_not.mp (fun q => h (bI_0.mpr q)))) (fun h => kf (bI_0.mp h))
theorem V_tableIn (hX : VS X l G y cc R nL) {a : Int} (c : Int) {dflt lo hi off : Int} {offs : Array Int} {len tgt : Nat} (d : decode cc pc = .ok (.tableswitch dflt lo hi offs, len)) (ha : a = c) (h0 : (jI c).toInt = c) (h1 : ¬ c < lo) (h2 : ¬ hi < c) (ho : offs[(c - lo).toNat]? = some off) (ht : (pc : Int) + off = (tgt : Int)) (kk : V X k n w lv tgt st) : V X k n w lv pc (.int (jI a) :: st) := by
  subst ha
  obtain ⟨p0, e0, s0, m0, args0, below0, meth0, c0, A0, Q0, rfl, hx, hb, hml, hown, hK, hA, hlocks, hnm⟩ := hX
  intro H locs ls hP hD hS hl
  exact lv_tableIn hx hb d (by rw [h0]; exact h1) (by rw [h0]; exact h2) (by rw [h0]; exact ho) ht (kk H locs ls hP hD hS hl)
theorem V_tableOut (hX : VS X l G y cc R nL) {a : Int} {dflt lo hi : Int} {offs : Array Int} {len tgt : Nat} (d : decode cc pc = .ok (.tableswitch dflt lo hi offs, len)) (ha : iR a) (h1 : a < lo ∨ hi < a) (ht : (pc : Int) + dflt = (tgt : Int)) (kk : V X k n w lv tgt st) : V X k n w lv pc (.int (jI a) :: st) := by
  obtain ⟨p0, e0, s0, m0, args0, below0, meth0, c0, A0, Q0, rfl, hx, hb, hml, hown, hK, hA, hlocks, hnm⟩ := hX
  intro H locs ls hP hD hS hl
  exact lv_tableOut hx hb d (by rw [jI_toInt ha]; exact h1) ht (kk H locs ls hP hD hS hl)
theorem V_lookup (hX : VS X l G y cc R nL) {a : Int} {dflt off : Int} {ps : Array (Int × Int)} {len tgt : Nat} (d : decode cc pc = .ok (.lookupswitch dflt ps, len)) (ha : iR a) (hp : (ps.toList.zip (ps.toList.drop 1)).all (fun (a, next) => a.1 < next.1) = true) (ho : Op.lookupswitch.offset ps.toList dflt a = off) (ht : (pc : Int) + off = (tgt : Int)) (kk : V X k n w lv tgt st) : V X k n w lv pc (.int (jI a) :: st) := by
  obtain ⟨p0, e0, s0, m0, args0, below0, meth0, c0, A0, Q0, rfl, hx, hb, hml, hown, hK, hA, hlocks, hnm⟩ := hX
  intro H locs ls hP hD hS hl
  exact lv_lookup hx hb d hp (by rw [jI_toInt ha]; exact ho) ht (kk H locs ls hP hD hS hl)
theorem V_fconst0 (hX : VS X l G y cc R nL) (d : decode cc pc = .ok (.fconst 0, 1)) (kk : V X k n w lv (pc + 1) (.float FP.fconst0 :: st)) : V X k n w lv pc st := by
  obtain ⟨p0, e0, s0, m0, args0, below0, meth0, c0, A0, Q0, rfl, hx, hb, hml, hown, hK, hA, hlocks, hnm⟩ := hX
  intro H locs ls hP hD hS hl
  exact lv_fconst0 hx hb d (kk H locs ls hP hD hS hl)
theorem V_fadd (hX : VS X l G y cc R nL) {a b r : UInt32} (d : decode cc pc = .ok (.fadd, 1)) (h : FP.fadd a b = r) (hn : vf_n32 r) (kk : V X k n w lv (pc + 1) (.float r :: st)) : V X k n w lv pc (.float b :: .float a :: st) := by
  obtain ⟨p0, e0, s0, m0, args0, below0, meth0, c0, A0, Q0, rfl, hx, hb, hml, hown, hK, hA, hlocks, hnm⟩ := hX
  intro H locs ls hP hD hS hl
  subst h; exact lv_fadd hx hb d hn (kk H locs ls hP hD hS hl)
theorem V_fmul (hX : VS X l G y cc R nL) {a b r : UInt32} (d : decode cc pc = .ok (.fmul, 1)) (h : FP.fmul a b = r) (hn : vf_n32 r) (kk : V X k n w lv (pc + 1) (.float r :: st)) : V X k n w lv pc (.float b :: .float a :: st) := by
  obtain ⟨p0, e0, s0, m0, args0, below0, meth0, c0, A0, Q0, rfl, hx, hb, hml, hown, hK, hA, hlocks, hnm⟩ := hX
  intro H locs ls hP hD hS hl
  subst h; exact lv_fmul hx hb d hn (kk H locs ls hP hD hS hl)
theorem V_fdiv (hX : VS X l G y cc R nL) {a b r : UInt32} (d : decode cc pc = .ok (.fdiv, 1)) (h : FP.fdiv a b = r) (hn : vf_n32 r) (kk : V X k n w lv (pc + 1) (.float r :: st)) : V X k n w lv pc (.float b :: .float a :: st) := by
  obtain ⟨p0, e0, s0, m0, args0, below0, meth0, c0, A0, Q0, rfl, hx, hb, hml, hown, hK, hA, hlocks, hnm⟩ := hX
  intro H locs ls hP hD hS hl
  subst h; exact lv_fdiv hx hb d hn (kk H locs ls hP hD hS hl)
theorem V_ddiv (hX : VS X l G y cc R nL) {a b r : UInt64} (d : decode cc pc = .ok (.ddiv, 1)) (h : FP.ddiv a b = r) (hn : vf_n64 r) (kk : V X k n w lv (pc + 1) (.double r :: st)) : V X k n w lv pc (.double b :: .double a :: st) := by
  obtain ⟨p0, e0, s0, m0, args0, below0, meth0, c0, A0, Q0, rfl, hx, hb, hml, hown, hK, hA, hlocks, hnm⟩ := hX
  intro H locs ls hP hD hS hl
  subst h; exact lv_ddiv hx hb d hn (kk H locs ls hP hD hS hl)
theorem V_f2d (hX : VS X l G y cc R nL) {a : UInt32} {r : UInt64} (d : decode cc pc = .ok (.f2d, 1)) (h : FP.f2d a = r) (hn : vf_n64 r) (kk : V X k n w lv (pc + 1) (.double r :: st)) : V X k n w lv pc (.float a :: st) := by
  obtain ⟨p0, e0, s0, m0, args0, below0, meth0, c0, A0, Q0, rfl, hx, hb, hml, hown, hK, hA, hlocks, hnm⟩ := hX
  intro H locs ls hP hD hS hl
  subst h; exact lv_f2d hx hb d hn (kk H locs ls hP hD hS hl)
theorem V_i2f (hX : VS X l G y cc R nL) {a : Int32} {r : UInt32} (d : decode cc pc = .ok (.i2f, 1)) (h : FP.i2f a = r) (kk : V X k n w lv (pc + 1) (.float r :: st)) : V X k n w lv pc (.int a :: st) := by
  obtain ⟨p0, e0, s0, m0, args0, below0, meth0, c0, A0, Q0, rfl, hx, hb, hml, hown, hK, hA, hlocks, hnm⟩ := hX
  intro H locs ls hP hD hS hl
  subst h; exact lv_i2f hx hb d (kk H locs ls hP hD hS hl)
theorem V_i2d (hX : VS X l G y cc R nL) {a : Int32} {r : UInt64} (d : decode cc pc = .ok (.i2d, 1)) (h : FP.i2d a = r) (kk : V X k n w lv (pc + 1) (.double r :: st)) : V X k n w lv pc (.int a :: st) := by
  obtain ⟨p0, e0, s0, m0, args0, below0, meth0, c0, A0, Q0, rfl, hx, hb, hml, hown, hK, hA, hlocks, hnm⟩ := hX
  intro H locs ls hP hD hS hl
  subst h; exact lv_i2d hx hb d (kk H locs ls hP hD hS hl)
theorem V_fcmp (hX : VS X l G y cc R nL) {a b : UInt32} {op : CmpOp} {r : Int32} (d : decode cc pc = .ok (.fcmp op, 1)) (h : Op.cmpValue (FP.fcmp a b) op = r) (kk : V X k n w lv (pc + 1) (.int r :: st)) : V X k n w lv pc (.float b :: .float a :: st) := by
  obtain ⟨p0, e0, s0, m0, args0, below0, meth0, c0, A0, Q0, rfl, hx, hb, hml, hown, hK, hA, hlocks, hnm⟩ := hX
  intro H locs ls hP hD hS hl
  subst h; exact lv_fcmp hx hb d (kk H locs ls hP hD hS hl)
theorem V_dcmp (hX : VS X l G y cc R nL) {a b : UInt64} {op : CmpOp} {r : Int32} (d : decode cc pc = .ok (.dcmp op, 1)) (h : Op.cmpValue (FP.dcmp a b) op = r) (kk : V X k n w lv (pc + 1) (.int r :: st)) : V X k n w lv pc (.double b :: .double a :: st) := by
  obtain ⟨p0, e0, s0, m0, args0, below0, meth0, c0, A0, Q0, rfl, hx, hb, hml, hown, hK, hA, hlocks, hnm⟩ := hX
  intro H locs ls hP hD hS hl
  subst h; exact lv_dcmp hx hb d (kk H locs ls hP hD hS hl)
def cB (ci : Nat) (C : String) (T : u_T) (N : Nat) (ty : Nat → FieldType) : Prop := vwCl[ci]? = some (C, T, N) ∧ (∀ w ∈ u_ws C T N, w ∈ lw_tbl ∧ v_ok w = true) ∧ (∀ k, k < N → parseFieldDescriptor (T k).2.2.1 = some (ty k)) ∧ (∀ a, a < N → ∀ b, b < N → a ≠ b → (T a).2.1 ≠ (T b).2.1)
theorem V_get (hX : VS X l G y cc R nL) {ci N : Nat} {C : String} {T : u_T} {ty : Nat → FieldType} (hc : cB ci C T N ty) {i : Nat} {a : Nat} {fs : List Value} {v : Value} (f q : Nat) (hf : f < N) (hw : Cond.fieldLink y.cls i C (T f).2.1 (T f).2.2.1 ∈ lw_tbl) (ho : v_ok (Cond.fieldLink y.cls i C (T f).2.1 (T f).2.2.1) = true) (hd : (T f).1 = C) (he : w[q]? = some (a, .inr (ci, fs))) (hv : fs[f]? = some v) (d : decode cc pc = .ok (.getfield i, 3)) (kk : V X k n w lv (pc + 3) (v :: st)) : V X k n w lv pc (.ref a :: st) := by
  obtain ⟨p0, e0, s0, m0, args0, below0, meth0, c0, A0, Q0, rfl, hx, hb, hml, hown, hK, hA, hlocks, hnm⟩ := hX
  intro H locs ls hP hD hS hl
  exact va_get (D := G.1) (cl := vwCl) (tys := vT G) (ci := ci) (C := C) (T := T) (N := N) (Ts := u_ws C T N) hx hb (fun w h => hK.use (hc.2.1 w h).1 (hc.2.1 w h).2) (fun _ h => h) hown hK.1 hP q he hc.1 f hf (hK.use hw ho) (fun x h => by rw [hd] at h; exact h) hv d (kk H locs ls hP hD hS hl)
theorem V_put (hX : VS X l G y cc R nL) {ci N : Nat} {C : String} {T : u_T} {ty : Nat → FieldType} (hc : cB ci C T N ty) {i : Nat} {a : Nat} {fs : List Value} {v : Value} (f q : Nat) (hf : f < N) (hw : Cond.fieldLink y.cls i C (T f).2.1 (T f).2.2.1 ∈ lw_tbl) (ho : v_ok (Cond.fieldLink y.cls i C (T f).2.1 (T f).2.2.1) = true) (hd : (T f).1 = C) (he : w[q]? = some (a, .inr (ci, fs))) (hfin : (T f).2.2.2 = false) (hn : narrow (ty f) v = v) (hfit : fits (ty f) v = true) (hl0 : f < fs.length) {w' : va_W} (d : decode cc pc = .ok (.putfield i, 3)) (hw' : w.set q (a, .inr (ci, fs.set f v)) = w') (kk : V X k n w' lv (pc + 3) st) : V X k n w lv pc (v :: .ref a :: st) := by
  subst hw'
  obtain ⟨p0, e0, s0, m0, args0, below0, meth0, c0, A0, Q0, rfl, hx, hb, hml, hown, hK, hA, hlocks, hnm⟩ := hX
  intro H locs ls hP hD hS hl
  exact va_put (D := G.1) (cl := vwCl) (tys := vT G) (ci := ci) (C := C) (T := T) (N := N) (Ts := u_ws C T N) hx hb (fun w h => hK.use (hc.2.1 w h).1 (hc.2.1 w h).2) (fun _ h => h) ty hc.2.2.1 hc.2.2.2 hown hK.1 hP hD hS q he hc.1 f hf (hK.use hw ho) (fun x h => by rw [hd] at h; exact h) hfin (hc.2.2.1 f hf) hn hfit hl0 d (fun H locs hP hD hS => (kk H locs ls hP hD hS hl))
theorem V_putF (hX : VS X l G y cc R nL) {ci N : Nat} {C : String} {T : u_T} {ty : Nat → FieldType} (hc : cB ci C T N ty) {i : Nat} {a : Nat} {fs : List Value} {v : Value} (f q : Nat) (hf : f < N) (hw : Cond.fieldLink y.cls i C (T f).2.1 (T f).2.2.1 ∈ lw_tbl) (ho : v_ok (Cond.fieldLink y.cls i C (T f).2.1 (T f).2.2.1) = true) (hd : (T f).1 = C) (he : w[q]? = some (a, .inr (ci, fs))) (hfin : (T f).2.2.2 = true) (hin : y.name = "<init>") (hde : (T f).1 = y.cls) (hn : narrow (ty f) v = v) (hfit : fits (ty f) v = true) (hl0 : f < fs.length) {w' : va_W} (d : decode cc pc = .ok (.putfield i, 3)) (hw' : w.set q (a, .inr (ci, fs.set f v)) = w') (kk : V X k n w' lv (pc + 3) st) : V X k n w lv pc (v :: .ref a :: st) := by
  subst hw'
  obtain ⟨p0, e0, s0, m0, args0, below0, meth0, c0, A0, Q0, rfl, hx, hb, hml, hown, hK, hA, hlocks, hnm⟩ := hX
  intro H locs ls hP hD hS hl
  exact va_putF (D := G.1) (cl := vwCl) (tys := vT G) (ci := ci) (C := C) (T := T) (N := N) (Ts := u_ws C T N) hx hb (fun w h => hK.use (hc.2.1 w h).1 (hc.2.1 w h).2) (fun _ h => h) ty hc.2.2.1 hc.2.2.2 hown hK.1 hP hD hS q he hc.1 f hf (hK.use hw ho) (fun x h => by rw [hd] at h; exact h) hfin (hnm.trans hin) hde (hc.2.2.1 f hf) hn hfit hl0 d (fun H locs hP hD hS => (kk H locs ls hP hD hS hl))
theorem V_getN (hX : VS X l G y cc R nL) {ci N : Nat} {C : String} {T : u_T} {ty : Nat → FieldType} (hc : cB ci C T N ty) {i : Nat} {a : Nat} {fs : List Value} {v : Value} {host : String} (f q : Nat) (hf : f < N) (hw : Cond.fieldLinkNest y.cls i C (T f).2.1 (T f).2.2.1 host ∈ lw_tbl) (ho : v_ok (Cond.fieldLinkNest y.cls i C (T f).2.1 (T f).2.2.1 host) = true) (hd : (T f).1 = C) (he : w[q]? = some (a, .inr (ci, fs))) (hv : fs[f]? = some v) (d : decode cc pc = .ok (.getfield i, 3)) (kk : V X k n w lv (pc + 3) (v :: st)) : V X k n w lv pc (.ref a :: st) := by
  obtain ⟨p0, e0, s0, m0, args0, below0, meth0, c0, A0, Q0, rfl, hx, hb, hml, hown, hK, hA, hlocks, hnm⟩ := hX
  intro H locs ls hP hD hS hl
  exact va_getN (D := G.1) (cl := vwCl) (tys := vT G) (ci := ci) (C := C) (T := T) (N := N) (Ts := u_ws C T N) hx hb (fun w h => hK.use (hc.2.1 w h).1 (hc.2.1 w h).2) (fun _ h => h) hown hK.1 hP q he hc.1 f hf (hK.use hw ho) (fun x h => by rw [hd] at h; exact h) hv d (kk H locs ls hP hD hS hl)
theorem V_putN (hX : VS X l G y cc R nL) {ci N : Nat} {C : String} {T : u_T} {ty : Nat → FieldType} (hc : cB ci C T N ty) {i : Nat} {a : Nat} {fs : List Value} {v : Value} {host : String} (f q : Nat) (hf : f < N) (hw : Cond.fieldLinkNest y.cls i C (T f).2.1 (T f).2.2.1 host ∈ lw_tbl) (ho : v_ok (Cond.fieldLinkNest y.cls i C (T f).2.1 (T f).2.2.1 host) = true) (hd : (T f).1 = C) (he : w[q]? = some (a, .inr (ci, fs))) (hfin : (T f).2.2.2 = false) (hn : narrow (ty f) v = v) (hfit : fits (ty f) v = true) (hl0 : f < fs.length) {w' : va_W} (d : decode cc pc = .ok (.putfield i, 3)) (hw' : w.set q (a, .inr (ci, fs.set f v)) = w') (kk : V X k n w' lv (pc + 3) st) : V X k n w lv pc (v :: .ref a :: st) := by
  subst hw'
  obtain ⟨p0, e0, s0, m0, args0, below0, meth0, c0, A0, Q0, rfl, hx, hb, hml, hown, hK, hA, hlocks, hnm⟩ := hX
  intro H locs ls hP hD hS hl
  exact va_putN (D := G.1) (cl := vwCl) (tys := vT G) (ci := ci) (C := C) (T := T) (N := N) (Ts := u_ws C T N) hx hb (fun w h => hK.use (hc.2.1 w h).1 (hc.2.1 w h).2) (fun _ h => h) ty hc.2.2.1 hc.2.2.2 hown hK.1 hP hD hS q he hc.1 f hf (hK.use hw ho) (fun x h => by rw [hd] at h; exact h) hfin (hc.2.2.1 f hf) hn hfit hl0 d (fun H locs hP hD hS => (kk H locs ls hP hD hS hl))
theorem V_iald (hX : VS X l G y cc R nL) {a m i0 : Nat} {f : Nat → Int32} {i : Int} (q : Nat) (he : w[q]? = some (a, .inl (G.2.1, m, .inl f))) (h0 : 0 ≤ i) (h1 : i < m) (hm : m ≤ 2147483647) (hi : i.toNat = i0) {r : Int32} (hr : f i0 = r) (d : decode cc pc = .ok (.iaload, 1)) (kk : V X k n w lv (pc + 1) (.int r :: st)) : V X k n w lv pc (.int (jI i) :: .ref a :: st) := by
  obtain ⟨p0, e0, s0, m0, args0, below0, meth0, c0, A0, Q0, rfl, hx, hb, hml, hown, hK, hA, hlocks, hnm⟩ := hX
  intro H locs ls hP hD hS hl
  subst hr; subst hi; exact va_iald (tys := vT G) hx hb hK.1 hP q 0 he rfl (jI_in h0 h1 hm) d (by rw [jI_clamp h0 (by omega)]; exact (kk H locs ls hP hD hS hl))
theorem V_iast (hX : VS X l G y cc R nL) {a m i0 : Nat} {f : Nat → Int32} {i : Int} {v : Int32} (q : Nat) (he : w[q]? = some (a, .inl (G.2.1, m, .inl f))) (h0 : 0 ≤ i) (h1 : i < m) (hm : m ≤ 2147483647) (hi : i.toNat = i0) {w' : va_W} (d : decode cc pc = .ok (.iastore, 1)) (hw' : w.set q (a, .inl (G.2.1, m, .inl (upd f i0 v))) = w') (kk : V X k n w' lv (pc + 1) st) : V X k n w lv pc (.int v :: .int (jI i) :: .ref a :: st) := by
  subst hw'
  subst hi
  obtain ⟨p0, e0, s0, m0, args0, below0, meth0, c0, A0, Q0, rfl, hx, hb, hml, hown, hK, hA, hlocks, hnm⟩ := hX
  intro H locs ls hP hD hS hl
  exact va_iast (tys := vT G) hx hb hK.1 hP hD hS q 0 he rfl (jI_in h0 h1 hm) d (by rw [jI_clamp h0 (by omega)]; exact fun H locs hP hD hS => (kk H locs ls hP hD hS hl))
theorem V_fald (hX : VS X l G y cc R nL) {a m i0 : Nat} {f : Nat → UInt32} {i : Int} (q : Nat) (he : w[q]? = some (a, .inl (G.2.2.1, m, .inr (.inr (.inl f))))) (h0 : 0 ≤ i) (h1 : i < m) (hm : m ≤ 2147483647) (hi : i.toNat = i0) {r : UInt32} (hr : f i0 = r) (d : decode cc pc = .ok (.faload, 1)) (kk : V X k n w lv (pc + 1) (.float r :: st)) : V X k n w lv pc (.int (jI i) :: .ref a :: st) := by
  obtain ⟨p0, e0, s0, m0, args0, below0, meth0, c0, A0, Q0, rfl, hx, hb, hml, hown, hK, hA, hlocks, hnm⟩ := hX
  intro H locs ls hP hD hS hl
  subst hr; subst hi; exact va_fald (tys := vT G) hx hb hK.1 hP q 1 he rfl (jI_in h0 h1 hm) d (by rw [jI_clamp h0 (by omega)]; exact (kk H locs ls hP hD hS hl))
theorem V_fast (hX : VS X l G y cc R nL) {a m i0 : Nat} {f : Nat → UInt32} {i : Int} {v : UInt32} (q : Nat) (he : w[q]? = some (a, .inl (G.2.2.1, m, .inr (.inr (.inl f))))) (h0 : 0 ≤ i) (h1 : i < m) (hm : m ≤ 2147483647) (hi : i.toNat = i0) {w' : va_W} (d : decode cc pc = .ok (.fastore, 1)) (hw' : w.set q (a, .inl (G.2.2.1, m, .inr (.inr (.inl (vf_upd f i0 v))))) = w') (kk : V X k n w' lv (pc + 1) st) : V X k n w lv pc (.float v :: .int (jI i) :: .ref a :: st) := by
  subst hw'
  subst hi
  obtain ⟨p0, e0, s0, m0, args0, below0, meth0, c0, A0, Q0, rfl, hx, hb, hml, hown, hK, hA, hlocks, hnm⟩ := hX
  intro H locs ls hP hD hS hl
  exact va_fast (tys := vT G) hx hb hK.1 hP hD hS q 1 he rfl (jI_in h0 h1 hm) d (by rw [jI_clamp h0 (by omega)]; exact fun H locs hP hD hS => (kk H locs ls hP hD hS hl))
theorem V_cald (hX : VS X l G y cc R nL) {a m i0 : Nat} {f : Nat → Int32} {i : Int} (q : Nat) (he : w[q]? = some (a, .inl (G.2.2.2.1, m, .inl f))) (h0 : 0 ≤ i) (h1 : i < m) (hm : m ≤ 2147483647) (hi : i.toNat = i0) {r : Int32} (hr : f i0 = r) (d : decode cc pc = .ok (.caload, 1)) (kk : V X k n w lv (pc + 1) (.int r :: st)) : V X k n w lv pc (.int (jI i) :: .ref a :: st) := by
  obtain ⟨p0, e0, s0, m0, args0, below0, meth0, c0, A0, Q0, rfl, hx, hb, hml, hown, hK, hA, hlocks, hnm⟩ := hX
  intro H locs ls hP hD hS hl
  subst hr; subst hi; exact va_cald (tys := vT G) hx hb hK.1 hP q 2 he rfl (jI_in h0 h1 hm) d (by rw [jI_clamp h0 (by omega)]; exact (kk H locs ls hP hD hS hl))
theorem V_cast (hX : VS X l G y cc R nL) {a m i0 : Nat} {f : Nat → Int32} {i : Int} {v : Int32} (q : Nat) (he : w[q]? = some (a, .inl (G.2.2.2.1, m, .inl f))) (h0 : 0 ≤ i) (h1 : i < m) (hm : m ≤ 2147483647) (hi : i.toNat = i0) {w' : va_W} (d : decode cc pc = .ok (.castore, 1)) (hw' : w.set q (a, .inl (G.2.2.2.1, m, .inl (upd f i0 (vp_nar .char v)))) = w') (kk : V X k n w' lv (pc + 1) st) : V X k n w lv pc (.int v :: .int (jI i) :: .ref a :: st) := by
  subst hw'
  subst hi
  obtain ⟨p0, e0, s0, m0, args0, below0, meth0, c0, A0, Q0, rfl, hx, hb, hml, hown, hK, hA, hlocks, hnm⟩ := hX
  intro H locs ls hP hD hS hl
  exact va_cast (tys := vT G) hx hb hK.1 hP hD hS q 2 he rfl (jI_in h0 h1 hm) d (by rw [jI_clamp h0 (by omega)]; exact fun H locs hP hD hS => (kk H locs ls hP hD hS hl))
theorem V_aald (hX : VS X l G y cc R nL) {a m i0 : Nat} {f : Nat → Option Nat} {i : Int} {r : Value} (q : Nat) (he : w[q]? = some (a, .inl (G.2.2.2.2, m, .inr (.inr (.inr (.inr f)))))) (h0 : 0 ≤ i) (h1 : i < m) (hm : m ≤ 2147483647) (hi : i.toNat = i0) (hr : va_rf (f i0) = r) (d : decode cc pc = .ok (.aaload, 1)) (kk : V X k n w lv (pc + 1) (r :: st)) : V X k n w lv pc (.int (jI i) :: .ref a :: st) := by
  obtain ⟨p0, e0, s0, m0, args0, below0, meth0, c0, A0, Q0, rfl, hx, hb, hml, hown, hK, hA, hlocks, hnm⟩ := hX
  intro H locs ls hP hD hS hl
  subst hi; subst hr; exact va_aldq (tys := vT G) hx hb hK.1 hP q 3 he rfl (jI_in h0 h1 hm) d (by rw [jI_clamp h0 (by omega)]; exact (kk H locs ls hP hD hS hl))
theorem V_aast (hX : VS X l G y cc R nL) {a m i0 b : Nat} {f : Nat → Option Nat} {i : Int} {vs : List Value} (q qk : Nat) (he : w[q]? = some (a, .inl (G.2.2.2.2, m, .inr (.inr (.inr (.inr f)))))) (hv : w[qk]? = some (b, .inr (1, vs))) (h0 : 0 ≤ i) (h1 : i < m) (hm : m ≤ 2147483647) (hi : i.toNat = i0) {w' : va_W} (d : decode cc pc = .ok (.aastore, 1)) (hw' : w.set q (a, .inl (G.2.2.2.2, m, .inr (.inr (.inr (.inr (va_up f i0 (some b))))))) = w') (kk : V X k n w' lv (pc + 1) st) : V X k n w lv pc (.ref b :: .int (jI i) :: .ref a :: st) := by
  subst hw'
  subst hi
  obtain ⟨p0, e0, s0, m0, args0, below0, meth0, c0, A0, Q0, rfl, hx, hb, hml, hown, hK, hA, hlocks, hnm⟩ := hX
  intro H locs ls hP hD hS hl
  exact va_astq (tys := vT G) (r := (RX1, TX1, 17)) hx hb hK.1 hP hD hS q 3 qk 1 he rfl hv rfl (jI_in h0 h1 hm) d (by rw [jI_clamp h0 (by omega)]; exact fun H locs hP hD hS => (kk H locs ls hP hD hS hl))
theorem V_ilen (hX : VS X l G y cc R nL) {a m : Nat} {xx : (Nat → Int32) ⊕ (Nat → Int64) ⊕ (Nat → UInt32) ⊕ (Nat → UInt64) ⊕ (Nat → Option Nat)} {b : Int} (q : Nat) (he : w[q]? = some (a, .inl (G.2.1, m, xx))) (hb2 : (m : Int) = b) (d : decode cc pc = .ok (.arraylength, 1)) (kk : V X k n w lv (pc + 1) (.int (jI b) :: st)) : V X k n w lv pc (.ref a :: st) := by
  obtain ⟨p0, e0, s0, m0, args0, below0, meth0, c0, A0, Q0, rfl, hx, hb, hml, hown, hK, hA, hlocks, hnm⟩ := hX
  intro H locs ls hP hD hS hl
  subst hb2; exact va_alen (tys := vT G) hx hb hK.1 hP q 0 he rfl (jI_nI m) d (kk H locs ls hP hD hS hl)
theorem V_olen (hX : VS X l G y cc R nL) {a m : Nat} {xx : (Nat → Int32) ⊕ (Nat → Int64) ⊕ (Nat → UInt32) ⊕ (Nat → UInt64) ⊕ (Nat → Option Nat)} {b : Int} (q : Nat) (he : w[q]? = some (a, .inl (G.2.2.2.2, m, xx))) (hb2 : (m : Int) = b) (d : decode cc pc = .ok (.arraylength, 1)) (kk : V X k n w lv (pc + 1) (.int (jI b) :: st)) : V X k n w lv pc (.ref a :: st) := by
  obtain ⟨p0, e0, s0, m0, args0, below0, meth0, c0, A0, Q0, rfl, hx, hb, hml, hown, hK, hA, hlocks, hnm⟩ := hX
  intro H locs ls hP hD hS hl
  subst hb2; exact va_alen (tys := vT G) hx hb hK.1 hP q 3 he rfl (jI_nI m) d (kk H locs ls hP hD hS hl)
theorem V_icmp_eqv (hX : VS X l G y cc R nL) {a b : Int32} {off : Int} {tgt : Nat} (d : decode cc pc = .ok (.if_icmp .eq off, 3)) (ht : (pc : Int) + off = (tgt : Int)) (h : a = b) (kt : V X k n w lv tgt st) : V X k n w lv pc (.int b :: .int a :: st) := by
  obtain ⟨p0, e0, s0, m0, args0, below0, meth0, c0, A0, Q0, rfl, hx, hb, hml, hown, hK, hA, hlocks, hnm⟩ := hX
  intro H locs ls hP hD hS hl
  exact lv_icmp_eq hx hb d ht (fun _ => kt H locs ls hP hD hS hl) (fun q => absurd h q)
theorem V_objInit (hX : VS X l G y cc R nL) {i a : Nat} (d : decode cc pc = .ok (.invokespecial i, 3)) (h1 : Cond.methodLink y.cls i objectInit ∈ lw_tbl) (hf : 1 ≤ R.frames) (hlo : (st.map fun v => v.category).sum + 12 ≤ R.locals) (kk : V X k n w lv (pc + 3) st) : V X k n w lv pc (.ref a :: st) := by
  obtain ⟨p0, e0, s0, m0, args0, below0, meth0, c0, A0, Q0, rfl, hx, hb, hml, hown, hK, hA, hlocks, hnm⟩ := hX
  intro H locs ls hP hD hS hl
  refine W.objInit hx hb hown (hK.use h1 rfl) (hK.use (w := .instanceMethod objectInit) (by decide +kernel) rfl) (hK.use (w := .code objectInit ⟨#[0xb1]⟩ 1 none) (by decide +kernel) rfl) rfl (by rw [hml]; exact hl.1) rfl d hf ?_ ?_
  · show 2 * 0 + _ + 12 ≤ _
    omega
  · exact kk H locs ls hP hD hS hl
theorem V_new (hX : VS X l G y cc R nL) {i ci N : Nat} {C : String} {T : u_T} {ty : Nat → FieldType} {fs : List Value} (hc : cB ci C T N ty) (hw : Cond.classLink y.cls i C ∈ lw_tbl) (hi : Cond.instantiable C N ∈ lw_tbl) (hini : Cond.initialized C ∈ lw_tbl) (hfs : ∀ j, j < N → defaultValue (ty j) = vp_V fs j) (hk : k + 1 ≤ R.cells) (hn : n + N ≤ R.slots) (d : decode cc pc = .ok (.new i, 3)) {k' n' : Nat} (hk' : k + 1 = k') (hn' : n + N = n') (kk : ∀ q : Nat, V X k' n' (w ++ [(q, .inr (ci, fs))]) lv (pc + 3) (.ref q :: st)) : V X k n w lv pc st := by
  subst hk'; subst hn'
  obtain ⟨p0, e0, s0, m0, args0, below0, meth0, c0, A0, Q0, rfl, hx, hb, hml, hown, hK, hA, hlocks, hnm⟩ := hX
  intro H locs ls hP hD hS hl
  exact va_new (D := G.1) (cl := vwCl) (tys := vT G) (ci := ci) (C := C) (T := T) (N := N) (Ts := u_ws C T N) hx hb (fun w h => hK.use (hc.2.1 w h).1 (hc.2.1 w h).2) (fun _ h => h) ty hc.2.2.1 hown (hK.use hw rfl) (hK.use hi rfl) (hK.use hini rfl) hK.1 hP hD hS hA hc.1 hfs hk hn d (fun q H hP hD hS => kk q H locs ls hP hD hS hl)
theorem V_newai (hX : VS X l G y cc R nL) {N : Nat} (hN2 : N ≤ 100000) (hk : k + 1 ≤ R.cells) (hn : n + N ≤ R.slots) (d : decode cc pc = .ok (.newarray .int, 2)) {k' n' : Nat} (hk' : k + 1 = k') (hn' : n + N = n') (kk : ∀ q : Nat, V X k' n' (w ++ [(q, .inl (G.2.1, (N, .inl (fun _ => 0))))]) lv (pc + 2) (.ref q :: st)) : V X k n w lv pc (.int (jI N) :: st) := by
  subst hk'; subst hn'
  obtain ⟨p0, e0, s0, m0, args0, below0, meth0, c0, A0, Q0, rfl, hx, hb, hml, hown, hK, hA, hlocks, hnm⟩ := hX
  intro H locs ls hP hD hS hl
  refine va_newa (atype := .int) (ty := .int) (N' := N) (a0 := (N, .inl (fun _ => 0))) hx hb (hK.2.2.1 args0).1 rfl hK.1 hP hD hS hA (fun cA => rfl) (fun h => ?_) ?_ ?_ hk hn d (fun q cA H hK1 hP hD hS => ?_)
  · have h2 := (jI_lt (a := N) (b := 0) ⟨by omega, by omega⟩ ⟨by omega, by omega⟩).mp h; omega
  · rw [jI_clamp (by omega) (by omega)]; rfl
  · have : componentBytes .int ≤ 8 := by decide
    exact Nat.le_trans (Nat.mul_le_mul_left N this) (by omega)
  · have e1 := (hK1.2 4 (cA, .int) rfl).2
    have e2 := (hK.1.2 0 (G.2.1, .int) rfl).2
    have e3 : cA = G.2.1 := Option.some.inj (Eq.trans (Eq.symm e1) e2)
    rw [e3] at hP hD
    exact kk q H locs ls hP hD hS hl
theorem V_newaf (hX : VS X l G y cc R nL) {N : Nat} (hN2 : N ≤ 100000) (hk : k + 1 ≤ R.cells) (hn : n + N ≤ R.slots) (d : decode cc pc = .ok (.newarray .float, 2)) {k' n' : Nat} (hk' : k + 1 = k') (hn' : n + N = n') (kk : ∀ q : Nat, V X k' n' (w ++ [(q, .inl (G.2.2.1, (N, .inr (.inr (.inl (fun _ => 0))))))]) lv (pc + 2) (.ref q :: st)) : V X k n w lv pc (.int (jI N) :: st) := by
  subst hk'; subst hn'
  obtain ⟨p0, e0, s0, m0, args0, below0, meth0, c0, A0, Q0, rfl, hx, hb, hml, hown, hK, hA, hlocks, hnm⟩ := hX
  intro H locs ls hP hD hS hl
  refine va_newa (atype := .float) (ty := .float) (N' := N) (a0 := (N, .inr (.inr (.inl (fun _ => 0))))) hx hb (hK.2.2.1 args0).2.1 rfl hK.1 hP hD hS hA (fun cA => rfl) (fun h => ?_) ?_ ?_ hk hn d (fun q cA H hK1 hP hD hS => ?_)
  · have h2 := (jI_lt (a := N) (b := 0) ⟨by omega, by omega⟩ ⟨by omega, by omega⟩).mp h; omega
  · rw [jI_clamp (by omega) (by omega)]; rfl
  · have : componentBytes .float ≤ 8 := by decide
    exact Nat.le_trans (Nat.mul_le_mul_left N this) (by omega)
  · have e1 := (hK1.2 4 (cA, .float) rfl).2
    have e2 := (hK.1.2 1 (G.2.2.1, .float) rfl).2
    have e3 : cA = G.2.2.1 := Option.some.inj (Eq.trans (Eq.symm e1) e2)
    rw [e3] at hP hD
    exact kk q H locs ls hP hD hS hl
theorem V_newac (hX : VS X l G y cc R nL) {N : Nat} (hN2 : N ≤ 100000) (hk : k + 1 ≤ R.cells) (hn : n + N ≤ R.slots) (d : decode cc pc = .ok (.newarray .char, 2)) {k' n' : Nat} (hk' : k + 1 = k') (hn' : n + N = n') (kk : ∀ q : Nat, V X k' n' (w ++ [(q, .inl (G.2.2.2.1, (N, .inl (fun _ => 0))))]) lv (pc + 2) (.ref q :: st)) : V X k n w lv pc (.int (jI N) :: st) := by
  subst hk'; subst hn'
  obtain ⟨p0, e0, s0, m0, args0, below0, meth0, c0, A0, Q0, rfl, hx, hb, hml, hown, hK, hA, hlocks, hnm⟩ := hX
  intro H locs ls hP hD hS hl
  refine va_newa (atype := .char) (ty := .char) (N' := N) (a0 := (N, .inl (fun _ => 0))) hx hb (hK.2.2.1 args0).2.2 rfl hK.1 hP hD hS hA (fun cA => rfl) (fun h => ?_) ?_ ?_ hk hn d (fun q cA H hK1 hP hD hS => ?_)
  · have h2 := (jI_lt (a := N) (b := 0) ⟨by omega, by omega⟩ ⟨by omega, by omega⟩).mp h; omega
  · rw [jI_clamp (by omega) (by omega)]; rfl
  · have : componentBytes .char ≤ 8 := by decide
    exact Nat.le_trans (Nat.mul_le_mul_left N this) (by omega)
  · have e1 := (hK1.2 4 (cA, .char) rfl).2
    have e2 := (hK.1.2 2 (G.2.2.2.1, .char) rfl).2
    have e3 : cA = G.2.2.2.1 := Option.some.inj (Eq.trans (Eq.symm e1) e2)
    rw [e3] at hP hD
    exact kk q H locs ls hP hD hS hl
theorem V_newq (hX : VS X l G y cc R nL) {i N : Nat} (hN2 : N ≤ 100000) (hw : Cond.classLink y.cls i RX1 ∈ lw_tbl) (hk : k + 1 ≤ R.cells) (hn : n + N ≤ R.slots) (d : decode cc pc = .ok (.anewarray i, 3)) {k' n' : Nat} (hk' : k + 1 = k') (hn' : n + N = n') (kk : ∀ q : Nat, V X k' n' (w ++ [(q, .inl (G.2.2.2.2, N, .inr (.inr (.inr (.inr (fun _ => none))))))]) lv (pc + 3) (.ref q :: st)) : V X k n w lv pc (.int (jI N) :: st) := by
  subst hk'; subst hn'
  obtain ⟨p0, e0, s0, m0, args0, below0, meth0, c0, A0, Q0, rfl, hx, hb, hml, hown, hK, hA, hlocks, hnm⟩ := hX
  intro H locs ls hP hD hS hl
  refine va_newq (C := RX1) (N' := N) hx hb hown (hK.use hw rfl) hK.2.2.2 hK.1 hP hD hS hA (fun h => ?_) ?_ ?_ hk hn d (fun q cA H hK1 hP hD hS => ?_)
  · have h2 := (jI_lt (a := N) (b := 0) ⟨by omega, by omega⟩ ⟨by omega, by omega⟩).mp h; omega
  · rw [jI_clamp (by omega) (by omega)]; rfl
  · omega
  · obtain ⟨x1, x2, x3, x4, x5, e1⟩ := (hK1.2 4 (cA, .object RX1) rfl).2
    obtain ⟨z1, z2, z3, z4, z5, e2⟩ := (hK.1.2 3 (G.2.2.2.2, .object RX1) rfl).2
    have e3 : cA = G.2.2.2.2 := Option.some.inj (Eq.trans (Eq.symm e1) e2)
    rw [e3] at hP hD
    exact kk q H locs ls hP hD hS hl
end VRows
