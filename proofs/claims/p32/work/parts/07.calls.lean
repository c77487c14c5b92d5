section VCalls
variable {X : vX} {l : Launch} {G : vC} {y : MethodName} {cc : ByteArray} {R : Room} {nL k n pc : Nat} {w : va_W} {lv : List (Nat × Value)} {st : List Value}
theorem vr_call {p : Program} {l : Launch} {e : Env} {R : Room} {s : State} {m : MethodId} {args : Array Value} {below : List Frame} {meth : Method} {c : Code} {H H0 : Heap} {locs : List Loc} {cells slots mc ms pc : Nat} {ls : Array Slot} {st0 rest : List Value} {Q : State → Prop} {G : vC} {post : Option Value → va_W → Prop} {A0 A1 free : Nat → Prop} {aa : Array Value}
    (hr : va_Run p l e R s m args below meth c H locs cells slots mc ms (F0 m pc ls st0) rest (vQ G post A1 aa) free) (hS : va_S A0 H0 H locs) (hA : ∀ q, q < H.size → A1 q → A0 q) (hf : ∀ q, free q → A0 q)
    (kk : ∀ (v : Option Value) (u : va_W) (H1 : Heap) (locs1 : List Loc), post v u → va_P G.1 vwCl u H1 → va_D A1 u → H.size ≤ H1.size → (∀ q : Nat, q < H.size → ¬ A1 q → H1[q]? = H[q]?) → va_S A0 H0 H1 locs1 → W p l e R s m args below meth c H1 locs1 (cells + mc) (slots + ms) Q (F0 m (pc + 3) ls (v.toList ++ rest))) : W p l e R s m args below meth c H locs cells slots Q (F0 m pc ls st0) := by
  intro T hT X
  obtain ⟨v, st₀, t, T', L, h0, X', hL, e1, e2, ⟨⟨v2, u, hv, hp, hb, hd⟩, hz, hk⟩, st⟩ := hr T hT X
  cases hv
  rw [h0] at hz hk
  obtain ⟨t2, a1, b1⟩ := kk v u T'.heap (locs ++ L) hp (by rw [e1]; exact hb) hd (by rw [e1]; exact hz) (fun q h1 h2 => by rw [e1]; exact hk q h1 h2)
    ⟨Nat.le_trans hS.1 (by rw [e1]; exact hz), fun q h1 h2 => by rw [e1, hk q (Nat.lt_of_lt_of_le h1 hS.1) (fun z => h2 (hA q (Nat.lt_of_lt_of_le h1 hS.1) z))]; exact hS.2.1 q h1 h2, fun q hq => by
      rcases List.mem_append.mp hq with h | h
      · exact hS.2.2 q h
      · exact hf _ (hL q h)⟩ T' rfl X'
  exact ⟨t2, st t2 a1, b1⟩
theorem Ct.blind {G : vC} {as : List Value} {w : va_W} {sz : Nat} : FrameBlind (va_Pc as (fun U => U.heap.size = sz ∧ va_P G.1 vwCl w U.heap ∧ vK G U ∧ va_D (fun _ => True) w)) := by
  intro a U g mk q
  obtain ⟨q0, q1, qP, qK, qD⟩ := q
  exact ⟨q0, q1, qP, qK.call, qD⟩
theorem fr_part {A : Nat → Prop} {D : va_G} {cl : List vw_C} {a wc b : va_W} {H : Heap} (hP : va_P D cl (a ++ (wc ++ b)) H) (hD : va_D A (a ++ (wc ++ b))) : va_P D cl wc H ∧ va_D (fun _ => True) wc := by
  constructor
  · exact vp_mem.mpr fun q hq => vp_mem.mp hP q (List.mem_append.mpr (Or.inr (List.mem_append.mpr (Or.inl hq))))
  · have h1 := (vd_mem.mp hD).1
    rw [List.map_append, List.map_append, List.nodup_append, List.nodup_append] at h1
    exact vd_mem.mpr ⟨h1.2.1.1, fun _ _ => trivial⟩
/-- what the tables say of a call (V) -/
def cw_V (own : String) (i : Nat) (C : String) (y : MethodName) (cc : ByteArray) (maxL : Nat) (ret : Option FieldType) (n : Nat) : Prop := Cond.methodLink own i y ∈ lw_tbl ∧ Cond.instanceMethod y ∈ lw_tbl ∧ Cond.initialized y.cls ∈ lw_tbl ∧ Cond.code y cc maxL ret ∈ lw_tbl ∧ (y.cls ≠ "java/lang/invoke/MethodHandle" ∧ y.cls ≠ "java/lang/invoke/VarHandle") ∧ (parseMethodDescriptor y.desc).map (fun d => d.parameters.length) = some n ∧ Cond.selects C y y ∈ lw_tbl
theorem V_rV (hX : VS X l G y cc R nL) {i n1 maxL : Nat} {C : String} {y2 : MethodName} {bytes : ByteArray} {ret : Option FieldType} {rm : Room} {b : Nat} {as st0 : List Value} {wc : va_W} {ci N : Nat} {T : u_T} {fs : List Value} (hw : cw_V y.cls i C y2 bytes maxL ret n1) {post : Option Value → va_W → Prop} (hM : Ct l G y2 bytes maxL ret rm (.ref b :: as) wc post) (hroom : rm.frames + 1 ≤ R.frames ∧ 8 + (maxL + 11) + rm.locals ≤ R.locals) (hcell : k + rm.cells ≤ R.cells ∧ n + rm.slots ≤ R.slots) (hn : as.length = n1) (hst : st0 = as.reverse ++ .ref b :: st) (hcat : (st.map fun v => v.category).sum ≤ 8) (d : decode cc pc = .ok (.invokevirtual i, 3)) (a b' : va_W) (hwd : w = a ++ (wc ++ b')) (q : Nat) (hq : w[q]? = some (b, .inr (ci, fs))) (hcl : vwCl[ci]? = some (C, T, N)) 
    (kk : ∀ (v : Option Value) (u : va_W), post v u → V X (k + rm.cells) (n + rm.slots) (a ++ (u ++ b')) lv (pc + 3) (v.toList ++ st)) : V X k n w lv pc st0 := by
  obtain ⟨p0, e0, s0, m0, args0, below0, meth0, c0, A0, Q0, rfl, hx, hb, hml, hown, hK, hA, hlocks, hnm⟩ := hX
  intro H locs ls hP hD hS hl
  obtain ⟨h1, h2, h3, h4, h5, h6, h7⟩ := hw
  subst hwd
  have hpt := fr_part hP hD
  have hF := fr_free hD hS.1 hA
  exact vr_call (va_runV (g := F0 m0 pc ls st0) (Ts := []) (rest := st) ⟨hx, hb, hml, hown, fun _ h => by cases h⟩ (hM H.size) ⟨⟨rfl, rfl, hroom.1, hroom.2, (fun w hw2 a' U hW => by rw [List.mem_singleton.mp hw2]; exact (vK.warm hW hK).use h4 rfl), List.mem_singleton.mpr rfl, hK.use h4 rfl, hK.use h3 rfl, h5, (fun sig h => by rw [h] at h6; exact (Option.some.inj h6).symm), hK.use h1 rfl⟩, hK.use h2 rfl, hK.use h7 rfl⟩ ⟨Ct.blind, va_recv hK.1 hP hcl hq, fun U hU hW => ⟨rfl, by rw [hU], by rw [hU]; exact hpt.1, vK.warm hW hK, hpt.2⟩⟩ rfl hn hl.1 hst (lv_room hcat) d hcell) hS (fun q _ h => hF q h) hF (fun v u H1 locs1 hpo hP1 hD1 hz1 hk1 hS1 => by
    obtain ⟨hP2, hD2⟩ := fr_join hP hD hk1 hF hP1 hD1
    exact kk v u hpo H1 locs1 ls hP2 hD2 hS1 hl)
theorem V_cV (hX : VS X l G y cc R nL) {i n1 maxL : Nat} {C : String} {y2 : MethodName} {bytes : ByteArray} {ret : Option FieldType} {rm : Room} {b : Nat} {as st0 : List Value} {wc : va_W} {ci N : Nat} {T : u_T} {fs : List Value} (hw : cw_V y.cls i C y2 bytes maxL ret n1) {v : Value} {wc' w' : va_W} {k' n' : Nat} (hM : Fn l G y2 bytes maxL ret rm (.ref b :: as) wc (some v) wc') (hroom : rm.frames + 1 ≤ R.frames ∧ 8 + (maxL + 11) + rm.locals ≤ R.locals) (hcell : k + rm.cells ≤ R.cells ∧ n + rm.slots ≤ R.slots) (hn : as.length = n1) (hst : st0 = as.reverse ++ .ref b :: st) (hcat : (st.map fun v => v.category).sum ≤ 8) (d : decode cc pc = .ok (.invokevirtual i, 3)) (a b' : va_W) (hwd : w = a ++ (wc ++ b')) (q : Nat) (hq : w[q]? = some (b, .inr (ci, fs))) (hcl : vwCl[ci]? = some (C, T, N)) (hw' : a ++ (wc' ++ b') = w') (hk : k + rm.cells = k') (hn' : n + rm.slots = n')
    (kk : V X k' n' w' lv (pc + 3) (v :: st)) : V X k n w lv pc st0 := by
  subst hk; subst hn'
  refine V_rV hX hw hM hroom hcell hn hst hcat d a b' hwd q hq hcl (fun v u h => ?_)
  obtain ⟨rfl, rfl⟩ := h
  rw [hw']
  exact kk
theorem V_dV (hX : VS X l G y cc R nL) {i n1 maxL : Nat} {C : String} {y2 : MethodName} {bytes : ByteArray} {ret : Option FieldType} {rm : Room} {b : Nat} {as st0 : List Value} {wc : va_W} {ci N : Nat} {T : u_T} {fs : List Value} (hw : cw_V y.cls i C y2 bytes maxL ret n1) {wc' w' : va_W} {k' n' : Nat} (hM : Fn l G y2 bytes maxL ret rm (.ref b :: as) wc none wc') (hroom : rm.frames + 1 ≤ R.frames ∧ 8 + (maxL + 11) + rm.locals ≤ R.locals) (hcell : k + rm.cells ≤ R.cells ∧ n + rm.slots ≤ R.slots) (hn : as.length = n1) (hst : st0 = as.reverse ++ .ref b :: st) (hcat : (st.map fun v => v.category).sum ≤ 8) (d : decode cc pc = .ok (.invokevirtual i, 3)) (a b' : va_W) (hwd : w = a ++ (wc ++ b')) (q : Nat) (hq : w[q]? = some (b, .inr (ci, fs))) (hcl : vwCl[ci]? = some (C, T, N)) (hw' : a ++ (wc' ++ b') = w') (hk : k + rm.cells = k') (hn' : n + rm.slots = n')
    (kk : V X k' n' w' lv (pc + 3) st) : V X k n w lv pc st0 := by
  subst hk; subst hn'
  refine V_rV hX hw hM hroom hcell hn hst hcat d a b' hwd q hq hcl (fun v u h => ?_)
  obtain ⟨rfl, rfl⟩ := h
  rw [hw']
  exact kk
/-- what the tables say of a call (VN) -/
def cw_VN (own : String) (i : Nat) (C : String) (y : MethodName) (host : String) (cc : ByteArray) (maxL : Nat) (ret : Option FieldType) (n : Nat) : Prop := Cond.methodLinkNest own i y host ∈ lw_tbl ∧ Cond.instanceMethod y ∈ lw_tbl ∧ Cond.initialized y.cls ∈ lw_tbl ∧ Cond.code y cc maxL ret ∈ lw_tbl ∧ (y.cls ≠ "java/lang/invoke/MethodHandle" ∧ y.cls ≠ "java/lang/invoke/VarHandle") ∧ (parseMethodDescriptor y.desc).map (fun d => d.parameters.length) = some n ∧ Cond.selects C y y ∈ lw_tbl
theorem V_rVN (hX : VS X l G y cc R nL) {i n1 maxL : Nat} {C : String} {y2 : MethodName} {host : String} {bytes : ByteArray} {ret : Option FieldType} {rm : Room} {b : Nat} {as st0 : List Value} {wc : va_W} {ci N : Nat} {T : u_T} {fs : List Value} (hw : cw_VN y.cls i C y2 host bytes maxL ret n1) {post : Option Value → va_W → Prop} (hM : Ct l G y2 bytes maxL ret rm (.ref b :: as) wc post) (hroom : rm.frames + 1 ≤ R.frames ∧ 8 + (maxL + 11) + rm.locals ≤ R.locals) (hcell : k + rm.cells ≤ R.cells ∧ n + rm.slots ≤ R.slots) (hn : as.length = n1) (hst : st0 = as.reverse ++ .ref b :: st) (hcat : (st.map fun v => v.category).sum ≤ 8) (d : decode cc pc = .ok (.invokevirtual i, 3)) (a b' : va_W) (hwd : w = a ++ (wc ++ b')) (q : Nat) (hq : w[q]? = some (b, .inr (ci, fs))) (hcl : vwCl[ci]? = some (C, T, N)) 
    (kk : ∀ (v : Option Value) (u : va_W), post v u → V X (k + rm.cells) (n + rm.slots) (a ++ (u ++ b')) lv (pc + 3) (v.toList ++ st)) : V X k n w lv pc st0 := by
  obtain ⟨p0, e0, s0, m0, args0, below0, meth0, c0, A0, Q0, rfl, hx, hb, hml, hown, hK, hA, hlocks, hnm⟩ := hX
  intro H locs ls hP hD hS hl
  obtain ⟨h1, h2, h3, h4, h5, h6, h7⟩ := hw
  subst hwd
  have hpt := fr_part hP hD
  have hF := fr_free hD hS.1 hA
  exact vr_call (va_runVN (g := F0 m0 pc ls st0) (Ts := []) (rest := st) ⟨hx, hb, hml, hown, fun _ h => by cases h⟩ (hM H.size) ⟨⟨⟨rfl, rfl, hroom.1, hroom.2, (fun w hw2 a' U hW => by rw [List.mem_singleton.mp hw2]; exact (vK.warm hW hK).use h4 rfl), List.mem_singleton.mpr rfl⟩, hK.use h4 rfl, hK.use h3 rfl, h5, (fun sig h => by rw [h] at h6; exact (Option.some.inj h6).symm), hK.use h1 rfl⟩, hK.use h2 rfl, hK.use h7 rfl⟩ ⟨Ct.blind, va_recv hK.1 hP hcl hq, fun U hU hW => ⟨rfl, by rw [hU], by rw [hU]; exact hpt.1, vK.warm hW hK, hpt.2⟩⟩ rfl hn hl.1 hst (lv_room hcat) d hcell) hS (fun q _ h => hF q h) hF (fun v u H1 locs1 hpo hP1 hD1 hz1 hk1 hS1 => by
    obtain ⟨hP2, hD2⟩ := fr_join hP hD hk1 hF hP1 hD1
    exact kk v u hpo H1 locs1 ls hP2 hD2 hS1 hl)
theorem V_cVN (hX : VS X l G y cc R nL) {i n1 maxL : Nat} {C : String} {y2 : MethodName} {host : String} {bytes : ByteArray} {ret : Option FieldType} {rm : Room} {b : Nat} {as st0 : List Value} {wc : va_W} {ci N : Nat} {T : u_T} {fs : List Value} (hw : cw_VN y.cls i C y2 host bytes maxL ret n1) {v : Value} {wc' w' : va_W} {k' n' : Nat} (hM : Fn l G y2 bytes maxL ret rm (.ref b :: as) wc (some v) wc') (hroom : rm.frames + 1 ≤ R.frames ∧ 8 + (maxL + 11) + rm.locals ≤ R.locals) (hcell : k + rm.cells ≤ R.cells ∧ n + rm.slots ≤ R.slots) (hn : as.length = n1) (hst : st0 = as.reverse ++ .ref b :: st) (hcat : (st.map fun v => v.category).sum ≤ 8) (d : decode cc pc = .ok (.invokevirtual i, 3)) (a b' : va_W) (hwd : w = a ++ (wc ++ b')) (q : Nat) (hq : w[q]? = some (b, .inr (ci, fs))) (hcl : vwCl[ci]? = some (C, T, N)) (hw' : a ++ (wc' ++ b') = w') (hk : k + rm.cells = k') (hn' : n + rm.slots = n')
    (kk : V X k' n' w' lv (pc + 3) (v :: st)) : V X k n w lv pc st0 := by
  subst hk; subst hn'
  refine V_rVN hX hw hM hroom hcell hn hst hcat d a b' hwd q hq hcl (fun v u h => ?_)
  obtain ⟨rfl, rfl⟩ := h
  rw [hw']
  exact kk
theorem V_dVN (hX : VS X l G y cc R nL) {i n1 maxL : Nat} {C : String} {y2 : MethodName} {host : String} {bytes : ByteArray} {ret : Option FieldType} {rm : Room} {b : Nat} {as st0 : List Value} {wc : va_W} {ci N : Nat} {T : u_T} {fs : List Value} (hw : cw_VN y.cls i C y2 host bytes maxL ret n1) {wc' w' : va_W} {k' n' : Nat} (hM : Fn l G y2 bytes maxL ret rm (.ref b :: as) wc none wc') (hroom : rm.frames + 1 ≤ R.frames ∧ 8 + (maxL + 11) + rm.locals ≤ R.locals) (hcell : k + rm.cells ≤ R.cells ∧ n + rm.slots ≤ R.slots) (hn : as.length = n1) (hst : st0 = as.reverse ++ .ref b :: st) (hcat : (st.map fun v => v.category).sum ≤ 8) (d : decode cc pc = .ok (.invokevirtual i, 3)) (a b' : va_W) (hwd : w = a ++ (wc ++ b')) (q : Nat) (hq : w[q]? = some (b, .inr (ci, fs))) (hcl : vwCl[ci]? = some (C, T, N)) (hw' : a ++ (wc' ++ b') = w') (hk : k + rm.cells = k') (hn' : n + rm.slots = n')
    (kk : V X k' n' w' lv (pc + 3) st) : V X k n w lv pc st0 := by
  subst hk; subst hn'
  refine V_rVN hX hw hM hroom hcell hn hst hcat d a b' hwd q hq hcl (fun v u h => ?_)
  obtain ⟨rfl, rfl⟩ := h
  rw [hw']
  exact kk
/-- what the tables say of a call (S) -/
def cw_S (own : String) (i : Nat) (y : MethodName) (cc : ByteArray) (maxL : Nat) (ret : Option FieldType) (n : Nat) : Prop := Cond.methodLink own i y ∈ lw_tbl ∧ Cond.static y ∈ lw_tbl ∧ Cond.initialized y.cls ∈ lw_tbl ∧ Cond.code y cc maxL ret ∈ lw_tbl ∧ (y.cls ≠ "java/lang/invoke/MethodHandle" ∧ y.cls ≠ "java/lang/invoke/VarHandle") ∧ (parseMethodDescriptor y.desc).map (fun d => d.parameters.length) = some n
theorem V_rS (hX : VS X l G y cc R nL) {i n1 maxL : Nat} {y2 : MethodName} {bytes : ByteArray} {ret : Option FieldType} {rm : Room} {as st0 : List Value} {wc : va_W} (hw : cw_S y.cls i y2 bytes maxL ret n1) {post : Option Value → va_W → Prop} (hM : Ct l G y2 bytes maxL ret rm (as) wc post) (hroom : rm.frames + 1 ≤ R.frames ∧ 8 + (maxL + 11) + rm.locals ≤ R.locals) (hcell : k + rm.cells ≤ R.cells ∧ n + rm.slots ≤ R.slots) (hn : as.length = n1) (hst : st0 = as.reverse ++ st) (hcat : (st.map fun v => v.category).sum ≤ 8) (d : decode cc pc = .ok (.invokestatic i, 3)) (a b' : va_W) (hwd : w = a ++ (wc ++ b')) 
    (kk : ∀ (v : Option Value) (u : va_W), post v u → V X (k + rm.cells) (n + rm.slots) (a ++ (u ++ b')) lv (pc + 3) (v.toList ++ st)) : V X k n w lv pc st0 := by
  obtain ⟨p0, e0, s0, m0, args0, below0, meth0, c0, A0, Q0, rfl, hx, hb, hml, hown, hK, hA, hlocks, hnm⟩ := hX
  intro H locs ls hP hD hS hl
  obtain ⟨h1, h2, h3, h4, h5, h6⟩ := hw
  subst hwd
  have hpt := fr_part hP hD
  have hF := fr_free hD hS.1 hA
  exact vr_call (va_runS (g := F0 m0 pc ls st0) (Ts := []) (rest := st) ⟨hx, hb, hml, hown, fun _ h => by cases h⟩ (hM H.size) ⟨⟨rfl, rfl, hroom.1, hroom.2, (fun w hw2 a' U hW => by rw [List.mem_singleton.mp hw2]; exact (vK.warm hW hK).use h4 rfl), List.mem_singleton.mpr rfl, hK.use h4 rfl, hK.use h3 rfl, h5, (fun sig h => by rw [h] at h6; exact (Option.some.inj h6).symm), hK.use h1 rfl⟩, hK.use h2 rfl⟩ ⟨Ct.blind, fun U hU hW => ⟨rfl, by rw [hU], by rw [hU]; exact hpt.1, vK.warm hW hK, hpt.2⟩⟩ rfl hn hl.1 hst (lv_room hcat) d hcell) hS (fun q _ h => hF q h) hF (fun v u H1 locs1 hpo hP1 hD1 hz1 hk1 hS1 => by
    obtain ⟨hP2, hD2⟩ := fr_join hP hD hk1 hF hP1 hD1
    exact kk v u hpo H1 locs1 ls hP2 hD2 hS1 hl)
theorem V_cS (hX : VS X l G y cc R nL) {i n1 maxL : Nat} {y2 : MethodName} {bytes : ByteArray} {ret : Option FieldType} {rm : Room} {as st0 : List Value} {wc : va_W} (hw : cw_S y.cls i y2 bytes maxL ret n1) {v : Value} {wc' w' : va_W} {k' n' : Nat} (hM : Fn l G y2 bytes maxL ret rm (as) wc (some v) wc') (hroom : rm.frames + 1 ≤ R.frames ∧ 8 + (maxL + 11) + rm.locals ≤ R.locals) (hcell : k + rm.cells ≤ R.cells ∧ n + rm.slots ≤ R.slots) (hn : as.length = n1) (hst : st0 = as.reverse ++ st) (hcat : (st.map fun v => v.category).sum ≤ 8) (d : decode cc pc = .ok (.invokestatic i, 3)) (a b' : va_W) (hwd : w = a ++ (wc ++ b')) (hw' : a ++ (wc' ++ b') = w') (hk : k + rm.cells = k') (hn' : n + rm.slots = n')
    (kk : V X k' n' w' lv (pc + 3) (v :: st)) : V X k n w lv pc st0 := by
  subst hk; subst hn'
  refine V_rS hX hw hM hroom hcell hn hst hcat d a b' hwd (fun v u h => ?_)
  obtain ⟨rfl, rfl⟩ := h
  rw [hw']
  exact kk
theorem V_dS (hX : VS X l G y cc R nL) {i n1 maxL : Nat} {y2 : MethodName} {bytes : ByteArray} {ret : Option FieldType} {rm : Room} {as st0 : List Value} {wc : va_W} (hw : cw_S y.cls i y2 bytes maxL ret n1) {wc' w' : va_W} {k' n' : Nat} (hM : Fn l G y2 bytes maxL ret rm (as) wc none wc') (hroom : rm.frames + 1 ≤ R.frames ∧ 8 + (maxL + 11) + rm.locals ≤ R.locals) (hcell : k + rm.cells ≤ R.cells ∧ n + rm.slots ≤ R.slots) (hn : as.length = n1) (hst : st0 = as.reverse ++ st) (hcat : (st.map fun v => v.category).sum ≤ 8) (d : decode cc pc = .ok (.invokestatic i, 3)) (a b' : va_W) (hwd : w = a ++ (wc ++ b')) (hw' : a ++ (wc' ++ b') = w') (hk : k + rm.cells = k') (hn' : n + rm.slots = n')
    (kk : V X k' n' w' lv (pc + 3) st) : V X k n w lv pc st0 := by
  subst hk; subst hn'
  refine V_rS hX hw hM hroom hcell hn hst hcat d a b' hwd (fun v u h => ?_)
  obtain ⟨rfl, rfl⟩ := h
  rw [hw']
  exact kk
/-- what the tables say of a call (SN) -/
def cw_SN (own : String) (i : Nat) (y : MethodName) (host : String) (cc : ByteArray) (maxL : Nat) (ret : Option FieldType) (n : Nat) : Prop := Cond.methodLinkNest own i y host ∈ lw_tbl ∧ Cond.static y ∈ lw_tbl ∧ Cond.initialized y.cls ∈ lw_tbl ∧ Cond.code y cc maxL ret ∈ lw_tbl ∧ (y.cls ≠ "java/lang/invoke/MethodHandle" ∧ y.cls ≠ "java/lang/invoke/VarHandle") ∧ (parseMethodDescriptor y.desc).map (fun d => d.parameters.length) = some n
theorem V_rSN (hX : VS X l G y cc R nL) {i n1 maxL : Nat} {y2 : MethodName} {host : String} {bytes : ByteArray} {ret : Option FieldType} {rm : Room} {as st0 : List Value} {wc : va_W} (hw : cw_SN y.cls i y2 host bytes maxL ret n1) {post : Option Value → va_W → Prop} (hM : Ct l G y2 bytes maxL ret rm (as) wc post) (hroom : rm.frames + 1 ≤ R.frames ∧ 8 + (maxL + 11) + rm.locals ≤ R.locals) (hcell : k + rm.cells ≤ R.cells ∧ n + rm.slots ≤ R.slots) (hn : as.length = n1) (hst : st0 = as.reverse ++ st) (hcat : (st.map fun v => v.category).sum ≤ 8) (d : decode cc pc = .ok (.invokestatic i, 3)) (a b' : va_W) (hwd : w = a ++ (wc ++ b')) 
    (kk : ∀ (v : Option Value) (u : va_W), post v u → V X (k + rm.cells) (n + rm.slots) (a ++ (u ++ b')) lv (pc + 3) (v.toList ++ st)) : V X k n w lv pc st0 := by
  obtain ⟨p0, e0, s0, m0, args0, below0, meth0, c0, A0, Q0, rfl, hx, hb, hml, hown, hK, hA, hlocks, hnm⟩ := hX
  intro H locs ls hP hD hS hl
  obtain ⟨h1, h2, h3, h4, h5, h6⟩ := hw
  subst hwd
  have hpt := fr_part hP hD
  have hF := fr_free hD hS.1 hA
  exact vr_call (va_runSN (g := F0 m0 pc ls st0) (Ts := []) (rest := st) ⟨hx, hb, hml, hown, fun _ h => by cases h⟩ (hM H.size) ⟨⟨⟨rfl, rfl, hroom.1, hroom.2, (fun w hw2 a' U hW => by rw [List.mem_singleton.mp hw2]; exact (vK.warm hW hK).use h4 rfl), List.mem_singleton.mpr rfl⟩, hK.use h4 rfl, hK.use h3 rfl, h5, (fun sig h => by rw [h] at h6; exact (Option.some.inj h6).symm), hK.use h1 rfl⟩, hK.use h2 rfl, trivial⟩ ⟨Ct.blind, fun U hU hW => ⟨rfl, by rw [hU], by rw [hU]; exact hpt.1, vK.warm hW hK, hpt.2⟩⟩ rfl hn hl.1 hst (lv_room hcat) d hcell) hS (fun q _ h => hF q h) hF (fun v u H1 locs1 hpo hP1 hD1 hz1 hk1 hS1 => by
    obtain ⟨hP2, hD2⟩ := fr_join hP hD hk1 hF hP1 hD1
    exact kk v u hpo H1 locs1 ls hP2 hD2 hS1 hl)
theorem V_cSN (hX : VS X l G y cc R nL) {i n1 maxL : Nat} {y2 : MethodName} {host : String} {bytes : ByteArray} {ret : Option FieldType} {rm : Room} {as st0 : List Value} {wc : va_W} (hw : cw_SN y.cls i y2 host bytes maxL ret n1) {v : Value} {wc' w' : va_W} {k' n' : Nat} (hM : Fn l G y2 bytes maxL ret rm (as) wc (some v) wc') (hroom : rm.frames + 1 ≤ R.frames ∧ 8 + (maxL + 11) + rm.locals ≤ R.locals) (hcell : k + rm.cells ≤ R.cells ∧ n + rm.slots ≤ R.slots) (hn : as.length = n1) (hst : st0 = as.reverse ++ st) (hcat : (st.map fun v => v.category).sum ≤ 8) (d : decode cc pc = .ok (.invokestatic i, 3)) (a b' : va_W) (hwd : w = a ++ (wc ++ b')) (hw' : a ++ (wc' ++ b') = w') (hk : k + rm.cells = k') (hn' : n + rm.slots = n')
    (kk : V X k' n' w' lv (pc + 3) (v :: st)) : V X k n w lv pc st0 := by
  subst hk; subst hn'
  refine V_rSN hX hw hM hroom hcell hn hst hcat d a b' hwd (fun v u h => ?_)
  obtain ⟨rfl, rfl⟩ := h
  rw [hw']
  exact kk
theorem V_dSN (hX : VS X l G y cc R nL) {i n1 maxL : Nat} {y2 : MethodName} {host : String} {bytes : ByteArray} {ret : Option FieldType} {rm : Room} {as st0 : List Value} {wc : va_W} (hw : cw_SN y.cls i y2 host bytes maxL ret n1) {wc' w' : va_W} {k' n' : Nat} (hM : Fn l G y2 bytes maxL ret rm (as) wc none wc') (hroom : rm.frames + 1 ≤ R.frames ∧ 8 + (maxL + 11) + rm.locals ≤ R.locals) (hcell : k + rm.cells ≤ R.cells ∧ n + rm.slots ≤ R.slots) (hn : as.length = n1) (hst : st0 = as.reverse ++ st) (hcat : (st.map fun v => v.category).sum ≤ 8) (d : decode cc pc = .ok (.invokestatic i, 3)) (a b' : va_W) (hwd : w = a ++ (wc ++ b')) (hw' : a ++ (wc' ++ b') = w') (hk : k + rm.cells = k') (hn' : n + rm.slots = n')
    (kk : V X k' n' w' lv (pc + 3) st) : V X k n w lv pc st0 := by
  subst hk; subst hn'
  refine V_rSN hX hw hM hroom hcell hn hst hcat d a b' hwd (fun v u h => ?_)
  obtain ⟨rfl, rfl⟩ := h
  rw [hw']
  exact kk
/-- what the tables say of a call (I) -/
def cw_I (own : String) (i : Nat) (y : MethodName) (cc : ByteArray) (maxL : Nat) (ret : Option FieldType) (n : Nat) : Prop := Cond.methodLink own i y ∈ lw_tbl ∧ Cond.instanceMethod y ∈ lw_tbl ∧ Cond.initialized y.cls ∈ lw_tbl ∧ Cond.code y cc maxL ret ∈ lw_tbl ∧ (y.cls ≠ "java/lang/invoke/MethodHandle" ∧ y.cls ≠ "java/lang/invoke/VarHandle") ∧ (parseMethodDescriptor y.desc).map (fun d => d.parameters.length) = some n ∧ y.name = "<init>"
theorem V_rI (hX : VS X l G y cc R nL) {i n1 maxL : Nat} {y2 : MethodName} {bytes : ByteArray} {rm : Room} {b : Nat} {as st0 : List Value} {wc : va_W} (hw : cw_I y.cls i y2 bytes maxL none n1) {post : Option Value → va_W → Prop} (hM : Ct l G y2 bytes maxL none rm (.ref b :: as) wc post) (hroom : rm.frames + 1 ≤ R.frames ∧ 8 + (maxL + 11) + rm.locals ≤ R.locals) (hcell : k + rm.cells ≤ R.cells ∧ n + rm.slots ≤ R.slots) (hn : as.length = n1) (hst : st0 = as.reverse ++ .ref b :: st) (hcat : (st.map fun v => v.category).sum ≤ 8) (d : decode cc pc = .ok (.invokespecial i, 3)) (a b' : va_W) (hwd : w = a ++ (wc ++ b')) 
    (kk : ∀ (v : Option Value) (u : va_W), post v u → V X (k + rm.cells) (n + rm.slots) (a ++ (u ++ b')) lv (pc + 3) (v.toList ++ st)) : V X k n w lv pc st0 := by
  obtain ⟨p0, e0, s0, m0, args0, below0, meth0, c0, A0, Q0, rfl, hx, hb, hml, hown, hK, hA, hlocks, hnm⟩ := hX
  intro H locs ls hP hD hS hl
  obtain ⟨h1, h2, h3, h4, h5, h6, h7⟩ := hw
  subst hwd
  have hpt := fr_part hP hD
  have hF := fr_free hD hS.1 hA
  exact vr_call (va_runI (g := F0 m0 pc ls st0) (Ts := []) (rest := st) ⟨hx, hb, hml, hown, fun _ h => by cases h⟩ (hM H.size) ⟨⟨rfl, rfl, hroom.1, hroom.2, (fun w hw2 a' U hW => by rw [List.mem_singleton.mp hw2]; exact (vK.warm hW hK).use h4 rfl), List.mem_singleton.mpr rfl, hK.use h4 rfl, hK.use h3 rfl, h5, (fun sig h => by rw [h] at h6; exact (Option.some.inj h6).symm), hK.use h1 rfl⟩, h7, hK.use h2 rfl⟩ ⟨Ct.blind, fun U hU hW => ⟨rfl, by rw [hU], by rw [hU]; exact hpt.1, vK.warm hW hK, hpt.2⟩⟩ rfl hn hl.1 hst (lv_room hcat) d hcell) hS (fun q _ h => hF q h) hF (fun v u H1 locs1 hpo hP1 hD1 hz1 hk1 hS1 => by
    obtain ⟨hP2, hD2⟩ := fr_join hP hD hk1 hF hP1 hD1
    exact kk v u hpo H1 locs1 ls hP2 hD2 hS1 hl)
theorem V_dI (hX : VS X l G y cc R nL) {i n1 maxL : Nat} {y2 : MethodName} {bytes : ByteArray} {rm : Room} {b : Nat} {as st0 : List Value} {wc : va_W} (hw : cw_I y.cls i y2 bytes maxL none n1) {wc' w' : va_W} {k' n' : Nat} (hM : Fn l G y2 bytes maxL none rm (.ref b :: as) wc none wc') (hroom : rm.frames + 1 ≤ R.frames ∧ 8 + (maxL + 11) + rm.locals ≤ R.locals) (hcell : k + rm.cells ≤ R.cells ∧ n + rm.slots ≤ R.slots) (hn : as.length = n1) (hst : st0 = as.reverse ++ .ref b :: st) (hcat : (st.map fun v => v.category).sum ≤ 8) (d : decode cc pc = .ok (.invokespecial i, 3)) (a b' : va_W) (hwd : w = a ++ (wc ++ b')) (hw' : a ++ (wc' ++ b') = w') (hk : k + rm.cells = k') (hn' : n + rm.slots = n')
    (kk : V X k' n' w' lv (pc + 3) st) : V X k n w lv pc st0 := by
  subst hk; subst hn'
  refine V_rI hX hw hM hroom hcell hn hst hcat d a b' hwd (fun v u h => ?_)
  obtain ⟨rfl, rfl⟩ := h
  rw [hw']
  exact kk
/-- what the tables say of a call (IN) -/
def cw_IN (own : String) (i : Nat) (y : MethodName) (host : String) (cc : ByteArray) (maxL : Nat) (ret : Option FieldType) (n : Nat) : Prop := Cond.methodLinkNest own i y host ∈ lw_tbl ∧ Cond.instanceMethod y ∈ lw_tbl ∧ Cond.initialized y.cls ∈ lw_tbl ∧ Cond.code y cc maxL ret ∈ lw_tbl ∧ (y.cls ≠ "java/lang/invoke/MethodHandle" ∧ y.cls ≠ "java/lang/invoke/VarHandle") ∧ (parseMethodDescriptor y.desc).map (fun d => d.parameters.length) = some n ∧ y.name = "<init>"
theorem V_rIN (hX : VS X l G y cc R nL) {i n1 maxL : Nat} {y2 : MethodName} {host : String} {bytes : ByteArray} {rm : Room} {b : Nat} {as st0 : List Value} {wc : va_W} (hw : cw_IN y.cls i y2 host bytes maxL none n1) {post : Option Value → va_W → Prop} (hM : Ct l G y2 bytes maxL none rm (.ref b :: as) wc post) (hroom : rm.frames + 1 ≤ R.frames ∧ 8 + (maxL + 11) + rm.locals ≤ R.locals) (hcell : k + rm.cells ≤ R.cells ∧ n + rm.slots ≤ R.slots) (hn : as.length = n1) (hst : st0 = as.reverse ++ .ref b :: st) (hcat : (st.map fun v => v.category).sum ≤ 8) (d : decode cc pc = .ok (.invokespecial i, 3)) (a b' : va_W) (hwd : w = a ++ (wc ++ b')) 
    (kk : ∀ (v : Option Value) (u : va_W), post v u → V X (k + rm.cells) (n + rm.slots) (a ++ (u ++ b')) lv (pc + 3) (v.toList ++ st)) : V X k n w lv pc st0 := by
  obtain ⟨p0, e0, s0, m0, args0, below0, meth0, c0, A0, Q0, rfl, hx, hb, hml, hown, hK, hA, hlocks, hnm⟩ := hX
  intro H locs ls hP hD hS hl
  obtain ⟨h1, h2, h3, h4, h5, h6, h7⟩ := hw
  subst hwd
  have hpt := fr_part hP hD
  have hF := fr_free hD hS.1 hA
  exact vr_call (va_runIN (g := F0 m0 pc ls st0) (Ts := []) (rest := st) ⟨hx, hb, hml, hown, fun _ h => by cases h⟩ (hM H.size) ⟨⟨⟨rfl, rfl, hroom.1, hroom.2, (fun w hw2 a' U hW => by rw [List.mem_singleton.mp hw2]; exact (vK.warm hW hK).use h4 rfl), List.mem_singleton.mpr rfl⟩, hK.use h4 rfl, hK.use h3 rfl, h5, (fun sig h => by rw [h] at h6; exact (Option.some.inj h6).symm), hK.use h1 rfl⟩, h7, hK.use h2 rfl⟩ ⟨Ct.blind, fun U hU hW => ⟨rfl, by rw [hU], by rw [hU]; exact hpt.1, vK.warm hW hK, hpt.2⟩⟩ rfl hn hl.1 hst (lv_room hcat) d hcell) hS (fun q _ h => hF q h) hF (fun v u H1 locs1 hpo hP1 hD1 hz1 hk1 hS1 => by
    obtain ⟨hP2, hD2⟩ := fr_join hP hD hk1 hF hP1 hD1
    exact kk v u hpo H1 locs1 ls hP2 hD2 hS1 hl)
theorem V_dIN (hX : VS X l G y cc R nL) {i n1 maxL : Nat} {y2 : MethodName} {host : String} {bytes : ByteArray} {rm : Room} {b : Nat} {as st0 : List Value} {wc : va_W} (hw : cw_IN y.cls i y2 host bytes maxL none n1) {wc' w' : va_W} {k' n' : Nat} (hM : Fn l G y2 bytes maxL none rm (.ref b :: as) wc none wc') (hroom : rm.frames + 1 ≤ R.frames ∧ 8 + (maxL + 11) + rm.locals ≤ R.locals) (hcell : k + rm.cells ≤ R.cells ∧ n + rm.slots ≤ R.slots) (hn : as.length = n1) (hst : st0 = as.reverse ++ .ref b :: st) (hcat : (st.map fun v => v.category).sum ≤ 8) (d : decode cc pc = .ok (.invokespecial i, 3)) (a b' : va_W) (hwd : w = a ++ (wc ++ b')) (hw' : a ++ (wc' ++ b') = w') (hk : k + rm.cells = k') (hn' : n + rm.slots = n')
    (kk : V X k' n' w' lv (pc + 3) st) : V X k n w lv pc st0 := by
  subst hk; subst hn'
  refine V_rIN hX hw hM hroom hcell hn hst hcat d a b' hwd (fun v u h => ?_)
  obtain ⟨rfl, rfl⟩ := h
  rw [hw']
  exact kk
theorem V_iret (hX : VS X l G y cc R nL) {rm : Room} {post : Option Value → va_W → Prop} (hR : VR X (some .int) rm post) {v : Int32} (d : decode cc pc = .ok (.ireturn, 1)) (hp : post (some (.int v)) w) : V X rm.cells rm.slots w lv pc [.int v] := by
  obtain ⟨p0, e0, s0, m0, args0, below0, meth0, c0, A0, Q0, rfl, hx, hb, hml, hown, hK, hA, hlocks, hnm⟩ := hX
  intro H locs ls hP hD hS hl
  obtain ⟨hr, rfl⟩ := hR
  exact W.iret hx hb hr (fun t ht hW => ⟨⟨some (.int v), w, rfl, hp, by rw [ht]; exact hP, hD⟩, hS.F ht⟩) hS.2.2 d hlocks
theorem V_zret (hX : VS X l G y cc R nL) {rm : Room} {post : Option Value → va_W → Prop} {ty : FieldType} (hR : VR X (some ty) rm post) {v : Int32} (hn : narrow ty (.int v) = .int v) (d : decode cc pc = .ok (.ireturn, 1)) (hp : post (some (.int v)) w) : V X rm.cells rm.slots w lv pc [.int v] := by
  obtain ⟨p0, e0, s0, m0, args0, below0, meth0, c0, A0, Q0, rfl, hx, hb, hml, hown, hK, hA, hlocks, hnm⟩ := hX
  intro H locs ls hP hD hS hl
  obtain ⟨hr, rfl⟩ := hR
  exact W.zret hx hb hr hn (fun t ht hW => ⟨⟨some (.int v), w, rfl, hp, by rw [ht]; exact hP, hD⟩, hS.F ht⟩) hS.2.2 d hlocks
theorem V_fret (hX : VS X l G y cc R nL) {rm : Room} {post : Option Value → va_W → Prop} (hR : VR X (some .float) rm post) {v : UInt32} (d : decode cc pc = .ok (.freturn, 1)) (hp : post (some (.float v)) w) : V X rm.cells rm.slots w lv pc [.float v] := by
  obtain ⟨p0, e0, s0, m0, args0, below0, meth0, c0, A0, Q0, rfl, hx, hb, hml, hown, hK, hA, hlocks, hnm⟩ := hX
  intro H locs ls hP hD hS hl
  obtain ⟨hr, rfl⟩ := hR
  exact W.fret hx hb hr (fun t ht hW => ⟨⟨some (.float v), w, rfl, hp, by rw [ht]; exact hP, hD⟩, hS.F ht⟩) hS.2.2 d
theorem V_dret (hX : VS X l G y cc R nL) {rm : Room} {post : Option Value → va_W → Prop} (hR : VR X (some .double) rm post) {v : UInt64} (d : decode cc pc = .ok (.dreturn, 1)) (hp : post (some (.double v)) w) : V X rm.cells rm.slots w lv pc [.double v] := by
  obtain ⟨p0, e0, s0, m0, args0, below0, meth0, c0, A0, Q0, rfl, hx, hb, hml, hown, hK, hA, hlocks, hnm⟩ := hX
  intro H locs ls hP hD hS hl
  obtain ⟨hr, rfl⟩ := hR
  exact W.dret hx hb hr (fun t ht hW => ⟨⟨some (.double v), w, rfl, hp, by rw [ht]; exact hP, hD⟩, hS.F ht⟩) hS.2.2 d
theorem V_vret (hX : VS X l G y cc R nL) {rm : Room} {post : Option Value → va_W → Prop} (hR : VR X none rm post) (d : decode cc pc = .ok (.return_, 1)) (hp : post none w) : V X rm.cells rm.slots w lv pc [] := by
  obtain ⟨p0, e0, s0, m0, args0, below0, meth0, c0, A0, Q0, rfl, hx, hb, hml, hown, hK, hA, hlocks, hnm⟩ := hX
  intro H locs ls hP hD hS hl
  obtain ⟨hr, rfl⟩ := hR
  exact W.vret hx hb hr (fun t ht hW => ⟨⟨none, w, rfl, hp, by rw [ht]; exact hP, hD⟩, hS.F ht⟩) hS.2.2 d hlocks
theorem V_min (hX : VS X l G y cc R nL) {i : Nat} {a b c : Int} (d : decode cc pc = .ok (.invokestatic i, 3)) (h1 : Cond.methodLink y.cls i Lib.Math.min.name ∈ lw_tbl) (ha : iR a) (hb2 : iR b) (hf : 1 ≤ R.frames) (hlo : (st.map fun v => v.category).sum + 13 ≤ R.locals) (hk : k ≤ R.cells) (hn : n ≤ R.slots) (h : (if b < a then b else a) = c) (kk : V X k n w lv (pc + 3) (.int (jI c) :: st)) : V X k n w lv pc (.int (jI b) :: .int (jI a) :: st) := by
  subst h
  obtain ⟨p0, e0, s0, m0, args0, below0, meth0, c0, A0, Q0, rfl, hx, hb, hml, hown, hK, hA, hlocks, hnm⟩ := hX
  intro H locs ls hP hD hS hl
  refine va_mmin hx hb (hml.trans hl.1.symm) hown (hK.use h1 rfl) (hK.use (w := Cond.static Lib.Math.min.name) (by decide +kernel) rfl) (hK.use (w := Cond.initialized "java/lang/Math") (by decide +kernel) rfl) (hK.use (w := Cond.code Lib.Math.min.name Lib.Math.min.code 2 (some .int)) (by decide +kernel) rfl) hf hlo hk hn d ?_
  have e : (if jI b < jI a then jI b else jI a) = jI (if b < a then b else a) := by
    by_cases q : b < a
    · rw [if_pos q, if_pos ((jI_lt hb2 ha).mpr q)]
    · rw [if_neg q, if_neg (fun z => q ((jI_lt hb2 ha).mp z))]
  rw [e]
  exact kk H locs ls hP hD hS hl
theorem V_copyi (hX : VS X l G y cc R nL) {i : Nat} (d : decode cc pc = .ok (.invokestatic i, 3)) (h1 : Cond.methodLink y.cls i arraycopyName ∈ lw_tbl) (q0 q1 : Nat) {a0 a mz m1 cz : Nat} {f g : Nat → Int32} (ea0 : w[q0]? = some (a0, .inl (G.2.1, mz, .inl f))) (ea1 : w[q1]? = some (a, .inl (G.2.1, m1, .inl g))) (hc0 : cz ≤ mz) (hc1 : cz ≤ m1) (hm : cz ≤ 2147483647) (hf : 1 ≤ R.frames) (hlo : (st.map fun v => v.category).sum + (nativeFrameWords "java/lang/System" "arraycopy" 5 + 11) ≤ R.locals) {w' : va_W} (hw' : w.set q1 (a, .inl (G.2.1, m1, .inl (va_cpy f g 0 0 cz))) = w') (kk : V X k n w' lv (pc + 3) st) : V X k n w lv pc (.int (jI cz) :: .int (jI 0) :: .ref a :: .int (jI 0) :: .ref a0 :: st) := by
  subst hw'
  obtain ⟨p0, e0, s0, m0, args0, below0, meth0, c0, A0, Q0, rfl, hx, hb, hml, hown, hK, hA, hlocks, hnm⟩ := hX
  intro H locs ls hP hD hS hl
  have z0 : (jI 0).toNatClampNeg = 0 := rfl
  have zc : (jI cz).toNatClampNeg = cz := by rw [jI_clamp (by omega) (by omega)]; rfl
  have zn : ¬ jI 0 < 0 := by decide
  have zcn : ¬ jI (cz : Int) < 0 := fun h => by have h2 := (jI_lt (a := cz) (b := 0) ⟨by omega, by omega⟩ ⟨by omega, by omega⟩).mp h; omega
  refine va_copyi (tys := vT G) hx hb (hml.trans hl.1.symm) hown (hK.use h1 rfl) (hK.use (w := Cond.native arraycopyName) (by decide +kernel) rfl) (hK.use (w := Cond.static arraycopyName) (by decide +kernel) rfl) (hK.use (w := Cond.initialized "java/lang/System") (by decide +kernel) rfl) hK.1 hP hD hS q0 q1 0 0 ea0 ea1 rfl rfl rfl zn zn zcn (by rw [z0, zc]; omega) (by rw [z0, zc]; omega) (fun _ _ => rfl) hf hlo d ?_
  rw [z0, zc]
  exact fun H locs hP hD hS => kk H locs ls hP hD hS hl
end VCalls
