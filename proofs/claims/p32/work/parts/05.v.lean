/-! THE V LAYER: one judgement over a world that is a list of cells; locals, stack and pc; the record of everything fixed is X -/
abbrev vC : Type := va_G × ClassId × ClassId × ClassId × ClassId
abbrev vT (G : vC) : List (ClassId × FieldType) := [(G.2.1, .int), (G.2.2.1, .float), (G.2.2.2.1, .char), (G.2.2.2.2, .object RX1)]
def v_ok (w : Cond) : Bool := w.onTables && w.keepsH
def vK (G : vC) (U : State) : Prop := va_K G.1 vwCl (vT G) U ∧ (∀ w ∈ lw_tbl, v_ok w = true → va_Nw w U) ∧ (∀ a : Array Value, (Cond.arrayClass .int).before a U = true ∧ (Cond.arrayClass .float).before a U = true ∧ (Cond.arrayClass .char).before a U = true) ∧ va_AO RX1 U
theorem vK.warm {G : vC} {s U : State} (hW : s.WarmedH U.vm) (h : vK G s) : vK G U := by
  obtain ⟨h1, h2, h3, h4⟩ := h
  refine ⟨va_K.moved hW.alike h1, fun w hw ho => ?_, fun a => ⟨word_at hW (Or.inr ⟨_, rfl⟩) (h3 a).1, word_at hW (Or.inr ⟨_, rfl⟩) (h3 a).2.1, word_at hW (Or.inr ⟨_, rfl⟩) (h3 a).2.2⟩, va_AO.moved hW.alike h4⟩
  have h5 := h2 w hw ho
  unfold v_ok at ho
  rw [Bool.and_eq_true] at ho
  have h6 := Cond.onTables_warmH (T := U) (args' := #[]) hW ho.1 ho.2 h5
  rwa [State.setVm_self] at h6
theorem vK.call {G : vC} {U : State} {g : JFrame} {mk : MethodId} {a : Array Value} (h : vK G U) : vK G (U.calling g mk a) :=
  vK.warm (s := U) (U := U.calling g mk a) (State.WarmedH.refl U) h
theorem vK.use {G : vC} {s : State} {args : Array Value} {w : Cond} (h : vK G s) (hw : w ∈ lw_tbl) (ho : v_ok w = true) : w.before args s = true := by
  have h1 := h.2.1 w hw ho
  unfold v_ok at ho
  rw [Bool.and_eq_true] at ho
  exact va_Nw.use ho.1 h1
theorem vK.nw {G : vC} {s : State} {w : Cond} (h : vK G s) (hw : w ∈ lw_tbl) (ho : v_ok w = true) : va_Nw w s := h.2.1 w hw ho
/-- what is fixed in a walk -/
abbrev vX : Type := vC × Program × Launch × Env × Room × State × MethodId × Array Value × List Frame × Method × Code × (Nat → Prop) × (State → Prop) × Nat
def V : vX → Nat → Nat → va_W → List (Nat × Value) → Nat → List Value → Prop
  | (G, p, l, e, R, s, m, args, below, meth, c, A, Q, nL), k, n, w, lv, pc, st =>
    ∀ (H : Heap) (locs : List Loc) (ls : Array Slot), va_P G.1 vwCl w H → va_D A w → va_S A s.heap H locs → lv_has ls nL lv → W p l e R s m args below meth c H locs k n Q (F0 m pc ls st)
def VS (X : vX) (l : Launch) (G : vC) (y : MethodName) (cc : ByteArray) (R : Room) (nL : Nat) : Prop :=
  ∃ p e s m args below meth c A Q, X = (G, p, l, e, R, s, m, args, below, meth, c, A, Q, nL) ∧ p.tables.exec = Jvm.exec ∧ c.code = cc ∧ c.maxLocals = nL ∧ s.vm.findClass y.cls = some m.cls ∧ vK G s ∧ (∀ q : Nat, s.heap.size ≤ q → A q) ∧ meth.locks = false ∧ meth.name = y.name
def vQ (G : vC) (post : Option Value → va_W → Prop) (A : Nat → Prop) : Array Value → State → Outcome → State → Prop := fun _ st oc t =>
  (∃ (v : Option Value) (u : va_W), oc = .returned v ∧ post v u ∧ va_P G.1 vwCl u t.heap ∧ va_D A u) ∧ va_F A st t
def VR : vX → Option FieldType → Room → (Option Value → va_W → Prop) → Prop
  | (G, p, l, e, R, s, m, args, below, meth, c, A, Q, nL), ret, rm, post => meth.sig.returnType = ret ∧ Q = MQ below (vQ G post A) args s rm.cells rm.slots A
/-- a contract: with these arguments, over this world, the method comes back, and (its value, the world behind it) meet post -/
def Ct (l : Launch) (G : vC) (y : MethodName) (cc : ByteArray) (maxL : Nat) (ret : Option FieldType) (rm : Room) (as : List Value) (w : va_W) (post : Option Value → va_W → Prop) : Prop :=
  ∀ sz : Nat, Met l y [Cond.code y cc maxL ret] rm (va_Pc as (fun U => U.heap.size = sz ∧ va_P G.1 vwCl w U.heap ∧ vK G U ∧ va_D (fun _ => True) w)) (vQ G post (va_A w sz)) rm.cells rm.slots (va_A w sz)
/-- a contract that tells value and world -/
abbrev Fn (l : Launch) (G : vC) (y : MethodName) (cc : ByteArray) (maxL : Nat) (ret : Option FieldType) (rm : Room) (as : List Value) (w : va_W) (v : Option Value) (w' : va_W) : Prop :=
  Ct l G y cc maxL ret rm as w (fun v' u => v' = v ∧ u = w')
theorem Ct.of {l : Launch} {G : vC} {y : MethodName} {cc : ByteArray} {maxL : Nat} {ret : Option FieldType} {rm : Room} {as : List Value} {w : va_W} {post : Option Value → va_W → Prop}
    (hy : plainName y.cls = true) (hlen : (lg_sl as).length ≤ maxL)
    (body : ∀ X, VS X l G y cc rm maxL → VR X ret rm post → V X 0 0 w (lv_args 0 as) 0 []) : Ct l G y cc maxL ret rm as w post := by
  intro sz
  refine Met.ofW (cc := cc) (maxL := maxL) (ret := ret) hy rfl ?_
  intro p e s m args below meth c s₁ B hml hv
  obtain ⟨rfl, hsz, hP, hK, hD0⟩ := hv
  subst hsz
  have hl := lv_entry as hlen
  rw [lg_entry_eq]
  have hb := body (G, p, l, e, rm, s, m, as.toArray, below, meth, c, va_A w s.heap.size, MQ below (vQ G post (va_A w s.heap.size)) as.toArray s rm.cells rm.slots (va_A w s.heap.size), maxL)
    ⟨p, e, s, m, as.toArray, below, meth, c, _, _, rfl, B.exec, B.bytes, hml, findClass_of_methodNamed B.named, hK, fun q h => Or.inr h, B.notSynchronized, (name_of_methodNamed B.named B.method).1⟩ ⟨B.returns, rfl⟩
  exact hb s.heap [] _ hP hD0.self va_S.rf hl
theorem Ct.mono {l : Launch} {G : vC} {y : MethodName} {cc : ByteArray} {maxL : Nat} {ret : Option FieldType} {rm : Room} {as : List Value} {w : va_W} {post post' : Option Value → va_W → Prop}
    (h : Ct l G y cc maxL ret rm as w post) (hp : ∀ v u, post v u → post' v u) : Ct l G y cc maxL ret rm as w post' := by
  intro sz p e a b hk s m args below hf hh hp2 hp3
  have h1 := h sz p e a b hk s m args below hf hh hp2 hp3
  obtain ⟨t, o, h1, h2, h3, ⟨⟨⟨v, u, e1, e2, e3⟩, e4⟩, e5⟩⟩ := h1
  exact ⟨t, o, h1, h2, h3, ⟨⟨⟨v, u, e1, hp v u e2, e3⟩, e4⟩, e5⟩⟩
section VLemmas
variable {X : vX} {l : Launch} {G : vC} {own : String} {cc : ByteArray} {R : Room} {nL k n pc : Nat} {w : va_W} {lv : List (Nat × Value)} {st : List Value}
theorem V.toLv {lv' : List (Nat × Value)} (h : lv = lv') (kk : V X k n w lv' pc st) : V X k n w lv pc st := h ▸ kk
theorem V.wd {w' : va_W} (h : w = w') (kk : V X k n w' lv pc st) : V X k n w lv pc st := h ▸ kk
theorem V.sk {st' : List Value} (h : st = st') (kk : V X k n w lv pc st') : V X k n w lv pc st := h ▸ kk
theorem V.sub {lv' : List (Nat × Value)} (is : List Nat) (h : lv_pick lv is = lv') (kk : V X k n w lv' pc st) : V X k n w lv pc st := by
  obtain ⟨G, p, l, e, R, s, m, args, below, meth, c, A, Q, nL⟩ := X
  intro H locs ls hP hD hS hl
  exact kk H locs ls hP hD hS (lv_sub hl is h)
theorem V.widen {k' n' : Nat} (h1 : k ≤ k') (h2 : n ≤ n') (kk : V X k' n' w lv pc st) : V X k n w lv pc st := by
  obtain ⟨G, p, l, e, R, s, m, args, below, meth, c, A, Q, nL⟩ := X
  intro H locs ls hP hD hS hl
  exact W.widen h1 h2 (kk H locs ls hP hD hS hl)
theorem vp_mem {D : va_G} {cl : List vw_C} {ws : va_W} {H : Heap} : va_P D cl ws H ↔ ∀ q ∈ ws, va_at D cl q H :=
  ⟨fun h q hq => by obtain ⟨i, hi⟩ := List.getElem?_of_mem hq; exact h i q hi, fun h i q hi => h q (List.mem_of_getElem? hi)⟩
theorem vd_nd : ∀ ws : va_W, (∀ (i j : Nat) (p q : Nat × va_E), ws[i]? = some p → ws[j]? = some q → p.1 = q.1 → i = j) ↔ (ws.map Prod.fst).Nodup := by
  intro ws
  rw [List.Nodup, List.pairwise_map, List.pairwise_iff_getElem]
  constructor
  · intro h i j hi hj hij he
    have := h i j ws[i] ws[j] (List.getElem?_eq_getElem hi) (List.getElem?_eq_getElem hj) he
    omega
  · intro h i j p q hi hj he
    obtain ⟨hi1, hi2⟩ := List.getElem?_eq_some_iff.mp hi
    obtain ⟨hj1, hj2⟩ := List.getElem?_eq_some_iff.mp hj
    rcases Nat.lt_trichotomy i j with q1 | q1 | q1
    · exact absurd (by rw [hi2, hj2]; exact he) (h i j hi1 hj1 q1)
    · exact q1
    · exact absurd (by rw [hi2, hj2]; exact he.symm) (h j i hj1 hi1 q1)
theorem vd_mem {A : Nat → Prop} {ws : va_W} : va_D A ws ↔ (ws.map Prod.fst).Nodup ∧ ∀ q ∈ ws, A q.1 :=
  ⟨fun h => ⟨(vd_nd ws).mp h.1, fun q hq => by obtain ⟨i, hi⟩ := List.getElem?_of_mem hq; exact h.2 i q hi⟩, fun h => ⟨(vd_nd ws).mpr h.1, fun i q hi => h.2 q (List.mem_of_getElem? hi)⟩⟩
theorem V.perm {w' : va_W} (hp : w.Perm w') (kk : V X k n w' lv pc st) : V X k n w lv pc st := by
  obtain ⟨G, p, l, e, R, s, m, args, below, meth, c, A, Q, nL⟩ := X
  intro H locs ls hP hD hS hl
  refine kk H locs ls (vp_mem.mpr fun q hq => vp_mem.mp hP q (hp.mem_iff.mpr hq)) (vd_mem.mpr ⟨?_, fun q hq => (vd_mem.mp hD).2 q (hp.mem_iff.mpr hq)⟩) hS hl
  exact ((hp.map Prod.fst).nodup_iff).mp (vd_mem.mp hD).1
theorem va_A_mem {ws : va_W} {sz q : Nat} : va_A ws sz q ↔ q ∈ ws.map Prod.fst ∨ sz ≤ q := by
  constructor
  · rintro (⟨k, e, h⟩ | h)
    · exact Or.inl (List.mem_map.mpr ⟨(q, e), List.mem_of_getElem? h, rfl⟩)
    · exact Or.inr h
  · rintro (h | h)
    · obtain ⟨⟨a, e⟩, h1, h2⟩ := List.mem_map.mp h
      obtain ⟨i, hi⟩ := List.getElem?_of_mem h1
      exact Or.inl ⟨i, e, by rw [hi]; cases h2; rfl⟩
    · exact Or.inr h
theorem fr_free {A : Nat → Prop} {a wc b : va_W} {sz s0 : Nat} (hD : va_D A (a ++ (wc ++ b))) (hs : s0 ≤ sz) (hA : ∀ q : Nat, s0 ≤ q → A q) : ∀ q, va_A wc sz q → A q := by
  intro q h
  rcases va_A_mem.mp h with h | h
  · obtain ⟨x, h1, h2⟩ := List.mem_map.mp h
    rw [← h2]
    exact (vd_mem.mp hD).2 x (List.mem_append.mpr (Or.inr (List.mem_append.mpr (Or.inl h1))))
  · exact hA q (Nat.le_trans hs h)
theorem fr_join {A : Nat → Prop} {D : va_G} {cl : List vw_C} {a wc b u : va_W} {H H1 : Heap} (hP : va_P D cl (a ++ (wc ++ b)) H) (hD : va_D A (a ++ (wc ++ b)))
    (hk : ∀ q : Nat, q < H.size → ¬ va_A wc H.size q → H1[q]? = H[q]?) (hF : ∀ q, va_A wc H.size q → A q) (hP1 : va_P D cl u H1) (hD1 : va_D (va_A wc H.size) u) : va_P D cl (a ++ (u ++ b)) H1 ∧ va_D A (a ++ (u ++ b)) := by
  have hD' := vd_mem.mp hD
  have hP' := vp_mem.mp hP
  have hn := hD'.1
  rw [List.map_append, List.map_append, List.nodup_append, List.nodup_append] at hn
  obtain ⟨na, ⟨nc, nb, ncb⟩, nacb⟩ := hn
  have hap : ∀ x ∈ a ++ b, x.1 < H.size ∧ ¬ va_A wc H.size x.1 := by
    intro x hx
    have hx2 : x ∈ a ++ (wc ++ b) := by
      rcases List.mem_append.mp hx with h | h
      · exact List.mem_append.mpr (Or.inl h)
      · exact List.mem_append.mpr (Or.inr (List.mem_append.mpr (Or.inr h)))
    have hl := (hP' x hx2).lt
    refine ⟨hl, fun h => ?_⟩
    rcases va_A_mem.mp h with h | h
    · rcases List.mem_append.mp hx with h2 | h2
      · exact nacb x.1 (List.mem_map.mpr ⟨x, h2, rfl⟩) x.1 (List.mem_append.mpr (Or.inl h)) rfl
      · exact ncb x.1 h x.1 (List.mem_map.mpr ⟨x, h2, rfl⟩) rfl
    · omega
  have hat : ∀ x ∈ a ++ b, va_at D cl x H1 := by
    intro x hx
    have hx2 : x ∈ a ++ (wc ++ b) := by
      rcases List.mem_append.mp hx with h | h
      · exact List.mem_append.mpr (Or.inl h)
      · exact List.mem_append.mpr (Or.inr (List.mem_append.mpr (Or.inr h)))
    exact (hP' x hx2).kept (hk x.1 (hap x hx).1 (hap x hx).2)
  have hu := vd_mem.mp hD1
  constructor
  · refine vp_mem.mpr fun x hx => ?_
    rcases List.mem_append.mp hx with h | h
    · exact hat x (List.mem_append.mpr (Or.inl h))
    · rcases List.mem_append.mp h with h | h
      · exact vp_mem.mp hP1 x h
      · exact hat x (List.mem_append.mpr (Or.inr h))
  · refine vd_mem.mpr ⟨?_, fun x hx => ?_⟩
    · rw [List.map_append, List.map_append, List.nodup_append, List.nodup_append]
      refine ⟨na, ⟨hu.1, nb, ?_⟩, ?_⟩
      · intro x hx y hy hxy
        obtain ⟨z, h1, h2⟩ := List.mem_map.mp hx
        obtain ⟨z2, h3, h4⟩ := List.mem_map.mp hy
        exact (hap z2 (List.mem_append.mpr (Or.inr h3))).2 (by rw [h4, ← hxy, ← h2]; exact hu.2 z h1)
      · intro x hx y hy hxy
        rcases List.mem_append.mp hy with hy | hy
        · obtain ⟨z, h1, h2⟩ := List.mem_map.mp hy
          obtain ⟨z2, h3, h4⟩ := List.mem_map.mp hx
          exact (hap z2 (List.mem_append.mpr (Or.inl h3))).2 (by rw [h4, hxy, ← h2]; exact hu.2 z h1)
        · exact nacb x hx y (List.mem_append.mpr (Or.inr hy)) hxy
    · rcases List.mem_append.mp hx with h | h
      · exact hD'.2 x (List.mem_append.mpr (Or.inl h))
      · rcases List.mem_append.mp h with h | h
        · exact hF _ (hu.2 x h)
        · exact hD'.2 x (List.mem_append.mpr (Or.inr (List.mem_append.mpr (Or.inr h))))
end VLemmas
