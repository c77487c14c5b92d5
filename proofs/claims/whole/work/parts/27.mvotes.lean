/-! the reference's weights and votes -/
theorem mw_s {t : Int} {s : Nat → Int} (h : Inv t s) {lb : Bool} {f c : Int} {w k : Nat} (hk : k < 12) (hw : w < 4) (hc : (lb = true ∧ c = s 1) ∨ (lb = false ∧ c = 0)) : ((wtN s lb f w (k + 1) : Nat) : Int) = (wtN s lb f w k : Nat) + (if s (ix k 0) = f ∧ s (ix k 3) = w then s (ix k 4) * s (ix k 1) else 0) + (if s (ix k 0) = f then s (ix k (5 + w)) * c * 4 else 0) := by
  have h1 := h.sc k hk
  have hb := h.base
  have h2 := h.cr k w hk hw
  have e1 : (((s (ix k 4)).toNat * (s (ix k 1)).toNat : Nat) : Int) = s (ix k 4) * s (ix k 1) := by rw [Int.natCast_mul, Int.toNat_of_nonneg (by omega), Int.toNat_of_nonneg (by omega)]
  have e2 : ((lobN s k w : Nat) : Int) = s (ix k (5 + w)) * s 1 := by unfold lobN; rw [Int.natCast_mul, Int.toNat_of_nonneg (by omega), Int.toNat_of_nonneg (by omega)]
  show ((wtN s lb f w k + wa s lb f w k : Nat) : Int) = _
  rw [Int.natCast_add]
  rcases hc with ⟨rfl, rfl⟩ | ⟨rfl, rfl⟩
  · unfold wa
    by_cases q : s (ix k 0) = f
    · by_cases q2 : s (ix k 3) = w
      · rw [if_pos q, if_pos q2, if_pos rfl, if_pos ⟨q, q2⟩, if_pos q]
        omega
      · rw [if_pos q, if_neg q2, if_pos rfl, if_neg (fun z => q2 z.2), if_pos q]
        omega
    · rw [if_neg q, if_neg (fun z => q z.1), if_neg q]
      omega
  · unfold wa
    by_cases q : s (ix k 0) = f
    · by_cases q2 : s (ix k 3) = w
      · rw [if_pos q, if_pos q2, if_neg (by decide), if_pos ⟨q, q2⟩, if_pos q, Int.mul_zero]
        omega
      · rw [if_pos q, if_neg q2, if_neg (by decide), if_neg (fun z => q2 z.2), if_pos q, Int.mul_zero]
        omega
    · rw [if_neg q, if_neg (fun z => q z.1), if_neg q]
      omega
def ldN (W : Nat → Nat) (g : Nat) : Nat → Int32
  | 0 => jI 0
  | k + 1 => ldN W g k ||| (if 0 < g ∧ W k = g then (jI 1) <<< ((jI k) &&& 31) else jI 0)
theorem ldN_t {W : Nat → Nat} {g k : Nat} (h : 0 < g ∧ W k = g) : ldN W g (k + 1) = ldN W g k ||| ((jI 1) <<< ((jI k) &&& 31)) := by
  show ldN W g k ||| (if 0 < g ∧ W k = g then (jI 1) <<< ((jI k) &&& 31) else jI 0) = _
  rw [if_pos h]
theorem ldN_f {W : Nat → Nat} {g k : Nat} (h : ¬ (0 < g ∧ W k = g)) : ldN W g (k + 1) = ldN W g k ||| jI 0 := by
  show ldN W g k ||| (if 0 < g ∧ W k = g then (jI 1) <<< ((jI k) &&& 31) else jI 0) = _
  rw [if_neg h]
def ldZ (W : Nat → Nat) (g : Nat) : Int := (if 0 < g ∧ W 0 = g then 1 else 0) + (if 0 < g ∧ W 1 = g then 2 else 0) + (if 0 < g ∧ W 2 = g then 4 else 0) + (if 0 < g ∧ W 3 = g then 8 else 0)
theorem ld_fin (a b c d : Prop) [Decidable a] [Decidable b] [Decidable c] [Decidable d] : (((jI 0 ||| (if a then (jI 1) <<< ((jI ((0 : Nat) : Int)) &&& 31) else jI 0)) ||| (if b then (jI 1) <<< ((jI ((1 : Nat) : Int)) &&& 31) else jI 0)) ||| (if c then (jI 1) <<< ((jI ((2 : Nat) : Int)) &&& 31) else jI 0)) ||| (if d then (jI 1) <<< ((jI ((3 : Nat) : Int)) &&& 31) else jI 0) = jI ((if a then 1 else 0) + (if b then 2 else 0) + (if c then 4 else 0) + (if d then 8 else 0)) := by
  by_cases ha : a <;> by_cases hb : b <;> by_cases hc : c <;> by_cases hd : d <;> simp only [ha, hb, hc, hd, if_true, if_false] <;> decide
theorem ldN_z (W : Nat → Nat) (g : Nat) : ldN W g 4 = jI (ldZ W g) := by
  show (((jI 0 ||| (if 0 < g ∧ W 0 = g then (jI 1) <<< ((jI ((0 : Nat) : Int)) &&& 31) else jI 0)) ||| (if 0 < g ∧ W 1 = g then (jI 1) <<< ((jI ((1 : Nat) : Int)) &&& 31) else jI 0)) ||| (if 0 < g ∧ W 2 = g then (jI 1) <<< ((jI ((2 : Nat) : Int)) &&& 31) else jI 0)) ||| (if 0 < g ∧ W 3 = g then (jI 1) <<< ((jI ((3 : Nat) : Int)) &&& 31) else jI 0) = _
  exact ld_fin (0 < g ∧ W 0 = g) (0 < g ∧ W 1 = g) (0 < g ∧ W 2 = g) (0 < g ∧ W 3 = g)
theorem ldZ_b (W : Nat → Nat) (g : Nat) : 0 ≤ ldZ W g ∧ ldZ W g ≤ 15 := by unfold ldZ; (repeat' split) <;> omega
def ldB (W : Nat → Nat) (g y : Nat) : Int := if W y = g then 1 else 0
theorem ldB_h (W : Nat → Nat) (g y : Nat) : (ldB W g y = 1 ∧ W y = g) ∨ (ldB W g y = 0 ∧ W y ≠ g) := by unfold ldB; split <;> simp [*]
theorem sh_fin : ∀ z : Nat, z < 16 → ∀ y : Nat, y < 4 → ((jI z) >>> ((jI y) &&& 31)) &&& (jI 1) = jI ((z / 2 ^ y % 2 : Nat) : Int) := by decide +kernel
theorem sh_ld {W : Nat → Nat} {g y : Nat} (h : 0 < g) (hy : y < 4) : ((jI (ldZ W g)) >>> ((jI y) &&& 31)) &&& (jI 1) = jI (ldB W g y) := by
  have hb := ldZ_b W g
  rw [show ldZ W g = (((ldZ W g).toNat : Nat) : Int) by omega, sh_fin _ (by omega) y hy]
  congr 1
  unfold ldB ldZ
  rcases (by omega : y = 0 ∨ y = 1 ∨ y = 2 ∨ y = 3) with rfl | rfl | rfl | rfl <;> (by_cases a : W 0 = g <;> by_cases b : W 1 = g <;> by_cases c : W 2 = g <;> by_cases d : W 3 = g <;> simp only [a, b, c, d, h, and_true, and_false, if_true, if_false] <;> decide)
theorem an_fin : ∀ z : Nat, z < 16 → (jI z) &&& (jI ((z : Int) - 1)) = jI ((if z = 0 ∨ z = 1 ∨ z = 2 ∨ z = 4 ∨ z = 8 then 0 else 1 : Int) * ((z &&& (z - 1) : Nat) : Int)) := by decide +kernel
theorem an_pos : ∀ z : Nat, z < 16 → (z = 0 ∨ z = 1 ∨ z = 2 ∨ z = 4 ∨ z = 8) ∨ (0 < (z &&& (z - 1)) ∧ (z &&& (z - 1)) < 16) := by decide +kernel
def anZ (z : Int) : Int := (if z.toNat = 0 ∨ z.toNat = 1 ∨ z.toNat = 2 ∨ z.toNat = 4 ∨ z.toNat = 8 then 0 else 1 : Int) * ((z.toNat &&& (z.toNat - 1) : Nat) : Int)
theorem an_ld {z : Int} (h0 : 0 ≤ z) (h1 : z ≤ 15) : (jI z) &&& (jI (z - 1)) = jI (anZ z) := by
  obtain ⟨n, rfl⟩ : ∃ n : Nat, z = (n : Int) := ⟨z.toNat, by omega⟩
  exact an_fin n (by omega)
theorem an_b {z : Int} (h0 : 0 ≤ z) (h1 : z ≤ 15) : (anZ z = 0 ∧ (z = 0 ∨ z = 1 ∨ z = 2 ∨ z = 4 ∨ z = 8)) ∨ (0 < anZ z ∧ anZ z < 16 ∧ ¬ (z = 0 ∨ z = 1 ∨ z = 2 ∨ z = 4 ∨ z = 8)) := by
  have h := an_pos z.toNat (by omega)
  unfold anZ
  by_cases q : z.toNat = 0 ∨ z.toNat = 1 ∨ z.toNat = 2 ∨ z.toNat = 4 ∨ z.toNat = 8
  · left; rw [if_pos q]; exact ⟨Int.zero_mul _, by omega⟩
  · right; rw [if_neg q, Int.one_mul]
    have h2 := h.resolve_left q
    omega
theorem hm_ld {W : Nat → Nat} {g : Nat} (h : 0 < g) : hmW W g = 1 ↔ (ldZ W g = 1 ∨ ldZ W g = 2 ∨ ldZ W g = 4 ∨ ldZ W g = 8) := by
  unfold hmW ldZ
  by_cases a : W 0 = g <;> by_cases b : W 1 = g <;> by_cases c : W 2 = g <;> by_cases d : W 3 = g <;> simp only [a, b, c, d, h, and_true, and_false, if_true, if_false] <;> decide
def lowZ (z : Int) : Int := if z % 2 = 1 then 0 else if z / 2 % 2 = 1 then 1 else if z / 4 % 2 = 1 then 2 else 3
theorem low_ld {W : Nat → Nat} {g : Nat} (h : 0 < g) (h2 : ldZ W g ≠ 0) : lowZ (ldZ W g) = loW W g := by
  revert h2
  unfold lowZ loW ldZ
  by_cases a : W 0 = g <;> by_cases b : W 1 = g <;> by_cases c : W 2 = g <;> by_cases d : W 3 = g <;> simp only [a, b, c, d, h, and_true, and_false, if_true, if_false] <;> decide
theorem gr_at (W : Nat → Nat) : ∀ k, grN W k = 0 ∨ ∃ w, w < k ∧ W w = grN W k := by
  intro k
  induction k with
  | zero => exact Or.inl rfl
  | succ k ih =>
    rw [grN_s]
    split
    · exact Or.inr ⟨k, by omega, rfl⟩
    · rcases ih with h | ⟨w, h1, h2⟩
      · exact Or.inl h
      · exact Or.inr ⟨w, by omega, h2⟩
theorem ld_0 (W : Nat → Nat) : ldZ W (grN W 4) = 0 ↔ grN W 4 = 0 := by
  constructor
  · intro h
    rcases gr_at W 4 with h2 | ⟨w, h1, h2⟩
    · exact h2
    · revert h
      unfold ldZ
      rcases (by omega : w = 0 ∨ w = 1 ∨ w = 2 ∨ w = 3) with rfl | rfl | rfl | rfl <;> (by_cases q : 0 < grN W 4 <;> simp only [h2, q, true_and, false_and, if_true, if_false] <;> (repeat' split) <;> omega)
  · intro h
    rw [h]
    unfold ldZ
    simp
theorem grz_0 {W : Nat → Nat} (h : ∀ w, W w = 0) : ∀ k, grN W k = 0 := by
  intro k
  induction k with
  | zero => rfl
  | succ k ih => rw [grN_s, ih, h k]; rfl
theorem sp_no {s : Nat → Int} {f : Int} : ∀ k, spN s f k < 0 ↔ ∀ j, j < k → s (ix j 0) ≠ f := by
  intro k
  induction k with
  | zero => exact ⟨fun _ j hj => absurd hj (Nat.not_lt_zero j), fun _ => by show (-5 : Int) < 0; decide⟩
  | succ k ih =>
    rw [spN_s]
    by_cases q : s (ix k 0) = f
    · by_cases q2 : spN s f k < 0 ∨ bfr s k (spN s f k).toNat
      · rw [if_pos ⟨q, q2⟩]
        exact ⟨fun z => by omega, fun z => absurd q (z k (by omega))⟩
      · rw [if_neg (fun z => q2 z.2)]
        exact ⟨fun z => absurd (Or.inl z) q2, fun z => absurd q (z k (by omega))⟩
    · rw [if_neg (fun z => q z.1), ih]
      constructor
      · intro z j hj
        by_cases e : j = k
        · rw [e]; exact q
        · exact z j (by omega)
      · intro z j hj
        exact z j (by omega)
theorem wt_no {s : Nat → Int} {lb : Bool} {f : Int} {w : Nat} : ∀ k, (∀ j, j < k → s (ix j 0) ≠ f) → wtN s lb f w k = 0 := by
  intro k h
  induction k with
  | zero => rfl
  | succ k ih =>
    show wtN s lb f w k + wa s lb f w k = 0
    rw [ih (fun j hj => h j (by omega))]
    unfold wa
    rw [if_neg (h k (by omega))]
theorem gr_no {s : Nat → Int} {lb : Bool} {f : Int} {k : Nat} (h : spN s f k < 0) : grN (wF s lb f k) 4 = 0 := grz_0 (fun w => wt_no k ((sp_no k).mp h)) 4
theorem spN_in {s : Nat → Int} {f : Int} : ∀ k, 0 ≤ spN s f k → s (ix (spN s f k).toNat 0) = f := by
  intro k
  induction k with
  | zero => intro h; exact absurd (show (0 : Int) ≤ -5 from h) (by decide)
  | succ k ih =>
    rw [spN_s]
    by_cases q : s (ix k 0) = f ∧ (spN s f k < 0 ∨ bfr s k (spN s f k).toNat)
    · rw [if_pos q]
      intro _
      rw [show ((k : Int)).toNat = k by omega]
      exact q.1
    · rw [if_neg q]
      exact ih

set_option maxHeartbeats 4000000 in
set_option maxRecDepth 100000 in
theorem c_X5_weighs (l : Launch) (G : vC) (m : Nat → Nat) (s : Nat → Int) (sp : Nat → Int) (hi : Nat → Int) (sn : Nat → Int) (tx : Nat → Int) (g3 : Int) (g5 : Int) (g7 : Int) (g8 : Int) (g9 : Int) (g10 : Int) (g11 : Int) (g12 : Int) (g13 : Int) (t : Int) (lb : Bool) (f : Int) (w : Nat) (c : Int) (hI : Inv t s) (hc : (lb = true ∧ c = s 1) ∨ (lb = false ∧ c = 0)) (hf : iR f) (hw : w < 4) : Fn l G yX5_weighs cX5_weighs 7 (some .int) ({ frames := 1, cells := 0, slots := 0, locals := 22 } : Room) [.ref (m 0), .int (jI f), .int (jI ((w : Int))), .int (jI c)] (mB G m s sp hi sn tx g3 g5 g7 g8 g9 g10 g11 g12 g13) (some (.int (jI (((wtN s lb f w (s 10).toNat : Nat) : Int))))) (mB G m s sp hi sn tx g3 g5 g7 g8 g9 g10 g11 g12 g13) := by
  refine Ct.of (by decide) (Nat.le_of_ble_eq_true rfl) (fun X hX hR => ?_)
  refine V.toLv (lv' := [(0, .ref (m 0)), (1, .int (jI f)), (2, .int (jI ((w : Int)))), (3, .int (jI c))]) rfl ?_
  have hb := hI.base
  obtain ⟨N, hN⟩ : ∃ N : Nat, s 10 = (N : Int) := ⟨(s 10).toNat, by omega⟩
  have hN2 : (s 10).toNat = N := by omega
  refine V_iconst hX dX5_weighs_0 ?_
  refine V_istore (i := 4) (lv' := [(4, .int (jI 0)), (0, .ref (m 0)), (1, .int (jI f)), (2, .int (jI ((w : Int)))), (3, .int (jI c))]) hX dX5_weighs_1 (by decide) rfl ?_
  refine V_iconst hX dX5_weighs_3 ?_
  refine V_istore (i := 5) (lv' := [(5, .int (jI 0)), (4, .int (jI 0)), (0, .ref (m 0)), (1, .int (jI f)), (2, .int (jI ((w : Int)))), (3, .int (jI c))]) hX dX5_weighs_4 (by decide) rfl ?_
  have L6_q_1 : ∀ k : Nat, k ≤ N → ∀ (i : Int) (acc : Int), (i = (k : Int)) → (acc = ((wtN s lb f w k : Nat) : Int)) → V X 0 0 (mB G m s sp hi sn tx g3 g5 g7 g8 g9 g10 g11 g12 g13) [(5, .int (jI i)), (4, .int (jI acc)), (0, .ref (m 0)), (1, .int (jI f)), (2, .int (jI ((w : Int)))), (3, .int (jI c))] 6 [] := by
    refine up_ind (fun k => ∀ (i : Int) (acc : Int), (i = (k : Int)) → (acc = ((wtN s lb f w k : Nat) : Int)) → V X 0 0 (mB G m s sp hi sn tx g3 g5 g7 g8 g9 g10 g11 g12 g13) [(5, .int (jI i)), (4, .int (jI acc)), (0, .ref (m 0)), (1, .int (jI f)), (2, .int (jI ((w : Int)))), (3, .int (jI c))] 6 []) (N) ?_
    intro k hk ih i acc hik hacc
    have hs : k < 12 → _ := fun z => hI.sc k z
    have hst : k < 12 → _ := fun z => mw_s hI (f := f) z hw hc
    refine V_iload hX dX5_weighs_6 0 rfl ?_
    refine V_aload_n hX dX5_weighs_8 2 rfl ?_
    refine V_get (v := .ref (m 1)) hX cbX5 0 0 (by decide) wf_X5_7 rfl rfl rfl rfl dX5_weighs_9 ?_
    refine V_bipush hX dX5_weighs_12 (by decide) ?_
    refine V_iald (i0 := 10) (r := (jI (s 10))) hX 1 rfl (by decide) (by decide) (by decide) rfl rfl dX5_weighs_14 ?_
    refine V_icmp_ge (tgt := 109) hX dX5_weighs_15 (by decide) (by omega) (by omega) (fun c_2 => ?_) (fun c_2 => ?_)
    · refine V_iload hX dX5_weighs_109 1 rfl ?_
      exact V_iret hX hR dX5_weighs_111 ⟨(congrArg (fun z => some (Value.int (jI z))) (by rw [hacc, hN2, show k = N by omega])), rfl⟩
    · have hs2 := hI.sc k (by omega)
      refine V_aload_n hX dX5_weighs_18 2 rfl ?_
      refine V_iload hX dX5_weighs_19 0 rfl ?_
      refine V_iconst hX dX5_weighs_21 ?_
      refine V.sk (st' := [.int (jI ((0 : Int))), .int (jI i), .ref (m 0)]) rfl ?_
      refine V.sk (st' := [.int (jI ((0 : Int))), .int (jI ((k : Int))), .ref (m 0)]) (congrArg (fun z : Int => [Value.int (jI ((0 : Int))), Value.int (jI z), Value.ref (m 0)]) (show i = (k : Int) by omega)) ?_
      refine V_cV (st := []) (v := .int (jI (s (ix k 0)))) (w' := mB G m s sp hi sn tx g3 g5 g7 g8 g9 g10 g11 g12 g13) hX wc_X5_29 (c_X5_of l G m s sp hi sn tx g3 g5 g7 g8 g9 g10 g11 g12 g13 k 0 (by omega) (by omega)) (by decide) (by decide) rfl rfl (Nat.le_of_ble_eq_true rfl) dX5_weighs_22 [] ([]) (by simp only [List.append_assoc, List.nil_append, List.append_nil]) 0 rfl rfl (by simp only [List.append_assoc, List.nil_append, List.append_nil]) rfl rfl ?_
      refine V_iload_n hX dX5_weighs_25 3 rfl ?_
      refine V_icmp_ne (tgt := 33) hX dX5_weighs_26 (by decide) (by omega) (by omega) (fun c_3 => ?_) (fun c_3 => ?_)
      · refine V_iconst hX dX5_weighs_33 ?_
        refine V_istore (i := 6) (lv' := [(6, .int (jI 0)), (5, .int (jI i)), (4, .int (jI acc)), (0, .ref (m 0)), (1, .int (jI f)), (2, .int (jI ((w : Int)))), (3, .int (jI c))]) hX dX5_weighs_34 (by decide) rfl ?_
        refine V_iload hX dX5_weighs_36 2 rfl ?_
        refine V_iload hX dX5_weighs_38 0 rfl ?_
        refine V_if_eq (tgt := 72) hX dX5_weighs_40 (by decide) (by decide) (fun c_4 => ?_) (fun c_4 => absurd c_4 (by decide))
        refine V_iconst hX dX5_weighs_72 ?_
        refine V_iadd hX dX5_weighs_73 rfl ?_
        refine V_istore (i := 4) (lv' := [(4, .int (jI (acc + 0))), (6, .int (jI 0)), (5, .int (jI i)), (0, .ref (m 0)), (1, .int (jI f)), (2, .int (jI ((w : Int)))), (3, .int (jI c))]) hX dX5_weighs_74 (by decide) rfl ?_
        refine V_iload hX dX5_weighs_76 0 rfl ?_
        refine V_iload hX dX5_weighs_78 1 rfl ?_
        refine V_if_eq (tgt := 99) hX dX5_weighs_80 (by decide) (by decide) (fun c_5 => ?_) (fun c_5 => absurd c_5 (by decide))
        refine V_iconst hX dX5_weighs_99 ?_
        refine V_iadd hX dX5_weighs_100 rfl ?_
        refine V_istore (i := 4) (lv' := [(4, .int (jI ((acc + 0) + 0))), (6, .int (jI 0)), (5, .int (jI i)), (0, .ref (m 0)), (1, .int (jI f)), (2, .int (jI ((w : Int)))), (3, .int (jI c))]) hX dX5_weighs_101 (by decide) rfl ?_
        refine V_iinc (b := i + 1) (lv' := [(5, .int (jI (i + 1))), (4, .int (jI ((acc + 0) + 0))), (6, .int (jI 0)), (0, .ref (m 0)), (1, .int (jI f)), (2, .int (jI ((w : Int)))), (3, .int (jI c))]) hX dX5_weighs_103 2 rfl rfl (by decide) rfl ?_
        refine V_goto (tgt := 6) hX dX5_weighs_106 (by decide) ?_
        refine V.sub [0, 1, 3, 4, 5, 6] rfl ?_
        exact ih (by omega) _ _ (by omega) (by rw [hst (by omega), hacc]; (repeat' split) <;> first | rfl | omega)
      · refine V_iconst hX dX5_weighs_29 ?_
        refine V_goto (tgt := 34) hX dX5_weighs_30 (by decide) ?_
        refine V_istore (i := 6) (lv' := [(6, .int (jI 1)), (5, .int (jI i)), (4, .int (jI acc)), (0, .ref (m 0)), (1, .int (jI f)), (2, .int (jI ((w : Int)))), (3, .int (jI c))]) hX dX5_weighs_34 (by decide) rfl ?_
        refine V_iload hX dX5_weighs_36 2 rfl ?_
        refine V_iload hX dX5_weighs_38 0 rfl ?_
        refine V_if_eq (tgt := 72) hX dX5_weighs_40 (by decide) (by decide) (fun c_6 => absurd c_6 (by decide)) (fun c_6 => ?_)
        refine V_aload_n hX dX5_weighs_43 3 rfl ?_
        refine V_iload hX dX5_weighs_44 1 rfl ?_
        refine V_iconst hX dX5_weighs_46 ?_
        refine V.sk (st' := [.int (jI ((3 : Int))), .int (jI i), .ref (m 0), .int (jI acc)]) rfl ?_
        refine V.sk (st' := [.int (jI ((3 : Int))), .int (jI ((k : Int))), .ref (m 0), .int (jI acc)]) (congrArg (fun z : Int => [Value.int (jI ((3 : Int))), Value.int (jI z), Value.ref (m 0), Value.int (jI acc)]) (show i = (k : Int) by omega)) ?_
        refine V_cV (st := [.int (jI acc)]) (v := .int (jI (s (ix k 3)))) (w' := mB G m s sp hi sn tx g3 g5 g7 g8 g9 g10 g11 g12 g13) hX wc_X5_29 (c_X5_of l G m s sp hi sn tx g3 g5 g7 g8 g9 g10 g11 g12 g13 k 3 (by omega) (by omega)) (by decide) (by decide) rfl rfl (Nat.le_of_ble_eq_true rfl) dX5_weighs_47 [] ([]) (by simp only [List.append_assoc, List.nil_append, List.append_nil]) 0 rfl rfl (by simp only [List.append_assoc, List.nil_append, List.append_nil]) rfl rfl ?_
        refine V_iload_n hX dX5_weighs_50 5 rfl ?_
        refine V_icmp_ne (tgt := 72) hX dX5_weighs_51 (by decide) (by omega) (by omega) (fun c_7 => ?_) (fun c_7 => ?_)
        · refine V_iconst hX dX5_weighs_72 ?_
          refine V_iadd hX dX5_weighs_73 rfl ?_
          refine V_istore (i := 4) (lv' := [(4, .int (jI (acc + 0))), (6, .int (jI 1)), (5, .int (jI i)), (0, .ref (m 0)), (1, .int (jI f)), (2, .int (jI ((w : Int)))), (3, .int (jI c))]) hX dX5_weighs_74 (by decide) rfl ?_
          refine V_iload hX dX5_weighs_76 0 rfl ?_
          refine V_iload hX dX5_weighs_78 1 rfl ?_
          refine V_if_eq (tgt := 99) hX dX5_weighs_80 (by decide) (by decide) (fun c_8 => absurd c_8 (by decide)) (fun c_8 => ?_)
          refine V_aload_n hX dX5_weighs_83 3 rfl ?_
          refine V_iload hX dX5_weighs_84 2 rfl ?_
          refine V_iconst hX dX5_weighs_86 ?_
          refine V_iload_n hX dX5_weighs_87 5 rfl ?_
          refine V_iadd hX dX5_weighs_88 rfl ?_
          refine V.sk (st' := [.int (jI (((5 + ((w : Int))).toNat : Int))), .int (jI i), .ref (m 0), .int (jI (acc + 0))]) (congrArg (fun z : Int => [Value.int (jI z), Value.int (jI i), Value.ref (m 0), Value.int (jI (acc + 0))]) (show 5 + ((w : Int)) = ((5 + ((w : Int))).toNat : Int) by omega)) ?_
          refine V.sk (st' := [.int (jI (((5 + ((w : Int))).toNat : Int))), .int (jI ((k : Int))), .ref (m 0), .int (jI (acc + 0))]) (congrArg (fun z : Int => [Value.int (jI (((5 + ((w : Int))).toNat : Int))), Value.int (jI z), Value.ref (m 0), Value.int (jI (acc + 0))]) (show i = (k : Int) by omega)) ?_
          refine V_cV (st := [.int (jI (acc + 0))]) (v := .int (jI (s (ix k ((5 + ((w : Int))).toNat))))) (w' := mB G m s sp hi sn tx g3 g5 g7 g8 g9 g10 g11 g12 g13) hX wc_X5_29 (c_X5_of l G m s sp hi sn tx g3 g5 g7 g8 g9 g10 g11 g12 g13 k ((5 + ((w : Int))).toNat) (by omega) (by omega)) (by decide) (by decide) rfl rfl (Nat.le_of_ble_eq_true rfl) dX5_weighs_89 [] ([]) (by simp only [List.append_assoc, List.nil_append, List.append_nil]) 0 rfl rfl (by simp only [List.append_assoc, List.nil_append, List.append_nil]) rfl rfl ?_
          refine V_iload_n hX dX5_weighs_92 6 rfl ?_
          refine V_imul hX dX5_weighs_93 rfl ?_
          refine V_iconst hX dX5_weighs_94 ?_
          refine V_imul hX dX5_weighs_95 rfl ?_
          refine V_goto (tgt := 100) hX dX5_weighs_96 (by decide) ?_
          refine V_iadd hX dX5_weighs_100 rfl ?_
          refine V_istore (i := 4) (lv' := [(4, .int (jI ((acc + 0) + (((s (ix k ((5 + ((w : Int))).toNat))) * c) * 4)))), (6, .int (jI 1)), (5, .int (jI i)), (0, .ref (m 0)), (1, .int (jI f)), (2, .int (jI ((w : Int)))), (3, .int (jI c))]) hX dX5_weighs_101 (by decide) rfl ?_
          refine V_iinc (b := i + 1) (lv' := [(5, .int (jI (i + 1))), (4, .int (jI ((acc + 0) + (((s (ix k ((5 + ((w : Int))).toNat))) * c) * 4)))), (6, .int (jI 1)), (0, .ref (m 0)), (1, .int (jI f)), (2, .int (jI ((w : Int)))), (3, .int (jI c))]) hX dX5_weighs_103 2 rfl rfl (by decide) rfl ?_
          refine V_goto (tgt := 6) hX dX5_weighs_106 (by decide) ?_
          refine V.sub [0, 1, 3, 4, 5, 6] rfl ?_
          exact ih (by omega) _ _ (by omega) (by rw [hst (by omega), hacc]; (repeat' split) <;> first | rfl | omega)
        · refine V_aload_n hX dX5_weighs_54 3 rfl ?_
          refine V_iload hX dX5_weighs_55 1 rfl ?_
          refine V_iconst hX dX5_weighs_57 ?_
          refine V.sk (st' := [.int (jI ((4 : Int))), .int (jI i), .ref (m 0), .int (jI acc)]) rfl ?_
          refine V.sk (st' := [.int (jI ((4 : Int))), .int (jI ((k : Int))), .ref (m 0), .int (jI acc)]) (congrArg (fun z : Int => [Value.int (jI ((4 : Int))), Value.int (jI z), Value.ref (m 0), Value.int (jI acc)]) (show i = (k : Int) by omega)) ?_
          refine V_cV (st := [.int (jI acc)]) (v := .int (jI (s (ix k 4)))) (w' := mB G m s sp hi sn tx g3 g5 g7 g8 g9 g10 g11 g12 g13) hX wc_X5_29 (c_X5_of l G m s sp hi sn tx g3 g5 g7 g8 g9 g10 g11 g12 g13 k 4 (by omega) (by omega)) (by decide) (by decide) rfl rfl (Nat.le_of_ble_eq_true rfl) dX5_weighs_58 [] ([]) (by simp only [List.append_assoc, List.nil_append, List.append_nil]) 0 rfl rfl (by simp only [List.append_assoc, List.nil_append, List.append_nil]) rfl rfl ?_
          refine V_aload_n hX dX5_weighs_61 3 rfl ?_
          refine V_iload hX dX5_weighs_62 1 rfl ?_
          refine V_iconst hX dX5_weighs_64 ?_
          refine V.sk (st' := [.int (jI ((1 : Int))), .int (jI i), .ref (m 0), .int (jI (s (ix k 4))), .int (jI acc)]) rfl ?_
          refine V.sk (st' := [.int (jI ((1 : Int))), .int (jI ((k : Int))), .ref (m 0), .int (jI (s (ix k 4))), .int (jI acc)]) (congrArg (fun z : Int => [Value.int (jI ((1 : Int))), Value.int (jI z), Value.ref (m 0), Value.int (jI (s (ix k 4))), Value.int (jI acc)]) (show i = (k : Int) by omega)) ?_
          refine V_cV (st := [.int (jI (s (ix k 4))), .int (jI acc)]) (v := .int (jI (s (ix k 1)))) (w' := mB G m s sp hi sn tx g3 g5 g7 g8 g9 g10 g11 g12 g13) hX wc_X5_29 (c_X5_of l G m s sp hi sn tx g3 g5 g7 g8 g9 g10 g11 g12 g13 k 1 (by omega) (by omega)) (by decide) (by decide) rfl rfl (Nat.le_of_ble_eq_true rfl) dX5_weighs_65 [] ([]) (by simp only [List.append_assoc, List.nil_append, List.append_nil]) 0 rfl rfl (by simp only [List.append_assoc, List.nil_append, List.append_nil]) rfl rfl ?_
          refine V_imul hX dX5_weighs_68 rfl ?_
          refine V_goto (tgt := 73) hX dX5_weighs_69 (by decide) ?_
          refine V_iadd hX dX5_weighs_73 rfl ?_
          refine V_istore (i := 4) (lv' := [(4, .int (jI (acc + ((s (ix k 4)) * (s (ix k 1)))))), (6, .int (jI 1)), (5, .int (jI i)), (0, .ref (m 0)), (1, .int (jI f)), (2, .int (jI ((w : Int)))), (3, .int (jI c))]) hX dX5_weighs_74 (by decide) rfl ?_
          refine V_iload hX dX5_weighs_76 0 rfl ?_
          refine V_iload hX dX5_weighs_78 1 rfl ?_
          refine V_if_eq (tgt := 99) hX dX5_weighs_80 (by decide) (by decide) (fun c_9 => absurd c_9 (by decide)) (fun c_9 => ?_)
          refine V_aload_n hX dX5_weighs_83 3 rfl ?_
          refine V_iload hX dX5_weighs_84 2 rfl ?_
          refine V_iconst hX dX5_weighs_86 ?_
          refine V_iload_n hX dX5_weighs_87 5 rfl ?_
          refine V_iadd hX dX5_weighs_88 rfl ?_
          refine V.sk (st' := [.int (jI (((5 + ((w : Int))).toNat : Int))), .int (jI i), .ref (m 0), .int (jI (acc + ((s (ix k 4)) * (s (ix k 1)))))]) (congrArg (fun z : Int => [Value.int (jI z), Value.int (jI i), Value.ref (m 0), Value.int (jI (acc + ((s (ix k 4)) * (s (ix k 1)))))]) (show 5 + ((w : Int)) = ((5 + ((w : Int))).toNat : Int) by omega)) ?_
          refine V.sk (st' := [.int (jI (((5 + ((w : Int))).toNat : Int))), .int (jI ((k : Int))), .ref (m 0), .int (jI (acc + ((s (ix k 4)) * (s (ix k 1)))))]) (congrArg (fun z : Int => [Value.int (jI (((5 + ((w : Int))).toNat : Int))), Value.int (jI z), Value.ref (m 0), Value.int (jI (acc + ((s (ix k 4)) * (s (ix k 1)))))]) (show i = (k : Int) by omega)) ?_
          refine V_cV (st := [.int (jI (acc + ((s (ix k 4)) * (s (ix k 1)))))]) (v := .int (jI (s (ix k ((5 + ((w : Int))).toNat))))) (w' := mB G m s sp hi sn tx g3 g5 g7 g8 g9 g10 g11 g12 g13) hX wc_X5_29 (c_X5_of l G m s sp hi sn tx g3 g5 g7 g8 g9 g10 g11 g12 g13 k ((5 + ((w : Int))).toNat) (by omega) (by omega)) (by decide) (by decide) rfl rfl (Nat.le_of_ble_eq_true rfl) dX5_weighs_89 [] ([]) (by simp only [List.append_assoc, List.nil_append, List.append_nil]) 0 rfl rfl (by simp only [List.append_assoc, List.nil_append, List.append_nil]) rfl rfl ?_
          refine V_iload_n hX dX5_weighs_92 6 rfl ?_
          refine V_imul hX dX5_weighs_93 rfl ?_
          refine V_iconst hX dX5_weighs_94 ?_
          refine V_imul hX dX5_weighs_95 rfl ?_
          refine V_goto (tgt := 100) hX dX5_weighs_96 (by decide) ?_
          refine V_iadd hX dX5_weighs_100 rfl ?_
          refine V_istore (i := 4) (lv' := [(4, .int (jI ((acc + ((s (ix k 4)) * (s (ix k 1)))) + (((s (ix k ((5 + ((w : Int))).toNat))) * c) * 4)))), (6, .int (jI 1)), (5, .int (jI i)), (0, .ref (m 0)), (1, .int (jI f)), (2, .int (jI ((w : Int)))), (3, .int (jI c))]) hX dX5_weighs_101 (by decide) rfl ?_
          refine V_iinc (b := i + 1) (lv' := [(5, .int (jI (i + 1))), (4, .int (jI ((acc + ((s (ix k 4)) * (s (ix k 1)))) + (((s (ix k ((5 + ((w : Int))).toNat))) * c) * 4)))), (6, .int (jI 1)), (0, .ref (m 0)), (1, .int (jI f)), (2, .int (jI ((w : Int)))), (3, .int (jI c))]) hX dX5_weighs_103 2 rfl rfl (by decide) rfl ?_
          refine V_goto (tgt := 6) hX dX5_weighs_106 (by decide) ?_
          refine V.sub [0, 1, 3, 4, 5, 6] rfl ?_
          exact ih (by omega) _ _ (by omega) (by rw [hst (by omega), hacc]; (repeat' split) <;> first | rfl | omega)
  refine V.sub [0, 1, 2, 3, 4, 5] rfl ?_
  exact L6_q_1 0 (Nat.zero_le _) 0 0 rfl rfl

set_option maxHeartbeats 4000000 in
set_option maxRecDepth 100000 in
theorem c_X5_greatest (l : Launch) (G : vC) (m : Nat → Nat) (s : Nat → Int) (sp : Nat → Int) (hi : Nat → Int) (sn : Nat → Int) (tx : Nat → Int) (g3 : Int) (g5 : Int) (g7 : Int) (g8 : Int) (g9 : Int) (g10 : Int) (g11 : Int) (g12 : Int) (g13 : Int) (t : Int) (lb : Bool) (f : Int) (c : Int) (hI : Inv t s) (hc : (lb = true ∧ c = s 1) ∨ (lb = false ∧ c = 0)) (hf : iR f) : Fn l G yX5_greatest cX5_greatest 5 (some .int) ({ frames := 2, cells := 0, slots := 0, locals := 48 } : Room) [.ref (m 0), .int (jI f), .int (jI c)] (mB G m s sp hi sn tx g3 g5 g7 g8 g9 g10 g11 g12 g13) (some (.int (jI (((grN (wF s lb f (s 10).toNat) 4 : Nat) : Int))))) (mB G m s sp hi sn tx g3 g5 g7 g8 g9 g10 g11 g12 g13) := by
  refine Ct.of (by decide) (Nat.le_of_ble_eq_true rfl) (fun X hX hR => ?_)
  refine V.toLv (lv' := [(0, .ref (m 0)), (1, .int (jI f)), (2, .int (jI c))]) rfl ?_
  have hb := hI.base
  refine V_iconst hX dX5_greatest_0 ?_
  refine V_istore_n (i := 3) (lv' := [(3, .int (jI 0)), (0, .ref (m 0)), (1, .int (jI f)), (2, .int (jI c))]) hX dX5_greatest_1 rfl (by decide) rfl ?_
  refine V_iconst hX dX5_greatest_2 ?_
  refine V_istore (i := 4) (lv' := [(4, .int (jI 0)), (3, .int (jI 0)), (0, .ref (m 0)), (1, .int (jI f)), (2, .int (jI c))]) hX dX5_greatest_3 (by decide) rfl ?_
  have L5_q_1 : ∀ k : Nat, k ≤ 4 → ∀ (i : Int) (acc : Int), (i = (k : Int)) → (acc = ((grN (wF s lb f (s 10).toNat) k : Nat) : Int)) → V X 0 0 (mB G m s sp hi sn tx g3 g5 g7 g8 g9 g10 g11 g12 g13) [(4, .int (jI i)), (3, .int (jI acc)), (0, .ref (m 0)), (1, .int (jI f)), (2, .int (jI c))] 5 [] := by
    refine up_ind (fun k => ∀ (i : Int) (acc : Int), (i = (k : Int)) → (acc = ((grN (wF s lb f (s 10).toNat) k : Nat) : Int)) → V X 0 0 (mB G m s sp hi sn tx g3 g5 g7 g8 g9 g10 g11 g12 g13) [(4, .int (jI i)), (3, .int (jI acc)), (0, .ref (m 0)), (1, .int (jI f)), (2, .int (jI c))] 5 []) (4) ?_
    intro k hk ih i acc hik hacc
    have hwk : wtN s lb f k (s 10).toNat = wF s lb f (s 10).toNat k := rfl
    have hwb : k < 4 → _ := fun z => wtN_b hI lb f k (s 10).toNat z (by omega)
    have hgb := grN_b (wF_b hI lb f (s 10).toNat (by omega)) k hk
    refine V_iload hX dX5_greatest_5 0 rfl ?_
    refine V_iconst hX dX5_greatest_7 ?_
    refine V_icmp_ge (tgt := 42) hX dX5_greatest_8 (by decide) (by omega) (by decide) (fun c_2 => ?_) (fun c_2 => ?_)
    · refine V_iload_n hX dX5_greatest_42 1 rfl ?_
      exact V_iret hX hR dX5_greatest_43 ⟨(congrArg (fun z => some (Value.int (jI z))) (by rw [hacc, show k = 4 by omega])), rfl⟩
    · have hwb2 := hwb (by omega)
      refine V_aload_n hX dX5_greatest_11 2 rfl ?_
      refine V_iload_n hX dX5_greatest_12 3 rfl ?_
      refine V_iload hX dX5_greatest_13 0 rfl ?_
      refine V_iload_n hX dX5_greatest_15 4 rfl ?_
      refine V.sk (st' := [.int (jI c), .int (jI ((k : Int))), .int (jI f), .ref (m 0)]) (congrArg (fun z : Int => [Value.int (jI c), Value.int (jI z), Value.int (jI f), Value.ref (m 0)]) (show i = (k : Int) by omega)) ?_
      refine V_cV (st := []) (v := .int (jI (((wtN s lb f k (s 10).toNat : Nat) : Int)))) (w' := mB G m s sp hi sn tx g3 g5 g7 g8 g9 g10 g11 g12 g13) hX wc_X5_51 (c_X5_weighs l G m s sp hi sn tx g3 g5 g7 g8 g9 g10 g11 g12 g13 t lb f k c hI (by omega) (by omega) (by omega)) (by decide) (by decide) rfl rfl (Nat.le_of_ble_eq_true rfl) dX5_greatest_16 [] ([]) (by simp only [List.append_assoc, List.nil_append, List.append_nil]) 0 rfl rfl (by simp only [List.append_assoc, List.nil_append, List.append_nil]) rfl rfl ?_
      refine V_iload_n hX dX5_greatest_19 1 rfl ?_
      refine V_icmp_le (tgt := 34) hX dX5_greatest_20 (by decide) (by omega) (by omega) (fun c_3 => ?_) (fun c_3 => ?_)
      · refine V_iload_n hX dX5_greatest_34 1 rfl ?_
        refine V_istore_n (i := 3) (lv' := [(3, .int (jI acc)), (4, .int (jI i)), (0, .ref (m 0)), (1, .int (jI f)), (2, .int (jI c))]) hX dX5_greatest_35 rfl (by decide) rfl ?_
        refine V_iinc (b := i + 1) (lv' := [(4, .int (jI (i + 1))), (3, .int (jI acc)), (0, .ref (m 0)), (1, .int (jI f)), (2, .int (jI c))]) hX dX5_greatest_36 1 rfl rfl (by decide) rfl ?_
        refine V_goto (tgt := 5) hX dX5_greatest_39 (by decide) ?_
        refine V.sub [0, 1, 2, 3, 4] rfl ?_
        exact ih (by omega) _ _ (by omega) (by rw [grN_s]; split <;> omega)
      · refine V_aload_n hX dX5_greatest_23 2 rfl ?_
        refine V_iload_n hX dX5_greatest_24 3 rfl ?_
        refine V_iload hX dX5_greatest_25 0 rfl ?_
        refine V_iload_n hX dX5_greatest_27 4 rfl ?_
        refine V.sk (st' := [.int (jI c), .int (jI ((k : Int))), .int (jI f), .ref (m 0)]) (congrArg (fun z : Int => [Value.int (jI c), Value.int (jI z), Value.int (jI f), Value.ref (m 0)]) (show i = (k : Int) by omega)) ?_
        refine V_cV (st := []) (v := .int (jI (((wtN s lb f k (s 10).toNat : Nat) : Int)))) (w' := mB G m s sp hi sn tx g3 g5 g7 g8 g9 g10 g11 g12 g13) hX wc_X5_51 (c_X5_weighs l G m s sp hi sn tx g3 g5 g7 g8 g9 g10 g11 g12 g13 t lb f k c hI (by omega) (by omega) (by omega)) (by decide) (by decide) rfl rfl (Nat.le_of_ble_eq_true rfl) dX5_greatest_28 [] ([]) (by simp only [List.append_assoc, List.nil_append, List.append_nil]) 0 rfl rfl (by simp only [List.append_assoc, List.nil_append, List.append_nil]) rfl rfl ?_
        refine V_goto (tgt := 35) hX dX5_greatest_31 (by decide) ?_
        refine V_istore_n (i := 3) (lv' := [(3, .int (jI (((wtN s lb f k (s 10).toNat : Nat) : Int)))), (4, .int (jI i)), (0, .ref (m 0)), (1, .int (jI f)), (2, .int (jI c))]) hX dX5_greatest_35 rfl (by decide) rfl ?_
        refine V_iinc (b := i + 1) (lv' := [(4, .int (jI (i + 1))), (3, .int (jI (((wtN s lb f k (s 10).toNat : Nat) : Int)))), (0, .ref (m 0)), (1, .int (jI f)), (2, .int (jI c))]) hX dX5_greatest_36 1 rfl rfl (by decide) rfl ?_
        refine V_goto (tgt := 5) hX dX5_greatest_39 (by decide) ?_
        refine V.sub [0, 1, 2, 3, 4] rfl ?_
        exact ih (by omega) _ _ (by omega) (by rw [grN_s]; split <;> omega)
  refine V.sub [0, 1, 2, 3, 4] rfl ?_
  exact L5_q_1 0 (Nat.zero_le _) 0 0 rfl rfl

set_option maxHeartbeats 4000000 in
set_option maxRecDepth 100000 in
theorem c_X5_leaders (l : Launch) (G : vC) (m : Nat → Nat) (s : Nat → Int) (sp : Nat → Int) (hi : Nat → Int) (sn : Nat → Int) (tx : Nat → Int) (g3 : Int) (g5 : Int) (g7 : Int) (g8 : Int) (g9 : Int) (g10 : Int) (g11 : Int) (g12 : Int) (g13 : Int) (t : Int) (lb : Bool) (f : Int) (c : Int) (hI : Inv t s) (hc : (lb = true ∧ c = s 1) ∨ (lb = false ∧ c = 0)) (hf : iR f) : Fn l G yX5_leaders cX5_leaders 6 (some .int) ({ frames := 3, cells := 0, slots := 0, locals := 72 } : Room) [.ref (m 0), .int (jI f), .int (jI c)] (mB G m s sp hi sn tx g3 g5 g7 g8 g9 g10 g11 g12 g13) (some (.int (jI (ldZ (wF s lb f (s 10).toNat) (grN (wF s lb f (s 10).toNat) 4))))) (mB G m s sp hi sn tx g3 g5 g7 g8 g9 g10 g11 g12 g13) := by
  refine Ct.of (by decide) (Nat.le_of_ble_eq_true rfl) (fun X hX hR => ?_)
  refine V.toLv (lv' := [(0, .ref (m 0)), (1, .int (jI f)), (2, .int (jI c))]) rfl ?_
  have hb := hI.base
  have hgb := grN_b (wF_b hI lb f (s 10).toNat (by omega)) 4 (Nat.le_refl _)
  refine V_aload_n hX dX5_leaders_0 0 rfl ?_
  refine V_iload_n hX dX5_leaders_1 1 rfl ?_
  refine V_iload_n hX dX5_leaders_2 2 rfl ?_
  refine V_cV (st := []) (v := .int (jI (((grN (wF s lb f (s 10).toNat) 4 : Nat) : Int)))) (w' := mB G m s sp hi sn tx g3 g5 g7 g8 g9 g10 g11 g12 g13) hX wc_X5_55 (c_X5_greatest l G m s sp hi sn tx g3 g5 g7 g8 g9 g10 g11 g12 g13 t lb f c hI (by first | exact hc | exact Or.inl ⟨rfl, rfl⟩ | exact Or.inr ⟨rfl, rfl⟩) (by omega)) (by decide) (by decide) rfl rfl (Nat.le_of_ble_eq_true rfl) dX5_leaders_3 [] ([]) (by simp only [List.append_assoc, List.nil_append, List.append_nil]) 0 rfl rfl (by simp only [List.append_assoc, List.nil_append, List.append_nil]) rfl rfl ?_
  refine V_istore_n (i := 3) (lv' := [(3, .int (jI (((grN (wF s lb f (s 10).toNat) 4 : Nat) : Int)))), (0, .ref (m 0)), (1, .int (jI f)), (2, .int (jI c))]) hX dX5_leaders_6 rfl (by decide) rfl ?_
  refine V_iconst hX dX5_leaders_7 ?_
  refine V_istore (i := 4) (lv' := [(4, .int (jI 0)), (3, .int (jI (((grN (wF s lb f (s 10).toNat) 4 : Nat) : Int)))), (0, .ref (m 0)), (1, .int (jI f)), (2, .int (jI c))]) hX dX5_leaders_8 (by decide) rfl ?_
  refine V_iconst hX dX5_leaders_10 ?_
  refine V_istore (i := 5) (lv' := [(5, .int (jI 0)), (4, .int (jI 0)), (3, .int (jI (((grN (wF s lb f (s 10).toNat) 4 : Nat) : Int)))), (0, .ref (m 0)), (1, .int (jI f)), (2, .int (jI c))]) hX dX5_leaders_11 (by decide) rfl ?_
  have L13_q_1 : ∀ k : Nat, k ≤ 4 → ∀ (i : Int) (mk : Int32), (i = (k : Int)) → (mk = ldN (wF s lb f (s 10).toNat) (grN (wF s lb f (s 10).toNat) 4) k) → V X 0 0 (mB G m s sp hi sn tx g3 g5 g7 g8 g9 g10 g11 g12 g13) [(5, .int (jI i)), (4, .int (mk)), (0, .ref (m 0)), (1, .int (jI f)), (2, .int (jI c)), (3, .int (jI (((grN (wF s lb f (s 10).toNat) 4 : Nat) : Int))))] 13 [] := by
    refine up_ind (fun k => ∀ (i : Int) (mk : Int32), (i = (k : Int)) → (mk = ldN (wF s lb f (s 10).toNat) (grN (wF s lb f (s 10).toNat) 4) k) → V X 0 0 (mB G m s sp hi sn tx g3 g5 g7 g8 g9 g10 g11 g12 g13) [(5, .int (jI i)), (4, .int (mk)), (0, .ref (m 0)), (1, .int (jI f)), (2, .int (jI c)), (3, .int (jI (((grN (wF s lb f (s 10).toNat) 4 : Nat) : Int))))] 13 []) (4) ?_
    intro k hk ih i mk hik hmk
    have hwk : wtN s lb f k (s 10).toNat = wF s lb f (s 10).toNat k := rfl
    have hwb : k < 4 → _ := fun z => wtN_b hI lb f k (s 10).toNat z (by omega)
    refine V_iload hX dX5_leaders_13 0 rfl ?_
    refine V_iconst hX dX5_leaders_15 ?_
    refine V_icmp_ge (tgt := 54) hX dX5_leaders_16 (by decide) (by omega) (by decide) (fun c_2 => ?_) (fun c_2 => ?_)
    · refine V_iload hX dX5_leaders_54 1 rfl ?_
      exact V_iret hX hR dX5_leaders_56 ⟨(congrArg (fun z => some (Value.int z)) (by rw [hmk, show k = 4 by omega]; exact ldN_z _ _)), rfl⟩
    · refine V_iload hX dX5_leaders_19 1 rfl ?_
      refine V_iload_n hX dX5_leaders_21 5 rfl ?_
      refine V_if_le (tgt := 44) hX dX5_leaders_22 (by decide) (by omega) (fun c_3 => ?_) (fun c_3 => ?_)
      · refine V_iconst hX dX5_leaders_44 ?_
        refine V_ior hX dX5_leaders_45 ?_
        refine V_istore (i := 4) (lv' := [(4, .int ((mk) ||| (jI (0)))), (5, .int (jI i)), (0, .ref (m 0)), (1, .int (jI f)), (2, .int (jI c)), (3, .int (jI (((grN (wF s lb f (s 10).toNat) 4 : Nat) : Int))))]) hX dX5_leaders_46 (by decide) rfl ?_
        refine V_iinc (b := i + 1) (lv' := [(5, .int (jI (i + 1))), (4, .int ((mk) ||| (jI (0)))), (0, .ref (m 0)), (1, .int (jI f)), (2, .int (jI c)), (3, .int (jI (((grN (wF s lb f (s 10).toNat) 4 : Nat) : Int))))]) hX dX5_leaders_48 1 rfl rfl (by decide) rfl ?_
        refine V_goto (tgt := 13) hX dX5_leaders_51 (by decide) ?_
        refine V.sub [0, 1, 2, 3, 4, 5] rfl ?_
        exact ih (by omega) _ _ (by omega) (by subst hik; rw [hmk]; first | exact (ldN_f (by omega)).symm | exact (ldN_t (by omega)).symm)
      · have hwb2 := hwb (by omega)
        refine V_aload_n hX dX5_leaders_25 2 rfl ?_
        refine V_iload_n hX dX5_leaders_26 3 rfl ?_
        refine V_iload hX dX5_leaders_27 0 rfl ?_
        refine V_iload_n hX dX5_leaders_29 4 rfl ?_
        refine V.sk (st' := [.int (jI c), .int (jI ((k : Int))), .int (jI f), .ref (m 0), .int (mk)]) (congrArg (fun z : Int => [Value.int (jI c), Value.int (jI z), Value.int (jI f), Value.ref (m 0), Value.int (mk)]) (show i = (k : Int) by omega)) ?_
        refine V_cV (st := [.int (mk)]) (v := .int (jI (((wtN s lb f k (s 10).toNat : Nat) : Int)))) (w' := mB G m s sp hi sn tx g3 g5 g7 g8 g9 g10 g11 g12 g13) hX wc_X5_51 (c_X5_weighs l G m s sp hi sn tx g3 g5 g7 g8 g9 g10 g11 g12 g13 t lb f k c hI (by omega) (by omega) (by omega)) (by decide) (by decide) rfl rfl (Nat.le_of_ble_eq_true rfl) dX5_leaders_30 [] ([]) (by simp only [List.append_assoc, List.nil_append, List.append_nil]) 0 rfl rfl (by simp only [List.append_assoc, List.nil_append, List.append_nil]) rfl rfl ?_
        refine V_iload_n hX dX5_leaders_33 5 rfl ?_
        refine V_icmp_ne (tgt := 44) hX dX5_leaders_34 (by decide) (by omega) (by omega) (fun c_4 => ?_) (fun c_4 => ?_)
        · refine V_iconst hX dX5_leaders_44 ?_
          refine V_ior hX dX5_leaders_45 ?_
          refine V_istore (i := 4) (lv' := [(4, .int ((mk) ||| (jI (0)))), (5, .int (jI i)), (0, .ref (m 0)), (1, .int (jI f)), (2, .int (jI c)), (3, .int (jI (((grN (wF s lb f (s 10).toNat) 4 : Nat) : Int))))]) hX dX5_leaders_46 (by decide) rfl ?_
          refine V_iinc (b := i + 1) (lv' := [(5, .int (jI (i + 1))), (4, .int ((mk) ||| (jI (0)))), (0, .ref (m 0)), (1, .int (jI f)), (2, .int (jI c)), (3, .int (jI (((grN (wF s lb f (s 10).toNat) 4 : Nat) : Int))))]) hX dX5_leaders_48 1 rfl rfl (by decide) rfl ?_
          refine V_goto (tgt := 13) hX dX5_leaders_51 (by decide) ?_
          refine V.sub [0, 1, 2, 3, 4, 5] rfl ?_
          exact ih (by omega) _ _ (by omega) (by subst hik; rw [hmk]; first | exact (ldN_f (by omega)).symm | exact (ldN_t (by omega)).symm)
        · refine V_iconst hX dX5_leaders_37 ?_
          refine V_iload hX dX5_leaders_38 0 rfl ?_
          refine V_ishl hX dX5_leaders_40 ?_
          refine V_goto (tgt := 45) hX dX5_leaders_41 (by decide) ?_
          refine V_ior hX dX5_leaders_45 ?_
          refine V_istore (i := 4) (lv' := [(4, .int ((mk) ||| ((jI (1)) <<< ((jI (i)) &&& 31)))), (5, .int (jI i)), (0, .ref (m 0)), (1, .int (jI f)), (2, .int (jI c)), (3, .int (jI (((grN (wF s lb f (s 10).toNat) 4 : Nat) : Int))))]) hX dX5_leaders_46 (by decide) rfl ?_
          refine V_iinc (b := i + 1) (lv' := [(5, .int (jI (i + 1))), (4, .int ((mk) ||| ((jI (1)) <<< ((jI (i)) &&& 31)))), (0, .ref (m 0)), (1, .int (jI f)), (2, .int (jI c)), (3, .int (jI (((grN (wF s lb f (s 10).toNat) 4 : Nat) : Int))))]) hX dX5_leaders_48 1 rfl rfl (by decide) rfl ?_
          refine V_goto (tgt := 13) hX dX5_leaders_51 (by decide) ?_
          refine V.sub [0, 1, 2, 3, 4, 5] rfl ?_
          exact ih (by omega) _ _ (by omega) (by subst hik; rw [hmk]; first | exact (ldN_f (by omega)).symm | exact (ldN_t (by omega)).symm)
  refine V.sub [0, 1, 3, 4, 5, 2] rfl ?_
  exact L13_q_1 0 (Nat.zero_le _) 0 (jI 0) rfl rfl

theorem lw_sh {z : Int} {w : Nat} (h0 : 0 ≤ z) (h1 : z ≤ 15) (hw : w < 4) : ((jI z) >>> ((jI (w : Int)) &&& 31)) &&& (jI 1) = jI (z / ((2 ^ w : Nat) : Int) % 2) := by
  obtain ⟨n, rfl⟩ : ∃ n : Nat, z = (n : Int) := ⟨z.toNat, by omega⟩
  rw [sh_fin n (by omega) w hw]
  congr 1

set_option maxHeartbeats 4000000 in
set_option maxRecDepth 100000 in
theorem c_X5_lowest (l : Launch) (G : vC) (z : Int) (hz : 1 ≤ z ∧ z ≤ 15) : Fn l G yX5_lowest cX5_lowest 2 (some .int) ({ frames := 0, cells := 0, slots := 0, locals := 0 } : Room) [.int (jI z)] ([]) (some (.int (jI (lowZ z)))) ([]) := by
  refine Ct.of (by decide) (Nat.le_of_ble_eq_true rfl) (fun X hX hR => ?_)
  refine V.toLv (lv' := [(0, .int (jI z))]) rfl ?_
  refine V_iconst hX dX5_lowest_0 ?_
  refine V_istore_n (i := 1) (lv' := [(1, .int (jI 0)), (0, .int (jI z))]) hX dX5_lowest_1 rfl (by decide) rfl ?_
  refine V_iload_n hX dX5_lowest_2 1 rfl ?_
  refine V_iload_n hX dX5_lowest_3 0 rfl ?_
  refine V_ishr hX dX5_lowest_4 ?_
  refine V_iconst hX dX5_lowest_5 ?_
  refine V_iand hX dX5_lowest_6 ?_
  refine V.sk (st' := [.int (jI (z / 1 % 2))]) (congrArg (fun z : Int32 => ([Value.int z] : List Value)) (show ((jI (z)) >>> ((jI (0)) &&& 31)) &&& (jI (1)) = jI (z / 1 % 2) from lw_sh (w := 0) (by omega) (by omega) (by decide))) ?_
  refine V_if_ne (tgt := 16) hX dX5_lowest_7 (by decide) (by omega) (fun c_1 => ?_) (fun c_1 => ?_)
  · refine V_iload_n hX dX5_lowest_16 0 rfl ?_
    exact V_iret hX hR dX5_lowest_17 ⟨(congrArg (fun z => some (Value.int (jI z))) (by unfold lowZ; (repeat' split) <;> omega)), rfl⟩
  · refine V_iinc (b := 1) (lv' := [(1, .int (jI 1)), (0, .int (jI z))]) hX dX5_lowest_10 0 rfl rfl (by decide) rfl ?_
    refine V_goto (tgt := 2) hX dX5_lowest_13 (by decide) ?_
    refine V_iload_n hX dX5_lowest_2 1 rfl ?_
    refine V_iload_n hX dX5_lowest_3 0 rfl ?_
    refine V_ishr hX dX5_lowest_4 ?_
    refine V_iconst hX dX5_lowest_5 ?_
    refine V_iand hX dX5_lowest_6 ?_
    refine V.sk (st' := [.int (jI (z / 2 % 2))]) (congrArg (fun z : Int32 => ([Value.int z] : List Value)) (show ((jI (z)) >>> ((jI (1)) &&& 31)) &&& (jI (1)) = jI (z / 2 % 2) from lw_sh (w := 1) (by omega) (by omega) (by decide))) ?_
    refine V_if_ne (tgt := 16) hX dX5_lowest_7 (by decide) (by omega) (fun c_2 => ?_) (fun c_2 => ?_)
    · refine V_iload_n hX dX5_lowest_16 0 rfl ?_
      exact V_iret hX hR dX5_lowest_17 ⟨(congrArg (fun z => some (Value.int (jI z))) (by unfold lowZ; (repeat' split) <;> omega)), rfl⟩
    · refine V_iinc (b := 2) (lv' := [(1, .int (jI 2)), (0, .int (jI z))]) hX dX5_lowest_10 0 rfl rfl (by decide) rfl ?_
      refine V_goto (tgt := 2) hX dX5_lowest_13 (by decide) ?_
      refine V_iload_n hX dX5_lowest_2 1 rfl ?_
      refine V_iload_n hX dX5_lowest_3 0 rfl ?_
      refine V_ishr hX dX5_lowest_4 ?_
      refine V_iconst hX dX5_lowest_5 ?_
      refine V_iand hX dX5_lowest_6 ?_
      refine V.sk (st' := [.int (jI (z / 4 % 2))]) (congrArg (fun z : Int32 => ([Value.int z] : List Value)) (show ((jI (z)) >>> ((jI (2)) &&& 31)) &&& (jI (1)) = jI (z / 4 % 2) from lw_sh (w := 2) (by omega) (by omega) (by decide))) ?_
      refine V_if_ne (tgt := 16) hX dX5_lowest_7 (by decide) (by omega) (fun c_3 => ?_) (fun c_3 => ?_)
      · refine V_iload_n hX dX5_lowest_16 0 rfl ?_
        exact V_iret hX hR dX5_lowest_17 ⟨(congrArg (fun z => some (Value.int (jI z))) (by unfold lowZ; (repeat' split) <;> omega)), rfl⟩
      · refine V_iinc (b := 3) (lv' := [(1, .int (jI 3)), (0, .int (jI z))]) hX dX5_lowest_10 0 rfl rfl (by decide) rfl ?_
        refine V_goto (tgt := 2) hX dX5_lowest_13 (by decide) ?_
        refine V_iload_n hX dX5_lowest_2 1 rfl ?_
        refine V_iload_n hX dX5_lowest_3 0 rfl ?_
        refine V_ishr hX dX5_lowest_4 ?_
        refine V_iconst hX dX5_lowest_5 ?_
        refine V_iand hX dX5_lowest_6 ?_
        refine V.sk (st' := [.int (jI (z / 8 % 2))]) (congrArg (fun z : Int32 => ([Value.int z] : List Value)) (show ((jI (z)) >>> ((jI (3)) &&& 31)) &&& (jI (1)) = jI (z / 8 % 2) from lw_sh (w := 3) (by omega) (by omega) (by decide))) ?_
        refine V_if_ne (tgt := 16) hX dX5_lowest_7 (by decide) (by omega) (fun c_4 => ?_) (fun c_4 => ?_)
        · refine V_iload_n hX dX5_lowest_16 0 rfl ?_
          exact V_iret hX hR dX5_lowest_17 ⟨(congrArg (fun z => some (Value.int (jI z))) (by unfold lowZ; (repeat' split) <;> omega)), rfl⟩
        · exact absurd c_4 (by omega)

set_option maxHeartbeats 4000000 in
set_option maxRecDepth 100000 in
theorem c_X5_speaker (l : Launch) (G : vC) (m : Nat → Nat) (s : Nat → Int) (sp : Nat → Int) (hi : Nat → Int) (sn : Nat → Int) (tx : Nat → Int) (g3 : Int) (g5 : Int) (g7 : Int) (g8 : Int) (g9 : Int) (g10 : Int) (g11 : Int) (g12 : Int) (g13 : Int) (t : Int) (f : Int) (hI : Inv t s) (hf : iR f) : Fn l G yX5_speaker cX5_speaker 5 (some .int) ({ frames := 1, cells := 0, slots := 0, locals := 22 } : Room) [.ref (m 0), .int (jI f)] (mB G m s sp hi sn tx g3 g5 g7 g8 g9 g10 g11 g12 g13) (some (.int (jI (spN s f (s 10).toNat)))) (mB G m s sp hi sn tx g3 g5 g7 g8 g9 g10 g11 g12 g13) := by
  refine Ct.of (by decide) (Nat.le_of_ble_eq_true rfl) (fun X hX hR => ?_)
  refine V.toLv (lv' := [(0, .ref (m 0)), (1, .int (jI f))]) rfl ?_
  have hb := hI.base
  obtain ⟨N, hN⟩ : ∃ N : Nat, s 10 = (N : Int) := ⟨(s 10).toNat, by omega⟩
  refine V_bipush hX dX5_speaker_0 (by decide) ?_
  refine V_istore_n (i := 2) (lv' := [(2, .int (jI (-5))), (0, .ref (m 0)), (1, .int (jI f))]) hX dX5_speaker_2 rfl (by decide) rfl ?_
  refine V_iconst hX dX5_speaker_3 ?_
  refine V_istore_n (i := 3) (lv' := [(3, .int (jI 0)), (2, .int (jI (-5))), (0, .ref (m 0)), (1, .int (jI f))]) hX dX5_speaker_4 rfl (by decide) rfl ?_
  have L5_q_1 : ∀ k : Nat, k ≤ N → ∀ (i : Int) (sq : Int), (i = (k : Int)) → (sq = spN s f k) → V X 0 0 (mB G m s sp hi sn tx g3 g5 g7 g8 g9 g10 g11 g12 g13) [(3, .int (jI i)), (2, .int (jI sq)), (0, .ref (m 0)), (1, .int (jI f))] 5 [] := by
    refine up_ind (fun k => ∀ (i : Int) (sq : Int), (i = (k : Int)) → (sq = spN s f k) → V X 0 0 (mB G m s sp hi sn tx g3 g5 g7 g8 g9 g10 g11 g12 g13) [(3, .int (jI i)), (2, .int (jI sq)), (0, .ref (m 0)), (1, .int (jI f))] 5 []) (N) ?_
    intro k hk ih i sq hik hsq
    have hspb := spN_b s f k
    refine V_iload_n hX dX5_speaker_5 0 rfl ?_
    refine V_aload_n hX dX5_speaker_6 2 rfl ?_
    refine V_get (v := .ref (m 1)) hX cbX5 0 0 (by decide) wf_X5_7 rfl rfl rfl rfl dX5_speaker_7 ?_
    refine V_bipush hX dX5_speaker_10 (by decide) ?_
    refine V_iald (i0 := 10) (r := (jI (s 10))) hX 1 rfl (by decide) (by decide) (by decide) rfl rfl dX5_speaker_12 ?_
    refine V_icmp_ge (tgt := 101) hX dX5_speaker_13 (by decide) (by omega) (by omega) (fun c_2 => ?_) (fun c_2 => ?_)
    · refine V_iload_n hX dX5_speaker_101 1 rfl ?_
      exact V_iret hX hR dX5_speaker_102 ⟨(congrArg (fun z => some (Value.int (jI z))) (by rw [hsq]; congr 1; omega)), rfl⟩
    · have hs := hI.sc k (by omega)
      refine V_aload_n hX dX5_speaker_16 2 rfl ?_
      refine V_iload_n hX dX5_speaker_17 0 rfl ?_
      refine V_iconst hX dX5_speaker_18 ?_
      refine V.sk (st' := [.int (jI ((0 : Int))), .int (jI i), .ref (m 0)]) rfl ?_
      refine V.sk (st' := [.int (jI ((0 : Int))), .int (jI ((k : Int))), .ref (m 0)]) (congrArg (fun z : Int => [Value.int (jI ((0 : Int))), Value.int (jI z), Value.ref (m 0)]) (show i = (k : Int) by omega)) ?_
      refine V_cV (st := []) (v := .int (jI (s (ix k 0)))) (w' := mB G m s sp hi sn tx g3 g5 g7 g8 g9 g10 g11 g12 g13) hX wc_X5_29 (c_X5_of l G m s sp hi sn tx g3 g5 g7 g8 g9 g10 g11 g12 g13 k 0 (by omega) (by omega)) (by decide) (by decide) rfl rfl (Nat.le_of_ble_eq_true rfl) dX5_speaker_19 [] ([]) (by simp only [List.append_assoc, List.nil_append, List.append_nil]) 0 rfl rfl (by simp only [List.append_assoc, List.nil_append, List.append_nil]) rfl rfl ?_
      refine V_iload_n hX dX5_speaker_22 3 rfl ?_
      refine V_icmp_ne (tgt := 95) hX dX5_speaker_23 (by decide) (by omega) (by omega) (fun c_3 => ?_) (fun c_3 => ?_)
      · refine V_iinc (b := i + 1) (lv' := [(3, .int (jI (i + 1))), (2, .int (jI sq)), (0, .ref (m 0)), (1, .int (jI f))]) hX dX5_speaker_95 0 rfl rfl (by decide) rfl ?_
        refine V_goto (tgt := 5) hX dX5_speaker_98 (by decide) ?_
        refine V.sub [0, 1, 2, 3] rfl ?_
        exact ih (by omega) _ _ (by omega) (by subst hsq; rw [spN_s]; split <;> omega)
      · refine V_iload_n hX dX5_speaker_26 1 rfl ?_
        refine V_bipush hX dX5_speaker_27 (by decide) ?_
        refine V_icmp_eq (tgt := 77) hX dX5_speaker_29 (by decide) (by omega) (by decide) (fun c_4 => ?_) (fun c_4 => ?_)
        · refine V_iconst hX dX5_speaker_77 ?_
          refine V_goto (tgt := 82) hX dX5_speaker_78 (by decide) ?_
          refine V_istore (i := 4) (lv' := [(4, .int (jI 1)), (3, .int (jI i)), (2, .int (jI sq)), (0, .ref (m 0)), (1, .int (jI f))]) hX dX5_speaker_82 (by decide) rfl ?_
          refine V_iload hX dX5_speaker_84 0 rfl ?_
          refine V_if_eq (tgt := 93) hX dX5_speaker_86 (by decide) (by decide) (fun c_5 => absurd c_5 (by decide)) (fun c_5 => ?_)
          refine V_iload_n hX dX5_speaker_89 1 rfl ?_
          refine V_goto (tgt := 94) hX dX5_speaker_90 (by decide) ?_
          refine V_istore_n (i := 2) (lv' := [(2, .int (jI i)), (4, .int (jI 1)), (3, .int (jI i)), (0, .ref (m 0)), (1, .int (jI f))]) hX dX5_speaker_94 rfl (by decide) rfl ?_
          refine V_iinc (b := i + 1) (lv' := [(3, .int (jI (i + 1))), (2, .int (jI i)), (4, .int (jI 1)), (0, .ref (m 0)), (1, .int (jI f))]) hX dX5_speaker_95 2 rfl rfl (by decide) rfl ?_
          refine V_goto (tgt := 5) hX dX5_speaker_98 (by decide) ?_
          refine V.sub [0, 1, 3, 4] rfl ?_
          exact ih (by omega) _ _ (by omega) (by subst hsq; rw [spN_s]; split <;> omega)
        · have hs3 := hI.sc sq.toNat (by omega)
          refine V_aload_n hX dX5_speaker_32 2 rfl ?_
          refine V_iload_n hX dX5_speaker_33 0 rfl ?_
          refine V_iconst hX dX5_speaker_34 ?_
          refine V.sk (st' := [.int (jI ((1 : Int))), .int (jI i), .ref (m 0)]) rfl ?_
          refine V.sk (st' := [.int (jI ((1 : Int))), .int (jI ((k : Int))), .ref (m 0)]) (congrArg (fun z : Int => [Value.int (jI ((1 : Int))), Value.int (jI z), Value.ref (m 0)]) (show i = (k : Int) by omega)) ?_
          refine V_cV (st := []) (v := .int (jI (s (ix k 1)))) (w' := mB G m s sp hi sn tx g3 g5 g7 g8 g9 g10 g11 g12 g13) hX wc_X5_29 (c_X5_of l G m s sp hi sn tx g3 g5 g7 g8 g9 g10 g11 g12 g13 k 1 (by omega) (by omega)) (by decide) (by decide) rfl rfl (Nat.le_of_ble_eq_true rfl) dX5_speaker_35 [] ([]) (by simp only [List.append_assoc, List.nil_append, List.append_nil]) 0 rfl rfl (by simp only [List.append_assoc, List.nil_append, List.append_nil]) rfl rfl ?_
          refine V_aload_n hX dX5_speaker_38 2 rfl ?_
          refine V_iload_n hX dX5_speaker_39 1 rfl ?_
          refine V_iconst hX dX5_speaker_40 ?_
          refine V.sk (st' := [.int (jI ((1 : Int))), .int (jI sq), .ref (m 0), .int (jI (s (ix k 1)))]) rfl ?_
          refine V.sk (st' := [.int (jI ((1 : Int))), .int (jI ((sq.toNat : Int))), .ref (m 0), .int (jI (s (ix k 1)))]) (congrArg (fun z : Int => [Value.int (jI ((1 : Int))), Value.int (jI z), Value.ref (m 0), Value.int (jI (s (ix k 1)))]) (show sq = (sq.toNat : Int) by omega)) ?_
          refine V_cV (st := [.int (jI (s (ix k 1)))]) (v := .int (jI (s (ix sq.toNat 1)))) (w' := mB G m s sp hi sn tx g3 g5 g7 g8 g9 g10 g11 g12 g13) hX wc_X5_29 (c_X5_of l G m s sp hi sn tx g3 g5 g7 g8 g9 g10 g11 g12 g13 sq.toNat 1 (by omega) (by omega)) (by decide) (by decide) rfl rfl (Nat.le_of_ble_eq_true rfl) dX5_speaker_41 [] ([]) (by simp only [List.append_assoc, List.nil_append, List.append_nil]) 0 rfl rfl (by simp only [List.append_assoc, List.nil_append, List.append_nil]) rfl rfl ?_
          refine V_icmp_gt (tgt := 77) hX dX5_speaker_44 (by decide) (by omega) (by omega) (fun c_6 => ?_) (fun c_6 => ?_)
          · refine V_iconst hX dX5_speaker_77 ?_
            refine V_goto (tgt := 82) hX dX5_speaker_78 (by decide) ?_
            refine V_istore (i := 4) (lv' := [(4, .int (jI 1)), (3, .int (jI i)), (2, .int (jI sq)), (0, .ref (m 0)), (1, .int (jI f))]) hX dX5_speaker_82 (by decide) rfl ?_
            refine V_iload hX dX5_speaker_84 0 rfl ?_
            refine V_if_eq (tgt := 93) hX dX5_speaker_86 (by decide) (by decide) (fun c_7 => absurd c_7 (by decide)) (fun c_7 => ?_)
            refine V_iload_n hX dX5_speaker_89 1 rfl ?_
            refine V_goto (tgt := 94) hX dX5_speaker_90 (by decide) ?_
            refine V_istore_n (i := 2) (lv' := [(2, .int (jI i)), (4, .int (jI 1)), (3, .int (jI i)), (0, .ref (m 0)), (1, .int (jI f))]) hX dX5_speaker_94 rfl (by decide) rfl ?_
            refine V_iinc (b := i + 1) (lv' := [(3, .int (jI (i + 1))), (2, .int (jI i)), (4, .int (jI 1)), (0, .ref (m 0)), (1, .int (jI f))]) hX dX5_speaker_95 2 rfl rfl (by decide) rfl ?_
            refine V_goto (tgt := 5) hX dX5_speaker_98 (by decide) ?_
            refine V.sub [0, 1, 3, 4] rfl ?_
            exact ih (by omega) _ _ (by omega) (by subst hsq; rw [spN_s]; split <;> omega)
          · refine V_aload_n hX dX5_speaker_47 2 rfl ?_
            refine V_iload_n hX dX5_speaker_48 0 rfl ?_
            refine V_iconst hX dX5_speaker_49 ?_
            refine V.sk (st' := [.int (jI ((1 : Int))), .int (jI i), .ref (m 0)]) rfl ?_
            refine V.sk (st' := [.int (jI ((1 : Int))), .int (jI ((k : Int))), .ref (m 0)]) (congrArg (fun z : Int => [Value.int (jI ((1 : Int))), Value.int (jI z), Value.ref (m 0)]) (show i = (k : Int) by omega)) ?_
            refine V_cV (st := []) (v := .int (jI (s (ix k 1)))) (w' := mB G m s sp hi sn tx g3 g5 g7 g8 g9 g10 g11 g12 g13) hX wc_X5_29 (c_X5_of l G m s sp hi sn tx g3 g5 g7 g8 g9 g10 g11 g12 g13 k 1 (by omega) (by omega)) (by decide) (by decide) rfl rfl (Nat.le_of_ble_eq_true rfl) dX5_speaker_50 [] ([]) (by simp only [List.append_assoc, List.nil_append, List.append_nil]) 0 rfl rfl (by simp only [List.append_assoc, List.nil_append, List.append_nil]) rfl rfl ?_
            refine V_aload_n hX dX5_speaker_53 2 rfl ?_
            refine V_iload_n hX dX5_speaker_54 1 rfl ?_
            refine V_iconst hX dX5_speaker_55 ?_
            refine V.sk (st' := [.int (jI ((1 : Int))), .int (jI sq), .ref (m 0), .int (jI (s (ix k 1)))]) rfl ?_
            refine V.sk (st' := [.int (jI ((1 : Int))), .int (jI ((sq.toNat : Int))), .ref (m 0), .int (jI (s (ix k 1)))]) (congrArg (fun z : Int => [Value.int (jI ((1 : Int))), Value.int (jI z), Value.ref (m 0), Value.int (jI (s (ix k 1)))]) (show sq = (sq.toNat : Int) by omega)) ?_
            refine V_cV (st := [.int (jI (s (ix k 1)))]) (v := .int (jI (s (ix sq.toNat 1)))) (w' := mB G m s sp hi sn tx g3 g5 g7 g8 g9 g10 g11 g12 g13) hX wc_X5_29 (c_X5_of l G m s sp hi sn tx g3 g5 g7 g8 g9 g10 g11 g12 g13 sq.toNat 1 (by omega) (by omega)) (by decide) (by decide) rfl rfl (Nat.le_of_ble_eq_true rfl) dX5_speaker_56 [] ([]) (by simp only [List.append_assoc, List.nil_append, List.append_nil]) 0 rfl rfl (by simp only [List.append_assoc, List.nil_append, List.append_nil]) rfl rfl ?_
            refine V_icmp_ne (tgt := 81) hX dX5_speaker_59 (by decide) (by omega) (by omega) (fun c_8 => ?_) (fun c_8 => ?_)
            · refine V_iconst hX dX5_speaker_81 ?_
              refine V_istore (i := 4) (lv' := [(4, .int (jI 0)), (3, .int (jI i)), (2, .int (jI sq)), (0, .ref (m 0)), (1, .int (jI f))]) hX dX5_speaker_82 (by decide) rfl ?_
              refine V_iload hX dX5_speaker_84 0 rfl ?_
              refine V_if_eq (tgt := 93) hX dX5_speaker_86 (by decide) (by decide) (fun c_9 => ?_) (fun c_9 => absurd c_9 (by decide))
              refine V_iload_n hX dX5_speaker_93 2 rfl ?_
              refine V_istore_n (i := 2) (lv' := [(2, .int (jI sq)), (4, .int (jI 0)), (3, .int (jI i)), (0, .ref (m 0)), (1, .int (jI f))]) hX dX5_speaker_94 rfl (by decide) rfl ?_
              refine V_iinc (b := i + 1) (lv' := [(3, .int (jI (i + 1))), (2, .int (jI sq)), (4, .int (jI 0)), (0, .ref (m 0)), (1, .int (jI f))]) hX dX5_speaker_95 2 rfl rfl (by decide) rfl ?_
              refine V_goto (tgt := 5) hX dX5_speaker_98 (by decide) ?_
              refine V.sub [0, 1, 3, 4] rfl ?_
              exact ih (by omega) _ _ (by omega) (by subst hsq; rw [spN_s]; split <;> omega)
            · refine V_aload_n hX dX5_speaker_62 2 rfl ?_
              refine V_iload_n hX dX5_speaker_63 0 rfl ?_
              refine V_iconst hX dX5_speaker_64 ?_
              refine V.sk (st' := [.int (jI ((4 : Int))), .int (jI i), .ref (m 0)]) rfl ?_
              refine V.sk (st' := [.int (jI ((4 : Int))), .int (jI ((k : Int))), .ref (m 0)]) (congrArg (fun z : Int => [Value.int (jI ((4 : Int))), Value.int (jI z), Value.ref (m 0)]) (show i = (k : Int) by omega)) ?_
              refine V_cV (st := []) (v := .int (jI (s (ix k 4)))) (w' := mB G m s sp hi sn tx g3 g5 g7 g8 g9 g10 g11 g12 g13) hX wc_X5_29 (c_X5_of l G m s sp hi sn tx g3 g5 g7 g8 g9 g10 g11 g12 g13 k 4 (by omega) (by omega)) (by decide) (by decide) rfl rfl (Nat.le_of_ble_eq_true rfl) dX5_speaker_65 [] ([]) (by simp only [List.append_assoc, List.nil_append, List.append_nil]) 0 rfl rfl (by simp only [List.append_assoc, List.nil_append, List.append_nil]) rfl rfl ?_
              refine V_aload_n hX dX5_speaker_68 2 rfl ?_
              refine V_iload_n hX dX5_speaker_69 1 rfl ?_
              refine V_iconst hX dX5_speaker_70 ?_
              refine V.sk (st' := [.int (jI ((4 : Int))), .int (jI sq), .ref (m 0), .int (jI (s (ix k 4)))]) rfl ?_
              refine V.sk (st' := [.int (jI ((4 : Int))), .int (jI ((sq.toNat : Int))), .ref (m 0), .int (jI (s (ix k 4)))]) (congrArg (fun z : Int => [Value.int (jI ((4 : Int))), Value.int (jI z), Value.ref (m 0), Value.int (jI (s (ix k 4)))]) (show sq = (sq.toNat : Int) by omega)) ?_
              refine V_cV (st := [.int (jI (s (ix k 4)))]) (v := .int (jI (s (ix sq.toNat 4)))) (w' := mB G m s sp hi sn tx g3 g5 g7 g8 g9 g10 g11 g12 g13) hX wc_X5_29 (c_X5_of l G m s sp hi sn tx g3 g5 g7 g8 g9 g10 g11 g12 g13 sq.toNat 4 (by omega) (by omega)) (by decide) (by decide) rfl rfl (Nat.le_of_ble_eq_true rfl) dX5_speaker_71 [] ([]) (by simp only [List.append_assoc, List.nil_append, List.append_nil]) 0 rfl rfl (by simp only [List.append_assoc, List.nil_append, List.append_nil]) rfl rfl ?_
              refine V_icmp_le (tgt := 81) hX dX5_speaker_74 (by decide) (by omega) (by omega) (fun c_10 => ?_) (fun c_10 => ?_)
              · refine V_iconst hX dX5_speaker_81 ?_
                refine V_istore (i := 4) (lv' := [(4, .int (jI 0)), (3, .int (jI i)), (2, .int (jI sq)), (0, .ref (m 0)), (1, .int (jI f))]) hX dX5_speaker_82 (by decide) rfl ?_
                refine V_iload hX dX5_speaker_84 0 rfl ?_
                refine V_if_eq (tgt := 93) hX dX5_speaker_86 (by decide) (by decide) (fun c_11 => ?_) (fun c_11 => absurd c_11 (by decide))
                refine V_iload_n hX dX5_speaker_93 2 rfl ?_
                refine V_istore_n (i := 2) (lv' := [(2, .int (jI sq)), (4, .int (jI 0)), (3, .int (jI i)), (0, .ref (m 0)), (1, .int (jI f))]) hX dX5_speaker_94 rfl (by decide) rfl ?_
                refine V_iinc (b := i + 1) (lv' := [(3, .int (jI (i + 1))), (2, .int (jI sq)), (4, .int (jI 0)), (0, .ref (m 0)), (1, .int (jI f))]) hX dX5_speaker_95 2 rfl rfl (by decide) rfl ?_
                refine V_goto (tgt := 5) hX dX5_speaker_98 (by decide) ?_
                refine V.sub [0, 1, 3, 4] rfl ?_
                exact ih (by omega) _ _ (by omega) (by subst hsq; rw [spN_s]; split <;> omega)
              · refine V_iconst hX dX5_speaker_77 ?_
                refine V_goto (tgt := 82) hX dX5_speaker_78 (by decide) ?_
                refine V_istore (i := 4) (lv' := [(4, .int (jI 1)), (3, .int (jI i)), (2, .int (jI sq)), (0, .ref (m 0)), (1, .int (jI f))]) hX dX5_speaker_82 (by decide) rfl ?_
                refine V_iload hX dX5_speaker_84 0 rfl ?_
                refine V_if_eq (tgt := 93) hX dX5_speaker_86 (by decide) (by decide) (fun c_12 => absurd c_12 (by decide)) (fun c_12 => ?_)
                refine V_iload_n hX dX5_speaker_89 1 rfl ?_
                refine V_goto (tgt := 94) hX dX5_speaker_90 (by decide) ?_
                refine V_istore_n (i := 2) (lv' := [(2, .int (jI i)), (4, .int (jI 1)), (3, .int (jI i)), (0, .ref (m 0)), (1, .int (jI f))]) hX dX5_speaker_94 rfl (by decide) rfl ?_
                refine V_iinc (b := i + 1) (lv' := [(3, .int (jI (i + 1))), (2, .int (jI i)), (4, .int (jI 1)), (0, .ref (m 0)), (1, .int (jI f))]) hX dX5_speaker_95 2 rfl rfl (by decide) rfl ?_
                refine V_goto (tgt := 5) hX dX5_speaker_98 (by decide) ?_
                refine V.sub [0, 1, 3, 4] rfl ?_
                exact ih (by omega) _ _ (by omega) (by subst hsq; rw [spN_s]; split <;> omega)
  refine V.sub [0, 1, 2, 3] rfl ?_
  exact L5_q_1 0 (Nat.zero_le _) 0 (-5) rfl rfl

set_option maxHeartbeats 4000000 in
set_option maxRecDepth 100000 in
theorem c_X5_votes (l : Launch) (G : vC) (m : Nat → Nat) (s : Nat → Int) (sp : Nat → Int) (hi : Nat → Int) (sn : Nat → Int) (tx : Nat → Int) (g3 : Int) (g5 : Int) (g7 : Int) (g8 : Int) (g9 : Int) (g10 : Int) (g11 : Int) (g12 : Int) (g13 : Int) (t : Int) (lb : Bool) (f : Int) (c : Int) (hI : Inv t s) (hc : (lb = true ∧ c = s 1) ∨ (lb = false ∧ c = 0)) (hf : iR f) : Fn l G yX5_votes cX5_votes 5 (some .int) ({ frames := 4, cells := 0, slots := 0, locals := 97 } : Room) [.ref (m 0), .int (jI f), .int (jI c)] (mB G m s sp hi sn tx g3 g5 g7 g8 g9 g10 g11 g12 g13) (some (.int (jI (vtR s lb f)))) (mB G m s sp hi sn tx g3 g5 g7 g8 g9 g10 g11 g12 g13) := by
  refine Ct.of (by decide) (Nat.le_of_ble_eq_true rfl) (fun X hX hR => ?_)
  refine V.toLv (lv' := [(0, .ref (m 0)), (1, .int (jI f)), (2, .int (jI c))]) rfl ?_
  have hb := hI.base
  have hgn : spN s f (s 10).toNat < 0 → grN (wF s lb f (s 10).toNat) 4 = 0 := gr_no
  have hzb := ldZ_b (wF s lb f (s 10).toNat) (grN (wF s lb f (s 10).toNat) 4)
  have hz0 := ld_0 (wF s lb f (s 10).toNat)
  have hspb := spN_b s f (s 10).toNat
  refine V_aload_n hX dX5_votes_0 0 rfl ?_
  refine V_iload_n hX dX5_votes_1 1 rfl ?_
  refine V_iload_n hX dX5_votes_2 2 rfl ?_
  refine V_cV (st := []) (v := .int (jI (ldZ (wF s lb f (s 10).toNat) (grN (wF s lb f (s 10).toNat) 4)))) (w' := mB G m s sp hi sn tx g3 g5 g7 g8 g9 g10 g11 g12 g13) hX wc_X5_58 (c_X5_leaders l G m s sp hi sn tx g3 g5 g7 g8 g9 g10 g11 g12 g13 t lb f c hI (by first | exact hc | exact Or.inl ⟨rfl, rfl⟩ | exact Or.inr ⟨rfl, rfl⟩) (by omega)) (by decide) (by decide) rfl rfl (Nat.le_of_ble_eq_true rfl) dX5_votes_3 [] ([]) (by simp only [List.append_assoc, List.nil_append, List.append_nil]) 0 rfl rfl (by simp only [List.append_assoc, List.nil_append, List.append_nil]) rfl rfl ?_
  refine V_istore_n (i := 3) (lv' := [(3, .int (jI (ldZ (wF s lb f (s 10).toNat) (grN (wF s lb f (s 10).toNat) 4)))), (0, .ref (m 0)), (1, .int (jI f)), (2, .int (jI c))]) hX dX5_votes_6 rfl (by decide) rfl ?_
  refine V_iload_n hX dX5_votes_7 0 rfl ?_
  refine V_if_ne (tgt := 14) hX dX5_votes_8 (by decide) (by omega) (fun c_1 => ?_) (fun c_1 => ?_)
  · have hgp : 0 < grN (wF s lb f (s 10).toNat) 4 := by omega
    have hs := hI.sc (spN s f (s 10).toNat).toNat (by omega)
    have hlb2 := ldB_h (wF s lb f (s 10).toNat) (grN (wF s lb f (s 10).toNat) 4) (s (ix (spN s f (s 10).toNat).toNat 3)).toNat
    have hlow := low_ld (W := wF s lb f (s 10).toNat) (g := grN (wF s lb f (s 10).toNat) 4) (by omega) (by omega)
    refine V_aload_n hX dX5_votes_14 1 rfl ?_
    refine V_aload_n hX dX5_votes_15 1 rfl ?_
    refine V_iload_n hX dX5_votes_16 2 rfl ?_
    refine V_cV (st := [.ref (m 0)]) (v := .int (jI (spN s f (s 10).toNat))) (w' := mB G m s sp hi sn tx g3 g5 g7 g8 g9 g10 g11 g12 g13) hX wc_X5_61 (c_X5_speaker l G m s sp hi sn tx g3 g5 g7 g8 g9 g10 g11 g12 g13 t f hI (by omega)) (by decide) (by decide) rfl rfl (Nat.le_of_ble_eq_true rfl) dX5_votes_17 [] ([]) (by simp only [List.append_assoc, List.nil_append, List.append_nil]) 0 rfl rfl (by simp only [List.append_assoc, List.nil_append, List.append_nil]) rfl rfl ?_
    refine V_iconst hX dX5_votes_20 ?_
    refine V.sk (st' := [.int (jI ((3 : Int))), .int (jI (spN s f (s 10).toNat)), .ref (m 0)]) rfl ?_
    refine V.sk (st' := [.int (jI ((3 : Int))), .int (jI (((spN s f (s 10).toNat).toNat : Int))), .ref (m 0)]) (congrArg (fun z : Int => [Value.int (jI ((3 : Int))), Value.int (jI z), Value.ref (m 0)]) (show spN s f (s 10).toNat = ((spN s f (s 10).toNat).toNat : Int) by omega)) ?_
    refine V_cV (st := []) (v := .int (jI (s (ix ((spN s f (s 10).toNat).toNat) 3)))) (w' := mB G m s sp hi sn tx g3 g5 g7 g8 g9 g10 g11 g12 g13) hX wc_X5_29 (c_X5_of l G m s sp hi sn tx g3 g5 g7 g8 g9 g10 g11 g12 g13 ((spN s f (s 10).toNat).toNat) 3 (by omega) (by omega)) (by decide) (by decide) rfl rfl (Nat.le_of_ble_eq_true rfl) dX5_votes_21 [] ([]) (by simp only [List.append_assoc, List.nil_append, List.append_nil]) 0 rfl rfl (by simp only [List.append_assoc, List.nil_append, List.append_nil]) rfl rfl ?_
    refine V_istore (i := 4) (lv' := [(4, .int (jI (s (ix ((spN s f (s 10).toNat).toNat) 3)))), (3, .int (jI (ldZ (wF s lb f (s 10).toNat) (grN (wF s lb f (s 10).toNat) 4)))), (0, .ref (m 0)), (1, .int (jI f)), (2, .int (jI c))]) hX dX5_votes_24 (by decide) rfl ?_
    refine V_iload_n hX dX5_votes_26 1 rfl ?_
    refine V_iload hX dX5_votes_27 0 rfl ?_
    refine V_ishr hX dX5_votes_29 ?_
    refine V_iconst hX dX5_votes_30 ?_
    refine V_iand hX dX5_votes_31 ?_
    refine V.sk (st' := [.int (jI (ldB (wF s lb f (s 10).toNat) (grN (wF s lb f (s 10).toNat) 4) (s (ix (spN s f (s 10).toNat).toNat 3)).toNat))]) (congrArg (fun z : Int32 => ([Value.int z] : List Value)) (show ((jI (ldZ (wF s lb f (s 10).toNat) (grN (wF s lb f (s 10).toNat) 4))) >>> ((jI (s (ix ((spN s f (s 10).toNat).toNat) 3))) &&& 31)) &&& (jI (1)) = jI (ldB (wF s lb f (s 10).toNat) (grN (wF s lb f (s 10).toNat) 4) (s (ix (spN s f (s 10).toNat).toNat 3)).toNat) from (by rw [show s (ix (spN s f (s 10).toNat).toNat 3) = (((s (ix (spN s f (s 10).toNat).toNat 3)).toNat : Nat) : Int) by omega]; exact sh_ld (by omega) (by omega)))) ?_
    refine V_iconst hX dX5_votes_32 ?_
    refine V_icmp_ne (tgt := 41) hX dX5_votes_33 (by decide) (by omega) (by decide) (fun c_2 => ?_) (fun c_2 => ?_)
    · refine V_iload_n hX dX5_votes_41 1 rfl ?_
      refine V_cS (st := []) (v := .int (jI (lowZ (ldZ (wF s lb f (s 10).toNat) (grN (wF s lb f (s 10).toNat) 4))))) (w' := mB G m s sp hi sn tx g3 g5 g7 g8 g9 g10 g11 g12 g13) hX wc_X5_65 (c_X5_lowest l G (ldZ (wF s lb f (s 10).toNat) (grN (wF s lb f (s 10).toNat) 4)) (by omega)) (by decide) (by decide) rfl rfl (Nat.le_of_ble_eq_true rfl) dX5_votes_42 [] (mB G m s sp hi sn tx g3 g5 g7 g8 g9 g10 g11 g12 g13) (by simp only [List.append_assoc, List.nil_append, List.append_nil]) (by simp only [List.append_assoc, List.nil_append, List.append_nil]) rfl rfl ?_
      exact V_iret hX hR dX5_votes_45 ⟨(congrArg (fun z => some (Value.int (jI z))) (by unfold vtR; (repeat' split) <;> first | rfl | omega)), rfl⟩
    · refine V_iload hX dX5_votes_36 0 rfl ?_
      refine V_goto (tgt := 45) hX dX5_votes_38 (by decide) ?_
      exact V_iret hX hR dX5_votes_45 ⟨(congrArg (fun z => some (Value.int (jI z))) (by unfold vtR; (repeat' split) <;> first | rfl | omega)), rfl⟩
  · refine V_bipush hX dX5_votes_11 (by decide) ?_
    exact V_iret hX hR dX5_votes_13 ⟨(congrArg (fun z => some (Value.int (jI z))) (by unfold vtR; (repeat' split) <;> first | rfl | omega)), rfl⟩

set_option maxHeartbeats 4000000 in
set_option maxRecDepth 100000 in
theorem c_X5_allSeats (l : Launch) (G : vC) (m : Nat → Nat) (s : Nat → Int) (sp : Nat → Int) (hi : Nat → Int) (sn : Nat → Int) (tx : Nat → Int) (g3 : Int) (g5 : Int) (g7 : Int) (g8 : Int) (g9 : Int) (g10 : Int) (g11 : Int) (g12 : Int) (g13 : Int) (t : Int) (hI : Inv t s) : Fn l G yX5_allSeats cX5_allSeats 3 (some .int) ({ frames := 0, cells := 0, slots := 0, locals := 0 } : Room) [.ref (m 0)] (mB G m s sp hi sn tx g3 g5 g7 g8 g9 g10 g11 g12 g13) (some (.int (jI (allS s)))) (mB G m s sp hi sn tx g3 g5 g7 g8 g9 g10 g11 g12 g13) := by
  refine Ct.of (by decide) (Nat.le_of_ble_eq_true rfl) (fun X hX hR => ?_)
  refine V.toLv (lv' := [(0, .ref (m 0))]) rfl ?_
  have hb := hI.base
  refine V_iconst hX dX5_allSeats_0 ?_
  refine V_istore_n (i := 1) (lv' := [(1, .int (jI 0)), (0, .ref (m 0))]) hX dX5_allSeats_1 rfl (by decide) rfl ?_
  refine V_iconst hX dX5_allSeats_2 ?_
  refine V_istore_n (i := 2) (lv' := [(2, .int (jI 0)), (1, .int (jI 0)), (0, .ref (m 0))]) hX dX5_allSeats_3 rfl (by decide) rfl ?_
  have L4_q_1 : ∀ k : Nat, k ≤ 6 → ∀ (i : Int) (acc : Int), (i = (k : Int)) → (acc = sumK (fun k => s (11 + k)) k) → V X 0 0 (mB G m s sp hi sn tx g3 g5 g7 g8 g9 g10 g11 g12 g13) [(2, .int (jI i)), (1, .int (jI acc)), (0, .ref (m 0))] 4 [] := by
    refine up_ind (fun k => ∀ (i : Int) (acc : Int), (i = (k : Int)) → (acc = sumK (fun k => s (11 + k)) k) → V X 0 0 (mB G m s sp hi sn tx g3 g5 g7 g8 g9 g10 g11 g12 g13) [(2, .int (jI i)), (1, .int (jI acc)), (0, .ref (m 0))] 4 []) (6) ?_
    intro k hk ih i acc hik hacc
    refine V_iload_n hX dX5_allSeats_4 0 rfl ?_
    refine V_bipush hX dX5_allSeats_5 (by decide) ?_
    refine V_icmp_ge (tgt := 28) hX dX5_allSeats_7 (by decide) (by omega) (by decide) (fun c_2 => ?_) (fun c_2 => ?_)
    · refine V_iload_n hX dX5_allSeats_28 1 rfl ?_
      exact V_iret hX hR dX5_allSeats_29 ⟨(congrArg (fun z => some (Value.int (jI z))) (by rw [hacc, show k = 6 by omega]; rfl)), rfl⟩
    · refine V_iload_n hX dX5_allSeats_10 1 rfl ?_
      refine V_aload_n hX dX5_allSeats_11 2 rfl ?_
      refine V_get (v := .ref (m 1)) hX cbX5 0 0 (by decide) wf_X5_7 rfl rfl rfl rfl dX5_allSeats_12 ?_
      refine V_bipush hX dX5_allSeats_15 (by decide) ?_
      refine V_iload_n hX dX5_allSeats_17 0 rfl ?_
      refine V_iadd hX dX5_allSeats_18 rfl ?_
      refine V_iald (i0 := 11 + k) (r := (jI (s (11 + k)))) hX 1 rfl (by omega) (by omega) (by omega) (by omega) rfl dX5_allSeats_19 ?_
      refine V_iadd hX dX5_allSeats_20 rfl ?_
      refine V_istore_n (i := 1) (lv' := [(1, .int (jI (acc + (s (11 + k))))), (2, .int (jI i)), (0, .ref (m 0))]) hX dX5_allSeats_21 rfl (by decide) rfl ?_
      refine V_iinc (b := i + 1) (lv' := [(2, .int (jI (i + 1))), (1, .int (jI (acc + (s (11 + k))))), (0, .ref (m 0))]) hX dX5_allSeats_22 1 rfl rfl (by decide) rfl ?_
      refine V_goto (tgt := 4) hX dX5_allSeats_25 (by decide) ?_
      refine V.sub [0, 1, 2] rfl ?_
      exact ih (by omega) _ _ (by omega) (by rw [hacc]; rfl)
  refine V.sub [0, 1, 2] rfl ?_
  exact L4_q_1 0 (Nat.zero_le _) 0 0 rfl rfl

set_option maxHeartbeats 4000000 in
set_option maxRecDepth 100000 in
theorem c_X5_decides (l : Launch) (G : vC) (m : Nat → Nat) (s : Nat → Int) (sp : Nat → Int) (hi : Nat → Int) (sn : Nat → Int) (tx : Nat → Int) (g3 : Int) (g5 : Int) (g7 : Int) (g8 : Int) (g9 : Int) (g10 : Int) (g11 : Int) (g12 : Int) (g13 : Int) (t : Int) (lb : Bool) (c : Int) (hI : Inv t s) (hc : (lb = true ∧ c = s 1) ∨ (lb = false ∧ c = 0)) : Fn l G yX5_decides cX5_decides 5 (some .int) ({ frames := 5, cells := 0, slots := 0, locals := 121 } : Room) [.ref (m 0), .int (jI c)] (mB G m s sp hi sn tx g3 g5 g7 g8 g9 g10 g11 g12 g13) (some (.int (jI (bsR s (pvF s lb))))) (mB G m s sp hi sn tx g3 g5 g7 g8 g9 g10 g11 g12 g13) := by
  refine Ct.of (by decide) (Nat.le_of_ble_eq_true rfl) (fun X hX hR => ?_)
  refine V.toLv (lv' := [(0, .ref (m 0)), (1, .int (jI c))]) rfl ?_
  have hb := hI.base
  have hall := allS_b hI
  refine V_iconst hX dX5_decides_0 ?_
  refine V_istore_n (i := 2) (lv' := [(2, .int (jI 0)), (0, .ref (m 0)), (1, .int (jI c))]) hX dX5_decides_1 rfl (by decide) rfl ?_
  refine V_iload_n hX dX5_decides_2 0 rfl ?_
  refine V_iconst hX dX5_decides_3 ?_
  refine V_icmp_ge (tgt := 71) hX dX5_decides_4 (by decide) (by decide) (by decide) (fun c_1 => absurd c_1 (by decide)) (fun c_1 => ?_)
  refine V_iconst hX dX5_decides_7 ?_
  refine V_istore_n (i := 3) (lv' := [(3, .int (jI 0)), (2, .int (jI 0)), (0, .ref (m 0)), (1, .int (jI c))]) hX dX5_decides_8 rfl (by decide) rfl ?_
  refine V_iconst hX dX5_decides_9 ?_
  refine V_istore (i := 4) (lv' := [(4, .int (jI 0)), (3, .int (jI 0)), (2, .int (jI 0)), (0, .ref (m 0)), (1, .int (jI c))]) hX dX5_decides_10 (by decide) rfl ?_
  have L12_q_2 : ∀ k : Nat, k ≤ 6 → ∀ (i : Int) (acc : Int), (i = (k : Int)) → (acc = hsN s (pvF s lb) 0 k) → V X 0 0 (mB G m s sp hi sn tx g3 g5 g7 g8 g9 g10 g11 g12 g13) [(4, .int (jI i)), (3, .int (jI acc)), (0, .ref (m 0)), (1, .int (jI c)), (2, .int (jI 0))] 12 [] := by
    refine up_ind (fun k => ∀ (i : Int) (acc : Int), (i = (k : Int)) → (acc = hsN s (pvF s lb) 0 k) → V X 0 0 (mB G m s sp hi sn tx g3 g5 g7 g8 g9 g10 g11 g12 g13) [(4, .int (jI i)), (3, .int (jI acc)), (0, .ref (m 0)), (1, .int (jI c)), (2, .int (jI 0))] 12 []) (6) ?_
    intro k hk ih i acc hik hacc
    have hsb := hsN_b hI (pvF s lb) 0 k hk
    have hvk := vtR_b hI lb i
    have hpk : pvF s lb k = vtR s lb i := by rw [hik]; rfl
    refine V_iload hX dX5_decides_12 0 rfl ?_
    refine V_bipush hX dX5_decides_14 (by decide) ?_
    refine V_icmp_ge (tgt := 53) hX dX5_decides_16 (by decide) (by omega) (by decide) (fun c_3 => ?_) (fun c_3 => ?_)
    · have hm0 : acc = hsN s (pvF s lb) 0 6 := by rw [hacc, show k = 6 by omega]
      have hn0 := hsN_b hI (pvF s lb) 0 6 (Nat.le_refl _)
      refine V_iconst hX dX5_decides_53 ?_
      refine V_iload_n hX dX5_decides_54 1 rfl ?_
      refine V_imul hX dX5_decides_55 rfl ?_
      refine V_aload_n hX dX5_decides_56 2 rfl ?_
      refine V_cV (st := [.int (jI (2 * acc))]) (v := .int (jI (allS s))) (w' := mB G m s sp hi sn tx g3 g5 g7 g8 g9 g10 g11 g12 g13) hX wc_X5_71 (c_X5_allSeats l G m s sp hi sn tx g3 g5 g7 g8 g9 g10 g11 g12 g13 t hI) (by decide) (by decide) rfl rfl (Nat.le_of_ble_eq_true rfl) dX5_decides_57 [] ([]) (by simp only [List.append_assoc, List.nil_append, List.append_nil]) 0 rfl rfl (by simp only [List.append_assoc, List.nil_append, List.append_nil]) rfl rfl ?_
      refine V_icmp_le (tgt := 65) hX dX5_decides_60 (by decide) (by omega) (by omega) (fun c_4 => ?_) (fun c_4 => ?_)
      · refine V_iinc (b := 1) (lv' := [(2, .int (jI 1)), (4, .int (jI i)), (3, .int (jI acc)), (0, .ref (m 0)), (1, .int (jI c))]) hX dX5_decides_65 4 rfl rfl (by decide) rfl ?_
        refine V_goto (tgt := 2) hX dX5_decides_68 (by decide) ?_
        refine V_iload_n hX dX5_decides_2 0 rfl ?_
        refine V_iconst hX dX5_decides_3 ?_
        refine V_icmp_ge (tgt := 71) hX dX5_decides_4 (by decide) (by decide) (by decide) (fun c_5 => absurd c_5 (by decide)) (fun c_5 => ?_)
        refine V_iconst hX dX5_decides_7 ?_
        refine V_istore_n (i := 3) (lv' := [(3, .int (jI 0)), (2, .int (jI 1)), (4, .int (jI i)), (0, .ref (m 0)), (1, .int (jI c))]) hX dX5_decides_8 rfl (by decide) rfl ?_
        refine V_iconst hX dX5_decides_9 ?_
        refine V_istore (i := 4) (lv' := [(4, .int (jI 0)), (3, .int (jI 0)), (2, .int (jI 1)), (0, .ref (m 0)), (1, .int (jI c))]) hX dX5_decides_10 (by decide) rfl ?_
        have L12_q_6 : ∀ k : Nat, k ≤ 6 → ∀ (i : Int) (acc : Int), (i = (k : Int)) → (acc = hsN s (pvF s lb) 1 k) → V X 0 0 (mB G m s sp hi sn tx g3 g5 g7 g8 g9 g10 g11 g12 g13) [(4, .int (jI i)), (3, .int (jI acc)), (0, .ref (m 0)), (1, .int (jI c)), (2, .int (jI 1))] 12 [] := by
          refine up_ind (fun k => ∀ (i : Int) (acc : Int), (i = (k : Int)) → (acc = hsN s (pvF s lb) 1 k) → V X 0 0 (mB G m s sp hi sn tx g3 g5 g7 g8 g9 g10 g11 g12 g13) [(4, .int (jI i)), (3, .int (jI acc)), (0, .ref (m 0)), (1, .int (jI c)), (2, .int (jI 1))] 12 []) (6) ?_
          intro k hk ih i acc hik hacc
          have hsb := hsN_b hI (pvF s lb) 1 k hk
          have hvk := vtR_b hI lb i
          have hpk : pvF s lb k = vtR s lb i := by rw [hik]; rfl
          refine V_iload hX dX5_decides_12 0 rfl ?_
          refine V_bipush hX dX5_decides_14 (by decide) ?_
          refine V_icmp_ge (tgt := 53) hX dX5_decides_16 (by decide) (by omega) (by decide) (fun c_7 => ?_) (fun c_7 => ?_)
          · have hm1 : acc = hsN s (pvF s lb) 1 6 := by rw [hacc, show k = 6 by omega]
            have hn1 := hsN_b hI (pvF s lb) 1 6 (Nat.le_refl _)
            refine V_iconst hX dX5_decides_53 ?_
            refine V_iload_n hX dX5_decides_54 1 rfl ?_
            refine V_imul hX dX5_decides_55 rfl ?_
            refine V_aload_n hX dX5_decides_56 2 rfl ?_
            refine V_cV (st := [.int (jI (2 * acc))]) (v := .int (jI (allS s))) (w' := mB G m s sp hi sn tx g3 g5 g7 g8 g9 g10 g11 g12 g13) hX wc_X5_71 (c_X5_allSeats l G m s sp hi sn tx g3 g5 g7 g8 g9 g10 g11 g12 g13 t hI) (by decide) (by decide) rfl rfl (Nat.le_of_ble_eq_true rfl) dX5_decides_57 [] ([]) (by simp only [List.append_assoc, List.nil_append, List.append_nil]) 0 rfl rfl (by simp only [List.append_assoc, List.nil_append, List.append_nil]) rfl rfl ?_
            refine V_icmp_le (tgt := 65) hX dX5_decides_60 (by decide) (by omega) (by omega) (fun c_8 => ?_) (fun c_8 => ?_)
            · refine V_iinc (b := 2) (lv' := [(2, .int (jI 2)), (4, .int (jI i)), (3, .int (jI acc)), (0, .ref (m 0)), (1, .int (jI c))]) hX dX5_decides_65 4 rfl rfl (by decide) rfl ?_
              refine V_goto (tgt := 2) hX dX5_decides_68 (by decide) ?_
              refine V_iload_n hX dX5_decides_2 0 rfl ?_
              refine V_iconst hX dX5_decides_3 ?_
              refine V_icmp_ge (tgt := 71) hX dX5_decides_4 (by decide) (by decide) (by decide) (fun c_9 => absurd c_9 (by decide)) (fun c_9 => ?_)
              refine V_iconst hX dX5_decides_7 ?_
              refine V_istore_n (i := 3) (lv' := [(3, .int (jI 0)), (2, .int (jI 2)), (4, .int (jI i)), (0, .ref (m 0)), (1, .int (jI c))]) hX dX5_decides_8 rfl (by decide) rfl ?_
              refine V_iconst hX dX5_decides_9 ?_
              refine V_istore (i := 4) (lv' := [(4, .int (jI 0)), (3, .int (jI 0)), (2, .int (jI 2)), (0, .ref (m 0)), (1, .int (jI c))]) hX dX5_decides_10 (by decide) rfl ?_
              have L12_q_10 : ∀ k : Nat, k ≤ 6 → ∀ (i : Int) (acc : Int), (i = (k : Int)) → (acc = hsN s (pvF s lb) 2 k) → V X 0 0 (mB G m s sp hi sn tx g3 g5 g7 g8 g9 g10 g11 g12 g13) [(4, .int (jI i)), (3, .int (jI acc)), (0, .ref (m 0)), (1, .int (jI c)), (2, .int (jI 2))] 12 [] := by
                refine up_ind (fun k => ∀ (i : Int) (acc : Int), (i = (k : Int)) → (acc = hsN s (pvF s lb) 2 k) → V X 0 0 (mB G m s sp hi sn tx g3 g5 g7 g8 g9 g10 g11 g12 g13) [(4, .int (jI i)), (3, .int (jI acc)), (0, .ref (m 0)), (1, .int (jI c)), (2, .int (jI 2))] 12 []) (6) ?_
                intro k hk ih i acc hik hacc
                have hsb := hsN_b hI (pvF s lb) 2 k hk
                have hvk := vtR_b hI lb i
                have hpk : pvF s lb k = vtR s lb i := by rw [hik]; rfl
                refine V_iload hX dX5_decides_12 0 rfl ?_
                refine V_bipush hX dX5_decides_14 (by decide) ?_
                refine V_icmp_ge (tgt := 53) hX dX5_decides_16 (by decide) (by omega) (by decide) (fun c_11 => ?_) (fun c_11 => ?_)
                · have hm2 : acc = hsN s (pvF s lb) 2 6 := by rw [hacc, show k = 6 by omega]
                  have hn2 := hsN_b hI (pvF s lb) 2 6 (Nat.le_refl _)
                  refine V_iconst hX dX5_decides_53 ?_
                  refine V_iload_n hX dX5_decides_54 1 rfl ?_
                  refine V_imul hX dX5_decides_55 rfl ?_
                  refine V_aload_n hX dX5_decides_56 2 rfl ?_
                  refine V_cV (st := [.int (jI (2 * acc))]) (v := .int (jI (allS s))) (w' := mB G m s sp hi sn tx g3 g5 g7 g8 g9 g10 g11 g12 g13) hX wc_X5_71 (c_X5_allSeats l G m s sp hi sn tx g3 g5 g7 g8 g9 g10 g11 g12 g13 t hI) (by decide) (by decide) rfl rfl (Nat.le_of_ble_eq_true rfl) dX5_decides_57 [] ([]) (by simp only [List.append_assoc, List.nil_append, List.append_nil]) 0 rfl rfl (by simp only [List.append_assoc, List.nil_append, List.append_nil]) rfl rfl ?_
                  refine V_icmp_le (tgt := 65) hX dX5_decides_60 (by decide) (by omega) (by omega) (fun c_12 => ?_) (fun c_12 => ?_)
                  · refine V_iinc (b := 3) (lv' := [(2, .int (jI 3)), (4, .int (jI i)), (3, .int (jI acc)), (0, .ref (m 0)), (1, .int (jI c))]) hX dX5_decides_65 4 rfl rfl (by decide) rfl ?_
                    refine V_goto (tgt := 2) hX dX5_decides_68 (by decide) ?_
                    refine V_iload_n hX dX5_decides_2 0 rfl ?_
                    refine V_iconst hX dX5_decides_3 ?_
                    refine V_icmp_ge (tgt := 71) hX dX5_decides_4 (by decide) (by decide) (by decide) (fun c_13 => absurd c_13 (by decide)) (fun c_13 => ?_)
                    refine V_iconst hX dX5_decides_7 ?_
                    refine V_istore_n (i := 3) (lv' := [(3, .int (jI 0)), (2, .int (jI 3)), (4, .int (jI i)), (0, .ref (m 0)), (1, .int (jI c))]) hX dX5_decides_8 rfl (by decide) rfl ?_
                    refine V_iconst hX dX5_decides_9 ?_
                    refine V_istore (i := 4) (lv' := [(4, .int (jI 0)), (3, .int (jI 0)), (2, .int (jI 3)), (0, .ref (m 0)), (1, .int (jI c))]) hX dX5_decides_10 (by decide) rfl ?_
                    have L12_q_14 : ∀ k : Nat, k ≤ 6 → ∀ (i : Int) (acc : Int), (i = (k : Int)) → (acc = hsN s (pvF s lb) 3 k) → V X 0 0 (mB G m s sp hi sn tx g3 g5 g7 g8 g9 g10 g11 g12 g13) [(4, .int (jI i)), (3, .int (jI acc)), (0, .ref (m 0)), (1, .int (jI c)), (2, .int (jI 3))] 12 [] := by
                      refine up_ind (fun k => ∀ (i : Int) (acc : Int), (i = (k : Int)) → (acc = hsN s (pvF s lb) 3 k) → V X 0 0 (mB G m s sp hi sn tx g3 g5 g7 g8 g9 g10 g11 g12 g13) [(4, .int (jI i)), (3, .int (jI acc)), (0, .ref (m 0)), (1, .int (jI c)), (2, .int (jI 3))] 12 []) (6) ?_
                      intro k hk ih i acc hik hacc
                      have hsb := hsN_b hI (pvF s lb) 3 k hk
                      have hvk := vtR_b hI lb i
                      have hpk : pvF s lb k = vtR s lb i := by rw [hik]; rfl
                      refine V_iload hX dX5_decides_12 0 rfl ?_
                      refine V_bipush hX dX5_decides_14 (by decide) ?_
                      refine V_icmp_ge (tgt := 53) hX dX5_decides_16 (by decide) (by omega) (by decide) (fun c_15 => ?_) (fun c_15 => ?_)
                      · have hm3 : acc = hsN s (pvF s lb) 3 6 := by rw [hacc, show k = 6 by omega]
                        have hn3 := hsN_b hI (pvF s lb) 3 6 (Nat.le_refl _)
                        refine V_iconst hX dX5_decides_53 ?_
                        refine V_iload_n hX dX5_decides_54 1 rfl ?_
                        refine V_imul hX dX5_decides_55 rfl ?_
                        refine V_aload_n hX dX5_decides_56 2 rfl ?_
                        refine V_cV (st := [.int (jI (2 * acc))]) (v := .int (jI (allS s))) (w' := mB G m s sp hi sn tx g3 g5 g7 g8 g9 g10 g11 g12 g13) hX wc_X5_71 (c_X5_allSeats l G m s sp hi sn tx g3 g5 g7 g8 g9 g10 g11 g12 g13 t hI) (by decide) (by decide) rfl rfl (Nat.le_of_ble_eq_true rfl) dX5_decides_57 [] ([]) (by simp only [List.append_assoc, List.nil_append, List.append_nil]) 0 rfl rfl (by simp only [List.append_assoc, List.nil_append, List.append_nil]) rfl rfl ?_
                        refine V_icmp_le (tgt := 65) hX dX5_decides_60 (by decide) (by omega) (by omega) (fun c_16 => ?_) (fun c_16 => ?_)
                        · refine V_iinc (b := 4) (lv' := [(2, .int (jI 4)), (4, .int (jI i)), (3, .int (jI acc)), (0, .ref (m 0)), (1, .int (jI c))]) hX dX5_decides_65 4 rfl rfl (by decide) rfl ?_
                          refine V_goto (tgt := 2) hX dX5_decides_68 (by decide) ?_
                          refine V_iload_n hX dX5_decides_2 0 rfl ?_
                          refine V_iconst hX dX5_decides_3 ?_
                          refine V_icmp_ge (tgt := 71) hX dX5_decides_4 (by decide) (by decide) (by decide) (fun c_17 => ?_) (fun c_17 => absurd c_17 (by decide))
                          refine V_bipush hX dX5_decides_71 (by decide) ?_
                          exact V_iret hX hR dX5_decides_73 ⟨(congrArg (fun z => some (Value.int (jI z))) (by unfold bsR mjP; (repeat' split) <;> first | rfl | omega)), rfl⟩
                        · refine V_iload_n hX dX5_decides_63 4 rfl ?_
                          exact V_iret hX hR dX5_decides_64 ⟨(congrArg (fun z => some (Value.int (jI z))) (by unfold bsR mjP; (repeat' split) <;> first | rfl | omega)), rfl⟩
                      · refine V_iload_n hX dX5_decides_19 1 rfl ?_
                        refine V_aload_n hX dX5_decides_20 2 rfl ?_
                        refine V_iload hX dX5_decides_21 0 rfl ?_
                        refine V_iload_n hX dX5_decides_23 3 rfl ?_
                        refine V_cV (st := [.int (jI acc)]) (v := .int (jI (vtR s lb i))) (w' := mB G m s sp hi sn tx g3 g5 g7 g8 g9 g10 g11 g12 g13) hX wc_X5_68 (c_X5_votes l G m s sp hi sn tx g3 g5 g7 g8 g9 g10 g11 g12 g13 t lb i c hI (by first | exact hc | exact Or.inl ⟨rfl, rfl⟩ | exact Or.inr ⟨rfl, rfl⟩) (by omega)) (by decide) (by decide) rfl rfl (Nat.le_of_ble_eq_true rfl) dX5_decides_24 [] ([]) (by simp only [List.append_assoc, List.nil_append, List.append_nil]) 0 rfl rfl (by simp only [List.append_assoc, List.nil_append, List.append_nil]) rfl rfl ?_
                        refine V_iload_n hX dX5_decides_27 4 rfl ?_
                        refine V_icmp_ne (tgt := 44) hX dX5_decides_28 (by decide) (by omega) (by decide) (fun c_18 => ?_) (fun c_18 => ?_)
                        · refine V_iconst hX dX5_decides_44 ?_
                          refine V_iadd hX dX5_decides_45 rfl ?_
                          refine V_istore_n (i := 3) (lv' := [(3, .int (jI (acc + 0))), (4, .int (jI i)), (0, .ref (m 0)), (1, .int (jI c)), (2, .int (jI 3))]) hX dX5_decides_46 rfl (by decide) rfl ?_
                          refine V_iinc (b := i + 1) (lv' := [(4, .int (jI (i + 1))), (3, .int (jI (acc + 0))), (0, .ref (m 0)), (1, .int (jI c)), (2, .int (jI 3))]) hX dX5_decides_47 1 rfl rfl (by decide) rfl ?_
                          refine V_goto (tgt := 12) hX dX5_decides_50 (by decide) ?_
                          refine V.sub [0, 1, 2, 3, 4] rfl ?_
                          exact ih (by omega) _ _ (by omega) (by rw [hsN_s]; split <;> omega)
                        · have hse := hI.se k (by omega)
                          refine V_aload_n hX dX5_decides_31 2 rfl ?_
                          refine V_get (v := .ref (m 1)) hX cbX5 0 0 (by decide) wf_X5_7 rfl rfl rfl rfl dX5_decides_32 ?_
                          refine V_bipush hX dX5_decides_35 (by decide) ?_
                          refine V_iload hX dX5_decides_37 0 rfl ?_
                          refine V_iadd hX dX5_decides_39 rfl ?_
                          refine V_iald (i0 := 11 + k) (r := (jI (s (11 + k)))) hX 1 rfl (by omega) (by omega) (by omega) (by omega) rfl dX5_decides_40 ?_
                          refine V_goto (tgt := 45) hX dX5_decides_41 (by decide) ?_
                          refine V_iadd hX dX5_decides_45 rfl ?_
                          refine V_istore_n (i := 3) (lv' := [(3, .int (jI (acc + (s (11 + k))))), (4, .int (jI i)), (0, .ref (m 0)), (1, .int (jI c)), (2, .int (jI 3))]) hX dX5_decides_46 rfl (by decide) rfl ?_
                          refine V_iinc (b := i + 1) (lv' := [(4, .int (jI (i + 1))), (3, .int (jI (acc + (s (11 + k))))), (0, .ref (m 0)), (1, .int (jI c)), (2, .int (jI 3))]) hX dX5_decides_47 1 rfl rfl (by decide) rfl ?_
                          refine V_goto (tgt := 12) hX dX5_decides_50 (by decide) ?_
                          refine V.sub [0, 1, 2, 3, 4] rfl ?_
                          exact ih (by omega) _ _ (by omega) (by rw [hsN_s]; split <;> omega)
                    refine V.sub [0, 1, 3, 4, 2] rfl ?_
                    exact L12_q_14 0 (Nat.zero_le _) 0 0 rfl rfl
                  · refine V_iload_n hX dX5_decides_63 4 rfl ?_
                    exact V_iret hX hR dX5_decides_64 ⟨(congrArg (fun z => some (Value.int (jI z))) (by unfold bsR mjP; (repeat' split) <;> first | rfl | omega)), rfl⟩
                · refine V_iload_n hX dX5_decides_19 1 rfl ?_
                  refine V_aload_n hX dX5_decides_20 2 rfl ?_
                  refine V_iload hX dX5_decides_21 0 rfl ?_
                  refine V_iload_n hX dX5_decides_23 3 rfl ?_
                  refine V_cV (st := [.int (jI acc)]) (v := .int (jI (vtR s lb i))) (w' := mB G m s sp hi sn tx g3 g5 g7 g8 g9 g10 g11 g12 g13) hX wc_X5_68 (c_X5_votes l G m s sp hi sn tx g3 g5 g7 g8 g9 g10 g11 g12 g13 t lb i c hI (by first | exact hc | exact Or.inl ⟨rfl, rfl⟩ | exact Or.inr ⟨rfl, rfl⟩) (by omega)) (by decide) (by decide) rfl rfl (Nat.le_of_ble_eq_true rfl) dX5_decides_24 [] ([]) (by simp only [List.append_assoc, List.nil_append, List.append_nil]) 0 rfl rfl (by simp only [List.append_assoc, List.nil_append, List.append_nil]) rfl rfl ?_
                  refine V_iload_n hX dX5_decides_27 4 rfl ?_
                  refine V_icmp_ne (tgt := 44) hX dX5_decides_28 (by decide) (by omega) (by decide) (fun c_19 => ?_) (fun c_19 => ?_)
                  · refine V_iconst hX dX5_decides_44 ?_
                    refine V_iadd hX dX5_decides_45 rfl ?_
                    refine V_istore_n (i := 3) (lv' := [(3, .int (jI (acc + 0))), (4, .int (jI i)), (0, .ref (m 0)), (1, .int (jI c)), (2, .int (jI 2))]) hX dX5_decides_46 rfl (by decide) rfl ?_
                    refine V_iinc (b := i + 1) (lv' := [(4, .int (jI (i + 1))), (3, .int (jI (acc + 0))), (0, .ref (m 0)), (1, .int (jI c)), (2, .int (jI 2))]) hX dX5_decides_47 1 rfl rfl (by decide) rfl ?_
                    refine V_goto (tgt := 12) hX dX5_decides_50 (by decide) ?_
                    refine V.sub [0, 1, 2, 3, 4] rfl ?_
                    exact ih (by omega) _ _ (by omega) (by rw [hsN_s]; split <;> omega)
                  · have hse := hI.se k (by omega)
                    refine V_aload_n hX dX5_decides_31 2 rfl ?_
                    refine V_get (v := .ref (m 1)) hX cbX5 0 0 (by decide) wf_X5_7 rfl rfl rfl rfl dX5_decides_32 ?_
                    refine V_bipush hX dX5_decides_35 (by decide) ?_
                    refine V_iload hX dX5_decides_37 0 rfl ?_
                    refine V_iadd hX dX5_decides_39 rfl ?_
                    refine V_iald (i0 := 11 + k) (r := (jI (s (11 + k)))) hX 1 rfl (by omega) (by omega) (by omega) (by omega) rfl dX5_decides_40 ?_
                    refine V_goto (tgt := 45) hX dX5_decides_41 (by decide) ?_
                    refine V_iadd hX dX5_decides_45 rfl ?_
                    refine V_istore_n (i := 3) (lv' := [(3, .int (jI (acc + (s (11 + k))))), (4, .int (jI i)), (0, .ref (m 0)), (1, .int (jI c)), (2, .int (jI 2))]) hX dX5_decides_46 rfl (by decide) rfl ?_
                    refine V_iinc (b := i + 1) (lv' := [(4, .int (jI (i + 1))), (3, .int (jI (acc + (s (11 + k))))), (0, .ref (m 0)), (1, .int (jI c)), (2, .int (jI 2))]) hX dX5_decides_47 1 rfl rfl (by decide) rfl ?_
                    refine V_goto (tgt := 12) hX dX5_decides_50 (by decide) ?_
                    refine V.sub [0, 1, 2, 3, 4] rfl ?_
                    exact ih (by omega) _ _ (by omega) (by rw [hsN_s]; split <;> omega)
              refine V.sub [0, 1, 3, 4, 2] rfl ?_
              exact L12_q_10 0 (Nat.zero_le _) 0 0 rfl rfl
            · refine V_iload_n hX dX5_decides_63 4 rfl ?_
              exact V_iret hX hR dX5_decides_64 ⟨(congrArg (fun z => some (Value.int (jI z))) (by unfold bsR mjP; (repeat' split) <;> first | rfl | omega)), rfl⟩
          · refine V_iload_n hX dX5_decides_19 1 rfl ?_
            refine V_aload_n hX dX5_decides_20 2 rfl ?_
            refine V_iload hX dX5_decides_21 0 rfl ?_
            refine V_iload_n hX dX5_decides_23 3 rfl ?_
            refine V_cV (st := [.int (jI acc)]) (v := .int (jI (vtR s lb i))) (w' := mB G m s sp hi sn tx g3 g5 g7 g8 g9 g10 g11 g12 g13) hX wc_X5_68 (c_X5_votes l G m s sp hi sn tx g3 g5 g7 g8 g9 g10 g11 g12 g13 t lb i c hI (by first | exact hc | exact Or.inl ⟨rfl, rfl⟩ | exact Or.inr ⟨rfl, rfl⟩) (by omega)) (by decide) (by decide) rfl rfl (Nat.le_of_ble_eq_true rfl) dX5_decides_24 [] ([]) (by simp only [List.append_assoc, List.nil_append, List.append_nil]) 0 rfl rfl (by simp only [List.append_assoc, List.nil_append, List.append_nil]) rfl rfl ?_
            refine V_iload_n hX dX5_decides_27 4 rfl ?_
            refine V_icmp_ne (tgt := 44) hX dX5_decides_28 (by decide) (by omega) (by decide) (fun c_20 => ?_) (fun c_20 => ?_)
            · refine V_iconst hX dX5_decides_44 ?_
              refine V_iadd hX dX5_decides_45 rfl ?_
              refine V_istore_n (i := 3) (lv' := [(3, .int (jI (acc + 0))), (4, .int (jI i)), (0, .ref (m 0)), (1, .int (jI c)), (2, .int (jI 1))]) hX dX5_decides_46 rfl (by decide) rfl ?_
              refine V_iinc (b := i + 1) (lv' := [(4, .int (jI (i + 1))), (3, .int (jI (acc + 0))), (0, .ref (m 0)), (1, .int (jI c)), (2, .int (jI 1))]) hX dX5_decides_47 1 rfl rfl (by decide) rfl ?_
              refine V_goto (tgt := 12) hX dX5_decides_50 (by decide) ?_
              refine V.sub [0, 1, 2, 3, 4] rfl ?_
              exact ih (by omega) _ _ (by omega) (by rw [hsN_s]; split <;> omega)
            · have hse := hI.se k (by omega)
              refine V_aload_n hX dX5_decides_31 2 rfl ?_
              refine V_get (v := .ref (m 1)) hX cbX5 0 0 (by decide) wf_X5_7 rfl rfl rfl rfl dX5_decides_32 ?_
              refine V_bipush hX dX5_decides_35 (by decide) ?_
              refine V_iload hX dX5_decides_37 0 rfl ?_
              refine V_iadd hX dX5_decides_39 rfl ?_
              refine V_iald (i0 := 11 + k) (r := (jI (s (11 + k)))) hX 1 rfl (by omega) (by omega) (by omega) (by omega) rfl dX5_decides_40 ?_
              refine V_goto (tgt := 45) hX dX5_decides_41 (by decide) ?_
              refine V_iadd hX dX5_decides_45 rfl ?_
              refine V_istore_n (i := 3) (lv' := [(3, .int (jI (acc + (s (11 + k))))), (4, .int (jI i)), (0, .ref (m 0)), (1, .int (jI c)), (2, .int (jI 1))]) hX dX5_decides_46 rfl (by decide) rfl ?_
              refine V_iinc (b := i + 1) (lv' := [(4, .int (jI (i + 1))), (3, .int (jI (acc + (s (11 + k))))), (0, .ref (m 0)), (1, .int (jI c)), (2, .int (jI 1))]) hX dX5_decides_47 1 rfl rfl (by decide) rfl ?_
              refine V_goto (tgt := 12) hX dX5_decides_50 (by decide) ?_
              refine V.sub [0, 1, 2, 3, 4] rfl ?_
              exact ih (by omega) _ _ (by omega) (by rw [hsN_s]; split <;> omega)
        refine V.sub [0, 1, 3, 4, 2] rfl ?_
        exact L12_q_6 0 (Nat.zero_le _) 0 0 rfl rfl
      · refine V_iload_n hX dX5_decides_63 4 rfl ?_
        exact V_iret hX hR dX5_decides_64 ⟨(congrArg (fun z => some (Value.int (jI z))) (by unfold bsR mjP; (repeat' split) <;> first | rfl | omega)), rfl⟩
    · refine V_iload_n hX dX5_decides_19 1 rfl ?_
      refine V_aload_n hX dX5_decides_20 2 rfl ?_
      refine V_iload hX dX5_decides_21 0 rfl ?_
      refine V_iload_n hX dX5_decides_23 3 rfl ?_
      refine V_cV (st := [.int (jI acc)]) (v := .int (jI (vtR s lb i))) (w' := mB G m s sp hi sn tx g3 g5 g7 g8 g9 g10 g11 g12 g13) hX wc_X5_68 (c_X5_votes l G m s sp hi sn tx g3 g5 g7 g8 g9 g10 g11 g12 g13 t lb i c hI (by first | exact hc | exact Or.inl ⟨rfl, rfl⟩ | exact Or.inr ⟨rfl, rfl⟩) (by omega)) (by decide) (by decide) rfl rfl (Nat.le_of_ble_eq_true rfl) dX5_decides_24 [] ([]) (by simp only [List.append_assoc, List.nil_append, List.append_nil]) 0 rfl rfl (by simp only [List.append_assoc, List.nil_append, List.append_nil]) rfl rfl ?_
      refine V_iload_n hX dX5_decides_27 4 rfl ?_
      refine V_icmp_ne (tgt := 44) hX dX5_decides_28 (by decide) (by omega) (by decide) (fun c_21 => ?_) (fun c_21 => ?_)
      · refine V_iconst hX dX5_decides_44 ?_
        refine V_iadd hX dX5_decides_45 rfl ?_
        refine V_istore_n (i := 3) (lv' := [(3, .int (jI (acc + 0))), (4, .int (jI i)), (0, .ref (m 0)), (1, .int (jI c)), (2, .int (jI 0))]) hX dX5_decides_46 rfl (by decide) rfl ?_
        refine V_iinc (b := i + 1) (lv' := [(4, .int (jI (i + 1))), (3, .int (jI (acc + 0))), (0, .ref (m 0)), (1, .int (jI c)), (2, .int (jI 0))]) hX dX5_decides_47 1 rfl rfl (by decide) rfl ?_
        refine V_goto (tgt := 12) hX dX5_decides_50 (by decide) ?_
        refine V.sub [0, 1, 2, 3, 4] rfl ?_
        exact ih (by omega) _ _ (by omega) (by rw [hsN_s]; split <;> omega)
      · have hse := hI.se k (by omega)
        refine V_aload_n hX dX5_decides_31 2 rfl ?_
        refine V_get (v := .ref (m 1)) hX cbX5 0 0 (by decide) wf_X5_7 rfl rfl rfl rfl dX5_decides_32 ?_
        refine V_bipush hX dX5_decides_35 (by decide) ?_
        refine V_iload hX dX5_decides_37 0 rfl ?_
        refine V_iadd hX dX5_decides_39 rfl ?_
        refine V_iald (i0 := 11 + k) (r := (jI (s (11 + k)))) hX 1 rfl (by omega) (by omega) (by omega) (by omega) rfl dX5_decides_40 ?_
        refine V_goto (tgt := 45) hX dX5_decides_41 (by decide) ?_
        refine V_iadd hX dX5_decides_45 rfl ?_
        refine V_istore_n (i := 3) (lv' := [(3, .int (jI (acc + (s (11 + k))))), (4, .int (jI i)), (0, .ref (m 0)), (1, .int (jI c)), (2, .int (jI 0))]) hX dX5_decides_46 rfl (by decide) rfl ?_
        refine V_iinc (b := i + 1) (lv' := [(4, .int (jI (i + 1))), (3, .int (jI (acc + (s (11 + k))))), (0, .ref (m 0)), (1, .int (jI c)), (2, .int (jI 0))]) hX dX5_decides_47 1 rfl rfl (by decide) rfl ?_
        refine V_goto (tgt := 12) hX dX5_decides_50 (by decide) ?_
        refine V.sub [0, 1, 2, 3, 4] rfl ?_
        exact ih (by omega) _ _ (by omega) (by rw [hsN_s]; split <;> omega)
  refine V.sub [0, 1, 3, 4, 2] rfl ?_
  exact L12_q_2 0 (Nat.zero_le _) 0 0 rfl rfl

set_option maxHeartbeats 4000000 in
set_option maxRecDepth 100000 in
theorem c_X5_doVote (l : Launch) (G : vC) (m : Nat → Nat) (s : Nat → Int) (sp : Nat → Int) (hi : Nat → Int) (sn : Nat → Int) (tx : Nat → Int) (g3 : Int) (g5 : Int) (g7 : Int) (g8 : Int) (g9 : Int) (g10 : Int) (g11 : Int) (g12 : Int) (g13 : Int) (t : Int) (hI : Inv t s) : Fn l G yX5_doVote cX5_doVote 2 (some .int) ({ frames := 6, cells := 0, slots := 0, locals := 145 } : Room) [.ref (m 0)] (mB G m s sp hi sn tx g3 g5 g7 g8 g9 g10 g11 g12 g13) (some (.int (jI (cvR (bsR s (pvF s true)))))) (mB G m (cvS s (bsR s (pvF s true))) sp hi sn tx g3 g5 g7 g8 g9 g10 g11 g12 g13) := by
  refine Ct.of (by decide) (Nat.le_of_ble_eq_true rfl) (fun X hX hR => ?_)
  refine V.toLv (lv' := [(0, .ref (m 0))]) rfl ?_
  have hb := hI.base
  have hbs := bsR_b s (pvF s true)
  refine V_aload_n hX dX5_doVote_0 0 rfl ?_
  refine V_aload_n hX dX5_doVote_1 0 rfl ?_
  refine V_get (v := .ref (m 1)) hX cbX5 0 0 (by decide) wf_X5_7 rfl rfl rfl rfl dX5_doVote_2 ?_
  refine V_iconst hX dX5_doVote_5 ?_
  refine V_iald (i0 := 1) (r := (jI (s 1))) hX 1 rfl (by decide) (by decide) (by decide) rfl rfl dX5_doVote_6 ?_
  refine V_cV (st := []) (v := .int (jI (bsR s (pvF s true)))) (w' := mB G m s sp hi sn tx g3 g5 g7 g8 g9 g10 g11 g12 g13) hX wc_X5_101 (c_X5_decides l G m s sp hi sn tx g3 g5 g7 g8 g9 g10 g11 g12 g13 t true (s 1) hI (by first | exact hc | exact Or.inl ⟨rfl, rfl⟩ | exact Or.inr ⟨rfl, rfl⟩)) (by decide) (by decide) rfl rfl (Nat.le_of_ble_eq_true rfl) dX5_doVote_7 [] ([]) (by simp only [List.append_assoc, List.nil_append, List.append_nil]) 0 rfl rfl (by simp only [List.append_assoc, List.nil_append, List.append_nil]) rfl rfl ?_
  refine V_istore_n (i := 1) (lv' := [(1, .int (jI (bsR s (pvF s true)))), (0, .ref (m 0))]) hX dX5_doVote_10 rfl (by decide) rfl ?_
  refine V_iload_n hX dX5_doVote_11 0 rfl ?_
  refine V_bipush hX dX5_doVote_12 (by decide) ?_
  refine V_icmp_ne (tgt := 20) hX dX5_doVote_14 (by decide) (by omega) (by decide) (fun c_1 => ?_) (fun c_1 => ?_)
  · refine V_aload_n hX dX5_doVote_20 1 rfl ?_
    refine V_get (v := .ref (m 1)) hX cbX5 0 0 (by decide) wf_X5_7 rfl rfl rfl rfl dX5_doVote_21 ?_
    refine V_bipush hX dX5_doVote_24 (by decide) ?_
    refine V_dup2 hX dX5_doVote_26 rfl rfl ?_
    refine V_iald (i0 := 8) (r := (jI (s 8))) hX 1 rfl (by decide) (by decide) (by decide) rfl rfl dX5_doVote_27 ?_
    refine V_iconst hX dX5_doVote_28 ?_
    refine V_iadd hX dX5_doVote_29 rfl ?_
    refine V_iast (i0 := 8) (w' := mB G m (up s 8 ((s 8) + 1)) sp hi sn tx g3 g5 g7 g8 g9 g10 g11 g12 g13) hX 1 rfl (by decide) (by decide) (by decide) rfl dX5_doVote_30 (mB_w1 G _ _ _ _ _ _ _ _ _ _ _ _ _ _ _ _ _) ?_
    refine V_aload_n hX dX5_doVote_31 1 rfl ?_
    refine V_get (v := .ref (m 1)) hX cbX5 0 0 (by decide) wf_X5_7 rfl rfl rfl rfl dX5_doVote_32 ?_
    refine V_bipush hX dX5_doVote_35 (by decide) ?_
    refine V_iload_n hX dX5_doVote_37 0 rfl ?_
    refine V_iast (i0 := 9) (w' := mB G m (up (up s 8 ((s 8) + 1)) 9 (bsR s (pvF s true))) sp hi sn tx g3 g5 g7 g8 g9 g10 g11 g12 g13) hX 1 rfl (by decide) (by decide) (by decide) rfl dX5_doVote_38 (mB_w1 G _ _ _ _ _ _ _ _ _ _ _ _ _ _ _ _ _) ?_
    refine V_iload_n hX dX5_doVote_39 0 rfl ?_
    exact V_iret hX hR dX5_doVote_40 ⟨(congrArg (fun z => some (Value.int (jI z))) (by unfold cvR; (repeat' split) <;> omega)), (mB_c (by unfold cvS; split <;> first | rfl | omega) rfl rfl rfl rfl rfl rfl rfl rfl rfl rfl rfl rfl rfl)⟩
  · refine V_bipush hX dX5_doVote_17 (by decide) ?_
    exact V_iret hX hR dX5_doVote_19 ⟨(congrArg (fun z => some (Value.int (jI z))) (by unfold cvR; (repeat' split) <;> omega)), (mB_c (by unfold cvS; split <;> first | rfl | omega) rfl rfl rfl rfl rfl rfl rfl rfl rfl rfl rfl rfl rfl)⟩

set_option maxHeartbeats 4000000 in
set_option maxRecDepth 100000 in
theorem c_X5_vote (l : Launch) (G : vC) (m : Nat → Nat) (s : Nat → Int) (sp : Nat → Int) (hi : Nat → Int) (sn : Nat → Int) (tx : Nat → Int) (g3 : Int) (g5 : Int) (g7 : Int) (g8 : Int) (g9 : Int) (g10 : Int) (g11 : Int) (g12 : Int) (g13 : Int) (t : Int) (hI : Inv t s) (hg3 : 0 ≤ g3 ∧ g3 ≤ 4) : Ct l G yX5_vote cX5_vote 1 (some .int) ({ frames := 7, cells := 0, slots := 0, locals := 166 } : Room) [.ref (m 0)] (mB G m s sp hi sn tx g3 g5 g7 g8 g9 g10 g11 g12 g13) (fun v u => v = some (Value.int (jI (cvR (bsR s (pvF s true))))) ∧ ∃ sp2 : Nat → Int, u = mB G m (cvS s (bsR s (pvF s true))) sp2 (mcH hi g3 s (cvR (bsR s (pvF s true)))) sn tx (mcZ g3 (cvR (bsR s (pvF s true)))) g5 g7 g8 g9 g10 g11 g12 g13) := by
  refine Ct.of (by decide) (Nat.le_of_ble_eq_true rfl) (fun X hX hR => ?_)
  refine V.toLv (lv' := [(0, .ref (m 0))]) rfl ?_
  have hb := hI.base
  have hbs := bsR_b s (pvF s true)
  have htb : -5 ≤ cvR (bsR s (pvF s true)) ∧ cvR (bsR s (pvF s true)) < 2147483648 := by unfold cvR; split <;> omega
  refine V_aload_n hX dX5_vote_0 0 rfl ?_
  refine V_dV (st := []) (w' := mB G m s s hi sn tx g3 g5 g7 g8 g9 g10 g11 g12 g13) hX wc_X5_48 (c_X5_putAside l G m s sp hi sn tx g3 g5 g7 g8 g9 g10 g11 g12 g13 ) (by decide) (by decide) rfl rfl (Nat.le_of_ble_eq_true rfl) dX5_vote_1 [] ([]) (by simp only [List.append_assoc, List.nil_append, List.append_nil]) 0 rfl rfl (by simp only [List.append_assoc, List.nil_append, List.append_nil]) rfl rfl ?_
  refine V_aload_n hX dX5_vote_4 0 rfl ?_
  refine V_aload_n hX dX5_vote_5 0 rfl ?_
  refine V_cV (st := [.ref (m 0)]) (v := .int (jI (cvR (bsR s (pvF s true))))) (w' := mB G m (cvS s (bsR s (pvF s true))) s hi sn tx g3 g5 g7 g8 g9 g10 g11 g12 g13) hX wc_X5_123 (c_X5_doVote l G m s s hi sn tx g3 g5 g7 g8 g9 g10 g11 g12 g13 t hI) (by decide) (by decide) rfl rfl (Nat.le_of_ble_eq_true rfl) dX5_vote_6 [] ([]) (by simp only [List.append_assoc, List.nil_append, List.append_nil]) 0 rfl rfl (by simp only [List.append_assoc, List.nil_append, List.append_nil]) rfl rfl ?_
  refine V_cV (st := []) (v := .int (jI ((cvR (bsR s (pvF s true)))))) (w' := mB G m (cvS s (bsR s (pvF s true))) s (mcH hi g3 s (cvR (bsR s (pvF s true)))) sn tx (mcZ g3 (cvR (bsR s (pvF s true)))) g5 g7 g8 g9 g10 g11 g12 g13) hX wc_X5_111 (c_X5_recorded l G m (cvS s (bsR s (pvF s true))) s hi sn tx g3 g5 g7 g8 g9 g10 g11 g12 g13 (cvR (bsR s (pvF s true))) (by omega) (by omega)) (by decide) (by decide) rfl rfl (Nat.le_of_ble_eq_true rfl) dX5_vote_9 [] ([]) (by simp only [List.append_assoc, List.nil_append, List.append_nil]) 0 rfl rfl (by simp only [List.append_assoc, List.nil_append, List.append_nil]) rfl rfl ?_
  have hr : cvR (bsR s (pvF s true)) = (cvR (bsR s (pvF s true))) := by rfl
  exact V_iret hX hR dX5_vote_12 ⟨congrArg (fun z => some (Value.int (jI z))) hr.symm, _, mB_c rfl rfl (by rw [hr]) rfl rfl (by rw [hr]) rfl rfl rfl rfl rfl rfl rfl rfl⟩

set_option maxHeartbeats 4000000 in
set_option maxRecDepth 100000 in
theorem c_X5_decision (l : Launch) (G : vC) (m : Nat → Nat) (s : Nat → Int) (sp : Nat → Int) (hi : Nat → Int) (sn : Nat → Int) (tx : Nat → Int) (g3 : Int) (g5 : Int) (g7 : Int) (g8 : Int) (g9 : Int) (g10 : Int) (g11 : Int) (g12 : Int) (g13 : Int) (t : Int) (a : Int) (hI : Inv t s) (ha : iR a) : Fn l G yX5_decision cX5_decision 2 (some .int) ({ frames := 6, cells := 0, slots := 0, locals := 145 } : Room) [.ref (m 0), .int (jI a)] (mB G m s sp hi sn tx g3 g5 g7 g8 g9 g10 g11 g12 g13) (some (.int (jI (if 0 ≤ a ∧ a ≤ 1 then bsR s (pvF s true) else -2)))) (mB G m s sp hi sn tx g3 g5 g7 g8 g9 g10 g11 g12 g13) := by
  refine Ct.of (by decide) (Nat.le_of_ble_eq_true rfl) (fun X hX hR => ?_)
  refine V.toLv (lv' := [(0, .ref (m 0)), (1, .int (jI a))]) rfl ?_
  have hb := hI.base
  refine V_iload_n hX dX5_decision_0 1 rfl ?_
  refine V_iconst hX dX5_decision_1 ?_
  refine V_iconst hX dX5_decision_2 ?_
  refine V_cS (st := []) (v := .int (jI (bI (0 ≤ a ∧ a ≤ 1)))) (w' := mB G m s sp hi sn tx g3 g5 g7 g8 g9 g10 g11 g12 g13) hX wc_X5_25 (c_X5_within l G a 0 1 (by omega) (by omega) (by omega)) (by decide) (by decide) rfl rfl (Nat.le_of_ble_eq_true rfl) dX5_decision_3 [] (mB G m s sp hi sn tx g3 g5 g7 g8 g9 g10 g11 g12 g13) (by simp only [List.append_assoc, List.nil_append, List.append_nil]) (by simp only [List.append_assoc, List.nil_append, List.append_nil]) rfl rfl ?_
  refine V_ifz (tgt := 22) hX dX5_decision_6 (by decide) (fun c_1 => ?_) (fun c_1 => ?_)
  · refine V_bipush hX dX5_decision_22 (by decide) ?_
    exact V_iret hX hR dX5_decision_24 ⟨(congrArg (fun z => some (Value.int (jI z))) (by first | rfl | ((repeat' split) <;> first | rfl | omega | exact (up_same (by omega)).symm | exact up_same (by omega)))), rfl⟩
  · refine V_aload_n hX dX5_decision_9 0 rfl ?_
    refine V_aload_n hX dX5_decision_10 0 rfl ?_
    refine V_get (v := .ref (m 1)) hX cbX5 0 0 (by decide) wf_X5_7 rfl rfl rfl rfl dX5_decision_11 ?_
    refine V_iconst hX dX5_decision_14 ?_
    refine V_iald (i0 := 1) (r := (jI (s 1))) hX 1 rfl (by decide) (by decide) (by decide) rfl rfl dX5_decision_15 ?_
    refine V_cV (st := []) (v := .int (jI (bsR s (pvF s true)))) (w' := mB G m s sp hi sn tx g3 g5 g7 g8 g9 g10 g11 g12 g13) hX wc_X5_101 (c_X5_decides l G m s sp hi sn tx g3 g5 g7 g8 g9 g10 g11 g12 g13 t true (s 1) hI (by first | exact hc | exact Or.inl ⟨rfl, rfl⟩ | exact Or.inr ⟨rfl, rfl⟩)) (by decide) (by decide) rfl rfl (Nat.le_of_ble_eq_true rfl) dX5_decision_16 [] ([]) (by simp only [List.append_assoc, List.nil_append, List.append_nil]) 0 rfl rfl (by simp only [List.append_assoc, List.nil_append, List.append_nil]) rfl rfl ?_
    refine V_goto (tgt := 24) hX dX5_decision_19 (by decide) ?_
    exact V_iret hX hR dX5_decision_24 ⟨(congrArg (fun z => some (Value.int (jI z))) (by first | rfl | ((repeat' split) <;> first | rfl | omega | exact (up_same (by omega)).symm | exact up_same (by omega)))), rfl⟩

set_option maxHeartbeats 4000000 in
set_option maxRecDepth 100000 in
theorem c_X5_withoutCrows (l : Launch) (G : vC) (m : Nat → Nat) (s : Nat → Int) (sp : Nat → Int) (hi : Nat → Int) (sn : Nat → Int) (tx : Nat → Int) (g3 : Int) (g5 : Int) (g7 : Int) (g8 : Int) (g9 : Int) (g10 : Int) (g11 : Int) (g12 : Int) (g13 : Int) (t : Int) (hI : Inv t s) : Fn l G yX5_withoutCrows cX5_withoutCrows 1 (some .int) ({ frames := 6, cells := 0, slots := 0, locals := 145 } : Room) [.ref (m 0)] (mB G m s sp hi sn tx g3 g5 g7 g8 g9 g10 g11 g12 g13) (some (.int (jI (bsR s (pvF s false))))) (mB G m s sp hi sn tx g3 g5 g7 g8 g9 g10 g11 g12 g13) := by
  refine Ct.of (by decide) (Nat.le_of_ble_eq_true rfl) (fun X hX hR => ?_)
  refine V.toLv (lv' := [(0, .ref (m 0))]) rfl ?_
  have hb := hI.base
  refine V_aload_n hX dX5_withoutCrows_0 0 rfl ?_
  refine V_iconst hX dX5_withoutCrows_1 ?_
  refine V_cV (st := []) (v := .int (jI (bsR s (pvF s false)))) (w' := mB G m s sp hi sn tx g3 g5 g7 g8 g9 g10 g11 g12 g13) hX wc_X5_101 (c_X5_decides l G m s sp hi sn tx g3 g5 g7 g8 g9 g10 g11 g12 g13 t false 0 hI (by first | exact hc | exact Or.inl ⟨rfl, rfl⟩ | exact Or.inr ⟨rfl, rfl⟩)) (by decide) (by decide) rfl rfl (Nat.le_of_ble_eq_true rfl) dX5_withoutCrows_2 [] ([]) (by simp only [List.append_assoc, List.nil_append, List.append_nil]) 0 rfl rfl (by simp only [List.append_assoc, List.nil_append, List.append_nil]) rfl rfl ?_
  exact V_iret hX hR dX5_withoutCrows_5 ⟨rfl, rfl⟩
