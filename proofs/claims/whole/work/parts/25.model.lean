/-! the reference: its parts -/
def cpN (a b : Nat → Int) (k : Nat) : Nat → Int := fun j => if j < k then b j else a j
theorem cpN_0 {a b : Nat → Int} : a = cpN a b 0 := by funext j; exact (if_neg (Nat.not_lt_zero j)).symm
theorem cpN_s {a b : Nat → Int} {k : Nat} : up (cpN a b k) k (b k) = cpN a b (k + 1) := by
  funext j; unfold up cpN
  (repeat' split) <;> first | rfl | omega | (subst_vars; rfl) | (exfalso; omega)
def cpO (a b : Nat → Int) (o k : Nat) : Nat → Int := fun j => if o ≤ j ∧ j < o + k then b (j - o) else a j
theorem cpO_0 {a b : Nat → Int} {o : Nat} : a = cpO a b o 0 := by funext j; exact (if_neg (by omega)).symm
theorem cpO_s {a b : Nat → Int} {o k : Nat} : up (cpO a b o k) (o + k) (b k) = cpO a b o (k + 1) := by
  funext j; unfold up cpO
  by_cases h : j = o + k
  · subst h; rw [if_pos rfl, if_pos (by omega), show o + k - o = k by omega]
  · rw [if_neg h]
    by_cases h2 : o ≤ j ∧ j < o + k
    · rw [if_pos h2, if_pos (by omega)]
    · rw [if_neg h2, if_neg (by omega)]
def shH (a : Nat → Int) (k : Nat) : Nat → Int := fun j => if j < k then a (j + 149) else a j
theorem shH_0 {a : Nat → Int} : a = shH a 0 := by funext j; exact (if_neg (Nat.not_lt_zero j)).symm
theorem shH_r {a : Nat → Int} {k : Nat} : shH a k (k + 149) = a (k + 149) := if_neg (by omega)
theorem shH_s {a : Nat → Int} {k : Nat} : up (shH a k) k (shH a k (k + 149)) = shH a (k + 1) := by
  rw [shH_r]
  funext j; unfold up shH
  by_cases h : j = k
  · subst h; rw [if_pos rfl, if_pos (by omega)]
  · rw [if_neg h]
    by_cases h2 : j < k
    · rw [if_pos h2, if_pos (by omega)]
    · rw [if_neg h2, if_neg (by omega)]
def phH (hi : Nat → Int) (n : Int) (sp : Nat → Int) : Nat → Int := if n = 4 then cpO (shH hi 447) sp 447 149 else cpO hi sp (149 * n.toNat) 149
def phZ (n : Int) : Int := if n = 4 then 4 else n + 1
def roH (hi : Nat → Int) (n : Int) : Nat → Int := fun j => hi (149 * n.toNat + j)
def mcH (hi : Nat → Int) (n : Int) (sp : Nat → Int) (r : Int) : Nat → Int := if 0 ≤ r then phH hi n sp else hi
def mcZ (n r : Int) : Int := if 0 ≤ r then phZ n else n
theorem mcZ_b {n r : Int} (h : 0 ≤ n ∧ n ≤ 4) : 0 ≤ mcZ n r ∧ mcZ n r ≤ 4 := by unfold mcZ phZ; (repeat' split) <;> omega

set_option maxHeartbeats 4000000 in
set_option maxRecDepth 100000 in
theorem c_X5_within (l : Launch) (G : vC) (a : Int) (b : Int) (c : Int) (ha : iR a) (hb : iR b) (hc : iR c) : Fn l G yX5_within cX5_within 3 (some .boolean) ({ frames := 0, cells := 0, slots := 0, locals := 0 } : Room) [.int (jI a), .int (jI b), .int (jI c)] ([]) (some (.int (jI (bI (b ≤ a ∧ a ≤ c))))) ([]) := by
  refine Ct.of (by decide) (Nat.le_of_ble_eq_true rfl) (fun X hX hR => ?_)
  refine V.toLv (lv' := [(0, .int (jI a)), (1, .int (jI b)), (2, .int (jI c))]) rfl ?_
  refine V_iload_n hX dX5_within_0 0 rfl ?_
  refine V_iload_n hX dX5_within_1 1 rfl ?_
  refine V_icmp_lt (tgt := 14) hX dX5_within_2 (by decide) (by omega) (by omega) (fun c_1 => ?_) (fun c_1 => ?_)
  · refine V_iconst hX dX5_within_14 ?_
    exact V_zret hX hR rfl dX5_within_15 ⟨(congrArg (fun z => some (Value.int (jI z))) (bI_f (by omega)).symm), rfl⟩
  · refine V_iload_n hX dX5_within_5 0 rfl ?_
    refine V_iload_n hX dX5_within_6 2 rfl ?_
    refine V_icmp_gt (tgt := 14) hX dX5_within_7 (by decide) (by omega) (by omega) (fun c_2 => ?_) (fun c_2 => ?_)
    · refine V_iconst hX dX5_within_14 ?_
      exact V_zret hX hR rfl dX5_within_15 ⟨(congrArg (fun z => some (Value.int (jI z))) (bI_f (by omega)).symm), rfl⟩
    · refine V_iconst hX dX5_within_10 ?_
      refine V_goto (tgt := 15) hX dX5_within_11 (by decide) ?_
      exact V_zret hX hR rfl dX5_within_15 ⟨(congrArg (fun z => some (Value.int (jI z))) (bI_t (by omega)).symm), rfl⟩

set_option maxHeartbeats 4000000 in
set_option maxRecDepth 100000 in
theorem c_X5_isField (l : Launch) (G : vC) (a : Int) (ha : iR a) : Fn l G yX5_isField cX5_isField 1 (some .boolean) ({ frames := 1, cells := 0, slots := 0, locals := 22 } : Room) [.int (jI a)] ([]) (some (.int (jI (bI (0 ≤ a ∧ a ≤ 5))))) ([]) := by
  refine Ct.of (by decide) (Nat.le_of_ble_eq_true rfl) (fun X hX hR => ?_)
  refine V.toLv (lv' := [(0, .int (jI a))]) rfl ?_
  refine V_iload_n hX dX5_isField_0 0 rfl ?_
  refine V_iconst hX dX5_isField_1 ?_
  refine V_iconst hX dX5_isField_2 ?_
  refine V_cS (st := []) (v := .int (jI (bI (0 ≤ a ∧ a ≤ 5)))) (w' := []) hX wc_X5_25 (c_X5_within l G a 0 5 (by omega) (by omega) (by omega)) (by decide) (by decide) rfl rfl (Nat.le_of_ble_eq_true rfl) dX5_isField_3 [] ([]) (by simp only [List.append_assoc, List.nil_append, List.append_nil]) (by simp only [List.append_assoc, List.nil_append, List.append_nil]) rfl rfl ?_
  exact V_zret hX hR (nb_bI _) dX5_isField_6 ⟨rfl, rfl⟩

set_option maxHeartbeats 4000000 in
set_option maxRecDepth 100000 in
theorem c_X5_isWay (l : Launch) (G : vC) (a : Int) (ha : iR a) : Fn l G yX5_isWay cX5_isWay 1 (some .boolean) ({ frames := 1, cells := 0, slots := 0, locals := 22 } : Room) [.int (jI a)] ([]) (some (.int (jI (bI (0 ≤ a ∧ a ≤ 3))))) ([]) := by
  refine Ct.of (by decide) (Nat.le_of_ble_eq_true rfl) (fun X hX hR => ?_)
  refine V.toLv (lv' := [(0, .int (jI a))]) rfl ?_
  refine V_iload_n hX dX5_isWay_0 0 rfl ?_
  refine V_iconst hX dX5_isWay_1 ?_
  refine V_iconst hX dX5_isWay_2 ?_
  refine V_cS (st := []) (v := .int (jI (bI (0 ≤ a ∧ a ≤ 3)))) (w' := []) hX wc_X5_25 (c_X5_within l G a 0 3 (by omega) (by omega) (by omega)) (by decide) (by decide) rfl rfl (Nat.le_of_ble_eq_true rfl) dX5_isWay_3 [] ([]) (by simp only [List.append_assoc, List.nil_append, List.append_nil]) (by simp only [List.append_assoc, List.nil_append, List.append_nil]) rfl rfl ?_
  exact V_zret hX hR (nb_bI _) dX5_isWay_6 ⟨rfl, rfl⟩

set_option maxHeartbeats 4000000 in
set_option maxRecDepth 100000 in
theorem c_X5_isNothing (l : Launch) (G : vC) (a : Int) (ha : iR a) : Fn l G yX5_isNothing cX5_isNothing 1 (some .boolean) ({ frames := 1, cells := 0, slots := 0, locals := 22 } : Room) [.int (jI a)] ([]) (some (.int (jI (bI (-5 ≤ a ∧ a ≤ -1))))) ([]) := by
  refine Ct.of (by decide) (Nat.le_of_ble_eq_true rfl) (fun X hX hR => ?_)
  refine V.toLv (lv' := [(0, .int (jI a))]) rfl ?_
  refine V_iload_n hX dX5_isNothing_0 0 rfl ?_
  refine V_bipush hX dX5_isNothing_1 (by decide) ?_
  refine V_iconst hX dX5_isNothing_3 ?_
  refine V_cS (st := []) (v := .int (jI (bI ((-5) ≤ a ∧ a ≤ (-1))))) (w' := []) hX wc_X5_25 (c_X5_within l G a (-5) (-1) (by omega) (by omega) (by omega)) (by decide) (by decide) rfl rfl (Nat.le_of_ble_eq_true rfl) dX5_isNothing_4 [] ([]) (by simp only [List.append_assoc, List.nil_append, List.append_nil]) (by simp only [List.append_assoc, List.nil_append, List.append_nil]) rfl rfl ?_
  exact V_zret hX hR (nb_bI _) dX5_isNothing_7 ⟨(congrArg (fun z => some (Value.int (jI z))) (bI_c (by omega))), rfl⟩

set_option maxHeartbeats 4000000 in
set_option maxRecDepth 100000 in
theorem c_X5_isScarecrow (l : Launch) (G : vC) (m : Nat → Nat) (s : Nat → Int) (sp : Nat → Int) (hi : Nat → Int) (sn : Nat → Int) (tx : Nat → Int) (g3 : Int) (g5 : Int) (g7 : Int) (g8 : Int) (g9 : Int) (g10 : Int) (g11 : Int) (g12 : Int) (g13 : Int) (t : Int) (a : Int) (hI : Inv t s) (ha : iR a) : Fn l G yX5_isScarecrow cX5_isScarecrow 2 (some .boolean) ({ frames := 1, cells := 0, slots := 0, locals := 22 } : Room) [.ref (m 0), .int (jI a)] (mB G m s sp hi sn tx g3 g5 g7 g8 g9 g10 g11 g12 g13) (some (.int (jI (bI (0 ≤ a ∧ a < s 10))))) (mB G m s sp hi sn tx g3 g5 g7 g8 g9 g10 g11 g12 g13) := by
  refine Ct.of (by decide) (Nat.le_of_ble_eq_true rfl) (fun X hX hR => ?_)
  refine V.toLv (lv' := [(0, .ref (m 0)), (1, .int (jI a))]) rfl ?_
  have hb := hI.base
  refine V_iload_n hX dX5_isScarecrow_0 1 rfl ?_
  refine V_iconst hX dX5_isScarecrow_1 ?_
  refine V_aload_n hX dX5_isScarecrow_2 0 rfl ?_
  refine V_get (v := .ref (m 1)) hX cbX5 0 0 (by decide) wf_X5_7 rfl rfl rfl rfl dX5_isScarecrow_3 ?_
  refine V_bipush hX dX5_isScarecrow_6 (by decide) ?_
  refine V_iald (i0 := 10) (r := (jI (s 10))) hX 1 rfl (by decide) (by decide) (by decide) rfl rfl dX5_isScarecrow_8 ?_
  refine V_iconst hX dX5_isScarecrow_9 ?_
  refine V_isub hX dX5_isScarecrow_10 rfl ?_
  refine V_cS (st := []) (v := .int (jI (bI (0 ≤ a ∧ a ≤ ((s 10) - 1))))) (w' := mB G m s sp hi sn tx g3 g5 g7 g8 g9 g10 g11 g12 g13) hX wc_X5_25 (c_X5_within l G a 0 ((s 10) - 1) (by omega) (by omega) (by omega)) (by decide) (by decide) rfl rfl (Nat.le_of_ble_eq_true rfl) dX5_isScarecrow_11 [] (mB G m s sp hi sn tx g3 g5 g7 g8 g9 g10 g11 g12 g13) (by simp only [List.append_assoc, List.nil_append, List.append_nil]) (by simp only [List.append_assoc, List.nil_append, List.append_nil]) rfl rfl ?_
  exact V_zret hX hR (nb_bI _) dX5_isScarecrow_14 ⟨(congrArg (fun z => some (Value.int (jI z))) (bI_c (by omega))), rfl⟩

set_option maxHeartbeats 4000000 in
set_option maxRecDepth 100000 in
theorem c_X5_of (l : Launch) (G : vC) (m : Nat → Nat) (s : Nat → Int) (sp : Nat → Int) (hi : Nat → Int) (sn : Nat → Int) (tx : Nat → Int) (g3 : Int) (g5 : Int) (g7 : Int) (g8 : Int) (g9 : Int) (g10 : Int) (g11 : Int) (g12 : Int) (g13 : Int) (k : Nat) (c : Nat) (hk : k < 12) (hc : c < 11) : Fn l G yX5_of cX5_of 3 (some .int) ({ frames := 0, cells := 0, slots := 0, locals := 0 } : Room) [.ref (m 0), .int (jI ((k : Int))), .int (jI ((c : Int)))] (mB G m s sp hi sn tx g3 g5 g7 g8 g9 g10 g11 g12 g13) (some (.int (jI (s (ix k c))))) (mB G m s sp hi sn tx g3 g5 g7 g8 g9 g10 g11 g12 g13) := by
  refine Ct.of (by decide) (Nat.le_of_ble_eq_true rfl) (fun X hX hR => ?_)
  refine V.toLv (lv' := [(0, .ref (m 0)), (1, .int (jI ((k : Int)))), (2, .int (jI ((c : Int))))]) rfl ?_
  refine V_aload_n hX dX5_of_0 0 rfl ?_
  refine V_get (v := .ref (m 1)) hX cbX5 0 0 (by decide) wf_X5_7 rfl rfl rfl rfl dX5_of_1 ?_
  refine V_bipush hX dX5_of_4 (by decide) ?_
  refine V_bipush hX dX5_of_6 (by decide) ?_
  refine V_iload_n hX dX5_of_8 1 rfl ?_
  refine V_imul hX dX5_of_9 rfl ?_
  refine V_iadd hX dX5_of_10 rfl ?_
  refine V_iload_n hX dX5_of_11 2 rfl ?_
  refine V_iadd hX dX5_of_12 rfl ?_
  refine V_iald (i0 := ix k c) (r := (jI (s (ix k c)))) hX 1 rfl (by omega) (by omega) (by omega) (by unfold ix; omega) rfl dX5_of_13 ?_
  exact V_iret hX hR dX5_of_14 ⟨rfl, rfl⟩

set_option maxHeartbeats 4000000 in
set_option maxRecDepth 100000 in
theorem c_X5_setOf (l : Launch) (G : vC) (m : Nat → Nat) (s : Nat → Int) (sp : Nat → Int) (hi : Nat → Int) (sn : Nat → Int) (tx : Nat → Int) (g3 : Int) (g5 : Int) (g7 : Int) (g8 : Int) (g9 : Int) (g10 : Int) (g11 : Int) (g12 : Int) (g13 : Int) (k : Nat) (c : Nat) (v : Int) (hk : k < 12) (hc : c < 11) : Fn l G yX5_setOf cX5_setOf 4 none ({ frames := 0, cells := 0, slots := 0, locals := 0 } : Room) [.ref (m 0), .int (jI ((k : Int))), .int (jI ((c : Int))), .int (jI v)] (mB G m s sp hi sn tx g3 g5 g7 g8 g9 g10 g11 g12 g13) none (mB G m (up s (ix k c) v) sp hi sn tx g3 g5 g7 g8 g9 g10 g11 g12 g13) := by
  refine Ct.of (by decide) (Nat.le_of_ble_eq_true rfl) (fun X hX hR => ?_)
  refine V.toLv (lv' := [(0, .ref (m 0)), (1, .int (jI ((k : Int)))), (2, .int (jI ((c : Int)))), (3, .int (jI v))]) rfl ?_
  refine V_aload_n hX dX5_setOf_0 0 rfl ?_
  refine V_get (v := .ref (m 1)) hX cbX5 0 0 (by decide) wf_X5_7 rfl rfl rfl rfl dX5_setOf_1 ?_
  refine V_bipush hX dX5_setOf_4 (by decide) ?_
  refine V_bipush hX dX5_setOf_6 (by decide) ?_
  refine V_iload_n hX dX5_setOf_8 1 rfl ?_
  refine V_imul hX dX5_setOf_9 rfl ?_
  refine V_iadd hX dX5_setOf_10 rfl ?_
  refine V_iload_n hX dX5_setOf_11 2 rfl ?_
  refine V_iadd hX dX5_setOf_12 rfl ?_
  refine V_iload_n hX dX5_setOf_13 3 rfl ?_
  refine V_iast (i0 := ix k c) (w' := mB G m (up s (ix k c) v) sp hi sn tx g3 g5 g7 g8 g9 g10 g11 g12 g13) hX 1 rfl (by omega) (by omega) (by omega) (by unfold ix; omega) dX5_setOf_14 (mB_w1 G _ _ _ _ _ _ _ _ _ _ _ _ _ _ _ _ _) ?_
  exact V_vret hX hR dX5_setOf_15 ⟨rfl, rfl⟩

set_option maxHeartbeats 4000000 in
set_option maxRecDepth 100000 in
theorem c_X5_crowsOn (l : Launch) (G : vC) (m : Nat → Nat) (s : Nat → Int) (sp : Nat → Int) (hi : Nat → Int) (sn : Nat → Int) (tx : Nat → Int) (g3 : Int) (g5 : Int) (g7 : Int) (g8 : Int) (g9 : Int) (g10 : Int) (g11 : Int) (g12 : Int) (g13 : Int) (t : Int) (k : Nat) (hI : Inv t s) (hk : k < 12) : Fn l G yX5_crowsOn cX5_crowsOn 4 (some .int) ({ frames := 1, cells := 0, slots := 0, locals := 22 } : Room) [.ref (m 0), .int (jI ((k : Int)))] (mB G m s sp hi sn tx g3 g5 g7 g8 g9 g10 g11 g12 g13) (some (.int (jI (crN s k)))) (mB G m s sp hi sn tx g3 g5 g7 g8 g9 g10 g11 g12 g13) := by
  refine Ct.of (by decide) (Nat.le_of_ble_eq_true rfl) (fun X hX hR => ?_)
  refine V.toLv (lv' := [(0, .ref (m 0)), (1, .int (jI ((k : Int))))]) rfl ?_
  have hb := hI.base
  have hs := hI.sc k hk
  refine V_iconst hX dX5_crowsOn_0 ?_
  refine V_istore_n (i := 2) (lv' := [(2, .int (jI 0)), (0, .ref (m 0)), (1, .int (jI ((k : Int))))]) hX dX5_crowsOn_1 rfl (by decide) rfl ?_
  refine V_iconst hX dX5_crowsOn_2 ?_
  refine V_istore_n (i := 3) (lv' := [(3, .int (jI 0)), (2, .int (jI 0)), (0, .ref (m 0)), (1, .int (jI ((k : Int))))]) hX dX5_crowsOn_3 rfl (by decide) rfl ?_
  refine V_iload_n hX dX5_crowsOn_4 0 rfl ?_
  refine V_iconst hX dX5_crowsOn_5 ?_
  refine V_icmp_ge (tgt := 26) hX dX5_crowsOn_6 (by decide) (by decide) (by decide) (fun c_1 => absurd c_1 (by decide)) (fun c_1 => ?_)
  refine V_iload_n hX dX5_crowsOn_9 1 rfl ?_
  refine V_aload_n hX dX5_crowsOn_10 2 rfl ?_
  refine V_iload_n hX dX5_crowsOn_11 3 rfl ?_
  refine V_iconst hX dX5_crowsOn_12 ?_
  refine V_iload_n hX dX5_crowsOn_13 0 rfl ?_
  refine V_iadd (c := 5) hX dX5_crowsOn_14 rfl ?_
  refine V.sk (st' := [.int (jI ((5 : Int))), .int (jI ((k : Int))), .ref (m 0), .int (jI 0)]) rfl ?_
  refine V_cV (st := [.int (jI 0)]) (v := .int (jI (s (ix k 5)))) (w' := mB G m s sp hi sn tx g3 g5 g7 g8 g9 g10 g11 g12 g13) hX wc_X5_29 (c_X5_of l G m s sp hi sn tx g3 g5 g7 g8 g9 g10 g11 g12 g13 k 5 (by omega) (by omega)) (by decide) (by decide) rfl rfl (Nat.le_of_ble_eq_true rfl) dX5_crowsOn_15 [] ([]) (by simp only [List.append_assoc, List.nil_append, List.append_nil]) 0 rfl rfl (by simp only [List.append_assoc, List.nil_append, List.append_nil]) rfl rfl ?_
  refine V_iadd hX dX5_crowsOn_18 rfl ?_
  refine V_istore_n (i := 2) (lv' := [(2, .int (jI (0 + (s (ix k 5))))), (3, .int (jI 0)), (0, .ref (m 0)), (1, .int (jI ((k : Int))))]) hX dX5_crowsOn_19 rfl (by decide) rfl ?_
  refine V_iinc (b := 1) (lv' := [(3, .int (jI 1)), (2, .int (jI (0 + (s (ix k 5))))), (0, .ref (m 0)), (1, .int (jI ((k : Int))))]) hX dX5_crowsOn_20 1 rfl rfl (by decide) rfl ?_
  refine V_goto (tgt := 4) hX dX5_crowsOn_23 (by decide) ?_
  refine V_iload_n hX dX5_crowsOn_4 0 rfl ?_
  refine V_iconst hX dX5_crowsOn_5 ?_
  refine V_icmp_ge (tgt := 26) hX dX5_crowsOn_6 (by decide) (by decide) (by decide) (fun c_2 => absurd c_2 (by decide)) (fun c_2 => ?_)
  refine V_iload_n hX dX5_crowsOn_9 1 rfl ?_
  refine V_aload_n hX dX5_crowsOn_10 2 rfl ?_
  refine V_iload_n hX dX5_crowsOn_11 3 rfl ?_
  refine V_iconst hX dX5_crowsOn_12 ?_
  refine V_iload_n hX dX5_crowsOn_13 0 rfl ?_
  refine V_iadd (c := 6) hX dX5_crowsOn_14 rfl ?_
  refine V.sk (st' := [.int (jI ((6 : Int))), .int (jI ((k : Int))), .ref (m 0), .int (jI (0 + (s (ix k 5))))]) rfl ?_
  refine V_cV (st := [.int (jI (0 + (s (ix k 5))))]) (v := .int (jI (s (ix k 6)))) (w' := mB G m s sp hi sn tx g3 g5 g7 g8 g9 g10 g11 g12 g13) hX wc_X5_29 (c_X5_of l G m s sp hi sn tx g3 g5 g7 g8 g9 g10 g11 g12 g13 k 6 (by omega) (by omega)) (by decide) (by decide) rfl rfl (Nat.le_of_ble_eq_true rfl) dX5_crowsOn_15 [] ([]) (by simp only [List.append_assoc, List.nil_append, List.append_nil]) 0 rfl rfl (by simp only [List.append_assoc, List.nil_append, List.append_nil]) rfl rfl ?_
  refine V_iadd hX dX5_crowsOn_18 rfl ?_
  refine V_istore_n (i := 2) (lv' := [(2, .int (jI ((0 + (s (ix k 5))) + (s (ix k 6))))), (3, .int (jI 1)), (0, .ref (m 0)), (1, .int (jI ((k : Int))))]) hX dX5_crowsOn_19 rfl (by decide) rfl ?_
  refine V_iinc (b := 2) (lv' := [(3, .int (jI 2)), (2, .int (jI ((0 + (s (ix k 5))) + (s (ix k 6))))), (0, .ref (m 0)), (1, .int (jI ((k : Int))))]) hX dX5_crowsOn_20 1 rfl rfl (by decide) rfl ?_
  refine V_goto (tgt := 4) hX dX5_crowsOn_23 (by decide) ?_
  refine V_iload_n hX dX5_crowsOn_4 0 rfl ?_
  refine V_iconst hX dX5_crowsOn_5 ?_
  refine V_icmp_ge (tgt := 26) hX dX5_crowsOn_6 (by decide) (by decide) (by decide) (fun c_3 => absurd c_3 (by decide)) (fun c_3 => ?_)
  refine V_iload_n hX dX5_crowsOn_9 1 rfl ?_
  refine V_aload_n hX dX5_crowsOn_10 2 rfl ?_
  refine V_iload_n hX dX5_crowsOn_11 3 rfl ?_
  refine V_iconst hX dX5_crowsOn_12 ?_
  refine V_iload_n hX dX5_crowsOn_13 0 rfl ?_
  refine V_iadd (c := 7) hX dX5_crowsOn_14 rfl ?_
  refine V.sk (st' := [.int (jI ((7 : Int))), .int (jI ((k : Int))), .ref (m 0), .int (jI ((0 + (s (ix k 5))) + (s (ix k 6))))]) rfl ?_
  refine V_cV (st := [.int (jI ((0 + (s (ix k 5))) + (s (ix k 6))))]) (v := .int (jI (s (ix k 7)))) (w' := mB G m s sp hi sn tx g3 g5 g7 g8 g9 g10 g11 g12 g13) hX wc_X5_29 (c_X5_of l G m s sp hi sn tx g3 g5 g7 g8 g9 g10 g11 g12 g13 k 7 (by omega) (by omega)) (by decide) (by decide) rfl rfl (Nat.le_of_ble_eq_true rfl) dX5_crowsOn_15 [] ([]) (by simp only [List.append_assoc, List.nil_append, List.append_nil]) 0 rfl rfl (by simp only [List.append_assoc, List.nil_append, List.append_nil]) rfl rfl ?_
  refine V_iadd hX dX5_crowsOn_18 rfl ?_
  refine V_istore_n (i := 2) (lv' := [(2, .int (jI (((0 + (s (ix k 5))) + (s (ix k 6))) + (s (ix k 7))))), (3, .int (jI 2)), (0, .ref (m 0)), (1, .int (jI ((k : Int))))]) hX dX5_crowsOn_19 rfl (by decide) rfl ?_
  refine V_iinc (b := 3) (lv' := [(3, .int (jI 3)), (2, .int (jI (((0 + (s (ix k 5))) + (s (ix k 6))) + (s (ix k 7))))), (0, .ref (m 0)), (1, .int (jI ((k : Int))))]) hX dX5_crowsOn_20 1 rfl rfl (by decide) rfl ?_
  refine V_goto (tgt := 4) hX dX5_crowsOn_23 (by decide) ?_
  refine V_iload_n hX dX5_crowsOn_4 0 rfl ?_
  refine V_iconst hX dX5_crowsOn_5 ?_
  refine V_icmp_ge (tgt := 26) hX dX5_crowsOn_6 (by decide) (by decide) (by decide) (fun c_4 => absurd c_4 (by decide)) (fun c_4 => ?_)
  refine V_iload_n hX dX5_crowsOn_9 1 rfl ?_
  refine V_aload_n hX dX5_crowsOn_10 2 rfl ?_
  refine V_iload_n hX dX5_crowsOn_11 3 rfl ?_
  refine V_iconst hX dX5_crowsOn_12 ?_
  refine V_iload_n hX dX5_crowsOn_13 0 rfl ?_
  refine V_iadd (c := 8) hX dX5_crowsOn_14 rfl ?_
  refine V.sk (st' := [.int (jI ((8 : Int))), .int (jI ((k : Int))), .ref (m 0), .int (jI (((0 + (s (ix k 5))) + (s (ix k 6))) + (s (ix k 7))))]) rfl ?_
  refine V_cV (st := [.int (jI (((0 + (s (ix k 5))) + (s (ix k 6))) + (s (ix k 7))))]) (v := .int (jI (s (ix k 8)))) (w' := mB G m s sp hi sn tx g3 g5 g7 g8 g9 g10 g11 g12 g13) hX wc_X5_29 (c_X5_of l G m s sp hi sn tx g3 g5 g7 g8 g9 g10 g11 g12 g13 k 8 (by omega) (by omega)) (by decide) (by decide) rfl rfl (Nat.le_of_ble_eq_true rfl) dX5_crowsOn_15 [] ([]) (by simp only [List.append_assoc, List.nil_append, List.append_nil]) 0 rfl rfl (by simp only [List.append_assoc, List.nil_append, List.append_nil]) rfl rfl ?_
  refine V_iadd hX dX5_crowsOn_18 rfl ?_
  refine V_istore_n (i := 2) (lv' := [(2, .int (jI ((((0 + (s (ix k 5))) + (s (ix k 6))) + (s (ix k 7))) + (s (ix k 8))))), (3, .int (jI 3)), (0, .ref (m 0)), (1, .int (jI ((k : Int))))]) hX dX5_crowsOn_19 rfl (by decide) rfl ?_
  refine V_iinc (b := 4) (lv' := [(3, .int (jI 4)), (2, .int (jI ((((0 + (s (ix k 5))) + (s (ix k 6))) + (s (ix k 7))) + (s (ix k 8))))), (0, .ref (m 0)), (1, .int (jI ((k : Int))))]) hX dX5_crowsOn_20 1 rfl rfl (by decide) rfl ?_
  refine V_goto (tgt := 4) hX dX5_crowsOn_23 (by decide) ?_
  refine V_iload_n hX dX5_crowsOn_4 0 rfl ?_
  refine V_iconst hX dX5_crowsOn_5 ?_
  refine V_icmp_ge (tgt := 26) hX dX5_crowsOn_6 (by decide) (by decide) (by decide) (fun c_5 => ?_) (fun c_5 => absurd c_5 (by decide))
  refine V_iload_n hX dX5_crowsOn_26 1 rfl ?_
  exact V_iret hX hR dX5_crowsOn_27 ⟨(congrArg (fun z => some (Value.int (jI z))) (by unfold crN; omega)), rfl⟩

set_option maxHeartbeats 4000000 in
set_option maxRecDepth 100000 in
theorem c_X5_flyOff (l : Launch) (G : vC) (m : Nat → Nat) (s : Nat → Int) (sp : Nat → Int) (hi : Nat → Int) (sn : Nat → Int) (tx : Nat → Int) (g3 : Int) (g5 : Int) (g7 : Int) (g8 : Int) (g9 : Int) (g10 : Int) (g11 : Int) (g12 : Int) (g13 : Int) (k : Nat) (hk : k < 12) : Fn l G yX5_flyOff cX5_flyOff 3 none ({ frames := 1, cells := 0, slots := 0, locals := 23 } : Room) [.ref (m 0), .int (jI ((k : Int)))] (mB G m s sp hi sn tx g3 g5 g7 g8 g9 g10 g11 g12 g13) none (mB G m (fly s k) sp hi sn tx g3 g5 g7 g8 g9 g10 g11 g12 g13) := by
  refine Ct.of (by decide) (Nat.le_of_ble_eq_true rfl) (fun X hX hR => ?_)
  refine V.toLv (lv' := [(0, .ref (m 0)), (1, .int (jI ((k : Int))))]) rfl ?_
  refine V_iconst hX dX5_flyOff_0 ?_
  refine V_istore_n (i := 2) (lv' := [(2, .int (jI 0)), (0, .ref (m 0)), (1, .int (jI ((k : Int))))]) hX dX5_flyOff_1 rfl (by decide) rfl ?_
  refine V_iload_n hX dX5_flyOff_2 0 rfl ?_
  refine V_iconst hX dX5_flyOff_3 ?_
  refine V_icmp_ge (tgt := 22) hX dX5_flyOff_4 (by decide) (by decide) (by decide) (fun c_1 => absurd c_1 (by decide)) (fun c_1 => ?_)
  refine V_aload_n hX dX5_flyOff_7 1 rfl ?_
  refine V_iload_n hX dX5_flyOff_8 2 rfl ?_
  refine V_iconst hX dX5_flyOff_9 ?_
  refine V_iload_n hX dX5_flyOff_10 0 rfl ?_
  refine V_iadd (c := 5) hX dX5_flyOff_11 rfl ?_
  refine V_iconst hX dX5_flyOff_12 ?_
  refine V.sk (st' := [.int (jI 0), .int (jI ((5 : Int))), .int (jI ((k : Int))), .ref (m 0)]) rfl ?_
  refine V_dV (st := []) (w' := mB G m (up s (ix k 5) 0) sp hi sn tx g3 g5 g7 g8 g9 g10 g11 g12 g13) hX wc_X5_75 (c_X5_setOf l G m s sp hi sn tx g3 g5 g7 g8 g9 g10 g11 g12 g13 k 5 0 (by omega) (by omega)) (by decide) (by decide) rfl rfl (Nat.le_of_ble_eq_true rfl) dX5_flyOff_13 [] ([]) (by simp only [List.append_assoc, List.nil_append, List.append_nil]) 0 rfl rfl (by simp only [List.append_assoc, List.nil_append, List.append_nil]) rfl rfl ?_
  refine V_iinc (b := 1) (lv' := [(2, .int (jI 1)), (0, .ref (m 0)), (1, .int (jI ((k : Int))))]) hX dX5_flyOff_16 0 rfl rfl (by decide) rfl ?_
  refine V_goto (tgt := 2) hX dX5_flyOff_19 (by decide) ?_
  refine V_iload_n hX dX5_flyOff_2 0 rfl ?_
  refine V_iconst hX dX5_flyOff_3 ?_
  refine V_icmp_ge (tgt := 22) hX dX5_flyOff_4 (by decide) (by decide) (by decide) (fun c_2 => absurd c_2 (by decide)) (fun c_2 => ?_)
  refine V_aload_n hX dX5_flyOff_7 1 rfl ?_
  refine V_iload_n hX dX5_flyOff_8 2 rfl ?_
  refine V_iconst hX dX5_flyOff_9 ?_
  refine V_iload_n hX dX5_flyOff_10 0 rfl ?_
  refine V_iadd (c := 6) hX dX5_flyOff_11 rfl ?_
  refine V_iconst hX dX5_flyOff_12 ?_
  refine V.sk (st' := [.int (jI 0), .int (jI ((6 : Int))), .int (jI ((k : Int))), .ref (m 0)]) rfl ?_
  refine V_dV (st := []) (w' := mB G m (up (up s (ix k 5) 0) (ix k 6) 0) sp hi sn tx g3 g5 g7 g8 g9 g10 g11 g12 g13) hX wc_X5_75 (c_X5_setOf l G m (up s (ix k 5) 0) sp hi sn tx g3 g5 g7 g8 g9 g10 g11 g12 g13 k 6 0 (by omega) (by omega)) (by decide) (by decide) rfl rfl (Nat.le_of_ble_eq_true rfl) dX5_flyOff_13 [] ([]) (by simp only [List.append_assoc, List.nil_append, List.append_nil]) 0 rfl rfl (by simp only [List.append_assoc, List.nil_append, List.append_nil]) rfl rfl ?_
  refine V_iinc (b := 2) (lv' := [(2, .int (jI 2)), (0, .ref (m 0)), (1, .int (jI ((k : Int))))]) hX dX5_flyOff_16 0 rfl rfl (by decide) rfl ?_
  refine V_goto (tgt := 2) hX dX5_flyOff_19 (by decide) ?_
  refine V_iload_n hX dX5_flyOff_2 0 rfl ?_
  refine V_iconst hX dX5_flyOff_3 ?_
  refine V_icmp_ge (tgt := 22) hX dX5_flyOff_4 (by decide) (by decide) (by decide) (fun c_3 => absurd c_3 (by decide)) (fun c_3 => ?_)
  refine V_aload_n hX dX5_flyOff_7 1 rfl ?_
  refine V_iload_n hX dX5_flyOff_8 2 rfl ?_
  refine V_iconst hX dX5_flyOff_9 ?_
  refine V_iload_n hX dX5_flyOff_10 0 rfl ?_
  refine V_iadd (c := 7) hX dX5_flyOff_11 rfl ?_
  refine V_iconst hX dX5_flyOff_12 ?_
  refine V.sk (st' := [.int (jI 0), .int (jI ((7 : Int))), .int (jI ((k : Int))), .ref (m 0)]) rfl ?_
  refine V_dV (st := []) (w' := mB G m (up (up (up s (ix k 5) 0) (ix k 6) 0) (ix k 7) 0) sp hi sn tx g3 g5 g7 g8 g9 g10 g11 g12 g13) hX wc_X5_75 (c_X5_setOf l G m (up (up s (ix k 5) 0) (ix k 6) 0) sp hi sn tx g3 g5 g7 g8 g9 g10 g11 g12 g13 k 7 0 (by omega) (by omega)) (by decide) (by decide) rfl rfl (Nat.le_of_ble_eq_true rfl) dX5_flyOff_13 [] ([]) (by simp only [List.append_assoc, List.nil_append, List.append_nil]) 0 rfl rfl (by simp only [List.append_assoc, List.nil_append, List.append_nil]) rfl rfl ?_
  refine V_iinc (b := 3) (lv' := [(2, .int (jI 3)), (0, .ref (m 0)), (1, .int (jI ((k : Int))))]) hX dX5_flyOff_16 0 rfl rfl (by decide) rfl ?_
  refine V_goto (tgt := 2) hX dX5_flyOff_19 (by decide) ?_
  refine V_iload_n hX dX5_flyOff_2 0 rfl ?_
  refine V_iconst hX dX5_flyOff_3 ?_
  refine V_icmp_ge (tgt := 22) hX dX5_flyOff_4 (by decide) (by decide) (by decide) (fun c_4 => absurd c_4 (by decide)) (fun c_4 => ?_)
  refine V_aload_n hX dX5_flyOff_7 1 rfl ?_
  refine V_iload_n hX dX5_flyOff_8 2 rfl ?_
  refine V_iconst hX dX5_flyOff_9 ?_
  refine V_iload_n hX dX5_flyOff_10 0 rfl ?_
  refine V_iadd (c := 8) hX dX5_flyOff_11 rfl ?_
  refine V_iconst hX dX5_flyOff_12 ?_
  refine V.sk (st' := [.int (jI 0), .int (jI ((8 : Int))), .int (jI ((k : Int))), .ref (m 0)]) rfl ?_
  refine V_dV (st := []) (w' := mB G m (up (up (up (up s (ix k 5) 0) (ix k 6) 0) (ix k 7) 0) (ix k 8) 0) sp hi sn tx g3 g5 g7 g8 g9 g10 g11 g12 g13) hX wc_X5_75 (c_X5_setOf l G m (up (up (up s (ix k 5) 0) (ix k 6) 0) (ix k 7) 0) sp hi sn tx g3 g5 g7 g8 g9 g10 g11 g12 g13 k 8 0 (by omega) (by omega)) (by decide) (by decide) rfl rfl (Nat.le_of_ble_eq_true rfl) dX5_flyOff_13 [] ([]) (by simp only [List.append_assoc, List.nil_append, List.append_nil]) 0 rfl rfl (by simp only [List.append_assoc, List.nil_append, List.append_nil]) rfl rfl ?_
  refine V_iinc (b := 4) (lv' := [(2, .int (jI 4)), (0, .ref (m 0)), (1, .int (jI ((k : Int))))]) hX dX5_flyOff_16 0 rfl rfl (by decide) rfl ?_
  refine V_goto (tgt := 2) hX dX5_flyOff_19 (by decide) ?_
  refine V_iload_n hX dX5_flyOff_2 0 rfl ?_
  refine V_iconst hX dX5_flyOff_3 ?_
  refine V_icmp_ge (tgt := 22) hX dX5_flyOff_4 (by decide) (by decide) (by decide) (fun c_5 => ?_) (fun c_5 => absurd c_5 (by decide))
  exact V_vret hX hR dX5_flyOff_22 ⟨rfl, rfl⟩

set_option maxHeartbeats 4000000 in
set_option maxRecDepth 100000 in
theorem c_X5_putAside (l : Launch) (G : vC) (m : Nat → Nat) (s : Nat → Int) (sp : Nat → Int) (hi : Nat → Int) (sn : Nat → Int) (tx : Nat → Int) (g3 : Int) (g5 : Int) (g7 : Int) (g8 : Int) (g9 : Int) (g10 : Int) (g11 : Int) (g12 : Int) (g13 : Int)  : Fn l G yX5_putAside cX5_putAside 2 none ({ frames := 0, cells := 0, slots := 0, locals := 0 } : Room) [.ref (m 0)] (mB G m s sp hi sn tx g3 g5 g7 g8 g9 g10 g11 g12 g13) none (mB G m s s hi sn tx g3 g5 g7 g8 g9 g10 g11 g12 g13) := by
  refine Ct.of (by decide) (Nat.le_of_ble_eq_true rfl) (fun X hX hR => ?_)
  refine V.toLv (lv' := [(0, .ref (m 0))]) rfl ?_
  refine V_iconst hX dX5_putAside_0 ?_
  refine V.wd (w' := mB G m s (cpN sp s 0) hi sn tx g3 g5 g7 g8 g9 g10 g11 g12 g13) (mB_c rfl cpN_0 rfl rfl rfl rfl rfl rfl rfl rfl rfl rfl rfl rfl) ?_
  refine V_istore_n (i := 1) (lv' := [(1, .int (jI 0)), (0, .ref (m 0))]) hX dX5_putAside_1 rfl (by decide) rfl ?_
  have L2_q_1 : ∀ k : Nat, k ≤ 149 → ∀ (i : Int), (i = (k : Int)) → V X 0 0 (mB G m s (cpN sp s k) hi sn tx g3 g5 g7 g8 g9 g10 g11 g12 g13) [(1, .int (jI i)), (0, .ref (m 0))] 2 [] := by
    refine up_ind (fun k => ∀ (i : Int), (i = (k : Int)) → V X 0 0 (mB G m s (cpN sp s k) hi sn tx g3 g5 g7 g8 g9 g10 g11 g12 g13) [(1, .int (jI i)), (0, .ref (m 0))] 2 []) (149) ?_
    intro k hk ih i hik
    refine V_iload_n hX dX5_putAside_2 0 rfl ?_
    refine V_sipush hX dX5_putAside_3 (by decide) ?_
    refine V_icmp_ge (tgt := 27) hX dX5_putAside_6 (by decide) (by omega) (by decide) (fun c_2 => ?_) (fun c_2 => ?_)
    · refine V.fn hX 2 (g := mI (s)) (w' := mB G m s s hi sn tx g3 g5 g7 g8 g9 g10 g11 g12 g13) rfl (fun j hj => congrArg jI (if_pos (by omega))) rfl ?_
      exact V_vret hX hR dX5_putAside_27 ⟨rfl, rfl⟩
    · refine V_aload_n hX dX5_putAside_9 1 rfl ?_
      refine V_get (v := .ref (m 2)) hX cbX5 1 0 (by decide) wf_X5_13 rfl rfl rfl rfl dX5_putAside_10 ?_
      refine V_iload_n hX dX5_putAside_13 0 rfl ?_
      refine V_aload_n hX dX5_putAside_14 1 rfl ?_
      refine V_get (v := .ref (m 1)) hX cbX5 0 0 (by decide) wf_X5_7 rfl rfl rfl rfl dX5_putAside_15 ?_
      refine V_iload_n hX dX5_putAside_18 0 rfl ?_
      refine V_iald (i0 := k) (r := (jI (s k))) hX 1 rfl (by omega) (by omega) (by omega) (by omega) rfl dX5_putAside_19 ?_
      refine V_iast (i0 := k) (w' := mB G m s (up (cpN sp s k) k (s k)) hi sn tx g3 g5 g7 g8 g9 g10 g11 g12 g13) hX 2 rfl (by omega) (by omega) (by omega) (by omega) dX5_putAside_20 (mB_w2 G _ _ _ _ _ _ _ _ _ _ _ _ _ _ _ _ _) ?_
      refine V_iinc (b := i + 1) (lv' := [(1, .int (jI (i + 1))), (0, .ref (m 0))]) hX dX5_putAside_21 0 rfl rfl (by decide) rfl ?_
      refine V.wd (w' := mB G m s (cpN sp s (k + 1)) hi sn tx g3 g5 g7 g8 g9 g10 g11 g12 g13) (mB_c rfl cpN_s rfl rfl rfl rfl rfl rfl rfl rfl rfl rfl rfl rfl) ?_
      refine V_goto (tgt := 2) hX dX5_putAside_24 (by decide) ?_
      refine V.sub [0, 1] rfl ?_
      exact ih (by omega) _ (by omega)
  refine V.sub [0, 1] rfl ?_
  exact L2_q_1 0 (Nat.zero_le _) 0 rfl

set_option maxHeartbeats 4000000 in
set_option maxRecDepth 100000 in
theorem c_X5_takeBack (l : Launch) (G : vC) (m : Nat → Nat) (s : Nat → Int) (sp : Nat → Int) (hi : Nat → Int) (sn : Nat → Int) (tx : Nat → Int) (g3 : Int) (g5 : Int) (g7 : Int) (g8 : Int) (g9 : Int) (g10 : Int) (g11 : Int) (g12 : Int) (g13 : Int)  : Fn l G yX5_takeBack cX5_takeBack 2 none ({ frames := 0, cells := 0, slots := 0, locals := 0 } : Room) [.ref (m 0)] (mB G m s sp hi sn tx g3 g5 g7 g8 g9 g10 g11 g12 g13) none (mB G m sp sp hi sn tx g3 g5 g7 g8 g9 g10 g11 g12 g13) := by
  refine Ct.of (by decide) (Nat.le_of_ble_eq_true rfl) (fun X hX hR => ?_)
  refine V.toLv (lv' := [(0, .ref (m 0))]) rfl ?_
  refine V_iconst hX dX5_takeBack_0 ?_
  refine V.wd (w' := mB G m (cpN s sp 0) sp hi sn tx g3 g5 g7 g8 g9 g10 g11 g12 g13) (mB_c cpN_0 rfl rfl rfl rfl rfl rfl rfl rfl rfl rfl rfl rfl rfl) ?_
  refine V_istore_n (i := 1) (lv' := [(1, .int (jI 0)), (0, .ref (m 0))]) hX dX5_takeBack_1 rfl (by decide) rfl ?_
  have L2_q_1 : ∀ k : Nat, k ≤ 149 → ∀ (i : Int), (i = (k : Int)) → V X 0 0 (mB G m (cpN s sp k) sp hi sn tx g3 g5 g7 g8 g9 g10 g11 g12 g13) [(1, .int (jI i)), (0, .ref (m 0))] 2 [] := by
    refine up_ind (fun k => ∀ (i : Int), (i = (k : Int)) → V X 0 0 (mB G m (cpN s sp k) sp hi sn tx g3 g5 g7 g8 g9 g10 g11 g12 g13) [(1, .int (jI i)), (0, .ref (m 0))] 2 []) (149) ?_
    intro k hk ih i hik
    refine V_iload_n hX dX5_takeBack_2 0 rfl ?_
    refine V_sipush hX dX5_takeBack_3 (by decide) ?_
    refine V_icmp_ge (tgt := 27) hX dX5_takeBack_6 (by decide) (by omega) (by decide) (fun c_2 => ?_) (fun c_2 => ?_)
    · refine V.fn hX 1 (g := mI (sp)) (w' := mB G m sp sp hi sn tx g3 g5 g7 g8 g9 g10 g11 g12 g13) rfl (fun j hj => congrArg jI (if_pos (by omega))) rfl ?_
      exact V_vret hX hR dX5_takeBack_27 ⟨rfl, rfl⟩
    · refine V_aload_n hX dX5_takeBack_9 1 rfl ?_
      refine V_get (v := .ref (m 1)) hX cbX5 0 0 (by decide) wf_X5_7 rfl rfl rfl rfl dX5_takeBack_10 ?_
      refine V_iload_n hX dX5_takeBack_13 0 rfl ?_
      refine V_aload_n hX dX5_takeBack_14 1 rfl ?_
      refine V_get (v := .ref (m 2)) hX cbX5 1 0 (by decide) wf_X5_13 rfl rfl rfl rfl dX5_takeBack_15 ?_
      refine V_iload_n hX dX5_takeBack_18 0 rfl ?_
      refine V_iald (i0 := k) (r := (jI (sp k))) hX 2 rfl (by omega) (by omega) (by omega) (by omega) rfl dX5_takeBack_19 ?_
      refine V_iast (i0 := k) (w' := mB G m (up (cpN s sp k) k (sp k)) sp hi sn tx g3 g5 g7 g8 g9 g10 g11 g12 g13) hX 1 rfl (by omega) (by omega) (by omega) (by omega) dX5_takeBack_20 (mB_w1 G _ _ _ _ _ _ _ _ _ _ _ _ _ _ _ _ _) ?_
      refine V_iinc (b := i + 1) (lv' := [(1, .int (jI (i + 1))), (0, .ref (m 0))]) hX dX5_takeBack_21 0 rfl rfl (by decide) rfl ?_
      refine V.wd (w' := mB G m (cpN s sp (k + 1)) sp hi sn tx g3 g5 g7 g8 g9 g10 g11 g12 g13) (mB_c cpN_s rfl rfl rfl rfl rfl rfl rfl rfl rfl rfl rfl rfl rfl) ?_
      refine V_goto (tgt := 2) hX dX5_takeBack_24 (by decide) ?_
      refine V.sub [0, 1] rfl ?_
      exact ih (by omega) _ (by omega)
  refine V.sub [0, 1] rfl ?_
  exact L2_q_1 0 (Nat.zero_le _) 0 rfl

set_option maxHeartbeats 4000000 in
set_option maxRecDepth 100000 in
theorem c_X5_push (l : Launch) (G : vC) (m : Nat → Nat) (s : Nat → Int) (sp : Nat → Int) (hi : Nat → Int) (sn : Nat → Int) (tx : Nat → Int) (g3 : Int) (g5 : Int) (g7 : Int) (g8 : Int) (g9 : Int) (g10 : Int) (g11 : Int) (g12 : Int) (g13 : Int) (hg3 : 0 ≤ g3 ∧ g3 ≤ 4) : Fn l G yX5_push cX5_push 2 none ({ frames := 0, cells := 0, slots := 0, locals := 0 } : Room) [.ref (m 0)] (mB G m s sp hi sn tx g3 g5 g7 g8 g9 g10 g11 g12 g13) none (mB G m s sp (phH hi g3 sp) sn tx (phZ g3) g5 g7 g8 g9 g10 g11 g12 g13) := by
  refine Ct.of (by decide) (Nat.le_of_ble_eq_true rfl) (fun X hX hR => ?_)
  refine V.toLv (lv' := [(0, .ref (m 0))]) rfl ?_
  refine V_aload_n hX dX5_push_0 0 rfl ?_
  refine V_get (v := .int (jI g3)) hX cbX5 3 0 (by decide) wf_X5_33 rfl rfl rfl rfl dX5_push_1 ?_
  refine V_iconst hX dX5_push_4 ?_
  refine V_icmp_ne (tgt := 49) hX dX5_push_5 (by decide) (by omega) (by decide) (fun c_1 => ?_) (fun c_1 => ?_)
  · refine V_iconst hX dX5_push_49 ?_
    refine V.wd (w' := mB G m s sp (cpO hi sp (149 * (g3).toNat) 0) sn tx g3 g5 g7 g8 g9 g10 g11 g12 g13) (mB_c rfl rfl cpO_0 rfl rfl rfl rfl rfl rfl rfl rfl rfl rfl rfl) ?_
    refine V_istore_n (i := 1) (lv' := [(1, .int (jI 0)), (0, .ref (m 0))]) hX dX5_push_50 rfl (by decide) rfl ?_
    have L51_q_2 : ∀ k : Nat, k ≤ 149 → ∀ (i : Int), (i = (k : Int)) → V X 0 0 (mB G m s sp (cpO hi sp (149 * (g3).toNat) k) sn tx g3 g5 g7 g8 g9 g10 g11 g12 g13) [(1, .int (jI i)), (0, .ref (m 0))] 51 [] := by
      refine up_ind (fun k => ∀ (i : Int), (i = (k : Int)) → V X 0 0 (mB G m s sp (cpO hi sp (149 * (g3).toNat) k) sn tx g3 g5 g7 g8 g9 g10 g11 g12 g13) [(1, .int (jI i)), (0, .ref (m 0))] 51 []) (149) ?_
      intro k hk ih i hik
      refine V_iload_n hX dX5_push_51 0 rfl ?_
      refine V_sipush hX dX5_push_52 (by decide) ?_
      refine V_icmp_ge (tgt := 85) hX dX5_push_55 (by decide) (by omega) (by decide) (fun c_3 => ?_) (fun c_3 => ?_)
      · have hk149 : k = 149 := by omega
        refine V.wd (w' := mB G m s sp (cpO hi sp (149 * (g3).toNat) 149) sn tx g3 g5 g7 g8 g9 g10 g11 g12 g13) (mB_c rfl rfl (by rw [hk149]) rfl rfl rfl rfl rfl rfl rfl rfl rfl rfl rfl) ?_
        refine V_aload_n hX dX5_push_85 1 rfl ?_
        refine V_dup hX dX5_push_86 rfl ?_
        refine V_get (v := .int (jI g3)) hX cbX5 3 0 (by decide) wf_X5_33 rfl rfl rfl rfl dX5_push_87 ?_
        refine V_iconst hX dX5_push_90 ?_
        refine V_iadd hX dX5_push_91 rfl ?_
        refine V_put (w' := mB G m s sp (cpO hi sp (149 * (g3).toNat) 149) sn tx (g3 + 1) g5 g7 g8 g9 g10 g11 g12 g13) hX cbX5 3 0 (by decide) wf_X5_33 rfl rfl rfl rfl rfl rfl (Nat.le_of_ble_eq_true rfl) dX5_push_92 rfl ?_
        exact V_vret hX hR dX5_push_95 ⟨rfl, (mB_c rfl rfl (by unfold phH; split <;> first | rfl | omega | (rw [show (g3 - 1).toNat = 3 by omega])) rfl rfl (by unfold phZ; split <;> omega) rfl rfl rfl rfl rfl rfl rfl rfl)⟩
      · refine V_aload_n hX dX5_push_58 1 rfl ?_
        refine V_get (v := .ref (m 3)) hX cbX5 2 0 (by decide) wf_X5_16 rfl rfl rfl rfl dX5_push_59 ?_
        refine V_aload_n hX dX5_push_62 1 rfl ?_
        refine V_get (v := .int (jI g3)) hX cbX5 3 0 (by decide) wf_X5_33 rfl rfl rfl rfl dX5_push_63 ?_
        refine V_sipush hX dX5_push_66 (by decide) ?_
        refine V_imul hX dX5_push_69 rfl ?_
        refine V_iload_n hX dX5_push_70 0 rfl ?_
        refine V_iadd hX dX5_push_71 rfl ?_
        refine V_aload_n hX dX5_push_72 1 rfl ?_
        refine V_get (v := .ref (m 2)) hX cbX5 1 0 (by decide) wf_X5_13 rfl rfl rfl rfl dX5_push_73 ?_
        refine V_iload_n hX dX5_push_76 0 rfl ?_
        refine V_iald (i0 := k) (r := (jI (sp k))) hX 2 rfl (by omega) (by omega) (by omega) (by omega) rfl dX5_push_77 ?_
        refine V_iast (i0 := 149 * (g3).toNat + k) (w' := mB G m s sp (up (cpO hi sp (149 * (g3).toNat) k) (149 * (g3).toNat + k) (sp k)) sn tx g3 g5 g7 g8 g9 g10 g11 g12 g13) hX 3 rfl (by omega) (by omega) (by omega) (by omega) dX5_push_78 (mB_w3 G _ _ _ _ _ _ _ _ _ _ _ _ _ _ _ _ _) ?_
        refine V_iinc (b := i + 1) (lv' := [(1, .int (jI (i + 1))), (0, .ref (m 0))]) hX dX5_push_79 0 rfl rfl (by decide) rfl ?_
        refine V.wd (w' := mB G m s sp (cpO hi sp (149 * (g3).toNat) (k + 1)) sn tx g3 g5 g7 g8 g9 g10 g11 g12 g13) (mB_c rfl rfl cpO_s rfl rfl rfl rfl rfl rfl rfl rfl rfl rfl rfl) ?_
        refine V_goto (tgt := 51) hX dX5_push_82 (by decide) ?_
        refine V.sub [0, 1] rfl ?_
        exact ih (by omega) _ (by omega)
    refine V.sub [0, 1] rfl ?_
    exact L51_q_2 0 (Nat.zero_le _) 0 rfl
  · refine V_iconst hX dX5_push_8 ?_
    refine V.wd (w' := mB G m s sp (shH hi 0) sn tx g3 g5 g7 g8 g9 g10 g11 g12 g13) (mB_c rfl rfl shH_0 rfl rfl rfl rfl rfl rfl rfl rfl rfl rfl rfl) ?_
    refine V_istore_n (i := 1) (lv' := [(1, .int (jI 0)), (0, .ref (m 0))]) hX dX5_push_9 rfl (by decide) rfl ?_
    have L10_q_4 : ∀ k : Nat, k ≤ 447 → ∀ (i : Int), (i = (k : Int)) → V X 0 0 (mB G m s sp (shH hi k) sn tx g3 g5 g7 g8 g9 g10 g11 g12 g13) [(1, .int (jI i)), (0, .ref (m 0))] 10 [] := by
      refine up_ind (fun k => ∀ (i : Int), (i = (k : Int)) → V X 0 0 (mB G m s sp (shH hi k) sn tx g3 g5 g7 g8 g9 g10 g11 g12 g13) [(1, .int (jI i)), (0, .ref (m 0))] 10 []) (447) ?_
      intro k hk ih i hik
      refine V_iload_n hX dX5_push_10 0 rfl ?_
      refine V_sipush hX dX5_push_11 (by decide) ?_
      refine V_icmp_ge (tgt := 39) hX dX5_push_14 (by decide) (by omega) (by decide) (fun c_5 => ?_) (fun c_5 => ?_)
      · have hk447 : k = 447 := by omega
        refine V.wd (w' := mB G m s sp (shH hi 447) sn tx g3 g5 g7 g8 g9 g10 g11 g12 g13) (mB_c rfl rfl (by rw [hk447]) rfl rfl rfl rfl rfl rfl rfl rfl rfl rfl rfl) ?_
        refine V_aload_n hX dX5_push_39 1 rfl ?_
        refine V_dup hX dX5_push_40 rfl ?_
        refine V_get (v := .int (jI g3)) hX cbX5 3 0 (by decide) wf_X5_33 rfl rfl rfl rfl dX5_push_41 ?_
        refine V_iconst hX dX5_push_44 ?_
        refine V_isub hX dX5_push_45 rfl ?_
        refine V_put (w' := mB G m s sp (shH hi 447) sn tx (g3 - 1) g5 g7 g8 g9 g10 g11 g12 g13) hX cbX5 3 0 (by decide) wf_X5_33 rfl rfl rfl rfl rfl rfl (Nat.le_of_ble_eq_true rfl) dX5_push_46 rfl ?_
        refine V_iconst hX dX5_push_49 ?_
        refine V.wd (w' := mB G m s sp (cpO (shH hi 447) sp (149 * (g3 - 1).toNat) 0) sn tx (g3 - 1) g5 g7 g8 g9 g10 g11 g12 g13) (mB_c rfl rfl cpO_0 rfl rfl rfl rfl rfl rfl rfl rfl rfl rfl rfl) ?_
        refine V_istore_n (i := 1) (lv' := [(1, .int (jI 0)), (0, .ref (m 0))]) hX dX5_push_50 rfl (by decide) rfl ?_
        have L51_q_6 : ∀ k : Nat, k ≤ 149 → ∀ (i : Int), (i = (k : Int)) → V X 0 0 (mB G m s sp (cpO (shH hi 447) sp (149 * (g3 - 1).toNat) k) sn tx (g3 - 1) g5 g7 g8 g9 g10 g11 g12 g13) [(1, .int (jI i)), (0, .ref (m 0))] 51 [] := by
          refine up_ind (fun k => ∀ (i : Int), (i = (k : Int)) → V X 0 0 (mB G m s sp (cpO (shH hi 447) sp (149 * (g3 - 1).toNat) k) sn tx (g3 - 1) g5 g7 g8 g9 g10 g11 g12 g13) [(1, .int (jI i)), (0, .ref (m 0))] 51 []) (149) ?_
          intro k hk ih i hik
          refine V_iload_n hX dX5_push_51 0 rfl ?_
          refine V_sipush hX dX5_push_52 (by decide) ?_
          refine V_icmp_ge (tgt := 85) hX dX5_push_55 (by decide) (by omega) (by decide) (fun c_7 => ?_) (fun c_7 => ?_)
          · have hk149 : k = 149 := by omega
            refine V.wd (w' := mB G m s sp (cpO (shH hi 447) sp (149 * (g3 - 1).toNat) 149) sn tx (g3 - 1) g5 g7 g8 g9 g10 g11 g12 g13) (mB_c rfl rfl (by rw [hk149]) rfl rfl rfl rfl rfl rfl rfl rfl rfl rfl rfl) ?_
            refine V_aload_n hX dX5_push_85 1 rfl ?_
            refine V_dup hX dX5_push_86 rfl ?_
            refine V_get (v := .int (jI (g3 - 1))) hX cbX5 3 0 (by decide) wf_X5_33 rfl rfl rfl rfl dX5_push_87 ?_
            refine V_iconst hX dX5_push_90 ?_
            refine V_iadd hX dX5_push_91 rfl ?_
            refine V_put (w' := mB G m s sp (cpO (shH hi 447) sp (149 * (g3 - 1).toNat) 149) sn tx ((g3 - 1) + 1) g5 g7 g8 g9 g10 g11 g12 g13) hX cbX5 3 0 (by decide) wf_X5_33 rfl rfl rfl rfl rfl rfl (Nat.le_of_ble_eq_true rfl) dX5_push_92 rfl ?_
            exact V_vret hX hR dX5_push_95 ⟨rfl, (mB_c rfl rfl (by unfold phH; split <;> first | rfl | omega | (rw [show (g3 - 1).toNat = 3 by omega])) rfl rfl (by unfold phZ; split <;> omega) rfl rfl rfl rfl rfl rfl rfl rfl)⟩
          · refine V_aload_n hX dX5_push_58 1 rfl ?_
            refine V_get (v := .ref (m 3)) hX cbX5 2 0 (by decide) wf_X5_16 rfl rfl rfl rfl dX5_push_59 ?_
            refine V_aload_n hX dX5_push_62 1 rfl ?_
            refine V_get (v := .int (jI (g3 - 1))) hX cbX5 3 0 (by decide) wf_X5_33 rfl rfl rfl rfl dX5_push_63 ?_
            refine V_sipush hX dX5_push_66 (by decide) ?_
            refine V_imul hX dX5_push_69 rfl ?_
            refine V_iload_n hX dX5_push_70 0 rfl ?_
            refine V_iadd hX dX5_push_71 rfl ?_
            refine V_aload_n hX dX5_push_72 1 rfl ?_
            refine V_get (v := .ref (m 2)) hX cbX5 1 0 (by decide) wf_X5_13 rfl rfl rfl rfl dX5_push_73 ?_
            refine V_iload_n hX dX5_push_76 0 rfl ?_
            refine V_iald (i0 := k) (r := (jI (sp k))) hX 2 rfl (by omega) (by omega) (by omega) (by omega) rfl dX5_push_77 ?_
            refine V_iast (i0 := 149 * (g3 - 1).toNat + k) (w' := mB G m s sp (up (cpO (shH hi 447) sp (149 * (g3 - 1).toNat) k) (149 * (g3 - 1).toNat + k) (sp k)) sn tx (g3 - 1) g5 g7 g8 g9 g10 g11 g12 g13) hX 3 rfl (by omega) (by omega) (by omega) (by omega) dX5_push_78 (mB_w3 G _ _ _ _ _ _ _ _ _ _ _ _ _ _ _ _ _) ?_
            refine V_iinc (b := i + 1) (lv' := [(1, .int (jI (i + 1))), (0, .ref (m 0))]) hX dX5_push_79 0 rfl rfl (by decide) rfl ?_
            refine V.wd (w' := mB G m s sp (cpO (shH hi 447) sp (149 * (g3 - 1).toNat) (k + 1)) sn tx (g3 - 1) g5 g7 g8 g9 g10 g11 g12 g13) (mB_c rfl rfl cpO_s rfl rfl rfl rfl rfl rfl rfl rfl rfl rfl rfl) ?_
            refine V_goto (tgt := 51) hX dX5_push_82 (by decide) ?_
            refine V.sub [0, 1] rfl ?_
            exact ih (by omega) _ (by omega)
        refine V.sub [0, 1] rfl ?_
        exact L51_q_6 0 (Nat.zero_le _) 0 rfl
      · refine V_aload_n hX dX5_push_17 1 rfl ?_
        refine V_get (v := .ref (m 3)) hX cbX5 2 0 (by decide) wf_X5_16 rfl rfl rfl rfl dX5_push_18 ?_
        refine V_iload_n hX dX5_push_21 0 rfl ?_
        refine V_aload_n hX dX5_push_22 1 rfl ?_
        refine V_get (v := .ref (m 3)) hX cbX5 2 0 (by decide) wf_X5_16 rfl rfl rfl rfl dX5_push_23 ?_
        refine V_iload_n hX dX5_push_26 0 rfl ?_
        refine V_sipush hX dX5_push_27 (by decide) ?_
        refine V_iadd hX dX5_push_30 rfl ?_
        refine V_iald (i0 := k + 149) (r := (jI ((shH hi k) (k + 149)))) hX 3 rfl (by omega) (by omega) (by omega) (by omega) rfl dX5_push_31 ?_
        refine V_iast (i0 := k) (w' := mB G m s sp (up (shH hi k) k ((shH hi k) (k + 149))) sn tx g3 g5 g7 g8 g9 g10 g11 g12 g13) hX 3 rfl (by omega) (by omega) (by omega) (by omega) dX5_push_32 (mB_w3 G _ _ _ _ _ _ _ _ _ _ _ _ _ _ _ _ _) ?_
        refine V_iinc (b := i + 1) (lv' := [(1, .int (jI (i + 1))), (0, .ref (m 0))]) hX dX5_push_33 0 rfl rfl (by decide) rfl ?_
        refine V.wd (w' := mB G m s sp (shH hi (k + 1)) sn tx g3 g5 g7 g8 g9 g10 g11 g12 g13) (mB_c rfl rfl shH_s rfl rfl rfl rfl rfl rfl rfl rfl rfl rfl rfl) ?_
        refine V_goto (tgt := 10) hX dX5_push_36 (by decide) ?_
        refine V.sub [0, 1] rfl ?_
        exact ih (by omega) _ (by omega)
    refine V.sub [0, 1] rfl ?_
    exact L10_q_4 0 (Nat.zero_le _) 0 rfl

set_option maxHeartbeats 4000000 in
set_option maxRecDepth 100000 in
theorem c_X5_recorded (l : Launch) (G : vC) (m : Nat → Nat) (s : Nat → Int) (sp : Nat → Int) (hi : Nat → Int) (sn : Nat → Int) (tx : Nat → Int) (g3 : Int) (g5 : Int) (g7 : Int) (g8 : Int) (g9 : Int) (g10 : Int) (g11 : Int) (g12 : Int) (g13 : Int) (a : Int) (hg3 : 0 ≤ g3 ∧ g3 ≤ 4) (ha : -5 ≤ a ∧ a < 2147483648) : Fn l G yX5_recorded cX5_recorded 2 (some .int) ({ frames := 2, cells := 0, slots := 0, locals := 42 } : Room) [.ref (m 0), .int (jI a)] (mB G m s sp hi sn tx g3 g5 g7 g8 g9 g10 g11 g12 g13) (some (.int (jI a))) (mB G m s sp (mcH hi g3 sp a) sn tx (mcZ g3 a) g5 g7 g8 g9 g10 g11 g12 g13) := by
  refine Ct.of (by decide) (Nat.le_of_ble_eq_true rfl) (fun X hX hR => ?_)
  refine V.toLv (lv' := [(0, .ref (m 0)), (1, .int (jI a))]) rfl ?_
  refine V_iload_n hX dX5_recorded_0 1 rfl ?_
  refine V_cS (st := []) (v := .int (jI (bI (-5 ≤ a ∧ a ≤ -1)))) (w' := mB G m s sp hi sn tx g3 g5 g7 g8 g9 g10 g11 g12 g13) hX wc_X5_37 (c_X5_isNothing l G a (by omega)) (by decide) (by decide) rfl rfl (Nat.le_of_ble_eq_true rfl) dX5_recorded_1 [] (mB G m s sp hi sn tx g3 g5 g7 g8 g9 g10 g11 g12 g13) (by simp only [List.append_assoc, List.nil_append, List.append_nil]) (by simp only [List.append_assoc, List.nil_append, List.append_nil]) rfl rfl ?_
  refine V_ifnz (tgt := 11) hX dX5_recorded_4 (by decide) (fun c_1 => ?_) (fun c_1 => ?_)
  · refine V_iload_n hX dX5_recorded_11 1 rfl ?_
    exact V_iret hX hR dX5_recorded_12 ⟨rfl, (mB_c rfl rfl (by unfold mcH; split <;> first | rfl | omega) rfl rfl (by unfold mcZ; split <;> first | rfl | omega) rfl rfl rfl rfl rfl rfl rfl rfl)⟩
  · refine V_aload_n hX dX5_recorded_7 0 rfl ?_
    refine V_dV (st := []) (w' := mB G m s sp (phH hi g3 sp) sn tx (phZ g3) g5 g7 g8 g9 g10 g11 g12 g13) hX wc_X5_41 (c_X5_push l G m s sp hi sn tx g3 g5 g7 g8 g9 g10 g11 g12 g13 (by omega)) (by decide) (by decide) rfl rfl (Nat.le_of_ble_eq_true rfl) dX5_recorded_8 [] ([]) (by simp only [List.append_assoc, List.nil_append, List.append_nil]) 0 rfl rfl (by simp only [List.append_assoc, List.nil_append, List.append_nil]) rfl rfl ?_
    refine V_iload_n hX dX5_recorded_11 1 rfl ?_
    exact V_iret hX hR dX5_recorded_12 ⟨rfl, (mB_c rfl rfl (by unfold mcH; split <;> first | rfl | omega) rfl rfl (by unfold mcZ; split <;> first | rfl | omega) rfl rfl rfl rfl rfl rfl rfl rfl)⟩

set_option maxHeartbeats 4000000 in
set_option maxRecDepth 100000 in
theorem c_X5_undo (l : Launch) (G : vC) (m : Nat → Nat) (s : Nat → Int) (sp : Nat → Int) (hi : Nat → Int) (sn : Nat → Int) (tx : Nat → Int) (g3 : Int) (g5 : Int) (g7 : Int) (g8 : Int) (g9 : Int) (g10 : Int) (g11 : Int) (g12 : Int) (g13 : Int) (hg3 : 0 ≤ g3 ∧ g3 ≤ 4) : Fn l G yX5_undo cX5_undo 2 (some .int) ({ frames := 0, cells := 0, slots := 0, locals := 0 } : Room) [.ref (m 0)] (mB G m s sp hi sn tx g3 g5 g7 g8 g9 g10 g11 g12 g13) (some (.int (jI (if g3 = 0 then -5 else g3 - 1)))) (mB G m (if g3 = 0 then s else roH hi (g3 - 1)) sp hi sn tx (if g3 = 0 then g3 else g3 - 1) g5 g7 g8 g9 g10 g11 g12 g13) := by
  refine Ct.of (by decide) (Nat.le_of_ble_eq_true rfl) (fun X hX hR => ?_)
  refine V.toLv (lv' := [(0, .ref (m 0))]) rfl ?_
  refine V_aload_n hX dX5_undo_0 0 rfl ?_
  refine V_get (v := .int (jI g3)) hX cbX5 3 0 (by decide) wf_X5_33 rfl rfl rfl rfl dX5_undo_1 ?_
  refine V_if_ne (tgt := 10) hX dX5_undo_4 (by decide) (by omega) (fun c_1 => ?_) (fun c_1 => ?_)
  · refine V_aload_n hX dX5_undo_10 0 rfl ?_
    refine V_dup hX dX5_undo_11 rfl ?_
    refine V_get (v := .int (jI g3)) hX cbX5 3 0 (by decide) wf_X5_33 rfl rfl rfl rfl dX5_undo_12 ?_
    refine V_iconst hX dX5_undo_15 ?_
    refine V_isub hX dX5_undo_16 rfl ?_
    refine V_put (w' := mB G m s sp hi sn tx (g3 - 1) g5 g7 g8 g9 g10 g11 g12 g13) hX cbX5 3 0 (by decide) wf_X5_33 rfl rfl rfl rfl rfl rfl (Nat.le_of_ble_eq_true rfl) dX5_undo_17 rfl ?_
    refine V_iconst hX dX5_undo_20 ?_
    refine V.wd (w' := mB G m (cpN s (roH hi (g3 - 1)) 0) sp hi sn tx (g3 - 1) g5 g7 g8 g9 g10 g11 g12 g13) (mB_c cpN_0 rfl rfl rfl rfl rfl rfl rfl rfl rfl rfl rfl rfl rfl) ?_
    refine V_istore_n (i := 1) (lv' := [(1, .int (jI 0)), (0, .ref (m 0))]) hX dX5_undo_21 rfl (by decide) rfl ?_
    have L22_q_2 : ∀ k : Nat, k ≤ 149 → ∀ (i : Int), (i = (k : Int)) → V X 0 0 (mB G m (cpN s (roH hi (g3 - 1)) k) sp hi sn tx (g3 - 1) g5 g7 g8 g9 g10 g11 g12 g13) [(1, .int (jI i)), (0, .ref (m 0))] 22 [] := by
      refine up_ind (fun k => ∀ (i : Int), (i = (k : Int)) → V X 0 0 (mB G m (cpN s (roH hi (g3 - 1)) k) sp hi sn tx (g3 - 1) g5 g7 g8 g9 g10 g11 g12 g13) [(1, .int (jI i)), (0, .ref (m 0))] 22 []) (149) ?_
      intro k hk ih i hik
      refine V_iload_n hX dX5_undo_22 0 rfl ?_
      refine V_sipush hX dX5_undo_23 (by decide) ?_
      refine V_icmp_ge (tgt := 56) hX dX5_undo_26 (by decide) (by omega) (by decide) (fun c_3 => ?_) (fun c_3 => ?_)
      · refine V.fn hX 1 (g := mI (roH hi (g3 - 1))) (w' := mB G m (roH hi (g3 - 1)) sp hi sn tx (g3 - 1) g5 g7 g8 g9 g10 g11 g12 g13) rfl (fun j hj => congrArg jI (if_pos (by omega))) rfl ?_
        refine V_aload_n hX dX5_undo_56 1 rfl ?_
        refine V_get (v := .int (jI (g3 - 1))) hX cbX5 3 0 (by decide) wf_X5_33 rfl rfl rfl rfl dX5_undo_57 ?_
        exact V_iret hX hR dX5_undo_60 ⟨(congrArg (fun z => some (Value.int (jI z))) (by first | rfl | ((repeat' split) <;> first | rfl | omega | exact (up_same (by omega)).symm | exact up_same (by omega)))), (mB_c (by first | rfl | ((repeat' split) <;> first | rfl | omega | exact (up_same (by omega)).symm | exact up_same (by omega))) rfl rfl rfl rfl (by first | rfl | ((repeat' split) <;> first | rfl | omega | exact (up_same (by omega)).symm | exact up_same (by omega))) rfl rfl rfl rfl rfl rfl rfl rfl)⟩
      · refine V_aload_n hX dX5_undo_29 1 rfl ?_
        refine V_get (v := .ref (m 1)) hX cbX5 0 0 (by decide) wf_X5_7 rfl rfl rfl rfl dX5_undo_30 ?_
        refine V_iload_n hX dX5_undo_33 0 rfl ?_
        refine V_aload_n hX dX5_undo_34 1 rfl ?_
        refine V_get (v := .ref (m 3)) hX cbX5 2 0 (by decide) wf_X5_16 rfl rfl rfl rfl dX5_undo_35 ?_
        refine V_aload_n hX dX5_undo_38 1 rfl ?_
        refine V_get (v := .int (jI (g3 - 1))) hX cbX5 3 0 (by decide) wf_X5_33 rfl rfl rfl rfl dX5_undo_39 ?_
        refine V_sipush hX dX5_undo_42 (by decide) ?_
        refine V_imul hX dX5_undo_45 rfl ?_
        refine V_iload_n hX dX5_undo_46 0 rfl ?_
        refine V_iadd hX dX5_undo_47 rfl ?_
        refine V_iald (i0 := 149 * (g3 - 1).toNat + k) (r := (jI (hi (149 * (g3 - 1).toNat + k)))) hX 3 rfl (by omega) (by omega) (by omega) (by omega) rfl dX5_undo_48 ?_
        refine V_iast (i0 := k) (w' := mB G m (up (cpN s (roH hi (g3 - 1)) k) k (hi (149 * (g3 - 1).toNat + k))) sp hi sn tx (g3 - 1) g5 g7 g8 g9 g10 g11 g12 g13) hX 1 rfl (by omega) (by omega) (by omega) (by omega) dX5_undo_49 (mB_w1 G _ _ _ _ _ _ _ _ _ _ _ _ _ _ _ _ _) ?_
        refine V_iinc (b := i + 1) (lv' := [(1, .int (jI (i + 1))), (0, .ref (m 0))]) hX dX5_undo_50 0 rfl rfl (by decide) rfl ?_
        refine V.wd (w' := mB G m (cpN s (roH hi (g3 - 1)) (k + 1)) sp hi sn tx (g3 - 1) g5 g7 g8 g9 g10 g11 g12 g13) (mB_c cpN_s rfl rfl rfl rfl rfl rfl rfl rfl rfl rfl rfl rfl rfl) ?_
        refine V_goto (tgt := 22) hX dX5_undo_53 (by decide) ?_
        refine V.sub [0, 1] rfl ?_
        exact ih (by omega) _ (by omega)
    refine V.sub [0, 1] rfl ?_
    exact L22_q_2 0 (Nat.zero_le _) 0 rfl
  · refine V_bipush hX dX5_undo_7 (by decide) ?_
    exact V_iret hX hR dX5_undo_9 ⟨(congrArg (fun z => some (Value.int (jI z))) (by first | rfl | ((repeat' split) <;> first | rfl | omega | exact (up_same (by omega)).symm | exact up_same (by omega)))), (mB_c (by first | rfl | ((repeat' split) <;> first | rfl | omega | exact (up_same (by omega)).symm | exact up_same (by omega))) rfl rfl rfl rfl (by first | rfl | ((repeat' split) <;> first | rfl | omega | exact (up_same (by omega)).symm | exact up_same (by omega))) rfl rfl rfl rfl rfl rfl rfl rfl)⟩

set_option maxHeartbeats 4000000 in
set_option maxRecDepth 100000 in
theorem c_X5_keep (l : Launch) (G : vC) (m : Nat → Nat) (s : Nat → Int) (sp : Nat → Int) (hi : Nat → Int) (sn : Nat → Int) (tx : Nat → Int) (g3 : Int) (g5 : Int) (g7 : Int) (g8 : Int) (g9 : Int) (g10 : Int) (g11 : Int) (g12 : Int) (g13 : Int) (t : Int) (hI : Inv t s) : Fn l G yX5_keep cX5_keep 2 (some .int) ({ frames := 0, cells := 0, slots := 0, locals := 0 } : Room) [.ref (m 0)] (mB G m s sp hi sn tx g3 g5 g7 g8 g9 g10 g11 g12 g13) (some (.int (jI (s 2)))) (mB G m s sp hi s tx g3 1 g7 g8 g9 g10 g11 g12 g13) := by
  refine Ct.of (by decide) (Nat.le_of_ble_eq_true rfl) (fun X hX hR => ?_)
  refine V.toLv (lv' := [(0, .ref (m 0))]) rfl ?_
  have hb := hI.base
  refine V_iconst hX dX5_keep_0 ?_
  refine V.wd (w' := mB G m s sp hi (cpN sn s 0) tx g3 g5 g7 g8 g9 g10 g11 g12 g13) (mB_c rfl rfl rfl cpN_0 rfl rfl rfl rfl rfl rfl rfl rfl rfl rfl) ?_
  refine V_istore_n (i := 1) (lv' := [(1, .int (jI 0)), (0, .ref (m 0))]) hX dX5_keep_1 rfl (by decide) rfl ?_
  have L2_q_1 : ∀ k : Nat, k ≤ 149 → ∀ (i : Int), (i = (k : Int)) → V X 0 0 (mB G m s sp hi (cpN sn s k) tx g3 g5 g7 g8 g9 g10 g11 g12 g13) [(1, .int (jI i)), (0, .ref (m 0))] 2 [] := by
    refine up_ind (fun k => ∀ (i : Int), (i = (k : Int)) → V X 0 0 (mB G m s sp hi (cpN sn s k) tx g3 g5 g7 g8 g9 g10 g11 g12 g13) [(1, .int (jI i)), (0, .ref (m 0))] 2 []) (149) ?_
    intro k hk ih i hik
    refine V_iload_n hX dX5_keep_2 0 rfl ?_
    refine V_sipush hX dX5_keep_3 (by decide) ?_
    refine V_icmp_ge (tgt := 27) hX dX5_keep_6 (by decide) (by omega) (by decide) (fun c_2 => ?_) (fun c_2 => ?_)
    · refine V.fn hX 4 (g := mI (s)) (w' := mB G m s sp hi s tx g3 g5 g7 g8 g9 g10 g11 g12 g13) rfl (fun j hj => congrArg jI (if_pos (by omega))) rfl ?_
      refine V_aload_n hX dX5_keep_27 1 rfl ?_
      refine V_iconst hX dX5_keep_28 ?_
      refine V_put (w' := mB G m s sp hi s tx g3 1 g7 g8 g9 g10 g11 g12 g13) hX cbX5 5 0 (by decide) wf_X5_44 rfl rfl rfl rfl rfl rfl (Nat.le_of_ble_eq_true rfl) dX5_keep_29 rfl ?_
      refine V_aload_n hX dX5_keep_32 1 rfl ?_
      refine V_get (v := .ref (m 1)) hX cbX5 0 0 (by decide) wf_X5_7 rfl rfl rfl rfl dX5_keep_33 ?_
      refine V_iconst hX dX5_keep_36 ?_
      refine V_iald (i0 := 2) (r := (jI (s 2))) hX 1 rfl (by decide) (by decide) (by decide) rfl rfl dX5_keep_37 ?_
      exact V_iret hX hR dX5_keep_38 ⟨rfl, rfl⟩
    · refine V_aload_n hX dX5_keep_9 1 rfl ?_
      refine V_get (v := .ref (m 4)) hX cbX5 4 0 (by decide) wf_X5_19 rfl rfl rfl rfl dX5_keep_10 ?_
      refine V_iload_n hX dX5_keep_13 0 rfl ?_
      refine V_aload_n hX dX5_keep_14 1 rfl ?_
      refine V_get (v := .ref (m 1)) hX cbX5 0 0 (by decide) wf_X5_7 rfl rfl rfl rfl dX5_keep_15 ?_
      refine V_iload_n hX dX5_keep_18 0 rfl ?_
      refine V_iald (i0 := k) (r := (jI (s k))) hX 1 rfl (by omega) (by omega) (by omega) (by omega) rfl dX5_keep_19 ?_
      refine V_iast (i0 := k) (w' := mB G m s sp hi (up (cpN sn s k) k (s k)) tx g3 g5 g7 g8 g9 g10 g11 g12 g13) hX 4 rfl (by omega) (by omega) (by omega) (by omega) dX5_keep_20 (mB_w4 G _ _ _ _ _ _ _ _ _ _ _ _ _ _ _ _ _) ?_
      refine V_iinc (b := i + 1) (lv' := [(1, .int (jI (i + 1))), (0, .ref (m 0))]) hX dX5_keep_21 0 rfl rfl (by decide) rfl ?_
      refine V.wd (w' := mB G m s sp hi (cpN sn s (k + 1)) tx g3 g5 g7 g8 g9 g10 g11 g12 g13) (mB_c rfl rfl rfl cpN_s rfl rfl rfl rfl rfl rfl rfl rfl rfl rfl) ?_
      refine V_goto (tgt := 2) hX dX5_keep_24 (by decide) ?_
      refine V.sub [0, 1] rfl ?_
      exact ih (by omega) _ (by omega)
  refine V.sub [0, 1] rfl ?_
  exact L2_q_1 0 (Nat.zero_le _) 0 rfl

set_option maxHeartbeats 4000000 in
set_option maxRecDepth 100000 in
theorem c_X5_restore (l : Launch) (G : vC) (m : Nat → Nat) (s : Nat → Int) (sp : Nat → Int) (hi : Nat → Int) (sn : Nat → Int) (tx : Nat → Int) (g3 : Int) (g5 : Int) (g7 : Int) (g8 : Int) (g9 : Int) (g10 : Int) (g11 : Int) (g12 : Int) (g13 : Int) (hg3 : 0 ≤ g3 ∧ g3 ≤ 4) (hkp : g5 = 0 ∨ g5 = 1) : Fn l G yX5_restore cX5_restore 2 (some .int) ({ frames := 1, cells := 0, slots := 0, locals := 21 } : Room) [.ref (m 0)] (mB G m s sp hi sn tx g3 g5 g7 g8 g9 g10 g11 g12 g13) (some (.int (jI (if g5 = 0 then -5 else sn 2)))) (mB G m (if g5 = 0 then s else sn) (if g5 = 0 then sp else s) (if g5 = 0 then hi else phH hi g3 s) sn tx (if g5 = 0 then g3 else phZ g3) g5 g7 g8 g9 g10 g11 g12 g13) := by
  refine Ct.of (by decide) (Nat.le_of_ble_eq_true rfl) (fun X hX hR => ?_)
  refine V.toLv (lv' := [(0, .ref (m 0))]) rfl ?_
  refine V_aload_n hX dX5_restore_0 0 rfl ?_
  refine V_get (v := .int (jI g5)) hX cbX5 5 0 (by decide) wf_X5_44 rfl rfl rfl rfl dX5_restore_1 ?_
  refine V_if_ne (tgt := 10) hX dX5_restore_4 (by decide) (by omega) (fun c_1 => ?_) (fun c_1 => ?_)
  · refine V_aload_n hX dX5_restore_10 0 rfl ?_
    refine V_dV (st := []) (w' := mB G m s s hi sn tx g3 g5 g7 g8 g9 g10 g11 g12 g13) hX wc_X5_48 (c_X5_putAside l G m s sp hi sn tx g3 g5 g7 g8 g9 g10 g11 g12 g13 ) (by decide) (by decide) rfl rfl (Nat.le_of_ble_eq_true rfl) dX5_restore_11 [] ([]) (by simp only [List.append_assoc, List.nil_append, List.append_nil]) 0 rfl rfl (by simp only [List.append_assoc, List.nil_append, List.append_nil]) rfl rfl ?_
    refine V_aload_n hX dX5_restore_14 0 rfl ?_
    refine V_dV (st := []) (w' := mB G m s s (phH hi g3 s) sn tx (phZ g3) g5 g7 g8 g9 g10 g11 g12 g13) hX wc_X5_41 (c_X5_push l G m s s hi sn tx g3 g5 g7 g8 g9 g10 g11 g12 g13 (by omega)) (by decide) (by decide) rfl rfl (Nat.le_of_ble_eq_true rfl) dX5_restore_15 [] ([]) (by simp only [List.append_assoc, List.nil_append, List.append_nil]) 0 rfl rfl (by simp only [List.append_assoc, List.nil_append, List.append_nil]) rfl rfl ?_
    refine V_iconst hX dX5_restore_18 ?_
    refine V.wd (w' := mB G m (cpN s sn 0) s (phH hi g3 s) sn tx (phZ g3) g5 g7 g8 g9 g10 g11 g12 g13) (mB_c cpN_0 rfl rfl rfl rfl rfl rfl rfl rfl rfl rfl rfl rfl rfl) ?_
    refine V_istore_n (i := 1) (lv' := [(1, .int (jI 0)), (0, .ref (m 0))]) hX dX5_restore_19 rfl (by decide) rfl ?_
    have L20_q_2 : ∀ k : Nat, k ≤ 149 → ∀ (i : Int), (i = (k : Int)) → V X 0 0 (mB G m (cpN s sn k) s (phH hi g3 s) sn tx (phZ g3) g5 g7 g8 g9 g10 g11 g12 g13) [(1, .int (jI i)), (0, .ref (m 0))] 20 [] := by
      refine up_ind (fun k => ∀ (i : Int), (i = (k : Int)) → V X 0 0 (mB G m (cpN s sn k) s (phH hi g3 s) sn tx (phZ g3) g5 g7 g8 g9 g10 g11 g12 g13) [(1, .int (jI i)), (0, .ref (m 0))] 20 []) (149) ?_
      intro k hk ih i hik
      refine V_iload_n hX dX5_restore_20 0 rfl ?_
      refine V_sipush hX dX5_restore_21 (by decide) ?_
      refine V_icmp_ge (tgt := 45) hX dX5_restore_24 (by decide) (by omega) (by decide) (fun c_3 => ?_) (fun c_3 => ?_)
      · refine V.fn hX 1 (g := mI (sn)) (w' := mB G m sn s (phH hi g3 s) sn tx (phZ g3) g5 g7 g8 g9 g10 g11 g12 g13) rfl (fun j hj => congrArg jI (if_pos (by omega))) rfl ?_
        refine V_aload_n hX dX5_restore_45 1 rfl ?_
        refine V_get (v := .ref (m 1)) hX cbX5 0 0 (by decide) wf_X5_7 rfl rfl rfl rfl dX5_restore_46 ?_
        refine V_iconst hX dX5_restore_49 ?_
        refine V_iald (i0 := 2) (r := (jI (sn 2))) hX 1 rfl (by decide) (by decide) (by decide) rfl rfl dX5_restore_50 ?_
        exact V_iret hX hR dX5_restore_51 ⟨(congrArg (fun z => some (Value.int (jI z))) (by first | rfl | ((repeat' split) <;> first | rfl | omega | exact (up_same (by omega)).symm | exact up_same (by omega)))), (mB_c (by first | rfl | ((repeat' split) <;> first | rfl | omega | exact (up_same (by omega)).symm | exact up_same (by omega))) (by first | rfl | ((repeat' split) <;> first | rfl | omega | exact (up_same (by omega)).symm | exact up_same (by omega))) (by first | rfl | ((repeat' split) <;> first | rfl | omega | exact (up_same (by omega)).symm | exact up_same (by omega))) rfl rfl (by first | rfl | ((repeat' split) <;> first | rfl | omega | exact (up_same (by omega)).symm | exact up_same (by omega))) rfl rfl rfl rfl rfl rfl rfl rfl)⟩
      · refine V_aload_n hX dX5_restore_27 1 rfl ?_
        refine V_get (v := .ref (m 1)) hX cbX5 0 0 (by decide) wf_X5_7 rfl rfl rfl rfl dX5_restore_28 ?_
        refine V_iload_n hX dX5_restore_31 0 rfl ?_
        refine V_aload_n hX dX5_restore_32 1 rfl ?_
        refine V_get (v := .ref (m 4)) hX cbX5 4 0 (by decide) wf_X5_19 rfl rfl rfl rfl dX5_restore_33 ?_
        refine V_iload_n hX dX5_restore_36 0 rfl ?_
        refine V_iald (i0 := k) (r := (jI (sn k))) hX 4 rfl (by omega) (by omega) (by omega) (by omega) rfl dX5_restore_37 ?_
        refine V_iast (i0 := k) (w' := mB G m (up (cpN s sn k) k (sn k)) s (phH hi g3 s) sn tx (phZ g3) g5 g7 g8 g9 g10 g11 g12 g13) hX 1 rfl (by omega) (by omega) (by omega) (by omega) dX5_restore_38 (mB_w1 G _ _ _ _ _ _ _ _ _ _ _ _ _ _ _ _ _) ?_
        refine V_iinc (b := i + 1) (lv' := [(1, .int (jI (i + 1))), (0, .ref (m 0))]) hX dX5_restore_39 0 rfl rfl (by decide) rfl ?_
        refine V.wd (w' := mB G m (cpN s sn (k + 1)) s (phH hi g3 s) sn tx (phZ g3) g5 g7 g8 g9 g10 g11 g12 g13) (mB_c cpN_s rfl rfl rfl rfl rfl rfl rfl rfl rfl rfl rfl rfl rfl) ?_
        refine V_goto (tgt := 20) hX dX5_restore_42 (by decide) ?_
        refine V.sub [0, 1] rfl ?_
        exact ih (by omega) _ (by omega)
    refine V.sub [0, 1] rfl ?_
    exact L20_q_2 0 (Nat.zero_le _) 0 rfl
  · refine V_bipush hX dX5_restore_7 (by decide) ?_
    exact V_iret hX hR dX5_restore_9 ⟨(congrArg (fun z => some (Value.int (jI z))) (by first | rfl | ((repeat' split) <;> first | rfl | omega | exact (up_same (by omega)).symm | exact up_same (by omega)))), (mB_c (by first | rfl | ((repeat' split) <;> first | rfl | omega | exact (up_same (by omega)).symm | exact up_same (by omega))) (by first | rfl | ((repeat' split) <;> first | rfl | omega | exact (up_same (by omega)).symm | exact up_same (by omega))) (by first | rfl | ((repeat' split) <;> first | rfl | omega | exact (up_same (by omega)).symm | exact up_same (by omega))) rfl rfl (by first | rfl | ((repeat' split) <;> first | rfl | omega | exact (up_same (by omega)).symm | exact up_same (by omega))) rfl rfl rfl rfl rfl rfl rfl rfl)⟩
