/-! the reference: its parts -/
def cpN (a b : Nat → Int) (k : Nat) : Nat → Int := fun j => if j < k then b j else a j
theorem cpN_0 {a b : Nat → Int} : a = cpN a b 0 := by funext j; exact (if_neg (Nat.not_lt_zero j)).symm
theorem cpN_s {a b : Nat → Int} {k : Nat} : up (cpN a b k) k (b k) = cpN a b (k + 1) := by
  funext j; unfold up cpN
  (repeat' split) <;> first | rfl | omega | (subst_vars; rfl) | (exfalso; omega)
def cpO (a b : Nat → Int) (o k : Nat) : Nat → Int := fun j => if o ≤ j ∧ j < o + k then b (j - o) else a j
theorem cpO_0 {a b : Nat → Int} {o : Nat} : a = cpO a b o 0 := by funext j; exact (if_neg (by omega)).symm
theorem cpO_s {a b : Nat → Int} {o k : Nat} : up (cpO a b o k) (o + k) (b k) = cpO a b o (k + 1) := by
  funext j; unfold up cpO
  by_cases h : j = o + k
  · subst h; rw [if_pos rfl, if_pos (by omega), show o + k - o = k by omega]
  · rw [if_neg h]
    by_cases h2 : o ≤ j ∧ j < o + k
    · rw [if_pos h2, if_pos (by omega)]
    · rw [if_neg h2, if_neg (by omega)]
def shH (a : Nat → Int) (k : Nat) : Nat → Int := fun j => if j < k then a (j + 149) else a j
theorem shH_0 {a : Nat → Int} : a = shH a 0 := by funext j; exact (if_neg (Nat.not_lt_zero j)).symm
theorem shH_r {a : Nat → Int} {k : Nat} : shH a k (k + 149) = a (k + 149) := if_neg (by omega)
theorem shH_s {a : Nat → Int} {k : Nat} : up (shH a k) k (shH a k (k + 149)) = shH a (k + 1) := by
  rw [shH_r]
  funext j; unfold up shH
  by_cases h : j = k
  · subst h; rw [if_pos rfl, if_pos (by omega)]
  · rw [if_neg h]
    by_cases h2 : j < k
    · rw [if_pos h2, if_pos (by omega)]
    · rw [if_neg h2, if_neg (by omega)]
def phH (hi : Nat → Int) (n : Int) (sp : Nat → Int) : Nat → Int := if n = 4 then cpO (shH hi 447) sp 447 149 else cpO hi sp (149 * n.toNat) 149
def phZ (n : Int) : Int := if n = 4 then 4 else n + 1
def roH (hi : Nat → Int) (n : Int) : Nat → Int := fun j => hi (149 * n.toNat + j)
def mcH (hi : Nat → Int) (n : Int) (sp : Nat → Int) (r : Int) : Nat → Int := if 0 ≤ r then phH hi n sp else hi
def mcZ (n r : Int) : Int := if 0 ≤ r then phZ n else n
theorem mcZ_b {n r : Int} (h : 0 ≤ n ∧ n ≤ 4) : 0 ≤ mcZ n r ∧ mcZ n r ≤ 4 := by unfold mcZ phZ; (repeat' split) <;> omega

set_option maxHeartbeats 4000000 in
set_option maxRecDepth 100000 in
theorem c_X5_within (l : Launch) (G : vC) (a : Int) (b : Int) (c : Int) (ha : iR a) (hb : iR b) (hc : iR c) : Fn l G yX5_within cX5_within 3 (some .boolean) ({ frames := 0, cells := 0, slots := 0, locals := 0 } : Room) [.int (jI a), .int (jI b), .int (jI c)] ([]) (some (.int (jI (bI (b ≤ a ∧ a ≤ c))))) ([]) := by
  refine Ct.of (by decide) (Nat.le_of_ble_eq_true rfl) (fun X hX hR => ?_)
  refine V.toLv (lv' := [(0, .int (jI a)), (1, .int (jI b)), (2, .int (jI c))]) rfl ?_
  refine V_iload_n hX dX5_within_0 0 rfl ?_
  refine V_iload_n hX dX5_within_1 1 rfl ?_
  refine V_icmp_lt (tgt := 14) hX dX5_within_2 (by decide) (by omega) (by omega) (fun c_1 => ?_) (fun c_1 => ?_)
  · refine V_iconst hX dX5_within_14 ?_
    exact V_zret hX hR rfl dX5_within_15 ⟨(congrArg (fun z => some (Value.int (jI z))) (bI_f (by omega)).symm), rfl⟩
  · refine V_iload_n hX dX5_within_5 0 rfl ?_
    refine V_iload_n hX dX5_within_6 2 rfl ?_
    refine V_icmp_gt (tgt := 14) hX dX5_within_7 (by decide) (by omega) (by omega) (fun c_2 => ?_) (fun c_2 => ?_)
    · refine V_iconst hX dX5_within_14 ?_
      exact V_zret hX hR rfl dX5_within_15 ⟨(congrArg (fun z => some (Value.int (jI z))) (bI_f (by omega)).symm), rfl⟩
    · refine V_iconst hX dX5_within_10 ?_
      refine V_goto (tgt := 15) hX dX5_within_11 (by decide) ?_
      exact V_zret hX hR rfl dX5_within_15 ⟨(congrArg (fun z => some (Value.int (jI z))) (bI_t (by omega)).symm), rfl⟩

set_option maxHeartbeats 4000000 in
set_option maxRecDepth 100000 in
theorem c_X5_isField (l : Launch) (G : vC) (a : Int) (ha : iR a) : Fn l G yX5_isField cX5_isField 1 (some .boolean) ({ frames := 1, cells := 0, slots := 0, locals := 22 } : Room) [.int (jI a)] ([]) (some (.int (jI (bI (0 ≤ a ∧ a ≤ 5))))) ([]) := by
  refine Ct.of (by decide) (Nat.le_of_ble_eq_true rfl) (fun X hX hR => ?_)
  refine V.toLv (lv' := [(0, .int (jI a))]) rfl ?_
  refine V_iload_n hX dX5_isField_0 0 rfl ?_
  refine V_iconst hX dX5_isField_1 ?_
  refine V_iconst hX dX5_isField_2 ?_
  refine V_cS (st := []) (v := .int (jI (bI (0 ≤ a ∧ a ≤ 5)))) (w' := []) hX wc_X5_25 (c_X5_within l G a 0 5 (by omega) (by omega) (by omega)) (by decide) (by decide) rfl rfl (Nat.le_of_ble_eq_true rfl) dX5_isField_3 [] ([]) (by simp only [List.append_assoc, List.nil_append, List.append_nil]) (by simp only [List.append_assoc, List.nil_append, List.append_nil]) rfl rfl ?_
  exact V_zret hX hR (nb_bI _) dX5_isField_6 ⟨rfl, rfl⟩

set_option maxHeartbeats 4000000 in
set_option maxRecDepth 100000 in
theorem c_X5_isWay (l : Launch) (G : vC) (a : Int) (ha : iR a) : Fn l G yX5_isWay cX5_isWay 1 (some .boolean) ({ frames := 1, cells := 0, slots := 0, locals := 22 } : Room) [.int (jI a)] ([]) (some (.int (jI (bI (0 ≤ a ∧ a ≤ 3))))) ([]) := by
  refine Ct.of (by decide) (Nat.le_of_ble_eq_true rfl) (fun X hX hR => ?_)
  refine V.toLv (lv' := [(0, .int (jI a))]) rfl ?_
  refine V_iload_n hX dX5_isWay_0 0 rfl ?_
  refine V_iconst hX dX5_isWay_1 ?_
  refine V_iconst hX dX5_isWay_2 ?_
  refine V_cS (st := []) (v := .int (jI (bI (0 ≤ a ∧ a ≤ 3)))) (w' := []) hX wc_X5_25 (c_X5_within l G a 0 3 (by omega) (by omega) (by omega)) (by decide) (by decide) rfl rfl (Nat.le_of_ble_eq_true rfl) dX5_isWay_3 [] ([]) (by simp only [List.append_assoc, List.nil_append, List.append_nil]) (by simp only [List.append_assoc, List.nil_append, List.append_nil]) rfl rfl ?_
  exact V_zret hX hR (nb_bI _) dX5_isWay_6 ⟨rfl, rfl⟩

set_option maxHeartbeats 4000000 in
set_option maxRecDepth 100000 in
theorem c_X5_isNothing (l : Launch) (G : vC) (a : Int) (ha : iR a) : Fn l G yX5_isNothing cX5_isNothing 1 (some .boolean) ({ frames := 1, cells := 0, slots := 0, locals := 22 } : Room) [.int (jI a)] ([]) (some (.int (jI (bI (-5 ≤ a ∧ a ≤ -1))))) ([]) := by
  refine Ct.of (by decide) (Nat.le_of_ble_eq_true rfl) (fun X hX hR => ?_)
  refine V.toLv (lv' := [(0, .int (jI a))]) rfl ?_
  refine V_iload_n hX dX5_isNothing_0 0 rfl ?_
  refine V_bipush hX dX5_isNothing_1 (by decide) ?_
  refine V_iconst hX dX5_isNothing_3 ?_
  refine V_cS (st := []) (v := .int (jI (bI ((-5) ≤ a ∧ a ≤ (-1))))) (w' := []) hX wc_X5_25 (c_X5_within l G a (-5) (-1) (by omega) (by omega) (by omega)) (by decide) (by decide) rfl rfl (Nat.le_of_ble_eq_true rfl) dX5_isNothing_4 [] ([]) (by simp only [List.append_assoc, List.nil_append, List.append_nil]) (by simp only [List.append_assoc, List.nil_append, List.append_nil]) rfl rfl ?_
  exact V_zret hX hR (nb_bI _) dX5_isNothing_7 ⟨(congrArg (fun z => some (Value.int (jI z))) (bI_c (by omega))), rfl⟩

set_option maxHeartbeats 4000000 in
set_option maxRecDepth 100000 in
theorem c_X5_isScarecrow (l : Launch) (G : vC) (m : Nat → Nat) (s : Nat → Int) (sp : Nat → Int) (hi : Nat → Int) (sn : Nat → Int) (tx : Nat → Int) (g3 : Int) (g5 : Int) (g7 : Int) (g8 : Int) (g9 : Int) (g10 : Int) (g11 : Int) (g12 : Int) (g13 : Int) (t : Int) (a : Int) (hI : Inv t s) (ha : iR a) : Fn l G yX5_isScarecrow cX5_isScarecrow 2 (some .boolean) ({ frames := 1, cells := 0, slots := 0, locals := 22 } : Room) [.ref (m 0), .int (jI a)] (mB G m s sp hi sn tx g3 g5 g7 g8 g9 g10 g11 g12 g13) (some (.int (jI (bI (0 ≤ a ∧ a < s 10))))) (mB G m s sp hi sn tx g3 g5 g7 g8 g9 g10 g11 g12 g13) := by
  refine Ct.of (by decide) (Nat.le_of_ble_eq_true rfl) (fun X hX hR => ?_)
  refine V.toLv (lv' := [(0, .ref (m 0)), (1, .int (jI a))]) rfl ?_
  have hb := hI.base
  refine V_iload_n hX dX5_isScarecrow_0 1 rfl ?_
  refine V_iconst hX dX5_isScarecrow_1 ?_
  refine V_aload_n hX dX5_isScarecrow_2 0 rfl ?_
  refine V_get (v := .ref (m 1)) hX cbX5 0 0 (by decide) wf_X5_7 rfl rfl rfl rfl dX5_isScarecrow_3 ?_
  refine V_bipush hX dX5_isScarecrow_6 (by decide) ?_
  refine V_iald (i0 := 10) (r := (jI (s 10))) hX 1 rfl (by decide) (by decide) (by decide) rfl rfl dX5_isScarecrow_8 ?_
  refine V_iconst hX dX5_isScarecrow_9 ?_
  refine V_isub hX dX5_isScarecrow_10 rfl ?_
  refine V_cS (st := []) (v := .int (jI (bI (0 ≤ a ∧ a ≤ ((s 10) - 1))))) (w' := mB G m s sp hi sn tx g3 g5 g7 g8 g9 g10 g11 g12 g13) hX wc_X5_25 (c_X5_within l G a 0 ((s 10) - 1) (by omega) (by omega) (by omega)) (by decide) (by decide) rfl rfl (Nat.le_of_ble_eq_true rfl) dX5_isScarecrow_11 [] (mB G m s sp hi sn tx g3 g5 g7 g8 g9 g10 g11 g12 g13) (by simp only [List.append_assoc, List.nil_append, List.append_nil]) (by simp only [List.append_assoc, List.nil_append, List.append_nil]) rfl rfl ?_
  exact V_zret hX hR (nb_bI _) dX5_isScarecrow_14 ⟨(congrArg (fun z => some (Value.int (jI z))) (bI_c (by omega))), rfl⟩

set_option maxHeartbeats 4000000 in
set_option maxRecDepth 100000 in
theorem c_X5_of (l : Launch) (G : vC) (m : Nat → Nat) (s : Nat → Int) (sp : Nat → Int) (hi : Nat → Int) (sn : Nat → Int) (tx : Nat → Int) (g3 : Int) (g5 : Int) (g7 : Int) (g8 : Int) (g9 : Int) (g10 : Int) (g11 : Int) (g12 : Int) (g13 : Int) (k : Nat) (c : Nat) (hk : k < 12) (hc : c < 11) : Fn l G yX5_of cX5_of 3 (some .int) ({ frames := 0, cells := 0, slots := 0, locals := 0 } : Room) [.ref (m 0), .int (jI ((k : Int))), .int (jI ((c : Int)))] (mB G m s sp hi sn tx g3 g5 g7 g8 g9 g10 g11 g12 g13) (some (.int (jI (s (ix k c))))) (mB G m s sp hi sn tx g3 g5 g7 g8 g9 g10 g11 g12 g13) := by
  refine Ct.of (by decide) (Nat.le_of_ble_eq_true rfl) (fun X hX hR => ?_)
  refine V.toLv (lv' := [(0, .ref (m 0)), (1, .int (jI ((k : Int)))), (2, .int (jI ((c : Int))))]) rfl ?_
  refine V_aload_n hX dX5_of_0 0 rfl ?_
  refine V_get (v := .ref (m 1)) hX cbX5 0 0 (by decide) wf_X5_7 rfl rfl rfl rfl dX5_of_1 ?_
  refine V_bipush hX dX5_of_4 (by decide) ?_
  refine V_bipush hX dX5_of_6 (by decide) ?_
  refine V_iload_n hX dX5_of_8 1 rfl ?_
  refine V_imul hX dX5_of_9 rfl ?_
  refine V_iadd hX dX5_of_10 rfl ?_
  refine V_iload_n hX dX5_of_11 2 rfl ?_
  refine V_iadd hX dX5_of_12 rfl ?_
  refine V_iald (i0 := ix k c) (r := (jI (s (ix k c)))) hX 1 rfl (by omega) (by omega) (by omega) (by unfold ix; omega) rfl dX5_of_13 ?_
  exact V_iret hX hR dX5_of_14 ⟨rfl, rfl⟩

set_option maxHeartbeats 4000000 in
set_option maxRecDepth 100000 in
theorem c_X5_setOf (l : Launch) (G : vC) (m : Nat → Nat) (s : Nat → Int) (sp : Nat → Int) (hi : Nat → Int) (sn : Nat → Int) (tx : Nat → Int) (g3 : Int) (g5 : Int) (g7 : Int) (g8 : Int) (g9 : Int) (g10 : Int) (g11 : Int) (g12 : Int) (g13 : Int) (k : Nat) (c : Nat) (v : Int) (hk : k < 12) (hc : c < 11) : Fn l G yX5_setOf cX5_setOf 4 none ({ frames := 0, cells := 0, slots := 0, locals := 0 } : Room) [.ref (m 0), .int (jI ((k : Int))), .int (jI ((c : Int))), .int (jI v)] (mB G m s sp hi sn tx g3 g5 g7 g8 g9 g10 g11 g12 g13) none (mB G m (up s (ix k c) v) sp hi sn tx g3 g5 g7 g8 g9 g10 g11 g12 g13) := by
  refine Ct.of (by decide) (Nat.le_of_ble_eq_true rfl) (fun X hX hR => ?_)
  refine V.toLv (lv' := [(0, .ref (m 0)), (1, .int (jI ((k : Int)))), (2, .int (jI ((c : Int)))), (3, .int (jI v))]) rfl ?_
  refine V_aload_n hX dX5_setOf_0 0 rfl ?_
  refine V_get (v := .ref (m 1)) hX cbX5 0 0 (by decide) wf_X5_7 rfl rfl rfl rfl dX5_setOf_1 ?_
  refine V_bipush hX dX5_setOf_4 (by decide) ?_
  refine V_bipush hX dX5_setOf_6 (by decide) ?_
  refine V_iload_n hX dX5_setOf_8 1 rfl ?_
  refine V_imul hX dX5_setOf_9 rfl ?_
  refine V_iadd hX dX5_setOf_10 rfl ?_
  refine V_iload_n hX dX5_setOf_11 2 rfl ?_
  refine V_iadd hX dX5_setOf_12 rfl ?_
  refine V_iload_n hX dX5_setOf_13 3 rfl ?_
  refine V_iast (i0 := ix k c) (w' := mB G m (up s (ix k c) v) sp hi sn tx g3 g5 g7 g8 g9 g10 g11 g12 g13) hX 1 rfl (by omega) (by omega) (by omega) (by unfold ix; omega) dX5_setOf_14 (mB_w1 G _ _ _ _ _ _ _ _ _ _ _ _ _ _ _ _ _) ?_
  exact V_vret hX hR dX5_setOf_15 ⟨rfl, rfl⟩

set_option maxHeartbeats 4000000 in
set_option maxRecDepth 100000 in
theorem c_X5_crowsOn (l : Launch) (G : vC) (m : Nat → Nat) (s : Nat → Int) (sp : Nat → Int) (hi : Nat → Int) (sn : Nat → Int) (tx : Nat → Int) (g3 : Int) (g5 : Int) (g7 : Int) (g8 : Int) (g9 : Int) (g10 : Int) (g11 : Int) (g12 : Int) (g13 : Int) (t : Int) (k : Nat) (hI : Inv t s) (hk : k < 12) : Fn l G yX5_crowsOn cX5_crowsOn 4 (some .int) ({ frames := 1, cells := 0, slots := 0, locals := 22 } : Room) [.ref (m 0), .int (jI ((k : Int)))] (mB G m s sp hi sn tx g3 g5 g7 g8 g9 g10 g11 g12 g13) (some (.int (jI (crN s k)))) (mB G m s sp hi sn tx g3 g5 g7 g8 g9 g10 g11 g12 g13) := by
  refine Ct.of (by decide) (Nat.le_of_ble_eq_true rfl) (fun X hX hR => ?_)
  refine V.toLv (lv' := [(0, .ref (m 0)), (1, .int (jI ((k : Int))))]) rfl ?_
  have hb := hI.base
  have hs := hI.sc k hk
  refine V_iconst hX dX5_crowsOn_0 ?_
  refine V_istore_n (i := 2) (lv' := [(2, .int (jI 0)), (0, .ref (m 0)), (1, .int (jI ((k : Int))))]) hX dX5_crowsOn_1 rfl (by decide) rfl ?_
  refine V_iconst hX dX5_crowsOn_2 ?_
  refine V_istore_n (i := 3) (lv' := [(3, .int (jI 0)), (2, .int (jI 0)), (0, .ref (m 0)), (1, .int (jI ((k : Int))))]) hX dX5_crowsOn_3 rfl (by decide) rfl ?_
  refine V_iload_n hX dX5_crowsOn_4 0 rfl ?_
  refine V_iconst hX dX5_crowsOn_5 ?_
  refine V_icmp_ge (tgt := 26) hX dX5_crowsOn_6 (by decide) (by decide) (by decide) (fun c_1 => absurd c_1 (by decide)) (fun c_1 => ?_)
  refine V_iload_n hX dX5_crowsOn_9 1 rfl ?_
  refine V_aload_n hX dX5_crowsOn_10 2 rfl ?_
  refine V_iload_n hX dX5_crowsOn_11 3 rfl ?_
  refine V_iconst hX dX5_crowsOn_12 ?_
  refine V_iload_n hX dX5_crowsOn_13 0 rfl ?_
  refine V_iadd (c := 5) hX dX5_crowsOn_14 rfl ?_
  refine V.sk (st' := [.int (jI ((5 : Int))), .int (jI ((k : Int))), .ref (m 0), .int (jI 0)]) rfl ?_
  refine V_cV (st := [.int (jI 0)]) (v := .int (jI (s (ix k 5)))) (w' := mB G m s sp hi sn tx g3 g5 g7 g8 g9 g10 g11 g12 g13) hX wc_X5_29 (c_X5_of l G m s sp hi sn tx g3 g5 g7 g8 g9 g10 g11 g12 g13 k 5 (by omega) (by omega)) (by decide) (by decide) rfl rfl (Nat.le_of_ble_eq_true rfl) dX5_crowsOn_15 [] ([]) (by simp only [List.append_assoc, List.nil_append, List.append_nil]) 0 rfl rfl (by simp only [List.append_assoc, List.nil_append, List.append_nil]) rfl rfl ?_
  refine V_iadd hX dX5_crowsOn_18 rfl ?_
  refine V_istore_n (i := 2) (lv' := [(2, .int (jI (0 + (s (ix k 5))))), (3, .int (jI 0)), (0, .ref (m 0)), (1, .int (jI ((k : Int))))]) hX dX5_crowsOn_19 rfl (by decide) rfl ?_
  refine V_iinc (b := 1) (lv' := [(3, .int (jI 1)), (2, .int (jI (0 + (s (ix k 5))))), (0, .ref (m 0)), (1, .int (jI ((k : Int))))]) hX dX5_crowsOn_20 1 rfl rfl (by decide) rfl ?_
  refine V_goto (tgt := 4) hX dX5_crowsOn_23 (by decide) ?_
  refine V_iload_n hX dX5_crowsOn_4 0 rfl ?_
  refine V_iconst hX dX5_crowsOn_5 ?_
  refine V_icmp_ge (tgt := 26) hX dX5_crowsOn_6 (by decide) (by decide) (by decide) (fun c_2 => absurd c_2 (by decide)) (fun c_2 => ?_)
  refine V_iload_n hX dX5_crowsOn_9 1 rfl ?_
  refine V_aload_n hX dX5_crowsOn_10 2 rfl ?_
  refine V_iload_n hX dX5_crowsOn_11 3 rfl ?_
  refine V_iconst hX dX5_crowsOn_12 ?_
  refine V_iload_n hX dX5_crowsOn_13 0 rfl ?_
  refine V_iadd (c := 6) hX dX5_crowsOn_14 rfl ?_
  refine V.sk (st' := [.int (jI ((6 : Int))), .int (jI ((k : Int))), .ref (m 0), .int (jI (0 + (s (ix k 5))))]) rfl ?_
  refine V_cV (st := [.int (jI (0 + (s (ix k 5))))]) (v := .int (jI (s (ix k 6)))) (w' := mB G m s sp hi sn tx g3 g5 g7 g8 g9 g10 g11 g12 g13) hX wc_X5_29 (c_X5_of l G m s sp hi sn tx g3 g5 g7 g8 g9 g10 g11 g12 g13 k 6 (by omega) (by omega)) (by decide) (by decide) rfl rfl (Nat.le_of_ble_eq_true rfl) dX5_crowsOn_15 [] ([]) (by simp only [List.append_assoc, List.nil_append, List.append_nil]) 0 rfl rfl (by simp only [List.append_assoc, List.nil_append, List.append_nil]) rfl rfl ?_
  refine V_iadd hX dX5_crowsOn_18 rfl ?_
  refine V_istore_n (i := 2) (lv' := [(2, .int (jI ((0 + (s (ix k 5))) + (s (ix k 6))))), (3, .int (jI 1)), (0, .ref (m 0)), (1, .int (jI ((k : Int))))]) hX dX5_crowsOn_19 rfl (by decide) rfl ?_
  refine V_iinc (b := 2) (lv' := [(3, .int (jI 2)), (2, .int (jI ((0 + (s (ix k 5))) + (s (ix k 6))))), (0, .ref (m 0)), (1, .int (jI ((k : Int))))]) hX dX5_crowsOn_20 1 rfl rfl (by decide) rfl ?_
  refine V_goto (tgt := 4) hX dX5_crowsOn_23 (by decide) ?_
  refine V_iload_n hX dX5_crowsOn_4 0 rfl ?_
  refine V_iconst hX dX5_crowsOn_5 ?_
  refine V_icmp_ge (tgt := 26) hX dX5_crowsOn_6 (by decide) (by decide) (by decide) (fun c_3 => absurd c_3 (by decide)) (fun c_3 => ?_)
  refine V_iload_n hX dX5_crowsOn_9 1 rfl ?_
  refine V_aload_n hX dX5_crowsOn_10 2 rfl ?_
  refine V_iload_n hX dX5_crowsOn_11 3 rfl ?_
  refine V_iconst hX dX5_crowsOn_12 ?_
  refine V_iload_n hX dX5_crowsOn_13 0 rfl ?_
  refine V_iadd (c := 7) hX dX5_crowsOn_14 rfl ?_
  refine V.sk (st' := [.int (jI ((7 : Int))), .int (jI ((k : Int))), .ref (m 0), .int (jI ((0 + (s (ix k 5))) + (s (ix k 6))))]) rfl ?_
  refine V_cV (st := [.int (jI ((0 + (s (ix k 5))) + (s (ix k 6))))]) (v := .int (jI (s (ix k 7)))) (w' := mB G m s sp hi sn tx g3 g5 g7 g8 g9 g10 g11 g12 g13) hX wc_X5_29 (c_X5_of l G m s sp hi sn tx g3 g5 g7 g8 g9 g10 g11 g12 g13 k 7 (by omega) (by omega)) (by decide) (by decide) rfl rfl (Nat.le_of_ble_eq_true rfl) dX5_crowsOn_15 [] ([]) (by simp only [List.append_assoc, List.nil_append, List.append_nil]) 0 rfl rfl (by simp only [List.append_assoc, List.nil_append, List.append_nil]) rfl rfl ?_
  refine V_iadd hX dX5_crowsOn_18 rfl ?_
  refine V_istore_n (i := 2) (lv' := [(2, .int (jI (((0 + (s (ix k 5))) + (s (ix k 6))) + (s (ix k 7))))), (3, .int (jI 2)), (0, .ref (m 0)), (1, .int (jI ((k : Int))))]) hX dX5_crowsOn_19 rfl (by decide) rfl ?_
  refine V_iinc (b := 3) (lv' := [(3, .int (jI 3)), (2, .int (jI (((0 + (s (ix k 5))) + (s (ix k 6))) + (s (ix k 7))))), (0, .ref (m 0)), (1, .int (jI ((k : Int))))]) hX dX5_crowsOn_20 1 rfl rfl (by decide) rfl ?_
  refine V_goto (tgt := 4) hX dX5_crowsOn_23 (by decide) ?_
  refine V_iload_n hX dX5_crowsOn_4 0 rfl ?_
  refine V_iconst hX dX5_crowsOn_5 ?_
  refine V_icmp_ge (tgt := 26) hX dX5_crowsOn_6 (by decide) (by decide) (by decide) (fun c_4 => absurd c_4 (by decide)) (fun c_4 => ?_)
  refine V_iload_n hX dX5_crowsOn_9 1 rfl ?_
  refine V_aload_n hX dX5_crowsOn_10 2 rfl ?_
  refine V_iload_n hX dX5_crowsOn_11 3 rfl ?_
  refine V_iconst hX dX5_crowsOn_12 ?_
  refine V_iload_n hX dX5_crowsOn_13 0 rfl ?_
  refine V_iadd (c := 8) hX dX5_crowsOn_14 rfl ?_
  refine V.sk (st' := [.int (jI ((8 : Int))), .int (jI ((k : Int))), .ref (m 0), .int (jI (((0 + (s (ix k 5))) + (s (ix k 6))) + (s (ix k 7))))]) rfl ?_
  refine V_cV (st := [.int (jI (((0 + (s (ix k 5))) + (s (ix k 6))) + (s (ix k 7))))]) (v := .int (jI (s (ix k 8)))) (w' := mB G m s sp hi sn tx g3 g5 g7 g8 g9 g10 g11 g12 g13) hX wc_X5_29 (c_X5_of l G m s sp hi sn tx g3 g5 g7 g8 g9 g10 g11 g12 g13 k 8 (by omega) (by omega)) (by decide) (by decide) rfl rfl (Nat.le_of_ble_eq_true rfl) dX5_crowsOn_15 [] ([]) (by simp only [List.append_assoc, List.nil_append, List.append_nil]) 0 rfl rfl (by simp only [List.append_assoc, List.nil_append, List.append_nil]) rfl rfl ?_
  refine V_iadd hX dX5_crowsOn_18 rfl ?_
  refine V_istore_n (i := 2) (lv' := [(2, .int (jI ((((0 + (s (ix k 5))) + (s (ix k 6))) + (s (ix k 7))) + (s (ix k 8))))), (3, .int (jI 3)), (0, .ref (m 0)), (1, .int (jI ((k : Int))))]) hX dX5_crowsOn_19 rfl (by decide) rfl ?_
  refine V_iinc (b := 4) (lv' := [(3, .int (jI 4)), (2, .int (jI ((((0 + (s (ix k 5))) + (s (ix k 6))) + (s (ix k 7))) + (s (ix k 8))))), (0, .ref (m 0)), (1, .int (jI ((k : Int))))]) hX dX5_crowsOn_20 1 rfl rfl (by decide) rfl ?_
  refine V_goto (tgt := 4) hX dX5_crowsOn_23 (by decide) ?_
  refine V_iload_n hX dX5_crowsOn_4 0 rfl ?_
  refine V_iconst hX dX5_crowsOn_5 ?_
  refine V_icmp_ge (tgt := 26) hX dX5_crowsOn_6 (by decide) (by decide) (by decide) (fun c_5 => ?_) (fun c_5 => absurd c_5 (by decide))
  refine V_iload_n hX dX5_crowsOn_26 1 rfl ?_
  exact V_iret hX hR dX5_crowsOn_27 ⟨(congrArg (fun z => some (Value.int (jI z))) (by unfold crN; omega)), rfl⟩

set_option maxHeartbeats 4000000 in
set_option maxRecDepth 100000 in
theorem c_X5_flyOff (l : Launch) (G : vC) (m : Nat → Nat) (s : Nat → Int) (sp : Nat → Int) (hi : Nat → Int) (sn : Nat → Int) (tx : Nat → Int) (g3 : Int) (g5 : Int) (g7 : Int) (g8 : Int) (g9 : Int) (g10 : Int) (g11 : Int) (g12 : Int) (g13 : Int) (k : Nat) (hk : k < 12) : Fn l G yX5_flyOff cX5_flyOff 3 none ({ frames := 1, cells := 0, slots := 0, locals := 23 } : Room) [.ref (m 0), .int (jI ((k : Int)))] (mB G m s sp hi sn tx g3 g5 g7 g8 g9 g10 g11 g12 g13) none (mB G m (fly s k) sp hi sn tx g3 g5 g7 g8 g9 g10 g11 g12 g13) := by
  refine Ct.of (by decide) (Nat.le_of_ble_eq_true rfl) (fun X hX hR => ?_)
  refine V.toLv (lv' := [(0, .ref (m 0)), (1, .int (jI ((k : Int))))]) rfl ?_
  refine V_iconst hX dX5_flyOff_0 ?_
  refine V_istore_n (i := 2) (lv' := [(2, .int (jI 0)), (0, .ref (m 0)), (1, .int (jI ((k : Int))))]) hX dX5_flyOff_1 rfl (by decide) rfl ?_
  refine V_iload_n hX dX5_flyOff_2 0 rfl ?_
  refine V_iconst hX dX5_flyOff_3 ?_
  refine V_icmp_ge (tgt := 22) hX dX5_flyOff_4 (by decide) (by decide) (by decide) (fun c_1 => absurd c_1 (by decide)) (fun c_1 => ?_)
  refine V_aload_n hX dX5_flyOff_7 1 rfl ?_
  refine V_iload_n hX dX5_flyOff_8 2 rfl ?_
  refine V_iconst hX dX5_flyOff_9 ?_
  refine V_iload_n hX dX5_flyOff_10 0 rfl ?_
  refine V_iadd (c := 5) hX dX5_flyOff_11 rfl ?_
  refine V_iconst hX dX5_flyOff_12 ?_
  refine V.sk (st' := [.int (jI 0), .int (jI ((5 : Int))), .int (jI ((k : Int))), .ref (m 0)]) rfl ?_
  refine V_dV (st := []) (w' := mB G m (up s (ix k 5) 0) sp hi sn tx g3 g5 g7 g8 g9 g10 g11 g12 g13) hX wc_X5_75 (c_X5_setOf l G m s sp hi sn tx g3 g5 g7 g8 g9 g10 g11 g12 g13 k 5 0 (by omega) (by omega)) (by decide) (by decide) rfl rfl (Nat.le_of_ble_eq_true rfl) dX5_flyOff_13 [] ([]) (by simp only [List.append_assoc, List.nil_append, List.append_nil]) 0 rfl rfl (by simp only [List.append_assoc, List.nil_append, List.append_nil]) rfl rfl ?_
  refine V_iinc (b := 1) (lv' := [(2, .int (jI 1)), (0, .ref (m 0)), (1, .int (jI ((k : Int))))]) hX dX5_flyOff_16 0 rfl rfl (by decide) rfl ?_
  refine V_goto (tgt := 2) hX dX5_flyOff_19 (by decide) ?_
  refine V_iload_n hX dX5_flyOff_2 0 rfl ?_
  refine V_iconst hX dX5_flyOff_3 ?_
  refine V_icmp_ge (tgt := 22) hX dX5_flyOff_4 (by decide) (by decide) (by decide) (fun c_2 => absurd c_2 (by decide)) (fun c_2 => ?_)
  refine V_aload_n hX dX5_flyOff_7 1 rfl ?_
  refine V_iload_n hX dX5_flyOff_8 2 rfl ?_
  refine V_iconst hX dX5_flyOff_9 ?_
  refine V_iload_n hX dX5_flyOff_10 0 rfl ?_
  refine V_iadd (c := 6) hX dX5_flyOff_11 rfl ?_
  refine V_iconst hX dX5_flyOff_12 ?_
  refine V.sk (st' := [.int (jI 0), .int (jI ((6 : Int))), .int (jI ((k : Int))), .ref (m 0)]) rfl ?_
  refine V_dV (st := []) (w' := mB G m (up (up s (ix k 5) 0) (ix k 6) 0) sp hi sn tx g3 g5 g7 g8 g9 g10 g11 g12 g13) hX wc_X5_75 (c_X5_setOf l G m (up s (ix k 5) 0) sp hi sn tx g3 g5 g7 g8 g9 g10 g11 g12 g13 k 6 0 (by omega) (by omega)) (by decide) (by decide) rfl rfl (Nat.le_of_ble_eq_true rfl) dX5_flyOff_13 [] ([]) (by simp only [List.append_assoc, List.nil_append, List.append_nil]) 0 rfl rfl (by simp only [List.append_assoc, List.nil_append, List.append_nil]) rfl rfl ?_
  refine V_iinc (b := 2) (lv' := [(2, .int (jI 2)), (0, .ref (m 0)), (1, .int (jI ((k : Int))))]) hX dX5_flyOff_16 0 rfl rfl (by decide) rfl ?_
  refine V_goto (tgt := 2) hX dX5_flyOff_19 (by decide) ?_
  refine V_iload_n hX dX5_flyOff_2 0 rfl ?_
  refine V_iconst hX dX5_flyOff_3 ?_
  refine V_icmp_ge (tgt := 22) hX dX5_flyOff_4 (by decide) (by decide) (by decide) (fun c_3 => absurd c_3 (by decide)) (fun c_3 => ?_)
  refine V_aload_n hX dX5_flyOff_7 1 rfl ?_
  refine V_iload_n hX dX5_flyOff_8 2 rfl ?_
  refine V_iconst hX dX5_flyOff_9 ?_
  refine V_iload_n hX dX5_flyOff_10 0 rfl ?_
  refine V_iadd (c := 7) hX dX5_flyOff_11 rfl ?_
  refine V_iconst hX dX5_flyOff_12 ?_
  refine V.sk (st' := [.int (jI 0), .int (jI ((7 : Int))), .int (jI ((k : Int))), .ref (m 0)]) rfl ?_
  refine V_dV (st := []) (w' := mB G m (up (up (up s (ix k 5) 0) (ix k 6) 0) (ix k 7) 0) sp hi sn tx g3 g5 g7 g8 g9 g10 g11 g12 g13) hX wc_X5_75 (c_X5_setOf l G m (up (up s (ix k 5) 0) (ix k 6) 0) sp hi sn tx g3 g5 g7 g8 g9 g10 g11 g12 g13 k 7 0 (by omega) (by omega)) (by decide) (by decide) rfl rfl (Nat.le_of_ble_eq_true rfl) dX5_flyOff_13 [] ([]) (by simp only [List.append_assoc, List.nil_append, List.append_nil]) 0 rfl rfl (by simp only [List.append_assoc, List.nil_append, List.append_nil]) rfl rfl ?_
  refine V_iinc (b := 3) (lv' := [(2, .int (jI 3)), (0, .ref (m 0)), (1, .int (jI ((k : Int))))]) hX dX5_flyOff_16 0 rfl rfl (by decide) rfl ?_
  refine V_goto (tgt := 2) hX dX5_flyOff_19 (by decide) ?_
  refine V_iload_n hX dX5_flyOff_2 0 rfl ?_
  refine V_iconst hX dX5_flyOff_3 ?_
  refine V_icmp_ge (tgt := 22) hX dX5_flyOff_4 (by decide) (by decide) (by decide) (fun c_4 => absurd c_4 (by decide)) (fun c_4 => ?_)
  refine V_aload_n hX dX5_flyOff_7 1 rfl ?_
  refine V_iload_n hX dX5_flyOff_8 2 rfl ?_
  refine V_iconst hX dX5_flyOff_9 ?_
  refine V_iload_n hX dX5_flyOff_10 0 rfl ?_
  refine V_iadd (c := 8) hX dX5_flyOff_11 rfl ?_
  refine V_iconst hX dX5_flyOff_12 ?_
  refine V.sk (st' := [.int (jI 0), .int (jI ((8 : Int))), .int (jI ((k : Int))), .ref (m 0)]) rfl ?_
  refine V_dV (st := []) (w' := mB G m (up (up (up (up s (ix k 5) 0) (ix k 6) 0) (ix k 7) 0) (ix k 8) 0) sp hi sn tx g3 g5 g7 g8 g9 g10 g11 g12 g13) hX wc_X5_75 (c_X5_setOf l G m (up (up (up s (ix k 5) 0) (ix k 6) 0) (ix k 7) 0) sp hi sn tx g3 g5 g7 g8 g9 g10 g11 g12 g13 k 8 0 (by omega) (by omega)) (by decide) (by decide) rfl rfl (Nat.le_of_ble_eq_true rfl) dX5_flyOff_13 [] ([]) (by simp only [List.append_assoc, List.nil_append, List.append_nil]) 0 rfl rfl (by simp only [List.append_assoc, List.nil_append, List.append_nil]) rfl rfl ?_
  refine V_iinc (b := 4) (lv' := [(2, .int (jI 4)), (0, .ref (m 0)), (1, .int (jI ((k : Int))))]) hX dX5_flyOff_16 0 rfl rfl (by decide) rfl ?_
  refine V_goto (tgt := 2) hX dX5_flyOff_19 (by decide) ?_
  refine V_iload_n hX dX5_flyOff_2 0 rfl ?_
  refine V_iconst hX dX5_flyOff_3 ?_
  refine V_icmp_ge (tgt := 22) hX dX5_flyOff_4 (by decide) (by decide) (by decide) (fun c_5 => ?_) (fun c_5 => absurd c_5 (by decide))
  exact V_vret hX hR dX5_flyOff_22 ⟨rfl, rfl⟩

set_option maxHeartbeats 4000000 in
set_option maxRecDepth 100000 in
theorem c_X5_putAside (l : Launch) (G : vC) (m : Nat → Nat) (s : Nat → Int) (sp : Nat → Int) (hi : Nat → Int) (sn : Nat → Int) (tx : Nat → Int) (g3 : Int) (g5 : Int) (g7 : Int) (g8 : Int) (g9 : Int) (g10 : Int) (g11 : Int) (g12 : Int) (g13 : Int)  : Fn l G yX5_putAside cX5_putAside 2 none ({ frames := 0, cells := 0, slots := 0, locals := 0 } : Room) [.ref (m 0)] (mB G m s sp hi sn tx g3 g5 g7 g8 g9 g10 g11 g12 g13) none (mB G m s s hi sn tx g3 g5 g7 g8 g9 g10 g11 g12 g13) := by
  refine Ct.of (by decide) (Nat.le_of_ble_eq_true rfl) (fun X hX hR => ?_)
  refine V.toLv (lv' := [(0, .ref (m 0))]) rfl ?_
  refine V_iconst hX dX5_putAside_0 ?_
  refine V.wd (w' := mB G m s (cpN sp s 0) hi sn tx g3 g5 g7 g8 g9 g10 g11 g12 g13) (mB_c rfl cpN_0 rfl rfl rfl rfl rfl rfl rfl rfl rfl rfl rfl rfl) ?_
  refine V_istore_n (i := 1) (lv' := [(1, .int (jI 0)), (0, .ref (m 0))]) hX dX5_putAside_1 rfl (by decide) rfl ?_
  have L2_q_1 : ∀ k : Nat, k ≤ 149 → ∀ (i : Int), (i = (k : Int)) → V X 0 0 (mB G m s (cpN sp s k) hi sn tx g3 g5 g7 g8 g9 g10 g11 g12 g13) [(1, .int (jI i)), (0, .ref (m 0))] 2 [] := by
    refine up_ind (fun k => ∀ (i : Int), (i = (k : Int)) → V X 0 0 (mB G m s (cpN sp s k) hi sn tx g3 g5 g7 g8 g9 g10 g11 g12 g13) [(1, .int (jI i)), (0, .ref (m 0))] 2 []) (149) ?_
    intro k hk ih i hik
    refine V_iload_n hX dX5_putAside_2 0 rfl ?_
    refine V_sipush hX dX5_putAside_3 (by decide) ?_
    refine V_icmp_ge (tgt := 27) hX dX5_putAside_6 (by decide) (by omega) (by decide) (fun c_2 => ?_) (fun c_2 => ?_)
    · refine V.fn hX 2 (g := mI (s)) (w' := mB G m s s hi sn tx g3 g5 g7 g8 g9 g10 g11 g12 g13) rfl (fun j hj => congrArg jI (if_pos (by omega))) rfl ?_
      exact V_vret hX hR dX5_putAside_27 ⟨rfl, rfl⟩
    · refine V_aload_n hX dX5_putAside_9 1 rfl ?_
      refine V_get (v := .ref (m 2)) hX cbX5 1 0 (by decide) wf_X5_13 rfl rfl rfl rfl dX5_putAside_10 ?_
      refine V_iload_n hX dX5_putAside_13 0 rfl ?_
      refine V_aload_n hX dX5_putAside_14 1 rfl ?_
      refine V_get (v := .ref (m 1)) hX cbX5 0 0 (by decide) wf_X5_7 rfl rfl rfl rfl dX5_putAside_15 ?_
      refine V_iload_n hX dX5_putAside_18 0 rfl ?_
      refine V_iald (i0 := k) (r := (jI (s k))) hX 1 rfl (by omega) (by omega) (by omega) (by omega) rfl dX5_putAside_19 ?_
      refine V_iast (i0 := k) (w' := mB G m s (up (cpN sp s k) k (s k)) hi sn tx g3 g5 g7 g8 g9 g10 g11 g12 g13) hX 2 rfl (by omega) (by omega) (by omega) (by omega) dX5_putAside_20 (mB_w2 G _ _ _ _ _ _ _ _ _ _ _ _ _ _ _ _ _) ?_
      refine V_iinc (b := i + 1) (lv' := [(1, .int (jI (i + 1))), (0, .ref (m 0))]) hX dX5_putAside_21 0 rfl rfl (by decide) rfl ?_
      refine V.wd (w' := mB G m s (cpN sp s (k + 1)) hi sn tx g3 g5 g7 g8 g9 g10 g11 g12 g13) (mB_c rfl cpN_s rfl rfl rfl rfl rfl rfl rfl rfl rfl rfl rfl rfl) ?_
      refine V_goto (tgt := 2) hX dX5_putAside_24 (by decide) ?_
      refine V.sub [0, 1] rfl ?_
      exact ih (by omega) _ (by omega)
  refine V.sub [0, 1] rfl ?_
  exact L2_q_1 0 (Nat.zero_le _) 0 rfl

set_option maxHeartbeats 4000000 in
set_option maxRecDepth 100000 in
theorem c_X5_takeBack (l : Launch) (G : vC) (m : Nat → Nat) (s : Nat → Int) (sp : Nat → Int) (hi : Nat → Int) (sn : Nat → Int) (tx : Nat → Int) (g3 : Int) (g5 : Int) (g7 : Int) (g8 : Int) (g9 : Int) (g10 : Int) (g11 : Int) (g12 : Int) (g13 : Int)  : Fn l G yX5_takeBack cX5_takeBack 2 none ({ frames := 0, cells := 0, slots := 0, locals := 0 } : Room) [.ref (m 0)] (mB G m s sp hi sn tx g3 g5 g7 g8 g9 g10 g11 g12 g13) none (mB G m sp sp hi sn tx g3 g5 g7 g8 g9 g10 g11 g12 g13) := by
  refine Ct.of (by decide) (Nat.le_of_ble_eq_true rfl) (fun X hX hR => ?_)
  refine V.toLv (lv' := [(0, .ref (m 0))]) rfl ?_
  refine V_iconst hX dX5_takeBack_0 ?_
  refine V.wd (w' := mB G m (cpN s sp 0) sp hi sn tx g3 g5 g7 g8 g9 g10 g11 g12 g13) (mB_c cpN_0 rfl rfl rfl rfl rfl rfl rfl rfl rfl rfl rfl rfl rfl) ?_
  refine V_istore_n (i := 1) (lv' := [(1, .int (jI 0)), (0, .ref (m 0))]) hX dX5_takeBack_1 rfl (by decide) rfl ?_
  have L2_q_1 : ∀ k : Nat, k ≤ 149 → ∀ (i : Int), (i = (k : Int)) → V X 0 0 (mB G m (cpN s sp k) sp hi sn tx g3 g5 g7 g8 g9 g10 g11 g12 g13) [(1, .int (jI i)), (0, .ref (m 0))] 2 [] := by
    refine up_ind (fun k => ∀ (i : Int), (i = (k : Int)) → V X 0 0 (mB G m (cpN s sp k) sp hi sn tx g3 g5 g7 g8 g9 g10 g11 g12 g13) [(1, .int (jI i)), (0, .ref (m 0))] 2 []) (149) ?_
    intro k hk ih i hik
    refine V_iload_n hX dX5_takeBack_2 0 rfl ?_
    refine V_sipush hX dX5_takeBack_3 (by decide) ?_
    refine V_icmp_ge (tgt := 27) hX dX5_takeBack_6 (by decide) (by omega) (by decide) (fun c_2 => ?_) (fun c_2 => ?_)
    · refine V.fn hX 1 (g := mI (sp)) (w' := mB G m sp sp hi sn tx g3 g5 g7 g8 g9 g10 g11 g12 g13) rfl (fun j hj => congrArg jI (if_pos (by omega))) rfl ?_
      exact V_vret hX hR dX5_takeBack_27 ⟨rfl, rfl⟩
    · refine V_aload_n hX dX5_takeBack_9 1 rfl ?_
      refine V_get (v := .ref (m 1)) hX cbX5 0 0 (by decide) wf_X5_7 rfl rfl rfl rfl dX5_takeBack_10 ?_
      refine V_iload_n hX dX5_takeBack_13 0 rfl ?_
      refine V_aload_n hX dX5_takeBack_14 1 rfl ?_
      refine V_get (v := .ref (m 2)) hX cbX5 1 0 (by decide) wf_X5_13 rfl rfl rfl rfl dX5_takeBack_15 ?_
      refine V_iload_n hX dX5_takeBack_18 0 rfl ?_
      refine V_iald (i0 := k) (r := (jI (sp k))) hX 2 rfl (by omega) (by omega) (by omega) (by omega) rfl dX5_takeBack_19 ?_
      refine V_iast (i0 := k) (w' := mB G m (up (cpN s sp k) k (sp k)) sp hi sn tx g3 g5 g7 g8 g9 g10 g11 g12 g13) hX 1 rfl (by omega) (by omega) (by omega) (by omega) dX5_takeBack_20 (mB_w1 G _ _ _ _ _ _ _ _ _ _ _ _ _ _ _ _ _) ?_
      refine V_iinc (b := i + 1) (lv' := [(1, .int (jI (i + 1))), (0, .ref (m 0))]) hX dX5_takeBack_21 0 rfl rfl (by decide) rfl ?_
      refine V.wd (w' := mB G m (cpN s sp (k + 1)) sp hi sn tx g3 g5 g7 g8 g9 g10 g11 g12 g13) (mB_c cpN_s rfl rfl rfl rfl rfl rfl rfl rfl rfl rfl rfl rfl rfl) ?_
      refine V_goto (tgt := 2) hX dX5_takeBack_24 (by decide) ?_
      refine V.sub [0, 1] rfl ?_
      exact ih (by omega) _ (by omega)
  refine V.sub [0, 1] rfl ?_
  exact L2_q_1 0 (Nat.zero_le _) 0 rfl
