set_option maxHeartbeats 4000000 in
set_option maxRecDepth 100000 in
theorem c_X4_isIn (l : Launch) (G : vC) (a : Int) (b : Int) (c : Int) (ha : iR a) (hb : iR b) (hc : iR c) : Fn l G yX4_isIn cX4_isIn 3 (some .boolean) ({ frames := 0, cells := 0, slots := 0, locals := 0 } : Room) [.int (jI a), .int (jI b), .int (jI c)] ([]) (some (.int (jI (bI (b ≤ a ∧ a ≤ c))))) ([]) := by
  refine Ct.of (by decide) (Nat.le_of_ble_eq_true rfl) (fun X hX hR => ?_)
  refine V.toLv (lv' := [(0, .int (jI a)), (1, .int (jI b)), (2, .int (jI c))]) rfl ?_
  refine V_iload_n hX dX4_isIn_0 0 rfl ?_
  refine V_iload_n hX dX4_isIn_1 1 rfl ?_
  refine V_icmp_lt (tgt := 14) hX dX4_isIn_2 (by decide) (by omega) (by omega) (fun c_1 => ?_) (fun c_1 => ?_)
  · refine V_iconst hX dX4_isIn_14 ?_
    exact V_zret hX hR rfl dX4_isIn_15 ⟨(congrArg (fun z => some (Value.int (jI z))) (bI_f (by omega)).symm), rfl⟩
  · refine V_iload_n hX dX4_isIn_5 0 rfl ?_
    refine V_iload_n hX dX4_isIn_6 2 rfl ?_
    refine V_icmp_gt (tgt := 14) hX dX4_isIn_7 (by decide) (by omega) (by omega) (fun c_2 => ?_) (fun c_2 => ?_)
    · refine V_iconst hX dX4_isIn_14 ?_
      exact V_zret hX hR rfl dX4_isIn_15 ⟨(congrArg (fun z => some (Value.int (jI z))) (bI_f (by omega)).symm), rfl⟩
    · refine V_iconst hX dX4_isIn_10 ?_
      refine V_goto (tgt := 15) hX dX4_isIn_11 (by decide) ?_
      exact V_zret hX hR rfl dX4_isIn_15 ⟨(congrArg (fun z => some (Value.int (jI z))) (bI_t (by omega)).symm), rfl⟩

set_option maxHeartbeats 4000000 in
set_option maxRecDepth 100000 in
theorem c_X4_isField (l : Launch) (G : vC) (a : Int) (ha : iR a) : Fn l G yX4_isField cX4_isField 1 (some .boolean) ({ frames := 1, cells := 0, slots := 0, locals := 22 } : Room) [.int (jI a)] ([]) (some (.int (jI (bI (0 ≤ a ∧ a ≤ 5))))) ([]) := by
  refine Ct.of (by decide) (Nat.le_of_ble_eq_true rfl) (fun X hX hR => ?_)
  refine V.toLv (lv' := [(0, .int (jI a))]) rfl ?_
  refine V_iload_n hX dX4_isField_0 0 rfl ?_
  refine V_iconst hX dX4_isField_1 ?_
  refine V_iconst hX dX4_isField_2 ?_
  refine V_cS (st := []) (v := .int (jI (bI (0 ≤ a ∧ a ≤ 5)))) (w' := []) hX wc_X4_195 (c_X4_isIn l G a 0 5 (by omega) (by omega) (by omega)) (by decide) (by decide) rfl rfl (Nat.le_of_ble_eq_true rfl) dX4_isField_3 [] ([]) (by simp only [List.append_assoc, List.nil_append, List.append_nil]) (by simp only [List.append_assoc, List.nil_append, List.append_nil]) rfl rfl ?_
  exact V_zret hX hR (nb_bI _) dX4_isField_6 ⟨rfl, rfl⟩

set_option maxHeartbeats 4000000 in
set_option maxRecDepth 100000 in
theorem c_X4_isWay (l : Launch) (G : vC) (a : Int) (ha : iR a) : Fn l G yX4_isWay cX4_isWay 1 (some .boolean) ({ frames := 1, cells := 0, slots := 0, locals := 22 } : Room) [.int (jI a)] ([]) (some (.int (jI (bI (0 ≤ a ∧ a ≤ 3))))) ([]) := by
  refine Ct.of (by decide) (Nat.le_of_ble_eq_true rfl) (fun X hX hR => ?_)
  refine V.toLv (lv' := [(0, .int (jI a))]) rfl ?_
  refine V_iload_n hX dX4_isWay_0 0 rfl ?_
  refine V_iconst hX dX4_isWay_1 ?_
  refine V_iconst hX dX4_isWay_2 ?_
  refine V_cS (st := []) (v := .int (jI (bI (0 ≤ a ∧ a ≤ 3)))) (w' := []) hX wc_X4_195 (c_X4_isIn l G a 0 3 (by omega) (by omega) (by omega)) (by decide) (by decide) rfl rfl (Nat.le_of_ble_eq_true rfl) dX4_isWay_3 [] ([]) (by simp only [List.append_assoc, List.nil_append, List.append_nil]) (by simp only [List.append_assoc, List.nil_append, List.append_nil]) rfl rfl ?_
  exact V_zret hX hR (nb_bI _) dX4_isWay_6 ⟨rfl, rfl⟩

-- X4_isError is not reached here

set_option maxHeartbeats 4000000 in
set_option maxRecDepth 100000 in
theorem c_X1_isScarecrow (l : Launch) (G : vC) (h : Nat → Nat) (s : Nat → Int) (t : Int) (a : Int) (hI : Inv t s) (ha : iR a) : Fn l G yX1_isScarecrow cX1_isScarecrow 2 (some .boolean) ({ frames := 0, cells := 0, slots := 0, locals := 0 } : Room) [.ref (h 0), .int (jI a)] (hB G h s) (some (.int (jI (bI (0 ≤ a ∧ a < s 10))))) (hB G h s) := by
  refine Ct.of (by decide) (Nat.le_of_ble_eq_true rfl) (fun X hX hR => ?_)
  refine V.toLv (lv' := [(0, .ref (h 0)), (1, .int (jI a))]) rfl ?_
  have hb := hI.base
  refine V_iload_n hX dX1_isScarecrow_0 1 rfl ?_
  refine V_if_lt (tgt := 16) hX dX1_isScarecrow_1 (by decide) (by omega) (fun c_1 => ?_) (fun c_1 => ?_)
  · refine V_iconst hX dX1_isScarecrow_16 ?_
    exact V_zret hX hR rfl dX1_isScarecrow_17 ⟨(congrArg (fun z => some (Value.int (jI z))) (bI_f (by omega)).symm), rfl⟩
  · refine V_iload_n hX dX1_isScarecrow_4 1 rfl ?_
    refine V_aload_n hX dX1_isScarecrow_5 0 rfl ?_
    refine V_get (v := .int (jI (s 10))) hX cbX1 10 0 (by decide) wf_X1_53 rfl rfl rfl rfl dX1_isScarecrow_6 ?_
    refine V_icmp_ge (tgt := 16) hX dX1_isScarecrow_9 (by decide) (by omega) (by omega) (fun c_2 => ?_) (fun c_2 => ?_)
    · refine V_iconst hX dX1_isScarecrow_16 ?_
      exact V_zret hX hR rfl dX1_isScarecrow_17 ⟨(congrArg (fun z => some (Value.int (jI z))) (bI_f (by omega)).symm), rfl⟩
    · refine V_iconst hX dX1_isScarecrow_12 ?_
      refine V_goto (tgt := 17) hX dX1_isScarecrow_13 (by decide) ?_
      exact V_zret hX hR rfl dX1_isScarecrow_17 ⟨(congrArg (fun z => some (Value.int (jI z))) (bI_t (by omega)).symm), rfl⟩

set_option maxHeartbeats 4000000 in
set_option maxRecDepth 100000 in
theorem c_X1_crowsOn (l : Launch) (G : vC) (h : Nat → Nat) (s : Nat → Int) (t : Int) (k : Nat) (hI : Inv t s) (hk : k < 12) : Fn l G yX1_crowsOn cX1_crowsOn 4 (some .int) ({ frames := 0, cells := 0, slots := 0, locals := 0 } : Room) [.ref (h 0), .int (jI ((k : Int)))] (hB G h s) (some (.int (jI (crN s k)))) (hB G h s) := by
  refine Ct.of (by decide) (Nat.le_of_ble_eq_true rfl) (fun X hX hR => ?_)
  refine V.toLv (lv' := [(0, .ref (h 0)), (1, .int (jI ((k : Int))))]) rfl ?_
  have hb := hI.base
  have hs := hI.sc k hk
  refine V_iconst hX dX1_crowsOn_0 ?_
  refine V_istore_n (i := 2) (lv' := [(2, .int (jI 0)), (0, .ref (h 0)), (1, .int (jI ((k : Int))))]) hX dX1_crowsOn_1 rfl (by decide) rfl ?_
  refine V_iconst hX dX1_crowsOn_2 ?_
  refine V_istore_n (i := 3) (lv' := [(3, .int (jI 0)), (2, .int (jI 0)), (0, .ref (h 0)), (1, .int (jI ((k : Int))))]) hX dX1_crowsOn_3 rfl (by decide) rfl ?_
  refine V_iload_n hX dX1_crowsOn_4 0 rfl ?_
  refine V_iconst hX dX1_crowsOn_5 ?_
  refine V_icmp_ge (tgt := 28) hX dX1_crowsOn_6 (by decide) (by decide) (by decide) (fun c_1 => absurd c_1 (by decide)) (fun c_1 => ?_)
  refine V_iload_n hX dX1_crowsOn_9 1 rfl ?_
  refine V_aload_n hX dX1_crowsOn_10 2 rfl ?_
  refine V_get (v := .ref (h 8)) hX cbX1 7 0 (by decide) wf_X1_33 rfl rfl rfl rfl dX1_crowsOn_11 ?_
  refine V_iload_n hX dX1_crowsOn_14 3 rfl ?_
  refine V_iconst hX dX1_crowsOn_15 ?_
  refine V_imul hX dX1_crowsOn_16 rfl ?_
  refine V_iload_n hX dX1_crowsOn_17 0 rfl ?_
  refine V_iadd hX dX1_crowsOn_18 rfl ?_
  refine V_iald (i0 := k * 4 + 0) (r := (jI (s (ix k 5)))) hX 8 rfl (by omega) (by omega) (by omega) (by omega) (by show jI (s (ix ((k * 4 + 0) / 4) (5 + (k * 4 + 0) % 4))) = jI (s (ix k 5)); rw [show ix ((k * 4 + 0) / 4) (5 + (k * 4 + 0) % 4) = ix k 5 by unfold ix; omega]) dX1_crowsOn_19 ?_
  refine V_iadd hX dX1_crowsOn_20 rfl ?_
  refine V_istore_n (i := 2) (lv' := [(2, .int (jI (0 + (s (ix k 5))))), (3, .int (jI 0)), (0, .ref (h 0)), (1, .int (jI ((k : Int))))]) hX dX1_crowsOn_21 rfl (by decide) rfl ?_
  refine V_iinc (b := 1) (lv' := [(3, .int (jI 1)), (2, .int (jI (0 + (s (ix k 5))))), (0, .ref (h 0)), (1, .int (jI ((k : Int))))]) hX dX1_crowsOn_22 1 rfl rfl (by decide) rfl ?_
  refine V_goto (tgt := 4) hX dX1_crowsOn_25 (by decide) ?_
  refine V_iload_n hX dX1_crowsOn_4 0 rfl ?_
  refine V_iconst hX dX1_crowsOn_5 ?_
  refine V_icmp_ge (tgt := 28) hX dX1_crowsOn_6 (by decide) (by decide) (by decide) (fun c_2 => absurd c_2 (by decide)) (fun c_2 => ?_)
  refine V_iload_n hX dX1_crowsOn_9 1 rfl ?_
  refine V_aload_n hX dX1_crowsOn_10 2 rfl ?_
  refine V_get (v := .ref (h 8)) hX cbX1 7 0 (by decide) wf_X1_33 rfl rfl rfl rfl dX1_crowsOn_11 ?_
  refine V_iload_n hX dX1_crowsOn_14 3 rfl ?_
  refine V_iconst hX dX1_crowsOn_15 ?_
  refine V_imul hX dX1_crowsOn_16 rfl ?_
  refine V_iload_n hX dX1_crowsOn_17 0 rfl ?_
  refine V_iadd hX dX1_crowsOn_18 rfl ?_
  refine V_iald (i0 := k * 4 + 1) (r := (jI (s (ix k 6)))) hX 8 rfl (by omega) (by omega) (by omega) (by omega) (by show jI (s (ix ((k * 4 + 1) / 4) (5 + (k * 4 + 1) % 4))) = jI (s (ix k 6)); rw [show ix ((k * 4 + 1) / 4) (5 + (k * 4 + 1) % 4) = ix k 6 by unfold ix; omega]) dX1_crowsOn_19 ?_
  refine V_iadd hX dX1_crowsOn_20 rfl ?_
  refine V_istore_n (i := 2) (lv' := [(2, .int (jI ((0 + (s (ix k 5))) + (s (ix k 6))))), (3, .int (jI 1)), (0, .ref (h 0)), (1, .int (jI ((k : Int))))]) hX dX1_crowsOn_21 rfl (by decide) rfl ?_
  refine V_iinc (b := 2) (lv' := [(3, .int (jI 2)), (2, .int (jI ((0 + (s (ix k 5))) + (s (ix k 6))))), (0, .ref (h 0)), (1, .int (jI ((k : Int))))]) hX dX1_crowsOn_22 1 rfl rfl (by decide) rfl ?_
  refine V_goto (tgt := 4) hX dX1_crowsOn_25 (by decide) ?_
  refine V_iload_n hX dX1_crowsOn_4 0 rfl ?_
  refine V_iconst hX dX1_crowsOn_5 ?_
  refine V_icmp_ge (tgt := 28) hX dX1_crowsOn_6 (by decide) (by decide) (by decide) (fun c_3 => absurd c_3 (by decide)) (fun c_3 => ?_)
  refine V_iload_n hX dX1_crowsOn_9 1 rfl ?_
  refine V_aload_n hX dX1_crowsOn_10 2 rfl ?_
  refine V_get (v := .ref (h 8)) hX cbX1 7 0 (by decide) wf_X1_33 rfl rfl rfl rfl dX1_crowsOn_11 ?_
  refine V_iload_n hX dX1_crowsOn_14 3 rfl ?_
  refine V_iconst hX dX1_crowsOn_15 ?_
  refine V_imul hX dX1_crowsOn_16 rfl ?_
  refine V_iload_n hX dX1_crowsOn_17 0 rfl ?_
  refine V_iadd hX dX1_crowsOn_18 rfl ?_
  refine V_iald (i0 := k * 4 + 2) (r := (jI (s (ix k 7)))) hX 8 rfl (by omega) (by omega) (by omega) (by omega) (by show jI (s (ix ((k * 4 + 2) / 4) (5 + (k * 4 + 2) % 4))) = jI (s (ix k 7)); rw [show ix ((k * 4 + 2) / 4) (5 + (k * 4 + 2) % 4) = ix k 7 by unfold ix; omega]) dX1_crowsOn_19 ?_
  refine V_iadd hX dX1_crowsOn_20 rfl ?_
  refine V_istore_n (i := 2) (lv' := [(2, .int (jI (((0 + (s (ix k 5))) + (s (ix k 6))) + (s (ix k 7))))), (3, .int (jI 2)), (0, .ref (h 0)), (1, .int (jI ((k : Int))))]) hX dX1_crowsOn_21 rfl (by decide) rfl ?_
  refine V_iinc (b := 3) (lv' := [(3, .int (jI 3)), (2, .int (jI (((0 + (s (ix k 5))) + (s (ix k 6))) + (s (ix k 7))))), (0, .ref (h 0)), (1, .int (jI ((k : Int))))]) hX dX1_crowsOn_22 1 rfl rfl (by decide) rfl ?_
  refine V_goto (tgt := 4) hX dX1_crowsOn_25 (by decide) ?_
  refine V_iload_n hX dX1_crowsOn_4 0 rfl ?_
  refine V_iconst hX dX1_crowsOn_5 ?_
  refine V_icmp_ge (tgt := 28) hX dX1_crowsOn_6 (by decide) (by decide) (by decide) (fun c_4 => absurd c_4 (by decide)) (fun c_4 => ?_)
  refine V_iload_n hX dX1_crowsOn_9 1 rfl ?_
  refine V_aload_n hX dX1_crowsOn_10 2 rfl ?_
  refine V_get (v := .ref (h 8)) hX cbX1 7 0 (by decide) wf_X1_33 rfl rfl rfl rfl dX1_crowsOn_11 ?_
  refine V_iload_n hX dX1_crowsOn_14 3 rfl ?_
  refine V_iconst hX dX1_crowsOn_15 ?_
  refine V_imul hX dX1_crowsOn_16 rfl ?_
  refine V_iload_n hX dX1_crowsOn_17 0 rfl ?_
  refine V_iadd hX dX1_crowsOn_18 rfl ?_
  refine V_iald (i0 := k * 4 + 3) (r := (jI (s (ix k 8)))) hX 8 rfl (by omega) (by omega) (by omega) (by omega) (by show jI (s (ix ((k * 4 + 3) / 4) (5 + (k * 4 + 3) % 4))) = jI (s (ix k 8)); rw [show ix ((k * 4 + 3) / 4) (5 + (k * 4 + 3) % 4) = ix k 8 by unfold ix; omega]) dX1_crowsOn_19 ?_
  refine V_iadd hX dX1_crowsOn_20 rfl ?_
  refine V_istore_n (i := 2) (lv' := [(2, .int (jI ((((0 + (s (ix k 5))) + (s (ix k 6))) + (s (ix k 7))) + (s (ix k 8))))), (3, .int (jI 3)), (0, .ref (h 0)), (1, .int (jI ((k : Int))))]) hX dX1_crowsOn_21 rfl (by decide) rfl ?_
  refine V_iinc (b := 4) (lv' := [(3, .int (jI 4)), (2, .int (jI ((((0 + (s (ix k 5))) + (s (ix k 6))) + (s (ix k 7))) + (s (ix k 8))))), (0, .ref (h 0)), (1, .int (jI ((k : Int))))]) hX dX1_crowsOn_22 1 rfl rfl (by decide) rfl ?_
  refine V_goto (tgt := 4) hX dX1_crowsOn_25 (by decide) ?_
  refine V_iload_n hX dX1_crowsOn_4 0 rfl ?_
  refine V_iconst hX dX1_crowsOn_5 ?_
  refine V_icmp_ge (tgt := 28) hX dX1_crowsOn_6 (by decide) (by decide) (by decide) (fun c_5 => ?_) (fun c_5 => absurd c_5 (by decide))
  refine V_iload_n hX dX1_crowsOn_28 1 rfl ?_
  exact V_iret hX hR dX1_crowsOn_29 ⟨(congrArg (fun z => some (Value.int (jI z))) (by unfold crN; omega)), rfl⟩

set_option maxHeartbeats 4000000 in
set_option maxRecDepth 100000 in
theorem c_X1_letCrowsFly (l : Launch) (G : vC) (h : Nat → Nat) (s : Nat → Int) (k : Nat) (hk : k < 12) : Fn l G yX1_letCrowsFly cX1_letCrowsFly 3 none ({ frames := 0, cells := 0, slots := 0, locals := 0 } : Room) [.ref (h 0), .int (jI ((k : Int)))] (hB G h s) none (hB G h (fly s k)) := by
  refine Ct.of (by decide) (Nat.le_of_ble_eq_true rfl) (fun X hX hR => ?_)
  refine V.toLv (lv' := [(0, .ref (h 0)), (1, .int (jI ((k : Int))))]) rfl ?_
  refine V_iconst hX dX1_letCrowsFly_0 ?_
  refine V_istore_n (i := 2) (lv' := [(2, .int (jI 0)), (0, .ref (h 0)), (1, .int (jI ((k : Int))))]) hX dX1_letCrowsFly_1 rfl (by decide) rfl ?_
  refine V_iload_n hX dX1_letCrowsFly_2 0 rfl ?_
  refine V_iconst hX dX1_letCrowsFly_3 ?_
  refine V_icmp_ge (tgt := 24) hX dX1_letCrowsFly_4 (by decide) (by decide) (by decide) (fun c_1 => absurd c_1 (by decide)) (fun c_1 => ?_)
  refine V_aload_n hX dX1_letCrowsFly_7 1 rfl ?_
  refine V_get (v := .ref (h 8)) hX cbX1 7 0 (by decide) wf_X1_33 rfl rfl rfl rfl dX1_letCrowsFly_8 ?_
  refine V_iload_n hX dX1_letCrowsFly_11 2 rfl ?_
  refine V_iconst hX dX1_letCrowsFly_12 ?_
  refine V_imul hX dX1_letCrowsFly_13 rfl ?_
  refine V_iload_n hX dX1_letCrowsFly_14 0 rfl ?_
  refine V_iadd hX dX1_letCrowsFly_15 rfl ?_
  refine V_iconst hX dX1_letCrowsFly_16 ?_
  refine V_iast (i0 := k * 4 + 0) (w' := hB G h (up s (ix k 5) 0)) hX 8 rfl (by omega) (by omega) (by omega) (by omega) dX1_letCrowsFly_17 (hB_cr G _ _ k 0 (by omega) _) ?_
  refine V_iinc (b := 1) (lv' := [(2, .int (jI 1)), (0, .ref (h 0)), (1, .int (jI ((k : Int))))]) hX dX1_letCrowsFly_18 0 rfl rfl (by decide) rfl ?_
  refine V_goto (tgt := 2) hX dX1_letCrowsFly_21 (by decide) ?_
  refine V_iload_n hX dX1_letCrowsFly_2 0 rfl ?_
  refine V_iconst hX dX1_letCrowsFly_3 ?_
  refine V_icmp_ge (tgt := 24) hX dX1_letCrowsFly_4 (by decide) (by decide) (by decide) (fun c_2 => absurd c_2 (by decide)) (fun c_2 => ?_)
  refine V_aload_n hX dX1_letCrowsFly_7 1 rfl ?_
  refine V_get (v := .ref (h 8)) hX cbX1 7 0 (by decide) wf_X1_33 rfl rfl rfl rfl dX1_letCrowsFly_8 ?_
  refine V_iload_n hX dX1_letCrowsFly_11 2 rfl ?_
  refine V_iconst hX dX1_letCrowsFly_12 ?_
  refine V_imul hX dX1_letCrowsFly_13 rfl ?_
  refine V_iload_n hX dX1_letCrowsFly_14 0 rfl ?_
  refine V_iadd hX dX1_letCrowsFly_15 rfl ?_
  refine V_iconst hX dX1_letCrowsFly_16 ?_
  refine V_iast (i0 := k * 4 + 1) (w' := hB G h (up (up s (ix k 5) 0) (ix k 6) 0)) hX 8 rfl (by omega) (by omega) (by omega) (by omega) dX1_letCrowsFly_17 (hB_cr G _ _ k 1 (by omega) _) ?_
  refine V_iinc (b := 2) (lv' := [(2, .int (jI 2)), (0, .ref (h 0)), (1, .int (jI ((k : Int))))]) hX dX1_letCrowsFly_18 0 rfl rfl (by decide) rfl ?_
  refine V_goto (tgt := 2) hX dX1_letCrowsFly_21 (by decide) ?_
  refine V_iload_n hX dX1_letCrowsFly_2 0 rfl ?_
  refine V_iconst hX dX1_letCrowsFly_3 ?_
  refine V_icmp_ge (tgt := 24) hX dX1_letCrowsFly_4 (by decide) (by decide) (by decide) (fun c_3 => absurd c_3 (by decide)) (fun c_3 => ?_)
  refine V_aload_n hX dX1_letCrowsFly_7 1 rfl ?_
  refine V_get (v := .ref (h 8)) hX cbX1 7 0 (by decide) wf_X1_33 rfl rfl rfl rfl dX1_letCrowsFly_8 ?_
  refine V_iload_n hX dX1_letCrowsFly_11 2 rfl ?_
  refine V_iconst hX dX1_letCrowsFly_12 ?_
  refine V_imul hX dX1_letCrowsFly_13 rfl ?_
  refine V_iload_n hX dX1_letCrowsFly_14 0 rfl ?_
  refine V_iadd hX dX1_letCrowsFly_15 rfl ?_
  refine V_iconst hX dX1_letCrowsFly_16 ?_
  refine V_iast (i0 := k * 4 + 2) (w' := hB G h (up (up (up s (ix k 5) 0) (ix k 6) 0) (ix k 7) 0)) hX 8 rfl (by omega) (by omega) (by omega) (by omega) dX1_letCrowsFly_17 (hB_cr G _ _ k 2 (by omega) _) ?_
  refine V_iinc (b := 3) (lv' := [(2, .int (jI 3)), (0, .ref (h 0)), (1, .int (jI ((k : Int))))]) hX dX1_letCrowsFly_18 0 rfl rfl (by decide) rfl ?_
  refine V_goto (tgt := 2) hX dX1_letCrowsFly_21 (by decide) ?_
  refine V_iload_n hX dX1_letCrowsFly_2 0 rfl ?_
  refine V_iconst hX dX1_letCrowsFly_3 ?_
  refine V_icmp_ge (tgt := 24) hX dX1_letCrowsFly_4 (by decide) (by decide) (by decide) (fun c_4 => absurd c_4 (by decide)) (fun c_4 => ?_)
  refine V_aload_n hX dX1_letCrowsFly_7 1 rfl ?_
  refine V_get (v := .ref (h 8)) hX cbX1 7 0 (by decide) wf_X1_33 rfl rfl rfl rfl dX1_letCrowsFly_8 ?_
  refine V_iload_n hX dX1_letCrowsFly_11 2 rfl ?_
  refine V_iconst hX dX1_letCrowsFly_12 ?_
  refine V_imul hX dX1_letCrowsFly_13 rfl ?_
  refine V_iload_n hX dX1_letCrowsFly_14 0 rfl ?_
  refine V_iadd hX dX1_letCrowsFly_15 rfl ?_
  refine V_iconst hX dX1_letCrowsFly_16 ?_
  refine V_iast (i0 := k * 4 + 3) (w' := hB G h (up (up (up (up s (ix k 5) 0) (ix k 6) 0) (ix k 7) 0) (ix k 8) 0)) hX 8 rfl (by omega) (by omega) (by omega) (by omega) dX1_letCrowsFly_17 (hB_cr G _ _ k 3 (by omega) _) ?_
  refine V_iinc (b := 4) (lv' := [(2, .int (jI 4)), (0, .ref (h 0)), (1, .int (jI ((k : Int))))]) hX dX1_letCrowsFly_18 0 rfl rfl (by decide) rfl ?_
  refine V_goto (tgt := 2) hX dX1_letCrowsFly_21 (by decide) ?_
  refine V_iload_n hX dX1_letCrowsFly_2 0 rfl ?_
  refine V_iconst hX dX1_letCrowsFly_3 ?_
  refine V_icmp_ge (tgt := 24) hX dX1_letCrowsFly_4 (by decide) (by decide) (by decide) (fun c_5 => ?_) (fun c_5 => absurd c_5 (by decide))
  exact V_vret hX hR dX1_letCrowsFly_24 ⟨rfl, rfl⟩

set_option maxHeartbeats 4000000 in
set_option maxRecDepth 100000 in
theorem c_X1_raise (l : Launch) (G : vC) (h : Nat → Nat) (s : Nat → Int) (t : Int) (f : Int) (g : Int) (p : Int) (w : Int) (hI : Inv t s) (hf : iR f) (hg : iR g) (hp : iR p) (hw : iR w) : Fn l G yX1_raise cX1_raise 6 (some .int) ({ frames := 2, cells := 0, slots := 0, locals := 42 } : Room) [.ref (h 0), .int (jI f), .int (jI g), .int (jI p), .int (jI w)] (hB G h s) (some (.int (jI (raR s f g p w)))) (hB G h (raS s f g p w)) := by
  refine Ct.of (by decide) (Nat.le_of_ble_eq_true rfl) (fun X hX hR => ?_)
  refine V.toLv (lv' := [(0, .ref (h 0)), (1, .int (jI f)), (2, .int (jI g)), (3, .int (jI p)), (4, .int (jI w))]) rfl ?_
  have hb := hI.base
  refine V_iload_n hX dX1_raise_0 1 rfl ?_
  refine V_cSN (st := []) (v := .int (jI (bI (0 ≤ f ∧ f ≤ 5)))) (w' := hB G h s) hX wc_X1_68 (c_X4_isField l G f (by omega)) (by decide) (by decide) rfl rfl (Nat.le_of_ble_eq_true rfl) dX1_raise_1 [] (hB G h s) (by simp only [List.append_assoc, List.nil_append, List.append_nil]) (by simp only [List.append_assoc, List.nil_append, List.append_nil]) rfl rfl ?_
  refine V_ifz (tgt := 15) hX dX1_raise_4 (by decide) (fun c_1 => ?_) (fun c_1 => ?_)
  · refine V_iconst hX dX1_raise_15 ?_
    exact V_iret hX hR dX1_raise_16 ⟨(congrArg (fun z => some (Value.int (jI z))) (by first | rfl | ((try unfold raR); (repeat' split) <;> first | rfl | omega | exact (up_same (by omega)).symm | exact up_same (by omega)))), (congrArg (hB G h) (by first | rfl | (unfold raS; split <;> first | rfl | omega)))⟩
  · refine V_iload hX dX1_raise_7 4 rfl ?_
    refine V_cSN (st := []) (v := .int (jI (bI (0 ≤ w ∧ w ≤ 3)))) (w' := hB G h s) hX wc_X1_72 (c_X4_isWay l G w (by omega)) (by decide) (by decide) rfl rfl (Nat.le_of_ble_eq_true rfl) dX1_raise_9 [] (hB G h s) (by simp only [List.append_assoc, List.nil_append, List.append_nil]) (by simp only [List.append_assoc, List.nil_append, List.append_nil]) rfl rfl ?_
    refine V_ifnz (tgt := 17) hX dX1_raise_12 (by decide) (fun c_2 => ?_) (fun c_2 => ?_)
    · refine V_iload_n hX dX1_raise_17 2 rfl ?_
      refine V_iconst hX dX1_raise_18 ?_
      refine V_iconst hX dX1_raise_19 ?_
      refine V_cSN (st := []) (v := .int (jI (bI (1 ≤ g ∧ g ≤ 5)))) (w' := hB G h s) hX wc_X1_75 (c_X4_isIn l G g 1 5 (by omega) (by omega) (by omega)) (by decide) (by decide) rfl rfl (Nat.le_of_ble_eq_true rfl) dX1_raise_20 [] (hB G h s) (by simp only [List.append_assoc, List.nil_append, List.append_nil]) (by simp only [List.append_assoc, List.nil_append, List.append_nil]) rfl rfl ?_
      refine V_ifz (tgt := 36) hX dX1_raise_23 (by decide) (fun c_3 => ?_) (fun c_3 => ?_)
      · refine V_bipush hX dX1_raise_36 (by decide) ?_
        exact V_iret hX hR dX1_raise_38 ⟨(congrArg (fun z => some (Value.int (jI z))) (by first | rfl | ((try unfold raR); (repeat' split) <;> first | rfl | omega | exact (up_same (by omega)).symm | exact up_same (by omega)))), (congrArg (hB G h) (by first | rfl | (unfold raS; split <;> first | rfl | omega)))⟩
      · refine V_iload_n hX dX1_raise_26 3 rfl ?_
        refine V_iconst hX dX1_raise_27 ?_
        refine V_bipush hX dX1_raise_28 (by decide) ?_
        refine V_cSN (st := []) (v := .int (jI (bI (1 ≤ p ∧ p ≤ 9)))) (w' := hB G h s) hX wc_X1_75 (c_X4_isIn l G p 1 9 (by omega) (by omega) (by omega)) (by decide) (by decide) rfl rfl (Nat.le_of_ble_eq_true rfl) dX1_raise_30 [] (hB G h s) (by simp only [List.append_assoc, List.nil_append, List.append_nil]) (by simp only [List.append_assoc, List.nil_append, List.append_nil]) rfl rfl ?_
        refine V_ifnz (tgt := 39) hX dX1_raise_33 (by decide) (fun c_4 => ?_) (fun c_4 => ?_)
        · refine V_aload_n hX dX1_raise_39 0 rfl ?_
          refine V_get (v := .int (jI (s 10))) hX cbX1 10 0 (by decide) wf_X1_53 rfl rfl rfl rfl dX1_raise_40 ?_
          refine V_bipush hX dX1_raise_43 (by decide) ?_
          refine V_icmp_lt (tgt := 51) hX dX1_raise_45 (by decide) (by omega) (by decide) (fun c_5 => ?_) (fun c_5 => ?_)
          · refine V_aload_n hX dX1_raise_51 0 rfl ?_
            refine V_get (v := .int (jI (s 10))) hX cbX1 10 0 (by decide) wf_X1_53 rfl rfl rfl rfl dX1_raise_52 ?_
            refine V_istore (i := 5) (lv' := [(5, .int (jI (s 10))), (0, .ref (h 0)), (1, .int (jI f)), (2, .int (jI g)), (3, .int (jI p)), (4, .int (jI w))]) hX dX1_raise_55 (by decide) rfl ?_
            refine V_aload_n hX dX1_raise_57 1 rfl ?_
            refine V_get (v := .ref (h 1)) hX cbX1 0 0 (by decide) wf_X1_9 rfl rfl rfl rfl dX1_raise_58 ?_
            refine V_iload hX dX1_raise_61 0 rfl ?_
            refine V_iload_n hX dX1_raise_63 2 rfl ?_
            refine V_iast (i0 := (s 10).toNat) (w' := hB G h (up s (ix ((s 10).toNat) 0) f)) hX 1 rfl (by omega) (by omega) (by omega) rfl dX1_raise_64 (hB_a0 G _ _ _ _) ?_
            refine V_aload_n hX dX1_raise_65 1 rfl ?_
            refine V_get (v := .ref (h 2)) hX cbX1 1 0 (by decide) wf_X1_15 rfl rfl rfl rfl dX1_raise_66 ?_
            refine V_iload hX dX1_raise_69 0 rfl ?_
            refine V_iload_n hX dX1_raise_71 3 rfl ?_
            refine V_iast (i0 := (s 10).toNat) (w' := hB G h (up (up s (ix ((s 10).toNat) 0) f) (ix ((s 10).toNat) 1) g)) hX 2 rfl (by omega) (by omega) (by omega) rfl dX1_raise_72 (hB_a1 G _ _ _ _) ?_
            refine V_aload_n hX dX1_raise_73 1 rfl ?_
            refine V_get (v := .ref (h 3)) hX cbX1 2 0 (by decide) wf_X1_18 rfl rfl rfl rfl dX1_raise_74 ?_
            refine V_iload hX dX1_raise_77 0 rfl ?_
            refine V_iload_n hX dX1_raise_79 4 rfl ?_
            refine V_iast (i0 := (s 10).toNat) (w' := hB G h (up (up (up s (ix ((s 10).toNat) 0) f) (ix ((s 10).toNat) 1) g) (ix ((s 10).toNat) 2) p)) hX 3 rfl (by omega) (by omega) (by omega) rfl dX1_raise_80 (hB_a2 G _ _ _ _) ?_
            refine V_aload_n hX dX1_raise_81 1 rfl ?_
            refine V_get (v := .ref (h 4)) hX cbX1 3 0 (by decide) wf_X1_21 rfl rfl rfl rfl dX1_raise_82 ?_
            refine V_iload hX dX1_raise_85 0 rfl ?_
            refine V_iload hX dX1_raise_87 5 rfl ?_
            refine V_iast (i0 := (s 10).toNat) (w' := hB G h (up (up (up (up s (ix ((s 10).toNat) 0) f) (ix ((s 10).toNat) 1) g) (ix ((s 10).toNat) 2) p) (ix ((s 10).toNat) 3) w)) hX 4 rfl (by omega) (by omega) (by omega) rfl dX1_raise_89 (hB_a3 G _ _ _ _) ?_
            refine V_aload_n hX dX1_raise_90 1 rfl ?_
            refine V_get (v := .ref (h 5)) hX cbX1 4 0 (by decide) wf_X1_24 rfl rfl rfl rfl dX1_raise_91 ?_
            refine V_iload hX dX1_raise_94 0 rfl ?_
            refine V_bipush hX dX1_raise_96 (by decide) ?_
            refine V_iast (i0 := (s 10).toNat) (w' := hB G h (up (up (up (up (up s (ix ((s 10).toNat) 0) f) (ix ((s 10).toNat) 1) g) (ix ((s 10).toNat) 2) p) (ix ((s 10).toNat) 3) w) (ix ((s 10).toNat) 4) 64)) hX 5 rfl (by omega) (by omega) (by omega) rfl dX1_raise_98 (hB_a4 G _ _ _ _) ?_
            refine V_aload_n hX dX1_raise_99 1 rfl ?_
            refine V_dup hX dX1_raise_100 rfl ?_
            refine V_get (v := .int (jI (s 10))) hX cbX1 10 0 (by decide) wf_X1_53 rfl rfl rfl (by show some (Value.int (jI ((up (up (up (up (up s (ix ((s 10).toNat) 0) f) (ix ((s 10).toNat) 1) g) (ix ((s 10).toNat) 2) p) (ix ((s 10).toNat) 3) w) (ix ((s 10).toNat) 4) 64) 10))) = some (Value.int (jI (s 10))); rw [up_ne (by unfold ix; omega), up_ne (by unfold ix; omega), up_ne (by unfold ix; omega), up_ne (by unfold ix; omega), up_ne (by unfold ix; omega)]) dX1_raise_101 ?_
            refine V_iconst hX dX1_raise_104 ?_
            refine V_iadd hX dX1_raise_105 rfl ?_
            refine V_put (w' := hB G h (up (up (up (up (up (up s (ix ((s 10).toNat) 0) f) (ix ((s 10).toNat) 1) g) (ix ((s 10).toNat) 2) p) (ix ((s 10).toNat) 3) w) (ix ((s 10).toNat) 4) 64) 10 ((s 10) + 1))) hX cbX1 10 0 (by decide) wf_X1_53 rfl rfl rfl rfl rfl rfl (Nat.le_of_ble_eq_true rfl) dX1_raise_106 (hB_f10 G _ _ _) ?_
            refine V_iload hX dX1_raise_109 0 rfl ?_
            exact V_iret hX hR dX1_raise_111 ⟨(congrArg (fun z => some (Value.int (jI z))) (by first | rfl | ((try unfold raR); (repeat' split) <;> first | rfl | omega | exact (up_same (by omega)).symm | exact up_same (by omega)))), (congrArg (hB G h) (by first | rfl | (unfold raS; split <;> first | rfl | omega)))⟩
          · refine V_bipush hX dX1_raise_48 (by decide) ?_
            exact V_iret hX hR dX1_raise_50 ⟨(congrArg (fun z => some (Value.int (jI z))) (by first | rfl | ((try unfold raR); (repeat' split) <;> first | rfl | omega | exact (up_same (by omega)).symm | exact up_same (by omega)))), (congrArg (hB G h) (by first | rfl | (unfold raS; split <;> first | rfl | omega)))⟩
        · refine V_bipush hX dX1_raise_36 (by decide) ?_
          exact V_iret hX hR dX1_raise_38 ⟨(congrArg (fun z => some (Value.int (jI z))) (by first | rfl | ((try unfold raR); (repeat' split) <;> first | rfl | omega | exact (up_same (by omega)).symm | exact up_same (by omega)))), (congrArg (hB G h) (by first | rfl | (unfold raS; split <;> first | rfl | omega)))⟩
    · refine V_iconst hX dX1_raise_15 ?_
      exact V_iret hX hR dX1_raise_16 ⟨(congrArg (fun z => some (Value.int (jI z))) (by first | rfl | ((try unfold raR); (repeat' split) <;> first | rfl | omega | exact (up_same (by omega)).symm | exact up_same (by omega)))), (congrArg (hB G h) (by first | rfl | (unfold raS; split <;> first | rfl | omega)))⟩

set_option maxHeartbeats 4000000 in
set_option maxRecDepth 100000 in
theorem c_X1_bring (l : Launch) (G : vC) (h : Nat → Nat) (s : Nat → Int) (t : Int) (a : Int) (b : Int) (hI : Inv t s) (ha : iR a) (hb : iR b) : Fn l G yX1_bring cX1_bring 4 (some .int) ({ frames := 2, cells := 0, slots := 0, locals := 42 } : Room) [.ref (h 0), .int (jI a), .int (jI b)] (hB G h s) (some (.int (jI (brR s a b)))) (hB G h (brS s a b)) := by
  refine Ct.of (by decide) (Nat.le_of_ble_eq_true rfl) (fun X hX hR => ?_)
  refine V.toLv (lv' := [(0, .ref (h 0)), (1, .int (jI a)), (2, .int (jI b))]) rfl ?_
  have hb := hI.base
  refine V_aload_n hX dX1_bring_0 0 rfl ?_
  refine V_iload_n hX dX1_bring_1 1 rfl ?_
  refine V_cV (st := []) (v := .int (jI (bI (0 ≤ a ∧ a < s 10)))) (w' := hB G h s) hX wc_X1_79 (c_X1_isScarecrow l G h s t a hI (by omega)) (by decide) (by decide) rfl rfl (Nat.le_of_ble_eq_true rfl) dX1_bring_2 [] ([]) (by simp only [List.append_assoc, List.nil_append, List.append_nil]) 0 rfl rfl (by simp only [List.append_assoc, List.nil_append, List.append_nil]) rfl rfl ?_
  refine V_ifz (tgt := 15) hX dX1_bring_5 (by decide) (fun c_1 => ?_) (fun c_1 => ?_)
  · refine V_iconst hX dX1_bring_15 ?_
    exact V_iret hX hR dX1_bring_16 ⟨(congrArg (fun z => some (Value.int (jI z))) (by unfold brR; (repeat' split) <;> omega)), (congrArg (hB G h) (by unfold brS; split <;> first | rfl | omega | exact (up_same (by omega)).symm))⟩
  · refine V_iload_n hX dX1_bring_8 2 rfl ?_
    refine V_cSN (st := []) (v := .int (jI (bI (0 ≤ b ∧ b ≤ 5)))) (w' := hB G h s) hX wc_X1_68 (c_X4_isField l G b (by omega)) (by decide) (by decide) rfl rfl (Nat.le_of_ble_eq_true rfl) dX1_bring_9 [] (hB G h s) (by simp only [List.append_assoc, List.nil_append, List.append_nil]) (by simp only [List.append_assoc, List.nil_append, List.append_nil]) rfl rfl ?_
    refine V_ifnz (tgt := 17) hX dX1_bring_12 (by decide) (fun c_2 => ?_) (fun c_2 => ?_)
    · have hs := hI.sc a.toNat (by omega)
      refine V_aload_n hX dX1_bring_17 0 rfl ?_
      refine V_get (v := .ref (h 1)) hX cbX1 0 0 (by decide) wf_X1_9 rfl rfl rfl rfl dX1_bring_18 ?_
      refine V_iload_n hX dX1_bring_21 1 rfl ?_
      refine V_iald (i0 := a.toNat) (r := (jI (s (ix a.toNat 0)))) hX 1 rfl (by omega) (by omega) (by omega) rfl rfl dX1_bring_22 ?_
      refine V_istore_n (i := 3) (lv' := [(3, .int (jI (s (ix a.toNat 0)))), (0, .ref (h 0)), (1, .int (jI a)), (2, .int (jI b))]) hX dX1_bring_23 rfl (by decide) rfl ?_
      refine V_iload_n hX dX1_bring_24 0 rfl ?_
      refine V_iload_n hX dX1_bring_25 3 rfl ?_
      refine V_icmp_ne (tgt := 32) hX dX1_bring_26 (by decide) (by omega) (by omega) (fun c_3 => ?_) (fun c_3 => ?_)
      · refine V_aload_n hX dX1_bring_32 1 rfl ?_
        refine V_get (v := .ref (h 1)) hX cbX1 0 0 (by decide) wf_X1_9 rfl rfl rfl rfl dX1_bring_33 ?_
        refine V_iload_n hX dX1_bring_36 2 rfl ?_
        refine V_iload_n hX dX1_bring_37 3 rfl ?_
        refine V_iast (i0 := a.toNat) (w' := hB G h (up s (ix a.toNat 0) b)) hX 1 rfl (by omega) (by omega) (by omega) rfl dX1_bring_38 (hB_a0 G _ _ _ _) ?_
        refine V_iload_n hX dX1_bring_39 0 rfl ?_
        exact V_iret hX hR dX1_bring_40 ⟨(congrArg (fun z => some (Value.int (jI z))) (by unfold brR; (repeat' split) <;> omega)), (congrArg (hB G h) (by unfold brS; split <;> first | rfl | omega | exact (up_same (by omega)).symm))⟩
      · refine V_bipush hX dX1_bring_29 (by decide) ?_
        exact V_iret hX hR dX1_bring_31 ⟨(congrArg (fun z => some (Value.int (jI z))) (by unfold brR; (repeat' split) <;> omega)), (congrArg (hB G h) (by unfold brS; split <;> first | rfl | omega | exact (up_same (by omega)).symm))⟩
    · refine V_iconst hX dX1_bring_15 ?_
      exact V_iret hX hR dX1_bring_16 ⟨(congrArg (fun z => some (Value.int (jI z))) (by unfold brR; (repeat' split) <;> omega)), (congrArg (hB G h) (by unfold brS; split <;> first | rfl | omega | exact (up_same (by omega)).symm))⟩

set_option maxHeartbeats 4000000 in
set_option maxRecDepth 100000 in
theorem c_X1_turnByHand (l : Launch) (G : vC) (h : Nat → Nat) (s : Nat → Int) (t : Int) (a : Int) (b : Int) (hI : Inv t s) (ha : iR a) (hb : iR b) : Fn l G yX1_turnByHand cX1_turnByHand 4 (some .int) ({ frames := 2, cells := 0, slots := 0, locals := 42 } : Room) [.ref (h 0), .int (jI a), .int (jI b)] (hB G h s) (some (.int (jI (thR s a b)))) (hB G h (thS s a b)) := by
  refine Ct.of (by decide) (Nat.le_of_ble_eq_true rfl) (fun X hX hR => ?_)
  refine V.toLv (lv' := [(0, .ref (h 0)), (1, .int (jI a)), (2, .int (jI b))]) rfl ?_
  have hb := hI.base
  refine V_aload_n hX dX1_turnByHand_0 0 rfl ?_
  refine V_iload_n hX dX1_turnByHand_1 1 rfl ?_
  refine V_cV (st := []) (v := .int (jI (bI (0 ≤ a ∧ a < s 10)))) (w' := hB G h s) hX wc_X1_79 (c_X1_isScarecrow l G h s t a hI (by omega)) (by decide) (by decide) rfl rfl (Nat.le_of_ble_eq_true rfl) dX1_turnByHand_2 [] ([]) (by simp only [List.append_assoc, List.nil_append, List.append_nil]) 0 rfl rfl (by simp only [List.append_assoc, List.nil_append, List.append_nil]) rfl rfl ?_
  refine V_ifz (tgt := 15) hX dX1_turnByHand_5 (by decide) (fun c_1 => ?_) (fun c_1 => ?_)
  · refine V_iconst hX dX1_turnByHand_15 ?_
    exact V_iret hX hR dX1_turnByHand_16 ⟨(congrArg (fun z => some (Value.int (jI z))) (by unfold thR; (repeat' split) <;> omega)), (congrArg (hB G h) (by unfold thS; split <;> first | rfl | omega | exact (up_same (by omega)).symm))⟩
  · refine V_iload_n hX dX1_turnByHand_8 2 rfl ?_
    refine V_cSN (st := []) (v := .int (jI (bI (0 ≤ b ∧ b ≤ 3)))) (w' := hB G h s) hX wc_X1_72 (c_X4_isWay l G b (by omega)) (by decide) (by decide) rfl rfl (Nat.le_of_ble_eq_true rfl) dX1_turnByHand_9 [] (hB G h s) (by simp only [List.append_assoc, List.nil_append, List.append_nil]) (by simp only [List.append_assoc, List.nil_append, List.append_nil]) rfl rfl ?_
    refine V_ifnz (tgt := 17) hX dX1_turnByHand_12 (by decide) (fun c_2 => ?_) (fun c_2 => ?_)
    · have hs := hI.sc a.toNat (by omega)
      refine V_aload_n hX dX1_turnByHand_17 0 rfl ?_
      refine V_get (v := .ref (h 4)) hX cbX1 3 0 (by decide) wf_X1_21 rfl rfl rfl rfl dX1_turnByHand_18 ?_
      refine V_iload_n hX dX1_turnByHand_21 1 rfl ?_
      refine V_iald (i0 := a.toNat) (r := (jI (s (ix a.toNat 3)))) hX 4 rfl (by omega) (by omega) (by omega) rfl rfl dX1_turnByHand_22 ?_
      refine V_istore_n (i := 3) (lv' := [(3, .int (jI (s (ix a.toNat 3)))), (0, .ref (h 0)), (1, .int (jI a)), (2, .int (jI b))]) hX dX1_turnByHand_23 rfl (by decide) rfl ?_
      refine V_iload_n hX dX1_turnByHand_24 0 rfl ?_
      refine V_iload_n hX dX1_turnByHand_25 3 rfl ?_
      refine V_icmp_ne (tgt := 32) hX dX1_turnByHand_26 (by decide) (by omega) (by omega) (fun c_3 => ?_) (fun c_3 => ?_)
      · refine V_aload_n hX dX1_turnByHand_32 1 rfl ?_
        refine V_get (v := .ref (h 4)) hX cbX1 3 0 (by decide) wf_X1_21 rfl rfl rfl rfl dX1_turnByHand_33 ?_
        refine V_iload_n hX dX1_turnByHand_36 2 rfl ?_
        refine V_iload_n hX dX1_turnByHand_37 3 rfl ?_
        refine V_iast (i0 := a.toNat) (w' := hB G h (up s (ix a.toNat 3) b)) hX 4 rfl (by omega) (by omega) (by omega) rfl dX1_turnByHand_38 (hB_a3 G _ _ _ _) ?_
        refine V_iload_n hX dX1_turnByHand_39 0 rfl ?_
        exact V_iret hX hR dX1_turnByHand_40 ⟨(congrArg (fun z => some (Value.int (jI z))) (by unfold thR; (repeat' split) <;> omega)), (congrArg (hB G h) (by unfold thS; split <;> first | rfl | omega | exact (up_same (by omega)).symm))⟩
      · refine V_bipush hX dX1_turnByHand_29 (by decide) ?_
        exact V_iret hX hR dX1_turnByHand_31 ⟨(congrArg (fun z => some (Value.int (jI z))) (by unfold thR; (repeat' split) <;> omega)), (congrArg (hB G h) (by unfold thS; split <;> first | rfl | omega | exact (up_same (by omega)).symm))⟩
    · refine V_iconst hX dX1_turnByHand_15 ?_
      exact V_iret hX hR dX1_turnByHand_16 ⟨(congrArg (fun z => some (Value.int (jI z))) (by unfold thR; (repeat' split) <;> omega)), (congrArg (hB G h) (by unfold thS; split <;> first | rfl | omega | exact (up_same (by omega)).symm))⟩

set_option maxHeartbeats 4000000 in
set_option maxRecDepth 100000 in
theorem c_X1_takeCrow (l : Launch) (G : vC) (h : Nat → Nat) (s : Nat → Int) (t : Int) (a : Int) (b : Int) (hI : Inv t s) (ha : iR a) (hb : iR b) : Fn l G yX1_takeCrow cX1_takeCrow 4 (some .int) ({ frames := 2, cells := 0, slots := 0, locals := 42 } : Room) [.ref (h 0), .int (jI a), .int (jI b)] (hB G h s) (some (.int (jI (tcR s a b)))) (hB G h (tcS s a b)) := by
  refine Ct.of (by decide) (Nat.le_of_ble_eq_true rfl) (fun X hX hR => ?_)
  refine V.toLv (lv' := [(0, .ref (h 0)), (1, .int (jI a)), (2, .int (jI b))]) rfl ?_
  have hb := hI.base
  refine V_aload_n hX dX1_takeCrow_0 0 rfl ?_
  refine V_iload_n hX dX1_takeCrow_1 1 rfl ?_
  refine V_cV (st := []) (v := .int (jI (bI (0 ≤ a ∧ a < s 10)))) (w' := hB G h s) hX wc_X1_79 (c_X1_isScarecrow l G h s t a hI (by omega)) (by decide) (by decide) rfl rfl (Nat.le_of_ble_eq_true rfl) dX1_takeCrow_2 [] ([]) (by simp only [List.append_assoc, List.nil_append, List.append_nil]) 0 rfl rfl (by simp only [List.append_assoc, List.nil_append, List.append_nil]) rfl rfl ?_
  refine V_ifz (tgt := 15) hX dX1_takeCrow_5 (by decide) (fun c_1 => ?_) (fun c_1 => ?_)
  · refine V_iconst hX dX1_takeCrow_15 ?_
    exact V_iret hX hR dX1_takeCrow_16 ⟨(congrArg (fun z => some (Value.int (jI z))) (by unfold tcR; (repeat' split) <;> omega)), (congrArg (hB G h) (by unfold tcS; split <;> first | rfl | omega))⟩
  · refine V_iload_n hX dX1_takeCrow_8 2 rfl ?_
    refine V_cSN (st := []) (v := .int (jI (bI (0 ≤ b ∧ b ≤ 3)))) (w' := hB G h s) hX wc_X1_72 (c_X4_isWay l G b (by omega)) (by decide) (by decide) rfl rfl (Nat.le_of_ble_eq_true rfl) dX1_takeCrow_9 [] (hB G h s) (by simp only [List.append_assoc, List.nil_append, List.append_nil]) (by simp only [List.append_assoc, List.nil_append, List.append_nil]) rfl rfl ?_
    refine V_ifnz (tgt := 17) hX dX1_takeCrow_12 (by decide) (fun c_2 => ?_) (fun c_2 => ?_)
    · have hs := hI.sc a.toNat (by omega)
      have hcr := hI.cr a.toNat b.toNat (by omega) (by omega)
      have hcN : crN s a.toNat = s (ix a.toNat 5) + s (ix a.toNat 6) + s (ix a.toNat 7) + s (ix a.toNat 8) := rfl
      refine V_aload_n hX dX1_takeCrow_17 0 rfl ?_
      refine V_get (v := .ref (h 5)) hX cbX1 4 0 (by decide) wf_X1_24 rfl rfl rfl rfl dX1_takeCrow_18 ?_
      refine V_iload_n hX dX1_takeCrow_21 1 rfl ?_
      refine V_iald (i0 := a.toNat) (r := (jI (s (ix a.toNat 4)))) hX 5 rfl (by omega) (by omega) (by omega) rfl rfl dX1_takeCrow_22 ?_
      refine V_if_ne (tgt := 29) hX dX1_takeCrow_23 (by decide) (by omega) (fun c_3 => ?_) (fun c_3 => ?_)
      · refine V_aload_n hX dX1_takeCrow_29 0 rfl ?_
        refine V_iload_n hX dX1_takeCrow_30 1 rfl ?_
        refine V.sk (st' := [.int (jI ((a.toNat : Int))), .ref (h 0)]) (congrArg (fun z : Int => [Value.int (jI z), Value.ref (h 0)]) (show a = (a.toNat : Int) by omega)) ?_
        refine V_cV (st := []) (v := .int (jI (crN s a.toNat))) (w' := hB G h s) hX wc_X1_82 (c_X1_crowsOn l G h s t a.toNat hI (by omega)) (by decide) (by decide) rfl rfl (Nat.le_of_ble_eq_true rfl) dX1_takeCrow_31 [] ([]) (by simp only [List.append_assoc, List.nil_append, List.append_nil]) 0 rfl rfl (by simp only [List.append_assoc, List.nil_append, List.append_nil]) rfl rfl ?_
        refine V_istore_n (i := 3) (lv' := [(3, .int (jI (crN s a.toNat))), (0, .ref (h 0)), (1, .int (jI a)), (2, .int (jI b))]) hX dX1_takeCrow_34 rfl (by decide) rfl ?_
        refine V_iload_n hX dX1_takeCrow_35 0 rfl ?_
        refine V_bipush hX dX1_takeCrow_36 (by decide) ?_
        refine V_icmp_lt (tgt := 44) hX dX1_takeCrow_38 (by decide) (by omega) (by decide) (fun c_4 => ?_) (fun c_4 => ?_)
        · refine V_aload_n hX dX1_takeCrow_44 1 rfl ?_
          refine V_get (v := .ref (h 8)) hX cbX1 7 0 (by decide) wf_X1_33 rfl rfl rfl rfl dX1_takeCrow_45 ?_
          refine V_iload_n hX dX1_takeCrow_48 2 rfl ?_
          refine V_iconst hX dX1_takeCrow_49 ?_
          refine V_imul hX dX1_takeCrow_50 rfl ?_
          refine V_iload_n hX dX1_takeCrow_51 3 rfl ?_
          refine V_iadd hX dX1_takeCrow_52 rfl ?_
          refine V_dup2 hX dX1_takeCrow_53 rfl rfl ?_
          refine V_iald (i0 := a.toNat * 4 + b.toNat) (r := (jI (s (ix a.toNat (5 + b.toNat))))) hX 8 rfl (by omega) (by omega) (by omega) (by omega) (by show jI (s (ix ((a.toNat * 4 + b.toNat) / 4) (5 + (a.toNat * 4 + b.toNat) % 4))) = jI (s (ix a.toNat (5 + b.toNat))); rw [show ix ((a.toNat * 4 + b.toNat) / 4) (5 + (a.toNat * 4 + b.toNat) % 4) = ix a.toNat (5 + b.toNat) by unfold ix; omega]) dX1_takeCrow_54 ?_
          refine V_iconst hX dX1_takeCrow_55 ?_
          refine V_iadd hX dX1_takeCrow_56 rfl ?_
          refine V_iast (i0 := a.toNat * 4 + b.toNat) (w' := hB G h (up s (ix a.toNat (5 + b.toNat)) ((s (ix a.toNat (5 + b.toNat))) + 1))) hX 8 rfl (by omega) (by omega) (by omega) (by omega) dX1_takeCrow_57 (hB_cr G _ _ a.toNat b.toNat (by omega) _) ?_
          refine V_iload_n hX dX1_takeCrow_58 0 rfl ?_
          refine V_iconst hX dX1_takeCrow_59 ?_
          refine V_iadd hX dX1_takeCrow_60 rfl ?_
          exact V_iret hX hR dX1_takeCrow_61 ⟨(congrArg (fun z => some (Value.int (jI z))) (by unfold tcR; (repeat' split) <;> omega)), (congrArg (hB G h) (by unfold tcS; split <;> first | rfl | omega))⟩
        · refine V_bipush hX dX1_takeCrow_41 (by decide) ?_
          exact V_iret hX hR dX1_takeCrow_43 ⟨(congrArg (fun z => some (Value.int (jI z))) (by unfold tcR; (repeat' split) <;> omega)), (congrArg (hB G h) (by unfold tcS; split <;> first | rfl | omega))⟩
      · refine V_bipush hX dX1_takeCrow_26 (by decide) ?_
        exact V_iret hX hR dX1_takeCrow_28 ⟨(congrArg (fun z => some (Value.int (jI z))) (by unfold tcR; (repeat' split) <;> omega)), (congrArg (hB G h) (by unfold tcS; split <;> first | rfl | omega))⟩
    · refine V_iconst hX dX1_takeCrow_15 ?_
      exact V_iret hX hR dX1_takeCrow_16 ⟨(congrArg (fun z => some (Value.int (jI z))) (by unfold tcR; (repeat' split) <;> omega)), (congrArg (hB G h) (by unfold tcS; split <;> first | rfl | omega))⟩

set_option maxHeartbeats 4000000 in
set_option maxRecDepth 100000 in
theorem c_X1_scareOff (l : Launch) (G : vC) (h : Nat → Nat) (s : Nat → Int) (t : Int) (a : Int) (hI : Inv t s) (ha : iR a) : Fn l G yX1_scareOff cX1_scareOff 3 (some .int) ({ frames := 1, cells := 0, slots := 0, locals := 23 } : Room) [.ref (h 0), .int (jI a)] (hB G h s) (some (.int (jI (soR s a)))) (hB G h (soS s a)) := by
  refine Ct.of (by decide) (Nat.le_of_ble_eq_true rfl) (fun X hX hR => ?_)
  refine V.toLv (lv' := [(0, .ref (h 0)), (1, .int (jI a))]) rfl ?_
  have hb := hI.base
  refine V_aload_n hX dX1_scareOff_0 0 rfl ?_
  refine V_iload_n hX dX1_scareOff_1 1 rfl ?_
  refine V_cV (st := []) (v := .int (jI (bI (0 ≤ a ∧ a < s 10)))) (w' := hB G h s) hX wc_X1_79 (c_X1_isScarecrow l G h s t a hI (by omega)) (by decide) (by decide) rfl rfl (Nat.le_of_ble_eq_true rfl) dX1_scareOff_2 [] ([]) (by simp only [List.append_assoc, List.nil_append, List.append_nil]) 0 rfl rfl (by simp only [List.append_assoc, List.nil_append, List.append_nil]) rfl rfl ?_
  refine V_ifnz (tgt := 10) hX dX1_scareOff_5 (by decide) (fun c_1 => ?_) (fun c_1 => ?_)
  · have hs := hI.sc a.toNat (by omega)
    have hcN : crN s a.toNat = s (ix a.toNat 5) + s (ix a.toNat 6) + s (ix a.toNat 7) + s (ix a.toNat 8) := rfl
    refine V_aload_n hX dX1_scareOff_10 0 rfl ?_
    refine V_iload_n hX dX1_scareOff_11 1 rfl ?_
    refine V.sk (st' := [.int (jI ((a.toNat : Int))), .ref (h 0)]) (congrArg (fun z : Int => [Value.int (jI z), Value.ref (h 0)]) (show a = (a.toNat : Int) by omega)) ?_
    refine V_cV (st := []) (v := .int (jI (crN s a.toNat))) (w' := hB G h s) hX wc_X1_82 (c_X1_crowsOn l G h s t a.toNat hI (by omega)) (by decide) (by decide) rfl rfl (Nat.le_of_ble_eq_true rfl) dX1_scareOff_12 [] ([]) (by simp only [List.append_assoc, List.nil_append, List.append_nil]) 0 rfl rfl (by simp only [List.append_assoc, List.nil_append, List.append_nil]) rfl rfl ?_
    refine V_istore_n (i := 2) (lv' := [(2, .int (jI (crN s a.toNat))), (0, .ref (h 0)), (1, .int (jI a))]) hX dX1_scareOff_15 rfl (by decide) rfl ?_
    refine V_iload_n hX dX1_scareOff_16 0 rfl ?_
    refine V_if_ne (tgt := 23) hX dX1_scareOff_17 (by decide) (by omega) (fun c_2 => ?_) (fun c_2 => ?_)
    · refine V_aload_n hX dX1_scareOff_23 1 rfl ?_
      refine V_iload_n hX dX1_scareOff_24 2 rfl ?_
      refine V.sk (st' := [.int (jI ((a.toNat : Int))), .ref (h 0)]) (congrArg (fun z : Int => [Value.int (jI z), Value.ref (h 0)]) (show a = (a.toNat : Int) by omega)) ?_
      refine V_dV (st := []) (w' := hB G h (fly s a.toNat)) hX wc_X1_86 (c_X1_letCrowsFly l G h s a.toNat (by omega)) (by decide) (by decide) rfl rfl (Nat.le_of_ble_eq_true rfl) dX1_scareOff_25 [] ([]) (by simp only [List.append_assoc, List.nil_append, List.append_nil]) 0 rfl rfl (by simp only [List.append_assoc, List.nil_append, List.append_nil]) rfl rfl ?_
      refine V_iload_n hX dX1_scareOff_28 0 rfl ?_
      exact V_iret hX hR dX1_scareOff_29 ⟨(congrArg (fun z => some (Value.int (jI z))) (by unfold soR; (repeat' split) <;> omega)), (congrArg (hB G h) (by unfold soS; split <;> first | rfl | omega | exact (fly_same (by omega) (by omega) (by omega) (by omega)).symm))⟩
    · refine V_bipush hX dX1_scareOff_20 (by decide) ?_
      exact V_iret hX hR dX1_scareOff_22 ⟨(congrArg (fun z => some (Value.int (jI z))) (by unfold soR; (repeat' split) <;> omega)), (congrArg (hB G h) (by unfold soS; split <;> first | rfl | omega | exact (fly_same (by omega) (by omega) (by omega) (by omega)).symm))⟩
  · refine V_iconst hX dX1_scareOff_8 ?_
    exact V_iret hX hR dX1_scareOff_9 ⟨(congrArg (fun z => some (Value.int (jI z))) (by unfold soR; (repeat' split) <;> omega)), (congrArg (hB G h) (by unfold soS; split <;> first | rfl | omega | exact (fly_same (by omega) (by omega) (by omega) (by omega)).symm))⟩

set_option maxHeartbeats 4000000 in
set_option maxRecDepth 100000 in
theorem c_X1_stuff (l : Launch) (G : vC) (h : Nat → Nat) (s : Nat → Int) (t : Int) (a : Int) (m : Int) (hI : Inv t s) (ha : iR a) (hm : iR m) : Fn l G yX1_stuff cX1_stuff 4 (some .int) ({ frames := 1, cells := 0, slots := 0, locals := 22 } : Room) [.ref (h 0), .int (jI a), .int (jI m)] (hB G h s) (some (.int (jI (stR s a m)))) (hB G h (stS s a m)) := by
  refine Ct.of (by decide) (Nat.le_of_ble_eq_true rfl) (fun X hX hR => ?_)
  refine V.toLv (lv' := [(0, .ref (h 0)), (1, .int (jI a)), (2, .int (jI m))]) rfl ?_
  have hb := hI.base
  refine V_aload_n hX dX1_stuff_0 0 rfl ?_
  refine V_iload_n hX dX1_stuff_1 1 rfl ?_
  refine V_cV (st := []) (v := .int (jI (bI (0 ≤ a ∧ a < s 10)))) (w' := hB G h s) hX wc_X1_79 (c_X1_isScarecrow l G h s t a hI (by omega)) (by decide) (by decide) rfl rfl (Nat.le_of_ble_eq_true rfl) dX1_stuff_2 [] ([]) (by simp only [List.append_assoc, List.nil_append, List.append_nil]) 0 rfl rfl (by simp only [List.append_assoc, List.nil_append, List.append_nil]) rfl rfl ?_
  refine V_ifnz (tgt := 10) hX dX1_stuff_5 (by decide) (fun c_1 => ?_) (fun c_1 => ?_)
  · refine V_iload_n hX dX1_stuff_10 2 rfl ?_
    refine V_iconst hX dX1_stuff_11 ?_
    refine V_bipush hX dX1_stuff_12 (by decide) ?_
    refine V_cSN (st := []) (v := .int (jI (bI (1 ≤ m ∧ m ≤ 64)))) (w' := hB G h s) hX wc_X1_75 (c_X4_isIn l G m 1 64 (by omega) (by omega) (by omega)) (by decide) (by decide) rfl rfl (Nat.le_of_ble_eq_true rfl) dX1_stuff_14 [] (hB G h s) (by simp only [List.append_assoc, List.nil_append, List.append_nil]) (by simp only [List.append_assoc, List.nil_append, List.append_nil]) rfl rfl ?_
    refine V_ifnz (tgt := 23) hX dX1_stuff_17 (by decide) (fun c_2 => ?_) (fun c_2 => ?_)
    · have hs := hI.sc a.toNat (by omega)
      have hfm : 0 ≤ flM s a.toNat ∧ flM s a.toNat ≤ 64 := by unfold flM; split <;> omega
      have hfn : 0 ≤ flN s a.toNat m ∧ flN s a.toNat m ≤ 64 ∧ flN s a.toNat m ≤ s 5 := by unfold flN flM; (repeat' split) <;> omega
      refine V_iload_n hX dX1_stuff_23 2 rfl ?_
      refine V_bipush hX dX1_stuff_24 (by decide) ?_
      refine V_aload_n hX dX1_stuff_26 0 rfl ?_
      refine V_get (v := .ref (h 5)) hX cbX1 4 0 (by decide) wf_X1_24 rfl rfl rfl rfl dX1_stuff_27 ?_
      refine V_iload_n hX dX1_stuff_30 1 rfl ?_
      refine V_iald (i0 := a.toNat) (r := (jI (s (ix a.toNat 4)))) hX 5 rfl (by omega) (by omega) (by omega) rfl rfl dX1_stuff_31 ?_
      refine V_isub hX dX1_stuff_32 rfl ?_
      refine V_aload_n hX dX1_stuff_33 0 rfl ?_
      refine V_get (v := .int (jI (s 5))) hX cbX1 13 0 (by decide) wf_X1_42 rfl rfl rfl rfl dX1_stuff_34 ?_
      refine V_min hX dX1_stuff_37 wo_X1_90 (by omega) (by omega) (by decide) (Nat.le_of_ble_eq_true rfl) (by decide) (by decide) rfl ?_
      refine V.sk (st' := [.int (jI (flM s a.toNat)), .int (jI m)]) rfl ?_
      refine V_min hX dX1_stuff_40 wo_X1_90 (by omega) (by omega) (by decide) (Nat.le_of_ble_eq_true rfl) (by decide) (by decide) rfl ?_
      refine V.sk (st' := [.int (jI (flN s a.toNat m))]) rfl ?_
      refine V_istore_n (i := 3) (lv' := [(3, .int (jI (flN s a.toNat m))), (0, .ref (h 0)), (1, .int (jI a)), (2, .int (jI m))]) hX dX1_stuff_43 rfl (by decide) rfl ?_
      refine V_iload_n hX dX1_stuff_44 0 rfl ?_
      refine V_if_gt (tgt := 51) hX dX1_stuff_45 (by decide) (by omega) (fun c_3 => ?_) (fun c_3 => ?_)
      · refine V_aload_n hX dX1_stuff_51 1 rfl ?_
        refine V_get (v := .ref (h 5)) hX cbX1 4 0 (by decide) wf_X1_24 rfl rfl rfl rfl dX1_stuff_52 ?_
        refine V_iload_n hX dX1_stuff_55 2 rfl ?_
        refine V_dup2 hX dX1_stuff_56 rfl rfl ?_
        refine V_iald (i0 := a.toNat) (r := (jI (s (ix a.toNat 4)))) hX 5 rfl (by omega) (by omega) (by omega) rfl rfl dX1_stuff_57 ?_
        refine V_iload_n hX dX1_stuff_58 0 rfl ?_
        refine V_iadd hX dX1_stuff_59 rfl ?_
        refine V_iast (i0 := a.toNat) (w' := hB G h (up s (ix a.toNat 4) ((s (ix a.toNat 4)) + (flN s a.toNat m)))) hX 5 rfl (by omega) (by omega) (by omega) rfl dX1_stuff_60 (hB_a4 G _ _ _ _) ?_
        refine V_aload_n hX dX1_stuff_61 1 rfl ?_
        refine V_dup hX dX1_stuff_62 rfl ?_
        refine V_get (v := .int (jI (s 5))) hX cbX1 13 0 (by decide) wf_X1_42 rfl rfl rfl (by show some (Value.int (jI ((up s (ix a.toNat 4) ((s (ix a.toNat 4)) + (flN s a.toNat m))) 5))) = some (Value.int (jI (s 5))); rw [up_ne (by unfold ix; omega)]) dX1_stuff_63 ?_
        refine V_iload_n hX dX1_stuff_66 0 rfl ?_
        refine V_isub hX dX1_stuff_67 rfl ?_
        refine V_put (w' := hB G h (up (up s (ix a.toNat 4) ((s (ix a.toNat 4)) + (flN s a.toNat m))) 5 ((s 5) - (flN s a.toNat m)))) hX cbX1 13 0 (by decide) wf_X1_42 rfl rfl rfl rfl rfl rfl (Nat.le_of_ble_eq_true rfl) dX1_stuff_68 (hB_f13 G _ _ _) ?_
        refine V_iload_n hX dX1_stuff_71 0 rfl ?_
        exact V_iret hX hR dX1_stuff_72 ⟨(congrArg (fun z => some (Value.int (jI z))) (by unfold stR; (repeat' split) <;> omega)), (congrArg (hB G h) (by unfold stS; split <;> first | rfl | omega | exact (st_same (by omega)).symm))⟩
      · refine V_bipush hX dX1_stuff_48 (by decide) ?_
        exact V_iret hX hR dX1_stuff_50 ⟨(congrArg (fun z => some (Value.int (jI z))) (by unfold stR; (repeat' split) <;> omega)), (congrArg (hB G h) (by unfold stS; split <;> first | rfl | omega | exact (st_same (by omega)).symm))⟩
    · refine V_bipush hX dX1_stuff_20 (by decide) ?_
      exact V_iret hX hR dX1_stuff_22 ⟨(congrArg (fun z => some (Value.int (jI z))) (by unfold stR; (repeat' split) <;> omega)), (congrArg (hB G h) (by unfold stS; split <;> first | rfl | omega | exact (st_same (by omega)).symm))⟩
  · refine V_iconst hX dX1_stuff_8 ?_
    exact V_iret hX hR dX1_stuff_9 ⟨(congrArg (fun z => some (Value.int (jI z))) (by unfold stR; (repeat' split) <;> omega)), (congrArg (hB G h) (by unfold stS; split <;> first | rfl | omega | exact (st_same (by omega)).symm))⟩

set_option maxHeartbeats 4000000 in
set_option maxRecDepth 100000 in
theorem c_X1_giveSeats (l : Launch) (G : vC) (h : Nat → Nat) (s : Nat → Int) (t : Int) (f : Int) (m : Int) (hI : Inv t s) (hf : iR f) (hm : iR m) : Fn l G yX1_giveSeats cX1_giveSeats 4 (some .int) ({ frames := 2, cells := 0, slots := 0, locals := 42 } : Room) [.ref (h 0), .int (jI f), .int (jI m)] (hB G h s) (some (.int (jI (gsR s f m)))) (hB G h (gsS s f m)) := by
  refine Ct.of (by decide) (Nat.le_of_ble_eq_true rfl) (fun X hX hR => ?_)
  refine V.toLv (lv' := [(0, .ref (h 0)), (1, .int (jI f)), (2, .int (jI m))]) rfl ?_
  have hb := hI.base
  refine V_iload_n hX dX1_giveSeats_0 1 rfl ?_
  refine V_cSN (st := []) (v := .int (jI (bI (0 ≤ f ∧ f ≤ 5)))) (w' := hB G h s) hX wc_X1_68 (c_X4_isField l G f (by omega)) (by decide) (by decide) rfl rfl (Nat.le_of_ble_eq_true rfl) dX1_giveSeats_1 [] (hB G h s) (by simp only [List.append_assoc, List.nil_append, List.append_nil]) (by simp only [List.append_assoc, List.nil_append, List.append_nil]) rfl rfl ?_
  refine V_ifnz (tgt := 9) hX dX1_giveSeats_4 (by decide) (fun c_1 => ?_) (fun c_1 => ?_)
  · refine V_iload_n hX dX1_giveSeats_9 2 rfl ?_
    refine V_iconst hX dX1_giveSeats_10 ?_
    refine V_bipush hX dX1_giveSeats_11 (by decide) ?_
    refine V_cSN (st := []) (v := .int (jI (bI (1 ≤ m ∧ m ≤ 9)))) (w' := hB G h s) hX wc_X1_75 (c_X4_isIn l G m 1 9 (by omega) (by omega) (by omega)) (by decide) (by decide) rfl rfl (Nat.le_of_ble_eq_true rfl) dX1_giveSeats_13 [] (hB G h s) (by simp only [List.append_assoc, List.nil_append, List.append_nil]) (by simp only [List.append_assoc, List.nil_append, List.append_nil]) rfl rfl ?_
    refine V_ifnz (tgt := 22) hX dX1_giveSeats_16 (by decide) (fun c_2 => ?_) (fun c_2 => ?_)
    · have hse := hI.se f.toNat (by omega)
      refine V_aload_n hX dX1_giveSeats_22 0 rfl ?_
      refine V_get (v := .ref (h 9)) hX cbX1 8 0 (by decide) wf_X1_36 rfl rfl rfl rfl dX1_giveSeats_23 ?_
      refine V_iload_n hX dX1_giveSeats_26 1 rfl ?_
      refine V_iald (i0 := f.toNat) (r := (jI (s (11 + f.toNat)))) hX 9 rfl (by omega) (by omega) (by omega) rfl (by show (if f.toNat < 6 then jI (s (11 + f.toNat)) else 0) = jI (s (11 + f.toNat)); rw [if_pos (by omega)]) dX1_giveSeats_27 ?_
      refine V_istore_n (i := 3) (lv' := [(3, .int (jI (s (11 + f.toNat)))), (0, .ref (h 0)), (1, .int (jI f)), (2, .int (jI m))]) hX dX1_giveSeats_28 rfl (by decide) rfl ?_
      refine V_iload_n hX dX1_giveSeats_29 0 rfl ?_
      refine V_iload_n hX dX1_giveSeats_30 3 rfl ?_
      refine V_icmp_ne (tgt := 37) hX dX1_giveSeats_31 (by decide) (by omega) (by omega) (fun c_3 => ?_) (fun c_3 => ?_)
      · refine V_aload_n hX dX1_giveSeats_37 1 rfl ?_
        refine V_get (v := .ref (h 9)) hX cbX1 8 0 (by decide) wf_X1_36 rfl rfl rfl rfl dX1_giveSeats_38 ?_
        refine V_iload_n hX dX1_giveSeats_41 2 rfl ?_
        refine V_iload_n hX dX1_giveSeats_42 3 rfl ?_
        refine V_iast (i0 := f.toNat) (w' := hB G h (up s (11 + f.toNat) m)) hX 9 rfl (by omega) (by omega) (by omega) rfl dX1_giveSeats_43 (hB_se G _ _ _ (by omega) _) ?_
        refine V_iload_n hX dX1_giveSeats_44 0 rfl ?_
        exact V_iret hX hR dX1_giveSeats_45 ⟨(congrArg (fun z => some (Value.int (jI z))) (by unfold gsR; (repeat' split) <;> omega)), (congrArg (hB G h) (by unfold gsS; split <;> first | rfl | omega | exact (up_same (by omega)).symm))⟩
      · refine V_bipush hX dX1_giveSeats_34 (by decide) ?_
        exact V_iret hX hR dX1_giveSeats_36 ⟨(congrArg (fun z => some (Value.int (jI z))) (by unfold gsR; (repeat' split) <;> omega)), (congrArg (hB G h) (by unfold gsS; split <;> first | rfl | omega | exact (up_same (by omega)).symm))⟩
    · refine V_bipush hX dX1_giveSeats_19 (by decide) ?_
      exact V_iret hX hR dX1_giveSeats_21 ⟨(congrArg (fun z => some (Value.int (jI z))) (by unfold gsR; (repeat' split) <;> omega)), (congrArg (hB G h) (by unfold gsS; split <;> first | rfl | omega | exact (up_same (by omega)).symm))⟩
  · refine V_iconst hX dX1_giveSeats_7 ?_
    exact V_iret hX hR dX1_giveSeats_8 ⟨(congrArg (fun z => some (Value.int (jI z))) (by unfold gsR; (repeat' split) <;> omega)), (congrArg (hB G h) (by unfold gsS; split <;> first | rfl | omega | exact (up_same (by omega)).symm))⟩

set_option maxHeartbeats 4000000 in
set_option maxRecDepth 100000 in
theorem c_X1_blow (l : Launch) (G : vC) (h : Nat → Nat) (s : Nat → Int) (t : Int) (w : Int) (m : Int) (hI : Inv t s) (hw : iR w) (hm : iR m) : Fn l G yX1_blow cX1_blow 4 (some .int) ({ frames := 2, cells := 0, slots := 0, locals := 42 } : Room) [.ref (h 0), .int (jI w), .int (jI m)] (hB G h s) (some (.int (jI (blR s w m)))) (hB G h (blS s w m)) := by
  refine Ct.of (by decide) (Nat.le_of_ble_eq_true rfl) (fun X hX hR => ?_)
  refine V.toLv (lv' := [(0, .ref (h 0)), (1, .int (jI w)), (2, .int (jI m))]) rfl ?_
  have hb := hI.base
  refine V_iload_n hX dX1_blow_0 1 rfl ?_
  refine V_cSN (st := []) (v := .int (jI (bI (0 ≤ w ∧ w ≤ 3)))) (w' := hB G h s) hX wc_X1_72 (c_X4_isWay l G w (by omega)) (by decide) (by decide) rfl rfl (Nat.le_of_ble_eq_true rfl) dX1_blow_1 [] (hB G h s) (by simp only [List.append_assoc, List.nil_append, List.append_nil]) (by simp only [List.append_assoc, List.nil_append, List.append_nil]) rfl rfl ?_
  refine V_ifnz (tgt := 9) hX dX1_blow_4 (by decide) (fun c_1 => ?_) (fun c_1 => ?_)
  · refine V_iload_n hX dX1_blow_9 2 rfl ?_
    refine V_iconst hX dX1_blow_10 ?_
    refine V_bipush hX dX1_blow_11 (by decide) ?_
    refine V_cSN (st := []) (v := .int (jI (bI (0 ≤ m ∧ m ≤ 9)))) (w' := hB G h s) hX wc_X1_75 (c_X4_isIn l G m 0 9 (by omega) (by omega) (by omega)) (by decide) (by decide) rfl rfl (Nat.le_of_ble_eq_true rfl) dX1_blow_13 [] (hB G h s) (by simp only [List.append_assoc, List.nil_append, List.append_nil]) (by simp only [List.append_assoc, List.nil_append, List.append_nil]) rfl rfl ?_
    refine V_ifnz (tgt := 22) hX dX1_blow_16 (by decide) (fun c_2 => ?_) (fun c_2 => ?_)
    · refine V_aload_n hX dX1_blow_22 0 rfl ?_
      refine V_get (v := .int (jI (s 3))) hX cbX1 11 0 (by decide) wf_X1_56 rfl rfl rfl rfl dX1_blow_23 ?_
      refine V_iload_n hX dX1_blow_26 1 rfl ?_
      refine V_icmp_ne (tgt := 41) hX dX1_blow_27 (by decide) (by omega) (by omega) (fun c_3 => ?_) (fun c_3 => ?_)
      · refine V_bipush hX dX1_blow_41 (by decide) ?_
        refine V_aload_n hX dX1_blow_43 0 rfl ?_
        refine V_get (v := .int (jI (s 3))) hX cbX1 11 0 (by decide) wf_X1_56 rfl rfl rfl rfl dX1_blow_44 ?_
        refine V_imul hX dX1_blow_47 rfl ?_
        refine V_aload_n hX dX1_blow_48 0 rfl ?_
        refine V_get (v := .int (jI (s 4))) hX cbX1 12 0 (by decide) wf_X1_59 rfl rfl rfl rfl dX1_blow_49 ?_
        refine V_iadd hX dX1_blow_52 rfl ?_
        refine V_istore_n (i := 3) (lv' := [(3, .int (jI ((10 * (s 3)) + (s 4)))), (0, .ref (h 0)), (1, .int (jI w)), (2, .int (jI m))]) hX dX1_blow_53 rfl (by decide) rfl ?_
        refine V_aload_n hX dX1_blow_54 1 rfl ?_
        refine V_iload_n hX dX1_blow_55 2 rfl ?_
        refine V_put (w' := hB G h (up s 3 w)) hX cbX1 11 0 (by decide) wf_X1_56 rfl rfl rfl rfl rfl rfl (Nat.le_of_ble_eq_true rfl) dX1_blow_56 (hB_f11 G _ _ _) ?_
        refine V_aload_n hX dX1_blow_59 1 rfl ?_
        refine V_iload_n hX dX1_blow_60 3 rfl ?_
        refine V_put (w' := hB G h (up (up s 3 w) 4 m)) hX cbX1 12 0 (by decide) wf_X1_59 rfl rfl rfl rfl rfl rfl (Nat.le_of_ble_eq_true rfl) dX1_blow_61 (hB_f12 G _ _ _) ?_
        refine V_iload_n hX dX1_blow_64 0 rfl ?_
        exact V_iret hX hR dX1_blow_65 ⟨(congrArg (fun z => some (Value.int (jI z))) (by unfold blR; (repeat' split) <;> omega)), (congrArg (hB G h) (by unfold blS; split <;> first | rfl | omega | (rw [up_same (s := s) (j := 3) (by omega)]; exact (up_same (by omega)).symm)))⟩
      · refine V_aload_n hX dX1_blow_30 0 rfl ?_
        refine V_get (v := .int (jI (s 4))) hX cbX1 12 0 (by decide) wf_X1_59 rfl rfl rfl rfl dX1_blow_31 ?_
        refine V_iload_n hX dX1_blow_34 2 rfl ?_
        refine V_icmp_ne (tgt := 41) hX dX1_blow_35 (by decide) (by omega) (by omega) (fun c_4 => ?_) (fun c_4 => ?_)
        · refine V_bipush hX dX1_blow_41 (by decide) ?_
          refine V_aload_n hX dX1_blow_43 0 rfl ?_
          refine V_get (v := .int (jI (s 3))) hX cbX1 11 0 (by decide) wf_X1_56 rfl rfl rfl rfl dX1_blow_44 ?_
          refine V_imul hX dX1_blow_47 rfl ?_
          refine V_aload_n hX dX1_blow_48 0 rfl ?_
          refine V_get (v := .int (jI (s 4))) hX cbX1 12 0 (by decide) wf_X1_59 rfl rfl rfl rfl dX1_blow_49 ?_
          refine V_iadd hX dX1_blow_52 rfl ?_
          refine V_istore_n (i := 3) (lv' := [(3, .int (jI ((10 * (s 3)) + (s 4)))), (0, .ref (h 0)), (1, .int (jI w)), (2, .int (jI m))]) hX dX1_blow_53 rfl (by decide) rfl ?_
          refine V_aload_n hX dX1_blow_54 1 rfl ?_
          refine V_iload_n hX dX1_blow_55 2 rfl ?_
          refine V_put (w' := hB G h (up s 3 w)) hX cbX1 11 0 (by decide) wf_X1_56 rfl rfl rfl rfl rfl rfl (Nat.le_of_ble_eq_true rfl) dX1_blow_56 (hB_f11 G _ _ _) ?_
          refine V_aload_n hX dX1_blow_59 1 rfl ?_
          refine V_iload_n hX dX1_blow_60 3 rfl ?_
          refine V_put (w' := hB G h (up (up s 3 w) 4 m)) hX cbX1 12 0 (by decide) wf_X1_59 rfl rfl rfl rfl rfl rfl (Nat.le_of_ble_eq_true rfl) dX1_blow_61 (hB_f12 G _ _ _) ?_
          refine V_iload_n hX dX1_blow_64 0 rfl ?_
          exact V_iret hX hR dX1_blow_65 ⟨(congrArg (fun z => some (Value.int (jI z))) (by unfold blR; (repeat' split) <;> omega)), (congrArg (hB G h) (by unfold blS; split <;> first | rfl | omega | (rw [up_same (s := s) (j := 3) (by omega)]; exact (up_same (by omega)).symm)))⟩
        · refine V_bipush hX dX1_blow_38 (by decide) ?_
          exact V_iret hX hR dX1_blow_40 ⟨(congrArg (fun z => some (Value.int (jI z))) (by unfold blR; (repeat' split) <;> omega)), (congrArg (hB G h) (by unfold blS; split <;> first | rfl | omega | (rw [up_same (s := s) (j := 3) (by omega)]; exact (up_same (by omega)).symm)))⟩
    · refine V_bipush hX dX1_blow_19 (by decide) ?_
      exact V_iret hX hR dX1_blow_21 ⟨(congrArg (fun z => some (Value.int (jI z))) (by unfold blR; (repeat' split) <;> omega)), (congrArg (hB G h) (by unfold blS; split <;> first | rfl | omega | (rw [up_same (s := s) (j := 3) (by omega)]; exact (up_same (by omega)).symm)))⟩
  · refine V_iconst hX dX1_blow_7 ?_
    exact V_iret hX hR dX1_blow_8 ⟨(congrArg (fun z => some (Value.int (jI z))) (by unfold blR; (repeat' split) <;> omega)), (congrArg (hB G h) (by unfold blS; split <;> first | rfl | omega | (rw [up_same (s := s) (j := 3) (by omega)]; exact (up_same (by omega)).symm)))⟩

set_option maxHeartbeats 4000000 in
set_option maxRecDepth 100000 in
theorem c_X1_adjust (l : Launch) (G : vC) (h : Nat → Nat) (s : Nat → Int) (t : Int) (c : Int) (m : Int) (hI : Inv t s) (hc : iR c) (hm : iR m) : Fn l G yX1_adjust cX1_adjust 4 (some .int) ({ frames := 1, cells := 0, slots := 0, locals := 22 } : Room) [.ref (h 0), .int (jI c), .int (jI m)] (hB G h s) (some (.int (jI (adR s c m)))) (hB G h (adS s c m)) := by
  refine Ct.of (by decide) (Nat.le_of_ble_eq_true rfl) (fun X hX hR => ?_)
  refine V.toLv (lv' := [(0, .ref (h 0)), (1, .int (jI c)), (2, .int (jI m))]) rfl ?_
  have hb := hI.base
  refine V_iload_n hX dX1_adjust_0 1 rfl ?_
  refine V_iconst hX dX1_adjust_1 ?_
  refine V_iconst hX dX1_adjust_2 ?_
  refine V_cSN (st := []) (v := .int (jI (bI (0 ≤ c ∧ c ≤ 1)))) (w' := hB G h s) hX wc_X1_75 (c_X4_isIn l G c 0 1 (by omega) (by omega) (by omega)) (by decide) (by decide) rfl rfl (Nat.le_of_ble_eq_true rfl) dX1_adjust_3 [] (hB G h s) (by simp only [List.append_assoc, List.nil_append, List.append_nil]) (by simp only [List.append_assoc, List.nil_append, List.append_nil]) rfl rfl ?_
  refine V_ifnz (tgt := 11) hX dX1_adjust_6 (by decide) (fun c_1 => ?_) (fun c_1 => ?_)
  · refine V_iload_n hX dX1_adjust_11 2 rfl ?_
    refine V_iconst hX dX1_adjust_12 ?_
    refine V_iload_n hX dX1_adjust_13 1 rfl ?_
    refine V_if_ne (tgt := 22) hX dX1_adjust_14 (by decide) (by omega) (fun c_2 => ?_) (fun c_2 => ?_)
    · refine V_bipush hX dX1_adjust_22 (by decide) ?_
      refine V_cSN (st := []) (v := .int (jI (bI (0 ≤ m ∧ m ≤ 8)))) (w' := hB G h s) hX wc_X1_75 (c_X4_isIn l G m 0 8 (by omega) (by omega) (by omega)) (by decide) (by decide) rfl rfl (Nat.le_of_ble_eq_true rfl) dX1_adjust_24 [] (hB G h s) (by simp only [List.append_assoc, List.nil_append, List.append_nil]) (by simp only [List.append_assoc, List.nil_append, List.append_nil]) rfl rfl ?_
      refine V_ifnz (tgt := 33) hX dX1_adjust_27 (by decide) (fun c_3 => ?_) (fun c_3 => ?_)
      · have hc01 : s c.toNat = s 0 ∨ s c.toNat = s 1 := by rcases (by omega : c.toNat = 0 ∨ c.toNat = 1) with q | q <;> rw [q] <;> simp
        refine V_aload_n hX dX1_adjust_33 0 rfl ?_
        refine V_get (v := .ref (h 10)) hX cbX1 9 0 (by decide) wf_X1_39 rfl rfl rfl rfl dX1_adjust_34 ?_
        refine V_iload_n hX dX1_adjust_37 1 rfl ?_
        refine V_iald (i0 := c.toNat) (r := (jI (s c.toNat))) hX 10 rfl (by omega) (by omega) (by omega) rfl (by show (if c.toNat < 2 then jI (s (c.toNat)) else 0) = jI (s c.toNat); rw [if_pos (by omega)]) dX1_adjust_38 ?_
        refine V_istore_n (i := 3) (lv' := [(3, .int (jI (s c.toNat))), (0, .ref (h 0)), (1, .int (jI c)), (2, .int (jI m))]) hX dX1_adjust_39 rfl (by decide) rfl ?_
        refine V_iload_n hX dX1_adjust_40 0 rfl ?_
        refine V_iload_n hX dX1_adjust_41 3 rfl ?_
        refine V_icmp_ne (tgt := 48) hX dX1_adjust_42 (by decide) (by omega) (by omega) (fun c_4 => ?_) (fun c_4 => ?_)
        · refine V_aload_n hX dX1_adjust_48 1 rfl ?_
          refine V_get (v := .ref (h 10)) hX cbX1 9 0 (by decide) wf_X1_39 rfl rfl rfl rfl dX1_adjust_49 ?_
          refine V_iload_n hX dX1_adjust_52 2 rfl ?_
          refine V_iload_n hX dX1_adjust_53 3 rfl ?_
          refine V_iast (i0 := c.toNat) (w' := hB G h (up s c.toNat m)) hX 10 rfl (by omega) (by omega) (by omega) rfl dX1_adjust_54 (hB_st G _ _ _ (by omega) _) ?_
          refine V_iload_n hX dX1_adjust_55 0 rfl ?_
          exact V_iret hX hR dX1_adjust_56 ⟨(congrArg (fun z => some (Value.int (jI z))) (by unfold adR; (repeat' split) <;> omega)), (congrArg (hB G h) (by unfold adS; (repeat' split) <;> first | rfl | omega | exact (up_same (by omega)).symm))⟩
        · refine V_bipush hX dX1_adjust_45 (by decide) ?_
          exact V_iret hX hR dX1_adjust_47 ⟨(congrArg (fun z => some (Value.int (jI z))) (by unfold adR; (repeat' split) <;> omega)), (congrArg (hB G h) (by unfold adS; (repeat' split) <;> first | rfl | omega | exact (up_same (by omega)).symm))⟩
      · refine V_bipush hX dX1_adjust_30 (by decide) ?_
        exact V_iret hX hR dX1_adjust_32 ⟨(congrArg (fun z => some (Value.int (jI z))) (by unfold adR; (repeat' split) <;> omega)), (congrArg (hB G h) (by unfold adS; (repeat' split) <;> first | rfl | omega | exact (up_same (by omega)).symm))⟩
    · refine V_bipush hX dX1_adjust_17 (by decide) ?_
      refine V_goto (tgt := 24) hX dX1_adjust_19 (by decide) ?_
      refine V_cSN (st := []) (v := .int (jI (bI (0 ≤ m ∧ m ≤ 50)))) (w' := hB G h s) hX wc_X1_75 (c_X4_isIn l G m 0 50 (by omega) (by omega) (by omega)) (by decide) (by decide) rfl rfl (Nat.le_of_ble_eq_true rfl) dX1_adjust_24 [] (hB G h s) (by simp only [List.append_assoc, List.nil_append, List.append_nil]) (by simp only [List.append_assoc, List.nil_append, List.append_nil]) rfl rfl ?_
      refine V_ifnz (tgt := 33) hX dX1_adjust_27 (by decide) (fun c_5 => ?_) (fun c_5 => ?_)
      · have hc01 : s c.toNat = s 0 ∨ s c.toNat = s 1 := by rcases (by omega : c.toNat = 0 ∨ c.toNat = 1) with q | q <;> rw [q] <;> simp
        refine V_aload_n hX dX1_adjust_33 0 rfl ?_
        refine V_get (v := .ref (h 10)) hX cbX1 9 0 (by decide) wf_X1_39 rfl rfl rfl rfl dX1_adjust_34 ?_
        refine V_iload_n hX dX1_adjust_37 1 rfl ?_
        refine V_iald (i0 := c.toNat) (r := (jI (s c.toNat))) hX 10 rfl (by omega) (by omega) (by omega) rfl (by show (if c.toNat < 2 then jI (s (c.toNat)) else 0) = jI (s c.toNat); rw [if_pos (by omega)]) dX1_adjust_38 ?_
        refine V_istore_n (i := 3) (lv' := [(3, .int (jI (s c.toNat))), (0, .ref (h 0)), (1, .int (jI c)), (2, .int (jI m))]) hX dX1_adjust_39 rfl (by decide) rfl ?_
        refine V_iload_n hX dX1_adjust_40 0 rfl ?_
        refine V_iload_n hX dX1_adjust_41 3 rfl ?_
        refine V_icmp_ne (tgt := 48) hX dX1_adjust_42 (by decide) (by omega) (by omega) (fun c_6 => ?_) (fun c_6 => ?_)
        · refine V_aload_n hX dX1_adjust_48 1 rfl ?_
          refine V_get (v := .ref (h 10)) hX cbX1 9 0 (by decide) wf_X1_39 rfl rfl rfl rfl dX1_adjust_49 ?_
          refine V_iload_n hX dX1_adjust_52 2 rfl ?_
          refine V_iload_n hX dX1_adjust_53 3 rfl ?_
          refine V_iast (i0 := c.toNat) (w' := hB G h (up s c.toNat m)) hX 10 rfl (by omega) (by omega) (by omega) rfl dX1_adjust_54 (hB_st G _ _ _ (by omega) _) ?_
          refine V_iload_n hX dX1_adjust_55 0 rfl ?_
          exact V_iret hX hR dX1_adjust_56 ⟨(congrArg (fun z => some (Value.int (jI z))) (by unfold adR; (repeat' split) <;> omega)), (congrArg (hB G h) (by unfold adS; (repeat' split) <;> first | rfl | omega | exact (up_same (by omega)).symm))⟩
        · refine V_bipush hX dX1_adjust_45 (by decide) ?_
          exact V_iret hX hR dX1_adjust_47 ⟨(congrArg (fun z => some (Value.int (jI z))) (by unfold adR; (repeat' split) <;> omega)), (congrArg (hB G h) (by unfold adS; (repeat' split) <;> first | rfl | omega | exact (up_same (by omega)).symm))⟩
      · refine V_bipush hX dX1_adjust_30 (by decide) ?_
        exact V_iret hX hR dX1_adjust_32 ⟨(congrArg (fun z => some (Value.int (jI z))) (by unfold adR; (repeat' split) <;> omega)), (congrArg (hB G h) (by unfold adS; (repeat' split) <;> first | rfl | omega | exact (up_same (by omega)).symm))⟩
  · refine V_iconst hX dX1_adjust_9 ?_
    exact V_iret hX hR dX1_adjust_10 ⟨(congrArg (fun z => some (Value.int (jI z))) (by unfold adR; (repeat' split) <;> omega)), (congrArg (hB G h) (by unfold adS; (repeat' split) <;> first | rfl | omega | exact (up_same (by omega)).symm))⟩

set_option maxHeartbeats 4000000 in
set_option maxRecDepth 100000 in
theorem c_X1_countVote (l : Launch) (G : vC) (h : Nat → Nat) (s : Nat → Int) (a : Int) (ha : iR a) : Fn l G yX1_countVote cX1_countVote 2 (some .int) ({ frames := 2, cells := 0, slots := 0, locals := 42 } : Room) [.ref (h 0), .int (jI a)] (hB G h s) (some (.int (jI (cvR a)))) (hB G h (cvS s a)) := by
  refine Ct.of (by decide) (Nat.le_of_ble_eq_true rfl) (fun X hX hR => ?_)
  refine V.toLv (lv' := [(0, .ref (h 0)), (1, .int (jI a))]) rfl ?_
  refine V_iload_n hX dX1_countVote_0 1 rfl ?_
  refine V_cSN (st := []) (v := .int (jI (bI (0 ≤ a ∧ a ≤ 3)))) (w' := hB G h s) hX wc_X1_72 (c_X4_isWay l G a (by omega)) (by decide) (by decide) rfl rfl (Nat.le_of_ble_eq_true rfl) dX1_countVote_1 [] (hB G h s) (by simp only [List.append_assoc, List.nil_append, List.append_nil]) (by simp only [List.append_assoc, List.nil_append, List.append_nil]) rfl rfl ?_
  refine V_ifnz (tgt := 10) hX dX1_countVote_4 (by decide) (fun c_1 => ?_) (fun c_1 => ?_)
  · refine V_aload_n hX dX1_countVote_10 0 rfl ?_
    refine V_dup hX dX1_countVote_11 rfl ?_
    refine V_get (v := .int (jI (s 8))) hX cbX1 15 0 (by decide) wf_X1_65 rfl rfl rfl rfl dX1_countVote_12 ?_
    refine V_iconst hX dX1_countVote_15 ?_
    refine V_iadd hX dX1_countVote_16 rfl ?_
    refine V_put (w' := hB G h (up s 8 ((s 8) + 1))) hX cbX1 15 0 (by decide) wf_X1_65 rfl rfl rfl rfl rfl rfl (Nat.le_of_ble_eq_true rfl) dX1_countVote_17 (hB_f15 G _ _ _) ?_
    refine V_aload_n hX dX1_countVote_20 0 rfl ?_
    refine V_iload_n hX dX1_countVote_21 1 rfl ?_
    refine V_put (w' := hB G h (up (up s 8 ((s 8) + 1)) 9 a)) hX cbX1 16 0 (by decide) wf_X1_46 rfl rfl rfl rfl rfl rfl (Nat.le_of_ble_eq_true rfl) dX1_countVote_22 (hB_f16 G _ _ _) ?_
    refine V_iload_n hX dX1_countVote_25 1 rfl ?_
    exact V_iret hX hR dX1_countVote_26 ⟨(congrArg (fun z => some (Value.int (jI z))) (by unfold cvR; (repeat' split) <;> omega)), (congrArg (hB G h) (by unfold cvS; split <;> first | rfl | omega))⟩
  · refine V_bipush hX dX1_countVote_7 (by decide) ?_
    exact V_iret hX hR dX1_countVote_9 ⟨(congrArg (fun z => some (Value.int (jI z))) (by unfold cvR; (repeat' split) <;> omega)), (congrArg (hB G h) (by unfold cvS; split <;> first | rfl | omega))⟩

set_option maxHeartbeats 4000000 in
set_option maxRecDepth 100000 in
theorem c_X1_turnByWind (l : Launch) (G : vC) (h : Nat → Nat) (s : Nat → Int) (t : Int) (k : Nat) (hI : Inv t s) (hk : k < 12) (hn : (k : Int) < s 10) : Fn l G yX1_turnByWind cX1_turnByWind 4 (some .int) ({ frames := 0, cells := 0, slots := 0, locals := 0 } : Room) [.ref (h 0), .int (jI ((k : Int)))] (hB G h s) (some (.int (jI (tbR s k)))) (hB G h (tbS s k)) := by
  refine Ct.of (by decide) (Nat.le_of_ble_eq_true rfl) (fun X hX hR => ?_)
  refine V.toLv (lv' := [(0, .ref (h 0)), (1, .int (jI ((k : Int))))]) rfl ?_
  have hb := hI.base
  have hs := hI.sc k hk
  refine V_aload_n hX dX1_turnByWind_0 0 rfl ?_
  refine V_get (v := .ref (h 5)) hX cbX1 4 0 (by decide) wf_X1_24 rfl rfl rfl rfl dX1_turnByWind_1 ?_
  refine V_iload_n hX dX1_turnByWind_4 1 rfl ?_
  refine V_iald (i0 := k) (r := (jI (s (ix k 4)))) hX 5 rfl (by omega) (by omega) (by omega) (by omega) rfl dX1_turnByWind_5 ?_
  refine V_bipush hX dX1_turnByWind_6 (by decide) ?_
  refine V_icmp_ge (tgt := 20) hX dX1_turnByWind_8 (by decide) (by omega) (by decide) (fun c_1 => ?_) (fun c_1 => ?_)
  · refine V_aload_n hX dX1_turnByWind_20 0 rfl ?_
    refine V_get (v := .int (jI (s 4))) hX cbX1 12 0 (by decide) wf_X1_59 rfl rfl rfl rfl dX1_turnByWind_21 ?_
    refine V_istore_n (i := 2) (lv' := [(2, .int (jI (s 4))), (0, .ref (h 0)), (1, .int (jI ((k : Int))))]) hX dX1_turnByWind_24 rfl (by decide) rfl ?_
    refine V_iload_n hX dX1_turnByWind_25 0 rfl ?_
    refine V_aload_n hX dX1_turnByWind_26 1 rfl ?_
    refine V_get (v := .ref (h 3)) hX cbX1 2 0 (by decide) wf_X1_18 rfl rfl rfl rfl dX1_turnByWind_27 ?_
    refine V_iload_n hX dX1_turnByWind_30 2 rfl ?_
    refine V_iald (i0 := k) (r := (jI (s (ix k 2)))) hX 3 rfl (by omega) (by omega) (by omega) (by omega) rfl dX1_turnByWind_31 ?_
    refine V_icmp_le (tgt := 48) hX dX1_turnByWind_32 (by decide) (by omega) (by omega) (fun c_2 => ?_) (fun c_2 => ?_)
    · refine V_iconst hX dX1_turnByWind_48 ?_
      exact V_iret hX hR dX1_turnByWind_49 ⟨(congrArg (fun z => some (Value.int (jI z))) (by unfold tbR tbF; (repeat' split) <;> omega)), (congrArg (hB G h) (by unfold tbS tbF tbN; (repeat' split) <;> first | rfl | omega))⟩
    · refine V_aload_n hX dX1_turnByWind_35 1 rfl ?_
      refine V_get (v := .ref (h 4)) hX cbX1 3 0 (by decide) wf_X1_21 rfl rfl rfl rfl dX1_turnByWind_36 ?_
      refine V_iload_n hX dX1_turnByWind_39 2 rfl ?_
      refine V_iald (i0 := k) (r := (jI (s (ix k 3)))) hX 4 rfl (by omega) (by omega) (by omega) (by omega) rfl dX1_turnByWind_40 ?_
      refine V_aload_n hX dX1_turnByWind_41 1 rfl ?_
      refine V_get (v := .int (jI (s 3))) hX cbX1 11 0 (by decide) wf_X1_56 rfl rfl rfl rfl dX1_turnByWind_42 ?_
      refine V_icmp_ne (tgt := 50) hX dX1_turnByWind_45 (by decide) (by omega) (by omega) (fun c_3 => ?_) (fun c_3 => ?_)
      · refine V_aload_n hX dX1_turnByWind_50 1 rfl ?_
        refine V_get (v := .ref (h 4)) hX cbX1 3 0 (by decide) wf_X1_21 rfl rfl rfl rfl dX1_turnByWind_51 ?_
        refine V_iload_n hX dX1_turnByWind_54 2 rfl ?_
        refine V_iald (i0 := k) (r := (jI (s (ix k 3)))) hX 4 rfl (by omega) (by omega) (by omega) (by omega) rfl dX1_turnByWind_55 ?_
        refine V_iconst hX dX1_turnByWind_56 ?_
        refine V_iadd hX dX1_turnByWind_57 rfl ?_
        refine V_iconst hX dX1_turnByWind_58 ?_
        refine V_isub hX dX1_turnByWind_59 rfl ?_
        refine V_iconst hX dX1_turnByWind_60 ?_
        refine V_irem hX dX1_turnByWind_61 (by omega) (by omega) (by omega) (by omega) rfl ?_
        refine V_aload_n hX dX1_turnByWind_62 1 rfl ?_
        refine V_get (v := .int (jI (s 3))) hX cbX1 11 0 (by decide) wf_X1_56 rfl rfl rfl rfl dX1_turnByWind_63 ?_
        refine V_icmp_ne (tgt := 73) hX dX1_turnByWind_66 (by decide) (by omega) (by omega) (fun c_4 => ?_) (fun c_4 => ?_)
        · refine V_iconst hX dX1_turnByWind_73 ?_
          refine V_istore_n (i := 3) (lv' := [(3, .int (jI 0)), (2, .int (jI (s 4))), (0, .ref (h 0)), (1, .int (jI ((k : Int))))]) hX dX1_turnByWind_74 rfl (by decide) rfl ?_
          refine V_aload_n hX dX1_turnByWind_75 2 rfl ?_
          refine V_get (v := .ref (h 4)) hX cbX1 3 0 (by decide) wf_X1_21 rfl rfl rfl rfl dX1_turnByWind_76 ?_
          refine V_iload_n hX dX1_turnByWind_79 3 rfl ?_
          refine V_aload_n hX dX1_turnByWind_80 2 rfl ?_
          refine V_get (v := .ref (h 4)) hX cbX1 3 0 (by decide) wf_X1_21 rfl rfl rfl rfl dX1_turnByWind_81 ?_
          refine V_iload_n hX dX1_turnByWind_84 3 rfl ?_
          refine V_iald (i0 := k) (r := (jI (s (ix k 3)))) hX 4 rfl (by omega) (by omega) (by omega) (by omega) rfl dX1_turnByWind_85 ?_
          refine V_iload_n hX dX1_turnByWind_86 0 rfl ?_
          refine V_if_eq (tgt := 94) hX dX1_turnByWind_87 (by decide) (by decide) (fun c_5 => ?_) (fun c_5 => absurd c_5 (by decide))
          refine V_iconst hX dX1_turnByWind_94 ?_
          refine V_iadd hX dX1_turnByWind_95 rfl ?_
          refine V_iconst hX dX1_turnByWind_96 ?_
          refine V_irem hX dX1_turnByWind_97 (by omega) (by omega) (by omega) (by omega) rfl ?_
          refine V_iast (i0 := k) (w' := hB G h (up s (ix k 3) (((s (ix k 3)) + 1) % 4))) hX 4 rfl (by omega) (by omega) (by omega) (by omega) dX1_turnByWind_98 (hB_a3 G _ _ _ _) ?_
          refine V_aload_n hX dX1_turnByWind_99 2 rfl ?_
          refine V_get (v := .ref (h 6)) hX cbX1 5 0 (by decide) wf_X1_27 rfl rfl rfl rfl dX1_turnByWind_100 ?_
          refine V_iload_n hX dX1_turnByWind_103 3 rfl ?_
          refine V_dup2 hX dX1_turnByWind_104 rfl rfl ?_
          refine V_iald (i0 := k) (r := (jI (s (ix k 9)))) hX 6 rfl (by omega) (by omega) (by omega) (by omega) (by show jI ((up s (ix k 3) (((s (ix k 3)) + 1) % 4)) (ix k 9)) = jI (s (ix k 9)); rw [up_ne (by unfold ix; omega)]) dX1_turnByWind_105 ?_
          refine V_iconst hX dX1_turnByWind_106 ?_
          refine V_iadd hX dX1_turnByWind_107 rfl ?_
          refine V_iast (i0 := k) (w' := hB G h (up (up s (ix k 3) (((s (ix k 3)) + 1) % 4)) (ix k 9) ((s (ix k 9)) + 1))) hX 6 rfl (by omega) (by omega) (by omega) (by omega) dX1_turnByWind_108 (hB_a9 G _ _ _ _) ?_
          refine V_iconst hX dX1_turnByWind_109 ?_
          exact V_iret hX hR dX1_turnByWind_110 ⟨(congrArg (fun z => some (Value.int (jI z))) (by unfold tbR tbF; (repeat' split) <;> omega)), (congrArg (hB G h) (by unfold tbS tbF tbN; (repeat' split) <;> first | rfl | omega))⟩
        · refine V_iconst hX dX1_turnByWind_69 ?_
          refine V_goto (tgt := 74) hX dX1_turnByWind_70 (by decide) ?_
          refine V_istore_n (i := 3) (lv' := [(3, .int (jI 1)), (2, .int (jI (s 4))), (0, .ref (h 0)), (1, .int (jI ((k : Int))))]) hX dX1_turnByWind_74 rfl (by decide) rfl ?_
          refine V_aload_n hX dX1_turnByWind_75 2 rfl ?_
          refine V_get (v := .ref (h 4)) hX cbX1 3 0 (by decide) wf_X1_21 rfl rfl rfl rfl dX1_turnByWind_76 ?_
          refine V_iload_n hX dX1_turnByWind_79 3 rfl ?_
          refine V_aload_n hX dX1_turnByWind_80 2 rfl ?_
          refine V_get (v := .ref (h 4)) hX cbX1 3 0 (by decide) wf_X1_21 rfl rfl rfl rfl dX1_turnByWind_81 ?_
          refine V_iload_n hX dX1_turnByWind_84 3 rfl ?_
          refine V_iald (i0 := k) (r := (jI (s (ix k 3)))) hX 4 rfl (by omega) (by omega) (by omega) (by omega) rfl dX1_turnByWind_85 ?_
          refine V_iload_n hX dX1_turnByWind_86 0 rfl ?_
          refine V_if_eq (tgt := 94) hX dX1_turnByWind_87 (by decide) (by decide) (fun c_6 => absurd c_6 (by decide)) (fun c_6 => ?_)
          refine V_iconst hX dX1_turnByWind_90 ?_
          refine V_goto (tgt := 95) hX dX1_turnByWind_91 (by decide) ?_
          refine V_iadd hX dX1_turnByWind_95 rfl ?_
          refine V_iconst hX dX1_turnByWind_96 ?_
          refine V_irem hX dX1_turnByWind_97 (by omega) (by omega) (by omega) (by omega) rfl ?_
          refine V_iast (i0 := k) (w' := hB G h (up s (ix k 3) (((s (ix k 3)) + 3) % 4))) hX 4 rfl (by omega) (by omega) (by omega) (by omega) dX1_turnByWind_98 (hB_a3 G _ _ _ _) ?_
          refine V_aload_n hX dX1_turnByWind_99 2 rfl ?_
          refine V_get (v := .ref (h 6)) hX cbX1 5 0 (by decide) wf_X1_27 rfl rfl rfl rfl dX1_turnByWind_100 ?_
          refine V_iload_n hX dX1_turnByWind_103 3 rfl ?_
          refine V_dup2 hX dX1_turnByWind_104 rfl rfl ?_
          refine V_iald (i0 := k) (r := (jI (s (ix k 9)))) hX 6 rfl (by omega) (by omega) (by omega) (by omega) (by show jI ((up s (ix k 3) (((s (ix k 3)) + 3) % 4)) (ix k 9)) = jI (s (ix k 9)); rw [up_ne (by unfold ix; omega)]) dX1_turnByWind_105 ?_
          refine V_iconst hX dX1_turnByWind_106 ?_
          refine V_iadd hX dX1_turnByWind_107 rfl ?_
          refine V_iast (i0 := k) (w' := hB G h (up (up s (ix k 3) (((s (ix k 3)) + 3) % 4)) (ix k 9) ((s (ix k 9)) + 1))) hX 6 rfl (by omega) (by omega) (by omega) (by omega) dX1_turnByWind_108 (hB_a9 G _ _ _ _) ?_
          refine V_iconst hX dX1_turnByWind_109 ?_
          exact V_iret hX hR dX1_turnByWind_110 ⟨(congrArg (fun z => some (Value.int (jI z))) (by unfold tbR tbF; (repeat' split) <;> omega)), (congrArg (hB G h) (by unfold tbS tbF tbN; (repeat' split) <;> first | rfl | omega))⟩
      · refine V_iconst hX dX1_turnByWind_48 ?_
        exact V_iret hX hR dX1_turnByWind_49 ⟨(congrArg (fun z => some (Value.int (jI z))) (by unfold tbR tbF; (repeat' split) <;> omega)), (congrArg (hB G h) (by unfold tbS tbF tbN; (repeat' split) <;> first | rfl | omega))⟩
  · refine V_aload_n hX dX1_turnByWind_11 0 rfl ?_
    refine V_get (v := .int (jI (s 4))) hX cbX1 12 0 (by decide) wf_X1_59 rfl rfl rfl rfl dX1_turnByWind_12 ?_
    refine V_iconst hX dX1_turnByWind_15 ?_
    refine V_iadd hX dX1_turnByWind_16 rfl ?_
    refine V_goto (tgt := 24) hX dX1_turnByWind_17 (by decide) ?_
    refine V_istore_n (i := 2) (lv' := [(2, .int (jI ((s 4) + 1))), (0, .ref (h 0)), (1, .int (jI ((k : Int))))]) hX dX1_turnByWind_24 rfl (by decide) rfl ?_
    refine V_iload_n hX dX1_turnByWind_25 0 rfl ?_
    refine V_aload_n hX dX1_turnByWind_26 1 rfl ?_
    refine V_get (v := .ref (h 3)) hX cbX1 2 0 (by decide) wf_X1_18 rfl rfl rfl rfl dX1_turnByWind_27 ?_
    refine V_iload_n hX dX1_turnByWind_30 2 rfl ?_
    refine V_iald (i0 := k) (r := (jI (s (ix k 2)))) hX 3 rfl (by omega) (by omega) (by omega) (by omega) rfl dX1_turnByWind_31 ?_
    refine V_icmp_le (tgt := 48) hX dX1_turnByWind_32 (by decide) (by omega) (by omega) (fun c_7 => ?_) (fun c_7 => ?_)
    · refine V_iconst hX dX1_turnByWind_48 ?_
      exact V_iret hX hR dX1_turnByWind_49 ⟨(congrArg (fun z => some (Value.int (jI z))) (by unfold tbR tbF; (repeat' split) <;> omega)), (congrArg (hB G h) (by unfold tbS tbF tbN; (repeat' split) <;> first | rfl | omega))⟩
    · refine V_aload_n hX dX1_turnByWind_35 1 rfl ?_
      refine V_get (v := .ref (h 4)) hX cbX1 3 0 (by decide) wf_X1_21 rfl rfl rfl rfl dX1_turnByWind_36 ?_
      refine V_iload_n hX dX1_turnByWind_39 2 rfl ?_
      refine V_iald (i0 := k) (r := (jI (s (ix k 3)))) hX 4 rfl (by omega) (by omega) (by omega) (by omega) rfl dX1_turnByWind_40 ?_
      refine V_aload_n hX dX1_turnByWind_41 1 rfl ?_
      refine V_get (v := .int (jI (s 3))) hX cbX1 11 0 (by decide) wf_X1_56 rfl rfl rfl rfl dX1_turnByWind_42 ?_
      refine V_icmp_ne (tgt := 50) hX dX1_turnByWind_45 (by decide) (by omega) (by omega) (fun c_8 => ?_) (fun c_8 => ?_)
      · refine V_aload_n hX dX1_turnByWind_50 1 rfl ?_
        refine V_get (v := .ref (h 4)) hX cbX1 3 0 (by decide) wf_X1_21 rfl rfl rfl rfl dX1_turnByWind_51 ?_
        refine V_iload_n hX dX1_turnByWind_54 2 rfl ?_
        refine V_iald (i0 := k) (r := (jI (s (ix k 3)))) hX 4 rfl (by omega) (by omega) (by omega) (by omega) rfl dX1_turnByWind_55 ?_
        refine V_iconst hX dX1_turnByWind_56 ?_
        refine V_iadd hX dX1_turnByWind_57 rfl ?_
        refine V_iconst hX dX1_turnByWind_58 ?_
        refine V_isub hX dX1_turnByWind_59 rfl ?_
        refine V_iconst hX dX1_turnByWind_60 ?_
        refine V_irem hX dX1_turnByWind_61 (by omega) (by omega) (by omega) (by omega) rfl ?_
        refine V_aload_n hX dX1_turnByWind_62 1 rfl ?_
        refine V_get (v := .int (jI (s 3))) hX cbX1 11 0 (by decide) wf_X1_56 rfl rfl rfl rfl dX1_turnByWind_63 ?_
        refine V_icmp_ne (tgt := 73) hX dX1_turnByWind_66 (by decide) (by omega) (by omega) (fun c_9 => ?_) (fun c_9 => ?_)
        · refine V_iconst hX dX1_turnByWind_73 ?_
          refine V_istore_n (i := 3) (lv' := [(3, .int (jI 0)), (2, .int (jI ((s 4) + 1))), (0, .ref (h 0)), (1, .int (jI ((k : Int))))]) hX dX1_turnByWind_74 rfl (by decide) rfl ?_
          refine V_aload_n hX dX1_turnByWind_75 2 rfl ?_
          refine V_get (v := .ref (h 4)) hX cbX1 3 0 (by decide) wf_X1_21 rfl rfl rfl rfl dX1_turnByWind_76 ?_
          refine V_iload_n hX dX1_turnByWind_79 3 rfl ?_
          refine V_aload_n hX dX1_turnByWind_80 2 rfl ?_
          refine V_get (v := .ref (h 4)) hX cbX1 3 0 (by decide) wf_X1_21 rfl rfl rfl rfl dX1_turnByWind_81 ?_
          refine V_iload_n hX dX1_turnByWind_84 3 rfl ?_
          refine V_iald (i0 := k) (r := (jI (s (ix k 3)))) hX 4 rfl (by omega) (by omega) (by omega) (by omega) rfl dX1_turnByWind_85 ?_
          refine V_iload_n hX dX1_turnByWind_86 0 rfl ?_
          refine V_if_eq (tgt := 94) hX dX1_turnByWind_87 (by decide) (by decide) (fun c_10 => ?_) (fun c_10 => absurd c_10 (by decide))
          refine V_iconst hX dX1_turnByWind_94 ?_
          refine V_iadd hX dX1_turnByWind_95 rfl ?_
          refine V_iconst hX dX1_turnByWind_96 ?_
          refine V_irem hX dX1_turnByWind_97 (by omega) (by omega) (by omega) (by omega) rfl ?_
          refine V_iast (i0 := k) (w' := hB G h (up s (ix k 3) (((s (ix k 3)) + 1) % 4))) hX 4 rfl (by omega) (by omega) (by omega) (by omega) dX1_turnByWind_98 (hB_a3 G _ _ _ _) ?_
          refine V_aload_n hX dX1_turnByWind_99 2 rfl ?_
          refine V_get (v := .ref (h 6)) hX cbX1 5 0 (by decide) wf_X1_27 rfl rfl rfl rfl dX1_turnByWind_100 ?_
          refine V_iload_n hX dX1_turnByWind_103 3 rfl ?_
          refine V_dup2 hX dX1_turnByWind_104 rfl rfl ?_
          refine V_iald (i0 := k) (r := (jI (s (ix k 9)))) hX 6 rfl (by omega) (by omega) (by omega) (by omega) (by show jI ((up s (ix k 3) (((s (ix k 3)) + 1) % 4)) (ix k 9)) = jI (s (ix k 9)); rw [up_ne (by unfold ix; omega)]) dX1_turnByWind_105 ?_
          refine V_iconst hX dX1_turnByWind_106 ?_
          refine V_iadd hX dX1_turnByWind_107 rfl ?_
          refine V_iast (i0 := k) (w' := hB G h (up (up s (ix k 3) (((s (ix k 3)) + 1) % 4)) (ix k 9) ((s (ix k 9)) + 1))) hX 6 rfl (by omega) (by omega) (by omega) (by omega) dX1_turnByWind_108 (hB_a9 G _ _ _ _) ?_
          refine V_iconst hX dX1_turnByWind_109 ?_
          exact V_iret hX hR dX1_turnByWind_110 ⟨(congrArg (fun z => some (Value.int (jI z))) (by unfold tbR tbF; (repeat' split) <;> omega)), (congrArg (hB G h) (by unfold tbS tbF tbN; (repeat' split) <;> first | rfl | omega))⟩
        · refine V_iconst hX dX1_turnByWind_69 ?_
          refine V_goto (tgt := 74) hX dX1_turnByWind_70 (by decide) ?_
          refine V_istore_n (i := 3) (lv' := [(3, .int (jI 1)), (2, .int (jI ((s 4) + 1))), (0, .ref (h 0)), (1, .int (jI ((k : Int))))]) hX dX1_turnByWind_74 rfl (by decide) rfl ?_
          refine V_aload_n hX dX1_turnByWind_75 2 rfl ?_
          refine V_get (v := .ref (h 4)) hX cbX1 3 0 (by decide) wf_X1_21 rfl rfl rfl rfl dX1_turnByWind_76 ?_
          refine V_iload_n hX dX1_turnByWind_79 3 rfl ?_
          refine V_aload_n hX dX1_turnByWind_80 2 rfl ?_
          refine V_get (v := .ref (h 4)) hX cbX1 3 0 (by decide) wf_X1_21 rfl rfl rfl rfl dX1_turnByWind_81 ?_
          refine V_iload_n hX dX1_turnByWind_84 3 rfl ?_
          refine V_iald (i0 := k) (r := (jI (s (ix k 3)))) hX 4 rfl (by omega) (by omega) (by omega) (by omega) rfl dX1_turnByWind_85 ?_
          refine V_iload_n hX dX1_turnByWind_86 0 rfl ?_
          refine V_if_eq (tgt := 94) hX dX1_turnByWind_87 (by decide) (by decide) (fun c_11 => absurd c_11 (by decide)) (fun c_11 => ?_)
          refine V_iconst hX dX1_turnByWind_90 ?_
          refine V_goto (tgt := 95) hX dX1_turnByWind_91 (by decide) ?_
          refine V_iadd hX dX1_turnByWind_95 rfl ?_
          refine V_iconst hX dX1_turnByWind_96 ?_
          refine V_irem hX dX1_turnByWind_97 (by omega) (by omega) (by omega) (by omega) rfl ?_
          refine V_iast (i0 := k) (w' := hB G h (up s (ix k 3) (((s (ix k 3)) + 3) % 4))) hX 4 rfl (by omega) (by omega) (by omega) (by omega) dX1_turnByWind_98 (hB_a3 G _ _ _ _) ?_
          refine V_aload_n hX dX1_turnByWind_99 2 rfl ?_
          refine V_get (v := .ref (h 6)) hX cbX1 5 0 (by decide) wf_X1_27 rfl rfl rfl rfl dX1_turnByWind_100 ?_
          refine V_iload_n hX dX1_turnByWind_103 3 rfl ?_
          refine V_dup2 hX dX1_turnByWind_104 rfl rfl ?_
          refine V_iald (i0 := k) (r := (jI (s (ix k 9)))) hX 6 rfl (by omega) (by omega) (by omega) (by omega) (by show jI ((up s (ix k 3) (((s (ix k 3)) + 3) % 4)) (ix k 9)) = jI (s (ix k 9)); rw [up_ne (by unfold ix; omega)]) dX1_turnByWind_105 ?_
          refine V_iconst hX dX1_turnByWind_106 ?_
          refine V_iadd hX dX1_turnByWind_107 rfl ?_
          refine V_iast (i0 := k) (w' := hB G h (up (up s (ix k 3) (((s (ix k 3)) + 3) % 4)) (ix k 9) ((s (ix k 9)) + 1))) hX 6 rfl (by omega) (by omega) (by omega) (by omega) dX1_turnByWind_108 (hB_a9 G _ _ _ _) ?_
          refine V_iconst hX dX1_turnByWind_109 ?_
          exact V_iret hX hR dX1_turnByWind_110 ⟨(congrArg (fun z => some (Value.int (jI z))) (by unfold tbR tbF; (repeat' split) <;> omega)), (congrArg (hB G h) (by unfold tbS tbF tbN; (repeat' split) <;> first | rfl | omega))⟩
      · refine V_iconst hX dX1_turnByWind_48 ?_
        exact V_iret hX hR dX1_turnByWind_49 ⟨(congrArg (fun z => some (Value.int (jI z))) (by unfold tbR tbF; (repeat' split) <;> omega)), (congrArg (hB G h) (by unfold tbS tbF tbN; (repeat' split) <;> first | rfl | omega))⟩

set_option maxHeartbeats 4000000 in
set_option maxRecDepth 100000 in
theorem c_X1_pluck (l : Launch) (G : vC) (h : Nat → Nat) (s : Nat → Int) (t : Int) (k : Nat) (hI : Inv t s) (hk : k < 12) (hn : (k : Int) < s 10) : Fn l G yX1_pluck cX1_pluck 3 none ({ frames := 1, cells := 0, slots := 0, locals := 23 } : Room) [.ref (h 0), .int (jI ((k : Int)))] (hB G h s) none (hB G h (plS s k)) := by
  refine Ct.of (by decide) (Nat.le_of_ble_eq_true rfl) (fun X hX hR => ?_)
  refine V.toLv (lv' := [(0, .ref (h 0)), (1, .int (jI ((k : Int))))]) rfl ?_
  have hb := hI.base
  have hs := hI.sc k hk
  have hpl := plN_b hI k hk
  have hcN : crN s k = s (ix k 5) + s (ix k 6) + s (ix k 7) + s (ix k 8) := rfl
  refine V_aload_n hX dX1_pluck_0 0 rfl ?_
  refine V_iload_n hX dX1_pluck_1 1 rfl ?_
  refine V_cV (st := []) (v := .int (jI (crN s k))) (w' := hB G h s) hX wc_X1_82 (c_X1_crowsOn l G h s t k hI (by omega)) (by decide) (by decide) rfl rfl (Nat.le_of_ble_eq_true rfl) dX1_pluck_2 [] ([]) (by simp only [List.append_assoc, List.nil_append, List.append_nil]) 0 rfl rfl (by simp only [List.append_assoc, List.nil_append, List.append_nil]) rfl rfl ?_
  refine V_aload_n hX dX1_pluck_5 0 rfl ?_
  refine V_get (v := .ref (h 5)) hX cbX1 4 0 (by decide) wf_X1_24 rfl rfl rfl rfl dX1_pluck_6 ?_
  refine V_iload_n hX dX1_pluck_9 1 rfl ?_
  refine V_iald (i0 := k) (r := (jI (s (ix k 4)))) hX 5 rfl (by omega) (by omega) (by omega) (by omega) rfl dX1_pluck_10 ?_
  refine V_min hX dX1_pluck_11 wo_X1_90 (by omega) (by omega) (by decide) (Nat.le_of_ble_eq_true rfl) (by decide) (by decide) rfl ?_
  refine V.sk (st' := [.int (jI (plN s k))]) rfl ?_
  refine V_istore_n (i := 2) (lv' := [(2, .int (jI (plN s k))), (0, .ref (h 0)), (1, .int (jI ((k : Int))))]) hX dX1_pluck_14 rfl (by decide) rfl ?_
  refine V_aload_n hX dX1_pluck_15 1 rfl ?_
  refine V_get (v := .ref (h 5)) hX cbX1 4 0 (by decide) wf_X1_24 rfl rfl rfl rfl dX1_pluck_16 ?_
  refine V_iload_n hX dX1_pluck_19 2 rfl ?_
  refine V_dup2 hX dX1_pluck_20 rfl rfl ?_
  refine V_iald (i0 := k) (r := (jI (s (ix k 4)))) hX 5 rfl (by omega) (by omega) (by omega) (by omega) rfl dX1_pluck_21 ?_
  refine V_iload_n hX dX1_pluck_22 0 rfl ?_
  refine V_isub hX dX1_pluck_23 rfl ?_
  refine V_iast (i0 := k) (w' := hB G h (up s (ix k 4) ((s (ix k 4)) - (plN s k)))) hX 5 rfl (by omega) (by omega) (by omega) (by omega) dX1_pluck_24 (hB_a4 G _ _ _ _) ?_
  refine V_aload_n hX dX1_pluck_25 1 rfl ?_
  refine V_get (v := .ref (h 7)) hX cbX1 6 0 (by decide) wf_X1_30 rfl rfl rfl rfl dX1_pluck_26 ?_
  refine V_iload_n hX dX1_pluck_29 2 rfl ?_
  refine V_dup2 hX dX1_pluck_30 rfl rfl ?_
  refine V_iald (i0 := k) (r := (jI (s (ix k 10)))) hX 7 rfl (by omega) (by omega) (by omega) (by omega) (by show jI ((up s (ix k 4) ((s (ix k 4)) - (plN s k))) (ix k 10)) = jI (s (ix k 10)); rw [up_ne (by unfold ix; omega)]) dX1_pluck_31 ?_
  refine V_iload_n hX dX1_pluck_32 0 rfl ?_
  refine V_iadd hX dX1_pluck_33 rfl ?_
  refine V_iast (i0 := k) (w' := hB G h (up (up s (ix k 4) ((s (ix k 4)) - (plN s k))) (ix k 10) ((s (ix k 10)) + (plN s k)))) hX 7 rfl (by omega) (by omega) (by omega) (by omega) dX1_pluck_34 (hB_a10 G _ _ _ _) ?_
  refine V_aload_n hX dX1_pluck_35 1 rfl ?_
  refine V_get (v := .ref (h 5)) hX cbX1 4 0 (by decide) wf_X1_24 rfl rfl rfl rfl dX1_pluck_36 ?_
  refine V_iload_n hX dX1_pluck_39 2 rfl ?_
  refine V_iald (i0 := k) (r := (jI ((s (ix k 4)) - (plN s k)))) hX 5 rfl (by omega) (by omega) (by omega) (by omega) (by show jI ((up (up s (ix k 4) ((s (ix k 4)) - (plN s k))) (ix k 10) ((s (ix k 10)) + (plN s k))) (ix k 4)) = jI ((s (ix k 4)) - (plN s k)); rw [up_ne (by unfold ix; omega), up_eq]) dX1_pluck_40 ?_
  refine V_if_ne (tgt := 49) hX dX1_pluck_41 (by decide) (by omega) (fun c_1 => ?_) (fun c_1 => ?_)
  · exact V_vret hX hR dX1_pluck_49 ⟨rfl, (by unfold plS; split <;> first | exact (hB_pl1 G h s k).symm | exact (hB_pl2 G h s k).symm | omega)⟩
  · refine V_aload_n hX dX1_pluck_44 1 rfl ?_
    refine V_iload_n hX dX1_pluck_45 2 rfl ?_
    refine V_dV (st := []) (w' := hB G h (fly (up (up s (ix k 4) ((s (ix k 4)) - (plN s k))) (ix k 10) ((s (ix k 10)) + (plN s k))) k)) hX wc_X1_86 (c_X1_letCrowsFly l G h (up (up s (ix k 4) ((s (ix k 4)) - (plN s k))) (ix k 10) ((s (ix k 10)) + (plN s k))) k (by omega)) (by decide) (by decide) rfl rfl (Nat.le_of_ble_eq_true rfl) dX1_pluck_46 [] ([]) (by simp only [List.append_assoc, List.nil_append, List.append_nil]) 0 rfl rfl (by simp only [List.append_assoc, List.nil_append, List.append_nil]) rfl rfl ?_
    exact V_vret hX hR dX1_pluck_49 ⟨rfl, (by unfold plS; split <;> first | exact (hB_pl1 G h s k).symm | exact (hB_pl2 G h s k).symm | omega)⟩

set_option maxHeartbeats 4000000 in
set_option maxRecDepth 100000 in
theorem c_X1_shiftWind (l : Launch) (G : vC) (h : Nat → Nat) (s : Nat → Int) (t : Int) (hI : Inv t s) : Fn l G yX1_shiftWind cX1_shiftWind 2 none ({ frames := 0, cells := 0, slots := 0, locals := 0 } : Room) [.ref (h 0)] (hB G h s) none (hB G h (shS s)) := by
  refine Ct.of (by decide) (Nat.le_of_ble_eq_true rfl) (fun X hX hR => ?_)
  refine V.toLv (lv' := [(0, .ref (h 0))]) rfl ?_
  have hb := hI.base
  refine V_aload_n hX dX1_shiftWind_0 0 rfl ?_
  refine V_get (v := .ref (h 10)) hX cbX1 9 0 (by decide) wf_X1_39 rfl rfl rfl rfl dX1_shiftWind_1 ?_
  refine V_iconst hX dX1_shiftWind_4 ?_
  refine V_iald (i0 := 0) (r := (jI (s 0))) hX 10 rfl (by decide) (by decide) (by decide) rfl (by show (if 0 < 2 then jI (s (0)) else 0) = jI (s 0); rw [if_pos (by omega)]) dX1_shiftWind_5 ?_
  refine V_istore_n (i := 1) (lv' := [(1, .int (jI (s 0))), (0, .ref (h 0))]) hX dX1_shiftWind_6 rfl (by decide) rfl ?_
  refine V_iload_n hX dX1_shiftWind_7 0 rfl ?_
  refine V_if_le (tgt := 32) hX dX1_shiftWind_8 (by decide) (by omega) (fun c_1 => ?_) (fun c_1 => ?_)
  · exact V_vret hX hR dX1_shiftWind_32 ⟨rfl, (congrArg (hB G h) (by unfold shS; split <;> first | rfl | omega))⟩
  · refine V_aload_n hX dX1_shiftWind_11 1 rfl ?_
    refine V_get (v := .int (jI (s 2))) hX cbX1 14 0 (by decide) wf_X1_62 rfl rfl rfl rfl dX1_shiftWind_12 ?_
    refine V_iload_n hX dX1_shiftWind_15 0 rfl ?_
    refine V_irem hX dX1_shiftWind_16 (by omega) (by omega) (by omega) (by omega) rfl ?_
    refine V_if_ne (tgt := 32) hX dX1_shiftWind_17 (by decide) ⟨by have := Int.emod_nonneg (s 2) (show s 0 ≠ 0 by omega); omega, by have := Int.emod_lt_of_pos (s 2) (show 0 < s 0 by omega); omega⟩ (fun c_2 => ?_) (fun c_2 => ?_)
    · exact V_vret hX hR dX1_shiftWind_32 ⟨rfl, (congrArg (hB G h) (by unfold shS; split <;> first | rfl | omega))⟩
    · refine V_aload_n hX dX1_shiftWind_20 1 rfl ?_
      refine V_aload_n hX dX1_shiftWind_21 1 rfl ?_
      refine V_get (v := .int (jI (s 3))) hX cbX1 11 0 (by decide) wf_X1_56 rfl rfl rfl rfl dX1_shiftWind_22 ?_
      refine V_iconst hX dX1_shiftWind_25 ?_
      refine V_iadd hX dX1_shiftWind_26 rfl ?_
      refine V_iconst hX dX1_shiftWind_27 ?_
      refine V_irem hX dX1_shiftWind_28 (by omega) (by omega) (by omega) (by omega) rfl ?_
      refine V_put (w' := hB G h (up s 3 (((s 3) + 1) % 4))) hX cbX1 11 0 (by decide) wf_X1_56 rfl rfl rfl rfl rfl rfl (Nat.le_of_ble_eq_true rfl) dX1_shiftWind_29 (hB_f11 G _ _ _) ?_
      exact V_vret hX hR dX1_shiftWind_32 ⟨rfl, (congrArg (hB G h) (by unfold shS; split <;> first | rfl | omega))⟩

set_option maxHeartbeats 4000000 in
set_option maxRecDepth 100000 in
theorem c_X1_doTick (l : Launch) (G : vC) (h : Nat → Nat) (s : Nat → Int) (t : Int) (hI : Inv t s) (ht : t + 1 ≤ 1000000) : Fn l G yX1_doTick cX1_doTick 3 (some .int) ({ frames := 2, cells := 0, slots := 0, locals := 45 } : Room) [.ref (h 0)] (hB G h s) (some (.int (jI (tkR s)))) (hB G h (tkS s)) := by
  refine Ct.of (by decide) (Nat.le_of_ble_eq_true rfl) (fun X hX hR => ?_)
  refine V.toLv (lv' := [(0, .ref (h 0))]) rfl ?_
  have hb := hI.base
  obtain ⟨N, hN⟩ : ∃ N : Nat, s 10 = (N : Int) := ⟨(s 10).toNat, by omega⟩
  have hN2 : (s 10).toNat = N := by omega
  refine V_iconst hX dX1_doTick_0 ?_
  refine V_istore_n (i := 1) (lv' := [(1, .int (jI 0)), (0, .ref (h 0))]) hX dX1_doTick_1 rfl (by decide) rfl ?_
  refine V_iconst hX dX1_doTick_2 ?_
  refine V_istore_n (i := 2) (lv' := [(2, .int (jI 0)), (1, .int (jI 0)), (0, .ref (h 0))]) hX dX1_doTick_3 rfl (by decide) rfl ?_
  have L4_q_1 : ∀ k : Nat, k ≤ N → ∀ (i : Int) (acc : Int), (i = (k : Int)) → (acc = twR s k) → V X 0 0 (hB G h (twS s k)) [(2, .int (jI i)), (1, .int (jI acc)), (0, .ref (h 0))] 4 [] := by
    refine up_ind (fun k => ∀ (i : Int) (acc : Int), (i = (k : Int)) → (acc = twR s k) → V X 0 0 (hB G h (twS s k)) [(2, .int (jI i)), (1, .int (jI acc)), (0, .ref (h 0))] 4 []) (N) ?_
    intro k hk ih i acc hi hacc
    have e10 : twS s k 10 = s 10 := twS_lo s k 10 (by decide)
    have hIk := hI.tw k (by omega)
    refine V_iload_n hX dX1_doTick_4 0 rfl ?_
    refine V_aload_n hX dX1_doTick_5 2 rfl ?_
    refine V_get (v := .int (jI ((twS s k) 10))) hX cbX1 10 0 (by decide) wf_X1_53 rfl rfl rfl rfl dX1_doTick_6 ?_
    refine V_icmp_ge (tgt := 26) hX dX1_doTick_9 (by decide) (by omega) (by omega) (fun c_2 => ?_) (fun c_2 => ?_)
    · have hkN : k = N := by omega
      refine V.wd (w' := hB G h (twS s N)) (by rw [hkN]) ?_
      refine V_iconst hX dX1_doTick_26 ?_
      refine V_istore_n (i := 2) (lv' := [(2, .int (jI 0)), (1, .int (jI acc)), (0, .ref (h 0))]) hX dX1_doTick_27 rfl (by decide) rfl ?_
      have L28_q_3 : ∀ k2 : Nat, k2 ≤ N → ∀ (i2 : Int), (i2 = (k2 : Int)) → V X 0 0 (hB G h (pkS (twS s N) k2)) [(2, .int (jI i2)), (1, .int (jI acc)), (0, .ref (h 0))] 28 [] := by
        refine up_ind (fun k2 => ∀ (i2 : Int), (i2 = (k2 : Int)) → V X 0 0 (hB G h (pkS (twS s N) k2)) [(2, .int (jI i2)), (1, .int (jI acc)), (0, .ref (h 0))] 28 []) (N) ?_
        intro k2 hk ih i2 hi2
        have e10 : pkS (twS s N) k2 10 = s 10 := (pkS_lo _ _ _ (by decide) (by decide)).trans (twS_lo s N 10 (by decide))
        have e10b : twS s N 10 = s 10 := twS_lo s N 10 (by decide)
        have hIk := (hI.tw N (by omega)).pk k2 (by omega)
        refine V_iload_n hX dX1_doTick_28 0 rfl ?_
        refine V_aload_n hX dX1_doTick_29 2 rfl ?_
        refine V_get (v := .int (jI ((pkS (twS s N) k2) 10))) hX cbX1 10 0 (by decide) wf_X1_53 rfl rfl rfl rfl dX1_doTick_30 ?_
        refine V_icmp_ge (tgt := 47) hX dX1_doTick_33 (by decide) (by omega) (by omega) (fun c_4 => ?_) (fun c_4 => ?_)
        · have hkN2 : k2 = N := by omega
          refine V.wd (w' := hB G h (tkA s)) (by rw [hkN2]; unfold tkA; rw [hN2]) ?_
          refine V_aload_n hX dX1_doTick_47 2 rfl ?_
          refine V_dup hX dX1_doTick_48 rfl ?_
          refine V_get (v := .int (jI ((tkA s) 2))) hX cbX1 14 0 (by decide) wf_X1_62 rfl rfl rfl rfl dX1_doTick_49 ?_
          refine V_iconst hX dX1_doTick_52 ?_
          refine V_iadd hX dX1_doTick_53 rfl ?_
          refine V_put (w' := hB G h (up (tkA s) 2 (((tkA s) 2) + 1))) hX cbX1 14 0 (by decide) wf_X1_62 rfl rfl rfl rfl rfl rfl (Nat.le_of_ble_eq_true rfl) dX1_doTick_54 (hB_f14 G _ _ _) ?_
          refine V_aload_n hX dX1_doTick_57 2 rfl ?_
          refine V_dV (st := []) (w' := hB G h (shS (up (tkA s) 2 (((tkA s) 2) + 1)))) hX wc_X1_110 (c_X1_shiftWind l G h (up (tkA s) 2 (((tkA s) 2) + 1)) (t + 1) (hI.tkB ht)) (by decide) (by decide) rfl rfl (Nat.le_of_ble_eq_true rfl) dX1_doTick_58 [] ([]) (by simp only [List.append_assoc, List.nil_append, List.append_nil]) 0 rfl rfl (by simp only [List.append_assoc, List.nil_append, List.append_nil]) rfl rfl ?_
          refine V_iload_n hX dX1_doTick_61 1 rfl ?_
          exact V_iret hX hR dX1_doTick_62 ⟨(congrArg (fun z => some (Value.int (jI z))) (by rw [hacc, hkN]; unfold tkR; rw [hN2])), (hB_sh7 G h _ _).symm⟩
        · refine V_aload_n hX dX1_doTick_36 2 rfl ?_
          refine V_iload_n hX dX1_doTick_37 0 rfl ?_
          refine V.sk (st' := [.int (jI ((k2 : Int))), .ref (h 0)]) (congrArg (fun z : Int => [Value.int (jI z), Value.ref (h 0)]) (show i2 = (k2 : Int) by omega)) ?_
          refine V_dV (st := []) (w' := hB G h (plS (pkS (twS s N) k2) k2)) hX wc_X1_107 (c_X1_pluck l G h (pkS (twS s N) k2) t k2 hIk (by omega) (by omega)) (by decide) (by decide) rfl rfl (Nat.le_of_ble_eq_true rfl) dX1_doTick_38 [] ([]) (by simp only [List.append_assoc, List.nil_append, List.append_nil]) 0 rfl rfl (by simp only [List.append_assoc, List.nil_append, List.append_nil]) rfl rfl ?_
          refine V_iinc (b := i2 + 1) (lv' := [(2, .int (jI (i2 + 1))), (1, .int (jI acc)), (0, .ref (h 0))]) hX dX1_doTick_41 0 rfl rfl (by decide) rfl ?_
          refine V_goto (tgt := 28) hX dX1_doTick_44 (by decide) ?_
          refine V.sub [0, 1, 2] rfl ?_
          exact ih (by omega) _ (by omega)
      refine V.sub [0, 1, 2] rfl ?_
      exact L28_q_3 0 (Nat.zero_le _) 0 rfl
    · refine V_iload_n hX dX1_doTick_12 1 rfl ?_
      refine V_aload_n hX dX1_doTick_13 2 rfl ?_
      refine V_iload_n hX dX1_doTick_14 0 rfl ?_
      refine V.sk (st' := [.int (jI ((k : Int))), .ref (h 0), .int (jI acc)]) (congrArg (fun z : Int => [Value.int (jI z), Value.ref (h 0), Value.int (jI acc)]) (show i = (k : Int) by omega)) ?_
      refine V_cV (st := [.int (jI acc)]) (v := .int (jI (tbR (twS s k) k))) (w' := hB G h (tbS (twS s k) k)) hX wc_X1_104 (c_X1_turnByWind l G h (twS s k) t k hIk (by omega) (by omega)) (by decide) (by decide) rfl rfl (Nat.le_of_ble_eq_true rfl) dX1_doTick_15 [] ([]) (by simp only [List.append_assoc, List.nil_append, List.append_nil]) 0 rfl rfl (by simp only [List.append_assoc, List.nil_append, List.append_nil]) rfl rfl ?_
      refine V_iadd hX dX1_doTick_18 rfl ?_
      refine V_istore_n (i := 1) (lv' := [(1, .int (jI (acc + (tbR (twS s k) k)))), (2, .int (jI i)), (0, .ref (h 0))]) hX dX1_doTick_19 rfl (by decide) rfl ?_
      refine V_iinc (b := i + 1) (lv' := [(2, .int (jI (i + 1))), (1, .int (jI (acc + (tbR (twS s k) k)))), (0, .ref (h 0))]) hX dX1_doTick_20 1 rfl rfl (by decide) rfl ?_
      refine V_goto (tgt := 4) hX dX1_doTick_23 (by decide) ?_
      refine V.sub [0, 1, 2] rfl ?_
      exact ih (by omega) _ _ (by omega) (by rw [hacc]; rfl)
  refine V.sub [0, 1, 2] rfl ?_
  exact L4_q_1 0 (Nat.zero_le _) 0 0 rfl rfl

set_option maxHeartbeats 4000000 in
set_option maxRecDepth 100000 in
theorem c_X1_doTicks (l : Launch) (G : vC) (h : Nat → Nat) (s : Nat → Int) (t : Int) (m : Nat) (hI : Inv t s) (hm : m ≤ 300) (ht : t + m ≤ 1000000) : Fn l G yX1_doTicks cX1_doTicks 4 (some .int) ({ frames := 3, cells := 0, slots := 0, locals := 67 } : Room) [.ref (h 0), .int (jI ((m : Int)))] (hB G h s) (some (.int (jI (tsR s m)))) (hB G h (tsS s m)) := by
  refine Ct.of (by decide) (Nat.le_of_ble_eq_true rfl) (fun X hX hR => ?_)
  refine V.toLv (lv' := [(0, .ref (h 0)), (1, .int (jI ((m : Int))))]) rfl ?_
  have hb := hI.base
  refine V_iconst hX dX1_doTicks_0 ?_
  refine V_istore_n (i := 2) (lv' := [(2, .int (jI 0)), (0, .ref (h 0)), (1, .int (jI ((m : Int))))]) hX dX1_doTicks_1 rfl (by decide) rfl ?_
  refine V_iconst hX dX1_doTicks_2 ?_
  refine V_istore_n (i := 3) (lv' := [(3, .int (jI 0)), (2, .int (jI 0)), (0, .ref (h 0)), (1, .int (jI ((m : Int))))]) hX dX1_doTicks_3 rfl (by decide) rfl ?_
  have L4_q_1 : ∀ k : Nat, k ≤ m → ∀ (i : Int) (acc : Int), (i = (k : Int)) → (acc = tsR s k) → V X 0 0 (hB G h (tsS s k)) [(3, .int (jI i)), (2, .int (jI acc)), (0, .ref (h 0)), (1, .int (jI ((m : Int))))] 4 [] := by
    refine up_ind (fun k => ∀ (i : Int) (acc : Int), (i = (k : Int)) → (acc = tsR s k) → V X 0 0 (hB G h (tsS s k)) [(3, .int (jI i)), (2, .int (jI acc)), (0, .ref (h 0)), (1, .int (jI ((m : Int))))] 4 []) (m) ?_
    intro k hk ih i acc hi hacc
    have hIk := hI.ts k (by omega)
    refine V_iload_n hX dX1_doTicks_4 0 rfl ?_
    refine V_iload_n hX dX1_doTicks_5 3 rfl ?_
    refine V_icmp_ge (tgt := 22) hX dX1_doTicks_6 (by decide) (by omega) (by omega) (fun c_2 => ?_) (fun c_2 => ?_)
    · have hkm : k = m := by omega
      refine V.wd (w' := hB G h (tsS s m)) (by rw [hkm]) ?_
      refine V_iload_n hX dX1_doTicks_22 1 rfl ?_
      exact V_iret hX hR dX1_doTicks_23 ⟨(congrArg (fun z => some (Value.int (jI z))) (by rw [hacc, hkm])), rfl⟩
    · refine V_iload_n hX dX1_doTicks_9 1 rfl ?_
      refine V_aload_n hX dX1_doTicks_10 2 rfl ?_
      refine V_cV (st := [.int (jI acc)]) (v := .int (jI (tkR (tsS s k)))) (w' := hB G h (tkS (tsS s k))) hX wc_X1_100 (c_X1_doTick l G h (tsS s k) (t + (k : Int)) hIk (by omega)) (by decide) (by decide) rfl rfl (Nat.le_of_ble_eq_true rfl) dX1_doTicks_11 [] ([]) (by simp only [List.append_assoc, List.nil_append, List.append_nil]) 0 rfl rfl (by simp only [List.append_assoc, List.nil_append, List.append_nil]) rfl rfl ?_
      refine V_iadd hX dX1_doTicks_14 rfl ?_
      refine V_istore_n (i := 2) (lv' := [(2, .int (jI (acc + (tkR (tsS s k))))), (3, .int (jI i)), (0, .ref (h 0)), (1, .int (jI ((m : Int))))]) hX dX1_doTicks_15 rfl (by decide) rfl ?_
      refine V_iinc (b := i + 1) (lv' := [(3, .int (jI (i + 1))), (2, .int (jI (acc + (tkR (tsS s k))))), (0, .ref (h 0)), (1, .int (jI ((m : Int))))]) hX dX1_doTicks_16 1 rfl rfl (by decide) rfl ?_
      refine V_goto (tgt := 4) hX dX1_doTicks_19 (by decide) ?_
      refine V.sub [0, 1, 2, 3] rfl ?_
      exact ih (by omega) _ _ (by omega) (by rw [hacc]; rfl)
  refine V.sub [0, 1, 2, 3] rfl ?_
  exact L4_q_1 0 (Nat.zero_le _) 0 0 rfl rfl

set_option maxHeartbeats 4000000 in
set_option maxRecDepth 100000 in
theorem c_X1_goOn (l : Launch) (G : vC) (h : Nat → Nat) (s : Nat → Int) (t : Int) (m : Int) (hI : Inv t s) (hm : iR m) (ht : t = 99999) : Fn l G yX1_goOn cX1_goOn 2 (some .int) ({ frames := 4, cells := 0, slots := 0, locals := 90 } : Room) [.ref (h 0), .int (jI m)] (hB G h s) (some (.int (jI (goR s m)))) (hB G h (goS s m)) := by
  refine Ct.of (by decide) (Nat.le_of_ble_eq_true rfl) (fun X hX hR => ?_)
  refine V.toLv (lv' := [(0, .ref (h 0)), (1, .int (jI m))]) rfl ?_
  have hb := hI.base
  refine V_iload_n hX dX1_goOn_0 1 rfl ?_
  refine V_iconst hX dX1_goOn_1 ?_
  refine V_bipush hX dX1_goOn_2 (by decide) ?_
  refine V_cSN (st := []) (v := .int (jI (bI (1 ≤ m ∧ m ≤ 99)))) (w' := hB G h s) hX wc_X1_75 (c_X4_isIn l G m 1 99 (by omega) (by omega) (by omega)) (by decide) (by decide) rfl rfl (Nat.le_of_ble_eq_true rfl) dX1_goOn_4 [] (hB G h s) (by simp only [List.append_assoc, List.nil_append, List.append_nil]) (by simp only [List.append_assoc, List.nil_append, List.append_nil]) rfl rfl ?_
  refine V_ifnz (tgt := 13) hX dX1_goOn_7 (by decide) (fun c_1 => ?_) (fun c_1 => ?_)
  · refine V_aload_n hX dX1_goOn_13 0 rfl ?_
    refine V_get (v := .int (jI (s 2))) hX cbX1 14 0 (by decide) wf_X1_62 rfl rfl rfl rfl dX1_goOn_14 ?_
    refine V_iload_n hX dX1_goOn_17 1 rfl ?_
    refine V_iadd hX dX1_goOn_18 rfl ?_
    refine V_ldc (a := 99999) (v := 99999) hX dX1_goOn_19 (List.mem_of_getElem? (i := 433) (by decide +kernel)) rfl rfl ?_
    refine V_icmp_le (tgt := 29) hX dX1_goOn_21 (by decide) (by omega) (by decide) (fun c_2 => ?_) (fun c_2 => ?_)
    · refine V_aload_n hX dX1_goOn_29 0 rfl ?_
      refine V_iload_n hX dX1_goOn_30 1 rfl ?_
      refine V.sk (st' := [.int (jI ((m.toNat : Int))), .ref (h 0)]) (congrArg (fun z : Int => [Value.int (jI z), Value.ref (h 0)]) (show m = (m.toNat : Int) by omega)) ?_
      refine V_cV (st := []) (v := .int (jI (tsR s m.toNat))) (w' := hB G h (tsS s m.toNat)) hX wc_X1_97 (c_X1_doTicks l G h s t m.toNat hI (by omega) (by omega)) (by decide) (by decide) rfl rfl (Nat.le_of_ble_eq_true rfl) dX1_goOn_31 [] ([]) (by simp only [List.append_assoc, List.nil_append, List.append_nil]) 0 rfl rfl (by simp only [List.append_assoc, List.nil_append, List.append_nil]) rfl rfl ?_
      exact V_iret hX hR dX1_goOn_34 ⟨(congrArg (fun z => some (Value.int (jI z))) (by unfold goR; (repeat' split) <;> first | rfl | omega)), (congrArg (hB G h) (by unfold goS; split <;> first | rfl | omega))⟩
    · refine V_bipush hX dX1_goOn_24 (by decide) ?_
      refine V_goto (tgt := 34) hX dX1_goOn_26 (by decide) ?_
      exact V_iret hX hR dX1_goOn_34 ⟨(congrArg (fun z => some (Value.int (jI z))) (by unfold goR; (repeat' split) <;> first | rfl | omega)), (congrArg (hB G h) (by unfold goS; split <;> first | rfl | omega))⟩
  · refine V_bipush hX dX1_goOn_10 (by decide) ?_
    exact V_iret hX hR dX1_goOn_12 ⟨(congrArg (fun z => some (Value.int (jI z))) (by unfold goR; (repeat' split) <;> first | rfl | omega)), (congrArg (hB G h) (by unfold goS; split <;> first | rfl | omega))⟩
