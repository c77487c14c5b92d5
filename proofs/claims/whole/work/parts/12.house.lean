set_option maxHeartbeats 4000000 in
set_option maxRecDepth 100000 in
theorem c_X4_isIn (l : Launch) (G : vC) (a : Int) (b : Int) (c : Int) (ha : iR a) (hb : iR b) (hc : iR c) : Fn l G yX4_isIn cX4_isIn 3 (some .boolean) ({ frames := 0, cells := 0, slots := 0, locals := 0 } : Room) [.int (jI a), .int (jI b), .int (jI c)] ([]) (some (.int (jI (bI (b ≤ a ∧ a ≤ c))))) ([]) := by
  refine Ct.of (by decide) (by decide) (fun X hX hR => ?_)
  refine V.toLv (lv' := [(0, .int (jI a)), (1, .int (jI b)), (2, .int (jI c))]) rfl ?_
  refine V_iload_n hX dX4_isIn_0 0 rfl ?_
  refine V_iload_n hX dX4_isIn_1 1 rfl ?_
  refine V_if_icmp_lt (tgt := 14) hX dX4_isIn_2 (by decide) (by omega) (by omega) (fun c_1 => ?_) (fun c_1 => ?_)
  · refine V_iconst hX dX4_isIn_14 ?_
    exact V_zret hX hR rfl dX4_isIn_15 ⟨(congrArg (fun z => some (Value.int (jI z))) (bI_f (by omega)).symm), rfl⟩
  · refine V_iload_n hX dX4_isIn_5 0 rfl ?_
    refine V_iload_n hX dX4_isIn_6 2 rfl ?_
    refine V_if_icmp_gt (tgt := 14) hX dX4_isIn_7 (by decide) (by omega) (by omega) (fun c_2 => ?_) (fun c_2 => ?_)
    · refine V_iconst hX dX4_isIn_14 ?_
      exact V_zret hX hR rfl dX4_isIn_15 ⟨(congrArg (fun z => some (Value.int (jI z))) (bI_f (by omega)).symm), rfl⟩
    · refine V_iconst hX dX4_isIn_10 ?_
      refine V_goto (tgt := 15) hX dX4_isIn_11 (by decide) ?_
      exact V_zret hX hR rfl dX4_isIn_15 ⟨(congrArg (fun z => some (Value.int (jI z))) (bI_t (by omega)).symm), rfl⟩

set_option maxHeartbeats 4000000 in
set_option maxRecDepth 100000 in
theorem c_X4_isField (l : Launch) (G : vC) (a : Int) (ha : iR a) : Fn l G yX4_isField cX4_isField 1 (some .boolean) ({ frames := 1, cells := 0, slots := 0, locals := 22 } : Room) [.int (jI a)] ([]) (some (.int (jI (bI (0 ≤ a ∧ a ≤ 5))))) ([]) := by
  refine Ct.of (by decide) (by decide) (fun X hX hR => ?_)
  refine V.toLv (lv' := [(0, .int (jI a))]) rfl ?_
  refine V_iload_n hX dX4_isField_0 0 rfl ?_
  refine V_iconst hX dX4_isField_1 ?_
  refine V_iconst hX dX4_isField_2 ?_
  refine V_cS (st := []) (v := .int (jI (bI (0 ≤ a ∧ a ≤ 5)))) (w' := []) hX wc_X4_195 (c_X4_isIn l G a 0 5 (by omega) (by omega) (by omega)) (by decide) (by decide) rfl rfl (by decide) dX4_isField_3 [] ([]) (by simp only [List.append_assoc, List.nil_append, List.append_nil]) (by simp only [List.append_assoc, List.nil_append, List.append_nil]) rfl rfl ?_
  exact V_zret hX hR (nb_bI _) dX4_isField_6 ⟨rfl, rfl⟩

set_option maxHeartbeats 4000000 in
set_option maxRecDepth 100000 in
theorem c_X4_isWay (l : Launch) (G : vC) (a : Int) (ha : iR a) : Fn l G yX4_isWay cX4_isWay 1 (some .boolean) ({ frames := 1, cells := 0, slots := 0, locals := 22 } : Room) [.int (jI a)] ([]) (some (.int (jI (bI (0 ≤ a ∧ a ≤ 3))))) ([]) := by
  refine Ct.of (by decide) (by decide) (fun X hX hR => ?_)
  refine V.toLv (lv' := [(0, .int (jI a))]) rfl ?_
  refine V_iload_n hX dX4_isWay_0 0 rfl ?_
  refine V_iconst hX dX4_isWay_1 ?_
  refine V_iconst hX dX4_isWay_2 ?_
  refine V_cS (st := []) (v := .int (jI (bI (0 ≤ a ∧ a ≤ 3)))) (w' := []) hX wc_X4_195 (c_X4_isIn l G a 0 3 (by omega) (by omega) (by omega)) (by decide) (by decide) rfl rfl (by decide) dX4_isWay_3 [] ([]) (by simp only [List.append_assoc, List.nil_append, List.append_nil]) (by simp only [List.append_assoc, List.nil_append, List.append_nil]) rfl rfl ?_
  exact V_zret hX hR (nb_bI _) dX4_isWay_6 ⟨rfl, rfl⟩

set_option maxHeartbeats 4000000 in
set_option maxRecDepth 100000 in
theorem c_X4_isError (l : Launch) (G : vC) (a : Int) (ha : iR a) : Fn l G yX4_isError cX4_isError 1 (some .boolean) ({ frames := 0, cells := 0, slots := 0, locals := 0 } : Room) [.int (jI a)] ([]) (some (.int (jI (bI (a < 0 ∧ a ≠ -5))))) ([]) := by
  refine Ct.of (by decide) (by decide) (fun X hX hR => ?_)
  refine V.toLv (lv' := [(0, .int (jI a))]) rfl ?_
  refine V_iload_n hX dX4_isError_0 0 rfl ?_
  refine V_if_ge (tgt := 14) hX dX4_isError_1 (by decide) (by omega) (fun c_1 => ?_) (fun c_1 => ?_)
  · refine V_iconst hX dX4_isError_14 ?_
    exact V_zret hX hR rfl dX4_isError_15 ⟨(congrArg (fun z => some (Value.int (jI z))) (bI_f (by omega)).symm), rfl⟩
  · refine V_iload_n hX dX4_isError_4 0 rfl ?_
    refine V_bipush hX dX4_isError_5 (by decide) ?_
    refine V_if_icmp_eq (tgt := 14) hX dX4_isError_7 (by decide) (by omega) (by decide) (fun c_2 => ?_) (fun c_2 => ?_)
    · refine V_iconst hX dX4_isError_14 ?_
      exact V_zret hX hR rfl dX4_isError_15 ⟨(congrArg (fun z => some (Value.int (jI z))) (bI_f (by omega)).symm), rfl⟩
    · refine V_iconst hX dX4_isError_10 ?_
      refine V_goto (tgt := 15) hX dX4_isError_11 (by decide) ?_
      exact V_zret hX hR rfl dX4_isError_15 ⟨(congrArg (fun z => some (Value.int (jI z))) (bI_t (by omega)).symm), rfl⟩

set_option maxHeartbeats 4000000 in
set_option maxRecDepth 100000 in
theorem c_X1_isScarecrow (l : Launch) (G : vC) (h : Nat → Nat) (s : Nat → Int) (t : Int) (a : Int) (hI : Inv t s) (ha : iR a) : Fn l G yX1_isScarecrow cX1_isScarecrow 2 (some .boolean) ({ frames := 0, cells := 0, slots := 0, locals := 0 } : Room) [.ref (h 0), .int (jI a)] (hB G h s) (some (.int (jI (bI (0 ≤ a ∧ a < s 10))))) (hB G h s) := by
  refine Ct.of (by decide) (by decide) (fun X hX hR => ?_)
  refine V.toLv (lv' := [(0, .ref (h 0)), (1, .int (jI a))]) rfl ?_
  have hb := hI.base
  refine V_iload_n hX dX1_isScarecrow_0 1 rfl ?_
  refine V_if_lt (tgt := 16) hX dX1_isScarecrow_1 (by decide) (by omega) (fun c_1 => ?_) (fun c_1 => ?_)
  · refine V_iconst hX dX1_isScarecrow_16 ?_
    exact V_zret hX hR rfl dX1_isScarecrow_17 ⟨(congrArg (fun z => some (Value.int (jI z))) (bI_f (by omega)).symm), rfl⟩
  · refine V_iload_n hX dX1_isScarecrow_4 1 rfl ?_
    refine V_aload_n hX dX1_isScarecrow_5 0 rfl ?_
    refine V_get (v := .int (jI (s 10))) hX cbX1 10 0 (by decide) wf_X1_53 rfl rfl rfl rfl dX1_isScarecrow_6 ?_
    refine V_if_icmp_ge (tgt := 16) hX dX1_isScarecrow_9 (by decide) (by omega) (by omega) (fun c_2 => ?_) (fun c_2 => ?_)
    · refine V_iconst hX dX1_isScarecrow_16 ?_
      exact V_zret hX hR rfl dX1_isScarecrow_17 ⟨(congrArg (fun z => some (Value.int (jI z))) (bI_f (by omega)).symm), rfl⟩
    · refine V_iconst hX dX1_isScarecrow_12 ?_
      refine V_goto (tgt := 17) hX dX1_isScarecrow_13 (by decide) ?_
      exact V_zret hX hR rfl dX1_isScarecrow_17 ⟨(congrArg (fun z => some (Value.int (jI z))) (bI_t (by omega)).symm), rfl⟩

set_option maxHeartbeats 4000000 in
set_option maxRecDepth 100000 in
theorem c_X1_crowsOn (l : Launch) (G : vC) (h : Nat → Nat) (s : Nat → Int) (t : Int) (k : Nat) (hI : Inv t s) (hk : k < 12) : Fn l G yX1_crowsOn cX1_crowsOn 4 (some .int) ({ frames := 0, cells := 0, slots := 0, locals := 0 } : Room) [.ref (h 0), .int (jI ((k : Int)))] (hB G h s) (some (.int (jI (crN s k)))) (hB G h s) := by
  refine Ct.of (by decide) (by decide) (fun X hX hR => ?_)
  refine V.toLv (lv' := [(0, .ref (h 0)), (1, .int (jI ((k : Int))))]) rfl ?_
  have hb := hI.base
  have hs := hI.sc k hk
  refine V_iconst hX dX1_crowsOn_0 ?_
  refine V_istore_n (i := 2) (lv' := [(2, .int (jI 0)), (0, .ref (h 0)), (1, .int (jI ((k : Int))))]) hX dX1_crowsOn_1 rfl (by decide) rfl ?_
  refine V_iconst hX dX1_crowsOn_2 ?_
  refine V_istore_n (i := 3) (lv' := [(3, .int (jI 0)), (2, .int (jI 0)), (0, .ref (h 0)), (1, .int (jI ((k : Int))))]) hX dX1_crowsOn_3 rfl (by decide) rfl ?_
  refine V_iload_n hX dX1_crowsOn_4 0 rfl ?_
  refine V_iconst hX dX1_crowsOn_5 ?_
  refine V_if_icmp_ge (tgt := 28) hX dX1_crowsOn_6 (by decide) (by decide) (by decide) (fun c_1 => absurd c_1 (by decide)) (fun c_1 => ?_)
  refine V_iload_n hX dX1_crowsOn_9 1 rfl ?_
  refine V_aload_n hX dX1_crowsOn_10 2 rfl ?_
  refine V_get (v := .ref (h 8)) hX cbX1 7 0 (by decide) wf_X1_33 rfl rfl rfl rfl dX1_crowsOn_11 ?_
  refine V_iload_n hX dX1_crowsOn_14 3 rfl ?_
  refine V_iconst hX dX1_crowsOn_15 ?_
  refine V_imul hX dX1_crowsOn_16 rfl ?_
  refine V_iload_n hX dX1_crowsOn_17 0 rfl ?_
  refine V_iadd hX dX1_crowsOn_18 rfl ?_
  refine V_iald (i0 := k * 4 + 0) (r := (jI (s (ix k 5)))) hX 8 rfl (by omega) (by omega) (by decide) (by omega) (by show jI (s (ix ((k * 4 + 0) / 4) (5 + (k * 4 + 0) % 4))) = jI (s (ix k 5)); rw [show ix ((k * 4 + 0) / 4) (5 + (k * 4 + 0) % 4) = ix k 5 by unfold ix; omega]) dX1_crowsOn_19 ?_
  refine V_iadd hX dX1_crowsOn_20 rfl ?_
  refine V_istore_n (i := 2) (lv' := [(2, .int (jI (0 + (s (ix k 5))))), (3, .int (jI 0)), (0, .ref (h 0)), (1, .int (jI ((k : Int))))]) hX dX1_crowsOn_21 rfl (by decide) rfl ?_
  refine V_iinc (b := 1) (lv' := [(3, .int (jI 1)), (2, .int (jI (0 + (s (ix k 5))))), (0, .ref (h 0)), (1, .int (jI ((k : Int))))]) hX dX1_crowsOn_22 1 rfl rfl (by decide) rfl ?_
  refine V_goto (tgt := 4) hX dX1_crowsOn_25 (by decide) ?_
  refine V_iload_n hX dX1_crowsOn_4 0 rfl ?_
  refine V_iconst hX dX1_crowsOn_5 ?_
  refine V_if_icmp_ge (tgt := 28) hX dX1_crowsOn_6 (by decide) (by decide) (by decide) (fun c_2 => absurd c_2 (by decide)) (fun c_2 => ?_)
  refine V_iload_n hX dX1_crowsOn_9 1 rfl ?_
  refine V_aload_n hX dX1_crowsOn_10 2 rfl ?_
  refine V_get (v := .ref (h 8)) hX cbX1 7 0 (by decide) wf_X1_33 rfl rfl rfl rfl dX1_crowsOn_11 ?_
  refine V_iload_n hX dX1_crowsOn_14 3 rfl ?_
  refine V_iconst hX dX1_crowsOn_15 ?_
  refine V_imul hX dX1_crowsOn_16 rfl ?_
  refine V_iload_n hX dX1_crowsOn_17 0 rfl ?_
  refine V_iadd hX dX1_crowsOn_18 rfl ?_
  refine V_iald (i0 := k * 4 + 1) (r := (jI (s (ix k 6)))) hX 8 rfl (by omega) (by omega) (by decide) (by omega) (by show jI (s (ix ((k * 4 + 1) / 4) (5 + (k * 4 + 1) % 4))) = jI (s (ix k 6)); rw [show ix ((k * 4 + 1) / 4) (5 + (k * 4 + 1) % 4) = ix k 6 by unfold ix; omega]) dX1_crowsOn_19 ?_
  refine V_iadd hX dX1_crowsOn_20 rfl ?_
  refine V_istore_n (i := 2) (lv' := [(2, .int (jI ((0 + (s (ix k 5))) + (s (ix k 6))))), (3, .int (jI 1)), (0, .ref (h 0)), (1, .int (jI ((k : Int))))]) hX dX1_crowsOn_21 rfl (by decide) rfl ?_
  refine V_iinc (b := 2) (lv' := [(3, .int (jI 2)), (2, .int (jI ((0 + (s (ix k 5))) + (s (ix k 6))))), (0, .ref (h 0)), (1, .int (jI ((k : Int))))]) hX dX1_crowsOn_22 1 rfl rfl (by decide) rfl ?_
  refine V_goto (tgt := 4) hX dX1_crowsOn_25 (by decide) ?_
  refine V_iload_n hX dX1_crowsOn_4 0 rfl ?_
  refine V_iconst hX dX1_crowsOn_5 ?_
  refine V_if_icmp_ge (tgt := 28) hX dX1_crowsOn_6 (by decide) (by decide) (by decide) (fun c_3 => absurd c_3 (by decide)) (fun c_3 => ?_)
  refine V_iload_n hX dX1_crowsOn_9 1 rfl ?_
  refine V_aload_n hX dX1_crowsOn_10 2 rfl ?_
  refine V_get (v := .ref (h 8)) hX cbX1 7 0 (by decide) wf_X1_33 rfl rfl rfl rfl dX1_crowsOn_11 ?_
  refine V_iload_n hX dX1_crowsOn_14 3 rfl ?_
  refine V_iconst hX dX1_crowsOn_15 ?_
  refine V_imul hX dX1_crowsOn_16 rfl ?_
  refine V_iload_n hX dX1_crowsOn_17 0 rfl ?_
  refine V_iadd hX dX1_crowsOn_18 rfl ?_
  refine V_iald (i0 := k * 4 + 2) (r := (jI (s (ix k 7)))) hX 8 rfl (by omega) (by omega) (by decide) (by omega) (by show jI (s (ix ((k * 4 + 2) / 4) (5 + (k * 4 + 2) % 4))) = jI (s (ix k 7)); rw [show ix ((k * 4 + 2) / 4) (5 + (k * 4 + 2) % 4) = ix k 7 by unfold ix; omega]) dX1_crowsOn_19 ?_
  refine V_iadd hX dX1_crowsOn_20 rfl ?_
  refine V_istore_n (i := 2) (lv' := [(2, .int (jI (((0 + (s (ix k 5))) + (s (ix k 6))) + (s (ix k 7))))), (3, .int (jI 2)), (0, .ref (h 0)), (1, .int (jI ((k : Int))))]) hX dX1_crowsOn_21 rfl (by decide) rfl ?_
  refine V_iinc (b := 3) (lv' := [(3, .int (jI 3)), (2, .int (jI (((0 + (s (ix k 5))) + (s (ix k 6))) + (s (ix k 7))))), (0, .ref (h 0)), (1, .int (jI ((k : Int))))]) hX dX1_crowsOn_22 1 rfl rfl (by decide) rfl ?_
  refine V_goto (tgt := 4) hX dX1_crowsOn_25 (by decide) ?_
  refine V_iload_n hX dX1_crowsOn_4 0 rfl ?_
  refine V_iconst hX dX1_crowsOn_5 ?_
  refine V_if_icmp_ge (tgt := 28) hX dX1_crowsOn_6 (by decide) (by decide) (by decide) (fun c_4 => absurd c_4 (by decide)) (fun c_4 => ?_)
  refine V_iload_n hX dX1_crowsOn_9 1 rfl ?_
  refine V_aload_n hX dX1_crowsOn_10 2 rfl ?_
  refine V_get (v := .ref (h 8)) hX cbX1 7 0 (by decide) wf_X1_33 rfl rfl rfl rfl dX1_crowsOn_11 ?_
  refine V_iload_n hX dX1_crowsOn_14 3 rfl ?_
  refine V_iconst hX dX1_crowsOn_15 ?_
  refine V_imul hX dX1_crowsOn_16 rfl ?_
  refine V_iload_n hX dX1_crowsOn_17 0 rfl ?_
  refine V_iadd hX dX1_crowsOn_18 rfl ?_
  refine V_iald (i0 := k * 4 + 3) (r := (jI (s (ix k 8)))) hX 8 rfl (by omega) (by omega) (by decide) (by omega) (by show jI (s (ix ((k * 4 + 3) / 4) (5 + (k * 4 + 3) % 4))) = jI (s (ix k 8)); rw [show ix ((k * 4 + 3) / 4) (5 + (k * 4 + 3) % 4) = ix k 8 by unfold ix; omega]) dX1_crowsOn_19 ?_
  refine V_iadd hX dX1_crowsOn_20 rfl ?_
  refine V_istore_n (i := 2) (lv' := [(2, .int (jI ((((0 + (s (ix k 5))) + (s (ix k 6))) + (s (ix k 7))) + (s (ix k 8))))), (3, .int (jI 3)), (0, .ref (h 0)), (1, .int (jI ((k : Int))))]) hX dX1_crowsOn_21 rfl (by decide) rfl ?_
  refine V_iinc (b := 4) (lv' := [(3, .int (jI 4)), (2, .int (jI ((((0 + (s (ix k 5))) + (s (ix k 6))) + (s (ix k 7))) + (s (ix k 8))))), (0, .ref (h 0)), (1, .int (jI ((k : Int))))]) hX dX1_crowsOn_22 1 rfl rfl (by decide) rfl ?_
  refine V_goto (tgt := 4) hX dX1_crowsOn_25 (by decide) ?_
  refine V_iload_n hX dX1_crowsOn_4 0 rfl ?_
  refine V_iconst hX dX1_crowsOn_5 ?_
  refine V_if_icmp_ge (tgt := 28) hX dX1_crowsOn_6 (by decide) (by decide) (by decide) (fun c_5 => ?_) (fun c_5 => absurd c_5 (by decide))
  refine V_iload_n hX dX1_crowsOn_28 1 rfl ?_
  exact V_iret hX hR dX1_crowsOn_29 ⟨(congrArg (fun z => some (Value.int (jI z))) (by first | rfl | (unfold crN; (repeat' split) <;> first | rfl | omega))), rfl⟩
