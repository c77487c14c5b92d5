theorem goR_b5 {s : Nat → Int} (h : Inv 99999 s) (m : Int) : -5 ≤ goR s m := by
  have h2 := h.base
  unfold goR
  split
  · have h1 := tsR_b h m.toNat (by omega)
    split <;> omega
  · omega
theorem raS_m {s : Nat → Int} {f g p w : Int} {N : Nat} : up (up (up (up (up (up s 10 (s 10 + 1)) (ix N 0) f) (ix N 1) g) (ix N 2) p) (ix N 3) w) (ix N 4) 64 = up (up (up (up (up (up s (ix N 0) f) (ix N 1) g) (ix N 2) p) (ix N 3) w) (ix N 4) 64) 10 (s 10 + 1) := by
  rw [up_comm (i := 10) (j := ix N 0) (by unfold ix; omega), up_comm (i := 10) (j := ix N 1) (by unfold ix; omega), up_comm (i := 10) (j := ix N 2) (by unfold ix; omega), up_comm (i := 10) (j := ix N 3) (by unfold ix; omega), up_comm (i := 10) (j := ix N 4) (by unfold ix; omega)]
theorem crN_up {s : Nat → Int} {k w : Nat} (h : w < 4) : crN (up s (ix k (5 + w)) (s (ix k (5 + w)) + 1)) k = crN s k + 1 := by
  unfold crN
  rcases (by omega : w = 0 ∨ w = 1 ∨ w = 2 ∨ w = 3) with q | q | q | q <;> subst q <;> simp only [Nat.add_zero, Nat.reduceAdd] <;> rw [up_eq, up_ne (by unfold ix; omega), up_ne (by unfold ix; omega), up_ne (by unfold ix; omega)] <;> omega
theorem tkS_m (s : Nat → Int) : tkS s = if 0 < tkA s 0 ∧ (tkA s 2 + 1) % tkA s 0 = 0 then up (up (up (tkA s) 2 (tkA s 2 + 1)) 7 (tkA s 7 + tkR s)) 3 ((tkA s 3 + 1) % 4) else up (up (tkA s) 2 (tkA s 2 + 1)) 7 (tkA s 7 + tkR s) := by
  unfold tkS shS
  rw [show up (up (tkA s) 2 (tkA s 2 + 1)) 7 (tkA s 7 + tkR s) 0 = tkA s 0 by rw [up_ne (by decide), up_ne (by decide)], show up (up (tkA s) 2 (tkA s 2 + 1)) 7 (tkA s 7 + tkR s) 2 = tkA s 2 + 1 by rw [up_ne (by decide), up_eq], show up (up (tkA s) 2 (tkA s 2 + 1)) 7 (tkA s 7 + tkR s) 3 = tkA s 3 by rw [up_ne (by decide), up_ne (by decide)]]

set_option maxHeartbeats 4000000 in
set_option maxRecDepth 100000 in
theorem c_X5_blowOn (l : Launch) (G : vC) (m : Nat → Nat) (s : Nat → Int) (sp : Nat → Int) (hi : Nat → Int) (sn : Nat → Int) (tx : Nat → Int) (g3 : Int) (g5 : Int) (g7 : Int) (g8 : Int) (g9 : Int) (g10 : Int) (g11 : Int) (g12 : Int) (g13 : Int) (t : Int) (k : Nat) (hI : Inv t s) (hk : k < 12) (hn : (k : Int) < s 10) : Fn l G yX5_blowOn cX5_blowOn 5 (some .int) ({ frames := 1, cells := 0, slots := 0, locals := 23 } : Room) [.ref (m 0), .int (jI ((k : Int)))] (mB G m s sp hi sn tx g3 g5 g7 g8 g9 g10 g11 g12 g13) (some (.int (jI (tbR s k)))) (mB G m (tbS s k) sp hi sn tx g3 g5 g7 g8 g9 g10 g11 g12 g13) := by
  refine Ct.of (by decide) (Nat.le_of_ble_eq_true rfl) (fun X hX hR => ?_)
  refine V.toLv (lv' := [(0, .ref (m 0)), (1, .int (jI ((k : Int))))]) rfl ?_
  have hb := hI.base
  have hs := hI.sc k hk
  refine V_aload_n hX dX5_blowOn_0 0 rfl ?_
  refine V_get (v := .ref (m 1)) hX cbX5 0 0 (by decide) wf_X5_7 rfl rfl rfl rfl dX5_blowOn_1 ?_
  refine V_iconst hX dX5_blowOn_4 ?_
  refine V_iald (i0 := 4) (r := (jI (s 4))) hX 1 rfl (by decide) (by decide) (by decide) rfl rfl dX5_blowOn_5 ?_
  refine V_aload_n hX dX5_blowOn_6 0 rfl ?_
  refine V_iload_n hX dX5_blowOn_7 1 rfl ?_
  refine V_iconst hX dX5_blowOn_8 ?_
  refine V.sk (st' := [.int (jI ((4 : Int))), .int (jI ((k : Int))), .ref (m 0), .int (jI (s 4))]) rfl ?_
  refine V_cV (st := [.int (jI (s 4))]) (v := .int (jI (s (ix k 4)))) (w' := mB G m s sp hi sn tx g3 g5 g7 g8 g9 g10 g11 g12 g13) hX wc_X5_29 (c_X5_of l G m s sp hi sn tx g3 g5 g7 g8 g9 g10 g11 g12 g13 k 4 (by omega) (by omega)) (by decide) (by decide) rfl rfl (Nat.le_of_ble_eq_true rfl) dX5_blowOn_9 [] ([]) (by simp only [List.append_assoc, List.nil_append, List.append_nil]) 0 rfl rfl (by simp only [List.append_assoc, List.nil_append, List.append_nil]) rfl rfl ?_
  refine V_bipush hX dX5_blowOn_12 (by decide) ?_
  refine V_icmp_ge (tgt := 21) hX dX5_blowOn_14 (by decide) (by omega) (by decide) (fun c_1 => ?_) (fun c_1 => ?_)
  · refine V_iconst hX dX5_blowOn_21 ?_
    refine V_iadd hX dX5_blowOn_22 rfl ?_
    refine V_istore_n (i := 2) (lv' := [(2, .int (jI ((s 4) + 0))), (0, .ref (m 0)), (1, .int (jI ((k : Int))))]) hX dX5_blowOn_23 rfl (by decide) rfl ?_
    refine V_aload_n hX dX5_blowOn_24 1 rfl ?_
    refine V_get (v := .ref (m 1)) hX cbX5 0 0 (by decide) wf_X5_7 rfl rfl rfl rfl dX5_blowOn_25 ?_
    refine V_iconst hX dX5_blowOn_28 ?_
    refine V_iald (i0 := 3) (r := (jI (s 3))) hX 1 rfl (by decide) (by decide) (by decide) rfl rfl dX5_blowOn_29 ?_
    refine V_aload_n hX dX5_blowOn_30 1 rfl ?_
    refine V_iload_n hX dX5_blowOn_31 2 rfl ?_
    refine V_iconst hX dX5_blowOn_32 ?_
    refine V.sk (st' := [.int (jI ((3 : Int))), .int (jI ((k : Int))), .ref (m 0), .int (jI (s 3))]) rfl ?_
    refine V_cV (st := [.int (jI (s 3))]) (v := .int (jI (s (ix k 3)))) (w' := mB G m s sp hi sn tx g3 g5 g7 g8 g9 g10 g11 g12 g13) hX wc_X5_29 (c_X5_of l G m s sp hi sn tx g3 g5 g7 g8 g9 g10 g11 g12 g13 k 3 (by omega) (by omega)) (by decide) (by decide) rfl rfl (Nat.le_of_ble_eq_true rfl) dX5_blowOn_33 [] ([]) (by simp only [List.append_assoc, List.nil_append, List.append_nil]) 0 rfl rfl (by simp only [List.append_assoc, List.nil_append, List.append_nil]) rfl rfl ?_
    refine V_isub hX dX5_blowOn_36 rfl ?_
    refine V_iconst hX dX5_blowOn_37 ?_
    refine V_iadd hX dX5_blowOn_38 rfl ?_
    refine V_iconst hX dX5_blowOn_39 ?_
    refine V_irem hX dX5_blowOn_40 (by omega) (by omega) (by omega) (by omega) rfl ?_
    refine V_istore_n (i := 3) (lv' := [(3, .int (jI ((((s 3) - (s (ix k 3))) + 4) % 4))), (2, .int (jI ((s 4) + 0))), (0, .ref (m 0)), (1, .int (jI ((k : Int))))]) hX dX5_blowOn_41 rfl (by decide) rfl ?_
    refine V_iload_n hX dX5_blowOn_42 1 rfl ?_
    refine V_aload_n hX dX5_blowOn_43 2 rfl ?_
    refine V_iload_n hX dX5_blowOn_44 3 rfl ?_
    refine V_iconst hX dX5_blowOn_45 ?_
    refine V.sk (st' := [.int (jI ((2 : Int))), .int (jI ((k : Int))), .ref (m 0), .int (jI ((s 4) + 0))]) rfl ?_
    refine V_cV (st := [.int (jI ((s 4) + 0))]) (v := .int (jI (s (ix k 2)))) (w' := mB G m s sp hi sn tx g3 g5 g7 g8 g9 g10 g11 g12 g13) hX wc_X5_29 (c_X5_of l G m s sp hi sn tx g3 g5 g7 g8 g9 g10 g11 g12 g13 k 2 (by omega) (by omega)) (by decide) (by decide) rfl rfl (Nat.le_of_ble_eq_true rfl) dX5_blowOn_46 [] ([]) (by simp only [List.append_assoc, List.nil_append, List.append_nil]) 0 rfl rfl (by simp only [List.append_assoc, List.nil_append, List.append_nil]) rfl rfl ?_
    refine V_icmp_le (tgt := 56) hX dX5_blowOn_49 (by decide) (by omega) (by omega) (fun c_2 => ?_) (fun c_2 => ?_)
    · refine V_iconst hX dX5_blowOn_56 ?_
      exact V_iret hX hR dX5_blowOn_57 ⟨(congrArg (fun z => some (Value.int (jI z))) (by unfold tbR tbF; (repeat' split) <;> omega)), (mB_c (by unfold tbS tbF tbN; (repeat' split) <;> first | rfl | omega) rfl rfl rfl rfl rfl rfl rfl rfl rfl rfl rfl rfl rfl)⟩
    · refine V_iload_n hX dX5_blowOn_52 0 rfl ?_
      refine V_if_ne (tgt := 58) hX dX5_blowOn_53 (by decide) (by omega) (fun c_3 => ?_) (fun c_3 => ?_)
      · refine V_iload_n hX dX5_blowOn_58 0 rfl ?_
        refine V_iconst hX dX5_blowOn_59 ?_
        refine V_icmp_ne (tgt := 67) hX dX5_blowOn_60 (by decide) (by omega) (by decide) (fun c_4 => ?_) (fun c_4 => ?_)
        · refine V_iconst hX dX5_blowOn_67 ?_
          refine V_istore (i := 4) (lv' := [(4, .int (jI 1)), (3, .int (jI ((((s 3) - (s (ix k 3))) + 4) % 4))), (2, .int (jI ((s 4) + 0))), (0, .ref (m 0)), (1, .int (jI ((k : Int))))]) hX dX5_blowOn_68 (by decide) rfl ?_
          refine V_aload_n hX dX5_blowOn_70 3 rfl ?_
          refine V_iload_n hX dX5_blowOn_71 4 rfl ?_
          refine V_iconst hX dX5_blowOn_72 ?_
          refine V_aload_n hX dX5_blowOn_73 3 rfl ?_
          refine V_iload_n hX dX5_blowOn_74 4 rfl ?_
          refine V_iconst hX dX5_blowOn_75 ?_
          refine V.sk (st' := [.int (jI ((3 : Int))), .int (jI ((k : Int))), .ref (m 0), .int (jI 3), .int (jI ((k : Int))), .ref (m 0)]) rfl ?_
          refine V_cV (st := [.int (jI 3), .int (jI ((k : Int))), .ref (m 0)]) (v := .int (jI (s (ix k 3)))) (w' := mB G m s sp hi sn tx g3 g5 g7 g8 g9 g10 g11 g12 g13) hX wc_X5_29 (c_X5_of l G m s sp hi sn tx g3 g5 g7 g8 g9 g10 g11 g12 g13 k 3 (by omega) (by omega)) (by decide) (by decide) rfl rfl (Nat.le_of_ble_eq_true rfl) dX5_blowOn_76 [] ([]) (by simp only [List.append_assoc, List.nil_append, List.append_nil]) 0 rfl rfl (by simp only [List.append_assoc, List.nil_append, List.append_nil]) rfl rfl ?_
          refine V_iload hX dX5_blowOn_79 0 rfl ?_
          refine V_iadd hX dX5_blowOn_81 rfl ?_
          refine V_iconst hX dX5_blowOn_82 ?_
          refine V_irem hX dX5_blowOn_83 (by omega) (by omega) (by omega) (by omega) rfl ?_
          refine V.sk (st' := [.int (jI (((s (ix k 3)) + 1) % 4)), .int (jI ((3 : Int))), .int (jI ((k : Int))), .ref (m 0)]) rfl ?_
          refine V_dV (st := []) (w' := mB G m (up s (ix k 3) (((s (ix k 3)) + 1) % 4)) sp hi sn tx g3 g5 g7 g8 g9 g10 g11 g12 g13) hX wc_X5_75 (c_X5_setOf l G m s sp hi sn tx g3 g5 g7 g8 g9 g10 g11 g12 g13 k 3 (((s (ix k 3)) + 1) % 4) (by omega) (by omega)) (by decide) (by decide) rfl rfl (Nat.le_of_ble_eq_true rfl) dX5_blowOn_84 [] ([]) (by simp only [List.append_assoc, List.nil_append, List.append_nil]) 0 rfl rfl (by simp only [List.append_assoc, List.nil_append, List.append_nil]) rfl rfl ?_
          refine V_aload_n hX dX5_blowOn_87 3 rfl ?_
          refine V_iload_n hX dX5_blowOn_88 4 rfl ?_
          refine V_bipush hX dX5_blowOn_89 (by decide) ?_
          refine V_aload_n hX dX5_blowOn_91 3 rfl ?_
          refine V_iload_n hX dX5_blowOn_92 4 rfl ?_
          refine V_bipush hX dX5_blowOn_93 (by decide) ?_
          refine V.sk (st' := [.int (jI ((9 : Int))), .int (jI ((k : Int))), .ref (m 0), .int (jI 9), .int (jI ((k : Int))), .ref (m 0)]) rfl ?_
          refine V_cV (st := [.int (jI 9), .int (jI ((k : Int))), .ref (m 0)]) (v := .int (jI ((up s (ix k 3) (((s (ix k 3)) + 1) % 4)) (ix k 9)))) (w' := mB G m (up s (ix k 3) (((s (ix k 3)) + 1) % 4)) sp hi sn tx g3 g5 g7 g8 g9 g10 g11 g12 g13) hX wc_X5_29 (c_X5_of l G m (up s (ix k 3) (((s (ix k 3)) + 1) % 4)) sp hi sn tx g3 g5 g7 g8 g9 g10 g11 g12 g13 k 9 (by omega) (by omega)) (by decide) (by decide) rfl rfl (Nat.le_of_ble_eq_true rfl) dX5_blowOn_95 [] ([]) (by simp only [List.append_assoc, List.nil_append, List.append_nil]) 0 rfl rfl (by simp only [List.append_assoc, List.nil_append, List.append_nil]) rfl rfl ?_
          refine V.sk (st' := [.int (jI (s (ix k 9))), .int (jI 9), .int (jI ((k : Int))), .ref (m 0)]) (congrArg (fun z : Int => [Value.int (jI z), Value.int (jI 9), Value.int (jI ((k : Int))), Value.ref (m 0)]) (show (up s (ix k 3) (((s (ix k 3)) + 1) % 4)) (ix k 9) = s (ix k 9) by rw [up_ne (by unfold ix; omega)])) ?_
          refine V_iconst hX dX5_blowOn_98 ?_
          refine V_iadd hX dX5_blowOn_99 rfl ?_
          refine V.sk (st' := [.int (jI ((s (ix k 9)) + 1)), .int (jI ((9 : Int))), .int (jI ((k : Int))), .ref (m 0)]) rfl ?_
          refine V_dV (st := []) (w' := mB G m (up (up s (ix k 3) (((s (ix k 3)) + 1) % 4)) (ix k 9) ((s (ix k 9)) + 1)) sp hi sn tx g3 g5 g7 g8 g9 g10 g11 g12 g13) hX wc_X5_75 (c_X5_setOf l G m (up s (ix k 3) (((s (ix k 3)) + 1) % 4)) sp hi sn tx g3 g5 g7 g8 g9 g10 g11 g12 g13 k 9 ((s (ix k 9)) + 1) (by omega) (by omega)) (by decide) (by decide) rfl rfl (Nat.le_of_ble_eq_true rfl) dX5_blowOn_100 [] ([]) (by simp only [List.append_assoc, List.nil_append, List.append_nil]) 0 rfl rfl (by simp only [List.append_assoc, List.nil_append, List.append_nil]) rfl rfl ?_
          refine V_iconst hX dX5_blowOn_103 ?_
          exact V_iret hX hR dX5_blowOn_104 ⟨(congrArg (fun z => some (Value.int (jI z))) (by unfold tbR tbF; (repeat' split) <;> omega)), (mB_c (by unfold tbS tbF tbN; (repeat' split) <;> first | rfl | omega) rfl rfl rfl rfl rfl rfl rfl rfl rfl rfl rfl rfl rfl)⟩
        · refine V_iconst hX dX5_blowOn_63 ?_
          refine V_goto (tgt := 68) hX dX5_blowOn_64 (by decide) ?_
          refine V_istore (i := 4) (lv' := [(4, .int (jI 3)), (3, .int (jI ((((s 3) - (s (ix k 3))) + 4) % 4))), (2, .int (jI ((s 4) + 0))), (0, .ref (m 0)), (1, .int (jI ((k : Int))))]) hX dX5_blowOn_68 (by decide) rfl ?_
          refine V_aload_n hX dX5_blowOn_70 3 rfl ?_
          refine V_iload_n hX dX5_blowOn_71 4 rfl ?_
          refine V_iconst hX dX5_blowOn_72 ?_
          refine V_aload_n hX dX5_blowOn_73 3 rfl ?_
          refine V_iload_n hX dX5_blowOn_74 4 rfl ?_
          refine V_iconst hX dX5_blowOn_75 ?_
          refine V.sk (st' := [.int (jI ((3 : Int))), .int (jI ((k : Int))), .ref (m 0), .int (jI 3), .int (jI ((k : Int))), .ref (m 0)]) rfl ?_
          refine V_cV (st := [.int (jI 3), .int (jI ((k : Int))), .ref (m 0)]) (v := .int (jI (s (ix k 3)))) (w' := mB G m s sp hi sn tx g3 g5 g7 g8 g9 g10 g11 g12 g13) hX wc_X5_29 (c_X5_of l G m s sp hi sn tx g3 g5 g7 g8 g9 g10 g11 g12 g13 k 3 (by omega) (by omega)) (by decide) (by decide) rfl rfl (Nat.le_of_ble_eq_true rfl) dX5_blowOn_76 [] ([]) (by simp only [List.append_assoc, List.nil_append, List.append_nil]) 0 rfl rfl (by simp only [List.append_assoc, List.nil_append, List.append_nil]) rfl rfl ?_
          refine V_iload hX dX5_blowOn_79 0 rfl ?_
          refine V_iadd hX dX5_blowOn_81 rfl ?_
          refine V_iconst hX dX5_blowOn_82 ?_
          refine V_irem hX dX5_blowOn_83 (by omega) (by omega) (by omega) (by omega) rfl ?_
          refine V.sk (st' := [.int (jI (((s (ix k 3)) + 3) % 4)), .int (jI ((3 : Int))), .int (jI ((k : Int))), .ref (m 0)]) rfl ?_
          refine V_dV (st := []) (w' := mB G m (up s (ix k 3) (((s (ix k 3)) + 3) % 4)) sp hi sn tx g3 g5 g7 g8 g9 g10 g11 g12 g13) hX wc_X5_75 (c_X5_setOf l G m s sp hi sn tx g3 g5 g7 g8 g9 g10 g11 g12 g13 k 3 (((s (ix k 3)) + 3) % 4) (by omega) (by omega)) (by decide) (by decide) rfl rfl (Nat.le_of_ble_eq_true rfl) dX5_blowOn_84 [] ([]) (by simp only [List.append_assoc, List.nil_append, List.append_nil]) 0 rfl rfl (by simp only [List.append_assoc, List.nil_append, List.append_nil]) rfl rfl ?_
          refine V_aload_n hX dX5_blowOn_87 3 rfl ?_
          refine V_iload_n hX dX5_blowOn_88 4 rfl ?_
          refine V_bipush hX dX5_blowOn_89 (by decide) ?_
          refine V_aload_n hX dX5_blowOn_91 3 rfl ?_
          refine V_iload_n hX dX5_blowOn_92 4 rfl ?_
          refine V_bipush hX dX5_blowOn_93 (by decide) ?_
          refine V.sk (st' := [.int (jI ((9 : Int))), .int (jI ((k : Int))), .ref (m 0), .int (jI 9), .int (jI ((k : Int))), .ref (m 0)]) rfl ?_
          refine V_cV (st := [.int (jI 9), .int (jI ((k : Int))), .ref (m 0)]) (v := .int (jI ((up s (ix k 3) (((s (ix k 3)) + 3) % 4)) (ix k 9)))) (w' := mB G m (up s (ix k 3) (((s (ix k 3)) + 3) % 4)) sp hi sn tx g3 g5 g7 g8 g9 g10 g11 g12 g13) hX wc_X5_29 (c_X5_of l G m (up s (ix k 3) (((s (ix k 3)) + 3) % 4)) sp hi sn tx g3 g5 g7 g8 g9 g10 g11 g12 g13 k 9 (by omega) (by omega)) (by decide) (by decide) rfl rfl (Nat.le_of_ble_eq_true rfl) dX5_blowOn_95 [] ([]) (by simp only [List.append_assoc, List.nil_append, List.append_nil]) 0 rfl rfl (by simp only [List.append_assoc, List.nil_append, List.append_nil]) rfl rfl ?_
          refine V.sk (st' := [.int (jI (s (ix k 9))), .int (jI 9), .int (jI ((k : Int))), .ref (m 0)]) (congrArg (fun z : Int => [Value.int (jI z), Value.int (jI 9), Value.int (jI ((k : Int))), Value.ref (m 0)]) (show (up s (ix k 3) (((s (ix k 3)) + 3) % 4)) (ix k 9) = s (ix k 9) by rw [up_ne (by unfold ix; omega)])) ?_
          refine V_iconst hX dX5_blowOn_98 ?_
          refine V_iadd hX dX5_blowOn_99 rfl ?_
          refine V.sk (st' := [.int (jI ((s (ix k 9)) + 1)), .int (jI ((9 : Int))), .int (jI ((k : Int))), .ref (m 0)]) rfl ?_
          refine V_dV (st := []) (w' := mB G m (up (up s (ix k 3) (((s (ix k 3)) + 3) % 4)) (ix k 9) ((s (ix k 9)) + 1)) sp hi sn tx g3 g5 g7 g8 g9 g10 g11 g12 g13) hX wc_X5_75 (c_X5_setOf l G m (up s (ix k 3) (((s (ix k 3)) + 3) % 4)) sp hi sn tx g3 g5 g7 g8 g9 g10 g11 g12 g13 k 9 ((s (ix k 9)) + 1) (by omega) (by omega)) (by decide) (by decide) rfl rfl (Nat.le_of_ble_eq_true rfl) dX5_blowOn_100 [] ([]) (by simp only [List.append_assoc, List.nil_append, List.append_nil]) 0 rfl rfl (by simp only [List.append_assoc, List.nil_append, List.append_nil]) rfl rfl ?_
          refine V_iconst hX dX5_blowOn_103 ?_
          exact V_iret hX hR dX5_blowOn_104 ⟨(congrArg (fun z => some (Value.int (jI z))) (by unfold tbR tbF; (repeat' split) <;> omega)), (mB_c (by unfold tbS tbF tbN; (repeat' split) <;> first | rfl | omega) rfl rfl rfl rfl rfl rfl rfl rfl rfl rfl rfl rfl rfl)⟩
      · refine V_iconst hX dX5_blowOn_56 ?_
        exact V_iret hX hR dX5_blowOn_57 ⟨(congrArg (fun z => some (Value.int (jI z))) (by unfold tbR tbF; (repeat' split) <;> omega)), (mB_c (by unfold tbS tbF tbN; (repeat' split) <;> first | rfl | omega) rfl rfl rfl rfl rfl rfl rfl rfl rfl rfl rfl rfl rfl)⟩
  · refine V_iconst hX dX5_blowOn_17 ?_
    refine V_goto (tgt := 22) hX dX5_blowOn_18 (by decide) ?_
    refine V_iadd hX dX5_blowOn_22 rfl ?_
    refine V_istore_n (i := 2) (lv' := [(2, .int (jI ((s 4) + 1))), (0, .ref (m 0)), (1, .int (jI ((k : Int))))]) hX dX5_blowOn_23 rfl (by decide) rfl ?_
    refine V_aload_n hX dX5_blowOn_24 1 rfl ?_
    refine V_get (v := .ref (m 1)) hX cbX5 0 0 (by decide) wf_X5_7 rfl rfl rfl rfl dX5_blowOn_25 ?_
    refine V_iconst hX dX5_blowOn_28 ?_
    refine V_iald (i0 := 3) (r := (jI (s 3))) hX 1 rfl (by decide) (by decide) (by decide) rfl rfl dX5_blowOn_29 ?_
    refine V_aload_n hX dX5_blowOn_30 1 rfl ?_
    refine V_iload_n hX dX5_blowOn_31 2 rfl ?_
    refine V_iconst hX dX5_blowOn_32 ?_
    refine V.sk (st' := [.int (jI ((3 : Int))), .int (jI ((k : Int))), .ref (m 0), .int (jI (s 3))]) rfl ?_
    refine V_cV (st := [.int (jI (s 3))]) (v := .int (jI (s (ix k 3)))) (w' := mB G m s sp hi sn tx g3 g5 g7 g8 g9 g10 g11 g12 g13) hX wc_X5_29 (c_X5_of l G m s sp hi sn tx g3 g5 g7 g8 g9 g10 g11 g12 g13 k 3 (by omega) (by omega)) (by decide) (by decide) rfl rfl (Nat.le_of_ble_eq_true rfl) dX5_blowOn_33 [] ([]) (by simp only [List.append_assoc, List.nil_append, List.append_nil]) 0 rfl rfl (by simp only [List.append_assoc, List.nil_append, List.append_nil]) rfl rfl ?_
    refine V_isub hX dX5_blowOn_36 rfl ?_
    refine V_iconst hX dX5_blowOn_37 ?_
    refine V_iadd hX dX5_blowOn_38 rfl ?_
    refine V_iconst hX dX5_blowOn_39 ?_
    refine V_irem hX dX5_blowOn_40 (by omega) (by omega) (by omega) (by omega) rfl ?_
    refine V_istore_n (i := 3) (lv' := [(3, .int (jI ((((s 3) - (s (ix k 3))) + 4) % 4))), (2, .int (jI ((s 4) + 1))), (0, .ref (m 0)), (1, .int (jI ((k : Int))))]) hX dX5_blowOn_41 rfl (by decide) rfl ?_
    refine V_iload_n hX dX5_blowOn_42 1 rfl ?_
    refine V_aload_n hX dX5_blowOn_43 2 rfl ?_
    refine V_iload_n hX dX5_blowOn_44 3 rfl ?_
    refine V_iconst hX dX5_blowOn_45 ?_
    refine V.sk (st' := [.int (jI ((2 : Int))), .int (jI ((k : Int))), .ref (m 0), .int (jI ((s 4) + 1))]) rfl ?_
    refine V_cV (st := [.int (jI ((s 4) + 1))]) (v := .int (jI (s (ix k 2)))) (w' := mB G m s sp hi sn tx g3 g5 g7 g8 g9 g10 g11 g12 g13) hX wc_X5_29 (c_X5_of l G m s sp hi sn tx g3 g5 g7 g8 g9 g10 g11 g12 g13 k 2 (by omega) (by omega)) (by decide) (by decide) rfl rfl (Nat.le_of_ble_eq_true rfl) dX5_blowOn_46 [] ([]) (by simp only [List.append_assoc, List.nil_append, List.append_nil]) 0 rfl rfl (by simp only [List.append_assoc, List.nil_append, List.append_nil]) rfl rfl ?_
    refine V_icmp_le (tgt := 56) hX dX5_blowOn_49 (by decide) (by omega) (by omega) (fun c_5 => ?_) (fun c_5 => ?_)
    · refine V_iconst hX dX5_blowOn_56 ?_
      exact V_iret hX hR dX5_blowOn_57 ⟨(congrArg (fun z => some (Value.int (jI z))) (by unfold tbR tbF; (repeat' split) <;> omega)), (mB_c (by unfold tbS tbF tbN; (repeat' split) <;> first | rfl | omega) rfl rfl rfl rfl rfl rfl rfl rfl rfl rfl rfl rfl rfl)⟩
    · refine V_iload_n hX dX5_blowOn_52 0 rfl ?_
      refine V_if_ne (tgt := 58) hX dX5_blowOn_53 (by decide) (by omega) (fun c_6 => ?_) (fun c_6 => ?_)
      · refine V_iload_n hX dX5_blowOn_58 0 rfl ?_
        refine V_iconst hX dX5_blowOn_59 ?_
        refine V_icmp_ne (tgt := 67) hX dX5_blowOn_60 (by decide) (by omega) (by decide) (fun c_7 => ?_) (fun c_7 => ?_)
        · refine V_iconst hX dX5_blowOn_67 ?_
          refine V_istore (i := 4) (lv' := [(4, .int (jI 1)), (3, .int (jI ((((s 3) - (s (ix k 3))) + 4) % 4))), (2, .int (jI ((s 4) + 1))), (0, .ref (m 0)), (1, .int (jI ((k : Int))))]) hX dX5_blowOn_68 (by decide) rfl ?_
          refine V_aload_n hX dX5_blowOn_70 3 rfl ?_
          refine V_iload_n hX dX5_blowOn_71 4 rfl ?_
          refine V_iconst hX dX5_blowOn_72 ?_
          refine V_aload_n hX dX5_blowOn_73 3 rfl ?_
          refine V_iload_n hX dX5_blowOn_74 4 rfl ?_
          refine V_iconst hX dX5_blowOn_75 ?_
          refine V.sk (st' := [.int (jI ((3 : Int))), .int (jI ((k : Int))), .ref (m 0), .int (jI 3), .int (jI ((k : Int))), .ref (m 0)]) rfl ?_
          refine V_cV (st := [.int (jI 3), .int (jI ((k : Int))), .ref (m 0)]) (v := .int (jI (s (ix k 3)))) (w' := mB G m s sp hi sn tx g3 g5 g7 g8 g9 g10 g11 g12 g13) hX wc_X5_29 (c_X5_of l G m s sp hi sn tx g3 g5 g7 g8 g9 g10 g11 g12 g13 k 3 (by omega) (by omega)) (by decide) (by decide) rfl rfl (Nat.le_of_ble_eq_true rfl) dX5_blowOn_76 [] ([]) (by simp only [List.append_assoc, List.nil_append, List.append_nil]) 0 rfl rfl (by simp only [List.append_assoc, List.nil_append, List.append_nil]) rfl rfl ?_
          refine V_iload hX dX5_blowOn_79 0 rfl ?_
          refine V_iadd hX dX5_blowOn_81 rfl ?_
          refine V_iconst hX dX5_blowOn_82 ?_
          refine V_irem hX dX5_blowOn_83 (by omega) (by omega) (by omega) (by omega) rfl ?_
          refine V.sk (st' := [.int (jI (((s (ix k 3)) + 1) % 4)), .int (jI ((3 : Int))), .int (jI ((k : Int))), .ref (m 0)]) rfl ?_
          refine V_dV (st := []) (w' := mB G m (up s (ix k 3) (((s (ix k 3)) + 1) % 4)) sp hi sn tx g3 g5 g7 g8 g9 g10 g11 g12 g13) hX wc_X5_75 (c_X5_setOf l G m s sp hi sn tx g3 g5 g7 g8 g9 g10 g11 g12 g13 k 3 (((s (ix k 3)) + 1) % 4) (by omega) (by omega)) (by decide) (by decide) rfl rfl (Nat.le_of_ble_eq_true rfl) dX5_blowOn_84 [] ([]) (by simp only [List.append_assoc, List.nil_append, List.append_nil]) 0 rfl rfl (by simp only [List.append_assoc, List.nil_append, List.append_nil]) rfl rfl ?_
          refine V_aload_n hX dX5_blowOn_87 3 rfl ?_
          refine V_iload_n hX dX5_blowOn_88 4 rfl ?_
          refine V_bipush hX dX5_blowOn_89 (by decide) ?_
          refine V_aload_n hX dX5_blowOn_91 3 rfl ?_
          refine V_iload_n hX dX5_blowOn_92 4 rfl ?_
          refine V_bipush hX dX5_blowOn_93 (by decide) ?_
          refine V.sk (st' := [.int (jI ((9 : Int))), .int (jI ((k : Int))), .ref (m 0), .int (jI 9), .int (jI ((k : Int))), .ref (m 0)]) rfl ?_
          refine V_cV (st := [.int (jI 9), .int (jI ((k : Int))), .ref (m 0)]) (v := .int (jI ((up s (ix k 3) (((s (ix k 3)) + 1) % 4)) (ix k 9)))) (w' := mB G m (up s (ix k 3) (((s (ix k 3)) + 1) % 4)) sp hi sn tx g3 g5 g7 g8 g9 g10 g11 g12 g13) hX wc_X5_29 (c_X5_of l G m (up s (ix k 3) (((s (ix k 3)) + 1) % 4)) sp hi sn tx g3 g5 g7 g8 g9 g10 g11 g12 g13 k 9 (by omega) (by omega)) (by decide) (by decide) rfl rfl (Nat.le_of_ble_eq_true rfl) dX5_blowOn_95 [] ([]) (by simp only [List.append_assoc, List.nil_append, List.append_nil]) 0 rfl rfl (by simp only [List.append_assoc, List.nil_append, List.append_nil]) rfl rfl ?_
          refine V.sk (st' := [.int (jI (s (ix k 9))), .int (jI 9), .int (jI ((k : Int))), .ref (m 0)]) (congrArg (fun z : Int => [Value.int (jI z), Value.int (jI 9), Value.int (jI ((k : Int))), Value.ref (m 0)]) (show (up s (ix k 3) (((s (ix k 3)) + 1) % 4)) (ix k 9) = s (ix k 9) by rw [up_ne (by unfold ix; omega)])) ?_
          refine V_iconst hX dX5_blowOn_98 ?_
          refine V_iadd hX dX5_blowOn_99 rfl ?_
          refine V.sk (st' := [.int (jI ((s (ix k 9)) + 1)), .int (jI ((9 : Int))), .int (jI ((k : Int))), .ref (m 0)]) rfl ?_
          refine V_dV (st := []) (w' := mB G m (up (up s (ix k 3) (((s (ix k 3)) + 1) % 4)) (ix k 9) ((s (ix k 9)) + 1)) sp hi sn tx g3 g5 g7 g8 g9 g10 g11 g12 g13) hX wc_X5_75 (c_X5_setOf l G m (up s (ix k 3) (((s (ix k 3)) + 1) % 4)) sp hi sn tx g3 g5 g7 g8 g9 g10 g11 g12 g13 k 9 ((s (ix k 9)) + 1) (by omega) (by omega)) (by decide) (by decide) rfl rfl (Nat.le_of_ble_eq_true rfl) dX5_blowOn_100 [] ([]) (by simp only [List.append_assoc, List.nil_append, List.append_nil]) 0 rfl rfl (by simp only [List.append_assoc, List.nil_append, List.append_nil]) rfl rfl ?_
          refine V_iconst hX dX5_blowOn_103 ?_
          exact V_iret hX hR dX5_blowOn_104 ⟨(congrArg (fun z => some (Value.int (jI z))) (by unfold tbR tbF; (repeat' split) <;> omega)), (mB_c (by unfold tbS tbF tbN; (repeat' split) <;> first | rfl | omega) rfl rfl rfl rfl rfl rfl rfl rfl rfl rfl rfl rfl rfl)⟩
        · refine V_iconst hX dX5_blowOn_63 ?_
          refine V_goto (tgt := 68) hX dX5_blowOn_64 (by decide) ?_
          refine V_istore (i := 4) (lv' := [(4, .int (jI 3)), (3, .int (jI ((((s 3) - (s (ix k 3))) + 4) % 4))), (2, .int (jI ((s 4) + 1))), (0, .ref (m 0)), (1, .int (jI ((k : Int))))]) hX dX5_blowOn_68 (by decide) rfl ?_
          refine V_aload_n hX dX5_blowOn_70 3 rfl ?_
          refine V_iload_n hX dX5_blowOn_71 4 rfl ?_
          refine V_iconst hX dX5_blowOn_72 ?_
          refine V_aload_n hX dX5_blowOn_73 3 rfl ?_
          refine V_iload_n hX dX5_blowOn_74 4 rfl ?_
          refine V_iconst hX dX5_blowOn_75 ?_
          refine V.sk (st' := [.int (jI ((3 : Int))), .int (jI ((k : Int))), .ref (m 0), .int (jI 3), .int (jI ((k : Int))), .ref (m 0)]) rfl ?_
          refine V_cV (st := [.int (jI 3), .int (jI ((k : Int))), .ref (m 0)]) (v := .int (jI (s (ix k 3)))) (w' := mB G m s sp hi sn tx g3 g5 g7 g8 g9 g10 g11 g12 g13) hX wc_X5_29 (c_X5_of l G m s sp hi sn tx g3 g5 g7 g8 g9 g10 g11 g12 g13 k 3 (by omega) (by omega)) (by decide) (by decide) rfl rfl (Nat.le_of_ble_eq_true rfl) dX5_blowOn_76 [] ([]) (by simp only [List.append_assoc, List.nil_append, List.append_nil]) 0 rfl rfl (by simp only [List.append_assoc, List.nil_append, List.append_nil]) rfl rfl ?_
          refine V_iload hX dX5_blowOn_79 0 rfl ?_
          refine V_iadd hX dX5_blowOn_81 rfl ?_
          refine V_iconst hX dX5_blowOn_82 ?_
          refine V_irem hX dX5_blowOn_83 (by omega) (by omega) (by omega) (by omega) rfl ?_
          refine V.sk (st' := [.int (jI (((s (ix k 3)) + 3) % 4)), .int (jI ((3 : Int))), .int (jI ((k : Int))), .ref (m 0)]) rfl ?_
          refine V_dV (st := []) (w' := mB G m (up s (ix k 3) (((s (ix k 3)) + 3) % 4)) sp hi sn tx g3 g5 g7 g8 g9 g10 g11 g12 g13) hX wc_X5_75 (c_X5_setOf l G m s sp hi sn tx g3 g5 g7 g8 g9 g10 g11 g12 g13 k 3 (((s (ix k 3)) + 3) % 4) (by omega) (by omega)) (by decide) (by decide) rfl rfl (Nat.le_of_ble_eq_true rfl) dX5_blowOn_84 [] ([]) (by simp only [List.append_assoc, List.nil_append, List.append_nil]) 0 rfl rfl (by simp only [List.append_assoc, List.nil_append, List.append_nil]) rfl rfl ?_
          refine V_aload_n hX dX5_blowOn_87 3 rfl ?_
          refine V_iload_n hX dX5_blowOn_88 4 rfl ?_
          refine V_bipush hX dX5_blowOn_89 (by decide) ?_
          refine V_aload_n hX dX5_blowOn_91 3 rfl ?_
          refine V_iload_n hX dX5_blowOn_92 4 rfl ?_
          refine V_bipush hX dX5_blowOn_93 (by decide) ?_
          refine V.sk (st' := [.int (jI ((9 : Int))), .int (jI ((k : Int))), .ref (m 0), .int (jI 9), .int (jI ((k : Int))), .ref (m 0)]) rfl ?_
          refine V_cV (st := [.int (jI 9), .int (jI ((k : Int))), .ref (m 0)]) (v := .int (jI ((up s (ix k 3) (((s (ix k 3)) + 3) % 4)) (ix k 9)))) (w' := mB G m (up s (ix k 3) (((s (ix k 3)) + 3) % 4)) sp hi sn tx g3 g5 g7 g8 g9 g10 g11 g12 g13) hX wc_X5_29 (c_X5_of l G m (up s (ix k 3) (((s (ix k 3)) + 3) % 4)) sp hi sn tx g3 g5 g7 g8 g9 g10 g11 g12 g13 k 9 (by omega) (by omega)) (by decide) (by decide) rfl rfl (Nat.le_of_ble_eq_true rfl) dX5_blowOn_95 [] ([]) (by simp only [List.append_assoc, List.nil_append, List.append_nil]) 0 rfl rfl (by simp only [List.append_assoc, List.nil_append, List.append_nil]) rfl rfl ?_
          refine V.sk (st' := [.int (jI (s (ix k 9))), .int (jI 9), .int (jI ((k : Int))), .ref (m 0)]) (congrArg (fun z : Int => [Value.int (jI z), Value.int (jI 9), Value.int (jI ((k : Int))), Value.ref (m 0)]) (show (up s (ix k 3) (((s (ix k 3)) + 3) % 4)) (ix k 9) = s (ix k 9) by rw [up_ne (by unfold ix; omega)])) ?_
          refine V_iconst hX dX5_blowOn_98 ?_
          refine V_iadd hX dX5_blowOn_99 rfl ?_
          refine V.sk (st' := [.int (jI ((s (ix k 9)) + 1)), .int (jI ((9 : Int))), .int (jI ((k : Int))), .ref (m 0)]) rfl ?_
          refine V_dV (st := []) (w' := mB G m (up (up s (ix k 3) (((s (ix k 3)) + 3) % 4)) (ix k 9) ((s (ix k 9)) + 1)) sp hi sn tx g3 g5 g7 g8 g9 g10 g11 g12 g13) hX wc_X5_75 (c_X5_setOf l G m (up s (ix k 3) (((s (ix k 3)) + 3) % 4)) sp hi sn tx g3 g5 g7 g8 g9 g10 g11 g12 g13 k 9 ((s (ix k 9)) + 1) (by omega) (by omega)) (by decide) (by decide) rfl rfl (Nat.le_of_ble_eq_true rfl) dX5_blowOn_100 [] ([]) (by simp only [List.append_assoc, List.nil_append, List.append_nil]) 0 rfl rfl (by simp only [List.append_assoc, List.nil_append, List.append_nil]) rfl rfl ?_
          refine V_iconst hX dX5_blowOn_103 ?_
          exact V_iret hX hR dX5_blowOn_104 ⟨(congrArg (fun z => some (Value.int (jI z))) (by unfold tbR tbF; (repeat' split) <;> omega)), (mB_c (by unfold tbS tbF tbN; (repeat' split) <;> first | rfl | omega) rfl rfl rfl rfl rfl rfl rfl rfl rfl rfl rfl rfl rfl)⟩
      · refine V_iconst hX dX5_blowOn_56 ?_
        exact V_iret hX hR dX5_blowOn_57 ⟨(congrArg (fun z => some (Value.int (jI z))) (by unfold tbR tbF; (repeat' split) <;> omega)), (mB_c (by unfold tbS tbF tbN; (repeat' split) <;> first | rfl | omega) rfl rfl rfl rfl rfl rfl rfl rfl rfl rfl rfl rfl rfl)⟩

set_option maxHeartbeats 4000000 in
set_option maxRecDepth 100000 in
theorem c_X5_pluck (l : Launch) (G : vC) (m : Nat → Nat) (s : Nat → Int) (sp : Nat → Int) (hi : Nat → Int) (sn : Nat → Int) (tx : Nat → Int) (g3 : Int) (g5 : Int) (g7 : Int) (g8 : Int) (g9 : Int) (g10 : Int) (g11 : Int) (g12 : Int) (g13 : Int) (t : Int) (k : Nat) (hI : Inv t s) (hk : k < 12) (hn : (k : Int) < s 10) : Fn l G yX5_pluck cX5_pluck 5 none ({ frames := 2, cells := 0, slots := 0, locals := 45 } : Room) [.ref (m 0), .int (jI ((k : Int)))] (mB G m s sp hi sn tx g3 g5 g7 g8 g9 g10 g11 g12 g13) none (mB G m (plS s k) sp hi sn tx g3 g5 g7 g8 g9 g10 g11 g12 g13) := by
  refine Ct.of (by decide) (Nat.le_of_ble_eq_true rfl) (fun X hX hR => ?_)
  refine V.toLv (lv' := [(0, .ref (m 0)), (1, .int (jI ((k : Int))))]) rfl ?_
  have hb := hI.base
  have hs := hI.sc k hk
  have hpl := plN_b hI k hk
  have hcN : crN s k = s (ix k 5) + s (ix k 6) + s (ix k 7) + s (ix k 8) := rfl
  refine V_aload_n hX dX5_pluck_0 0 rfl ?_
  refine V_iload_n hX dX5_pluck_1 1 rfl ?_
  refine V_cV (st := []) (v := .int (jI (crN s k))) (w' := mB G m s sp hi sn tx g3 g5 g7 g8 g9 g10 g11 g12 g13) hX wc_X5_79 (c_X5_crowsOn l G m s sp hi sn tx g3 g5 g7 g8 g9 g10 g11 g12 g13 t k hI (by omega)) (by decide) (by decide) rfl rfl (Nat.le_of_ble_eq_true rfl) dX5_pluck_2 [] ([]) (by simp only [List.append_assoc, List.nil_append, List.append_nil]) 0 rfl rfl (by simp only [List.append_assoc, List.nil_append, List.append_nil]) rfl rfl ?_
  refine V_istore_n (i := 2) (lv' := [(2, .int (jI (crN s k))), (0, .ref (m 0)), (1, .int (jI ((k : Int))))]) hX dX5_pluck_5 rfl (by decide) rfl ?_
  refine V_aload_n hX dX5_pluck_6 1 rfl ?_
  refine V_iload_n hX dX5_pluck_7 2 rfl ?_
  refine V_iconst hX dX5_pluck_8 ?_
  refine V.sk (st' := [.int (jI ((4 : Int))), .int (jI ((k : Int))), .ref (m 0)]) rfl ?_
  refine V_cV (st := []) (v := .int (jI (s (ix k 4)))) (w' := mB G m s sp hi sn tx g3 g5 g7 g8 g9 g10 g11 g12 g13) hX wc_X5_29 (c_X5_of l G m s sp hi sn tx g3 g5 g7 g8 g9 g10 g11 g12 g13 k 4 (by omega) (by omega)) (by decide) (by decide) rfl rfl (Nat.le_of_ble_eq_true rfl) dX5_pluck_9 [] ([]) (by simp only [List.append_assoc, List.nil_append, List.append_nil]) 0 rfl rfl (by simp only [List.append_assoc, List.nil_append, List.append_nil]) rfl rfl ?_
  refine V_istore_n (i := 3) (lv' := [(3, .int (jI (s (ix k 4)))), (2, .int (jI (crN s k))), (0, .ref (m 0)), (1, .int (jI ((k : Int))))]) hX dX5_pluck_12 rfl (by decide) rfl ?_
  refine V_iload_n hX dX5_pluck_13 1 rfl ?_
  refine V_iload_n hX dX5_pluck_14 0 rfl ?_
  refine V_icmp_ge (tgt := 22) hX dX5_pluck_15 (by decide) (by omega) (by omega) (fun c_1 => ?_) (fun c_1 => ?_)
  · refine V_iload_n hX dX5_pluck_22 0 rfl ?_
    refine V_istore (i := 4) (lv' := [(4, .int (jI (s (ix k 4)))), (3, .int (jI (s (ix k 4)))), (2, .int (jI (crN s k))), (0, .ref (m 0)), (1, .int (jI ((k : Int))))]) hX dX5_pluck_23 (by decide) rfl ?_
    refine V.toLv (lv' := [(4, .int (jI (plN s k))), (3, .int (jI (s (ix k 4)))), (2, .int (jI (crN s k))), (0, .ref (m 0)), (1, .int (jI ((k : Int))))]) (congrArg (fun z : Int => ([(4, Value.int (jI z)), (3, Value.int (jI (s (ix k 4)))), (2, Value.int (jI (crN s k))), (0, Value.ref (m 0)), (1, Value.int (jI ((k : Int))))] : List (Nat × Value))) (show s (ix k 4) = plN s k by unfold plN; split <;> omega)) ?_
    refine V_aload_n hX dX5_pluck_25 3 rfl ?_
    refine V_iload_n hX dX5_pluck_26 4 rfl ?_
    refine V_iconst hX dX5_pluck_27 ?_
    refine V_iload_n hX dX5_pluck_28 1 rfl ?_
    refine V_iload hX dX5_pluck_29 0 rfl ?_
    refine V_isub hX dX5_pluck_31 rfl ?_
    refine V.sk (st' := [.int (jI ((s (ix k 4)) - (plN s k))), .int (jI ((4 : Int))), .int (jI ((k : Int))), .ref (m 0)]) rfl ?_
    refine V_dV (st := []) (w' := mB G m (up s (ix k 4) ((s (ix k 4)) - (plN s k))) sp hi sn tx g3 g5 g7 g8 g9 g10 g11 g12 g13) hX wc_X5_75 (c_X5_setOf l G m s sp hi sn tx g3 g5 g7 g8 g9 g10 g11 g12 g13 k 4 ((s (ix k 4)) - (plN s k)) (by omega) (by omega)) (by decide) (by decide) rfl rfl (Nat.le_of_ble_eq_true rfl) dX5_pluck_32 [] ([]) (by simp only [List.append_assoc, List.nil_append, List.append_nil]) 0 rfl rfl (by simp only [List.append_assoc, List.nil_append, List.append_nil]) rfl rfl ?_
    refine V_aload_n hX dX5_pluck_35 3 rfl ?_
    refine V_iload_n hX dX5_pluck_36 4 rfl ?_
    refine V_bipush hX dX5_pluck_37 (by decide) ?_
    refine V_aload_n hX dX5_pluck_39 3 rfl ?_
    refine V_iload_n hX dX5_pluck_40 4 rfl ?_
    refine V_bipush hX dX5_pluck_41 (by decide) ?_
    refine V.sk (st' := [.int (jI ((10 : Int))), .int (jI ((k : Int))), .ref (m 0), .int (jI 10), .int (jI ((k : Int))), .ref (m 0)]) rfl ?_
    refine V_cV (st := [.int (jI 10), .int (jI ((k : Int))), .ref (m 0)]) (v := .int (jI ((up s (ix k 4) ((s (ix k 4)) - (plN s k))) (ix k 10)))) (w' := mB G m (up s (ix k 4) ((s (ix k 4)) - (plN s k))) sp hi sn tx g3 g5 g7 g8 g9 g10 g11 g12 g13) hX wc_X5_29 (c_X5_of l G m (up s (ix k 4) ((s (ix k 4)) - (plN s k))) sp hi sn tx g3 g5 g7 g8 g9 g10 g11 g12 g13 k 10 (by omega) (by omega)) (by decide) (by decide) rfl rfl (Nat.le_of_ble_eq_true rfl) dX5_pluck_43 [] ([]) (by simp only [List.append_assoc, List.nil_append, List.append_nil]) 0 rfl rfl (by simp only [List.append_assoc, List.nil_append, List.append_nil]) rfl rfl ?_
    refine V.sk (st' := [.int (jI (s (ix k 10))), .int (jI 10), .int (jI ((k : Int))), .ref (m 0)]) (congrArg (fun z : Int => [Value.int (jI z), Value.int (jI 10), Value.int (jI ((k : Int))), Value.ref (m 0)]) (show (up s (ix k 4) ((s (ix k 4)) - (plN s k))) (ix k 10) = s (ix k 10) by rw [up_ne (by unfold ix; omega)])) ?_
    refine V_iload hX dX5_pluck_46 0 rfl ?_
    refine V_iadd hX dX5_pluck_48 rfl ?_
    refine V.sk (st' := [.int (jI ((s (ix k 10)) + (plN s k))), .int (jI ((10 : Int))), .int (jI ((k : Int))), .ref (m 0)]) rfl ?_
    refine V_dV (st := []) (w' := mB G m (up (up s (ix k 4) ((s (ix k 4)) - (plN s k))) (ix k 10) ((s (ix k 10)) + (plN s k))) sp hi sn tx g3 g5 g7 g8 g9 g10 g11 g12 g13) hX wc_X5_75 (c_X5_setOf l G m (up s (ix k 4) ((s (ix k 4)) - (plN s k))) sp hi sn tx g3 g5 g7 g8 g9 g10 g11 g12 g13 k 10 ((s (ix k 10)) + (plN s k)) (by omega) (by omega)) (by decide) (by decide) rfl rfl (Nat.le_of_ble_eq_true rfl) dX5_pluck_49 [] ([]) (by simp only [List.append_assoc, List.nil_append, List.append_nil]) 0 rfl rfl (by simp only [List.append_assoc, List.nil_append, List.append_nil]) rfl rfl ?_
    refine V_aload_n hX dX5_pluck_52 3 rfl ?_
    refine V_get (v := .ref (m 1)) hX cbX5 0 0 (by decide) wf_X5_7 rfl rfl rfl rfl dX5_pluck_53 ?_
    refine V_bipush hX dX5_pluck_56 (by decide) ?_
    refine V_dup2 hX dX5_pluck_58 rfl rfl ?_
    refine V_iald (i0 := 6) (r := (jI (s 6))) hX 1 rfl (by decide) (by decide) (by decide) rfl (by show jI ((up (up s (ix k 4) ((s (ix k 4)) - (plN s k))) (ix k 10) ((s (ix k 10)) + (plN s k))) 6) = jI (s 6); rw [up_ne (by unfold ix; omega), up_ne (by unfold ix; omega)]) dX5_pluck_59 ?_
    refine V_iload hX dX5_pluck_60 0 rfl ?_
    refine V_iadd hX dX5_pluck_62 rfl ?_
    refine V_iast (i0 := 6) (w' := mB G m (up (up (up s (ix k 4) ((s (ix k 4)) - (plN s k))) (ix k 10) ((s (ix k 10)) + (plN s k))) 6 ((s 6) + (plN s k))) sp hi sn tx g3 g5 g7 g8 g9 g10 g11 g12 g13) hX 1 rfl (by decide) (by decide) (by decide) rfl dX5_pluck_63 (mB_w1 G _ _ _ _ _ _ _ _ _ _ _ _ _ _ _ _ _) ?_
    refine V.wd (w' := mB G m (pl1 s k) sp hi sn tx g3 g5 g7 g8 g9 g10 g11 g12 g13) (mB_c rfl rfl rfl rfl rfl rfl rfl rfl rfl rfl rfl rfl rfl rfl) ?_
    refine V_iload_n hX dX5_pluck_64 1 rfl ?_
    refine V_iload hX dX5_pluck_65 0 rfl ?_
    refine V_icmp_ne (tgt := 75) hX dX5_pluck_67 (by decide) (by omega) (by omega) (fun c_2 => ?_) (fun c_2 => ?_)
    · exact V_vret hX hR dX5_pluck_75 ⟨rfl, (mB_c (by unfold plS; split <;> first | rfl | omega) rfl rfl rfl rfl rfl rfl rfl rfl rfl rfl rfl rfl rfl)⟩
    · refine V_aload_n hX dX5_pluck_70 3 rfl ?_
      refine V_iload_n hX dX5_pluck_71 4 rfl ?_
      refine V_dV (st := []) (w' := mB G m (fly (pl1 s k) k) sp hi sn tx g3 g5 g7 g8 g9 g10 g11 g12 g13) hX wc_X5_82 (c_X5_flyOff l G m (pl1 s k) sp hi sn tx g3 g5 g7 g8 g9 g10 g11 g12 g13 k (by omega)) (by decide) (by decide) rfl rfl (Nat.le_of_ble_eq_true rfl) dX5_pluck_72 [] ([]) (by simp only [List.append_assoc, List.nil_append, List.append_nil]) 0 rfl rfl (by simp only [List.append_assoc, List.nil_append, List.append_nil]) rfl rfl ?_
      exact V_vret hX hR dX5_pluck_75 ⟨rfl, (mB_c (by unfold plS; split <;> first | rfl | omega) rfl rfl rfl rfl rfl rfl rfl rfl rfl rfl rfl rfl rfl)⟩
  · refine V_iload_n hX dX5_pluck_18 1 rfl ?_
    refine V_goto (tgt := 23) hX dX5_pluck_19 (by decide) ?_
    refine V_istore (i := 4) (lv' := [(4, .int (jI (crN s k))), (3, .int (jI (s (ix k 4)))), (2, .int (jI (crN s k))), (0, .ref (m 0)), (1, .int (jI ((k : Int))))]) hX dX5_pluck_23 (by decide) rfl ?_
    refine V.toLv (lv' := [(4, .int (jI (plN s k))), (3, .int (jI (s (ix k 4)))), (2, .int (jI (crN s k))), (0, .ref (m 0)), (1, .int (jI ((k : Int))))]) (congrArg (fun z : Int => ([(4, Value.int (jI z)), (3, Value.int (jI (s (ix k 4)))), (2, Value.int (jI (crN s k))), (0, Value.ref (m 0)), (1, Value.int (jI ((k : Int))))] : List (Nat × Value))) (show crN s k = plN s k by unfold plN; split <;> omega)) ?_
    refine V_aload_n hX dX5_pluck_25 3 rfl ?_
    refine V_iload_n hX dX5_pluck_26 4 rfl ?_
    refine V_iconst hX dX5_pluck_27 ?_
    refine V_iload_n hX dX5_pluck_28 1 rfl ?_
    refine V_iload hX dX5_pluck_29 0 rfl ?_
    refine V_isub hX dX5_pluck_31 rfl ?_
    refine V.sk (st' := [.int (jI ((s (ix k 4)) - (plN s k))), .int (jI ((4 : Int))), .int (jI ((k : Int))), .ref (m 0)]) rfl ?_
    refine V_dV (st := []) (w' := mB G m (up s (ix k 4) ((s (ix k 4)) - (plN s k))) sp hi sn tx g3 g5 g7 g8 g9 g10 g11 g12 g13) hX wc_X5_75 (c_X5_setOf l G m s sp hi sn tx g3 g5 g7 g8 g9 g10 g11 g12 g13 k 4 ((s (ix k 4)) - (plN s k)) (by omega) (by omega)) (by decide) (by decide) rfl rfl (Nat.le_of_ble_eq_true rfl) dX5_pluck_32 [] ([]) (by simp only [List.append_assoc, List.nil_append, List.append_nil]) 0 rfl rfl (by simp only [List.append_assoc, List.nil_append, List.append_nil]) rfl rfl ?_
    refine V_aload_n hX dX5_pluck_35 3 rfl ?_
    refine V_iload_n hX dX5_pluck_36 4 rfl ?_
    refine V_bipush hX dX5_pluck_37 (by decide) ?_
    refine V_aload_n hX dX5_pluck_39 3 rfl ?_
    refine V_iload_n hX dX5_pluck_40 4 rfl ?_
    refine V_bipush hX dX5_pluck_41 (by decide) ?_
    refine V.sk (st' := [.int (jI ((10 : Int))), .int (jI ((k : Int))), .ref (m 0), .int (jI 10), .int (jI ((k : Int))), .ref (m 0)]) rfl ?_
    refine V_cV (st := [.int (jI 10), .int (jI ((k : Int))), .ref (m 0)]) (v := .int (jI ((up s (ix k 4) ((s (ix k 4)) - (plN s k))) (ix k 10)))) (w' := mB G m (up s (ix k 4) ((s (ix k 4)) - (plN s k))) sp hi sn tx g3 g5 g7 g8 g9 g10 g11 g12 g13) hX wc_X5_29 (c_X5_of l G m (up s (ix k 4) ((s (ix k 4)) - (plN s k))) sp hi sn tx g3 g5 g7 g8 g9 g10 g11 g12 g13 k 10 (by omega) (by omega)) (by decide) (by decide) rfl rfl (Nat.le_of_ble_eq_true rfl) dX5_pluck_43 [] ([]) (by simp only [List.append_assoc, List.nil_append, List.append_nil]) 0 rfl rfl (by simp only [List.append_assoc, List.nil_append, List.append_nil]) rfl rfl ?_
    refine V.sk (st' := [.int (jI (s (ix k 10))), .int (jI 10), .int (jI ((k : Int))), .ref (m 0)]) (congrArg (fun z : Int => [Value.int (jI z), Value.int (jI 10), Value.int (jI ((k : Int))), Value.ref (m 0)]) (show (up s (ix k 4) ((s (ix k 4)) - (plN s k))) (ix k 10) = s (ix k 10) by rw [up_ne (by unfold ix; omega)])) ?_
    refine V_iload hX dX5_pluck_46 0 rfl ?_
    refine V_iadd hX dX5_pluck_48 rfl ?_
    refine V.sk (st' := [.int (jI ((s (ix k 10)) + (plN s k))), .int (jI ((10 : Int))), .int (jI ((k : Int))), .ref (m 0)]) rfl ?_
    refine V_dV (st := []) (w' := mB G m (up (up s (ix k 4) ((s (ix k 4)) - (plN s k))) (ix k 10) ((s (ix k 10)) + (plN s k))) sp hi sn tx g3 g5 g7 g8 g9 g10 g11 g12 g13) hX wc_X5_75 (c_X5_setOf l G m (up s (ix k 4) ((s (ix k 4)) - (plN s k))) sp hi sn tx g3 g5 g7 g8 g9 g10 g11 g12 g13 k 10 ((s (ix k 10)) + (plN s k)) (by omega) (by omega)) (by decide) (by decide) rfl rfl (Nat.le_of_ble_eq_true rfl) dX5_pluck_49 [] ([]) (by simp only [List.append_assoc, List.nil_append, List.append_nil]) 0 rfl rfl (by simp only [List.append_assoc, List.nil_append, List.append_nil]) rfl rfl ?_
    refine V_aload_n hX dX5_pluck_52 3 rfl ?_
    refine V_get (v := .ref (m 1)) hX cbX5 0 0 (by decide) wf_X5_7 rfl rfl rfl rfl dX5_pluck_53 ?_
    refine V_bipush hX dX5_pluck_56 (by decide) ?_
    refine V_dup2 hX dX5_pluck_58 rfl rfl ?_
    refine V_iald (i0 := 6) (r := (jI (s 6))) hX 1 rfl (by decide) (by decide) (by decide) rfl (by show jI ((up (up s (ix k 4) ((s (ix k 4)) - (plN s k))) (ix k 10) ((s (ix k 10)) + (plN s k))) 6) = jI (s 6); rw [up_ne (by unfold ix; omega), up_ne (by unfold ix; omega)]) dX5_pluck_59 ?_
    refine V_iload hX dX5_pluck_60 0 rfl ?_
    refine V_iadd hX dX5_pluck_62 rfl ?_
    refine V_iast (i0 := 6) (w' := mB G m (up (up (up s (ix k 4) ((s (ix k 4)) - (plN s k))) (ix k 10) ((s (ix k 10)) + (plN s k))) 6 ((s 6) + (plN s k))) sp hi sn tx g3 g5 g7 g8 g9 g10 g11 g12 g13) hX 1 rfl (by decide) (by decide) (by decide) rfl dX5_pluck_63 (mB_w1 G _ _ _ _ _ _ _ _ _ _ _ _ _ _ _ _ _) ?_
    refine V.wd (w' := mB G m (pl1 s k) sp hi sn tx g3 g5 g7 g8 g9 g10 g11 g12 g13) (mB_c rfl rfl rfl rfl rfl rfl rfl rfl rfl rfl rfl rfl rfl rfl) ?_
    refine V_iload_n hX dX5_pluck_64 1 rfl ?_
    refine V_iload hX dX5_pluck_65 0 rfl ?_
    refine V_icmp_ne (tgt := 75) hX dX5_pluck_67 (by decide) (by omega) (by omega) (fun c_3 => ?_) (fun c_3 => ?_)
    · exact V_vret hX hR dX5_pluck_75 ⟨rfl, (mB_c (by unfold plS; split <;> first | rfl | omega) rfl rfl rfl rfl rfl rfl rfl rfl rfl rfl rfl rfl rfl)⟩
    · refine V_aload_n hX dX5_pluck_70 3 rfl ?_
      refine V_iload_n hX dX5_pluck_71 4 rfl ?_
      refine V_dV (st := []) (w' := mB G m (fly (pl1 s k) k) sp hi sn tx g3 g5 g7 g8 g9 g10 g11 g12 g13) hX wc_X5_82 (c_X5_flyOff l G m (pl1 s k) sp hi sn tx g3 g5 g7 g8 g9 g10 g11 g12 g13 k (by omega)) (by decide) (by decide) rfl rfl (Nat.le_of_ble_eq_true rfl) dX5_pluck_72 [] ([]) (by simp only [List.append_assoc, List.nil_append, List.append_nil]) 0 rfl rfl (by simp only [List.append_assoc, List.nil_append, List.append_nil]) rfl rfl ?_
      exact V_vret hX hR dX5_pluck_75 ⟨rfl, (mB_c (by unfold plS; split <;> first | rfl | omega) rfl rfl rfl rfl rfl rfl rfl rfl rfl rfl rfl rfl rfl)⟩

set_option maxHeartbeats 4000000 in
set_option maxRecDepth 100000 in
theorem c_X5_passOne (l : Launch) (G : vC) (m : Nat → Nat) (s : Nat → Int) (sp : Nat → Int) (hi : Nat → Int) (sn : Nat → Int) (tx : Nat → Int) (g3 : Int) (g5 : Int) (g7 : Int) (g8 : Int) (g9 : Int) (g10 : Int) (g11 : Int) (g12 : Int) (g13 : Int) (t : Int) (hI : Inv t s) (ht : t + 1 ≤ 1000000) : Fn l G yX5_passOne cX5_passOne 3 (some .int) ({ frames := 3, cells := 0, slots := 0, locals := 69 } : Room) [.ref (m 0)] (mB G m s sp hi sn tx g3 g5 g7 g8 g9 g10 g11 g12 g13) (some (.int (jI (tkR s)))) (mB G m (tkS s) sp hi sn tx g3 g5 g7 g8 g9 g10 g11 g12 g13) := by
  refine Ct.of (by decide) (Nat.le_of_ble_eq_true rfl) (fun X hX hR => ?_)
  refine V.toLv (lv' := [(0, .ref (m 0))]) rfl ?_
  have hb := hI.base
  obtain ⟨N, hN⟩ : ∃ N : Nat, s 10 = (N : Int) := ⟨(s 10).toNat, by omega⟩
  have hN2 : (s 10).toNat = N := by omega
  have e10c : twS s N 10 = s 10 := twS_lo s N 10 (by decide)
  have hA : Inv t (tkA s) := by unfold tkA; rw [hN2]; exact (hI.tw N (by omega)).pk N (by omega)
  have hAb := hA.base
  refine V_iconst hX dX5_passOne_0 ?_
  refine V_istore_n (i := 1) (lv' := [(1, .int (jI 0)), (0, .ref (m 0))]) hX dX5_passOne_1 rfl (by decide) rfl ?_
  refine V_iconst hX dX5_passOne_2 ?_
  refine V_istore_n (i := 2) (lv' := [(2, .int (jI 0)), (1, .int (jI 0)), (0, .ref (m 0))]) hX dX5_passOne_3 rfl (by decide) rfl ?_
  have L4_q_1 : ∀ k : Nat, k ≤ N → ∀ (i : Int) (acc : Int), (i = (k : Int)) → (acc = twR s k) → V X 0 0 (mB G m (twS s k) sp hi sn tx g3 g5 g7 g8 g9 g10 g11 g12 g13) [(2, .int (jI i)), (1, .int (jI acc)), (0, .ref (m 0))] 4 [] := by
    refine up_ind (fun k => ∀ (i : Int) (acc : Int), (i = (k : Int)) → (acc = twR s k) → V X 0 0 (mB G m (twS s k) sp hi sn tx g3 g5 g7 g8 g9 g10 g11 g12 g13) [(2, .int (jI i)), (1, .int (jI acc)), (0, .ref (m 0))] 4 []) (N) ?_
    intro k hk ih i acc hik hacc
    have e10 : twS s k 10 = s 10 := twS_lo s k 10 (by decide)
    have hIk := hI.tw k (by omega)
    refine V_iload_n hX dX5_passOne_4 0 rfl ?_
    refine V_aload_n hX dX5_passOne_5 2 rfl ?_
    refine V_get (v := .ref (m 1)) hX cbX5 0 0 (by decide) wf_X5_7 rfl rfl rfl rfl dX5_passOne_6 ?_
    refine V_bipush hX dX5_passOne_9 (by decide) ?_
    refine V_iald (i0 := 10) (r := (jI ((twS s k) 10))) hX 1 rfl (by decide) (by decide) (by decide) rfl rfl dX5_passOne_11 ?_
    refine V_icmp_ge (tgt := 29) hX dX5_passOne_12 (by decide) (by omega) (by omega) (fun c_2 => ?_) (fun c_2 => ?_)
    · have hkN : k = N := by omega
      refine V.wd (w' := mB G m (twS s N) sp hi sn tx g3 g5 g7 g8 g9 g10 g11 g12 g13) (mB_c (by rw [hkN]) rfl rfl rfl rfl rfl rfl rfl rfl rfl rfl rfl rfl rfl) ?_
      refine V_iconst hX dX5_passOne_29 ?_
      refine V_istore_n (i := 2) (lv' := [(2, .int (jI 0)), (1, .int (jI acc)), (0, .ref (m 0))]) hX dX5_passOne_30 rfl (by decide) rfl ?_
      have L31_q_3 : ∀ k2 : Nat, k2 ≤ N → ∀ (i2 : Int), (i2 = (k2 : Int)) → V X 0 0 (mB G m (pkS (twS s N) k2) sp hi sn tx g3 g5 g7 g8 g9 g10 g11 g12 g13) [(2, .int (jI i2)), (1, .int (jI acc)), (0, .ref (m 0))] 31 [] := by
        refine up_ind (fun k2 => ∀ (i2 : Int), (i2 = (k2 : Int)) → V X 0 0 (mB G m (pkS (twS s N) k2) sp hi sn tx g3 g5 g7 g8 g9 g10 g11 g12 g13) [(2, .int (jI i2)), (1, .int (jI acc)), (0, .ref (m 0))] 31 []) (N) ?_
        intro k2 hk ih i2 hi2
        have e10 : pkS (twS s N) k2 10 = s 10 := (pkS_lo _ _ _ (by decide) (by decide)).trans (twS_lo s N 10 (by decide))
        have e10b : twS s N 10 = s 10 := twS_lo s N 10 (by decide)
        have hIk := (hI.tw N (by omega)).pk k2 (by omega)
        refine V_iload_n hX dX5_passOne_31 0 rfl ?_
        refine V_aload_n hX dX5_passOne_32 2 rfl ?_
        refine V_get (v := .ref (m 1)) hX cbX5 0 0 (by decide) wf_X5_7 rfl rfl rfl rfl dX5_passOne_33 ?_
        refine V_bipush hX dX5_passOne_36 (by decide) ?_
        refine V_iald (i0 := 10) (r := (jI ((pkS (twS s N) k2) 10))) hX 1 rfl (by decide) (by decide) (by decide) rfl rfl dX5_passOne_38 ?_
        refine V_icmp_ge (tgt := 53) hX dX5_passOne_39 (by decide) (by omega) (by omega) (fun c_4 => ?_) (fun c_4 => ?_)
        · have hkN2 : k2 = N := by omega
          refine V.wd (w' := mB G m (tkA s) sp hi sn tx g3 g5 g7 g8 g9 g10 g11 g12 g13) (mB_c (by rw [hkN2]; unfold tkA; rw [hN2]) rfl rfl rfl rfl rfl rfl rfl rfl rfl rfl rfl rfl rfl) ?_
          have haR : acc = tkR s := by rw [hacc, hkN]; unfold tkR; rw [hN2]
          refine V_aload_n hX dX5_passOne_53 2 rfl ?_
          refine V_get (v := .ref (m 1)) hX cbX5 0 0 (by decide) wf_X5_7 rfl rfl rfl rfl dX5_passOne_54 ?_
          refine V_iconst hX dX5_passOne_57 ?_
          refine V_dup2 hX dX5_passOne_58 rfl rfl ?_
          refine V_iald (i0 := 2) (r := (jI ((tkA s) 2))) hX 1 rfl (by decide) (by decide) (by decide) rfl rfl dX5_passOne_59 ?_
          refine V_iconst hX dX5_passOne_60 ?_
          refine V_iadd hX dX5_passOne_61 rfl ?_
          refine V_iast (i0 := 2) (w' := mB G m (up (tkA s) 2 (((tkA s) 2) + 1)) sp hi sn tx g3 g5 g7 g8 g9 g10 g11 g12 g13) hX 1 rfl (by decide) (by decide) (by decide) rfl dX5_passOne_62 (mB_w1 G _ _ _ _ _ _ _ _ _ _ _ _ _ _ _ _ _) ?_
          refine V_aload_n hX dX5_passOne_63 2 rfl ?_
          refine V_get (v := .ref (m 1)) hX cbX5 0 0 (by decide) wf_X5_7 rfl rfl rfl rfl dX5_passOne_64 ?_
          refine V_bipush hX dX5_passOne_67 (by decide) ?_
          refine V_dup2 hX dX5_passOne_69 rfl rfl ?_
          refine V_iald (i0 := 7) (r := (jI ((tkA s) 7))) hX 1 rfl (by decide) (by decide) (by decide) rfl (by show jI ((up (tkA s) 2 (((tkA s) 2) + 1)) 7) = jI ((tkA s) 7); rw [up_ne (by decide)]) dX5_passOne_70 ?_
          refine V_iload_n hX dX5_passOne_71 1 rfl ?_
          refine V_iadd hX dX5_passOne_72 rfl ?_
          refine V_iast (i0 := 7) (w' := mB G m (up (up (tkA s) 2 (((tkA s) 2) + 1)) 7 (((tkA s) 7) + acc)) sp hi sn tx g3 g5 g7 g8 g9 g10 g11 g12 g13) hX 1 rfl (by decide) (by decide) (by decide) rfl dX5_passOne_73 (mB_w1 G _ _ _ _ _ _ _ _ _ _ _ _ _ _ _ _ _) ?_
          refine V.wd (w' := mB G m (up (up (tkA s) 2 (tkA s 2 + 1)) 7 (tkA s 7 + tkR s)) sp hi sn tx g3 g5 g7 g8 g9 g10 g11 g12 g13) (mB_c (by rw [haR]) rfl rfl rfl rfl rfl rfl rfl rfl rfl rfl rfl rfl rfl) ?_
          refine V_aload_n hX dX5_passOne_74 2 rfl ?_
          refine V_get (v := .ref (m 1)) hX cbX5 0 0 (by decide) wf_X5_7 rfl rfl rfl rfl dX5_passOne_75 ?_
          refine V_iconst hX dX5_passOne_78 ?_
          refine V_iald (i0 := 0) (r := (jI ((tkA s) 0))) hX 1 rfl (by decide) (by decide) (by decide) rfl (by show jI ((up (up (tkA s) 2 (tkA s 2 + 1)) 7 (tkA s 7 + tkR s)) 0) = jI ((tkA s) 0); rw [up_ne (by decide), up_ne (by decide)]) dX5_passOne_79 ?_
          refine V_if_le (tgt := 115) hX dX5_passOne_80 (by decide) (by omega) (fun c_5 => ?_) (fun c_5 => ?_)
          · refine V_iload_n hX dX5_passOne_115 1 rfl ?_
            exact V_iret hX hR dX5_passOne_116 ⟨(congrArg (fun z => some (Value.int (jI z))) haR), (mB_c (by rw [tkS_m]; split <;> first | rfl | omega) rfl rfl rfl rfl rfl rfl rfl rfl rfl rfl rfl rfl rfl)⟩
          · refine V_aload_n hX dX5_passOne_83 2 rfl ?_
            refine V_get (v := .ref (m 1)) hX cbX5 0 0 (by decide) wf_X5_7 rfl rfl rfl rfl dX5_passOne_84 ?_
            refine V_iconst hX dX5_passOne_87 ?_
            refine V_iald (i0 := 2) (r := (jI (tkA s 2 + 1))) hX 1 rfl (by decide) (by decide) (by decide) rfl (by show jI ((up (up (tkA s) 2 (tkA s 2 + 1)) 7 (tkA s 7 + tkR s)) 2) = jI (tkA s 2 + 1); rw [up_ne (by decide), up_eq]) dX5_passOne_88 ?_
            refine V_aload_n hX dX5_passOne_89 2 rfl ?_
            refine V_get (v := .ref (m 1)) hX cbX5 0 0 (by decide) wf_X5_7 rfl rfl rfl rfl dX5_passOne_90 ?_
            refine V_iconst hX dX5_passOne_93 ?_
            refine V_iald (i0 := 0) (r := (jI ((tkA s) 0))) hX 1 rfl (by decide) (by decide) (by decide) rfl (by show jI ((up (up (tkA s) 2 (tkA s 2 + 1)) 7 (tkA s 7 + tkR s)) 0) = jI ((tkA s) 0); rw [up_ne (by decide), up_ne (by decide)]) dX5_passOne_94 ?_
            refine V_irem hX dX5_passOne_95 (by omega) (by omega) (by omega) (by omega) rfl ?_
            refine V_if_ne (tgt := 115) hX dX5_passOne_96 (by decide) ⟨by have := Int.emod_nonneg (tkA s 2 + 1) (show tkA s 0 ≠ 0 by omega); omega, by have := Int.emod_lt_of_pos (tkA s 2 + 1) (show 0 < tkA s 0 by omega); omega⟩ (fun c_6 => ?_) (fun c_6 => ?_)
            · refine V_iload_n hX dX5_passOne_115 1 rfl ?_
              exact V_iret hX hR dX5_passOne_116 ⟨(congrArg (fun z => some (Value.int (jI z))) haR), (mB_c (by rw [tkS_m]; split <;> first | rfl | omega) rfl rfl rfl rfl rfl rfl rfl rfl rfl rfl rfl rfl rfl)⟩
            · refine V_aload_n hX dX5_passOne_99 2 rfl ?_
              refine V_get (v := .ref (m 1)) hX cbX5 0 0 (by decide) wf_X5_7 rfl rfl rfl rfl dX5_passOne_100 ?_
              refine V_iconst hX dX5_passOne_103 ?_
              refine V_aload_n hX dX5_passOne_104 2 rfl ?_
              refine V_get (v := .ref (m 1)) hX cbX5 0 0 (by decide) wf_X5_7 rfl rfl rfl rfl dX5_passOne_105 ?_
              refine V_iconst hX dX5_passOne_108 ?_
              refine V_iald (i0 := 3) (r := (jI ((tkA s) 3))) hX 1 rfl (by decide) (by decide) (by decide) rfl (by show jI ((up (up (tkA s) 2 (tkA s 2 + 1)) 7 (tkA s 7 + tkR s)) 3) = jI ((tkA s) 3); rw [up_ne (by decide), up_ne (by decide)]) dX5_passOne_109 ?_
              refine V_iconst hX dX5_passOne_110 ?_
              refine V_iadd hX dX5_passOne_111 rfl ?_
              refine V_iconst hX dX5_passOne_112 ?_
              refine V_irem hX dX5_passOne_113 (by omega) (by omega) (by omega) (by omega) rfl ?_
              refine V_iast (i0 := 3) (w' := mB G m (up (up (up (tkA s) 2 (tkA s 2 + 1)) 7 (tkA s 7 + tkR s)) 3 ((((tkA s) 3) + 1) % 4)) sp hi sn tx g3 g5 g7 g8 g9 g10 g11 g12 g13) hX 1 rfl (by decide) (by decide) (by decide) rfl dX5_passOne_114 (mB_w1 G _ _ _ _ _ _ _ _ _ _ _ _ _ _ _ _ _) ?_
              refine V_iload_n hX dX5_passOne_115 1 rfl ?_
              exact V_iret hX hR dX5_passOne_116 ⟨(congrArg (fun z => some (Value.int (jI z))) haR), (mB_c (by rw [tkS_m]; split <;> first | rfl | omega) rfl rfl rfl rfl rfl rfl rfl rfl rfl rfl rfl rfl rfl)⟩
        · refine V_aload_n hX dX5_passOne_42 2 rfl ?_
          refine V_iload_n hX dX5_passOne_43 0 rfl ?_
          refine V.sk (st' := [.int (jI ((k2 : Int))), .ref (m 0)]) (congrArg (fun z : Int => [Value.int (jI z), Value.ref (m 0)]) (show i2 = (k2 : Int) by omega)) ?_
          refine V_dV (st := []) (w' := mB G m (plS (pkS (twS s N) k2) k2) sp hi sn tx g3 g5 g7 g8 g9 g10 g11 g12 g13) hX wc_X5_89 (c_X5_pluck l G m (pkS (twS s N) k2) sp hi sn tx g3 g5 g7 g8 g9 g10 g11 g12 g13 t k2 hIk (by omega) (by omega)) (by decide) (by decide) rfl rfl (Nat.le_of_ble_eq_true rfl) dX5_passOne_44 [] ([]) (by simp only [List.append_assoc, List.nil_append, List.append_nil]) 0 rfl rfl (by simp only [List.append_assoc, List.nil_append, List.append_nil]) rfl rfl ?_
          refine V_iinc (b := i2 + 1) (lv' := [(2, .int (jI (i2 + 1))), (1, .int (jI acc)), (0, .ref (m 0))]) hX dX5_passOne_47 0 rfl rfl (by decide) rfl ?_
          refine V_goto (tgt := 31) hX dX5_passOne_50 (by decide) ?_
          refine V.sub [0, 1, 2] rfl ?_
          exact ih (by omega) _ (by omega)
      refine V.sub [0, 1, 2] rfl ?_
      exact L31_q_3 0 (Nat.zero_le _) 0 rfl
    · refine V_iload_n hX dX5_passOne_15 1 rfl ?_
      refine V_aload_n hX dX5_passOne_16 2 rfl ?_
      refine V_iload_n hX dX5_passOne_17 0 rfl ?_
      refine V.sk (st' := [.int (jI ((k : Int))), .ref (m 0), .int (jI acc)]) (congrArg (fun z : Int => [Value.int (jI z), Value.ref (m 0), Value.int (jI acc)]) (show i = (k : Int) by omega)) ?_
      refine V_cV (st := [.int (jI acc)]) (v := .int (jI (tbR (twS s k) k))) (w' := mB G m (tbS (twS s k) k) sp hi sn tx g3 g5 g7 g8 g9 g10 g11 g12 g13) hX wc_X5_86 (c_X5_blowOn l G m (twS s k) sp hi sn tx g3 g5 g7 g8 g9 g10 g11 g12 g13 t k hIk (by omega) (by omega)) (by decide) (by decide) rfl rfl (Nat.le_of_ble_eq_true rfl) dX5_passOne_18 [] ([]) (by simp only [List.append_assoc, List.nil_append, List.append_nil]) 0 rfl rfl (by simp only [List.append_assoc, List.nil_append, List.append_nil]) rfl rfl ?_
      refine V_iadd hX dX5_passOne_21 rfl ?_
      refine V_istore_n (i := 1) (lv' := [(1, .int (jI (acc + (tbR (twS s k) k)))), (2, .int (jI i)), (0, .ref (m 0))]) hX dX5_passOne_22 rfl (by decide) rfl ?_
      refine V_iinc (b := i + 1) (lv' := [(2, .int (jI (i + 1))), (1, .int (jI (acc + (tbR (twS s k) k)))), (0, .ref (m 0))]) hX dX5_passOne_23 1 rfl rfl (by decide) rfl ?_
      refine V_goto (tgt := 4) hX dX5_passOne_26 (by decide) ?_
      refine V.sub [0, 1, 2] rfl ?_
      exact ih (by omega) _ _ (by omega) (by rw [hacc]; rfl)
  refine V.sub [0, 1, 2] rfl ?_
  exact L4_q_1 0 (Nat.zero_le _) 0 0 rfl rfl

set_option maxHeartbeats 4000000 in
set_option maxRecDepth 100000 in
theorem c_X5_passMany (l : Launch) (G : vC) (m : Nat → Nat) (s : Nat → Int) (sp : Nat → Int) (hi : Nat → Int) (sn : Nat → Int) (tx : Nat → Int) (g3 : Int) (g5 : Int) (g7 : Int) (g8 : Int) (g9 : Int) (g10 : Int) (g11 : Int) (g12 : Int) (g13 : Int) (t : Int) (j : Nat) (hI : Inv t s) (hm : j ≤ 300) (ht : t + j ≤ 1000000) : Fn l G yX5_passMany cX5_passMany 4 (some .int) ({ frames := 4, cells := 0, slots := 0, locals := 91 } : Room) [.ref (m 0), .int (jI ((j : Int)))] (mB G m s sp hi sn tx g3 g5 g7 g8 g9 g10 g11 g12 g13) (some (.int (jI (tsR s j)))) (mB G m (tsS s j) sp hi sn tx g3 g5 g7 g8 g9 g10 g11 g12 g13) := by
  refine Ct.of (by decide) (Nat.le_of_ble_eq_true rfl) (fun X hX hR => ?_)
  refine V.toLv (lv' := [(0, .ref (m 0)), (1, .int (jI ((j : Int))))]) rfl ?_
  have hb := hI.base
  refine V_iconst hX dX5_passMany_0 ?_
  refine V_istore_n (i := 2) (lv' := [(2, .int (jI 0)), (0, .ref (m 0)), (1, .int (jI ((j : Int))))]) hX dX5_passMany_1 rfl (by decide) rfl ?_
  refine V_iconst hX dX5_passMany_2 ?_
  refine V_istore_n (i := 3) (lv' := [(3, .int (jI 0)), (2, .int (jI 0)), (0, .ref (m 0)), (1, .int (jI ((j : Int))))]) hX dX5_passMany_3 rfl (by decide) rfl ?_
  have L4_q_1 : ∀ k : Nat, k ≤ j → ∀ (i : Int) (acc : Int), (i = (k : Int)) → (acc = tsR s k) → V X 0 0 (mB G m (tsS s k) sp hi sn tx g3 g5 g7 g8 g9 g10 g11 g12 g13) [(3, .int (jI i)), (2, .int (jI acc)), (0, .ref (m 0)), (1, .int (jI ((j : Int))))] 4 [] := by
    refine up_ind (fun k => ∀ (i : Int) (acc : Int), (i = (k : Int)) → (acc = tsR s k) → V X 0 0 (mB G m (tsS s k) sp hi sn tx g3 g5 g7 g8 g9 g10 g11 g12 g13) [(3, .int (jI i)), (2, .int (jI acc)), (0, .ref (m 0)), (1, .int (jI ((j : Int))))] 4 []) (j) ?_
    intro k hk ih i acc hik hacc
    have hIk := hI.ts k (by omega)
    refine V_iload_n hX dX5_passMany_4 0 rfl ?_
    refine V_iload_n hX dX5_passMany_5 3 rfl ?_
    refine V_icmp_ge (tgt := 22) hX dX5_passMany_6 (by decide) (by omega) (by omega) (fun c_2 => ?_) (fun c_2 => ?_)
    · have hkm : k = j := by omega
      refine V.wd (w' := mB G m (tsS s j) sp hi sn tx g3 g5 g7 g8 g9 g10 g11 g12 g13) (mB_c (by rw [hkm]) rfl rfl rfl rfl rfl rfl rfl rfl rfl rfl rfl rfl rfl) ?_
      refine V_iload_n hX dX5_passMany_22 1 rfl ?_
      exact V_iret hX hR dX5_passMany_23 ⟨(congrArg (fun z => some (Value.int (jI z))) (by rw [hacc, hkm])), rfl⟩
    · refine V_iload_n hX dX5_passMany_9 1 rfl ?_
      refine V_aload_n hX dX5_passMany_10 2 rfl ?_
      refine V_cV (st := [.int (jI acc)]) (v := .int (jI (tkR (tsS s k)))) (w' := mB G m (tkS (tsS s k)) sp hi sn tx g3 g5 g7 g8 g9 g10 g11 g12 g13) hX wc_X5_92 (c_X5_passOne l G m (tsS s k) sp hi sn tx g3 g5 g7 g8 g9 g10 g11 g12 g13 (t + (k : Int)) hIk (by omega)) (by decide) (by decide) rfl rfl (Nat.le_of_ble_eq_true rfl) dX5_passMany_11 [] ([]) (by simp only [List.append_assoc, List.nil_append, List.append_nil]) 0 rfl rfl (by simp only [List.append_assoc, List.nil_append, List.append_nil]) rfl rfl ?_
      refine V_iadd hX dX5_passMany_14 rfl ?_
      refine V_istore_n (i := 2) (lv' := [(2, .int (jI (acc + (tkR (tsS s k))))), (3, .int (jI i)), (0, .ref (m 0)), (1, .int (jI ((j : Int))))]) hX dX5_passMany_15 rfl (by decide) rfl ?_
      refine V_iinc (b := i + 1) (lv' := [(3, .int (jI (i + 1))), (2, .int (jI (acc + (tkR (tsS s k))))), (0, .ref (m 0)), (1, .int (jI ((j : Int))))]) hX dX5_passMany_16 1 rfl rfl (by decide) rfl ?_
      refine V_goto (tgt := 4) hX dX5_passMany_19 (by decide) ?_
      refine V.sub [0, 1, 2, 3] rfl ?_
      exact ih (by omega) _ _ (by omega) (by rw [hacc]; rfl)
  refine V.sub [0, 1, 2, 3] rfl ?_
  exact L4_q_1 0 (Nat.zero_le _) 0 0 rfl rfl

set_option maxHeartbeats 4000000 in
set_option maxRecDepth 100000 in
theorem c_X5_doCrow (l : Launch) (G : vC) (m : Nat → Nat) (s : Nat → Int) (sp : Nat → Int) (hi : Nat → Int) (sn : Nat → Int) (tx : Nat → Int) (g3 : Int) (g5 : Int) (g7 : Int) (g8 : Int) (g9 : Int) (g10 : Int) (g11 : Int) (g12 : Int) (g13 : Int) (t : Int) (a : Int) (b : Int) (hI : Inv t s) (ha : iR a) (hb : iR b) : Fn l G yX5_doCrow cX5_doCrow 3 (some .int) ({ frames := 2, cells := 0, slots := 0, locals := 45 } : Room) [.ref (m 0), .int (jI a), .int (jI b)] (mB G m s sp hi sn tx g3 g5 g7 g8 g9 g10 g11 g12 g13) (some (.int (jI (tcR s a b)))) (mB G m (tcS s a b) sp hi sn tx g3 g5 g7 g8 g9 g10 g11 g12 g13) := by
  refine Ct.of (by decide) (Nat.le_of_ble_eq_true rfl) (fun X hX hR => ?_)
  refine V.toLv (lv' := [(0, .ref (m 0)), (1, .int (jI a)), (2, .int (jI b))]) rfl ?_
  have hb := hI.base
  refine V_aload_n hX dX5_doCrow_0 0 rfl ?_
  refine V_iload_n hX dX5_doCrow_1 1 rfl ?_
  refine V_cV (st := []) (v := .int (jI (bI (0 ≤ a ∧ a < s 10)))) (w' := mB G m s sp hi sn tx g3 g5 g7 g8 g9 g10 g11 g12 g13) hX wc_X5_95 (c_X5_isScarecrow l G m s sp hi sn tx g3 g5 g7 g8 g9 g10 g11 g12 g13 t a hI (by omega)) (by decide) (by decide) rfl rfl (Nat.le_of_ble_eq_true rfl) dX5_doCrow_2 [] ([]) (by simp only [List.append_assoc, List.nil_append, List.append_nil]) 0 rfl rfl (by simp only [List.append_assoc, List.nil_append, List.append_nil]) rfl rfl ?_
  refine V_ifz (tgt := 15) hX dX5_doCrow_5 (by decide) (fun c_1 => ?_) (fun c_1 => ?_)
  · refine V_iconst hX dX5_doCrow_15 ?_
    exact V_iret hX hR dX5_doCrow_16 ⟨(congrArg (fun z => some (Value.int (jI z))) (by unfold tcR; (repeat' split) <;> omega)), (mB_c (by unfold tcS; split <;> first | rfl | omega) rfl rfl rfl rfl rfl rfl rfl rfl rfl rfl rfl rfl rfl)⟩
  · refine V_iload_n hX dX5_doCrow_8 2 rfl ?_
    refine V_cS (st := []) (v := .int (jI (bI (0 ≤ b ∧ b ≤ 3)))) (w' := mB G m s sp hi sn tx g3 g5 g7 g8 g9 g10 g11 g12 g13) hX wc_X5_98 (c_X5_isWay l G b (by omega)) (by decide) (by decide) rfl rfl (Nat.le_of_ble_eq_true rfl) dX5_doCrow_9 [] (mB G m s sp hi sn tx g3 g5 g7 g8 g9 g10 g11 g12 g13) (by simp only [List.append_assoc, List.nil_append, List.append_nil]) (by simp only [List.append_assoc, List.nil_append, List.append_nil]) rfl rfl ?_
    refine V_ifnz (tgt := 17) hX dX5_doCrow_12 (by decide) (fun c_2 => ?_) (fun c_2 => ?_)
    · have hs := hI.sc a.toNat (by omega)
      have hcr := hI.cr a.toNat b.toNat (by omega) (by omega)
      have hcN : crN s a.toNat = s (ix a.toNat 5) + s (ix a.toNat 6) + s (ix a.toNat 7) + s (ix a.toNat 8) := rfl
      refine V_aload_n hX dX5_doCrow_17 0 rfl ?_
      refine V_iload_n hX dX5_doCrow_18 1 rfl ?_
      refine V_iconst hX dX5_doCrow_19 ?_
      refine V.sk (st' := [.int (jI ((4 : Int))), .int (jI a), .ref (m 0)]) rfl ?_
      refine V.sk (st' := [.int (jI ((4 : Int))), .int (jI ((a.toNat : Int))), .ref (m 0)]) (congrArg (fun z : Int => [Value.int (jI ((4 : Int))), Value.int (jI z), Value.ref (m 0)]) (show a = (a.toNat : Int) by omega)) ?_
      refine V_cV (st := []) (v := .int (jI (s (ix a.toNat 4)))) (w' := mB G m s sp hi sn tx g3 g5 g7 g8 g9 g10 g11 g12 g13) hX wc_X5_29 (c_X5_of l G m s sp hi sn tx g3 g5 g7 g8 g9 g10 g11 g12 g13 a.toNat 4 (by omega) (by omega)) (by decide) (by decide) rfl rfl (Nat.le_of_ble_eq_true rfl) dX5_doCrow_20 [] ([]) (by simp only [List.append_assoc, List.nil_append, List.append_nil]) 0 rfl rfl (by simp only [List.append_assoc, List.nil_append, List.append_nil]) rfl rfl ?_
      refine V_if_ne (tgt := 29) hX dX5_doCrow_23 (by decide) (by omega) (fun c_3 => ?_) (fun c_3 => ?_)
      · refine V_aload_n hX dX5_doCrow_29 0 rfl ?_
        refine V_iload_n hX dX5_doCrow_30 1 rfl ?_
        refine V.sk (st' := [.int (jI ((a.toNat : Int))), .ref (m 0)]) (congrArg (fun z : Int => [Value.int (jI z), Value.ref (m 0)]) (show a = (a.toNat : Int) by omega)) ?_
        refine V_cV (st := []) (v := .int (jI (crN s a.toNat))) (w' := mB G m s sp hi sn tx g3 g5 g7 g8 g9 g10 g11 g12 g13) hX wc_X5_79 (c_X5_crowsOn l G m s sp hi sn tx g3 g5 g7 g8 g9 g10 g11 g12 g13 t a.toNat hI (by omega)) (by decide) (by decide) rfl rfl (Nat.le_of_ble_eq_true rfl) dX5_doCrow_31 [] ([]) (by simp only [List.append_assoc, List.nil_append, List.append_nil]) 0 rfl rfl (by simp only [List.append_assoc, List.nil_append, List.append_nil]) rfl rfl ?_
        refine V_bipush hX dX5_doCrow_34 (by decide) ?_
        refine V_icmp_ne (tgt := 42) hX dX5_doCrow_36 (by decide) (by omega) (by decide) (fun c_4 => ?_) (fun c_4 => ?_)
        · refine V_aload_n hX dX5_doCrow_42 0 rfl ?_
          refine V_iload_n hX dX5_doCrow_43 1 rfl ?_
          refine V_iconst hX dX5_doCrow_44 ?_
          refine V_iload_n hX dX5_doCrow_45 2 rfl ?_
          refine V_iadd hX dX5_doCrow_46 rfl ?_
          refine V_aload_n hX dX5_doCrow_47 0 rfl ?_
          refine V_iload_n hX dX5_doCrow_48 1 rfl ?_
          refine V_iconst hX dX5_doCrow_49 ?_
          refine V_iload_n hX dX5_doCrow_50 2 rfl ?_
          refine V_iadd hX dX5_doCrow_51 rfl ?_
          refine V.sk (st' := [.int (jI (((5 + b.toNat : Nat) : Int))), .int (jI a), .ref (m 0), .int (jI (5 + b)), .int (jI a), .ref (m 0)]) (congrArg (fun z : Int => [Value.int (jI z), Value.int (jI a), Value.ref (m 0), Value.int (jI (5 + b)), Value.int (jI a), Value.ref (m 0)]) (show 5 + b = ((5 + b.toNat : Nat) : Int) by omega)) ?_
          refine V.sk (st' := [.int (jI (((5 + b.toNat : Nat) : Int))), .int (jI ((a.toNat : Int))), .ref (m 0), .int (jI (5 + b)), .int (jI a), .ref (m 0)]) (congrArg (fun z : Int => [Value.int (jI (((5 + b.toNat : Nat) : Int))), Value.int (jI z), Value.ref (m 0), Value.int (jI (5 + b)), Value.int (jI a), Value.ref (m 0)]) (show a = (a.toNat : Int) by omega)) ?_
          refine V_cV (st := [.int (jI (5 + b)), .int (jI a), .ref (m 0)]) (v := .int (jI (s (ix a.toNat (5 + b.toNat))))) (w' := mB G m s sp hi sn tx g3 g5 g7 g8 g9 g10 g11 g12 g13) hX wc_X5_29 (c_X5_of l G m s sp hi sn tx g3 g5 g7 g8 g9 g10 g11 g12 g13 a.toNat (5 + b.toNat) (by omega) (by omega)) (by decide) (by decide) rfl rfl (Nat.le_of_ble_eq_true rfl) dX5_doCrow_52 [] ([]) (by simp only [List.append_assoc, List.nil_append, List.append_nil]) 0 rfl rfl (by simp only [List.append_assoc, List.nil_append, List.append_nil]) rfl rfl ?_
          refine V_iconst hX dX5_doCrow_55 ?_
          refine V_iadd hX dX5_doCrow_56 rfl ?_
          refine V.sk (st' := [.int (jI ((s (ix a.toNat (5 + b.toNat))) + 1)), .int (jI (((5 + b.toNat : Nat) : Int))), .int (jI a), .ref (m 0)]) (congrArg (fun z : Int => [Value.int (jI ((s (ix a.toNat (5 + b.toNat))) + 1)), Value.int (jI z), Value.int (jI a), Value.ref (m 0)]) (show 5 + b = ((5 + b.toNat : Nat) : Int) by omega)) ?_
          refine V.sk (st' := [.int (jI ((s (ix a.toNat (5 + b.toNat))) + 1)), .int (jI (((5 + b.toNat : Nat) : Int))), .int (jI ((a.toNat : Int))), .ref (m 0)]) (congrArg (fun z : Int => [Value.int (jI ((s (ix a.toNat (5 + b.toNat))) + 1)), Value.int (jI (((5 + b.toNat : Nat) : Int))), Value.int (jI z), Value.ref (m 0)]) (show a = (a.toNat : Int) by omega)) ?_
          refine V_dV (st := []) (w' := mB G m (up s (ix a.toNat (5 + b.toNat)) ((s (ix a.toNat (5 + b.toNat))) + 1)) sp hi sn tx g3 g5 g7 g8 g9 g10 g11 g12 g13) hX wc_X5_75 (c_X5_setOf l G m s sp hi sn tx g3 g5 g7 g8 g9 g10 g11 g12 g13 a.toNat (5 + b.toNat) ((s (ix a.toNat (5 + b.toNat))) + 1) (by omega) (by omega)) (by decide) (by decide) rfl rfl (Nat.le_of_ble_eq_true rfl) dX5_doCrow_57 [] ([]) (by simp only [List.append_assoc, List.nil_append, List.append_nil]) 0 rfl rfl (by simp only [List.append_assoc, List.nil_append, List.append_nil]) rfl rfl ?_
          have hI3 : Inv t (up s (ix a.toNat (5 + b.toNat)) (s (ix a.toNat (5 + b.toNat)) + 1)) := by have h := hI.tc a b; unfold tcS at h; rwa [if_pos (by omega)] at h
          have hcu := crN_up (s := s) (k := a.toNat) (w := b.toNat) (by omega)
          refine V_aload_n hX dX5_doCrow_60 0 rfl ?_
          refine V_iload_n hX dX5_doCrow_61 1 rfl ?_
          refine V.sk (st' := [.int (jI ((a.toNat : Int))), .ref (m 0)]) (congrArg (fun z : Int => [Value.int (jI z), Value.ref (m 0)]) (show a = (a.toNat : Int) by omega)) ?_
          refine V_cV (st := []) (v := .int (jI (crN (up s (ix a.toNat (5 + b.toNat)) ((s (ix a.toNat (5 + b.toNat))) + 1)) a.toNat))) (w' := mB G m (up s (ix a.toNat (5 + b.toNat)) ((s (ix a.toNat (5 + b.toNat))) + 1)) sp hi sn tx g3 g5 g7 g8 g9 g10 g11 g12 g13) hX wc_X5_79 (c_X5_crowsOn l G m (up s (ix a.toNat (5 + b.toNat)) ((s (ix a.toNat (5 + b.toNat))) + 1)) sp hi sn tx g3 g5 g7 g8 g9 g10 g11 g12 g13 t a.toNat hI3 (by omega)) (by decide) (by decide) rfl rfl (Nat.le_of_ble_eq_true rfl) dX5_doCrow_62 [] ([]) (by simp only [List.append_assoc, List.nil_append, List.append_nil]) 0 rfl rfl (by simp only [List.append_assoc, List.nil_append, List.append_nil]) rfl rfl ?_
          exact V_iret hX hR dX5_doCrow_65 ⟨(congrArg (fun z => some (Value.int (jI z))) (by unfold tcR; (repeat' split) <;> omega)), (mB_c (by unfold tcS; split <;> first | rfl | omega) rfl rfl rfl rfl rfl rfl rfl rfl rfl rfl rfl rfl rfl)⟩
        · refine V_bipush hX dX5_doCrow_39 (by decide) ?_
          exact V_iret hX hR dX5_doCrow_41 ⟨(congrArg (fun z => some (Value.int (jI z))) (by unfold tcR; (repeat' split) <;> omega)), (mB_c (by unfold tcS; split <;> first | rfl | omega) rfl rfl rfl rfl rfl rfl rfl rfl rfl rfl rfl rfl rfl)⟩
      · refine V_bipush hX dX5_doCrow_26 (by decide) ?_
        exact V_iret hX hR dX5_doCrow_28 ⟨(congrArg (fun z => some (Value.int (jI z))) (by unfold tcR; (repeat' split) <;> omega)), (mB_c (by unfold tcS; split <;> first | rfl | omega) rfl rfl rfl rfl rfl rfl rfl rfl rfl rfl rfl rfl rfl)⟩
    · refine V_iconst hX dX5_doCrow_15 ?_
      exact V_iret hX hR dX5_doCrow_16 ⟨(congrArg (fun z => some (Value.int (jI z))) (by unfold tcR; (repeat' split) <;> omega)), (mB_c (by unfold tcS; split <;> first | rfl | omega) rfl rfl rfl rfl rfl rfl rfl rfl rfl rfl rfl rfl rfl)⟩

set_option maxHeartbeats 4000000 in
set_option maxRecDepth 100000 in
theorem c_X5_doFill (l : Launch) (G : vC) (m : Nat → Nat) (s : Nat → Int) (sp : Nat → Int) (hi : Nat → Int) (sn : Nat → Int) (tx : Nat → Int) (g3 : Int) (g5 : Int) (g7 : Int) (g8 : Int) (g9 : Int) (g10 : Int) (g11 : Int) (g12 : Int) (g13 : Int) (t : Int) (a : Int) (w : Int) (hI : Inv t s) (ha : iR a) (hw : iR w) : Fn l G yX5_doFill cX5_doFill 5 (some .int) ({ frames := 2, cells := 0, slots := 0, locals := 43 } : Room) [.ref (m 0), .int (jI a), .int (jI w)] (mB G m s sp hi sn tx g3 g5 g7 g8 g9 g10 g11 g12 g13) (some (.int (jI (stR s a w)))) (mB G m (stS s a w) sp hi sn tx g3 g5 g7 g8 g9 g10 g11 g12 g13) := by
  refine Ct.of (by decide) (Nat.le_of_ble_eq_true rfl) (fun X hX hR => ?_)
  refine V.toLv (lv' := [(0, .ref (m 0)), (1, .int (jI a)), (2, .int (jI w))]) rfl ?_
  have hb := hI.base
  refine V_aload_n hX dX5_doFill_0 0 rfl ?_
  refine V_iload_n hX dX5_doFill_1 1 rfl ?_
  refine V_cV (st := []) (v := .int (jI (bI (0 ≤ a ∧ a < s 10)))) (w' := mB G m s sp hi sn tx g3 g5 g7 g8 g9 g10 g11 g12 g13) hX wc_X5_95 (c_X5_isScarecrow l G m s sp hi sn tx g3 g5 g7 g8 g9 g10 g11 g12 g13 t a hI (by omega)) (by decide) (by decide) rfl rfl (Nat.le_of_ble_eq_true rfl) dX5_doFill_2 [] ([]) (by simp only [List.append_assoc, List.nil_append, List.append_nil]) 0 rfl rfl (by simp only [List.append_assoc, List.nil_append, List.append_nil]) rfl rfl ?_
  refine V_ifnz (tgt := 10) hX dX5_doFill_5 (by decide) (fun c_1 => ?_) (fun c_1 => ?_)
  · refine V_iload_n hX dX5_doFill_10 2 rfl ?_
    refine V_iconst hX dX5_doFill_11 ?_
    refine V_bipush hX dX5_doFill_12 (by decide) ?_
    refine V_cS (st := []) (v := .int (jI (bI (1 ≤ w ∧ w ≤ 64)))) (w' := mB G m s sp hi sn tx g3 g5 g7 g8 g9 g10 g11 g12 g13) hX wc_X5_25 (c_X5_within l G w 1 64 (by omega) (by omega) (by omega)) (by decide) (by decide) rfl rfl (Nat.le_of_ble_eq_true rfl) dX5_doFill_14 [] (mB G m s sp hi sn tx g3 g5 g7 g8 g9 g10 g11 g12 g13) (by simp only [List.append_assoc, List.nil_append, List.append_nil]) (by simp only [List.append_assoc, List.nil_append, List.append_nil]) rfl rfl ?_
    refine V_ifnz (tgt := 23) hX dX5_doFill_17 (by decide) (fun c_2 => ?_) (fun c_2 => ?_)
    · have hs := hI.sc a.toNat (by omega)
      have hfn : 0 ≤ flN s a.toNat w ∧ flN s a.toNat w ≤ 64 ∧ flN s a.toNat w ≤ s 5 := by unfold flN flM; (repeat' split) <;> omega
      refine V_bipush hX dX5_doFill_23 (by decide) ?_
      refine V_aload_n hX dX5_doFill_25 0 rfl ?_
      refine V_iload_n hX dX5_doFill_26 1 rfl ?_
      refine V_iconst hX dX5_doFill_27 ?_
      refine V.sk (st' := [.int (jI ((4 : Int))), .int (jI a), .ref (m 0), .int (jI 64)]) rfl ?_
      refine V.sk (st' := [.int (jI ((4 : Int))), .int (jI ((a.toNat : Int))), .ref (m 0), .int (jI 64)]) (congrArg (fun z : Int => [Value.int (jI ((4 : Int))), Value.int (jI z), Value.ref (m 0), Value.int (jI 64)]) (show a = (a.toNat : Int) by omega)) ?_
      refine V_cV (st := [.int (jI 64)]) (v := .int (jI (s (ix a.toNat 4)))) (w' := mB G m s sp hi sn tx g3 g5 g7 g8 g9 g10 g11 g12 g13) hX wc_X5_29 (c_X5_of l G m s sp hi sn tx g3 g5 g7 g8 g9 g10 g11 g12 g13 a.toNat 4 (by omega) (by omega)) (by decide) (by decide) rfl rfl (Nat.le_of_ble_eq_true rfl) dX5_doFill_28 [] ([]) (by simp only [List.append_assoc, List.nil_append, List.append_nil]) 0 rfl rfl (by simp only [List.append_assoc, List.nil_append, List.append_nil]) rfl rfl ?_
      refine V_isub hX dX5_doFill_31 rfl ?_
      refine V_istore_n (i := 3) (lv' := [(3, .int (jI (64 - (s (ix a.toNat 4))))), (0, .ref (m 0)), (1, .int (jI a)), (2, .int (jI w))]) hX dX5_doFill_32 rfl (by decide) rfl ?_
      refine V_iload_n hX dX5_doFill_33 3 rfl ?_
      refine V_iload_n hX dX5_doFill_34 0 rfl ?_
      refine V_icmp_ge (tgt := 42) hX dX5_doFill_35 (by decide) (by omega) (by omega) (fun c_3 => ?_) (fun c_3 => ?_)
      · refine V_iload_n hX dX5_doFill_42 0 rfl ?_
        refine V_istore (i := 4) (lv' := [(4, .int (jI (64 - (s (ix a.toNat 4))))), (3, .int (jI (64 - (s (ix a.toNat 4))))), (0, .ref (m 0)), (1, .int (jI a)), (2, .int (jI w))]) hX dX5_doFill_43 (by decide) rfl ?_
        refine V_iload hX dX5_doFill_45 0 rfl ?_
        refine V_aload_n hX dX5_doFill_47 2 rfl ?_
        refine V_get (v := .ref (m 1)) hX cbX5 0 0 (by decide) wf_X5_7 rfl rfl rfl rfl dX5_doFill_48 ?_
        refine V_iconst hX dX5_doFill_51 ?_
        refine V_iald (i0 := 5) (r := (jI (s 5))) hX 1 rfl (by decide) (by decide) (by decide) rfl rfl dX5_doFill_52 ?_
        refine V_icmp_ge (tgt := 61) hX dX5_doFill_53 (by decide) (by omega) (by omega) (fun c_4 => ?_) (fun c_4 => ?_)
        · refine V_aload_n hX dX5_doFill_61 2 rfl ?_
          refine V_get (v := .ref (m 1)) hX cbX5 0 0 (by decide) wf_X5_7 rfl rfl rfl rfl dX5_doFill_62 ?_
          refine V_iconst hX dX5_doFill_65 ?_
          refine V_iald (i0 := 5) (r := (jI (s 5))) hX 1 rfl (by decide) (by decide) (by decide) rfl rfl dX5_doFill_66 ?_
          refine V_istore (i := 4) (lv' := [(4, .int (jI (s 5))), (3, .int (jI (64 - (s (ix a.toNat 4))))), (0, .ref (m 0)), (1, .int (jI a)), (2, .int (jI w))]) hX dX5_doFill_67 (by decide) rfl ?_
          refine V.toLv (lv' := [(4, .int (jI (flN s a.toNat w))), (3, .int (jI (64 - (s (ix a.toNat 4))))), (0, .ref (m 0)), (1, .int (jI a)), (2, .int (jI w))]) (congrArg (fun z : Int => ([(4, Value.int (jI z)), (3, Value.int (jI (64 - (s (ix a.toNat 4))))), (0, Value.ref (m 0)), (1, Value.int (jI a)), (2, Value.int (jI w))] : List (Nat × Value))) (show s 5 = flN s a.toNat w by unfold flN flM; (repeat' split) <;> omega)) ?_
          refine V_aload_n hX dX5_doFill_69 2 rfl ?_
          refine V_iload_n hX dX5_doFill_70 3 rfl ?_
          refine V_iconst hX dX5_doFill_71 ?_
          refine V_aload_n hX dX5_doFill_72 2 rfl ?_
          refine V_iload_n hX dX5_doFill_73 3 rfl ?_
          refine V_iconst hX dX5_doFill_74 ?_
          refine V.sk (st' := [.int (jI ((4 : Int))), .int (jI a), .ref (m 0), .int (jI 4), .int (jI a), .ref (m 0)]) rfl ?_
          refine V.sk (st' := [.int (jI ((4 : Int))), .int (jI ((a.toNat : Int))), .ref (m 0), .int (jI 4), .int (jI a), .ref (m 0)]) (congrArg (fun z : Int => [Value.int (jI ((4 : Int))), Value.int (jI z), Value.ref (m 0), Value.int (jI 4), Value.int (jI a), Value.ref (m 0)]) (show a = (a.toNat : Int) by omega)) ?_
          refine V_cV (st := [.int (jI 4), .int (jI a), .ref (m 0)]) (v := .int (jI (s (ix a.toNat 4)))) (w' := mB G m s sp hi sn tx g3 g5 g7 g8 g9 g10 g11 g12 g13) hX wc_X5_29 (c_X5_of l G m s sp hi sn tx g3 g5 g7 g8 g9 g10 g11 g12 g13 a.toNat 4 (by omega) (by omega)) (by decide) (by decide) rfl rfl (Nat.le_of_ble_eq_true rfl) dX5_doFill_75 [] ([]) (by simp only [List.append_assoc, List.nil_append, List.append_nil]) 0 rfl rfl (by simp only [List.append_assoc, List.nil_append, List.append_nil]) rfl rfl ?_
          refine V_iload hX dX5_doFill_78 0 rfl ?_
          refine V_iadd hX dX5_doFill_80 rfl ?_
          refine V.sk (st' := [.int (jI ((s (ix a.toNat 4)) + (flN s a.toNat w))), .int (jI ((4 : Int))), .int (jI a), .ref (m 0)]) rfl ?_
          refine V.sk (st' := [.int (jI ((s (ix a.toNat 4)) + (flN s a.toNat w))), .int (jI ((4 : Int))), .int (jI ((a.toNat : Int))), .ref (m 0)]) (congrArg (fun z : Int => [Value.int (jI ((s (ix a.toNat 4)) + (flN s a.toNat w))), Value.int (jI ((4 : Int))), Value.int (jI z), Value.ref (m 0)]) (show a = (a.toNat : Int) by omega)) ?_
          refine V_dV (st := []) (w' := mB G m (up s (ix a.toNat 4) ((s (ix a.toNat 4)) + (flN s a.toNat w))) sp hi sn tx g3 g5 g7 g8 g9 g10 g11 g12 g13) hX wc_X5_75 (c_X5_setOf l G m s sp hi sn tx g3 g5 g7 g8 g9 g10 g11 g12 g13 a.toNat 4 ((s (ix a.toNat 4)) + (flN s a.toNat w)) (by omega) (by omega)) (by decide) (by decide) rfl rfl (Nat.le_of_ble_eq_true rfl) dX5_doFill_81 [] ([]) (by simp only [List.append_assoc, List.nil_append, List.append_nil]) 0 rfl rfl (by simp only [List.append_assoc, List.nil_append, List.append_nil]) rfl rfl ?_
          refine V_aload_n hX dX5_doFill_84 2 rfl ?_
          refine V_get (v := .ref (m 1)) hX cbX5 0 0 (by decide) wf_X5_7 rfl rfl rfl rfl dX5_doFill_85 ?_
          refine V_iconst hX dX5_doFill_88 ?_
          refine V_dup2 hX dX5_doFill_89 rfl rfl ?_
          refine V_iald (i0 := 5) (r := (jI (s 5))) hX 1 rfl (by decide) (by decide) (by decide) rfl (by show jI ((up s (ix a.toNat 4) ((s (ix a.toNat 4)) + (flN s a.toNat w))) 5) = jI (s 5); rw [up_ne (by unfold ix; omega)]) dX5_doFill_90 ?_
          refine V_iload hX dX5_doFill_91 0 rfl ?_
          refine V_isub hX dX5_doFill_93 rfl ?_
          refine V_iast (i0 := 5) (w' := mB G m (up (up s (ix a.toNat 4) ((s (ix a.toNat 4)) + (flN s a.toNat w))) 5 ((s 5) - (flN s a.toNat w))) sp hi sn tx g3 g5 g7 g8 g9 g10 g11 g12 g13) hX 1 rfl (by decide) (by decide) (by decide) rfl dX5_doFill_94 (mB_w1 G _ _ _ _ _ _ _ _ _ _ _ _ _ _ _ _ _) ?_
          refine V_iload hX dX5_doFill_95 0 rfl ?_
          refine V_if_ne (tgt := 105) hX dX5_doFill_97 (by decide) (by omega) (fun c_5 => ?_) (fun c_5 => ?_)
          · refine V_iload hX dX5_doFill_105 0 rfl ?_
            exact V_iret hX hR dX5_doFill_107 ⟨(congrArg (fun z => some (Value.int (jI z))) (by unfold stR; (repeat' split) <;> omega)), (mB_c (by unfold stS; split <;> first | rfl | omega) rfl rfl rfl rfl rfl rfl rfl rfl rfl rfl rfl rfl rfl)⟩
          · refine V_bipush hX dX5_doFill_100 (by decide) ?_
            refine V_goto (tgt := 107) hX dX5_doFill_102 (by decide) ?_
            exact V_iret hX hR dX5_doFill_107 ⟨(congrArg (fun z => some (Value.int (jI z))) (by unfold stR; (repeat' split) <;> omega)), (mB_c (by unfold stS; split <;> first | rfl | omega) rfl rfl rfl rfl rfl rfl rfl rfl rfl rfl rfl rfl rfl)⟩
        · refine V_iload hX dX5_doFill_56 0 rfl ?_
          refine V_goto (tgt := 67) hX dX5_doFill_58 (by decide) ?_
          refine V_istore (i := 4) (lv' := [(4, .int (jI (64 - (s (ix a.toNat 4))))), (3, .int (jI (64 - (s (ix a.toNat 4))))), (0, .ref (m 0)), (1, .int (jI a)), (2, .int (jI w))]) hX dX5_doFill_67 (by decide) rfl ?_
          refine V.toLv (lv' := [(4, .int (jI (flN s a.toNat w))), (3, .int (jI (64 - (s (ix a.toNat 4))))), (0, .ref (m 0)), (1, .int (jI a)), (2, .int (jI w))]) (congrArg (fun z : Int => ([(4, Value.int (jI z)), (3, Value.int (jI (64 - (s (ix a.toNat 4))))), (0, Value.ref (m 0)), (1, Value.int (jI a)), (2, Value.int (jI w))] : List (Nat × Value))) (show 64 - (s (ix a.toNat 4)) = flN s a.toNat w by unfold flN flM; (repeat' split) <;> omega)) ?_
          refine V_aload_n hX dX5_doFill_69 2 rfl ?_
          refine V_iload_n hX dX5_doFill_70 3 rfl ?_
          refine V_iconst hX dX5_doFill_71 ?_
          refine V_aload_n hX dX5_doFill_72 2 rfl ?_
          refine V_iload_n hX dX5_doFill_73 3 rfl ?_
          refine V_iconst hX dX5_doFill_74 ?_
          refine V.sk (st' := [.int (jI ((4 : Int))), .int (jI a), .ref (m 0), .int (jI 4), .int (jI a), .ref (m 0)]) rfl ?_
          refine V.sk (st' := [.int (jI ((4 : Int))), .int (jI ((a.toNat : Int))), .ref (m 0), .int (jI 4), .int (jI a), .ref (m 0)]) (congrArg (fun z : Int => [Value.int (jI ((4 : Int))), Value.int (jI z), Value.ref (m 0), Value.int (jI 4), Value.int (jI a), Value.ref (m 0)]) (show a = (a.toNat : Int) by omega)) ?_
          refine V_cV (st := [.int (jI 4), .int (jI a), .ref (m 0)]) (v := .int (jI (s (ix a.toNat 4)))) (w' := mB G m s sp hi sn tx g3 g5 g7 g8 g9 g10 g11 g12 g13) hX wc_X5_29 (c_X5_of l G m s sp hi sn tx g3 g5 g7 g8 g9 g10 g11 g12 g13 a.toNat 4 (by omega) (by omega)) (by decide) (by decide) rfl rfl (Nat.le_of_ble_eq_true rfl) dX5_doFill_75 [] ([]) (by simp only [List.append_assoc, List.nil_append, List.append_nil]) 0 rfl rfl (by simp only [List.append_assoc, List.nil_append, List.append_nil]) rfl rfl ?_
          refine V_iload hX dX5_doFill_78 0 rfl ?_
          refine V_iadd hX dX5_doFill_80 rfl ?_
          refine V.sk (st' := [.int (jI ((s (ix a.toNat 4)) + (flN s a.toNat w))), .int (jI ((4 : Int))), .int (jI a), .ref (m 0)]) rfl ?_
          refine V.sk (st' := [.int (jI ((s (ix a.toNat 4)) + (flN s a.toNat w))), .int (jI ((4 : Int))), .int (jI ((a.toNat : Int))), .ref (m 0)]) (congrArg (fun z : Int => [Value.int (jI ((s (ix a.toNat 4)) + (flN s a.toNat w))), Value.int (jI ((4 : Int))), Value.int (jI z), Value.ref (m 0)]) (show a = (a.toNat : Int) by omega)) ?_
          refine V_dV (st := []) (w' := mB G m (up s (ix a.toNat 4) ((s (ix a.toNat 4)) + (flN s a.toNat w))) sp hi sn tx g3 g5 g7 g8 g9 g10 g11 g12 g13) hX wc_X5_75 (c_X5_setOf l G m s sp hi sn tx g3 g5 g7 g8 g9 g10 g11 g12 g13 a.toNat 4 ((s (ix a.toNat 4)) + (flN s a.toNat w)) (by omega) (by omega)) (by decide) (by decide) rfl rfl (Nat.le_of_ble_eq_true rfl) dX5_doFill_81 [] ([]) (by simp only [List.append_assoc, List.nil_append, List.append_nil]) 0 rfl rfl (by simp only [List.append_assoc, List.nil_append, List.append_nil]) rfl rfl ?_
          refine V_aload_n hX dX5_doFill_84 2 rfl ?_
          refine V_get (v := .ref (m 1)) hX cbX5 0 0 (by decide) wf_X5_7 rfl rfl rfl rfl dX5_doFill_85 ?_
          refine V_iconst hX dX5_doFill_88 ?_
          refine V_dup2 hX dX5_doFill_89 rfl rfl ?_
          refine V_iald (i0 := 5) (r := (jI (s 5))) hX 1 rfl (by decide) (by decide) (by decide) rfl (by show jI ((up s (ix a.toNat 4) ((s (ix a.toNat 4)) + (flN s a.toNat w))) 5) = jI (s 5); rw [up_ne (by unfold ix; omega)]) dX5_doFill_90 ?_
          refine V_iload hX dX5_doFill_91 0 rfl ?_
          refine V_isub hX dX5_doFill_93 rfl ?_
          refine V_iast (i0 := 5) (w' := mB G m (up (up s (ix a.toNat 4) ((s (ix a.toNat 4)) + (flN s a.toNat w))) 5 ((s 5) - (flN s a.toNat w))) sp hi sn tx g3 g5 g7 g8 g9 g10 g11 g12 g13) hX 1 rfl (by decide) (by decide) (by decide) rfl dX5_doFill_94 (mB_w1 G _ _ _ _ _ _ _ _ _ _ _ _ _ _ _ _ _) ?_
          refine V_iload hX dX5_doFill_95 0 rfl ?_
          refine V_if_ne (tgt := 105) hX dX5_doFill_97 (by decide) (by omega) (fun c_6 => ?_) (fun c_6 => ?_)
          · refine V_iload hX dX5_doFill_105 0 rfl ?_
            exact V_iret hX hR dX5_doFill_107 ⟨(congrArg (fun z => some (Value.int (jI z))) (by unfold stR; (repeat' split) <;> omega)), (mB_c (by unfold stS; split <;> first | rfl | omega) rfl rfl rfl rfl rfl rfl rfl rfl rfl rfl rfl rfl rfl)⟩
          · refine V_bipush hX dX5_doFill_100 (by decide) ?_
            refine V_goto (tgt := 107) hX dX5_doFill_102 (by decide) ?_
            exact V_iret hX hR dX5_doFill_107 ⟨(congrArg (fun z => some (Value.int (jI z))) (by unfold stR; (repeat' split) <;> omega)), (mB_c (by unfold stS; split <;> first | rfl | omega) rfl rfl rfl rfl rfl rfl rfl rfl rfl rfl rfl rfl rfl)⟩
      · refine V_iload_n hX dX5_doFill_38 3 rfl ?_
        refine V_goto (tgt := 43) hX dX5_doFill_39 (by decide) ?_
        refine V_istore (i := 4) (lv' := [(4, .int (jI w)), (3, .int (jI (64 - (s (ix a.toNat 4))))), (0, .ref (m 0)), (1, .int (jI a)), (2, .int (jI w))]) hX dX5_doFill_43 (by decide) rfl ?_
        refine V_iload hX dX5_doFill_45 0 rfl ?_
        refine V_aload_n hX dX5_doFill_47 2 rfl ?_
        refine V_get (v := .ref (m 1)) hX cbX5 0 0 (by decide) wf_X5_7 rfl rfl rfl rfl dX5_doFill_48 ?_
        refine V_iconst hX dX5_doFill_51 ?_
        refine V_iald (i0 := 5) (r := (jI (s 5))) hX 1 rfl (by decide) (by decide) (by decide) rfl rfl dX5_doFill_52 ?_
        refine V_icmp_ge (tgt := 61) hX dX5_doFill_53 (by decide) (by omega) (by omega) (fun c_7 => ?_) (fun c_7 => ?_)
        · refine V_aload_n hX dX5_doFill_61 2 rfl ?_
          refine V_get (v := .ref (m 1)) hX cbX5 0 0 (by decide) wf_X5_7 rfl rfl rfl rfl dX5_doFill_62 ?_
          refine V_iconst hX dX5_doFill_65 ?_
          refine V_iald (i0 := 5) (r := (jI (s 5))) hX 1 rfl (by decide) (by decide) (by decide) rfl rfl dX5_doFill_66 ?_
          refine V_istore (i := 4) (lv' := [(4, .int (jI (s 5))), (3, .int (jI (64 - (s (ix a.toNat 4))))), (0, .ref (m 0)), (1, .int (jI a)), (2, .int (jI w))]) hX dX5_doFill_67 (by decide) rfl ?_
          refine V.toLv (lv' := [(4, .int (jI (flN s a.toNat w))), (3, .int (jI (64 - (s (ix a.toNat 4))))), (0, .ref (m 0)), (1, .int (jI a)), (2, .int (jI w))]) (congrArg (fun z : Int => ([(4, Value.int (jI z)), (3, Value.int (jI (64 - (s (ix a.toNat 4))))), (0, Value.ref (m 0)), (1, Value.int (jI a)), (2, Value.int (jI w))] : List (Nat × Value))) (show s 5 = flN s a.toNat w by unfold flN flM; (repeat' split) <;> omega)) ?_
          refine V_aload_n hX dX5_doFill_69 2 rfl ?_
          refine V_iload_n hX dX5_doFill_70 3 rfl ?_
          refine V_iconst hX dX5_doFill_71 ?_
          refine V_aload_n hX dX5_doFill_72 2 rfl ?_
          refine V_iload_n hX dX5_doFill_73 3 rfl ?_
          refine V_iconst hX dX5_doFill_74 ?_
          refine V.sk (st' := [.int (jI ((4 : Int))), .int (jI a), .ref (m 0), .int (jI 4), .int (jI a), .ref (m 0)]) rfl ?_
          refine V.sk (st' := [.int (jI ((4 : Int))), .int (jI ((a.toNat : Int))), .ref (m 0), .int (jI 4), .int (jI a), .ref (m 0)]) (congrArg (fun z : Int => [Value.int (jI ((4 : Int))), Value.int (jI z), Value.ref (m 0), Value.int (jI 4), Value.int (jI a), Value.ref (m 0)]) (show a = (a.toNat : Int) by omega)) ?_
          refine V_cV (st := [.int (jI 4), .int (jI a), .ref (m 0)]) (v := .int (jI (s (ix a.toNat 4)))) (w' := mB G m s sp hi sn tx g3 g5 g7 g8 g9 g10 g11 g12 g13) hX wc_X5_29 (c_X5_of l G m s sp hi sn tx g3 g5 g7 g8 g9 g10 g11 g12 g13 a.toNat 4 (by omega) (by omega)) (by decide) (by decide) rfl rfl (Nat.le_of_ble_eq_true rfl) dX5_doFill_75 [] ([]) (by simp only [List.append_assoc, List.nil_append, List.append_nil]) 0 rfl rfl (by simp only [List.append_assoc, List.nil_append, List.append_nil]) rfl rfl ?_
          refine V_iload hX dX5_doFill_78 0 rfl ?_
          refine V_iadd hX dX5_doFill_80 rfl ?_
          refine V.sk (st' := [.int (jI ((s (ix a.toNat 4)) + (flN s a.toNat w))), .int (jI ((4 : Int))), .int (jI a), .ref (m 0)]) rfl ?_
          refine V.sk (st' := [.int (jI ((s (ix a.toNat 4)) + (flN s a.toNat w))), .int (jI ((4 : Int))), .int (jI ((a.toNat : Int))), .ref (m 0)]) (congrArg (fun z : Int => [Value.int (jI ((s (ix a.toNat 4)) + (flN s a.toNat w))), Value.int (jI ((4 : Int))), Value.int (jI z), Value.ref (m 0)]) (show a = (a.toNat : Int) by omega)) ?_
          refine V_dV (st := []) (w' := mB G m (up s (ix a.toNat 4) ((s (ix a.toNat 4)) + (flN s a.toNat w))) sp hi sn tx g3 g5 g7 g8 g9 g10 g11 g12 g13) hX wc_X5_75 (c_X5_setOf l G m s sp hi sn tx g3 g5 g7 g8 g9 g10 g11 g12 g13 a.toNat 4 ((s (ix a.toNat 4)) + (flN s a.toNat w)) (by omega) (by omega)) (by decide) (by decide) rfl rfl (Nat.le_of_ble_eq_true rfl) dX5_doFill_81 [] ([]) (by simp only [List.append_assoc, List.nil_append, List.append_nil]) 0 rfl rfl (by simp only [List.append_assoc, List.nil_append, List.append_nil]) rfl rfl ?_
          refine V_aload_n hX dX5_doFill_84 2 rfl ?_
          refine V_get (v := .ref (m 1)) hX cbX5 0 0 (by decide) wf_X5_7 rfl rfl rfl rfl dX5_doFill_85 ?_
          refine V_iconst hX dX5_doFill_88 ?_
          refine V_dup2 hX dX5_doFill_89 rfl rfl ?_
          refine V_iald (i0 := 5) (r := (jI (s 5))) hX 1 rfl (by decide) (by decide) (by decide) rfl (by show jI ((up s (ix a.toNat 4) ((s (ix a.toNat 4)) + (flN s a.toNat w))) 5) = jI (s 5); rw [up_ne (by unfold ix; omega)]) dX5_doFill_90 ?_
          refine V_iload hX dX5_doFill_91 0 rfl ?_
          refine V_isub hX dX5_doFill_93 rfl ?_
          refine V_iast (i0 := 5) (w' := mB G m (up (up s (ix a.toNat 4) ((s (ix a.toNat 4)) + (flN s a.toNat w))) 5 ((s 5) - (flN s a.toNat w))) sp hi sn tx g3 g5 g7 g8 g9 g10 g11 g12 g13) hX 1 rfl (by decide) (by decide) (by decide) rfl dX5_doFill_94 (mB_w1 G _ _ _ _ _ _ _ _ _ _ _ _ _ _ _ _ _) ?_
          refine V_iload hX dX5_doFill_95 0 rfl ?_
          refine V_if_ne (tgt := 105) hX dX5_doFill_97 (by decide) (by omega) (fun c_8 => ?_) (fun c_8 => ?_)
          · refine V_iload hX dX5_doFill_105 0 rfl ?_
            exact V_iret hX hR dX5_doFill_107 ⟨(congrArg (fun z => some (Value.int (jI z))) (by unfold stR; (repeat' split) <;> omega)), (mB_c (by unfold stS; split <;> first | rfl | omega) rfl rfl rfl rfl rfl rfl rfl rfl rfl rfl rfl rfl rfl)⟩
          · refine V_bipush hX dX5_doFill_100 (by decide) ?_
            refine V_goto (tgt := 107) hX dX5_doFill_102 (by decide) ?_
            exact V_iret hX hR dX5_doFill_107 ⟨(congrArg (fun z => some (Value.int (jI z))) (by unfold stR; (repeat' split) <;> omega)), (mB_c (by unfold stS; split <;> first | rfl | omega) rfl rfl rfl rfl rfl rfl rfl rfl rfl rfl rfl rfl rfl)⟩
        · refine V_iload hX dX5_doFill_56 0 rfl ?_
          refine V_goto (tgt := 67) hX dX5_doFill_58 (by decide) ?_
          refine V_istore (i := 4) (lv' := [(4, .int (jI w)), (3, .int (jI (64 - (s (ix a.toNat 4))))), (0, .ref (m 0)), (1, .int (jI a)), (2, .int (jI w))]) hX dX5_doFill_67 (by decide) rfl ?_
          refine V.toLv (lv' := [(4, .int (jI (flN s a.toNat w))), (3, .int (jI (64 - (s (ix a.toNat 4))))), (0, .ref (m 0)), (1, .int (jI a)), (2, .int (jI w))]) (congrArg (fun z : Int => ([(4, Value.int (jI z)), (3, Value.int (jI (64 - (s (ix a.toNat 4))))), (0, Value.ref (m 0)), (1, Value.int (jI a)), (2, Value.int (jI w))] : List (Nat × Value))) (show w = flN s a.toNat w by unfold flN flM; (repeat' split) <;> omega)) ?_
          refine V_aload_n hX dX5_doFill_69 2 rfl ?_
          refine V_iload_n hX dX5_doFill_70 3 rfl ?_
          refine V_iconst hX dX5_doFill_71 ?_
          refine V_aload_n hX dX5_doFill_72 2 rfl ?_
          refine V_iload_n hX dX5_doFill_73 3 rfl ?_
          refine V_iconst hX dX5_doFill_74 ?_
          refine V.sk (st' := [.int (jI ((4 : Int))), .int (jI a), .ref (m 0), .int (jI 4), .int (jI a), .ref (m 0)]) rfl ?_
          refine V.sk (st' := [.int (jI ((4 : Int))), .int (jI ((a.toNat : Int))), .ref (m 0), .int (jI 4), .int (jI a), .ref (m 0)]) (congrArg (fun z : Int => [Value.int (jI ((4 : Int))), Value.int (jI z), Value.ref (m 0), Value.int (jI 4), Value.int (jI a), Value.ref (m 0)]) (show a = (a.toNat : Int) by omega)) ?_
          refine V_cV (st := [.int (jI 4), .int (jI a), .ref (m 0)]) (v := .int (jI (s (ix a.toNat 4)))) (w' := mB G m s sp hi sn tx g3 g5 g7 g8 g9 g10 g11 g12 g13) hX wc_X5_29 (c_X5_of l G m s sp hi sn tx g3 g5 g7 g8 g9 g10 g11 g12 g13 a.toNat 4 (by omega) (by omega)) (by decide) (by decide) rfl rfl (Nat.le_of_ble_eq_true rfl) dX5_doFill_75 [] ([]) (by simp only [List.append_assoc, List.nil_append, List.append_nil]) 0 rfl rfl (by simp only [List.append_assoc, List.nil_append, List.append_nil]) rfl rfl ?_
          refine V_iload hX dX5_doFill_78 0 rfl ?_
          refine V_iadd hX dX5_doFill_80 rfl ?_
          refine V.sk (st' := [.int (jI ((s (ix a.toNat 4)) + (flN s a.toNat w))), .int (jI ((4 : Int))), .int (jI a), .ref (m 0)]) rfl ?_
          refine V.sk (st' := [.int (jI ((s (ix a.toNat 4)) + (flN s a.toNat w))), .int (jI ((4 : Int))), .int (jI ((a.toNat : Int))), .ref (m 0)]) (congrArg (fun z : Int => [Value.int (jI ((s (ix a.toNat 4)) + (flN s a.toNat w))), Value.int (jI ((4 : Int))), Value.int (jI z), Value.ref (m 0)]) (show a = (a.toNat : Int) by omega)) ?_
          refine V_dV (st := []) (w' := mB G m (up s (ix a.toNat 4) ((s (ix a.toNat 4)) + (flN s a.toNat w))) sp hi sn tx g3 g5 g7 g8 g9 g10 g11 g12 g13) hX wc_X5_75 (c_X5_setOf l G m s sp hi sn tx g3 g5 g7 g8 g9 g10 g11 g12 g13 a.toNat 4 ((s (ix a.toNat 4)) + (flN s a.toNat w)) (by omega) (by omega)) (by decide) (by decide) rfl rfl (Nat.le_of_ble_eq_true rfl) dX5_doFill_81 [] ([]) (by simp only [List.append_assoc, List.nil_append, List.append_nil]) 0 rfl rfl (by simp only [List.append_assoc, List.nil_append, List.append_nil]) rfl rfl ?_
          refine V_aload_n hX dX5_doFill_84 2 rfl ?_
          refine V_get (v := .ref (m 1)) hX cbX5 0 0 (by decide) wf_X5_7 rfl rfl rfl rfl dX5_doFill_85 ?_
          refine V_iconst hX dX5_doFill_88 ?_
          refine V_dup2 hX dX5_doFill_89 rfl rfl ?_
          refine V_iald (i0 := 5) (r := (jI (s 5))) hX 1 rfl (by decide) (by decide) (by decide) rfl (by show jI ((up s (ix a.toNat 4) ((s (ix a.toNat 4)) + (flN s a.toNat w))) 5) = jI (s 5); rw [up_ne (by unfold ix; omega)]) dX5_doFill_90 ?_
          refine V_iload hX dX5_doFill_91 0 rfl ?_
          refine V_isub hX dX5_doFill_93 rfl ?_
          refine V_iast (i0 := 5) (w' := mB G m (up (up s (ix a.toNat 4) ((s (ix a.toNat 4)) + (flN s a.toNat w))) 5 ((s 5) - (flN s a.toNat w))) sp hi sn tx g3 g5 g7 g8 g9 g10 g11 g12 g13) hX 1 rfl (by decide) (by decide) (by decide) rfl dX5_doFill_94 (mB_w1 G _ _ _ _ _ _ _ _ _ _ _ _ _ _ _ _ _) ?_
          refine V_iload hX dX5_doFill_95 0 rfl ?_
          refine V_if_ne (tgt := 105) hX dX5_doFill_97 (by decide) (by omega) (fun c_9 => ?_) (fun c_9 => ?_)
          · refine V_iload hX dX5_doFill_105 0 rfl ?_
            exact V_iret hX hR dX5_doFill_107 ⟨(congrArg (fun z => some (Value.int (jI z))) (by unfold stR; (repeat' split) <;> omega)), (mB_c (by unfold stS; split <;> first | rfl | omega) rfl rfl rfl rfl rfl rfl rfl rfl rfl rfl rfl rfl rfl)⟩
          · refine V_bipush hX dX5_doFill_100 (by decide) ?_
            refine V_goto (tgt := 107) hX dX5_doFill_102 (by decide) ?_
            exact V_iret hX hR dX5_doFill_107 ⟨(congrArg (fun z => some (Value.int (jI z))) (by unfold stR; (repeat' split) <;> omega)), (mB_c (by unfold stS; split <;> first | rfl | omega) rfl rfl rfl rfl rfl rfl rfl rfl rfl rfl rfl rfl rfl)⟩
    · refine V_bipush hX dX5_doFill_20 (by decide) ?_
      exact V_iret hX hR dX5_doFill_22 ⟨(congrArg (fun z => some (Value.int (jI z))) (by unfold stR; (repeat' split) <;> omega)), (mB_c (by unfold stS; split <;> first | rfl | omega) rfl rfl rfl rfl rfl rfl rfl rfl rfl rfl rfl rfl rfl)⟩
  · refine V_iconst hX dX5_doFill_8 ?_
    exact V_iret hX hR dX5_doFill_9 ⟨(congrArg (fun z => some (Value.int (jI z))) (by unfold stR; (repeat' split) <;> omega)), (mB_c (by unfold stS; split <;> first | rfl | omega) rfl rfl rfl rfl rfl rfl rfl rfl rfl rfl rfl rfl rfl)⟩

set_option maxHeartbeats 4000000 in
set_option maxRecDepth 100000 in
theorem c_X5_doWind (l : Launch) (G : vC) (m : Nat → Nat) (s : Nat → Int) (sp : Nat → Int) (hi : Nat → Int) (sn : Nat → Int) (tx : Nat → Int) (g3 : Int) (g5 : Int) (g7 : Int) (g8 : Int) (g9 : Int) (g10 : Int) (g11 : Int) (g12 : Int) (g13 : Int) (t : Int) (w : Int) (a : Int) (hI : Inv t s) (hw : iR w) (ha : iR a) : Fn l G yX5_doWind cX5_doWind 4 (some .int) ({ frames := 2, cells := 0, slots := 0, locals := 42 } : Room) [.ref (m 0), .int (jI w), .int (jI a)] (mB G m s sp hi sn tx g3 g5 g7 g8 g9 g10 g11 g12 g13) (some (.int (jI (blR s w a)))) (mB G m (blS s w a) sp hi sn tx g3 g5 g7 g8 g9 g10 g11 g12 g13) := by
  refine Ct.of (by decide) (Nat.le_of_ble_eq_true rfl) (fun X hX hR => ?_)
  refine V.toLv (lv' := [(0, .ref (m 0)), (1, .int (jI w)), (2, .int (jI a))]) rfl ?_
  have hb := hI.base
  refine V_iload_n hX dX5_doWind_0 1 rfl ?_
  refine V_cS (st := []) (v := .int (jI (bI (0 ≤ w ∧ w ≤ 3)))) (w' := mB G m s sp hi sn tx g3 g5 g7 g8 g9 g10 g11 g12 g13) hX wc_X5_98 (c_X5_isWay l G w (by omega)) (by decide) (by decide) rfl rfl (Nat.le_of_ble_eq_true rfl) dX5_doWind_1 [] (mB G m s sp hi sn tx g3 g5 g7 g8 g9 g10 g11 g12 g13) (by simp only [List.append_assoc, List.nil_append, List.append_nil]) (by simp only [List.append_assoc, List.nil_append, List.append_nil]) rfl rfl ?_
  refine V_ifnz (tgt := 9) hX dX5_doWind_4 (by decide) (fun c_1 => ?_) (fun c_1 => ?_)
  · refine V_iload_n hX dX5_doWind_9 2 rfl ?_
    refine V_iconst hX dX5_doWind_10 ?_
    refine V_bipush hX dX5_doWind_11 (by decide) ?_
    refine V_cS (st := []) (v := .int (jI (bI (0 ≤ a ∧ a ≤ 9)))) (w' := mB G m s sp hi sn tx g3 g5 g7 g8 g9 g10 g11 g12 g13) hX wc_X5_25 (c_X5_within l G a 0 9 (by omega) (by omega) (by omega)) (by decide) (by decide) rfl rfl (Nat.le_of_ble_eq_true rfl) dX5_doWind_13 [] (mB G m s sp hi sn tx g3 g5 g7 g8 g9 g10 g11 g12 g13) (by simp only [List.append_assoc, List.nil_append, List.append_nil]) (by simp only [List.append_assoc, List.nil_append, List.append_nil]) rfl rfl ?_
    refine V_ifnz (tgt := 22) hX dX5_doWind_16 (by decide) (fun c_2 => ?_) (fun c_2 => ?_)
    · refine V_bipush hX dX5_doWind_22 (by decide) ?_
      refine V_aload_n hX dX5_doWind_24 0 rfl ?_
      refine V_get (v := .ref (m 1)) hX cbX5 0 0 (by decide) wf_X5_7 rfl rfl rfl rfl dX5_doWind_25 ?_
      refine V_iconst hX dX5_doWind_28 ?_
      refine V_iald (i0 := 3) (r := (jI (s 3))) hX 1 rfl (by decide) (by decide) (by decide) rfl rfl dX5_doWind_29 ?_
      refine V_imul hX dX5_doWind_30 rfl ?_
      refine V_aload_n hX dX5_doWind_31 0 rfl ?_
      refine V_get (v := .ref (m 1)) hX cbX5 0 0 (by decide) wf_X5_7 rfl rfl rfl rfl dX5_doWind_32 ?_
      refine V_iconst hX dX5_doWind_35 ?_
      refine V_iald (i0 := 4) (r := (jI (s 4))) hX 1 rfl (by decide) (by decide) (by decide) rfl rfl dX5_doWind_36 ?_
      refine V_iadd hX dX5_doWind_37 rfl ?_
      refine V_istore_n (i := 3) (lv' := [(3, .int (jI ((10 * (s 3)) + (s 4)))), (0, .ref (m 0)), (1, .int (jI w)), (2, .int (jI a))]) hX dX5_doWind_38 rfl (by decide) rfl ?_
      refine V_aload_n hX dX5_doWind_39 1 rfl ?_
      refine V_get (v := .ref (m 1)) hX cbX5 0 0 (by decide) wf_X5_7 rfl rfl rfl rfl dX5_doWind_40 ?_
      refine V_iconst hX dX5_doWind_43 ?_
      refine V_iload_n hX dX5_doWind_44 2 rfl ?_
      refine V_iast (i0 := 3) (w' := mB G m (up s 3 w) sp hi sn tx g3 g5 g7 g8 g9 g10 g11 g12 g13) hX 1 rfl (by decide) (by decide) (by decide) rfl dX5_doWind_45 (mB_w1 G _ _ _ _ _ _ _ _ _ _ _ _ _ _ _ _ _) ?_
      refine V_aload_n hX dX5_doWind_46 1 rfl ?_
      refine V_get (v := .ref (m 1)) hX cbX5 0 0 (by decide) wf_X5_7 rfl rfl rfl rfl dX5_doWind_47 ?_
      refine V_iconst hX dX5_doWind_50 ?_
      refine V_iload_n hX dX5_doWind_51 3 rfl ?_
      refine V_iast (i0 := 4) (w' := mB G m (up (up s 3 w) 4 a) sp hi sn tx g3 g5 g7 g8 g9 g10 g11 g12 g13) hX 1 rfl (by decide) (by decide) (by decide) rfl dX5_doWind_52 (mB_w1 G _ _ _ _ _ _ _ _ _ _ _ _ _ _ _ _ _) ?_
      refine V_iload_n hX dX5_doWind_53 0 rfl ?_
      refine V_bipush hX dX5_doWind_54 (by decide) ?_
      refine V_iload_n hX dX5_doWind_56 2 rfl ?_
      refine V_imul hX dX5_doWind_57 rfl ?_
      refine V_iload_n hX dX5_doWind_58 3 rfl ?_
      refine V_iadd hX dX5_doWind_59 rfl ?_
      refine V_icmp_ne (tgt := 68) hX dX5_doWind_60 (by decide) (by omega) (by omega) (fun c_3 => ?_) (fun c_3 => ?_)
      · refine V_iload_n hX dX5_doWind_68 0 rfl ?_
        exact V_iret hX hR dX5_doWind_69 ⟨(congrArg (fun z => some (Value.int (jI z))) (by unfold blR; (repeat' split) <;> omega)), (mB_c (by unfold blS; split <;> first | rfl | omega) rfl rfl rfl rfl rfl rfl rfl rfl rfl rfl rfl rfl rfl)⟩
      · refine V_bipush hX dX5_doWind_63 (by decide) ?_
        refine V_goto (tgt := 69) hX dX5_doWind_65 (by decide) ?_
        exact V_iret hX hR dX5_doWind_69 ⟨(congrArg (fun z => some (Value.int (jI z))) (by unfold blR; (repeat' split) <;> omega)), (mB_c (by unfold blS; split <;> first | rfl | omega) rfl rfl rfl rfl rfl rfl rfl rfl rfl rfl rfl rfl rfl)⟩
    · refine V_bipush hX dX5_doWind_19 (by decide) ?_
      exact V_iret hX hR dX5_doWind_21 ⟨(congrArg (fun z => some (Value.int (jI z))) (by unfold blR; (repeat' split) <;> omega)), (mB_c (by unfold blS; split <;> first | rfl | omega) rfl rfl rfl rfl rfl rfl rfl rfl rfl rfl rfl rfl rfl)⟩
  · refine V_iconst hX dX5_doWind_7 ?_
    exact V_iret hX hR dX5_doWind_8 ⟨(congrArg (fun z => some (Value.int (jI z))) (by unfold blR; (repeat' split) <;> omega)), (mB_c (by unfold blS; split <;> first | rfl | omega) rfl rfl rfl rfl rfl rfl rfl rfl rfl rfl rfl rfl rfl)⟩

set_option maxHeartbeats 4000000 in
set_option maxRecDepth 100000 in
theorem c_X5_doPass (l : Launch) (G : vC) (m : Nat → Nat) (s : Nat → Int) (sp : Nat → Int) (hi : Nat → Int) (sn : Nat → Int) (tx : Nat → Int) (g3 : Int) (g5 : Int) (g7 : Int) (g8 : Int) (g9 : Int) (g10 : Int) (g11 : Int) (g12 : Int) (g13 : Int) (t : Int) (a : Int) (hI : Inv t s) (ha : iR a) (ht : t = 99999) : Fn l G yX5_doPass cX5_doPass 2 (some .int) ({ frames := 5, cells := 0, slots := 0, locals := 114 } : Room) [.ref (m 0), .int (jI a)] (mB G m s sp hi sn tx g3 g5 g7 g8 g9 g10 g11 g12 g13) (some (.int (jI (goR s a)))) (mB G m (goS s a) sp hi sn tx g3 g5 g7 g8 g9 g10 g11 g12 g13) := by
  refine Ct.of (by decide) (Nat.le_of_ble_eq_true rfl) (fun X hX hR => ?_)
  refine V.toLv (lv' := [(0, .ref (m 0)), (1, .int (jI a))]) rfl ?_
  have hb := hI.base
  refine V_iload_n hX dX5_doPass_0 1 rfl ?_
  refine V_iconst hX dX5_doPass_1 ?_
  refine V_bipush hX dX5_doPass_2 (by decide) ?_
  refine V_cS (st := []) (v := .int (jI (bI (1 ≤ a ∧ a ≤ 99)))) (w' := mB G m s sp hi sn tx g3 g5 g7 g8 g9 g10 g11 g12 g13) hX wc_X5_25 (c_X5_within l G a 1 99 (by omega) (by omega) (by omega)) (by decide) (by decide) rfl rfl (Nat.le_of_ble_eq_true rfl) dX5_doPass_4 [] (mB G m s sp hi sn tx g3 g5 g7 g8 g9 g10 g11 g12 g13) (by simp only [List.append_assoc, List.nil_append, List.append_nil]) (by simp only [List.append_assoc, List.nil_append, List.append_nil]) rfl rfl ?_
  refine V_ifnz (tgt := 13) hX dX5_doPass_7 (by decide) (fun c_1 => ?_) (fun c_1 => ?_)
  · refine V_aload_n hX dX5_doPass_13 0 rfl ?_
    refine V_get (v := .ref (m 1)) hX cbX5 0 0 (by decide) wf_X5_7 rfl rfl rfl rfl dX5_doPass_14 ?_
    refine V_iconst hX dX5_doPass_17 ?_
    refine V_iald (i0 := 2) (r := (jI (s 2))) hX 1 rfl (by decide) (by decide) (by decide) rfl rfl dX5_doPass_18 ?_
    refine V_iload_n hX dX5_doPass_19 1 rfl ?_
    refine V_iadd hX dX5_doPass_20 rfl ?_
    refine V_ldc (a := 99999) (v := 99999) hX dX5_doPass_21 (List.mem_of_getElem? (i := 884) (by decide +kernel)) rfl rfl ?_
    refine V_icmp_le (tgt := 31) hX dX5_doPass_23 (by decide) (by omega) (by decide) (fun c_2 => ?_) (fun c_2 => ?_)
    · refine V_aload_n hX dX5_doPass_31 0 rfl ?_
      refine V_iload_n hX dX5_doPass_32 1 rfl ?_
      refine V.sk (st' := [.int (jI ((a.toNat : Int))), .ref (m 0)]) (congrArg (fun z : Int => [Value.int (jI z), Value.ref (m 0)]) (show a = (a.toNat : Int) by omega)) ?_
      refine V_cV (st := []) (v := .int (jI (tsR s a.toNat))) (w' := mB G m (tsS s a.toNat) sp hi sn tx g3 g5 g7 g8 g9 g10 g11 g12 g13) hX wc_X5_105 (c_X5_passMany l G m s sp hi sn tx g3 g5 g7 g8 g9 g10 g11 g12 g13 t a.toNat hI (by omega) (by omega)) (by decide) (by decide) rfl rfl (Nat.le_of_ble_eq_true rfl) dX5_doPass_33 [] ([]) (by simp only [List.append_assoc, List.nil_append, List.append_nil]) 0 rfl rfl (by simp only [List.append_assoc, List.nil_append, List.append_nil]) rfl rfl ?_
      exact V_iret hX hR dX5_doPass_36 ⟨(congrArg (fun z => some (Value.int (jI z))) (by unfold goR; (repeat' split) <;> first | rfl | omega)), (mB_c (by unfold goS; split <;> first | rfl | omega) rfl rfl rfl rfl rfl rfl rfl rfl rfl rfl rfl rfl rfl)⟩
    · refine V_bipush hX dX5_doPass_26 (by decide) ?_
      refine V_goto (tgt := 36) hX dX5_doPass_28 (by decide) ?_
      exact V_iret hX hR dX5_doPass_36 ⟨(congrArg (fun z => some (Value.int (jI z))) (by unfold goR; (repeat' split) <;> first | rfl | omega)), (mB_c (by unfold goS; split <;> first | rfl | omega) rfl rfl rfl rfl rfl rfl rfl rfl rfl rfl rfl rfl rfl)⟩
  · refine V_bipush hX dX5_doPass_10 (by decide) ?_
    exact V_iret hX hR dX5_doPass_12 ⟨(congrArg (fun z => some (Value.int (jI z))) (by unfold goR; (repeat' split) <;> first | rfl | omega)), (mB_c (by unfold goS; split <;> first | rfl | omega) rfl rfl rfl rfl rfl rfl rfl rfl rfl rfl rfl rfl rfl)⟩

set_option maxHeartbeats 4000000 in
set_option maxRecDepth 100000 in
theorem c_X5_setUp (l : Launch) (G : vC) (m : Nat → Nat) (s : Nat → Int) (sp : Nat → Int) (hi : Nat → Int) (sn : Nat → Int) (tx : Nat → Int) (g3 : Int) (g5 : Int) (g7 : Int) (g8 : Int) (g9 : Int) (g10 : Int) (g11 : Int) (g12 : Int) (g13 : Int) (t : Int) (f : Int) (g : Int) (p : Int) (w : Int) (hI : Inv t s) (hf : iR f) (hg : iR g) (hp : iR p) (hw : iR w) (hg3 : 0 ≤ g3 ∧ g3 ≤ 4) : Ct l G yX5_setUp cX5_setUp 6 (some .int) ({ frames := 3, cells := 0, slots := 0, locals := 63 } : Room) [.ref (m 0), .int (jI f), .int (jI g), .int (jI p), .int (jI w)] (mB G m s sp hi sn tx g3 g5 g7 g8 g9 g10 g11 g12 g13) (fun v u => v = some (Value.int (jI (raR s f g p w))) ∧ ∃ sp2 : Nat → Int, u = mB G m (raS s f g p w) sp2 (mcH hi g3 s (raR s f g p w)) sn tx (mcZ g3 (raR s f g p w)) g5 g7 g8 g9 g10 g11 g12 g13) := by
  refine Ct.of (by decide) (Nat.le_of_ble_eq_true rfl) (fun X hX hR => ?_)
  refine V.toLv (lv' := [(0, .ref (m 0)), (1, .int (jI f)), (2, .int (jI g)), (3, .int (jI p)), (4, .int (jI w))]) rfl ?_
  have hb := hI.base
  refine V_iload_n hX dX5_setUp_0 1 rfl ?_
  refine V_cS (st := []) (v := .int (jI (bI (0 ≤ f ∧ f ≤ 5)))) (w' := mB G m s sp hi sn tx g3 g5 g7 g8 g9 g10 g11 g12 g13) hX wc_X5_108 (c_X5_isField l G f (by omega)) (by decide) (by decide) rfl rfl (Nat.le_of_ble_eq_true rfl) dX5_setUp_1 [] (mB G m s sp hi sn tx g3 g5 g7 g8 g9 g10 g11 g12 g13) (by simp only [List.append_assoc, List.nil_append, List.append_nil]) (by simp only [List.append_assoc, List.nil_append, List.append_nil]) rfl rfl ?_
  refine V_ifz (tgt := 15) hX dX5_setUp_4 (by decide) (fun c_1 => ?_) (fun c_1 => ?_)
  · refine V_iconst hX dX5_setUp_15 ?_
    have hr : raR s f g p w = -1 := by unfold raR; (repeat' split) <;> first | rfl | omega
    exact V_iret hX hR dX5_setUp_16 ⟨congrArg (fun z => some (Value.int (jI z))) hr.symm, _, mB_c (by unfold raS; split <;> first | exact raS_m | rfl | omega) rfl (by rw [hr]; exact (if_neg (by omega)).symm) rfl rfl (by rw [hr]; exact (if_neg (by omega)).symm) rfl rfl rfl rfl rfl rfl rfl rfl⟩
  · refine V_iload hX dX5_setUp_7 4 rfl ?_
    refine V_cS (st := []) (v := .int (jI (bI (0 ≤ w ∧ w ≤ 3)))) (w' := mB G m s sp hi sn tx g3 g5 g7 g8 g9 g10 g11 g12 g13) hX wc_X5_98 (c_X5_isWay l G w (by omega)) (by decide) (by decide) rfl rfl (Nat.le_of_ble_eq_true rfl) dX5_setUp_9 [] (mB G m s sp hi sn tx g3 g5 g7 g8 g9 g10 g11 g12 g13) (by simp only [List.append_assoc, List.nil_append, List.append_nil]) (by simp only [List.append_assoc, List.nil_append, List.append_nil]) rfl rfl ?_
    refine V_ifnz (tgt := 17) hX dX5_setUp_12 (by decide) (fun c_2 => ?_) (fun c_2 => ?_)
    · refine V_iload_n hX dX5_setUp_17 2 rfl ?_
      refine V_iconst hX dX5_setUp_18 ?_
      refine V_iconst hX dX5_setUp_19 ?_
      refine V_cS (st := []) (v := .int (jI (bI (1 ≤ g ∧ g ≤ 5)))) (w' := mB G m s sp hi sn tx g3 g5 g7 g8 g9 g10 g11 g12 g13) hX wc_X5_25 (c_X5_within l G g 1 5 (by omega) (by omega) (by omega)) (by decide) (by decide) rfl rfl (Nat.le_of_ble_eq_true rfl) dX5_setUp_20 [] (mB G m s sp hi sn tx g3 g5 g7 g8 g9 g10 g11 g12 g13) (by simp only [List.append_assoc, List.nil_append, List.append_nil]) (by simp only [List.append_assoc, List.nil_append, List.append_nil]) rfl rfl ?_
      refine V_ifz (tgt := 36) hX dX5_setUp_23 (by decide) (fun c_3 => ?_) (fun c_3 => ?_)
      · refine V_bipush hX dX5_setUp_36 (by decide) ?_
        have hr : raR s f g p w = -2 := by unfold raR; (repeat' split) <;> first | rfl | omega
        exact V_iret hX hR dX5_setUp_38 ⟨congrArg (fun z => some (Value.int (jI z))) hr.symm, _, mB_c (by unfold raS; split <;> first | exact raS_m | rfl | omega) rfl (by rw [hr]; exact (if_neg (by omega)).symm) rfl rfl (by rw [hr]; exact (if_neg (by omega)).symm) rfl rfl rfl rfl rfl rfl rfl rfl⟩
      · refine V_iload_n hX dX5_setUp_26 3 rfl ?_
        refine V_iconst hX dX5_setUp_27 ?_
        refine V_bipush hX dX5_setUp_28 (by decide) ?_
        refine V_cS (st := []) (v := .int (jI (bI (1 ≤ p ∧ p ≤ 9)))) (w' := mB G m s sp hi sn tx g3 g5 g7 g8 g9 g10 g11 g12 g13) hX wc_X5_25 (c_X5_within l G p 1 9 (by omega) (by omega) (by omega)) (by decide) (by decide) rfl rfl (Nat.le_of_ble_eq_true rfl) dX5_setUp_30 [] (mB G m s sp hi sn tx g3 g5 g7 g8 g9 g10 g11 g12 g13) (by simp only [List.append_assoc, List.nil_append, List.append_nil]) (by simp only [List.append_assoc, List.nil_append, List.append_nil]) rfl rfl ?_
        refine V_ifnz (tgt := 39) hX dX5_setUp_33 (by decide) (fun c_4 => ?_) (fun c_4 => ?_)
        · refine V_aload_n hX dX5_setUp_39 0 rfl ?_
          refine V_get (v := .ref (m 1)) hX cbX5 0 0 (by decide) wf_X5_7 rfl rfl rfl rfl dX5_setUp_40 ?_
          refine V_bipush hX dX5_setUp_43 (by decide) ?_
          refine V_iald (i0 := 10) (r := (jI (s 10))) hX 1 rfl (by decide) (by decide) (by decide) rfl rfl dX5_setUp_45 ?_
          refine V_bipush hX dX5_setUp_46 (by decide) ?_
          refine V_icmp_ne (tgt := 54) hX dX5_setUp_48 (by decide) (by omega) (by decide) (fun c_5 => ?_) (fun c_5 => ?_)
          · refine V_aload_n hX dX5_setUp_54 0 rfl ?_
            refine V_dV (st := []) (w' := mB G m s s hi sn tx g3 g5 g7 g8 g9 g10 g11 g12 g13) hX wc_X5_48 (c_X5_putAside l G m s sp hi sn tx g3 g5 g7 g8 g9 g10 g11 g12 g13 ) (by decide) (by decide) rfl rfl (Nat.le_of_ble_eq_true rfl) dX5_setUp_55 [] ([]) (by simp only [List.append_assoc, List.nil_append, List.append_nil]) 0 rfl rfl (by simp only [List.append_assoc, List.nil_append, List.append_nil]) rfl rfl ?_
            refine V_aload_n hX dX5_setUp_58 0 rfl ?_
            refine V_get (v := .ref (m 1)) hX cbX5 0 0 (by decide) wf_X5_7 rfl rfl rfl rfl dX5_setUp_59 ?_
            refine V_bipush hX dX5_setUp_62 (by decide) ?_
            refine V_iald (i0 := 10) (r := (jI (s 10))) hX 1 rfl (by decide) (by decide) (by decide) rfl rfl dX5_setUp_64 ?_
            refine V_istore (i := 5) (lv' := [(5, .int (jI (s 10))), (0, .ref (m 0)), (1, .int (jI f)), (2, .int (jI g)), (3, .int (jI p)), (4, .int (jI w))]) hX dX5_setUp_65 (by decide) rfl ?_
            refine V_aload_n hX dX5_setUp_67 1 rfl ?_
            refine V_get (v := .ref (m 1)) hX cbX5 0 0 (by decide) wf_X5_7 rfl rfl rfl rfl dX5_setUp_68 ?_
            refine V_bipush hX dX5_setUp_71 (by decide) ?_
            refine V_dup2 hX dX5_setUp_73 rfl rfl ?_
            refine V_iald (i0 := 10) (r := (jI (s 10))) hX 1 rfl (by decide) (by decide) (by decide) rfl rfl dX5_setUp_74 ?_
            refine V_iconst hX dX5_setUp_75 ?_
            refine V_iadd hX dX5_setUp_76 rfl ?_
            refine V_iast (i0 := 10) (w' := mB G m (up s 10 ((s 10) + 1)) s hi sn tx g3 g5 g7 g8 g9 g10 g11 g12 g13) hX 1 rfl (by decide) (by decide) (by decide) rfl dX5_setUp_77 (mB_w1 G _ _ _ _ _ _ _ _ _ _ _ _ _ _ _ _ _) ?_
            refine V_aload_n hX dX5_setUp_78 1 rfl ?_
            refine V_iload hX dX5_setUp_79 0 rfl ?_
            refine V_iconst hX dX5_setUp_81 ?_
            refine V_iload_n hX dX5_setUp_82 2 rfl ?_
            refine V.sk (st' := [.int (jI f), .int (jI ((0 : Int))), .int (jI (s 10)), .ref (m 0)]) rfl ?_
            refine V.sk (st' := [.int (jI f), .int (jI ((0 : Int))), .int (jI (((s 10).toNat : Int))), .ref (m 0)]) (congrArg (fun z : Int => [Value.int (jI f), Value.int (jI ((0 : Int))), Value.int (jI z), Value.ref (m 0)]) (show s 10 = ((s 10).toNat : Int) by omega)) ?_
            refine V_dV (st := []) (w' := mB G m (up (up s 10 ((s 10) + 1)) (ix ((s 10).toNat) 0) f) s hi sn tx g3 g5 g7 g8 g9 g10 g11 g12 g13) hX wc_X5_75 (c_X5_setOf l G m (up s 10 ((s 10) + 1)) s hi sn tx g3 g5 g7 g8 g9 g10 g11 g12 g13 ((s 10).toNat) 0 f (by omega) (by omega)) (by decide) (by decide) rfl rfl (Nat.le_of_ble_eq_true rfl) dX5_setUp_83 [] ([]) (by simp only [List.append_assoc, List.nil_append, List.append_nil]) 0 rfl rfl (by simp only [List.append_assoc, List.nil_append, List.append_nil]) rfl rfl ?_
            refine V_aload_n hX dX5_setUp_86 1 rfl ?_
            refine V_iload hX dX5_setUp_87 0 rfl ?_
            refine V_iconst hX dX5_setUp_89 ?_
            refine V_iload_n hX dX5_setUp_90 3 rfl ?_
            refine V.sk (st' := [.int (jI g), .int (jI ((1 : Int))), .int (jI (s 10)), .ref (m 0)]) rfl ?_
            refine V.sk (st' := [.int (jI g), .int (jI ((1 : Int))), .int (jI (((s 10).toNat : Int))), .ref (m 0)]) (congrArg (fun z : Int => [Value.int (jI g), Value.int (jI ((1 : Int))), Value.int (jI z), Value.ref (m 0)]) (show s 10 = ((s 10).toNat : Int) by omega)) ?_
            refine V_dV (st := []) (w' := mB G m (up (up (up s 10 ((s 10) + 1)) (ix ((s 10).toNat) 0) f) (ix ((s 10).toNat) 1) g) s hi sn tx g3 g5 g7 g8 g9 g10 g11 g12 g13) hX wc_X5_75 (c_X5_setOf l G m (up (up s 10 ((s 10) + 1)) (ix ((s 10).toNat) 0) f) s hi sn tx g3 g5 g7 g8 g9 g10 g11 g12 g13 ((s 10).toNat) 1 g (by omega) (by omega)) (by decide) (by decide) rfl rfl (Nat.le_of_ble_eq_true rfl) dX5_setUp_91 [] ([]) (by simp only [List.append_assoc, List.nil_append, List.append_nil]) 0 rfl rfl (by simp only [List.append_assoc, List.nil_append, List.append_nil]) rfl rfl ?_
            refine V_aload_n hX dX5_setUp_94 1 rfl ?_
            refine V_iload hX dX5_setUp_95 0 rfl ?_
            refine V_iconst hX dX5_setUp_97 ?_
            refine V_iload_n hX dX5_setUp_98 4 rfl ?_
            refine V.sk (st' := [.int (jI p), .int (jI ((2 : Int))), .int (jI (s 10)), .ref (m 0)]) rfl ?_
            refine V.sk (st' := [.int (jI p), .int (jI ((2 : Int))), .int (jI (((s 10).toNat : Int))), .ref (m 0)]) (congrArg (fun z : Int => [Value.int (jI p), Value.int (jI ((2 : Int))), Value.int (jI z), Value.ref (m 0)]) (show s 10 = ((s 10).toNat : Int) by omega)) ?_
            refine V_dV (st := []) (w' := mB G m (up (up (up (up s 10 ((s 10) + 1)) (ix ((s 10).toNat) 0) f) (ix ((s 10).toNat) 1) g) (ix ((s 10).toNat) 2) p) s hi sn tx g3 g5 g7 g8 g9 g10 g11 g12 g13) hX wc_X5_75 (c_X5_setOf l G m (up (up (up s 10 ((s 10) + 1)) (ix ((s 10).toNat) 0) f) (ix ((s 10).toNat) 1) g) s hi sn tx g3 g5 g7 g8 g9 g10 g11 g12 g13 ((s 10).toNat) 2 p (by omega) (by omega)) (by decide) (by decide) rfl rfl (Nat.le_of_ble_eq_true rfl) dX5_setUp_99 [] ([]) (by simp only [List.append_assoc, List.nil_append, List.append_nil]) 0 rfl rfl (by simp only [List.append_assoc, List.nil_append, List.append_nil]) rfl rfl ?_
            refine V_aload_n hX dX5_setUp_102 1 rfl ?_
            refine V_iload hX dX5_setUp_103 0 rfl ?_
            refine V_iconst hX dX5_setUp_105 ?_
            refine V_iload hX dX5_setUp_106 5 rfl ?_
            refine V.sk (st' := [.int (jI w), .int (jI ((3 : Int))), .int (jI (s 10)), .ref (m 0)]) rfl ?_
            refine V.sk (st' := [.int (jI w), .int (jI ((3 : Int))), .int (jI (((s 10).toNat : Int))), .ref (m 0)]) (congrArg (fun z : Int => [Value.int (jI w), Value.int (jI ((3 : Int))), Value.int (jI z), Value.ref (m 0)]) (show s 10 = ((s 10).toNat : Int) by omega)) ?_
            refine V_dV (st := []) (w' := mB G m (up (up (up (up (up s 10 ((s 10) + 1)) (ix ((s 10).toNat) 0) f) (ix ((s 10).toNat) 1) g) (ix ((s 10).toNat) 2) p) (ix ((s 10).toNat) 3) w) s hi sn tx g3 g5 g7 g8 g9 g10 g11 g12 g13) hX wc_X5_75 (c_X5_setOf l G m (up (up (up (up s 10 ((s 10) + 1)) (ix ((s 10).toNat) 0) f) (ix ((s 10).toNat) 1) g) (ix ((s 10).toNat) 2) p) s hi sn tx g3 g5 g7 g8 g9 g10 g11 g12 g13 ((s 10).toNat) 3 w (by omega) (by omega)) (by decide) (by decide) rfl rfl (Nat.le_of_ble_eq_true rfl) dX5_setUp_108 [] ([]) (by simp only [List.append_assoc, List.nil_append, List.append_nil]) 0 rfl rfl (by simp only [List.append_assoc, List.nil_append, List.append_nil]) rfl rfl ?_
            refine V_aload_n hX dX5_setUp_111 1 rfl ?_
            refine V_iload hX dX5_setUp_112 0 rfl ?_
            refine V_iconst hX dX5_setUp_114 ?_
            refine V_bipush hX dX5_setUp_115 (by decide) ?_
            refine V.sk (st' := [.int (jI 64), .int (jI ((4 : Int))), .int (jI (s 10)), .ref (m 0)]) rfl ?_
            refine V.sk (st' := [.int (jI 64), .int (jI ((4 : Int))), .int (jI (((s 10).toNat : Int))), .ref (m 0)]) (congrArg (fun z : Int => [Value.int (jI 64), Value.int (jI ((4 : Int))), Value.int (jI z), Value.ref (m 0)]) (show s 10 = ((s 10).toNat : Int) by omega)) ?_
            refine V_dV (st := []) (w' := mB G m (up (up (up (up (up (up s 10 ((s 10) + 1)) (ix ((s 10).toNat) 0) f) (ix ((s 10).toNat) 1) g) (ix ((s 10).toNat) 2) p) (ix ((s 10).toNat) 3) w) (ix ((s 10).toNat) 4) 64) s hi sn tx g3 g5 g7 g8 g9 g10 g11 g12 g13) hX wc_X5_75 (c_X5_setOf l G m (up (up (up (up (up s 10 ((s 10) + 1)) (ix ((s 10).toNat) 0) f) (ix ((s 10).toNat) 1) g) (ix ((s 10).toNat) 2) p) (ix ((s 10).toNat) 3) w) s hi sn tx g3 g5 g7 g8 g9 g10 g11 g12 g13 ((s 10).toNat) 4 64 (by omega) (by omega)) (by decide) (by decide) rfl rfl (Nat.le_of_ble_eq_true rfl) dX5_setUp_117 [] ([]) (by simp only [List.append_assoc, List.nil_append, List.append_nil]) 0 rfl rfl (by simp only [List.append_assoc, List.nil_append, List.append_nil]) rfl rfl ?_
            refine V_aload_n hX dX5_setUp_120 1 rfl ?_
            refine V_iload hX dX5_setUp_121 0 rfl ?_
            refine V_cV (st := []) (v := .int (jI ((s 10)))) (w' := mB G m (up (up (up (up (up (up s 10 ((s 10) + 1)) (ix ((s 10).toNat) 0) f) (ix ((s 10).toNat) 1) g) (ix ((s 10).toNat) 2) p) (ix ((s 10).toNat) 3) w) (ix ((s 10).toNat) 4) 64) s (mcH hi g3 s (s 10)) sn tx (mcZ g3 (s 10)) g5 g7 g8 g9 g10 g11 g12 g13) hX wc_X5_111 (c_X5_recorded l G m (up (up (up (up (up (up s 10 ((s 10) + 1)) (ix ((s 10).toNat) 0) f) (ix ((s 10).toNat) 1) g) (ix ((s 10).toNat) 2) p) (ix ((s 10).toNat) 3) w) (ix ((s 10).toNat) 4) 64) s hi sn tx g3 g5 g7 g8 g9 g10 g11 g12 g13 (s 10) (by omega) (by omega)) (by decide) (by decide) rfl rfl (Nat.le_of_ble_eq_true rfl) dX5_setUp_123 [] ([]) (by simp only [List.append_assoc, List.nil_append, List.append_nil]) 0 rfl rfl (by simp only [List.append_assoc, List.nil_append, List.append_nil]) rfl rfl ?_
            have hr : raR s f g p w = (s 10) := by unfold raR; (repeat' split) <;> first | rfl | omega
            exact V_iret hX hR dX5_setUp_126 ⟨congrArg (fun z => some (Value.int (jI z))) hr.symm, _, mB_c (by unfold raS; split <;> first | exact raS_m | rfl | omega) rfl (by rw [hr]) rfl rfl (by rw [hr]) rfl rfl rfl rfl rfl rfl rfl rfl⟩
          · refine V_bipush hX dX5_setUp_51 (by decide) ?_
            have hr : raR s f g p w = -3 := by unfold raR; (repeat' split) <;> first | rfl | omega
            exact V_iret hX hR dX5_setUp_53 ⟨congrArg (fun z => some (Value.int (jI z))) hr.symm, _, mB_c (by unfold raS; split <;> first | exact raS_m | rfl | omega) rfl (by rw [hr]; exact (if_neg (by omega)).symm) rfl rfl (by rw [hr]; exact (if_neg (by omega)).symm) rfl rfl rfl rfl rfl rfl rfl rfl⟩
        · refine V_bipush hX dX5_setUp_36 (by decide) ?_
          have hr : raR s f g p w = -2 := by unfold raR; (repeat' split) <;> first | rfl | omega
          exact V_iret hX hR dX5_setUp_38 ⟨congrArg (fun z => some (Value.int (jI z))) hr.symm, _, mB_c (by unfold raS; split <;> first | exact raS_m | rfl | omega) rfl (by rw [hr]; exact (if_neg (by omega)).symm) rfl rfl (by rw [hr]; exact (if_neg (by omega)).symm) rfl rfl rfl rfl rfl rfl rfl rfl⟩
    · refine V_iconst hX dX5_setUp_15 ?_
      have hr : raR s f g p w = -1 := by unfold raR; (repeat' split) <;> first | rfl | omega
      exact V_iret hX hR dX5_setUp_16 ⟨congrArg (fun z => some (Value.int (jI z))) hr.symm, _, mB_c (by unfold raS; split <;> first | exact raS_m | rfl | omega) rfl (by rw [hr]; exact (if_neg (by omega)).symm) rfl rfl (by rw [hr]; exact (if_neg (by omega)).symm) rfl rfl rfl rfl rfl rfl rfl rfl⟩

set_option maxHeartbeats 4000000 in
set_option maxRecDepth 100000 in
theorem c_X5_carry (l : Launch) (G : vC) (m : Nat → Nat) (s : Nat → Int) (sp : Nat → Int) (hi : Nat → Int) (sn : Nat → Int) (tx : Nat → Int) (g3 : Int) (g5 : Int) (g7 : Int) (g8 : Int) (g9 : Int) (g10 : Int) (g11 : Int) (g12 : Int) (g13 : Int) (t : Int) (a : Int) (b : Int) (hI : Inv t s) (ha : iR a) (hb : iR b) (hg3 : 0 ≤ g3 ∧ g3 ≤ 4) : Ct l G yX5_carry cX5_carry 4 (some .int) ({ frames := 3, cells := 0, slots := 0, locals := 63 } : Room) [.ref (m 0), .int (jI a), .int (jI b)] (mB G m s sp hi sn tx g3 g5 g7 g8 g9 g10 g11 g12 g13) (fun v u => v = some (Value.int (jI (brR s a b))) ∧ ∃ sp2 : Nat → Int, u = mB G m (brS s a b) sp2 (mcH hi g3 s (brR s a b)) sn tx (mcZ g3 (brR s a b)) g5 g7 g8 g9 g10 g11 g12 g13) := by
  refine Ct.of (by decide) (Nat.le_of_ble_eq_true rfl) (fun X hX hR => ?_)
  refine V.toLv (lv' := [(0, .ref (m 0)), (1, .int (jI a)), (2, .int (jI b))]) rfl ?_
  have hb := hI.base
  refine V_aload_n hX dX5_carry_0 0 rfl ?_
  refine V_iload_n hX dX5_carry_1 1 rfl ?_
  refine V_cV (st := []) (v := .int (jI (bI (0 ≤ a ∧ a < s 10)))) (w' := mB G m s sp hi sn tx g3 g5 g7 g8 g9 g10 g11 g12 g13) hX wc_X5_95 (c_X5_isScarecrow l G m s sp hi sn tx g3 g5 g7 g8 g9 g10 g11 g12 g13 t a hI (by omega)) (by decide) (by decide) rfl rfl (Nat.le_of_ble_eq_true rfl) dX5_carry_2 [] ([]) (by simp only [List.append_assoc, List.nil_append, List.append_nil]) 0 rfl rfl (by simp only [List.append_assoc, List.nil_append, List.append_nil]) rfl rfl ?_
  refine V_ifz (tgt := 15) hX dX5_carry_5 (by decide) (fun c_1 => ?_) (fun c_1 => ?_)
  · refine V_iconst hX dX5_carry_15 ?_
    have hr : brR s a b = -1 := by unfold brR; (repeat' split) <;> first | rfl | omega
    exact V_iret hX hR dX5_carry_16 ⟨congrArg (fun z => some (Value.int (jI z))) hr.symm, _, mB_c (by unfold brS; (repeat' split) <;> first | rfl | omega | exact (up_same (by omega)).symm | exact up_same (by omega)) rfl (by rw [hr]; exact (if_neg (by omega)).symm) rfl rfl (by rw [hr]; exact (if_neg (by omega)).symm) rfl rfl rfl rfl rfl rfl rfl rfl⟩
  · refine V_iload_n hX dX5_carry_8 2 rfl ?_
    refine V_cS (st := []) (v := .int (jI (bI (0 ≤ b ∧ b ≤ 5)))) (w' := mB G m s sp hi sn tx g3 g5 g7 g8 g9 g10 g11 g12 g13) hX wc_X5_108 (c_X5_isField l G b (by omega)) (by decide) (by decide) rfl rfl (Nat.le_of_ble_eq_true rfl) dX5_carry_9 [] (mB G m s sp hi sn tx g3 g5 g7 g8 g9 g10 g11 g12 g13) (by simp only [List.append_assoc, List.nil_append, List.append_nil]) (by simp only [List.append_assoc, List.nil_append, List.append_nil]) rfl rfl ?_
    refine V_ifnz (tgt := 17) hX dX5_carry_12 (by decide) (fun c_2 => ?_) (fun c_2 => ?_)
    · have hs := hI.sc a.toNat (by omega)
      refine V_aload_n hX dX5_carry_17 0 rfl ?_
      refine V_dV (st := []) (w' := mB G m s s hi sn tx g3 g5 g7 g8 g9 g10 g11 g12 g13) hX wc_X5_48 (c_X5_putAside l G m s sp hi sn tx g3 g5 g7 g8 g9 g10 g11 g12 g13 ) (by decide) (by decide) rfl rfl (Nat.le_of_ble_eq_true rfl) dX5_carry_18 [] ([]) (by simp only [List.append_assoc, List.nil_append, List.append_nil]) 0 rfl rfl (by simp only [List.append_assoc, List.nil_append, List.append_nil]) rfl rfl ?_
      refine V_aload_n hX dX5_carry_21 0 rfl ?_
      refine V_iload_n hX dX5_carry_22 1 rfl ?_
      refine V_iconst hX dX5_carry_23 ?_
      refine V.sk (st' := [.int (jI ((0 : Int))), .int (jI a), .ref (m 0)]) rfl ?_
      refine V.sk (st' := [.int (jI ((0 : Int))), .int (jI ((a.toNat : Int))), .ref (m 0)]) (congrArg (fun z : Int => [Value.int (jI ((0 : Int))), Value.int (jI z), Value.ref (m 0)]) (show a = (a.toNat : Int) by omega)) ?_
      refine V_cV (st := []) (v := .int (jI (s (ix a.toNat 0)))) (w' := mB G m s s hi sn tx g3 g5 g7 g8 g9 g10 g11 g12 g13) hX wc_X5_29 (c_X5_of l G m s s hi sn tx g3 g5 g7 g8 g9 g10 g11 g12 g13 a.toNat 0 (by omega) (by omega)) (by decide) (by decide) rfl rfl (Nat.le_of_ble_eq_true rfl) dX5_carry_24 [] ([]) (by simp only [List.append_assoc, List.nil_append, List.append_nil]) 0 rfl rfl (by simp only [List.append_assoc, List.nil_append, List.append_nil]) rfl rfl ?_
      refine V_istore_n (i := 3) (lv' := [(3, .int (jI (s (ix a.toNat 0)))), (0, .ref (m 0)), (1, .int (jI a)), (2, .int (jI b))]) hX dX5_carry_27 rfl (by decide) rfl ?_
      refine V_aload_n hX dX5_carry_28 1 rfl ?_
      refine V_iload_n hX dX5_carry_29 2 rfl ?_
      refine V_iconst hX dX5_carry_30 ?_
      refine V_iload_n hX dX5_carry_31 3 rfl ?_
      refine V.sk (st' := [.int (jI b), .int (jI ((0 : Int))), .int (jI a), .ref (m 0)]) rfl ?_
      refine V.sk (st' := [.int (jI b), .int (jI ((0 : Int))), .int (jI ((a.toNat : Int))), .ref (m 0)]) (congrArg (fun z : Int => [Value.int (jI b), Value.int (jI ((0 : Int))), Value.int (jI z), Value.ref (m 0)]) (show a = (a.toNat : Int) by omega)) ?_
      refine V_dV (st := []) (w' := mB G m (up s (ix a.toNat 0) b) s hi sn tx g3 g5 g7 g8 g9 g10 g11 g12 g13) hX wc_X5_75 (c_X5_setOf l G m s s hi sn tx g3 g5 g7 g8 g9 g10 g11 g12 g13 a.toNat 0 b (by omega) (by omega)) (by decide) (by decide) rfl rfl (Nat.le_of_ble_eq_true rfl) dX5_carry_32 [] ([]) (by simp only [List.append_assoc, List.nil_append, List.append_nil]) 0 rfl rfl (by simp only [List.append_assoc, List.nil_append, List.append_nil]) rfl rfl ?_
      refine V_aload_n hX dX5_carry_35 1 rfl ?_
      refine V_iload_n hX dX5_carry_36 0 rfl ?_
      refine V_iload_n hX dX5_carry_37 3 rfl ?_
      refine V_icmp_ne (tgt := 46) hX dX5_carry_38 (by decide) (by omega) (by omega) (fun c_3 => ?_) (fun c_3 => ?_)
      · refine V_iload_n hX dX5_carry_46 0 rfl ?_
        refine V_cV (st := []) (v := .int (jI ((s (ix a.toNat 0))))) (w' := mB G m (up s (ix a.toNat 0) b) s (mcH hi g3 s (s (ix a.toNat 0))) sn tx (mcZ g3 (s (ix a.toNat 0))) g5 g7 g8 g9 g10 g11 g12 g13) hX wc_X5_111 (c_X5_recorded l G m (up s (ix a.toNat 0) b) s hi sn tx g3 g5 g7 g8 g9 g10 g11 g12 g13 (s (ix a.toNat 0)) (by omega) (by omega)) (by decide) (by decide) rfl rfl (Nat.le_of_ble_eq_true rfl) dX5_carry_47 [] ([]) (by simp only [List.append_assoc, List.nil_append, List.append_nil]) 0 rfl rfl (by simp only [List.append_assoc, List.nil_append, List.append_nil]) rfl rfl ?_
        have hr : brR s a b = (s (ix a.toNat 0)) := by unfold brR; (repeat' split) <;> first | rfl | omega
        exact V_iret hX hR dX5_carry_50 ⟨congrArg (fun z => some (Value.int (jI z))) hr.symm, _, mB_c (by unfold brS; (repeat' split) <;> first | rfl | omega | exact (up_same (by omega)).symm | exact up_same (by omega)) rfl (by rw [hr]) rfl rfl (by rw [hr]) rfl rfl rfl rfl rfl rfl rfl rfl⟩
      · refine V_bipush hX dX5_carry_41 (by decide) ?_
        refine V_goto (tgt := 47) hX dX5_carry_43 (by decide) ?_
        refine V_cV (st := []) (v := .int (jI ((-5)))) (w' := mB G m (up s (ix a.toNat 0) b) s (mcH hi g3 s (-5)) sn tx (mcZ g3 (-5)) g5 g7 g8 g9 g10 g11 g12 g13) hX wc_X5_111 (c_X5_recorded l G m (up s (ix a.toNat 0) b) s hi sn tx g3 g5 g7 g8 g9 g10 g11 g12 g13 (-5) (by omega) (by omega)) (by decide) (by decide) rfl rfl (Nat.le_of_ble_eq_true rfl) dX5_carry_47 [] ([]) (by simp only [List.append_assoc, List.nil_append, List.append_nil]) 0 rfl rfl (by simp only [List.append_assoc, List.nil_append, List.append_nil]) rfl rfl ?_
        have hr : brR s a b = (-5) := by unfold brR; (repeat' split) <;> first | rfl | omega
        exact V_iret hX hR dX5_carry_50 ⟨congrArg (fun z => some (Value.int (jI z))) hr.symm, _, mB_c (by unfold brS; (repeat' split) <;> first | rfl | omega | exact (up_same (by omega)).symm | exact up_same (by omega)) rfl (by rw [hr]) rfl rfl (by rw [hr]) rfl rfl rfl rfl rfl rfl rfl rfl⟩
    · refine V_iconst hX dX5_carry_15 ?_
      have hr : brR s a b = -1 := by unfold brR; (repeat' split) <;> first | rfl | omega
      exact V_iret hX hR dX5_carry_16 ⟨congrArg (fun z => some (Value.int (jI z))) hr.symm, _, mB_c (by unfold brS; (repeat' split) <;> first | rfl | omega | exact (up_same (by omega)).symm | exact up_same (by omega)) rfl (by rw [hr]; exact (if_neg (by omega)).symm) rfl rfl (by rw [hr]; exact (if_neg (by omega)).symm) rfl rfl rfl rfl rfl rfl rfl rfl⟩

set_option maxHeartbeats 4000000 in
set_option maxRecDepth 100000 in
theorem c_X5_face (l : Launch) (G : vC) (m : Nat → Nat) (s : Nat → Int) (sp : Nat → Int) (hi : Nat → Int) (sn : Nat → Int) (tx : Nat → Int) (g3 : Int) (g5 : Int) (g7 : Int) (g8 : Int) (g9 : Int) (g10 : Int) (g11 : Int) (g12 : Int) (g13 : Int) (t : Int) (a : Int) (b : Int) (hI : Inv t s) (ha : iR a) (hb : iR b) (hg3 : 0 ≤ g3 ∧ g3 ≤ 4) : Ct l G yX5_face cX5_face 4 (some .int) ({ frames := 3, cells := 0, slots := 0, locals := 63 } : Room) [.ref (m 0), .int (jI a), .int (jI b)] (mB G m s sp hi sn tx g3 g5 g7 g8 g9 g10 g11 g12 g13) (fun v u => v = some (Value.int (jI (thR s a b))) ∧ ∃ sp2 : Nat → Int, u = mB G m (thS s a b) sp2 (mcH hi g3 s (thR s a b)) sn tx (mcZ g3 (thR s a b)) g5 g7 g8 g9 g10 g11 g12 g13) := by
  refine Ct.of (by decide) (Nat.le_of_ble_eq_true rfl) (fun X hX hR => ?_)
  refine V.toLv (lv' := [(0, .ref (m 0)), (1, .int (jI a)), (2, .int (jI b))]) rfl ?_
  have hb := hI.base
  refine V_aload_n hX dX5_face_0 0 rfl ?_
  refine V_iload_n hX dX5_face_1 1 rfl ?_
  refine V_cV (st := []) (v := .int (jI (bI (0 ≤ a ∧ a < s 10)))) (w' := mB G m s sp hi sn tx g3 g5 g7 g8 g9 g10 g11 g12 g13) hX wc_X5_95 (c_X5_isScarecrow l G m s sp hi sn tx g3 g5 g7 g8 g9 g10 g11 g12 g13 t a hI (by omega)) (by decide) (by decide) rfl rfl (Nat.le_of_ble_eq_true rfl) dX5_face_2 [] ([]) (by simp only [List.append_assoc, List.nil_append, List.append_nil]) 0 rfl rfl (by simp only [List.append_assoc, List.nil_append, List.append_nil]) rfl rfl ?_
  refine V_ifz (tgt := 15) hX dX5_face_5 (by decide) (fun c_1 => ?_) (fun c_1 => ?_)
  · refine V_iconst hX dX5_face_15 ?_
    have hr : thR s a b = -1 := by unfold thR; (repeat' split) <;> first | rfl | omega
    exact V_iret hX hR dX5_face_16 ⟨congrArg (fun z => some (Value.int (jI z))) hr.symm, _, mB_c (by unfold thS; (repeat' split) <;> first | rfl | omega | exact (up_same (by omega)).symm | exact up_same (by omega)) rfl (by rw [hr]; exact (if_neg (by omega)).symm) rfl rfl (by rw [hr]; exact (if_neg (by omega)).symm) rfl rfl rfl rfl rfl rfl rfl rfl⟩
  · refine V_iload_n hX dX5_face_8 2 rfl ?_
    refine V_cS (st := []) (v := .int (jI (bI (0 ≤ b ∧ b ≤ 3)))) (w' := mB G m s sp hi sn tx g3 g5 g7 g8 g9 g10 g11 g12 g13) hX wc_X5_98 (c_X5_isWay l G b (by omega)) (by decide) (by decide) rfl rfl (Nat.le_of_ble_eq_true rfl) dX5_face_9 [] (mB G m s sp hi sn tx g3 g5 g7 g8 g9 g10 g11 g12 g13) (by simp only [List.append_assoc, List.nil_append, List.append_nil]) (by simp only [List.append_assoc, List.nil_append, List.append_nil]) rfl rfl ?_
    refine V_ifnz (tgt := 17) hX dX5_face_12 (by decide) (fun c_2 => ?_) (fun c_2 => ?_)
    · have hs := hI.sc a.toNat (by omega)
      refine V_aload_n hX dX5_face_17 0 rfl ?_
      refine V_dV (st := []) (w' := mB G m s s hi sn tx g3 g5 g7 g8 g9 g10 g11 g12 g13) hX wc_X5_48 (c_X5_putAside l G m s sp hi sn tx g3 g5 g7 g8 g9 g10 g11 g12 g13 ) (by decide) (by decide) rfl rfl (Nat.le_of_ble_eq_true rfl) dX5_face_18 [] ([]) (by simp only [List.append_assoc, List.nil_append, List.append_nil]) 0 rfl rfl (by simp only [List.append_assoc, List.nil_append, List.append_nil]) rfl rfl ?_
      refine V_aload_n hX dX5_face_21 0 rfl ?_
      refine V_iload_n hX dX5_face_22 1 rfl ?_
      refine V_iconst hX dX5_face_23 ?_
      refine V.sk (st' := [.int (jI ((3 : Int))), .int (jI a), .ref (m 0)]) rfl ?_
      refine V.sk (st' := [.int (jI ((3 : Int))), .int (jI ((a.toNat : Int))), .ref (m 0)]) (congrArg (fun z : Int => [Value.int (jI ((3 : Int))), Value.int (jI z), Value.ref (m 0)]) (show a = (a.toNat : Int) by omega)) ?_
      refine V_cV (st := []) (v := .int (jI (s (ix a.toNat 3)))) (w' := mB G m s s hi sn tx g3 g5 g7 g8 g9 g10 g11 g12 g13) hX wc_X5_29 (c_X5_of l G m s s hi sn tx g3 g5 g7 g8 g9 g10 g11 g12 g13 a.toNat 3 (by omega) (by omega)) (by decide) (by decide) rfl rfl (Nat.le_of_ble_eq_true rfl) dX5_face_24 [] ([]) (by simp only [List.append_assoc, List.nil_append, List.append_nil]) 0 rfl rfl (by simp only [List.append_assoc, List.nil_append, List.append_nil]) rfl rfl ?_
      refine V_istore_n (i := 3) (lv' := [(3, .int (jI (s (ix a.toNat 3)))), (0, .ref (m 0)), (1, .int (jI a)), (2, .int (jI b))]) hX dX5_face_27 rfl (by decide) rfl ?_
      refine V_aload_n hX dX5_face_28 1 rfl ?_
      refine V_iload_n hX dX5_face_29 2 rfl ?_
      refine V_iconst hX dX5_face_30 ?_
      refine V_iload_n hX dX5_face_31 3 rfl ?_
      refine V.sk (st' := [.int (jI b), .int (jI ((3 : Int))), .int (jI a), .ref (m 0)]) rfl ?_
      refine V.sk (st' := [.int (jI b), .int (jI ((3 : Int))), .int (jI ((a.toNat : Int))), .ref (m 0)]) (congrArg (fun z : Int => [Value.int (jI b), Value.int (jI ((3 : Int))), Value.int (jI z), Value.ref (m 0)]) (show a = (a.toNat : Int) by omega)) ?_
      refine V_dV (st := []) (w' := mB G m (up s (ix a.toNat 3) b) s hi sn tx g3 g5 g7 g8 g9 g10 g11 g12 g13) hX wc_X5_75 (c_X5_setOf l G m s s hi sn tx g3 g5 g7 g8 g9 g10 g11 g12 g13 a.toNat 3 b (by omega) (by omega)) (by decide) (by decide) rfl rfl (Nat.le_of_ble_eq_true rfl) dX5_face_32 [] ([]) (by simp only [List.append_assoc, List.nil_append, List.append_nil]) 0 rfl rfl (by simp only [List.append_assoc, List.nil_append, List.append_nil]) rfl rfl ?_
      refine V_aload_n hX dX5_face_35 1 rfl ?_
      refine V_iload_n hX dX5_face_36 0 rfl ?_
      refine V_iload_n hX dX5_face_37 3 rfl ?_
      refine V_icmp_ne (tgt := 46) hX dX5_face_38 (by decide) (by omega) (by omega) (fun c_3 => ?_) (fun c_3 => ?_)
      · refine V_iload_n hX dX5_face_46 0 rfl ?_
        refine V_cV (st := []) (v := .int (jI ((s (ix a.toNat 3))))) (w' := mB G m (up s (ix a.toNat 3) b) s (mcH hi g3 s (s (ix a.toNat 3))) sn tx (mcZ g3 (s (ix a.toNat 3))) g5 g7 g8 g9 g10 g11 g12 g13) hX wc_X5_111 (c_X5_recorded l G m (up s (ix a.toNat 3) b) s hi sn tx g3 g5 g7 g8 g9 g10 g11 g12 g13 (s (ix a.toNat 3)) (by omega) (by omega)) (by decide) (by decide) rfl rfl (Nat.le_of_ble_eq_true rfl) dX5_face_47 [] ([]) (by simp only [List.append_assoc, List.nil_append, List.append_nil]) 0 rfl rfl (by simp only [List.append_assoc, List.nil_append, List.append_nil]) rfl rfl ?_
        have hr : thR s a b = (s (ix a.toNat 3)) := by unfold thR; (repeat' split) <;> first | rfl | omega
        exact V_iret hX hR dX5_face_50 ⟨congrArg (fun z => some (Value.int (jI z))) hr.symm, _, mB_c (by unfold thS; (repeat' split) <;> first | rfl | omega | exact (up_same (by omega)).symm | exact up_same (by omega)) rfl (by rw [hr]) rfl rfl (by rw [hr]) rfl rfl rfl rfl rfl rfl rfl rfl⟩
      · refine V_bipush hX dX5_face_41 (by decide) ?_
        refine V_goto (tgt := 47) hX dX5_face_43 (by decide) ?_
        refine V_cV (st := []) (v := .int (jI ((-5)))) (w' := mB G m (up s (ix a.toNat 3) b) s (mcH hi g3 s (-5)) sn tx (mcZ g3 (-5)) g5 g7 g8 g9 g10 g11 g12 g13) hX wc_X5_111 (c_X5_recorded l G m (up s (ix a.toNat 3) b) s hi sn tx g3 g5 g7 g8 g9 g10 g11 g12 g13 (-5) (by omega) (by omega)) (by decide) (by decide) rfl rfl (Nat.le_of_ble_eq_true rfl) dX5_face_47 [] ([]) (by simp only [List.append_assoc, List.nil_append, List.append_nil]) 0 rfl rfl (by simp only [List.append_assoc, List.nil_append, List.append_nil]) rfl rfl ?_
        have hr : thR s a b = (-5) := by unfold thR; (repeat' split) <;> first | rfl | omega
        exact V_iret hX hR dX5_face_50 ⟨congrArg (fun z => some (Value.int (jI z))) hr.symm, _, mB_c (by unfold thS; (repeat' split) <;> first | rfl | omega | exact (up_same (by omega)).symm | exact up_same (by omega)) rfl (by rw [hr]) rfl rfl (by rw [hr]) rfl rfl rfl rfl rfl rfl rfl rfl⟩
    · refine V_iconst hX dX5_face_15 ?_
      have hr : thR s a b = -1 := by unfold thR; (repeat' split) <;> first | rfl | omega
      exact V_iret hX hR dX5_face_16 ⟨congrArg (fun z => some (Value.int (jI z))) hr.symm, _, mB_c (by unfold thS; (repeat' split) <;> first | rfl | omega | exact (up_same (by omega)).symm | exact up_same (by omega)) rfl (by rw [hr]; exact (if_neg (by omega)).symm) rfl rfl (by rw [hr]; exact (if_neg (by omega)).symm) rfl rfl rfl rfl rfl rfl rfl rfl⟩

set_option maxHeartbeats 4000000 in
set_option maxRecDepth 100000 in
theorem c_X5_crow (l : Launch) (G : vC) (m : Nat → Nat) (s : Nat → Int) (sp : Nat → Int) (hi : Nat → Int) (sn : Nat → Int) (tx : Nat → Int) (g3 : Int) (g5 : Int) (g7 : Int) (g8 : Int) (g9 : Int) (g10 : Int) (g11 : Int) (g12 : Int) (g13 : Int) (t : Int) (a : Int) (b : Int) (hI : Inv t s) (ha : iR a) (hb : iR b) (hg3 : 0 ≤ g3 ∧ g3 ≤ 4) : Ct l G yX5_crow cX5_crow 3 (some .int) ({ frames := 3, cells := 0, slots := 0, locals := 67 } : Room) [.ref (m 0), .int (jI a), .int (jI b)] (mB G m s sp hi sn tx g3 g5 g7 g8 g9 g10 g11 g12 g13) (fun v u => v = some (Value.int (jI (tcR s a b))) ∧ ∃ sp2 : Nat → Int, u = mB G m (tcS s a b) sp2 (mcH hi g3 s (tcR s a b)) sn tx (mcZ g3 (tcR s a b)) g5 g7 g8 g9 g10 g11 g12 g13) := by
  refine Ct.of (by decide) (Nat.le_of_ble_eq_true rfl) (fun X hX hR => ?_)
  refine V.toLv (lv' := [(0, .ref (m 0)), (1, .int (jI a)), (2, .int (jI b))]) rfl ?_
  have hb := hI.base
  have htb : -5 ≤ tcR s a b ∧ tcR s a b < 2147483648 := by
    unfold tcR crN
    split
    · have h1 := hI.sc a.toNat (by omega)
      (repeat' split) <;> omega
    · omega
  refine V_aload_n hX dX5_crow_0 0 rfl ?_
  refine V_dV (st := []) (w' := mB G m s s hi sn tx g3 g5 g7 g8 g9 g10 g11 g12 g13) hX wc_X5_48 (c_X5_putAside l G m s sp hi sn tx g3 g5 g7 g8 g9 g10 g11 g12 g13 ) (by decide) (by decide) rfl rfl (Nat.le_of_ble_eq_true rfl) dX5_crow_1 [] ([]) (by simp only [List.append_assoc, List.nil_append, List.append_nil]) 0 rfl rfl (by simp only [List.append_assoc, List.nil_append, List.append_nil]) rfl rfl ?_
  refine V_aload_n hX dX5_crow_4 0 rfl ?_
  refine V_aload_n hX dX5_crow_5 0 rfl ?_
  refine V_iload_n hX dX5_crow_6 1 rfl ?_
  refine V_iload_n hX dX5_crow_7 2 rfl ?_
  refine V_cV (st := [.ref (m 0)]) (v := .int (jI (tcR s a b))) (w' := mB G m (tcS s a b) s hi sn tx g3 g5 g7 g8 g9 g10 g11 g12 g13) hX wc_X5_114 (c_X5_doCrow l G m s s hi sn tx g3 g5 g7 g8 g9 g10 g11 g12 g13 t a b hI (by omega) (by omega)) (by decide) (by decide) rfl rfl (Nat.le_of_ble_eq_true rfl) dX5_crow_8 [] ([]) (by simp only [List.append_assoc, List.nil_append, List.append_nil]) 0 rfl rfl (by simp only [List.append_assoc, List.nil_append, List.append_nil]) rfl rfl ?_
  refine V_cV (st := []) (v := .int (jI ((tcR s a b)))) (w' := mB G m (tcS s a b) s (mcH hi g3 s (tcR s a b)) sn tx (mcZ g3 (tcR s a b)) g5 g7 g8 g9 g10 g11 g12 g13) hX wc_X5_111 (c_X5_recorded l G m (tcS s a b) s hi sn tx g3 g5 g7 g8 g9 g10 g11 g12 g13 (tcR s a b) (by omega) (by omega)) (by decide) (by decide) rfl rfl (Nat.le_of_ble_eq_true rfl) dX5_crow_11 [] ([]) (by simp only [List.append_assoc, List.nil_append, List.append_nil]) 0 rfl rfl (by simp only [List.append_assoc, List.nil_append, List.append_nil]) rfl rfl ?_
  have hr : tcR s a b = (tcR s a b) := by rfl
  exact V_iret hX hR dX5_crow_14 ⟨congrArg (fun z => some (Value.int (jI z))) hr.symm, _, mB_c rfl rfl (by rw [hr]) rfl rfl (by rw [hr]) rfl rfl rfl rfl rfl rfl rfl rfl⟩

set_option maxHeartbeats 4000000 in
set_option maxRecDepth 100000 in
theorem c_X5_scare (l : Launch) (G : vC) (m : Nat → Nat) (s : Nat → Int) (sp : Nat → Int) (hi : Nat → Int) (sn : Nat → Int) (tx : Nat → Int) (g3 : Int) (g5 : Int) (g7 : Int) (g8 : Int) (g9 : Int) (g10 : Int) (g11 : Int) (g12 : Int) (g13 : Int) (t : Int) (a : Int) (hI : Inv t s) (ha : iR a) (hg3 : 0 ≤ g3 ∧ g3 ≤ 4) : Ct l G yX5_scare cX5_scare 3 (some .int) ({ frames := 3, cells := 0, slots := 0, locals := 63 } : Room) [.ref (m 0), .int (jI a)] (mB G m s sp hi sn tx g3 g5 g7 g8 g9 g10 g11 g12 g13) (fun v u => v = some (Value.int (jI (soR s a))) ∧ ∃ sp2 : Nat → Int, u = mB G m (soS s a) sp2 (mcH hi g3 s (soR s a)) sn tx (mcZ g3 (soR s a)) g5 g7 g8 g9 g10 g11 g12 g13) := by
  refine Ct.of (by decide) (Nat.le_of_ble_eq_true rfl) (fun X hX hR => ?_)
  refine V.toLv (lv' := [(0, .ref (m 0)), (1, .int (jI a))]) rfl ?_
  have hb := hI.base
  refine V_aload_n hX dX5_scare_0 0 rfl ?_
  refine V_iload_n hX dX5_scare_1 1 rfl ?_
  refine V_cV (st := []) (v := .int (jI (bI (0 ≤ a ∧ a < s 10)))) (w' := mB G m s sp hi sn tx g3 g5 g7 g8 g9 g10 g11 g12 g13) hX wc_X5_95 (c_X5_isScarecrow l G m s sp hi sn tx g3 g5 g7 g8 g9 g10 g11 g12 g13 t a hI (by omega)) (by decide) (by decide) rfl rfl (Nat.le_of_ble_eq_true rfl) dX5_scare_2 [] ([]) (by simp only [List.append_assoc, List.nil_append, List.append_nil]) 0 rfl rfl (by simp only [List.append_assoc, List.nil_append, List.append_nil]) rfl rfl ?_
  refine V_ifnz (tgt := 10) hX dX5_scare_5 (by decide) (fun c_1 => ?_) (fun c_1 => ?_)
  · have hs := hI.sc a.toNat (by omega)
    have hcN : crN s a.toNat = s (ix a.toNat 5) + s (ix a.toNat 6) + s (ix a.toNat 7) + s (ix a.toNat 8) := rfl
    refine V_aload_n hX dX5_scare_10 0 rfl ?_
    refine V_dV (st := []) (w' := mB G m s s hi sn tx g3 g5 g7 g8 g9 g10 g11 g12 g13) hX wc_X5_48 (c_X5_putAside l G m s sp hi sn tx g3 g5 g7 g8 g9 g10 g11 g12 g13 ) (by decide) (by decide) rfl rfl (Nat.le_of_ble_eq_true rfl) dX5_scare_11 [] ([]) (by simp only [List.append_assoc, List.nil_append, List.append_nil]) 0 rfl rfl (by simp only [List.append_assoc, List.nil_append, List.append_nil]) rfl rfl ?_
    refine V_aload_n hX dX5_scare_14 0 rfl ?_
    refine V_iload_n hX dX5_scare_15 1 rfl ?_
    refine V.sk (st' := [.int (jI ((a.toNat : Int))), .ref (m 0)]) (congrArg (fun z : Int => [Value.int (jI z), Value.ref (m 0)]) (show a = (a.toNat : Int) by omega)) ?_
    refine V_cV (st := []) (v := .int (jI (crN s a.toNat))) (w' := mB G m s s hi sn tx g3 g5 g7 g8 g9 g10 g11 g12 g13) hX wc_X5_79 (c_X5_crowsOn l G m s s hi sn tx g3 g5 g7 g8 g9 g10 g11 g12 g13 t a.toNat hI (by omega)) (by decide) (by decide) rfl rfl (Nat.le_of_ble_eq_true rfl) dX5_scare_16 [] ([]) (by simp only [List.append_assoc, List.nil_append, List.append_nil]) 0 rfl rfl (by simp only [List.append_assoc, List.nil_append, List.append_nil]) rfl rfl ?_
    refine V_istore_n (i := 2) (lv' := [(2, .int (jI (crN s a.toNat))), (0, .ref (m 0)), (1, .int (jI a))]) hX dX5_scare_19 rfl (by decide) rfl ?_
    refine V_aload_n hX dX5_scare_20 1 rfl ?_
    refine V_iload_n hX dX5_scare_21 2 rfl ?_
    refine V.sk (st' := [.int (jI ((a.toNat : Int))), .ref (m 0)]) (congrArg (fun z : Int => [Value.int (jI z), Value.ref (m 0)]) (show a = (a.toNat : Int) by omega)) ?_
    refine V_dV (st := []) (w' := mB G m (fly s a.toNat) s hi sn tx g3 g5 g7 g8 g9 g10 g11 g12 g13) hX wc_X5_82 (c_X5_flyOff l G m s s hi sn tx g3 g5 g7 g8 g9 g10 g11 g12 g13 a.toNat (by omega)) (by decide) (by decide) rfl rfl (Nat.le_of_ble_eq_true rfl) dX5_scare_22 [] ([]) (by simp only [List.append_assoc, List.nil_append, List.append_nil]) 0 rfl rfl (by simp only [List.append_assoc, List.nil_append, List.append_nil]) rfl rfl ?_
    refine V_aload_n hX dX5_scare_25 1 rfl ?_
    refine V_iload_n hX dX5_scare_26 0 rfl ?_
    refine V_if_ne (tgt := 35) hX dX5_scare_27 (by decide) (by omega) (fun c_2 => ?_) (fun c_2 => ?_)
    · refine V_iload_n hX dX5_scare_35 0 rfl ?_
      refine V_cV (st := []) (v := .int (jI ((crN s a.toNat)))) (w' := mB G m (fly s a.toNat) s (mcH hi g3 s (crN s a.toNat)) sn tx (mcZ g3 (crN s a.toNat)) g5 g7 g8 g9 g10 g11 g12 g13) hX wc_X5_111 (c_X5_recorded l G m (fly s a.toNat) s hi sn tx g3 g5 g7 g8 g9 g10 g11 g12 g13 (crN s a.toNat) (by omega) (by omega)) (by decide) (by decide) rfl rfl (Nat.le_of_ble_eq_true rfl) dX5_scare_36 [] ([]) (by simp only [List.append_assoc, List.nil_append, List.append_nil]) 0 rfl rfl (by simp only [List.append_assoc, List.nil_append, List.append_nil]) rfl rfl ?_
      have hr : soR s a = (crN s a.toNat) := by unfold soR; (repeat' split) <;> first | rfl | omega
      exact V_iret hX hR dX5_scare_39 ⟨congrArg (fun z => some (Value.int (jI z))) hr.symm, _, mB_c (by unfold soS; (repeat' split) <;> first | rfl | omega | exact (up_same (by omega)).symm | exact up_same (by omega)) rfl (by rw [hr]) rfl rfl (by rw [hr]) rfl rfl rfl rfl rfl rfl rfl rfl⟩
    · refine V_bipush hX dX5_scare_30 (by decide) ?_
      refine V_goto (tgt := 36) hX dX5_scare_32 (by decide) ?_
      refine V_cV (st := []) (v := .int (jI ((-5)))) (w' := mB G m (fly s a.toNat) s (mcH hi g3 s (-5)) sn tx (mcZ g3 (-5)) g5 g7 g8 g9 g10 g11 g12 g13) hX wc_X5_111 (c_X5_recorded l G m (fly s a.toNat) s hi sn tx g3 g5 g7 g8 g9 g10 g11 g12 g13 (-5) (by omega) (by omega)) (by decide) (by decide) rfl rfl (Nat.le_of_ble_eq_true rfl) dX5_scare_36 [] ([]) (by simp only [List.append_assoc, List.nil_append, List.append_nil]) 0 rfl rfl (by simp only [List.append_assoc, List.nil_append, List.append_nil]) rfl rfl ?_
      have hr : soR s a = (-5) := by unfold soR; (repeat' split) <;> first | rfl | omega
      exact V_iret hX hR dX5_scare_39 ⟨congrArg (fun z => some (Value.int (jI z))) hr.symm, _, mB_c (by unfold soS; (repeat' split) <;> first | rfl | omega | exact (up_same (by omega)).symm | exact up_same (by omega)) rfl (by rw [hr]) rfl rfl (by rw [hr]) rfl rfl rfl rfl rfl rfl rfl rfl⟩
  · refine V_iconst hX dX5_scare_8 ?_
    have hr : soR s a = -1 := by unfold soR; (repeat' split) <;> first | rfl | omega
    exact V_iret hX hR dX5_scare_9 ⟨congrArg (fun z => some (Value.int (jI z))) hr.symm, _, mB_c (by unfold soS; (repeat' split) <;> first | rfl | omega | exact (up_same (by omega)).symm | exact up_same (by omega)) rfl (by rw [hr]; exact (if_neg (by omega)).symm) rfl rfl (by rw [hr]; exact (if_neg (by omega)).symm) rfl rfl rfl rfl rfl rfl rfl rfl⟩

set_option maxHeartbeats 4000000 in
set_option maxRecDepth 100000 in
theorem c_X5_fill (l : Launch) (G : vC) (m : Nat → Nat) (s : Nat → Int) (sp : Nat → Int) (hi : Nat → Int) (sn : Nat → Int) (tx : Nat → Int) (g3 : Int) (g5 : Int) (g7 : Int) (g8 : Int) (g9 : Int) (g10 : Int) (g11 : Int) (g12 : Int) (g13 : Int) (t : Int) (a : Int) (w : Int) (hI : Inv t s) (ha : iR a) (hw : iR w) (hg3 : 0 ≤ g3 ∧ g3 ≤ 4) : Ct l G yX5_fill cX5_fill 3 (some .int) ({ frames := 3, cells := 0, slots := 0, locals := 67 } : Room) [.ref (m 0), .int (jI a), .int (jI w)] (mB G m s sp hi sn tx g3 g5 g7 g8 g9 g10 g11 g12 g13) (fun v u => v = some (Value.int (jI (stR s a w))) ∧ ∃ sp2 : Nat → Int, u = mB G m (stS s a w) sp2 (mcH hi g3 s (stR s a w)) sn tx (mcZ g3 (stR s a w)) g5 g7 g8 g9 g10 g11 g12 g13) := by
  refine Ct.of (by decide) (Nat.le_of_ble_eq_true rfl) (fun X hX hR => ?_)
  refine V.toLv (lv' := [(0, .ref (m 0)), (1, .int (jI a)), (2, .int (jI w))]) rfl ?_
  have hb := hI.base
  have htb : -5 ≤ stR s a w ∧ stR s a w < 2147483648 := by
    unfold stR flN flM
    split
    · have h1 := hI.sc a.toNat (by omega)
      (repeat' split) <;> omega
    · omega
  refine V_aload_n hX dX5_fill_0 0 rfl ?_
  refine V_dV (st := []) (w' := mB G m s s hi sn tx g3 g5 g7 g8 g9 g10 g11 g12 g13) hX wc_X5_48 (c_X5_putAside l G m s sp hi sn tx g3 g5 g7 g8 g9 g10 g11 g12 g13 ) (by decide) (by decide) rfl rfl (Nat.le_of_ble_eq_true rfl) dX5_fill_1 [] ([]) (by simp only [List.append_assoc, List.nil_append, List.append_nil]) 0 rfl rfl (by simp only [List.append_assoc, List.nil_append, List.append_nil]) rfl rfl ?_
  refine V_aload_n hX dX5_fill_4 0 rfl ?_
  refine V_aload_n hX dX5_fill_5 0 rfl ?_
  refine V_iload_n hX dX5_fill_6 1 rfl ?_
  refine V_iload_n hX dX5_fill_7 2 rfl ?_
  refine V_cV (st := [.ref (m 0)]) (v := .int (jI (stR s a w))) (w' := mB G m (stS s a w) s hi sn tx g3 g5 g7 g8 g9 g10 g11 g12 g13) hX wc_X5_117 (c_X5_doFill l G m s s hi sn tx g3 g5 g7 g8 g9 g10 g11 g12 g13 t a w hI (by omega) (by omega)) (by decide) (by decide) rfl rfl (Nat.le_of_ble_eq_true rfl) dX5_fill_8 [] ([]) (by simp only [List.append_assoc, List.nil_append, List.append_nil]) 0 rfl rfl (by simp only [List.append_assoc, List.nil_append, List.append_nil]) rfl rfl ?_
  refine V_cV (st := []) (v := .int (jI ((stR s a w)))) (w' := mB G m (stS s a w) s (mcH hi g3 s (stR s a w)) sn tx (mcZ g3 (stR s a w)) g5 g7 g8 g9 g10 g11 g12 g13) hX wc_X5_111 (c_X5_recorded l G m (stS s a w) s hi sn tx g3 g5 g7 g8 g9 g10 g11 g12 g13 (stR s a w) (by omega) (by omega)) (by decide) (by decide) rfl rfl (Nat.le_of_ble_eq_true rfl) dX5_fill_11 [] ([]) (by simp only [List.append_assoc, List.nil_append, List.append_nil]) 0 rfl rfl (by simp only [List.append_assoc, List.nil_append, List.append_nil]) rfl rfl ?_
  have hr : stR s a w = (stR s a w) := by rfl
  exact V_iret hX hR dX5_fill_14 ⟨congrArg (fun z => some (Value.int (jI z))) hr.symm, _, mB_c rfl rfl (by rw [hr]) rfl rfl (by rw [hr]) rfl rfl rfl rfl rfl rfl rfl rfl⟩

set_option maxHeartbeats 4000000 in
set_option maxRecDepth 100000 in
theorem c_X5_seats (l : Launch) (G : vC) (m : Nat → Nat) (s : Nat → Int) (sp : Nat → Int) (hi : Nat → Int) (sn : Nat → Int) (tx : Nat → Int) (g3 : Int) (g5 : Int) (g7 : Int) (g8 : Int) (g9 : Int) (g10 : Int) (g11 : Int) (g12 : Int) (g13 : Int) (t : Int) (f : Int) (a : Int) (hI : Inv t s) (hf : iR f) (ha : iR a) (hg3 : 0 ≤ g3 ∧ g3 ≤ 4) : Ct l G yX5_seats cX5_seats 4 (some .int) ({ frames := 3, cells := 0, slots := 0, locals := 63 } : Room) [.ref (m 0), .int (jI f), .int (jI a)] (mB G m s sp hi sn tx g3 g5 g7 g8 g9 g10 g11 g12 g13) (fun v u => v = some (Value.int (jI (gsR s f a))) ∧ ∃ sp2 : Nat → Int, u = mB G m (gsS s f a) sp2 (mcH hi g3 s (gsR s f a)) sn tx (mcZ g3 (gsR s f a)) g5 g7 g8 g9 g10 g11 g12 g13) := by
  refine Ct.of (by decide) (Nat.le_of_ble_eq_true rfl) (fun X hX hR => ?_)
  refine V.toLv (lv' := [(0, .ref (m 0)), (1, .int (jI f)), (2, .int (jI a))]) rfl ?_
  have hb := hI.base
  refine V_iload_n hX dX5_seats_0 1 rfl ?_
  refine V_cS (st := []) (v := .int (jI (bI (0 ≤ f ∧ f ≤ 5)))) (w' := mB G m s sp hi sn tx g3 g5 g7 g8 g9 g10 g11 g12 g13) hX wc_X5_108 (c_X5_isField l G f (by omega)) (by decide) (by decide) rfl rfl (Nat.le_of_ble_eq_true rfl) dX5_seats_1 [] (mB G m s sp hi sn tx g3 g5 g7 g8 g9 g10 g11 g12 g13) (by simp only [List.append_assoc, List.nil_append, List.append_nil]) (by simp only [List.append_assoc, List.nil_append, List.append_nil]) rfl rfl ?_
  refine V_ifnz (tgt := 9) hX dX5_seats_4 (by decide) (fun c_1 => ?_) (fun c_1 => ?_)
  · refine V_iload_n hX dX5_seats_9 2 rfl ?_
    refine V_iconst hX dX5_seats_10 ?_
    refine V_bipush hX dX5_seats_11 (by decide) ?_
    refine V_cS (st := []) (v := .int (jI (bI (1 ≤ a ∧ a ≤ 9)))) (w' := mB G m s sp hi sn tx g3 g5 g7 g8 g9 g10 g11 g12 g13) hX wc_X5_25 (c_X5_within l G a 1 9 (by omega) (by omega) (by omega)) (by decide) (by decide) rfl rfl (Nat.le_of_ble_eq_true rfl) dX5_seats_13 [] (mB G m s sp hi sn tx g3 g5 g7 g8 g9 g10 g11 g12 g13) (by simp only [List.append_assoc, List.nil_append, List.append_nil]) (by simp only [List.append_assoc, List.nil_append, List.append_nil]) rfl rfl ?_
    refine V_ifnz (tgt := 22) hX dX5_seats_16 (by decide) (fun c_2 => ?_) (fun c_2 => ?_)
    · have hse := hI.se f.toNat (by omega)
      refine V_aload_n hX dX5_seats_22 0 rfl ?_
      refine V_dV (st := []) (w' := mB G m s s hi sn tx g3 g5 g7 g8 g9 g10 g11 g12 g13) hX wc_X5_48 (c_X5_putAside l G m s sp hi sn tx g3 g5 g7 g8 g9 g10 g11 g12 g13 ) (by decide) (by decide) rfl rfl (Nat.le_of_ble_eq_true rfl) dX5_seats_23 [] ([]) (by simp only [List.append_assoc, List.nil_append, List.append_nil]) 0 rfl rfl (by simp only [List.append_assoc, List.nil_append, List.append_nil]) rfl rfl ?_
      refine V_aload_n hX dX5_seats_26 0 rfl ?_
      refine V_get (v := .ref (m 1)) hX cbX5 0 0 (by decide) wf_X5_7 rfl rfl rfl rfl dX5_seats_27 ?_
      refine V_bipush hX dX5_seats_30 (by decide) ?_
      refine V_iload_n hX dX5_seats_32 1 rfl ?_
      refine V_iadd hX dX5_seats_33 rfl ?_
      refine V_iald (i0 := 11 + f.toNat) (r := (jI (s (11 + f.toNat)))) hX 1 rfl (by omega) (by omega) (by omega) (by omega) rfl dX5_seats_34 ?_
      refine V_istore_n (i := 3) (lv' := [(3, .int (jI (s (11 + f.toNat)))), (0, .ref (m 0)), (1, .int (jI f)), (2, .int (jI a))]) hX dX5_seats_35 rfl (by decide) rfl ?_
      refine V_aload_n hX dX5_seats_36 1 rfl ?_
      refine V_get (v := .ref (m 1)) hX cbX5 0 0 (by decide) wf_X5_7 rfl rfl rfl rfl dX5_seats_37 ?_
      refine V_bipush hX dX5_seats_40 (by decide) ?_
      refine V_iload_n hX dX5_seats_42 2 rfl ?_
      refine V_iadd hX dX5_seats_43 rfl ?_
      refine V_iload_n hX dX5_seats_44 3 rfl ?_
      refine V_iast (i0 := 11 + f.toNat) (w' := mB G m (up s (11 + f.toNat) a) s hi sn tx g3 g5 g7 g8 g9 g10 g11 g12 g13) hX 1 rfl (by omega) (by omega) (by omega) (by omega) dX5_seats_45 (mB_w1 G _ _ _ _ _ _ _ _ _ _ _ _ _ _ _ _ _) ?_
      refine V_aload_n hX dX5_seats_46 1 rfl ?_
      refine V_iload_n hX dX5_seats_47 0 rfl ?_
      refine V_iload_n hX dX5_seats_48 3 rfl ?_
      refine V_icmp_ne (tgt := 57) hX dX5_seats_49 (by decide) (by omega) (by omega) (fun c_3 => ?_) (fun c_3 => ?_)
      · refine V_iload_n hX dX5_seats_57 0 rfl ?_
        refine V_cV (st := []) (v := .int (jI ((s (11 + f.toNat))))) (w' := mB G m (up s (11 + f.toNat) a) s (mcH hi g3 s (s (11 + f.toNat))) sn tx (mcZ g3 (s (11 + f.toNat))) g5 g7 g8 g9 g10 g11 g12 g13) hX wc_X5_111 (c_X5_recorded l G m (up s (11 + f.toNat) a) s hi sn tx g3 g5 g7 g8 g9 g10 g11 g12 g13 (s (11 + f.toNat)) (by omega) (by omega)) (by decide) (by decide) rfl rfl (Nat.le_of_ble_eq_true rfl) dX5_seats_58 [] ([]) (by simp only [List.append_assoc, List.nil_append, List.append_nil]) 0 rfl rfl (by simp only [List.append_assoc, List.nil_append, List.append_nil]) rfl rfl ?_
        have hr : gsR s f a = (s (11 + f.toNat)) := by unfold gsR; (repeat' split) <;> first | rfl | omega
        exact V_iret hX hR dX5_seats_61 ⟨congrArg (fun z => some (Value.int (jI z))) hr.symm, _, mB_c (by unfold gsS; (repeat' split) <;> first | rfl | omega | exact (up_same (by omega)).symm | exact up_same (by omega)) rfl (by rw [hr]) rfl rfl (by rw [hr]) rfl rfl rfl rfl rfl rfl rfl rfl⟩
      · refine V_bipush hX dX5_seats_52 (by decide) ?_
        refine V_goto (tgt := 58) hX dX5_seats_54 (by decide) ?_
        refine V_cV (st := []) (v := .int (jI ((-5)))) (w' := mB G m (up s (11 + f.toNat) a) s (mcH hi g3 s (-5)) sn tx (mcZ g3 (-5)) g5 g7 g8 g9 g10 g11 g12 g13) hX wc_X5_111 (c_X5_recorded l G m (up s (11 + f.toNat) a) s hi sn tx g3 g5 g7 g8 g9 g10 g11 g12 g13 (-5) (by omega) (by omega)) (by decide) (by decide) rfl rfl (Nat.le_of_ble_eq_true rfl) dX5_seats_58 [] ([]) (by simp only [List.append_assoc, List.nil_append, List.append_nil]) 0 rfl rfl (by simp only [List.append_assoc, List.nil_append, List.append_nil]) rfl rfl ?_
        have hr : gsR s f a = (-5) := by unfold gsR; (repeat' split) <;> first | rfl | omega
        exact V_iret hX hR dX5_seats_61 ⟨congrArg (fun z => some (Value.int (jI z))) hr.symm, _, mB_c (by unfold gsS; (repeat' split) <;> first | rfl | omega | exact (up_same (by omega)).symm | exact up_same (by omega)) rfl (by rw [hr]) rfl rfl (by rw [hr]) rfl rfl rfl rfl rfl rfl rfl rfl⟩
    · refine V_bipush hX dX5_seats_19 (by decide) ?_
      have hr : gsR s f a = -2 := by unfold gsR; (repeat' split) <;> first | rfl | omega
      exact V_iret hX hR dX5_seats_21 ⟨congrArg (fun z => some (Value.int (jI z))) hr.symm, _, mB_c (by unfold gsS; (repeat' split) <;> first | rfl | omega | exact (up_same (by omega)).symm | exact up_same (by omega)) rfl (by rw [hr]; exact (if_neg (by omega)).symm) rfl rfl (by rw [hr]; exact (if_neg (by omega)).symm) rfl rfl rfl rfl rfl rfl rfl rfl⟩
  · refine V_iconst hX dX5_seats_7 ?_
    have hr : gsR s f a = -1 := by unfold gsR; (repeat' split) <;> first | rfl | omega
    exact V_iret hX hR dX5_seats_8 ⟨congrArg (fun z => some (Value.int (jI z))) hr.symm, _, mB_c (by unfold gsS; (repeat' split) <;> first | rfl | omega | exact (up_same (by omega)).symm | exact up_same (by omega)) rfl (by rw [hr]; exact (if_neg (by omega)).symm) rfl rfl (by rw [hr]; exact (if_neg (by omega)).symm) rfl rfl rfl rfl rfl rfl rfl rfl⟩

set_option maxHeartbeats 4000000 in
set_option maxRecDepth 100000 in
theorem c_X5_wind (l : Launch) (G : vC) (m : Nat → Nat) (s : Nat → Int) (sp : Nat → Int) (hi : Nat → Int) (sn : Nat → Int) (tx : Nat → Int) (g3 : Int) (g5 : Int) (g7 : Int) (g8 : Int) (g9 : Int) (g10 : Int) (g11 : Int) (g12 : Int) (g13 : Int) (t : Int) (w : Int) (a : Int) (hI : Inv t s) (hw : iR w) (ha : iR a) (hg3 : 0 ≤ g3 ∧ g3 ≤ 4) : Ct l G yX5_wind cX5_wind 3 (some .int) ({ frames := 3, cells := 0, slots := 0, locals := 65 } : Room) [.ref (m 0), .int (jI w), .int (jI a)] (mB G m s sp hi sn tx g3 g5 g7 g8 g9 g10 g11 g12 g13) (fun v u => v = some (Value.int (jI (blR s w a))) ∧ ∃ sp2 : Nat → Int, u = mB G m (blS s w a) sp2 (mcH hi g3 s (blR s w a)) sn tx (mcZ g3 (blR s w a)) g5 g7 g8 g9 g10 g11 g12 g13) := by
  refine Ct.of (by decide) (Nat.le_of_ble_eq_true rfl) (fun X hX hR => ?_)
  refine V.toLv (lv' := [(0, .ref (m 0)), (1, .int (jI w)), (2, .int (jI a))]) rfl ?_
  have hb := hI.base
  have htb : -5 ≤ blR s w a ∧ blR s w a < 2147483648 := by unfold blR; (repeat' split) <;> omega
  refine V_aload_n hX dX5_wind_0 0 rfl ?_
  refine V_dV (st := []) (w' := mB G m s s hi sn tx g3 g5 g7 g8 g9 g10 g11 g12 g13) hX wc_X5_48 (c_X5_putAside l G m s sp hi sn tx g3 g5 g7 g8 g9 g10 g11 g12 g13 ) (by decide) (by decide) rfl rfl (Nat.le_of_ble_eq_true rfl) dX5_wind_1 [] ([]) (by simp only [List.append_assoc, List.nil_append, List.append_nil]) 0 rfl rfl (by simp only [List.append_assoc, List.nil_append, List.append_nil]) rfl rfl ?_
  refine V_aload_n hX dX5_wind_4 0 rfl ?_
  refine V_aload_n hX dX5_wind_5 0 rfl ?_
  refine V_iload_n hX dX5_wind_6 1 rfl ?_
  refine V_iload_n hX dX5_wind_7 2 rfl ?_
  refine V_cV (st := [.ref (m 0)]) (v := .int (jI (blR s w a))) (w' := mB G m (blS s w a) s hi sn tx g3 g5 g7 g8 g9 g10 g11 g12 g13) hX wc_X5_120 (c_X5_doWind l G m s s hi sn tx g3 g5 g7 g8 g9 g10 g11 g12 g13 t w a hI (by omega) (by omega)) (by decide) (by decide) rfl rfl (Nat.le_of_ble_eq_true rfl) dX5_wind_8 [] ([]) (by simp only [List.append_assoc, List.nil_append, List.append_nil]) 0 rfl rfl (by simp only [List.append_assoc, List.nil_append, List.append_nil]) rfl rfl ?_
  refine V_cV (st := []) (v := .int (jI ((blR s w a)))) (w' := mB G m (blS s w a) s (mcH hi g3 s (blR s w a)) sn tx (mcZ g3 (blR s w a)) g5 g7 g8 g9 g10 g11 g12 g13) hX wc_X5_111 (c_X5_recorded l G m (blS s w a) s hi sn tx g3 g5 g7 g8 g9 g10 g11 g12 g13 (blR s w a) (by omega) (by omega)) (by decide) (by decide) rfl rfl (Nat.le_of_ble_eq_true rfl) dX5_wind_11 [] ([]) (by simp only [List.append_assoc, List.nil_append, List.append_nil]) 0 rfl rfl (by simp only [List.append_assoc, List.nil_append, List.append_nil]) rfl rfl ?_
  have hr : blR s w a = (blR s w a) := by rfl
  exact V_iret hX hR dX5_wind_14 ⟨congrArg (fun z => some (Value.int (jI z))) hr.symm, _, mB_c rfl rfl (by rw [hr]) rfl rfl (by rw [hr]) rfl rfl rfl rfl rfl rfl rfl rfl⟩

set_option maxHeartbeats 4000000 in
set_option maxRecDepth 100000 in
theorem c_X5_set (l : Launch) (G : vC) (m : Nat → Nat) (s : Nat → Int) (sp : Nat → Int) (hi : Nat → Int) (sn : Nat → Int) (tx : Nat → Int) (g3 : Int) (g5 : Int) (g7 : Int) (g8 : Int) (g9 : Int) (g10 : Int) (g11 : Int) (g12 : Int) (g13 : Int) (t : Int) (c : Int) (a : Int) (hI : Inv t s) (hc : iR c) (ha : iR a) (hg3 : 0 ≤ g3 ∧ g3 ≤ 4) : Ct l G yX5_set cX5_set 4 (some .int) ({ frames := 3, cells := 0, slots := 0, locals := 63 } : Room) [.ref (m 0), .int (jI c), .int (jI a)] (mB G m s sp hi sn tx g3 g5 g7 g8 g9 g10 g11 g12 g13) (fun v u => v = some (Value.int (jI (adR s c a))) ∧ ∃ sp2 : Nat → Int, u = mB G m (adS s c a) sp2 (mcH hi g3 s (adR s c a)) sn tx (mcZ g3 (adR s c a)) g5 g7 g8 g9 g10 g11 g12 g13) := by
  refine Ct.of (by decide) (Nat.le_of_ble_eq_true rfl) (fun X hX hR => ?_)
  refine V.toLv (lv' := [(0, .ref (m 0)), (1, .int (jI c)), (2, .int (jI a))]) rfl ?_
  have hb := hI.base
  refine V_iload_n hX dX5_set_0 1 rfl ?_
  refine V_iconst hX dX5_set_1 ?_
  refine V_iconst hX dX5_set_2 ?_
  refine V_cS (st := []) (v := .int (jI (bI (0 ≤ c ∧ c ≤ 1)))) (w' := mB G m s sp hi sn tx g3 g5 g7 g8 g9 g10 g11 g12 g13) hX wc_X5_25 (c_X5_within l G c 0 1 (by omega) (by omega) (by omega)) (by decide) (by decide) rfl rfl (Nat.le_of_ble_eq_true rfl) dX5_set_3 [] (mB G m s sp hi sn tx g3 g5 g7 g8 g9 g10 g11 g12 g13) (by simp only [List.append_assoc, List.nil_append, List.append_nil]) (by simp only [List.append_assoc, List.nil_append, List.append_nil]) rfl rfl ?_
  refine V_ifnz (tgt := 11) hX dX5_set_6 (by decide) (fun c_1 => ?_) (fun c_1 => ?_)
  · refine V_iload_n hX dX5_set_11 2 rfl ?_
    refine V_iconst hX dX5_set_12 ?_
    refine V_iload_n hX dX5_set_13 1 rfl ?_
    refine V_if_ne (tgt := 22) hX dX5_set_14 (by decide) (by omega) (fun c_2 => ?_) (fun c_2 => ?_)
    · refine V_bipush hX dX5_set_22 (by decide) ?_
      refine V_cS (st := []) (v := .int (jI (bI (0 ≤ a ∧ a ≤ 8)))) (w' := mB G m s sp hi sn tx g3 g5 g7 g8 g9 g10 g11 g12 g13) hX wc_X5_25 (c_X5_within l G a 0 8 (by omega) (by omega) (by omega)) (by decide) (by decide) rfl rfl (Nat.le_of_ble_eq_true rfl) dX5_set_24 [] (mB G m s sp hi sn tx g3 g5 g7 g8 g9 g10 g11 g12 g13) (by simp only [List.append_assoc, List.nil_append, List.append_nil]) (by simp only [List.append_assoc, List.nil_append, List.append_nil]) rfl rfl ?_
      refine V_ifnz (tgt := 33) hX dX5_set_27 (by decide) (fun c_3 => ?_) (fun c_3 => ?_)
      · have hc01 : s c.toNat = s 0 ∨ s c.toNat = s 1 := by rcases (by omega : c.toNat = 0 ∨ c.toNat = 1) with q | q <;> rw [q] <;> simp
        refine V_aload_n hX dX5_set_33 0 rfl ?_
        refine V_dV (st := []) (w' := mB G m s s hi sn tx g3 g5 g7 g8 g9 g10 g11 g12 g13) hX wc_X5_48 (c_X5_putAside l G m s sp hi sn tx g3 g5 g7 g8 g9 g10 g11 g12 g13 ) (by decide) (by decide) rfl rfl (Nat.le_of_ble_eq_true rfl) dX5_set_34 [] ([]) (by simp only [List.append_assoc, List.nil_append, List.append_nil]) 0 rfl rfl (by simp only [List.append_assoc, List.nil_append, List.append_nil]) rfl rfl ?_
        refine V_aload_n hX dX5_set_37 0 rfl ?_
        refine V_get (v := .ref (m 1)) hX cbX5 0 0 (by decide) wf_X5_7 rfl rfl rfl rfl dX5_set_38 ?_
        refine V_iconst hX dX5_set_41 ?_
        refine V_iload_n hX dX5_set_42 1 rfl ?_
        refine V_iadd hX dX5_set_43 rfl ?_
        refine V_iald (i0 := c.toNat) (r := (jI (s c.toNat))) hX 1 rfl (by omega) (by omega) (by omega) (by omega) rfl dX5_set_44 ?_
        refine V_istore_n (i := 3) (lv' := [(3, .int (jI (s c.toNat))), (0, .ref (m 0)), (1, .int (jI c)), (2, .int (jI a))]) hX dX5_set_45 rfl (by decide) rfl ?_
        refine V_aload_n hX dX5_set_46 1 rfl ?_
        refine V_get (v := .ref (m 1)) hX cbX5 0 0 (by decide) wf_X5_7 rfl rfl rfl rfl dX5_set_47 ?_
        refine V_iconst hX dX5_set_50 ?_
        refine V_iload_n hX dX5_set_51 2 rfl ?_
        refine V_iadd hX dX5_set_52 rfl ?_
        refine V_iload_n hX dX5_set_53 3 rfl ?_
        refine V_iast (i0 := c.toNat) (w' := mB G m (up s c.toNat a) s hi sn tx g3 g5 g7 g8 g9 g10 g11 g12 g13) hX 1 rfl (by omega) (by omega) (by omega) (by omega) dX5_set_54 (mB_w1 G _ _ _ _ _ _ _ _ _ _ _ _ _ _ _ _ _) ?_
        refine V_aload_n hX dX5_set_55 1 rfl ?_
        refine V_iload_n hX dX5_set_56 0 rfl ?_
        refine V_iload_n hX dX5_set_57 3 rfl ?_
        refine V_icmp_ne (tgt := 66) hX dX5_set_58 (by decide) (by omega) (by omega) (fun c_4 => ?_) (fun c_4 => ?_)
        · refine V_iload_n hX dX5_set_66 0 rfl ?_
          refine V_cV (st := []) (v := .int (jI ((s c.toNat)))) (w' := mB G m (up s c.toNat a) s (mcH hi g3 s (s c.toNat)) sn tx (mcZ g3 (s c.toNat)) g5 g7 g8 g9 g10 g11 g12 g13) hX wc_X5_111 (c_X5_recorded l G m (up s c.toNat a) s hi sn tx g3 g5 g7 g8 g9 g10 g11 g12 g13 (s c.toNat) (by omega) (by omega)) (by decide) (by decide) rfl rfl (Nat.le_of_ble_eq_true rfl) dX5_set_67 [] ([]) (by simp only [List.append_assoc, List.nil_append, List.append_nil]) 0 rfl rfl (by simp only [List.append_assoc, List.nil_append, List.append_nil]) rfl rfl ?_
          have hr : adR s c a = (s c.toNat) := by unfold adR; (repeat' split) <;> first | rfl | omega
          exact V_iret hX hR dX5_set_70 ⟨congrArg (fun z => some (Value.int (jI z))) hr.symm, _, mB_c (by unfold adS; (repeat' split) <;> first | rfl | omega | exact (up_same (by omega)).symm | exact up_same (by omega)) rfl (by rw [hr]) rfl rfl (by rw [hr]) rfl rfl rfl rfl rfl rfl rfl rfl⟩
        · refine V_bipush hX dX5_set_61 (by decide) ?_
          refine V_goto (tgt := 67) hX dX5_set_63 (by decide) ?_
          refine V_cV (st := []) (v := .int (jI ((-5)))) (w' := mB G m (up s c.toNat a) s (mcH hi g3 s (-5)) sn tx (mcZ g3 (-5)) g5 g7 g8 g9 g10 g11 g12 g13) hX wc_X5_111 (c_X5_recorded l G m (up s c.toNat a) s hi sn tx g3 g5 g7 g8 g9 g10 g11 g12 g13 (-5) (by omega) (by omega)) (by decide) (by decide) rfl rfl (Nat.le_of_ble_eq_true rfl) dX5_set_67 [] ([]) (by simp only [List.append_assoc, List.nil_append, List.append_nil]) 0 rfl rfl (by simp only [List.append_assoc, List.nil_append, List.append_nil]) rfl rfl ?_
          have hr : adR s c a = (-5) := by unfold adR; (repeat' split) <;> first | rfl | omega
          exact V_iret hX hR dX5_set_70 ⟨congrArg (fun z => some (Value.int (jI z))) hr.symm, _, mB_c (by unfold adS; (repeat' split) <;> first | rfl | omega | exact (up_same (by omega)).symm | exact up_same (by omega)) rfl (by rw [hr]) rfl rfl (by rw [hr]) rfl rfl rfl rfl rfl rfl rfl rfl⟩
      · refine V_bipush hX dX5_set_30 (by decide) ?_
        have hr : adR s c a = -2 := by unfold adR; (repeat' split) <;> first | rfl | omega
        exact V_iret hX hR dX5_set_32 ⟨congrArg (fun z => some (Value.int (jI z))) hr.symm, _, mB_c (by unfold adS; (repeat' split) <;> first | rfl | omega | exact (up_same (by omega)).symm | exact up_same (by omega)) rfl (by rw [hr]; exact (if_neg (by omega)).symm) rfl rfl (by rw [hr]; exact (if_neg (by omega)).symm) rfl rfl rfl rfl rfl rfl rfl rfl⟩
    · refine V_bipush hX dX5_set_17 (by decide) ?_
      refine V_goto (tgt := 24) hX dX5_set_19 (by decide) ?_
      refine V_cS (st := []) (v := .int (jI (bI (0 ≤ a ∧ a ≤ 50)))) (w' := mB G m s sp hi sn tx g3 g5 g7 g8 g9 g10 g11 g12 g13) hX wc_X5_25 (c_X5_within l G a 0 50 (by omega) (by omega) (by omega)) (by decide) (by decide) rfl rfl (Nat.le_of_ble_eq_true rfl) dX5_set_24 [] (mB G m s sp hi sn tx g3 g5 g7 g8 g9 g10 g11 g12 g13) (by simp only [List.append_assoc, List.nil_append, List.append_nil]) (by simp only [List.append_assoc, List.nil_append, List.append_nil]) rfl rfl ?_
      refine V_ifnz (tgt := 33) hX dX5_set_27 (by decide) (fun c_5 => ?_) (fun c_5 => ?_)
      · have hc01 : s c.toNat = s 0 ∨ s c.toNat = s 1 := by rcases (by omega : c.toNat = 0 ∨ c.toNat = 1) with q | q <;> rw [q] <;> simp
        refine V_aload_n hX dX5_set_33 0 rfl ?_
        refine V_dV (st := []) (w' := mB G m s s hi sn tx g3 g5 g7 g8 g9 g10 g11 g12 g13) hX wc_X5_48 (c_X5_putAside l G m s sp hi sn tx g3 g5 g7 g8 g9 g10 g11 g12 g13 ) (by decide) (by decide) rfl rfl (Nat.le_of_ble_eq_true rfl) dX5_set_34 [] ([]) (by simp only [List.append_assoc, List.nil_append, List.append_nil]) 0 rfl rfl (by simp only [List.append_assoc, List.nil_append, List.append_nil]) rfl rfl ?_
        refine V_aload_n hX dX5_set_37 0 rfl ?_
        refine V_get (v := .ref (m 1)) hX cbX5 0 0 (by decide) wf_X5_7 rfl rfl rfl rfl dX5_set_38 ?_
        refine V_iconst hX dX5_set_41 ?_
        refine V_iload_n hX dX5_set_42 1 rfl ?_
        refine V_iadd hX dX5_set_43 rfl ?_
        refine V_iald (i0 := c.toNat) (r := (jI (s c.toNat))) hX 1 rfl (by omega) (by omega) (by omega) (by omega) rfl dX5_set_44 ?_
        refine V_istore_n (i := 3) (lv' := [(3, .int (jI (s c.toNat))), (0, .ref (m 0)), (1, .int (jI c)), (2, .int (jI a))]) hX dX5_set_45 rfl (by decide) rfl ?_
        refine V_aload_n hX dX5_set_46 1 rfl ?_
        refine V_get (v := .ref (m 1)) hX cbX5 0 0 (by decide) wf_X5_7 rfl rfl rfl rfl dX5_set_47 ?_
        refine V_iconst hX dX5_set_50 ?_
        refine V_iload_n hX dX5_set_51 2 rfl ?_
        refine V_iadd hX dX5_set_52 rfl ?_
        refine V_iload_n hX dX5_set_53 3 rfl ?_
        refine V_iast (i0 := c.toNat) (w' := mB G m (up s c.toNat a) s hi sn tx g3 g5 g7 g8 g9 g10 g11 g12 g13) hX 1 rfl (by omega) (by omega) (by omega) (by omega) dX5_set_54 (mB_w1 G _ _ _ _ _ _ _ _ _ _ _ _ _ _ _ _ _) ?_
        refine V_aload_n hX dX5_set_55 1 rfl ?_
        refine V_iload_n hX dX5_set_56 0 rfl ?_
        refine V_iload_n hX dX5_set_57 3 rfl ?_
        refine V_icmp_ne (tgt := 66) hX dX5_set_58 (by decide) (by omega) (by omega) (fun c_6 => ?_) (fun c_6 => ?_)
        · refine V_iload_n hX dX5_set_66 0 rfl ?_
          refine V_cV (st := []) (v := .int (jI ((s c.toNat)))) (w' := mB G m (up s c.toNat a) s (mcH hi g3 s (s c.toNat)) sn tx (mcZ g3 (s c.toNat)) g5 g7 g8 g9 g10 g11 g12 g13) hX wc_X5_111 (c_X5_recorded l G m (up s c.toNat a) s hi sn tx g3 g5 g7 g8 g9 g10 g11 g12 g13 (s c.toNat) (by omega) (by omega)) (by decide) (by decide) rfl rfl (Nat.le_of_ble_eq_true rfl) dX5_set_67 [] ([]) (by simp only [List.append_assoc, List.nil_append, List.append_nil]) 0 rfl rfl (by simp only [List.append_assoc, List.nil_append, List.append_nil]) rfl rfl ?_
          have hr : adR s c a = (s c.toNat) := by unfold adR; (repeat' split) <;> first | rfl | omega
          exact V_iret hX hR dX5_set_70 ⟨congrArg (fun z => some (Value.int (jI z))) hr.symm, _, mB_c (by unfold adS; (repeat' split) <;> first | rfl | omega | exact (up_same (by omega)).symm | exact up_same (by omega)) rfl (by rw [hr]) rfl rfl (by rw [hr]) rfl rfl rfl rfl rfl rfl rfl rfl⟩
        · refine V_bipush hX dX5_set_61 (by decide) ?_
          refine V_goto (tgt := 67) hX dX5_set_63 (by decide) ?_
          refine V_cV (st := []) (v := .int (jI ((-5)))) (w' := mB G m (up s c.toNat a) s (mcH hi g3 s (-5)) sn tx (mcZ g3 (-5)) g5 g7 g8 g9 g10 g11 g12 g13) hX wc_X5_111 (c_X5_recorded l G m (up s c.toNat a) s hi sn tx g3 g5 g7 g8 g9 g10 g11 g12 g13 (-5) (by omega) (by omega)) (by decide) (by decide) rfl rfl (Nat.le_of_ble_eq_true rfl) dX5_set_67 [] ([]) (by simp only [List.append_assoc, List.nil_append, List.append_nil]) 0 rfl rfl (by simp only [List.append_assoc, List.nil_append, List.append_nil]) rfl rfl ?_
          have hr : adR s c a = (-5) := by unfold adR; (repeat' split) <;> first | rfl | omega
          exact V_iret hX hR dX5_set_70 ⟨congrArg (fun z => some (Value.int (jI z))) hr.symm, _, mB_c (by unfold adS; (repeat' split) <;> first | rfl | omega | exact (up_same (by omega)).symm | exact up_same (by omega)) rfl (by rw [hr]) rfl rfl (by rw [hr]) rfl rfl rfl rfl rfl rfl rfl rfl⟩
      · refine V_bipush hX dX5_set_30 (by decide) ?_
        have hr : adR s c a = -2 := by unfold adR; (repeat' split) <;> first | rfl | omega
        exact V_iret hX hR dX5_set_32 ⟨congrArg (fun z => some (Value.int (jI z))) hr.symm, _, mB_c (by unfold adS; (repeat' split) <;> first | rfl | omega | exact (up_same (by omega)).symm | exact up_same (by omega)) rfl (by rw [hr]; exact (if_neg (by omega)).symm) rfl rfl (by rw [hr]; exact (if_neg (by omega)).symm) rfl rfl rfl rfl rfl rfl rfl rfl⟩
  · refine V_iconst hX dX5_set_9 ?_
    have hr : adR s c a = -1 := by unfold adR; (repeat' split) <;> first | rfl | omega
    exact V_iret hX hR dX5_set_10 ⟨congrArg (fun z => some (Value.int (jI z))) hr.symm, _, mB_c (by unfold adS; (repeat' split) <;> first | rfl | omega | exact (up_same (by omega)).symm | exact up_same (by omega)) rfl (by rw [hr]; exact (if_neg (by omega)).symm) rfl rfl (by rw [hr]; exact (if_neg (by omega)).symm) rfl rfl rfl rfl rfl rfl rfl rfl⟩

set_option maxHeartbeats 4000000 in
set_option maxRecDepth 100000 in
theorem c_X5_pass (l : Launch) (G : vC) (m : Nat → Nat) (s : Nat → Int) (sp : Nat → Int) (hi : Nat → Int) (sn : Nat → Int) (tx : Nat → Int) (g3 : Int) (g5 : Int) (g7 : Int) (g8 : Int) (g9 : Int) (g10 : Int) (g11 : Int) (g12 : Int) (g13 : Int) (t : Int) (a : Int) (hI : Inv t s) (ha : iR a) (ht : t = 99999) (hg3 : 0 ≤ g3 ∧ g3 ≤ 4) : Ct l G yX5_pass cX5_pass 2 (some .int) ({ frames := 6, cells := 0, slots := 0, locals := 135 } : Room) [.ref (m 0), .int (jI a)] (mB G m s sp hi sn tx g3 g5 g7 g8 g9 g10 g11 g12 g13) (fun v u => v = some (Value.int (jI (goR s a))) ∧ ∃ sp2 : Nat → Int, u = mB G m (goS s a) sp2 (mcH hi g3 s (goR s a)) sn tx (mcZ g3 (goR s a)) g5 g7 g8 g9 g10 g11 g12 g13) := by
  refine Ct.of (by decide) (Nat.le_of_ble_eq_true rfl) (fun X hX hR => ?_)
  refine V.toLv (lv' := [(0, .ref (m 0)), (1, .int (jI a))]) rfl ?_
  have hb := hI.base
  have hI9 : Inv 99999 s := by rw [← ht]; exact hI
  have htb := goR_b hI9 a
  have htc := goR_b5 hI9 a
  refine V_aload_n hX dX5_pass_0 0 rfl ?_
  refine V_dV (st := []) (w' := mB G m s s hi sn tx g3 g5 g7 g8 g9 g10 g11 g12 g13) hX wc_X5_48 (c_X5_putAside l G m s sp hi sn tx g3 g5 g7 g8 g9 g10 g11 g12 g13 ) (by decide) (by decide) rfl rfl (Nat.le_of_ble_eq_true rfl) dX5_pass_1 [] ([]) (by simp only [List.append_assoc, List.nil_append, List.append_nil]) 0 rfl rfl (by simp only [List.append_assoc, List.nil_append, List.append_nil]) rfl rfl ?_
  refine V_aload_n hX dX5_pass_4 0 rfl ?_
  refine V_aload_n hX dX5_pass_5 0 rfl ?_
  refine V_iload_n hX dX5_pass_6 1 rfl ?_
  refine V_cV (st := [.ref (m 0)]) (v := .int (jI (goR s a))) (w' := mB G m (goS s a) s hi sn tx g3 g5 g7 g8 g9 g10 g11 g12 g13) hX wc_X5_126 (c_X5_doPass l G m s s hi sn tx g3 g5 g7 g8 g9 g10 g11 g12 g13 t a hI (by omega) (by omega)) (by decide) (by decide) rfl rfl (Nat.le_of_ble_eq_true rfl) dX5_pass_7 [] ([]) (by simp only [List.append_assoc, List.nil_append, List.append_nil]) 0 rfl rfl (by simp only [List.append_assoc, List.nil_append, List.append_nil]) rfl rfl ?_
  refine V_cV (st := []) (v := .int (jI ((goR s a)))) (w' := mB G m (goS s a) s (mcH hi g3 s (goR s a)) sn tx (mcZ g3 (goR s a)) g5 g7 g8 g9 g10 g11 g12 g13) hX wc_X5_111 (c_X5_recorded l G m (goS s a) s hi sn tx g3 g5 g7 g8 g9 g10 g11 g12 g13 (goR s a) (by omega) (by omega)) (by decide) (by decide) rfl rfl (Nat.le_of_ble_eq_true rfl) dX5_pass_10 [] ([]) (by simp only [List.append_assoc, List.nil_append, List.append_nil]) 0 rfl rfl (by simp only [List.append_assoc, List.nil_append, List.append_nil]) rfl rfl ?_
  have hr : goR s a = (goR s a) := by rfl
  exact V_iret hX hR dX5_pass_13 ⟨congrArg (fun z => some (Value.int (jI z))) hr.symm, _, mB_c rfl rfl (by rw [hr]) rfl rfl (by rw [hr]) rfl rfl rfl rfl rfl rfl rfl rfl⟩
