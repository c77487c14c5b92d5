/-! the reference reads a text -/
def cdA (tx : Nat → Int) (ln a : Int) : Int := if a < ln then tx a.toNat else 0
theorem cd_ch {tx : Nat → Int} {ln a : Int} (h : SI tx ln) (h0 : 0 ≤ a) : 0 ≤ cdA tx ln a ∧ cdA tx ln a < 65536 ∧ ((a < ln ∧ chA tx ln a = tx a.toNat ∧ cdA tx ln a = tx a.toNat) ∨ (ln ≤ a ∧ chA tx ln a = -1 ∧ cdA tx ln a = 0)) := by
  have h2 := h.2
  unfold cdA chA
  by_cases q : a < ln
  · have h3 := h.1 a.toNat (by omega)
    rw [if_pos q, if_pos ⟨h0, q⟩]
    omega
  · rw [if_neg q, if_neg (fun z => q z.2)]
    omega
theorem dg_c {tx : Nat → Int} {ln a : Int} : (48 ≤ chA tx ln a ∧ chA tx ln a ≤ 57 ∧ dgA tx ln a = chA tx ln a - 48) ∨ ((chA tx ln a < 48 ∨ 57 < chA tx ln a) ∧ dgA tx ln a = -1) := by
  unfold dgA
  split <;> omega
theorem rn_c {tx : Nat → Int} {ln a l m : Int} : ((dgA tx ln a < l ∨ m < dgA tx ln a) ∧ rnV tx ln a l m = -1 ∧ rnA tx ln a l m = a) ∨ (l ≤ dgA tx ln a ∧ dgA tx ln a ≤ m ∧ 0 < dgA tx ln a ∧ 0 ≤ dgA tx ln (a + 1) ∧ 10 * dgA tx ln a + dgA tx ln (a + 1) ≤ m ∧ rnV tx ln a l m = 10 * dgA tx ln a + dgA tx ln (a + 1) ∧ rnA tx ln a l m = a + 2) ∨ (l ≤ dgA tx ln a ∧ dgA tx ln a ≤ m ∧ ¬ (0 < dgA tx ln a ∧ 0 ≤ dgA tx ln (a + 1) ∧ 10 * dgA tx ln a + dgA tx ln (a + 1) ≤ m) ∧ rnV tx ln a l m = dgA tx ln a ∧ rnA tx ln a l m = a + 1) := by
  unfold rnV rnA
  (repeat' split) <;> omega
def nmV (tx : Nat → Int) (ln a l m : Int) : Int := if rnV tx ln a l m = -1 then -5 else rnV tx ln a l m
theorem nm_c {tx : Nat → Int} {ln a l m : Int} : (rnV tx ln a l m = -1 ∧ nmV tx ln a l m = -5) ∨ (rnV tx ln a l m ≠ -1 ∧ nmV tx ln a l m = rnV tx ln a l m) := by
  unfold nmV
  split <;> omega
theorem nm_ok {tx : Nat → Int} {ln a l m : Int} (h : rnV tx ln a l m ≠ -1) : nmV tx ln a l m = rnV tx ln a l m := if_neg h
abbrev pb1 (tx : Nat → Int) (ln b mf sg : Int) : Prop := rnV tx ln b 0 mf ≠ -1 ∧ chA tx ln (rnA tx ln b 0 mf) = sg
abbrev pbO (tx : Nat → Int) (ln b mf sg l m : Int) : Prop := rnV tx ln b 0 mf ≠ -1 ∧ chA tx ln (rnA tx ln b 0 mf) = sg ∧ rnV tx ln (rnA tx ln b 0 mf + 1) l m ≠ -1
def pbA (tx : Nat → Int) (ln b mf sg l m : Int) : Int := if rnV tx ln b 0 mf = -1 ∨ chA tx ln (rnA tx ln b 0 mf) ≠ sg then rnA tx ln b 0 mf else rnA tx ln (rnA tx ln b 0 mf + 1) l m
theorem ch_lt {tx : Nat → Int} {ln a : Int} (h : chA tx ln a ≠ -1) : 0 ≤ a ∧ a < ln := by
  unfold chA at h
  by_cases q : 0 ≤ a ∧ a < ln
  · exact q
  · rw [if_neg q] at h
    exact absurd rfl h
theorem rn_le {tx : Nat → Int} {ln a l m : Int} (hl : 0 ≤ l) (h : rnV tx ln a l m ≠ -1) : a < rnA tx ln a l m ∧ rnA tx ln a l m ≤ ln := by
  have h1 := rn_c (tx := tx) (ln := ln) (a := a) (l := l) (m := m)
  have h2 := dg_c (tx := tx) (ln := ln) (a := a)
  have h3 := dg_c (tx := tx) (ln := ln) (a := a + 1)
  have h4 : chA tx ln a ≠ -1 → 0 ≤ a ∧ a < ln := ch_lt
  have h5 : chA tx ln (a + 1) ≠ -1 → 0 ≤ a + 1 ∧ a + 1 < ln := ch_lt
  omega
theorem pr_le {tx : Nat → Int} {ln a mf sg l m : Int} (hl : 0 ≤ l) (h : prO tx ln a mf sg l m) : a < prA tx ln a mf sg l m ∧ prA tx ln a mf sg l m ≤ ln := by
  have h1 := rn_le (Int.le_refl 0) h.1
  have h2 := rn_le hl h.2.2
  unfold prA
  rw [if_neg (fun z => z.elim h.1 (fun y => y h.2.1))]
  omega
theorem th_le {tx : Nat → Int} {ln a : Int} (h : thO tx ln a) : a < thA tx ln a ∧ thA tx ln a ≤ ln := by
  rcases h with ⟨q, h⟩ | ⟨q, h⟩ | ⟨q, h⟩ | q | ⟨q, h⟩
  · rw [(th_119 q).2.1]; exact pr_le (by decide) h
  · rw [(th_99 q).2.1]; exact pr_le (by decide) h
  · rw [(th_102 q).2.1]; exact pr_le (by decide) h
  · rw [(th_118 q).2.1]
    have := ch_lt (tx := tx) (ln := ln) (a := a) (by omega)
    omega
  · rw [(th_46 q).2.1]
    have := rn_le (by decide) h
    omega
theorem th_lt {tx : Nat → Int} {ln a : Int} (h : thO tx ln a) : a < ln := by
  have := th_le h
  omega
theorem th_k {tx : Nat → Int} {ln a : Int} (h : thO tx ln a) : chA tx ln a = 119 ∨ chA tx ln a = 99 ∨ chA tx ln a = 102 ∨ chA tx ln a = 118 ∨ chA tx ln a = 46 := by
  rcases h with ⟨q, h⟩ | ⟨q, h⟩ | ⟨q, h⟩ | q | ⟨q, h⟩ <;> simp [q]
def mfR (z : Int) : Int := if z = -1 then -5 else z

set_option maxHeartbeats 4000000 in
set_option maxRecDepth 100000 in
theorem c_X5_code (l : Launch) (G : vC) (m : Nat → Nat) (s : Nat → Int) (sp : Nat → Int) (hi : Nat → Int) (sn : Nat → Int) (tx : Nat → Int) (g3 : Int) (g5 : Int) (g7 : Int) (g8 : Int) (g9 : Int) (g10 : Int) (g11 : Int) (g12 : Int) (g13 : Int) (hS : SI tx g7) (h8 : 0 ≤ g8 ∧ g8 ≤ 100000) : Fn l G yX5_code cX5_code 1 (some .int) ({ frames := 0, cells := 0, slots := 0, locals := 0 } : Room) [.ref (m 0)] (mB G m s sp hi sn tx g3 g5 g7 g8 g9 g10 g11 g12 g13) (some (.int (jI (cdA tx g7 g8)))) (mB G m s sp hi sn tx g3 g5 g7 g8 g9 g10 g11 g12 g13) := by
  refine Ct.of (by decide) (Nat.le_of_ble_eq_true rfl) (fun X hX hR => ?_)
  refine V.toLv (lv' := [(0, .ref (m 0))]) rfl ?_
  have hln := hS.2
  have hcc := cd_ch hS h8.1
  refine V_aload_n hX dX5_code_0 0 rfl ?_
  refine V_get (v := .int (jI g8)) hX cbX5 8 0 (by decide) wf_X5_132 rfl rfl rfl rfl dX5_code_1 ?_
  refine V_aload_n hX dX5_code_4 0 rfl ?_
  refine V_get (v := .int (jI g7)) hX cbX5 7 0 (by decide) wf_X5_129 rfl rfl rfl rfl dX5_code_5 ?_
  refine V_icmp_ge (tgt := 23) hX dX5_code_8 (by decide) (by omega) (by omega) (fun c_1 => ?_) (fun c_1 => ?_)
  · refine V_iconst hX dX5_code_23 ?_
    exact V_iret hX hR dX5_code_24 ⟨(congrArg (fun z => some (Value.int (jI z))) (by omega)), rfl⟩
  · have htx := hS.1 g8.toNat (by omega)
    refine V_aload_n hX dX5_code_11 0 rfl ?_
    refine V_get (v := .ref (m 5)) hX cbX5 6 0 (by decide) wf_X5_22 rfl rfl rfl rfl dX5_code_12 ?_
    refine V_aload_n hX dX5_code_15 0 rfl ?_
    refine V_get (v := .int (jI g8)) hX cbX5 8 0 (by decide) wf_X5_132 rfl rfl rfl rfl dX5_code_16 ?_
    refine V_iald (i0 := g8.toNat) (r := (jI (tx g8.toNat))) hX 5 rfl (by omega) (by omega) (by omega) rfl rfl dX5_code_19 ?_
    refine V_goto (tgt := 24) hX dX5_code_20 (by decide) ?_
    exact V_iret hX hR dX5_code_24 ⟨(congrArg (fun z => some (Value.int (jI z))) (by omega)), rfl⟩

set_option maxHeartbeats 4000000 in
set_option maxRecDepth 100000 in
theorem c_X5_takes (l : Launch) (G : vC) (m : Nat → Nat) (s : Nat → Int) (sp : Nat → Int) (hi : Nat → Int) (sn : Nat → Int) (tx : Nat → Int) (g3 : Int) (g5 : Int) (g7 : Int) (g8 : Int) (g9 : Int) (g10 : Int) (g11 : Int) (g12 : Int) (g13 : Int) (c : Int) (hS : SI tx g7) (h8 : 0 ≤ g8 ∧ g8 ≤ 100000) (hc : 1 ≤ c ∧ c < 65536) : Fn l G yX5_takes cX5_takes 3 (some .boolean) ({ frames := 0, cells := 0, slots := 0, locals := 0 } : Room) [.ref (m 0), .int (jI c)] (mB G m s sp hi sn tx g3 g5 g7 g8 g9 g10 g11 g12 g13) (some (.int (jI (bI (chA tx g7 g8 = c))))) (mB G m s sp hi sn tx g3 g5 g7 (if chA tx g7 g8 = c then g8 + 1 else g8) g9 g10 g11 g12 g13) := by
  refine Ct.of (by decide) (Nat.le_of_ble_eq_true rfl) (fun X hX hR => ?_)
  refine V.toLv (lv' := [(0, .ref (m 0)), (1, .int (jI c))]) rfl ?_
  have hln := hS.2
  have hcc := cd_ch hS h8.1
  refine V_aload_n hX dX5_takes_0 0 rfl ?_
  refine V_get (v := .int (jI g8)) hX cbX5 8 0 (by decide) wf_X5_132 rfl rfl rfl rfl dX5_takes_1 ?_
  refine V_aload_n hX dX5_takes_4 0 rfl ?_
  refine V_get (v := .int (jI g7)) hX cbX5 7 0 (by decide) wf_X5_129 rfl rfl rfl rfl dX5_takes_5 ?_
  refine V_icmp_ge (tgt := 28) hX dX5_takes_8 (by decide) (by omega) (by omega) (fun c_1 => ?_) (fun c_1 => ?_)
  · refine V_iconst hX dX5_takes_28 ?_
    refine V_istore_n (i := 2) (lv' := [(2, .int (jI 0)), (0, .ref (m 0)), (1, .int (jI c))]) hX dX5_takes_29 rfl (by decide) rfl ?_
    refine V_aload_n hX dX5_takes_30 1 rfl ?_
    refine V_dup hX dX5_takes_31 rfl ?_
    refine V_get (v := .int (jI g8)) hX cbX5 8 0 (by decide) wf_X5_132 rfl rfl rfl rfl dX5_takes_32 ?_
    refine V_iload_n hX dX5_takes_35 0 rfl ?_
    refine V_if_eq (tgt := 43) hX dX5_takes_36 (by decide) (by decide) (fun c_2 => ?_) (fun c_2 => absurd c_2 (by decide))
    refine V_iconst hX dX5_takes_43 ?_
    refine V_iadd hX dX5_takes_44 rfl ?_
    refine V_put (w' := mB G m s sp hi sn tx g3 g5 g7 (g8 + 0) g9 g10 g11 g12 g13) hX cbX5 8 0 (by decide) wf_X5_132 rfl rfl rfl rfl rfl rfl (Nat.le_of_ble_eq_true rfl) dX5_takes_45 rfl ?_
    refine V_iload_n hX dX5_takes_48 0 rfl ?_
    exact V_zret hX hR rfl dX5_takes_49 ⟨(congrArg (fun z => some (Value.int (jI z))) (bI_f (by omega)).symm), (mB_c rfl rfl rfl rfl rfl rfl rfl rfl (by split <;> omega) rfl rfl rfl rfl rfl)⟩
  · have htx := hS.1 g8.toNat (by omega)
    refine V_aload_n hX dX5_takes_11 0 rfl ?_
    refine V_get (v := .ref (m 5)) hX cbX5 6 0 (by decide) wf_X5_22 rfl rfl rfl rfl dX5_takes_12 ?_
    refine V_aload_n hX dX5_takes_15 0 rfl ?_
    refine V_get (v := .int (jI g8)) hX cbX5 8 0 (by decide) wf_X5_132 rfl rfl rfl rfl dX5_takes_16 ?_
    refine V_iald (i0 := g8.toNat) (r := (jI (tx g8.toNat))) hX 5 rfl (by omega) (by omega) (by omega) rfl rfl dX5_takes_19 ?_
    refine V_iload_n hX dX5_takes_20 1 rfl ?_
    refine V_icmp_ne (tgt := 28) hX dX5_takes_21 (by decide) (by omega) (by omega) (fun c_3 => ?_) (fun c_3 => ?_)
    · refine V_iconst hX dX5_takes_28 ?_
      refine V_istore_n (i := 2) (lv' := [(2, .int (jI 0)), (0, .ref (m 0)), (1, .int (jI c))]) hX dX5_takes_29 rfl (by decide) rfl ?_
      refine V_aload_n hX dX5_takes_30 1 rfl ?_
      refine V_dup hX dX5_takes_31 rfl ?_
      refine V_get (v := .int (jI g8)) hX cbX5 8 0 (by decide) wf_X5_132 rfl rfl rfl rfl dX5_takes_32 ?_
      refine V_iload_n hX dX5_takes_35 0 rfl ?_
      refine V_if_eq (tgt := 43) hX dX5_takes_36 (by decide) (by decide) (fun c_4 => ?_) (fun c_4 => absurd c_4 (by decide))
      refine V_iconst hX dX5_takes_43 ?_
      refine V_iadd hX dX5_takes_44 rfl ?_
      refine V_put (w' := mB G m s sp hi sn tx g3 g5 g7 (g8 + 0) g9 g10 g11 g12 g13) hX cbX5 8 0 (by decide) wf_X5_132 rfl rfl rfl rfl rfl rfl (Nat.le_of_ble_eq_true rfl) dX5_takes_45 rfl ?_
      refine V_iload_n hX dX5_takes_48 0 rfl ?_
      exact V_zret hX hR rfl dX5_takes_49 ⟨(congrArg (fun z => some (Value.int (jI z))) (bI_f (by omega)).symm), (mB_c rfl rfl rfl rfl rfl rfl rfl rfl (by split <;> omega) rfl rfl rfl rfl rfl)⟩
    · refine V_iconst hX dX5_takes_24 ?_
      refine V_goto (tgt := 29) hX dX5_takes_25 (by decide) ?_
      refine V_istore_n (i := 2) (lv' := [(2, .int (jI 1)), (0, .ref (m 0)), (1, .int (jI c))]) hX dX5_takes_29 rfl (by decide) rfl ?_
      refine V_aload_n hX dX5_takes_30 1 rfl ?_
      refine V_dup hX dX5_takes_31 rfl ?_
      refine V_get (v := .int (jI g8)) hX cbX5 8 0 (by decide) wf_X5_132 rfl rfl rfl rfl dX5_takes_32 ?_
      refine V_iload_n hX dX5_takes_35 0 rfl ?_
      refine V_if_eq (tgt := 43) hX dX5_takes_36 (by decide) (by decide) (fun c_5 => absurd c_5 (by decide)) (fun c_5 => ?_)
      refine V_iconst hX dX5_takes_39 ?_
      refine V_goto (tgt := 44) hX dX5_takes_40 (by decide) ?_
      refine V_iadd hX dX5_takes_44 rfl ?_
      refine V_put (w' := mB G m s sp hi sn tx g3 g5 g7 (g8 + 1) g9 g10 g11 g12 g13) hX cbX5 8 0 (by decide) wf_X5_132 rfl rfl rfl rfl rfl rfl (Nat.le_of_ble_eq_true rfl) dX5_takes_45 rfl ?_
      refine V_iload_n hX dX5_takes_48 0 rfl ?_
      exact V_zret hX hR rfl dX5_takes_49 ⟨(congrArg (fun z => some (Value.int (jI z))) (bI_t (by omega)).symm), (mB_c rfl rfl rfl rfl rfl rfl rfl rfl (by split <;> omega) rfl rfl rfl rfl rfl)⟩

set_option maxHeartbeats 4000000 in
set_option maxRecDepth 100000 in
theorem c_X5_readNumber (l : Launch) (G : vC) (m : Nat → Nat) (s : Nat → Int) (sp : Nat → Int) (hi : Nat → Int) (sn : Nat → Int) (tx : Nat → Int) (g3 : Int) (g5 : Int) (g7 : Int) (g8 : Int) (g9 : Int) (g10 : Int) (g11 : Int) (g12 : Int) (g13 : Int) (lo : Int) (mo : Int) (hS : SI tx g7) (h8 : 0 ≤ g8 ∧ g8 ≤ 100000) (hl : 0 ≤ lo ∧ lo ≤ 9) (hm : 0 ≤ mo ∧ mo ≤ 99) : Fn l G yX5_readNumber cX5_readNumber 5 (some .int) ({ frames := 1, cells := 0, slots := 0, locals := 22 } : Room) [.ref (m 0), .int (jI lo), .int (jI mo)] (mB G m s sp hi sn tx g3 g5 g7 g8 g9 g10 g11 g12 g13) (some (.int (jI (nmV tx g7 g8 lo mo)))) (mB G m s sp hi sn tx g3 g5 g7 (rnA tx g7 g8 lo mo) g9 g10 g11 g12 g13) := by
  refine Ct.of (by decide) (Nat.le_of_ble_eq_true rfl) (fun X hX hR => ?_)
  refine V.toLv (lv' := [(0, .ref (m 0)), (1, .int (jI lo)), (2, .int (jI mo))]) rfl ?_
  have hln := hS.2
  have hcc := cd_ch hS h8.1
  have hcc2 := cd_ch hS (show 0 ≤ g8 + 1 by omega)
  have hd1 := dg_c (tx := tx) (ln := g7) (a := g8)
  have hd2 := dg_c (tx := tx) (ln := g7) (a := g8 + 1)
  have hrn := rn_c (tx := tx) (ln := g7) (a := g8) (l := lo) (m := mo)
  have hnm := nm_c (tx := tx) (ln := g7) (a := g8) (l := lo) (m := mo)
  refine V_aload_n hX dX5_readNumber_0 0 rfl ?_
  refine V_cV (st := []) (v := .int (jI (cdA tx g7 g8))) (w' := mB G m s sp hi sn tx g3 g5 g7 g8 g9 g10 g11 g12 g13) hX wc_X5_135 (c_X5_code l G m s sp hi sn tx g3 g5 g7 g8 g9 g10 g11 g12 g13 hS (by omega)) (by decide) (by decide) rfl rfl (Nat.le_of_ble_eq_true rfl) dX5_readNumber_1 [] ([]) (by simp only [List.append_assoc, List.nil_append, List.append_nil]) 0 rfl rfl (by simp only [List.append_assoc, List.nil_append, List.append_nil]) rfl rfl ?_
  refine V_bipush hX dX5_readNumber_4 (by decide) ?_
  refine V_isub hX dX5_readNumber_6 rfl ?_
  refine V_istore_n (i := 3) (lv' := [(3, .int (jI ((cdA tx g7 g8) - 48))), (0, .ref (m 0)), (1, .int (jI lo)), (2, .int (jI mo))]) hX dX5_readNumber_7 rfl (by decide) rfl ?_
  refine V_iload_n hX dX5_readNumber_8 0 rfl ?_
  refine V_iload_n hX dX5_readNumber_9 2 rfl ?_
  refine V_bipush hX dX5_readNumber_10 (by decide) ?_
  refine V_cS (st := []) (v := .int (jI (bI (lo ≤ ((cdA tx g7 g8) - 48) ∧ ((cdA tx g7 g8) - 48) ≤ 9)))) (w' := mB G m s sp hi sn tx g3 g5 g7 g8 g9 g10 g11 g12 g13) hX wc_X5_25 (c_X5_within l G ((cdA tx g7 g8) - 48) lo 9 (by omega) (by omega) (by omega)) (by decide) (by decide) rfl rfl (Nat.le_of_ble_eq_true rfl) dX5_readNumber_12 [] (mB G m s sp hi sn tx g3 g5 g7 g8 g9 g10 g11 g12 g13) (by simp only [List.append_assoc, List.nil_append, List.append_nil]) (by simp only [List.append_assoc, List.nil_append, List.append_nil]) rfl rfl ?_
  refine V_ifz (tgt := 23) hX dX5_readNumber_15 (by decide) (fun c_1 => ?_) (fun c_1 => ?_)
  · refine V_bipush hX dX5_readNumber_23 (by decide) ?_
    exact V_iret hX hR dX5_readNumber_25 ⟨(congrArg (fun z => some (Value.int (jI z))) (by omega)), (mB_c rfl rfl rfl rfl rfl rfl rfl rfl (by omega) rfl rfl rfl rfl rfl)⟩
  · refine V_iload_n hX dX5_readNumber_18 0 rfl ?_
    refine V_iload_n hX dX5_readNumber_19 3 rfl ?_
    refine V_icmp_le (tgt := 26) hX dX5_readNumber_20 (by decide) (by omega) (by omega) (fun c_2 => ?_) (fun c_2 => ?_)
    · refine V_aload_n hX dX5_readNumber_26 1 rfl ?_
      refine V_dup hX dX5_readNumber_27 rfl ?_
      refine V_get (v := .int (jI g8)) hX cbX5 8 0 (by decide) wf_X5_132 rfl rfl rfl rfl dX5_readNumber_28 ?_
      refine V_iconst hX dX5_readNumber_31 ?_
      refine V_iadd hX dX5_readNumber_32 rfl ?_
      refine V_put (w' := mB G m s sp hi sn tx g3 g5 g7 (g8 + 1) g9 g10 g11 g12 g13) hX cbX5 8 0 (by decide) wf_X5_132 rfl rfl rfl rfl rfl rfl (Nat.le_of_ble_eq_true rfl) dX5_readNumber_33 rfl ?_
      refine V_aload_n hX dX5_readNumber_36 1 rfl ?_
      refine V_cV (st := []) (v := .int (jI (cdA tx g7 (g8 + 1)))) (w' := mB G m s sp hi sn tx g3 g5 g7 (g8 + 1) g9 g10 g11 g12 g13) hX wc_X5_135 (c_X5_code l G m s sp hi sn tx g3 g5 g7 (g8 + 1) g9 g10 g11 g12 g13 hS (by omega)) (by decide) (by decide) rfl rfl (Nat.le_of_ble_eq_true rfl) dX5_readNumber_37 [] ([]) (by simp only [List.append_assoc, List.nil_append, List.append_nil]) 0 rfl rfl (by simp only [List.append_assoc, List.nil_append, List.append_nil]) rfl rfl ?_
      refine V_bipush hX dX5_readNumber_40 (by decide) ?_
      refine V_isub hX dX5_readNumber_42 rfl ?_
      refine V_istore (i := 4) (lv' := [(4, .int (jI ((cdA tx g7 (g8 + 1)) - 48))), (3, .int (jI ((cdA tx g7 g8) - 48))), (0, .ref (m 0)), (1, .int (jI lo)), (2, .int (jI mo))]) hX dX5_readNumber_43 (by decide) rfl ?_
      refine V_iload_n hX dX5_readNumber_45 1 rfl ?_
      refine V_if_le (tgt := 89) hX dX5_readNumber_46 (by decide) (by omega) (fun c_3 => ?_) (fun c_3 => ?_)
      · refine V_iload_n hX dX5_readNumber_89 1 rfl ?_
        exact V_iret hX hR dX5_readNumber_90 ⟨(congrArg (fun z => some (Value.int (jI z))) (by omega)), (mB_c rfl rfl rfl rfl rfl rfl rfl rfl (by omega) rfl rfl rfl rfl rfl)⟩
      · refine V_iload hX dX5_readNumber_49 0 rfl ?_
        refine V_iconst hX dX5_readNumber_51 ?_
        refine V_bipush hX dX5_readNumber_52 (by decide) ?_
        refine V_cS (st := []) (v := .int (jI (bI (0 ≤ ((cdA tx g7 (g8 + 1)) - 48) ∧ ((cdA tx g7 (g8 + 1)) - 48) ≤ 9)))) (w' := mB G m s sp hi sn tx g3 g5 g7 (g8 + 1) g9 g10 g11 g12 g13) hX wc_X5_25 (c_X5_within l G ((cdA tx g7 (g8 + 1)) - 48) 0 9 (by omega) (by omega) (by omega)) (by decide) (by decide) rfl rfl (Nat.le_of_ble_eq_true rfl) dX5_readNumber_54 [] (mB G m s sp hi sn tx g3 g5 g7 (g8 + 1) g9 g10 g11 g12 g13) (by simp only [List.append_assoc, List.nil_append, List.append_nil]) (by simp only [List.append_assoc, List.nil_append, List.append_nil]) rfl rfl ?_
        refine V_ifz (tgt := 89) hX dX5_readNumber_57 (by decide) (fun c_4 => ?_) (fun c_4 => ?_)
        · refine V_iload_n hX dX5_readNumber_89 1 rfl ?_
          exact V_iret hX hR dX5_readNumber_90 ⟨(congrArg (fun z => some (Value.int (jI z))) (by omega)), (mB_c rfl rfl rfl rfl rfl rfl rfl rfl (by omega) rfl rfl rfl rfl rfl)⟩
        · refine V_bipush hX dX5_readNumber_60 (by decide) ?_
          refine V_iload_n hX dX5_readNumber_62 1 rfl ?_
          refine V_imul hX dX5_readNumber_63 rfl ?_
          refine V_iload hX dX5_readNumber_64 0 rfl ?_
          refine V_iadd hX dX5_readNumber_66 rfl ?_
          refine V_iload_n hX dX5_readNumber_67 4 rfl ?_
          refine V_icmp_gt (tgt := 89) hX dX5_readNumber_68 (by decide) (by omega) (by omega) (fun c_5 => ?_) (fun c_5 => ?_)
          · refine V_iload_n hX dX5_readNumber_89 1 rfl ?_
            exact V_iret hX hR dX5_readNumber_90 ⟨(congrArg (fun z => some (Value.int (jI z))) (by omega)), (mB_c rfl rfl rfl rfl rfl rfl rfl rfl (by omega) rfl rfl rfl rfl rfl)⟩
          · refine V_bipush hX dX5_readNumber_71 (by decide) ?_
            refine V_iload_n hX dX5_readNumber_73 1 rfl ?_
            refine V_imul hX dX5_readNumber_74 rfl ?_
            refine V_iload hX dX5_readNumber_75 0 rfl ?_
            refine V_iadd hX dX5_readNumber_77 rfl ?_
            refine V_istore_n (i := 3) (lv' := [(3, .int (jI ((10 * ((cdA tx g7 g8) - 48)) + ((cdA tx g7 (g8 + 1)) - 48)))), (4, .int (jI ((cdA tx g7 (g8 + 1)) - 48))), (0, .ref (m 0)), (1, .int (jI lo)), (2, .int (jI mo))]) hX dX5_readNumber_78 rfl (by decide) rfl ?_
            refine V_aload_n hX dX5_readNumber_79 2 rfl ?_
            refine V_dup hX dX5_readNumber_80 rfl ?_
            refine V_get (v := .int (jI (g8 + 1))) hX cbX5 8 0 (by decide) wf_X5_132 rfl rfl rfl rfl dX5_readNumber_81 ?_
            refine V_iconst hX dX5_readNumber_84 ?_
            refine V_iadd hX dX5_readNumber_85 rfl ?_
            refine V_put (w' := mB G m s sp hi sn tx g3 g5 g7 ((g8 + 1) + 1) g9 g10 g11 g12 g13) hX cbX5 8 0 (by decide) wf_X5_132 rfl rfl rfl rfl rfl rfl (Nat.le_of_ble_eq_true rfl) dX5_readNumber_86 rfl ?_
            refine V_iload_n hX dX5_readNumber_89 0 rfl ?_
            exact V_iret hX hR dX5_readNumber_90 ⟨(congrArg (fun z => some (Value.int (jI z))) (by omega)), (mB_c rfl rfl rfl rfl rfl rfl rfl rfl (by omega) rfl rfl rfl rfl rfl)⟩
    · refine V_bipush hX dX5_readNumber_23 (by decide) ?_
      exact V_iret hX hR dX5_readNumber_25 ⟨(congrArg (fun z => some (Value.int (jI z))) (by omega)), (mB_c rfl rfl rfl rfl rfl rfl rfl rfl (by omega) rfl rfl rfl rfl rfl)⟩

set_option maxHeartbeats 4000000 in
set_option maxRecDepth 100000 in
theorem c_X5_readsBoth (l : Launch) (G : vC) (m : Nat → Nat) (s : Nat → Int) (sp : Nat → Int) (hi : Nat → Int) (sn : Nat → Int) (tx : Nat → Int) (g3 : Int) (g5 : Int) (g7 : Int) (g8 : Int) (g9 : Int) (g10 : Int) (g11 : Int) (g12 : Int) (g13 : Int) (mf : Int) (sg : Int) (lo : Int) (mo : Int) (hS : SI tx g7) (h8 : 0 ≤ g8 ∧ g8 ≤ 100000) (hmf : 0 ≤ mf ∧ mf ≤ 99) (hsg : 1 ≤ sg ∧ sg < 65536) (hl : 0 ≤ lo ∧ lo ≤ 9) (hm : 0 ≤ mo ∧ mo ≤ 99) : Fn l G yX5_readsBoth cX5_readsBoth 5 (some .boolean) ({ frames := 2, cells := 0, slots := 0, locals := 46 } : Room) [.ref (m 0), .int (jI mf), .int (jI sg), .int (jI lo), .int (jI mo)] (mB G m s sp hi sn tx g3 g5 g7 g8 g9 g10 g11 g12 g13) (some (.int (jI (bI (pbO tx g7 g8 mf sg lo mo))))) (mB G m s sp hi sn tx g3 g5 g7 (pbA tx g7 g8 mf sg lo mo) g9 (nmV tx g7 g8 0 mf) (if pb1 tx g7 g8 mf sg then nmV tx g7 (rnA tx g7 g8 0 mf + 1) lo mo else g11) g12 g13) := by
  refine Ct.of (by decide) (Nat.le_of_ble_eq_true rfl) (fun X hX hR => ?_)
  refine V.toLv (lv' := [(0, .ref (m 0)), (1, .int (jI mf)), (2, .int (jI sg)), (3, .int (jI lo)), (4, .int (jI mo))]) rfl ?_
  have hln := hS.2
  have hcc := cd_ch hS h8.1
  have hrl : rnV tx g7 g8 0 mf ≠ -1 → g8 < rnA tx g7 g8 0 mf ∧ rnA tx g7 g8 0 mf ≤ g7 := rn_le (Int.le_refl 0)
  have hn1 := nm_c (tx := tx) (ln := g7) (a := g8) (l := 0) (m := mf)
  have hn2 := nm_c (tx := tx) (ln := g7) (a := rnA tx g7 g8 0 mf + 1) (l := lo) (m := mo)
  have hv1 := rnV_b (tx := tx) (ln := g7) (a := g8) (l := 0) (m := mf) (by omega) (by omega) (by omega)
  have hr1 := rnA_b (tx := tx) (ln := g7) (a := g8) (l := 0) (m := mf)
  have hv2 := rnV_b (tx := tx) (ln := g7) (a := rnA tx g7 g8 0 mf + 1) (l := lo) (m := mo) (by omega) (by omega) (by omega)
  refine V_aload_n hX dX5_readsBoth_0 0 rfl ?_
  refine V_aload_n hX dX5_readsBoth_1 0 rfl ?_
  refine V_iconst hX dX5_readsBoth_2 ?_
  refine V_iload_n hX dX5_readsBoth_3 1 rfl ?_
  refine V_cV (st := [.ref (m 0)]) (v := .int (jI (nmV tx g7 g8 0 mf))) (w' := mB G m s sp hi sn tx g3 g5 g7 (rnA tx g7 g8 0 mf) g9 g10 g11 g12 g13) hX wc_X5_138 (c_X5_readNumber l G m s sp hi sn tx g3 g5 g7 g8 g9 g10 g11 g12 g13 0 mf hS (by omega) (by omega) (by omega)) (by decide) (by decide) rfl rfl (Nat.le_of_ble_eq_true rfl) dX5_readsBoth_4 [] ([]) (by simp only [List.append_assoc, List.nil_append, List.append_nil]) 0 rfl rfl (by simp only [List.append_assoc, List.nil_append, List.append_nil]) rfl rfl ?_
  refine V_put (w' := mB G m s sp hi sn tx g3 g5 g7 (rnA tx g7 g8 0 mf) g9 (nmV tx g7 g8 0 mf) g11 g12 g13) hX cbX5 10 0 (by decide) wf_X5_141 rfl rfl rfl rfl rfl rfl (Nat.le_of_ble_eq_true rfl) dX5_readsBoth_7 rfl ?_
  refine V_aload_n hX dX5_readsBoth_10 0 rfl ?_
  refine V_get (v := .int (jI (nmV tx g7 g8 0 mf))) hX cbX5 10 0 (by decide) wf_X5_141 rfl rfl rfl rfl dX5_readsBoth_11 ?_
  refine V_bipush hX dX5_readsBoth_14 (by decide) ?_
  refine V_icmp_eq (tgt := 27) hX dX5_readsBoth_16 (by decide) (by omega) (by decide) (fun c_1 => ?_) (fun c_1 => ?_)
  · refine V_iconst hX dX5_readsBoth_27 ?_
    exact V_zret hX hR rfl dX5_readsBoth_28 ⟨(congrArg (fun z => some (Value.int (jI z))) (bI_f (by omega)).symm), (mB_c rfl rfl rfl rfl rfl rfl rfl rfl (by unfold pbA; split <;> omega) rfl rfl (by split <;> omega) rfl rfl)⟩
  · refine V_aload_n hX dX5_readsBoth_19 0 rfl ?_
    refine V_iload_n hX dX5_readsBoth_20 2 rfl ?_
    refine V_cV (st := []) (v := .int (jI (bI (chA tx g7 (rnA tx g7 g8 0 mf) = sg)))) (w' := mB G m s sp hi sn tx g3 g5 g7 (if chA tx g7 (rnA tx g7 g8 0 mf) = sg then (rnA tx g7 g8 0 mf) + 1 else (rnA tx g7 g8 0 mf)) g9 (nmV tx g7 g8 0 mf) g11 g12 g13) hX wc_X5_144 (c_X5_takes l G m s sp hi sn tx g3 g5 g7 (rnA tx g7 g8 0 mf) g9 (nmV tx g7 g8 0 mf) g11 g12 g13 sg hS (by omega) (by omega)) (by decide) (by decide) rfl rfl (Nat.le_of_ble_eq_true rfl) dX5_readsBoth_21 [] ([]) (by simp only [List.append_assoc, List.nil_append, List.append_nil]) 0 rfl rfl (by simp only [List.append_assoc, List.nil_append, List.append_nil]) rfl rfl ?_
    refine V_ifnz (tgt := 29) hX dX5_readsBoth_24 (by decide) (fun c_2 => ?_) (fun c_2 => ?_)
    · refine V.wd (w' := mB G m s sp hi sn tx g3 g5 g7 ((rnA tx g7 g8 0 mf) + 1) g9 (nmV tx g7 g8 0 mf) g11 g12 g13) (mB_c rfl rfl rfl rfl rfl rfl rfl rfl (if_pos (by assumption)) rfl rfl rfl rfl rfl) ?_
      refine V_aload_n hX dX5_readsBoth_29 0 rfl ?_
      refine V_aload_n hX dX5_readsBoth_30 0 rfl ?_
      refine V_iload_n hX dX5_readsBoth_31 3 rfl ?_
      refine V_iload hX dX5_readsBoth_32 4 rfl ?_
      refine V_cV (st := [.ref (m 0)]) (v := .int (jI (nmV tx g7 ((rnA tx g7 g8 0 mf) + 1) lo mo))) (w' := mB G m s sp hi sn tx g3 g5 g7 (rnA tx g7 ((rnA tx g7 g8 0 mf) + 1) lo mo) g9 (nmV tx g7 g8 0 mf) g11 g12 g13) hX wc_X5_138 (c_X5_readNumber l G m s sp hi sn tx g3 g5 g7 ((rnA tx g7 g8 0 mf) + 1) g9 (nmV tx g7 g8 0 mf) g11 g12 g13 lo mo hS (by omega) (by omega) (by omega)) (by decide) (by decide) rfl rfl (Nat.le_of_ble_eq_true rfl) dX5_readsBoth_34 [] ([]) (by simp only [List.append_assoc, List.nil_append, List.append_nil]) 0 rfl rfl (by simp only [List.append_assoc, List.nil_append, List.append_nil]) rfl rfl ?_
      refine V_put (w' := mB G m s sp hi sn tx g3 g5 g7 (rnA tx g7 ((rnA tx g7 g8 0 mf) + 1) lo mo) g9 (nmV tx g7 g8 0 mf) (nmV tx g7 ((rnA tx g7 g8 0 mf) + 1) lo mo) g12 g13) hX cbX5 11 0 (by decide) wf_X5_147 rfl rfl rfl rfl rfl rfl (Nat.le_of_ble_eq_true rfl) dX5_readsBoth_37 rfl ?_
      refine V_aload_n hX dX5_readsBoth_40 0 rfl ?_
      refine V_get (v := .int (jI (nmV tx g7 ((rnA tx g7 g8 0 mf) + 1) lo mo))) hX cbX5 11 0 (by decide) wf_X5_147 rfl rfl rfl rfl dX5_readsBoth_41 ?_
      refine V_bipush hX dX5_readsBoth_44 (by decide) ?_
      refine V_icmp_eq (tgt := 53) hX dX5_readsBoth_46 (by decide) (by omega) (by decide) (fun c_3 => ?_) (fun c_3 => ?_)
      · refine V_iconst hX dX5_readsBoth_53 ?_
        exact V_zret hX hR rfl dX5_readsBoth_54 ⟨(congrArg (fun z => some (Value.int (jI z))) (bI_f (by omega)).symm), (mB_c rfl rfl rfl rfl rfl rfl rfl rfl (by unfold pbA; split <;> omega) rfl rfl (by split <;> omega) rfl rfl)⟩
      · refine V_iconst hX dX5_readsBoth_49 ?_
        refine V_goto (tgt := 54) hX dX5_readsBoth_50 (by decide) ?_
        exact V_zret hX hR rfl dX5_readsBoth_54 ⟨(congrArg (fun z => some (Value.int (jI z))) (bI_t (by omega)).symm), (mB_c rfl rfl rfl rfl rfl rfl rfl rfl (by unfold pbA; split <;> omega) rfl rfl (by split <;> omega) rfl rfl)⟩
    · refine V.wd (w' := mB G m s sp hi sn tx g3 g5 g7 (rnA tx g7 g8 0 mf) g9 (nmV tx g7 g8 0 mf) g11 g12 g13) (mB_c rfl rfl rfl rfl rfl rfl rfl rfl (if_neg (by assumption)) rfl rfl rfl rfl rfl) ?_
      refine V_iconst hX dX5_readsBoth_27 ?_
      exact V_zret hX hR rfl dX5_readsBoth_28 ⟨(congrArg (fun z => some (Value.int (jI z))) (bI_f (by omega)).symm), (mB_c rfl rfl rfl rfl rfl rfl rfl rfl (by unfold pbA; split <;> omega) rfl rfl (by split <;> omega) rfl rfl)⟩

set_option maxHeartbeats 4000000 in
set_option maxRecDepth 100000 in
theorem c_X5_readsThing (l : Launch) (G : vC) (m : Nat → Nat) (s : Nat → Int) (sp : Nat → Int) (hi : Nat → Int) (sn : Nat → Int) (tx : Nat → Int) (g3 : Int) (g5 : Int) (g7 : Int) (g8 : Int) (g9 : Int) (g10 : Int) (g11 : Int) (g12 : Int) (g13 : Int) (hS : SI tx g7) (h8 : 0 ≤ g8 ∧ g8 ≤ 100000) (hx : -5 ≤ g10 ∧ g10 ≤ 99) (hy : -5 ≤ g11 ∧ g11 ≤ 99) : Ct l G yX5_readsThing cX5_readsThing 1 (some .boolean) ({ frames := 3, cells := 0, slots := 0, locals := 70 } : Room) [.ref (m 0)] (mB G m s sp hi sn tx g3 g5 g7 g8 g9 g10 g11 g12 g13) (fun v u => ∃ x y : Int, v = some (Value.int (jI (bI (thO tx g7 g8)))) ∧ (thO tx g7 g8 → cdA tx g7 g8 = chA tx g7 g8 ∧ (cdA tx g7 g8 ≠ 118 → x = thF tx g7 g8) ∧ ((cdA tx g7 g8 = 119 ∨ cdA tx g7 g8 = 99 ∨ cdA tx g7 g8 = 102) → y = thG tx g7 g8)) ∧ (-5 ≤ x ∧ x ≤ 99 ∧ -5 ≤ y ∧ y ≤ 99) ∧ u = mB G m s sp hi sn tx g3 g5 g7 (thA tx g7 g8) (cdA tx g7 g8) x y g12 g13) := by
  refine Ct.of (by decide) (Nat.le_of_ble_eq_true rfl) (fun X hX hR => ?_)
  refine V.toLv (lv' := [(0, .ref (m 0))]) rfl ?_
  have hln := hS.2
  have hcc := cd_ch hS h8.1
  have hn46 := nm_c (tx := tx) (ln := g7) (a := g8 + 1) (l := 1) (m := 99)
  have hv46 := rnV_b (tx := tx) (ln := g7) (a := g8 + 1) (l := 1) (m := 99) (by decide) (by decide) (by decide)
  refine V_aload_n hX dX5_readsThing_0 0 rfl ?_
  refine V_aload_n hX dX5_readsThing_1 0 rfl ?_
  refine V_cV (st := [.ref (m 0)]) (v := .int (jI (cdA tx g7 g8))) (w' := mB G m s sp hi sn tx g3 g5 g7 g8 g9 g10 g11 g12 g13) hX wc_X5_135 (c_X5_code l G m s sp hi sn tx g3 g5 g7 g8 g9 g10 g11 g12 g13 hS (by omega)) (by decide) (by decide) rfl rfl (Nat.le_of_ble_eq_true rfl) dX5_readsThing_2 [] ([]) (by simp only [List.append_assoc, List.nil_append, List.append_nil]) 0 rfl rfl (by simp only [List.append_assoc, List.nil_append, List.append_nil]) rfl rfl ?_
  refine V_put (w' := mB G m s sp hi sn tx g3 g5 g7 g8 (cdA tx g7 g8) g10 g11 g12 g13) hX cbX5 9 0 (by decide) wf_X5_150 rfl rfl rfl rfl rfl rfl (Nat.le_of_ble_eq_true rfl) dX5_readsThing_5 rfl ?_
  refine V_aload_n hX dX5_readsThing_8 0 rfl ?_
  refine V_get (v := .int (jI (cdA tx g7 g8))) hX cbX5 9 0 (by decide) wf_X5_150 rfl rfl rfl rfl dX5_readsThing_9 ?_
  by_cases c_1 : cdA tx g7 g8 = 46
  · refine V_lookup (tgt := 128) hX dX5_readsThing_12 (by omega) (by decide) (by rw [c_1] <;> rfl) (by decide) ?_
    refine V_aload_n hX dX5_readsThing_128 0 rfl ?_
    refine V_dup hX dX5_readsThing_129 rfl ?_
    refine V_get (v := .int (jI g8)) hX cbX5 8 0 (by decide) wf_X5_132 rfl rfl rfl rfl dX5_readsThing_130 ?_
    refine V_iconst hX dX5_readsThing_133 ?_
    refine V_iadd hX dX5_readsThing_134 rfl ?_
    refine V_put (w' := mB G m s sp hi sn tx g3 g5 g7 (g8 + 1) (cdA tx g7 g8) g10 g11 g12 g13) hX cbX5 8 0 (by decide) wf_X5_132 rfl rfl rfl rfl rfl rfl (Nat.le_of_ble_eq_true rfl) dX5_readsThing_135 rfl ?_
    refine V_aload_n hX dX5_readsThing_138 0 rfl ?_
    refine V_aload_n hX dX5_readsThing_139 0 rfl ?_
    refine V_iconst hX dX5_readsThing_140 ?_
    refine V_bipush hX dX5_readsThing_141 (by decide) ?_
    refine V_cV (st := [.ref (m 0)]) (v := .int (jI (nmV tx g7 (g8 + 1) 1 99))) (w' := mB G m s sp hi sn tx g3 g5 g7 (rnA tx g7 (g8 + 1) 1 99) (cdA tx g7 g8) g10 g11 g12 g13) hX wc_X5_138 (c_X5_readNumber l G m s sp hi sn tx g3 g5 g7 (g8 + 1) (cdA tx g7 g8) g10 g11 g12 g13 1 99 hS (by omega) (by omega) (by omega)) (by decide) (by decide) rfl rfl (Nat.le_of_ble_eq_true rfl) dX5_readsThing_143 [] ([]) (by simp only [List.append_assoc, List.nil_append, List.append_nil]) 0 rfl rfl (by simp only [List.append_assoc, List.nil_append, List.append_nil]) rfl rfl ?_
    refine V_put (w' := mB G m s sp hi sn tx g3 g5 g7 (rnA tx g7 (g8 + 1) 1 99) (cdA tx g7 g8) (nmV tx g7 (g8 + 1) 1 99) g11 g12 g13) hX cbX5 10 0 (by decide) wf_X5_141 rfl rfl rfl rfl rfl rfl (Nat.le_of_ble_eq_true rfl) dX5_readsThing_146 rfl ?_
    refine V_aload_n hX dX5_readsThing_149 0 rfl ?_
    refine V_get (v := .int (jI (nmV tx g7 (g8 + 1) 1 99))) hX cbX5 10 0 (by decide) wf_X5_141 rfl rfl rfl rfl dX5_readsThing_150 ?_
    refine V_bipush hX dX5_readsThing_153 (by decide) ?_
    refine V_icmp_eq (tgt := 162) hX dX5_readsThing_155 (by decide) (by omega) (by decide) (fun c_2 => ?_) (fun c_2 => ?_)
    · refine V_iconst hX dX5_readsThing_162 ?_
      have hq := th_46 (tx := tx) (ln := g7) (a := g8) (by omega)
      obtain ⟨q1, q2, q3, q4⟩ := hq
      exact V_zret hX hR rfl dX5_readsThing_163 ⟨(nmV tx g7 (g8 + 1) 1 99), g11, congrArg (fun z => some (Value.int (jI z))) (bI_f (fun z => absurd (q1.mp z) (by omega))).symm, fun h => ⟨by omega, fun _ => by rw [nm_ok (q1.mp h), q3], fun z => by omega⟩, ⟨by omega, by omega, by omega, by omega⟩, mB_c rfl rfl rfl rfl rfl rfl rfl rfl q2.symm rfl rfl rfl rfl rfl⟩
    · refine V_iconst hX dX5_readsThing_158 ?_
      refine V_goto (tgt := 163) hX dX5_readsThing_159 (by decide) ?_
      have hq := th_46 (tx := tx) (ln := g7) (a := g8) (by omega)
      obtain ⟨q1, q2, q3, q4⟩ := hq
      exact V_zret hX hR rfl dX5_readsThing_163 ⟨(nmV tx g7 (g8 + 1) 1 99), g11, congrArg (fun z => some (Value.int (jI z))) (bI_t (q1.mpr (by omega))).symm, fun h => ⟨by omega, fun _ => by rw [nm_ok (q1.mp h), q3], fun z => by omega⟩, ⟨by omega, by omega, by omega, by omega⟩, mB_c rfl rfl rfl rfl rfl rfl rfl rfl q2.symm rfl rfl rfl rfl rfl⟩
  by_cases c_3 : cdA tx g7 g8 = 99
  · refine V_lookup (tgt := 85) hX dX5_readsThing_12 (by omega) (by decide) (by rw [c_3] <;> rfl) (by decide) ?_
    refine V_aload_n hX dX5_readsThing_85 0 rfl ?_
    refine V_dup hX dX5_readsThing_86 rfl ?_
    refine V_get (v := .int (jI g8)) hX cbX5 8 0 (by decide) wf_X5_132 rfl rfl rfl rfl dX5_readsThing_87 ?_
    refine V_iconst hX dX5_readsThing_90 ?_
    refine V_iadd hX dX5_readsThing_91 rfl ?_
    refine V_put (w' := mB G m s sp hi sn tx g3 g5 g7 (g8 + 1) (cdA tx g7 g8) g10 g11 g12 g13) hX cbX5 8 0 (by decide) wf_X5_132 rfl rfl rfl rfl rfl rfl (Nat.le_of_ble_eq_true rfl) dX5_readsThing_92 rfl ?_
    refine V_aload_n hX dX5_readsThing_95 0 rfl ?_
    refine V_bipush hX dX5_readsThing_96 (by decide) ?_
    refine V_bipush hX dX5_readsThing_98 (by decide) ?_
    refine V_iconst hX dX5_readsThing_100 ?_
    refine V_iconst hX dX5_readsThing_101 ?_
    refine V_cV (st := []) (v := .int (jI (bI (pbO tx g7 (g8 + 1) 11 58 0 3)))) (w' := mB G m s sp hi sn tx g3 g5 g7 (pbA tx g7 (g8 + 1) 11 58 0 3) (cdA tx g7 g8) (nmV tx g7 (g8 + 1) 0 11) (if pb1 tx g7 (g8 + 1) 11 58 then nmV tx g7 (rnA tx g7 (g8 + 1) 0 11 + 1) 0 3 else g11) g12 g13) hX wc_X5_153 (c_X5_readsBoth l G m s sp hi sn tx g3 g5 g7 (g8 + 1) (cdA tx g7 g8) g10 g11 g12 g13 11 58 0 3 hS (by omega) (by omega) (by omega) (by omega) (by omega)) (by decide) (by decide) rfl rfl (Nat.le_of_ble_eq_true rfl) dX5_readsThing_102 [] ([]) (by simp only [List.append_assoc, List.nil_append, List.append_nil]) 0 rfl rfl (by simp only [List.append_assoc, List.nil_append, List.append_nil]) rfl rfl ?_
    have hq := th_99 (tx := tx) (ln := g7) (a := g8) (by omega)
    obtain ⟨q1, q2, q3, q4⟩ := hq
    have hxb := nm_c (tx := tx) (ln := g7) (a := g8 + 1) (l := 0) (m := 11)
    have hxv := rnV_b (tx := tx) (ln := g7) (a := g8 + 1) (l := 0) (m := 11) (by decide) (by decide) (by decide)
    have hyb := nm_c (tx := tx) (ln := g7) (a := rnA tx g7 (g8 + 1) 0 11 + 1) (l := 0) (m := 3)
    have hyv := rnV_b (tx := tx) (ln := g7) (a := rnA tx g7 (g8 + 1) 0 11 + 1) (l := 0) (m := 3) (by decide) (by decide) (by decide)
    exact V_zret hX hR (nb_bI _) dX5_readsThing_105 ⟨(nmV tx g7 (g8 + 1) 0 11), (if pb1 tx g7 (g8 + 1) 11 58 then nmV tx g7 (rnA tx g7 (g8 + 1) 0 11 + 1) 0 3 else g11), congrArg (fun z => some (Value.int (jI z))) (bI_c q1.symm), fun h => ⟨by omega, fun _ => by rw [nm_ok (q1.mp h).1, q3], fun _ => by rw [if_pos ⟨(q1.mp h).1, (q1.mp h).2.1⟩, nm_ok (q1.mp h).2.2, q4]⟩, ⟨by omega, by omega, by split <;> omega, by split <;> omega⟩, mB_c rfl rfl rfl rfl rfl rfl rfl rfl q2.symm rfl rfl rfl rfl rfl⟩
  by_cases c_4 : cdA tx g7 g8 = 102
  · refine V_lookup (tgt := 106) hX dX5_readsThing_12 (by omega) (by decide) (by rw [c_4] <;> rfl) (by decide) ?_
    refine V_aload_n hX dX5_readsThing_106 0 rfl ?_
    refine V_dup hX dX5_readsThing_107 rfl ?_
    refine V_get (v := .int (jI g8)) hX cbX5 8 0 (by decide) wf_X5_132 rfl rfl rfl rfl dX5_readsThing_108 ?_
    refine V_iconst hX dX5_readsThing_111 ?_
    refine V_iadd hX dX5_readsThing_112 rfl ?_
    refine V_put (w' := mB G m s sp hi sn tx g3 g5 g7 (g8 + 1) (cdA tx g7 g8) g10 g11 g12 g13) hX cbX5 8 0 (by decide) wf_X5_132 rfl rfl rfl rfl rfl rfl (Nat.le_of_ble_eq_true rfl) dX5_readsThing_113 rfl ?_
    refine V_aload_n hX dX5_readsThing_116 0 rfl ?_
    refine V_bipush hX dX5_readsThing_117 (by decide) ?_
    refine V_bipush hX dX5_readsThing_119 (by decide) ?_
    refine V_iconst hX dX5_readsThing_121 ?_
    refine V_bipush hX dX5_readsThing_122 (by decide) ?_
    refine V_cV (st := []) (v := .int (jI (bI (pbO tx g7 (g8 + 1) 11 43 1 64)))) (w' := mB G m s sp hi sn tx g3 g5 g7 (pbA tx g7 (g8 + 1) 11 43 1 64) (cdA tx g7 g8) (nmV tx g7 (g8 + 1) 0 11) (if pb1 tx g7 (g8 + 1) 11 43 then nmV tx g7 (rnA tx g7 (g8 + 1) 0 11 + 1) 1 64 else g11) g12 g13) hX wc_X5_153 (c_X5_readsBoth l G m s sp hi sn tx g3 g5 g7 (g8 + 1) (cdA tx g7 g8) g10 g11 g12 g13 11 43 1 64 hS (by omega) (by omega) (by omega) (by omega) (by omega)) (by decide) (by decide) rfl rfl (Nat.le_of_ble_eq_true rfl) dX5_readsThing_124 [] ([]) (by simp only [List.append_assoc, List.nil_append, List.append_nil]) 0 rfl rfl (by simp only [List.append_assoc, List.nil_append, List.append_nil]) rfl rfl ?_
    have hq := th_102 (tx := tx) (ln := g7) (a := g8) (by omega)
    obtain ⟨q1, q2, q3, q4⟩ := hq
    have hxb := nm_c (tx := tx) (ln := g7) (a := g8 + 1) (l := 0) (m := 11)
    have hxv := rnV_b (tx := tx) (ln := g7) (a := g8 + 1) (l := 0) (m := 11) (by decide) (by decide) (by decide)
    have hyb := nm_c (tx := tx) (ln := g7) (a := rnA tx g7 (g8 + 1) 0 11 + 1) (l := 1) (m := 64)
    have hyv := rnV_b (tx := tx) (ln := g7) (a := rnA tx g7 (g8 + 1) 0 11 + 1) (l := 1) (m := 64) (by decide) (by decide) (by decide)
    exact V_zret hX hR (nb_bI _) dX5_readsThing_127 ⟨(nmV tx g7 (g8 + 1) 0 11), (if pb1 tx g7 (g8 + 1) 11 43 then nmV tx g7 (rnA tx g7 (g8 + 1) 0 11 + 1) 1 64 else g11), congrArg (fun z => some (Value.int (jI z))) (bI_c q1.symm), fun h => ⟨by omega, fun _ => by rw [nm_ok (q1.mp h).1, q3], fun _ => by rw [if_pos ⟨(q1.mp h).1, (q1.mp h).2.1⟩, nm_ok (q1.mp h).2.2, q4]⟩, ⟨by omega, by omega, by split <;> omega, by split <;> omega⟩, mB_c rfl rfl rfl rfl rfl rfl rfl rfl q2.symm rfl rfl rfl rfl rfl⟩
  by_cases c_5 : cdA tx g7 g8 = 118
  · refine V_lookup (tgt := 164) hX dX5_readsThing_12 (by omega) (by decide) (by rw [c_5] <;> rfl) (by decide) ?_
    refine V_aload_n hX dX5_readsThing_164 0 rfl ?_
    refine V_dup hX dX5_readsThing_165 rfl ?_
    refine V_get (v := .int (jI g8)) hX cbX5 8 0 (by decide) wf_X5_132 rfl rfl rfl rfl dX5_readsThing_166 ?_
    refine V_iconst hX dX5_readsThing_169 ?_
    refine V_iadd hX dX5_readsThing_170 rfl ?_
    refine V_put (w' := mB G m s sp hi sn tx g3 g5 g7 (g8 + 1) (cdA tx g7 g8) g10 g11 g12 g13) hX cbX5 8 0 (by decide) wf_X5_132 rfl rfl rfl rfl rfl rfl (Nat.le_of_ble_eq_true rfl) dX5_readsThing_171 rfl ?_
    refine V_iconst hX dX5_readsThing_174 ?_
    have hq := th_118 (tx := tx) (ln := g7) (a := g8) (by omega)
    obtain ⟨q1, q2, q3, q4⟩ := hq
    exact V_zret hX hR rfl dX5_readsThing_175 ⟨g10, g11, congrArg (fun z => some (Value.int (jI z))) (bI_t (q1.mpr trivial)).symm, fun h => ⟨by omega, fun z => by omega, fun z => by omega⟩, ⟨by omega, by omega, by omega, by omega⟩, mB_c rfl rfl rfl rfl rfl rfl rfl rfl q2.symm rfl rfl rfl rfl rfl⟩
  by_cases c_6 : cdA tx g7 g8 = 119
  · refine V_lookup (tgt := 64) hX dX5_readsThing_12 (by omega) (by decide) (by rw [c_6] <;> rfl) (by decide) ?_
    refine V_aload_n hX dX5_readsThing_64 0 rfl ?_
    refine V_dup hX dX5_readsThing_65 rfl ?_
    refine V_get (v := .int (jI g8)) hX cbX5 8 0 (by decide) wf_X5_132 rfl rfl rfl rfl dX5_readsThing_66 ?_
    refine V_iconst hX dX5_readsThing_69 ?_
    refine V_iadd hX dX5_readsThing_70 rfl ?_
    refine V_put (w' := mB G m s sp hi sn tx g3 g5 g7 (g8 + 1) (cdA tx g7 g8) g10 g11 g12 g13) hX cbX5 8 0 (by decide) wf_X5_132 rfl rfl rfl rfl rfl rfl (Nat.le_of_ble_eq_true rfl) dX5_readsThing_71 rfl ?_
    refine V_aload_n hX dX5_readsThing_74 0 rfl ?_
    refine V_iconst hX dX5_readsThing_75 ?_
    refine V_bipush hX dX5_readsThing_76 (by decide) ?_
    refine V_iconst hX dX5_readsThing_78 ?_
    refine V_bipush hX dX5_readsThing_79 (by decide) ?_
    refine V_cV (st := []) (v := .int (jI (bI (pbO tx g7 (g8 + 1) 3 42 0 9)))) (w' := mB G m s sp hi sn tx g3 g5 g7 (pbA tx g7 (g8 + 1) 3 42 0 9) (cdA tx g7 g8) (nmV tx g7 (g8 + 1) 0 3) (if pb1 tx g7 (g8 + 1) 3 42 then nmV tx g7 (rnA tx g7 (g8 + 1) 0 3 + 1) 0 9 else g11) g12 g13) hX wc_X5_153 (c_X5_readsBoth l G m s sp hi sn tx g3 g5 g7 (g8 + 1) (cdA tx g7 g8) g10 g11 g12 g13 3 42 0 9 hS (by omega) (by omega) (by omega) (by omega) (by omega)) (by decide) (by decide) rfl rfl (Nat.le_of_ble_eq_true rfl) dX5_readsThing_81 [] ([]) (by simp only [List.append_assoc, List.nil_append, List.append_nil]) 0 rfl rfl (by simp only [List.append_assoc, List.nil_append, List.append_nil]) rfl rfl ?_
    have hq := th_119 (tx := tx) (ln := g7) (a := g8) (by omega)
    obtain ⟨q1, q2, q3, q4⟩ := hq
    have hxb := nm_c (tx := tx) (ln := g7) (a := g8 + 1) (l := 0) (m := 3)
    have hxv := rnV_b (tx := tx) (ln := g7) (a := g8 + 1) (l := 0) (m := 3) (by decide) (by decide) (by decide)
    have hyb := nm_c (tx := tx) (ln := g7) (a := rnA tx g7 (g8 + 1) 0 3 + 1) (l := 0) (m := 9)
    have hyv := rnV_b (tx := tx) (ln := g7) (a := rnA tx g7 (g8 + 1) 0 3 + 1) (l := 0) (m := 9) (by decide) (by decide) (by decide)
    exact V_zret hX hR (nb_bI _) dX5_readsThing_84 ⟨(nmV tx g7 (g8 + 1) 0 3), (if pb1 tx g7 (g8 + 1) 3 42 then nmV tx g7 (rnA tx g7 (g8 + 1) 0 3 + 1) 0 9 else g11), congrArg (fun z => some (Value.int (jI z))) (bI_c q1.symm), fun h => ⟨by omega, fun _ => by rw [nm_ok (q1.mp h).1, q3], fun _ => by rw [if_pos ⟨(q1.mp h).1, (q1.mp h).2.1⟩, nm_ok (q1.mp h).2.2, q4]⟩, ⟨by omega, by omega, by split <;> omega, by split <;> omega⟩, mB_c rfl rfl rfl rfl rfl rfl rfl rfl q2.symm rfl rfl rfl rfl rfl⟩
  refine V_lookup (tgt := 176) hX dX5_readsThing_12 (by omega) (by decide) (lk_out (by simp [Ne.symm c_1, Ne.symm c_3, Ne.symm c_4, Ne.symm c_5, Ne.symm c_6, c_1, c_3, c_4, c_5, c_6])) (by decide) ?_
  refine V_iconst hX dX5_readsThing_176 ?_
  have hq := th_x (tx := tx) (ln := g7) (a := g8) (by omega)
  obtain ⟨q1, q2, q3, q4⟩ := hq
  exact V_zret hX hR rfl dX5_readsThing_177 ⟨g10, g11, congrArg (fun z => some (Value.int (jI z))) (bI_f q1).symm, fun h => absurd h q1, ⟨by omega, by omega, by omega, by omega⟩, mB_c rfl rfl rfl rfl rfl rfl rfl rfl q2.symm rfl rfl rfl rfl rfl⟩
