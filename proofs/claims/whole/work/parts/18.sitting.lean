/-! reading a text: characters tx, length ln -/
def chA (tx : Nat → Int) (ln a : Int) : Int := if 0 ≤ a ∧ a < ln then tx a.toNat else -1
def dgA (tx : Nat → Int) (ln a : Int) : Int := if 48 ≤ chA tx ln a ∧ chA tx ln a ≤ 57 then chA tx ln a - 48 else -1
def rnV (tx : Nat → Int) (ln a l m : Int) : Int := if dgA tx ln a < l ∨ m < dgA tx ln a then -1 else if 0 < dgA tx ln a ∧ 0 ≤ dgA tx ln (a + 1) ∧ 10 * dgA tx ln a + dgA tx ln (a + 1) ≤ m then 10 * dgA tx ln a + dgA tx ln (a + 1) else dgA tx ln a
def rnA (tx : Nat → Int) (ln a l m : Int) : Int := if dgA tx ln a < l ∨ m < dgA tx ln a then a else if 0 < dgA tx ln a ∧ 0 ≤ dgA tx ln (a + 1) ∧ 10 * dgA tx ln a + dgA tx ln (a + 1) ≤ m then a + 2 else a + 1
abbrev prO (tx : Nat → Int) (ln a mf sg l m : Int) : Prop := rnV tx ln (a + 1) 0 mf ≠ -1 ∧ chA tx ln (rnA tx ln (a + 1) 0 mf) = sg ∧ rnV tx ln (rnA tx ln (a + 1) 0 mf + 1) l m ≠ -1
def prA (tx : Nat → Int) (ln a mf sg l m : Int) : Int := if rnV tx ln (a + 1) 0 mf = -1 ∨ chA tx ln (rnA tx ln (a + 1) 0 mf) ≠ sg then rnA tx ln (a + 1) 0 mf else rnA tx ln (rnA tx ln (a + 1) 0 mf + 1) l m
abbrev thO (tx : Nat → Int) (ln a : Int) : Prop := (chA tx ln a = 119 ∧ prO tx ln a 3 42 0 9) ∨ (chA tx ln a = 99 ∧ prO tx ln a 11 58 0 3) ∨ (chA tx ln a = 102 ∧ prO tx ln a 11 43 1 64) ∨ chA tx ln a = 118 ∨ (chA tx ln a = 46 ∧ rnV tx ln (a + 1) 1 99 ≠ -1)
def thA (tx : Nat → Int) (ln a : Int) : Int := if chA tx ln a = 119 then prA tx ln a 3 42 0 9 else if chA tx ln a = 99 then prA tx ln a 11 58 0 3 else if chA tx ln a = 102 then prA tx ln a 11 43 1 64 else if chA tx ln a = 118 then a + 1 else if chA tx ln a = 46 then rnA tx ln (a + 1) 1 99 else a
def thF (tx : Nat → Int) (ln a : Int) : Int := if chA tx ln a = 119 then rnV tx ln (a + 1) 0 3 else if chA tx ln a = 99 then rnV tx ln (a + 1) 0 11 else if chA tx ln a = 102 then rnV tx ln (a + 1) 0 11 else if chA tx ln a = 46 then rnV tx ln (a + 1) 1 99 else 0
def thG (tx : Nat → Int) (ln a : Int) : Int := if chA tx ln a = 119 then rnV tx ln (rnA tx ln (a + 1) 0 3 + 1) 0 9 else if chA tx ln a = 99 then rnV tx ln (rnA tx ln (a + 1) 0 11 + 1) 0 3 else if chA tx ln a = 102 then rnV tx ln (rnA tx ln (a + 1) 0 11 + 1) 1 64 else 0
def SI (tx : Nat → Int) (ln : Int) : Prop := (∀ k, k < 60 → 0 ≤ tx k ∧ tx k < 65536) ∧ 0 ≤ ln ∧ ln ≤ 60
theorem chA_b {tx : Nat → Int} {ln : Int} (h : SI tx ln) (a : Int) : -1 ≤ chA tx ln a ∧ chA tx ln a < 65536 := by
  have h2 := h.2
  unfold chA
  split
  · have := h.1 a.toNat (by omega)
    omega
  · omega
theorem dgA_b {tx : Nat → Int} {ln : Int} (a : Int) : -1 ≤ dgA tx ln a ∧ dgA tx ln a ≤ 9 := by
  unfold dgA
  split <;> omega
theorem rnV_b {tx : Nat → Int} {ln a l m : Int} (hl : 0 ≤ l) (hm : m ≤ 99) (hm2 : -1 ≤ m) : -1 ≤ rnV tx ln a l m ∧ rnV tx ln a l m ≤ m := by
  have h1 := dgA_b (tx := tx) (ln := ln) a
  unfold rnV
  (repeat' split) <;> omega
theorem rnA_b {tx : Nat → Int} {ln a l m : Int} : a ≤ rnA tx ln a l m ∧ rnA tx ln a l m ≤ a + 2 := by
  unfold rnA
  (repeat' split) <;> omega
theorem prA_b {tx : Nat → Int} {ln a mf sg l m : Int} : a ≤ prA tx ln a mf sg l m ∧ prA tx ln a mf sg l m ≤ a + 6 := by
  have h1 := rnA_b (tx := tx) (ln := ln) (a := a + 1) (l := 0) (m := mf)
  have h2 := rnA_b (tx := tx) (ln := ln) (a := rnA tx ln (a + 1) 0 mf + 1) (l := l) (m := m)
  unfold prA
  split <;> omega
theorem if_cg {α : Type} {p q : Prop} [Decidable p] [Decidable q] {a b c d : α} (h : q ↔ p) (h1 : a = c) (h2 : b = d) : (if p then a else b) = (if q then c else d) := by
  subst h1; subst h2
  by_cases z : p
  · rw [if_pos z, if_pos (h.mpr z)]
  · rw [if_neg z, if_neg (fun y => z (h.mp y))]
theorem th_119 {tx : Nat → Int} {ln a : Int} (h : chA tx ln a = 119) : (thO tx ln a ↔ prO tx ln a 3 42 0 9) ∧ thA tx ln a = prA tx ln a 3 42 0 9 ∧ thF tx ln a = rnV tx ln (a + 1) 0 3 ∧ thG tx ln a = rnV tx ln (rnA tx ln (a + 1) 0 3 + 1) 0 9 := by
  unfold thA thF thG thO
  refine ⟨⟨fun q => ?_, fun q => Or.inl ⟨h, q⟩⟩, if_pos h, if_pos h, if_pos h⟩
  rcases q with q | q | q | q | q
  · exact q.2
  all_goals omega
theorem th_99 {tx : Nat → Int} {ln a : Int} (h : chA tx ln a = 99) : (thO tx ln a ↔ prO tx ln a 11 58 0 3) ∧ thA tx ln a = prA tx ln a 11 58 0 3 ∧ thF tx ln a = rnV tx ln (a + 1) 0 11 ∧ thG tx ln a = rnV tx ln (rnA tx ln (a + 1) 0 11 + 1) 0 3 := by
  unfold thA thF thG thO
  rw [if_neg (by omega), if_pos h, if_neg (by omega), if_pos h, if_neg (by omega), if_pos h]
  refine ⟨⟨fun q => ?_, fun q => Or.inr (Or.inl ⟨h, q⟩)⟩, rfl, rfl, rfl⟩
  rcases q with q | q | q | q | q
  · omega
  · exact q.2
  all_goals omega
theorem th_102 {tx : Nat → Int} {ln a : Int} (h : chA tx ln a = 102) : (thO tx ln a ↔ prO tx ln a 11 43 1 64) ∧ thA tx ln a = prA tx ln a 11 43 1 64 ∧ thF tx ln a = rnV tx ln (a + 1) 0 11 ∧ thG tx ln a = rnV tx ln (rnA tx ln (a + 1) 0 11 + 1) 1 64 := by
  unfold thA thF thG thO
  rw [if_neg (by omega), if_neg (by omega), if_pos h, if_neg (by omega), if_neg (by omega), if_pos h, if_neg (by omega), if_neg (by omega), if_pos h]
  refine ⟨⟨fun q => ?_, fun q => Or.inr (Or.inr (Or.inl ⟨h, q⟩))⟩, rfl, rfl, rfl⟩
  rcases q with q | q | q | q | q
  · omega
  · omega
  · exact q.2
  all_goals omega
theorem th_118 {tx : Nat → Int} {ln a : Int} (h : chA tx ln a = 118) : (thO tx ln a ↔ True) ∧ thA tx ln a = a + 1 ∧ thF tx ln a = 0 ∧ thG tx ln a = 0 := by
  unfold thA thF thG thO
  rw [if_neg (by omega), if_neg (by omega), if_neg (by omega), if_pos h, if_neg (by omega), if_neg (by omega), if_neg (by omega), if_neg (by omega), if_neg (by omega), if_neg (by omega), if_neg (by omega)]
  exact ⟨⟨fun _ => trivial, fun _ => Or.inr (Or.inr (Or.inr (Or.inl h)))⟩, rfl, rfl, rfl⟩
theorem th_46 {tx : Nat → Int} {ln a : Int} (h : chA tx ln a = 46) : (thO tx ln a ↔ rnV tx ln (a + 1) 1 99 ≠ -1) ∧ thA tx ln a = rnA tx ln (a + 1) 1 99 ∧ thF tx ln a = rnV tx ln (a + 1) 1 99 ∧ thG tx ln a = 0 := by
  unfold thA thF thG thO
  rw [if_neg (by omega), if_neg (by omega), if_neg (by omega), if_neg (by omega), if_pos h, if_neg (by omega), if_neg (by omega), if_neg (by omega), if_pos h, if_neg (by omega), if_neg (by omega), if_neg (by omega)]
  refine ⟨⟨fun q => ?_, fun q => Or.inr (Or.inr (Or.inr (Or.inr ⟨h, q⟩)))⟩, rfl, rfl, rfl⟩
  rcases q with q | q | q | q | q
  · omega
  · omega
  · omega
  · omega
  · exact q.2
theorem th_x {tx : Nat → Int} {ln a : Int} (h : chA tx ln a ≠ 119 ∧ chA tx ln a ≠ 99 ∧ chA tx ln a ≠ 102 ∧ chA tx ln a ≠ 118 ∧ chA tx ln a ≠ 46) : ¬ thO tx ln a ∧ thA tx ln a = a ∧ thF tx ln a = 0 ∧ thG tx ln a = 0 := by
  obtain ⟨h1, h2, h3, h4, h5⟩ := h
  unfold thA thF thG thO
  rw [if_neg h1, if_neg h2, if_neg h3, if_neg h4, if_neg h5, if_neg h1, if_neg h2, if_neg h3, if_neg h5, if_neg h1, if_neg h2, if_neg h3]
  refine ⟨fun q => ?_, rfl, rfl, rfl⟩
  rcases q with q | q | q | q | q <;> omega
theorem thA_b {tx : Nat → Int} {ln a : Int} : a ≤ thA tx ln a ∧ thA tx ln a ≤ a + 6 := by
  have h1 := prA_b (tx := tx) (ln := ln) (a := a) (mf := 3) (sg := 42) (l := 0) (m := 9)
  have h2 := prA_b (tx := tx) (ln := ln) (a := a) (mf := 11) (sg := 58) (l := 0) (m := 3)
  have h3 := prA_b (tx := tx) (ln := ln) (a := a) (mf := 11) (sg := 43) (l := 1) (m := 64)
  have h4 := rnA_b (tx := tx) (ln := ln) (a := a + 1) (l := 1) (m := 99)
  unfold thA
  (repeat' split) <;> omega

set_option maxHeartbeats 4000000 in
set_option maxRecDepth 100000 in
theorem c_X3_append (l : Launch) (G : vC) (t : Nat → Nat) (ch : Nat → Int) (ki : Nat → Int) (fi : Nat → Int) (se : Nat → Int) (ln : Int) (th : Int) (ps : Int) (c : Int) (hS : SI ch ln) (hps : 0 ≤ ps ∧ ps ≤ 2000000) (hth : 0 ≤ th ∧ th ≤ 30) (hc : 0 ≤ c ∧ c < 65536) : Fn l G yX3_append cX3_append 2 (some .int) ({ frames := 0, cells := 0, slots := 0, locals := 0 } : Room) [.ref (t 0), .int (jI c)] (sB G t ch ki fi se ln th ps) (some (.int (jI (if ln < 60 then ln + 1 else -3)))) (sB G t (if ln < 60 then up ch ln.toNat c else ch) ki fi se (if ln < 60 then ln + 1 else ln) th ps) := by
  refine Ct.of (by decide) (Nat.le_of_ble_eq_true rfl) (fun X hX hR => ?_)
  refine V.toLv (lv' := [(0, .ref (t 0)), (1, .int (jI c))]) rfl ?_
  have hln := hS.2
  refine V_aload_n hX dX3_append_0 0 rfl ?_
  refine V_get (v := .int (jI ln)) hX cbX3 4 0 (by decide) wf_X3_25 rfl rfl rfl rfl dX3_append_1 ?_
  refine V_bipush hX dX3_append_4 (by decide) ?_
  refine V_icmp_lt (tgt := 12) hX dX3_append_6 (by decide) (by omega) (by decide) (fun c_1 => ?_) (fun c_1 => ?_)
  · refine V_aload_n hX dX3_append_12 0 rfl ?_
    refine V_get (v := .ref (t 1)) hX cbX3 0 0 (by decide) wf_X3_9 rfl rfl rfl rfl dX3_append_13 ?_
    refine V_aload_n hX dX3_append_16 0 rfl ?_
    refine V_get (v := .int (jI ln)) hX cbX3 4 0 (by decide) wf_X3_25 rfl rfl rfl rfl dX3_append_17 ?_
    refine V_iload_n hX dX3_append_20 1 rfl ?_
    refine V_cast (i0 := ln.toNat) (w' := sB G t (up ch ln.toNat c) ki fi se ln th ps) hX 1 rfl (by omega) (by omega) (by omega) rfl dX3_append_21 (sB_w1 G _ _ _ _ _ _ _ _ _ _ (by omega) (by omega)) ?_
    refine V_aload_n hX dX3_append_22 0 rfl ?_
    refine V_dup hX dX3_append_23 rfl ?_
    refine V_get (v := .int (jI ln)) hX cbX3 4 0 (by decide) wf_X3_25 rfl rfl rfl rfl dX3_append_24 ?_
    refine V_iconst hX dX3_append_27 ?_
    refine V_iadd hX dX3_append_28 rfl ?_
    refine V_put (w' := sB G t (up ch ln.toNat c) ki fi se (ln + 1) th ps) hX cbX3 4 0 (by decide) wf_X3_25 rfl rfl rfl rfl rfl rfl (Nat.le_of_ble_eq_true rfl) dX3_append_29 rfl ?_
    refine V_aload_n hX dX3_append_32 0 rfl ?_
    refine V_get (v := .int (jI (ln + 1))) hX cbX3 4 0 (by decide) wf_X3_25 rfl rfl rfl rfl dX3_append_33 ?_
    exact V_iret hX hR dX3_append_36 ⟨(congrArg (fun z => some (Value.int (jI z))) (by first | rfl | ((repeat' split) <;> first | rfl | omega | exact (up_same (by omega)).symm | exact up_same (by omega)))), (sB_c (by first | rfl | ((repeat' split) <;> first | rfl | omega | exact (up_same (by omega)).symm | exact up_same (by omega))) rfl rfl rfl (by first | rfl | ((repeat' split) <;> first | rfl | omega | exact (up_same (by omega)).symm | exact up_same (by omega))) rfl rfl)⟩
  · refine V_bipush hX dX3_append_9 (by decide) ?_
    exact V_iret hX hR dX3_append_11 ⟨(congrArg (fun z => some (Value.int (jI z))) (by first | rfl | ((repeat' split) <;> first | rfl | omega | exact (up_same (by omega)).symm | exact up_same (by omega)))), (sB_c (by first | rfl | ((repeat' split) <;> first | rfl | omega | exact (up_same (by omega)).symm | exact up_same (by omega))) rfl rfl rfl (by first | rfl | ((repeat' split) <;> first | rfl | omega | exact (up_same (by omega)).symm | exact up_same (by omega))) rfl rfl)⟩

set_option maxHeartbeats 4000000 in
set_option maxRecDepth 100000 in
theorem c_X3_empty (l : Launch) (G : vC) (t : Nat → Nat) (ch : Nat → Int) (ki : Nat → Int) (fi : Nat → Int) (se : Nat → Int) (ln : Int) (th : Int) (ps : Int) (hS : SI ch ln) (hps : 0 ≤ ps ∧ ps ≤ 2000000) (hth : 0 ≤ th ∧ th ≤ 30) : Fn l G yX3_empty cX3_empty 2 (some .int) ({ frames := 0, cells := 0, slots := 0, locals := 0 } : Room) [.ref (t 0)] (sB G t ch ki fi se ln th ps) (some (.int (jI ln))) (sB G t ch ki fi se 0 th ps) := by
  refine Ct.of (by decide) (Nat.le_of_ble_eq_true rfl) (fun X hX hR => ?_)
  refine V.toLv (lv' := [(0, .ref (t 0))]) rfl ?_
  have hln := hS.2
  refine V_aload_n hX dX3_empty_0 0 rfl ?_
  refine V_get (v := .int (jI ln)) hX cbX3 4 0 (by decide) wf_X3_25 rfl rfl rfl rfl dX3_empty_1 ?_
  refine V_istore_n (i := 1) (lv' := [(1, .int (jI ln)), (0, .ref (t 0))]) hX dX3_empty_4 rfl (by decide) rfl ?_
  refine V_aload_n hX dX3_empty_5 1 rfl ?_
  refine V_iconst hX dX3_empty_6 ?_
  refine V_put (w' := sB G t ch ki fi se 0 th ps) hX cbX3 4 0 (by decide) wf_X3_25 rfl rfl rfl rfl rfl rfl (Nat.le_of_ble_eq_true rfl) dX3_empty_7 rfl ?_
  refine V_iload_n hX dX3_empty_10 0 rfl ?_
  exact V_iret hX hR dX3_empty_11 ⟨rfl, rfl⟩

set_option maxHeartbeats 4000000 in
set_option maxRecDepth 100000 in
theorem c_X3_kindOf (l : Launch) (G : vC) (t : Nat → Nat) (ch : Nat → Int) (ki : Nat → Int) (fi : Nat → Int) (se : Nat → Int) (ln : Int) (th : Int) (ps : Int) (a : Int) (hS : SI ch ln) (hps : 0 ≤ ps ∧ ps ≤ 2000000) (hth : 0 ≤ th ∧ th ≤ 30) (ha : 0 ≤ a ∧ a < 30) : Fn l G yX3_kindOf cX3_kindOf 2 (some .int) ({ frames := 1, cells := 0, slots := 0, locals := 22 } : Room) [.ref (t 0), .int (jI a)] (sB G t ch ki fi se ln th ps) (some (.int (jI (ki a.toNat)))) (sB G t ch ki fi se ln th ps) := by
  refine Ct.of (by decide) (Nat.le_of_ble_eq_true rfl) (fun X hX hR => ?_)
  refine V.toLv (lv' := [(0, .ref (t 0)), (1, .int (jI a))]) rfl ?_
  have hln := hS.2
  refine V_iload_n hX dX3_kindOf_0 1 rfl ?_
  refine V_iconst hX dX3_kindOf_1 ?_
  refine V_bipush hX dX3_kindOf_2 (by decide) ?_
  refine V_cSN (st := []) (v := .int (jI (bI (0 ≤ a ∧ a ≤ 29)))) (w' := sB G t ch ki fi se ln th ps) hX wc_X3_29 (c_X4_isIn l G a 0 29 (by omega) (by omega) (by omega)) (by decide) (by decide) rfl rfl (Nat.le_of_ble_eq_true rfl) dX3_kindOf_4 [] (sB G t ch ki fi se ln th ps) (by simp only [List.append_assoc, List.nil_append, List.append_nil]) (by simp only [List.append_assoc, List.nil_append, List.append_nil]) rfl rfl ?_
  refine V_ifz (tgt := 19) hX dX3_kindOf_7 (by decide) (fun c_1 => ?_) (fun c_1 => ?_)
  · refine V_iconst hX dX3_kindOf_19 ?_
    exact V_iret hX hR dX3_kindOf_20 ⟨(congrArg (fun z => some (Value.int (jI z))) (by first | rfl | omega)), rfl⟩
  · refine V_aload_n hX dX3_kindOf_10 0 rfl ?_
    refine V_get (v := .ref (t 2)) hX cbX3 1 0 (by decide) wf_X3_15 rfl rfl rfl rfl dX3_kindOf_11 ?_
    refine V_iload_n hX dX3_kindOf_14 1 rfl ?_
    refine V_iald (i0 := a.toNat) (r := (jI (ki a.toNat))) hX 2 rfl (by omega) (by omega) (by omega) rfl rfl dX3_kindOf_15 ?_
    refine V_goto (tgt := 20) hX dX3_kindOf_16 (by decide) ?_
    exact V_iret hX hR dX3_kindOf_20 ⟨rfl, rfl⟩

set_option maxHeartbeats 4000000 in
set_option maxRecDepth 100000 in
theorem c_X3_firstOf (l : Launch) (G : vC) (t : Nat → Nat) (ch : Nat → Int) (ki : Nat → Int) (fi : Nat → Int) (se : Nat → Int) (ln : Int) (th : Int) (ps : Int) (a : Int) (hS : SI ch ln) (hps : 0 ≤ ps ∧ ps ≤ 2000000) (hth : 0 ≤ th ∧ th ≤ 30) (ha : 0 ≤ a ∧ a < 30) : Fn l G yX3_firstOf cX3_firstOf 2 (some .int) ({ frames := 1, cells := 0, slots := 0, locals := 22 } : Room) [.ref (t 0), .int (jI a)] (sB G t ch ki fi se ln th ps) (some (.int (jI (fi a.toNat)))) (sB G t ch ki fi se ln th ps) := by
  refine Ct.of (by decide) (Nat.le_of_ble_eq_true rfl) (fun X hX hR => ?_)
  refine V.toLv (lv' := [(0, .ref (t 0)), (1, .int (jI a))]) rfl ?_
  have hln := hS.2
  refine V_iload_n hX dX3_firstOf_0 1 rfl ?_
  refine V_iconst hX dX3_firstOf_1 ?_
  refine V_bipush hX dX3_firstOf_2 (by decide) ?_
  refine V_cSN (st := []) (v := .int (jI (bI (0 ≤ a ∧ a ≤ 29)))) (w' := sB G t ch ki fi se ln th ps) hX wc_X3_29 (c_X4_isIn l G a 0 29 (by omega) (by omega) (by omega)) (by decide) (by decide) rfl rfl (Nat.le_of_ble_eq_true rfl) dX3_firstOf_4 [] (sB G t ch ki fi se ln th ps) (by simp only [List.append_assoc, List.nil_append, List.append_nil]) (by simp only [List.append_assoc, List.nil_append, List.append_nil]) rfl rfl ?_
  refine V_ifz (tgt := 19) hX dX3_firstOf_7 (by decide) (fun c_1 => ?_) (fun c_1 => ?_)
  · refine V_iconst hX dX3_firstOf_19 ?_
    exact V_iret hX hR dX3_firstOf_20 ⟨(congrArg (fun z => some (Value.int (jI z))) (by first | rfl | omega)), rfl⟩
  · refine V_aload_n hX dX3_firstOf_10 0 rfl ?_
    refine V_get (v := .ref (t 3)) hX cbX3 2 0 (by decide) wf_X3_19 rfl rfl rfl rfl dX3_firstOf_11 ?_
    refine V_iload_n hX dX3_firstOf_14 1 rfl ?_
    refine V_iald (i0 := a.toNat) (r := (jI (fi a.toNat))) hX 3 rfl (by omega) (by omega) (by omega) rfl rfl dX3_firstOf_15 ?_
    refine V_goto (tgt := 20) hX dX3_firstOf_16 (by decide) ?_
    exact V_iret hX hR dX3_firstOf_20 ⟨rfl, rfl⟩

set_option maxHeartbeats 4000000 in
set_option maxRecDepth 100000 in
theorem c_X3_secondOf (l : Launch) (G : vC) (t : Nat → Nat) (ch : Nat → Int) (ki : Nat → Int) (fi : Nat → Int) (se : Nat → Int) (ln : Int) (th : Int) (ps : Int) (a : Int) (hS : SI ch ln) (hps : 0 ≤ ps ∧ ps ≤ 2000000) (hth : 0 ≤ th ∧ th ≤ 30) (ha : 0 ≤ a ∧ a < 30) : Fn l G yX3_secondOf cX3_secondOf 2 (some .int) ({ frames := 1, cells := 0, slots := 0, locals := 22 } : Room) [.ref (t 0), .int (jI a)] (sB G t ch ki fi se ln th ps) (some (.int (jI (se a.toNat)))) (sB G t ch ki fi se ln th ps) := by
  refine Ct.of (by decide) (Nat.le_of_ble_eq_true rfl) (fun X hX hR => ?_)
  refine V.toLv (lv' := [(0, .ref (t 0)), (1, .int (jI a))]) rfl ?_
  have hln := hS.2
  refine V_iload_n hX dX3_secondOf_0 1 rfl ?_
  refine V_iconst hX dX3_secondOf_1 ?_
  refine V_bipush hX dX3_secondOf_2 (by decide) ?_
  refine V_cSN (st := []) (v := .int (jI (bI (0 ≤ a ∧ a ≤ 29)))) (w' := sB G t ch ki fi se ln th ps) hX wc_X3_29 (c_X4_isIn l G a 0 29 (by omega) (by omega) (by omega)) (by decide) (by decide) rfl rfl (Nat.le_of_ble_eq_true rfl) dX3_secondOf_4 [] (sB G t ch ki fi se ln th ps) (by simp only [List.append_assoc, List.nil_append, List.append_nil]) (by simp only [List.append_assoc, List.nil_append, List.append_nil]) rfl rfl ?_
  refine V_ifz (tgt := 19) hX dX3_secondOf_7 (by decide) (fun c_1 => ?_) (fun c_1 => ?_)
  · refine V_iconst hX dX3_secondOf_19 ?_
    exact V_iret hX hR dX3_secondOf_20 ⟨(congrArg (fun z => some (Value.int (jI z))) (by first | rfl | omega)), rfl⟩
  · refine V_aload_n hX dX3_secondOf_10 0 rfl ?_
    refine V_get (v := .ref (t 4)) hX cbX3 3 0 (by decide) wf_X3_22 rfl rfl rfl rfl dX3_secondOf_11 ?_
    refine V_iload_n hX dX3_secondOf_14 1 rfl ?_
    refine V_iald (i0 := a.toNat) (r := (jI (se a.toNat))) hX 4 rfl (by omega) (by omega) (by omega) rfl rfl dX3_secondOf_15 ?_
    refine V_goto (tgt := 20) hX dX3_secondOf_16 (by decide) ?_
    exact V_iret hX hR dX3_secondOf_20 ⟨rfl, rfl⟩

set_option maxHeartbeats 4000000 in
set_option maxRecDepth 100000 in
theorem c_X3_characterAt (l : Launch) (G : vC) (t : Nat → Nat) (ch : Nat → Int) (ki : Nat → Int) (fi : Nat → Int) (se : Nat → Int) (ln : Int) (th : Int) (ps : Int) (a : Int) (hS : SI ch ln) (hps : 0 ≤ ps ∧ ps ≤ 2000000) (hth : 0 ≤ th ∧ th ≤ 30) (ha : iR a) : Fn l G yX3_characterAt cX3_characterAt 2 (some .int) ({ frames := 0, cells := 0, slots := 0, locals := 0 } : Room) [.ref (t 0), .int (jI a)] (sB G t ch ki fi se ln th ps) (some (.int (jI (chA ch ln a)))) (sB G t ch ki fi se ln th ps) := by
  refine Ct.of (by decide) (Nat.le_of_ble_eq_true rfl) (fun X hX hR => ?_)
  refine V.toLv (lv' := [(0, .ref (t 0)), (1, .int (jI a))]) rfl ?_
  have hln := hS.2
  refine V_iload_n hX dX3_characterAt_0 1 rfl ?_
  refine V_if_lt (tgt := 21) hX dX3_characterAt_1 (by decide) (by omega) (fun c_1 => ?_) (fun c_1 => ?_)
  · refine V_iconst hX dX3_characterAt_21 ?_
    exact V_iret hX hR dX3_characterAt_22 ⟨(congrArg (fun z => some (Value.int (jI z))) (by unfold chA; split <;> first | rfl | omega)), rfl⟩
  · refine V_iload_n hX dX3_characterAt_4 1 rfl ?_
    refine V_aload_n hX dX3_characterAt_5 0 rfl ?_
    refine V_get (v := .int (jI ln)) hX cbX3 4 0 (by decide) wf_X3_25 rfl rfl rfl rfl dX3_characterAt_6 ?_
    refine V_icmp_ge (tgt := 21) hX dX3_characterAt_9 (by decide) (by omega) (by omega) (fun c_2 => ?_) (fun c_2 => ?_)
    · refine V_iconst hX dX3_characterAt_21 ?_
      exact V_iret hX hR dX3_characterAt_22 ⟨(congrArg (fun z => some (Value.int (jI z))) (by unfold chA; split <;> first | rfl | omega)), rfl⟩
    · have htx := hS.1 a.toNat (by omega)
      refine V_aload_n hX dX3_characterAt_12 0 rfl ?_
      refine V_get (v := .ref (t 1)) hX cbX3 0 0 (by decide) wf_X3_9 rfl rfl rfl rfl dX3_characterAt_13 ?_
      refine V_iload_n hX dX3_characterAt_16 1 rfl ?_
      refine V_cald (i0 := a.toNat) (r := (jI (ch a.toNat))) hX 1 rfl (by omega) (by omega) (by omega) rfl rfl dX3_characterAt_17 ?_
      refine V_goto (tgt := 22) hX dX3_characterAt_18 (by decide) ?_
      exact V_iret hX hR dX3_characterAt_22 ⟨(congrArg (fun z => some (Value.int (jI z))) (by unfold chA; split <;> first | rfl | omega)), rfl⟩

set_option maxHeartbeats 4000000 in
set_option maxRecDepth 100000 in
theorem c_X3_digitAt (l : Launch) (G : vC) (t : Nat → Nat) (ch : Nat → Int) (ki : Nat → Int) (fi : Nat → Int) (se : Nat → Int) (ln : Int) (th : Int) (ps : Int) (a : Int) (hS : SI ch ln) (hps : 0 ≤ ps ∧ ps ≤ 1900000) (hth : 0 ≤ th ∧ th ≤ 30) (ha : iR a) : Fn l G yX3_digitAt cX3_digitAt 3 (some .int) ({ frames := 1, cells := 0, slots := 0, locals := 22 } : Room) [.ref (t 0), .int (jI a)] (sB G t ch ki fi se ln th ps) (some (.int (jI (dgA ch ln a)))) (sB G t ch ki fi se ln th ps) := by
  refine Ct.of (by decide) (Nat.le_of_ble_eq_true rfl) (fun X hX hR => ?_)
  refine V.toLv (lv' := [(0, .ref (t 0)), (1, .int (jI a))]) rfl ?_
  have hln := hS.2
  have hcb := chA_b hS a
  refine V_aload_n hX dX3_digitAt_0 0 rfl ?_
  refine V_iload_n hX dX3_digitAt_1 1 rfl ?_
  refine V_cV (st := []) (v := .int (jI (chA ch ln a))) (w' := sB G t ch ki fi se ln th ps) hX wc_X3_47 (c_X3_characterAt l G t ch ki fi se ln th ps a hS (by omega) (by omega) (by omega)) (by decide) (by decide) rfl rfl (Nat.le_of_ble_eq_true rfl) dX3_digitAt_2 [] ([]) (by simp only [List.append_assoc, List.nil_append, List.append_nil]) 0 rfl rfl (by simp only [List.append_assoc, List.nil_append, List.append_nil]) rfl rfl ?_
  refine V_istore_n (i := 2) (lv' := [(2, .int (jI (chA ch ln a))), (0, .ref (t 0)), (1, .int (jI a))]) hX dX3_digitAt_5 rfl (by decide) rfl ?_
  refine V_iload_n hX dX3_digitAt_6 0 rfl ?_
  refine V_bipush hX dX3_digitAt_7 (by decide) ?_
  refine V_bipush hX dX3_digitAt_9 (by decide) ?_
  refine V_cSN (st := []) (v := .int (jI (bI (48 ≤ (chA ch ln a) ∧ (chA ch ln a) ≤ 57)))) (w' := sB G t ch ki fi se ln th ps) hX wc_X3_29 (c_X4_isIn l G (chA ch ln a) 48 57 (by omega) (by omega) (by omega)) (by decide) (by decide) rfl rfl (Nat.le_of_ble_eq_true rfl) dX3_digitAt_11 [] (sB G t ch ki fi se ln th ps) (by simp only [List.append_assoc, List.nil_append, List.append_nil]) (by simp only [List.append_assoc, List.nil_append, List.append_nil]) rfl rfl ?_
  refine V_ifz (tgt := 24) hX dX3_digitAt_14 (by decide) (fun c_1 => ?_) (fun c_1 => ?_)
  · refine V_iconst hX dX3_digitAt_24 ?_
    exact V_iret hX hR dX3_digitAt_25 ⟨(congrArg (fun z => some (Value.int (jI z))) (by unfold dgA; split <;> first | rfl | omega)), rfl⟩
  · refine V_iload_n hX dX3_digitAt_17 0 rfl ?_
    refine V_bipush hX dX3_digitAt_18 (by decide) ?_
    refine V_isub hX dX3_digitAt_20 rfl ?_
    refine V_goto (tgt := 25) hX dX3_digitAt_21 (by decide) ?_
    exact V_iret hX hR dX3_digitAt_25 ⟨(congrArg (fun z => some (Value.int (jI z))) (by unfold dgA; split <;> first | rfl | omega)), rfl⟩

set_option maxHeartbeats 4000000 in
set_option maxRecDepth 100000 in
theorem c_X3_readSign (l : Launch) (G : vC) (t : Nat → Nat) (ch : Nat → Int) (ki : Nat → Int) (fi : Nat → Int) (se : Nat → Int) (ln : Int) (th : Int) (ps : Int) (c : Int) (hS : SI ch ln) (hps : 0 ≤ ps ∧ ps ≤ 1800000) (hth : 0 ≤ th ∧ th ≤ 30) (hc : iR c) : Fn l G yX3_readSign cX3_readSign 2 (some .boolean) ({ frames := 1, cells := 0, slots := 0, locals := 21 } : Room) [.ref (t 0), .int (jI c)] (sB G t ch ki fi se ln th ps) (some (.int (jI (bI (chA ch ln ps = c))))) (sB G t ch ki fi se ln th (if chA ch ln ps = c then ps + 1 else ps)) := by
  refine Ct.of (by decide) (Nat.le_of_ble_eq_true rfl) (fun X hX hR => ?_)
  refine V.toLv (lv' := [(0, .ref (t 0)), (1, .int (jI c))]) rfl ?_
  have hln := hS.2
  have hcb := chA_b hS ps
  refine V_aload_n hX dX3_readSign_0 0 rfl ?_
  refine V_aload_n hX dX3_readSign_1 0 rfl ?_
  refine V_get (v := .int (jI ps)) hX cbX3 6 0 (by decide) wf_X3_33 rfl rfl rfl rfl dX3_readSign_2 ?_
  refine V_cV (st := []) (v := .int (jI (chA ch ln ps))) (w' := sB G t ch ki fi se ln th ps) hX wc_X3_47 (c_X3_characterAt l G t ch ki fi se ln th ps ps hS (by omega) (by omega) (by omega)) (by decide) (by decide) rfl rfl (Nat.le_of_ble_eq_true rfl) dX3_readSign_5 [] ([]) (by simp only [List.append_assoc, List.nil_append, List.append_nil]) 0 rfl rfl (by simp only [List.append_assoc, List.nil_append, List.append_nil]) rfl rfl ?_
  refine V_iload_n hX dX3_readSign_8 1 rfl ?_
  refine V_icmp_eq (tgt := 14) hX dX3_readSign_9 (by decide) (by omega) (by omega) (fun c_1 => ?_) (fun c_1 => ?_)
  · refine V_aload_n hX dX3_readSign_14 0 rfl ?_
    refine V_dup hX dX3_readSign_15 rfl ?_
    refine V_get (v := .int (jI ps)) hX cbX3 6 0 (by decide) wf_X3_33 rfl rfl rfl rfl dX3_readSign_16 ?_
    refine V_iconst hX dX3_readSign_19 ?_
    refine V_iadd hX dX3_readSign_20 rfl ?_
    refine V_put (w' := sB G t ch ki fi se ln th (ps + 1)) hX cbX3 6 0 (by decide) wf_X3_33 rfl rfl rfl rfl rfl rfl (Nat.le_of_ble_eq_true rfl) dX3_readSign_21 rfl ?_
    refine V_iconst hX dX3_readSign_24 ?_
    exact V_zret hX hR rfl dX3_readSign_25 ⟨(congrArg (fun z => some (Value.int (jI z))) (bI_t (by omega)).symm), (sB_c rfl rfl rfl rfl rfl rfl (by first | rfl | ((repeat' split) <;> first | rfl | omega | exact (up_same (by omega)).symm | exact up_same (by omega))))⟩
  · refine V_iconst hX dX3_readSign_12 ?_
    exact V_zret hX hR rfl dX3_readSign_13 ⟨(congrArg (fun z => some (Value.int (jI z))) (bI_f (by omega)).symm), (sB_c rfl rfl rfl rfl rfl rfl (by first | rfl | ((repeat' split) <;> first | rfl | omega | exact (up_same (by omega)).symm | exact up_same (by omega))))⟩

set_option maxHeartbeats 4000000 in
set_option maxRecDepth 100000 in
theorem c_X3_readNumber (l : Launch) (G : vC) (t : Nat → Nat) (ch : Nat → Int) (ki : Nat → Int) (fi : Nat → Int) (se : Nat → Int) (ln : Int) (th : Int) (ps : Int) (lo : Int) (mo : Int) (hS : SI ch ln) (hps : 0 ≤ ps ∧ ps ≤ 1700000) (hth : 0 ≤ th ∧ th ≤ 30) (hl : 0 ≤ lo ∧ lo ≤ 9) (hm : 0 ≤ mo ∧ mo ≤ 99) : Fn l G yX3_readNumber cX3_readNumber 6 (some .int) ({ frames := 2, cells := 0, slots := 0, locals := 44 } : Room) [.ref (t 0), .int (jI lo), .int (jI mo)] (sB G t ch ki fi se ln th ps) (some (.int (jI (rnV ch ln ps lo mo)))) (sB G t ch ki fi se ln th (rnA ch ln ps lo mo)) := by
  refine Ct.of (by decide) (Nat.le_of_ble_eq_true rfl) (fun X hX hR => ?_)
  refine V.toLv (lv' := [(0, .ref (t 0)), (1, .int (jI lo)), (2, .int (jI mo))]) rfl ?_
  have hln := hS.2
  have hd1 := dgA_b (tx := ch) (ln := ln) ps
  have hd2 := dgA_b (tx := ch) (ln := ln) (ps + 1)
  have hd3 := dgA_b (tx := ch) (ln := ln) (ps + 1 + 1)
  refine V_aload_n hX dX3_readNumber_0 0 rfl ?_
  refine V_aload_n hX dX3_readNumber_1 0 rfl ?_
  refine V_get (v := .int (jI ps)) hX cbX3 6 0 (by decide) wf_X3_33 rfl rfl rfl rfl dX3_readNumber_2 ?_
  refine V_cV (st := []) (v := .int (jI (dgA ch ln ps))) (w' := sB G t ch ki fi se ln th ps) hX wc_X3_68 (c_X3_digitAt l G t ch ki fi se ln th ps ps hS (by omega) (by omega) (by omega)) (by decide) (by decide) rfl rfl (Nat.le_of_ble_eq_true rfl) dX3_readNumber_5 [] ([]) (by simp only [List.append_assoc, List.nil_append, List.append_nil]) 0 rfl rfl (by simp only [List.append_assoc, List.nil_append, List.append_nil]) rfl rfl ?_
  refine V_istore_n (i := 3) (lv' := [(3, .int (jI (dgA ch ln ps))), (0, .ref (t 0)), (1, .int (jI lo)), (2, .int (jI mo))]) hX dX3_readNumber_8 rfl (by decide) rfl ?_
  refine V_iload_n hX dX3_readNumber_9 0 rfl ?_
  refine V_iload_n hX dX3_readNumber_10 2 rfl ?_
  refine V_icmp_lt (tgt := 19) hX dX3_readNumber_11 (by decide) (by omega) (by omega) (fun c_1 => ?_) (fun c_1 => ?_)
  · refine V_iconst hX dX3_readNumber_19 ?_
    exact V_iret hX hR dX3_readNumber_20 ⟨(congrArg (fun z => some (Value.int (jI z))) (by unfold rnV; (repeat' split) <;> omega)), (sB_c rfl rfl rfl rfl rfl rfl (by unfold rnA; (repeat' split) <;> omega))⟩
  · refine V_iload_n hX dX3_readNumber_14 0 rfl ?_
    refine V_iload_n hX dX3_readNumber_15 3 rfl ?_
    refine V_icmp_le (tgt := 21) hX dX3_readNumber_16 (by decide) (by omega) (by omega) (fun c_2 => ?_) (fun c_2 => ?_)
    · refine V_aload_n hX dX3_readNumber_21 1 rfl ?_
      refine V_dup hX dX3_readNumber_22 rfl ?_
      refine V_get (v := .int (jI ps)) hX cbX3 6 0 (by decide) wf_X3_33 rfl rfl rfl rfl dX3_readNumber_23 ?_
      refine V_iconst hX dX3_readNumber_26 ?_
      refine V_iadd hX dX3_readNumber_27 rfl ?_
      refine V_put (w' := sB G t ch ki fi se ln th (ps + 1)) hX cbX3 6 0 (by decide) wf_X3_33 rfl rfl rfl rfl rfl rfl (Nat.le_of_ble_eq_true rfl) dX3_readNumber_28 rfl ?_
      refine V_iconst hX dX3_readNumber_31 ?_
      refine V_istore (i := 4) (lv' := [(4, .int (jI 1)), (3, .int (jI (dgA ch ln ps))), (0, .ref (t 0)), (1, .int (jI lo)), (2, .int (jI mo))]) hX dX3_readNumber_32 (by decide) rfl ?_
      refine V_iload hX dX3_readNumber_34 0 rfl ?_
      refine V_bipush hX dX3_readNumber_36 (by decide) ?_
      refine V_icmp_ge (tgt := 97) hX dX3_readNumber_38 (by decide) (by decide) (by decide) (fun c_3 => absurd c_3 (by decide)) (fun c_3 => ?_)
      refine V_iload_n hX dX3_readNumber_41 1 rfl ?_
      refine V_if_le (tgt := 97) hX dX3_readNumber_42 (by decide) (by omega) (fun c_4 => ?_) (fun c_4 => ?_)
      · refine V_iload_n hX dX3_readNumber_97 1 rfl ?_
        exact V_iret hX hR dX3_readNumber_98 ⟨(congrArg (fun z => some (Value.int (jI z))) (by unfold rnV; (repeat' split) <;> omega)), (sB_c rfl rfl rfl rfl rfl rfl (by unfold rnA; (repeat' split) <;> omega))⟩
      · refine V_aload_n hX dX3_readNumber_45 2 rfl ?_
        refine V_aload_n hX dX3_readNumber_46 2 rfl ?_
        refine V_get (v := .int (jI (ps + 1))) hX cbX3 6 0 (by decide) wf_X3_33 rfl rfl rfl rfl dX3_readNumber_47 ?_
        refine V_cV (st := []) (v := .int (jI (dgA ch ln (ps + 1)))) (w' := sB G t ch ki fi se ln th (ps + 1)) hX wc_X3_68 (c_X3_digitAt l G t ch ki fi se ln th (ps + 1) (ps + 1) hS (by omega) (by omega) (by omega)) (by decide) (by decide) rfl rfl (Nat.le_of_ble_eq_true rfl) dX3_readNumber_50 [] ([]) (by simp only [List.append_assoc, List.nil_append, List.append_nil]) 0 rfl rfl (by simp only [List.append_assoc, List.nil_append, List.append_nil]) rfl rfl ?_
        refine V_istore (i := 5) (lv' := [(5, .int (jI (dgA ch ln (ps + 1)))), (4, .int (jI 1)), (3, .int (jI (dgA ch ln ps))), (0, .ref (t 0)), (1, .int (jI lo)), (2, .int (jI mo))]) hX dX3_readNumber_53 (by decide) rfl ?_
        refine V_iload hX dX3_readNumber_55 0 rfl ?_
        refine V_if_lt (tgt := 71) hX dX3_readNumber_57 (by decide) (by omega) (fun c_5 => ?_) (fun c_5 => ?_)
        · refine V_iload_n hX dX3_readNumber_71 2 rfl ?_
          exact V_iret hX hR dX3_readNumber_72 ⟨(congrArg (fun z => some (Value.int (jI z))) (by unfold rnV; (repeat' split) <;> omega)), (sB_c rfl rfl rfl rfl rfl rfl (by unfold rnA; (repeat' split) <;> omega))⟩
        · refine V_bipush hX dX3_readNumber_60 (by decide) ?_
          refine V_iload_n hX dX3_readNumber_62 2 rfl ?_
          refine V_imul hX dX3_readNumber_63 rfl ?_
          refine V_iload hX dX3_readNumber_64 0 rfl ?_
          refine V_iadd hX dX3_readNumber_66 rfl ?_
          refine V_iload_n hX dX3_readNumber_67 5 rfl ?_
          refine V_icmp_le (tgt := 73) hX dX3_readNumber_68 (by decide) (by omega) (by omega) (fun c_6 => ?_) (fun c_6 => ?_)
          · refine V_bipush hX dX3_readNumber_73 (by decide) ?_
            refine V_iload_n hX dX3_readNumber_75 2 rfl ?_
            refine V_imul hX dX3_readNumber_76 rfl ?_
            refine V_iload hX dX3_readNumber_77 0 rfl ?_
            refine V_iadd hX dX3_readNumber_79 rfl ?_
            refine V_istore_n (i := 3) (lv' := [(3, .int (jI ((10 * (dgA ch ln ps)) + (dgA ch ln (ps + 1))))), (5, .int (jI (dgA ch ln (ps + 1)))), (4, .int (jI 1)), (0, .ref (t 0)), (1, .int (jI lo)), (2, .int (jI mo))]) hX dX3_readNumber_80 rfl (by decide) rfl ?_
            refine V_aload_n hX dX3_readNumber_81 3 rfl ?_
            refine V_dup hX dX3_readNumber_82 rfl ?_
            refine V_get (v := .int (jI (ps + 1))) hX cbX3 6 0 (by decide) wf_X3_33 rfl rfl rfl rfl dX3_readNumber_83 ?_
            refine V_iconst hX dX3_readNumber_86 ?_
            refine V_iadd hX dX3_readNumber_87 rfl ?_
            refine V_put (w' := sB G t ch ki fi se ln th ((ps + 1) + 1)) hX cbX3 6 0 (by decide) wf_X3_33 rfl rfl rfl rfl rfl rfl (Nat.le_of_ble_eq_true rfl) dX3_readNumber_88 rfl ?_
            refine V_iinc (b := 2) (lv' := [(4, .int (jI 2)), (3, .int (jI ((10 * (dgA ch ln ps)) + (dgA ch ln (ps + 1))))), (5, .int (jI (dgA ch ln (ps + 1)))), (0, .ref (t 0)), (1, .int (jI lo)), (2, .int (jI mo))]) hX dX3_readNumber_91 2 rfl rfl (by decide) rfl ?_
            refine V_goto (tgt := 34) hX dX3_readNumber_94 (by decide) ?_
            refine V_iload hX dX3_readNumber_34 0 rfl ?_
            refine V_bipush hX dX3_readNumber_36 (by decide) ?_
            refine V_icmp_ge (tgt := 97) hX dX3_readNumber_38 (by decide) (by decide) (by decide) (fun c_7 => absurd c_7 (by decide)) (fun c_7 => ?_)
            refine V_iload_n hX dX3_readNumber_41 1 rfl ?_
            refine V_if_le (tgt := 97) hX dX3_readNumber_42 (by decide) (by omega) (fun c_8 => ?_) (fun c_8 => ?_)
            · exact absurd c_8 (by omega)
            · refine V_aload_n hX dX3_readNumber_45 3 rfl ?_
              refine V_aload_n hX dX3_readNumber_46 3 rfl ?_
              refine V_get (v := .int (jI ((ps + 1) + 1))) hX cbX3 6 0 (by decide) wf_X3_33 rfl rfl rfl rfl dX3_readNumber_47 ?_
              refine V_cV (st := []) (v := .int (jI (dgA ch ln ((ps + 1) + 1)))) (w' := sB G t ch ki fi se ln th ((ps + 1) + 1)) hX wc_X3_68 (c_X3_digitAt l G t ch ki fi se ln th ((ps + 1) + 1) ((ps + 1) + 1) hS (by omega) (by omega) (by omega)) (by decide) (by decide) rfl rfl (Nat.le_of_ble_eq_true rfl) dX3_readNumber_50 [] ([]) (by simp only [List.append_assoc, List.nil_append, List.append_nil]) 0 rfl rfl (by simp only [List.append_assoc, List.nil_append, List.append_nil]) rfl rfl ?_
              refine V_istore (i := 5) (lv' := [(5, .int (jI (dgA ch ln ((ps + 1) + 1)))), (4, .int (jI 2)), (3, .int (jI ((10 * (dgA ch ln ps)) + (dgA ch ln (ps + 1))))), (0, .ref (t 0)), (1, .int (jI lo)), (2, .int (jI mo))]) hX dX3_readNumber_53 (by decide) rfl ?_
              refine V_iload hX dX3_readNumber_55 0 rfl ?_
              refine V_if_lt (tgt := 71) hX dX3_readNumber_57 (by decide) (by omega) (fun c_9 => ?_) (fun c_9 => ?_)
              · refine V_iload_n hX dX3_readNumber_71 2 rfl ?_
                exact V_iret hX hR dX3_readNumber_72 ⟨(congrArg (fun z => some (Value.int (jI z))) (by unfold rnV; (repeat' split) <;> omega)), (sB_c rfl rfl rfl rfl rfl rfl (by unfold rnA; (repeat' split) <;> omega))⟩
              · refine V_bipush hX dX3_readNumber_60 (by decide) ?_
                refine V_iload_n hX dX3_readNumber_62 2 rfl ?_
                refine V_imul hX dX3_readNumber_63 rfl ?_
                refine V_iload hX dX3_readNumber_64 0 rfl ?_
                refine V_iadd hX dX3_readNumber_66 rfl ?_
                refine V_iload_n hX dX3_readNumber_67 5 rfl ?_
                refine V_icmp_le (tgt := 73) hX dX3_readNumber_68 (by decide) (by omega) (by omega) (fun c_10 => ?_) (fun c_10 => ?_)
                · exact absurd c_10 (by omega)
                · refine V_iload_n hX dX3_readNumber_71 2 rfl ?_
                  exact V_iret hX hR dX3_readNumber_72 ⟨(congrArg (fun z => some (Value.int (jI z))) (by unfold rnV; (repeat' split) <;> omega)), (sB_c rfl rfl rfl rfl rfl rfl (by unfold rnA; (repeat' split) <;> omega))⟩
          · refine V_iload_n hX dX3_readNumber_71 2 rfl ?_
            exact V_iret hX hR dX3_readNumber_72 ⟨(congrArg (fun z => some (Value.int (jI z))) (by unfold rnV; (repeat' split) <;> omega)), (sB_c rfl rfl rfl rfl rfl rfl (by unfold rnA; (repeat' split) <;> omega))⟩
    · refine V_iconst hX dX3_readNumber_19 ?_
      exact V_iret hX hR dX3_readNumber_20 ⟨(congrArg (fun z => some (Value.int (jI z))) (by unfold rnV; (repeat' split) <;> omega)), (sB_c rfl rfl rfl rfl rfl rfl (by unfold rnA; (repeat' split) <;> omega))⟩

set_option maxHeartbeats 4000000 in
set_option maxRecDepth 100000 in
theorem c_X3_add (l : Launch) (G : vC) (t : Nat → Nat) (ch : Nat → Int) (ki : Nat → Int) (fi : Nat → Int) (se : Nat → Int) (ln : Int) (th : Int) (ps : Int) (a : Int) (b : Int) (c : Int) (hS : SI ch ln) (hps : 0 ≤ ps ∧ ps ≤ 2000000) (hth : 0 ≤ th ∧ th ≤ 30) (ht2 : th < 30) : Fn l G yX3_add cX3_add 4 (some .boolean) ({ frames := 0, cells := 0, slots := 0, locals := 0 } : Room) [.ref (t 0), .int (jI a), .int (jI b), .int (jI c)] (sB G t ch ki fi se ln th ps) (some (.int (jI (bI (True))))) (sB G t ch (up ki th.toNat a) (up fi th.toNat b) (up se th.toNat c) ln (th + 1) ps) := by
  refine Ct.of (by decide) (Nat.le_of_ble_eq_true rfl) (fun X hX hR => ?_)
  refine V.toLv (lv' := [(0, .ref (t 0)), (1, .int (jI a)), (2, .int (jI b)), (3, .int (jI c))]) rfl ?_
  have hln := hS.2
  refine V_aload_n hX dX3_add_0 0 rfl ?_
  refine V_get (v := .int (jI th)) hX cbX3 5 0 (by decide) wf_X3_36 rfl rfl rfl rfl dX3_add_1 ?_
  refine V_bipush hX dX3_add_4 (by decide) ?_
  refine V_icmp_lt (tgt := 11) hX dX3_add_6 (by decide) (by omega) (by decide) (fun c_1 => ?_) (fun c_1 => ?_)
  · refine V_aload_n hX dX3_add_11 0 rfl ?_
    refine V_get (v := .ref (t 2)) hX cbX3 1 0 (by decide) wf_X3_15 rfl rfl rfl rfl dX3_add_12 ?_
    refine V_aload_n hX dX3_add_15 0 rfl ?_
    refine V_get (v := .int (jI th)) hX cbX3 5 0 (by decide) wf_X3_36 rfl rfl rfl rfl dX3_add_16 ?_
    refine V_iload_n hX dX3_add_19 1 rfl ?_
    refine V_iast (i0 := th.toNat) (w' := sB G t ch (up ki th.toNat a) fi se ln th ps) hX 2 rfl (by omega) (by omega) (by omega) rfl dX3_add_20 (sB_w2 G _ _ _ _ _ _ _ _ _ _) ?_
    refine V_aload_n hX dX3_add_21 0 rfl ?_
    refine V_get (v := .ref (t 3)) hX cbX3 2 0 (by decide) wf_X3_19 rfl rfl rfl rfl dX3_add_22 ?_
    refine V_aload_n hX dX3_add_25 0 rfl ?_
    refine V_get (v := .int (jI th)) hX cbX3 5 0 (by decide) wf_X3_36 rfl rfl rfl rfl dX3_add_26 ?_
    refine V_iload_n hX dX3_add_29 2 rfl ?_
    refine V_iast (i0 := th.toNat) (w' := sB G t ch (up ki th.toNat a) (up fi th.toNat b) se ln th ps) hX 3 rfl (by omega) (by omega) (by omega) rfl dX3_add_30 (sB_w3 G _ _ _ _ _ _ _ _ _ _) ?_
    refine V_aload_n hX dX3_add_31 0 rfl ?_
    refine V_get (v := .ref (t 4)) hX cbX3 3 0 (by decide) wf_X3_22 rfl rfl rfl rfl dX3_add_32 ?_
    refine V_aload_n hX dX3_add_35 0 rfl ?_
    refine V_get (v := .int (jI th)) hX cbX3 5 0 (by decide) wf_X3_36 rfl rfl rfl rfl dX3_add_36 ?_
    refine V_iload_n hX dX3_add_39 3 rfl ?_
    refine V_iast (i0 := th.toNat) (w' := sB G t ch (up ki th.toNat a) (up fi th.toNat b) (up se th.toNat c) ln th ps) hX 4 rfl (by omega) (by omega) (by omega) rfl dX3_add_40 (sB_w4 G _ _ _ _ _ _ _ _ _ _) ?_
    refine V_aload_n hX dX3_add_41 0 rfl ?_
    refine V_dup hX dX3_add_42 rfl ?_
    refine V_get (v := .int (jI th)) hX cbX3 5 0 (by decide) wf_X3_36 rfl rfl rfl rfl dX3_add_43 ?_
    refine V_iconst hX dX3_add_46 ?_
    refine V_iadd hX dX3_add_47 rfl ?_
    refine V_put (w' := sB G t ch (up ki th.toNat a) (up fi th.toNat b) (up se th.toNat c) ln (th + 1) ps) hX cbX3 5 0 (by decide) wf_X3_36 rfl rfl rfl rfl rfl rfl (Nat.le_of_ble_eq_true rfl) dX3_add_48 rfl ?_
    refine V_iconst hX dX3_add_51 ?_
    exact V_zret hX hR rfl dX3_add_52 ⟨(congrArg (fun z => some (Value.int (jI z))) (bI_t trivial).symm), rfl⟩
  · exact absurd c_1 (by omega)

set_option maxHeartbeats 4000000 in
set_option maxRecDepth 100000 in
theorem c_X3_readVote (l : Launch) (G : vC) (t : Nat → Nat) (ch : Nat → Int) (ki : Nat → Int) (fi : Nat → Int) (se : Nat → Int) (ln : Int) (th : Int) (ps : Int) (hS : SI ch ln) (hps : 0 ≤ ps ∧ ps ≤ 1600000) (hth : 0 ≤ th ∧ th ≤ 30) (ht2 : th < 30) : Fn l G yX3_readVote cX3_readVote 1 (some .boolean) ({ frames := 1, cells := 0, slots := 0, locals := 23 } : Room) [.ref (t 0)] (sB G t ch ki fi se ln th ps) (some (.int (jI (bI (True))))) (sB G t ch (up ki th.toNat 118) (up fi th.toNat 0) (up se th.toNat 0) ln (th + 1) (ps + 1)) := by
  refine Ct.of (by decide) (Nat.le_of_ble_eq_true rfl) (fun X hX hR => ?_)
  refine V.toLv (lv' := [(0, .ref (t 0))]) rfl ?_
  have hln := hS.2
  refine V_aload_n hX dX3_readVote_0 0 rfl ?_
  refine V_dup hX dX3_readVote_1 rfl ?_
  refine V_get (v := .int (jI ps)) hX cbX3 6 0 (by decide) wf_X3_33 rfl rfl rfl rfl dX3_readVote_2 ?_
  refine V_iconst hX dX3_readVote_5 ?_
  refine V_iadd hX dX3_readVote_6 rfl ?_
  refine V_put (w' := sB G t ch ki fi se ln th (ps + 1)) hX cbX3 6 0 (by decide) wf_X3_33 rfl rfl rfl rfl rfl rfl (Nat.le_of_ble_eq_true rfl) dX3_readVote_7 rfl ?_
  refine V_aload_n hX dX3_readVote_10 0 rfl ?_
  refine V_bipush hX dX3_readVote_11 (by decide) ?_
  refine V_iconst hX dX3_readVote_13 ?_
  refine V_iconst hX dX3_readVote_14 ?_
  refine V_cV (st := []) (v := .int (jI (bI (True)))) (w' := sB G t ch (up ki th.toNat 118) (up fi th.toNat 0) (up se th.toNat 0) ln (th + 1) (ps + 1)) hX wc_X3_65 (c_X3_add l G t ch ki fi se ln th (ps + 1) 118 0 0 hS (by omega) (by omega) (by omega)) (by decide) (by decide) rfl rfl (Nat.le_of_ble_eq_true rfl) dX3_readVote_15 [] ([]) (by simp only [List.append_assoc, List.nil_append, List.append_nil]) 0 rfl rfl (by simp only [List.append_assoc, List.nil_append, List.append_nil]) rfl rfl ?_
  exact V_zret hX hR (nb_bI _) dX3_readVote_18 ⟨rfl, rfl⟩

set_option maxHeartbeats 4000000 in
set_option maxRecDepth 100000 in
theorem c_X3_readTicks (l : Launch) (G : vC) (t : Nat → Nat) (ch : Nat → Int) (ki : Nat → Int) (fi : Nat → Int) (se : Nat → Int) (ln : Int) (th : Int) (ps : Int) (hS : SI ch ln) (hps : 0 ≤ ps ∧ ps ≤ 1600000) (hth : 0 ≤ th ∧ th ≤ 30) (ht2 : th < 30) : Fn l G yX3_readTicks cX3_readTicks 2 (some .boolean) ({ frames := 3, cells := 0, slots := 0, locals := 69 } : Room) [.ref (t 0)] (sB G t ch ki fi se ln th ps) (some (.int (jI (bI (rnV ch ln (ps + 1) 1 99 ≠ -1))))) (sB G t ch (if rnV ch ln (ps + 1) 1 99 ≠ -1 then up ki th.toNat 46 else ki) (if rnV ch ln (ps + 1) 1 99 ≠ -1 then up fi th.toNat (rnV ch ln (ps + 1) 1 99) else fi) (if rnV ch ln (ps + 1) 1 99 ≠ -1 then up se th.toNat 0 else se) ln (if rnV ch ln (ps + 1) 1 99 ≠ -1 then th + 1 else th) (rnA ch ln (ps + 1) 1 99)) := by
  refine Ct.of (by decide) (Nat.le_of_ble_eq_true rfl) (fun X hX hR => ?_)
  refine V.toLv (lv' := [(0, .ref (t 0))]) rfl ?_
  have hln := hS.2
  have hv := rnV_b (tx := ch) (ln := ln) (a := ps + 1) (l := 1) (m := 99) (by omega) (by omega) (by omega)
  have hra := rnA_b (tx := ch) (ln := ln) (a := ps + 1) (l := 1) (m := 99)
  refine V_aload_n hX dX3_readTicks_0 0 rfl ?_
  refine V_dup hX dX3_readTicks_1 rfl ?_
  refine V_get (v := .int (jI ps)) hX cbX3 6 0 (by decide) wf_X3_33 rfl rfl rfl rfl dX3_readTicks_2 ?_
  refine V_iconst hX dX3_readTicks_5 ?_
  refine V_iadd hX dX3_readTicks_6 rfl ?_
  refine V_put (w' := sB G t ch ki fi se ln th (ps + 1)) hX cbX3 6 0 (by decide) wf_X3_33 rfl rfl rfl rfl rfl rfl (Nat.le_of_ble_eq_true rfl) dX3_readTicks_7 rfl ?_
  refine V_aload_n hX dX3_readTicks_10 0 rfl ?_
  refine V_iconst hX dX3_readTicks_11 ?_
  refine V_bipush hX dX3_readTicks_12 (by decide) ?_
  refine V_cV (st := []) (v := .int (jI (rnV ch ln (ps + 1) 1 99))) (w' := sB G t ch ki fi se ln th (rnA ch ln (ps + 1) 1 99)) hX wc_X3_61 (c_X3_readNumber l G t ch ki fi se ln th (ps + 1) 1 99 hS (by omega) (by omega) (by omega) (by omega)) (by decide) (by decide) rfl rfl (Nat.le_of_ble_eq_true rfl) dX3_readTicks_14 [] ([]) (by simp only [List.append_assoc, List.nil_append, List.append_nil]) 0 rfl rfl (by simp only [List.append_assoc, List.nil_append, List.append_nil]) rfl rfl ?_
  refine V_istore_n (i := 1) (lv' := [(1, .int (jI (rnV ch ln (ps + 1) 1 99))), (0, .ref (t 0))]) hX dX3_readTicks_17 rfl (by decide) rfl ?_
  refine V_iload_n hX dX3_readTicks_18 0 rfl ?_
  refine V_iconst hX dX3_readTicks_19 ?_
  refine V_icmp_eq (tgt := 38) hX dX3_readTicks_20 (by decide) (by omega) (by decide) (fun c_1 => ?_) (fun c_1 => ?_)
  · refine V_iconst hX dX3_readTicks_38 ?_
    exact V_zret hX hR rfl dX3_readTicks_39 ⟨(congrArg (fun z => some (Value.int (jI z))) (bI_f (by omega)).symm), (sB_c rfl (by first | rfl | ((repeat' split) <;> first | rfl | omega | exact (up_same (by omega)).symm | exact up_same (by omega))) (by first | rfl | ((repeat' split) <;> first | rfl | omega | exact (up_same (by omega)).symm | exact up_same (by omega))) (by first | rfl | ((repeat' split) <;> first | rfl | omega | exact (up_same (by omega)).symm | exact up_same (by omega))) rfl (by first | rfl | ((repeat' split) <;> first | rfl | omega | exact (up_same (by omega)).symm | exact up_same (by omega))) rfl)⟩
  · refine V_aload_n hX dX3_readTicks_23 1 rfl ?_
    refine V_bipush hX dX3_readTicks_24 (by decide) ?_
    refine V_iload_n hX dX3_readTicks_26 0 rfl ?_
    refine V_iconst hX dX3_readTicks_27 ?_
    refine V_cV (st := []) (v := .int (jI (bI (True)))) (w' := sB G t ch (up ki th.toNat 46) (up fi th.toNat (rnV ch ln (ps + 1) 1 99)) (up se th.toNat 0) ln (th + 1) (rnA ch ln (ps + 1) 1 99)) hX wc_X3_65 (c_X3_add l G t ch ki fi se ln th (rnA ch ln (ps + 1) 1 99) 46 (rnV ch ln (ps + 1) 1 99) 0 hS (by omega) (by omega) (by omega)) (by decide) (by decide) rfl rfl (Nat.le_of_ble_eq_true rfl) dX3_readTicks_28 [] ([]) (by simp only [List.append_assoc, List.nil_append, List.append_nil]) 0 rfl rfl (by simp only [List.append_assoc, List.nil_append, List.append_nil]) rfl rfl ?_
    refine V_ifz (tgt := 38) hX dX3_readTicks_31 (by decide) (fun c_2 => ?_) (fun c_2 => ?_)
    · exact absurd trivial c_2
    · refine V_iconst hX dX3_readTicks_34 ?_
      refine V_goto (tgt := 39) hX dX3_readTicks_35 (by decide) ?_
      exact V_zret hX hR rfl dX3_readTicks_39 ⟨(congrArg (fun z => some (Value.int (jI z))) (bI_t (by omega)).symm), (sB_c rfl (by first | rfl | ((repeat' split) <;> first | rfl | omega | exact (up_same (by omega)).symm | exact up_same (by omega))) (by first | rfl | ((repeat' split) <;> first | rfl | omega | exact (up_same (by omega)).symm | exact up_same (by omega))) (by first | rfl | ((repeat' split) <;> first | rfl | omega | exact (up_same (by omega)).symm | exact up_same (by omega))) rfl (by first | rfl | ((repeat' split) <;> first | rfl | omega | exact (up_same (by omega)).symm | exact up_same (by omega))) rfl)⟩

set_option maxHeartbeats 4000000 in
set_option maxRecDepth 100000 in
theorem c_X3_readPair (l : Launch) (G : vC) (t : Nat → Nat) (ch : Nat → Int) (ki : Nat → Int) (fi : Nat → Int) (se : Nat → Int) (ln : Int) (th : Int) (ps : Int) (mf : Int) (sg : Int) (lo : Int) (mo : Int) (hS : SI ch ln) (hps : 0 ≤ ps ∧ ps ≤ 1600000) (hth : 0 ≤ th ∧ th ≤ 30) (ht2 : th < 30) (hmf : 0 ≤ mf ∧ mf ≤ 99) (hsg : 0 ≤ sg ∧ sg < 65536) (hl : 0 ≤ lo ∧ lo ≤ 9) (hm : 0 ≤ mo ∧ mo ≤ 99) : Fn l G yX3_readPair cX3_readPair 8 (some .boolean) ({ frames := 3, cells := 0, slots := 0, locals := 69 } : Room) [.ref (t 0), .int (jI mf), .int (jI sg), .int (jI lo), .int (jI mo)] (sB G t ch ki fi se ln th ps) (some (.int (jI (bI (prO ch ln ps mf sg lo mo))))) (sB G t ch (if prO ch ln ps mf sg lo mo then up ki th.toNat (chA ch ln ps) else ki) (if prO ch ln ps mf sg lo mo then up fi th.toNat (rnV ch ln (ps + 1) 0 mf) else fi) (if prO ch ln ps mf sg lo mo then up se th.toNat (rnV ch ln (rnA ch ln (ps + 1) 0 mf + 1) lo mo) else se) ln (if prO ch ln ps mf sg lo mo then th + 1 else th) (prA ch ln ps mf sg lo mo)) := by
  refine Ct.of (by decide) (Nat.le_of_ble_eq_true rfl) (fun X hX hR => ?_)
  refine V.toLv (lv' := [(0, .ref (t 0)), (1, .int (jI mf)), (2, .int (jI sg)), (3, .int (jI lo)), (4, .int (jI mo))]) rfl ?_
  have hln := hS.2
  have hv1 := rnV_b (tx := ch) (ln := ln) (a := ps + 1) (l := 0) (m := mf) (by omega) (by omega) (by omega)
  have hr1 := rnA_b (tx := ch) (ln := ln) (a := ps + 1) (l := 0) (m := mf)
  have hv2 := rnV_b (tx := ch) (ln := ln) (a := rnA ch ln (ps + 1) 0 mf + 1) (l := lo) (m := mo) (by omega) (by omega) (by omega)
  have hr2 := rnA_b (tx := ch) (ln := ln) (a := rnA ch ln (ps + 1) 0 mf + 1) (l := lo) (m := mo)
  refine V_aload_n hX dX3_readPair_0 0 rfl ?_
  refine V_aload_n hX dX3_readPair_1 0 rfl ?_
  refine V_get (v := .int (jI ps)) hX cbX3 6 0 (by decide) wf_X3_33 rfl rfl rfl rfl dX3_readPair_2 ?_
  refine V_cV (st := []) (v := .int (jI (chA ch ln ps))) (w' := sB G t ch ki fi se ln th ps) hX wc_X3_47 (c_X3_characterAt l G t ch ki fi se ln th ps ps hS (by omega) (by omega) (by omega)) (by decide) (by decide) rfl rfl (Nat.le_of_ble_eq_true rfl) dX3_readPair_5 [] ([]) (by simp only [List.append_assoc, List.nil_append, List.append_nil]) 0 rfl rfl (by simp only [List.append_assoc, List.nil_append, List.append_nil]) rfl rfl ?_
  refine V_istore (i := 5) (lv' := [(5, .int (jI (chA ch ln ps))), (0, .ref (t 0)), (1, .int (jI mf)), (2, .int (jI sg)), (3, .int (jI lo)), (4, .int (jI mo))]) hX dX3_readPair_8 (by decide) rfl ?_
  refine V_aload_n hX dX3_readPair_10 1 rfl ?_
  refine V_dup hX dX3_readPair_11 rfl ?_
  refine V_get (v := .int (jI ps)) hX cbX3 6 0 (by decide) wf_X3_33 rfl rfl rfl rfl dX3_readPair_12 ?_
  refine V_iconst hX dX3_readPair_15 ?_
  refine V_iadd hX dX3_readPair_16 rfl ?_
  refine V_put (w' := sB G t ch ki fi se ln th (ps + 1)) hX cbX3 6 0 (by decide) wf_X3_33 rfl rfl rfl rfl rfl rfl (Nat.le_of_ble_eq_true rfl) dX3_readPair_17 rfl ?_
  refine V_aload_n hX dX3_readPair_20 1 rfl ?_
  refine V_iconst hX dX3_readPair_21 ?_
  refine V_iload_n hX dX3_readPair_22 2 rfl ?_
  refine V_cV (st := []) (v := .int (jI (rnV ch ln (ps + 1) 0 mf))) (w' := sB G t ch ki fi se ln th (rnA ch ln (ps + 1) 0 mf)) hX wc_X3_61 (c_X3_readNumber l G t ch ki fi se ln th (ps + 1) 0 mf hS (by omega) (by omega) (by omega) (by omega)) (by decide) (by decide) rfl rfl (Nat.le_of_ble_eq_true rfl) dX3_readPair_23 [] ([]) (by simp only [List.append_assoc, List.nil_append, List.append_nil]) 0 rfl rfl (by simp only [List.append_assoc, List.nil_append, List.append_nil]) rfl rfl ?_
  refine V_istore (i := 6) (lv' := [(6, .int (jI (rnV ch ln (ps + 1) 0 mf))), (5, .int (jI (chA ch ln ps))), (0, .ref (t 0)), (1, .int (jI mf)), (2, .int (jI sg)), (3, .int (jI lo)), (4, .int (jI mo))]) hX dX3_readPair_26 (by decide) rfl ?_
  refine V_iload hX dX3_readPair_28 0 rfl ?_
  refine V_iconst hX dX3_readPair_30 ?_
  refine V_icmp_eq (tgt := 42) hX dX3_readPair_31 (by decide) (by omega) (by decide) (fun c_1 => ?_) (fun c_1 => ?_)
  · refine V_iconst hX dX3_readPair_42 ?_
    exact V_zret hX hR rfl dX3_readPair_43 ⟨(congrArg (fun z => some (Value.int (jI z))) (bI_f (by omega)).symm), (sB_c rfl (by first | rfl | ((try unfold prA); (repeat' split) <;> first | rfl | omega | exact (up_same (by omega)).symm | exact up_same (by omega))) (by first | rfl | ((try unfold prA); (repeat' split) <;> first | rfl | omega | exact (up_same (by omega)).symm | exact up_same (by omega))) (by first | rfl | ((try unfold prA); (repeat' split) <;> first | rfl | omega | exact (up_same (by omega)).symm | exact up_same (by omega))) rfl (by first | rfl | ((try unfold prA); (repeat' split) <;> first | rfl | omega | exact (up_same (by omega)).symm | exact up_same (by omega))) (by first | rfl | ((try unfold prA); (repeat' split) <;> first | rfl | omega | exact (up_same (by omega)).symm | exact up_same (by omega))))⟩
  · refine V_aload_n hX dX3_readPair_34 2 rfl ?_
    refine V_iload_n hX dX3_readPair_35 4 rfl ?_
    refine V_cV (st := []) (v := .int (jI (bI (chA ch ln (rnA ch ln (ps + 1) 0 mf) = sg)))) (w' := sB G t ch ki fi se ln th (if chA ch ln (rnA ch ln (ps + 1) 0 mf) = sg then (rnA ch ln (ps + 1) 0 mf) + 1 else (rnA ch ln (ps + 1) 0 mf))) hX wc_X3_43 (c_X3_readSign l G t ch ki fi se ln th (rnA ch ln (ps + 1) 0 mf) sg hS (by omega) (by omega) (by omega)) (by decide) (by decide) rfl rfl (Nat.le_of_ble_eq_true rfl) dX3_readPair_36 [] ([]) (by simp only [List.append_assoc, List.nil_append, List.append_nil]) 0 rfl rfl (by simp only [List.append_assoc, List.nil_append, List.append_nil]) rfl rfl ?_
    refine V_ifnz (tgt := 44) hX dX3_readPair_39 (by decide) (fun c_2 => ?_) (fun c_2 => ?_)
    · refine V.wd (w' := sB G t ch ki fi se ln th ((rnA ch ln (ps + 1) 0 mf) + 1)) (sB_c rfl rfl rfl rfl rfl rfl (if_pos (by assumption))) ?_
      refine V_aload_n hX dX3_readPair_44 2 rfl ?_
      refine V_iload_n hX dX3_readPair_45 5 rfl ?_
      refine V_iload hX dX3_readPair_46 6 rfl ?_
      refine V_cV (st := []) (v := .int (jI (rnV ch ln ((rnA ch ln (ps + 1) 0 mf) + 1) lo mo))) (w' := sB G t ch ki fi se ln th (rnA ch ln ((rnA ch ln (ps + 1) 0 mf) + 1) lo mo)) hX wc_X3_61 (c_X3_readNumber l G t ch ki fi se ln th ((rnA ch ln (ps + 1) 0 mf) + 1) lo mo hS (by omega) (by omega) (by omega) (by omega)) (by decide) (by decide) rfl rfl (Nat.le_of_ble_eq_true rfl) dX3_readPair_48 [] ([]) (by simp only [List.append_assoc, List.nil_append, List.append_nil]) 0 rfl rfl (by simp only [List.append_assoc, List.nil_append, List.append_nil]) rfl rfl ?_
      refine V_istore (i := 7) (lv' := [(7, .int (jI (rnV ch ln ((rnA ch ln (ps + 1) 0 mf) + 1) lo mo))), (6, .int (jI (rnV ch ln (ps + 1) 0 mf))), (5, .int (jI (chA ch ln ps))), (0, .ref (t 0)), (1, .int (jI mf)), (2, .int (jI sg)), (3, .int (jI lo)), (4, .int (jI mo))]) hX dX3_readPair_51 (by decide) rfl ?_
      refine V_iload hX dX3_readPair_53 0 rfl ?_
      refine V_iconst hX dX3_readPair_55 ?_
      refine V_icmp_eq (tgt := 76) hX dX3_readPair_56 (by decide) (by omega) (by decide) (fun c_3 => ?_) (fun c_3 => ?_)
      · refine V_iconst hX dX3_readPair_76 ?_
        exact V_zret hX hR rfl dX3_readPair_77 ⟨(congrArg (fun z => some (Value.int (jI z))) (bI_f (by omega)).symm), (sB_c rfl (by first | rfl | ((try unfold prA); (repeat' split) <;> first | rfl | omega | exact (up_same (by omega)).symm | exact up_same (by omega))) (by first | rfl | ((try unfold prA); (repeat' split) <;> first | rfl | omega | exact (up_same (by omega)).symm | exact up_same (by omega))) (by first | rfl | ((try unfold prA); (repeat' split) <;> first | rfl | omega | exact (up_same (by omega)).symm | exact up_same (by omega))) rfl (by first | rfl | ((try unfold prA); (repeat' split) <;> first | rfl | omega | exact (up_same (by omega)).symm | exact up_same (by omega))) (by first | rfl | ((try unfold prA); (repeat' split) <;> first | rfl | omega | exact (up_same (by omega)).symm | exact up_same (by omega))))⟩
      · refine V_aload_n hX dX3_readPair_59 3 rfl ?_
        refine V_iload hX dX3_readPair_60 2 rfl ?_
        refine V_iload hX dX3_readPair_62 1 rfl ?_
        refine V_iload hX dX3_readPair_64 0 rfl ?_
        refine V_cV (st := []) (v := .int (jI (bI (True)))) (w' := sB G t ch (up ki th.toNat (chA ch ln ps)) (up fi th.toNat (rnV ch ln (ps + 1) 0 mf)) (up se th.toNat (rnV ch ln ((rnA ch ln (ps + 1) 0 mf) + 1) lo mo)) ln (th + 1) (rnA ch ln ((rnA ch ln (ps + 1) 0 mf) + 1) lo mo)) hX wc_X3_65 (c_X3_add l G t ch ki fi se ln th (rnA ch ln ((rnA ch ln (ps + 1) 0 mf) + 1) lo mo) (chA ch ln ps) (rnV ch ln (ps + 1) 0 mf) (rnV ch ln ((rnA ch ln (ps + 1) 0 mf) + 1) lo mo) hS (by omega) (by omega) (by omega)) (by decide) (by decide) rfl rfl (Nat.le_of_ble_eq_true rfl) dX3_readPair_66 [] ([]) (by simp only [List.append_assoc, List.nil_append, List.append_nil]) 0 rfl rfl (by simp only [List.append_assoc, List.nil_append, List.append_nil]) rfl rfl ?_
        refine V_ifz (tgt := 76) hX dX3_readPair_69 (by decide) (fun c_4 => ?_) (fun c_4 => ?_)
        · exact absurd trivial c_4
        · refine V_iconst hX dX3_readPair_72 ?_
          refine V_goto (tgt := 77) hX dX3_readPair_73 (by decide) ?_
          exact V_zret hX hR rfl dX3_readPair_77 ⟨(congrArg (fun z => some (Value.int (jI z))) (bI_t (by omega)).symm), (sB_c rfl (by first | rfl | ((try unfold prA); (repeat' split) <;> first | rfl | omega | exact (up_same (by omega)).symm | exact up_same (by omega))) (by first | rfl | ((try unfold prA); (repeat' split) <;> first | rfl | omega | exact (up_same (by omega)).symm | exact up_same (by omega))) (by first | rfl | ((try unfold prA); (repeat' split) <;> first | rfl | omega | exact (up_same (by omega)).symm | exact up_same (by omega))) rfl (by first | rfl | ((try unfold prA); (repeat' split) <;> first | rfl | omega | exact (up_same (by omega)).symm | exact up_same (by omega))) (by first | rfl | ((try unfold prA); (repeat' split) <;> first | rfl | omega | exact (up_same (by omega)).symm | exact up_same (by omega))))⟩
    · refine V.wd (w' := sB G t ch ki fi se ln th (rnA ch ln (ps + 1) 0 mf)) (sB_c rfl rfl rfl rfl rfl rfl (if_neg (by assumption))) ?_
      refine V_iconst hX dX3_readPair_42 ?_
      exact V_zret hX hR rfl dX3_readPair_43 ⟨(congrArg (fun z => some (Value.int (jI z))) (bI_f (by omega)).symm), (sB_c rfl (by first | rfl | ((try unfold prA); (repeat' split) <;> first | rfl | omega | exact (up_same (by omega)).symm | exact up_same (by omega))) (by first | rfl | ((try unfold prA); (repeat' split) <;> first | rfl | omega | exact (up_same (by omega)).symm | exact up_same (by omega))) (by first | rfl | ((try unfold prA); (repeat' split) <;> first | rfl | omega | exact (up_same (by omega)).symm | exact up_same (by omega))) rfl (by first | rfl | ((try unfold prA); (repeat' split) <;> first | rfl | omega | exact (up_same (by omega)).symm | exact up_same (by omega))) (by first | rfl | ((try unfold prA); (repeat' split) <;> first | rfl | omega | exact (up_same (by omega)).symm | exact up_same (by omega))))⟩

set_option maxHeartbeats 4000000 in
set_option maxRecDepth 100000 in
theorem c_X3_readThing (l : Launch) (G : vC) (t : Nat → Nat) (ch : Nat → Int) (ki : Nat → Int) (fi : Nat → Int) (se : Nat → Int) (ln : Int) (th : Int) (ps : Int) (hS : SI ch ln) (hps : 0 ≤ ps ∧ ps ≤ 1500000) (hth : 0 ≤ th ∧ th ≤ 30) (ht2 : th < 30) : Fn l G yX3_readThing cX3_readThing 1 (some .boolean) ({ frames := 4, cells := 0, slots := 0, locals := 96 } : Room) [.ref (t 0)] (sB G t ch ki fi se ln th ps) (some (.int (jI (bI (thO ch ln ps))))) (sB G t ch (if thO ch ln ps then up ki th.toNat (chA ch ln ps) else ki) (if thO ch ln ps then up fi th.toNat (thF ch ln ps) else fi) (if thO ch ln ps then up se th.toNat (thG ch ln ps) else se) ln (if thO ch ln ps then th + 1 else th) (thA ch ln ps)) := by
  refine Ct.of (by decide) (Nat.le_of_ble_eq_true rfl) (fun X hX hR => ?_)
  refine V.toLv (lv' := [(0, .ref (t 0))]) rfl ?_
  have hln := hS.2
  have hcb := chA_b hS ps
  refine V_aload_n hX dX3_readThing_0 0 rfl ?_
  refine V_aload_n hX dX3_readThing_1 0 rfl ?_
  refine V_get (v := .int (jI ps)) hX cbX3 6 0 (by decide) wf_X3_33 rfl rfl rfl rfl dX3_readThing_2 ?_
  refine V_cV (st := []) (v := .int (jI (chA ch ln ps))) (w' := sB G t ch ki fi se ln th ps) hX wc_X3_47 (c_X3_characterAt l G t ch ki fi se ln th ps ps hS (by omega) (by omega) (by omega)) (by decide) (by decide) rfl rfl (Nat.le_of_ble_eq_true rfl) dX3_readThing_5 [] ([]) (by simp only [List.append_assoc, List.nil_append, List.append_nil]) 0 rfl rfl (by simp only [List.append_assoc, List.nil_append, List.append_nil]) rfl rfl ?_
  by_cases c_1 : chA ch ln ps = 46
  · refine V_lookup (tgt := 99) hX dX3_readThing_8 (by omega) (by decide) (by rw [c_1] <;> rfl) (by decide) ?_
    refine V_aload_n hX dX3_readThing_99 0 rfl ?_
    refine V_cV (st := []) (v := .int (jI (bI (rnV ch ln (ps + 1) 1 99 ≠ -1)))) (w' := sB G t ch (if rnV ch ln (ps + 1) 1 99 ≠ -1 then up ki th.toNat 46 else ki) (if rnV ch ln (ps + 1) 1 99 ≠ -1 then up fi th.toNat (rnV ch ln (ps + 1) 1 99) else fi) (if rnV ch ln (ps + 1) 1 99 ≠ -1 then up se th.toNat 0 else se) ln (if rnV ch ln (ps + 1) 1 99 ≠ -1 then th + 1 else th) (rnA ch ln (ps + 1) 1 99)) hX wc_X3_58 (c_X3_readTicks l G t ch ki fi se ln th ps hS (by omega) (by omega) (by omega)) (by decide) (by decide) rfl rfl (Nat.le_of_ble_eq_true rfl) dX3_readThing_100 [] ([]) (by simp only [List.append_assoc, List.nil_append, List.append_nil]) 0 rfl rfl (by simp only [List.append_assoc, List.nil_append, List.append_nil]) rfl rfl ?_
    have hq := th_46 (tx := ch) (ln := ln) (a := ps) (by first | assumption | omega)
    obtain ⟨q1, q2, q3, q4⟩ := hq
    exact V_zret hX hR (nb_bI _) dX3_readThing_103 ⟨congrArg (fun z => some (Value.int (jI z))) (bI_c q1.symm), sB_c rfl (if_cg q1 (by first | rfl | (congr 1; omega)) rfl) (if_cg q1 (by rw [q3]) rfl) (if_cg q1 (by rw [q4]) rfl) rfl (if_cg q1 rfl rfl) q2.symm⟩
  by_cases c_2 : chA ch ln ps = 99
  · refine V_lookup (tgt := 71) hX dX3_readThing_8 (by omega) (by decide) (by rw [c_2] <;> rfl) (by decide) ?_
    refine V_aload_n hX dX3_readThing_71 0 rfl ?_
    refine V_bipush hX dX3_readThing_72 (by decide) ?_
    refine V_bipush hX dX3_readThing_74 (by decide) ?_
    refine V_iconst hX dX3_readThing_76 ?_
    refine V_iconst hX dX3_readThing_77 ?_
    refine V_cV (st := []) (v := .int (jI (bI (prO ch ln ps 11 58 0 3)))) (w' := sB G t ch (if prO ch ln ps 11 58 0 3 then up ki th.toNat (chA ch ln ps) else ki) (if prO ch ln ps 11 58 0 3 then up fi th.toNat (rnV ch ln (ps + 1) 0 11) else fi) (if prO ch ln ps 11 58 0 3 then up se th.toNat (rnV ch ln (rnA ch ln (ps + 1) 0 11 + 1) 0 3) else se) ln (if prO ch ln ps 11 58 0 3 then th + 1 else th) (prA ch ln ps 11 58 0 3)) hX wc_X3_51 (c_X3_readPair l G t ch ki fi se ln th ps 11 58 0 3 hS (by omega) (by omega) (by omega) (by omega) (by omega) (by omega) (by omega)) (by decide) (by decide) rfl rfl (Nat.le_of_ble_eq_true rfl) dX3_readThing_78 [] ([]) (by simp only [List.append_assoc, List.nil_append, List.append_nil]) 0 rfl rfl (by simp only [List.append_assoc, List.nil_append, List.append_nil]) rfl rfl ?_
    have hq := th_99 (tx := ch) (ln := ln) (a := ps) (by first | assumption | omega)
    obtain ⟨q1, q2, q3, q4⟩ := hq
    exact V_zret hX hR (nb_bI _) dX3_readThing_81 ⟨congrArg (fun z => some (Value.int (jI z))) (bI_c q1.symm), sB_c rfl (if_cg q1 (by first | rfl | (congr 1; omega)) rfl) (if_cg q1 (by rw [q3]) rfl) (if_cg q1 (by rw [q4]) rfl) rfl (if_cg q1 rfl rfl) q2.symm⟩
  by_cases c_3 : chA ch ln ps = 102
  · refine V_lookup (tgt := 82) hX dX3_readThing_8 (by omega) (by decide) (by rw [c_3] <;> rfl) (by decide) ?_
    refine V_aload_n hX dX3_readThing_82 0 rfl ?_
    refine V_bipush hX dX3_readThing_83 (by decide) ?_
    refine V_bipush hX dX3_readThing_85 (by decide) ?_
    refine V_iconst hX dX3_readThing_87 ?_
    refine V_bipush hX dX3_readThing_88 (by decide) ?_
    refine V_cV (st := []) (v := .int (jI (bI (prO ch ln ps 11 43 1 64)))) (w' := sB G t ch (if prO ch ln ps 11 43 1 64 then up ki th.toNat (chA ch ln ps) else ki) (if prO ch ln ps 11 43 1 64 then up fi th.toNat (rnV ch ln (ps + 1) 0 11) else fi) (if prO ch ln ps 11 43 1 64 then up se th.toNat (rnV ch ln (rnA ch ln (ps + 1) 0 11 + 1) 1 64) else se) ln (if prO ch ln ps 11 43 1 64 then th + 1 else th) (prA ch ln ps 11 43 1 64)) hX wc_X3_51 (c_X3_readPair l G t ch ki fi se ln th ps 11 43 1 64 hS (by omega) (by omega) (by omega) (by omega) (by omega) (by omega) (by omega)) (by decide) (by decide) rfl rfl (Nat.le_of_ble_eq_true rfl) dX3_readThing_90 [] ([]) (by simp only [List.append_assoc, List.nil_append, List.append_nil]) 0 rfl rfl (by simp only [List.append_assoc, List.nil_append, List.append_nil]) rfl rfl ?_
    have hq := th_102 (tx := ch) (ln := ln) (a := ps) (by first | assumption | omega)
    obtain ⟨q1, q2, q3, q4⟩ := hq
    exact V_zret hX hR (nb_bI _) dX3_readThing_93 ⟨congrArg (fun z => some (Value.int (jI z))) (bI_c q1.symm), sB_c rfl (if_cg q1 (by first | rfl | (congr 1; omega)) rfl) (if_cg q1 (by rw [q3]) rfl) (if_cg q1 (by rw [q4]) rfl) rfl (if_cg q1 rfl rfl) q2.symm⟩
  by_cases c_4 : chA ch ln ps = 118
  · refine V_lookup (tgt := 94) hX dX3_readThing_8 (by omega) (by decide) (by rw [c_4] <;> rfl) (by decide) ?_
    refine V_aload_n hX dX3_readThing_94 0 rfl ?_
    refine V_cV (st := []) (v := .int (jI (bI (True)))) (w' := sB G t ch (up ki th.toNat 118) (up fi th.toNat 0) (up se th.toNat 0) ln (th + 1) (ps + 1)) hX wc_X3_55 (c_X3_readVote l G t ch ki fi se ln th ps hS (by omega) (by omega) (by omega)) (by decide) (by decide) rfl rfl (Nat.le_of_ble_eq_true rfl) dX3_readThing_95 [] ([]) (by simp only [List.append_assoc, List.nil_append, List.append_nil]) 0 rfl rfl (by simp only [List.append_assoc, List.nil_append, List.append_nil]) rfl rfl ?_
    have hq := th_118 (tx := ch) (ln := ln) (a := ps) (by first | assumption | omega)
    obtain ⟨q1, q2, q3, q4⟩ := hq
    have q0 : thO ch ln ps := q1.mpr trivial
    exact V_zret hX hR (nb_bI _) dX3_readThing_98 ⟨congrArg (fun z => some (Value.int (jI z))) (bI_c q1.symm), sB_c rfl (by rw [if_pos q0]; first | rfl | (congr 1; omega)) (by rw [if_pos q0, q3]) (by rw [if_pos q0, q4]) rfl (if_pos q0).symm q2.symm⟩
  by_cases c_5 : chA ch ln ps = 119
  · refine V_lookup (tgt := 60) hX dX3_readThing_8 (by omega) (by decide) (by rw [c_5] <;> rfl) (by decide) ?_
    refine V_aload_n hX dX3_readThing_60 0 rfl ?_
    refine V_iconst hX dX3_readThing_61 ?_
    refine V_bipush hX dX3_readThing_62 (by decide) ?_
    refine V_iconst hX dX3_readThing_64 ?_
    refine V_bipush hX dX3_readThing_65 (by decide) ?_
    refine V_cV (st := []) (v := .int (jI (bI (prO ch ln ps 3 42 0 9)))) (w' := sB G t ch (if prO ch ln ps 3 42 0 9 then up ki th.toNat (chA ch ln ps) else ki) (if prO ch ln ps 3 42 0 9 then up fi th.toNat (rnV ch ln (ps + 1) 0 3) else fi) (if prO ch ln ps 3 42 0 9 then up se th.toNat (rnV ch ln (rnA ch ln (ps + 1) 0 3 + 1) 0 9) else se) ln (if prO ch ln ps 3 42 0 9 then th + 1 else th) (prA ch ln ps 3 42 0 9)) hX wc_X3_51 (c_X3_readPair l G t ch ki fi se ln th ps 3 42 0 9 hS (by omega) (by omega) (by omega) (by omega) (by omega) (by omega) (by omega)) (by decide) (by decide) rfl rfl (Nat.le_of_ble_eq_true rfl) dX3_readThing_67 [] ([]) (by simp only [List.append_assoc, List.nil_append, List.append_nil]) 0 rfl rfl (by simp only [List.append_assoc, List.nil_append, List.append_nil]) rfl rfl ?_
    have hq := th_119 (tx := ch) (ln := ln) (a := ps) (by first | assumption | omega)
    obtain ⟨q1, q2, q3, q4⟩ := hq
    exact V_zret hX hR (nb_bI _) dX3_readThing_70 ⟨congrArg (fun z => some (Value.int (jI z))) (bI_c q1.symm), sB_c rfl (if_cg q1 (by first | rfl | (congr 1; omega)) rfl) (if_cg q1 (by rw [q3]) rfl) (if_cg q1 (by rw [q4]) rfl) rfl (if_cg q1 rfl rfl) q2.symm⟩
  refine V_lookup (tgt := 104) hX dX3_readThing_8 (by omega) (by decide) (lk_out (by simp [Ne.symm c_1, Ne.symm c_2, Ne.symm c_3, Ne.symm c_4, Ne.symm c_5, c_1, c_2, c_3, c_4, c_5])) (by decide) ?_
  refine V_iconst hX dX3_readThing_104 ?_
  have hq := th_x (tx := ch) (ln := ln) (a := ps) (by omega)
  obtain ⟨q1, q2, q3, q4⟩ := hq
  exact V_zret hX hR rfl dX3_readThing_105 ⟨congrArg (fun z => some (Value.int (jI z))) (bI_f q1).symm, sB_c rfl (if_neg q1).symm (if_neg q1).symm (if_neg q1).symm rfl (if_neg q1).symm q2.symm⟩
