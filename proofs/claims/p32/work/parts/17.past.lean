/-! the history -/
def rot4 (q : Nat → Nat → Nat) : Nat → Nat → Nat := fun i => if i = 0 then q 1 else if i = 1 then q 2 else if i = 2 then q 3 else if i = 3 then q 0 else q i
theorem rot_fn (q : Nat → Nat → Nat) : va_up (va_up (va_up (va_up (fun i => some (q i 0)) 0 (some ((q 1) 0))) 1 (some ((q 2) 0))) 2 (some ((q 3) 0))) 3 (some ((q 0) 0)) = fun i => some (rot4 q i 0) := by
  funext i
  unfold va_up rot4
  (repeat' split) <;> first | rfl | omega
def rotQ (q : Nat → Nat → Nat) (sz : Nat) : Nat → Nat → Nat := if sz = 4 then rot4 q else q
def pushH (hs : Nat → Nat → Int) (sz : Nat) (s : Nat → Int) : Nat → Nat → Int := if sz = 4 then (fun i => if i = 3 then s else hs (i + 1)) else (fun i => if i = sz then s else hs i)
def pW (G : vC) (p : Nat → Nat) (q : Nat → Nat → Nat) (hs : Nat → Nat → Int) (sz : Nat) : va_W := pB G p (fun i => some (q i 0)) sz ++ (hB G (q 0) (hs 0) ++ (hB G (q 1) (hs 1) ++ (hB G (q 2) (hs 2) ++ hB G (q 3) (hs 3))))

set_option maxHeartbeats 4000000 in
set_option maxRecDepth 100000 in
theorem c_X2_dropOldest (l : Launch) (G : vC) (p : Nat → Nat) (q : Nat → Nat → Nat) (hs : Nat → Nat → Int)  : Fn l G yX2_dropOldest cX2_dropOldest 3 none ({ frames := 0, cells := 0, slots := 0, locals := 0 } : Room) [.ref (p 0)] (pB G p (fun i => some (q i 0)) 4 ++ (hB G (q 0) (hs 0) ++ (hB G (q 1) (hs 1) ++ (hB G (q 2) (hs 2) ++ hB G (q 3) (hs 3))))) none (pB G p (fun i => some (rot4 q i 0)) 3 ++ (hB G (q 0) (hs 0) ++ (hB G (q 1) (hs 1) ++ (hB G (q 2) (hs 2) ++ hB G (q 3) (hs 3))))) := by
  refine Ct.of (by decide) (Nat.le_of_ble_eq_true rfl) (fun X hX hR => ?_)
  refine V.toLv (lv' := [(0, .ref (p 0))]) rfl ?_
  refine V_aload_n hX dX2_dropOldest_0 0 rfl ?_
  refine V_get (v := .ref (p 1)) hX cbX2 0 0 (by decide) wf_X2_11 rfl rfl rfl rfl dX2_dropOldest_1 ?_
  refine V_iconst hX dX2_dropOldest_4 ?_
  refine V_aald (i0 := 0) (r := .ref ((q 0) 0)) hX 1 rfl (by decide) (by decide) (by decide) rfl rfl dX2_dropOldest_5 ?_
  refine V_astore_n (i := 1) (lv' := [(1, .ref ((q 0) 0)), (0, .ref (p 0))]) hX dX2_dropOldest_6 rfl (by decide) rfl ?_
  refine V_iconst hX dX2_dropOldest_7 ?_
  refine V_istore_n (i := 2) (lv' := [(2, .int (jI 1)), (1, .ref ((q 0) 0)), (0, .ref (p 0))]) hX dX2_dropOldest_8 rfl (by decide) rfl ?_
  refine V_iload_n hX dX2_dropOldest_9 0 rfl ?_
  refine V_iconst hX dX2_dropOldest_10 ?_
  refine V_icmp_ge (tgt := 34) hX dX2_dropOldest_11 (by decide) (by decide) (by decide) (fun c_1 => absurd c_1 (by decide)) (fun c_1 => ?_)
  refine V_aload_n hX dX2_dropOldest_14 2 rfl ?_
  refine V_get (v := .ref (p 1)) hX cbX2 0 0 (by decide) wf_X2_11 rfl rfl rfl rfl dX2_dropOldest_15 ?_
  refine V_iload_n hX dX2_dropOldest_18 0 rfl ?_
  refine V_iconst hX dX2_dropOldest_19 ?_
  refine V_isub (c := 0) hX dX2_dropOldest_20 rfl ?_
  refine V_aload_n hX dX2_dropOldest_21 2 rfl ?_
  refine V_get (v := .ref (p 1)) hX cbX2 0 0 (by decide) wf_X2_11 rfl rfl rfl rfl dX2_dropOldest_22 ?_
  refine V_iload_n hX dX2_dropOldest_25 0 rfl ?_
  refine V_aald (i0 := 1) (r := .ref ((q 1) 0)) hX 1 rfl (by decide) (by decide) (by decide) rfl rfl dX2_dropOldest_26 ?_
  refine V_aast (i0 := 0) (w' := pB G p (va_up (fun i => some (q i 0)) 0 (some ((q 1) 0))) 4 ++ (hB G (q 0) (hs 0) ++ (hB G (q 1) (hs 1) ++ (hB G (q 2) (hs 2) ++ hB G (q 3) (hs 3))))) hX 1 13 rfl rfl (by decide) (by decide) (by decide) rfl dX2_dropOldest_27 rfl ?_
  refine V_iinc (b := 2) (lv' := [(2, .int (jI 2)), (1, .ref ((q 0) 0)), (0, .ref (p 0))]) hX dX2_dropOldest_28 0 rfl rfl (by decide) rfl ?_
  refine V_goto (tgt := 9) hX dX2_dropOldest_31 (by decide) ?_
  refine V_iload_n hX dX2_dropOldest_9 0 rfl ?_
  refine V_iconst hX dX2_dropOldest_10 ?_
  refine V_icmp_ge (tgt := 34) hX dX2_dropOldest_11 (by decide) (by decide) (by decide) (fun c_2 => absurd c_2 (by decide)) (fun c_2 => ?_)
  refine V_aload_n hX dX2_dropOldest_14 2 rfl ?_
  refine V_get (v := .ref (p 1)) hX cbX2 0 0 (by decide) wf_X2_11 rfl rfl rfl rfl dX2_dropOldest_15 ?_
  refine V_iload_n hX dX2_dropOldest_18 0 rfl ?_
  refine V_iconst hX dX2_dropOldest_19 ?_
  refine V_isub (c := 1) hX dX2_dropOldest_20 rfl ?_
  refine V_aload_n hX dX2_dropOldest_21 2 rfl ?_
  refine V_get (v := .ref (p 1)) hX cbX2 0 0 (by decide) wf_X2_11 rfl rfl rfl rfl dX2_dropOldest_22 ?_
  refine V_iload_n hX dX2_dropOldest_25 0 rfl ?_
  refine V_aald (i0 := 2) (r := .ref ((q 2) 0)) hX 1 rfl (by decide) (by decide) (by decide) rfl rfl dX2_dropOldest_26 ?_
  refine V_aast (i0 := 1) (w' := pB G p (va_up (va_up (fun i => some (q i 0)) 0 (some ((q 1) 0))) 1 (some ((q 2) 0))) 4 ++ (hB G (q 0) (hs 0) ++ (hB G (q 1) (hs 1) ++ (hB G (q 2) (hs 2) ++ hB G (q 3) (hs 3))))) hX 1 24 rfl rfl (by decide) (by decide) (by decide) rfl dX2_dropOldest_27 rfl ?_
  refine V_iinc (b := 3) (lv' := [(2, .int (jI 3)), (1, .ref ((q 0) 0)), (0, .ref (p 0))]) hX dX2_dropOldest_28 0 rfl rfl (by decide) rfl ?_
  refine V_goto (tgt := 9) hX dX2_dropOldest_31 (by decide) ?_
  refine V_iload_n hX dX2_dropOldest_9 0 rfl ?_
  refine V_iconst hX dX2_dropOldest_10 ?_
  refine V_icmp_ge (tgt := 34) hX dX2_dropOldest_11 (by decide) (by decide) (by decide) (fun c_3 => absurd c_3 (by decide)) (fun c_3 => ?_)
  refine V_aload_n hX dX2_dropOldest_14 2 rfl ?_
  refine V_get (v := .ref (p 1)) hX cbX2 0 0 (by decide) wf_X2_11 rfl rfl rfl rfl dX2_dropOldest_15 ?_
  refine V_iload_n hX dX2_dropOldest_18 0 rfl ?_
  refine V_iconst hX dX2_dropOldest_19 ?_
  refine V_isub (c := 2) hX dX2_dropOldest_20 rfl ?_
  refine V_aload_n hX dX2_dropOldest_21 2 rfl ?_
  refine V_get (v := .ref (p 1)) hX cbX2 0 0 (by decide) wf_X2_11 rfl rfl rfl rfl dX2_dropOldest_22 ?_
  refine V_iload_n hX dX2_dropOldest_25 0 rfl ?_
  refine V_aald (i0 := 3) (r := .ref ((q 3) 0)) hX 1 rfl (by decide) (by decide) (by decide) rfl rfl dX2_dropOldest_26 ?_
  refine V_aast (i0 := 2) (w' := pB G p (va_up (va_up (va_up (fun i => some (q i 0)) 0 (some ((q 1) 0))) 1 (some ((q 2) 0))) 2 (some ((q 3) 0))) 4 ++ (hB G (q 0) (hs 0) ++ (hB G (q 1) (hs 1) ++ (hB G (q 2) (hs 2) ++ hB G (q 3) (hs 3))))) hX 1 35 rfl rfl (by decide) (by decide) (by decide) rfl dX2_dropOldest_27 rfl ?_
  refine V_iinc (b := 4) (lv' := [(2, .int (jI 4)), (1, .ref ((q 0) 0)), (0, .ref (p 0))]) hX dX2_dropOldest_28 0 rfl rfl (by decide) rfl ?_
  refine V_goto (tgt := 9) hX dX2_dropOldest_31 (by decide) ?_
  refine V_iload_n hX dX2_dropOldest_9 0 rfl ?_
  refine V_iconst hX dX2_dropOldest_10 ?_
  refine V_icmp_ge (tgt := 34) hX dX2_dropOldest_11 (by decide) (by decide) (by decide) (fun c_4 => ?_) (fun c_4 => absurd c_4 (by decide))
  refine V_aload_n hX dX2_dropOldest_34 2 rfl ?_
  refine V_get (v := .ref (p 1)) hX cbX2 0 0 (by decide) wf_X2_11 rfl rfl rfl rfl dX2_dropOldest_35 ?_
  refine V_iconst hX dX2_dropOldest_38 ?_
  refine V_aload_n hX dX2_dropOldest_39 1 rfl ?_
  refine V_aast (i0 := 3) (w' := pB G p (va_up (va_up (va_up (va_up (fun i => some (q i 0)) 0 (some ((q 1) 0))) 1 (some ((q 2) 0))) 2 (some ((q 3) 0))) 3 (some ((q 0) 0))) 4 ++ (hB G (q 0) (hs 0) ++ (hB G (q 1) (hs 1) ++ (hB G (q 2) (hs 2) ++ hB G (q 3) (hs 3))))) hX 1 2 rfl rfl (by decide) (by decide) (by decide) rfl dX2_dropOldest_40 rfl ?_
  refine V_aload_n hX dX2_dropOldest_41 2 rfl ?_
  refine V_iconst hX dX2_dropOldest_42 ?_
  refine V_put (w' := pB G p (va_up (va_up (va_up (va_up (fun i => some (q i 0)) 0 (some ((q 1) 0))) 1 (some ((q 2) 0))) 2 (some ((q 3) 0))) 3 (some ((q 0) 0))) 3 ++ (hB G (q 0) (hs 0) ++ (hB G (q 1) (hs 1) ++ (hB G (q 2) (hs 2) ++ hB G (q 3) (hs 3))))) hX cbX2 1 0 (by decide) wf_X2_18 rfl rfl rfl rfl rfl rfl (Nat.le_of_ble_eq_true rfl) dX2_dropOldest_43 rfl ?_
  exact V_vret hX hR dX2_dropOldest_46 ⟨rfl, (app_c (congrArg (fun f => pB G p f 3) (rot_fn q)) rfl)⟩

set_option maxHeartbeats 4000000 in
set_option maxRecDepth 100000 in
theorem c_X2_remember_0 (l : Launch) (G : vC) (p : Nat → Nat) (q : Nat → Nat → Nat) (hs : Nat → Nat → Int) (h : Nat → Nat) (s : Nat → Int)  : Fn l G yX2_remember cX2_remember 2 none ({ frames := 3, cells := 0, slots := 0, locals := 200 } : Room) [.ref (p 0), .ref (h 0)] (pB G p (fun i => some (q i 0)) 0 ++ (hB G (q 0) (hs 0) ++ (hB G (q 1) (hs 1) ++ (hB G (q 2) (hs 2) ++ (hB G (q 3) (hs 3) ++ hB G h s))))) none (pB G p (fun i => some (q i 0)) 1 ++ (hB G (q 0) s ++ (hB G (q 1) (hs 1) ++ (hB G (q 2) (hs 2) ++ (hB G (q 3) (hs 3) ++ hB G h s))))) := by
  refine Ct.of (by decide) (Nat.le_of_ble_eq_true rfl) (fun X hX hR => ?_)
  refine V.toLv (lv' := [(0, .ref (p 0)), (1, .ref (h 0))]) rfl ?_
  refine V_aload_n hX dX2_remember_0 0 rfl ?_
  refine V_get (v := .int (jI 0)) hX cbX2 1 0 (by decide) wf_X2_18 rfl rfl rfl rfl dX2_remember_1 ?_
  refine V_iconst hX dX2_remember_4 ?_
  refine V_icmp_lt (tgt := 12) hX dX2_remember_5 (by decide) (by decide) (by decide) (fun c_1 => ?_) (fun c_1 => absurd c_1 (by decide))
  refine V_aload_n hX dX2_remember_12 0 rfl ?_
  refine V_get (v := .ref (p 1)) hX cbX2 0 0 (by decide) wf_X2_11 rfl rfl rfl rfl dX2_remember_13 ?_
  refine V_aload_n hX dX2_remember_16 0 rfl ?_
  refine V_get (v := .int (jI 0)) hX cbX2 1 0 (by decide) wf_X2_18 rfl rfl rfl rfl dX2_remember_17 ?_
  refine V_aald (i0 := 0) (r := .ref ((q 0) 0)) hX 1 rfl (by decide) (by decide) (by decide) rfl rfl dX2_remember_20 ?_
  refine V_aload_n hX dX2_remember_21 1 rfl ?_
  refine V.perm (w' := hB G (q 0) (hs 0) ++ (pB G p (fun i => some (q i 0)) 0 ++ (hB G (q 1) (hs 1) ++ (hB G (q 2) (hs 2) ++ (hB G (q 3) (hs 3) ++ hB G h s))))) (List.perm_append_comm_assoc (pB G p (fun i => some (q i 0)) 0) (hB G (q 0) (hs 0)) (hB G (q 1) (hs 1) ++ (hB G (q 2) (hs 2) ++ (hB G (q 3) (hs 3) ++ hB G h s)))) ?_
  refine V.perm (w' := hB G (q 0) (hs 0) ++ (pB G p (fun i => some (q i 0)) 0 ++ (hB G (q 1) (hs 1) ++ (hB G (q 2) (hs 2) ++ (hB G h s ++ hB G (q 3) (hs 3)))))) (List.Perm.append_left (hB G (q 0) (hs 0)) (List.Perm.append_left (pB G p (fun i => some (q i 0)) 0) (List.Perm.append_left (hB G (q 1) (hs 1)) (List.Perm.append_left (hB G (q 2) (hs 2)) (List.perm_append_comm (l₁ := hB G (q 3) (hs 3)) (l₂ := hB G h s)))))) ?_
  refine V.perm (w' := hB G (q 0) (hs 0) ++ (pB G p (fun i => some (q i 0)) 0 ++ (hB G (q 1) (hs 1) ++ (hB G h s ++ (hB G (q 2) (hs 2) ++ hB G (q 3) (hs 3)))))) (List.Perm.append_left (hB G (q 0) (hs 0)) (List.Perm.append_left (pB G p (fun i => some (q i 0)) 0) (List.Perm.append_left (hB G (q 1) (hs 1)) (List.perm_append_comm_assoc (hB G (q 2) (hs 2)) (hB G h s) (hB G (q 3) (hs 3)))))) ?_
  refine V.perm (w' := hB G (q 0) (hs 0) ++ (pB G p (fun i => some (q i 0)) 0 ++ (hB G h s ++ (hB G (q 1) (hs 1) ++ (hB G (q 2) (hs 2) ++ hB G (q 3) (hs 3)))))) (List.Perm.append_left (hB G (q 0) (hs 0)) (List.Perm.append_left (pB G p (fun i => some (q i 0)) 0) (List.perm_append_comm_assoc (hB G (q 1) (hs 1)) (hB G h s) (hB G (q 2) (hs 2) ++ hB G (q 3) (hs 3))))) ?_
  refine V.perm (w' := hB G (q 0) (hs 0) ++ (hB G h s ++ (pB G p (fun i => some (q i 0)) 0 ++ (hB G (q 1) (hs 1) ++ (hB G (q 2) (hs 2) ++ hB G (q 3) (hs 3)))))) (List.Perm.append_left (hB G (q 0) (hs 0)) (List.perm_append_comm_assoc (pB G p (fun i => some (q i 0)) 0) (hB G h s) (hB G (q 1) (hs 1) ++ (hB G (q 2) (hs 2) ++ hB G (q 3) (hs 3))))) ?_
  refine V_dVN (st := []) (w' := hB G (q 0) s ++ (hB G h s ++ (pB G p (fun i => some (q i 0)) 0 ++ (hB G (q 1) (hs 1) ++ (hB G (q 2) (hs 2) ++ hB G (q 3) (hs 3)))))) hX wc_X2_25 (c_X1_become l G (q 0) (hs 0) h s ) (by decide) (by decide) rfl rfl (Nat.le_of_ble_eq_true rfl) dX2_remember_22 [] (pB G p (fun i => some (q i 0)) 0 ++ (hB G (q 1) (hs 1) ++ (hB G (q 2) (hs 2) ++ hB G (q 3) (hs 3)))) (by simp only [List.append_assoc, List.nil_append, List.append_nil]) 0 rfl rfl (by simp only [List.append_assoc, List.nil_append, List.append_nil]) rfl rfl ?_
  refine V_aload_n hX dX2_remember_25 0 rfl ?_
  refine V_dup hX dX2_remember_26 rfl ?_
  refine V_get (v := .int (jI 0)) hX cbX2 1 22 (by decide) wf_X2_18 rfl rfl rfl rfl dX2_remember_27 ?_
  refine V_iconst hX dX2_remember_30 ?_
  refine V_iadd (c := 1) hX dX2_remember_31 rfl ?_
  refine V_put (w' := hB G (q 0) s ++ (hB G h s ++ (pB G p (fun i => some (q i 0)) 1 ++ (hB G (q 1) (hs 1) ++ (hB G (q 2) (hs 2) ++ hB G (q 3) (hs 3)))))) hX cbX2 1 22 (by decide) wf_X2_18 rfl rfl rfl rfl rfl rfl (Nat.le_of_ble_eq_true rfl) dX2_remember_32 rfl ?_
  refine V.perm (w' := hB G (q 0) s ++ (pB G p (fun i => some (q i 0)) 1 ++ (hB G h s ++ (hB G (q 1) (hs 1) ++ (hB G (q 2) (hs 2) ++ hB G (q 3) (hs 3)))))) (List.Perm.append_left (hB G (q 0) s) (List.perm_append_comm_assoc (hB G h s) (pB G p (fun i => some (q i 0)) 1) (hB G (q 1) (hs 1) ++ (hB G (q 2) (hs 2) ++ hB G (q 3) (hs 3))))) ?_
  refine V.perm (w' := pB G p (fun i => some (q i 0)) 1 ++ (hB G (q 0) s ++ (hB G h s ++ (hB G (q 1) (hs 1) ++ (hB G (q 2) (hs 2) ++ hB G (q 3) (hs 3)))))) (List.perm_append_comm_assoc (hB G (q 0) s) (pB G p (fun i => some (q i 0)) 1) (hB G h s ++ (hB G (q 1) (hs 1) ++ (hB G (q 2) (hs 2) ++ hB G (q 3) (hs 3))))) ?_
  refine V.perm (w' := pB G p (fun i => some (q i 0)) 1 ++ (hB G (q 0) s ++ (hB G (q 1) (hs 1) ++ (hB G h s ++ (hB G (q 2) (hs 2) ++ hB G (q 3) (hs 3)))))) (List.Perm.append_left (pB G p (fun i => some (q i 0)) 1) (List.Perm.append_left (hB G (q 0) s) (List.perm_append_comm_assoc (hB G h s) (hB G (q 1) (hs 1)) (hB G (q 2) (hs 2) ++ hB G (q 3) (hs 3))))) ?_
  refine V.perm (w' := pB G p (fun i => some (q i 0)) 1 ++ (hB G (q 0) s ++ (hB G (q 1) (hs 1) ++ (hB G (q 2) (hs 2) ++ (hB G h s ++ hB G (q 3) (hs 3)))))) (List.Perm.append_left (pB G p (fun i => some (q i 0)) 1) (List.Perm.append_left (hB G (q 0) s) (List.Perm.append_left (hB G (q 1) (hs 1)) (List.perm_append_comm_assoc (hB G h s) (hB G (q 2) (hs 2)) (hB G (q 3) (hs 3)))))) ?_
  refine V.perm (w' := pB G p (fun i => some (q i 0)) 1 ++ (hB G (q 0) s ++ (hB G (q 1) (hs 1) ++ (hB G (q 2) (hs 2) ++ (hB G (q 3) (hs 3) ++ hB G h s))))) (List.Perm.append_left (pB G p (fun i => some (q i 0)) 1) (List.Perm.append_left (hB G (q 0) s) (List.Perm.append_left (hB G (q 1) (hs 1)) (List.Perm.append_left (hB G (q 2) (hs 2)) (List.perm_append_comm (l₁ := hB G h s) (l₂ := hB G (q 3) (hs 3))))))) ?_
  exact V_vret hX hR dX2_remember_35 ⟨rfl, rfl⟩

set_option maxHeartbeats 4000000 in
set_option maxRecDepth 100000 in
theorem c_X2_bringBack_0 (l : Launch) (G : vC) (p : Nat → Nat) (q : Nat → Nat → Nat) (hs : Nat → Nat → Int) (h : Nat → Nat) (s : Nat → Int)  : Fn l G yX2_bringBack cX2_bringBack 2 (some .int) ({ frames := 3, cells := 0, slots := 0, locals := 200 } : Room) [.ref (p 0), .ref (h 0)] (pB G p (fun i => some (q i 0)) 0 ++ (hB G (q 0) (hs 0) ++ (hB G (q 1) (hs 1) ++ (hB G (q 2) (hs 2) ++ (hB G (q 3) (hs 3) ++ hB G h s))))) (some (.int (jI (-5)))) (pB G p (fun i => some (q i 0)) 0 ++ (hB G (q 0) (hs 0) ++ (hB G (q 1) (hs 1) ++ (hB G (q 2) (hs 2) ++ (hB G (q 3) (hs 3) ++ hB G h s))))) := by
  refine Ct.of (by decide) (Nat.le_of_ble_eq_true rfl) (fun X hX hR => ?_)
  refine V.toLv (lv' := [(0, .ref (p 0)), (1, .ref (h 0))]) rfl ?_
  refine V_aload_n hX dX2_bringBack_0 0 rfl ?_
  refine V_get (v := .int (jI 0)) hX cbX2 1 0 (by decide) wf_X2_18 rfl rfl rfl rfl dX2_bringBack_1 ?_
  refine V_if_gt (tgt := 10) hX dX2_bringBack_4 (by decide) (by decide) (fun c_1 => absurd c_1 (by decide)) (fun c_1 => ?_)
  refine V_bipush hX dX2_bringBack_7 (by decide) ?_
  exact V_iret hX hR dX2_bringBack_9 ⟨rfl, rfl⟩

set_option maxHeartbeats 4000000 in
set_option maxRecDepth 100000 in
theorem c_X2_remember_1 (l : Launch) (G : vC) (p : Nat → Nat) (q : Nat → Nat → Nat) (hs : Nat → Nat → Int) (h : Nat → Nat) (s : Nat → Int)  : Fn l G yX2_remember cX2_remember 2 none ({ frames := 3, cells := 0, slots := 0, locals := 200 } : Room) [.ref (p 0), .ref (h 0)] (pB G p (fun i => some (q i 0)) 1 ++ (hB G (q 0) (hs 0) ++ (hB G (q 1) (hs 1) ++ (hB G (q 2) (hs 2) ++ (hB G (q 3) (hs 3) ++ hB G h s))))) none (pB G p (fun i => some (q i 0)) 2 ++ (hB G (q 0) (hs 0) ++ (hB G (q 1) s ++ (hB G (q 2) (hs 2) ++ (hB G (q 3) (hs 3) ++ hB G h s))))) := by
  refine Ct.of (by decide) (Nat.le_of_ble_eq_true rfl) (fun X hX hR => ?_)
  refine V.toLv (lv' := [(0, .ref (p 0)), (1, .ref (h 0))]) rfl ?_
  refine V_aload_n hX dX2_remember_0 0 rfl ?_
  refine V_get (v := .int (jI 1)) hX cbX2 1 0 (by decide) wf_X2_18 rfl rfl rfl rfl dX2_remember_1 ?_
  refine V_iconst hX dX2_remember_4 ?_
  refine V_icmp_lt (tgt := 12) hX dX2_remember_5 (by decide) (by decide) (by decide) (fun c_1 => ?_) (fun c_1 => absurd c_1 (by decide))
  refine V_aload_n hX dX2_remember_12 0 rfl ?_
  refine V_get (v := .ref (p 1)) hX cbX2 0 0 (by decide) wf_X2_11 rfl rfl rfl rfl dX2_remember_13 ?_
  refine V_aload_n hX dX2_remember_16 0 rfl ?_
  refine V_get (v := .int (jI 1)) hX cbX2 1 0 (by decide) wf_X2_18 rfl rfl rfl rfl dX2_remember_17 ?_
  refine V_aald (i0 := 1) (r := .ref ((q 1) 0)) hX 1 rfl (by decide) (by decide) (by decide) rfl rfl dX2_remember_20 ?_
  refine V_aload_n hX dX2_remember_21 1 rfl ?_
  refine V.perm (w' := pB G p (fun i => some (q i 0)) 1 ++ (hB G (q 1) (hs 1) ++ (hB G (q 0) (hs 0) ++ (hB G (q 2) (hs 2) ++ (hB G (q 3) (hs 3) ++ hB G h s))))) (List.Perm.append_left (pB G p (fun i => some (q i 0)) 1) (List.perm_append_comm_assoc (hB G (q 0) (hs 0)) (hB G (q 1) (hs 1)) (hB G (q 2) (hs 2) ++ (hB G (q 3) (hs 3) ++ hB G h s)))) ?_
  refine V.perm (w' := hB G (q 1) (hs 1) ++ (pB G p (fun i => some (q i 0)) 1 ++ (hB G (q 0) (hs 0) ++ (hB G (q 2) (hs 2) ++ (hB G (q 3) (hs 3) ++ hB G h s))))) (List.perm_append_comm_assoc (pB G p (fun i => some (q i 0)) 1) (hB G (q 1) (hs 1)) (hB G (q 0) (hs 0) ++ (hB G (q 2) (hs 2) ++ (hB G (q 3) (hs 3) ++ hB G h s)))) ?_
  refine V.perm (w' := hB G (q 1) (hs 1) ++ (pB G p (fun i => some (q i 0)) 1 ++ (hB G (q 0) (hs 0) ++ (hB G (q 2) (hs 2) ++ (hB G h s ++ hB G (q 3) (hs 3)))))) (List.Perm.append_left (hB G (q 1) (hs 1)) (List.Perm.append_left (pB G p (fun i => some (q i 0)) 1) (List.Perm.append_left (hB G (q 0) (hs 0)) (List.Perm.append_left (hB G (q 2) (hs 2)) (List.perm_append_comm (l₁ := hB G (q 3) (hs 3)) (l₂ := hB G h s)))))) ?_
  refine V.perm (w' := hB G (q 1) (hs 1) ++ (pB G p (fun i => some (q i 0)) 1 ++ (hB G (q 0) (hs 0) ++ (hB G h s ++ (hB G (q 2) (hs 2) ++ hB G (q 3) (hs 3)))))) (List.Perm.append_left (hB G (q 1) (hs 1)) (List.Perm.append_left (pB G p (fun i => some (q i 0)) 1) (List.Perm.append_left (hB G (q 0) (hs 0)) (List.perm_append_comm_assoc (hB G (q 2) (hs 2)) (hB G h s) (hB G (q 3) (hs 3)))))) ?_
  refine V.perm (w' := hB G (q 1) (hs 1) ++ (pB G p (fun i => some (q i 0)) 1 ++ (hB G h s ++ (hB G (q 0) (hs 0) ++ (hB G (q 2) (hs 2) ++ hB G (q 3) (hs 3)))))) (List.Perm.append_left (hB G (q 1) (hs 1)) (List.Perm.append_left (pB G p (fun i => some (q i 0)) 1) (List.perm_append_comm_assoc (hB G (q 0) (hs 0)) (hB G h s) (hB G (q 2) (hs 2) ++ hB G (q 3) (hs 3))))) ?_
  refine V.perm (w' := hB G (q 1) (hs 1) ++ (hB G h s ++ (pB G p (fun i => some (q i 0)) 1 ++ (hB G (q 0) (hs 0) ++ (hB G (q 2) (hs 2) ++ hB G (q 3) (hs 3)))))) (List.Perm.append_left (hB G (q 1) (hs 1)) (List.perm_append_comm_assoc (pB G p (fun i => some (q i 0)) 1) (hB G h s) (hB G (q 0) (hs 0) ++ (hB G (q 2) (hs 2) ++ hB G (q 3) (hs 3))))) ?_
  refine V_dVN (st := []) (w' := hB G (q 1) s ++ (hB G h s ++ (pB G p (fun i => some (q i 0)) 1 ++ (hB G (q 0) (hs 0) ++ (hB G (q 2) (hs 2) ++ hB G (q 3) (hs 3)))))) hX wc_X2_25 (c_X1_become l G (q 1) (hs 1) h s ) (by decide) (by decide) rfl rfl (Nat.le_of_ble_eq_true rfl) dX2_remember_22 [] (pB G p (fun i => some (q i 0)) 1 ++ (hB G (q 0) (hs 0) ++ (hB G (q 2) (hs 2) ++ hB G (q 3) (hs 3)))) (by simp only [List.append_assoc, List.nil_append, List.append_nil]) 0 rfl rfl (by simp only [List.append_assoc, List.nil_append, List.append_nil]) rfl rfl ?_
  refine V_aload_n hX dX2_remember_25 0 rfl ?_
  refine V_dup hX dX2_remember_26 rfl ?_
  refine V_get (v := .int (jI 1)) hX cbX2 1 22 (by decide) wf_X2_18 rfl rfl rfl rfl dX2_remember_27 ?_
  refine V_iconst hX dX2_remember_30 ?_
  refine V_iadd (c := 2) hX dX2_remember_31 rfl ?_
  refine V_put (w' := hB G (q 1) s ++ (hB G h s ++ (pB G p (fun i => some (q i 0)) 2 ++ (hB G (q 0) (hs 0) ++ (hB G (q 2) (hs 2) ++ hB G (q 3) (hs 3)))))) hX cbX2 1 22 (by decide) wf_X2_18 rfl rfl rfl rfl rfl rfl (Nat.le_of_ble_eq_true rfl) dX2_remember_32 rfl ?_
  refine V.perm (w' := hB G (q 1) s ++ (pB G p (fun i => some (q i 0)) 2 ++ (hB G h s ++ (hB G (q 0) (hs 0) ++ (hB G (q 2) (hs 2) ++ hB G (q 3) (hs 3)))))) (List.Perm.append_left (hB G (q 1) s) (List.perm_append_comm_assoc (hB G h s) (pB G p (fun i => some (q i 0)) 2) (hB G (q 0) (hs 0) ++ (hB G (q 2) (hs 2) ++ hB G (q 3) (hs 3))))) ?_
  refine V.perm (w' := pB G p (fun i => some (q i 0)) 2 ++ (hB G (q 1) s ++ (hB G h s ++ (hB G (q 0) (hs 0) ++ (hB G (q 2) (hs 2) ++ hB G (q 3) (hs 3)))))) (List.perm_append_comm_assoc (hB G (q 1) s) (pB G p (fun i => some (q i 0)) 2) (hB G h s ++ (hB G (q 0) (hs 0) ++ (hB G (q 2) (hs 2) ++ hB G (q 3) (hs 3))))) ?_
  refine V.perm (w' := pB G p (fun i => some (q i 0)) 2 ++ (hB G (q 1) s ++ (hB G (q 0) (hs 0) ++ (hB G h s ++ (hB G (q 2) (hs 2) ++ hB G (q 3) (hs 3)))))) (List.Perm.append_left (pB G p (fun i => some (q i 0)) 2) (List.Perm.append_left (hB G (q 1) s) (List.perm_append_comm_assoc (hB G h s) (hB G (q 0) (hs 0)) (hB G (q 2) (hs 2) ++ hB G (q 3) (hs 3))))) ?_
  refine V.perm (w' := pB G p (fun i => some (q i 0)) 2 ++ (hB G (q 0) (hs 0) ++ (hB G (q 1) s ++ (hB G h s ++ (hB G (q 2) (hs 2) ++ hB G (q 3) (hs 3)))))) (List.Perm.append_left (pB G p (fun i => some (q i 0)) 2) (List.perm_append_comm_assoc (hB G (q 1) s) (hB G (q 0) (hs 0)) (hB G h s ++ (hB G (q 2) (hs 2) ++ hB G (q 3) (hs 3))))) ?_
  refine V.perm (w' := pB G p (fun i => some (q i 0)) 2 ++ (hB G (q 0) (hs 0) ++ (hB G (q 1) s ++ (hB G (q 2) (hs 2) ++ (hB G h s ++ hB G (q 3) (hs 3)))))) (List.Perm.append_left (pB G p (fun i => some (q i 0)) 2) (List.Perm.append_left (hB G (q 0) (hs 0)) (List.Perm.append_left (hB G (q 1) s) (List.perm_append_comm_assoc (hB G h s) (hB G (q 2) (hs 2)) (hB G (q 3) (hs 3)))))) ?_
  refine V.perm (w' := pB G p (fun i => some (q i 0)) 2 ++ (hB G (q 0) (hs 0) ++ (hB G (q 1) s ++ (hB G (q 2) (hs 2) ++ (hB G (q 3) (hs 3) ++ hB G h s))))) (List.Perm.append_left (pB G p (fun i => some (q i 0)) 2) (List.Perm.append_left (hB G (q 0) (hs 0)) (List.Perm.append_left (hB G (q 1) s) (List.Perm.append_left (hB G (q 2) (hs 2)) (List.perm_append_comm (l₁ := hB G h s) (l₂ := hB G (q 3) (hs 3))))))) ?_
  exact V_vret hX hR dX2_remember_35 ⟨rfl, rfl⟩

set_option maxHeartbeats 4000000 in
set_option maxRecDepth 100000 in
theorem c_X2_bringBack_1 (l : Launch) (G : vC) (p : Nat → Nat) (q : Nat → Nat → Nat) (hs : Nat → Nat → Int) (h : Nat → Nat) (s : Nat → Int)  : Fn l G yX2_bringBack cX2_bringBack 2 (some .int) ({ frames := 3, cells := 0, slots := 0, locals := 200 } : Room) [.ref (p 0), .ref (h 0)] (pB G p (fun i => some (q i 0)) 1 ++ (hB G (q 0) (hs 0) ++ (hB G (q 1) (hs 1) ++ (hB G (q 2) (hs 2) ++ (hB G (q 3) (hs 3) ++ hB G h s))))) (some (.int (jI 0))) (pB G p (fun i => some (q i 0)) 0 ++ (hB G (q 0) (hs 0) ++ (hB G (q 1) (hs 1) ++ (hB G (q 2) (hs 2) ++ (hB G (q 3) (hs 3) ++ hB G h (hs 0)))))) := by
  refine Ct.of (by decide) (Nat.le_of_ble_eq_true rfl) (fun X hX hR => ?_)
  refine V.toLv (lv' := [(0, .ref (p 0)), (1, .ref (h 0))]) rfl ?_
  refine V_aload_n hX dX2_bringBack_0 0 rfl ?_
  refine V_get (v := .int (jI 1)) hX cbX2 1 0 (by decide) wf_X2_18 rfl rfl rfl rfl dX2_bringBack_1 ?_
  refine V_if_gt (tgt := 10) hX dX2_bringBack_4 (by decide) (by decide) (fun c_1 => ?_) (fun c_1 => absurd c_1 (by decide))
  refine V_aload_n hX dX2_bringBack_10 0 rfl ?_
  refine V_dup hX dX2_bringBack_11 rfl ?_
  refine V_get (v := .int (jI 1)) hX cbX2 1 0 (by decide) wf_X2_18 rfl rfl rfl rfl dX2_bringBack_12 ?_
  refine V_iconst hX dX2_bringBack_15 ?_
  refine V_isub (c := 0) hX dX2_bringBack_16 rfl ?_
  refine V_put (w' := pB G p (fun i => some (q i 0)) 0 ++ (hB G (q 0) (hs 0) ++ (hB G (q 1) (hs 1) ++ (hB G (q 2) (hs 2) ++ (hB G (q 3) (hs 3) ++ hB G h s))))) hX cbX2 1 0 (by decide) wf_X2_18 rfl rfl rfl rfl rfl rfl (Nat.le_of_ble_eq_true rfl) dX2_bringBack_17 rfl ?_
  refine V_aload_n hX dX2_bringBack_20 1 rfl ?_
  refine V_aload_n hX dX2_bringBack_21 0 rfl ?_
  refine V_get (v := .ref (p 1)) hX cbX2 0 0 (by decide) wf_X2_11 rfl rfl rfl rfl dX2_bringBack_22 ?_
  refine V_aload_n hX dX2_bringBack_25 0 rfl ?_
  refine V_get (v := .int (jI 0)) hX cbX2 1 0 (by decide) wf_X2_18 rfl rfl rfl rfl dX2_bringBack_26 ?_
  refine V_aald (i0 := 0) (r := .ref ((q 0) 0)) hX 1 rfl (by decide) (by decide) (by decide) rfl rfl dX2_bringBack_29 ?_
  refine V.perm (w' := pB G p (fun i => some (q i 0)) 0 ++ (hB G (q 0) (hs 0) ++ (hB G (q 1) (hs 1) ++ (hB G (q 2) (hs 2) ++ (hB G h s ++ hB G (q 3) (hs 3)))))) (List.Perm.append_left (pB G p (fun i => some (q i 0)) 0) (List.Perm.append_left (hB G (q 0) (hs 0)) (List.Perm.append_left (hB G (q 1) (hs 1)) (List.Perm.append_left (hB G (q 2) (hs 2)) (List.perm_append_comm (l₁ := hB G (q 3) (hs 3)) (l₂ := hB G h s)))))) ?_
  refine V.perm (w' := pB G p (fun i => some (q i 0)) 0 ++ (hB G (q 0) (hs 0) ++ (hB G (q 1) (hs 1) ++ (hB G h s ++ (hB G (q 2) (hs 2) ++ hB G (q 3) (hs 3)))))) (List.Perm.append_left (pB G p (fun i => some (q i 0)) 0) (List.Perm.append_left (hB G (q 0) (hs 0)) (List.Perm.append_left (hB G (q 1) (hs 1)) (List.perm_append_comm_assoc (hB G (q 2) (hs 2)) (hB G h s) (hB G (q 3) (hs 3)))))) ?_
  refine V.perm (w' := pB G p (fun i => some (q i 0)) 0 ++ (hB G (q 0) (hs 0) ++ (hB G h s ++ (hB G (q 1) (hs 1) ++ (hB G (q 2) (hs 2) ++ hB G (q 3) (hs 3)))))) (List.Perm.append_left (pB G p (fun i => some (q i 0)) 0) (List.Perm.append_left (hB G (q 0) (hs 0)) (List.perm_append_comm_assoc (hB G (q 1) (hs 1)) (hB G h s) (hB G (q 2) (hs 2) ++ hB G (q 3) (hs 3))))) ?_
  refine V.perm (w' := pB G p (fun i => some (q i 0)) 0 ++ (hB G h s ++ (hB G (q 0) (hs 0) ++ (hB G (q 1) (hs 1) ++ (hB G (q 2) (hs 2) ++ hB G (q 3) (hs 3)))))) (List.Perm.append_left (pB G p (fun i => some (q i 0)) 0) (List.perm_append_comm_assoc (hB G (q 0) (hs 0)) (hB G h s) (hB G (q 1) (hs 1) ++ (hB G (q 2) (hs 2) ++ hB G (q 3) (hs 3))))) ?_
  refine V.perm (w' := hB G h s ++ (pB G p (fun i => some (q i 0)) 0 ++ (hB G (q 0) (hs 0) ++ (hB G (q 1) (hs 1) ++ (hB G (q 2) (hs 2) ++ hB G (q 3) (hs 3)))))) (List.perm_append_comm_assoc (pB G p (fun i => some (q i 0)) 0) (hB G h s) (hB G (q 0) (hs 0) ++ (hB G (q 1) (hs 1) ++ (hB G (q 2) (hs 2) ++ hB G (q 3) (hs 3))))) ?_
  refine V.perm (w' := hB G h s ++ (hB G (q 0) (hs 0) ++ (pB G p (fun i => some (q i 0)) 0 ++ (hB G (q 1) (hs 1) ++ (hB G (q 2) (hs 2) ++ hB G (q 3) (hs 3)))))) (List.Perm.append_left (hB G h s) (List.perm_append_comm_assoc (pB G p (fun i => some (q i 0)) 0) (hB G (q 0) (hs 0)) (hB G (q 1) (hs 1) ++ (hB G (q 2) (hs 2) ++ hB G (q 3) (hs 3))))) ?_
  refine V_dVN (st := []) (w' := hB G h (hs 0) ++ (hB G (q 0) (hs 0) ++ (pB G p (fun i => some (q i 0)) 0 ++ (hB G (q 1) (hs 1) ++ (hB G (q 2) (hs 2) ++ hB G (q 3) (hs 3)))))) hX wc_X2_25 (c_X1_become l G h s (q 0) (hs 0) ) (by decide) (by decide) rfl rfl (Nat.le_of_ble_eq_true rfl) dX2_bringBack_30 [] (pB G p (fun i => some (q i 0)) 0 ++ (hB G (q 1) (hs 1) ++ (hB G (q 2) (hs 2) ++ hB G (q 3) (hs 3)))) (by simp only [List.append_assoc, List.nil_append, List.append_nil]) 0 rfl rfl (by simp only [List.append_assoc, List.nil_append, List.append_nil]) rfl rfl ?_
  refine V_aload_n hX dX2_bringBack_33 0 rfl ?_
  refine V_get (v := .int (jI 0)) hX cbX2 1 22 (by decide) wf_X2_18 rfl rfl rfl rfl dX2_bringBack_34 ?_
  refine V.perm (w' := hB G h (hs 0) ++ (pB G p (fun i => some (q i 0)) 0 ++ (hB G (q 0) (hs 0) ++ (hB G (q 1) (hs 1) ++ (hB G (q 2) (hs 2) ++ hB G (q 3) (hs 3)))))) (List.Perm.append_left (hB G h (hs 0)) (List.perm_append_comm_assoc (hB G (q 0) (hs 0)) (pB G p (fun i => some (q i 0)) 0) (hB G (q 1) (hs 1) ++ (hB G (q 2) (hs 2) ++ hB G (q 3) (hs 3))))) ?_
  refine V.perm (w' := pB G p (fun i => some (q i 0)) 0 ++ (hB G h (hs 0) ++ (hB G (q 0) (hs 0) ++ (hB G (q 1) (hs 1) ++ (hB G (q 2) (hs 2) ++ hB G (q 3) (hs 3)))))) (List.perm_append_comm_assoc (hB G h (hs 0)) (pB G p (fun i => some (q i 0)) 0) (hB G (q 0) (hs 0) ++ (hB G (q 1) (hs 1) ++ (hB G (q 2) (hs 2) ++ hB G (q 3) (hs 3))))) ?_
  refine V.perm (w' := pB G p (fun i => some (q i 0)) 0 ++ (hB G (q 0) (hs 0) ++ (hB G h (hs 0) ++ (hB G (q 1) (hs 1) ++ (hB G (q 2) (hs 2) ++ hB G (q 3) (hs 3)))))) (List.Perm.append_left (pB G p (fun i => some (q i 0)) 0) (List.perm_append_comm_assoc (hB G h (hs 0)) (hB G (q 0) (hs 0)) (hB G (q 1) (hs 1) ++ (hB G (q 2) (hs 2) ++ hB G (q 3) (hs 3))))) ?_
  refine V.perm (w' := pB G p (fun i => some (q i 0)) 0 ++ (hB G (q 0) (hs 0) ++ (hB G (q 1) (hs 1) ++ (hB G h (hs 0) ++ (hB G (q 2) (hs 2) ++ hB G (q 3) (hs 3)))))) (List.Perm.append_left (pB G p (fun i => some (q i 0)) 0) (List.Perm.append_left (hB G (q 0) (hs 0)) (List.perm_append_comm_assoc (hB G h (hs 0)) (hB G (q 1) (hs 1)) (hB G (q 2) (hs 2) ++ hB G (q 3) (hs 3))))) ?_
  refine V.perm (w' := pB G p (fun i => some (q i 0)) 0 ++ (hB G (q 0) (hs 0) ++ (hB G (q 1) (hs 1) ++ (hB G (q 2) (hs 2) ++ (hB G h (hs 0) ++ hB G (q 3) (hs 3)))))) (List.Perm.append_left (pB G p (fun i => some (q i 0)) 0) (List.Perm.append_left (hB G (q 0) (hs 0)) (List.Perm.append_left (hB G (q 1) (hs 1)) (List.perm_append_comm_assoc (hB G h (hs 0)) (hB G (q 2) (hs 2)) (hB G (q 3) (hs 3)))))) ?_
  refine V.perm (w' := pB G p (fun i => some (q i 0)) 0 ++ (hB G (q 0) (hs 0) ++ (hB G (q 1) (hs 1) ++ (hB G (q 2) (hs 2) ++ (hB G (q 3) (hs 3) ++ hB G h (hs 0)))))) (List.Perm.append_left (pB G p (fun i => some (q i 0)) 0) (List.Perm.append_left (hB G (q 0) (hs 0)) (List.Perm.append_left (hB G (q 1) (hs 1)) (List.Perm.append_left (hB G (q 2) (hs 2)) (List.perm_append_comm (l₁ := hB G h (hs 0)) (l₂ := hB G (q 3) (hs 3))))))) ?_
  exact V_iret hX hR dX2_bringBack_37 ⟨rfl, rfl⟩

set_option maxHeartbeats 4000000 in
set_option maxRecDepth 100000 in
theorem c_X2_remember_2 (l : Launch) (G : vC) (p : Nat → Nat) (q : Nat → Nat → Nat) (hs : Nat → Nat → Int) (h : Nat → Nat) (s : Nat → Int)  : Fn l G yX2_remember cX2_remember 2 none ({ frames := 3, cells := 0, slots := 0, locals := 200 } : Room) [.ref (p 0), .ref (h 0)] (pB G p (fun i => some (q i 0)) 2 ++ (hB G (q 0) (hs 0) ++ (hB G (q 1) (hs 1) ++ (hB G (q 2) (hs 2) ++ (hB G (q 3) (hs 3) ++ hB G h s))))) none (pB G p (fun i => some (q i 0)) 3 ++ (hB G (q 0) (hs 0) ++ (hB G (q 1) (hs 1) ++ (hB G (q 2) s ++ (hB G (q 3) (hs 3) ++ hB G h s))))) := by
  refine Ct.of (by decide) (Nat.le_of_ble_eq_true rfl) (fun X hX hR => ?_)
  refine V.toLv (lv' := [(0, .ref (p 0)), (1, .ref (h 0))]) rfl ?_
  refine V_aload_n hX dX2_remember_0 0 rfl ?_
  refine V_get (v := .int (jI 2)) hX cbX2 1 0 (by decide) wf_X2_18 rfl rfl rfl rfl dX2_remember_1 ?_
  refine V_iconst hX dX2_remember_4 ?_
  refine V_icmp_lt (tgt := 12) hX dX2_remember_5 (by decide) (by decide) (by decide) (fun c_1 => ?_) (fun c_1 => absurd c_1 (by decide))
  refine V_aload_n hX dX2_remember_12 0 rfl ?_
  refine V_get (v := .ref (p 1)) hX cbX2 0 0 (by decide) wf_X2_11 rfl rfl rfl rfl dX2_remember_13 ?_
  refine V_aload_n hX dX2_remember_16 0 rfl ?_
  refine V_get (v := .int (jI 2)) hX cbX2 1 0 (by decide) wf_X2_18 rfl rfl rfl rfl dX2_remember_17 ?_
  refine V_aald (i0 := 2) (r := .ref ((q 2) 0)) hX 1 rfl (by decide) (by decide) (by decide) rfl rfl dX2_remember_20 ?_
  refine V_aload_n hX dX2_remember_21 1 rfl ?_
  refine V.perm (w' := pB G p (fun i => some (q i 0)) 2 ++ (hB G (q 0) (hs 0) ++ (hB G (q 2) (hs 2) ++ (hB G (q 1) (hs 1) ++ (hB G (q 3) (hs 3) ++ hB G h s))))) (List.Perm.append_left (pB G p (fun i => some (q i 0)) 2) (List.Perm.append_left (hB G (q 0) (hs 0)) (List.perm_append_comm_assoc (hB G (q 1) (hs 1)) (hB G (q 2) (hs 2)) (hB G (q 3) (hs 3) ++ hB G h s)))) ?_
  refine V.perm (w' := pB G p (fun i => some (q i 0)) 2 ++ (hB G (q 2) (hs 2) ++ (hB G (q 0) (hs 0) ++ (hB G (q 1) (hs 1) ++ (hB G (q 3) (hs 3) ++ hB G h s))))) (List.Perm.append_left (pB G p (fun i => some (q i 0)) 2) (List.perm_append_comm_assoc (hB G (q 0) (hs 0)) (hB G (q 2) (hs 2)) (hB G (q 1) (hs 1) ++ (hB G (q 3) (hs 3) ++ hB G h s)))) ?_
  refine V.perm (w' := hB G (q 2) (hs 2) ++ (pB G p (fun i => some (q i 0)) 2 ++ (hB G (q 0) (hs 0) ++ (hB G (q 1) (hs 1) ++ (hB G (q 3) (hs 3) ++ hB G h s))))) (List.perm_append_comm_assoc (pB G p (fun i => some (q i 0)) 2) (hB G (q 2) (hs 2)) (hB G (q 0) (hs 0) ++ (hB G (q 1) (hs 1) ++ (hB G (q 3) (hs 3) ++ hB G h s)))) ?_
  refine V.perm (w' := hB G (q 2) (hs 2) ++ (pB G p (fun i => some (q i 0)) 2 ++ (hB G (q 0) (hs 0) ++ (hB G (q 1) (hs 1) ++ (hB G h s ++ hB G (q 3) (hs 3)))))) (List.Perm.append_left (hB G (q 2) (hs 2)) (List.Perm.append_left (pB G p (fun i => some (q i 0)) 2) (List.Perm.append_left (hB G (q 0) (hs 0)) (List.Perm.append_left (hB G (q 1) (hs 1)) (List.perm_append_comm (l₁ := hB G (q 3) (hs 3)) (l₂ := hB G h s)))))) ?_
  refine V.perm (w' := hB G (q 2) (hs 2) ++ (pB G p (fun i => some (q i 0)) 2 ++ (hB G (q 0) (hs 0) ++ (hB G h s ++ (hB G (q 1) (hs 1) ++ hB G (q 3) (hs 3)))))) (List.Perm.append_left (hB G (q 2) (hs 2)) (List.Perm.append_left (pB G p (fun i => some (q i 0)) 2) (List.Perm.append_left (hB G (q 0) (hs 0)) (List.perm_append_comm_assoc (hB G (q 1) (hs 1)) (hB G h s) (hB G (q 3) (hs 3)))))) ?_
  refine V.perm (w' := hB G (q 2) (hs 2) ++ (pB G p (fun i => some (q i 0)) 2 ++ (hB G h s ++ (hB G (q 0) (hs 0) ++ (hB G (q 1) (hs 1) ++ hB G (q 3) (hs 3)))))) (List.Perm.append_left (hB G (q 2) (hs 2)) (List.Perm.append_left (pB G p (fun i => some (q i 0)) 2) (List.perm_append_comm_assoc (hB G (q 0) (hs 0)) (hB G h s) (hB G (q 1) (hs 1) ++ hB G (q 3) (hs 3))))) ?_
  refine V.perm (w' := hB G (q 2) (hs 2) ++ (hB G h s ++ (pB G p (fun i => some (q i 0)) 2 ++ (hB G (q 0) (hs 0) ++ (hB G (q 1) (hs 1) ++ hB G (q 3) (hs 3)))))) (List.Perm.append_left (hB G (q 2) (hs 2)) (List.perm_append_comm_assoc (pB G p (fun i => some (q i 0)) 2) (hB G h s) (hB G (q 0) (hs 0) ++ (hB G (q 1) (hs 1) ++ hB G (q 3) (hs 3))))) ?_
  refine V_dVN (st := []) (w' := hB G (q 2) s ++ (hB G h s ++ (pB G p (fun i => some (q i 0)) 2 ++ (hB G (q 0) (hs 0) ++ (hB G (q 1) (hs 1) ++ hB G (q 3) (hs 3)))))) hX wc_X2_25 (c_X1_become l G (q 2) (hs 2) h s ) (by decide) (by decide) rfl rfl (Nat.le_of_ble_eq_true rfl) dX2_remember_22 [] (pB G p (fun i => some (q i 0)) 2 ++ (hB G (q 0) (hs 0) ++ (hB G (q 1) (hs 1) ++ hB G (q 3) (hs 3)))) (by simp only [List.append_assoc, List.nil_append, List.append_nil]) 0 rfl rfl (by simp only [List.append_assoc, List.nil_append, List.append_nil]) rfl rfl ?_
  refine V_aload_n hX dX2_remember_25 0 rfl ?_
  refine V_dup hX dX2_remember_26 rfl ?_
  refine V_get (v := .int (jI 2)) hX cbX2 1 22 (by decide) wf_X2_18 rfl rfl rfl rfl dX2_remember_27 ?_
  refine V_iconst hX dX2_remember_30 ?_
  refine V_iadd (c := 3) hX dX2_remember_31 rfl ?_
  refine V_put (w' := hB G (q 2) s ++ (hB G h s ++ (pB G p (fun i => some (q i 0)) 3 ++ (hB G (q 0) (hs 0) ++ (hB G (q 1) (hs 1) ++ hB G (q 3) (hs 3)))))) hX cbX2 1 22 (by decide) wf_X2_18 rfl rfl rfl rfl rfl rfl (Nat.le_of_ble_eq_true rfl) dX2_remember_32 rfl ?_
  refine V.perm (w' := hB G (q 2) s ++ (pB G p (fun i => some (q i 0)) 3 ++ (hB G h s ++ (hB G (q 0) (hs 0) ++ (hB G (q 1) (hs 1) ++ hB G (q 3) (hs 3)))))) (List.Perm.append_left (hB G (q 2) s) (List.perm_append_comm_assoc (hB G h s) (pB G p (fun i => some (q i 0)) 3) (hB G (q 0) (hs 0) ++ (hB G (q 1) (hs 1) ++ hB G (q 3) (hs 3))))) ?_
  refine V.perm (w' := pB G p (fun i => some (q i 0)) 3 ++ (hB G (q 2) s ++ (hB G h s ++ (hB G (q 0) (hs 0) ++ (hB G (q 1) (hs 1) ++ hB G (q 3) (hs 3)))))) (List.perm_append_comm_assoc (hB G (q 2) s) (pB G p (fun i => some (q i 0)) 3) (hB G h s ++ (hB G (q 0) (hs 0) ++ (hB G (q 1) (hs 1) ++ hB G (q 3) (hs 3))))) ?_
  refine V.perm (w' := pB G p (fun i => some (q i 0)) 3 ++ (hB G (q 2) s ++ (hB G (q 0) (hs 0) ++ (hB G h s ++ (hB G (q 1) (hs 1) ++ hB G (q 3) (hs 3)))))) (List.Perm.append_left (pB G p (fun i => some (q i 0)) 3) (List.Perm.append_left (hB G (q 2) s) (List.perm_append_comm_assoc (hB G h s) (hB G (q 0) (hs 0)) (hB G (q 1) (hs 1) ++ hB G (q 3) (hs 3))))) ?_
  refine V.perm (w' := pB G p (fun i => some (q i 0)) 3 ++ (hB G (q 0) (hs 0) ++ (hB G (q 2) s ++ (hB G h s ++ (hB G (q 1) (hs 1) ++ hB G (q 3) (hs 3)))))) (List.Perm.append_left (pB G p (fun i => some (q i 0)) 3) (List.perm_append_comm_assoc (hB G (q 2) s) (hB G (q 0) (hs 0)) (hB G h s ++ (hB G (q 1) (hs 1) ++ hB G (q 3) (hs 3))))) ?_
  refine V.perm (w' := pB G p (fun i => some (q i 0)) 3 ++ (hB G (q 0) (hs 0) ++ (hB G (q 2) s ++ (hB G (q 1) (hs 1) ++ (hB G h s ++ hB G (q 3) (hs 3)))))) (List.Perm.append_left (pB G p (fun i => some (q i 0)) 3) (List.Perm.append_left (hB G (q 0) (hs 0)) (List.Perm.append_left (hB G (q 2) s) (List.perm_append_comm_assoc (hB G h s) (hB G (q 1) (hs 1)) (hB G (q 3) (hs 3)))))) ?_
  refine V.perm (w' := pB G p (fun i => some (q i 0)) 3 ++ (hB G (q 0) (hs 0) ++ (hB G (q 1) (hs 1) ++ (hB G (q 2) s ++ (hB G h s ++ hB G (q 3) (hs 3)))))) (List.Perm.append_left (pB G p (fun i => some (q i 0)) 3) (List.Perm.append_left (hB G (q 0) (hs 0)) (List.perm_append_comm_assoc (hB G (q 2) s) (hB G (q 1) (hs 1)) (hB G h s ++ hB G (q 3) (hs 3))))) ?_
  refine V.perm (w' := pB G p (fun i => some (q i 0)) 3 ++ (hB G (q 0) (hs 0) ++ (hB G (q 1) (hs 1) ++ (hB G (q 2) s ++ (hB G (q 3) (hs 3) ++ hB G h s))))) (List.Perm.append_left (pB G p (fun i => some (q i 0)) 3) (List.Perm.append_left (hB G (q 0) (hs 0)) (List.Perm.append_left (hB G (q 1) (hs 1)) (List.Perm.append_left (hB G (q 2) s) (List.perm_append_comm (l₁ := hB G h s) (l₂ := hB G (q 3) (hs 3))))))) ?_
  exact V_vret hX hR dX2_remember_35 ⟨rfl, rfl⟩

set_option maxHeartbeats 4000000 in
set_option maxRecDepth 100000 in
theorem c_X2_bringBack_2 (l : Launch) (G : vC) (p : Nat → Nat) (q : Nat → Nat → Nat) (hs : Nat → Nat → Int) (h : Nat → Nat) (s : Nat → Int)  : Fn l G yX2_bringBack cX2_bringBack 2 (some .int) ({ frames := 3, cells := 0, slots := 0, locals := 200 } : Room) [.ref (p 0), .ref (h 0)] (pB G p (fun i => some (q i 0)) 2 ++ (hB G (q 0) (hs 0) ++ (hB G (q 1) (hs 1) ++ (hB G (q 2) (hs 2) ++ (hB G (q 3) (hs 3) ++ hB G h s))))) (some (.int (jI 1))) (pB G p (fun i => some (q i 0)) 1 ++ (hB G (q 0) (hs 0) ++ (hB G (q 1) (hs 1) ++ (hB G (q 2) (hs 2) ++ (hB G (q 3) (hs 3) ++ hB G h (hs 1)))))) := by
  refine Ct.of (by decide) (Nat.le_of_ble_eq_true rfl) (fun X hX hR => ?_)
  refine V.toLv (lv' := [(0, .ref (p 0)), (1, .ref (h 0))]) rfl ?_
  refine V_aload_n hX dX2_bringBack_0 0 rfl ?_
  refine V_get (v := .int (jI 2)) hX cbX2 1 0 (by decide) wf_X2_18 rfl rfl rfl rfl dX2_bringBack_1 ?_
  refine V_if_gt (tgt := 10) hX dX2_bringBack_4 (by decide) (by decide) (fun c_1 => ?_) (fun c_1 => absurd c_1 (by decide))
  refine V_aload_n hX dX2_bringBack_10 0 rfl ?_
  refine V_dup hX dX2_bringBack_11 rfl ?_
  refine V_get (v := .int (jI 2)) hX cbX2 1 0 (by decide) wf_X2_18 rfl rfl rfl rfl dX2_bringBack_12 ?_
  refine V_iconst hX dX2_bringBack_15 ?_
  refine V_isub (c := 1) hX dX2_bringBack_16 rfl ?_
  refine V_put (w' := pB G p (fun i => some (q i 0)) 1 ++ (hB G (q 0) (hs 0) ++ (hB G (q 1) (hs 1) ++ (hB G (q 2) (hs 2) ++ (hB G (q 3) (hs 3) ++ hB G h s))))) hX cbX2 1 0 (by decide) wf_X2_18 rfl rfl rfl rfl rfl rfl (Nat.le_of_ble_eq_true rfl) dX2_bringBack_17 rfl ?_
  refine V_aload_n hX dX2_bringBack_20 1 rfl ?_
  refine V_aload_n hX dX2_bringBack_21 0 rfl ?_
  refine V_get (v := .ref (p 1)) hX cbX2 0 0 (by decide) wf_X2_11 rfl rfl rfl rfl dX2_bringBack_22 ?_
  refine V_aload_n hX dX2_bringBack_25 0 rfl ?_
  refine V_get (v := .int (jI 1)) hX cbX2 1 0 (by decide) wf_X2_18 rfl rfl rfl rfl dX2_bringBack_26 ?_
  refine V_aald (i0 := 1) (r := .ref ((q 1) 0)) hX 1 rfl (by decide) (by decide) (by decide) rfl rfl dX2_bringBack_29 ?_
  refine V.perm (w' := pB G p (fun i => some (q i 0)) 1 ++ (hB G (q 0) (hs 0) ++ (hB G (q 1) (hs 1) ++ (hB G (q 2) (hs 2) ++ (hB G h s ++ hB G (q 3) (hs 3)))))) (List.Perm.append_left (pB G p (fun i => some (q i 0)) 1) (List.Perm.append_left (hB G (q 0) (hs 0)) (List.Perm.append_left (hB G (q 1) (hs 1)) (List.Perm.append_left (hB G (q 2) (hs 2)) (List.perm_append_comm (l₁ := hB G (q 3) (hs 3)) (l₂ := hB G h s)))))) ?_
  refine V.perm (w' := pB G p (fun i => some (q i 0)) 1 ++ (hB G (q 0) (hs 0) ++ (hB G (q 1) (hs 1) ++ (hB G h s ++ (hB G (q 2) (hs 2) ++ hB G (q 3) (hs 3)))))) (List.Perm.append_left (pB G p (fun i => some (q i 0)) 1) (List.Perm.append_left (hB G (q 0) (hs 0)) (List.Perm.append_left (hB G (q 1) (hs 1)) (List.perm_append_comm_assoc (hB G (q 2) (hs 2)) (hB G h s) (hB G (q 3) (hs 3)))))) ?_
  refine V.perm (w' := pB G p (fun i => some (q i 0)) 1 ++ (hB G (q 0) (hs 0) ++ (hB G h s ++ (hB G (q 1) (hs 1) ++ (hB G (q 2) (hs 2) ++ hB G (q 3) (hs 3)))))) (List.Perm.append_left (pB G p (fun i => some (q i 0)) 1) (List.Perm.append_left (hB G (q 0) (hs 0)) (List.perm_append_comm_assoc (hB G (q 1) (hs 1)) (hB G h s) (hB G (q 2) (hs 2) ++ hB G (q 3) (hs 3))))) ?_
  refine V.perm (w' := pB G p (fun i => some (q i 0)) 1 ++ (hB G h s ++ (hB G (q 0) (hs 0) ++ (hB G (q 1) (hs 1) ++ (hB G (q 2) (hs 2) ++ hB G (q 3) (hs 3)))))) (List.Perm.append_left (pB G p (fun i => some (q i 0)) 1) (List.perm_append_comm_assoc (hB G (q 0) (hs 0)) (hB G h s) (hB G (q 1) (hs 1) ++ (hB G (q 2) (hs 2) ++ hB G (q 3) (hs 3))))) ?_
  refine V.perm (w' := hB G h s ++ (pB G p (fun i => some (q i 0)) 1 ++ (hB G (q 0) (hs 0) ++ (hB G (q 1) (hs 1) ++ (hB G (q 2) (hs 2) ++ hB G (q 3) (hs 3)))))) (List.perm_append_comm_assoc (pB G p (fun i => some (q i 0)) 1) (hB G h s) (hB G (q 0) (hs 0) ++ (hB G (q 1) (hs 1) ++ (hB G (q 2) (hs 2) ++ hB G (q 3) (hs 3))))) ?_
  refine V.perm (w' := hB G h s ++ (pB G p (fun i => some (q i 0)) 1 ++ (hB G (q 1) (hs 1) ++ (hB G (q 0) (hs 0) ++ (hB G (q 2) (hs 2) ++ hB G (q 3) (hs 3)))))) (List.Perm.append_left (hB G h s) (List.Perm.append_left (pB G p (fun i => some (q i 0)) 1) (List.perm_append_comm_assoc (hB G (q 0) (hs 0)) (hB G (q 1) (hs 1)) (hB G (q 2) (hs 2) ++ hB G (q 3) (hs 3))))) ?_
  refine V.perm (w' := hB G h s ++ (hB G (q 1) (hs 1) ++ (pB G p (fun i => some (q i 0)) 1 ++ (hB G (q 0) (hs 0) ++ (hB G (q 2) (hs 2) ++ hB G (q 3) (hs 3)))))) (List.Perm.append_left (hB G h s) (List.perm_append_comm_assoc (pB G p (fun i => some (q i 0)) 1) (hB G (q 1) (hs 1)) (hB G (q 0) (hs 0) ++ (hB G (q 2) (hs 2) ++ hB G (q 3) (hs 3))))) ?_
  refine V_dVN (st := []) (w' := hB G h (hs 1) ++ (hB G (q 1) (hs 1) ++ (pB G p (fun i => some (q i 0)) 1 ++ (hB G (q 0) (hs 0) ++ (hB G (q 2) (hs 2) ++ hB G (q 3) (hs 3)))))) hX wc_X2_25 (c_X1_become l G h s (q 1) (hs 1) ) (by decide) (by decide) rfl rfl (Nat.le_of_ble_eq_true rfl) dX2_bringBack_30 [] (pB G p (fun i => some (q i 0)) 1 ++ (hB G (q 0) (hs 0) ++ (hB G (q 2) (hs 2) ++ hB G (q 3) (hs 3)))) (by simp only [List.append_assoc, List.nil_append, List.append_nil]) 0 rfl rfl (by simp only [List.append_assoc, List.nil_append, List.append_nil]) rfl rfl ?_
  refine V_aload_n hX dX2_bringBack_33 0 rfl ?_
  refine V_get (v := .int (jI 1)) hX cbX2 1 22 (by decide) wf_X2_18 rfl rfl rfl rfl dX2_bringBack_34 ?_
  refine V.perm (w' := hB G h (hs 1) ++ (pB G p (fun i => some (q i 0)) 1 ++ (hB G (q 1) (hs 1) ++ (hB G (q 0) (hs 0) ++ (hB G (q 2) (hs 2) ++ hB G (q 3) (hs 3)))))) (List.Perm.append_left (hB G h (hs 1)) (List.perm_append_comm_assoc (hB G (q 1) (hs 1)) (pB G p (fun i => some (q i 0)) 1) (hB G (q 0) (hs 0) ++ (hB G (q 2) (hs 2) ++ hB G (q 3) (hs 3))))) ?_
  refine V.perm (w' := pB G p (fun i => some (q i 0)) 1 ++ (hB G h (hs 1) ++ (hB G (q 1) (hs 1) ++ (hB G (q 0) (hs 0) ++ (hB G (q 2) (hs 2) ++ hB G (q 3) (hs 3)))))) (List.perm_append_comm_assoc (hB G h (hs 1)) (pB G p (fun i => some (q i 0)) 1) (hB G (q 1) (hs 1) ++ (hB G (q 0) (hs 0) ++ (hB G (q 2) (hs 2) ++ hB G (q 3) (hs 3))))) ?_
  refine V.perm (w' := pB G p (fun i => some (q i 0)) 1 ++ (hB G h (hs 1) ++ (hB G (q 0) (hs 0) ++ (hB G (q 1) (hs 1) ++ (hB G (q 2) (hs 2) ++ hB G (q 3) (hs 3)))))) (List.Perm.append_left (pB G p (fun i => some (q i 0)) 1) (List.Perm.append_left (hB G h (hs 1)) (List.perm_append_comm_assoc (hB G (q 1) (hs 1)) (hB G (q 0) (hs 0)) (hB G (q 2) (hs 2) ++ hB G (q 3) (hs 3))))) ?_
  refine V.perm (w' := pB G p (fun i => some (q i 0)) 1 ++ (hB G (q 0) (hs 0) ++ (hB G h (hs 1) ++ (hB G (q 1) (hs 1) ++ (hB G (q 2) (hs 2) ++ hB G (q 3) (hs 3)))))) (List.Perm.append_left (pB G p (fun i => some (q i 0)) 1) (List.perm_append_comm_assoc (hB G h (hs 1)) (hB G (q 0) (hs 0)) (hB G (q 1) (hs 1) ++ (hB G (q 2) (hs 2) ++ hB G (q 3) (hs 3))))) ?_
  refine V.perm (w' := pB G p (fun i => some (q i 0)) 1 ++ (hB G (q 0) (hs 0) ++ (hB G (q 1) (hs 1) ++ (hB G h (hs 1) ++ (hB G (q 2) (hs 2) ++ hB G (q 3) (hs 3)))))) (List.Perm.append_left (pB G p (fun i => some (q i 0)) 1) (List.Perm.append_left (hB G (q 0) (hs 0)) (List.perm_append_comm_assoc (hB G h (hs 1)) (hB G (q 1) (hs 1)) (hB G (q 2) (hs 2) ++ hB G (q 3) (hs 3))))) ?_
  refine V.perm (w' := pB G p (fun i => some (q i 0)) 1 ++ (hB G (q 0) (hs 0) ++ (hB G (q 1) (hs 1) ++ (hB G (q 2) (hs 2) ++ (hB G h (hs 1) ++ hB G (q 3) (hs 3)))))) (List.Perm.append_left (pB G p (fun i => some (q i 0)) 1) (List.Perm.append_left (hB G (q 0) (hs 0)) (List.Perm.append_left (hB G (q 1) (hs 1)) (List.perm_append_comm_assoc (hB G h (hs 1)) (hB G (q 2) (hs 2)) (hB G (q 3) (hs 3)))))) ?_
  refine V.perm (w' := pB G p (fun i => some (q i 0)) 1 ++ (hB G (q 0) (hs 0) ++ (hB G (q 1) (hs 1) ++ (hB G (q 2) (hs 2) ++ (hB G (q 3) (hs 3) ++ hB G h (hs 1)))))) (List.Perm.append_left (pB G p (fun i => some (q i 0)) 1) (List.Perm.append_left (hB G (q 0) (hs 0)) (List.Perm.append_left (hB G (q 1) (hs 1)) (List.Perm.append_left (hB G (q 2) (hs 2)) (List.perm_append_comm (l₁ := hB G h (hs 1)) (l₂ := hB G (q 3) (hs 3))))))) ?_
  exact V_iret hX hR dX2_bringBack_37 ⟨rfl, rfl⟩

set_option maxHeartbeats 4000000 in
set_option maxRecDepth 100000 in
theorem c_X2_remember_3 (l : Launch) (G : vC) (p : Nat → Nat) (q : Nat → Nat → Nat) (hs : Nat → Nat → Int) (h : Nat → Nat) (s : Nat → Int)  : Fn l G yX2_remember cX2_remember 2 none ({ frames := 3, cells := 0, slots := 0, locals := 200 } : Room) [.ref (p 0), .ref (h 0)] (pB G p (fun i => some (q i 0)) 3 ++ (hB G (q 0) (hs 0) ++ (hB G (q 1) (hs 1) ++ (hB G (q 2) (hs 2) ++ (hB G (q 3) (hs 3) ++ hB G h s))))) none (pB G p (fun i => some (q i 0)) 4 ++ (hB G (q 0) (hs 0) ++ (hB G (q 1) (hs 1) ++ (hB G (q 2) (hs 2) ++ (hB G (q 3) s ++ hB G h s))))) := by
  refine Ct.of (by decide) (Nat.le_of_ble_eq_true rfl) (fun X hX hR => ?_)
  refine V.toLv (lv' := [(0, .ref (p 0)), (1, .ref (h 0))]) rfl ?_
  refine V_aload_n hX dX2_remember_0 0 rfl ?_
  refine V_get (v := .int (jI 3)) hX cbX2 1 0 (by decide) wf_X2_18 rfl rfl rfl rfl dX2_remember_1 ?_
  refine V_iconst hX dX2_remember_4 ?_
  refine V_icmp_lt (tgt := 12) hX dX2_remember_5 (by decide) (by decide) (by decide) (fun c_1 => ?_) (fun c_1 => absurd c_1 (by decide))
  refine V_aload_n hX dX2_remember_12 0 rfl ?_
  refine V_get (v := .ref (p 1)) hX cbX2 0 0 (by decide) wf_X2_11 rfl rfl rfl rfl dX2_remember_13 ?_
  refine V_aload_n hX dX2_remember_16 0 rfl ?_
  refine V_get (v := .int (jI 3)) hX cbX2 1 0 (by decide) wf_X2_18 rfl rfl rfl rfl dX2_remember_17 ?_
  refine V_aald (i0 := 3) (r := .ref ((q 3) 0)) hX 1 rfl (by decide) (by decide) (by decide) rfl rfl dX2_remember_20 ?_
  refine V_aload_n hX dX2_remember_21 1 rfl ?_
  refine V.perm (w' := pB G p (fun i => some (q i 0)) 3 ++ (hB G (q 0) (hs 0) ++ (hB G (q 1) (hs 1) ++ (hB G (q 3) (hs 3) ++ (hB G (q 2) (hs 2) ++ hB G h s))))) (List.Perm.append_left (pB G p (fun i => some (q i 0)) 3) (List.Perm.append_left (hB G (q 0) (hs 0)) (List.Perm.append_left (hB G (q 1) (hs 1)) (List.perm_append_comm_assoc (hB G (q 2) (hs 2)) (hB G (q 3) (hs 3)) (hB G h s))))) ?_
  refine V.perm (w' := pB G p (fun i => some (q i 0)) 3 ++ (hB G (q 0) (hs 0) ++ (hB G (q 3) (hs 3) ++ (hB G (q 1) (hs 1) ++ (hB G (q 2) (hs 2) ++ hB G h s))))) (List.Perm.append_left (pB G p (fun i => some (q i 0)) 3) (List.Perm.append_left (hB G (q 0) (hs 0)) (List.perm_append_comm_assoc (hB G (q 1) (hs 1)) (hB G (q 3) (hs 3)) (hB G (q 2) (hs 2) ++ hB G h s)))) ?_
  refine V.perm (w' := pB G p (fun i => some (q i 0)) 3 ++ (hB G (q 3) (hs 3) ++ (hB G (q 0) (hs 0) ++ (hB G (q 1) (hs 1) ++ (hB G (q 2) (hs 2) ++ hB G h s))))) (List.Perm.append_left (pB G p (fun i => some (q i 0)) 3) (List.perm_append_comm_assoc (hB G (q 0) (hs 0)) (hB G (q 3) (hs 3)) (hB G (q 1) (hs 1) ++ (hB G (q 2) (hs 2) ++ hB G h s)))) ?_
  refine V.perm (w' := hB G (q 3) (hs 3) ++ (pB G p (fun i => some (q i 0)) 3 ++ (hB G (q 0) (hs 0) ++ (hB G (q 1) (hs 1) ++ (hB G (q 2) (hs 2) ++ hB G h s))))) (List.perm_append_comm_assoc (pB G p (fun i => some (q i 0)) 3) (hB G (q 3) (hs 3)) (hB G (q 0) (hs 0) ++ (hB G (q 1) (hs 1) ++ (hB G (q 2) (hs 2) ++ hB G h s)))) ?_
  refine V.perm (w' := hB G (q 3) (hs 3) ++ (pB G p (fun i => some (q i 0)) 3 ++ (hB G (q 0) (hs 0) ++ (hB G (q 1) (hs 1) ++ (hB G h s ++ hB G (q 2) (hs 2)))))) (List.Perm.append_left (hB G (q 3) (hs 3)) (List.Perm.append_left (pB G p (fun i => some (q i 0)) 3) (List.Perm.append_left (hB G (q 0) (hs 0)) (List.Perm.append_left (hB G (q 1) (hs 1)) (List.perm_append_comm (l₁ := hB G (q 2) (hs 2)) (l₂ := hB G h s)))))) ?_
  refine V.perm (w' := hB G (q 3) (hs 3) ++ (pB G p (fun i => some (q i 0)) 3 ++ (hB G (q 0) (hs 0) ++ (hB G h s ++ (hB G (q 1) (hs 1) ++ hB G (q 2) (hs 2)))))) (List.Perm.append_left (hB G (q 3) (hs 3)) (List.Perm.append_left (pB G p (fun i => some (q i 0)) 3) (List.Perm.append_left (hB G (q 0) (hs 0)) (List.perm_append_comm_assoc (hB G (q 1) (hs 1)) (hB G h s) (hB G (q 2) (hs 2)))))) ?_
  refine V.perm (w' := hB G (q 3) (hs 3) ++ (pB G p (fun i => some (q i 0)) 3 ++ (hB G h s ++ (hB G (q 0) (hs 0) ++ (hB G (q 1) (hs 1) ++ hB G (q 2) (hs 2)))))) (List.Perm.append_left (hB G (q 3) (hs 3)) (List.Perm.append_left (pB G p (fun i => some (q i 0)) 3) (List.perm_append_comm_assoc (hB G (q 0) (hs 0)) (hB G h s) (hB G (q 1) (hs 1) ++ hB G (q 2) (hs 2))))) ?_
  refine V.perm (w' := hB G (q 3) (hs 3) ++ (hB G h s ++ (pB G p (fun i => some (q i 0)) 3 ++ (hB G (q 0) (hs 0) ++ (hB G (q 1) (hs 1) ++ hB G (q 2) (hs 2)))))) (List.Perm.append_left (hB G (q 3) (hs 3)) (List.perm_append_comm_assoc (pB G p (fun i => some (q i 0)) 3) (hB G h s) (hB G (q 0) (hs 0) ++ (hB G (q 1) (hs 1) ++ hB G (q 2) (hs 2))))) ?_
  refine V_dVN (st := []) (w' := hB G (q 3) s ++ (hB G h s ++ (pB G p (fun i => some (q i 0)) 3 ++ (hB G (q 0) (hs 0) ++ (hB G (q 1) (hs 1) ++ hB G (q 2) (hs 2)))))) hX wc_X2_25 (c_X1_become l G (q 3) (hs 3) h s ) (by decide) (by decide) rfl rfl (Nat.le_of_ble_eq_true rfl) dX2_remember_22 [] (pB G p (fun i => some (q i 0)) 3 ++ (hB G (q 0) (hs 0) ++ (hB G (q 1) (hs 1) ++ hB G (q 2) (hs 2)))) (by simp only [List.append_assoc, List.nil_append, List.append_nil]) 0 rfl rfl (by simp only [List.append_assoc, List.nil_append, List.append_nil]) rfl rfl ?_
  refine V_aload_n hX dX2_remember_25 0 rfl ?_
  refine V_dup hX dX2_remember_26 rfl ?_
  refine V_get (v := .int (jI 3)) hX cbX2 1 22 (by decide) wf_X2_18 rfl rfl rfl rfl dX2_remember_27 ?_
  refine V_iconst hX dX2_remember_30 ?_
  refine V_iadd (c := 4) hX dX2_remember_31 rfl ?_
  refine V_put (w' := hB G (q 3) s ++ (hB G h s ++ (pB G p (fun i => some (q i 0)) 4 ++ (hB G (q 0) (hs 0) ++ (hB G (q 1) (hs 1) ++ hB G (q 2) (hs 2)))))) hX cbX2 1 22 (by decide) wf_X2_18 rfl rfl rfl rfl rfl rfl (Nat.le_of_ble_eq_true rfl) dX2_remember_32 rfl ?_
  refine V.perm (w' := hB G (q 3) s ++ (pB G p (fun i => some (q i 0)) 4 ++ (hB G h s ++ (hB G (q 0) (hs 0) ++ (hB G (q 1) (hs 1) ++ hB G (q 2) (hs 2)))))) (List.Perm.append_left (hB G (q 3) s) (List.perm_append_comm_assoc (hB G h s) (pB G p (fun i => some (q i 0)) 4) (hB G (q 0) (hs 0) ++ (hB G (q 1) (hs 1) ++ hB G (q 2) (hs 2))))) ?_
  refine V.perm (w' := pB G p (fun i => some (q i 0)) 4 ++ (hB G (q 3) s ++ (hB G h s ++ (hB G (q 0) (hs 0) ++ (hB G (q 1) (hs 1) ++ hB G (q 2) (hs 2)))))) (List.perm_append_comm_assoc (hB G (q 3) s) (pB G p (fun i => some (q i 0)) 4) (hB G h s ++ (hB G (q 0) (hs 0) ++ (hB G (q 1) (hs 1) ++ hB G (q 2) (hs 2))))) ?_
  refine V.perm (w' := pB G p (fun i => some (q i 0)) 4 ++ (hB G (q 3) s ++ (hB G (q 0) (hs 0) ++ (hB G h s ++ (hB G (q 1) (hs 1) ++ hB G (q 2) (hs 2)))))) (List.Perm.append_left (pB G p (fun i => some (q i 0)) 4) (List.Perm.append_left (hB G (q 3) s) (List.perm_append_comm_assoc (hB G h s) (hB G (q 0) (hs 0)) (hB G (q 1) (hs 1) ++ hB G (q 2) (hs 2))))) ?_
  refine V.perm (w' := pB G p (fun i => some (q i 0)) 4 ++ (hB G (q 0) (hs 0) ++ (hB G (q 3) s ++ (hB G h s ++ (hB G (q 1) (hs 1) ++ hB G (q 2) (hs 2)))))) (List.Perm.append_left (pB G p (fun i => some (q i 0)) 4) (List.perm_append_comm_assoc (hB G (q 3) s) (hB G (q 0) (hs 0)) (hB G h s ++ (hB G (q 1) (hs 1) ++ hB G (q 2) (hs 2))))) ?_
  refine V.perm (w' := pB G p (fun i => some (q i 0)) 4 ++ (hB G (q 0) (hs 0) ++ (hB G (q 3) s ++ (hB G (q 1) (hs 1) ++ (hB G h s ++ hB G (q 2) (hs 2)))))) (List.Perm.append_left (pB G p (fun i => some (q i 0)) 4) (List.Perm.append_left (hB G (q 0) (hs 0)) (List.Perm.append_left (hB G (q 3) s) (List.perm_append_comm_assoc (hB G h s) (hB G (q 1) (hs 1)) (hB G (q 2) (hs 2)))))) ?_
  refine V.perm (w' := pB G p (fun i => some (q i 0)) 4 ++ (hB G (q 0) (hs 0) ++ (hB G (q 1) (hs 1) ++ (hB G (q 3) s ++ (hB G h s ++ hB G (q 2) (hs 2)))))) (List.Perm.append_left (pB G p (fun i => some (q i 0)) 4) (List.Perm.append_left (hB G (q 0) (hs 0)) (List.perm_append_comm_assoc (hB G (q 3) s) (hB G (q 1) (hs 1)) (hB G h s ++ hB G (q 2) (hs 2))))) ?_
  refine V.perm (w' := pB G p (fun i => some (q i 0)) 4 ++ (hB G (q 0) (hs 0) ++ (hB G (q 1) (hs 1) ++ (hB G (q 3) s ++ (hB G (q 2) (hs 2) ++ hB G h s))))) (List.Perm.append_left (pB G p (fun i => some (q i 0)) 4) (List.Perm.append_left (hB G (q 0) (hs 0)) (List.Perm.append_left (hB G (q 1) (hs 1)) (List.Perm.append_left (hB G (q 3) s) (List.perm_append_comm (l₁ := hB G h s) (l₂ := hB G (q 2) (hs 2))))))) ?_
  refine V.perm (w' := pB G p (fun i => some (q i 0)) 4 ++ (hB G (q 0) (hs 0) ++ (hB G (q 1) (hs 1) ++ (hB G (q 2) (hs 2) ++ (hB G (q 3) s ++ hB G h s))))) (List.Perm.append_left (pB G p (fun i => some (q i 0)) 4) (List.Perm.append_left (hB G (q 0) (hs 0)) (List.Perm.append_left (hB G (q 1) (hs 1)) (List.perm_append_comm_assoc (hB G (q 3) s) (hB G (q 2) (hs 2)) (hB G h s))))) ?_
  exact V_vret hX hR dX2_remember_35 ⟨rfl, rfl⟩

set_option maxHeartbeats 4000000 in
set_option maxRecDepth 100000 in
theorem c_X2_bringBack_3 (l : Launch) (G : vC) (p : Nat → Nat) (q : Nat → Nat → Nat) (hs : Nat → Nat → Int) (h : Nat → Nat) (s : Nat → Int)  : Fn l G yX2_bringBack cX2_bringBack 2 (some .int) ({ frames := 3, cells := 0, slots := 0, locals := 200 } : Room) [.ref (p 0), .ref (h 0)] (pB G p (fun i => some (q i 0)) 3 ++ (hB G (q 0) (hs 0) ++ (hB G (q 1) (hs 1) ++ (hB G (q 2) (hs 2) ++ (hB G (q 3) (hs 3) ++ hB G h s))))) (some (.int (jI 2))) (pB G p (fun i => some (q i 0)) 2 ++ (hB G (q 0) (hs 0) ++ (hB G (q 1) (hs 1) ++ (hB G (q 2) (hs 2) ++ (hB G (q 3) (hs 3) ++ hB G h (hs 2)))))) := by
  refine Ct.of (by decide) (Nat.le_of_ble_eq_true rfl) (fun X hX hR => ?_)
  refine V.toLv (lv' := [(0, .ref (p 0)), (1, .ref (h 0))]) rfl ?_
  refine V_aload_n hX dX2_bringBack_0 0 rfl ?_
  refine V_get (v := .int (jI 3)) hX cbX2 1 0 (by decide) wf_X2_18 rfl rfl rfl rfl dX2_bringBack_1 ?_
  refine V_if_gt (tgt := 10) hX dX2_bringBack_4 (by decide) (by decide) (fun c_1 => ?_) (fun c_1 => absurd c_1 (by decide))
  refine V_aload_n hX dX2_bringBack_10 0 rfl ?_
  refine V_dup hX dX2_bringBack_11 rfl ?_
  refine V_get (v := .int (jI 3)) hX cbX2 1 0 (by decide) wf_X2_18 rfl rfl rfl rfl dX2_bringBack_12 ?_
  refine V_iconst hX dX2_bringBack_15 ?_
  refine V_isub (c := 2) hX dX2_bringBack_16 rfl ?_
  refine V_put (w' := pB G p (fun i => some (q i 0)) 2 ++ (hB G (q 0) (hs 0) ++ (hB G (q 1) (hs 1) ++ (hB G (q 2) (hs 2) ++ (hB G (q 3) (hs 3) ++ hB G h s))))) hX cbX2 1 0 (by decide) wf_X2_18 rfl rfl rfl rfl rfl rfl (Nat.le_of_ble_eq_true rfl) dX2_bringBack_17 rfl ?_
  refine V_aload_n hX dX2_bringBack_20 1 rfl ?_
  refine V_aload_n hX dX2_bringBack_21 0 rfl ?_
  refine V_get (v := .ref (p 1)) hX cbX2 0 0 (by decide) wf_X2_11 rfl rfl rfl rfl dX2_bringBack_22 ?_
  refine V_aload_n hX dX2_bringBack_25 0 rfl ?_
  refine V_get (v := .int (jI 2)) hX cbX2 1 0 (by decide) wf_X2_18 rfl rfl rfl rfl dX2_bringBack_26 ?_
  refine V_aald (i0 := 2) (r := .ref ((q 2) 0)) hX 1 rfl (by decide) (by decide) (by decide) rfl rfl dX2_bringBack_29 ?_
  refine V.perm (w' := pB G p (fun i => some (q i 0)) 2 ++ (hB G (q 0) (hs 0) ++ (hB G (q 1) (hs 1) ++ (hB G (q 2) (hs 2) ++ (hB G h s ++ hB G (q 3) (hs 3)))))) (List.Perm.append_left (pB G p (fun i => some (q i 0)) 2) (List.Perm.append_left (hB G (q 0) (hs 0)) (List.Perm.append_left (hB G (q 1) (hs 1)) (List.Perm.append_left (hB G (q 2) (hs 2)) (List.perm_append_comm (l₁ := hB G (q 3) (hs 3)) (l₂ := hB G h s)))))) ?_
  refine V.perm (w' := pB G p (fun i => some (q i 0)) 2 ++ (hB G (q 0) (hs 0) ++ (hB G (q 1) (hs 1) ++ (hB G h s ++ (hB G (q 2) (hs 2) ++ hB G (q 3) (hs 3)))))) (List.Perm.append_left (pB G p (fun i => some (q i 0)) 2) (List.Perm.append_left (hB G (q 0) (hs 0)) (List.Perm.append_left (hB G (q 1) (hs 1)) (List.perm_append_comm_assoc (hB G (q 2) (hs 2)) (hB G h s) (hB G (q 3) (hs 3)))))) ?_
  refine V.perm (w' := pB G p (fun i => some (q i 0)) 2 ++ (hB G (q 0) (hs 0) ++ (hB G h s ++ (hB G (q 1) (hs 1) ++ (hB G (q 2) (hs 2) ++ hB G (q 3) (hs 3)))))) (List.Perm.append_left (pB G p (fun i => some (q i 0)) 2) (List.Perm.append_left (hB G (q 0) (hs 0)) (List.perm_append_comm_assoc (hB G (q 1) (hs 1)) (hB G h s) (hB G (q 2) (hs 2) ++ hB G (q 3) (hs 3))))) ?_
  refine V.perm (w' := pB G p (fun i => some (q i 0)) 2 ++ (hB G h s ++ (hB G (q 0) (hs 0) ++ (hB G (q 1) (hs 1) ++ (hB G (q 2) (hs 2) ++ hB G (q 3) (hs 3)))))) (List.Perm.append_left (pB G p (fun i => some (q i 0)) 2) (List.perm_append_comm_assoc (hB G (q 0) (hs 0)) (hB G h s) (hB G (q 1) (hs 1) ++ (hB G (q 2) (hs 2) ++ hB G (q 3) (hs 3))))) ?_
  refine V.perm (w' := hB G h s ++ (pB G p (fun i => some (q i 0)) 2 ++ (hB G (q 0) (hs 0) ++ (hB G (q 1) (hs 1) ++ (hB G (q 2) (hs 2) ++ hB G (q 3) (hs 3)))))) (List.perm_append_comm_assoc (pB G p (fun i => some (q i 0)) 2) (hB G h s) (hB G (q 0) (hs 0) ++ (hB G (q 1) (hs 1) ++ (hB G (q 2) (hs 2) ++ hB G (q 3) (hs 3))))) ?_
  refine V.perm (w' := hB G h s ++ (pB G p (fun i => some (q i 0)) 2 ++ (hB G (q 0) (hs 0) ++ (hB G (q 2) (hs 2) ++ (hB G (q 1) (hs 1) ++ hB G (q 3) (hs 3)))))) (List.Perm.append_left (hB G h s) (List.Perm.append_left (pB G p (fun i => some (q i 0)) 2) (List.Perm.append_left (hB G (q 0) (hs 0)) (List.perm_append_comm_assoc (hB G (q 1) (hs 1)) (hB G (q 2) (hs 2)) (hB G (q 3) (hs 3)))))) ?_
  refine V.perm (w' := hB G h s ++ (pB G p (fun i => some (q i 0)) 2 ++ (hB G (q 2) (hs 2) ++ (hB G (q 0) (hs 0) ++ (hB G (q 1) (hs 1) ++ hB G (q 3) (hs 3)))))) (List.Perm.append_left (hB G h s) (List.Perm.append_left (pB G p (fun i => some (q i 0)) 2) (List.perm_append_comm_assoc (hB G (q 0) (hs 0)) (hB G (q 2) (hs 2)) (hB G (q 1) (hs 1) ++ hB G (q 3) (hs 3))))) ?_
  refine V.perm (w' := hB G h s ++ (hB G (q 2) (hs 2) ++ (pB G p (fun i => some (q i 0)) 2 ++ (hB G (q 0) (hs 0) ++ (hB G (q 1) (hs 1) ++ hB G (q 3) (hs 3)))))) (List.Perm.append_left (hB G h s) (List.perm_append_comm_assoc (pB G p (fun i => some (q i 0)) 2) (hB G (q 2) (hs 2)) (hB G (q 0) (hs 0) ++ (hB G (q 1) (hs 1) ++ hB G (q 3) (hs 3))))) ?_
  refine V_dVN (st := []) (w' := hB G h (hs 2) ++ (hB G (q 2) (hs 2) ++ (pB G p (fun i => some (q i 0)) 2 ++ (hB G (q 0) (hs 0) ++ (hB G (q 1) (hs 1) ++ hB G (q 3) (hs 3)))))) hX wc_X2_25 (c_X1_become l G h s (q 2) (hs 2) ) (by decide) (by decide) rfl rfl (Nat.le_of_ble_eq_true rfl) dX2_bringBack_30 [] (pB G p (fun i => some (q i 0)) 2 ++ (hB G (q 0) (hs 0) ++ (hB G (q 1) (hs 1) ++ hB G (q 3) (hs 3)))) (by simp only [List.append_assoc, List.nil_append, List.append_nil]) 0 rfl rfl (by simp only [List.append_assoc, List.nil_append, List.append_nil]) rfl rfl ?_
  refine V_aload_n hX dX2_bringBack_33 0 rfl ?_
  refine V_get (v := .int (jI 2)) hX cbX2 1 22 (by decide) wf_X2_18 rfl rfl rfl rfl dX2_bringBack_34 ?_
  refine V.perm (w' := hB G h (hs 2) ++ (pB G p (fun i => some (q i 0)) 2 ++ (hB G (q 2) (hs 2) ++ (hB G (q 0) (hs 0) ++ (hB G (q 1) (hs 1) ++ hB G (q 3) (hs 3)))))) (List.Perm.append_left (hB G h (hs 2)) (List.perm_append_comm_assoc (hB G (q 2) (hs 2)) (pB G p (fun i => some (q i 0)) 2) (hB G (q 0) (hs 0) ++ (hB G (q 1) (hs 1) ++ hB G (q 3) (hs 3))))) ?_
  refine V.perm (w' := pB G p (fun i => some (q i 0)) 2 ++ (hB G h (hs 2) ++ (hB G (q 2) (hs 2) ++ (hB G (q 0) (hs 0) ++ (hB G (q 1) (hs 1) ++ hB G (q 3) (hs 3)))))) (List.perm_append_comm_assoc (hB G h (hs 2)) (pB G p (fun i => some (q i 0)) 2) (hB G (q 2) (hs 2) ++ (hB G (q 0) (hs 0) ++ (hB G (q 1) (hs 1) ++ hB G (q 3) (hs 3))))) ?_
  refine V.perm (w' := pB G p (fun i => some (q i 0)) 2 ++ (hB G h (hs 2) ++ (hB G (q 0) (hs 0) ++ (hB G (q 2) (hs 2) ++ (hB G (q 1) (hs 1) ++ hB G (q 3) (hs 3)))))) (List.Perm.append_left (pB G p (fun i => some (q i 0)) 2) (List.Perm.append_left (hB G h (hs 2)) (List.perm_append_comm_assoc (hB G (q 2) (hs 2)) (hB G (q 0) (hs 0)) (hB G (q 1) (hs 1) ++ hB G (q 3) (hs 3))))) ?_
  refine V.perm (w' := pB G p (fun i => some (q i 0)) 2 ++ (hB G (q 0) (hs 0) ++ (hB G h (hs 2) ++ (hB G (q 2) (hs 2) ++ (hB G (q 1) (hs 1) ++ hB G (q 3) (hs 3)))))) (List.Perm.append_left (pB G p (fun i => some (q i 0)) 2) (List.perm_append_comm_assoc (hB G h (hs 2)) (hB G (q 0) (hs 0)) (hB G (q 2) (hs 2) ++ (hB G (q 1) (hs 1) ++ hB G (q 3) (hs 3))))) ?_
  refine V.perm (w' := pB G p (fun i => some (q i 0)) 2 ++ (hB G (q 0) (hs 0) ++ (hB G h (hs 2) ++ (hB G (q 1) (hs 1) ++ (hB G (q 2) (hs 2) ++ hB G (q 3) (hs 3)))))) (List.Perm.append_left (pB G p (fun i => some (q i 0)) 2) (List.Perm.append_left (hB G (q 0) (hs 0)) (List.Perm.append_left (hB G h (hs 2)) (List.perm_append_comm_assoc (hB G (q 2) (hs 2)) (hB G (q 1) (hs 1)) (hB G (q 3) (hs 3)))))) ?_
  refine V.perm (w' := pB G p (fun i => some (q i 0)) 2 ++ (hB G (q 0) (hs 0) ++ (hB G (q 1) (hs 1) ++ (hB G h (hs 2) ++ (hB G (q 2) (hs 2) ++ hB G (q 3) (hs 3)))))) (List.Perm.append_left (pB G p (fun i => some (q i 0)) 2) (List.Perm.append_left (hB G (q 0) (hs 0)) (List.perm_append_comm_assoc (hB G h (hs 2)) (hB G (q 1) (hs 1)) (hB G (q 2) (hs 2) ++ hB G (q 3) (hs 3))))) ?_
  refine V.perm (w' := pB G p (fun i => some (q i 0)) 2 ++ (hB G (q 0) (hs 0) ++ (hB G (q 1) (hs 1) ++ (hB G (q 2) (hs 2) ++ (hB G h (hs 2) ++ hB G (q 3) (hs 3)))))) (List.Perm.append_left (pB G p (fun i => some (q i 0)) 2) (List.Perm.append_left (hB G (q 0) (hs 0)) (List.Perm.append_left (hB G (q 1) (hs 1)) (List.perm_append_comm_assoc (hB G h (hs 2)) (hB G (q 2) (hs 2)) (hB G (q 3) (hs 3)))))) ?_
  refine V.perm (w' := pB G p (fun i => some (q i 0)) 2 ++ (hB G (q 0) (hs 0) ++ (hB G (q 1) (hs 1) ++ (hB G (q 2) (hs 2) ++ (hB G (q 3) (hs 3) ++ hB G h (hs 2)))))) (List.Perm.append_left (pB G p (fun i => some (q i 0)) 2) (List.Perm.append_left (hB G (q 0) (hs 0)) (List.Perm.append_left (hB G (q 1) (hs 1)) (List.Perm.append_left (hB G (q 2) (hs 2)) (List.perm_append_comm (l₁ := hB G h (hs 2)) (l₂ := hB G (q 3) (hs 3))))))) ?_
  exact V_iret hX hR dX2_bringBack_37 ⟨rfl, rfl⟩

set_option maxHeartbeats 4000000 in
set_option maxRecDepth 100000 in
theorem c_X2_remember_4 (l : Launch) (G : vC) (p : Nat → Nat) (q : Nat → Nat → Nat) (hs : Nat → Nat → Int) (h : Nat → Nat) (s : Nat → Int)  : Fn l G yX2_remember cX2_remember 2 none ({ frames := 3, cells := 0, slots := 0, locals := 200 } : Room) [.ref (p 0), .ref (h 0)] (pB G p (fun i => some (q i 0)) 4 ++ (hB G (q 0) (hs 0) ++ (hB G (q 1) (hs 1) ++ (hB G (q 2) (hs 2) ++ (hB G (q 3) (hs 3) ++ hB G h s))))) none (pB G p (fun i => some (rot4 q i 0)) 4 ++ (hB G (q 0) s ++ (hB G (q 1) (hs 1) ++ (hB G (q 2) (hs 2) ++ (hB G (q 3) (hs 3) ++ hB G h s))))) := by
  refine Ct.of (by decide) (Nat.le_of_ble_eq_true rfl) (fun X hX hR => ?_)
  refine V.toLv (lv' := [(0, .ref (p 0)), (1, .ref (h 0))]) rfl ?_
  refine V_aload_n hX dX2_remember_0 0 rfl ?_
  refine V_get (v := .int (jI 4)) hX cbX2 1 0 (by decide) wf_X2_18 rfl rfl rfl rfl dX2_remember_1 ?_
  refine V_iconst hX dX2_remember_4 ?_
  refine V_icmp_lt (tgt := 12) hX dX2_remember_5 (by decide) (by decide) (by decide) (fun c_1 => absurd c_1 (by decide)) (fun c_1 => ?_)
  refine V_aload_n hX dX2_remember_8 0 rfl ?_
  refine V_dV (st := []) (w' := pB G p (fun i => some (rot4 q i 0)) 3 ++ (hB G (q 0) (hs 0) ++ (hB G (q 1) (hs 1) ++ (hB G (q 2) (hs 2) ++ (hB G (q 3) (hs 3) ++ hB G h s))))) hX wc_X2_22 (c_X2_dropOldest l G p q hs ) (by decide) (by decide) rfl rfl (Nat.le_of_ble_eq_true rfl) dX2_remember_9 [] (hB G h s) (by simp only [List.append_assoc, List.nil_append, List.append_nil]) 0 rfl rfl (by simp only [List.append_assoc, List.nil_append, List.append_nil]) rfl rfl ?_
  refine V_aload_n hX dX2_remember_12 0 rfl ?_
  refine V_get (v := .ref (p 1)) hX cbX2 0 0 (by decide) wf_X2_11 rfl rfl rfl rfl dX2_remember_13 ?_
  refine V_aload_n hX dX2_remember_16 0 rfl ?_
  refine V_get (v := .int (jI 3)) hX cbX2 1 0 (by decide) wf_X2_18 rfl rfl rfl rfl dX2_remember_17 ?_
  refine V_aald (i0 := 3) (r := .ref ((q 0) 0)) hX 1 rfl (by decide) (by decide) (by decide) rfl rfl dX2_remember_20 ?_
  refine V_aload_n hX dX2_remember_21 1 rfl ?_
  refine V.perm (w' := hB G (q 0) (hs 0) ++ (pB G p (fun i => some (rot4 q i 0)) 3 ++ (hB G (q 1) (hs 1) ++ (hB G (q 2) (hs 2) ++ (hB G (q 3) (hs 3) ++ hB G h s))))) (List.perm_append_comm_assoc (pB G p (fun i => some (rot4 q i 0)) 3) (hB G (q 0) (hs 0)) (hB G (q 1) (hs 1) ++ (hB G (q 2) (hs 2) ++ (hB G (q 3) (hs 3) ++ hB G h s)))) ?_
  refine V.perm (w' := hB G (q 0) (hs 0) ++ (pB G p (fun i => some (rot4 q i 0)) 3 ++ (hB G (q 1) (hs 1) ++ (hB G (q 2) (hs 2) ++ (hB G h s ++ hB G (q 3) (hs 3)))))) (List.Perm.append_left (hB G (q 0) (hs 0)) (List.Perm.append_left (pB G p (fun i => some (rot4 q i 0)) 3) (List.Perm.append_left (hB G (q 1) (hs 1)) (List.Perm.append_left (hB G (q 2) (hs 2)) (List.perm_append_comm (l₁ := hB G (q 3) (hs 3)) (l₂ := hB G h s)))))) ?_
  refine V.perm (w' := hB G (q 0) (hs 0) ++ (pB G p (fun i => some (rot4 q i 0)) 3 ++ (hB G (q 1) (hs 1) ++ (hB G h s ++ (hB G (q 2) (hs 2) ++ hB G (q 3) (hs 3)))))) (List.Perm.append_left (hB G (q 0) (hs 0)) (List.Perm.append_left (pB G p (fun i => some (rot4 q i 0)) 3) (List.Perm.append_left (hB G (q 1) (hs 1)) (List.perm_append_comm_assoc (hB G (q 2) (hs 2)) (hB G h s) (hB G (q 3) (hs 3)))))) ?_
  refine V.perm (w' := hB G (q 0) (hs 0) ++ (pB G p (fun i => some (rot4 q i 0)) 3 ++ (hB G h s ++ (hB G (q 1) (hs 1) ++ (hB G (q 2) (hs 2) ++ hB G (q 3) (hs 3)))))) (List.Perm.append_left (hB G (q 0) (hs 0)) (List.Perm.append_left (pB G p (fun i => some (rot4 q i 0)) 3) (List.perm_append_comm_assoc (hB G (q 1) (hs 1)) (hB G h s) (hB G (q 2) (hs 2) ++ hB G (q 3) (hs 3))))) ?_
  refine V.perm (w' := hB G (q 0) (hs 0) ++ (hB G h s ++ (pB G p (fun i => some (rot4 q i 0)) 3 ++ (hB G (q 1) (hs 1) ++ (hB G (q 2) (hs 2) ++ hB G (q 3) (hs 3)))))) (List.Perm.append_left (hB G (q 0) (hs 0)) (List.perm_append_comm_assoc (pB G p (fun i => some (rot4 q i 0)) 3) (hB G h s) (hB G (q 1) (hs 1) ++ (hB G (q 2) (hs 2) ++ hB G (q 3) (hs 3))))) ?_
  refine V_dVN (st := []) (w' := hB G (q 0) s ++ (hB G h s ++ (pB G p (fun i => some (rot4 q i 0)) 3 ++ (hB G (q 1) (hs 1) ++ (hB G (q 2) (hs 2) ++ hB G (q 3) (hs 3)))))) hX wc_X2_25 (c_X1_become l G (q 0) (hs 0) h s ) (by decide) (by decide) rfl rfl (Nat.le_of_ble_eq_true rfl) dX2_remember_22 [] (pB G p (fun i => some (rot4 q i 0)) 3 ++ (hB G (q 1) (hs 1) ++ (hB G (q 2) (hs 2) ++ hB G (q 3) (hs 3)))) (by simp only [List.append_assoc, List.nil_append, List.append_nil]) 0 rfl rfl (by simp only [List.append_assoc, List.nil_append, List.append_nil]) rfl rfl ?_
  refine V_aload_n hX dX2_remember_25 0 rfl ?_
  refine V_dup hX dX2_remember_26 rfl ?_
  refine V_get (v := .int (jI 3)) hX cbX2 1 22 (by decide) wf_X2_18 rfl rfl rfl rfl dX2_remember_27 ?_
  refine V_iconst hX dX2_remember_30 ?_
  refine V_iadd (c := 4) hX dX2_remember_31 rfl ?_
  refine V_put (w' := hB G (q 0) s ++ (hB G h s ++ (pB G p (fun i => some (rot4 q i 0)) 4 ++ (hB G (q 1) (hs 1) ++ (hB G (q 2) (hs 2) ++ hB G (q 3) (hs 3)))))) hX cbX2 1 22 (by decide) wf_X2_18 rfl rfl rfl rfl rfl rfl (Nat.le_of_ble_eq_true rfl) dX2_remember_32 rfl ?_
  refine V.perm (w' := hB G (q 0) s ++ (pB G p (fun i => some (rot4 q i 0)) 4 ++ (hB G h s ++ (hB G (q 1) (hs 1) ++ (hB G (q 2) (hs 2) ++ hB G (q 3) (hs 3)))))) (List.Perm.append_left (hB G (q 0) s) (List.perm_append_comm_assoc (hB G h s) (pB G p (fun i => some (rot4 q i 0)) 4) (hB G (q 1) (hs 1) ++ (hB G (q 2) (hs 2) ++ hB G (q 3) (hs 3))))) ?_
  refine V.perm (w' := pB G p (fun i => some (rot4 q i 0)) 4 ++ (hB G (q 0) s ++ (hB G h s ++ (hB G (q 1) (hs 1) ++ (hB G (q 2) (hs 2) ++ hB G (q 3) (hs 3)))))) (List.perm_append_comm_assoc (hB G (q 0) s) (pB G p (fun i => some (rot4 q i 0)) 4) (hB G h s ++ (hB G (q 1) (hs 1) ++ (hB G (q 2) (hs 2) ++ hB G (q 3) (hs 3))))) ?_
  refine V.perm (w' := pB G p (fun i => some (rot4 q i 0)) 4 ++ (hB G (q 0) s ++ (hB G (q 1) (hs 1) ++ (hB G h s ++ (hB G (q 2) (hs 2) ++ hB G (q 3) (hs 3)))))) (List.Perm.append_left (pB G p (fun i => some (rot4 q i 0)) 4) (List.Perm.append_left (hB G (q 0) s) (List.perm_append_comm_assoc (hB G h s) (hB G (q 1) (hs 1)) (hB G (q 2) (hs 2) ++ hB G (q 3) (hs 3))))) ?_
  refine V.perm (w' := pB G p (fun i => some (rot4 q i 0)) 4 ++ (hB G (q 0) s ++ (hB G (q 1) (hs 1) ++ (hB G (q 2) (hs 2) ++ (hB G h s ++ hB G (q 3) (hs 3)))))) (List.Perm.append_left (pB G p (fun i => some (rot4 q i 0)) 4) (List.Perm.append_left (hB G (q 0) s) (List.Perm.append_left (hB G (q 1) (hs 1)) (List.perm_append_comm_assoc (hB G h s) (hB G (q 2) (hs 2)) (hB G (q 3) (hs 3)))))) ?_
  refine V.perm (w' := pB G p (fun i => some (rot4 q i 0)) 4 ++ (hB G (q 0) s ++ (hB G (q 1) (hs 1) ++ (hB G (q 2) (hs 2) ++ (hB G (q 3) (hs 3) ++ hB G h s))))) (List.Perm.append_left (pB G p (fun i => some (rot4 q i 0)) 4) (List.Perm.append_left (hB G (q 0) s) (List.Perm.append_left (hB G (q 1) (hs 1)) (List.Perm.append_left (hB G (q 2) (hs 2)) (List.perm_append_comm (l₁ := hB G h s) (l₂ := hB G (q 3) (hs 3))))))) ?_
  exact V_vret hX hR dX2_remember_35 ⟨rfl, rfl⟩

set_option maxHeartbeats 4000000 in
set_option maxRecDepth 100000 in
theorem c_X2_bringBack_4 (l : Launch) (G : vC) (p : Nat → Nat) (q : Nat → Nat → Nat) (hs : Nat → Nat → Int) (h : Nat → Nat) (s : Nat → Int)  : Fn l G yX2_bringBack cX2_bringBack 2 (some .int) ({ frames := 3, cells := 0, slots := 0, locals := 200 } : Room) [.ref (p 0), .ref (h 0)] (pB G p (fun i => some (q i 0)) 4 ++ (hB G (q 0) (hs 0) ++ (hB G (q 1) (hs 1) ++ (hB G (q 2) (hs 2) ++ (hB G (q 3) (hs 3) ++ hB G h s))))) (some (.int (jI 3))) (pB G p (fun i => some (q i 0)) 3 ++ (hB G (q 0) (hs 0) ++ (hB G (q 1) (hs 1) ++ (hB G (q 2) (hs 2) ++ (hB G (q 3) (hs 3) ++ hB G h (hs 3)))))) := by
  refine Ct.of (by decide) (Nat.le_of_ble_eq_true rfl) (fun X hX hR => ?_)
  refine V.toLv (lv' := [(0, .ref (p 0)), (1, .ref (h 0))]) rfl ?_
  refine V_aload_n hX dX2_bringBack_0 0 rfl ?_
  refine V_get (v := .int (jI 4)) hX cbX2 1 0 (by decide) wf_X2_18 rfl rfl rfl rfl dX2_bringBack_1 ?_
  refine V_if_gt (tgt := 10) hX dX2_bringBack_4 (by decide) (by decide) (fun c_1 => ?_) (fun c_1 => absurd c_1 (by decide))
  refine V_aload_n hX dX2_bringBack_10 0 rfl ?_
  refine V_dup hX dX2_bringBack_11 rfl ?_
  refine V_get (v := .int (jI 4)) hX cbX2 1 0 (by decide) wf_X2_18 rfl rfl rfl rfl dX2_bringBack_12 ?_
  refine V_iconst hX dX2_bringBack_15 ?_
  refine V_isub (c := 3) hX dX2_bringBack_16 rfl ?_
  refine V_put (w' := pB G p (fun i => some (q i 0)) 3 ++ (hB G (q 0) (hs 0) ++ (hB G (q 1) (hs 1) ++ (hB G (q 2) (hs 2) ++ (hB G (q 3) (hs 3) ++ hB G h s))))) hX cbX2 1 0 (by decide) wf_X2_18 rfl rfl rfl rfl rfl rfl (Nat.le_of_ble_eq_true rfl) dX2_bringBack_17 rfl ?_
  refine V_aload_n hX dX2_bringBack_20 1 rfl ?_
  refine V_aload_n hX dX2_bringBack_21 0 rfl ?_
  refine V_get (v := .ref (p 1)) hX cbX2 0 0 (by decide) wf_X2_11 rfl rfl rfl rfl dX2_bringBack_22 ?_
  refine V_aload_n hX dX2_bringBack_25 0 rfl ?_
  refine V_get (v := .int (jI 3)) hX cbX2 1 0 (by decide) wf_X2_18 rfl rfl rfl rfl dX2_bringBack_26 ?_
  refine V_aald (i0 := 3) (r := .ref ((q 3) 0)) hX 1 rfl (by decide) (by decide) (by decide) rfl rfl dX2_bringBack_29 ?_
  refine V.perm (w' := pB G p (fun i => some (q i 0)) 3 ++ (hB G (q 0) (hs 0) ++ (hB G (q 1) (hs 1) ++ (hB G (q 2) (hs 2) ++ (hB G h s ++ hB G (q 3) (hs 3)))))) (List.Perm.append_left (pB G p (fun i => some (q i 0)) 3) (List.Perm.append_left (hB G (q 0) (hs 0)) (List.Perm.append_left (hB G (q 1) (hs 1)) (List.Perm.append_left (hB G (q 2) (hs 2)) (List.perm_append_comm (l₁ := hB G (q 3) (hs 3)) (l₂ := hB G h s)))))) ?_
  refine V.perm (w' := pB G p (fun i => some (q i 0)) 3 ++ (hB G (q 0) (hs 0) ++ (hB G (q 1) (hs 1) ++ (hB G h s ++ (hB G (q 2) (hs 2) ++ hB G (q 3) (hs 3)))))) (List.Perm.append_left (pB G p (fun i => some (q i 0)) 3) (List.Perm.append_left (hB G (q 0) (hs 0)) (List.Perm.append_left (hB G (q 1) (hs 1)) (List.perm_append_comm_assoc (hB G (q 2) (hs 2)) (hB G h s) (hB G (q 3) (hs 3)))))) ?_
  refine V.perm (w' := pB G p (fun i => some (q i 0)) 3 ++ (hB G (q 0) (hs 0) ++ (hB G h s ++ (hB G (q 1) (hs 1) ++ (hB G (q 2) (hs 2) ++ hB G (q 3) (hs 3)))))) (List.Perm.append_left (pB G p (fun i => some (q i 0)) 3) (List.Perm.append_left (hB G (q 0) (hs 0)) (List.perm_append_comm_assoc (hB G (q 1) (hs 1)) (hB G h s) (hB G (q 2) (hs 2) ++ hB G (q 3) (hs 3))))) ?_
  refine V.perm (w' := pB G p (fun i => some (q i 0)) 3 ++ (hB G h s ++ (hB G (q 0) (hs 0) ++ (hB G (q 1) (hs 1) ++ (hB G (q 2) (hs 2) ++ hB G (q 3) (hs 3)))))) (List.Perm.append_left (pB G p (fun i => some (q i 0)) 3) (List.perm_append_comm_assoc (hB G (q 0) (hs 0)) (hB G h s) (hB G (q 1) (hs 1) ++ (hB G (q 2) (hs 2) ++ hB G (q 3) (hs 3))))) ?_
  refine V.perm (w' := hB G h s ++ (pB G p (fun i => some (q i 0)) 3 ++ (hB G (q 0) (hs 0) ++ (hB G (q 1) (hs 1) ++ (hB G (q 2) (hs 2) ++ hB G (q 3) (hs 3)))))) (List.perm_append_comm_assoc (pB G p (fun i => some (q i 0)) 3) (hB G h s) (hB G (q 0) (hs 0) ++ (hB G (q 1) (hs 1) ++ (hB G (q 2) (hs 2) ++ hB G (q 3) (hs 3))))) ?_
  refine V.perm (w' := hB G h s ++ (pB G p (fun i => some (q i 0)) 3 ++ (hB G (q 0) (hs 0) ++ (hB G (q 1) (hs 1) ++ (hB G (q 3) (hs 3) ++ hB G (q 2) (hs 2)))))) (List.Perm.append_left (hB G h s) (List.Perm.append_left (pB G p (fun i => some (q i 0)) 3) (List.Perm.append_left (hB G (q 0) (hs 0)) (List.Perm.append_left (hB G (q 1) (hs 1)) (List.perm_append_comm (l₁ := hB G (q 2) (hs 2)) (l₂ := hB G (q 3) (hs 3))))))) ?_
  refine V.perm (w' := hB G h s ++ (pB G p (fun i => some (q i 0)) 3 ++ (hB G (q 0) (hs 0) ++ (hB G (q 3) (hs 3) ++ (hB G (q 1) (hs 1) ++ hB G (q 2) (hs 2)))))) (List.Perm.append_left (hB G h s) (List.Perm.append_left (pB G p (fun i => some (q i 0)) 3) (List.Perm.append_left (hB G (q 0) (hs 0)) (List.perm_append_comm_assoc (hB G (q 1) (hs 1)) (hB G (q 3) (hs 3)) (hB G (q 2) (hs 2)))))) ?_
  refine V.perm (w' := hB G h s ++ (pB G p (fun i => some (q i 0)) 3 ++ (hB G (q 3) (hs 3) ++ (hB G (q 0) (hs 0) ++ (hB G (q 1) (hs 1) ++ hB G (q 2) (hs 2)))))) (List.Perm.append_left (hB G h s) (List.Perm.append_left (pB G p (fun i => some (q i 0)) 3) (List.perm_append_comm_assoc (hB G (q 0) (hs 0)) (hB G (q 3) (hs 3)) (hB G (q 1) (hs 1) ++ hB G (q 2) (hs 2))))) ?_
  refine V.perm (w' := hB G h s ++ (hB G (q 3) (hs 3) ++ (pB G p (fun i => some (q i 0)) 3 ++ (hB G (q 0) (hs 0) ++ (hB G (q 1) (hs 1) ++ hB G (q 2) (hs 2)))))) (List.Perm.append_left (hB G h s) (List.perm_append_comm_assoc (pB G p (fun i => some (q i 0)) 3) (hB G (q 3) (hs 3)) (hB G (q 0) (hs 0) ++ (hB G (q 1) (hs 1) ++ hB G (q 2) (hs 2))))) ?_
  refine V_dVN (st := []) (w' := hB G h (hs 3) ++ (hB G (q 3) (hs 3) ++ (pB G p (fun i => some (q i 0)) 3 ++ (hB G (q 0) (hs 0) ++ (hB G (q 1) (hs 1) ++ hB G (q 2) (hs 2)))))) hX wc_X2_25 (c_X1_become l G h s (q 3) (hs 3) ) (by decide) (by decide) rfl rfl (Nat.le_of_ble_eq_true rfl) dX2_bringBack_30 [] (pB G p (fun i => some (q i 0)) 3 ++ (hB G (q 0) (hs 0) ++ (hB G (q 1) (hs 1) ++ hB G (q 2) (hs 2)))) (by simp only [List.append_assoc, List.nil_append, List.append_nil]) 0 rfl rfl (by simp only [List.append_assoc, List.nil_append, List.append_nil]) rfl rfl ?_
  refine V_aload_n hX dX2_bringBack_33 0 rfl ?_
  refine V_get (v := .int (jI 3)) hX cbX2 1 22 (by decide) wf_X2_18 rfl rfl rfl rfl dX2_bringBack_34 ?_
  refine V.perm (w' := hB G h (hs 3) ++ (pB G p (fun i => some (q i 0)) 3 ++ (hB G (q 3) (hs 3) ++ (hB G (q 0) (hs 0) ++ (hB G (q 1) (hs 1) ++ hB G (q 2) (hs 2)))))) (List.Perm.append_left (hB G h (hs 3)) (List.perm_append_comm_assoc (hB G (q 3) (hs 3)) (pB G p (fun i => some (q i 0)) 3) (hB G (q 0) (hs 0) ++ (hB G (q 1) (hs 1) ++ hB G (q 2) (hs 2))))) ?_
  refine V.perm (w' := pB G p (fun i => some (q i 0)) 3 ++ (hB G h (hs 3) ++ (hB G (q 3) (hs 3) ++ (hB G (q 0) (hs 0) ++ (hB G (q 1) (hs 1) ++ hB G (q 2) (hs 2)))))) (List.perm_append_comm_assoc (hB G h (hs 3)) (pB G p (fun i => some (q i 0)) 3) (hB G (q 3) (hs 3) ++ (hB G (q 0) (hs 0) ++ (hB G (q 1) (hs 1) ++ hB G (q 2) (hs 2))))) ?_
  refine V.perm (w' := pB G p (fun i => some (q i 0)) 3 ++ (hB G h (hs 3) ++ (hB G (q 0) (hs 0) ++ (hB G (q 3) (hs 3) ++ (hB G (q 1) (hs 1) ++ hB G (q 2) (hs 2)))))) (List.Perm.append_left (pB G p (fun i => some (q i 0)) 3) (List.Perm.append_left (hB G h (hs 3)) (List.perm_append_comm_assoc (hB G (q 3) (hs 3)) (hB G (q 0) (hs 0)) (hB G (q 1) (hs 1) ++ hB G (q 2) (hs 2))))) ?_
  refine V.perm (w' := pB G p (fun i => some (q i 0)) 3 ++ (hB G (q 0) (hs 0) ++ (hB G h (hs 3) ++ (hB G (q 3) (hs 3) ++ (hB G (q 1) (hs 1) ++ hB G (q 2) (hs 2)))))) (List.Perm.append_left (pB G p (fun i => some (q i 0)) 3) (List.perm_append_comm_assoc (hB G h (hs 3)) (hB G (q 0) (hs 0)) (hB G (q 3) (hs 3) ++ (hB G (q 1) (hs 1) ++ hB G (q 2) (hs 2))))) ?_
  refine V.perm (w' := pB G p (fun i => some (q i 0)) 3 ++ (hB G (q 0) (hs 0) ++ (hB G h (hs 3) ++ (hB G (q 1) (hs 1) ++ (hB G (q 3) (hs 3) ++ hB G (q 2) (hs 2)))))) (List.Perm.append_left (pB G p (fun i => some (q i 0)) 3) (List.Perm.append_left (hB G (q 0) (hs 0)) (List.Perm.append_left (hB G h (hs 3)) (List.perm_append_comm_assoc (hB G (q 3) (hs 3)) (hB G (q 1) (hs 1)) (hB G (q 2) (hs 2)))))) ?_
  refine V.perm (w' := pB G p (fun i => some (q i 0)) 3 ++ (hB G (q 0) (hs 0) ++ (hB G (q 1) (hs 1) ++ (hB G h (hs 3) ++ (hB G (q 3) (hs 3) ++ hB G (q 2) (hs 2)))))) (List.Perm.append_left (pB G p (fun i => some (q i 0)) 3) (List.Perm.append_left (hB G (q 0) (hs 0)) (List.perm_append_comm_assoc (hB G h (hs 3)) (hB G (q 1) (hs 1)) (hB G (q 3) (hs 3) ++ hB G (q 2) (hs 2))))) ?_
  refine V.perm (w' := pB G p (fun i => some (q i 0)) 3 ++ (hB G (q 0) (hs 0) ++ (hB G (q 1) (hs 1) ++ (hB G h (hs 3) ++ (hB G (q 2) (hs 2) ++ hB G (q 3) (hs 3)))))) (List.Perm.append_left (pB G p (fun i => some (q i 0)) 3) (List.Perm.append_left (hB G (q 0) (hs 0)) (List.Perm.append_left (hB G (q 1) (hs 1)) (List.Perm.append_left (hB G h (hs 3)) (List.perm_append_comm (l₁ := hB G (q 3) (hs 3)) (l₂ := hB G (q 2) (hs 2))))))) ?_
  refine V.perm (w' := pB G p (fun i => some (q i 0)) 3 ++ (hB G (q 0) (hs 0) ++ (hB G (q 1) (hs 1) ++ (hB G (q 2) (hs 2) ++ (hB G h (hs 3) ++ hB G (q 3) (hs 3)))))) (List.Perm.append_left (pB G p (fun i => some (q i 0)) 3) (List.Perm.append_left (hB G (q 0) (hs 0)) (List.Perm.append_left (hB G (q 1) (hs 1)) (List.perm_append_comm_assoc (hB G h (hs 3)) (hB G (q 2) (hs 2)) (hB G (q 3) (hs 3)))))) ?_
  refine V.perm (w' := pB G p (fun i => some (q i 0)) 3 ++ (hB G (q 0) (hs 0) ++ (hB G (q 1) (hs 1) ++ (hB G (q 2) (hs 2) ++ (hB G (q 3) (hs 3) ++ hB G h (hs 3)))))) (List.Perm.append_left (pB G p (fun i => some (q i 0)) 3) (List.Perm.append_left (hB G (q 0) (hs 0)) (List.Perm.append_left (hB G (q 1) (hs 1)) (List.Perm.append_left (hB G (q 2) (hs 2)) (List.perm_append_comm (l₁ := hB G h (hs 3)) (l₂ := hB G (q 3) (hs 3))))))) ?_
  exact V_iret hX hR dX2_bringBack_37 ⟨rfl, rfl⟩

theorem Ct.outPerm {l : Launch} {G : vC} {y : MethodName} {cc : ByteArray} {maxL : Nat} {ret : Option FieldType} {rm : Room} {as : List Value} {w u u' : va_W} {v : Option Value} (h : Fn l G y cc maxL ret rm as w v u) (hp : u.Perm u') : Fn l G y cc maxL ret rm as w v u' := by
  intro sz p e a b hk s m args below hf hh hp2 hp3
  obtain ⟨t, o, h1, h2, h3, ⟨⟨⟨v1, u1, e1, ⟨e2, e3⟩, e4, e5⟩, e6⟩, e7⟩⟩ := h sz p e a b hk s m args below hf hh hp2 hp3
  subst e3
  exact ⟨t, o, h1, h2, h3, ⟨⟨⟨v1, u', e1, ⟨e2, rfl⟩, vp_mem.mpr fun q hq => vp_mem.mp e4 q (hp.mem_iff.mpr hq), vd_mem.mpr ⟨((hp.map Prod.fst).nodup_iff).mp (vd_mem.mp e5).1, fun q hq => (vd_mem.mp e5).2 q (hp.mem_iff.mpr hq)⟩⟩, e6⟩, e7⟩⟩
theorem rot_perm (a b0 b1 b2 b3 c : va_W) : (a ++ (b0 ++ (b1 ++ (b2 ++ (b3 ++ c))))).Perm (a ++ (b1 ++ (b2 ++ (b3 ++ (b0 ++ c))))) := by
  refine List.Perm.append_left a ?_
  refine (List.perm_append_comm_assoc b0 b1 _).trans (List.Perm.append_left b1 ?_)
  refine (List.perm_append_comm_assoc b0 b2 _).trans (List.Perm.append_left b2 ?_)
  exact List.perm_append_comm_assoc b0 b3 c

theorem c_X2_remember (l : Launch) (G : vC) (p : Nat → Nat) (q : Nat → Nat → Nat) (hs : Nat → Nat → Int) (sz : Nat) (h : Nat → Nat) (s : Nat → Int) (hsz : sz ≤ 4) : Fn l G yX2_remember cX2_remember 2 none ({ frames := 3, cells := 0, slots := 0, locals := 200 } : Room) [.ref (p 0), .ref (h 0)] (pW G p q hs sz ++ hB G h s) none (pW G p (rotQ q sz) (pushH hs sz s) (if sz = 4 then 4 else sz + 1) ++ hB G h s) := by
  rcases (by omega : sz = 0 ∨ sz = 1 ∨ sz = 2 ∨ sz = 3 ∨ sz = 4) with rfl | rfl | rfl | rfl | rfl
  · have h0 := c_X2_remember_0 l G p q hs h s
    unfold pW
    simp only [List.append_assoc]
    exact h0
  · have h0 := c_X2_remember_1 l G p q hs h s
    unfold pW
    simp only [List.append_assoc]
    exact h0
  · have h0 := c_X2_remember_2 l G p q hs h s
    unfold pW
    simp only [List.append_assoc]
    exact h0
  · have h0 := c_X2_remember_3 l G p q hs h s
    unfold pW
    simp only [List.append_assoc]
    exact h0
  · have h0 := c_X2_remember_4 l G p q hs h s
    unfold pW
    simp only [List.append_assoc]
    exact Ct.outPerm h0 (rot_perm _ _ _ _ _ _)

theorem c_X2_bringBack (l : Launch) (G : vC) (p : Nat → Nat) (q : Nat → Nat → Nat) (hs : Nat → Nat → Int) (sz : Nat) (h : Nat → Nat) (s : Nat → Int) (hsz : sz ≤ 4) : Fn l G yX2_bringBack cX2_bringBack 2 (some .int) ({ frames := 3, cells := 0, slots := 0, locals := 200 } : Room) [.ref (p 0), .ref (h 0)] (pW G p q hs sz ++ hB G h s) (some (.int (jI (if sz = 0 then -5 else (sz : Int) - 1)))) (pW G p q hs (sz - 1) ++ hB G h (if sz = 0 then s else hs (sz - 1))) := by
  rcases (by omega : sz = 0 ∨ sz = 1 ∨ sz = 2 ∨ sz = 3 ∨ sz = 4) with rfl | rfl | rfl | rfl | rfl
  · have h0 := c_X2_bringBack_0 l G p q hs h s
    unfold pW
    simp only [List.append_assoc]
    exact h0
  · have h0 := c_X2_bringBack_1 l G p q hs h s
    unfold pW
    simp only [List.append_assoc]
    exact h0
  · have h0 := c_X2_bringBack_2 l G p q hs h s
    unfold pW
    simp only [List.append_assoc]
    exact h0
  · have h0 := c_X2_bringBack_3 l G p q hs h s
    unfold pW
    simp only [List.append_assoc]
    exact h0
  · have h0 := c_X2_bringBack_4 l G p q hs h s
    unfold pW
    simp only [List.append_assoc]
    exact h0
