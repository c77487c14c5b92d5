/-! the start of a house -/
def hz0 : Nat → Int := fun j => if j = 1 then 2 else if j = 5 then 640 else if j = 9 then -5 else if 11 ≤ j ∧ j < 17 then 1 else 0
theorem hz0_hi {j : Nat} (h : 17 ≤ j) : hz0 j = 0 := by
  unfold hz0
  rw [if_neg (by omega), if_neg (by omega), if_neg (by omega), if_neg (by omega)]
theorem hz0_v (c : Nat) : hv hz0 c = fun _ => 0 := by
  funext k
  show jI (hz0 (ix k c)) = 0
  rw [hz0_hi (by unfold ix; omega)]
  rfl
theorem hz0_c : hcr hz0 = fun _ => 0 := by
  funext k
  show jI (hz0 (ix (k / 4) (5 + k % 4))) = 0
  rw [hz0_hi (by unfold ix; omega)]
  rfl
theorem hz0_se : hse hz0 = upd (upd (upd (upd (upd (upd (fun _ => 0) 0 (jI 1)) 1 (jI 1)) 2 (jI 1)) 3 (jI 1)) 4 (jI 1)) 5 (jI 1) := by
  funext k
  by_cases h : k < 6
  · rcases (by omega : k = 0 ∨ k = 1 ∨ k = 2 ∨ k = 3 ∨ k = 4 ∨ k = 5) with rfl | rfl | rfl | rfl | rfl | rfl <;> rfl
  · unfold hse upd
    rw [if_neg h, if_neg (by omega), if_neg (by omega), if_neg (by omega), if_neg (by omega), if_neg (by omega), if_neg (by omega)]
theorem hz0_st : hst hz0 = upd (fun _ => 0) 1 (jI 2) := by
  funext k
  by_cases h : k < 2
  · rcases (by omega : k = 0 ∨ k = 1) with rfl | rfl <;> rfl
  · unfold hst upd
    rw [if_neg h, if_neg (by omega)]
def ad11 (a b c d e f g h i j k : Nat) : Nat → Nat := fun n => match n with
  | 0 => a
  | 1 => b
  | 2 => c
  | 3 => d
  | 4 => e
  | 5 => f
  | 6 => g
  | 7 => h
  | 8 => i
  | 9 => j
  | _ => k
theorem fits_bI (c : Prop) [Decidable c] : fits .boolean (.int (jI (bI c))) = true := by unfold bI; split <;> rfl
theorem mI_0 : mI (fun _ => 0) = fun _ => 0 := rfl

set_option maxHeartbeats 4000000 in
set_option maxRecDepth 100000 in
theorem c_X1_init (l : Launch) (G : vC) (a : Nat)  : Ct l G yX1_init cX1_init 2 none ({ frames := 1, cells := 10, slots := 140, locals := 14 } : Room) [.ref (a)] (([(a, .inr (1, [.null, .null, .null, .null, .null, .null, .null, .null, .null, .null, .int 0, .int 0, .int 0, .int 0, .int 0, .int 0, .int 0]))] : va_W)) (fun v u => v = none ∧ ∃ h : Nat → Nat, h 0 = a ∧ u = hB G h hz0) := by
  refine Ct.of (by decide) (Nat.le_of_ble_eq_true rfl) (fun X hX hR => ?_)
  refine V.toLv (lv' := [(0, .ref a)]) rfl ?_
  refine V_aload_n hX dX1_init_0 0 rfl ?_
  refine V_objInit hX dX1_init_1 wo_X1_3 (by decide) (Nat.le_of_ble_eq_true rfl) ?_
  refine V_aload_n hX dX1_init_4 0 rfl ?_
  refine V_bipush hX dX1_init_5 (by decide) ?_
  refine V_newai (N := 12) (k' := 1) (n' := 12) hX (by decide) (Nat.le_of_ble_eq_true rfl) (Nat.le_of_ble_eq_true rfl) dX1_init_7 rfl rfl (fun q1 => ?_)
  refine V.wd (w' := ([(a, .inr (1, [.null, .null, .null, .null, .null, .null, .null, .null, .null, .null, .int 0, .int 0, .int 0, .int 0, .int 0, .int 0, .int 0]))] : va_W) ++ (([(q1, .inl (G.2.1, 12, .inl (fun _ => 0)))] : va_W))) rfl ?_
  refine V_putF (w' := ([(a, .inr (1, [.ref (q1), .null, .null, .null, .null, .null, .null, .null, .null, .null, .int 0, .int 0, .int 0, .int 0, .int 0, .int 0, .int 0]))] : va_W) ++ (([(q1, .inl (G.2.1, 12, .inl (fun _ => 0)))] : va_W))) hX cbX1 0 0 (by decide) wf_X1_9 rfl rfl rfl rfl rfl rfl rfl rfl (Nat.le_of_ble_eq_true rfl) dX1_init_9 rfl ?_
  refine V_aload_n hX dX1_init_12 0 rfl ?_
  refine V_bipush hX dX1_init_13 (by decide) ?_
  refine V_newai (N := 12) (k' := 2) (n' := 24) hX (by decide) (Nat.le_of_ble_eq_true rfl) (Nat.le_of_ble_eq_true rfl) dX1_init_15 rfl rfl (fun q2 => ?_)
  refine V.wd (w' := ([(a, .inr (1, [.ref (q1), .null, .null, .null, .null, .null, .null, .null, .null, .null, .int 0, .int 0, .int 0, .int 0, .int 0, .int 0, .int 0]))] : va_W) ++ (([(q1, .inl (G.2.1, 12, .inl (fun _ => 0)))] : va_W) ++ (([(q2, .inl (G.2.1, 12, .inl (fun _ => 0)))] : va_W)))) rfl ?_
  refine V_putF (w' := ([(a, .inr (1, [.ref (q1), .ref (q2), .null, .null, .null, .null, .null, .null, .null, .null, .int 0, .int 0, .int 0, .int 0, .int 0, .int 0, .int 0]))] : va_W) ++ (([(q1, .inl (G.2.1, 12, .inl (fun _ => 0)))] : va_W) ++ (([(q2, .inl (G.2.1, 12, .inl (fun _ => 0)))] : va_W)))) hX cbX1 1 0 (by decide) wf_X1_15 rfl rfl rfl rfl rfl rfl rfl rfl (Nat.le_of_ble_eq_true rfl) dX1_init_17 rfl ?_
  refine V_aload_n hX dX1_init_20 0 rfl ?_
  refine V_bipush hX dX1_init_21 (by decide) ?_
  refine V_newai (N := 12) (k' := 3) (n' := 36) hX (by decide) (Nat.le_of_ble_eq_true rfl) (Nat.le_of_ble_eq_true rfl) dX1_init_23 rfl rfl (fun q3 => ?_)
  refine V.wd (w' := ([(a, .inr (1, [.ref (q1), .ref (q2), .null, .null, .null, .null, .null, .null, .null, .null, .int 0, .int 0, .int 0, .int 0, .int 0, .int 0, .int 0]))] : va_W) ++ (([(q1, .inl (G.2.1, 12, .inl (fun _ => 0)))] : va_W) ++ (([(q2, .inl (G.2.1, 12, .inl (fun _ => 0)))] : va_W) ++ (([(q3, .inl (G.2.1, 12, .inl (fun _ => 0)))] : va_W))))) rfl ?_
  refine V_putF (w' := ([(a, .inr (1, [.ref (q1), .ref (q2), .ref (q3), .null, .null, .null, .null, .null, .null, .null, .int 0, .int 0, .int 0, .int 0, .int 0, .int 0, .int 0]))] : va_W) ++ (([(q1, .inl (G.2.1, 12, .inl (fun _ => 0)))] : va_W) ++ (([(q2, .inl (G.2.1, 12, .inl (fun _ => 0)))] : va_W) ++ (([(q3, .inl (G.2.1, 12, .inl (fun _ => 0)))] : va_W))))) hX cbX1 2 0 (by decide) wf_X1_18 rfl rfl rfl rfl rfl rfl rfl rfl (Nat.le_of_ble_eq_true rfl) dX1_init_25 rfl ?_
  refine V_aload_n hX dX1_init_28 0 rfl ?_
  refine V_bipush hX dX1_init_29 (by decide) ?_
  refine V_newai (N := 12) (k' := 4) (n' := 48) hX (by decide) (Nat.le_of_ble_eq_true rfl) (Nat.le_of_ble_eq_true rfl) dX1_init_31 rfl rfl (fun q4 => ?_)
  refine V.wd (w' := ([(a, .inr (1, [.ref (q1), .ref (q2), .ref (q3), .null, .null, .null, .null, .null, .null, .null, .int 0, .int 0, .int 0, .int 0, .int 0, .int 0, .int 0]))] : va_W) ++ (([(q1, .inl (G.2.1, 12, .inl (fun _ => 0)))] : va_W) ++ (([(q2, .inl (G.2.1, 12, .inl (fun _ => 0)))] : va_W) ++ (([(q3, .inl (G.2.1, 12, .inl (fun _ => 0)))] : va_W) ++ (([(q4, .inl (G.2.1, 12, .inl (fun _ => 0)))] : va_W)))))) rfl ?_
  refine V_putF (w' := ([(a, .inr (1, [.ref (q1), .ref (q2), .ref (q3), .ref (q4), .null, .null, .null, .null, .null, .null, .int 0, .int 0, .int 0, .int 0, .int 0, .int 0, .int 0]))] : va_W) ++ (([(q1, .inl (G.2.1, 12, .inl (fun _ => 0)))] : va_W) ++ (([(q2, .inl (G.2.1, 12, .inl (fun _ => 0)))] : va_W) ++ (([(q3, .inl (G.2.1, 12, .inl (fun _ => 0)))] : va_W) ++ (([(q4, .inl (G.2.1, 12, .inl (fun _ => 0)))] : va_W)))))) hX cbX1 3 0 (by decide) wf_X1_21 rfl rfl rfl rfl rfl rfl rfl rfl (Nat.le_of_ble_eq_true rfl) dX1_init_33 rfl ?_
  refine V_aload_n hX dX1_init_36 0 rfl ?_
  refine V_bipush hX dX1_init_37 (by decide) ?_
  refine V_newai (N := 12) (k' := 5) (n' := 60) hX (by decide) (Nat.le_of_ble_eq_true rfl) (Nat.le_of_ble_eq_true rfl) dX1_init_39 rfl rfl (fun q5 => ?_)
  refine V.wd (w' := ([(a, .inr (1, [.ref (q1), .ref (q2), .ref (q3), .ref (q4), .null, .null, .null, .null, .null, .null, .int 0, .int 0, .int 0, .int 0, .int 0, .int 0, .int 0]))] : va_W) ++ (([(q1, .inl (G.2.1, 12, .inl (fun _ => 0)))] : va_W) ++ (([(q2, .inl (G.2.1, 12, .inl (fun _ => 0)))] : va_W) ++ (([(q3, .inl (G.2.1, 12, .inl (fun _ => 0)))] : va_W) ++ (([(q4, .inl (G.2.1, 12, .inl (fun _ => 0)))] : va_W) ++ (([(q5, .inl (G.2.1, 12, .inl (fun _ => 0)))] : va_W))))))) rfl ?_
  refine V_putF (w' := ([(a, .inr (1, [.ref (q1), .ref (q2), .ref (q3), .ref (q4), .ref (q5), .null, .null, .null, .null, .null, .int 0, .int 0, .int 0, .int 0, .int 0, .int 0, .int 0]))] : va_W) ++ (([(q1, .inl (G.2.1, 12, .inl (fun _ => 0)))] : va_W) ++ (([(q2, .inl (G.2.1, 12, .inl (fun _ => 0)))] : va_W) ++ (([(q3, .inl (G.2.1, 12, .inl (fun _ => 0)))] : va_W) ++ (([(q4, .inl (G.2.1, 12, .inl (fun _ => 0)))] : va_W) ++ (([(q5, .inl (G.2.1, 12, .inl (fun _ => 0)))] : va_W))))))) hX cbX1 4 0 (by decide) wf_X1_24 rfl rfl rfl rfl rfl rfl rfl rfl (Nat.le_of_ble_eq_true rfl) dX1_init_41 rfl ?_
  refine V_aload_n hX dX1_init_44 0 rfl ?_
  refine V_bipush hX dX1_init_45 (by decide) ?_
  refine V_newai (N := 12) (k' := 6) (n' := 72) hX (by decide) (Nat.le_of_ble_eq_true rfl) (Nat.le_of_ble_eq_true rfl) dX1_init_47 rfl rfl (fun q6 => ?_)
  refine V.wd (w' := ([(a, .inr (1, [.ref (q1), .ref (q2), .ref (q3), .ref (q4), .ref (q5), .null, .null, .null, .null, .null, .int 0, .int 0, .int 0, .int 0, .int 0, .int 0, .int 0]))] : va_W) ++ (([(q1, .inl (G.2.1, 12, .inl (fun _ => 0)))] : va_W) ++ (([(q2, .inl (G.2.1, 12, .inl (fun _ => 0)))] : va_W) ++ (([(q3, .inl (G.2.1, 12, .inl (fun _ => 0)))] : va_W) ++ (([(q4, .inl (G.2.1, 12, .inl (fun _ => 0)))] : va_W) ++ (([(q5, .inl (G.2.1, 12, .inl (fun _ => 0)))] : va_W) ++ (([(q6, .inl (G.2.1, 12, .inl (fun _ => 0)))] : va_W)))))))) rfl ?_
  refine V_putF (w' := ([(a, .inr (1, [.ref (q1), .ref (q2), .ref (q3), .ref (q4), .ref (q5), .ref (q6), .null, .null, .null, .null, .int 0, .int 0, .int 0, .int 0, .int 0, .int 0, .int 0]))] : va_W) ++ (([(q1, .inl (G.2.1, 12, .inl (fun _ => 0)))] : va_W) ++ (([(q2, .inl (G.2.1, 12, .inl (fun _ => 0)))] : va_W) ++ (([(q3, .inl (G.2.1, 12, .inl (fun _ => 0)))] : va_W) ++ (([(q4, .inl (G.2.1, 12, .inl (fun _ => 0)))] : va_W) ++ (([(q5, .inl (G.2.1, 12, .inl (fun _ => 0)))] : va_W) ++ (([(q6, .inl (G.2.1, 12, .inl (fun _ => 0)))] : va_W)))))))) hX cbX1 5 0 (by decide) wf_X1_27 rfl rfl rfl rfl rfl rfl rfl rfl (Nat.le_of_ble_eq_true rfl) dX1_init_49 rfl ?_
  refine V_aload_n hX dX1_init_52 0 rfl ?_
  refine V_bipush hX dX1_init_53 (by decide) ?_
  refine V_newai (N := 12) (k' := 7) (n' := 84) hX (by decide) (Nat.le_of_ble_eq_true rfl) (Nat.le_of_ble_eq_true rfl) dX1_init_55 rfl rfl (fun q7 => ?_)
  refine V.wd (w' := ([(a, .inr (1, [.ref (q1), .ref (q2), .ref (q3), .ref (q4), .ref (q5), .ref (q6), .null, .null, .null, .null, .int 0, .int 0, .int 0, .int 0, .int 0, .int 0, .int 0]))] : va_W) ++ (([(q1, .inl (G.2.1, 12, .inl (fun _ => 0)))] : va_W) ++ (([(q2, .inl (G.2.1, 12, .inl (fun _ => 0)))] : va_W) ++ (([(q3, .inl (G.2.1, 12, .inl (fun _ => 0)))] : va_W) ++ (([(q4, .inl (G.2.1, 12, .inl (fun _ => 0)))] : va_W) ++ (([(q5, .inl (G.2.1, 12, .inl (fun _ => 0)))] : va_W) ++ (([(q6, .inl (G.2.1, 12, .inl (fun _ => 0)))] : va_W) ++ (([(q7, .inl (G.2.1, 12, .inl (fun _ => 0)))] : va_W))))))))) rfl ?_
  refine V_putF (w' := ([(a, .inr (1, [.ref (q1), .ref (q2), .ref (q3), .ref (q4), .ref (q5), .ref (q6), .ref (q7), .null, .null, .null, .int 0, .int 0, .int 0, .int 0, .int 0, .int 0, .int 0]))] : va_W) ++ (([(q1, .inl (G.2.1, 12, .inl (fun _ => 0)))] : va_W) ++ (([(q2, .inl (G.2.1, 12, .inl (fun _ => 0)))] : va_W) ++ (([(q3, .inl (G.2.1, 12, .inl (fun _ => 0)))] : va_W) ++ (([(q4, .inl (G.2.1, 12, .inl (fun _ => 0)))] : va_W) ++ (([(q5, .inl (G.2.1, 12, .inl (fun _ => 0)))] : va_W) ++ (([(q6, .inl (G.2.1, 12, .inl (fun _ => 0)))] : va_W) ++ (([(q7, .inl (G.2.1, 12, .inl (fun _ => 0)))] : va_W))))))))) hX cbX1 6 0 (by decide) wf_X1_30 rfl rfl rfl rfl rfl rfl rfl rfl (Nat.le_of_ble_eq_true rfl) dX1_init_57 rfl ?_
  refine V_aload_n hX dX1_init_60 0 rfl ?_
  refine V_bipush hX dX1_init_61 (by decide) ?_
  refine V_newai (N := 48) (k' := 8) (n' := 132) hX (by decide) (Nat.le_of_ble_eq_true rfl) (Nat.le_of_ble_eq_true rfl) dX1_init_63 rfl rfl (fun q8 => ?_)
  refine V.wd (w' := ([(a, .inr (1, [.ref (q1), .ref (q2), .ref (q3), .ref (q4), .ref (q5), .ref (q6), .ref (q7), .null, .null, .null, .int 0, .int 0, .int 0, .int 0, .int 0, .int 0, .int 0]))] : va_W) ++ (([(q1, .inl (G.2.1, 12, .inl (fun _ => 0)))] : va_W) ++ (([(q2, .inl (G.2.1, 12, .inl (fun _ => 0)))] : va_W) ++ (([(q3, .inl (G.2.1, 12, .inl (fun _ => 0)))] : va_W) ++ (([(q4, .inl (G.2.1, 12, .inl (fun _ => 0)))] : va_W) ++ (([(q5, .inl (G.2.1, 12, .inl (fun _ => 0)))] : va_W) ++ (([(q6, .inl (G.2.1, 12, .inl (fun _ => 0)))] : va_W) ++ (([(q7, .inl (G.2.1, 12, .inl (fun _ => 0)))] : va_W) ++ (([(q8, .inl (G.2.1, 48, .inl (fun _ => 0)))] : va_W)))))))))) rfl ?_
  refine V_putF (w' := ([(a, .inr (1, [.ref (q1), .ref (q2), .ref (q3), .ref (q4), .ref (q5), .ref (q6), .ref (q7), .ref (q8), .null, .null, .int 0, .int 0, .int 0, .int 0, .int 0, .int 0, .int 0]))] : va_W) ++ (([(q1, .inl (G.2.1, 12, .inl (fun _ => 0)))] : va_W) ++ (([(q2, .inl (G.2.1, 12, .inl (fun _ => 0)))] : va_W) ++ (([(q3, .inl (G.2.1, 12, .inl (fun _ => 0)))] : va_W) ++ (([(q4, .inl (G.2.1, 12, .inl (fun _ => 0)))] : va_W) ++ (([(q5, .inl (G.2.1, 12, .inl (fun _ => 0)))] : va_W) ++ (([(q6, .inl (G.2.1, 12, .inl (fun _ => 0)))] : va_W) ++ (([(q7, .inl (G.2.1, 12, .inl (fun _ => 0)))] : va_W) ++ (([(q8, .inl (G.2.1, 48, .inl (fun _ => 0)))] : va_W)))))))))) hX cbX1 7 0 (by decide) wf_X1_33 rfl rfl rfl rfl rfl rfl rfl rfl (Nat.le_of_ble_eq_true rfl) dX1_init_65 rfl ?_
  refine V_aload_n hX dX1_init_68 0 rfl ?_
  refine V_bipush hX dX1_init_69 (by decide) ?_
  refine V_newai (N := 6) (k' := 9) (n' := 138) hX (by decide) (Nat.le_of_ble_eq_true rfl) (Nat.le_of_ble_eq_true rfl) dX1_init_71 rfl rfl (fun q9 => ?_)
  refine V.wd (w' := ([(a, .inr (1, [.ref (q1), .ref (q2), .ref (q3), .ref (q4), .ref (q5), .ref (q6), .ref (q7), .ref (q8), .null, .null, .int 0, .int 0, .int 0, .int 0, .int 0, .int 0, .int 0]))] : va_W) ++ (([(q1, .inl (G.2.1, 12, .inl (fun _ => 0)))] : va_W) ++ (([(q2, .inl (G.2.1, 12, .inl (fun _ => 0)))] : va_W) ++ (([(q3, .inl (G.2.1, 12, .inl (fun _ => 0)))] : va_W) ++ (([(q4, .inl (G.2.1, 12, .inl (fun _ => 0)))] : va_W) ++ (([(q5, .inl (G.2.1, 12, .inl (fun _ => 0)))] : va_W) ++ (([(q6, .inl (G.2.1, 12, .inl (fun _ => 0)))] : va_W) ++ (([(q7, .inl (G.2.1, 12, .inl (fun _ => 0)))] : va_W) ++ (([(q8, .inl (G.2.1, 48, .inl (fun _ => 0)))] : va_W) ++ (([(q9, .inl (G.2.1, 6, .inl (fun _ => 0)))] : va_W))))))))))) rfl ?_
  refine V_putF (w' := ([(a, .inr (1, [.ref (q1), .ref (q2), .ref (q3), .ref (q4), .ref (q5), .ref (q6), .ref (q7), .ref (q8), .ref (q9), .null, .int 0, .int 0, .int 0, .int 0, .int 0, .int 0, .int 0]))] : va_W) ++ (([(q1, .inl (G.2.1, 12, .inl (fun _ => 0)))] : va_W) ++ (([(q2, .inl (G.2.1, 12, .inl (fun _ => 0)))] : va_W) ++ (([(q3, .inl (G.2.1, 12, .inl (fun _ => 0)))] : va_W) ++ (([(q4, .inl (G.2.1, 12, .inl (fun _ => 0)))] : va_W) ++ (([(q5, .inl (G.2.1, 12, .inl (fun _ => 0)))] : va_W) ++ (([(q6, .inl (G.2.1, 12, .inl (fun _ => 0)))] : va_W) ++ (([(q7, .inl (G.2.1, 12, .inl (fun _ => 0)))] : va_W) ++ (([(q8, .inl (G.2.1, 48, .inl (fun _ => 0)))] : va_W) ++ (([(q9, .inl (G.2.1, 6, .inl (fun _ => 0)))] : va_W))))))))))) hX cbX1 8 0 (by decide) wf_X1_36 rfl rfl rfl rfl rfl rfl rfl rfl (Nat.le_of_ble_eq_true rfl) dX1_init_73 rfl ?_
  refine V_aload_n hX dX1_init_76 0 rfl ?_
  refine V_iconst hX dX1_init_77 ?_
  refine V_newai (N := 2) (k' := 10) (n' := 140) hX (by decide) (Nat.le_of_ble_eq_true rfl) (Nat.le_of_ble_eq_true rfl) dX1_init_78 rfl rfl (fun q10 => ?_)
  refine V.wd (w' := ([(a, .inr (1, [.ref (q1), .ref (q2), .ref (q3), .ref (q4), .ref (q5), .ref (q6), .ref (q7), .ref (q8), .ref (q9), .null, .int 0, .int 0, .int 0, .int 0, .int 0, .int 0, .int 0]))] : va_W) ++ (([(q1, .inl (G.2.1, 12, .inl (fun _ => 0)))] : va_W) ++ (([(q2, .inl (G.2.1, 12, .inl (fun _ => 0)))] : va_W) ++ (([(q3, .inl (G.2.1, 12, .inl (fun _ => 0)))] : va_W) ++ (([(q4, .inl (G.2.1, 12, .inl (fun _ => 0)))] : va_W) ++ (([(q5, .inl (G.2.1, 12, .inl (fun _ => 0)))] : va_W) ++ (([(q6, .inl (G.2.1, 12, .inl (fun _ => 0)))] : va_W) ++ (([(q7, .inl (G.2.1, 12, .inl (fun _ => 0)))] : va_W) ++ (([(q8, .inl (G.2.1, 48, .inl (fun _ => 0)))] : va_W) ++ (([(q9, .inl (G.2.1, 6, .inl (fun _ => 0)))] : va_W) ++ (([(q10, .inl (G.2.1, 2, .inl (fun _ => 0)))] : va_W)))))))))))) rfl ?_
  refine V_putF (w' := ([(a, .inr (1, [.ref (q1), .ref (q2), .ref (q3), .ref (q4), .ref (q5), .ref (q6), .ref (q7), .ref (q8), .ref (q9), .ref (q10), .int 0, .int 0, .int 0, .int 0, .int 0, .int 0, .int 0]))] : va_W) ++ (([(q1, .inl (G.2.1, 12, .inl (fun _ => 0)))] : va_W) ++ (([(q2, .inl (G.2.1, 12, .inl (fun _ => 0)))] : va_W) ++ (([(q3, .inl (G.2.1, 12, .inl (fun _ => 0)))] : va_W) ++ (([(q4, .inl (G.2.1, 12, .inl (fun _ => 0)))] : va_W) ++ (([(q5, .inl (G.2.1, 12, .inl (fun _ => 0)))] : va_W) ++ (([(q6, .inl (G.2.1, 12, .inl (fun _ => 0)))] : va_W) ++ (([(q7, .inl (G.2.1, 12, .inl (fun _ => 0)))] : va_W) ++ (([(q8, .inl (G.2.1, 48, .inl (fun _ => 0)))] : va_W) ++ (([(q9, .inl (G.2.1, 6, .inl (fun _ => 0)))] : va_W) ++ (([(q10, .inl (G.2.1, 2, .inl (fun _ => 0)))] : va_W)))))))))))) hX cbX1 9 0 (by decide) wf_X1_39 rfl rfl rfl rfl rfl rfl rfl rfl (Nat.le_of_ble_eq_true rfl) dX1_init_80 rfl ?_
  refine V_aload_n hX dX1_init_83 0 rfl ?_
  refine V_sipush hX dX1_init_84 (by decide) ?_
  refine V_put (w' := ([(a, .inr (1, [.ref (q1), .ref (q2), .ref (q3), .ref (q4), .ref (q5), .ref (q6), .ref (q7), .ref (q8), .ref (q9), .ref (q10), .int 0, .int 0, .int 0, .int (jI 640), .int 0, .int 0, .int 0]))] : va_W) ++ (([(q1, .inl (G.2.1, 12, .inl (fun _ => 0)))] : va_W) ++ (([(q2, .inl (G.2.1, 12, .inl (fun _ => 0)))] : va_W) ++ (([(q3, .inl (G.2.1, 12, .inl (fun _ => 0)))] : va_W) ++ (([(q4, .inl (G.2.1, 12, .inl (fun _ => 0)))] : va_W) ++ (([(q5, .inl (G.2.1, 12, .inl (fun _ => 0)))] : va_W) ++ (([(q6, .inl (G.2.1, 12, .inl (fun _ => 0)))] : va_W) ++ (([(q7, .inl (G.2.1, 12, .inl (fun _ => 0)))] : va_W) ++ (([(q8, .inl (G.2.1, 48, .inl (fun _ => 0)))] : va_W) ++ (([(q9, .inl (G.2.1, 6, .inl (fun _ => 0)))] : va_W) ++ (([(q10, .inl (G.2.1, 2, .inl (fun _ => 0)))] : va_W)))))))))))) hX cbX1 13 0 (by decide) wf_X1_42 rfl rfl rfl rfl rfl rfl (Nat.le_of_ble_eq_true rfl) dX1_init_87 rfl ?_
  refine V_aload_n hX dX1_init_90 0 rfl ?_
  refine V_bipush hX dX1_init_91 (by decide) ?_
  refine V_put (w' := ([(a, .inr (1, [.ref (q1), .ref (q2), .ref (q3), .ref (q4), .ref (q5), .ref (q6), .ref (q7), .ref (q8), .ref (q9), .ref (q10), .int 0, .int 0, .int 0, .int (jI 640), .int 0, .int 0, .int (jI (-5))]))] : va_W) ++ (([(q1, .inl (G.2.1, 12, .inl (fun _ => 0)))] : va_W) ++ (([(q2, .inl (G.2.1, 12, .inl (fun _ => 0)))] : va_W) ++ (([(q3, .inl (G.2.1, 12, .inl (fun _ => 0)))] : va_W) ++ (([(q4, .inl (G.2.1, 12, .inl (fun _ => 0)))] : va_W) ++ (([(q5, .inl (G.2.1, 12, .inl (fun _ => 0)))] : va_W) ++ (([(q6, .inl (G.2.1, 12, .inl (fun _ => 0)))] : va_W) ++ (([(q7, .inl (G.2.1, 12, .inl (fun _ => 0)))] : va_W) ++ (([(q8, .inl (G.2.1, 48, .inl (fun _ => 0)))] : va_W) ++ (([(q9, .inl (G.2.1, 6, .inl (fun _ => 0)))] : va_W) ++ (([(q10, .inl (G.2.1, 2, .inl (fun _ => 0)))] : va_W)))))))))))) hX cbX1 16 0 (by decide) wf_X1_46 rfl rfl rfl rfl rfl rfl (Nat.le_of_ble_eq_true rfl) dX1_init_93 rfl ?_
  refine V_iconst hX dX1_init_96 ?_
  refine V_istore_n (i := 1) (lv' := [(1, .int (jI 0)), (0, .ref (a))]) hX dX1_init_97 rfl (by decide) rfl ?_
  refine V_iload_n hX dX1_init_98 0 rfl ?_
  refine V_bipush hX dX1_init_99 (by decide) ?_
  refine V_icmp_ge (tgt := 117) hX dX1_init_101 (by decide) (by decide) (by decide) (fun c11 => absurd c11 (by decide)) (fun c11 => ?_)
  refine V_aload_n hX dX1_init_104 1 rfl ?_
  refine V_get (v := .ref (q9)) hX cbX1 8 0 (by decide) wf_X1_36 rfl rfl rfl rfl dX1_init_105 ?_
  refine V_iload_n hX dX1_init_108 0 rfl ?_
  refine V_iconst hX dX1_init_109 ?_
  refine V_iast (i0 := 0) (w' := ([(a, .inr (1, [.ref (q1), .ref (q2), .ref (q3), .ref (q4), .ref (q5), .ref (q6), .ref (q7), .ref (q8), .ref (q9), .ref (q10), .int 0, .int 0, .int 0, .int (jI 640), .int 0, .int 0, .int (jI (-5))]))] : va_W) ++ (([(q1, .inl (G.2.1, 12, .inl (fun _ => 0)))] : va_W) ++ (([(q2, .inl (G.2.1, 12, .inl (fun _ => 0)))] : va_W) ++ (([(q3, .inl (G.2.1, 12, .inl (fun _ => 0)))] : va_W) ++ (([(q4, .inl (G.2.1, 12, .inl (fun _ => 0)))] : va_W) ++ (([(q5, .inl (G.2.1, 12, .inl (fun _ => 0)))] : va_W) ++ (([(q6, .inl (G.2.1, 12, .inl (fun _ => 0)))] : va_W) ++ (([(q7, .inl (G.2.1, 12, .inl (fun _ => 0)))] : va_W) ++ (([(q8, .inl (G.2.1, 48, .inl (fun _ => 0)))] : va_W) ++ (([(q9, .inl (G.2.1, 6, .inl (upd (fun _ => 0) 0 (jI (1)))))] : va_W) ++ (([(q10, .inl (G.2.1, 2, .inl (fun _ => 0)))] : va_W)))))))))))) hX 9 rfl (by decide) (by decide) (by decide) rfl dX1_init_110 rfl ?_
  refine V_iinc (b := 1) (lv' := [(1, .int (jI 1)), (0, .ref (a))]) hX dX1_init_111 0 rfl rfl (by decide) rfl ?_
  refine V_goto (tgt := 98) hX dX1_init_114 (by decide) ?_
  refine V_iload_n hX dX1_init_98 0 rfl ?_
  refine V_bipush hX dX1_init_99 (by decide) ?_
  refine V_icmp_ge (tgt := 117) hX dX1_init_101 (by decide) (by decide) (by decide) (fun c12 => absurd c12 (by decide)) (fun c12 => ?_)
  refine V_aload_n hX dX1_init_104 1 rfl ?_
  refine V_get (v := .ref (q9)) hX cbX1 8 0 (by decide) wf_X1_36 rfl rfl rfl rfl dX1_init_105 ?_
  refine V_iload_n hX dX1_init_108 0 rfl ?_
  refine V_iconst hX dX1_init_109 ?_
  refine V_iast (i0 := 1) (w' := ([(a, .inr (1, [.ref (q1), .ref (q2), .ref (q3), .ref (q4), .ref (q5), .ref (q6), .ref (q7), .ref (q8), .ref (q9), .ref (q10), .int 0, .int 0, .int 0, .int (jI 640), .int 0, .int 0, .int (jI (-5))]))] : va_W) ++ (([(q1, .inl (G.2.1, 12, .inl (fun _ => 0)))] : va_W) ++ (([(q2, .inl (G.2.1, 12, .inl (fun _ => 0)))] : va_W) ++ (([(q3, .inl (G.2.1, 12, .inl (fun _ => 0)))] : va_W) ++ (([(q4, .inl (G.2.1, 12, .inl (fun _ => 0)))] : va_W) ++ (([(q5, .inl (G.2.1, 12, .inl (fun _ => 0)))] : va_W) ++ (([(q6, .inl (G.2.1, 12, .inl (fun _ => 0)))] : va_W) ++ (([(q7, .inl (G.2.1, 12, .inl (fun _ => 0)))] : va_W) ++ (([(q8, .inl (G.2.1, 48, .inl (fun _ => 0)))] : va_W) ++ (([(q9, .inl (G.2.1, 6, .inl (upd (upd (fun _ => 0) 0 (jI (1))) 1 (jI (1)))))] : va_W) ++ (([(q10, .inl (G.2.1, 2, .inl (fun _ => 0)))] : va_W)))))))))))) hX 9 rfl (by decide) (by decide) (by decide) rfl dX1_init_110 rfl ?_
  refine V_iinc (b := 2) (lv' := [(1, .int (jI 2)), (0, .ref (a))]) hX dX1_init_111 0 rfl rfl (by decide) rfl ?_
  refine V_goto (tgt := 98) hX dX1_init_114 (by decide) ?_
  refine V_iload_n hX dX1_init_98 0 rfl ?_
  refine V_bipush hX dX1_init_99 (by decide) ?_
  refine V_icmp_ge (tgt := 117) hX dX1_init_101 (by decide) (by decide) (by decide) (fun c13 => absurd c13 (by decide)) (fun c13 => ?_)
  refine V_aload_n hX dX1_init_104 1 rfl ?_
  refine V_get (v := .ref (q9)) hX cbX1 8 0 (by decide) wf_X1_36 rfl rfl rfl rfl dX1_init_105 ?_
  refine V_iload_n hX dX1_init_108 0 rfl ?_
  refine V_iconst hX dX1_init_109 ?_
  refine V_iast (i0 := 2) (w' := ([(a, .inr (1, [.ref (q1), .ref (q2), .ref (q3), .ref (q4), .ref (q5), .ref (q6), .ref (q7), .ref (q8), .ref (q9), .ref (q10), .int 0, .int 0, .int 0, .int (jI 640), .int 0, .int 0, .int (jI (-5))]))] : va_W) ++ (([(q1, .inl (G.2.1, 12, .inl (fun _ => 0)))] : va_W) ++ (([(q2, .inl (G.2.1, 12, .inl (fun _ => 0)))] : va_W) ++ (([(q3, .inl (G.2.1, 12, .inl (fun _ => 0)))] : va_W) ++ (([(q4, .inl (G.2.1, 12, .inl (fun _ => 0)))] : va_W) ++ (([(q5, .inl (G.2.1, 12, .inl (fun _ => 0)))] : va_W) ++ (([(q6, .inl (G.2.1, 12, .inl (fun _ => 0)))] : va_W) ++ (([(q7, .inl (G.2.1, 12, .inl (fun _ => 0)))] : va_W) ++ (([(q8, .inl (G.2.1, 48, .inl (fun _ => 0)))] : va_W) ++ (([(q9, .inl (G.2.1, 6, .inl (upd (upd (upd (fun _ => 0) 0 (jI (1))) 1 (jI (1))) 2 (jI (1)))))] : va_W) ++ (([(q10, .inl (G.2.1, 2, .inl (fun _ => 0)))] : va_W)))))))))))) hX 9 rfl (by decide) (by decide) (by decide) rfl dX1_init_110 rfl ?_
  refine V_iinc (b := 3) (lv' := [(1, .int (jI 3)), (0, .ref (a))]) hX dX1_init_111 0 rfl rfl (by decide) rfl ?_
  refine V_goto (tgt := 98) hX dX1_init_114 (by decide) ?_
  refine V_iload_n hX dX1_init_98 0 rfl ?_
  refine V_bipush hX dX1_init_99 (by decide) ?_
  refine V_icmp_ge (tgt := 117) hX dX1_init_101 (by decide) (by decide) (by decide) (fun c14 => absurd c14 (by decide)) (fun c14 => ?_)
  refine V_aload_n hX dX1_init_104 1 rfl ?_
  refine V_get (v := .ref (q9)) hX cbX1 8 0 (by decide) wf_X1_36 rfl rfl rfl rfl dX1_init_105 ?_
  refine V_iload_n hX dX1_init_108 0 rfl ?_
  refine V_iconst hX dX1_init_109 ?_
  refine V_iast (i0 := 3) (w' := ([(a, .inr (1, [.ref (q1), .ref (q2), .ref (q3), .ref (q4), .ref (q5), .ref (q6), .ref (q7), .ref (q8), .ref (q9), .ref (q10), .int 0, .int 0, .int 0, .int (jI 640), .int 0, .int 0, .int (jI (-5))]))] : va_W) ++ (([(q1, .inl (G.2.1, 12, .inl (fun _ => 0)))] : va_W) ++ (([(q2, .inl (G.2.1, 12, .inl (fun _ => 0)))] : va_W) ++ (([(q3, .inl (G.2.1, 12, .inl (fun _ => 0)))] : va_W) ++ (([(q4, .inl (G.2.1, 12, .inl (fun _ => 0)))] : va_W) ++ (([(q5, .inl (G.2.1, 12, .inl (fun _ => 0)))] : va_W) ++ (([(q6, .inl (G.2.1, 12, .inl (fun _ => 0)))] : va_W) ++ (([(q7, .inl (G.2.1, 12, .inl (fun _ => 0)))] : va_W) ++ (([(q8, .inl (G.2.1, 48, .inl (fun _ => 0)))] : va_W) ++ (([(q9, .inl (G.2.1, 6, .inl (upd (upd (upd (upd (fun _ => 0) 0 (jI (1))) 1 (jI (1))) 2 (jI (1))) 3 (jI (1)))))] : va_W) ++ (([(q10, .inl (G.2.1, 2, .inl (fun _ => 0)))] : va_W)))))))))))) hX 9 rfl (by decide) (by decide) (by decide) rfl dX1_init_110 rfl ?_
  refine V_iinc (b := 4) (lv' := [(1, .int (jI 4)), (0, .ref (a))]) hX dX1_init_111 0 rfl rfl (by decide) rfl ?_
  refine V_goto (tgt := 98) hX dX1_init_114 (by decide) ?_
  refine V_iload_n hX dX1_init_98 0 rfl ?_
  refine V_bipush hX dX1_init_99 (by decide) ?_
  refine V_icmp_ge (tgt := 117) hX dX1_init_101 (by decide) (by decide) (by decide) (fun c15 => absurd c15 (by decide)) (fun c15 => ?_)
  refine V_aload_n hX dX1_init_104 1 rfl ?_
  refine V_get (v := .ref (q9)) hX cbX1 8 0 (by decide) wf_X1_36 rfl rfl rfl rfl dX1_init_105 ?_
  refine V_iload_n hX dX1_init_108 0 rfl ?_
  refine V_iconst hX dX1_init_109 ?_
  refine V_iast (i0 := 4) (w' := ([(a, .inr (1, [.ref (q1), .ref (q2), .ref (q3), .ref (q4), .ref (q5), .ref (q6), .ref (q7), .ref (q8), .ref (q9), .ref (q10), .int 0, .int 0, .int 0, .int (jI 640), .int 0, .int 0, .int (jI (-5))]))] : va_W) ++ (([(q1, .inl (G.2.1, 12, .inl (fun _ => 0)))] : va_W) ++ (([(q2, .inl (G.2.1, 12, .inl (fun _ => 0)))] : va_W) ++ (([(q3, .inl (G.2.1, 12, .inl (fun _ => 0)))] : va_W) ++ (([(q4, .inl (G.2.1, 12, .inl (fun _ => 0)))] : va_W) ++ (([(q5, .inl (G.2.1, 12, .inl (fun _ => 0)))] : va_W) ++ (([(q6, .inl (G.2.1, 12, .inl (fun _ => 0)))] : va_W) ++ (([(q7, .inl (G.2.1, 12, .inl (fun _ => 0)))] : va_W) ++ (([(q8, .inl (G.2.1, 48, .inl (fun _ => 0)))] : va_W) ++ (([(q9, .inl (G.2.1, 6, .inl (upd (upd (upd (upd (upd (fun _ => 0) 0 (jI (1))) 1 (jI (1))) 2 (jI (1))) 3 (jI (1))) 4 (jI (1)))))] : va_W) ++ (([(q10, .inl (G.2.1, 2, .inl (fun _ => 0)))] : va_W)))))))))))) hX 9 rfl (by decide) (by decide) (by decide) rfl dX1_init_110 rfl ?_
  refine V_iinc (b := 5) (lv' := [(1, .int (jI 5)), (0, .ref (a))]) hX dX1_init_111 0 rfl rfl (by decide) rfl ?_
  refine V_goto (tgt := 98) hX dX1_init_114 (by decide) ?_
  refine V_iload_n hX dX1_init_98 0 rfl ?_
  refine V_bipush hX dX1_init_99 (by decide) ?_
  refine V_icmp_ge (tgt := 117) hX dX1_init_101 (by decide) (by decide) (by decide) (fun c16 => absurd c16 (by decide)) (fun c16 => ?_)
  refine V_aload_n hX dX1_init_104 1 rfl ?_
  refine V_get (v := .ref (q9)) hX cbX1 8 0 (by decide) wf_X1_36 rfl rfl rfl rfl dX1_init_105 ?_
  refine V_iload_n hX dX1_init_108 0 rfl ?_
  refine V_iconst hX dX1_init_109 ?_
  refine V_iast (i0 := 5) (w' := ([(a, .inr (1, [.ref (q1), .ref (q2), .ref (q3), .ref (q4), .ref (q5), .ref (q6), .ref (q7), .ref (q8), .ref (q9), .ref (q10), .int 0, .int 0, .int 0, .int (jI 640), .int 0, .int 0, .int (jI (-5))]))] : va_W) ++ (([(q1, .inl (G.2.1, 12, .inl (fun _ => 0)))] : va_W) ++ (([(q2, .inl (G.2.1, 12, .inl (fun _ => 0)))] : va_W) ++ (([(q3, .inl (G.2.1, 12, .inl (fun _ => 0)))] : va_W) ++ (([(q4, .inl (G.2.1, 12, .inl (fun _ => 0)))] : va_W) ++ (([(q5, .inl (G.2.1, 12, .inl (fun _ => 0)))] : va_W) ++ (([(q6, .inl (G.2.1, 12, .inl (fun _ => 0)))] : va_W) ++ (([(q7, .inl (G.2.1, 12, .inl (fun _ => 0)))] : va_W) ++ (([(q8, .inl (G.2.1, 48, .inl (fun _ => 0)))] : va_W) ++ (([(q9, .inl (G.2.1, 6, .inl (upd (upd (upd (upd (upd (upd (fun _ => 0) 0 (jI (1))) 1 (jI (1))) 2 (jI (1))) 3 (jI (1))) 4 (jI (1))) 5 (jI (1)))))] : va_W) ++ (([(q10, .inl (G.2.1, 2, .inl (fun _ => 0)))] : va_W)))))))))))) hX 9 rfl (by decide) (by decide) (by decide) rfl dX1_init_110 rfl ?_
  refine V_iinc (b := 6) (lv' := [(1, .int (jI 6)), (0, .ref (a))]) hX dX1_init_111 0 rfl rfl (by decide) rfl ?_
  refine V_goto (tgt := 98) hX dX1_init_114 (by decide) ?_
  refine V_iload_n hX dX1_init_98 0 rfl ?_
  refine V_bipush hX dX1_init_99 (by decide) ?_
  refine V_icmp_ge (tgt := 117) hX dX1_init_101 (by decide) (by decide) (by decide) (fun c17 => ?_) (fun c17 => absurd c17 (by decide))
  refine V_aload_n hX dX1_init_117 1 rfl ?_
  refine V_get (v := .ref (q10)) hX cbX1 9 0 (by decide) wf_X1_39 rfl rfl rfl rfl dX1_init_118 ?_
  refine V_iconst hX dX1_init_121 ?_
  refine V_iconst hX dX1_init_122 ?_
  refine V_iast (i0 := 1) (w' := ([(a, .inr (1, [.ref (q1), .ref (q2), .ref (q3), .ref (q4), .ref (q5), .ref (q6), .ref (q7), .ref (q8), .ref (q9), .ref (q10), .int 0, .int 0, .int 0, .int (jI 640), .int 0, .int 0, .int (jI (-5))]))] : va_W) ++ (([(q1, .inl (G.2.1, 12, .inl (fun _ => 0)))] : va_W) ++ (([(q2, .inl (G.2.1, 12, .inl (fun _ => 0)))] : va_W) ++ (([(q3, .inl (G.2.1, 12, .inl (fun _ => 0)))] : va_W) ++ (([(q4, .inl (G.2.1, 12, .inl (fun _ => 0)))] : va_W) ++ (([(q5, .inl (G.2.1, 12, .inl (fun _ => 0)))] : va_W) ++ (([(q6, .inl (G.2.1, 12, .inl (fun _ => 0)))] : va_W) ++ (([(q7, .inl (G.2.1, 12, .inl (fun _ => 0)))] : va_W) ++ (([(q8, .inl (G.2.1, 48, .inl (fun _ => 0)))] : va_W) ++ (([(q9, .inl (G.2.1, 6, .inl (upd (upd (upd (upd (upd (upd (fun _ => 0) 0 (jI (1))) 1 (jI (1))) 2 (jI (1))) 3 (jI (1))) 4 (jI (1))) 5 (jI (1)))))] : va_W) ++ (([(q10, .inl (G.2.1, 2, .inl (upd (fun _ => 0) 1 (jI (2)))))] : va_W)))))))))))) hX 10 rfl (by decide) (by decide) (by decide) rfl dX1_init_123 rfl ?_
  refine V.wd (w' := hB G (ad11 a q1 q2 q3 q4 q5 q6 q7 q8 q9 q10) hz0) (by unfold hB; rw [hz0_v 0, hz0_v 1, hz0_v 2, hz0_v 3, hz0_v 4, hz0_v 9, hz0_v 10, hz0_c, hz0_se, hz0_st]; rfl) ?_
  exact V_vret hX hR dX1_init_124 ⟨rfl, _, rfl, rfl⟩

theorem fB_00 : fB 0 = 0 := by decide +kernel
theorem bW_0 : bW (fun _ => 0) = fun _ => 0 := by
  funext k
  exact fB_00
theorem hz0_m : mI hz0 = upd (upd (upd (upd (upd (upd (upd (upd (upd (fun _ => 0) 1 (jI 2)) 5 (jI 640)) 9 (jI (-5))) 11 (jI 1)) 12 (jI 1)) 13 (jI 1)) 14 (jI 1)) 15 (jI 1)) 16 (jI 1) := by
  funext k
  by_cases h : k < 17
  · rcases (by omega : k = 0 ∨ k = 1 ∨ k = 2 ∨ k = 3 ∨ k = 4 ∨ k = 5 ∨ k = 6 ∨ k = 7 ∨ k = 8 ∨ k = 9 ∨ k = 10 ∨ k = 11 ∨ k = 12 ∨ k = 13 ∨ k = 14 ∨ k = 15 ∨ k = 16) with rfl | rfl | rfl | rfl | rfl | rfl | rfl | rfl | rfl | rfl | rfl | rfl | rfl | rfl | rfl | rfl | rfl <;> rfl
  · unfold mI upd
    rw [hz0_hi (by omega), if_neg (by omega), if_neg (by omega), if_neg (by omega), if_neg (by omega), if_neg (by omega), if_neg (by omega), if_neg (by omega), if_neg (by omega), if_neg (by omega)]
    rfl

set_option maxHeartbeats 4000000 in
set_option maxRecDepth 100000 in
theorem c_X0_init (l : Launch) (G : vC) (a : Nat) (lob : Bool) : Ct l G yX0_init cX0_init 2 none ({ frames := 1, cells := 2, slots := 10, locals := 14 } : Room) [.ref (a), .int (jI (bI (lob = true)))] (([(a, .inr (0, [.int 0, .null, .null]))] : va_W)) (fun v u => v = none ∧ ∃ b : Nat → Nat, b 0 = a ∧ u = bB G b lob (fun _ => 0) (fun _ => 0)) := by
  refine Ct.of (by decide) (Nat.le_of_ble_eq_true rfl) (fun X hX hR => ?_)
  refine V.toLv (lv' := [(0, .ref a), (1, .int (jI (bI (lob = true))))]) rfl ?_
  refine V_aload_n hX dX0_init_0 0 rfl ?_
  refine V_objInit hX dX0_init_1 wo_X0_3 (by decide) (Nat.le_of_ble_eq_true rfl) ?_
  refine V_aload_n hX dX0_init_4 0 rfl ?_
  refine V_iconst hX dX0_init_5 ?_
  refine V_newaf (N := 4) (k' := 1) (n' := 4) hX (by decide) (Nat.le_of_ble_eq_true rfl) (Nat.le_of_ble_eq_true rfl) dX0_init_6 rfl rfl (fun q1 => ?_)
  refine V.wd (w' := ([(a, .inr (0, [.int 0, .null, .null]))] : va_W) ++ (([(q1, .inl (G.2.2.1, 4, .inr (.inr (.inl (fun _ => 0)))))] : va_W))) rfl ?_
  refine V_putF (w' := ([(a, .inr (0, [.int 0, .ref (q1), .null]))] : va_W) ++ (([(q1, .inl (G.2.2.1, 4, .inr (.inr (.inl (fun _ => 0)))))] : va_W))) hX cbX0 1 0 (by decide) wf_X0_9 rfl rfl rfl rfl rfl rfl rfl rfl (Nat.le_of_ble_eq_true rfl) dX0_init_8 rfl ?_
  refine V_aload_n hX dX0_init_11 0 rfl ?_
  refine V_bipush hX dX0_init_12 (by decide) ?_
  refine V_newai (N := 6) (k' := 2) (n' := 10) hX (by decide) (Nat.le_of_ble_eq_true rfl) (Nat.le_of_ble_eq_true rfl) dX0_init_14 rfl rfl (fun q2 => ?_)
  refine V.wd (w' := ([(a, .inr (0, [.int 0, .ref (q1), .null]))] : va_W) ++ (([(q1, .inl (G.2.2.1, 4, .inr (.inr (.inl (fun _ => 0)))))] : va_W) ++ (([(q2, .inl (G.2.1, 6, .inl (fun _ => 0)))] : va_W)))) rfl ?_
  refine V_putF (w' := ([(a, .inr (0, [.int 0, .ref (q1), .ref (q2)]))] : va_W) ++ (([(q1, .inl (G.2.2.1, 4, .inr (.inr (.inl (fun _ => 0)))))] : va_W) ++ (([(q2, .inl (G.2.1, 6, .inl (fun _ => 0)))] : va_W)))) hX cbX0 2 0 (by decide) wf_X0_15 rfl rfl rfl rfl rfl rfl rfl rfl (Nat.le_of_ble_eq_true rfl) dX0_init_16 rfl ?_
  refine V_aload_n hX dX0_init_19 0 rfl ?_
  refine V_iload_n hX dX0_init_20 1 rfl ?_
  refine V_putF (w' := ([(a, .inr (0, [.int (jI (bI (lob = true))), .ref (q1), .ref (q2)]))] : va_W) ++ (([(q1, .inl (G.2.2.1, 4, .inr (.inr (.inl (fun _ => 0)))))] : va_W) ++ (([(q2, .inl (G.2.1, 6, .inl (fun _ => 0)))] : va_W)))) hX cbX0 0 0 (by decide) wf_X0_19 rfl rfl rfl rfl rfl rfl (nb_bI _) (fits_bI _) (Nat.le_of_ble_eq_true rfl) dX0_init_21 rfl ?_
  refine V.wd (w' := bB G (ad11 a q1 q2 q2 q2 q2 q2 q2 q2 q2 q2) lob (fun _ => 0) (fun _ => 0)) (by unfold bB; rw [bW_0]; rfl) ?_
  exact V_vret hX hR dX0_init_24 ⟨rfl, _, rfl, rfl⟩

set_option maxHeartbeats 4000000 in
set_option maxRecDepth 100000 in
theorem c_X3_init (l : Launch) (G : vC) (a : Nat)  : Ct l G yX3_init cX3_init 1 none ({ frames := 1, cells := 4, slots := 150, locals := 14 } : Room) [.ref (a)] (([(a, .inr (3, [.null, .null, .null, .null, .int 0, .int 0, .int 0]))] : va_W)) (fun v u => v = none ∧ ∃ b : Nat → Nat, b 0 = a ∧ u = sB G b (fun _ => 0) (fun _ => 0) (fun _ => 0) (fun _ => 0) 0 0 0) := by
  refine Ct.of (by decide) (Nat.le_of_ble_eq_true rfl) (fun X hX hR => ?_)
  refine V.toLv (lv' := [(0, .ref a)]) rfl ?_
  refine V_aload_n hX dX3_init_0 0 rfl ?_
  refine V_objInit hX dX3_init_1 wo_X3_3 (by decide) (Nat.le_of_ble_eq_true rfl) ?_
  refine V_aload_n hX dX3_init_4 0 rfl ?_
  refine V_bipush hX dX3_init_5 (by decide) ?_
  refine V_newac (N := 60) (k' := 1) (n' := 60) hX (by decide) (Nat.le_of_ble_eq_true rfl) (Nat.le_of_ble_eq_true rfl) dX3_init_7 rfl rfl (fun q1 => ?_)
  refine V.wd (w' := ([(a, .inr (3, [.null, .null, .null, .null, .int 0, .int 0, .int 0]))] : va_W) ++ (([(q1, .inl (G.2.2.2.1, 60, .inl (fun _ => 0)))] : va_W))) rfl ?_
  refine V_putF (w' := ([(a, .inr (3, [.ref (q1), .null, .null, .null, .int 0, .int 0, .int 0]))] : va_W) ++ (([(q1, .inl (G.2.2.2.1, 60, .inl (fun _ => 0)))] : va_W))) hX cbX3 0 0 (by decide) wf_X3_9 rfl rfl rfl rfl rfl rfl rfl rfl (Nat.le_of_ble_eq_true rfl) dX3_init_9 rfl ?_
  refine V_aload_n hX dX3_init_12 0 rfl ?_
  refine V_bipush hX dX3_init_13 (by decide) ?_
  refine V_newai (N := 30) (k' := 2) (n' := 90) hX (by decide) (Nat.le_of_ble_eq_true rfl) (Nat.le_of_ble_eq_true rfl) dX3_init_15 rfl rfl (fun q2 => ?_)
  refine V.wd (w' := ([(a, .inr (3, [.ref (q1), .null, .null, .null, .int 0, .int 0, .int 0]))] : va_W) ++ (([(q1, .inl (G.2.2.2.1, 60, .inl (fun _ => 0)))] : va_W) ++ (([(q2, .inl (G.2.1, 30, .inl (fun _ => 0)))] : va_W)))) rfl ?_
  refine V_putF (w' := ([(a, .inr (3, [.ref (q1), .ref (q2), .null, .null, .int 0, .int 0, .int 0]))] : va_W) ++ (([(q1, .inl (G.2.2.2.1, 60, .inl (fun _ => 0)))] : va_W) ++ (([(q2, .inl (G.2.1, 30, .inl (fun _ => 0)))] : va_W)))) hX cbX3 1 0 (by decide) wf_X3_15 rfl rfl rfl rfl rfl rfl rfl rfl (Nat.le_of_ble_eq_true rfl) dX3_init_17 rfl ?_
  refine V_aload_n hX dX3_init_20 0 rfl ?_
  refine V_bipush hX dX3_init_21 (by decide) ?_
  refine V_newai (N := 30) (k' := 3) (n' := 120) hX (by decide) (Nat.le_of_ble_eq_true rfl) (Nat.le_of_ble_eq_true rfl) dX3_init_23 rfl rfl (fun q3 => ?_)
  refine V.wd (w' := ([(a, .inr (3, [.ref (q1), .ref (q2), .null, .null, .int 0, .int 0, .int 0]))] : va_W) ++ (([(q1, .inl (G.2.2.2.1, 60, .inl (fun _ => 0)))] : va_W) ++ (([(q2, .inl (G.2.1, 30, .inl (fun _ => 0)))] : va_W) ++ (([(q3, .inl (G.2.1, 30, .inl (fun _ => 0)))] : va_W))))) rfl ?_
  refine V_putF (w' := ([(a, .inr (3, [.ref (q1), .ref (q2), .ref (q3), .null, .int 0, .int 0, .int 0]))] : va_W) ++ (([(q1, .inl (G.2.2.2.1, 60, .inl (fun _ => 0)))] : va_W) ++ (([(q2, .inl (G.2.1, 30, .inl (fun _ => 0)))] : va_W) ++ (([(q3, .inl (G.2.1, 30, .inl (fun _ => 0)))] : va_W))))) hX cbX3 2 0 (by decide) wf_X3_19 rfl rfl rfl rfl rfl rfl rfl rfl (Nat.le_of_ble_eq_true rfl) dX3_init_25 rfl ?_
  refine V_aload_n hX dX3_init_28 0 rfl ?_
  refine V_bipush hX dX3_init_29 (by decide) ?_
  refine V_newai (N := 30) (k' := 4) (n' := 150) hX (by decide) (Nat.le_of_ble_eq_true rfl) (Nat.le_of_ble_eq_true rfl) dX3_init_31 rfl rfl (fun q4 => ?_)
  refine V.wd (w' := ([(a, .inr (3, [.ref (q1), .ref (q2), .ref (q3), .null, .int 0, .int 0, .int 0]))] : va_W) ++ (([(q1, .inl (G.2.2.2.1, 60, .inl (fun _ => 0)))] : va_W) ++ (([(q2, .inl (G.2.1, 30, .inl (fun _ => 0)))] : va_W) ++ (([(q3, .inl (G.2.1, 30, .inl (fun _ => 0)))] : va_W) ++ (([(q4, .inl (G.2.1, 30, .inl (fun _ => 0)))] : va_W)))))) rfl ?_
  refine V_putF (w' := ([(a, .inr (3, [.ref (q1), .ref (q2), .ref (q3), .ref (q4), .int 0, .int 0, .int 0]))] : va_W) ++ (([(q1, .inl (G.2.2.2.1, 60, .inl (fun _ => 0)))] : va_W) ++ (([(q2, .inl (G.2.1, 30, .inl (fun _ => 0)))] : va_W) ++ (([(q3, .inl (G.2.1, 30, .inl (fun _ => 0)))] : va_W) ++ (([(q4, .inl (G.2.1, 30, .inl (fun _ => 0)))] : va_W)))))) hX cbX3 3 0 (by decide) wf_X3_22 rfl rfl rfl rfl rfl rfl rfl rfl (Nat.le_of_ble_eq_true rfl) dX3_init_33 rfl ?_
  refine V.wd (w' := sB G (ad11 a q1 q2 q3 q4 q4 q4 q4 q4 q4 q4) (fun _ => 0) (fun _ => 0) (fun _ => 0) (fun _ => 0) 0 0 0) rfl ?_
  exact V_vret hX hR dX3_init_36 ⟨rfl, _, rfl, rfl⟩

theorem V.fno {X : vX} {l : Launch} {G : vC} {y : MethodName} {cc : ByteArray} {R : Room} {nL k n pc : Nat} {w : va_W} {lv : List (Nat × Value)} {st : List Value} (hX : VS X l G y cc R nL) (q : Nat) {a m : Nat} {cA : ClassId} {f g : Nat → Option Nat} (he : w[q]? = some (a, .inl (cA, m, .inr (.inr (.inr (.inr f)))))) (hfg : ∀ j, j < m → f j = g j) {w' : va_W} (hw : w.set q (a, .inl (cA, m, .inr (.inr (.inr (.inr g))))) = w') (kk : V X k n w' lv pc st) : V X k n w lv pc st := by
  subst hw
  obtain ⟨p0, e0, s0, m0, args0, below0, meth0, c0, A0, Q0, rfl, hx, hb, hml, hown, hK, hA, hlocks, hnm⟩ := hX
  intro H locs ls hP hD hS hl
  have hc := hP q _ he
  have e : vp_cell cA (m, .inr (.inr (.inr (.inr f)))) = vp_cell cA (m, .inr (.inr (.inr (.inr g)))) := by
    show arrV cA m (fun j => va_rf (f j)) = arrV cA m (fun j => va_rf (g j))
    unfold arrV
    first
      | (simp only []; congr 1; apply Array.ext'; simp; intro j hj; rw [hfg j hj])
      | (simp only []; congr 1; apply Array.ext'; simp; intro j hj; exact congrArg va_rf (hfg j hj))
      | (congr 1; ext j h1 h2 <;> simp_all)
      | (simp [hfg]; done)
  refine kk H locs ls (hP.set hD he ?_ (fun _ _ => rfl)) (hD.set he) hS hl
  show H[a]? = some (vp_cell cA (m, .inr (.inr (.inr (.inr g)))))
  rw [← e]
  exact hc
def qd4 (a b c d : Nat → Nat) : Nat → Nat → Nat := fun n => match n with
  | 0 => a
  | 1 => b
  | 2 => c
  | _ => d

set_option maxHeartbeats 4000000 in
set_option maxRecDepth 100000 in
theorem c_X2_init (l : Launch) (G : vC) (a : Nat)  : Ct l G yX2_init cX2_init 2 none ({ frames := 2, cells := 45, slots := 632, locals := 35 } : Room) [.ref (a)] (([(a, .inr (2, [.null, .int 0]))] : va_W)) (fun v u => v = none ∧ ∃ (p : Nat → Nat) (q : Nat → Nat → Nat), p 0 = a ∧ u = pW G p q (fun _ => hz0) 0) := by
  refine Ct.of (by decide) (Nat.le_of_ble_eq_true rfl) (fun X hX hR => ?_)
  refine V.toLv (lv' := [(0, .ref a)]) rfl ?_
  refine V_aload_n hX dX2_init_0 0 rfl ?_
  refine V_objInit hX dX2_init_1 wo_X2_3 (by decide) (Nat.le_of_ble_eq_true rfl) ?_
  refine V_aload_n hX dX2_init_4 0 rfl ?_
  refine V_iconst hX dX2_init_5 ?_
  refine V_newq (N := 4) (k' := 1) (n' := 4) hX (by decide) wk_X2_9 (Nat.le_of_ble_eq_true rfl) (Nat.le_of_ble_eq_true rfl) dX2_init_6 rfl rfl (fun q1 => ?_)
  refine V.wd (w' := ([(a, .inr (2, [.null, .int 0]))] : va_W) ++ (([(q1, .inl (G.2.2.2.2, 4, .inr (.inr (.inr (.inr (fun _ => none))))))] : va_W))) rfl ?_
  refine V_putF (w' := ([(a, .inr (2, [.ref (q1), .int 0]))] : va_W) ++ (([(q1, .inl (G.2.2.2.2, 4, .inr (.inr (.inr (.inr (fun _ => none))))))] : va_W))) hX cbX2 0 0 (by decide) wf_X2_11 rfl rfl rfl rfl rfl rfl rfl rfl (Nat.le_of_ble_eq_true rfl) dX2_init_9 rfl ?_
  refine V_iconst hX dX2_init_12 ?_
  refine V_istore_n (i := 1) (lv' := [(1, .int (jI 0)), (0, .ref (a))]) hX dX2_init_13 rfl (by decide) rfl ?_
  refine V_iload_n hX dX2_init_14 0 rfl ?_
  refine V_iconst hX dX2_init_15 ?_
  refine V_icmp_ge (tgt := 38) hX dX2_init_16 (by decide) (by decide) (by decide) (fun c2 => absurd c2 (by decide)) (fun c2 => ?_)
  refine V_aload_n hX dX2_init_19 1 rfl ?_
  refine V_get (v := .ref (q1)) hX cbX2 0 0 (by decide) wf_X2_11 rfl rfl rfl rfl dX2_init_20 ?_
  refine V_iload_n hX dX2_init_23 0 rfl ?_
  refine V_new (k' := 2) (n' := 21) (fs := [.null, .null, .null, .null, .null, .null, .null, .null, .null, .null, .int 0, .int 0, .int 0, .int 0, .int 0, .int 0, .int 0]) hX cbX1 wk_X2_9 (by decide +kernel) (by decide +kernel) (by decide) (Nat.le_of_ble_eq_true rfl) (Nat.le_of_ble_eq_true rfl) dX2_init_24 rfl rfl (fun q3 => ?_)
  refine V.wd (w' := ([(a, .inr (2, [.ref (q1), .int 0]))] : va_W) ++ (([(q1, .inl (G.2.2.2.2, 4, .inr (.inr (.inr (.inr (fun _ => none))))))] : va_W) ++ (([(q3, .inr (1, [.null, .null, .null, .null, .null, .null, .null, .null, .null, .null, .int 0, .int 0, .int 0, .int 0, .int 0, .int 0, .int 0]))] : va_W)))) rfl ?_
  refine V_dup hX dX2_init_27 rfl ?_
  refine V_rIN (st := [.ref (q3), .int (jI 0), .ref (q1)]) hX wc_X2_17 (c_X1_init l G q3 ) (Nat.le_of_ble_eq_true rfl |> fun z => ⟨z, Nat.le_of_ble_eq_true rfl⟩) ⟨Nat.le_of_ble_eq_true rfl, Nat.le_of_ble_eq_true rfl⟩ rfl rfl (Nat.le_of_ble_eq_true rfl) dX2_init_28 (([(a, .inr (2, [.ref (q1), .int 0]))] : va_W) ++ (([(q1, .inl (G.2.2.2.2, 4, .inr (.inr (.inr (.inr (fun _ => none))))))] : va_W))) [] rfl (fun v4 u5 hp6 => ?_)
  obtain ⟨rfl, h9, rfl, rfl⟩ := hp6
  refine V.wd (w' := ([(a, .inr (2, [.ref (q1), .int 0]))] : va_W) ++ (([(q1, .inl (G.2.2.2.2, 4, .inr (.inr (.inr (.inr (fun _ => none))))))] : va_W) ++ (hB G h9 hz0))) (by simp only [List.append_assoc, List.nil_append, List.append_nil]) ?_
  refine V_aast (i0 := 0) (w' := ([(a, .inr (2, [.ref (q1), .int 0]))] : va_W) ++ (([(q1, .inl (G.2.2.2.2, 4, .inr (.inr (.inr (.inr (va_up (fun _ => none) 0 (some (h9 0))))))))] : va_W) ++ (hB G h9 hz0))) hX 1 2 rfl rfl (by decide) (by decide) (by decide) rfl dX2_init_31 rfl ?_
  refine V_iinc (b := 1) (lv' := [(1, .int (jI 1)), (0, .ref (a))]) hX dX2_init_32 0 rfl rfl (by decide) rfl ?_
  refine V_goto (tgt := 14) hX dX2_init_35 (by decide) ?_
  refine V_iload_n hX dX2_init_14 0 rfl ?_
  refine V_iconst hX dX2_init_15 ?_
  refine V_icmp_ge (tgt := 38) hX dX2_init_16 (by decide) (by decide) (by decide) (fun c11 => absurd c11 (by decide)) (fun c11 => ?_)
  refine V_aload_n hX dX2_init_19 1 rfl ?_
  refine V_get (v := .ref (q1)) hX cbX2 0 0 (by decide) wf_X2_11 rfl rfl rfl rfl dX2_init_20 ?_
  refine V_iload_n hX dX2_init_23 0 rfl ?_
  refine V_new (k' := 13) (n' := 178) (fs := [.null, .null, .null, .null, .null, .null, .null, .null, .null, .null, .int 0, .int 0, .int 0, .int 0, .int 0, .int 0, .int 0]) hX cbX1 wk_X2_9 (by decide +kernel) (by decide +kernel) (by decide) (Nat.le_of_ble_eq_true rfl) (Nat.le_of_ble_eq_true rfl) dX2_init_24 rfl rfl (fun q12 => ?_)
  refine V.wd (w' := ([(a, .inr (2, [.ref (q1), .int 0]))] : va_W) ++ (([(q1, .inl (G.2.2.2.2, 4, .inr (.inr (.inr (.inr (va_up (fun _ => none) 0 (some (h9 0))))))))] : va_W) ++ (hB G h9 hz0 ++ (([(q12, .inr (1, [.null, .null, .null, .null, .null, .null, .null, .null, .null, .null, .int 0, .int 0, .int 0, .int 0, .int 0, .int 0, .int 0]))] : va_W))))) (by simp only [List.append_assoc, List.nil_append, List.append_nil]) ?_
  refine V_dup hX dX2_init_27 rfl ?_
  refine V_rIN (st := [.ref (q12), .int (jI 1), .ref (q1)]) hX wc_X2_17 (c_X1_init l G q12 ) (Nat.le_of_ble_eq_true rfl |> fun z => ⟨z, Nat.le_of_ble_eq_true rfl⟩) ⟨Nat.le_of_ble_eq_true rfl, Nat.le_of_ble_eq_true rfl⟩ rfl rfl (Nat.le_of_ble_eq_true rfl) dX2_init_28 (([(a, .inr (2, [.ref (q1), .int 0]))] : va_W) ++ (([(q1, .inl (G.2.2.2.2, 4, .inr (.inr (.inr (.inr (va_up (fun _ => none) 0 (some (h9 0))))))))] : va_W) ++ (hB G h9 hz0))) [] rfl (fun v13 u14 hp15 => ?_)
  obtain ⟨rfl, h18, rfl, rfl⟩ := hp15
  refine V.wd (w' := ([(a, .inr (2, [.ref (q1), .int 0]))] : va_W) ++ (([(q1, .inl (G.2.2.2.2, 4, .inr (.inr (.inr (.inr (va_up (fun _ => none) 0 (some (h9 0))))))))] : va_W) ++ (hB G h9 hz0 ++ (hB G h18 hz0)))) (by simp only [List.append_assoc, List.nil_append, List.append_nil]) ?_
  refine V_aast (i0 := 1) (w' := ([(a, .inr (2, [.ref (q1), .int 0]))] : va_W) ++ (([(q1, .inl (G.2.2.2.2, 4, .inr (.inr (.inr (.inr (va_up (va_up (fun _ => none) 0 (some (h9 0))) 1 (some (h18 0))))))))] : va_W) ++ (hB G h9 hz0 ++ (hB G h18 hz0)))) hX 1 13 rfl rfl (by decide) (by decide) (by decide) rfl dX2_init_31 rfl ?_
  refine V_iinc (b := 2) (lv' := [(1, .int (jI 2)), (0, .ref (a))]) hX dX2_init_32 0 rfl rfl (by decide) rfl ?_
  refine V_goto (tgt := 14) hX dX2_init_35 (by decide) ?_
  refine V_iload_n hX dX2_init_14 0 rfl ?_
  refine V_iconst hX dX2_init_15 ?_
  refine V_icmp_ge (tgt := 38) hX dX2_init_16 (by decide) (by decide) (by decide) (fun c20 => absurd c20 (by decide)) (fun c20 => ?_)
  refine V_aload_n hX dX2_init_19 1 rfl ?_
  refine V_get (v := .ref (q1)) hX cbX2 0 0 (by decide) wf_X2_11 rfl rfl rfl rfl dX2_init_20 ?_
  refine V_iload_n hX dX2_init_23 0 rfl ?_
  refine V_new (k' := 24) (n' := 335) (fs := [.null, .null, .null, .null, .null, .null, .null, .null, .null, .null, .int 0, .int 0, .int 0, .int 0, .int 0, .int 0, .int 0]) hX cbX1 wk_X2_9 (by decide +kernel) (by decide +kernel) (by decide) (Nat.le_of_ble_eq_true rfl) (Nat.le_of_ble_eq_true rfl) dX2_init_24 rfl rfl (fun q21 => ?_)
  refine V.wd (w' := ([(a, .inr (2, [.ref (q1), .int 0]))] : va_W) ++ (([(q1, .inl (G.2.2.2.2, 4, .inr (.inr (.inr (.inr (va_up (va_up (fun _ => none) 0 (some (h9 0))) 1 (some (h18 0))))))))] : va_W) ++ (hB G h9 hz0 ++ (hB G h18 hz0 ++ (([(q21, .inr (1, [.null, .null, .null, .null, .null, .null, .null, .null, .null, .null, .int 0, .int 0, .int 0, .int 0, .int 0, .int 0, .int 0]))] : va_W)))))) (by simp only [List.append_assoc, List.nil_append, List.append_nil]) ?_
  refine V_dup hX dX2_init_27 rfl ?_
  refine V_rIN (st := [.ref (q21), .int (jI 2), .ref (q1)]) hX wc_X2_17 (c_X1_init l G q21 ) (Nat.le_of_ble_eq_true rfl |> fun z => ⟨z, Nat.le_of_ble_eq_true rfl⟩) ⟨Nat.le_of_ble_eq_true rfl, Nat.le_of_ble_eq_true rfl⟩ rfl rfl (Nat.le_of_ble_eq_true rfl) dX2_init_28 (([(a, .inr (2, [.ref (q1), .int 0]))] : va_W) ++ (([(q1, .inl (G.2.2.2.2, 4, .inr (.inr (.inr (.inr (va_up (va_up (fun _ => none) 0 (some (h9 0))) 1 (some (h18 0))))))))] : va_W) ++ (hB G h9 hz0 ++ (hB G h18 hz0)))) [] rfl (fun v22 u23 hp24 => ?_)
  obtain ⟨rfl, h27, rfl, rfl⟩ := hp24
  refine V.wd (w' := ([(a, .inr (2, [.ref (q1), .int 0]))] : va_W) ++ (([(q1, .inl (G.2.2.2.2, 4, .inr (.inr (.inr (.inr (va_up (va_up (fun _ => none) 0 (some (h9 0))) 1 (some (h18 0))))))))] : va_W) ++ (hB G h9 hz0 ++ (hB G h18 hz0 ++ (hB G h27 hz0))))) (by simp only [List.append_assoc, List.nil_append, List.append_nil]) ?_
  refine V_aast (i0 := 2) (w' := ([(a, .inr (2, [.ref (q1), .int 0]))] : va_W) ++ (([(q1, .inl (G.2.2.2.2, 4, .inr (.inr (.inr (.inr (va_up (va_up (va_up (fun _ => none) 0 (some (h9 0))) 1 (some (h18 0))) 2 (some (h27 0))))))))] : va_W) ++ (hB G h9 hz0 ++ (hB G h18 hz0 ++ (hB G h27 hz0))))) hX 1 24 rfl rfl (by decide) (by decide) (by decide) rfl dX2_init_31 rfl ?_
  refine V_iinc (b := 3) (lv' := [(1, .int (jI 3)), (0, .ref (a))]) hX dX2_init_32 0 rfl rfl (by decide) rfl ?_
  refine V_goto (tgt := 14) hX dX2_init_35 (by decide) ?_
  refine V_iload_n hX dX2_init_14 0 rfl ?_
  refine V_iconst hX dX2_init_15 ?_
  refine V_icmp_ge (tgt := 38) hX dX2_init_16 (by decide) (by decide) (by decide) (fun c29 => absurd c29 (by decide)) (fun c29 => ?_)
  refine V_aload_n hX dX2_init_19 1 rfl ?_
  refine V_get (v := .ref (q1)) hX cbX2 0 0 (by decide) wf_X2_11 rfl rfl rfl rfl dX2_init_20 ?_
  refine V_iload_n hX dX2_init_23 0 rfl ?_
  refine V_new (k' := 35) (n' := 492) (fs := [.null, .null, .null, .null, .null, .null, .null, .null, .null, .null, .int 0, .int 0, .int 0, .int 0, .int 0, .int 0, .int 0]) hX cbX1 wk_X2_9 (by decide +kernel) (by decide +kernel) (by decide) (Nat.le_of_ble_eq_true rfl) (Nat.le_of_ble_eq_true rfl) dX2_init_24 rfl rfl (fun q30 => ?_)
  refine V.wd (w' := ([(a, .inr (2, [.ref (q1), .int 0]))] : va_W) ++ (([(q1, .inl (G.2.2.2.2, 4, .inr (.inr (.inr (.inr (va_up (va_up (va_up (fun _ => none) 0 (some (h9 0))) 1 (some (h18 0))) 2 (some (h27 0))))))))] : va_W) ++ (hB G h9 hz0 ++ (hB G h18 hz0 ++ (hB G h27 hz0 ++ (([(q30, .inr (1, [.null, .null, .null, .null, .null, .null, .null, .null, .null, .null, .int 0, .int 0, .int 0, .int 0, .int 0, .int 0, .int 0]))] : va_W))))))) (by simp only [List.append_assoc, List.nil_append, List.append_nil]) ?_
  refine V_dup hX dX2_init_27 rfl ?_
  refine V_rIN (st := [.ref (q30), .int (jI 3), .ref (q1)]) hX wc_X2_17 (c_X1_init l G q30 ) (Nat.le_of_ble_eq_true rfl |> fun z => ⟨z, Nat.le_of_ble_eq_true rfl⟩) ⟨Nat.le_of_ble_eq_true rfl, Nat.le_of_ble_eq_true rfl⟩ rfl rfl (Nat.le_of_ble_eq_true rfl) dX2_init_28 (([(a, .inr (2, [.ref (q1), .int 0]))] : va_W) ++ (([(q1, .inl (G.2.2.2.2, 4, .inr (.inr (.inr (.inr (va_up (va_up (va_up (fun _ => none) 0 (some (h9 0))) 1 (some (h18 0))) 2 (some (h27 0))))))))] : va_W) ++ (hB G h9 hz0 ++ (hB G h18 hz0 ++ (hB G h27 hz0))))) [] rfl (fun v31 u32 hp33 => ?_)
  obtain ⟨rfl, h36, rfl, rfl⟩ := hp33
  refine V.wd (w' := ([(a, .inr (2, [.ref (q1), .int 0]))] : va_W) ++ (([(q1, .inl (G.2.2.2.2, 4, .inr (.inr (.inr (.inr (va_up (va_up (va_up (fun _ => none) 0 (some (h9 0))) 1 (some (h18 0))) 2 (some (h27 0))))))))] : va_W) ++ (hB G h9 hz0 ++ (hB G h18 hz0 ++ (hB G h27 hz0 ++ (hB G h36 hz0)))))) (by simp only [List.append_assoc, List.nil_append, List.append_nil]) ?_
  refine V_aast (i0 := 3) (w' := ([(a, .inr (2, [.ref (q1), .int 0]))] : va_W) ++ (([(q1, .inl (G.2.2.2.2, 4, .inr (.inr (.inr (.inr (va_up (va_up (va_up (va_up (fun _ => none) 0 (some (h9 0))) 1 (some (h18 0))) 2 (some (h27 0))) 3 (some (h36 0))))))))] : va_W) ++ (hB G h9 hz0 ++ (hB G h18 hz0 ++ (hB G h27 hz0 ++ (hB G h36 hz0)))))) hX 1 35 rfl rfl (by decide) (by decide) (by decide) rfl dX2_init_31 rfl ?_
  refine V_iinc (b := 4) (lv' := [(1, .int (jI 4)), (0, .ref (a))]) hX dX2_init_32 0 rfl rfl (by decide) rfl ?_
  refine V_goto (tgt := 14) hX dX2_init_35 (by decide) ?_
  refine V_iload_n hX dX2_init_14 0 rfl ?_
  refine V_iconst hX dX2_init_15 ?_
  refine V_icmp_ge (tgt := 38) hX dX2_init_16 (by decide) (by decide) (by decide) (fun c38 => ?_) (fun c38 => absurd c38 (by decide))
  refine V.fno hX 1 (g := fun i => some (qd4 h9 h18 h27 h36 i 0)) (w' := ([(a, .inr (2, [.ref (q1), .int 0]))] : va_W) ++ (([(q1, .inl (G.2.2.2.2, 4, .inr (.inr (.inr (.inr (fun i => some (qd4 h9 h18 h27 h36 i 0)))))))] : va_W) ++ (hB G h9 hz0 ++ (hB G h18 hz0 ++ (hB G h27 hz0 ++ (hB G h36 hz0)))))) rfl (fun j hj => by rcases (by omega : j = 0 ∨ j = 1 ∨ j = 2 ∨ j = 3) with rfl | rfl | rfl | rfl <;> rfl) rfl ?_
  refine V.wd (w' := pW G (ad11 a q1 q1 q1 q1 q1 q1 q1 q1 q1 q1) (qd4 h9 h18 h27 h36) (fun _ => hz0) 0) rfl ?_
  exact V_vret hX hR dX2_init_38 ⟨rfl, _, _, rfl, rfl⟩

set_option maxHeartbeats 4000000 in
set_option maxRecDepth 100000 in
theorem c_X4_init (l : Launch) (G : vC) (a : Nat)  : Ct l G yX4_init cX4_init 1 none ({ frames := 3, cells := 101, slots := 1445, locals := 56 } : Room) [.ref (a)] (([(a, .inr (4, [.null, .null, .null, .null, .null, .null, .null, .null, .int 0, .int 0, .int 0]))] : va_W)) (fun v u => v = none ∧ ∃ (no be tr sn p te b c : Nat → Nat) (q : Nat → Nat → Nat), u = oH a no be tr sn p te b c 0 (-5) (-5) ++ (hB G no hz0 ++ (hB G be hz0 ++ (hB G tr hz0 ++ (hB G sn hz0 ++ (pW G p q (fun _ => hz0) 0 ++ (sB G te (fun _ => 0) (fun _ => 0) (fun _ => 0) (fun _ => 0) 0 0 0 ++ (bB G b true (fun _ => 0) (fun _ => 0) ++ bB G c false (fun _ => 0) (fun _ => 0))))))))) := by
  refine Ct.of (by decide) (Nat.le_of_ble_eq_true rfl) (fun X hX hR => ?_)
  refine V.toLv (lv' := [(0, .ref a)]) rfl ?_
  refine V_aload_n hX dX4_init_0 0 rfl ?_
  refine V_objInit hX dX4_init_1 wo_X4_1 (by decide) (Nat.le_of_ble_eq_true rfl) ?_
  refine V_aload_n hX dX4_init_4 0 rfl ?_
  refine V_new (k' := 1) (n' := 17) (fs := [.null, .null, .null, .null, .null, .null, .null, .null, .null, .null, .int 0, .int 0, .int 0, .int 0, .int 0, .int 0, .int 0]) hX cbX1 wk_X4_7 (by decide +kernel) (by decide +kernel) (by decide) (Nat.le_of_ble_eq_true rfl) (Nat.le_of_ble_eq_true rfl) dX4_init_5 rfl rfl (fun q1 => ?_)
  refine V.wd (w' := ([(a, .inr (4, [.null, .null, .null, .null, .null, .null, .null, .null, .int 0, .int 0, .int 0]))] : va_W) ++ (([(q1, .inr (1, [.null, .null, .null, .null, .null, .null, .null, .null, .null, .null, .int 0, .int 0, .int 0, .int 0, .int 0, .int 0, .int 0]))] : va_W))) rfl ?_
  refine V_dup hX dX4_init_8 rfl ?_
  refine V_rIN (st := [.ref (q1), .ref (a)]) hX wc_X4_9 (c_X1_init l G q1 ) (Nat.le_of_ble_eq_true rfl |> fun z => ⟨z, Nat.le_of_ble_eq_true rfl⟩) ⟨Nat.le_of_ble_eq_true rfl, Nat.le_of_ble_eq_true rfl⟩ rfl rfl (Nat.le_of_ble_eq_true rfl) dX4_init_9 (([(a, .inr (4, [.null, .null, .null, .null, .null, .null, .null, .null, .int 0, .int 0, .int 0]))] : va_W)) [] rfl (fun v2 u3 hp4 => ?_)
  obtain ⟨rfl, h7, rfl, rfl⟩ := hp4
  refine V.wd (w' := ([(a, .inr (4, [.null, .null, .null, .null, .null, .null, .null, .null, .int 0, .int 0, .int 0]))] : va_W) ++ (hB G h7 hz0)) (by simp only [List.append_assoc, List.nil_append, List.append_nil]) ?_
  refine V_putF (w' := ([(a, .inr (4, [.ref (h7 0), .null, .null, .null, .null, .null, .null, .null, .int 0, .int 0, .int 0]))] : va_W) ++ (hB G h7 hz0)) hX cbX4 0 0 (by decide) wf_X4_10 rfl rfl rfl rfl rfl rfl rfl rfl (Nat.le_of_ble_eq_true rfl) dX4_init_12 rfl ?_
  refine V_aload_n hX dX4_init_15 0 rfl ?_
  refine V_new (k' := 12) (n' := 174) (fs := [.null, .null, .null, .null, .null, .null, .null, .null, .null, .null, .int 0, .int 0, .int 0, .int 0, .int 0, .int 0, .int 0]) hX cbX1 wk_X4_7 (by decide +kernel) (by decide +kernel) (by decide) (Nat.le_of_ble_eq_true rfl) (Nat.le_of_ble_eq_true rfl) dX4_init_16 rfl rfl (fun q9 => ?_)
  refine V.wd (w' := ([(a, .inr (4, [.ref (h7 0), .null, .null, .null, .null, .null, .null, .null, .int 0, .int 0, .int 0]))] : va_W) ++ (hB G h7 hz0 ++ (([(q9, .inr (1, [.null, .null, .null, .null, .null, .null, .null, .null, .null, .null, .int 0, .int 0, .int 0, .int 0, .int 0, .int 0, .int 0]))] : va_W)))) (by simp only [List.append_assoc, List.nil_append, List.append_nil]) ?_
  refine V_dup hX dX4_init_19 rfl ?_
  refine V_rIN (st := [.ref (q9), .ref (a)]) hX wc_X4_9 (c_X1_init l G q9 ) (Nat.le_of_ble_eq_true rfl |> fun z => ⟨z, Nat.le_of_ble_eq_true rfl⟩) ⟨Nat.le_of_ble_eq_true rfl, Nat.le_of_ble_eq_true rfl⟩ rfl rfl (Nat.le_of_ble_eq_true rfl) dX4_init_20 (([(a, .inr (4, [.ref (h7 0), .null, .null, .null, .null, .null, .null, .null, .int 0, .int 0, .int 0]))] : va_W) ++ (hB G h7 hz0)) [] rfl (fun v10 u11 hp12 => ?_)
  obtain ⟨rfl, h15, rfl, rfl⟩ := hp12
  refine V.wd (w' := ([(a, .inr (4, [.ref (h7 0), .null, .null, .null, .null, .null, .null, .null, .int 0, .int 0, .int 0]))] : va_W) ++ (hB G h7 hz0 ++ (hB G h15 hz0))) (by simp only [List.append_assoc, List.nil_append, List.append_nil]) ?_
  refine V_putF (w' := ([(a, .inr (4, [.ref (h7 0), .ref (h15 0), .null, .null, .null, .null, .null, .null, .int 0, .int 0, .int 0]))] : va_W) ++ (hB G h7 hz0 ++ (hB G h15 hz0))) hX cbX4 1 0 (by decide) wf_X4_16 rfl rfl rfl rfl rfl rfl rfl rfl (Nat.le_of_ble_eq_true rfl) dX4_init_23 rfl ?_
  refine V_aload_n hX dX4_init_26 0 rfl ?_
  refine V_new (k' := 23) (n' := 331) (fs := [.null, .null, .null, .null, .null, .null, .null, .null, .null, .null, .int 0, .int 0, .int 0, .int 0, .int 0, .int 0, .int 0]) hX cbX1 wk_X4_7 (by decide +kernel) (by decide +kernel) (by decide) (Nat.le_of_ble_eq_true rfl) (Nat.le_of_ble_eq_true rfl) dX4_init_27 rfl rfl (fun q17 => ?_)
  refine V.wd (w' := ([(a, .inr (4, [.ref (h7 0), .ref (h15 0), .null, .null, .null, .null, .null, .null, .int 0, .int 0, .int 0]))] : va_W) ++ (hB G h7 hz0 ++ (hB G h15 hz0 ++ (([(q17, .inr (1, [.null, .null, .null, .null, .null, .null, .null, .null, .null, .null, .int 0, .int 0, .int 0, .int 0, .int 0, .int 0, .int 0]))] : va_W))))) (by simp only [List.append_assoc, List.nil_append, List.append_nil]) ?_
  refine V_dup hX dX4_init_30 rfl ?_
  refine V_rIN (st := [.ref (q17), .ref (a)]) hX wc_X4_9 (c_X1_init l G q17 ) (Nat.le_of_ble_eq_true rfl |> fun z => ⟨z, Nat.le_of_ble_eq_true rfl⟩) ⟨Nat.le_of_ble_eq_true rfl, Nat.le_of_ble_eq_true rfl⟩ rfl rfl (Nat.le_of_ble_eq_true rfl) dX4_init_31 (([(a, .inr (4, [.ref (h7 0), .ref (h15 0), .null, .null, .null, .null, .null, .null, .int 0, .int 0, .int 0]))] : va_W) ++ (hB G h7 hz0 ++ (hB G h15 hz0))) [] rfl (fun v18 u19 hp20 => ?_)
  obtain ⟨rfl, h23, rfl, rfl⟩ := hp20
  refine V.wd (w' := ([(a, .inr (4, [.ref (h7 0), .ref (h15 0), .null, .null, .null, .null, .null, .null, .int 0, .int 0, .int 0]))] : va_W) ++ (hB G h7 hz0 ++ (hB G h15 hz0 ++ (hB G h23 hz0)))) (by simp only [List.append_assoc, List.nil_append, List.append_nil]) ?_
  refine V_putF (w' := ([(a, .inr (4, [.ref (h7 0), .ref (h15 0), .ref (h23 0), .null, .null, .null, .null, .null, .int 0, .int 0, .int 0]))] : va_W) ++ (hB G h7 hz0 ++ (hB G h15 hz0 ++ (hB G h23 hz0)))) hX cbX4 2 0 (by decide) wf_X4_19 rfl rfl rfl rfl rfl rfl rfl rfl (Nat.le_of_ble_eq_true rfl) dX4_init_34 rfl ?_
  refine V_aload_n hX dX4_init_37 0 rfl ?_
  refine V_new (k' := 34) (n' := 488) (fs := [.null, .null, .null, .null, .null, .null, .null, .null, .null, .null, .int 0, .int 0, .int 0, .int 0, .int 0, .int 0, .int 0]) hX cbX1 wk_X4_7 (by decide +kernel) (by decide +kernel) (by decide) (Nat.le_of_ble_eq_true rfl) (Nat.le_of_ble_eq_true rfl) dX4_init_38 rfl rfl (fun q25 => ?_)
  refine V.wd (w' := ([(a, .inr (4, [.ref (h7 0), .ref (h15 0), .ref (h23 0), .null, .null, .null, .null, .null, .int 0, .int 0, .int 0]))] : va_W) ++ (hB G h7 hz0 ++ (hB G h15 hz0 ++ (hB G h23 hz0 ++ (([(q25, .inr (1, [.null, .null, .null, .null, .null, .null, .null, .null, .null, .null, .int 0, .int 0, .int 0, .int 0, .int 0, .int 0, .int 0]))] : va_W)))))) (by simp only [List.append_assoc, List.nil_append, List.append_nil]) ?_
  refine V_dup hX dX4_init_41 rfl ?_
  refine V_rIN (st := [.ref (q25), .ref (a)]) hX wc_X4_9 (c_X1_init l G q25 ) (Nat.le_of_ble_eq_true rfl |> fun z => ⟨z, Nat.le_of_ble_eq_true rfl⟩) ⟨Nat.le_of_ble_eq_true rfl, Nat.le_of_ble_eq_true rfl⟩ rfl rfl (Nat.le_of_ble_eq_true rfl) dX4_init_42 (([(a, .inr (4, [.ref (h7 0), .ref (h15 0), .ref (h23 0), .null, .null, .null, .null, .null, .int 0, .int 0, .int 0]))] : va_W) ++ (hB G h7 hz0 ++ (hB G h15 hz0 ++ (hB G h23 hz0)))) [] rfl (fun v26 u27 hp28 => ?_)
  obtain ⟨rfl, h31, rfl, rfl⟩ := hp28
  refine V.wd (w' := ([(a, .inr (4, [.ref (h7 0), .ref (h15 0), .ref (h23 0), .null, .null, .null, .null, .null, .int 0, .int 0, .int 0]))] : va_W) ++ (hB G h7 hz0 ++ (hB G h15 hz0 ++ (hB G h23 hz0 ++ (hB G h31 hz0))))) (by simp only [List.append_assoc, List.nil_append, List.append_nil]) ?_
  refine V_putF (w' := ([(a, .inr (4, [.ref (h7 0), .ref (h15 0), .ref (h23 0), .ref (h31 0), .null, .null, .null, .null, .int 0, .int 0, .int 0]))] : va_W) ++ (hB G h7 hz0 ++ (hB G h15 hz0 ++ (hB G h23 hz0 ++ (hB G h31 hz0))))) hX cbX4 3 0 (by decide) wf_X4_22 rfl rfl rfl rfl rfl rfl rfl rfl (Nat.le_of_ble_eq_true rfl) dX4_init_45 rfl ?_
  refine V_aload_n hX dX4_init_48 0 rfl ?_
  refine V_new (k' := 45) (n' := 630) (fs := [.null, .int 0]) hX cbX2 wk_X4_25 (by decide +kernel) (by decide +kernel) (by decide) (Nat.le_of_ble_eq_true rfl) (Nat.le_of_ble_eq_true rfl) dX4_init_49 rfl rfl (fun q33 => ?_)
  refine V.wd (w' := ([(a, .inr (4, [.ref (h7 0), .ref (h15 0), .ref (h23 0), .ref (h31 0), .null, .null, .null, .null, .int 0, .int 0, .int 0]))] : va_W) ++ (hB G h7 hz0 ++ (hB G h15 hz0 ++ (hB G h23 hz0 ++ (hB G h31 hz0 ++ (([(q33, .inr (2, [.null, .int 0]))] : va_W))))))) (by simp only [List.append_assoc, List.nil_append, List.append_nil]) ?_
  refine V_dup hX dX4_init_52 rfl ?_
  refine V_rIN (st := [.ref (q33), .ref (a)]) hX wc_X4_27 (c_X2_init l G q33 ) (Nat.le_of_ble_eq_true rfl |> fun z => ⟨z, Nat.le_of_ble_eq_true rfl⟩) ⟨Nat.le_of_ble_eq_true rfl, Nat.le_of_ble_eq_true rfl⟩ rfl rfl (Nat.le_of_ble_eq_true rfl) dX4_init_53 (([(a, .inr (4, [.ref (h7 0), .ref (h15 0), .ref (h23 0), .ref (h31 0), .null, .null, .null, .null, .int 0, .int 0, .int 0]))] : va_W) ++ (hB G h7 hz0 ++ (hB G h15 hz0 ++ (hB G h23 hz0 ++ (hB G h31 hz0))))) [] rfl (fun v34 u35 hp36 => ?_)
  obtain ⟨rfl, p39, qq40, rfl, rfl⟩ := hp36
  refine V.wd (w' := ([(a, .inr (4, [.ref (h7 0), .ref (h15 0), .ref (h23 0), .ref (h31 0), .null, .null, .null, .null, .int 0, .int 0, .int 0]))] : va_W) ++ (hB G h7 hz0 ++ (hB G h15 hz0 ++ (hB G h23 hz0 ++ (hB G h31 hz0 ++ (pW G p39 qq40 (fun _ => hz0) 0)))))) (by simp only [List.append_assoc, List.nil_append, List.append_nil]) ?_
  refine V_putF (w' := ([(a, .inr (4, [.ref (h7 0), .ref (h15 0), .ref (h23 0), .ref (h31 0), .ref (p39 0), .null, .null, .null, .int 0, .int 0, .int 0]))] : va_W) ++ (hB G h7 hz0 ++ (hB G h15 hz0 ++ (hB G h23 hz0 ++ (hB G h31 hz0 ++ (pW G p39 qq40 (fun _ => hz0) 0)))))) hX cbX4 4 0 (by decide) wf_X4_28 rfl rfl rfl rfl rfl rfl rfl rfl (Nat.le_of_ble_eq_true rfl) dX4_init_56 rfl ?_
  refine V_aload_n hX dX4_init_59 0 rfl ?_
  refine V_new (k' := 91) (n' := 1269) (fs := [.null, .null, .null, .null, .int 0, .int 0, .int 0]) hX cbX3 wk_X4_32 (by decide +kernel) (by decide +kernel) (by decide) (Nat.le_of_ble_eq_true rfl) (Nat.le_of_ble_eq_true rfl) dX4_init_60 rfl rfl (fun q41 => ?_)
  refine V.wd (w' := ([(a, .inr (4, [.ref (h7 0), .ref (h15 0), .ref (h23 0), .ref (h31 0), .ref (p39 0), .null, .null, .null, .int 0, .int 0, .int 0]))] : va_W) ++ (hB G h7 hz0 ++ (hB G h15 hz0 ++ (hB G h23 hz0 ++ (hB G h31 hz0 ++ (pW G p39 qq40 (fun _ => hz0) 0 ++ (([(q41, .inr (3, [.null, .null, .null, .null, .int 0, .int 0, .int 0]))] : va_W)))))))) (by simp only [List.append_assoc, List.nil_append, List.append_nil]) ?_
  refine V_dup hX dX4_init_63 rfl ?_
  refine V_rIN (st := [.ref (q41), .ref (a)]) hX wc_X4_34 (c_X3_init l G q41 ) (Nat.le_of_ble_eq_true rfl |> fun z => ⟨z, Nat.le_of_ble_eq_true rfl⟩) ⟨Nat.le_of_ble_eq_true rfl, Nat.le_of_ble_eq_true rfl⟩ rfl rfl (Nat.le_of_ble_eq_true rfl) dX4_init_64 (([(a, .inr (4, [.ref (h7 0), .ref (h15 0), .ref (h23 0), .ref (h31 0), .ref (p39 0), .null, .null, .null, .int 0, .int 0, .int 0]))] : va_W) ++ (hB G h7 hz0 ++ (hB G h15 hz0 ++ (hB G h23 hz0 ++ (hB G h31 hz0 ++ (pW G p39 qq40 (fun _ => hz0) 0)))))) [] rfl (fun v42 u43 hp44 => ?_)
  obtain ⟨rfl, t47, rfl, rfl⟩ := hp44
  refine V.wd (w' := ([(a, .inr (4, [.ref (h7 0), .ref (h15 0), .ref (h23 0), .ref (h31 0), .ref (p39 0), .null, .null, .null, .int 0, .int 0, .int 0]))] : va_W) ++ (hB G h7 hz0 ++ (hB G h15 hz0 ++ (hB G h23 hz0 ++ (hB G h31 hz0 ++ (pW G p39 qq40 (fun _ => hz0) 0 ++ (sB G t47 (fun _ => 0) (fun _ => 0) (fun _ => 0) (fun _ => 0) 0 0 0))))))) (by simp only [List.append_assoc, List.nil_append, List.append_nil]) ?_
  refine V_putF (w' := ([(a, .inr (4, [.ref (h7 0), .ref (h15 0), .ref (h23 0), .ref (h31 0), .ref (p39 0), .ref (t47 0), .null, .null, .int 0, .int 0, .int 0]))] : va_W) ++ (hB G h7 hz0 ++ (hB G h15 hz0 ++ (hB G h23 hz0 ++ (hB G h31 hz0 ++ (pW G p39 qq40 (fun _ => hz0) 0 ++ (sB G t47 (fun _ => 0) (fun _ => 0) (fun _ => 0) (fun _ => 0) 0 0 0))))))) hX cbX4 5 0 (by decide) wf_X4_35 rfl rfl rfl rfl rfl rfl rfl rfl (Nat.le_of_ble_eq_true rfl) dX4_init_67 rfl ?_
  refine V_aload_n hX dX4_init_70 0 rfl ?_
  refine V_new (k' := 96) (n' := 1422) (fs := [.int 0, .null, .null]) hX cbX0 wk_X4_39 (by decide +kernel) (by decide +kernel) (by decide) (Nat.le_of_ble_eq_true rfl) (Nat.le_of_ble_eq_true rfl) dX4_init_71 rfl rfl (fun q49 => ?_)
  refine V.wd (w' := ([(a, .inr (4, [.ref (h7 0), .ref (h15 0), .ref (h23 0), .ref (h31 0), .ref (p39 0), .ref (t47 0), .null, .null, .int 0, .int 0, .int 0]))] : va_W) ++ (hB G h7 hz0 ++ (hB G h15 hz0 ++ (hB G h23 hz0 ++ (hB G h31 hz0 ++ (pW G p39 qq40 (fun _ => hz0) 0 ++ (sB G t47 (fun _ => 0) (fun _ => 0) (fun _ => 0) (fun _ => 0) 0 0 0 ++ (([(q49, .inr (0, [.int 0, .null, .null]))] : va_W))))))))) (by simp only [List.append_assoc, List.nil_append, List.append_nil]) ?_
  refine V_dup hX dX4_init_74 rfl ?_
  refine V_iconst hX dX4_init_75 ?_
  refine V_rIN (st := [.ref (q49), .ref (a)]) hX wc_X4_41 (c_X0_init l G q49 true) (Nat.le_of_ble_eq_true rfl |> fun z => ⟨z, Nat.le_of_ble_eq_true rfl⟩) ⟨Nat.le_of_ble_eq_true rfl, Nat.le_of_ble_eq_true rfl⟩ rfl rfl (Nat.le_of_ble_eq_true rfl) dX4_init_76 (([(a, .inr (4, [.ref (h7 0), .ref (h15 0), .ref (h23 0), .ref (h31 0), .ref (p39 0), .ref (t47 0), .null, .null, .int 0, .int 0, .int 0]))] : va_W) ++ (hB G h7 hz0 ++ (hB G h15 hz0 ++ (hB G h23 hz0 ++ (hB G h31 hz0 ++ (pW G p39 qq40 (fun _ => hz0) 0 ++ (sB G t47 (fun _ => 0) (fun _ => 0) (fun _ => 0) (fun _ => 0) 0 0 0))))))) [] rfl (fun v50 u51 hp52 => ?_)
  obtain ⟨rfl, b55, rfl, rfl⟩ := hp52
  refine V.wd (w' := ([(a, .inr (4, [.ref (h7 0), .ref (h15 0), .ref (h23 0), .ref (h31 0), .ref (p39 0), .ref (t47 0), .null, .null, .int 0, .int 0, .int 0]))] : va_W) ++ (hB G h7 hz0 ++ (hB G h15 hz0 ++ (hB G h23 hz0 ++ (hB G h31 hz0 ++ (pW G p39 qq40 (fun _ => hz0) 0 ++ (sB G t47 (fun _ => 0) (fun _ => 0) (fun _ => 0) (fun _ => 0) 0 0 0 ++ (bB G b55 true (fun _ => 0) (fun _ => 0))))))))) (by simp only [List.append_assoc, List.nil_append, List.append_nil]) ?_
  refine V_putF (w' := ([(a, .inr (4, [.ref (h7 0), .ref (h15 0), .ref (h23 0), .ref (h31 0), .ref (p39 0), .ref (t47 0), .ref (b55 0), .null, .int 0, .int 0, .int 0]))] : va_W) ++ (hB G h7 hz0 ++ (hB G h15 hz0 ++ (hB G h23 hz0 ++ (hB G h31 hz0 ++ (pW G p39 qq40 (fun _ => hz0) 0 ++ (sB G t47 (fun _ => 0) (fun _ => 0) (fun _ => 0) (fun _ => 0) 0 0 0 ++ (bB G b55 true (fun _ => 0) (fun _ => 0))))))))) hX cbX4 6 0 (by decide) wf_X4_44 rfl rfl rfl rfl rfl rfl rfl rfl (Nat.le_of_ble_eq_true rfl) dX4_init_79 rfl ?_
  refine V_aload_n hX dX4_init_82 0 rfl ?_
  refine V_new (k' := 99) (n' := 1435) (fs := [.int 0, .null, .null]) hX cbX0 wk_X4_39 (by decide +kernel) (by decide +kernel) (by decide) (Nat.le_of_ble_eq_true rfl) (Nat.le_of_ble_eq_true rfl) dX4_init_83 rfl rfl (fun q57 => ?_)
  refine V.wd (w' := ([(a, .inr (4, [.ref (h7 0), .ref (h15 0), .ref (h23 0), .ref (h31 0), .ref (p39 0), .ref (t47 0), .ref (b55 0), .null, .int 0, .int 0, .int 0]))] : va_W) ++ (hB G h7 hz0 ++ (hB G h15 hz0 ++ (hB G h23 hz0 ++ (hB G h31 hz0 ++ (pW G p39 qq40 (fun _ => hz0) 0 ++ (sB G t47 (fun _ => 0) (fun _ => 0) (fun _ => 0) (fun _ => 0) 0 0 0 ++ (bB G b55 true (fun _ => 0) (fun _ => 0) ++ (([(q57, .inr (0, [.int 0, .null, .null]))] : va_W)))))))))) (by simp only [List.append_assoc, List.nil_append, List.append_nil]) ?_
  refine V_dup hX dX4_init_86 rfl ?_
  refine V_iconst hX dX4_init_87 ?_
  refine V_rIN (st := [.ref (q57), .ref (a)]) hX wc_X4_41 (c_X0_init l G q57 false) (Nat.le_of_ble_eq_true rfl |> fun z => ⟨z, Nat.le_of_ble_eq_true rfl⟩) ⟨Nat.le_of_ble_eq_true rfl, Nat.le_of_ble_eq_true rfl⟩ rfl rfl (Nat.le_of_ble_eq_true rfl) dX4_init_88 (([(a, .inr (4, [.ref (h7 0), .ref (h15 0), .ref (h23 0), .ref (h31 0), .ref (p39 0), .ref (t47 0), .ref (b55 0), .null, .int 0, .int 0, .int 0]))] : va_W) ++ (hB G h7 hz0 ++ (hB G h15 hz0 ++ (hB G h23 hz0 ++ (hB G h31 hz0 ++ (pW G p39 qq40 (fun _ => hz0) 0 ++ (sB G t47 (fun _ => 0) (fun _ => 0) (fun _ => 0) (fun _ => 0) 0 0 0 ++ (bB G b55 true (fun _ => 0) (fun _ => 0))))))))) [] rfl (fun v58 u59 hp60 => ?_)
  obtain ⟨rfl, b63, rfl, rfl⟩ := hp60
  refine V.wd (w' := ([(a, .inr (4, [.ref (h7 0), .ref (h15 0), .ref (h23 0), .ref (h31 0), .ref (p39 0), .ref (t47 0), .ref (b55 0), .null, .int 0, .int 0, .int 0]))] : va_W) ++ (hB G h7 hz0 ++ (hB G h15 hz0 ++ (hB G h23 hz0 ++ (hB G h31 hz0 ++ (pW G p39 qq40 (fun _ => hz0) 0 ++ (sB G t47 (fun _ => 0) (fun _ => 0) (fun _ => 0) (fun _ => 0) 0 0 0 ++ (bB G b55 true (fun _ => 0) (fun _ => 0) ++ (bB G b63 false (fun _ => 0) (fun _ => 0)))))))))) (by simp only [List.append_assoc, List.nil_append, List.append_nil]) ?_
  refine V_putF (w' := ([(a, .inr (4, [.ref (h7 0), .ref (h15 0), .ref (h23 0), .ref (h31 0), .ref (p39 0), .ref (t47 0), .ref (b55 0), .ref (b63 0), .int 0, .int 0, .int 0]))] : va_W) ++ (hB G h7 hz0 ++ (hB G h15 hz0 ++ (hB G h23 hz0 ++ (hB G h31 hz0 ++ (pW G p39 qq40 (fun _ => hz0) 0 ++ (sB G t47 (fun _ => 0) (fun _ => 0) (fun _ => 0) (fun _ => 0) 0 0 0 ++ (bB G b55 true (fun _ => 0) (fun _ => 0) ++ (bB G b63 false (fun _ => 0) (fun _ => 0)))))))))) hX cbX4 7 0 (by decide) wf_X4_48 rfl rfl rfl rfl rfl rfl rfl rfl (Nat.le_of_ble_eq_true rfl) dX4_init_91 rfl ?_
  refine V_aload_n hX dX4_init_94 0 rfl ?_
  refine V_bipush hX dX4_init_95 (by decide) ?_
  refine V_put (w' := ([(a, .inr (4, [.ref (h7 0), .ref (h15 0), .ref (h23 0), .ref (h31 0), .ref (p39 0), .ref (t47 0), .ref (b55 0), .ref (b63 0), .int 0, .int (jI (-5)), .int 0]))] : va_W) ++ (hB G h7 hz0 ++ (hB G h15 hz0 ++ (hB G h23 hz0 ++ (hB G h31 hz0 ++ (pW G p39 qq40 (fun _ => hz0) 0 ++ (sB G t47 (fun _ => 0) (fun _ => 0) (fun _ => 0) (fun _ => 0) 0 0 0 ++ (bB G b55 true (fun _ => 0) (fun _ => 0) ++ (bB G b63 false (fun _ => 0) (fun _ => 0)))))))))) hX cbX4 9 0 (by decide) wf_X4_51 rfl rfl rfl rfl rfl rfl (Nat.le_of_ble_eq_true rfl) dX4_init_97 rfl ?_
  refine V_aload_n hX dX4_init_100 0 rfl ?_
  refine V_bipush hX dX4_init_101 (by decide) ?_
  refine V_put (w' := ([(a, .inr (4, [.ref (h7 0), .ref (h15 0), .ref (h23 0), .ref (h31 0), .ref (p39 0), .ref (t47 0), .ref (b55 0), .ref (b63 0), .int 0, .int (jI (-5)), .int (jI (-5))]))] : va_W) ++ (hB G h7 hz0 ++ (hB G h15 hz0 ++ (hB G h23 hz0 ++ (hB G h31 hz0 ++ (pW G p39 qq40 (fun _ => hz0) 0 ++ (sB G t47 (fun _ => 0) (fun _ => 0) (fun _ => 0) (fun _ => 0) 0 0 0 ++ (bB G b55 true (fun _ => 0) (fun _ => 0) ++ (bB G b63 false (fun _ => 0) (fun _ => 0)))))))))) hX cbX4 10 0 (by decide) wf_X4_55 rfl rfl rfl rfl rfl rfl (Nat.le_of_ble_eq_true rfl) dX4_init_103 rfl ?_
  refine V.wd (w' := oH a h7 h15 h23 h31 p39 t47 b55 b63 0 (-5) (-5) ++ (hB G h7 hz0 ++ (hB G h15 hz0 ++ (hB G h23 hz0 ++ (hB G h31 hz0 ++ (pW G p39 qq40 (fun _ => hz0) 0 ++ (sB G t47 (fun _ => 0) (fun _ => 0) (fun _ => 0) (fun _ => 0) 0 0 0 ++ (bB G b55 true (fun _ => 0) (fun _ => 0) ++ (bB G b63 false (fun _ => 0) (fun _ => 0)))))))))) rfl ?_
  exact V_vret hX hR dX4_init_106 ⟨rfl, _, _, _, _, _, _, _, _, _, rfl⟩
