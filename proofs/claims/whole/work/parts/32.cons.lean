/-! the start of a house -/
def hz0 : Nat → Int := fun j => if j = 1 then 2 else if j = 5 then 640 else if j = 9 then -5 else if 11 ≤ j ∧ j < 17 then 1 else 0
theorem hz0_hi {j : Nat} (h : 17 ≤ j) : hz0 j = 0 := by
  unfold hz0
  rw [if_neg (by omega), if_neg (by omega), if_neg (by omega), if_neg (by omega)]
theorem hz0_v (c : Nat) : hv hz0 c = fun _ => 0 := by
  funext k
  show jI (hz0 (ix k c)) = 0
  rw [hz0_hi (by unfold ix; omega)]
  rfl
theorem hz0_c : hcr hz0 = fun _ => 0 := by
  funext k
  show jI (hz0 (ix (k / 4) (5 + k % 4))) = 0
  rw [hz0_hi (by unfold ix; omega)]
  rfl
theorem hz0_se : hse hz0 = upd (upd (upd (upd (upd (upd (fun _ => 0) 0 (jI 1)) 1 (jI 1)) 2 (jI 1)) 3 (jI 1)) 4 (jI 1)) 5 (jI 1) := by
  funext k
  by_cases h : k < 6
  · rcases (by omega : k = 0 ∨ k = 1 ∨ k = 2 ∨ k = 3 ∨ k = 4 ∨ k = 5) with rfl | rfl | rfl | rfl | rfl | rfl <;> rfl
  · unfold hse upd
    rw [if_neg h, if_neg (by omega), if_neg (by omega), if_neg (by omega), if_neg (by omega), if_neg (by omega), if_neg (by omega)]
theorem hz0_st : hst hz0 = upd (fun _ => 0) 1 (jI 2) := by
  funext k
  by_cases h : k < 2
  · rcases (by omega : k = 0 ∨ k = 1) with rfl | rfl <;> rfl
  · unfold hst upd
    rw [if_neg h, if_neg (by omega)]
def ad11 (a b c d e f g h i j k : Nat) : Nat → Nat := fun n => match n with
  | 0 => a
  | 1 => b
  | 2 => c
  | 3 => d
  | 4 => e
  | 5 => f
  | 6 => g
  | 7 => h
  | 8 => i
  | 9 => j
  | _ => k
theorem fits_bI (c : Prop) [Decidable c] : fits .boolean (.int (jI (bI c))) = true := by unfold bI; split <;> rfl
theorem mI_0 : mI (fun _ => 0) = fun _ => 0 := rfl

set_option maxHeartbeats 4000000 in
set_option maxRecDepth 100000 in
theorem c_X1_init (l : Launch) (G : vC) (a : Nat)  : Ct l G yX1_init cX1_init 2 none ({ frames := 1, cells := 10, slots := 140, locals := 14 } : Room) [.ref (a)] (([(a, .inr (1, [.null, .null, .null, .null, .null, .null, .null, .null, .null, .null, .int 0, .int 0, .int 0, .int 0, .int 0, .int 0, .int 0]))] : va_W)) (fun v u => v = none ∧ ∃ h : Nat → Nat, h 0 = a ∧ u = hB G h hz0) := by
  refine Ct.of (by decide) (Nat.le_of_ble_eq_true rfl) (fun X hX hR => ?_)
  refine V.toLv (lv' := [(0, .ref a)]) rfl ?_
  refine V_aload_n hX dX1_init_0 0 rfl ?_
  refine V_objInit hX dX1_init_1 wo_X1_3 (by decide) (Nat.le_of_ble_eq_true rfl) ?_
  refine V_aload_n hX dX1_init_4 0 rfl ?_
  refine V_bipush hX dX1_init_5 (by decide) ?_
  refine V_newai (N := 12) (k' := 1) (n' := 12) hX (by decide) (Nat.le_of_ble_eq_true rfl) (Nat.le_of_ble_eq_true rfl) dX1_init_7 rfl rfl (fun q1 => ?_)
  refine V.wd (w' := ([(a, .inr (1, [.null, .null, .null, .null, .null, .null, .null, .null, .null, .null, .int 0, .int 0, .int 0, .int 0, .int 0, .int 0, .int 0]))] : va_W) ++ (([(q1, .inl (G.2.1, 12, .inl (fun _ => 0)))] : va_W))) rfl ?_
  refine V_putF (w' := ([(a, .inr (1, [.ref (q1), .null, .null, .null, .null, .null, .null, .null, .null, .null, .int 0, .int 0, .int 0, .int 0, .int 0, .int 0, .int 0]))] : va_W) ++ (([(q1, .inl (G.2.1, 12, .inl (fun _ => 0)))] : va_W))) hX cbX1 0 0 (by decide) wf_X1_9 rfl rfl rfl rfl rfl rfl rfl rfl (Nat.le_of_ble_eq_true rfl) dX1_init_9 rfl ?_
  refine V_aload_n hX dX1_init_12 0 rfl ?_
  refine V_bipush hX dX1_init_13 (by decide) ?_
  refine V_newai (N := 12) (k' := 2) (n' := 24) hX (by decide) (Nat.le_of_ble_eq_true rfl) (Nat.le_of_ble_eq_true rfl) dX1_init_15 rfl rfl (fun q2 => ?_)
  refine V.wd (w' := ([(a, .inr (1, [.ref (q1), .null, .null, .null, .null, .null, .null, .null, .null, .null, .int 0, .int 0, .int 0, .int 0, .int 0, .int 0, .int 0]))] : va_W) ++ (([(q1, .inl (G.2.1, 12, .inl (fun _ => 0)))] : va_W) ++ (([(q2, .inl (G.2.1, 12, .inl (fun _ => 0)))] : va_W)))) rfl ?_
  refine V_putF (w' := ([(a, .inr (1, [.ref (q1), .ref (q2), .null, .null, .null, .null, .null, .null, .null, .null, .int 0, .int 0, .int 0, .int 0, .int 0, .int 0, .int 0]))] : va_W) ++ (([(q1, .inl (G.2.1, 12, .inl (fun _ => 0)))] : va_W) ++ (([(q2, .inl (G.2.1, 12, .inl (fun _ => 0)))] : va_W)))) hX cbX1 1 0 (by decide) wf_X1_15 rfl rfl rfl rfl rfl rfl rfl rfl (Nat.le_of_ble_eq_true rfl) dX1_init_17 rfl ?_
  refine V_aload_n hX dX1_init_20 0 rfl ?_
  refine V_bipush hX dX1_init_21 (by decide) ?_
  refine V_newai (N := 12) (k' := 3) (n' := 36) hX (by decide) (Nat.le_of_ble_eq_true rfl) (Nat.le_of_ble_eq_true rfl) dX1_init_23 rfl rfl (fun q3 => ?_)
  refine V.wd (w' := ([(a, .inr (1, [.ref (q1), .ref (q2), .null, .null, .null, .null, .null, .null, .null, .null, .int 0, .int 0, .int 0, .int 0, .int 0, .int 0, .int 0]))] : va_W) ++ (([(q1, .inl (G.2.1, 12, .inl (fun _ => 0)))] : va_W) ++ (([(q2, .inl (G.2.1, 12, .inl (fun _ => 0)))] : va_W) ++ (([(q3, .inl (G.2.1, 12, .inl (fun _ => 0)))] : va_W))))) rfl ?_
  refine V_putF (w' := ([(a, .inr (1, [.ref (q1), .ref (q2), .ref (q3), .null, .null, .null, .null, .null, .null, .null, .int 0, .int 0, .int 0, .int 0, .int 0, .int 0, .int 0]))] : va_W) ++ (([(q1, .inl (G.2.1, 12, .inl (fun _ => 0)))] : va_W) ++ (([(q2, .inl (G.2.1, 12, .inl (fun _ => 0)))] : va_W) ++ (([(q3, .inl (G.2.1, 12, .inl (fun _ => 0)))] : va_W))))) hX cbX1 2 0 (by decide) wf_X1_18 rfl rfl rfl rfl rfl rfl rfl rfl (Nat.le_of_ble_eq_true rfl) dX1_init_25 rfl ?_
  refine V_aload_n hX dX1_init_28 0 rfl ?_
  refine V_bipush hX dX1_init_29 (by decide) ?_
  refine V_newai (N := 12) (k' := 4) (n' := 48) hX (by decide) (Nat.le_of_ble_eq_true rfl) (Nat.le_of_ble_eq_true rfl) dX1_init_31 rfl rfl (fun q4 => ?_)
  refine V.wd (w' := ([(a, .inr (1, [.ref (q1), .ref (q2), .ref (q3), .null, .null, .null, .null, .null, .null, .null, .int 0, .int 0, .int 0, .int 0, .int 0, .int 0, .int 0]))] : va_W) ++ (([(q1, .inl (G.2.1, 12, .inl (fun _ => 0)))] : va_W) ++ (([(q2, .inl (G.2.1, 12, .inl (fun _ => 0)))] : va_W) ++ (([(q3, .inl (G.2.1, 12, .inl (fun _ => 0)))] : va_W) ++ (([(q4, .inl (G.2.1, 12, .inl (fun _ => 0)))] : va_W)))))) rfl ?_
  refine V_putF (w' := ([(a, .inr (1, [.ref (q1), .ref (q2), .ref (q3), .ref (q4), .null, .null, .null, .null, .null, .null, .int 0, .int 0, .int 0, .int 0, .int 0, .int 0, .int 0]))] : va_W) ++ (([(q1, .inl (G.2.1, 12, .inl (fun _ => 0)))] : va_W) ++ (([(q2, .inl (G.2.1, 12, .inl (fun _ => 0)))] : va_W) ++ (([(q3, .inl (G.2.1, 12, .inl (fun _ => 0)))] : va_W) ++ (([(q4, .inl (G.2.1, 12, .inl (fun _ => 0)))] : va_W)))))) hX cbX1 3 0 (by decide) wf_X1_21 rfl rfl rfl rfl rfl rfl rfl rfl (Nat.le_of_ble_eq_true rfl) dX1_init_33 rfl ?_
  refine V_aload_n hX dX1_init_36 0 rfl ?_
  refine V_bipush hX dX1_init_37 (by decide) ?_
  refine V_newai (N := 12) (k' := 5) (n' := 60) hX (by decide) (Nat.le_of_ble_eq_true rfl) (Nat.le_of_ble_eq_true rfl) dX1_init_39 rfl rfl (fun q5 => ?_)
  refine V.wd (w' := ([(a, .inr (1, [.ref (q1), .ref (q2), .ref (q3), .ref (q4), .null, .null, .null, .null, .null, .null, .int 0, .int 0, .int 0, .int 0, .int 0, .int 0, .int 0]))] : va_W) ++ (([(q1, .inl (G.2.1, 12, .inl (fun _ => 0)))] : va_W) ++ (([(q2, .inl (G.2.1, 12, .inl (fun _ => 0)))] : va_W) ++ (([(q3, .inl (G.2.1, 12, .inl (fun _ => 0)))] : va_W) ++ (([(q4, .inl (G.2.1, 12, .inl (fun _ => 0)))] : va_W) ++ (([(q5, .inl (G.2.1, 12, .inl (fun _ => 0)))] : va_W))))))) rfl ?_
  refine V_putF (w' := ([(a, .inr (1, [.ref (q1), .ref (q2), .ref (q3), .ref (q4), .ref (q5), .null, .null, .null, .null, .null, .int 0, .int 0, .int 0, .int 0, .int 0, .int 0, .int 0]))] : va_W) ++ (([(q1, .inl (G.2.1, 12, .inl (fun _ => 0)))] : va_W) ++ (([(q2, .inl (G.2.1, 12, .inl (fun _ => 0)))] : va_W) ++ (([(q3, .inl (G.2.1, 12, .inl (fun _ => 0)))] : va_W) ++ (([(q4, .inl (G.2.1, 12, .inl (fun _ => 0)))] : va_W) ++ (([(q5, .inl (G.2.1, 12, .inl (fun _ => 0)))] : va_W))))))) hX cbX1 4 0 (by decide) wf_X1_24 rfl rfl rfl rfl rfl rfl rfl rfl (Nat.le_of_ble_eq_true rfl) dX1_init_41 rfl ?_
  refine V_aload_n hX dX1_init_44 0 rfl ?_
  refine V_bipush hX dX1_init_45 (by decide) ?_
  refine V_newai (N := 12) (k' := 6) (n' := 72) hX (by decide) (Nat.le_of_ble_eq_true rfl) (Nat.le_of_ble_eq_true rfl) dX1_init_47 rfl rfl (fun q6 => ?_)
  refine V.wd (w' := ([(a, .inr (1, [.ref (q1), .ref (q2), .ref (q3), .ref (q4), .ref (q5), .null, .null, .null, .null, .null, .int 0, .int 0, .int 0, .int 0, .int 0, .int 0, .int 0]))] : va_W) ++ (([(q1, .inl (G.2.1, 12, .inl (fun _ => 0)))] : va_W) ++ (([(q2, .inl (G.2.1, 12, .inl (fun _ => 0)))] : va_W) ++ (([(q3, .inl (G.2.1, 12, .inl (fun _ => 0)))] : va_W) ++ (([(q4, .inl (G.2.1, 12, .inl (fun _ => 0)))] : va_W) ++ (([(q5, .inl (G.2.1, 12, .inl (fun _ => 0)))] : va_W) ++ (([(q6, .inl (G.2.1, 12, .inl (fun _ => 0)))] : va_W)))))))) rfl ?_
  refine V_putF (w' := ([(a, .inr (1, [.ref (q1), .ref (q2), .ref (q3), .ref (q4), .ref (q5), .ref (q6), .null, .null, .null, .null, .int 0, .int 0, .int 0, .int 0, .int 0, .int 0, .int 0]))] : va_W) ++ (([(q1, .inl (G.2.1, 12, .inl (fun _ => 0)))] : va_W) ++ (([(q2, .inl (G.2.1, 12, .inl (fun _ => 0)))] : va_W) ++ (([(q3, .inl (G.2.1, 12, .inl (fun _ => 0)))] : va_W) ++ (([(q4, .inl (G.2.1, 12, .inl (fun _ => 0)))] : va_W) ++ (([(q5, .inl (G.2.1, 12, .inl (fun _ => 0)))] : va_W) ++ (([(q6, .inl (G.2.1, 12, .inl (fun _ => 0)))] : va_W)))))))) hX cbX1 5 0 (by decide) wf_X1_27 rfl rfl rfl rfl rfl rfl rfl rfl (Nat.le_of_ble_eq_true rfl) dX1_init_49 rfl ?_
  refine V_aload_n hX dX1_init_52 0 rfl ?_
  refine V_bipush hX dX1_init_53 (by decide) ?_
  refine V_newai (N := 12) (k' := 7) (n' := 84) hX (by decide) (Nat.le_of_ble_eq_true rfl) (Nat.le_of_ble_eq_true rfl) dX1_init_55 rfl rfl (fun q7 => ?_)
  refine V.wd (w' := ([(a, .inr (1, [.ref (q1), .ref (q2), .ref (q3), .ref (q4), .ref (q5), .ref (q6), .null, .null, .null, .null, .int 0, .int 0, .int 0, .int 0, .int 0, .int 0, .int 0]))] : va_W) ++ (([(q1, .inl (G.2.1, 12, .inl (fun _ => 0)))] : va_W) ++ (([(q2, .inl (G.2.1, 12, .inl (fun _ => 0)))] : va_W) ++ (([(q3, .inl (G.2.1, 12, .inl (fun _ => 0)))] : va_W) ++ (([(q4, .inl (G.2.1, 12, .inl (fun _ => 0)))] : va_W) ++ (([(q5, .inl (G.2.1, 12, .inl (fun _ => 0)))] : va_W) ++ (([(q6, .inl (G.2.1, 12, .inl (fun _ => 0)))] : va_W) ++ (([(q7, .inl (G.2.1, 12, .inl (fun _ => 0)))] : va_W))))))))) rfl ?_
  refine V_putF (w' := ([(a, .inr (1, [.ref (q1), .ref (q2), .ref (q3), .ref (q4), .ref (q5), .ref (q6), .ref (q7), .null, .null, .null, .int 0, .int 0, .int 0, .int 0, .int 0, .int 0, .int 0]))] : va_W) ++ (([(q1, .inl (G.2.1, 12, .inl (fun _ => 0)))] : va_W) ++ (([(q2, .inl (G.2.1, 12, .inl (fun _ => 0)))] : va_W) ++ (([(q3, .inl (G.2.1, 12, .inl (fun _ => 0)))] : va_W) ++ (([(q4, .inl (G.2.1, 12, .inl (fun _ => 0)))] : va_W) ++ (([(q5, .inl (G.2.1, 12, .inl (fun _ => 0)))] : va_W) ++ (([(q6, .inl (G.2.1, 12, .inl (fun _ => 0)))] : va_W) ++ (([(q7, .inl (G.2.1, 12, .inl (fun _ => 0)))] : va_W))))))))) hX cbX1 6 0 (by decide) wf_X1_30 rfl rfl rfl rfl rfl rfl rfl rfl (Nat.le_of_ble_eq_true rfl) dX1_init_57 rfl ?_
  refine V_aload_n hX dX1_init_60 0 rfl ?_
  refine V_bipush hX dX1_init_61 (by decide) ?_
  refine V_newai (N := 48) (k' := 8) (n' := 132) hX (by decide) (Nat.le_of_ble_eq_true rfl) (Nat.le_of_ble_eq_true rfl) dX1_init_63 rfl rfl (fun q8 => ?_)
  refine V.wd (w' := ([(a, .inr (1, [.ref (q1), .ref (q2), .ref (q3), .ref (q4), .ref (q5), .ref (q6), .ref (q7), .null, .null, .null, .int 0, .int 0, .int 0, .int 0, .int 0, .int 0, .int 0]))] : va_W) ++ (([(q1, .inl (G.2.1, 12, .inl (fun _ => 0)))] : va_W) ++ (([(q2, .inl (G.2.1, 12, .inl (fun _ => 0)))] : va_W) ++ (([(q3, .inl (G.2.1, 12, .inl (fun _ => 0)))] : va_W) ++ (([(q4, .inl (G.2.1, 12, .inl (fun _ => 0)))] : va_W) ++ (([(q5, .inl (G.2.1, 12, .inl (fun _ => 0)))] : va_W) ++ (([(q6, .inl (G.2.1, 12, .inl (fun _ => 0)))] : va_W) ++ (([(q7, .inl (G.2.1, 12, .inl (fun _ => 0)))] : va_W) ++ (([(q8, .inl (G.2.1, 48, .inl (fun _ => 0)))] : va_W)))))))))) rfl ?_
  refine V_putF (w' := ([(a, .inr (1, [.ref (q1), .ref (q2), .ref (q3), .ref (q4), .ref (q5), .ref (q6), .ref (q7), .ref (q8), .null, .null, .int 0, .int 0, .int 0, .int 0, .int 0, .int 0, .int 0]))] : va_W) ++ (([(q1, .inl (G.2.1, 12, .inl (fun _ => 0)))] : va_W) ++ (([(q2, .inl (G.2.1, 12, .inl (fun _ => 0)))] : va_W) ++ (([(q3, .inl (G.2.1, 12, .inl (fun _ => 0)))] : va_W) ++ (([(q4, .inl (G.2.1, 12, .inl (fun _ => 0)))] : va_W) ++ (([(q5, .inl (G.2.1, 12, .inl (fun _ => 0)))] : va_W) ++ (([(q6, .inl (G.2.1, 12, .inl (fun _ => 0)))] : va_W) ++ (([(q7, .inl (G.2.1, 12, .inl (fun _ => 0)))] : va_W) ++ (([(q8, .inl (G.2.1, 48, .inl (fun _ => 0)))] : va_W)))))))))) hX cbX1 7 0 (by decide) wf_X1_33 rfl rfl rfl rfl rfl rfl rfl rfl (Nat.le_of_ble_eq_true rfl) dX1_init_65 rfl ?_
  refine V_aload_n hX dX1_init_68 0 rfl ?_
  refine V_bipush hX dX1_init_69 (by decide) ?_
  refine V_newai (N := 6) (k' := 9) (n' := 138) hX (by decide) (Nat.le_of_ble_eq_true rfl) (Nat.le_of_ble_eq_true rfl) dX1_init_71 rfl rfl (fun q9 => ?_)
  refine V.wd (w' := ([(a, .inr (1, [.ref (q1), .ref (q2), .ref (q3), .ref (q4), .ref (q5), .ref (q6), .ref (q7), .ref (q8), .null, .null, .int 0, .int 0, .int 0, .int 0, .int 0, .int 0, .int 0]))] : va_W) ++ (([(q1, .inl (G.2.1, 12, .inl (fun _ => 0)))] : va_W) ++ (([(q2, .inl (G.2.1, 12, .inl (fun _ => 0)))] : va_W) ++ (([(q3, .inl (G.2.1, 12, .inl (fun _ => 0)))] : va_W) ++ (([(q4, .inl (G.2.1, 12, .inl (fun _ => 0)))] : va_W) ++ (([(q5, .inl (G.2.1, 12, .inl (fun _ => 0)))] : va_W) ++ (([(q6, .inl (G.2.1, 12, .inl (fun _ => 0)))] : va_W) ++ (([(q7, .inl (G.2.1, 12, .inl (fun _ => 0)))] : va_W) ++ (([(q8, .inl (G.2.1, 48, .inl (fun _ => 0)))] : va_W) ++ (([(q9, .inl (G.2.1, 6, .inl (fun _ => 0)))] : va_W))))))))))) rfl ?_
  refine V_putF (w' := ([(a, .inr (1, [.ref (q1), .ref (q2), .ref (q3), .ref (q4), .ref (q5), .ref (q6), .ref (q7), .ref (q8), .ref (q9), .null, .int 0, .int 0, .int 0, .int 0, .int 0, .int 0, .int 0]))] : va_W) ++ (([(q1, .inl (G.2.1, 12, .inl (fun _ => 0)))] : va_W) ++ (([(q2, .inl (G.2.1, 12, .inl (fun _ => 0)))] : va_W) ++ (([(q3, .inl (G.2.1, 12, .inl (fun _ => 0)))] : va_W) ++ (([(q4, .inl (G.2.1, 12, .inl (fun _ => 0)))] : va_W) ++ (([(q5, .inl (G.2.1, 12, .inl (fun _ => 0)))] : va_W) ++ (([(q6, .inl (G.2.1, 12, .inl (fun _ => 0)))] : va_W) ++ (([(q7, .inl (G.2.1, 12, .inl (fun _ => 0)))] : va_W) ++ (([(q8, .inl (G.2.1, 48, .inl (fun _ => 0)))] : va_W) ++ (([(q9, .inl (G.2.1, 6, .inl (fun _ => 0)))] : va_W))))))))))) hX cbX1 8 0 (by decide) wf_X1_36 rfl rfl rfl rfl rfl rfl rfl rfl (Nat.le_of_ble_eq_true rfl) dX1_init_73 rfl ?_
  refine V_aload_n hX dX1_init_76 0 rfl ?_
  refine V_iconst hX dX1_init_77 ?_
  refine V_newai (N := 2) (k' := 10) (n' := 140) hX (by decide) (Nat.le_of_ble_eq_true rfl) (Nat.le_of_ble_eq_true rfl) dX1_init_78 rfl rfl (fun q10 => ?_)
  refine V.wd (w' := ([(a, .inr (1, [.ref (q1), .ref (q2), .ref (q3), .ref (q4), .ref (q5), .ref (q6), .ref (q7), .ref (q8), .ref (q9), .null, .int 0, .int 0, .int 0, .int 0, .int 0, .int 0, .int 0]))] : va_W) ++ (([(q1, .inl (G.2.1, 12, .inl (fun _ => 0)))] : va_W) ++ (([(q2, .inl (G.2.1, 12, .inl (fun _ => 0)))] : va_W) ++ (([(q3, .inl (G.2.1, 12, .inl (fun _ => 0)))] : va_W) ++ (([(q4, .inl (G.2.1, 12, .inl (fun _ => 0)))] : va_W) ++ (([(q5, .inl (G.2.1, 12, .inl (fun _ => 0)))] : va_W) ++ (([(q6, .inl (G.2.1, 12, .inl (fun _ => 0)))] : va_W) ++ (([(q7, .inl (G.2.1, 12, .inl (fun _ => 0)))] : va_W) ++ (([(q8, .inl (G.2.1, 48, .inl (fun _ => 0)))] : va_W) ++ (([(q9, .inl (G.2.1, 6, .inl (fun _ => 0)))] : va_W) ++ (([(q10, .inl (G.2.1, 2, .inl (fun _ => 0)))] : va_W)))))))))))) rfl ?_
  refine V_putF (w' := ([(a, .inr (1, [.ref (q1), .ref (q2), .ref (q3), .ref (q4), .ref (q5), .ref (q6), .ref (q7), .ref (q8), .ref (q9), .ref (q10), .int 0, .int 0, .int 0, .int 0, .int 0, .int 0, .int 0]))] : va_W) ++ (([(q1, .inl (G.2.1, 12, .inl (fun _ => 0)))] : va_W) ++ (([(q2, .inl (G.2.1, 12, .inl (fun _ => 0)))] : va_W) ++ (([(q3, .inl (G.2.1, 12, .inl (fun _ => 0)))] : va_W) ++ (([(q4, .inl (G.2.1, 12, .inl (fun _ => 0)))] : va_W) ++ (([(q5, .inl (G.2.1, 12, .inl (fun _ => 0)))] : va_W) ++ (([(q6, .inl (G.2.1, 12, .inl (fun _ => 0)))] : va_W) ++ (([(q7, .inl (G.2.1, 12, .inl (fun _ => 0)))] : va_W) ++ (([(q8, .inl (G.2.1, 48, .inl (fun _ => 0)))] : va_W) ++ (([(q9, .inl (G.2.1, 6, .inl (fun _ => 0)))] : va_W) ++ (([(q10, .inl (G.2.1, 2, .inl (fun _ => 0)))] : va_W)))))))))))) hX cbX1 9 0 (by decide) wf_X1_39 rfl rfl rfl rfl rfl rfl rfl rfl (Nat.le_of_ble_eq_true rfl) dX1_init_80 rfl ?_
  refine V_aload_n hX dX1_init_83 0 rfl ?_
  refine V_sipush hX dX1_init_84 (by decide) ?_
  refine V_put (w' := ([(a, .inr (1, [.ref (q1), .ref (q2), .ref (q3), .ref (q4), .ref (q5), .ref (q6), .ref (q7), .ref (q8), .ref (q9), .ref (q10), .int 0, .int 0, .int 0, .int (jI 640), .int 0, .int 0, .int 0]))] : va_W) ++ (([(q1, .inl (G.2.1, 12, .inl (fun _ => 0)))] : va_W) ++ (([(q2, .inl (G.2.1, 12, .inl (fun _ => 0)))] : va_W) ++ (([(q3, .inl (G.2.1, 12, .inl (fun _ => 0)))] : va_W) ++ (([(q4, .inl (G.2.1, 12, .inl (fun _ => 0)))] : va_W) ++ (([(q5, .inl (G.2.1, 12, .inl (fun _ => 0)))] : va_W) ++ (([(q6, .inl (G.2.1, 12, .inl (fun _ => 0)))] : va_W) ++ (([(q7, .inl (G.2.1, 12, .inl (fun _ => 0)))] : va_W) ++ (([(q8, .inl (G.2.1, 48, .inl (fun _ => 0)))] : va_W) ++ (([(q9, .inl (G.2.1, 6, .inl (fun _ => 0)))] : va_W) ++ (([(q10, .inl (G.2.1, 2, .inl (fun _ => 0)))] : va_W)))))))))))) hX cbX1 13 0 (by decide) wf_X1_42 rfl rfl rfl rfl rfl rfl (Nat.le_of_ble_eq_true rfl) dX1_init_87 rfl ?_
  refine V_aload_n hX dX1_init_90 0 rfl ?_
  refine V_bipush hX dX1_init_91 (by decide) ?_
  refine V_put (w' := ([(a, .inr (1, [.ref (q1), .ref (q2), .ref (q3), .ref (q4), .ref (q5), .ref (q6), .ref (q7), .ref (q8), .ref (q9), .ref (q10), .int 0, .int 0, .int 0, .int (jI 640), .int 0, .int 0, .int (jI (-5))]))] : va_W) ++ (([(q1, .inl (G.2.1, 12, .inl (fun _ => 0)))] : va_W) ++ (([(q2, .inl (G.2.1, 12, .inl (fun _ => 0)))] : va_W) ++ (([(q3, .inl (G.2.1, 12, .inl (fun _ => 0)))] : va_W) ++ (([(q4, .inl (G.2.1, 12, .inl (fun _ => 0)))] : va_W) ++ (([(q5, .inl (G.2.1, 12, .inl (fun _ => 0)))] : va_W) ++ (([(q6, .inl (G.2.1, 12, .inl (fun _ => 0)))] : va_W) ++ (([(q7, .inl (G.2.1, 12, .inl (fun _ => 0)))] : va_W) ++ (([(q8, .inl (G.2.1, 48, .inl (fun _ => 0)))] : va_W) ++ (([(q9, .inl (G.2.1, 6, .inl (fun _ => 0)))] : va_W) ++ (([(q10, .inl (G.2.1, 2, .inl (fun _ => 0)))] : va_W)))))))))))) hX cbX1 16 0 (by decide) wf_X1_46 rfl rfl rfl rfl rfl rfl (Nat.le_of_ble_eq_true rfl) dX1_init_93 rfl ?_
  refine V_iconst hX dX1_init_96 ?_
  refine V_istore_n (i := 1) (lv' := [(1, .int (jI 0)), (0, .ref (a))]) hX dX1_init_97 rfl (by decide) rfl ?_
  refine V_iload_n hX dX1_init_98 0 rfl ?_
  refine V_bipush hX dX1_init_99 (by decide) ?_
  refine V_icmp_ge (tgt := 117) hX dX1_init_101 (by decide) (by decide) (by decide) (fun c11 => absurd c11 (by decide)) (fun c11 => ?_)
  refine V_aload_n hX dX1_init_104 1 rfl ?_
  refine V_get (v := .ref (q9)) hX cbX1 8 0 (by decide) wf_X1_36 rfl rfl rfl rfl dX1_init_105 ?_
  refine V_iload_n hX dX1_init_108 0 rfl ?_
  refine V_iconst hX dX1_init_109 ?_
  refine V_iast (i0 := 0) (w' := ([(a, .inr (1, [.ref (q1), .ref (q2), .ref (q3), .ref (q4), .ref (q5), .ref (q6), .ref (q7), .ref (q8), .ref (q9), .ref (q10), .int 0, .int 0, .int 0, .int (jI 640), .int 0, .int 0, .int (jI (-5))]))] : va_W) ++ (([(q1, .inl (G.2.1, 12, .inl (fun _ => 0)))] : va_W) ++ (([(q2, .inl (G.2.1, 12, .inl (fun _ => 0)))] : va_W) ++ (([(q3, .inl (G.2.1, 12, .inl (fun _ => 0)))] : va_W) ++ (([(q4, .inl (G.2.1, 12, .inl (fun _ => 0)))] : va_W) ++ (([(q5, .inl (G.2.1, 12, .inl (fun _ => 0)))] : va_W) ++ (([(q6, .inl (G.2.1, 12, .inl (fun _ => 0)))] : va_W) ++ (([(q7, .inl (G.2.1, 12, .inl (fun _ => 0)))] : va_W) ++ (([(q8, .inl (G.2.1, 48, .inl (fun _ => 0)))] : va_W) ++ (([(q9, .inl (G.2.1, 6, .inl (upd (fun _ => 0) 0 (jI (1)))))] : va_W) ++ (([(q10, .inl (G.2.1, 2, .inl (fun _ => 0)))] : va_W)))))))))))) hX 9 rfl (by decide) (by decide) (by decide) rfl dX1_init_110 rfl ?_
  refine V_iinc (b := 1) (lv' := [(1, .int (jI 1)), (0, .ref (a))]) hX dX1_init_111 0 rfl rfl (by decide) rfl ?_
  refine V_goto (tgt := 98) hX dX1_init_114 (by decide) ?_
  refine V_iload_n hX dX1_init_98 0 rfl ?_
  refine V_bipush hX dX1_init_99 (by decide) ?_
  refine V_icmp_ge (tgt := 117) hX dX1_init_101 (by decide) (by decide) (by decide) (fun c12 => absurd c12 (by decide)) (fun c12 => ?_)
  refine V_aload_n hX dX1_init_104 1 rfl ?_
  refine V_get (v := .ref (q9)) hX cbX1 8 0 (by decide) wf_X1_36 rfl rfl rfl rfl dX1_init_105 ?_
  refine V_iload_n hX dX1_init_108 0 rfl ?_
  refine V_iconst hX dX1_init_109 ?_
  refine V_iast (i0 := 1) (w' := ([(a, .inr (1, [.ref (q1), .ref (q2), .ref (q3), .ref (q4), .ref (q5), .ref (q6), .ref (q7), .ref (q8), .ref (q9), .ref (q10), .int 0, .int 0, .int 0, .int (jI 640), .int 0, .int 0, .int (jI (-5))]))] : va_W) ++ (([(q1, .inl (G.2.1, 12, .inl (fun _ => 0)))] : va_W) ++ (([(q2, .inl (G.2.1, 12, .inl (fun _ => 0)))] : va_W) ++ (([(q3, .inl (G.2.1, 12, .inl (fun _ => 0)))] : va_W) ++ (([(q4, .inl (G.2.1, 12, .inl (fun _ => 0)))] : va_W) ++ (([(q5, .inl (G.2.1, 12, .inl (fun _ => 0)))] : va_W) ++ (([(q6, .inl (G.2.1, 12, .inl (fun _ => 0)))] : va_W) ++ (([(q7, .inl (G.2.1, 12, .inl (fun _ => 0)))] : va_W) ++ (([(q8, .inl (G.2.1, 48, .inl (fun _ => 0)))] : va_W) ++ (([(q9, .inl (G.2.1, 6, .inl (upd (upd (fun _ => 0) 0 (jI (1))) 1 (jI (1)))))] : va_W) ++ (([(q10, .inl (G.2.1, 2, .inl (fun _ => 0)))] : va_W)))))))))))) hX 9 rfl (by decide) (by decide) (by decide) rfl dX1_init_110 rfl ?_
  refine V_iinc (b := 2) (lv' := [(1, .int (jI 2)), (0, .ref (a))]) hX dX1_init_111 0 rfl rfl (by decide) rfl ?_
  refine V_goto (tgt := 98) hX dX1_init_114 (by decide) ?_
  refine V_iload_n hX dX1_init_98 0 rfl ?_
  refine V_bipush hX dX1_init_99 (by decide) ?_
  refine V_icmp_ge (tgt := 117) hX dX1_init_101 (by decide) (by decide) (by decide) (fun c13 => absurd c13 (by decide)) (fun c13 => ?_)
  refine V_aload_n hX dX1_init_104 1 rfl ?_
  refine V_get (v := .ref (q9)) hX cbX1 8 0 (by decide) wf_X1_36 rfl rfl rfl rfl dX1_init_105 ?_
  refine V_iload_n hX dX1_init_108 0 rfl ?_
  refine V_iconst hX dX1_init_109 ?_
  refine V_iast (i0 := 2) (w' := ([(a, .inr (1, [.ref (q1), .ref (q2), .ref (q3), .ref (q4), .ref (q5), .ref (q6), .ref (q7), .ref (q8), .ref (q9), .ref (q10), .int 0, .int 0, .int 0, .int (jI 640), .int 0, .int 0, .int (jI (-5))]))] : va_W) ++ (([(q1, .inl (G.2.1, 12, .inl (fun _ => 0)))] : va_W) ++ (([(q2, .inl (G.2.1, 12, .inl (fun _ => 0)))] : va_W) ++ (([(q3, .inl (G.2.1, 12, .inl (fun _ => 0)))] : va_W) ++ (([(q4, .inl (G.2.1, 12, .inl (fun _ => 0)))] : va_W) ++ (([(q5, .inl (G.2.1, 12, .inl (fun _ => 0)))] : va_W) ++ (([(q6, .inl (G.2.1, 12, .inl (fun _ => 0)))] : va_W) ++ (([(q7, .inl (G.2.1, 12, .inl (fun _ => 0)))] : va_W) ++ (([(q8, .inl (G.2.1, 48, .inl (fun _ => 0)))] : va_W) ++ (([(q9, .inl (G.2.1, 6, .inl (upd (upd (upd (fun _ => 0) 0 (jI (1))) 1 (jI (1))) 2 (jI (1)))))] : va_W) ++ (([(q10, .inl (G.2.1, 2, .inl (fun _ => 0)))] : va_W)))))))))))) hX 9 rfl (by decide) (by decide) (by decide) rfl dX1_init_110 rfl ?_
  refine V_iinc (b := 3) (lv' := [(1, .int (jI 3)), (0, .ref (a))]) hX dX1_init_111 0 rfl rfl (by decide) rfl ?_
  refine V_goto (tgt := 98) hX dX1_init_114 (by decide) ?_
  refine V_iload_n hX dX1_init_98 0 rfl ?_
  refine V_bipush hX dX1_init_99 (by decide) ?_
  refine V_icmp_ge (tgt := 117) hX dX1_init_101 (by decide) (by decide) (by decide) (fun c14 => absurd c14 (by decide)) (fun c14 => ?_)
  refine V_aload_n hX dX1_init_104 1 rfl ?_
  refine V_get (v := .ref (q9)) hX cbX1 8 0 (by decide) wf_X1_36 rfl rfl rfl rfl dX1_init_105 ?_
  refine V_iload_n hX dX1_init_108 0 rfl ?_
  refine V_iconst hX dX1_init_109 ?_
  refine V_iast (i0 := 3) (w' := ([(a, .inr (1, [.ref (q1), .ref (q2), .ref (q3), .ref (q4), .ref (q5), .ref (q6), .ref (q7), .ref (q8), .ref (q9), .ref (q10), .int 0, .int 0, .int 0, .int (jI 640), .int 0, .int 0, .int (jI (-5))]))] : va_W) ++ (([(q1, .inl (G.2.1, 12, .inl (fun _ => 0)))] : va_W) ++ (([(q2, .inl (G.2.1, 12, .inl (fun _ => 0)))] : va_W) ++ (([(q3, .inl (G.2.1, 12, .inl (fun _ => 0)))] : va_W) ++ (([(q4, .inl (G.2.1, 12, .inl (fun _ => 0)))] : va_W) ++ (([(q5, .inl (G.2.1, 12, .inl (fun _ => 0)))] : va_W) ++ (([(q6, .inl (G.2.1, 12, .inl (fun _ => 0)))] : va_W) ++ (([(q7, .inl (G.2.1, 12, .inl (fun _ => 0)))] : va_W) ++ (([(q8, .inl (G.2.1, 48, .inl (fun _ => 0)))] : va_W) ++ (([(q9, .inl (G.2.1, 6, .inl (upd (upd (upd (upd (fun _ => 0) 0 (jI (1))) 1 (jI (1))) 2 (jI (1))) 3 (jI (1)))))] : va_W) ++ (([(q10, .inl (G.2.1, 2, .inl (fun _ => 0)))] : va_W)))))))))))) hX 9 rfl (by decide) (by decide) (by decide) rfl dX1_init_110 rfl ?_
  refine V_iinc (b := 4) (lv' := [(1, .int (jI 4)), (0, .ref (a))]) hX dX1_init_111 0 rfl rfl (by decide) rfl ?_
  refine V_goto (tgt := 98) hX dX1_init_114 (by decide) ?_
  refine V_iload_n hX dX1_init_98 0 rfl ?_
  refine V_bipush hX dX1_init_99 (by decide) ?_
  refine V_icmp_ge (tgt := 117) hX dX1_init_101 (by decide) (by decide) (by decide) (fun c15 => absurd c15 (by decide)) (fun c15 => ?_)
  refine V_aload_n hX dX1_init_104 1 rfl ?_
  refine V_get (v := .ref (q9)) hX cbX1 8 0 (by decide) wf_X1_36 rfl rfl rfl rfl dX1_init_105 ?_
  refine V_iload_n hX dX1_init_108 0 rfl ?_
  refine V_iconst hX dX1_init_109 ?_
  refine V_iast (i0 := 4) (w' := ([(a, .inr (1, [.ref (q1), .ref (q2), .ref (q3), .ref (q4), .ref (q5), .ref (q6), .ref (q7), .ref (q8), .ref (q9), .ref (q10), .int 0, .int 0, .int 0, .int (jI 640), .int 0, .int 0, .int (jI (-5))]))] : va_W) ++ (([(q1, .inl (G.2.1, 12, .inl (fun _ => 0)))] : va_W) ++ (([(q2, .inl (G.2.1, 12, .inl (fun _ => 0)))] : va_W) ++ (([(q3, .inl (G.2.1, 12, .inl (fun _ => 0)))] : va_W) ++ (([(q4, .inl (G.2.1, 12, .inl (fun _ => 0)))] : va_W) ++ (([(q5, .inl (G.2.1, 12, .inl (fun _ => 0)))] : va_W) ++ (([(q6, .inl (G.2.1, 12, .inl (fun _ => 0)))] : va_W) ++ (([(q7, .inl (G.2.1, 12, .inl (fun _ => 0)))] : va_W) ++ (([(q8, .inl (G.2.1, 48, .inl (fun _ => 0)))] : va_W) ++ (([(q9, .inl (G.2.1, 6, .inl (upd (upd (upd (upd (upd (fun _ => 0) 0 (jI (1))) 1 (jI (1))) 2 (jI (1))) 3 (jI (1))) 4 (jI (1)))))] : va_W) ++ (([(q10, .inl (G.2.1, 2, .inl (fun _ => 0)))] : va_W)))))))))))) hX 9 rfl (by decide) (by decide) (by decide) rfl dX1_init_110 rfl ?_
  refine V_iinc (b := 5) (lv' := [(1, .int (jI 5)), (0, .ref (a))]) hX dX1_init_111 0 rfl rfl (by decide) rfl ?_
  refine V_goto (tgt := 98) hX dX1_init_114 (by decide) ?_
  refine V_iload_n hX dX1_init_98 0 rfl ?_
  refine V_bipush hX dX1_init_99 (by decide) ?_
  refine V_icmp_ge (tgt := 117) hX dX1_init_101 (by decide) (by decide) (by decide) (fun c16 => absurd c16 (by decide)) (fun c16 => ?_)
  refine V_aload_n hX dX1_init_104 1 rfl ?_
  refine V_get (v := .ref (q9)) hX cbX1 8 0 (by decide) wf_X1_36 rfl rfl rfl rfl dX1_init_105 ?_
  refine V_iload_n hX dX1_init_108 0 rfl ?_
  refine V_iconst hX dX1_init_109 ?_
  refine V_iast (i0 := 5) (w' := ([(a, .inr (1, [.ref (q1), .ref (q2), .ref (q3), .ref (q4), .ref (q5), .ref (q6), .ref (q7), .ref (q8), .ref (q9), .ref (q10), .int 0, .int 0, .int 0, .int (jI 640), .int 0, .int 0, .int (jI (-5))]))] : va_W) ++ (([(q1, .inl (G.2.1, 12, .inl (fun _ => 0)))] : va_W) ++ (([(q2, .inl (G.2.1, 12, .inl (fun _ => 0)))] : va_W) ++ (([(q3, .inl (G.2.1, 12, .inl (fun _ => 0)))] : va_W) ++ (([(q4, .inl (G.2.1, 12, .inl (fun _ => 0)))] : va_W) ++ (([(q5, .inl (G.2.1, 12, .inl (fun _ => 0)))] : va_W) ++ (([(q6, .inl (G.2.1, 12, .inl (fun _ => 0)))] : va_W) ++ (([(q7, .inl (G.2.1, 12, .inl (fun _ => 0)))] : va_W) ++ (([(q8, .inl (G.2.1, 48, .inl (fun _ => 0)))] : va_W) ++ (([(q9, .inl (G.2.1, 6, .inl (upd (upd (upd (upd (upd (upd (fun _ => 0) 0 (jI (1))) 1 (jI (1))) 2 (jI (1))) 3 (jI (1))) 4 (jI (1))) 5 (jI (1)))))] : va_W) ++ (([(q10, .inl (G.2.1, 2, .inl (fun _ => 0)))] : va_W)))))))))))) hX 9 rfl (by decide) (by decide) (by decide) rfl dX1_init_110 rfl ?_
  refine V_iinc (b := 6) (lv' := [(1, .int (jI 6)), (0, .ref (a))]) hX dX1_init_111 0 rfl rfl (by decide) rfl ?_
  refine V_goto (tgt := 98) hX dX1_init_114 (by decide) ?_
  refine V_iload_n hX dX1_init_98 0 rfl ?_
  refine V_bipush hX dX1_init_99 (by decide) ?_
  refine V_icmp_ge (tgt := 117) hX dX1_init_101 (by decide) (by decide) (by decide) (fun c17 => ?_) (fun c17 => absurd c17 (by decide))
  refine V_aload_n hX dX1_init_117 1 rfl ?_
  refine V_get (v := .ref (q10)) hX cbX1 9 0 (by decide) wf_X1_39 rfl rfl rfl rfl dX1_init_118 ?_
  refine V_iconst hX dX1_init_121 ?_
  refine V_iconst hX dX1_init_122 ?_
  refine V_iast (i0 := 1) (w' := ([(a, .inr (1, [.ref (q1), .ref (q2), .ref (q3), .ref (q4), .ref (q5), .ref (q6), .ref (q7), .ref (q8), .ref (q9), .ref (q10), .int 0, .int 0, .int 0, .int (jI 640), .int 0, .int 0, .int (jI (-5))]))] : va_W) ++ (([(q1, .inl (G.2.1, 12, .inl (fun _ => 0)))] : va_W) ++ (([(q2, .inl (G.2.1, 12, .inl (fun _ => 0)))] : va_W) ++ (([(q3, .inl (G.2.1, 12, .inl (fun _ => 0)))] : va_W) ++ (([(q4, .inl (G.2.1, 12, .inl (fun _ => 0)))] : va_W) ++ (([(q5, .inl (G.2.1, 12, .inl (fun _ => 0)))] : va_W) ++ (([(q6, .inl (G.2.1, 12, .inl (fun _ => 0)))] : va_W) ++ (([(q7, .inl (G.2.1, 12, .inl (fun _ => 0)))] : va_W) ++ (([(q8, .inl (G.2.1, 48, .inl (fun _ => 0)))] : va_W) ++ (([(q9, .inl (G.2.1, 6, .inl (upd (upd (upd (upd (upd (upd (fun _ => 0) 0 (jI (1))) 1 (jI (1))) 2 (jI (1))) 3 (jI (1))) 4 (jI (1))) 5 (jI (1)))))] : va_W) ++ (([(q10, .inl (G.2.1, 2, .inl (upd (fun _ => 0) 1 (jI (2)))))] : va_W)))))))))))) hX 10 rfl (by decide) (by decide) (by decide) rfl dX1_init_123 rfl ?_
  refine V.wd (w' := hB G (ad11 a q1 q2 q3 q4 q5 q6 q7 q8 q9 q10) hz0) (by unfold hB; rw [hz0_v 0, hz0_v 1, hz0_v 2, hz0_v 3, hz0_v 4, hz0_v 9, hz0_v 10, hz0_c, hz0_se, hz0_st]; rfl) ?_
  exact V_vret hX hR dX1_init_124 ⟨rfl, _, rfl, rfl⟩

theorem fB_00 : fB 0 = 0 := by decide +kernel
theorem bW_0 : bW (fun _ => 0) = fun _ => 0 := by
  funext k
  exact fB_00
theorem hz0_m : mI hz0 = upd (upd (upd (upd (upd (upd (upd (upd (upd (fun _ => 0) 1 (jI 2)) 5 (jI 640)) 9 (jI (-5))) 11 (jI 1)) 12 (jI 1)) 13 (jI 1)) 14 (jI 1)) 15 (jI 1)) 16 (jI 1) := by
  funext k
  by_cases h : k < 17
  · rcases (by omega : k = 0 ∨ k = 1 ∨ k = 2 ∨ k = 3 ∨ k = 4 ∨ k = 5 ∨ k = 6 ∨ k = 7 ∨ k = 8 ∨ k = 9 ∨ k = 10 ∨ k = 11 ∨ k = 12 ∨ k = 13 ∨ k = 14 ∨ k = 15 ∨ k = 16) with rfl | rfl | rfl | rfl | rfl | rfl | rfl | rfl | rfl | rfl | rfl | rfl | rfl | rfl | rfl | rfl | rfl <;> rfl
  · unfold mI upd
    rw [hz0_hi (by omega), if_neg (by omega), if_neg (by omega), if_neg (by omega), if_neg (by omega), if_neg (by omega), if_neg (by omega), if_neg (by omega), if_neg (by omega), if_neg (by omega)]
    rfl

set_option maxHeartbeats 4000000 in
set_option maxRecDepth 100000 in
theorem c_X0_init (l : Launch) (G : vC) (a : Nat) (lob : Bool) : Ct l G yX0_init cX0_init 2 none ({ frames := 1, cells := 2, slots := 10, locals := 14 } : Room) [.ref (a), .int (jI (bI (lob = true)))] (([(a, .inr (0, [.int 0, .null, .null]))] : va_W)) (fun v u => v = none ∧ ∃ b : Nat → Nat, b 0 = a ∧ u = bB G b lob (fun _ => 0) (fun _ => 0)) := by
  refine Ct.of (by decide) (Nat.le_of_ble_eq_true rfl) (fun X hX hR => ?_)
  refine V.toLv (lv' := [(0, .ref a), (1, .int (jI (bI (lob = true))))]) rfl ?_
  refine V_aload_n hX dX0_init_0 0 rfl ?_
  refine V_objInit hX dX0_init_1 wo_X0_3 (by decide) (Nat.le_of_ble_eq_true rfl) ?_
  refine V_aload_n hX dX0_init_4 0 rfl ?_
  refine V_iconst hX dX0_init_5 ?_
  refine V_newaf (N := 4) (k' := 1) (n' := 4) hX (by decide) (Nat.le_of_ble_eq_true rfl) (Nat.le_of_ble_eq_true rfl) dX0_init_6 rfl rfl (fun q1 => ?_)
  refine V.wd (w' := ([(a, .inr (0, [.int 0, .null, .null]))] : va_W) ++ (([(q1, .inl (G.2.2.1, 4, .inr (.inr (.inl (fun _ => 0)))))] : va_W))) rfl ?_
  refine V_putF (w' := ([(a, .inr (0, [.int 0, .ref (q1), .null]))] : va_W) ++ (([(q1, .inl (G.2.2.1, 4, .inr (.inr (.inl (fun _ => 0)))))] : va_W))) hX cbX0 1 0 (by decide) wf_X0_9 rfl rfl rfl rfl rfl rfl rfl rfl (Nat.le_of_ble_eq_true rfl) dX0_init_8 rfl ?_
  refine V_aload_n hX dX0_init_11 0 rfl ?_
  refine V_bipush hX dX0_init_12 (by decide) ?_
  refine V_newai (N := 6) (k' := 2) (n' := 10) hX (by decide) (Nat.le_of_ble_eq_true rfl) (Nat.le_of_ble_eq_true rfl) dX0_init_14 rfl rfl (fun q2 => ?_)
  refine V.wd (w' := ([(a, .inr (0, [.int 0, .ref (q1), .null]))] : va_W) ++ (([(q1, .inl (G.2.2.1, 4, .inr (.inr (.inl (fun _ => 0)))))] : va_W) ++ (([(q2, .inl (G.2.1, 6, .inl (fun _ => 0)))] : va_W)))) rfl ?_
  refine V_putF (w' := ([(a, .inr (0, [.int 0, .ref (q1), .ref (q2)]))] : va_W) ++ (([(q1, .inl (G.2.2.1, 4, .inr (.inr (.inl (fun _ => 0)))))] : va_W) ++ (([(q2, .inl (G.2.1, 6, .inl (fun _ => 0)))] : va_W)))) hX cbX0 2 0 (by decide) wf_X0_15 rfl rfl rfl rfl rfl rfl rfl rfl (Nat.le_of_ble_eq_true rfl) dX0_init_16 rfl ?_
  refine V_aload_n hX dX0_init_19 0 rfl ?_
  refine V_iload_n hX dX0_init_20 1 rfl ?_
  refine V_putF (w' := ([(a, .inr (0, [.int (jI (bI (lob = true))), .ref (q1), .ref (q2)]))] : va_W) ++ (([(q1, .inl (G.2.2.1, 4, .inr (.inr (.inl (fun _ => 0)))))] : va_W) ++ (([(q2, .inl (G.2.1, 6, .inl (fun _ => 0)))] : va_W)))) hX cbX0 0 0 (by decide) wf_X0_19 rfl rfl rfl rfl rfl rfl (nb_bI _) (fits_bI _) (Nat.le_of_ble_eq_true rfl) dX0_init_21 rfl ?_
  refine V.wd (w' := bB G (ad11 a q1 q2 q2 q2 q2 q2 q2 q2 q2 q2) lob (fun _ => 0) (fun _ => 0)) (by unfold bB; rw [bW_0]; rfl) ?_
  exact V_vret hX hR dX0_init_24 ⟨rfl, _, rfl, rfl⟩

set_option maxHeartbeats 4000000 in
set_option maxRecDepth 100000 in
theorem c_X3_init (l : Launch) (G : vC) (a : Nat)  : Ct l G yX3_init cX3_init 1 none ({ frames := 1, cells := 4, slots := 150, locals := 14 } : Room) [.ref (a)] (([(a, .inr (3, [.null, .null, .null, .null, .int 0, .int 0, .int 0]))] : va_W)) (fun v u => v = none ∧ ∃ b : Nat → Nat, b 0 = a ∧ u = sB G b (fun _ => 0) (fun _ => 0) (fun _ => 0) (fun _ => 0) 0 0 0) := by
  refine Ct.of (by decide) (Nat.le_of_ble_eq_true rfl) (fun X hX hR => ?_)
  refine V.toLv (lv' := [(0, .ref a)]) rfl ?_
  refine V_aload_n hX dX3_init_0 0 rfl ?_
  refine V_objInit hX dX3_init_1 wo_X3_3 (by decide) (Nat.le_of_ble_eq_true rfl) ?_
  refine V_aload_n hX dX3_init_4 0 rfl ?_
  refine V_bipush hX dX3_init_5 (by decide) ?_
  refine V_newac (N := 60) (k' := 1) (n' := 60) hX (by decide) (Nat.le_of_ble_eq_true rfl) (Nat.le_of_ble_eq_true rfl) dX3_init_7 rfl rfl (fun q1 => ?_)
  refine V.wd (w' := ([(a, .inr (3, [.null, .null, .null, .null, .int 0, .int 0, .int 0]))] : va_W) ++ (([(q1, .inl (G.2.2.2.1, 60, .inl (fun _ => 0)))] : va_W))) rfl ?_
  refine V_putF (w' := ([(a, .inr (3, [.ref (q1), .null, .null, .null, .int 0, .int 0, .int 0]))] : va_W) ++ (([(q1, .inl (G.2.2.2.1, 60, .inl (fun _ => 0)))] : va_W))) hX cbX3 0 0 (by decide) wf_X3_9 rfl rfl rfl rfl rfl rfl rfl rfl (Nat.le_of_ble_eq_true rfl) dX3_init_9 rfl ?_
  refine V_aload_n hX dX3_init_12 0 rfl ?_
  refine V_bipush hX dX3_init_13 (by decide) ?_
  refine V_newai (N := 30) (k' := 2) (n' := 90) hX (by decide) (Nat.le_of_ble_eq_true rfl) (Nat.le_of_ble_eq_true rfl) dX3_init_15 rfl rfl (fun q2 => ?_)
  refine V.wd (w' := ([(a, .inr (3, [.ref (q1), .null, .null, .null, .int 0, .int 0, .int 0]))] : va_W) ++ (([(q1, .inl (G.2.2.2.1, 60, .inl (fun _ => 0)))] : va_W) ++ (([(q2, .inl (G.2.1, 30, .inl (fun _ => 0)))] : va_W)))) rfl ?_
  refine V_putF (w' := ([(a, .inr (3, [.ref (q1), .ref (q2), .null, .null, .int 0, .int 0, .int 0]))] : va_W) ++ (([(q1, .inl (G.2.2.2.1, 60, .inl (fun _ => 0)))] : va_W) ++ (([(q2, .inl (G.2.1, 30, .inl (fun _ => 0)))] : va_W)))) hX cbX3 1 0 (by decide) wf_X3_15 rfl rfl rfl rfl rfl rfl rfl rfl (Nat.le_of_ble_eq_true rfl) dX3_init_17 rfl ?_
  refine V_aload_n hX dX3_init_20 0 rfl ?_
  refine V_bipush hX dX3_init_21 (by decide) ?_
  refine V_newai (N := 30) (k' := 3) (n' := 120) hX (by decide) (Nat.le_of_ble_eq_true rfl) (Nat.le_of_ble_eq_true rfl) dX3_init_23 rfl rfl (fun q3 => ?_)
  refine V.wd (w' := ([(a, .inr (3, [.ref (q1), .ref (q2), .null, .null, .int 0, .int 0, .int 0]))] : va_W) ++ (([(q1, .inl (G.2.2.2.1, 60, .inl (fun _ => 0)))] : va_W) ++ (([(q2, .inl (G.2.1, 30, .inl (fun _ => 0)))] : va_W) ++ (([(q3, .inl (G.2.1, 30, .inl (fun _ => 0)))] : va_W))))) rfl ?_
  refine V_putF (w' := ([(a, .inr (3, [.ref (q1), .ref (q2), .ref (q3), .null, .int 0, .int 0, .int 0]))] : va_W) ++ (([(q1, .inl (G.2.2.2.1, 60, .inl (fun _ => 0)))] : va_W) ++ (([(q2, .inl (G.2.1, 30, .inl (fun _ => 0)))] : va_W) ++ (([(q3, .inl (G.2.1, 30, .inl (fun _ => 0)))] : va_W))))) hX cbX3 2 0 (by decide) wf_X3_19 rfl rfl rfl rfl rfl rfl rfl rfl (Nat.le_of_ble_eq_true rfl) dX3_init_25 rfl ?_
  refine V_aload_n hX dX3_init_28 0 rfl ?_
  refine V_bipush hX dX3_init_29 (by decide) ?_
  refine V_newai (N := 30) (k' := 4) (n' := 150) hX (by decide) (Nat.le_of_ble_eq_true rfl) (Nat.le_of_ble_eq_true rfl) dX3_init_31 rfl rfl (fun q4 => ?_)
  refine V.wd (w' := ([(a, .inr (3, [.ref (q1), .ref (q2), .ref (q3), .null, .int 0, .int 0, .int 0]))] : va_W) ++ (([(q1, .inl (G.2.2.2.1, 60, .inl (fun _ => 0)))] : va_W) ++ (([(q2, .inl (G.2.1, 30, .inl (fun _ => 0)))] : va_W) ++ (([(q3, .inl (G.2.1, 30, .inl (fun _ => 0)))] : va_W) ++ (([(q4, .inl (G.2.1, 30, .inl (fun _ => 0)))] : va_W)))))) rfl ?_
  refine V_putF (w' := ([(a, .inr (3, [.ref (q1), .ref (q2), .ref (q3), .ref (q4), .int 0, .int 0, .int 0]))] : va_W) ++ (([(q1, .inl (G.2.2.2.1, 60, .inl (fun _ => 0)))] : va_W) ++ (([(q2, .inl (G.2.1, 30, .inl (fun _ => 0)))] : va_W) ++ (([(q3, .inl (G.2.1, 30, .inl (fun _ => 0)))] : va_W) ++ (([(q4, .inl (G.2.1, 30, .inl (fun _ => 0)))] : va_W)))))) hX cbX3 3 0 (by decide) wf_X3_22 rfl rfl rfl rfl rfl rfl rfl rfl (Nat.le_of_ble_eq_true rfl) dX3_init_33 rfl ?_
  refine V.wd (w' := sB G (ad11 a q1 q2 q3 q4 q4 q4 q4 q4 q4 q4) (fun _ => 0) (fun _ => 0) (fun _ => 0) (fun _ => 0) 0 0 0) rfl ?_
  exact V_vret hX hR dX3_init_36 ⟨rfl, _, rfl, rfl⟩

set_option maxHeartbeats 4000000 in
set_option maxRecDepth 100000 in
theorem c_X5_init (l : Launch) (G : vC) (a : Nat)  : Ct l G yX5_init cX5_init 2 none ({ frames := 1, cells := 5, slots := 1103, locals := 14 } : Room) [.ref (a)] (([(a, .inr (5, [.null, .null, .null, .int 0, .null, .int 0, .null, .int 0, .int 0, .int 0, .int 0, .int 0, .int 0, .int 0]))] : va_W)) (fun v u => v = none ∧ ∃ m : Nat → Nat, m 0 = a ∧ u = mB G m hz0 (fun _ => 0) (fun _ => 0) (fun _ => 0) (fun _ => 0) 0 0 0 0 0 0 0 0 0) := by
  refine Ct.of (by decide) (Nat.le_of_ble_eq_true rfl) (fun X hX hR => ?_)
  refine V.toLv (lv' := [(0, .ref a)]) rfl ?_
  refine V_aload_n hX dX5_init_0 0 rfl ?_
  refine V_objInit hX dX5_init_1 wo_X5_1 (by decide) (Nat.le_of_ble_eq_true rfl) ?_
  refine V_aload_n hX dX5_init_4 0 rfl ?_
  refine V_sipush hX dX5_init_5 (by decide) ?_
  refine V_newai (N := 149) (k' := 1) (n' := 149) hX (by decide) (Nat.le_of_ble_eq_true rfl) (Nat.le_of_ble_eq_true rfl) dX5_init_8 rfl rfl (fun q1 => ?_)
  refine V.wd (w' := ([(a, .inr (5, [.null, .null, .null, .int 0, .null, .int 0, .null, .int 0, .int 0, .int 0, .int 0, .int 0, .int 0, .int 0]))] : va_W) ++ (([(q1, .inl (G.2.1, 149, .inl (fun _ => 0)))] : va_W))) rfl ?_
  refine V_putF (w' := ([(a, .inr (5, [.ref (q1), .null, .null, .int 0, .null, .int 0, .null, .int 0, .int 0, .int 0, .int 0, .int 0, .int 0, .int 0]))] : va_W) ++ (([(q1, .inl (G.2.1, 149, .inl (fun _ => 0)))] : va_W))) hX cbX5 0 0 (by decide) wf_X5_7 rfl rfl rfl rfl rfl rfl rfl rfl (Nat.le_of_ble_eq_true rfl) dX5_init_10 rfl ?_
  refine V_aload_n hX dX5_init_13 0 rfl ?_
  refine V_sipush hX dX5_init_14 (by decide) ?_
  refine V_newai (N := 149) (k' := 2) (n' := 298) hX (by decide) (Nat.le_of_ble_eq_true rfl) (Nat.le_of_ble_eq_true rfl) dX5_init_17 rfl rfl (fun q2 => ?_)
  refine V.wd (w' := ([(a, .inr (5, [.ref (q1), .null, .null, .int 0, .null, .int 0, .null, .int 0, .int 0, .int 0, .int 0, .int 0, .int 0, .int 0]))] : va_W) ++ (([(q1, .inl (G.2.1, 149, .inl (fun _ => 0)))] : va_W) ++ (([(q2, .inl (G.2.1, 149, .inl (fun _ => 0)))] : va_W)))) rfl ?_
  refine V_putF (w' := ([(a, .inr (5, [.ref (q1), .ref (q2), .null, .int 0, .null, .int 0, .null, .int 0, .int 0, .int 0, .int 0, .int 0, .int 0, .int 0]))] : va_W) ++ (([(q1, .inl (G.2.1, 149, .inl (fun _ => 0)))] : va_W) ++ (([(q2, .inl (G.2.1, 149, .inl (fun _ => 0)))] : va_W)))) hX cbX5 1 0 (by decide) wf_X5_13 rfl rfl rfl rfl rfl rfl rfl rfl (Nat.le_of_ble_eq_true rfl) dX5_init_19 rfl ?_
  refine V_aload_n hX dX5_init_22 0 rfl ?_
  refine V_sipush hX dX5_init_23 (by decide) ?_
  refine V_newai (N := 596) (k' := 3) (n' := 894) hX (by decide) (Nat.le_of_ble_eq_true rfl) (Nat.le_of_ble_eq_true rfl) dX5_init_26 rfl rfl (fun q3 => ?_)
  refine V.wd (w' := ([(a, .inr (5, [.ref (q1), .ref (q2), .null, .int 0, .null, .int 0, .null, .int 0, .int 0, .int 0, .int 0, .int 0, .int 0, .int 0]))] : va_W) ++ (([(q1, .inl (G.2.1, 149, .inl (fun _ => 0)))] : va_W) ++ (([(q2, .inl (G.2.1, 149, .inl (fun _ => 0)))] : va_W) ++ (([(q3, .inl (G.2.1, 596, .inl (fun _ => 0)))] : va_W))))) rfl ?_
  refine V_putF (w' := ([(a, .inr (5, [.ref (q1), .ref (q2), .ref (q3), .int 0, .null, .int 0, .null, .int 0, .int 0, .int 0, .int 0, .int 0, .int 0, .int 0]))] : va_W) ++ (([(q1, .inl (G.2.1, 149, .inl (fun _ => 0)))] : va_W) ++ (([(q2, .inl (G.2.1, 149, .inl (fun _ => 0)))] : va_W) ++ (([(q3, .inl (G.2.1, 596, .inl (fun _ => 0)))] : va_W))))) hX cbX5 2 0 (by decide) wf_X5_16 rfl rfl rfl rfl rfl rfl rfl rfl (Nat.le_of_ble_eq_true rfl) dX5_init_28 rfl ?_
  refine V_aload_n hX dX5_init_31 0 rfl ?_
  refine V_sipush hX dX5_init_32 (by decide) ?_
  refine V_newai (N := 149) (k' := 4) (n' := 1043) hX (by decide) (Nat.le_of_ble_eq_true rfl) (Nat.le_of_ble_eq_true rfl) dX5_init_35 rfl rfl (fun q4 => ?_)
  refine V.wd (w' := ([(a, .inr (5, [.ref (q1), .ref (q2), .ref (q3), .int 0, .null, .int 0, .null, .int 0, .int 0, .int 0, .int 0, .int 0, .int 0, .int 0]))] : va_W) ++ (([(q1, .inl (G.2.1, 149, .inl (fun _ => 0)))] : va_W) ++ (([(q2, .inl (G.2.1, 149, .inl (fun _ => 0)))] : va_W) ++ (([(q3, .inl (G.2.1, 596, .inl (fun _ => 0)))] : va_W) ++ (([(q4, .inl (G.2.1, 149, .inl (fun _ => 0)))] : va_W)))))) rfl ?_
  refine V_putF (w' := ([(a, .inr (5, [.ref (q1), .ref (q2), .ref (q3), .int 0, .ref (q4), .int 0, .null, .int 0, .int 0, .int 0, .int 0, .int 0, .int 0, .int 0]))] : va_W) ++ (([(q1, .inl (G.2.1, 149, .inl (fun _ => 0)))] : va_W) ++ (([(q2, .inl (G.2.1, 149, .inl (fun _ => 0)))] : va_W) ++ (([(q3, .inl (G.2.1, 596, .inl (fun _ => 0)))] : va_W) ++ (([(q4, .inl (G.2.1, 149, .inl (fun _ => 0)))] : va_W)))))) hX cbX5 4 0 (by decide) wf_X5_19 rfl rfl rfl rfl rfl rfl rfl rfl (Nat.le_of_ble_eq_true rfl) dX5_init_37 rfl ?_
  refine V_aload_n hX dX5_init_40 0 rfl ?_
  refine V_bipush hX dX5_init_41 (by decide) ?_
  refine V_newai (N := 60) (k' := 5) (n' := 1103) hX (by decide) (Nat.le_of_ble_eq_true rfl) (Nat.le_of_ble_eq_true rfl) dX5_init_43 rfl rfl (fun q5 => ?_)
  refine V.wd (w' := ([(a, .inr (5, [.ref (q1), .ref (q2), .ref (q3), .int 0, .ref (q4), .int 0, .null, .int 0, .int 0, .int 0, .int 0, .int 0, .int 0, .int 0]))] : va_W) ++ (([(q1, .inl (G.2.1, 149, .inl (fun _ => 0)))] : va_W) ++ (([(q2, .inl (G.2.1, 149, .inl (fun _ => 0)))] : va_W) ++ (([(q3, .inl (G.2.1, 596, .inl (fun _ => 0)))] : va_W) ++ (([(q4, .inl (G.2.1, 149, .inl (fun _ => 0)))] : va_W) ++ (([(q5, .inl (G.2.1, 60, .inl (fun _ => 0)))] : va_W))))))) rfl ?_
  refine V_putF (w' := ([(a, .inr (5, [.ref (q1), .ref (q2), .ref (q3), .int 0, .ref (q4), .int 0, .ref (q5), .int 0, .int 0, .int 0, .int 0, .int 0, .int 0, .int 0]))] : va_W) ++ (([(q1, .inl (G.2.1, 149, .inl (fun _ => 0)))] : va_W) ++ (([(q2, .inl (G.2.1, 149, .inl (fun _ => 0)))] : va_W) ++ (([(q3, .inl (G.2.1, 596, .inl (fun _ => 0)))] : va_W) ++ (([(q4, .inl (G.2.1, 149, .inl (fun _ => 0)))] : va_W) ++ (([(q5, .inl (G.2.1, 60, .inl (fun _ => 0)))] : va_W))))))) hX cbX5 6 0 (by decide) wf_X5_22 rfl rfl rfl rfl rfl rfl rfl rfl (Nat.le_of_ble_eq_true rfl) dX5_init_45 rfl ?_
  refine V_aload_n hX dX5_init_48 0 rfl ?_
  refine V_get (v := .ref (q1)) hX cbX5 0 0 (by decide) wf_X5_7 rfl rfl rfl rfl dX5_init_49 ?_
  refine V_iconst hX dX5_init_52 ?_
  refine V_iconst hX dX5_init_53 ?_
  refine V_iast (i0 := 1) (w' := ([(a, .inr (5, [.ref (q1), .ref (q2), .ref (q3), .int 0, .ref (q4), .int 0, .ref (q5), .int 0, .int 0, .int 0, .int 0, .int 0, .int 0, .int 0]))] : va_W) ++ (([(q1, .inl (G.2.1, 149, .inl (upd (fun _ => 0) 1 (jI (2)))))] : va_W) ++ (([(q2, .inl (G.2.1, 149, .inl (fun _ => 0)))] : va_W) ++ (([(q3, .inl (G.2.1, 596, .inl (fun _ => 0)))] : va_W) ++ (([(q4, .inl (G.2.1, 149, .inl (fun _ => 0)))] : va_W) ++ (([(q5, .inl (G.2.1, 60, .inl (fun _ => 0)))] : va_W))))))) hX 1 rfl (by decide) (by decide) (by decide) rfl dX5_init_54 rfl ?_
  refine V_aload_n hX dX5_init_55 0 rfl ?_
  refine V_get (v := .ref (q1)) hX cbX5 0 0 (by decide) wf_X5_7 rfl rfl rfl rfl dX5_init_56 ?_
  refine V_iconst hX dX5_init_59 ?_
  refine V_sipush hX dX5_init_60 (by decide) ?_
  refine V_iast (i0 := 5) (w' := ([(a, .inr (5, [.ref (q1), .ref (q2), .ref (q3), .int 0, .ref (q4), .int 0, .ref (q5), .int 0, .int 0, .int 0, .int 0, .int 0, .int 0, .int 0]))] : va_W) ++ (([(q1, .inl (G.2.1, 149, .inl (upd (upd (fun _ => 0) 1 (jI (2))) 5 (jI (640)))))] : va_W) ++ (([(q2, .inl (G.2.1, 149, .inl (fun _ => 0)))] : va_W) ++ (([(q3, .inl (G.2.1, 596, .inl (fun _ => 0)))] : va_W) ++ (([(q4, .inl (G.2.1, 149, .inl (fun _ => 0)))] : va_W) ++ (([(q5, .inl (G.2.1, 60, .inl (fun _ => 0)))] : va_W))))))) hX 1 rfl (by decide) (by decide) (by decide) rfl dX5_init_63 rfl ?_
  refine V_aload_n hX dX5_init_64 0 rfl ?_
  refine V_get (v := .ref (q1)) hX cbX5 0 0 (by decide) wf_X5_7 rfl rfl rfl rfl dX5_init_65 ?_
  refine V_bipush hX dX5_init_68 (by decide) ?_
  refine V_bipush hX dX5_init_70 (by decide) ?_
  refine V_iast (i0 := 9) (w' := ([(a, .inr (5, [.ref (q1), .ref (q2), .ref (q3), .int 0, .ref (q4), .int 0, .ref (q5), .int 0, .int 0, .int 0, .int 0, .int 0, .int 0, .int 0]))] : va_W) ++ (([(q1, .inl (G.2.1, 149, .inl (upd (upd (upd (fun _ => 0) 1 (jI (2))) 5 (jI (640))) 9 (jI (-5)))))] : va_W) ++ (([(q2, .inl (G.2.1, 149, .inl (fun _ => 0)))] : va_W) ++ (([(q3, .inl (G.2.1, 596, .inl (fun _ => 0)))] : va_W) ++ (([(q4, .inl (G.2.1, 149, .inl (fun _ => 0)))] : va_W) ++ (([(q5, .inl (G.2.1, 60, .inl (fun _ => 0)))] : va_W))))))) hX 1 rfl (by decide) (by decide) (by decide) rfl dX5_init_72 rfl ?_
  refine V_iconst hX dX5_init_73 ?_
  refine V_istore_n (i := 1) (lv' := [(1, .int (jI 0)), (0, .ref (a))]) hX dX5_init_74 rfl (by decide) rfl ?_
  refine V_iload_n hX dX5_init_75 0 rfl ?_
  refine V_bipush hX dX5_init_76 (by decide) ?_
  refine V_icmp_ge (tgt := 97) hX dX5_init_78 (by decide) (by decide) (by decide) (fun c6 => absurd c6 (by decide)) (fun c6 => ?_)
  refine V_aload_n hX dX5_init_81 1 rfl ?_
  refine V_get (v := .ref (q1)) hX cbX5 0 0 (by decide) wf_X5_7 rfl rfl rfl rfl dX5_init_82 ?_
  refine V_bipush hX dX5_init_85 (by decide) ?_
  refine V_iload_n hX dX5_init_87 0 rfl ?_
  refine V_iadd (c := 11) hX dX5_init_88 rfl ?_
  refine V_iconst hX dX5_init_89 ?_
  refine V_iast (i0 := 11) (w' := ([(a, .inr (5, [.ref (q1), .ref (q2), .ref (q3), .int 0, .ref (q4), .int 0, .ref (q5), .int 0, .int 0, .int 0, .int 0, .int 0, .int 0, .int 0]))] : va_W) ++ (([(q1, .inl (G.2.1, 149, .inl (upd (upd (upd (upd (fun _ => 0) 1 (jI (2))) 5 (jI (640))) 9 (jI (-5))) 11 (jI (1)))))] : va_W) ++ (([(q2, .inl (G.2.1, 149, .inl (fun _ => 0)))] : va_W) ++ (([(q3, .inl (G.2.1, 596, .inl (fun _ => 0)))] : va_W) ++ (([(q4, .inl (G.2.1, 149, .inl (fun _ => 0)))] : va_W) ++ (([(q5, .inl (G.2.1, 60, .inl (fun _ => 0)))] : va_W))))))) hX 1 rfl (by decide) (by decide) (by decide) rfl dX5_init_90 rfl ?_
  refine V_iinc (b := 1) (lv' := [(1, .int (jI 1)), (0, .ref (a))]) hX dX5_init_91 0 rfl rfl (by decide) rfl ?_
  refine V_goto (tgt := 75) hX dX5_init_94 (by decide) ?_
  refine V_iload_n hX dX5_init_75 0 rfl ?_
  refine V_bipush hX dX5_init_76 (by decide) ?_
  refine V_icmp_ge (tgt := 97) hX dX5_init_78 (by decide) (by decide) (by decide) (fun c7 => absurd c7 (by decide)) (fun c7 => ?_)
  refine V_aload_n hX dX5_init_81 1 rfl ?_
  refine V_get (v := .ref (q1)) hX cbX5 0 0 (by decide) wf_X5_7 rfl rfl rfl rfl dX5_init_82 ?_
  refine V_bipush hX dX5_init_85 (by decide) ?_
  refine V_iload_n hX dX5_init_87 0 rfl ?_
  refine V_iadd (c := 12) hX dX5_init_88 rfl ?_
  refine V_iconst hX dX5_init_89 ?_
  refine V_iast (i0 := 12) (w' := ([(a, .inr (5, [.ref (q1), .ref (q2), .ref (q3), .int 0, .ref (q4), .int 0, .ref (q5), .int 0, .int 0, .int 0, .int 0, .int 0, .int 0, .int 0]))] : va_W) ++ (([(q1, .inl (G.2.1, 149, .inl (upd (upd (upd (upd (upd (fun _ => 0) 1 (jI (2))) 5 (jI (640))) 9 (jI (-5))) 11 (jI (1))) 12 (jI (1)))))] : va_W) ++ (([(q2, .inl (G.2.1, 149, .inl (fun _ => 0)))] : va_W) ++ (([(q3, .inl (G.2.1, 596, .inl (fun _ => 0)))] : va_W) ++ (([(q4, .inl (G.2.1, 149, .inl (fun _ => 0)))] : va_W) ++ (([(q5, .inl (G.2.1, 60, .inl (fun _ => 0)))] : va_W))))))) hX 1 rfl (by decide) (by decide) (by decide) rfl dX5_init_90 rfl ?_
  refine V_iinc (b := 2) (lv' := [(1, .int (jI 2)), (0, .ref (a))]) hX dX5_init_91 0 rfl rfl (by decide) rfl ?_
  refine V_goto (tgt := 75) hX dX5_init_94 (by decide) ?_
  refine V_iload_n hX dX5_init_75 0 rfl ?_
  refine V_bipush hX dX5_init_76 (by decide) ?_
  refine V_icmp_ge (tgt := 97) hX dX5_init_78 (by decide) (by decide) (by decide) (fun c8 => absurd c8 (by decide)) (fun c8 => ?_)
  refine V_aload_n hX dX5_init_81 1 rfl ?_
  refine V_get (v := .ref (q1)) hX cbX5 0 0 (by decide) wf_X5_7 rfl rfl rfl rfl dX5_init_82 ?_
  refine V_bipush hX dX5_init_85 (by decide) ?_
  refine V_iload_n hX dX5_init_87 0 rfl ?_
  refine V_iadd (c := 13) hX dX5_init_88 rfl ?_
  refine V_iconst hX dX5_init_89 ?_
  refine V_iast (i0 := 13) (w' := ([(a, .inr (5, [.ref (q1), .ref (q2), .ref (q3), .int 0, .ref (q4), .int 0, .ref (q5), .int 0, .int 0, .int 0, .int 0, .int 0, .int 0, .int 0]))] : va_W) ++ (([(q1, .inl (G.2.1, 149, .inl (upd (upd (upd (upd (upd (upd (fun _ => 0) 1 (jI (2))) 5 (jI (640))) 9 (jI (-5))) 11 (jI (1))) 12 (jI (1))) 13 (jI (1)))))] : va_W) ++ (([(q2, .inl (G.2.1, 149, .inl (fun _ => 0)))] : va_W) ++ (([(q3, .inl (G.2.1, 596, .inl (fun _ => 0)))] : va_W) ++ (([(q4, .inl (G.2.1, 149, .inl (fun _ => 0)))] : va_W) ++ (([(q5, .inl (G.2.1, 60, .inl (fun _ => 0)))] : va_W))))))) hX 1 rfl (by decide) (by decide) (by decide) rfl dX5_init_90 rfl ?_
  refine V_iinc (b := 3) (lv' := [(1, .int (jI 3)), (0, .ref (a))]) hX dX5_init_91 0 rfl rfl (by decide) rfl ?_
  refine V_goto (tgt := 75) hX dX5_init_94 (by decide) ?_
  refine V_iload_n hX dX5_init_75 0 rfl ?_
  refine V_bipush hX dX5_init_76 (by decide) ?_
  refine V_icmp_ge (tgt := 97) hX dX5_init_78 (by decide) (by decide) (by decide) (fun c9 => absurd c9 (by decide)) (fun c9 => ?_)
  refine V_aload_n hX dX5_init_81 1 rfl ?_
  refine V_get (v := .ref (q1)) hX cbX5 0 0 (by decide) wf_X5_7 rfl rfl rfl rfl dX5_init_82 ?_
  refine V_bipush hX dX5_init_85 (by decide) ?_
  refine V_iload_n hX dX5_init_87 0 rfl ?_
  refine V_iadd (c := 14) hX dX5_init_88 rfl ?_
  refine V_iconst hX dX5_init_89 ?_
  refine V_iast (i0 := 14) (w' := ([(a, .inr (5, [.ref (q1), .ref (q2), .ref (q3), .int 0, .ref (q4), .int 0, .ref (q5), .int 0, .int 0, .int 0, .int 0, .int 0, .int 0, .int 0]))] : va_W) ++ (([(q1, .inl (G.2.1, 149, .inl (upd (upd (upd (upd (upd (upd (upd (fun _ => 0) 1 (jI (2))) 5 (jI (640))) 9 (jI (-5))) 11 (jI (1))) 12 (jI (1))) 13 (jI (1))) 14 (jI (1)))))] : va_W) ++ (([(q2, .inl (G.2.1, 149, .inl (fun _ => 0)))] : va_W) ++ (([(q3, .inl (G.2.1, 596, .inl (fun _ => 0)))] : va_W) ++ (([(q4, .inl (G.2.1, 149, .inl (fun _ => 0)))] : va_W) ++ (([(q5, .inl (G.2.1, 60, .inl (fun _ => 0)))] : va_W))))))) hX 1 rfl (by decide) (by decide) (by decide) rfl dX5_init_90 rfl ?_
  refine V_iinc (b := 4) (lv' := [(1, .int (jI 4)), (0, .ref (a))]) hX dX5_init_91 0 rfl rfl (by decide) rfl ?_
  refine V_goto (tgt := 75) hX dX5_init_94 (by decide) ?_
  refine V_iload_n hX dX5_init_75 0 rfl ?_
  refine V_bipush hX dX5_init_76 (by decide) ?_
  refine V_icmp_ge (tgt := 97) hX dX5_init_78 (by decide) (by decide) (by decide) (fun c10 => absurd c10 (by decide)) (fun c10 => ?_)
  refine V_aload_n hX dX5_init_81 1 rfl ?_
  refine V_get (v := .ref (q1)) hX cbX5 0 0 (by decide) wf_X5_7 rfl rfl rfl rfl dX5_init_82 ?_
  refine V_bipush hX dX5_init_85 (by decide) ?_
  refine V_iload_n hX dX5_init_87 0 rfl ?_
  refine V_iadd (c := 15) hX dX5_init_88 rfl ?_
  refine V_iconst hX dX5_init_89 ?_
  refine V_iast (i0 := 15) (w' := ([(a, .inr (5, [.ref (q1), .ref (q2), .ref (q3), .int 0, .ref (q4), .int 0, .ref (q5), .int 0, .int 0, .int 0, .int 0, .int 0, .int 0, .int 0]))] : va_W) ++ (([(q1, .inl (G.2.1, 149, .inl (upd (upd (upd (upd (upd (upd (upd (upd (fun _ => 0) 1 (jI (2))) 5 (jI (640))) 9 (jI (-5))) 11 (jI (1))) 12 (jI (1))) 13 (jI (1))) 14 (jI (1))) 15 (jI (1)))))] : va_W) ++ (([(q2, .inl (G.2.1, 149, .inl (fun _ => 0)))] : va_W) ++ (([(q3, .inl (G.2.1, 596, .inl (fun _ => 0)))] : va_W) ++ (([(q4, .inl (G.2.1, 149, .inl (fun _ => 0)))] : va_W) ++ (([(q5, .inl (G.2.1, 60, .inl (fun _ => 0)))] : va_W))))))) hX 1 rfl (by decide) (by decide) (by decide) rfl dX5_init_90 rfl ?_
  refine V_iinc (b := 5) (lv' := [(1, .int (jI 5)), (0, .ref (a))]) hX dX5_init_91 0 rfl rfl (by decide) rfl ?_
  refine V_goto (tgt := 75) hX dX5_init_94 (by decide) ?_
  refine V_iload_n hX dX5_init_75 0 rfl ?_
  refine V_bipush hX dX5_init_76 (by decide) ?_
  refine V_icmp_ge (tgt := 97) hX dX5_init_78 (by decide) (by decide) (by decide) (fun c11 => absurd c11 (by decide)) (fun c11 => ?_)
  refine V_aload_n hX dX5_init_81 1 rfl ?_
  refine V_get (v := .ref (q1)) hX cbX5 0 0 (by decide) wf_X5_7 rfl rfl rfl rfl dX5_init_82 ?_
  refine V_bipush hX dX5_init_85 (by decide) ?_
  refine V_iload_n hX dX5_init_87 0 rfl ?_
  refine V_iadd (c := 16) hX dX5_init_88 rfl ?_
  refine V_iconst hX dX5_init_89 ?_
  refine V_iast (i0 := 16) (w' := ([(a, .inr (5, [.ref (q1), .ref (q2), .ref (q3), .int 0, .ref (q4), .int 0, .ref (q5), .int 0, .int 0, .int 0, .int 0, .int 0, .int 0, .int 0]))] : va_W) ++ (([(q1, .inl (G.2.1, 149, .inl (upd (upd (upd (upd (upd (upd (upd (upd (upd (fun _ => 0) 1 (jI (2))) 5 (jI (640))) 9 (jI (-5))) 11 (jI (1))) 12 (jI (1))) 13 (jI (1))) 14 (jI (1))) 15 (jI (1))) 16 (jI (1)))))] : va_W) ++ (([(q2, .inl (G.2.1, 149, .inl (fun _ => 0)))] : va_W) ++ (([(q3, .inl (G.2.1, 596, .inl (fun _ => 0)))] : va_W) ++ (([(q4, .inl (G.2.1, 149, .inl (fun _ => 0)))] : va_W) ++ (([(q5, .inl (G.2.1, 60, .inl (fun _ => 0)))] : va_W))))))) hX 1 rfl (by decide) (by decide) (by decide) rfl dX5_init_90 rfl ?_
  refine V_iinc (b := 6) (lv' := [(1, .int (jI 6)), (0, .ref (a))]) hX dX5_init_91 0 rfl rfl (by decide) rfl ?_
  refine V_goto (tgt := 75) hX dX5_init_94 (by decide) ?_
  refine V_iload_n hX dX5_init_75 0 rfl ?_
  refine V_bipush hX dX5_init_76 (by decide) ?_
  refine V_icmp_ge (tgt := 97) hX dX5_init_78 (by decide) (by decide) (by decide) (fun c12 => ?_) (fun c12 => absurd c12 (by decide))
  refine V.wd (w' := mB G (ad11 a q1 q2 q3 q4 q5 q5 q5 q5 q5 q5) hz0 (fun _ => 0) (fun _ => 0) (fun _ => 0) (fun _ => 0) 0 0 0 0 0 0 0 0 0) (by unfold mB; rw [hz0_m]; rfl) ?_
  exact V_vret hX hR dX5_init_97 ⟨rfl, _, rfl, rfl⟩
