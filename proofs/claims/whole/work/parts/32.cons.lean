/-! the start of a house -/
def hz0 : Nat → Int := fun j => if j = 1 then 2 else if j = 5 then 640 else if j = 9 then -5 else if 11 ≤ j ∧ j < 17 then 1 else 0
theorem hz0_hi {j : Nat} (h : 17 ≤ j) : hz0 j = 0 := by
  unfold hz0
  rw [if_neg (by omega), if_neg (by omega), if_neg (by omega), if_neg (by omega)]
theorem hz0_v (c : Nat) : hv hz0 c = fun _ => 0 := by
  funext k
  show jI (hz0 (ix k c)) = 0
  rw [hz0_hi (by unfold ix; omega)]
  rfl
theorem hz0_c : hcr hz0 = fun _ => 0 := by
  funext k
  show jI (hz0 (ix (k / 4) (5 + k % 4))) = 0
  rw [hz0_hi (by unfold ix; omega)]
  rfl
theorem hz0_se : hse hz0 = upd (upd (upd (upd (upd (upd (fun _ => 0) 0 (jI 1)) 1 (jI 1)) 2 (jI 1)) 3 (jI 1)) 4 (jI 1)) 5 (jI 1) := by
  funext k
  by_cases h : k < 6
  · rcases (by omega : k = 0 ∨ k = 1 ∨ k = 2 ∨ k = 3 ∨ k = 4 ∨ k = 5) with rfl | rfl | rfl | rfl | rfl | rfl <;> rfl
  · unfold hse upd
    rw [if_neg h, if_neg (by omega), if_neg (by omega), if_neg (by omega), if_neg (by omega), if_neg (by omega), if_neg (by omega)]
theorem hz0_st : hst hz0 = upd (fun _ => 0) 1 (jI 2) := by
  funext k
  by_cases h : k < 2
  · rcases (by omega : k = 0 ∨ k = 1) with rfl | rfl <;> rfl
  · unfold hst upd
    rw [if_neg h, if_neg (by omega)]
def ad11 (a b c d e f g h i j k : Nat) : Nat → Nat := fun n => match n with
  | 0 => a
  | 1 => b
  | 2 => c
  | 3 => d
  | 4 => e
  | 5 => f
  | 6 => g
  | 7 => h
  | 8 => i
  | 9 => j
  | _ => k
theorem fits_bI (c : Prop) [Decidable c] : fits .boolean (.int (jI (bI c))) = true := by unfold bI; split <;> rfl
theorem mI_0 : mI (fun _ => 0) = fun _ => 0 := rfl

set_option maxHeartbeats 4000000 in
set_option maxRecDepth 100000 in
theorem c_X1_init (l : Launch) (G : vC) (a : Nat)  : Ct l G yX1_init cX1_init 2 none ({ frames := 1, cells := 10, slots := 140, locals := 14 } : Room) [.ref (a)] (([(a, .inr (1, [.null, .null, .null, .null, .null, .null, .null, .null, .null, .null, .int 0, .int 0, .int 0, .int 0, .int 0, .int 0, .int 0]))] : va_W)) (fun v u => v = none ∧ ∃ h : Nat → Nat, h 0 = a ∧ u = hB G h hz0) := by
  refine Ct.of (by decide) (Nat.le_of_ble_eq_true rfl) (fun X hX hR => ?_)
  refine V.toLv (lv' := [(0, .ref a)]) rfl ?_
  refine V_aload_n hX dX1_init_0 0 rfl ?_
  refine V_objInit hX dX1_init_1 wo_X1_3 (by decide) (Nat.le_of_ble_eq_true rfl) ?_
  refine V_aload_n hX dX1_init_4 0 rfl ?_
  refine V_bipush hX dX1_init_5 (by decide) ?_
  refine V_newai (N := 12) (k' := 1) (n' := 12) hX (by decide) (Nat.le_of_ble_eq_true rfl) (Nat.le_of_ble_eq_true rfl) dX1_init_7 rfl rfl (fun q1 => ?_)
  refine V.wd (w' := ([(a, .inr (1, [.null, .null, .null, .null, .null, .null, .null, .null, .null, .null, .int 0, .int 0, .int 0, .int 0, .int 0, .int 0, .int 0]))] : va_W) ++ (([(q1, .inl (G.2.1, 12, .inl (fun _ => 0)))] : va_W))) rfl ?_
  refine V_putF (w' := ([(a, .inr (1, [.ref (q1), .null, .null, .null, .null, .null, .null, .null, .null, .null, .int 0, .int 0, .int 0, .int 0, .int 0, .int 0, .int 0]))] : va_W) ++ (([(q1, .inl (G.2.1, 12, .inl (fun _ => 0)))] : va_W))) hX cbX1 0 0 (by decide) wf_X1_9 rfl rfl rfl rfl rfl rfl rfl rfl (Nat.le_of_ble_eq_true rfl) dX1_init_9 rfl ?_
  refine V_aload_n hX dX1_init_12 0 rfl ?_
  refine V_bipush hX dX1_init_13 (by decide) ?_
  refine V_newai (N := 12) (k' := 2) (n' := 24) hX (by decide) (Nat.le_of_ble_eq_true rfl) (Nat.le_of_ble_eq_true rfl) dX1_init_15 rfl rfl (fun q2 => ?_)
  refine V.wd (w' := ([(a, .inr (1, [.ref (q1), .null, .null, .null, .null, .null, .null, .null, .null, .null, .int 0, .int 0, .int 0, .int 0, .int 0, .int 0, .int 0]))] : va_W) ++ (([(q1, .inl (G.2.1, 12, .inl (fun _ => 0)))] : va_W) ++ (([(q2, .inl (G.2.1, 12, .inl (fun _ => 0)))] : va_W)))) rfl ?_
  refine V_putF (w' := ([(a, .inr (1, [.ref (q1), .ref (q2), .null, .null, .null, .null, .null, .null, .null, .null, .int 0, .int 0, .int 0, .int 0, .int 0, .int 0, .int 0]))] : va_W) ++ (([(q1, .inl (G.2.1, 12, .inl (fun _ => 0)))] : va_W) ++ (([(q2, .inl (G.2.1, 12, .inl (fun _ => 0)))] : va_W)))) hX cbX1 1 0 (by decide) wf_X1_15 rfl rfl rfl rfl rfl rfl rfl rfl (Nat.le_of_ble_eq_true rfl) dX1_init_17 rfl ?_
  refine V_aload_n hX dX1_init_20 0 rfl ?_
  refine V_bipush hX dX1_init_21 (by decide) ?_
  refine V_newai (N := 12) (k' := 3) (n' := 36) hX (by decide) (Nat.le_of_ble_eq_true rfl) (Nat.le_of_ble_eq_true rfl) dX1_init_23 rfl rfl (fun q3 => ?_)
  refine V.wd (w' := ([(a, .inr (1, [.ref (q1), .ref (q2), .null, .null, .null, .null, .null, .null, .null, .null, .int 0, .int 0, .int 0, .int 0, .int 0, .int 0, .int 0]))] : va_W) ++ (([(q1, .inl (G.2.1, 12, .inl (fun _ => 0)))] : va_W) ++ (([(q2, .inl (G.2.1, 12, .inl (fun _ => 0)))] : va_W) ++ (([(q3, .inl (G.2.1, 12, .inl (fun _ => 0)))] : va_W))))) rfl ?_
  refine V_putF (w' := ([(a, .inr (1, [.ref (q1), .ref (q2), .ref (q3), .null, .null, .null, .null, .null, .null, .null, .int 0, .int 0, .int 0, .int 0, .int 0, .int 0, .int 0]))] : va_W) ++ (([(q1, .inl (G.2.1, 12, .inl (fun _ => 0)))] : va_W) ++ (([(q2, .inl (G.2.1, 12, .inl (fun _ => 0)))] : va_W) ++ (([(q3, .inl (G.2.1, 12, .inl (fun _ => 0)))] : va_W))))) hX cbX1 2 0 (by decide) wf_X1_18 rfl rfl rfl rfl rfl rfl rfl rfl (Nat.le_of_ble_eq_true rfl) dX1_init_25 rfl ?_
  refine V_aload_n hX dX1_init_28 0 rfl ?_
  refine V_bipush hX dX1_init_29 (by decide) ?_
  refine V_newai (N := 12) (k' := 4) (n' := 48) hX (by decide) (Nat.le_of_ble_eq_true rfl) (Nat.le_of_ble_eq_true rfl) dX1_init_31 rfl rfl (fun q4 => ?_)
  refine V.wd (w' := ([(a, .inr (1, [.ref (q1), .ref (q2), .ref (q3), .null, .null, .null, .null, .null, .null, .null, .int 0, .int 0, .int 0, .int 0, .int 0, .int 0, .int 0]))] : va_W) ++ (([(q1, .inl (G.2.1, 12, .inl (fun _ => 0)))] : va_W) ++ (([(q2, .inl (G.2.1, 12, .inl (fun _ => 0)))] : va_W) ++ (([(q3, .inl (G.2.1, 12, .inl (fun _ => 0)))] : va_W) ++ (([(q4, .inl (G.2.1, 12, .inl (fun _ => 0)))] : va_W)))))) rfl ?_
  refine V_putF (w' := ([(a, .inr (1, [.ref (q1), .ref (q2), .ref (q3), .ref (q4), .null, .null, .null, .null, .null, .null, .int 0, .int 0, .int 0, .int 0, .int 0, .int 0, .int 0]))] : va_W) ++ (([(q1, .inl (G.2.1, 12, .inl (fun _ => 0)))] : va_W) ++ (([(q2, .inl (G.2.1, 12, .inl (fun _ => 0)))] : va_W) ++ (([(q3, .inl (G.2.1, 12, .inl (fun _ => 0)))] : va_W) ++ (([(q4, .inl (G.2.1, 12, .inl (fun _ => 0)))] : va_W)))))) hX cbX1 3 0 (by decide) wf_X1_21 rfl rfl rfl rfl rfl rfl rfl rfl (Nat.le_of_ble_eq_true rfl) dX1_init_33 rfl ?_
  refine V_aload_n hX dX1_init_36 0 rfl ?_
  refine V_bipush hX dX1_init_37 (by decide) ?_
  refine V_newai (N := 12) (k' := 5) (n' := 60) hX (by decide) (Nat.le_of_ble_eq_true rfl) (Nat.le_of_ble_eq_true rfl) dX1_init_39 rfl rfl (fun q5 => ?_)
  refine V.wd (w' := ([(a, .inr (1, [.ref (q1), .ref (q2), .ref (q3), .ref (q4), .null, .null, .null, .null, .null, .null, .int 0, .int 0, .int 0, .int 0, .int 0, .int 0, .int 0]))] : va_W) ++ (([(q1, .inl (G.2.1, 12, .inl (fun _ => 0)))] : va_W) ++ (([(q2, .inl (G.2.1, 12, .inl (fun _ => 0)))] : va_W) ++ (([(q3, .inl (G.2.1, 12, .inl (fun _ => 0)))] : va_W) ++ (([(q4, .inl (G.2.1, 12, .inl (fun _ => 0)))] : va_W) ++ (([(q5, .inl (G.2.1, 12, .inl (fun _ => 0)))] : va_W))))))) rfl ?_
  refine V_putF (w' := ([(a, .inr (1, [.ref (q1), .ref (q2), .ref (q3), .ref (q4), .ref (q5), .null, .null, .null, .null, .null, .int 0, .int 0, .int 0, .int 0, .int 0, .int 0, .int 0]))] : va_W) ++ (([(q1, .inl (G.2.1, 12, .inl (fun _ => 0)))] : va_W) ++ (([(q2, .inl (G.2.1, 12, .inl (fun _ => 0)))] : va_W) ++ (([(q3, .inl (G.2.1, 12, .inl (fun _ => 0)))] : va_W) ++ (([(q4, .inl (G.2.1, 12, .inl (fun _ => 0)))] : va_W) ++ (([(q5, .inl (G.2.1, 12, .inl (fun _ => 0)))] : va_W))))))) hX cbX1 4 0 (by decide) wf_X1_24 rfl rfl rfl rfl rfl rfl rfl rfl (Nat.le_of_ble_eq_true rfl) dX1_init_41 rfl ?_
  refine V_aload_n hX dX1_init_44 0 rfl ?_
  refine V_bipush hX dX1_init_45 (by decide) ?_
  refine V_newai (N := 12) (k' := 6) (n' := 72) hX (by decide) (Nat.le_of_ble_eq_true rfl) (Nat.le_of_ble_eq_true rfl) dX1_init_47 rfl rfl (fun q6 => ?_)
  refine V.wd (w' := ([(a, .inr (1, [.ref (q1), .ref (q2), .ref (q3), .ref (q4), .ref (q5), .null, .null, .null, .null, .null, .int 0, .int 0, .int 0, .int 0, .int 0, .int 0, .int 0]))] : va_W) ++ (([(q1, .inl (G.2.1, 12, .inl (fun _ => 0)))] : va_W) ++ (([(q2, .inl (G.2.1, 12, .inl (fun _ => 0)))] : va_W) ++ (([(q3, .inl (G.2.1, 12, .inl (fun _ => 0)))] : va_W) ++ (([(q4, .inl (G.2.1, 12, .inl (fun _ => 0)))] : va_W) ++ (([(q5, .inl (G.2.1, 12, .inl (fun _ => 0)))] : va_W) ++ (([(q6, .inl (G.2.1, 12, .inl (fun _ => 0)))] : va_W)))))))) rfl ?_
  refine V_putF (w' := ([(a, .inr (1, [.ref (q1), .ref (q2), .ref (q3), .ref (q4), .ref (q5), .ref (q6), .null, .null, .null, .null, .int 0, .int 0, .int 0, .int 0, .int 0, .int 0, .int 0]))] : va_W) ++ (([(q1, .inl (G.2.1, 12, .inl (fun _ => 0)))] : va_W) ++ (([(q2, .inl (G.2.1, 12, .inl (fun _ => 0)))] : va_W) ++ (([(q3, .inl (G.2.1, 12, .inl (fun _ => 0)))] : va_W) ++ (([(q4, .inl (G.2.1, 12, .inl (fun _ => 0)))] : va_W) ++ (([(q5, .inl (G.2.1, 12, .inl (fun _ => 0)))] : va_W) ++ (([(q6, .inl (G.2.1, 12, .inl (fun _ => 0)))] : va_W)))))))) hX cbX1 5 0 (by decide) wf_X1_27 rfl rfl rfl rfl rfl rfl rfl rfl (Nat.le_of_ble_eq_true rfl) dX1_init_49 rfl ?_
  refine V_aload_n hX dX1_init_52 0 rfl ?_
  refine V_bipush hX dX1_init_53 (by decide) ?_
  refine V_newai (N := 12) (k' := 7) (n' := 84) hX (by decide) (Nat.le_of_ble_eq_true rfl) (Nat.le_of_ble_eq_true rfl) dX1_init_55 rfl rfl (fun q7 => ?_)
  refine V.wd (w' := ([(a, .inr (1, [.ref (q1), .ref (q2), .ref (q3), .ref (q4), .ref (q5), .ref (q6), .null, .null, .null, .null, .int 0, .int 0, .int 0, .int 0, .int 0, .int 0, .int 0]))] : va_W) ++ (([(q1, .inl (G.2.1, 12, .inl (fun _ => 0)))] : va_W) ++ (([(q2, .inl (G.2.1, 12, .inl (fun _ => 0)))] : va_W) ++ (([(q3, .inl (G.2.1, 12, .inl (fun _ => 0)))] : va_W) ++ (([(q4, .inl (G.2.1, 12, .inl (fun _ => 0)))] : va_W) ++ (([(q5, .inl (G.2.1, 12, .inl (fun _ => 0)))] : va_W) ++ (([(q6, .inl (G.2.1, 12, .inl (fun _ => 0)))] : va_W) ++ (([(q7, .inl (G.2.1, 12, .inl (fun _ => 0)))] : va_W))))))))) rfl ?_
  refine V_putF (w' := ([(a, .inr (1, [.ref (q1), .ref (q2), .ref (q3), .ref (q4), .ref (q5), .ref (q6), .ref (q7), .null, .null, .null, .int 0, .int 0, .int 0, .int 0, .int 0, .int 0, .int 0]))] : va_W) ++ (([(q1, .inl (G.2.1, 12, .inl (fun _ => 0)))] : va_W) ++ (([(q2, .inl (G.2.1, 12, .inl (fun _ => 0)))] : va_W) ++ (([(q3, .inl (G.2.1, 12, .inl (fun _ => 0)))] : va_W) ++ (([(q4, .inl (G.2.1, 12, .inl (fun _ => 0)))] : va_W) ++ (([(q5, .inl (G.2.1, 12, .inl (fun _ => 0)))] : va_W) ++ (([(q6, .inl (G.2.1, 12, .inl (fun _ => 0)))] : va_W) ++ (([(q7, .inl (G.2.1, 12, .inl (fun _ => 0)))] : va_W))))))))) hX cbX1 6 0 (by decide) wf_X1_30 rfl rfl rfl rfl rfl rfl rfl rfl (Nat.le_of_ble_eq_true rfl) dX1_init_57 rfl ?_
  refine V_aload_n hX dX1_init_60 0 rfl ?_
  refine V_bipush hX dX1_init_61 (by decide) ?_
  refine V_newai (N := 48) (k' := 8) (n' := 132) hX (by decide) (Nat.le_of_ble_eq_true rfl) (Nat.le_of_ble_eq_true rfl) dX1_init_63 rfl rfl (fun q8 => ?_)
  refine V.wd (w' := ([(a, .inr (1, [.ref (q1), .ref (q2), .ref (q3), .ref (q4), .ref (q5), .ref (q6), .ref (q7), .null, .null, .null, .int 0, .int 0, .int 0, .int 0, .int 0, .int 0, .int 0]))] : va_W) ++ (([(q1, .inl (G.2.1, 12, .inl (fun _ => 0)))] : va_W) ++ (([(q2, .inl (G.2.1, 12, .inl (fun _ => 0)))] : va_W) ++ (([(q3, .inl (G.2.1, 12, .inl (fun _ => 0)))] : va_W) ++ (([(q4, .inl (G.2.1, 12, .inl (fun _ => 0)))] : va_W) ++ (([(q5, .inl (G.2.1, 12, .inl (fun _ => 0)))] : va_W) ++ (([(q6, .inl (G.2.1, 12, .inl (fun _ => 0)))] : va_W) ++ (([(q7, .inl (G.2.1, 12, .inl (fun _ => 0)))] : va_W) ++ (([(q8, .inl (G.2.1, 48, .inl (fun _ => 0)))] : va_W)))))))))) rfl ?_
  refine V_putF (w' := ([(a, .inr (1, [.ref (q1), .ref (q2), .ref (q3), .ref (q4), .ref (q5), .ref (q6), .ref (q7), .ref (q8), .null, .null, .int 0, .int 0, .int 0, .int 0, .int 0, .int 0, .int 0]))] : va_W) ++ (([(q1, .inl (G.2.1, 12, .inl (fun _ => 0)))] : va_W) ++ (([(q2, .inl (G.2.1, 12, .inl (fun _ => 0)))] : va_W) ++ (([(q3, .inl (G.2.1, 12, .inl (fun _ => 0)))] : va_W) ++ (([(q4, .inl (G.2.1, 12, .inl (fun _ => 0)))] : va_W) ++ (([(q5, .inl (G.2.1, 12, .inl (fun _ => 0)))] : va_W) ++ (([(q6, .inl (G.2.1, 12, .inl (fun _ => 0)))] : va_W) ++ (([(q7, .inl (G.2.1, 12, .inl (fun _ => 0)))] : va_W) ++ (([(q8, .inl (G.2.1, 48, .inl (fun _ => 0)))] : va_W)))))))))) hX cbX1 7 0 (by decide) wf_X1_33 rfl rfl rfl rfl rfl rfl rfl rfl (Nat.le_of_ble_eq_true rfl) dX1_init_65 rfl ?_
  refine V_aload_n hX dX1_init_68 0 rfl ?_
  refine V_bipush hX dX1_init_69 (by decide) ?_
  refine V_newai (N := 6) (k' := 9) (n' := 138) hX (by decide) (Nat.le_of_ble_eq_true rfl) (Nat.le_of_ble_eq_true rfl) dX1_init_71 rfl rfl (fun q9 => ?_)
  refine V.wd (w' := ([(a, .inr (1, [.ref (q1), .ref (q2), .ref (q3), .ref (q4), .ref (q5), .ref (q6), .ref (q7), .ref (q8), .null, .null, .int 0, .int 0, .int 0, .int 0, .int 0, .int 0, .int 0]))] : va_W) ++ (([(q1, .inl (G.2.1, 12, .inl (fun _ => 0)))] : va_W) ++ (([(q2, .inl (G.2.1, 12, .inl (fun _ => 0)))] : va_W) ++ (([(q3, .inl (G.2.1, 12, .inl (fun _ => 0)))] : va_W) ++ (([(q4, .inl (G.2.1, 12, .inl (fun _ => 0)))] : va_W) ++ (([(q5, .inl (G.2.1, 12, .inl (fun _ => 0)))] : va_W) ++ (([(q6, .inl (G.2.1, 12, .inl (fun _ => 0)))] : va_W) ++ (([(q7, .inl (G.2.1, 12, .inl (fun _ => 0)))] : va_W) ++ (([(q8, .inl (G.2.1, 48, .inl (fun _ => 0)))] : va_W) ++ (([(q9, .inl (G.2.1, 6, .inl (fun _ => 0)))] : va_W))))))))))) rfl ?_
  refine V_putF (w' := ([(a, .inr (1, [.ref (q1), .ref (q2), .ref (q3), .ref (q4), .ref (q5), .ref (q6), .ref (q7), .ref (q8), .ref (q9), .null, .int 0, .int 0, .int 0, .int 0, .int 0, .int 0, .int 0]))] : va_W) ++ (([(q1, .inl (G.2.1, 12, .inl (fun _ => 0)))] : va_W) ++ (([(q2, .inl (G.2.1, 12, .inl (fun _ => 0)))] : va_W) ++ (([(q3, .inl (G.2.1, 12, .inl (fun _ => 0)))] : va_W) ++ (([(q4, .inl (G.2.1, 12, .inl (fun _ => 0)))] : va_W) ++ (([(q5, .inl (G.2.1, 12, .inl (fun _ => 0)))] : va_W) ++ (([(q6, .inl (G.2.1, 12, .inl (fun _ => 0)))] : va_W) ++ (([(q7, .inl (G.2.1, 12, .inl (fun _ => 0)))] : va_W) ++ (([(q8, .inl (G.2.1, 48, .inl (fun _ => 0)))] : va_W) ++ (([(q9, .inl (G.2.1, 6, .inl (fun _ => 0)))] : va_W))))))))))) hX cbX1 8 0 (by decide) wf_X1_36 rfl rfl rfl rfl rfl rfl rfl rfl (Nat.le_of_ble_eq_true rfl) dX1_init_73 rfl ?_
  refine V_aload_n hX dX1_init_76 0 rfl ?_
  refine V_iconst hX dX1_init_77 ?_
  refine V_newai (N := 2) (k' := 10) (n' := 140) hX (by decide) (Nat.le_of_ble_eq_true rfl) (Nat.le_of_ble_eq_true rfl) dX1_init_78 rfl rfl (fun q10 => ?_)
  refine V.wd (w' := ([(a, .inr (1, [.ref (q1), .ref (q2), .ref (q3), .ref (q4), .ref (q5), .ref (q6), .ref (q7), .ref (q8), .ref (q9), .null, .int 0, .int 0, .int 0, .int 0, .int 0, .int 0, .int 0]))] : va_W) ++ (([(q1, .inl (G.2.1, 12, .inl (fun _ => 0)))] : va_W) ++ (([(q2, .inl (G.2.1, 12, .inl (fun _ => 0)))] : va_W) ++ (([(q3, .inl (G.2.1, 12, .inl (fun _ => 0)))] : va_W) ++ (([(q4, .inl (G.2.1, 12, .inl (fun _ => 0)))] : va_W) ++ (([(q5, .inl (G.2.1, 12, .inl (fun _ => 0)))] : va_W) ++ (([(q6, .inl (G.2.1, 12, .inl (fun _ => 0)))] : va_W) ++ (([(q7, .inl (G.2.1, 12, .inl (fun _ => 0)))] : va_W) ++ (([(q8, .inl (G.2.1, 48, .inl (fun _ => 0)))] : va_W) ++ (([(q9, .inl (G.2.1, 6, .inl (fun _ => 0)))] : va_W) ++ (([(q10, .inl (G.2.1, 2, .inl (fun _ => 0)))] : va_W)))))))))))) rfl ?_
  refine V_putF (w' := ([(a, .inr (1, [.ref (q1), .ref (q2), .ref (q3), .ref (q4), .ref (q5), .ref (q6), .ref (q7), .ref (q8), .ref (q9), .ref (q10), .int 0, .int 0, .int 0, .int 0, .int 0, .int 0, .int 0]))] : va_W) ++ (([(q1, .inl (G.2.1, 12, .inl (fun _ => 0)))] : va_W) ++ (([(q2, .inl (G.2.1, 12, .inl (fun _ => 0)))] : va_W) ++ (([(q3, .inl (G.2.1, 12, .inl (fun _ => 0)))] : va_W) ++ (([(q4, .inl (G.2.1, 12, .inl (fun _ => 0)))] : va_W) ++ (([(q5, .inl (G.2.1, 12, .inl (fun _ => 0)))] : va_W) ++ (([(q6, .inl (G.2.1, 12, .inl (fun _ => 0)))] : va_W) ++ (([(q7, .inl (G.2.1, 12, .inl (fun _ => 0)))] : va_W) ++ (([(q8, .inl (G.2.1, 48, .inl (fun _ => 0)))] : va_W) ++ (([(q9, .inl (G.2.1, 6, .inl (fun _ => 0)))] : va_W) ++ (([(q10, .inl (G.2.1, 2, .inl (fun _ => 0)))] : va_W)))))))))))) hX cbX1 9 0 (by decide) wf_X1_39 rfl rfl rfl rfl rfl rfl rfl rfl (Nat.le_of_ble_eq_true rfl) dX1_init_80 rfl ?_
  refine V_aload_n hX dX1_init_83 0 rfl ?_
  refine V_sipush hX dX1_init_84 (by decide) ?_
  refine V_put (w' := ([(a, .inr (1, [.ref (q1), .ref (q2), .ref (q3), .ref (q4), .ref (q5), .ref (q6), .ref (q7), .ref (q8), .ref (q9), .ref (q10), .int 0, .int 0, .int 0, .int (jI 640), .int 0, .int 0, .int 0]))] : va_W) ++ (([(q1, .inl (G.2.1, 12, .inl (fun _ => 0)))] : va_W) ++ (([(q2, .inl (G.2.1, 12, .inl (fun _ => 0)))] : va_W) ++ (([(q3, .inl (G.2.1, 12, .inl (fun _ => 0)))] : va_W) ++ (([(q4, .inl (G.2.1, 12, .inl (fun _ => 0)))] : va_W) ++ (([(q5, .inl (G.2.1, 12, .inl (fun _ => 0)))] : va_W) ++ (([(q6, .inl (G.2.1, 12, .inl (fun _ => 0)))] : va_W) ++ (([(q7, .inl (G.2.1, 12, .inl (fun _ => 0)))] : va_W) ++ (([(q8, .inl (G.2.1, 48, .inl (fun _ => 0)))] : va_W) ++ (([(q9, .inl (G.2.1, 6, .inl (fun _ => 0)))] : va_W) ++ (([(q10, .inl (G.2.1, 2, .inl (fun _ => 0)))] : va_W)))))))))))) hX cbX1 13 0 (by decide) wf_X1_42 rfl rfl rfl rfl rfl rfl (Nat.le_of_ble_eq_true rfl) dX1_init_87 rfl ?_
  refine V_aload_n hX dX1_init_90 0 rfl ?_
  refine V_bipush hX dX1_init_91 (by decide) ?_
  refine V_put (w' := ([(a, .inr (1, [.ref (q1), .ref (q2), .ref (q3), .ref (q4), .ref (q5), .ref (q6), .ref (q7), .ref (q8), .ref (q9), .ref (q10), .int 0, .int 0, .int 0, .int (jI 640), .int 0, .int 0, .int (jI (-5))]))] : va_W) ++ (([(q1, .inl (G.2.1, 12, .inl (fun _ => 0)))] : va_W) ++ (([(q2, .inl (G.2.1, 12, .inl (fun _ => 0)))] : va_W) ++ (([(q3, .inl (G.2.1, 12, .inl (fun _ => 0)))] : va_W) ++ (([(q4, .inl (G.2.1, 12, .inl (fun _ => 0)))] : va_W) ++ (([(q5, .inl (G.2.1, 12, .inl (fun _ => 0)))] : va_W) ++ (([(q6, .inl (G.2.1, 12, .inl (fun _ => 0)))] : va_W) ++ (([(q7, .inl (G.2.1, 12, .inl (fun _ => 0)))] : va_W) ++ (([(q8, .inl (G.2.1, 48, .inl (fun _ => 0)))] : va_W) ++ (([(q9, .inl (G.2.1, 6, .inl (fun _ => 0)))] : va_W) ++ (([(q10, .inl (G.2.1, 2, .inl (fun _ => 0)))] : va_W)))))))))))) hX cbX1 16 0 (by decide) wf_X1_46 rfl rfl rfl rfl rfl rfl (Nat.le_of_ble_eq_true rfl) dX1_init_93 rfl ?_
  refine V_iconst hX dX1_init_96 ?_
  refine V_istore_n (i := 1) (lv' := [(1, .int (jI 0)), (0, .ref (a))]) hX dX1_init_97 rfl (by decide) rfl ?_
  refine V_iload_n hX dX1_init_98 0 rfl ?_
  refine V_bipush hX dX1_init_99 (by decide) ?_
  refine V_icmp_ge (tgt := 117) hX dX1_init_101 (by decide) (by decide) (by decide) (fun c11 => absurd c11 (by decide)) (fun c11 => ?_)
  refine V_aload_n hX dX1_init_104 1 rfl ?_
  refine V_get (v := .ref (q9)) hX cbX1 8 0 (by decide) wf_X1_36 rfl rfl rfl rfl dX1_init_105 ?_
  refine V_iload_n hX dX1_init_108 0 rfl ?_
  refine V_iconst hX dX1_init_109 ?_
  refine V_iast (i0 := 0) (w' := ([(a, .inr (1, [.ref (q1), .ref (q2), .ref (q3), .ref (q4), .ref (q5), .ref (q6), .ref (q7), .ref (q8), .ref (q9), .ref (q10), .int 0, .int 0, .int 0, .int (jI 640), .int 0, .int 0, .int (jI (-5))]))] : va_W) ++ (([(q1, .inl (G.2.1, 12, .inl (fun _ => 0)))] : va_W) ++ (([(q2, .inl (G.2.1, 12, .inl (fun _ => 0)))] : va_W) ++ (([(q3, .inl (G.2.1, 12, .inl (fun _ => 0)))] : va_W) ++ (([(q4, .inl (G.2.1, 12, .inl (fun _ => 0)))] : va_W) ++ (([(q5, .inl (G.2.1, 12, .inl (fun _ => 0)))] : va_W) ++ (([(q6, .inl (G.2.1, 12, .inl (fun _ => 0)))] : va_W) ++ (([(q7, .inl (G.2.1, 12, .inl (fun _ => 0)))] : va_W) ++ (([(q8, .inl (G.2.1, 48, .inl (fun _ => 0)))] : va_W) ++ (([(q9, .inl (G.2.1, 6, .inl (upd (fun _ => 0) 0 (jI (1)))))] : va_W) ++ (([(q10, .inl (G.2.1, 2, .inl (fun _ => 0)))] : va_W)))))))))))) hX 9 rfl (by decide) (by decide) (by decide) rfl dX1_init_110 rfl ?_
  refine V_iinc (b := 1) (lv' := [(1, .int (jI 1)), (0, .ref (a))]) hX dX1_init_111 0 rfl rfl (by decide) rfl ?_
  refine V_goto (tgt := 98) hX dX1_init_114 (by decide) ?_
  refine V_iload_n hX dX1_init_98 0 rfl ?_
  refine V_bipush hX dX1_init_99 (by decide) ?_
  refine V_icmp_ge (tgt := 117) hX dX1_init_101 (by decide) (by decide) (by decide) (fun c12 => absurd c12 (by decide)) (fun c12 => ?_)
  refine V_aload_n hX dX1_init_104 1 rfl ?_
  refine V_get (v := .ref (q9)) hX cbX1 8 0 (by decide) wf_X1_36 rfl rfl rfl rfl dX1_init_105 ?_
  refine V_iload_n hX dX1_init_108 0 rfl ?_
  refine V_iconst hX dX1_init_109 ?_
  refine V_iast (i0 := 1) (w' := ([(a, .inr (1, [.ref (q1), .ref (q2), .ref (q3), .ref (q4), .ref (q5), .ref (q6), .ref (q7), .ref (q8), .ref (q9), .ref (q10), .int 0, .int 0, .int 0, .int (jI 640), .int 0, .int 0, .int (jI (-5))]))] : va_W) ++ (([(q1, .inl (G.2.1, 12, .inl (fun _ => 0)))] : va_W) ++ (([(q2, .inl (G.2.1, 12, .inl (fun _ => 0)))] : va_W) ++ (([(q3, .inl (G.2.1, 12, .inl (fun _ => 0)))] : va_W) ++ (([(q4, .inl (G.2.1, 12, .inl (fun _ => 0)))] : va_W) ++ (([(q5, .inl (G.2.1, 12, .inl (fun _ => 0)))] : va_W) ++ (([(q6, .inl (G.2.1, 12, .inl (fun _ => 0)))] : va_W) ++ (([(q7, .inl (G.2.1, 12, .inl (fun _ => 0)))] : va_W) ++ (([(q8, .inl (G.2.1, 48, .inl (fun _ => 0)))] : va_W) ++ (([(q9, .inl (G.2.1, 6, .inl (upd (upd (fun _ => 0) 0 (jI (1))) 1 (jI (1)))))] : va_W) ++ (([(q10, .inl (G.2.1, 2, .inl (fun _ => 0)))] : va_W)))))))))))) hX 9 rfl (by decide) (by decide) (by decide) rfl dX1_init_110 rfl ?_
  refine V_iinc (b := 2) (lv' := [(1, .int (jI 2)), (0, .ref (a))]) hX dX1_init_111 0 rfl rfl (by decide) rfl ?_
  refine V_goto (tgt := 98) hX dX1_init_114 (by decide) ?_
  refine V_iload_n hX dX1_init_98 0 rfl ?_
  refine V_bipush hX dX1_init_99 (by decide) ?_
  refine V_icmp_ge (tgt := 117) hX dX1_init_101 (by decide) (by decide) (by decide) (fun c13 => absurd c13 (by decide)) (fun c13 => ?_)
  refine V_aload_n hX dX1_init_104 1 rfl ?_
  refine V_get (v := .ref (q9)) hX cbX1 8 0 (by decide) wf_X1_36 rfl rfl rfl rfl dX1_init_105 ?_
  refine V_iload_n hX dX1_init_108 0 rfl ?_
  refine V_iconst hX dX1_init_109 ?_
  refine V_iast (i0 := 2) (w' := ([(a, .inr (1, [.ref (q1), .ref (q2), .ref (q3), .ref (q4), .ref (q5), .ref (q6), .ref (q7), .ref (q8), .ref (q9), .ref (q10), .int 0, .int 0, .int 0, .int (jI 640), .int 0, .int 0, .int (jI (-5))]))] : va_W) ++ (([(q1, .inl (G.2.1, 12, .inl (fun _ => 0)))] : va_W) ++ (([(q2, .inl (G.2.1, 12, .inl (fun _ => 0)))] : va_W) ++ (([(q3, .inl (G.2.1, 12, .inl (fun _ => 0)))] : va_W) ++ (([(q4, .inl (G.2.1, 12, .inl (fun _ => 0)))] : va_W) ++ (([(q5, .inl (G.2.1, 12, .inl (fun _ => 0)))] : va_W) ++ (([(q6, .inl (G.2.1, 12, .inl (fun _ => 0)))] : va_W) ++ (([(q7, .inl (G.2.1, 12, .inl (fun _ => 0)))] : va_W) ++ (([(q8, .inl (G.2.1, 48, .inl (fun _ => 0)))] : va_W) ++ (([(q9, .inl (G.2.1, 6, .inl (upd (upd (upd (fun _ => 0) 0 (jI (1))) 1 (jI (1))) 2 (jI (1)))))] : va_W) ++ (([(q10, .inl (G.2.1, 2, .inl (fun _ => 0)))] : va_W)))))))))))) hX 9 rfl (by decide) (by decide) (by decide) rfl dX1_init_110 rfl ?_
  refine V_iinc (b := 3) (lv' := [(1, .int (jI 3)), (0, .ref (a))]) hX dX1_init_111 0 rfl rfl (by decide) rfl ?_
  refine V_goto (tgt := 98) hX dX1_init_114 (by decide) ?_
  refine V_iload_n hX dX1_init_98 0 rfl ?_
  refine V_bipush hX dX1_init_99 (by decide) ?_
  refine V_icmp_ge (tgt := 117) hX dX1_init_101 (by decide) (by decide) (by decide) (fun c14 => absurd c14 (by decide)) (fun c14 => ?_)
  refine V_aload_n hX dX1_init_104 1 rfl ?_
  refine V_get (v := .ref (q9)) hX cbX1 8 0 (by decide) wf_X1_36 rfl rfl rfl rfl dX1_init_105 ?_
  refine V_iload_n hX dX1_init_108 0 rfl ?_
  refine V_iconst hX dX1_init_109 ?_
  refine V_iast (i0 := 3) (w' := ([(a, .inr (1, [.ref (q1), .ref (q2), .ref (q3), .ref (q4), .ref (q5), .ref (q6), .ref (q7), .ref (q8), .ref (q9), .ref (q10), .int 0, .int 0, .int 0, .int (jI 640), .int 0, .int 0, .int (jI (-5))]))] : va_W) ++ (([(q1, .inl (G.2.1, 12, .inl (fun _ => 0)))] : va_W) ++ (([(q2, .inl (G.2.1, 12, .inl (fun _ => 0)))] : va_W) ++ (([(q3, .inl (G.2.1, 12, .inl (fun _ => 0)))] : va_W) ++ (([(q4, .inl (G.2.1, 12, .inl (fun _ => 0)))] : va_W) ++ (([(q5, .inl (G.2.1, 12, .inl (fun _ => 0)))] : va_W) ++ (([(q6, .inl (G.2.1, 12, .inl (fun _ => 0)))] : va_W) ++ (([(q7, .inl (G.2.1, 12, .inl (fun _ => 0)))] : va_W) ++ (([(q8, .inl (G.2.1, 48, .inl (fun _ => 0)))] : va_W) ++ (([(q9, .inl (G.2.1, 6, .inl (upd (upd (upd (upd (fun _ => 0) 0 (jI (1))) 1 (jI (1))) 2 (jI (1))) 3 (jI (1)))))] : va_W) ++ (([(q10, .inl (G.2.1, 2, .inl (fun _ => 0)))] : va_W)))))))))))) hX 9 rfl (by decide) (by decide) (by decide) rfl dX1_init_110 rfl ?_
  refine V_iinc (b := 4) (lv' := [(1, .int (jI 4)), (0, .ref (a))]) hX dX1_init_111 0 rfl rfl (by decide) rfl ?_
  refine V_goto (tgt := 98) hX dX1_init_114 (by decide) ?_
  refine V_iload_n hX dX1_init_98 0 rfl ?_
  refine V_bipush hX dX1_init_99 (by decide) ?_
  refine V_icmp_ge (tgt := 117) hX dX1_init_101 (by decide) (by decide) (by decide) (fun c15 => absurd c15 (by decide)) (fun c15 => ?_)
  refine V_aload_n hX dX1_init_104 1 rfl ?_
  refine V_get (v := .ref (q9)) hX cbX1 8 0 (by decide) wf_X1_36 rfl rfl rfl rfl dX1_init_105 ?_
  refine V_iload_n hX dX1_init_108 0 rfl ?_
  refine V_iconst hX dX1_init_109 ?_
  refine V_iast (i0 := 4) (w' := ([(a, .inr (1, [.ref (q1), .ref (q2), .ref (q3), .ref (q4), .ref (q5), .ref (q6), .ref (q7), .ref (q8), .ref (q9), .ref (q10), .int 0, .int 0, .int 0, .int (jI 640), .int 0, .int 0, .int (jI (-5))]))] : va_W) ++ (([(q1, .inl (G.2.1, 12, .inl (fun _ => 0)))] : va_W) ++ (([(q2, .inl (G.2.1, 12, .inl (fun _ => 0)))] : va_W) ++ (([(q3, .inl (G.2.1, 12, .inl (fun _ => 0)))] : va_W) ++ (([(q4, .inl (G.2.1, 12, .inl (fun _ => 0)))] : va_W) ++ (([(q5, .inl (G.2.1, 12, .inl (fun _ => 0)))] : va_W) ++ (([(q6, .inl (G.2.1, 12, .inl (fun _ => 0)))] : va_W) ++ (([(q7, .inl (G.2.1, 12, .inl (fun _ => 0)))] : va_W) ++ (([(q8, .inl (G.2.1, 48, .inl (fun _ => 0)))] : va_W) ++ (([(q9, .inl (G.2.1, 6, .inl (upd (upd (upd (upd (upd (fun _ => 0) 0 (jI (1))) 1 (jI (1))) 2 (jI (1))) 3 (jI (1))) 4 (jI (1)))))] : va_W) ++ (([(q10, .inl (G.2.1, 2, .inl (fun _ => 0)))] : va_W)))))))))))) hX 9 rfl (by decide) (by decide) (by decide) rfl dX1_init_110 rfl ?_
  refine V_iinc (b := 5) (lv' := [(1, .int (jI 5)), (0, .ref (a))]) hX dX1_init_111 0 rfl rfl (by decide) rfl ?_
  refine V_goto (tgt := 98) hX dX1_init_114 (by decide) ?_
  refine V_iload_n hX dX1_init_98 0 rfl ?_
  refine V_bipush hX dX1_init_99 (by decide) ?_
  refine V_icmp_ge (tgt := 117) hX dX1_init_101 (by decide) (by decide) (by decide) (fun c16 => absurd c16 (by decide)) (fun c16 => ?_)
  refine V_aload_n hX dX1_init_104 1 rfl ?_
  refine V_get (v := .ref (q9)) hX cbX1 8 0 (by decide) wf_X1_36 rfl rfl rfl rfl dX1_init_105 ?_
  refine V_iload_n hX dX1_init_108 0 rfl ?_
  refine V_iconst hX dX1_init_109 ?_
  refine V_iast (i0 := 5) (w' := ([(a, .inr (1, [.ref (q1), .ref (q2), .ref (q3), .ref (q4), .ref (q5), .ref (q6), .ref (q7), .ref (q8), .ref (q9), .ref (q10), .int 0, .int 0, .int 0, .int (jI 640), .int 0, .int 0, .int (jI (-5))]))] : va_W) ++ (([(q1, .inl (G.2.1, 12, .inl (fun _ => 0)))] : va_W) ++ (([(q2, .inl (G.2.1, 12, .inl (fun _ => 0)))] : va_W) ++ (([(q3, .inl (G.2.1, 12, .inl (fun _ => 0)))] : va_W) ++ (([(q4, .inl (G.2.1, 12, .inl (fun _ => 0)))] : va_W) ++ (([(q5, .inl (G.2.1, 12, .inl (fun _ => 0)))] : va_W) ++ (([(q6, .inl (G.2.1, 12, .inl (fun _ => 0)))] : va_W) ++ (([(q7, .inl (G.2.1, 12, .inl (fun _ => 0)))] : va_W) ++ (([(q8, .inl (G.2.1, 48, .inl (fun _ => 0)))] : va_W) ++ (([(q9, .inl (G.2.1, 6, .inl (upd (upd (upd (upd (upd (upd (fun _ => 0) 0 (jI (1))) 1 (jI (1))) 2 (jI (1))) 3 (jI (1))) 4 (jI (1))) 5 (jI (1)))))] : va_W) ++ (([(q10, .inl (G.2.1, 2, .inl (fun _ => 0)))] : va_W)))))))))))) hX 9 rfl (by decide) (by decide) (by decide) rfl dX1_init_110 rfl ?_
  refine V_iinc (b := 6) (lv' := [(1, .int (jI 6)), (0, .ref (a))]) hX dX1_init_111 0 rfl rfl (by decide) rfl ?_
  refine V_goto (tgt := 98) hX dX1_init_114 (by decide) ?_
  refine V_iload_n hX dX1_init_98 0 rfl ?_
  refine V_bipush hX dX1_init_99 (by decide) ?_
  refine V_icmp_ge (tgt := 117) hX dX1_init_101 (by decide) (by decide) (by decide) (fun c17 => ?_) (fun c17 => absurd c17 (by decide))
  refine V_aload_n hX dX1_init_117 1 rfl ?_
  refine V_get (v := .ref (q10)) hX cbX1 9 0 (by decide) wf_X1_39 rfl rfl rfl rfl dX1_init_118 ?_
  refine V_iconst hX dX1_init_121 ?_
  refine V_iconst hX dX1_init_122 ?_
  refine V_iast (i0 := 1) (w' := ([(a, .inr (1, [.ref (q1), .ref (q2), .ref (q3), .ref (q4), .ref (q5), .ref (q6), .ref (q7), .ref (q8), .ref (q9), .ref (q10), .int 0, .int 0, .int 0, .int (jI 640), .int 0, .int 0, .int (jI (-5))]))] : va_W) ++ (([(q1, .inl (G.2.1, 12, .inl (fun _ => 0)))] : va_W) ++ (([(q2, .inl (G.2.1, 12, .inl (fun _ => 0)))] : va_W) ++ (([(q3, .inl (G.2.1, 12, .inl (fun _ => 0)))] : va_W) ++ (([(q4, .inl (G.2.1, 12, .inl (fun _ => 0)))] : va_W) ++ (([(q5, .inl (G.2.1, 12, .inl (fun _ => 0)))] : va_W) ++ (([(q6, .inl (G.2.1, 12, .inl (fun _ => 0)))] : va_W) ++ (([(q7, .inl (G.2.1, 12, .inl (fun _ => 0)))] : va_W) ++ (([(q8, .inl (G.2.1, 48, .inl (fun _ => 0)))] : va_W) ++ (([(q9, .inl (G.2.1, 6, .inl (upd (upd (upd (upd (upd (upd (fun _ => 0) 0 (jI (1))) 1 (jI (1))) 2 (jI (1))) 3 (jI (1))) 4 (jI (1))) 5 (jI (1)))))] : va_W) ++ (([(q10, .inl (G.2.1, 2, .inl (upd (fun _ => 0) 1 (jI (2)))))] : va_W)))))))))))) hX 10 rfl (by decide) (by decide) (by decide) rfl dX1_init_123 rfl ?_
  refine V.wd (w' := hB G (ad11 a q1 q2 q3 q4 q5 q6 q7 q8 q9 q10) hz0) (by unfold hB; rw [hz0_v 0, hz0_v 1, hz0_v 2, hz0_v 3, hz0_v 4, hz0_v 9, hz0_v 10, hz0_c, hz0_se, hz0_st]; rfl) ?_
  exact V_vret hX hR dX1_init_124 ⟨rfl, _, rfl, rfl⟩
