theorem law_loop {X : vX} {l : Launch} {G : vC} {nm : String} (hX : VS X l G (yLaw nm) cL_law room_1 16) {L : Nat} {xs : Nat → Int32} (bs : Nat) (o : Nat) (no : Nat → Nat) (be : Nat → Nat) (tr : Nat → Nat) (sn : Nat → Nat) (p : Nat → Nat) (te : Nat → Nat) (b : Nat → Nat) (c : Nat → Nat) (d : Nat → Nat) (hLS : LawS X bs L xs) (hLm : L ≤ 260) (hend : ∀ (w : va_W) (lv : List (Nat × Value)), V X 106 1605 w lv 626 []) : ∀ (n : Nat) (i : Int), 0 ≤ i → i ≤ 50 → 50 - i ≤ (n : Int) → LG X G 73 bs o no be tr sn p te b c d i := by
  intro n
  induction n with
  | zero => intro i h0 h1 h2; exact law_step hX bs o no be tr sn p te b c d hLS hLm hend i ⟨h0, h1⟩ (fun z => by omega)
  | succ n ih => intro i h0 h1 h2; exact law_step hX bs o no be tr sn p te b c d hLS hLm hend i ⟨h0, h1⟩ (fun z => ih (i + 1) (by omega) (by omega) (by omega))
def ad4 (a b c d : Nat) : Nat → Nat := fun n => match n with
  | 0 => a
  | 1 => b
  | 2 => c
  | _ => d
theorem lB_0 (G : vC) (a b c d : Nat) : lB G (ad4 a b c d) (fun _ => 0) = [(a, .inl (G.2.1, 17, .inl (fun _ => 0)))] ++ ([(b, .inl (G.2.1, 60, .inl (fun _ => 0)))] ++ ([(c, .inl (G.2.1, 48, .inl (fun _ => 0)))] ++ [(d, .inl (G.2.1, 24, .inl (fun _ => 0)))])) := by
  have e0 : lq (fun _ => 0) = fun _ => 0 := by funext j; unfold lq; split <;> rfl
  unfold lB
  rw [e0]
  rfl
theorem hz0_w : up (up (up (up (up (up (up (up (up (fun _ => 0) 1 2) 5 640) 9 (-5)) 11 1) 12 1) 13 1) 14 1) 15 1) 16 1 = hz0 := by
  funext j
  unfold up hz0
  dsimp only
  (repeat' split) <;> omega

set_option maxHeartbeats 4000000 in
set_option maxRecDepth 100000 in
theorem law_V {X : vX} {l : Launch} {G : vC} {nm : String} (hX : VS X l G (yLaw nm) cL_law room_1 16) {L : Nat} {xs : Nat → Int32} (bs : Nat) (hLS : LawS X bs L xs) (hLm : L ≤ 260) (hend : ∀ (w : va_W) (lv : List (Nat × Value)), V X 106 1605 w lv 626 []) : V X 0 0 [] [(0, .ref bs)] 0 [] := by
  refine V_new (k' := 1) (n' := 11) (fs := [.null, .null, .null, .null, .null, .null, .null, .null, .int 0, .int 0, .int 0]) hX cbX4 wk_L_39 (by decide +kernel) (by decide +kernel) (by decide) (Nat.le_of_ble_eq_true rfl) (Nat.le_of_ble_eq_true rfl) dL_law_0 rfl rfl (fun o => ?_)
  refine V_dup hX dL_law_3 rfl ?_
  refine V.wd (w' := ([(o, .inr (4, [.null, .null, .null, .null, .null, .null, .null, .null, .int 0, .int 0, .int 0]))] : va_W)) rfl ?_
  refine V_rI (st := [.ref o]) hX wc_L_137 (c_X4_init l G o) ⟨Nat.le_of_ble_eq_true rfl, Nat.le_of_ble_eq_true rfl⟩ ⟨Nat.le_of_ble_eq_true rfl, Nat.le_of_ble_eq_true rfl⟩ rfl rfl (Nat.le_of_ble_eq_true rfl) dL_law_4 [] [] rfl (fun v u hp => ?_)
  obtain ⟨rfl, no, be, tr, sn, p, te, b, c, q, rfl⟩ := hp
  refine V.wd (w' := oH o no be tr sn p te b c 0 (-5) (-5) ++ (hB G no hz0 ++ (hB G be hz0 ++ (hB G tr hz0 ++ (hB G sn hz0 ++ (pW G p q (fun _ => hz0) 0 ++ (sB G te ((fun _ => 0)) ((fun _ => 0)) ((fun _ => 0)) ((fun _ => 0)) 0 0 0 ++ (bB G b true ((fun _ => 0)) ((fun _ => 0)) ++ bB G c false ((fun _ => 0)) ((fun _ => 0)))))))))) (by simp only [List.append_assoc, List.nil_append, List.append_nil]) ?_
  refine V_astore_n (i := 1) (lv' := [(1, .ref o), (0, .ref bs)]) hX dL_law_7 rfl (by decide) rfl ?_
  refine V.widen (k' := 102) (n' := 1456) (Nat.le_of_ble_eq_true rfl) (Nat.le_of_ble_eq_true rfl) ?_
  refine V_bipush hX dL_law_8 (by decide) ?_
  refine V_newai (N := 17) (k' := 103) (n' := 1473) hX (by decide) (Nat.le_of_ble_eq_true rfl) (Nat.le_of_ble_eq_true rfl) dL_law_10 rfl rfl (fun a1 => ?_)
  refine V_astore_n (i := 2) (lv' := [(2, .ref a1), (1, .ref o), (0, .ref bs)]) hX dL_law_12 rfl (by decide) rfl ?_
  refine V_bipush hX dL_law_13 (by decide) ?_
  refine V_newai (N := 60) (k' := 104) (n' := 1533) hX (by decide) (Nat.le_of_ble_eq_true rfl) (Nat.le_of_ble_eq_true rfl) dL_law_15 rfl rfl (fun a2 => ?_)
  refine V_astore_n (i := 3) (lv' := [(3, .ref a2), (2, .ref a1), (1, .ref o), (0, .ref bs)]) hX dL_law_17 rfl (by decide) rfl ?_
  refine V_bipush hX dL_law_18 (by decide) ?_
  refine V_newai (N := 48) (k' := 105) (n' := 1581) hX (by decide) (Nat.le_of_ble_eq_true rfl) (Nat.le_of_ble_eq_true rfl) dL_law_20 rfl rfl (fun a3 => ?_)
  refine V_astore (i := 4) (lv' := [(4, .ref a3), (3, .ref a2), (2, .ref a1), (1, .ref o), (0, .ref bs)]) hX dL_law_22 (by decide) rfl ?_
  refine V_bipush hX dL_law_24 (by decide) ?_
  refine V_newai (N := 24) (k' := 106) (n' := 1605) hX (by decide) (Nat.le_of_ble_eq_true rfl) (Nat.le_of_ble_eq_true rfl) dL_law_26 rfl rfl (fun a4 => ?_)
  refine V_astore (i := 5) (lv' := [(5, .ref a4), (4, .ref a3), (3, .ref a2), (2, .ref a1), (1, .ref o), (0, .ref bs)]) hX dL_law_28 (by decide) rfl ?_
  obtain ⟨d, hd⟩ : ∃ d : Nat → Nat, d = ad4 a1 a2 a3 a4 := ⟨_, rfl⟩
  refine V.wd (w' := oH o no be tr sn p te b c 0 (-5) (-5) ++ (hB G no hz0 ++ (hB G be hz0 ++ (hB G tr hz0 ++ (hB G sn hz0 ++ (pW G p q (fun _ => hz0) 0 ++ (sB G te ((fun _ => 0)) ((fun _ => 0)) ((fun _ => 0)) ((fun _ => 0)) 0 0 0 ++ (bB G b true ((fun _ => 0)) ((fun _ => 0)) ++ (bB G c false ((fun _ => 0)) ((fun _ => 0)) ++ lB G d ((fun _ => 0))))))))))) (by rw [hd, lB_0]; simp only [List.append_assoc, List.nil_append, List.append_nil, List.cons_append]) ?_
  refine V.toLv (lv' := [(5, .ref (d 3)), (4, .ref (d 2)), (3, .ref (d 1)), (2, .ref (d 0)), (1, .ref (o)), (0, .ref (bs))]) (by rw [hd]; rfl) ?_
  refine V_aload_n hX dL_law_30 3 rfl ?_
  refine V_iconst hX dL_law_31 ?_
  refine V_iconst hX dL_law_32 ?_
  refine V_iast (i0 := 1) (w' := oH o no be tr sn p te b c 0 (-5) (-5) ++ (hB G no hz0 ++ (hB G be hz0 ++ (hB G tr hz0 ++ (hB G sn hz0 ++ (pW G p q (fun _ => hz0) 0 ++ (sB G te ((fun _ => 0)) ((fun _ => 0)) ((fun _ => 0)) ((fun _ => 0)) 0 0 0 ++ (bB G b true ((fun _ => 0)) ((fun _ => 0)) ++ (bB G c false ((fun _ => 0)) ((fun _ => 0)) ++ lB G d (up ((fun _ => 0)) 1 2)))))))))) hX 102 rfl (by decide) (by decide) (by decide) rfl dL_law_33 (set_r rfl (set_r rfl (set_r rfl (set_r rfl (set_r rfl (set_r rfl (set_r rfl (set_r rfl (set_r rfl (lB_q G _ _ 1 _ (by omega))))))))))) ?_
  refine V_aload_n hX dL_law_34 3 rfl ?_
  refine V_iconst hX dL_law_35 ?_
  refine V_sipush hX dL_law_36 (by decide) ?_
  refine V_iast (i0 := 5) (w' := oH o no be tr sn p te b c 0 (-5) (-5) ++ (hB G no hz0 ++ (hB G be hz0 ++ (hB G tr hz0 ++ (hB G sn hz0 ++ (pW G p q (fun _ => hz0) 0 ++ (sB G te ((fun _ => 0)) ((fun _ => 0)) ((fun _ => 0)) ((fun _ => 0)) 0 0 0 ++ (bB G b true ((fun _ => 0)) ((fun _ => 0)) ++ (bB G c false ((fun _ => 0)) ((fun _ => 0)) ++ lB G d (up (up ((fun _ => 0)) 1 2) 5 640)))))))))) hX 102 rfl (by decide) (by decide) (by decide) rfl dL_law_39 (set_r rfl (set_r rfl (set_r rfl (set_r rfl (set_r rfl (set_r rfl (set_r rfl (set_r rfl (set_r rfl (lB_q G _ _ 5 _ (by omega))))))))))) ?_
  refine V_aload_n hX dL_law_40 3 rfl ?_
  refine V_bipush hX dL_law_41 (by decide) ?_
  refine V_bipush hX dL_law_43 (by decide) ?_
  refine V_iast (i0 := 9) (w' := oH o no be tr sn p te b c 0 (-5) (-5) ++ (hB G no hz0 ++ (hB G be hz0 ++ (hB G tr hz0 ++ (hB G sn hz0 ++ (pW G p q (fun _ => hz0) 0 ++ (sB G te ((fun _ => 0)) ((fun _ => 0)) ((fun _ => 0)) ((fun _ => 0)) 0 0 0 ++ (bB G b true ((fun _ => 0)) ((fun _ => 0)) ++ (bB G c false ((fun _ => 0)) ((fun _ => 0)) ++ lB G d (up (up (up ((fun _ => 0)) 1 2) 5 640) 9 (-5))))))))))) hX 102 rfl (by decide) (by decide) (by decide) rfl dL_law_45 (set_r rfl (set_r rfl (set_r rfl (set_r rfl (set_r rfl (set_r rfl (set_r rfl (set_r rfl (set_r rfl (lB_q G _ _ 9 _ (by omega))))))))))) ?_
  refine V_iconst hX dL_law_46 ?_
  refine V_istore (i := 6) (lv' := [(6, .int (jI 0)), (5, .ref (d 3)), (4, .ref (d 2)), (3, .ref (d 1)), (2, .ref (d 0)), (1, .ref (o)), (0, .ref (bs))]) hX dL_law_47 (by decide) rfl ?_
  refine V_iload hX dL_law_49 0 rfl ?_
  refine V_bipush hX dL_law_51 (by decide) ?_
  refine V_icmp_ge (tgt := 70) hX dL_law_53 (by decide) (by decide) (by decide) (fun c_1 => absurd c_1 (by decide)) (fun c_1 => ?_)
  refine V_aload_n hX dL_law_56 4 rfl ?_
  refine V_bipush hX dL_law_57 (by decide) ?_
  refine V_iload hX dL_law_59 0 rfl ?_
  refine V_iadd (c := 11) hX dL_law_61 rfl ?_
  refine V_iconst hX dL_law_62 ?_
  refine V_iast (i0 := 11) (w' := oH o no be tr sn p te b c 0 (-5) (-5) ++ (hB G no hz0 ++ (hB G be hz0 ++ (hB G tr hz0 ++ (hB G sn hz0 ++ (pW G p q (fun _ => hz0) 0 ++ (sB G te ((fun _ => 0)) ((fun _ => 0)) ((fun _ => 0)) ((fun _ => 0)) 0 0 0 ++ (bB G b true ((fun _ => 0)) ((fun _ => 0)) ++ (bB G c false ((fun _ => 0)) ((fun _ => 0)) ++ lB G d (up (up (up (up ((fun _ => 0)) 1 2) 5 640) 9 (-5)) 11 1)))))))))) hX 102 rfl (by decide) (by decide) (by decide) rfl dL_law_63 (set_r rfl (set_r rfl (set_r rfl (set_r rfl (set_r rfl (set_r rfl (set_r rfl (set_r rfl (set_r rfl (lB_q G _ _ 11 _ (by omega))))))))))) ?_
  refine V_iinc (b := 1) (lv' := [(6, .int (jI 1)), (5, .ref (d 3)), (4, .ref (d 2)), (3, .ref (d 1)), (2, .ref (d 0)), (1, .ref (o)), (0, .ref (bs))]) hX dL_law_64 0 rfl rfl (by decide) rfl ?_
  refine V_goto (tgt := 49) hX dL_law_67 (by decide) ?_
  refine V_iload hX dL_law_49 0 rfl ?_
  refine V_bipush hX dL_law_51 (by decide) ?_
  refine V_icmp_ge (tgt := 70) hX dL_law_53 (by decide) (by decide) (by decide) (fun c_2 => absurd c_2 (by decide)) (fun c_2 => ?_)
  refine V_aload_n hX dL_law_56 4 rfl ?_
  refine V_bipush hX dL_law_57 (by decide) ?_
  refine V_iload hX dL_law_59 0 rfl ?_
  refine V_iadd (c := 12) hX dL_law_61 rfl ?_
  refine V_iconst hX dL_law_62 ?_
  refine V_iast (i0 := 12) (w' := oH o no be tr sn p te b c 0 (-5) (-5) ++ (hB G no hz0 ++ (hB G be hz0 ++ (hB G tr hz0 ++ (hB G sn hz0 ++ (pW G p q (fun _ => hz0) 0 ++ (sB G te ((fun _ => 0)) ((fun _ => 0)) ((fun _ => 0)) ((fun _ => 0)) 0 0 0 ++ (bB G b true ((fun _ => 0)) ((fun _ => 0)) ++ (bB G c false ((fun _ => 0)) ((fun _ => 0)) ++ lB G d (up (up (up (up (up ((fun _ => 0)) 1 2) 5 640) 9 (-5)) 11 1) 12 1)))))))))) hX 102 rfl (by decide) (by decide) (by decide) rfl dL_law_63 (set_r rfl (set_r rfl (set_r rfl (set_r rfl (set_r rfl (set_r rfl (set_r rfl (set_r rfl (set_r rfl (lB_q G _ _ 12 _ (by omega))))))))))) ?_
  refine V_iinc (b := 2) (lv' := [(6, .int (jI 2)), (5, .ref (d 3)), (4, .ref (d 2)), (3, .ref (d 1)), (2, .ref (d 0)), (1, .ref (o)), (0, .ref (bs))]) hX dL_law_64 0 rfl rfl (by decide) rfl ?_
  refine V_goto (tgt := 49) hX dL_law_67 (by decide) ?_
  refine V_iload hX dL_law_49 0 rfl ?_
  refine V_bipush hX dL_law_51 (by decide) ?_
  refine V_icmp_ge (tgt := 70) hX dL_law_53 (by decide) (by decide) (by decide) (fun c_3 => absurd c_3 (by decide)) (fun c_3 => ?_)
  refine V_aload_n hX dL_law_56 4 rfl ?_
  refine V_bipush hX dL_law_57 (by decide) ?_
  refine V_iload hX dL_law_59 0 rfl ?_
  refine V_iadd (c := 13) hX dL_law_61 rfl ?_
  refine V_iconst hX dL_law_62 ?_
  refine V_iast (i0 := 13) (w' := oH o no be tr sn p te b c 0 (-5) (-5) ++ (hB G no hz0 ++ (hB G be hz0 ++ (hB G tr hz0 ++ (hB G sn hz0 ++ (pW G p q (fun _ => hz0) 0 ++ (sB G te ((fun _ => 0)) ((fun _ => 0)) ((fun _ => 0)) ((fun _ => 0)) 0 0 0 ++ (bB G b true ((fun _ => 0)) ((fun _ => 0)) ++ (bB G c false ((fun _ => 0)) ((fun _ => 0)) ++ lB G d (up (up (up (up (up (up ((fun _ => 0)) 1 2) 5 640) 9 (-5)) 11 1) 12 1) 13 1)))))))))) hX 102 rfl (by decide) (by decide) (by decide) rfl dL_law_63 (set_r rfl (set_r rfl (set_r rfl (set_r rfl (set_r rfl (set_r rfl (set_r rfl (set_r rfl (set_r rfl (lB_q G _ _ 13 _ (by omega))))))))))) ?_
  refine V_iinc (b := 3) (lv' := [(6, .int (jI 3)), (5, .ref (d 3)), (4, .ref (d 2)), (3, .ref (d 1)), (2, .ref (d 0)), (1, .ref (o)), (0, .ref (bs))]) hX dL_law_64 0 rfl rfl (by decide) rfl ?_
  refine V_goto (tgt := 49) hX dL_law_67 (by decide) ?_
  refine V_iload hX dL_law_49 0 rfl ?_
  refine V_bipush hX dL_law_51 (by decide) ?_
  refine V_icmp_ge (tgt := 70) hX dL_law_53 (by decide) (by decide) (by decide) (fun c_4 => absurd c_4 (by decide)) (fun c_4 => ?_)
  refine V_aload_n hX dL_law_56 4 rfl ?_
  refine V_bipush hX dL_law_57 (by decide) ?_
  refine V_iload hX dL_law_59 0 rfl ?_
  refine V_iadd (c := 14) hX dL_law_61 rfl ?_
  refine V_iconst hX dL_law_62 ?_
  refine V_iast (i0 := 14) (w' := oH o no be tr sn p te b c 0 (-5) (-5) ++ (hB G no hz0 ++ (hB G be hz0 ++ (hB G tr hz0 ++ (hB G sn hz0 ++ (pW G p q (fun _ => hz0) 0 ++ (sB G te ((fun _ => 0)) ((fun _ => 0)) ((fun _ => 0)) ((fun _ => 0)) 0 0 0 ++ (bB G b true ((fun _ => 0)) ((fun _ => 0)) ++ (bB G c false ((fun _ => 0)) ((fun _ => 0)) ++ lB G d (up (up (up (up (up (up (up ((fun _ => 0)) 1 2) 5 640) 9 (-5)) 11 1) 12 1) 13 1) 14 1)))))))))) hX 102 rfl (by decide) (by decide) (by decide) rfl dL_law_63 (set_r rfl (set_r rfl (set_r rfl (set_r rfl (set_r rfl (set_r rfl (set_r rfl (set_r rfl (set_r rfl (lB_q G _ _ 14 _ (by omega))))))))))) ?_
  refine V_iinc (b := 4) (lv' := [(6, .int (jI 4)), (5, .ref (d 3)), (4, .ref (d 2)), (3, .ref (d 1)), (2, .ref (d 0)), (1, .ref (o)), (0, .ref (bs))]) hX dL_law_64 0 rfl rfl (by decide) rfl ?_
  refine V_goto (tgt := 49) hX dL_law_67 (by decide) ?_
  refine V_iload hX dL_law_49 0 rfl ?_
  refine V_bipush hX dL_law_51 (by decide) ?_
  refine V_icmp_ge (tgt := 70) hX dL_law_53 (by decide) (by decide) (by decide) (fun c_5 => absurd c_5 (by decide)) (fun c_5 => ?_)
  refine V_aload_n hX dL_law_56 4 rfl ?_
  refine V_bipush hX dL_law_57 (by decide) ?_
  refine V_iload hX dL_law_59 0 rfl ?_
  refine V_iadd (c := 15) hX dL_law_61 rfl ?_
  refine V_iconst hX dL_law_62 ?_
  refine V_iast (i0 := 15) (w' := oH o no be tr sn p te b c 0 (-5) (-5) ++ (hB G no hz0 ++ (hB G be hz0 ++ (hB G tr hz0 ++ (hB G sn hz0 ++ (pW G p q (fun _ => hz0) 0 ++ (sB G te ((fun _ => 0)) ((fun _ => 0)) ((fun _ => 0)) ((fun _ => 0)) 0 0 0 ++ (bB G b true ((fun _ => 0)) ((fun _ => 0)) ++ (bB G c false ((fun _ => 0)) ((fun _ => 0)) ++ lB G d (up (up (up (up (up (up (up (up ((fun _ => 0)) 1 2) 5 640) 9 (-5)) 11 1) 12 1) 13 1) 14 1) 15 1)))))))))) hX 102 rfl (by decide) (by decide) (by decide) rfl dL_law_63 (set_r rfl (set_r rfl (set_r rfl (set_r rfl (set_r rfl (set_r rfl (set_r rfl (set_r rfl (set_r rfl (lB_q G _ _ 15 _ (by omega))))))))))) ?_
  refine V_iinc (b := 5) (lv' := [(6, .int (jI 5)), (5, .ref (d 3)), (4, .ref (d 2)), (3, .ref (d 1)), (2, .ref (d 0)), (1, .ref (o)), (0, .ref (bs))]) hX dL_law_64 0 rfl rfl (by decide) rfl ?_
  refine V_goto (tgt := 49) hX dL_law_67 (by decide) ?_
  refine V_iload hX dL_law_49 0 rfl ?_
  refine V_bipush hX dL_law_51 (by decide) ?_
  refine V_icmp_ge (tgt := 70) hX dL_law_53 (by decide) (by decide) (by decide) (fun c_6 => absurd c_6 (by decide)) (fun c_6 => ?_)
  refine V_aload_n hX dL_law_56 4 rfl ?_
  refine V_bipush hX dL_law_57 (by decide) ?_
  refine V_iload hX dL_law_59 0 rfl ?_
  refine V_iadd (c := 16) hX dL_law_61 rfl ?_
  refine V_iconst hX dL_law_62 ?_
  refine V_iast (i0 := 16) (w' := oH o no be tr sn p te b c 0 (-5) (-5) ++ (hB G no hz0 ++ (hB G be hz0 ++ (hB G tr hz0 ++ (hB G sn hz0 ++ (pW G p q (fun _ => hz0) 0 ++ (sB G te ((fun _ => 0)) ((fun _ => 0)) ((fun _ => 0)) ((fun _ => 0)) 0 0 0 ++ (bB G b true ((fun _ => 0)) ((fun _ => 0)) ++ (bB G c false ((fun _ => 0)) ((fun _ => 0)) ++ lB G d (up (up (up (up (up (up (up (up (up ((fun _ => 0)) 1 2) 5 640) 9 (-5)) 11 1) 12 1) 13 1) 14 1) 15 1) 16 1)))))))))) hX 102 rfl (by decide) (by decide) (by decide) rfl dL_law_63 (set_r rfl (set_r rfl (set_r rfl (set_r rfl (set_r rfl (set_r rfl (set_r rfl (set_r rfl (set_r rfl (lB_q G _ _ 16 _ (by omega))))))))))) ?_
  refine V_iinc (b := 6) (lv' := [(6, .int (jI 6)), (5, .ref (d 3)), (4, .ref (d 2)), (3, .ref (d 1)), (2, .ref (d 0)), (1, .ref (o)), (0, .ref (bs))]) hX dL_law_64 0 rfl rfl (by decide) rfl ?_
  refine V_goto (tgt := 49) hX dL_law_67 (by decide) ?_
  refine V_iload hX dL_law_49 0 rfl ?_
  refine V_bipush hX dL_law_51 (by decide) ?_
  refine V_icmp_ge (tgt := 70) hX dL_law_53 (by decide) (by decide) (by decide) (fun c_7 => ?_) (fun c_7 => absurd c_7 (by decide))
  refine V_iconst hX dL_law_70 ?_
  refine V_istore (i := 6) (lv' := [(6, .int (jI 0)), (5, .ref (d 3)), (4, .ref (d 2)), (3, .ref (d 1)), (2, .ref (d 0)), (1, .ref (o)), (0, .ref (bs))]) hX dL_law_71 (by decide) rfl ?_
  refine V.wd (w' := oH o no be tr sn p te b c 0 (-5) (-5) ++ (hB G no hz0 ++ (hB G be hz0 ++ (hB G tr hz0 ++ (hB G sn hz0 ++ (pW G p q (fun _ => hz0) 0 ++ (sB G te ((fun _ => 0)) ((fun _ => 0)) ((fun _ => 0)) ((fun _ => 0)) 0 0 0 ++ (bB G b true ((fun _ => 0)) ((fun _ => 0)) ++ (bB G c false ((fun _ => 0)) ((fun _ => 0)) ++ lB G d hz0))))))))) (app_c rfl (app_c rfl (app_c rfl (app_c rfl (app_c rfl (app_c rfl (app_c rfl (app_c rfl (app_c rfl (congrArg (lB G d) hz0_w)))))))))) ?_
  refine V.sub [0, 6, 5, 4, 3, 2, 1] rfl ?_
  exact law_loop hX bs o no be tr sn p te b c d hLS hLm hend 50 0 (Int.le_refl _) (by decide) (by decide) hz0 hz0 hz0 hz0 q (fun _ => hz0) 0 (fun _ => 0) (fun _ => 0) (fun _ => 0) (fun _ => 0) 0 0 0 (fun _ => 0) (fun _ => 0) (fun _ => 0) (fun _ => 0) 0 (-5) (-5) ⟨IG.z, by decide, by decide⟩
