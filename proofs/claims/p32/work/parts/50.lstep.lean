/-! one turn of the law -/
abbrev LH (s : Nat → Int) (sz : Nat) (i : Int) : Prop := IG s ∧ sz ≤ 4 ∧ s 2 ≤ 64 * i
def lW (G : vC) (o : Nat) (no be tr sn p te b c d : Nat → Nat) (s : Nat → Int) (sb : Nat → Int) (st : Nat → Int) (ss : Nat → Int) (q : Nat → Nat → Nat) (hs : Nat → Nat → Int) (sz : Nat) (ch : Nat → Int) (ki : Nat → Int) (fi : Nat → Int) (se : Nat → Int) (ln : Int) (th : Int) (ps : Int) (W : Nat → Nat) (vf : Nat → Int) (W2 : Nat → Nat) (vf2 : Nat → Int) (kp : Int) (sN : Int) (sE : Int) : va_W := oH o no be tr sn p te b c kp sN sE ++ (hB G no s ++ (hB G be sb ++ (hB G tr st ++ (hB G sn ss ++ (pW G p q hs sz ++ (sB G te ch ki fi se ln th ps ++ (bB G b true W vf ++ (bB G c false W2 vf2 ++ lB G d s))))))))
abbrev LG (X : vX) (G : vC) (pc : Nat) (bs : Nat) (o : Nat) (no : Nat → Nat) (be : Nat → Nat) (tr : Nat → Nat) (sn : Nat → Nat) (p : Nat → Nat) (te : Nat → Nat) (b : Nat → Nat) (c : Nat → Nat) (d : Nat → Nat) (i : Int) : Prop := ∀ (s : Nat → Int) (sb : Nat → Int) (st : Nat → Int) (ss : Nat → Int) (q : Nat → Nat → Nat) (hs : Nat → Nat → Int) (sz : Nat) (ch : Nat → Int) (ki : Nat → Int) (fi : Nat → Int) (se : Nat → Int) (ln : Int) (th : Int) (ps : Int) (W : Nat → Nat) (vf : Nat → Int) (W2 : Nat → Nat) (vf2 : Nat → Int) (kp : Int) (sN : Int) (sE : Int), LH s sz i → V X 106 1605 (lW G o no be tr sn p te b c d s sb st ss q hs sz ch ki fi se ln th ps W vf W2 vf2 kp sN sE) [(6, .int (jI i)), (0, .ref (bs)), (1, .ref (o)), (2, .ref (d 0)), (3, .ref (d 1)), (4, .ref (d 2)), (5, .ref (d 3))] pc []
abbrev yLaw (nm : String) : MethodName := ⟨"StrawHouseLaw", nm, ""⟩

set_option maxHeartbeats 4000000 in
set_option maxRecDepth 100000 in
theorem law_step {X : vX} {l : Launch} {G : vC} {nm : String} (hX : VS X l G (yLaw nm) cL_law room_1 16) {L : Nat} {xs : Nat → Int32} (bs : Nat) (o : Nat) (no : Nat → Nat) (be : Nat → Nat) (tr : Nat → Nat) (sn : Nat → Nat) (p : Nat → Nat) (te : Nat → Nat) (b : Nat → Nat) (c : Nat → Nat) (d : Nat → Nat) (hLS : LawS X bs L xs) (hLm : L ≤ 260) (hend : ∀ (w : va_W) (lv : List (Nat × Value)), V X 106 1605 w lv 626 []) (i : Int) (hi0 : 0 ≤ i ∧ i ≤ 50) (ih : i < 50 → LG X G 73 bs o no be tr sn p te b c d (i + 1)) : LG X G 73 bs o no be tr sn p te b c d i := by
  intro s sb st ss q hs sz ch ki fi se ln th ps W vf W2 vf2 kp sN sE h
  obtain ⟨h0, hsz, htk⟩ := h
  have hI := h0.1
  have hb := hI.base
  unfold lW
  refine V_iload hX dL_law_73 0 rfl ?_
  refine V_bipush hX dL_law_75 (by decide) ?_
  refine V_icmp_ge (tgt := 626) hX dL_law_77 (by decide) (by omega) (by decide) (fun c_1 => ?_) (fun c_1 => ?_)
  · exact hend _ _
  · refine V_aload_n hX dL_law_80 1 rfl ?_
    refine V_iconst hX dL_law_81 ?_
    refine V_iload hX dL_law_82 0 rfl ?_
    refine V_imul hX dL_law_84 rfl ?_
    refine V_rSS (st := []) hX hLS wc_L_138 (c_L_cell l G bs L xs (2 * i) ⟨by omega, by omega⟩ hLm) (by decide) (by decide) rfl rfl (Nat.le_of_ble_eq_true rfl) dL_law_85 (fun v_x0 u_x0 hp_x0 => ?_)
    obtain ⟨⟨x0, rfl⟩, rfl⟩ := hp_x0
    refine V.wd (w' := oH o no be tr sn p te b c kp sN sE ++ (hB G no s ++ (hB G be sb ++ (hB G tr st ++ (hB G sn ss ++ (pW G p q hs sz ++ (sB G te ch ki fi se ln th ps ++ (bB G b true W vf ++ (bB G c false W2 vf2 ++ lB G d s))))))))) (by simp only [List.append_assoc, List.nil_append, List.append_nil]) ?_
    refine V.widen (k' := 106) (n' := 1605) (Nat.le_of_ble_eq_true rfl) (Nat.le_of_ble_eq_true rfl) ?_
    refine V_istore (i := 7) (lv' := [(7, .int (x0)), (6, .int (jI i)), (0, .ref (bs)), (1, .ref (o)), (2, .ref (d 0)), (3, .ref (d 1)), (4, .ref (d 2)), (5, .ref (d 3))]) hX dL_law_88 (by decide) rfl ?_
    refine V_aload_n hX dL_law_90 2 rfl ?_
    refine V_iconst hX dL_law_91 ?_
    refine V_iload hX dL_law_92 1 rfl ?_
    refine V_imul hX dL_law_94 rfl ?_
    refine V_iconst hX dL_law_95 ?_
    refine V_iadd hX dL_law_96 rfl ?_
    refine V_rSS (st := []) hX hLS wc_L_138 (c_L_cell l G bs L xs ((2 * i) + 1) ⟨by omega, by omega⟩ hLm) (by decide) (by decide) rfl rfl (Nat.le_of_ble_eq_true rfl) dL_law_97 (fun v_y0 u_y0 hp_y0 => ?_)
    obtain ⟨⟨y0, rfl⟩, rfl⟩ := hp_y0
    refine V.wd (w' := oH o no be tr sn p te b c kp sN sE ++ (hB G no s ++ (hB G be sb ++ (hB G tr st ++ (hB G sn ss ++ (pW G p q hs sz ++ (sB G te ch ki fi se ln th ps ++ (bB G b true W vf ++ (bB G c false W2 vf2 ++ lB G d s))))))))) (by simp only [List.append_assoc, List.nil_append, List.append_nil]) ?_
    refine V.widen (k' := 106) (n' := 1605) (Nat.le_of_ble_eq_true rfl) (Nat.le_of_ble_eq_true rfl) ?_
    refine V_istore (i := 8) (lv' := [(8, .int (y0)), (7, .int (x0)), (6, .int (jI i)), (0, .ref (bs)), (1, .ref (o)), (2, .ref (d 0)), (3, .ref (d 1)), (4, .ref (d 2)), (5, .ref (d 3))]) hX dL_law_100 (by decide) rfl ?_
    refine V_iload hX dL_law_102 1 rfl ?_
    refine V_bipush hX dL_law_104 (by decide) ?_
    refine V_cS (st := []) (v := .int (jI (loN x0 % 30))) (w' := oH o no be tr sn p te b c kp sN sE ++ (hB G no s ++ (hB G be sb ++ (hB G tr st ++ (hB G sn ss ++ (pW G p q hs sz ++ (sB G te ch ki fi se ln th ps ++ (bB G b true W vf ++ (bB G c false W2 vf2 ++ lB G d s))))))))) hX wc_L_115 (c_L_low l G x0 30 (by omega)) (by decide) (by decide) rfl rfl (Nat.le_of_ble_eq_true rfl) dL_law_106 [] (oH o no be tr sn p te b c kp sN sE ++ (hB G no s ++ (hB G be sb ++ (hB G tr st ++ (hB G sn ss ++ (pW G p q hs sz ++ (sB G te ch ki fi se ln th ps ++ (bB G b true W vf ++ (bB G c false W2 vf2 ++ lB G d s))))))))) (by simp only [List.append_assoc, List.nil_append, List.append_nil]) (by simp only [List.append_assoc, List.nil_append, List.append_nil]) rfl rfl ?_
    refine V_istore (i := 9) (lv' := [(9, .int (jI (loN x0 % 30))), (8, .int (y0)), (7, .int (x0)), (6, .int (jI i)), (0, .ref (bs)), (1, .ref (o)), (2, .ref (d 0)), (3, .ref (d 1)), (4, .ref (d 2)), (5, .ref (d 3))]) hX dL_law_109 (by decide) rfl ?_
    have J232_q_2 : ∀ (kd : Int), (0 ≤ kd ∧ kd ≤ 10) → V X 106 1605 (oH o no be tr sn p te b c kp sN sE ++ (hB G no s ++ (hB G be sb ++ (hB G tr st ++ (hB G sn ss ++ (pW G p q hs sz ++ (sB G te ch ki fi se ln th ps ++ (bB G b true W vf ++ (bB G c false W2 vf2 ++ lB G d s))))))))) [(6, .int (jI i)), (7, .int (x0)), (8, .int (y0)), (0, .ref (bs)), (1, .ref (o)), (2, .ref (d 0)), (3, .ref (d 1)), (4, .ref (d 2)), (5, .ref (d 3))] 232 [.int (jI kd)] := by
      intro kd hkd
      refine V_istore (i := 9) (lv' := [(9, .int (jI kd)), (6, .int (jI i)), (7, .int (x0)), (8, .int (y0)), (0, .ref (bs)), (1, .ref (o)), (2, .ref (d 0)), (3, .ref (d 1)), (4, .ref (d 2)), (5, .ref (d 3))]) hX dL_law_232 (by decide) rfl ?_
      have J315_q_3 : ∀ (u : Int), (0 ≤ u ∧ u ≤ 11 ∧ (kd = 6 → u ≤ 5) ∧ (kd = 8 → u ≤ 1)) → V X 106 1605 (oH o no be tr sn p te b c kp sN sE ++ (hB G no s ++ (hB G be sb ++ (hB G tr st ++ (hB G sn ss ++ (pW G p q hs sz ++ (sB G te ch ki fi se ln th ps ++ (bB G b true W vf ++ (bB G c false W2 vf2 ++ lB G d s))))))))) [(9, .int (jI kd)), (6, .int (jI i)), (7, .int (x0)), (8, .int (y0)), (0, .ref (bs)), (1, .ref (o)), (2, .ref (d 0)), (3, .ref (d 1)), (4, .ref (d 2)), (5, .ref (d 3))] 315 [.int (jI u)] := by
        intro u hu
        refine V_istore (i := 10) (lv' := [(10, .int (jI u)), (9, .int (jI kd)), (6, .int (jI i)), (7, .int (x0)), (8, .int (y0)), (0, .ref (bs)), (1, .ref (o)), (2, .ref (d 0)), (3, .ref (d 1)), (4, .ref (d 2)), (5, .ref (d 3))]) hX dL_law_315 (by decide) rfl ?_
        have J373_q_4 : ∀ (v : Int), (0 ≤ v ∧ v ≤ 9 ∧ (kd = 1 → v ≤ 5) ∧ (kd = 2 ∨ kd = 3 ∨ kd = 7 → v ≤ 3) ∧ (kd = 6 → 1 ≤ v)) → V X 106 1605 (oH o no be tr sn p te b c kp sN sE ++ (hB G no s ++ (hB G be sb ++ (hB G tr st ++ (hB G sn ss ++ (pW G p q hs sz ++ (sB G te ch ki fi se ln th ps ++ (bB G b true W vf ++ (bB G c false W2 vf2 ++ lB G d s))))))))) [(9, .int (jI kd)), (10, .int (jI u)), (6, .int (jI i)), (7, .int (x0)), (8, .int (y0)), (0, .ref (bs)), (1, .ref (o)), (2, .ref (d 0)), (3, .ref (d 1)), (4, .ref (d 2)), (5, .ref (d 3))] 373 [.int (jI v)] := by
          intro v hv
          refine V_istore (i := 11) (lv' := [(11, .int (jI v)), (9, .int (jI kd)), (10, .int (jI u)), (6, .int (jI i)), (7, .int (x0)), (8, .int (y0)), (0, .ref (bs)), (1, .ref (o)), (2, .ref (d 0)), (3, .ref (d 1)), (4, .ref (d 2)), (5, .ref (d 3))]) hX dL_law_373 (by decide) rfl ?_
          have J493_q_5 : ∀ (w : Int), (0 ≤ w ∧ w ≤ 64 ∧ (kd = 5 → 1 ≤ w) ∧ (kd = 7 → w ≤ 9) ∧ (kd = 8 → w ≤ 20 ∧ (u = 1 → w ≤ 8)) ∧ (kd = 10 → 1 ≤ w)) → V X 106 1605 (oH o no be tr sn p te b c kp sN sE ++ (hB G no s ++ (hB G be sb ++ (hB G tr st ++ (hB G sn ss ++ (pW G p q hs sz ++ (sB G te ch ki fi se ln th ps ++ (bB G b true W vf ++ (bB G c false W2 vf2 ++ lB G d s))))))))) [(9, .int (jI kd)), (10, .int (jI u)), (11, .int (jI v)), (6, .int (jI i)), (7, .int (x0)), (8, .int (y0)), (0, .ref (bs)), (1, .ref (o)), (2, .ref (d 0)), (3, .ref (d 1)), (4, .ref (d 2)), (5, .ref (d 3))] 493 [.int (jI w)] := by
            intro w hw
            refine V_istore (i := 12) (lv' := [(12, .int (jI w)), (9, .int (jI kd)), (10, .int (jI u)), (11, .int (jI v)), (6, .int (jI i)), (7, .int (x0)), (8, .int (y0)), (0, .ref (bs)), (1, .ref (o)), (2, .ref (d 0)), (3, .ref (d 1)), (4, .ref (d 2)), (5, .ref (d 3))]) hX dL_law_493 (by decide) rfl ?_
            have hrg : rgP kd u v w := by unfold rgP; omega
            have hcb := ca_b h0 kd u v w hrg
            have h1 := h0.ca kd u v w
            have hI1 := h1.1
            refine V_aload_n hX dL_law_495 8 rfl ?_
            refine V_rS (st := []) hX wc_L_142 (c_L_told l G o no be tr sn p te b c kp sN sE s sb st ss q hs sz ch ki fi se ln th ps W vf W2 vf2 hI hsz) (by decide) (by decide) rfl rfl (Nat.le_of_ble_eq_true rfl) dL_law_496 [] (lB G d s) (by simp only [List.append_assoc, List.nil_append, List.append_nil]) (fun v_7 u_6 hp_8 => ?_)
            obtain ⟨rfl, Wt_9, vft_10, rfl⟩ := hp_8
            refine V.wd (w' := oH o no be tr sn p te b c kp sN sE ++ (hB G no s ++ (hB G be sb ++ (hB G tr st ++ (hB G sn ss ++ (pW G p q hs sz ++ (sB G te ch ki fi se ln th ps ++ (bB G b true Wt_9 vft_10 ++ (bB G c false W2 vf2 ++ lB G d s))))))))) (by simp only [List.append_assoc, List.nil_append, List.append_nil]) ?_
            refine V_lstore (i := 13) (lv' := [(13, .long (tdC s 12)), (12, .int (jI w)), (9, .int (jI kd)), (10, .int (jI u)), (11, .int (jI v)), (6, .int (jI i)), (7, .int (x0)), (8, .int (y0)), (0, .ref (bs)), (1, .ref (o)), (2, .ref (d 0)), (3, .ref (d 1)), (4, .ref (d 2)), (5, .ref (d 3))]) hX dL_law_499 (by decide) rfl ?_
            refine V_aload_n hX dL_law_501 9 rfl ?_
            refine V_iload hX dL_law_502 2 rfl ?_
            refine V_iload hX dL_law_504 3 rfl ?_
            refine V_iload hX dL_law_506 4 rfl ?_
            refine V_iload hX dL_law_508 1 rfl ?_
            refine V_rS (st := []) hX wc_L_146 (c_L_call l G o no be tr sn p te b c kp sN sE s sb st ss q hs sz ch ki fi se ln th ps Wt_9 vft_10 W2 vf2 kd u v w hI hsz hrg) (by decide) (by decide) rfl rfl (Nat.le_of_ble_eq_true rfl) dL_law_510 [] (lB G d s) (by simp only [List.append_assoc, List.nil_append, List.append_nil]) (fun v_12 u_11 hp_13 => ?_)
            obtain ⟨rfl, Wc_14, vfc_15, rfl⟩ := hp_13
            refine V.wd (w' := oH o no be tr sn p te b c kp sN sE ++ (hB G no (caS s kd u v w) ++ (hB G be s ++ (hB G tr st ++ (hB G sn ss ++ (pW G p (rcQ q sz (caR s kd u v w)) (rcH hs sz s (caR s kd u v w)) (rcZ sz (caR s kd u v w)) ++ (sB G te ch ki fi se ln th ps ++ (bB G b true Wc_14 vfc_15 ++ (bB G c false W2 vf2 ++ lB G d s))))))))) (by simp only [List.append_assoc, List.nil_append, List.append_nil]) ?_
            refine V_istore (i := 15) (lv' := [(15, .int (jI (caR s kd u v w))), (13, .long (tdC s 12)), (12, .int (jI w)), (9, .int (jI kd)), (10, .int (jI u)), (11, .int (jI v)), (6, .int (jI i)), (7, .int (x0)), (8, .int (y0)), (0, .ref (bs)), (1, .ref (o)), (2, .ref (d 0)), (3, .ref (d 1)), (4, .ref (d 2)), (5, .ref (d 3))]) hX dL_law_513 (by decide) rfl ?_
            have J579_q_16 : ∀ (q7 : Nat → Nat → Nat) (hs7 : Nat → Nat → Int) (sz7 : Nat) (W7 : Nat → Nat) (vf7 : Nat → Int), (sz7 ≤ 4) → V X 106 1605 (oH o no be tr sn p te b c kp sN sE ++ (hB G no (caS s kd u v w) ++ (hB G be s ++ (hB G tr st ++ (hB G sn ss ++ (pW G p q7 hs7 sz7 ++ (sB G te ch ki fi se ln th ps ++ (bB G b true W7 vf7 ++ (bB G c false W2 vf2 ++ lB G d s))))))))) [(15, .int (jI (caR s kd u v w))), (12, .int (jI w)), (11, .int (jI v)), (10, .int (jI u)), (9, .int (jI kd)), (6, .int (jI i)), (7, .int (x0)), (8, .int (y0)), (0, .ref (bs)), (1, .ref (o)), (2, .ref (d 0)), (3, .ref (d 1)), (4, .ref (d 2)), (5, .ref (d 3))] 579 [] := by
              intro q7 hs7 sz7 W7 vf7 hz7
              refine V_iload hX dL_law_579 0 rfl ?_
              refine V_iload hX dL_law_581 4 rfl ?_
              refine V_iload hX dL_law_583 3 rfl ?_
              refine V_iload hX dL_law_585 2 rfl ?_
              refine V_iload hX dL_law_587 1 rfl ?_
              refine V_aload_n hX dL_law_589 10 rfl ?_
              refine V_aload_n hX dL_law_590 11 rfl ?_
              refine V_aload hX dL_law_591 12 rfl ?_
              refine V_aload hX dL_law_593 13 rfl ?_
              refine V_cS (st := [.int (jI (caR s kd u v w))]) (v := .int (jI (caR s kd u v w))) (w' := oH o no be tr sn p te b c kp sN sE ++ (hB G no (caS s kd u v w) ++ (hB G be s ++ (hB G tr st ++ (hB G sn ss ++ (pW G p q7 hs7 sz7 ++ (sB G te ch ki fi se ln th ps ++ (bB G b true W7 vf7 ++ (bB G c false W2 vf2 ++ lB G d (caS s kd u v w)))))))))) hX wc_L_153 (c_L_due l G d s kd u v w hI hrg (by omega)) (by decide) (by decide) rfl rfl (Nat.le_of_ble_eq_true rfl) dL_law_595 (oH o no be tr sn p te b c kp sN sE ++ (hB G no (caS s kd u v w) ++ (hB G be s ++ (hB G tr st ++ (hB G sn ss ++ (pW G p q7 hs7 sz7 ++ (sB G te ch ki fi se ln th ps ++ (bB G b true W7 vf7 ++ bB G c false W2 vf2)))))))) ([]) (by simp only [List.append_assoc, List.nil_append, List.append_nil]) (by simp only [List.append_assoc, List.nil_append, List.append_nil]) rfl rfl ?_
              refine V_icmp_nev (tgt := 618) hX dL_law_598 (by decide) rfl ?_
              refine V_aload_n hX dL_law_601 9 rfl ?_
              refine V_iload hX dL_law_602 6 rfl ?_
              refine V_iconst hX dL_law_604 ?_
              refine V_ishr hX dL_law_605 ?_
              refine V_aload_n hX dL_law_606 10 rfl ?_
              refine V_aload_n hX dL_law_607 11 rfl ?_
              refine V_aload hX dL_law_608 12 rfl ?_
              refine V_aload hX dL_law_610 13 rfl ?_
              refine V_rS (st := []) hX wc_L_157 (c_L_isSo l G o no be tr sn p te b c kp sN sE (caS s kd u v w) s st ss q7 hs7 sz7 ch ki fi se ln th ps W7 vf7 W2 vf2 d ((x0) >>> ((jI (5)) &&& 31)) hI1 hz7 h1.2) (by decide) (by decide) rfl rfl (Nat.le_of_ble_eq_true rfl) dL_law_612 [] ([]) (by simp only [List.append_assoc, List.nil_append, List.append_nil]) (fun v_18 u_17 hp_19 => ?_)
              obtain ⟨rfl, st5_20, W5_21, vf5_22, W6_23, vf6_24, rfl⟩ := hp_19
              refine V.wd (w' := oH o no be tr sn p te b c kp sN sE ++ (hB G no (caS s kd u v w) ++ (hB G be s ++ (hB G tr st5_20 ++ (hB G sn ss ++ (pW G p q7 hs7 sz7 ++ (sB G te ch ki fi se ln th ps ++ (bB G b true W5_21 vf5_22 ++ (bB G c false W6_23 vf6_24 ++ lB G d (caS s kd u v w)))))))))) (by simp only [List.append_assoc, List.nil_append, List.append_nil]) ?_
              refine V_if_ne (tgt := 620) hX dL_law_615 (by decide) (by decide) (fun c_25 => ?_) (fun c_25 => absurd c_25 (by decide))
              refine V_iinc (b := i + 1) (lv' := [(6, .int (jI (i + 1))), (15, .int (jI (caR s kd u v w))), (12, .int (jI w)), (11, .int (jI v)), (10, .int (jI u)), (9, .int (jI kd)), (7, .int (x0)), (8, .int (y0)), (0, .ref (bs)), (1, .ref (o)), (2, .ref (d 0)), (3, .ref (d 1)), (4, .ref (d 2)), (5, .ref (d 3))]) hX dL_law_620 5 rfl rfl (by decide) rfl ?_
              refine V_goto (tgt := 73) hX dL_law_623 (by decide) ?_
              refine V.sub [0, 8, 9, 10, 11, 12, 13] rfl ?_
              exact ih (by omega) _ _ _ _ _ _ _ _ _ _ _ _ _ _ _ _ _ _ _ _ _ ⟨h0.ca kd u v w, by omega, by have q1 := (ca_2 s kd u v w (by omega)).resolve_right (fun q2 => q2 h0); omega⟩
            refine V_iload hX dL_law_515 0 rfl ?_
            refine V_if_ge (tgt := 533) hX dL_law_517 (by decide) (by omega) (fun c_26 => ?_) (fun c_26 => ?_)
            · refine V_iload hX dL_law_533 7 rfl ?_
              refine V_bipush hX dL_law_535 (by decide) ?_
              refine V_ishr hX dL_law_537 ?_
              refine V_iconst hX dL_law_538 ?_
              refine V_iand hX dL_law_539 ?_
              obtain ⟨gg, hgg, hrgg⟩ : ∃ z : Int, ((x0) >>> ((jI (24)) &&& 31)) &&& (jI (3)) = jI z ∧ iR z := ⟨_, (jI_as _).symm, jI_rng _⟩
              refine V.sk (st' := [.int (jI gg)]) (congrArg (fun z : Int32 => [Value.int z]) hgg) ?_
              refine V_if_ne (tgt := 579) hX dL_law_540 (by decide) (by omega) (fun c_27 => ?_) (fun c_27 => ?_)
              · refine V.sub [0, 2, 5, 4, 3, 6, 7, 8, 9, 10, 11, 12, 13, 14] rfl ?_
                exact J579_q_16 _ _ _ _ _ (by first | exact rcZ_b hsz _ | exact rcZ_b (by have := un_z (sz := sz) (r := caR s kd u v w) (by omega) hsz; omega) _)
              · refine V_aload_n hX dL_law_543 10 rfl ?_
                refine V_cV (st := []) (v := .int (jI (if (rcZ sz (caR s kd u v w)) = 0 then -5 else ((rcZ sz (caR s kd u v w)) : Int) - 1))) (w' := oH o no be tr sn p te b c kp sN sE ++ (hB G no (if (rcZ sz (caR s kd u v w)) = 0 then (caS s kd u v w) else (rcH hs sz s (caR s kd u v w)) ((rcZ sz (caR s kd u v w)) - 1)) ++ (hB G be s ++ (hB G tr st ++ (hB G sn ss ++ (pW G p (rcQ q sz (caR s kd u v w)) (rcH hs sz s (caR s kd u v w)) ((rcZ sz (caR s kd u v w)) - 1) ++ (sB G te ch ki fi se ln th ps ++ (bB G b true Wc_14 vfc_15 ++ (bB G c false W2 vf2 ++ lB G d s))))))))) hX wc_L_150 (c_X4_undo l G o no be tr sn p te b c kp sN sE (caS s kd u v w) s st ss (rcQ q sz (caR s kd u v w)) (rcH hs sz s (caR s kd u v w)) (rcZ sz (caR s kd u v w)) ch ki fi se ln th ps Wc_14 vfc_15 W2 vf2 hI1 (rcZ_b hsz _)) (by decide) (by decide) rfl rfl (Nat.le_of_ble_eq_true rfl) dL_law_544 [] (lB G d s) (by simp only [List.append_assoc, List.nil_append, List.append_nil]) 0 rfl rfl (by simp only [List.append_assoc, List.nil_append, List.append_nil]) rfl rfl ?_
                have hz1 := un_z (sz := sz) (r := caR s kd u v w) (by omega) hsz
                refine V.sk (st' := [.int (jI (((rcZ sz (caR s kd u v w) : Nat) : Int) - 1))]) (congrArg (fun z : Int => [Value.int (jI z)]) (if_neg (by omega))) ?_
                refine V.wd (w' := oH o no be tr sn p te b c kp sN sE ++ (hB G no s ++ (hB G be s ++ (hB G tr st ++ (hB G sn ss ++ (pW G p (rcQ q sz (caR s kd u v w)) (rcH hs sz s (caR s kd u v w)) ((rcZ sz (caR s kd u v w)) - 1) ++ (sB G te ch ki fi se ln th ps ++ (bB G b true Wc_14 vfc_15 ++ (bB G c false W2 vf2 ++ lB G d s))))))))) (app_c rfl (app_c (congrArg (hB G no) (un_h (by omega) hsz)) (app_c rfl (app_c rfl (app_c rfl (app_c rfl (app_c rfl (app_c rfl (app_c rfl rfl))))))))) ?_
                refine V_if_lt (tgt := 577) hX dL_law_547 (by decide) (by omega) (fun c_28 => ?_) (fun c_28 => ?_)
                · exact absurd c_28 (by omega)
                · refine V_aload_n hX dL_law_550 10 rfl ?_
                  refine V_rS (st := []) hX wc_L_142 (c_L_told l G o no be tr sn p te b c kp sN sE s s st ss (rcQ q sz (caR s kd u v w)) (rcH hs sz s (caR s kd u v w)) ((rcZ sz (caR s kd u v w)) - 1) ch ki fi se ln th ps Wc_14 vfc_15 W2 vf2 hI (by omega)) (by decide) (by decide) rfl rfl (Nat.le_of_ble_eq_true rfl) dL_law_551 [] (lB G d s) (by simp only [List.append_assoc, List.nil_append, List.append_nil]) (fun v_30 u_29 hp_31 => ?_)
                  obtain ⟨rfl, Wt_32, vft_33, rfl⟩ := hp_31
                  refine V.wd (w' := oH o no be tr sn p te b c kp sN sE ++ (hB G no s ++ (hB G be s ++ (hB G tr st ++ (hB G sn ss ++ (pW G p (rcQ q sz (caR s kd u v w)) (rcH hs sz s (caR s kd u v w)) ((rcZ sz (caR s kd u v w)) - 1) ++ (sB G te ch ki fi se ln th ps ++ (bB G b true Wt_32 vft_33 ++ (bB G c false W2 vf2 ++ lB G d s))))))))) (by simp only [List.append_assoc, List.nil_append, List.append_nil]) ?_
                  refine V_lload hX dL_law_554 1 rfl ?_
                  refine V_lcmp (r := jI 0) hX dL_law_556 (lc_self _) ?_
                  refine V_if_ne (tgt := 577) hX dL_law_557 (by decide) (by decide) (fun c_34 => absurd c_34 (by decide)) (fun c_34 => ?_)
                  refine V_aload_n hX dL_law_560 10 rfl ?_
                  refine V_iload hX dL_law_561 3 rfl ?_
                  refine V_iload hX dL_law_563 4 rfl ?_
                  refine V_iload hX dL_law_565 5 rfl ?_
                  refine V_iload hX dL_law_567 2 rfl ?_
                  refine V_rS (st := []) hX wc_L_146 (c_L_call l G o no be tr sn p te b c kp sN sE s s st ss (rcQ q sz (caR s kd u v w)) (rcH hs sz s (caR s kd u v w)) ((rcZ sz (caR s kd u v w)) - 1) ch ki fi se ln th ps Wt_32 vft_33 W2 vf2 kd u v w hI (by omega) hrg) (by decide) (by decide) rfl rfl (Nat.le_of_ble_eq_true rfl) dL_law_569 [] (lB G d s) (by simp only [List.append_assoc, List.nil_append, List.append_nil]) (fun v_36 u_35 hp_37 => ?_)
                  obtain ⟨rfl, Wc_38, vfc_39, rfl⟩ := hp_37
                  refine V.wd (w' := oH o no be tr sn p te b c kp sN sE ++ (hB G no (caS s kd u v w) ++ (hB G be s ++ (hB G tr st ++ (hB G sn ss ++ (pW G p (rcQ (rcQ q sz (caR s kd u v w)) ((rcZ sz (caR s kd u v w)) - 1) (caR s kd u v w)) (rcH (rcH hs sz s (caR s kd u v w)) ((rcZ sz (caR s kd u v w)) - 1) s (caR s kd u v w)) (rcZ ((rcZ sz (caR s kd u v w)) - 1) (caR s kd u v w)) ++ (sB G te ch ki fi se ln th ps ++ (bB G b true Wc_38 vfc_39 ++ (bB G c false W2 vf2 ++ lB G d s))))))))) (by simp only [List.append_assoc, List.nil_append, List.append_nil]) ?_
                  refine V_iload hX dL_law_572 0 rfl ?_
                  refine V_icmp_eq (tgt := 579) hX dL_law_574 (by decide) (by omega) (by omega) (fun c_40 => ?_) (fun c_40 => ?_)
                  · refine V.sub [0, 2, 5, 4, 3, 6, 7, 8, 9, 10, 11, 12, 13, 14] rfl ?_
                    exact J579_q_16 _ _ _ _ _ (by first | exact rcZ_b hsz _ | exact rcZ_b (by have := un_z (sz := sz) (r := caR s kd u v w) (by omega) hsz; omega) _)
                  · exact absurd rfl c_40
            · refine V_aload_n hX dL_law_520 10 rfl ?_
              refine V_rS (st := []) hX wc_L_142 (c_L_told l G o no be tr sn p te b c kp sN sE (caS s kd u v w) s st ss (rcQ q sz (caR s kd u v w)) (rcH hs sz s (caR s kd u v w)) (rcZ sz (caR s kd u v w)) ch ki fi se ln th ps Wc_14 vfc_15 W2 vf2 hI1 (rcZ_b hsz _)) (by decide) (by decide) rfl rfl (Nat.le_of_ble_eq_true rfl) dL_law_521 [] (lB G d s) (by simp only [List.append_assoc, List.nil_append, List.append_nil]) (fun v_42 u_41 hp_43 => ?_)
              obtain ⟨rfl, Wt_44, vft_45, rfl⟩ := hp_43
              refine V.wd (w' := oH o no be tr sn p te b c kp sN sE ++ (hB G no (caS s kd u v w) ++ (hB G be s ++ (hB G tr st ++ (hB G sn ss ++ (pW G p (rcQ q sz (caR s kd u v w)) (rcH hs sz s (caR s kd u v w)) (rcZ sz (caR s kd u v w)) ++ (sB G te ch ki fi se ln th ps ++ (bB G b true Wt_44 vft_45 ++ (bB G c false W2 vf2 ++ lB G d s))))))))) (by simp only [List.append_assoc, List.nil_append, List.append_nil]) ?_
              have hce : caS s kd u v w = s := ca_neg h0 kd u v w hrg (by omega)
              refine V.sk (st' := [.long (tdC s 12)]) (congrArg (fun z => [Value.long (tdC z 12)]) hce) ?_
              refine V_lload hX dL_law_524 1 rfl ?_
              refine V_lcmp (r := jI 0) hX dL_law_526 (lc_self _) ?_
              refine V_if_eq (tgt := 579) hX dL_law_527 (by decide) (by decide) (fun c_46 => ?_) (fun c_46 => absurd c_46 (by decide))
              refine V.sub [0, 2, 5, 4, 3, 6, 7, 8, 9, 10, 11, 12, 13, 14] rfl ?_
              exact J579_q_16 _ _ _ _ _ (by first | exact rcZ_b hsz _ | exact rcZ_b (by have := un_z (sz := sz) (r := caR s kd u v w) (by omega) hsz; omega) _)
          refine V_iload hX dL_law_375 1 rfl ?_
          refine V_if_ne (tgt := 393) hX dL_law_377 (by decide) (by omega) (fun c_47 => ?_) (fun c_47 => ?_)
          · refine V_iload hX dL_law_393 1 rfl ?_
            refine V_iconst hX dL_law_395 ?_
            refine V_icmp_ne (tgt := 414) hX dL_law_396 (by decide) (by omega) (by decide) (fun c_48 => ?_) (fun c_48 => ?_)
            · refine V_iload hX dL_law_414 1 rfl ?_
              refine V_bipush hX dL_law_416 (by decide) ?_
              refine V_icmp_ne (tgt := 434) hX dL_law_418 (by decide) (by omega) (by decide) (fun c_49 => ?_) (fun c_49 => ?_)
              · refine V_iload hX dL_law_434 1 rfl ?_
                refine V_bipush hX dL_law_436 (by decide) ?_
                refine V_icmp_ne (tgt := 464) hX dL_law_438 (by decide) (by omega) (by decide) (fun c_50 => ?_) (fun c_50 => ?_)
                · refine V_iconst hX dL_law_464 ?_
                  refine V_iload hX dL_law_465 5 rfl ?_
                  refine V_bipush hX dL_law_467 (by decide) ?_
                  refine V_ishr hX dL_law_469 ?_
                  refine V_iload hX dL_law_470 5 rfl ?_
                  refine V_bipush hX dL_law_472 (by decide) ?_
                  refine V_ishr hX dL_law_474 ?_
                  refine V_iconst hX dL_law_475 ?_
                  refine V_cS (st := [.int ((y0) >>> ((jI (7)) &&& 31)), .int (jI 1)]) (v := .int (jI (loN ((y0) >>> ((jI (20)) &&& 31)) % 3))) (w' := oH o no be tr sn p te b c kp sN sE ++ (hB G no s ++ (hB G be sb ++ (hB G tr st ++ (hB G sn ss ++ (pW G p q hs sz ++ (sB G te ch ki fi se ln th ps ++ (bB G b true W vf ++ (bB G c false W2 vf2 ++ lB G d s))))))))) hX wc_L_115 (c_L_low l G ((y0) >>> ((jI (20)) &&& 31)) 3 (by omega)) (by decide) (by decide) rfl rfl (Nat.le_of_ble_eq_true rfl) dL_law_476 [] (oH o no be tr sn p te b c kp sN sE ++ (hB G no s ++ (hB G be sb ++ (hB G tr st ++ (hB G sn ss ++ (pW G p q hs sz ++ (sB G te ch ki fi se ln th ps ++ (bB G b true W vf ++ (bB G c false W2 vf2 ++ lB G d s))))))))) (by simp only [List.append_assoc, List.nil_append, List.append_nil]) (by simp only [List.append_assoc, List.nil_append, List.append_nil]) rfl rfl ?_
                  refine V_if_ne (tgt := 487) hX dL_law_479 (by decide) (by omega) (fun c_51 => ?_) (fun c_51 => ?_)
                  · refine V_bipush hX dL_law_487 (by decide) ?_
                    refine V_cS (st := [.int (jI 1)]) (v := .int (jI (loN ((y0) >>> ((jI (7)) &&& 31)) % 8))) (w' := oH o no be tr sn p te b c kp sN sE ++ (hB G no s ++ (hB G be sb ++ (hB G tr st ++ (hB G sn ss ++ (pW G p q hs sz ++ (sB G te ch ki fi se ln th ps ++ (bB G b true W vf ++ (bB G c false W2 vf2 ++ lB G d s))))))))) hX wc_L_115 (c_L_low l G ((y0) >>> ((jI (7)) &&& 31)) 8 (by omega)) (by decide) (by decide) rfl rfl (Nat.le_of_ble_eq_true rfl) dL_law_489 [] (oH o no be tr sn p te b c kp sN sE ++ (hB G no s ++ (hB G be sb ++ (hB G tr st ++ (hB G sn ss ++ (pW G p q hs sz ++ (sB G te ch ki fi se ln th ps ++ (bB G b true W vf ++ (bB G c false W2 vf2 ++ lB G d s))))))))) (by simp only [List.append_assoc, List.nil_append, List.append_nil]) (by simp only [List.append_assoc, List.nil_append, List.append_nil]) rfl rfl ?_
                    refine V_iadd hX dL_law_492 rfl ?_
                    refine V.sub [1, 2, 0, 3, 4, 5, 6, 7, 8, 9, 10, 11] rfl ?_
                    exact J493_q_5 _ (by omega)
                  · refine V_bipush hX dL_law_482 (by decide) ?_
                    refine V_goto (tgt := 489) hX dL_law_484 (by decide) ?_
                    refine V_cS (st := [.int (jI 1)]) (v := .int (jI (loN ((y0) >>> ((jI (7)) &&& 31)) % 60))) (w' := oH o no be tr sn p te b c kp sN sE ++ (hB G no s ++ (hB G be sb ++ (hB G tr st ++ (hB G sn ss ++ (pW G p q hs sz ++ (sB G te ch ki fi se ln th ps ++ (bB G b true W vf ++ (bB G c false W2 vf2 ++ lB G d s))))))))) hX wc_L_115 (c_L_low l G ((y0) >>> ((jI (7)) &&& 31)) 60 (by omega)) (by decide) (by decide) rfl rfl (Nat.le_of_ble_eq_true rfl) dL_law_489 [] (oH o no be tr sn p te b c kp sN sE ++ (hB G no s ++ (hB G be sb ++ (hB G tr st ++ (hB G sn ss ++ (pW G p q hs sz ++ (sB G te ch ki fi se ln th ps ++ (bB G b true W vf ++ (bB G c false W2 vf2 ++ lB G d s))))))))) (by simp only [List.append_assoc, List.nil_append, List.append_nil]) (by simp only [List.append_assoc, List.nil_append, List.append_nil]) rfl rfl ?_
                    refine V_iadd hX dL_law_492 rfl ?_
                    refine V.sub [1, 2, 0, 3, 4, 5, 6, 7, 8, 9, 10, 11] rfl ?_
                    exact J493_q_5 _ (by omega)
                · refine V_iload hX dL_law_441 5 rfl ?_
                  refine V_bipush hX dL_law_443 (by decide) ?_
                  refine V_ishr hX dL_law_445 ?_
                  refine V_iload hX dL_law_446 2 rfl ?_
                  refine V_if_ne (tgt := 456) hX dL_law_448 (by decide) (by omega) (fun c_52 => ?_) (fun c_52 => ?_)
                  · refine V_bipush hX dL_law_456 (by decide) ?_
                    refine V_cS (st := []) (v := .int (jI (loN ((y0) >>> ((jI (7)) &&& 31)) % 9))) (w' := oH o no be tr sn p te b c kp sN sE ++ (hB G no s ++ (hB G be sb ++ (hB G tr st ++ (hB G sn ss ++ (pW G p q hs sz ++ (sB G te ch ki fi se ln th ps ++ (bB G b true W vf ++ (bB G c false W2 vf2 ++ lB G d s))))))))) hX wc_L_115 (c_L_low l G ((y0) >>> ((jI (7)) &&& 31)) 9 (by omega)) (by decide) (by decide) rfl rfl (Nat.le_of_ble_eq_true rfl) dL_law_458 [] (oH o no be tr sn p te b c kp sN sE ++ (hB G no s ++ (hB G be sb ++ (hB G tr st ++ (hB G sn ss ++ (pW G p q hs sz ++ (sB G te ch ki fi se ln th ps ++ (bB G b true W vf ++ (bB G c false W2 vf2 ++ lB G d s))))))))) (by simp only [List.append_assoc, List.nil_append, List.append_nil]) (by simp only [List.append_assoc, List.nil_append, List.append_nil]) rfl rfl ?_
                    refine V_goto (tgt := 493) hX dL_law_461 (by decide) ?_
                    refine V.sub [1, 2, 0, 3, 4, 5, 6, 7, 8, 9, 10, 11] rfl ?_
                    exact J493_q_5 _ (by omega)
                  · refine V_bipush hX dL_law_451 (by decide) ?_
                    refine V_goto (tgt := 458) hX dL_law_453 (by decide) ?_
                    refine V_cS (st := []) (v := .int (jI (loN ((y0) >>> ((jI (7)) &&& 31)) % 20))) (w' := oH o no be tr sn p te b c kp sN sE ++ (hB G no s ++ (hB G be sb ++ (hB G tr st ++ (hB G sn ss ++ (pW G p q hs sz ++ (sB G te ch ki fi se ln th ps ++ (bB G b true W vf ++ (bB G c false W2 vf2 ++ lB G d s))))))))) hX wc_L_115 (c_L_low l G ((y0) >>> ((jI (7)) &&& 31)) 20 (by omega)) (by decide) (by decide) rfl rfl (Nat.le_of_ble_eq_true rfl) dL_law_458 [] (oH o no be tr sn p te b c kp sN sE ++ (hB G no s ++ (hB G be sb ++ (hB G tr st ++ (hB G sn ss ++ (pW G p q hs sz ++ (sB G te ch ki fi se ln th ps ++ (bB G b true W vf ++ (bB G c false W2 vf2 ++ lB G d s))))))))) (by simp only [List.append_assoc, List.nil_append, List.append_nil]) (by simp only [List.append_assoc, List.nil_append, List.append_nil]) rfl rfl ?_
                    refine V_goto (tgt := 493) hX dL_law_461 (by decide) ?_
                    refine V.sub [1, 2, 0, 3, 4, 5, 6, 7, 8, 9, 10, 11] rfl ?_
                    exact J493_q_5 _ (by omega)
              · refine V_iload hX dL_law_421 5 rfl ?_
                refine V_bipush hX dL_law_423 (by decide) ?_
                refine V_ishr hX dL_law_425 ?_
                refine V_bipush hX dL_law_426 (by decide) ?_
                refine V_cS (st := []) (v := .int (jI (loN ((y0) >>> ((jI (7)) &&& 31)) % 10))) (w' := oH o no be tr sn p te b c kp sN sE ++ (hB G no s ++ (hB G be sb ++ (hB G tr st ++ (hB G sn ss ++ (pW G p q hs sz ++ (sB G te ch ki fi se ln th ps ++ (bB G b true W vf ++ (bB G c false W2 vf2 ++ lB G d s))))))))) hX wc_L_115 (c_L_low l G ((y0) >>> ((jI (7)) &&& 31)) 10 (by omega)) (by decide) (by decide) rfl rfl (Nat.le_of_ble_eq_true rfl) dL_law_428 [] (oH o no be tr sn p te b c kp sN sE ++ (hB G no s ++ (hB G be sb ++ (hB G tr st ++ (hB G sn ss ++ (pW G p q hs sz ++ (sB G te ch ki fi se ln th ps ++ (bB G b true W vf ++ (bB G c false W2 vf2 ++ lB G d s))))))))) (by simp only [List.append_assoc, List.nil_append, List.append_nil]) (by simp only [List.append_assoc, List.nil_append, List.append_nil]) rfl rfl ?_
                refine V_goto (tgt := 493) hX dL_law_431 (by decide) ?_
                refine V.sub [1, 2, 0, 3, 4, 5, 6, 7, 8, 9, 10, 11] rfl ?_
                exact J493_q_5 _ (by omega)
            · refine V_iconst hX dL_law_399 ?_
              refine V_iload hX dL_law_400 5 rfl ?_
              refine V_bipush hX dL_law_402 (by decide) ?_
              refine V_ishr hX dL_law_404 ?_
              refine V_bipush hX dL_law_405 (by decide) ?_
              refine V_cS (st := [.int (jI 1)]) (v := .int (jI (loN ((y0) >>> ((jI (7)) &&& 31)) % 64))) (w' := oH o no be tr sn p te b c kp sN sE ++ (hB G no s ++ (hB G be sb ++ (hB G tr st ++ (hB G sn ss ++ (pW G p q hs sz ++ (sB G te ch ki fi se ln th ps ++ (bB G b true W vf ++ (bB G c false W2 vf2 ++ lB G d s))))))))) hX wc_L_115 (c_L_low l G ((y0) >>> ((jI (7)) &&& 31)) 64 (by omega)) (by decide) (by decide) rfl rfl (Nat.le_of_ble_eq_true rfl) dL_law_407 [] (oH o no be tr sn p te b c kp sN sE ++ (hB G no s ++ (hB G be sb ++ (hB G tr st ++ (hB G sn ss ++ (pW G p q hs sz ++ (sB G te ch ki fi se ln th ps ++ (bB G b true W vf ++ (bB G c false W2 vf2 ++ lB G d s))))))))) (by simp only [List.append_assoc, List.nil_append, List.append_nil]) (by simp only [List.append_assoc, List.nil_append, List.append_nil]) rfl rfl ?_
              refine V_iadd hX dL_law_410 rfl ?_
              refine V_goto (tgt := 493) hX dL_law_411 (by decide) ?_
              refine V.sub [1, 2, 0, 3, 4, 5, 6, 7, 8, 9, 10, 11] rfl ?_
              exact J493_q_5 _ (by omega)
          · refine V_iload hX dL_law_380 5 rfl ?_
            refine V_bipush hX dL_law_382 (by decide) ?_
            refine V_ishr hX dL_law_384 ?_
            refine V_bipush hX dL_law_385 (by decide) ?_
            refine V_cS (st := []) (v := .int (jI (loN ((y0) >>> ((jI (7)) &&& 31)) % 36))) (w' := oH o no be tr sn p te b c kp sN sE ++ (hB G no s ++ (hB G be sb ++ (hB G tr st ++ (hB G sn ss ++ (pW G p q hs sz ++ (sB G te ch ki fi se ln th ps ++ (bB G b true W vf ++ (bB G c false W2 vf2 ++ lB G d s))))))))) hX wc_L_115 (c_L_low l G ((y0) >>> ((jI (7)) &&& 31)) 36 (by omega)) (by decide) (by decide) rfl rfl (Nat.le_of_ble_eq_true rfl) dL_law_387 [] (oH o no be tr sn p te b c kp sN sE ++ (hB G no s ++ (hB G be sb ++ (hB G tr st ++ (hB G sn ss ++ (pW G p q hs sz ++ (sB G te ch ki fi se ln th ps ++ (bB G b true W vf ++ (bB G c false W2 vf2 ++ lB G d s))))))))) (by simp only [List.append_assoc, List.nil_append, List.append_nil]) (by simp only [List.append_assoc, List.nil_append, List.append_nil]) rfl rfl ?_
            refine V_goto (tgt := 493) hX dL_law_390 (by decide) ?_
            refine V.sub [1, 2, 0, 3, 4, 5, 6, 7, 8, 9, 10, 11] rfl ?_
            exact J493_q_5 _ (by omega)
        refine V_iload hX dL_law_317 1 rfl ?_
        refine V_iconst hX dL_law_319 ?_
        refine V_icmp_ne (tgt := 335) hX dL_law_320 (by decide) (by omega) (by decide) (fun c_53 => ?_) (fun c_53 => ?_)
        · refine V_iload hX dL_law_335 1 rfl ?_
          refine V_bipush hX dL_law_337 (by decide) ?_
          refine V_icmp_ne (tgt := 356) hX dL_law_339 (by decide) (by omega) (by decide) (fun c_54 => ?_) (fun c_54 => ?_)
          · refine V_iload hX dL_law_356 4 rfl ?_
            refine V_iconst hX dL_law_358 ?_
            refine V_ishr hX dL_law_359 ?_
            refine V_iload hX dL_law_360 1 rfl ?_
            refine V_if_ne (tgt := 369) hX dL_law_362 (by decide) (by omega) (fun c_55 => ?_) (fun c_55 => ?_)
            · refine V_iconst hX dL_law_369 ?_
              refine V_cS (st := []) (v := .int (jI (loN ((y0) >>> ((jI (4)) &&& 31)) % 4))) (w' := oH o no be tr sn p te b c kp sN sE ++ (hB G no s ++ (hB G be sb ++ (hB G tr st ++ (hB G sn ss ++ (pW G p q hs sz ++ (sB G te ch ki fi se ln th ps ++ (bB G b true W vf ++ (bB G c false W2 vf2 ++ lB G d s))))))))) hX wc_L_115 (c_L_low l G ((y0) >>> ((jI (4)) &&& 31)) 4 (by omega)) (by decide) (by decide) rfl rfl (Nat.le_of_ble_eq_true rfl) dL_law_370 [] (oH o no be tr sn p te b c kp sN sE ++ (hB G no s ++ (hB G be sb ++ (hB G tr st ++ (hB G sn ss ++ (pW G p q hs sz ++ (sB G te ch ki fi se ln th ps ++ (bB G b true W vf ++ (bB G c false W2 vf2 ++ lB G d s))))))))) (by simp only [List.append_assoc, List.nil_append, List.append_nil]) (by simp only [List.append_assoc, List.nil_append, List.append_nil]) rfl rfl ?_
              refine V.sub [1, 0, 2, 3, 4, 5, 6, 7, 8, 9, 10] rfl ?_
              exact J373_q_4 _ (by omega)
            · refine V_iconst hX dL_law_365 ?_
              refine V_goto (tgt := 370) hX dL_law_366 (by decide) ?_
              refine V_cS (st := []) (v := .int (jI (loN ((y0) >>> ((jI (4)) &&& 31)) % 5))) (w' := oH o no be tr sn p te b c kp sN sE ++ (hB G no s ++ (hB G be sb ++ (hB G tr st ++ (hB G sn ss ++ (pW G p q hs sz ++ (sB G te ch ki fi se ln th ps ++ (bB G b true W vf ++ (bB G c false W2 vf2 ++ lB G d s))))))))) hX wc_L_115 (c_L_low l G ((y0) >>> ((jI (4)) &&& 31)) 5 (by omega)) (by decide) (by decide) rfl rfl (Nat.le_of_ble_eq_true rfl) dL_law_370 [] (oH o no be tr sn p te b c kp sN sE ++ (hB G no s ++ (hB G be sb ++ (hB G tr st ++ (hB G sn ss ++ (pW G p q hs sz ++ (sB G te ch ki fi se ln th ps ++ (bB G b true W vf ++ (bB G c false W2 vf2 ++ lB G d s))))))))) (by simp only [List.append_assoc, List.nil_append, List.append_nil]) (by simp only [List.append_assoc, List.nil_append, List.append_nil]) rfl rfl ?_
              refine V.sub [1, 0, 2, 3, 4, 5, 6, 7, 8, 9, 10] rfl ?_
              exact J373_q_4 _ (by omega)
          · refine V_iconst hX dL_law_342 ?_
            refine V_iload hX dL_law_343 4 rfl ?_
            refine V_iconst hX dL_law_345 ?_
            refine V_ishr hX dL_law_346 ?_
            refine V_bipush hX dL_law_347 (by decide) ?_
            refine V_cS (st := [.int (jI 1)]) (v := .int (jI (loN ((y0) >>> ((jI (4)) &&& 31)) % 9))) (w' := oH o no be tr sn p te b c kp sN sE ++ (hB G no s ++ (hB G be sb ++ (hB G tr st ++ (hB G sn ss ++ (pW G p q hs sz ++ (sB G te ch ki fi se ln th ps ++ (bB G b true W vf ++ (bB G c false W2 vf2 ++ lB G d s))))))))) hX wc_L_115 (c_L_low l G ((y0) >>> ((jI (4)) &&& 31)) 9 (by omega)) (by decide) (by decide) rfl rfl (Nat.le_of_ble_eq_true rfl) dL_law_349 [] (oH o no be tr sn p te b c kp sN sE ++ (hB G no s ++ (hB G be sb ++ (hB G tr st ++ (hB G sn ss ++ (pW G p q hs sz ++ (sB G te ch ki fi se ln th ps ++ (bB G b true W vf ++ (bB G c false W2 vf2 ++ lB G d s))))))))) (by simp only [List.append_assoc, List.nil_append, List.append_nil]) (by simp only [List.append_assoc, List.nil_append, List.append_nil]) rfl rfl ?_
            refine V_iadd hX dL_law_352 rfl ?_
            refine V_goto (tgt := 373) hX dL_law_353 (by decide) ?_
            refine V.sub [1, 0, 2, 3, 4, 5, 6, 7, 8, 9, 10] rfl ?_
            exact J373_q_4 _ (by omega)
        · refine V_iload hX dL_law_323 4 rfl ?_
          refine V_iconst hX dL_law_325 ?_
          refine V_ishr hX dL_law_326 ?_
          refine V_bipush hX dL_law_327 (by decide) ?_
          refine V_cS (st := []) (v := .int (jI (loN ((y0) >>> ((jI (4)) &&& 31)) % 6))) (w' := oH o no be tr sn p te b c kp sN sE ++ (hB G no s ++ (hB G be sb ++ (hB G tr st ++ (hB G sn ss ++ (pW G p q hs sz ++ (sB G te ch ki fi se ln th ps ++ (bB G b true W vf ++ (bB G c false W2 vf2 ++ lB G d s))))))))) hX wc_L_115 (c_L_low l G ((y0) >>> ((jI (4)) &&& 31)) 6 (by omega)) (by decide) (by decide) rfl rfl (Nat.le_of_ble_eq_true rfl) dL_law_329 [] (oH o no be tr sn p te b c kp sN sE ++ (hB G no s ++ (hB G be sb ++ (hB G tr st ++ (hB G sn ss ++ (pW G p q hs sz ++ (sB G te ch ki fi se ln th ps ++ (bB G b true W vf ++ (bB G c false W2 vf2 ++ lB G d s))))))))) (by simp only [List.append_assoc, List.nil_append, List.append_nil]) (by simp only [List.append_assoc, List.nil_append, List.append_nil]) rfl rfl ?_
          refine V_goto (tgt := 373) hX dL_law_332 (by decide) ?_
          refine V.sub [1, 0, 2, 3, 4, 5, 6, 7, 8, 9, 10] rfl ?_
          exact J373_q_4 _ (by omega)
      refine V_iload hX dL_law_234 0 rfl ?_
      refine V_if_ne (tgt := 248) hX dL_law_236 (by decide) (by omega) (fun c_56 => ?_) (fun c_56 => ?_)
      · refine V_iload hX dL_law_248 0 rfl ?_
        refine V_bipush hX dL_law_250 (by decide) ?_
        refine V_icmp_ne (tgt := 265) hX dL_law_252 (by decide) (by omega) (by decide) (fun c_57 => ?_) (fun c_57 => ?_)
        · refine V_iload hX dL_law_265 0 rfl ?_
          refine V_bipush hX dL_law_267 (by decide) ?_
          refine V_icmp_ne (tgt := 281) hX dL_law_269 (by decide) (by omega) (by decide) (fun c_58 => ?_) (fun c_58 => ?_)
          · refine V_iload hX dL_law_281 3 rfl ?_
            refine V_iload hX dL_law_283 3 rfl ?_
            refine V_bipush hX dL_law_285 (by decide) ?_
            refine V_ishr hX dL_law_287 ?_
            refine V_bipush hX dL_law_288 (by decide) ?_
            refine V_cS (st := [.int (y0)]) (v := .int (jI (loN ((y0) >>> ((jI (20)) &&& 31)) % 9))) (w' := oH o no be tr sn p te b c kp sN sE ++ (hB G no s ++ (hB G be sb ++ (hB G tr st ++ (hB G sn ss ++ (pW G p q hs sz ++ (sB G te ch ki fi se ln th ps ++ (bB G b true W vf ++ (bB G c false W2 vf2 ++ lB G d s))))))))) hX wc_L_115 (c_L_low l G ((y0) >>> ((jI (20)) &&& 31)) 9 (by omega)) (by decide) (by decide) rfl rfl (Nat.le_of_ble_eq_true rfl) dL_law_290 [] (oH o no be tr sn p te b c kp sN sE ++ (hB G no s ++ (hB G be sb ++ (hB G tr st ++ (hB G sn ss ++ (pW G p q hs sz ++ (sB G te ch ki fi se ln th ps ++ (bB G b true W vf ++ (bB G c false W2 vf2 ++ lB G d s))))))))) (by simp only [List.append_assoc, List.nil_append, List.append_nil]) (by simp only [List.append_assoc, List.nil_append, List.append_nil]) rfl rfl ?_
            refine V_if_eq (tgt := 303) hX dL_law_293 (by decide) (by omega) (fun c_59 => ?_) (fun c_59 => ?_)
            · refine V_bipush hX dL_law_303 (by decide) ?_
              refine V_goto (tgt := 312) hX dL_law_305 (by decide) ?_
              refine V_cS (st := []) (v := .int (jI (loN y0 % 12))) (w' := oH o no be tr sn p te b c kp sN sE ++ (hB G no s ++ (hB G be sb ++ (hB G tr st ++ (hB G sn ss ++ (pW G p q hs sz ++ (sB G te ch ki fi se ln th ps ++ (bB G b true W vf ++ (bB G c false W2 vf2 ++ lB G d s))))))))) hX wc_L_115 (c_L_low l G y0 12 (by omega)) (by decide) (by decide) rfl rfl (Nat.le_of_ble_eq_true rfl) dL_law_312 [] (oH o no be tr sn p te b c kp sN sE ++ (hB G no s ++ (hB G be sb ++ (hB G tr st ++ (hB G sn ss ++ (pW G p q hs sz ++ (sB G te ch ki fi se ln th ps ++ (bB G b true W vf ++ (bB G c false W2 vf2 ++ lB G d s))))))))) (by simp only [List.append_assoc, List.nil_append, List.append_nil]) (by simp only [List.append_assoc, List.nil_append, List.append_nil]) rfl rfl ?_
              refine V.sub [0, 1, 2, 3, 4, 5, 6, 7, 8, 9] rfl ?_
              exact J315_q_3 _ (by omega)
            · refine V_aload_n hX dL_law_296 6 rfl ?_
              refine V_bipush hX dL_law_297 (by decide) ?_
              refine V_iald (i0 := 10) (r := (jI (s 10))) hX 102 rfl (by decide) (by decide) (by decide) rfl (by show (if 10 < 17 then jI (s (10)) else 0) = jI (s 10); rw [if_pos (by omega)]) dL_law_299 ?_
              refine V_if_ne (tgt := 308) hX dL_law_300 (by decide) (by omega) (fun c_60 => ?_) (fun c_60 => ?_)
              · have hmu := Int.emod_nonneg (loN y0) (show s 10 ≠ 0 by omega)
                have hmv := Int.emod_lt_of_pos (loN y0) (show 0 < s 10 by omega)
                refine V_aload_n hX dL_law_308 6 rfl ?_
                refine V_bipush hX dL_law_309 (by decide) ?_
                refine V_iald (i0 := 10) (r := (jI (s 10))) hX 102 rfl (by decide) (by decide) (by decide) rfl (by show (if 10 < 17 then jI (s (10)) else 0) = jI (s 10); rw [if_pos (by omega)]) dL_law_311 ?_
                refine V_cS (st := []) (v := .int (jI (loN y0 % (s 10)))) (w' := oH o no be tr sn p te b c kp sN sE ++ (hB G no s ++ (hB G be sb ++ (hB G tr st ++ (hB G sn ss ++ (pW G p q hs sz ++ (sB G te ch ki fi se ln th ps ++ (bB G b true W vf ++ (bB G c false W2 vf2 ++ lB G d s))))))))) hX wc_L_115 (c_L_low l G y0 (s 10) (by omega)) (by decide) (by decide) rfl rfl (Nat.le_of_ble_eq_true rfl) dL_law_312 [] (oH o no be tr sn p te b c kp sN sE ++ (hB G no s ++ (hB G be sb ++ (hB G tr st ++ (hB G sn ss ++ (pW G p q hs sz ++ (sB G te ch ki fi se ln th ps ++ (bB G b true W vf ++ (bB G c false W2 vf2 ++ lB G d s))))))))) (by simp only [List.append_assoc, List.nil_append, List.append_nil]) (by simp only [List.append_assoc, List.nil_append, List.append_nil]) rfl rfl ?_
                refine V.sub [0, 1, 2, 3, 4, 5, 6, 7, 8, 9] rfl ?_
                exact J315_q_3 _ (by omega)
              · refine V_bipush hX dL_law_303 (by decide) ?_
                refine V_goto (tgt := 312) hX dL_law_305 (by decide) ?_
                refine V_cS (st := []) (v := .int (jI (loN y0 % 12))) (w' := oH o no be tr sn p te b c kp sN sE ++ (hB G no s ++ (hB G be sb ++ (hB G tr st ++ (hB G sn ss ++ (pW G p q hs sz ++ (sB G te ch ki fi se ln th ps ++ (bB G b true W vf ++ (bB G c false W2 vf2 ++ lB G d s))))))))) hX wc_L_115 (c_L_low l G y0 12 (by omega)) (by decide) (by decide) rfl rfl (Nat.le_of_ble_eq_true rfl) dL_law_312 [] (oH o no be tr sn p te b c kp sN sE ++ (hB G no s ++ (hB G be sb ++ (hB G tr st ++ (hB G sn ss ++ (pW G p q hs sz ++ (sB G te ch ki fi se ln th ps ++ (bB G b true W vf ++ (bB G c false W2 vf2 ++ lB G d s))))))))) (by simp only [List.append_assoc, List.nil_append, List.append_nil]) (by simp only [List.append_assoc, List.nil_append, List.append_nil]) rfl rfl ?_
                refine V.sub [0, 1, 2, 3, 4, 5, 6, 7, 8, 9] rfl ?_
                exact J315_q_3 _ (by omega)
          · refine V_iload hX dL_law_272 3 rfl ?_
            refine V_iconst hX dL_law_274 ?_
            refine V_cS (st := []) (v := .int (jI (loN y0 % 2))) (w' := oH o no be tr sn p te b c kp sN sE ++ (hB G no s ++ (hB G be sb ++ (hB G tr st ++ (hB G sn ss ++ (pW G p q hs sz ++ (sB G te ch ki fi se ln th ps ++ (bB G b true W vf ++ (bB G c false W2 vf2 ++ lB G d s))))))))) hX wc_L_115 (c_L_low l G y0 2 (by omega)) (by decide) (by decide) rfl rfl (Nat.le_of_ble_eq_true rfl) dL_law_275 [] (oH o no be tr sn p te b c kp sN sE ++ (hB G no s ++ (hB G be sb ++ (hB G tr st ++ (hB G sn ss ++ (pW G p q hs sz ++ (sB G te ch ki fi se ln th ps ++ (bB G b true W vf ++ (bB G c false W2 vf2 ++ lB G d s))))))))) (by simp only [List.append_assoc, List.nil_append, List.append_nil]) (by simp only [List.append_assoc, List.nil_append, List.append_nil]) rfl rfl ?_
            refine V_goto (tgt := 315) hX dL_law_278 (by decide) ?_
            refine V.sub [0, 1, 2, 3, 4, 5, 6, 7, 8, 9] rfl ?_
            exact J315_q_3 _ (by omega)
        · refine V_iload hX dL_law_255 3 rfl ?_
          refine V_bipush hX dL_law_257 (by decide) ?_
          refine V_cS (st := []) (v := .int (jI (loN y0 % 6))) (w' := oH o no be tr sn p te b c kp sN sE ++ (hB G no s ++ (hB G be sb ++ (hB G tr st ++ (hB G sn ss ++ (pW G p q hs sz ++ (sB G te ch ki fi se ln th ps ++ (bB G b true W vf ++ (bB G c false W2 vf2 ++ lB G d s))))))))) hX wc_L_115 (c_L_low l G y0 6 (by omega)) (by decide) (by decide) rfl rfl (Nat.le_of_ble_eq_true rfl) dL_law_259 [] (oH o no be tr sn p te b c kp sN sE ++ (hB G no s ++ (hB G be sb ++ (hB G tr st ++ (hB G sn ss ++ (pW G p q hs sz ++ (sB G te ch ki fi se ln th ps ++ (bB G b true W vf ++ (bB G c false W2 vf2 ++ lB G d s))))))))) (by simp only [List.append_assoc, List.nil_append, List.append_nil]) (by simp only [List.append_assoc, List.nil_append, List.append_nil]) rfl rfl ?_
          refine V_goto (tgt := 315) hX dL_law_262 (by decide) ?_
          refine V.sub [0, 1, 2, 3, 4, 5, 6, 7, 8, 9] rfl ?_
          exact J315_q_3 _ (by omega)
      · refine V_iload hX dL_law_239 3 rfl ?_
        refine V_iconst hX dL_law_241 ?_
        refine V_cS (st := []) (v := .int (jI (loN y0 % 3))) (w' := oH o no be tr sn p te b c kp sN sE ++ (hB G no s ++ (hB G be sb ++ (hB G tr st ++ (hB G sn ss ++ (pW G p q hs sz ++ (sB G te ch ki fi se ln th ps ++ (bB G b true W vf ++ (bB G c false W2 vf2 ++ lB G d s))))))))) hX wc_L_115 (c_L_low l G y0 3 (by omega)) (by decide) (by decide) rfl rfl (Nat.le_of_ble_eq_true rfl) dL_law_242 [] (oH o no be tr sn p te b c kp sN sE ++ (hB G no s ++ (hB G be sb ++ (hB G tr st ++ (hB G sn ss ++ (pW G p q hs sz ++ (sB G te ch ki fi se ln th ps ++ (bB G b true W vf ++ (bB G c false W2 vf2 ++ lB G d s))))))))) (by simp only [List.append_assoc, List.nil_append, List.append_nil]) (by simp only [List.append_assoc, List.nil_append, List.append_nil]) rfl rfl ?_
        refine V_goto (tgt := 315) hX dL_law_245 (by decide) ?_
        refine V.sub [0, 1, 2, 3, 4, 5, 6, 7, 8, 9] rfl ?_
        exact J315_q_3 _ (by omega)
    refine V_iload hX dL_law_111 3 rfl ?_
    refine V_iconst hX dL_law_113 ?_
    refine V_icmp_lt (tgt := 123) hX dL_law_114 (by decide) (by omega) (by decide) (fun c_61 => ?_) (fun c_61 => ?_)
    · refine V_iconst hX dL_law_123 ?_
      refine V_goto (tgt := 232) hX dL_law_124 (by decide) ?_
      refine V.sub [3, 2, 1, 4, 5, 6, 7, 8, 9] rfl ?_
      exact J232_q_2 _ (by omega)
    · refine V_iload hX dL_law_117 0 rfl ?_
      refine V_iconst hX dL_law_119 ?_
      refine V_icmp_ge (tgt := 127) hX dL_law_120 (by decide) (by omega) (by decide) (fun c_62 => ?_) (fun c_62 => ?_)
      · refine V_iload hX dL_law_127 0 rfl ?_
        refine V_bipush hX dL_law_129 (by decide) ?_
        refine V_icmp_ge (tgt := 138) hX dL_law_131 (by decide) (by omega) (by decide) (fun c_63 => ?_) (fun c_63 => ?_)
        · refine V_iload hX dL_law_138 0 rfl ?_
          refine V_bipush hX dL_law_140 (by decide) ?_
          refine V_icmp_ge (tgt := 149) hX dL_law_142 (by decide) (by omega) (by decide) (fun c_64 => ?_) (fun c_64 => ?_)
          · refine V_iload hX dL_law_149 0 rfl ?_
            refine V_bipush hX dL_law_151 (by decide) ?_
            refine V_icmp_ge (tgt := 160) hX dL_law_153 (by decide) (by omega) (by decide) (fun c_65 => ?_) (fun c_65 => ?_)
            · refine V_iload hX dL_law_160 0 rfl ?_
              refine V_bipush hX dL_law_162 (by decide) ?_
              refine V_icmp_ne (tgt := 171) hX dL_law_164 (by decide) (by omega) (by decide) (fun c_66 => ?_) (fun c_66 => ?_)
              · refine V_iload hX dL_law_171 0 rfl ?_
                refine V_bipush hX dL_law_173 (by decide) ?_
                refine V_icmp_ge (tgt := 182) hX dL_law_175 (by decide) (by omega) (by decide) (fun c_67 => ?_) (fun c_67 => ?_)
                · refine V_iload hX dL_law_182 0 rfl ?_
                  refine V_bipush hX dL_law_184 (by decide) ?_
                  refine V_icmp_ge (tgt := 194) hX dL_law_186 (by decide) (by omega) (by decide) (fun c_68 => ?_) (fun c_68 => ?_)
                  · refine V_iload hX dL_law_194 0 rfl ?_
                    refine V_bipush hX dL_law_196 (by decide) ?_
                    refine V_icmp_ge (tgt := 206) hX dL_law_198 (by decide) (by omega) (by decide) (fun c_69 => ?_) (fun c_69 => ?_)
                    · refine V_iload hX dL_law_206 0 rfl ?_
                      refine V_bipush hX dL_law_208 (by decide) ?_
                      refine V_icmp_ne (tgt := 218) hX dL_law_210 (by decide) (by omega) (by decide) (fun c_70 => ?_) (fun c_70 => ?_)
                      · refine V_iload hX dL_law_218 0 rfl ?_
                        refine V_bipush hX dL_law_220 (by decide) ?_
                        refine V_icmp_ge (tgt := 230) hX dL_law_222 (by decide) (by omega) (by decide) (fun c_71 => ?_) (fun c_71 => ?_)
                        · refine V_bipush hX dL_law_230 (by decide) ?_
                          refine V.sub [3, 2, 1, 4, 5, 6, 7, 8, 9] rfl ?_
                          exact J232_q_2 _ (by omega)
                        · refine V_bipush hX dL_law_225 (by decide) ?_
                          refine V_goto (tgt := 232) hX dL_law_227 (by decide) ?_
                          refine V.sub [3, 2, 1, 4, 5, 6, 7, 8, 9] rfl ?_
                          exact J232_q_2 _ (by omega)
                      · refine V_bipush hX dL_law_213 (by decide) ?_
                        refine V_goto (tgt := 232) hX dL_law_215 (by decide) ?_
                        refine V.sub [3, 2, 1, 4, 5, 6, 7, 8, 9] rfl ?_
                        exact J232_q_2 _ (by omega)
                    · refine V_bipush hX dL_law_201 (by decide) ?_
                      refine V_goto (tgt := 232) hX dL_law_203 (by decide) ?_
                      refine V.sub [3, 2, 1, 4, 5, 6, 7, 8, 9] rfl ?_
                      exact J232_q_2 _ (by omega)
                  · refine V_bipush hX dL_law_189 (by decide) ?_
                    refine V_goto (tgt := 232) hX dL_law_191 (by decide) ?_
                    refine V.sub [3, 2, 1, 4, 5, 6, 7, 8, 9] rfl ?_
                    exact J232_q_2 _ (by omega)
                · refine V_iconst hX dL_law_178 ?_
                  refine V_goto (tgt := 232) hX dL_law_179 (by decide) ?_
                  refine V.sub [3, 2, 1, 4, 5, 6, 7, 8, 9] rfl ?_
                  exact J232_q_2 _ (by omega)
              · refine V_iconst hX dL_law_167 ?_
                refine V_goto (tgt := 232) hX dL_law_168 (by decide) ?_
                refine V.sub [3, 2, 1, 4, 5, 6, 7, 8, 9] rfl ?_
                exact J232_q_2 _ (by omega)
            · refine V_iconst hX dL_law_156 ?_
              refine V_goto (tgt := 232) hX dL_law_157 (by decide) ?_
              refine V.sub [3, 2, 1, 4, 5, 6, 7, 8, 9] rfl ?_
              exact J232_q_2 _ (by omega)
          · refine V_iconst hX dL_law_145 ?_
            refine V_goto (tgt := 232) hX dL_law_146 (by decide) ?_
            refine V.sub [3, 2, 1, 4, 5, 6, 7, 8, 9] rfl ?_
            exact J232_q_2 _ (by omega)
        · refine V_iconst hX dL_law_134 ?_
          refine V_goto (tgt := 232) hX dL_law_135 (by decide) ?_
          refine V.sub [3, 2, 1, 4, 5, 6, 7, 8, 9] rfl ?_
          exact J232_q_2 _ (by omega)
      · refine V_iconst hX dL_law_123 ?_
        refine V_goto (tgt := 232) hX dL_law_124 (by decide) ?_
        refine V.sub [3, 2, 1, 4, 5, 6, 7, 8, 9] rfl ?_
        exact J232_q_2 _ (by omega)
