
set_option maxHeartbeats 4000000 in
set_option maxRecDepth 100000 in
theorem law_step {X : vX} {l : Launch} {G : vC} {nm : String} (hX : VS X l G (yLaw nm) cL_law room_1 8) {L : Nat} {xs : Nat → Int32} (bs : Nat) (o : Nat) (no : Nat → Nat) (be : Nat → Nat) (tr : Nat → Nat) (sn : Nat → Nat) (p : Nat → Nat) (te : Nat → Nat) (b : Nat → Nat) (c : Nat → Nat) (mo : Nat → Nat) (hL : LawS X bs L xs) (hLm : L ≤ 2560) (hend : ∀ (w : va_W) (lv : List (Nat × Value)), V X 108 2573 w lv 955 []) (i : Int) (hi0 : 0 ≤ i) (ih : i + 5 ≤ L → LG X G 18 bs o no be tr sn p te b c mo (i + 5)) (hiL : i ≤ 3000) : LG X G 18 bs o no be tr sn p te b c mo i := by
  intro s sb st ss q hs sz ch ki fi se ln th ps W vf W2 vf2 kp sN sE sp hh snm g8 g9 g10 g11 g12 g13 h
  refine V_iload_n hX dL_law_18 0 rfl ?_
  refine V_aload_n hX dL_law_19 3 rfl ?_
  refine V_slen hX hL dL_law_20 ?_
  refine V_iconst hX dL_law_21 ?_
  refine V_isub hX dL_law_22 rfl ?_
  refine V_icmp_gt (tgt := 955) hX dL_law_23 (by decide) (by omega) (by omega) (fun c1 => hend _ _) (fun c1 => ?_)
  refine V_aload_n hX dL_law_26 3 rfl ?_
  refine V_iload_n hX dL_law_27 0 rfl ?_
  obtain ⟨x0, e0, r0⟩ : ∃ z : Int, xs i.toNat = jI z ∧ iR z := ⟨_, (jI_as _).symm, jI_rng _⟩
  refine V_sld hX hL (by omega) (by omega) (by omega) e0 dL_law_28 ?_
  refine V_bipush hX dL_law_29 (by decide) ?_
  refine V_iand hX dL_law_31 ?_
  have hm : 0 ≤ x0 % 32 ∧ x0 % 32 < 32 := ⟨Int.emod_nonneg _ (by decide), Int.emod_lt_of_pos _ (by decide)⟩
  refine V.sk (st' := [.int (jI (x0 % 32))]) (congrArg (fun z : Int32 => [Value.int z]) (and31 x0)) ?_
  have back : LG X G 949 bs o no be tr sn p te b c mo i := by
    intro s sb st ss q hs sz ch ki fi se ln th ps W vf W2 vf2 kp sN sE sp hh snm g8 g9 g10 g11 g12 g13 h
    refine V_iinc (b := i + 5) (lv' := [(3, .int (jI (i + 5))), (2, .ref (mo 0)), (1, .ref o), (0, .ref bs)]) hX dL_law_949 0 rfl rfl (by decide) rfl ?_
    refine V_goto (tgt := 18) hX dL_law_952 (by decide) ?_
    exact ih (by omega) _ _ _ _ _ _ _ _ _ _ _ _ _ _ _ _ _ _ _ _ _ _ _ _ _ _ _ _ _ _ h
  by_cases q0 : x0 % 32 = 0
  · refine V_tableIn (tgt := 164) hX 0 dL_law_32 q0 (by decide) (by decide) (by decide) rfl (by decide) ?_
    exact lw_k0 hX bs o no be tr sn p te b c mo hL hLm i hi0 (by omega) back s sb st ss q hs sz ch ki fi se ln th ps W vf W2 vf2 kp sN sE sp hh snm g8 g9 g10 g11 g12 g13 h
  by_cases q1 : x0 % 32 = 1
  · refine V_tableIn (tgt := 217) hX 1 dL_law_32 q1 (by decide) (by decide) (by decide) rfl (by decide) ?_
    exact lw_k1 hX bs o no be tr sn p te b c mo hL hLm i hi0 (by omega) back s sb st ss q hs sz ch ki fi se ln th ps W vf W2 vf2 kp sN sE sp hh snm g8 g9 g10 g11 g12 g13 h
  by_cases q2 : x0 % 32 = 2
  · refine V_tableIn (tgt := 250) hX 2 dL_law_32 q2 (by decide) (by decide) (by decide) rfl (by decide) ?_
    exact lw_k2 hX bs o no be tr sn p te b c mo hL hLm i hi0 (by omega) back s sb st ss q hs sz ch ki fi se ln th ps W vf W2 vf2 kp sN sE sp hh snm g8 g9 g10 g11 g12 g13 h
  by_cases q3 : x0 % 32 = 3
  · refine V_tableIn (tgt := 283) hX 3 dL_law_32 q3 (by decide) (by decide) (by decide) rfl (by decide) ?_
    exact lw_k3 hX bs o no be tr sn p te b c mo hL hLm i hi0 (by omega) back s sb st ss q hs sz ch ki fi se ln th ps W vf W2 vf2 kp sN sE sp hh snm g8 g9 g10 g11 g12 g13 h
  by_cases q4 : x0 % 32 = 4
  · refine V_tableIn (tgt := 316) hX 4 dL_law_32 q4 (by decide) (by decide) (by decide) rfl (by decide) ?_
    exact lw_k4 hX bs o no be tr sn p te b c mo hL hLm i hi0 (by omega) back s sb st ss q hs sz ch ki fi se ln th ps W vf W2 vf2 kp sN sE sp hh snm g8 g9 g10 g11 g12 g13 h
  by_cases q5 : x0 % 32 = 5
  · refine V_tableIn (tgt := 339) hX 5 dL_law_32 q5 (by decide) (by decide) (by decide) rfl (by decide) ?_
    exact lw_k5 hX bs o no be tr sn p te b c mo hL hLm i hi0 (by omega) back s sb st ss q hs sz ch ki fi se ln th ps W vf W2 vf2 kp sN sE sp hh snm g8 g9 g10 g11 g12 g13 h
  by_cases q6 : x0 % 32 = 6
  · refine V_tableIn (tgt := 372) hX 6 dL_law_32 q6 (by decide) (by decide) (by decide) rfl (by decide) ?_
    exact lw_k6 hX bs o no be tr sn p te b c mo hL hLm i hi0 (by omega) back s sb st ss q hs sz ch ki fi se ln th ps W vf W2 vf2 kp sN sE sp hh snm g8 g9 g10 g11 g12 g13 h
  by_cases q7 : x0 % 32 = 7
  · refine V_tableIn (tgt := 405) hX 7 dL_law_32 q7 (by decide) (by decide) (by decide) rfl (by decide) ?_
    exact lw_k7 hX bs o no be tr sn p te b c mo hL hLm i hi0 (by omega) back s sb st ss q hs sz ch ki fi se ln th ps W vf W2 vf2 kp sN sE sp hh snm g8 g9 g10 g11 g12 g13 h
  by_cases q8 : x0 % 32 = 8
  · refine V_tableIn (tgt := 438) hX 8 dL_law_32 q8 (by decide) (by decide) (by decide) rfl (by decide) ?_
    exact lw_k8 hX bs o no be tr sn p te b c mo hL hLm i hi0 (by omega) back s sb st ss q hs sz ch ki fi se ln th ps W vf W2 vf2 kp sN sE sp hh snm g8 g9 g10 g11 g12 g13 h
  by_cases q9 : x0 % 32 = 9
  · refine V_tableIn (tgt := 471) hX 9 dL_law_32 q9 (by decide) (by decide) (by decide) rfl (by decide) ?_
    exact lw_k9 hX bs o no be tr sn p te b c mo hL hLm i hi0 (by omega) back s sb st ss q hs sz ch ki fi se ln th ps W vf W2 vf2 kp sN sE sp hh snm g8 g9 g10 g11 g12 g13 h
  by_cases q10 : x0 % 32 = 10
  · refine V_tableIn (tgt := 484) hX 10 dL_law_32 q10 (by decide) (by decide) (by decide) rfl (by decide) ?_
    exact lw_k10 hX bs o no be tr sn p te b c mo hL hLm i hi0 (by omega) back s sb st ss q hs sz ch ki fi se ln th ps W vf W2 vf2 kp sN sE sp hh snm g8 g9 g10 g11 g12 g13 h
  by_cases q11 : x0 % 32 = 11
  · refine V_tableIn (tgt := 507) hX 11 dL_law_32 q11 (by decide) (by decide) (by decide) rfl (by decide) ?_
    exact lw_k11 hX bs o no be tr sn p te b c mo hL hLm i hi0 (by omega) back s sb st ss q hs sz ch ki fi se ln th ps W vf W2 vf2 kp sN sE sp hh snm g8 g9 g10 g11 g12 g13 h
  by_cases q12 : x0 % 32 = 12
  · refine V_tableIn (tgt := 532) hX 12 dL_law_32 q12 (by decide) (by decide) (by decide) rfl (by decide) ?_
    exact lw_k12 hX bs o no be tr sn p te b c mo hL hLm i hi0 (by omega) back s sb st ss q hs sz ch ki fi se ln th ps W vf W2 vf2 kp sN sE sp hh snm g8 g9 g10 g11 g12 g13 h
  by_cases q13 : x0 % 32 = 13
  · refine V_tableIn (tgt := 545) hX 13 dL_law_32 q13 (by decide) (by decide) (by decide) rfl (by decide) ?_
    exact lw_k13 hX bs o no be tr sn p te b c mo hL hLm i hi0 (by omega) back s sb st ss q hs sz ch ki fi se ln th ps W vf W2 vf2 kp sN sE sp hh snm g8 g9 g10 g11 g12 g13 h
  by_cases q14 : x0 % 32 = 14
  · refine V_tableIn (tgt := 558) hX 14 dL_law_32 q14 (by decide) (by decide) (by decide) rfl (by decide) ?_
    exact lw_k14 hX bs o no be tr sn p te b c mo hL hLm i hi0 (by omega) back s sb st ss q hs sz ch ki fi se ln th ps W vf W2 vf2 kp sN sE sp hh snm g8 g9 g10 g11 g12 g13 h
  by_cases q15 : x0 % 32 = 15
  · refine V_tableIn (tgt := 581) hX 15 dL_law_32 q15 (by decide) (by decide) (by decide) rfl (by decide) ?_
    exact lw_k15 hX bs o no be tr sn p te b c mo hL hLm i hi0 (by omega) back s sb st ss q hs sz ch ki fi se ln th ps W vf W2 vf2 kp sN sE sp hh snm g8 g9 g10 g11 g12 g13 h
  by_cases q16 : x0 % 32 = 16
  · refine V_tableIn (tgt := 594) hX 16 dL_law_32 q16 (by decide) (by decide) (by decide) rfl (by decide) ?_
    exact lw_k16 hX bs o no be tr sn p te b c mo hL hLm i hi0 (by omega) back s sb st ss q hs sz ch ki fi se ln th ps W vf W2 vf2 kp sN sE sp hh snm g8 g9 g10 g11 g12 g13 h
  by_cases q17 : x0 % 32 = 17
  · refine V_tableIn (tgt := 607) hX 17 dL_law_32 q17 (by decide) (by decide) (by decide) rfl (by decide) ?_
    exact lw_k17 hX bs o no be tr sn p te b c mo hL hLm i hi0 (by omega) back s sb st ss q hs sz ch ki fi se ln th ps W vf W2 vf2 kp sN sE sp hh snm g8 g9 g10 g11 g12 g13 h
  by_cases q18 : x0 % 32 = 18
  · refine V_tableIn (tgt := 620) hX 18 dL_law_32 q18 (by decide) (by decide) (by decide) rfl (by decide) ?_
    exact lw_k18 hX bs o no be tr sn p te b c mo hL hLm i hi0 (by omega) back s sb st ss q hs sz ch ki fi se ln th ps W vf W2 vf2 kp sN sE sp hh snm g8 g9 g10 g11 g12 g13 h
  by_cases q19 : x0 % 32 = 19
  · refine V_tableIn (tgt := 653) hX 19 dL_law_32 q19 (by decide) (by decide) (by decide) rfl (by decide) ?_
    exact lw_k19 hX bs o no be tr sn p te b c mo hL hLm i hi0 (by omega) back s sb st ss q hs sz ch ki fi se ln th ps W vf W2 vf2 kp sN sE sp hh snm g8 g9 g10 g11 g12 g13 h
  by_cases q20 : x0 % 32 = 20
  · refine V_tableIn (tgt := 704) hX 20 dL_law_32 q20 (by decide) (by decide) (by decide) rfl (by decide) ?_
    exact lw_k20 hX bs o no be tr sn p te b c mo hL hLm i hi0 (by omega) back s sb st ss q hs sz ch ki fi se ln th ps W vf W2 vf2 kp sN sE sp hh snm g8 g9 g10 g11 g12 g13 h
  by_cases q21 : x0 % 32 = 21
  · refine V_tableIn (tgt := 765) hX 21 dL_law_32 q21 (by decide) (by decide) (by decide) rfl (by decide) ?_
    exact lw_k21 hX bs o no be tr sn p te b c mo hL hLm i hi0 (by omega) back s sb st ss q hs sz ch ki fi se ln th ps W vf W2 vf2 kp sN sE sp hh snm g8 g9 g10 g11 g12 g13 h
  by_cases q22 : x0 % 32 = 22
  · refine V_tableIn (tgt := 798) hX 22 dL_law_32 q22 (by decide) (by decide) (by decide) rfl (by decide) ?_
    exact lw_k22 hX bs o no be tr sn p te b c mo hL hLm i hi0 (by omega) back s sb st ss q hs sz ch ki fi se ln th ps W vf W2 vf2 kp sN sE sp hh snm g8 g9 g10 g11 g12 g13 h
  by_cases q23 : x0 % 32 = 23
  · refine V_tableIn (tgt := 821) hX 23 dL_law_32 q23 (by decide) (by decide) (by decide) rfl (by decide) ?_
    exact lw_k23 hX bs o no be tr sn p te b c mo hL hLm i hi0 (by omega) back s sb st ss q hs sz ch ki fi se ln th ps W vf W2 vf2 kp sN sE sp hh snm g8 g9 g10 g11 g12 g13 h
  by_cases q24 : x0 % 32 = 24
  · refine V_tableIn (tgt := 844) hX 24 dL_law_32 q24 (by decide) (by decide) (by decide) rfl (by decide) ?_
    exact lw_k24 hX bs o no be tr sn p te b c mo hL hLm i hi0 (by omega) back s sb st ss q hs sz ch ki fi se ln th ps W vf W2 vf2 kp sN sE sp hh snm g8 g9 g10 g11 g12 g13 h
  by_cases q25 : x0 % 32 = 25
  · refine V_tableIn (tgt := 857) hX 25 dL_law_32 q25 (by decide) (by decide) (by decide) rfl (by decide) ?_
    exact lw_k25 hX bs o no be tr sn p te b c mo hL hLm i hi0 (by omega) back s sb st ss q hs sz ch ki fi se ln th ps W vf W2 vf2 kp sN sE sp hh snm g8 g9 g10 g11 g12 g13 h
  by_cases q26 : x0 % 32 = 26
  · refine V_tableIn (tgt := 870) hX 26 dL_law_32 q26 (by decide) (by decide) (by decide) rfl (by decide) ?_
    exact lw_k26 hX bs o no be tr sn p te b c mo hL hLm i hi0 (by omega) back s sb st ss q hs sz ch ki fi se ln th ps W vf W2 vf2 kp sN sE sp hh snm g8 g9 g10 g11 g12 g13 h
  by_cases q27 : x0 % 32 = 27
  · refine V_tableIn (tgt := 893) hX 27 dL_law_32 q27 (by decide) (by decide) (by decide) rfl (by decide) ?_
    exact lw_k27 hX bs o no be tr sn p te b c mo hL hLm i hi0 (by omega) back s sb st ss q hs sz ch ki fi se ln th ps W vf W2 vf2 kp sN sE sp hh snm g8 g9 g10 g11 g12 g13 h
  by_cases q28 : x0 % 32 = 28
  · refine V_tableIn (tgt := 926) hX 28 dL_law_32 q28 (by decide) (by decide) (by decide) rfl (by decide) ?_
    exact lw_k28 hX bs o no be tr sn p te b c mo hL hLm i hi0 (by omega) back s sb st ss q hs sz ch ki fi se ln th ps W vf W2 vf2 kp sN sE sp hh snm g8 g9 g10 g11 g12 g13 h
  refine V_tableOut (tgt := 949) hX dL_law_32 (by omega) (by omega) (by decide) ?_
  exact back s sb st ss q hs sz ch ki fi se ln th ps W vf W2 vf2 kp sN sE sp hh snm g8 g9 g10 g11 g12 g13 h

theorem law_loop {X : vX} {l : Launch} {G : vC} {nm : String} (hX : VS X l G (yLaw nm) cL_law room_1 8) {L : Nat} {xs : Nat → Int32} (bs : Nat) (o : Nat) (no : Nat → Nat) (be : Nat → Nat) (tr : Nat → Nat) (sn : Nat → Nat) (p : Nat → Nat) (te : Nat → Nat) (b : Nat → Nat) (c : Nat → Nat) (mo : Nat → Nat) (hL : LawS X bs L xs) (hLm : L ≤ 2560) (hend : ∀ (w : va_W) (lv : List (Nat × Value)), V X 108 2573 w lv 955 []) : ∀ (d : Nat) (i : Int), 0 ≤ i → i ≤ 2600 → 2600 - i ≤ (d : Int) → LG X G 18 bs o no be tr sn p te b c mo i := by
  intro d
  induction d with
  | zero => intro i h0 h1 h2; exact law_step hX bs o no be tr sn p te b c mo hL hLm hend i h0 (fun z => by omega) (by omega)
  | succ d ih => intro i h0 h1 h2; exact law_step hX bs o no be tr sn p te b c mo hL hLm hend i h0 (fun z => ih (i + 5) (by omega) (by omega) (by omega)) (by omega)

set_option maxHeartbeats 4000000 in
set_option maxRecDepth 100000 in
theorem law_V {X : vX} {l : Launch} {G : vC} {nm : String} (hX : VS X l G (yLaw nm) cL_law room_1 8) {L : Nat} {xs : Nat → Int32} (bs : Nat) (hL : LawS X bs L xs) (hLm : L ≤ 2560) (hend : ∀ (w : va_W) (lv : List (Nat × Value)), V X 108 2573 w lv 955 []) : V X 0 0 [] [(0, .ref bs)] 0 [] := by
  refine V_new (k' := 1) (n' := 11) (fs := [.null, .null, .null, .null, .null, .null, .null, .null, .int 0, .int 0, .int 0]) hX cbX4 wk_L_7 (by decide +kernel) (by decide +kernel) (by decide) (Nat.le_of_ble_eq_true rfl) (Nat.le_of_ble_eq_true rfl) dL_law_0 rfl rfl (fun o => ?_)
  refine V_dup hX dL_law_3 rfl ?_
  refine V.wd (w' := ([(o, .inr (4, [.null, .null, .null, .null, .null, .null, .null, .null, .int 0, .int 0, .int 0]))] : va_W)) rfl ?_
  refine V_rI (st := [.ref o]) hX wc_L_9 (c_X4_init l G o) ⟨Nat.le_of_ble_eq_true rfl, Nat.le_of_ble_eq_true rfl⟩ ⟨Nat.le_of_ble_eq_true rfl, Nat.le_of_ble_eq_true rfl⟩ rfl rfl (Nat.le_of_ble_eq_true rfl) dL_law_4 [] [] rfl (fun v u hp => ?_)
  obtain ⟨rfl, no, be, tr, sn, p, te, b, c, q, rfl⟩ := hp
  refine V.wd (w' := oH o no be tr sn p te b c 0 (-5) (-5) ++ (hB G no hz0 ++ (hB G be hz0 ++ (hB G tr hz0 ++ (hB G sn hz0 ++ (pW G p q (fun _ => hz0) 0 ++ (sB G te ((fun _ => 0)) ((fun _ => 0)) ((fun _ => 0)) ((fun _ => 0)) 0 0 0 ++ (bB G b true ((fun _ => 0)) ((fun _ => 0)) ++ bB G c false ((fun _ => 0)) ((fun _ => 0)))))))))) (by simp only [List.append_assoc, List.nil_append, List.append_nil]) ?_
  refine V_astore_n (i := 1) (lv' := [(1, .ref o), (0, .ref bs)]) hX dL_law_7 rfl (by decide) rfl ?_
  refine V.widen (k' := 102) (n' := 1456) (Nat.le_of_ble_eq_true rfl) (Nat.le_of_ble_eq_true rfl) ?_
  refine V_new (k' := 103) (n' := 1470) (fs := [.null, .null, .null, .int 0, .null, .int 0, .null, .int 0, .int 0, .int 0, .int 0, .int 0, .int 0, .int 0]) hX cbX5 wk_L_10 (by decide +kernel) (by decide +kernel) (by decide) (Nat.le_of_ble_eq_true rfl) (Nat.le_of_ble_eq_true rfl) dL_law_8 rfl rfl (fun m => ?_)
  refine V_dup hX dL_law_11 rfl ?_
  refine V_rI (st := [.ref m]) hX wc_L_12 (c_X5_init l G m) ⟨Nat.le_of_ble_eq_true rfl, Nat.le_of_ble_eq_true rfl⟩ ⟨Nat.le_of_ble_eq_true rfl, Nat.le_of_ble_eq_true rfl⟩ rfl rfl (Nat.le_of_ble_eq_true rfl) dL_law_12 (oH o no be tr sn p te b c 0 (-5) (-5) ++ (hB G no hz0 ++ (hB G be hz0 ++ (hB G tr hz0 ++ (hB G sn hz0 ++ (pW G p q (fun _ => hz0) 0 ++ (sB G te ((fun _ => 0)) ((fun _ => 0)) ((fun _ => 0)) ((fun _ => 0)) 0 0 0 ++ (bB G b true ((fun _ => 0)) ((fun _ => 0)) ++ bB G c false ((fun _ => 0)) ((fun _ => 0)))))))))) [] rfl (fun v u hp => ?_)
  obtain ⟨rfl, mo, rfl, rfl⟩ := hp
  refine V.wd (w' := oH o no be tr sn p te b c 0 (-5) (-5) ++ (hB G no hz0 ++ (hB G be hz0 ++ (hB G tr hz0 ++ (hB G sn hz0 ++ (pW G p q (fun _ => hz0) 0 ++ (sB G te ((fun _ => 0)) ((fun _ => 0)) ((fun _ => 0)) ((fun _ => 0)) 0 0 0 ++ (bB G b true ((fun _ => 0)) ((fun _ => 0)) ++ (bB G c false ((fun _ => 0)) ((fun _ => 0)) ++ mB G mo hz0 ((fun _ => 0)) ((fun _ => 0)) ((fun _ => 0)) ((fun _ => 0)) 0 0 0 0 0 0 0 0 0))))))))) (by simp only [List.append_assoc, List.nil_append, List.append_nil]) ?_
  refine V_astore_n (i := 2) (lv' := [(2, .ref (mo 0)), (1, .ref o), (0, .ref bs)]) hX dL_law_15 rfl (by decide) rfl ?_
  refine V_iconst hX dL_law_16 ?_
  refine V_istore_n (i := 3) (lv' := [(3, .int (jI 0)), (2, .ref (mo 0)), (1, .ref o), (0, .ref bs)]) hX dL_law_17 rfl (by decide) rfl ?_
  refine V.widen (k' := 108) (n' := 2573) (Nat.le_of_ble_eq_true rfl) (Nat.le_of_ble_eq_true rfl) ?_
  exact law_loop hX bs o no be tr sn p te b c mo hL hLm hend 2600 0 (Int.le_refl _) (by decide) (by decide) hz0 hz0 hz0 hz0 q (fun _ => hz0) 0 (fun _ => 0) (fun _ => 0) (fun _ => 0) (fun _ => 0) 0 0 0 (fun _ => 0) (fun _ => 0) (fun _ => 0) (fun _ => 0) 0 (-5) (-5) (fun _ => 0) (fun _ => 0) (fun _ => 0) 0 0 0 0 0 0 ⟨IG.z, IG.z, by decide, fun i j a _ => absurd a (Nat.not_lt_zero i), fun i a => absurd a (Nat.not_lt_zero i), ⟨fun _ _ => ⟨Int.le_refl _, by show (0 : Int) < 65536; decide⟩, by decide, by decide⟩, by decide, by decide, Or.inl rfl, fun z => absurd z (by decide), Or.inl ⟨rfl, rfl, rfl⟩, by decide, by decide, by decide, by decide⟩
