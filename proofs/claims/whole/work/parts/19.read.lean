/-! the whole text: its fault, its things -/
def rdF (tx : Nat → Int) (ln : Int) : Nat → Int → Int
  | 0, a => a
  | f + 1, a => if ¬ thO tx ln a then thA tx ln a else if ln ≤ thA tx ln a then -1 else if chA tx ln (thA tx ln a) ≠ 59 then thA tx ln a else rdF tx ln f (thA tx ln a + 1)
def rdN (tx : Nat → Int) (ln : Int) : Nat → Int → Int
  | 0, _ => 0
  | f + 1, a => if ¬ thO tx ln a then 0 else if ln ≤ thA tx ln a then 1 else if chA tx ln (thA tx ln a) ≠ 59 then 1 else 1 + rdN tx ln f (thA tx ln a + 1)
def psN (tx : Nat → Int) (ln : Int) : Nat → Int
  | 0 => 0
  | k + 1 => thA tx ln (psN tx ln k) + 1
theorem rdF_a {tx : Nat → Int} {ln a : Int} (f : Nat) (h : ¬ thO tx ln a) : rdF tx ln (f + 1) a = thA tx ln a := if_pos h
theorem rdF_b {tx : Nat → Int} {ln a : Int} (f : Nat) (h : thO tx ln a) (h2 : ln ≤ thA tx ln a) : rdF tx ln (f + 1) a = -1 ∧ rdN tx ln (f + 1) a = 1 := ⟨(if_neg (fun z => z h)).trans (if_pos h2), (if_neg (fun z => z h)).trans (if_pos h2)⟩
theorem rdF_c {tx : Nat → Int} {ln a : Int} (f : Nat) (h : thO tx ln a) (h2 : ¬ ln ≤ thA tx ln a) (h3 : ¬ chA tx ln (thA tx ln a) = 59) : rdF tx ln (f + 1) a = thA tx ln a := (if_neg (fun z => z h)).trans ((if_neg h2).trans (if_pos h3))
theorem rdF_d {tx : Nat → Int} {ln a : Int} (f : Nat) (h : thO tx ln a) (h2 : ¬ ln ≤ thA tx ln a) (h3 : chA tx ln (thA tx ln a) = 59) : rdF tx ln (f + 1) a = rdF tx ln f (thA tx ln a + 1) ∧ rdN tx ln (f + 1) a = 1 + rdN tx ln f (thA tx ln a + 1) := ⟨(if_neg (fun z => z h)).trans ((if_neg h2).trans (if_neg (fun z => z h3))), (if_neg (fun z => z h)).trans ((if_neg h2).trans (if_neg (fun z => z h3)))⟩
/-- row j of the read things is the thing at the j-th place -/
def gdJ (tx : Nat → Int) (ln : Int) (ki fi se : Nat → Int) (j : Nat) : Prop := ki j = chA tx ln (psN tx ln j) ∧ fi j = thF tx ln (psN tx ln j) ∧ se j = thG tx ln (psN tx ln j)
theorem gdJ_up {tx : Nat → Int} {ln : Int} {ki fi se : Nat → Int} {k n : Nat} {a : Int} (hn : n = k) (ha : a = psN tx ln k) (h : ∀ j, j < k → gdJ tx ln ki fi se j) : ∀ j, j < k + 1 → gdJ tx ln (up ki n (chA tx ln a)) (up fi n (thF tx ln a)) (up se n (thG tx ln a)) j := by
  subst hn; subst ha
  intro j hj
  by_cases q : j = n
  · subst q
    exact ⟨up_eq, up_eq, up_eq⟩
  · have h1 := h j (by omega)
    exact ⟨(up_ne q).trans h1.1, (up_ne q).trans h1.2.1, (up_ne q).trans h1.2.2⟩

set_option maxHeartbeats 4000000 in
set_option maxRecDepth 100000 in
theorem c_X3_read (l : Launch) (G : vC) (t : Nat → Nat) (ch : Nat → Int) (ki : Nat → Int) (fi : Nat → Int) (se : Nat → Int) (ln : Int) (th : Int) (ps : Int) (hS : SI ch ln) (hps : 0 ≤ ps ∧ ps ≤ 1400000) (hth : 0 ≤ th ∧ th ≤ 30) : Ct l G yX3_read cX3_read 2 (some .int) ({ frames := 5, cells := 0, slots := 0, locals := 116 } : Room) [.ref (t 0)] (sB G t ch ki fi se ln th ps) (fun v u => ∃ (ki2 fi2 se2 : Nat → Int) (th2 ps2 : Int), v = some (Value.int (jI (rdF ch ln 30 0))) ∧ (rdF ch ln 30 0 = -1 → th2 = rdN ch ln 30 0 ∧ ∀ j : Nat, (j : Int) < th2 → gdJ ch ln ki2 fi2 se2 j) ∧ (0 ≤ th2 ∧ th2 ≤ 30 ∧ 0 ≤ ps2 ∧ ps2 ≤ 1400000) ∧ u = sB G t ch ki2 fi2 se2 ln th2 ps2) := by
  refine Ct.of (by decide) (Nat.le_of_ble_eq_true rfl) (fun X hX hR => ?_)
  refine V.toLv (lv' := [(0, .ref (t 0))]) rfl ?_
  have hln := hS.2
  have hln2 := hS.2
  refine V_aload_n hX dX3_read_0 0 rfl ?_
  refine V_iconst hX dX3_read_1 ?_
  refine V_put (w' := sB G t ch ki fi se ln th 0) hX cbX3 6 0 (by decide) wf_X3_33 rfl rfl rfl rfl rfl rfl (Nat.le_of_ble_eq_true rfl) dX3_read_2 rfl ?_
  refine V_aload_n hX dX3_read_5 0 rfl ?_
  refine V_iconst hX dX3_read_6 ?_
  refine V_put (w' := sB G t ch ki fi se ln 0 0) hX cbX3 5 0 (by decide) wf_X3_36 rfl rfl rfl rfl rfl rfl (Nat.le_of_ble_eq_true rfl) dX3_read_7 rfl ?_
  refine V_iconst hX dX3_read_10 ?_
  refine V_istore_n (i := 1) (lv' := [(1, .int (jI 0)), (0, .ref (t 0))]) hX dX3_read_11 rfl (by decide) rfl ?_
  have L12_q_1 : ∀ k : Nat, k ≤ 30 → ∀ (ki2 : Nat → Int) (fi2 : Nat → Int) (se2 : Nat → Int) (i : Int) (a : Int) (th2 : Int), (i = (k : Int)) → (th2 = (k : Int)) → (0 ≤ a ∧ a ≤ 7 * (k : Int)) → (a = psN ch ln k) → (rdF ch ln 30 0 = rdF ch ln (30 - k) a) → (rdN ch ln 30 0 = (k : Int) + rdN ch ln (30 - k) a) → (∀ j, j < k → gdJ ch ln ki2 fi2 se2 j) → V X 0 0 (sB G t ch ki2 fi2 se2 ln th2 a) [(1, .int (jI i)), (0, .ref (t 0))] 12 [] := by
    refine up_ind (fun k => ∀ (ki2 : Nat → Int) (fi2 : Nat → Int) (se2 : Nat → Int) (i : Int) (a : Int) (th2 : Int), (i = (k : Int)) → (th2 = (k : Int)) → (0 ≤ a ∧ a ≤ 7 * (k : Int)) → (a = psN ch ln k) → (rdF ch ln 30 0 = rdF ch ln (30 - k) a) → (rdN ch ln 30 0 = (k : Int) + rdN ch ln (30 - k) a) → (∀ j, j < k → gdJ ch ln ki2 fi2 se2 j) → V X 0 0 (sB G t ch ki2 fi2 se2 ln th2 a) [(1, .int (jI i)), (0, .ref (t 0))] 12 []) (30) ?_
    intro k hk ih ki2 fi2 se2 i a th2 hi ht2 hab hap hF hN hG
    have htb := thA_b (tx := ch) (ln := ln) (a := a)
    refine V_iload_n hX dX3_read_12 0 rfl ?_
    refine V_bipush hX dX3_read_13 (by decide) ?_
    refine V_icmp_ge (tgt := 63) hX dX3_read_15 (by decide) (by omega) (by decide) (fun c_2 => ?_) (fun c_2 => ?_)
    · refine V_aload_n hX dX3_read_63 1 rfl ?_
      refine V_get (v := .int (jI a)) hX cbX3 6 0 (by decide) wf_X3_33 rfl rfl rfl rfl dX3_read_64 ?_
      have hk30 : k = 30 := by omega
      subst hk30
      exact V_iret hX hR dX3_read_67 ⟨_, _, _, _, _, congrArg (fun z => some (Value.int (jI z))) (by rw [hF]; rfl), fun z => absurd z (by rw [hF]; show ¬ a = -1; omega), (by omega), rfl⟩
    · refine V_aload_n hX dX3_read_18 1 rfl ?_
      refine V_cV (st := []) (v := .int (jI (bI (thO ch ln a)))) (w' := sB G t ch (if thO ch ln a then up ki2 th2.toNat (chA ch ln a) else ki2) (if thO ch ln a then up fi2 th2.toNat (thF ch ln a) else fi2) (if thO ch ln a then up se2 th2.toNat (thG ch ln a) else se2) ln (if thO ch ln a then th2 + 1 else th2) (thA ch ln a)) hX wc_X3_39 (c_X3_readThing l G t ch ki2 fi2 se2 ln th2 a hS (by omega) (by omega) (by omega)) (by decide) (by decide) rfl rfl (Nat.le_of_ble_eq_true rfl) dX3_read_19 [] ([]) (by simp only [List.append_assoc, List.nil_append, List.append_nil]) 0 rfl rfl (by simp only [List.append_assoc, List.nil_append, List.append_nil]) rfl rfl ?_
      refine V_ifnz (tgt := 30) hX dX3_read_22 (by decide) (fun c_3 => ?_) (fun c_3 => ?_)
      · refine V.wd (w' := sB G t ch (up ki2 th2.toNat (chA ch ln a)) (up fi2 th2.toNat (thF ch ln a)) (up se2 th2.toNat (thG ch ln a)) ln (th2 + 1) (thA ch ln a)) (sB_c rfl (if_pos (by assumption)) (if_pos (by assumption)) (if_pos (by assumption)) rfl (if_pos (by assumption)) rfl) ?_
        refine V_aload_n hX dX3_read_30 1 rfl ?_
        refine V_get (v := .int (jI (thA ch ln a))) hX cbX3 6 0 (by decide) wf_X3_33 rfl rfl rfl rfl dX3_read_31 ?_
        refine V_aload_n hX dX3_read_34 1 rfl ?_
        refine V_get (v := .int (jI ln)) hX cbX3 4 0 (by decide) wf_X3_25 rfl rfl rfl rfl dX3_read_35 ?_
        refine V_icmp_lt (tgt := 43) hX dX3_read_38 (by decide) (by omega) (by omega) (fun c_4 => ?_) (fun c_4 => ?_)
        · refine V_aload_n hX dX3_read_43 1 rfl ?_
          refine V_bipush hX dX3_read_44 (by decide) ?_
          refine V_cV (st := []) (v := .int (jI (bI (chA ch ln (thA ch ln a) = 59)))) (w' := sB G t ch (up ki2 th2.toNat (chA ch ln a)) (up fi2 th2.toNat (thF ch ln a)) (up se2 th2.toNat (thG ch ln a)) ln (th2 + 1) (if chA ch ln (thA ch ln a) = 59 then (thA ch ln a) + 1 else (thA ch ln a))) hX wc_X3_43 (c_X3_readSign l G t ch (up ki2 th2.toNat (chA ch ln a)) (up fi2 th2.toNat (thF ch ln a)) (up se2 th2.toNat (thG ch ln a)) ln (th2 + 1) (thA ch ln a) 59 hS (by omega) (by omega) (by omega)) (by decide) (by decide) rfl rfl (Nat.le_of_ble_eq_true rfl) dX3_read_46 [] ([]) (by simp only [List.append_assoc, List.nil_append, List.append_nil]) 0 rfl rfl (by simp only [List.append_assoc, List.nil_append, List.append_nil]) rfl rfl ?_
          refine V_ifnz (tgt := 57) hX dX3_read_49 (by decide) (fun c_5 => ?_) (fun c_5 => ?_)
          · refine V.wd (w' := sB G t ch (up ki2 th2.toNat (chA ch ln a)) (up fi2 th2.toNat (thF ch ln a)) (up se2 th2.toNat (thG ch ln a)) ln (th2 + 1) ((thA ch ln a) + 1)) (sB_c rfl rfl rfl rfl rfl rfl (if_pos (by assumption))) ?_
            refine V_iinc (b := i + 1) (lv' := [(1, .int (jI (i + 1))), (0, .ref (t 0))]) hX dX3_read_57 0 rfl rfl (by decide) rfl ?_
            refine V_goto (tgt := 12) hX dX3_read_60 (by decide) ?_
            refine V.sub [0, 1] rfl ?_
            exact ih (by omega) _ _ _ _ _ _ (by omega) (by omega) (by omega) (by rw [hap]; rfl) (by rw [hF, show 30 - k = (29 - k) + 1 by omega, (rdF_d (29 - k) (by assumption) (by omega) (by assumption)).1]; congr 1; omega) (by rw [hN, show 30 - k = (29 - k) + 1 by omega, (rdF_d (29 - k) (by assumption) (by omega) (by assumption)).2, show 30 - (k + 1) = 29 - k by omega]; omega) (gdJ_up (n := th2.toNat) (by omega) hap hG)
          · refine V.wd (w' := sB G t ch (up ki2 th2.toNat (chA ch ln a)) (up fi2 th2.toNat (thF ch ln a)) (up se2 th2.toNat (thG ch ln a)) ln (th2 + 1) (thA ch ln a)) (sB_c rfl rfl rfl rfl rfl rfl (if_neg (by assumption))) ?_
            refine V_aload_n hX dX3_read_52 1 rfl ?_
            refine V_get (v := .int (jI (thA ch ln a))) hX cbX3 6 0 (by decide) wf_X3_33 rfl rfl rfl rfl dX3_read_53 ?_
            exact V_iret hX hR dX3_read_56 ⟨_, _, _, _, _, congrArg (fun z => some (Value.int (jI z))) (by rw [hF, show 30 - k = (29 - k) + 1 by omega, rdF_c _ (by assumption) (by omega) (by assumption)]), fun z => absurd z (by rw [hF, show 30 - k = (29 - k) + 1 by omega, rdF_c _ (by assumption) (by omega) (by assumption)]; omega), (by omega), rfl⟩
        · refine V_iconst hX dX3_read_41 ?_
          have hq := rdF_b (tx := ch) (ln := ln) (a := a) (29 - k) (by assumption) (by omega)
          have hf1 : rdF ch ln (30 - k) a = -1 := by rw [show 30 - k = (29 - k) + 1 by omega]; exact hq.1
          have hn1 : rdN ch ln (30 - k) a = 1 := by rw [show 30 - k = (29 - k) + 1 by omega]; exact hq.2
          have hg1 := gdJ_up (n := th2.toNat) (by omega) hap hG
          exact V_iret hX hR dX3_read_42 ⟨_, _, _, _, _, congrArg (fun z => some (Value.int (jI z))) (by rw [hF, hf1]), fun z => ⟨by omega, fun j hj => hg1 j (by omega)⟩, (by omega), rfl⟩
      · refine V.wd (w' := sB G t ch ki2 fi2 se2 ln th2 (thA ch ln a)) (sB_c rfl (if_neg (by assumption)) (if_neg (by assumption)) (if_neg (by assumption)) rfl (if_neg (by assumption)) rfl) ?_
        refine V_aload_n hX dX3_read_25 1 rfl ?_
        refine V_get (v := .int (jI (thA ch ln a))) hX cbX3 6 0 (by decide) wf_X3_33 rfl rfl rfl rfl dX3_read_26 ?_
        exact V_iret hX hR dX3_read_29 ⟨_, _, _, _, _, congrArg (fun z => some (Value.int (jI z))) (by rw [hF, show 30 - k = (29 - k) + 1 by omega, rdF_a _ (by assumption)]), fun z => absurd z (by rw [hF, show 30 - k = (29 - k) + 1 by omega, rdF_a _ (by assumption)]; omega), (by omega), rfl⟩
  refine V.sub [0, 1] rfl ?_
  exact L12_q_1 0 (Nat.zero_le _) ki fi se 0 0 0 rfl rfl ⟨by decide, by decide⟩ rfl rfl (by simp) (fun j hj => absurd hj (Nat.not_lt_zero j))
