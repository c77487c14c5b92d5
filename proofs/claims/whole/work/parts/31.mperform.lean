/-! the reference performs a text -/
theorem rd_ok {tx : Nat → Int} {ln : Int} : ∀ (f k : Nat), rdF tx ln f (psN tx ln k) = -1 → 0 ≤ psN tx ln k → ∀ n, n = (rdN tx ln f (psN tx ln k)).toNat → (∀ j, k ≤ j → j < k + n → thO tx ln (psN tx ln j) ∧ psN tx ln j < ln) ∧ ln ≤ psN tx ln (k + n) ∧ 0 ≤ rdN tx ln f (psN tx ln k) := by
  intro f
  induction f with
  | zero =>
    intro k h h0
    exact absurd (show psN tx ln k = -1 from h) (by omega)
  | succ f ih =>
    intro k h h0 n hn
    by_cases q1 : thO tx ln (psN tx ln k)
    · have hl := th_le q1
      by_cases q2 : ln ≤ thA tx ln (psN tx ln k)
      · rw [(rdF_b f q1 q2).2] at hn ⊢
        have e : n = 1 := by omega
        subst e
        refine ⟨fun j h1 h2 => ?_, ?_, by omega⟩
        · have e2 : j = k := by omega
          subst e2
          exact ⟨q1, by omega⟩
        · show ln ≤ thA tx ln (psN tx ln k) + 1
          omega
      · by_cases q3 : chA tx ln (thA tx ln (psN tx ln k)) = 59
        · rw [(rdF_d f q1 q2 q3).1] at h
          rw [(rdF_d f q1 q2 q3).2] at hn ⊢
          have h2 := ih (k + 1) h (by show 0 ≤ thA tx ln (psN tx ln k) + 1; omega) _ rfl
          obtain ⟨a1, a2, a3⟩ := h2
          have a3' : 0 ≤ rdN tx ln f (thA tx ln (psN tx ln k) + 1) := a3
          have e : n = (rdN tx ln f (psN tx ln (k + 1))).toNat + 1 := by
            show n = (rdN tx ln f (thA tx ln (psN tx ln k) + 1)).toNat + 1
            omega
          refine ⟨fun j h1 h2 => ?_, ?_, by omega⟩
          · by_cases e2 : j = k
            · subst e2
              exact ⟨q1, by omega⟩
            · exact a1 j (by omega) (by omega)
          · rw [show k + n = k + 1 + (rdN tx ln f (psN tx ln (k + 1))).toNat by omega]
            exact a2
        · rw [rdF_c f q1 q2 q3] at h
          omega
    · rw [rdF_a f q1] at h
      have := thA_b (tx := tx) (ln := ln) (a := psN tx ln k)
      omega
theorem dtR_e {S tx : Nat → Int} {ln a g x y : Int} (h : thO tx ln a) (hg : g = chA tx ln a) (hx : g ≠ 118 → x = thF tx ln a) (hy : (g = 119 ∨ g = 99 ∨ g = 102) → y = thG tx ln a) : dtR S g x y = dtR S (chA tx ln a) (thF tx ln a) (thG tx ln a) ∧ dtS S g x y = dtS S (chA tx ln a) (thF tx ln a) (thG tx ln a) := by
  subst hg
  unfold dtR dtS
  rcases th_k h with q | q | q | q | q
  · rw [hx (by omega), hy (by omega)]; exact ⟨rfl, rfl⟩
  · rw [hx (by omega), hy (by omega)]; exact ⟨rfl, rfl⟩
  · rw [hx (by omega), hy (by omega)]; exact ⟨rfl, rfl⟩
  · rw [if_neg (by omega), if_neg (by omega), if_pos q, if_neg (by omega), if_neg (by omega), if_pos q, if_neg (by omega), if_neg (by omega), if_pos q, if_neg (by omega), if_neg (by omega), if_pos q]
    exact ⟨rfl, rfl⟩
  · rw [hx (by omega), if_neg (by omega), if_neg (by omega), if_neg (by omega), if_neg (by omega), if_neg (by omega), if_neg (by omega), if_neg (by omega), if_neg (by omega), if_neg (by omega), if_neg (by omega), if_neg (by omega), if_neg (by omega), if_neg (by omega), if_neg (by omega), if_neg (by omega), if_neg (by omega)]
    exact ⟨rfl, rfl⟩
theorem dtR_b5 {s : Nat → Int} (h : Inv 99999 s) (k f g : Int) : -5 ≤ dtR s k f g := by
  have hb := h.base
  have h0 := bsR_b s (pvF s true)
  have h1 := goR_b5 h f
  have h2 : -5 ≤ tcR s f g := by
    unfold tcR crN
    split
    · have h1 := h.sc f.toNat (by omega)
      (repeat' split) <;> omega
    · omega
  have h3 : -5 ≤ stR s f g := by
    unfold stR flN flM
    split
    · have h1 := h.sc f.toNat (by omega)
      (repeat' split) <;> omega
    · omega
  have h4 : -5 ≤ blR s f g := by unfold blR; (repeat' split) <;> omega
  have h5 : -5 ≤ cvR (bsR s (pvF s true)) := by unfold cvR; split <;> omega
  unfold dtR
  (repeat' split) <;> assumption

set_option maxHeartbeats 4000000 in
set_option maxRecDepth 100000 in
theorem c_X5_findFault (l : Launch) (G : vC) (m : Nat → Nat) (s : Nat → Int) (sp : Nat → Int) (hi : Nat → Int) (sn : Nat → Int) (tx : Nat → Int) (g3 : Int) (g5 : Int) (g7 : Int) (g8 : Int) (g9 : Int) (g10 : Int) (g11 : Int) (g12 : Int) (g13 : Int) (hS : SI tx g7) (hx : -5 ≤ g10 ∧ g10 ≤ 99) (hy : -5 ≤ g11 ∧ g11 ≤ 99) : Ct l G yX5_findFault cX5_findFault 1 (some .int) ({ frames := 4, cells := 0, slots := 0, locals := 90 } : Room) [.ref (m 0)] (mB G m s sp hi sn tx g3 g5 g7 g8 g9 g10 g11 g12 g13) (fun v u => ∃ x8 x9 x10 x11 : Int, v = some (Value.int (jI (mfR (rdF tx g7 30 0)))) ∧ (-5 ≤ x10 ∧ x10 ≤ 99 ∧ -5 ≤ x11 ∧ x11 ≤ 99) ∧ u = mB G m s sp hi sn tx g3 g5 g7 x8 x9 x10 x11 g12 g13) := by
  refine Ct.of (by decide) (Nat.le_of_ble_eq_true rfl) (fun X hX hR => ?_)
  refine V.toLv (lv' := [(0, .ref (m 0))]) rfl ?_
  have hln := hS.2
  refine V_aload_n hX dX5_findFault_0 0 rfl ?_
  refine V_iconst hX dX5_findFault_1 ?_
  refine V_put (w' := mB G m s sp hi sn tx g3 g5 g7 0 g9 g10 g11 g12 g13) hX cbX5 8 0 (by decide) wf_X5_132 rfl rfl rfl rfl rfl rfl (Nat.le_of_ble_eq_true rfl) dX5_findFault_2 rfl ?_
  have L5_q_1 : ∀ k : Nat, k ≤ 30 → ∀ (x9 : Int) (x10 : Int) (x11 : Int), (-5 ≤ x10 ∧ x10 ≤ 99) → (-5 ≤ x11 ∧ x11 ≤ 99) → (2 * (k : Int) ≤ psN tx g7 k ∧ psN tx g7 k ≤ g7) → (rdF tx g7 30 0 = rdF tx g7 (30 - k) (psN tx g7 k)) → V X 0 0 (mB G m s sp hi sn tx g3 g5 g7 (psN tx g7 k) x9 x10 x11 g12 g13) [(0, .ref (m 0))] 5 [] := by
    refine up_ind (fun k => ∀ (x9 : Int) (x10 : Int) (x11 : Int), (-5 ≤ x10 ∧ x10 ≤ 99) → (-5 ≤ x11 ∧ x11 ≤ 99) → (2 * (k : Int) ≤ psN tx g7 k ∧ psN tx g7 k ≤ g7) → (rdF tx g7 30 0 = rdF tx g7 (30 - k) (psN tx g7 k)) → V X 0 0 (mB G m s sp hi sn tx g3 g5 g7 (psN tx g7 k) x9 x10 x11 g12 g13) [(0, .ref (m 0))] 5 []) (30) ?_
    intro k hk ih x9 x10 x11 hx10 hx11 hp hF
    have hps : psN tx g7 (k + 1) = thA tx g7 (psN tx g7 k) + 1 := rfl
    have hth : thO tx g7 (psN tx g7 k) → psN tx g7 k < thA tx g7 (psN tx g7 k) ∧ thA tx g7 (psN tx g7 k) ≤ g7 := th_le
    have htb := thA_b (tx := tx) (ln := g7) (a := psN tx g7 k)
    refine V_aload_n hX dX5_findFault_5 0 rfl ?_
    refine V_rV (st := []) hX wc_X5_157 (c_X5_readsThing l G m s sp hi sn tx g3 g5 g7 (psN tx g7 k) x9 x10 x11 g12 g13 hS (by omega) (by omega) (by omega)) (by decide) (by decide) rfl rfl (Nat.le_of_ble_eq_true rfl) dX5_findFault_6 [] ([]) (by simp only [List.append_assoc, List.nil_append, List.append_nil]) 0 rfl rfl (fun v_3 u_2 hp_4 => ?_)
    obtain ⟨x, y, rfl, hxy, hbx, rfl⟩ := hp_4
    refine V.wd (w' := mB G m s sp hi sn tx g3 g5 g7 (thA tx g7 (psN tx g7 k)) (cdA tx g7 (psN tx g7 k)) x y g12 g13) (by simp only [List.append_assoc, List.nil_append, List.append_nil]) ?_
    refine V_ifz (tgt := 40) hX dX5_findFault_9 (by decide) (fun c_5 => ?_) (fun c_5 => ?_)
    · refine V_aload_n hX dX5_findFault_40 0 rfl ?_
      refine V_get (v := .int (jI (thA tx g7 (psN tx g7 k)))) hX cbX5 8 0 (by decide) wf_X5_132 rfl rfl rfl rfl dX5_findFault_41 ?_
      have hrf : rdF tx g7 30 0 = thA tx g7 (psN tx g7 k) := by
        rw [hF]
        rcases (by omega : k < 30 ∨ k = 30) with z | z
        · rw [show 30 - k = (29 - k) + 1 by omega, rdF_a _ (by assumption)]
        · subst z
          show psN tx g7 30 = _
          have hch := cd_ch hS (show 0 ≤ psN tx g7 30 by omega)
          exact (th_x (tx := tx) (ln := g7) (a := psN tx g7 30) (by omega)).2.1.symm
      have hvv : mfR (rdF tx g7 30 0) = thA tx g7 (psN tx g7 k) := (by unfold mfR; rw [hrf]; split <;> omega)
      exact V_iret hX hR dX5_findFault_44 ⟨_, _, _, _, congrArg (fun z => some (Value.int (jI z))) hvv.symm, ⟨by omega, by omega, by omega, by omega⟩, rfl⟩
    · have hth2 := hth (by assumption)
      have hcb := chA_b hS (thA tx g7 (psN tx g7 k))
      refine V_aload_n hX dX5_findFault_12 0 rfl ?_
      refine V_get (v := .int (jI (thA tx g7 (psN tx g7 k)))) hX cbX5 8 0 (by decide) wf_X5_132 rfl rfl rfl rfl dX5_findFault_13 ?_
      refine V_aload_n hX dX5_findFault_16 0 rfl ?_
      refine V_get (v := .int (jI g7)) hX cbX5 7 0 (by decide) wf_X5_129 rfl rfl rfl rfl dX5_findFault_17 ?_
      refine V_icmp_ne (tgt := 26) hX dX5_findFault_20 (by decide) (by omega) (by omega) (fun c_6 => ?_) (fun c_6 => ?_)
      · refine V_aload_n hX dX5_findFault_26 0 rfl ?_
        refine V_bipush hX dX5_findFault_27 (by decide) ?_
        refine V_cV (st := []) (v := .int (jI (bI (chA tx g7 (thA tx g7 (psN tx g7 k)) = 59)))) (w' := mB G m s sp hi sn tx g3 g5 g7 (if chA tx g7 (thA tx g7 (psN tx g7 k)) = 59 then (thA tx g7 (psN tx g7 k)) + 1 else (thA tx g7 (psN tx g7 k))) (cdA tx g7 (psN tx g7 k)) x y g12 g13) hX wc_X5_144 (c_X5_takes l G m s sp hi sn tx g3 g5 g7 (thA tx g7 (psN tx g7 k)) (cdA tx g7 (psN tx g7 k)) x y g12 g13 59 hS (by omega) (by omega)) (by decide) (by decide) rfl rfl (Nat.le_of_ble_eq_true rfl) dX5_findFault_29 [] ([]) (by simp only [List.append_assoc, List.nil_append, List.append_nil]) 0 rfl rfl (by simp only [List.append_assoc, List.nil_append, List.append_nil]) rfl rfl ?_
        refine V_ifnz (tgt := 5) hX dX5_findFault_32 (by decide) (fun c_7 => ?_) (fun c_7 => ?_)
        · refine V.sub [0] rfl ?_
          refine V.wd (w' := mB G m s sp hi sn tx g3 g5 g7 ((thA tx g7 (psN tx g7 k)) + 1) (cdA tx g7 (psN tx g7 k)) x y g12 g13) (mB_c rfl rfl rfl rfl rfl rfl rfl rfl (if_pos (by assumption)) rfl rfl rfl rfl rfl) ?_
          exact ih (by omega) _ _ _ (by omega) (by omega) (by omega) (by rw [hF, show 30 - k = (29 - k) + 1 by omega, (rdF_d _ (by assumption) (by omega) (by assumption)).1, show 30 - (k + 1) = 29 - k by omega, hps])
        · refine V.wd (w' := mB G m s sp hi sn tx g3 g5 g7 (thA tx g7 (psN tx g7 k)) (cdA tx g7 (psN tx g7 k)) x y g12 g13) (mB_c rfl rfl rfl rfl rfl rfl rfl rfl (if_neg (by assumption)) rfl rfl rfl rfl rfl) ?_
          refine V_aload_n hX dX5_findFault_35 0 rfl ?_
          refine V_get (v := .int (jI (thA tx g7 (psN tx g7 k)))) hX cbX5 8 0 (by decide) wf_X5_132 rfl rfl rfl rfl dX5_findFault_36 ?_
          have hrf : rdF tx g7 30 0 = thA tx g7 (psN tx g7 k) := by rw [hF, show 30 - k = (29 - k) + 1 by omega, rdF_c _ (by assumption) (by omega) (by assumption)]
          have hvv : mfR (rdF tx g7 30 0) = thA tx g7 (psN tx g7 k) := (by unfold mfR; rw [hrf]; split <;> omega)
          exact V_iret hX hR dX5_findFault_39 ⟨_, _, _, _, congrArg (fun z => some (Value.int (jI z))) hvv.symm, ⟨by omega, by omega, by omega, by omega⟩, rfl⟩
      · refine V_bipush hX dX5_findFault_23 (by decide) ?_
        have hvv : mfR (rdF tx g7 30 0) = -5 := (by rw [hF, show 30 - k = (29 - k) + 1 by omega, (rdF_b _ (by assumption) (by omega)).1]; rfl)
        exact V_iret hX hR dX5_findFault_25 ⟨_, _, _, _, congrArg (fun z => some (Value.int (jI z))) hvv.symm, ⟨by omega, by omega, by omega, by omega⟩, rfl⟩
  refine V.sub [0] rfl ?_
  exact L5_q_1 0 (Nat.zero_le _) _ _ _ hx hy ⟨Int.le_refl _, hln.1⟩ rfl

set_option maxHeartbeats 4000000 in
set_option maxRecDepth 100000 in
theorem c_X5_doThing (l : Launch) (G : vC) (m : Nat → Nat) (s : Nat → Int) (sp : Nat → Int) (hi : Nat → Int) (sn : Nat → Int) (tx : Nat → Int) (g3 : Int) (g5 : Int) (g7 : Int) (g8 : Int) (g9 : Int) (g10 : Int) (g11 : Int) (g12 : Int) (g13 : Int) (t : Int) (hI : Inv t s) (hx : -5 ≤ g10 ∧ g10 ≤ 99) (hy : -5 ≤ g11 ∧ g11 ≤ 99) (ht : t = 99999) (hk : g9 = 119 ∨ g9 = 99 ∨ g9 = 102 ∨ g9 = 118 ∨ g9 = 46) : Fn l G yX5_doThing cX5_doThing 1 (some .int) ({ frames := 7, cells := 0, slots := 0, locals := 166 } : Room) [.ref (m 0)] (mB G m s sp hi sn tx g3 g5 g7 g8 g9 g10 g11 g12 g13) (some (.int (jI (dtR s g9 g10 g11)))) (mB G m (dtS s g9 g10 g11) sp hi sn tx g3 g5 g7 g8 g9 g10 g11 g12 g13) := by
  refine Ct.of (by decide) (Nat.le_of_ble_eq_true rfl) (fun X hX hR => ?_)
  refine V.toLv (lv' := [(0, .ref (m 0))]) rfl ?_
  have hb := hI.base
  refine V_aload_n hX dX5_doThing_0 0 rfl ?_
  refine V_get (v := .int (jI g9)) hX cbX5 9 0 (by decide) wf_X5_150 rfl rfl rfl rfl dX5_doThing_1 ?_
  by_cases c_1 : g9 = 46
  · refine V_lookup (tgt := 87) hX dX5_doThing_4 (by omega) (by decide) (by rw [c_1] <;> rfl) (by decide) ?_
    refine V_aload_n hX dX5_doThing_87 0 rfl ?_
    refine V_aload_n hX dX5_doThing_88 0 rfl ?_
    refine V_get (v := .int (jI g10)) hX cbX5 10 0 (by decide) wf_X5_141 rfl rfl rfl rfl dX5_doThing_89 ?_
    refine V_cV (st := []) (v := .int (jI (goR s g10))) (w' := mB G m (goS s g10) sp hi sn tx g3 g5 g7 g8 g9 g10 g11 g12 g13) hX wc_X5_126 (c_X5_doPass l G m s sp hi sn tx g3 g5 g7 g8 g9 g10 g11 g12 g13 t g10 hI (by omega) (by omega)) (by decide) (by decide) rfl rfl (Nat.le_of_ble_eq_true rfl) dX5_doThing_92 [] ([]) (by simp only [List.append_assoc, List.nil_append, List.append_nil]) 0 rfl rfl (by simp only [List.append_assoc, List.nil_append, List.append_nil]) rfl rfl ?_
    exact V_iret hX hR dX5_doThing_95 ⟨(congrArg (fun z => some (Value.int (jI z))) (by unfold dtR; (repeat' split) <;> first | rfl | omega)), (mB_c (by unfold dtS; (repeat' split) <;> first | rfl | omega) rfl rfl rfl rfl rfl rfl rfl rfl rfl rfl rfl rfl rfl)⟩
  by_cases c_2 : g9 = 99
  · refine V_lookup (tgt := 61) hX dX5_doThing_4 (by omega) (by decide) (by rw [c_2] <;> rfl) (by decide) ?_
    refine V_aload_n hX dX5_doThing_61 0 rfl ?_
    refine V_aload_n hX dX5_doThing_62 0 rfl ?_
    refine V_get (v := .int (jI g10)) hX cbX5 10 0 (by decide) wf_X5_141 rfl rfl rfl rfl dX5_doThing_63 ?_
    refine V_aload_n hX dX5_doThing_66 0 rfl ?_
    refine V_get (v := .int (jI g11)) hX cbX5 11 0 (by decide) wf_X5_147 rfl rfl rfl rfl dX5_doThing_67 ?_
    refine V_cV (st := []) (v := .int (jI (tcR s g10 g11))) (w' := mB G m (tcS s g10 g11) sp hi sn tx g3 g5 g7 g8 g9 g10 g11 g12 g13) hX wc_X5_114 (c_X5_doCrow l G m s sp hi sn tx g3 g5 g7 g8 g9 g10 g11 g12 g13 t g10 g11 hI (by omega) (by omega)) (by decide) (by decide) rfl rfl (Nat.le_of_ble_eq_true rfl) dX5_doThing_70 [] ([]) (by simp only [List.append_assoc, List.nil_append, List.append_nil]) 0 rfl rfl (by simp only [List.append_assoc, List.nil_append, List.append_nil]) rfl rfl ?_
    exact V_iret hX hR dX5_doThing_73 ⟨(congrArg (fun z => some (Value.int (jI z))) (by unfold dtR; (repeat' split) <;> first | rfl | omega)), (mB_c (by unfold dtS; (repeat' split) <;> first | rfl | omega) rfl rfl rfl rfl rfl rfl rfl rfl rfl rfl rfl rfl rfl)⟩
  by_cases c_3 : g9 = 102
  · refine V_lookup (tgt := 74) hX dX5_doThing_4 (by omega) (by decide) (by rw [c_3] <;> rfl) (by decide) ?_
    refine V_aload_n hX dX5_doThing_74 0 rfl ?_
    refine V_aload_n hX dX5_doThing_75 0 rfl ?_
    refine V_get (v := .int (jI g10)) hX cbX5 10 0 (by decide) wf_X5_141 rfl rfl rfl rfl dX5_doThing_76 ?_
    refine V_aload_n hX dX5_doThing_79 0 rfl ?_
    refine V_get (v := .int (jI g11)) hX cbX5 11 0 (by decide) wf_X5_147 rfl rfl rfl rfl dX5_doThing_80 ?_
    refine V_cV (st := []) (v := .int (jI (stR s g10 g11))) (w' := mB G m (stS s g10 g11) sp hi sn tx g3 g5 g7 g8 g9 g10 g11 g12 g13) hX wc_X5_117 (c_X5_doFill l G m s sp hi sn tx g3 g5 g7 g8 g9 g10 g11 g12 g13 t g10 g11 hI (by omega) (by omega)) (by decide) (by decide) rfl rfl (Nat.le_of_ble_eq_true rfl) dX5_doThing_83 [] ([]) (by simp only [List.append_assoc, List.nil_append, List.append_nil]) 0 rfl rfl (by simp only [List.append_assoc, List.nil_append, List.append_nil]) rfl rfl ?_
    exact V_iret hX hR dX5_doThing_86 ⟨(congrArg (fun z => some (Value.int (jI z))) (by unfold dtR; (repeat' split) <;> first | rfl | omega)), (mB_c (by unfold dtS; (repeat' split) <;> first | rfl | omega) rfl rfl rfl rfl rfl rfl rfl rfl rfl rfl rfl rfl rfl)⟩
  by_cases c_4 : g9 = 119
  · refine V_lookup (tgt := 48) hX dX5_doThing_4 (by omega) (by decide) (by rw [c_4] <;> rfl) (by decide) ?_
    refine V_aload_n hX dX5_doThing_48 0 rfl ?_
    refine V_aload_n hX dX5_doThing_49 0 rfl ?_
    refine V_get (v := .int (jI g10)) hX cbX5 10 0 (by decide) wf_X5_141 rfl rfl rfl rfl dX5_doThing_50 ?_
    refine V_aload_n hX dX5_doThing_53 0 rfl ?_
    refine V_get (v := .int (jI g11)) hX cbX5 11 0 (by decide) wf_X5_147 rfl rfl rfl rfl dX5_doThing_54 ?_
    refine V_cV (st := []) (v := .int (jI (blR s g10 g11))) (w' := mB G m (blS s g10 g11) sp hi sn tx g3 g5 g7 g8 g9 g10 g11 g12 g13) hX wc_X5_120 (c_X5_doWind l G m s sp hi sn tx g3 g5 g7 g8 g9 g10 g11 g12 g13 t g10 g11 hI (by omega) (by omega)) (by decide) (by decide) rfl rfl (Nat.le_of_ble_eq_true rfl) dX5_doThing_57 [] ([]) (by simp only [List.append_assoc, List.nil_append, List.append_nil]) 0 rfl rfl (by simp only [List.append_assoc, List.nil_append, List.append_nil]) rfl rfl ?_
    exact V_iret hX hR dX5_doThing_60 ⟨(congrArg (fun z => some (Value.int (jI z))) (by unfold dtR; (repeat' split) <;> first | rfl | omega)), (mB_c (by unfold dtS; (repeat' split) <;> first | rfl | omega) rfl rfl rfl rfl rfl rfl rfl rfl rfl rfl rfl rfl rfl)⟩
  refine V_lookup (tgt := 96) hX dX5_doThing_4 (by omega) (by decide) (lk_out (by simp [Ne.symm c_1, Ne.symm c_2, Ne.symm c_3, Ne.symm c_4, c_1, c_2, c_3, c_4])) (by decide) ?_
  refine V_aload_n hX dX5_doThing_96 0 rfl ?_
  refine V_cV (st := []) (v := .int (jI (cvR (bsR s (pvF s true))))) (w' := mB G m (cvS s (bsR s (pvF s true))) sp hi sn tx g3 g5 g7 g8 g9 g10 g11 g12 g13) hX wc_X5_123 (c_X5_doVote l G m s sp hi sn tx g3 g5 g7 g8 g9 g10 g11 g12 g13 t hI) (by decide) (by decide) rfl rfl (Nat.le_of_ble_eq_true rfl) dX5_doThing_97 [] ([]) (by simp only [List.append_assoc, List.nil_append, List.append_nil]) 0 rfl rfl (by simp only [List.append_assoc, List.nil_append, List.append_nil]) rfl rfl ?_
  exact V_iret hX hR dX5_doThing_100 ⟨(congrArg (fun z => some (Value.int (jI z))) (by unfold dtR; (repeat' split) <;> first | rfl | omega)), (mB_c (by unfold dtS; (repeat' split) <;> first | rfl | omega) rfl rfl rfl rfl rfl rfl rfl rfl rfl rfl rfl rfl rfl)⟩

set_option maxHeartbeats 4000000 in
set_option maxRecDepth 100000 in
theorem c_X5_perform (l : Launch) (G : vC) (m : Nat → Nat) (s : Nat → Int) (sp : Nat → Int) (hi : Nat → Int) (sn : Nat → Int) (tx : Nat → Int) (g3 : Int) (g5 : Int) (g7 : Int) (g8 : Int) (g9 : Int) (g10 : Int) (g11 : Int) (g12 : Int) (g13 : Int) (t : Int) (hI : Inv t s) (hg3 : 0 ≤ g3 ∧ g3 ≤ 4) (hS : SI tx g7) (hx : -5 ≤ g10 ∧ g10 ≤ 99) (hy : -5 ≤ g11 ∧ g11 ≤ 99) (ht : t = 99999) (h12 : iR g12) : Ct l G yX5_perform cX5_perform 4 (some .int) ({ frames := 8, cells := 0, slots := 0, locals := 186 } : Room) [.ref (m 0)] (mB G m s sp hi sn tx g3 g5 g7 g8 g9 g10 g11 g12 g13) (fun v u => ∃ (sp2 : Nat → Int) (x8 x9 x10 x11 : Int), v = some (Value.int (jI (pmR s tx g7))) ∧ (-5 ≤ x10 ∧ x10 ≤ 99 ∧ -5 ≤ x11 ∧ x11 ≤ 99) ∧ u = mB G m (pmS s tx g7) sp2 (mcH hi g3 s (pmR s tx g7)) sn tx (mcZ g3 (pmR s tx g7)) g5 g7 x8 x9 x10 x11 (if pmP s tx g7 then pmN s tx g7 else g12) (if pmP s tx g7 then pfA s tx g7 (pmN s tx g7).toNat else g13)) := by
  refine Ct.of (by decide) (Nat.le_of_ble_eq_true rfl) (fun X hX hR => ?_)
  refine V.toLv (lv' := [(0, .ref (m 0))]) rfl ?_
  have hb := hI.base
  have hln := hS.2
  have hI9 : Inv 99999 s := by rw [← ht]; exact hI
  have hfb := rdF_b0 (tx := tx) (ln := g7) 30 0 (by decide)
  have hmfb : -5 ≤ mfR (rdF tx g7 30 0) ∧ mfR (rdF tx g7 30 0) ≤ 1000 ∧ mfR (rdF tx g7 30 0) ≠ -1 := by unfold mfR; split <;> omega
  refine V_aload_n hX dX5_perform_0 0 rfl ?_
  refine V_rV (st := []) hX wc_X5_161 (c_X5_findFault l G m s sp hi sn tx g3 g5 g7 g8 g9 g10 g11 g12 g13 hS (by omega) (by omega)) (by decide) (by decide) rfl rfl (Nat.le_of_ble_eq_true rfl) dX5_perform_1 [] ([]) (by simp only [List.append_assoc, List.nil_append, List.append_nil]) 0 rfl rfl (fun v_2 u_1 hp_3 => ?_)
  obtain ⟨x8, x9, x10, x11, rfl, hxb, rfl⟩ := hp_3
  refine V.wd (w' := mB G m s sp hi sn tx g3 g5 g7 x8 x9 x10 x11 g12 g13) (by simp only [List.append_assoc, List.nil_append, List.append_nil]) ?_
  refine V_istore_n (i := 1) (lv' := [(1, .int (jI (mfR (rdF tx g7 30 0)))), (0, .ref (m 0))]) hX dX5_perform_4 rfl (by decide) rfl ?_
  refine V_iload_n hX dX5_perform_5 0 rfl ?_
  refine V_bipush hX dX5_perform_6 (by decide) ?_
  refine V_icmp_eq (tgt := 16) hX dX5_perform_8 (by decide) (by omega) (by decide) (fun c_4 => ?_) (fun c_4 => ?_)
  · have hfx : rdF tx g7 30 0 = -1 := by rcases (Decidable.em (rdF tx g7 30 0 = -1)) with z | z; exact z; exact absurd (by assumption : mfR (rdF tx g7 30 0) = -5) (by unfold mfR; rw [if_neg z]; omega)
    have hrd := rd_ok (tx := tx) (ln := g7) 30 0 hfx (Int.le_refl _) _ rfl
    obtain ⟨hok0, hend0, hn0⟩ := hrd
    have hend : g7 ≤ psN tx g7 (rdN tx g7 30 0).toNat := by rw [Nat.zero_add] at hend0; exact hend0
    have hok : ∀ j, 0 ≤ j → j < (rdN tx g7 30 0).toNat → thO tx g7 (psN tx g7 j) ∧ psN tx g7 j < g7 := fun j h1 h2 => hok0 j h1 (by rw [Nat.zero_add]; exact h2)
    have hn1 : 0 ≤ rdN tx g7 30 0 := hn0
    refine V_aload_n hX dX5_perform_16 1 rfl ?_
    refine V_dV (st := []) (w' := mB G m s s hi sn tx g3 g5 g7 x8 x9 x10 x11 g12 g13) hX wc_X5_48 (c_X5_putAside l G m s sp hi sn tx g3 g5 g7 x8 x9 x10 x11 g12 g13 ) (by decide) (by decide) rfl rfl (Nat.le_of_ble_eq_true rfl) dX5_perform_17 [] ([]) (by simp only [List.append_assoc, List.nil_append, List.append_nil]) 0 rfl rfl (by simp only [List.append_assoc, List.nil_append, List.append_nil]) rfl rfl ?_
    refine V_aload_n hX dX5_perform_20 1 rfl ?_
    refine V_iconst hX dX5_perform_21 ?_
    refine V_put (w' := mB G m s s hi sn tx g3 g5 g7 0 x9 x10 x11 g12 g13) hX cbX5 8 0 (by decide) wf_X5_132 rfl rfl rfl rfl rfl rfl (Nat.le_of_ble_eq_true rfl) dX5_perform_22 rfl ?_
    refine V_iconst hX dX5_perform_25 ?_
    refine V_istore_n (i := 2) (lv' := [(2, .int (jI 0)), (1, .int (jI (mfR (rdF tx g7 30 0)))), (0, .ref (m 0))]) hX dX5_perform_26 rfl (by decide) rfl ?_
    have L27_q_5 : ∀ k : Nat, k ≤ (rdN tx g7 30 0).toNat → ∀ (i : Int) (x9 : Int) (x10 : Int) (x11 : Int), (i = (k : Int)) → (-5 ≤ x10 ∧ x10 ≤ 99) → (-5 ≤ x11 ∧ x11 ≤ 99) → (pfX s tx g7 (rdN tx g7 30 0).toNat 0 = pfX s tx g7 ((rdN tx g7 30 0).toNat - k) k) → V X 0 0 (mB G m (pfS s tx g7 k) s hi sn tx g3 g5 g7 (psN tx g7 k) x9 x10 x11 g12 g13) [(2, .int (jI i)), (0, .ref (m 0))] 27 [] := by
      refine up_ind (fun k => ∀ (i : Int) (x9 : Int) (x10 : Int) (x11 : Int), (i = (k : Int)) → (-5 ≤ x10 ∧ x10 ≤ 99) → (-5 ≤ x11 ∧ x11 ≤ 99) → (pfX s tx g7 (rdN tx g7 30 0).toNat 0 = pfX s tx g7 ((rdN tx g7 30 0).toNat - k) k) → V X 0 0 (mB G m (pfS s tx g7 k) s hi sn tx g3 g5 g7 (psN tx g7 k) x9 x10 x11 g12 g13) [(2, .int (jI i)), (0, .ref (m 0))] 27 []) ((rdN tx g7 30 0).toNat) ?_
      intro k hk ih i x9 x10 x11 hik hx10 hx11 hPX
      have hps : psN tx g7 (k + 1) = thA tx g7 (psN tx g7 k) + 1 := rfl
      have hpb := psN_b (tx := tx) (ln := g7) k
      have hIk := hI9.pf tx g7 k
      refine V_aload_n hX dX5_perform_27 1 rfl ?_
      refine V_get (v := .int (jI (psN tx g7 k))) hX cbX5 8 0 (by decide) wf_X5_132 rfl rfl rfl rfl dX5_perform_28 ?_
      refine V_aload_n hX dX5_perform_31 1 rfl ?_
      refine V_get (v := .int (jI g7)) hX cbX5 7 0 (by decide) wf_X5_129 rfl rfl rfl rfl dX5_perform_32 ?_
      refine V_icmp_ge (tgt := 98) hX dX5_perform_35 (by decide) (by omega) (by omega) (fun c_6 => ?_) (fun c_6 => ?_)
      · refine V_aload_n hX dX5_perform_98 1 rfl ?_
        refine V_dV (st := []) (w' := mB G m (pfS s tx g7 k) s (phH hi g3 s) sn tx (phZ g3) g5 g7 (psN tx g7 k) x9 x10 x11 g12 g13) hX wc_X5_41 (c_X5_push l G m (pfS s tx g7 k) s hi sn tx g3 g5 g7 (psN tx g7 k) x9 x10 x11 g12 g13 (by omega)) (by decide) (by decide) rfl rfl (Nat.le_of_ble_eq_true rfl) dX5_perform_99 [] ([]) (by simp only [List.append_assoc, List.nil_append, List.append_nil]) 0 rfl rfl (by simp only [List.append_assoc, List.nil_append, List.append_nil]) rfl rfl ?_
        refine V_iload_n hX dX5_perform_102 0 rfl ?_
        have hkn : k = (rdN tx g7 30 0).toNat := by rcases (by omega : k = (rdN tx g7 30 0).toNat ∨ k < (rdN tx g7 30 0).toNat) with z | z; exact z; exact absurd (hok k (by omega) (by omega)).2 (by omega)
        have hN1 : pmN s tx g7 = -1 := by unfold pmN; rw [hPX, hkn, Nat.sub_self]; rfl
        have hR1 : pmR s tx g7 = i := (if_pos hfx).trans ((if_pos hN1).trans (by omega))
        have hP1 : ¬ pmP s tx g7 := fun z => z.2 hN1
        have hS1 : pmS s tx g7 = pfS s tx g7 k := (if_pos ⟨hfx, hN1⟩).trans (by rw [hkn])
        exact V_iret hX hR dX5_perform_103 ⟨_, _, _, _, _, congrArg (fun z => some (Value.int (jI z))) hR1.symm, ⟨by omega, by omega, by omega, by omega⟩, mB_c hS1.symm rfl (by rw [hR1]; exact (if_pos (by omega)).symm) rfl rfl (by rw [hR1]; exact (if_pos (by omega)).symm) rfl rfl rfl rfl rfl rfl (if_neg hP1).symm (if_neg hP1).symm⟩
      · have hek : k = (rdN tx g7 30 0).toNat → g7 ≤ psN tx g7 k := fun z => by rw [z]; exact hend
        have hkn2 : k < (rdN tx g7 30 0).toNat := by omega
        have hthO := (hok k (by omega) hkn2).1
        refine V_aload_n hX dX5_perform_38 1 rfl ?_
        refine V_rV (st := []) hX wc_X5_157 (c_X5_readsThing l G m (pfS s tx g7 k) s hi sn tx g3 g5 g7 (psN tx g7 k) x9 x10 x11 g12 g13 hS (by omega) (by omega) (by omega)) (by decide) (by decide) rfl rfl (Nat.le_of_ble_eq_true rfl) dX5_perform_39 [] ([]) (by simp only [List.append_assoc, List.nil_append, List.append_nil]) 0 rfl rfl (fun v_8 u_7 hp_9 => ?_)
        obtain ⟨x, y, rfl, hxy, hbx, rfl⟩ := hp_9
        refine V.wd (w' := mB G m (pfS s tx g7 k) s hi sn tx g3 g5 g7 (thA tx g7 (psN tx g7 k)) (cdA tx g7 (psN tx g7 k)) x y g12 g13) (by simp only [List.append_assoc, List.nil_append, List.append_nil]) ?_
        refine V_ifz (tgt := 52) hX dX5_perform_42 (by decide) (fun c_10 => ?_) (fun c_10 => ?_)
        · exact absurd hthO c_10
        · have hxy2 := hxy hthO
          have hkk := th_k hthO
          refine V_aload_n hX dX5_perform_45 1 rfl ?_
          refine V_cV (st := []) (v := .int (jI (dtR (pfS s tx g7 k) (cdA tx g7 (psN tx g7 k)) x y))) (w' := mB G m (dtS (pfS s tx g7 k) (cdA tx g7 (psN tx g7 k)) x y) s hi sn tx g3 g5 g7 (thA tx g7 (psN tx g7 k)) (cdA tx g7 (psN tx g7 k)) x y g12 g13) hX wc_X5_164 (c_X5_doThing l G m (pfS s tx g7 k) s hi sn tx g3 g5 g7 (thA tx g7 (psN tx g7 k)) (cdA tx g7 (psN tx g7 k)) x y g12 g13 99999 hIk (by omega) (by omega) rfl (by omega)) (by decide) (by decide) rfl rfl (Nat.le_of_ble_eq_true rfl) dX5_perform_46 [] ([]) (by simp only [List.append_assoc, List.nil_append, List.append_nil]) 0 rfl rfl (by simp only [List.append_assoc, List.nil_append, List.append_nil]) rfl rfl ?_
          have hde := dtR_e (S := pfS s tx g7 k) (g := cdA tx g7 (psN tx g7 k)) (x := x) (y := y) hthO hxy2.1 hxy2.2.1 hxy2.2.2
          have hpa5 : -5 ≤ pfA s tx g7 k := dtR_b5 hIk _ _ _
          have hpaR : iR (pfA s tx g7 k) := dtR_b hIk _ _ _
          refine V.wd (w' := mB G m (pfS s tx g7 (k + 1)) s hi sn tx g3 g5 g7 (thA tx g7 (psN tx g7 k)) (cdA tx g7 (psN tx g7 k)) x y g12 g13) (mB_c hde.2 rfl rfl rfl rfl rfl rfl rfl rfl rfl rfl rfl rfl rfl) ?_
          refine V.sk (st' := [.int (jI (pfA s tx g7 k))]) (by rw [hde.1]; rfl) ?_
          refine V_goto (tgt := 54) hX dX5_perform_49 (by decide) ?_
          refine V_istore_n (i := 3) (lv' := [(3, .int (jI (pfA s tx g7 k))), (2, .int (jI i)), (0, .ref (m 0))]) hX dX5_perform_54 rfl (by decide) rfl ?_
          refine V_iload_n hX dX5_perform_55 0 rfl ?_
          refine V_bipush hX dX5_perform_56 (by decide) ?_
          refine V_iconst hX dX5_perform_58 ?_
          refine V_cS (st := []) (v := .int (jI (bI ((-4) ≤ (pfA s tx g7 k) ∧ (pfA s tx g7 k) ≤ (-1))))) (w' := mB G m (pfS s tx g7 (k + 1)) s hi sn tx g3 g5 g7 (thA tx g7 (psN tx g7 k)) (cdA tx g7 (psN tx g7 k)) x y g12 g13) hX wc_X5_25 (c_X5_within l G (pfA s tx g7 k) (-4) (-1) (by omega) (by omega) (by omega)) (by decide) (by decide) rfl rfl (Nat.le_of_ble_eq_true rfl) dX5_perform_59 [] (mB G m (pfS s tx g7 (k + 1)) s hi sn tx g3 g5 g7 (thA tx g7 (psN tx g7 k)) (cdA tx g7 (psN tx g7 k)) x y g12 g13) (by simp only [List.append_assoc, List.nil_append, List.append_nil]) (by simp only [List.append_assoc, List.nil_append, List.append_nil]) rfl rfl ?_
          refine V_ifz (tgt := 82) hX dX5_perform_62 (by decide) (fun c_11 => ?_) (fun c_11 => ?_)
          · refine V_iinc (b := i + 1) (lv' := [(2, .int (jI (i + 1))), (3, .int (jI (pfA s tx g7 k))), (0, .ref (m 0))]) hX dX5_perform_82 1 rfl rfl (by decide) rfl ?_
            refine V_aload_n hX dX5_perform_85 2 rfl ?_
            refine V_dup hX dX5_perform_86 rfl ?_
            refine V_get (v := .int (jI (thA tx g7 (psN tx g7 k)))) hX cbX5 8 0 (by decide) wf_X5_132 rfl rfl rfl rfl dX5_perform_87 ?_
            refine V_iconst hX dX5_perform_90 ?_
            refine V_iadd hX dX5_perform_91 rfl ?_
            refine V_put (w' := mB G m (pfS s tx g7 (k + 1)) s hi sn tx g3 g5 g7 ((thA tx g7 (psN tx g7 k)) + 1) (cdA tx g7 (psN tx g7 k)) x y g12 g13) hX cbX5 8 0 (by decide) wf_X5_132 rfl rfl rfl rfl rfl rfl (Nat.le_of_ble_eq_true rfl) dX5_perform_92 rfl ?_
            refine V.wd (w' := mB G m (pfS s tx g7 (k + 1)) s hi sn tx g3 g5 g7 (psN tx g7 (k + 1)) (cdA tx g7 (psN tx g7 k)) x y g12 g13) (mB_c rfl rfl rfl rfl rfl rfl rfl rfl rfl rfl rfl rfl rfl rfl) ?_
            refine V_goto (tgt := 27) hX dX5_perform_95 (by decide) ?_
            refine V.sub [0, 2] rfl ?_
            exact ih (by omega) _ _ _ _ (by omega) (by omega) (by omega) (by rw [hPX, show (rdN tx g7 30 0).toNat - k = ((rdN tx g7 30 0).toNat - k - 1) + 1 by omega, pfX_s, if_neg (by omega)]; congr 1)
          · refine V_aload_n hX dX5_perform_65 2 rfl ?_
            refine V_dV (st := []) (w' := mB G m s s hi sn tx g3 g5 g7 (thA tx g7 (psN tx g7 k)) (cdA tx g7 (psN tx g7 k)) x y g12 g13) hX wc_X5_167 (c_X5_takeBack l G m (pfS s tx g7 (k + 1)) s hi sn tx g3 g5 g7 (thA tx g7 (psN tx g7 k)) (cdA tx g7 (psN tx g7 k)) x y g12 g13 ) (by decide) (by decide) rfl rfl (Nat.le_of_ble_eq_true rfl) dX5_perform_66 [] ([]) (by simp only [List.append_assoc, List.nil_append, List.append_nil]) 0 rfl rfl (by simp only [List.append_assoc, List.nil_append, List.append_nil]) rfl rfl ?_
            refine V_aload_n hX dX5_perform_69 2 rfl ?_
            refine V_iload_n hX dX5_perform_70 1 rfl ?_
            refine V_put (w' := mB G m s s hi sn tx g3 g5 g7 (thA tx g7 (psN tx g7 k)) (cdA tx g7 (psN tx g7 k)) x y i g13) hX cbX5 12 0 (by decide) wf_X5_170 rfl rfl rfl rfl rfl rfl (Nat.le_of_ble_eq_true rfl) dX5_perform_71 rfl ?_
            refine V_aload_n hX dX5_perform_74 2 rfl ?_
            refine V_iload_n hX dX5_perform_75 0 rfl ?_
            refine V_put (w' := mB G m s s hi sn tx g3 g5 g7 (thA tx g7 (psN tx g7 k)) (cdA tx g7 (psN tx g7 k)) x y i (pfA s tx g7 k)) hX cbX5 13 0 (by decide) wf_X5_173 rfl rfl rfl rfl rfl rfl (Nat.le_of_ble_eq_true rfl) dX5_perform_76 rfl ?_
            refine V_bipush hX dX5_perform_79 (by decide) ?_
            have hN1 : pmN s tx g7 = (k : Int) := by unfold pmN; rw [hPX, show (rdN tx g7 30 0).toNat - k = ((rdN tx g7 30 0).toNat - k - 1) + 1 by omega, pfX_s, if_pos (by omega)]
            have hR1 : pmR s tx g7 = -4 := (if_pos hfx).trans (if_neg (by omega))
            have hP1 : pmP s tx g7 := ⟨hfx, by omega⟩
            have hS1 : pmS s tx g7 = s := if_neg (fun z => by have := z.2; omega)
            have hNn : (pmN s tx g7).toNat = k := by omega
            exact V_iret hX hR dX5_perform_81 ⟨_, _, _, _, _, congrArg (fun z => some (Value.int (jI z))) hR1.symm, ⟨by omega, by omega, by omega, by omega⟩, mB_c hS1.symm rfl (by rw [hR1]; exact (if_neg (by omega)).symm) rfl rfl (by rw [hR1]; exact (if_neg (by omega)).symm) rfl rfl rfl rfl rfl rfl (by rw [if_pos hP1, hN1, hik]) (by rw [if_pos hP1, hNn])⟩
    refine V.sub [0, 2] rfl ?_
    exact L27_q_5 0 (Nat.zero_le _) 0 _ _ _ rfl (by omega) (by omega) rfl
  · refine V_bipush hX dX5_perform_11 (by decide) ?_
    refine V_iload_n hX dX5_perform_13 0 rfl ?_
    refine V_isub hX dX5_perform_14 rfl ?_
    have hne : ¬ rdF tx g7 30 0 = -1 := fun z => absurd (by unfold mfR; exact if_pos z : mfR (rdF tx g7 30 0) = -5) (by assumption)
    have hmf : mfR (rdF tx g7 30 0) = rdF tx g7 30 0 := if_neg hne
    have hR1 : pmR s tx g7 = -100 - mfR (rdF tx g7 30 0) := by rw [hmf]; exact if_neg hne
    have hP1 : ¬ pmP s tx g7 := fun z => hne z.1
    have hS1 : pmS s tx g7 = s := if_neg (fun z => hne z.1)
    exact V_iret hX hR dX5_perform_15 ⟨_, _, _, _, _, congrArg (fun z => some (Value.int (jI z))) hR1.symm, ⟨by omega, by omega, by omega, by omega⟩, mB_c hS1.symm rfl (by rw [hR1]; exact (if_neg (by omega)).symm) rfl rfl (by rw [hR1]; exact (if_neg (by omega)).symm) rfl rfl rfl rfl rfl rfl (if_neg hP1).symm (if_neg hP1).symm⟩
