/-! the reference performs a text -/
theorem rd_ok {tx : Nat → Int} {ln : Int} : ∀ (f k : Nat), rdF tx ln f (psN tx ln k) = -1 → 0 ≤ psN tx ln k → ∀ n, n = (rdN tx ln f (psN tx ln k)).toNat → (∀ j, k ≤ j → j < k + n → thO tx ln (psN tx ln j) ∧ psN tx ln j < ln) ∧ ln ≤ psN tx ln (k + n) ∧ 0 ≤ rdN tx ln f (psN tx ln k) := by
  intro f
  induction f with
  | zero =>
    intro k h h0
    exact absurd (show psN tx ln k = -1 from h) (by omega)
  | succ f ih =>
    intro k h h0 n hn
    by_cases q1 : thO tx ln (psN tx ln k)
    · have hl := th_le q1
      by_cases q2 : ln ≤ thA tx ln (psN tx ln k)
      · rw [(rdF_b f q1 q2).2] at hn ⊢
        have e : n = 1 := by omega
        subst e
        refine ⟨fun j h1 h2 => ?_, ?_, by omega⟩
        · have e2 : j = k := by omega
          subst e2
          exact ⟨q1, by omega⟩
        · show ln ≤ thA tx ln (psN tx ln k) + 1
          omega
      · by_cases q3 : chA tx ln (thA tx ln (psN tx ln k)) = 59
        · rw [(rdF_d f q1 q2 q3).1] at h
          rw [(rdF_d f q1 q2 q3).2] at hn ⊢
          have h2 := ih (k + 1) h (by show 0 ≤ thA tx ln (psN tx ln k) + 1; omega) _ rfl
          obtain ⟨a1, a2, a3⟩ := h2
          have a3' : 0 ≤ rdN tx ln f (thA tx ln (psN tx ln k) + 1) := a3
          have e : n = (rdN tx ln f (psN tx ln (k + 1))).toNat + 1 := by
            show n = (rdN tx ln f (thA tx ln (psN tx ln k) + 1)).toNat + 1
            omega
          refine ⟨fun j h1 h2 => ?_, ?_, by omega⟩
          · by_cases e2 : j = k
            · subst e2
              exact ⟨q1, by omega⟩
            · exact a1 j (by omega) (by omega)
          · rw [show k + n = k + 1 + (rdN tx ln f (psN tx ln (k + 1))).toNat by omega]
            exact a2
        · rw [rdF_c f q1 q2 q3] at h
          omega
    · rw [rdF_a f q1] at h
      have := thA_b (tx := tx) (ln := ln) (a := psN tx ln k)
      omega
theorem dtR_e {S tx : Nat → Int} {ln a g x y : Int} (h : thO tx ln a) (hg : g = chA tx ln a) (hx : g ≠ 118 → x = thF tx ln a) (hy : (g = 119 ∨ g = 99 ∨ g = 102) → y = thG tx ln a) : dtR S g x y = dtR S (chA tx ln a) (thF tx ln a) (thG tx ln a) ∧ dtS S g x y = dtS S (chA tx ln a) (thF tx ln a) (thG tx ln a) := by
  subst hg
  unfold dtR dtS
  rcases th_k h with q | q | q | q | q
  · rw [hx (by omega), hy (by omega)]; exact ⟨rfl, rfl⟩
  · rw [hx (by omega), hy (by omega)]; exact ⟨rfl, rfl⟩
  · rw [hx (by omega), hy (by omega)]; exact ⟨rfl, rfl⟩
  · rw [if_neg (by omega), if_neg (by omega), if_pos q, if_neg (by omega), if_neg (by omega), if_pos q, if_neg (by omega), if_neg (by omega), if_pos q, if_neg (by omega), if_neg (by omega), if_pos q]
    exact ⟨rfl, rfl⟩
  · rw [hx (by omega), if_neg (by omega), if_neg (by omega), if_neg (by omega), if_neg (by omega), if_neg (by omega), if_neg (by omega), if_neg (by omega), if_neg (by omega), if_neg (by omega), if_neg (by omega), if_neg (by omega), if_neg (by omega), if_neg (by omega), if_neg (by omega), if_neg (by omega), if_neg (by omega)]
    exact ⟨rfl, rfl⟩
theorem dtR_b5 {s : Nat → Int} (h : Inv 99999 s) (k f g : Int) : -5 ≤ dtR s k f g := by
  have hb := h.base
  have h0 := bsR_b s (pvF s true)
  have h1 := goR_b5 h f
  have h2 : -5 ≤ tcR s f g := by
    unfold tcR crN
    split
    · have h1 := h.sc f.toNat (by omega)
      (repeat' split) <;> omega
    · omega
  have h3 : -5 ≤ stR s f g := by
    unfold stR flN flM
    split
    · have h1 := h.sc f.toNat (by omega)
      (repeat' split) <;> omega
    · omega
  have h4 : -5 ≤ blR s f g := by unfold blR; (repeat' split) <;> omega
  have h5 : -5 ≤ cvR (bsR s (pvF s true)) := by unfold cvR; split <;> omega
  unfold dtR
  (repeat' split) <;> assumption

set_option maxHeartbeats 4000000 in
set_option maxRecDepth 100000 in
theorem c_X5_findFault (l : Launch) (G : vC) (m : Nat → Nat) (s : Nat → Int) (sp : Nat → Int) (hi : Nat → Int) (sn : Nat → Int) (tx : Nat → Int) (g3 : Int) (g5 : Int) (g7 : Int) (g8 : Int) (g9 : Int) (g10 : Int) (g11 : Int) (g12 : Int) (g13 : Int) (hS : SI tx g7) (hx : -5 ≤ g10 ∧ g10 ≤ 99) (hy : -5 ≤ g11 ∧ g11 ≤ 99) : Ct l G yX5_findFault cX5_findFault 1 (some .int) ({ frames := 4, cells := 0, slots := 0, locals := 90 } : Room) [.ref (m 0)] (mB G m s sp hi sn tx g3 g5 g7 g8 g9 g10 g11 g12 g13) (fun v u => ∃ x8 x9 x10 x11 : Int, v = some (Value.int (jI (mfR (rdF tx g7 30 0)))) ∧ (-5 ≤ x10 ∧ x10 ≤ 99 ∧ -5 ≤ x11 ∧ x11 ≤ 99) ∧ u = mB G m s sp hi sn tx g3 g5 g7 x8 x9 x10 x11 g12 g13) := by
  refine Ct.of (by decide) (Nat.le_of_ble_eq_true rfl) (fun X hX hR => ?_)
  refine V.toLv (lv' := [(0, .ref (m 0))]) rfl ?_
  have hln := hS.2
  refine V_aload_n hX dX5_findFault_0 0 rfl ?_
  refine V_iconst hX dX5_findFault_1 ?_
  refine V_put (w' := mB G m s sp hi sn tx g3 g5 g7 0 g9 g10 g11 g12 g13) hX cbX5 8 0 (by decide) wf_X5_132 rfl rfl rfl rfl rfl rfl (Nat.le_of_ble_eq_true rfl) dX5_findFault_2 rfl ?_
  have L5_q_1 : ∀ k : Nat, k ≤ 30 → ∀ (x9 : Int) (x10 : Int) (x11 : Int), (-5 ≤ x10 ∧ x10 ≤ 99) → (-5 ≤ x11 ∧ x11 ≤ 99) → (2 * (k : Int) ≤ psN tx g7 k ∧ psN tx g7 k ≤ g7) → (rdF tx g7 30 0 = rdF tx g7 (30 - k) (psN tx g7 k)) → V X 0 0 (mB G m s sp hi sn tx g3 g5 g7 (psN tx g7 k) x9 x10 x11 g12 g13) [(0, .ref (m 0))] 5 [] := by
    refine up_ind (fun k => ∀ (x9 : Int) (x10 : Int) (x11 : Int), (-5 ≤ x10 ∧ x10 ≤ 99) → (-5 ≤ x11 ∧ x11 ≤ 99) → (2 * (k : Int) ≤ psN tx g7 k ∧ psN tx g7 k ≤ g7) → (rdF tx g7 30 0 = rdF tx g7 (30 - k) (psN tx g7 k)) → V X 0 0 (mB G m s sp hi sn tx g3 g5 g7 (psN tx g7 k) x9 x10 x11 g12 g13) [(0, .ref (m 0))] 5 []) (30) ?_
    intro k hk ih x9 x10 x11 hx10 hx11 hp hF
    have hps : psN tx g7 (k + 1) = thA tx g7 (psN tx g7 k) + 1 := rfl
    have hth : thO tx g7 (psN tx g7 k) → psN tx g7 k < thA tx g7 (psN tx g7 k) ∧ thA tx g7 (psN tx g7 k) ≤ g7 := th_le
    have htb := thA_b (tx := tx) (ln := g7) (a := psN tx g7 k)
    refine V_aload_n hX dX5_findFault_5 0 rfl ?_
    refine V_rV (st := []) hX wc_X5_157 (c_X5_readsThing l G m s sp hi sn tx g3 g5 g7 (psN tx g7 k) x9 x10 x11 g12 g13 hS (by omega) (by omega) (by omega)) (by decide) (by decide) rfl rfl (Nat.le_of_ble_eq_true rfl) dX5_findFault_6 [] ([]) (by simp only [List.append_assoc, List.nil_append, List.append_nil]) 0 rfl rfl (fun v_3 u_2 hp_4 => ?_)
    obtain ⟨x, y, rfl, hxy, hbx, rfl⟩ := hp_4
    refine V.wd (w' := mB G m s sp hi sn tx g3 g5 g7 (thA tx g7 (psN tx g7 k)) (cdA tx g7 (psN tx g7 k)) x y g12 g13) (by simp only [List.append_assoc, List.nil_append, List.append_nil]) ?_
    refine V_ifz (tgt := 40) hX dX5_findFault_9 (by decide) (fun c_5 => ?_) (fun c_5 => ?_)
    · refine V_aload_n hX dX5_findFault_40 0 rfl ?_
      refine V_get (v := .int (jI (thA tx g7 (psN tx g7 k)))) hX cbX5 8 0 (by decide) wf_X5_132 rfl rfl rfl rfl dX5_findFault_41 ?_
      have hrf : rdF tx g7 30 0 = thA tx g7 (psN tx g7 k) := by
        rw [hF]
        rcases (by omega : k < 30 ∨ k = 30) with z | z
        · rw [show 30 - k = (29 - k) + 1 by omega, rdF_a _ (by assumption)]
        · subst z
          show psN tx g7 30 = _
          have hch := cd_ch hS (show 0 ≤ psN tx g7 30 by omega)
          exact (th_x (tx := tx) (ln := g7) (a := psN tx g7 30) (by omega)).2.1.symm
      have hvv : mfR (rdF tx g7 30 0) = thA tx g7 (psN tx g7 k) := (by unfold mfR; rw [hrf]; split <;> omega)
      exact V_iret hX hR dX5_findFault_44 ⟨_, _, _, _, congrArg (fun z => some (Value.int (jI z))) hvv.symm, ⟨by omega, by omega, by omega, by omega⟩, rfl⟩
    · have hth2 := hth (by assumption)
      have hcb := chA_b hS (thA tx g7 (psN tx g7 k))
      refine V_aload_n hX dX5_findFault_12 0 rfl ?_
      refine V_get (v := .int (jI (thA tx g7 (psN tx g7 k)))) hX cbX5 8 0 (by decide) wf_X5_132 rfl rfl rfl rfl dX5_findFault_13 ?_
      refine V_aload_n hX dX5_findFault_16 0 rfl ?_
      refine V_get (v := .int (jI g7)) hX cbX5 7 0 (by decide) wf_X5_129 rfl rfl rfl rfl dX5_findFault_17 ?_
      refine V_icmp_ne (tgt := 26) hX dX5_findFault_20 (by decide) (by omega) (by omega) (fun c_6 => ?_) (fun c_6 => ?_)
      · refine V_aload_n hX dX5_findFault_26 0 rfl ?_
        refine V_bipush hX dX5_findFault_27 (by decide) ?_
        refine V_cV (st := []) (v := .int (jI (bI (chA tx g7 (thA tx g7 (psN tx g7 k)) = 59)))) (w' := mB G m s sp hi sn tx g3 g5 g7 (if chA tx g7 (thA tx g7 (psN tx g7 k)) = 59 then (thA tx g7 (psN tx g7 k)) + 1 else (thA tx g7 (psN tx g7 k))) (cdA tx g7 (psN tx g7 k)) x y g12 g13) hX wc_X5_144 (c_X5_takes l G m s sp hi sn tx g3 g5 g7 (thA tx g7 (psN tx g7 k)) (cdA tx g7 (psN tx g7 k)) x y g12 g13 59 hS (by omega) (by omega)) (by decide) (by decide) rfl rfl (Nat.le_of_ble_eq_true rfl) dX5_findFault_29 [] ([]) (by simp only [List.append_assoc, List.nil_append, List.append_nil]) 0 rfl rfl (by simp only [List.append_assoc, List.nil_append, List.append_nil]) rfl rfl ?_
        refine V_ifnz (tgt := 5) hX dX5_findFault_32 (by decide) (fun c_7 => ?_) (fun c_7 => ?_)
        · refine V.sub [0] rfl ?_
          refine V.wd (w' := mB G m s sp hi sn tx g3 g5 g7 ((thA tx g7 (psN tx g7 k)) + 1) (cdA tx g7 (psN tx g7 k)) x y g12 g13) (mB_c rfl rfl rfl rfl rfl rfl rfl rfl (if_pos (by assumption)) rfl rfl rfl rfl rfl) ?_
          exact ih (by omega) _ _ _ (by omega) (by omega) (by omega) (by rw [hF, show 30 - k = (29 - k) + 1 by omega, (rdF_d _ (by assumption) (by omega) (by assumption)).1, show 30 - (k + 1) = 29 - k by omega, hps])
        · refine V.wd (w' := mB G m s sp hi sn tx g3 g5 g7 (thA tx g7 (psN tx g7 k)) (cdA tx g7 (psN tx g7 k)) x y g12 g13) (mB_c rfl rfl rfl rfl rfl rfl rfl rfl (if_neg (by assumption)) rfl rfl rfl rfl rfl) ?_
          refine V_aload_n hX dX5_findFault_35 0 rfl ?_
          refine V_get (v := .int (jI (thA tx g7 (psN tx g7 k)))) hX cbX5 8 0 (by decide) wf_X5_132 rfl rfl rfl rfl dX5_findFault_36 ?_
          have hrf : rdF tx g7 30 0 = thA tx g7 (psN tx g7 k) := by rw [hF, show 30 - k = (29 - k) + 1 by omega, rdF_c _ (by assumption) (by omega) (by assumption)]
          have hvv : mfR (rdF tx g7 30 0) = thA tx g7 (psN tx g7 k) := (by unfold mfR; rw [hrf]; split <;> omega)
          exact V_iret hX hR dX5_findFault_39 ⟨_, _, _, _, congrArg (fun z => some (Value.int (jI z))) hvv.symm, ⟨by omega, by omega, by omega, by omega⟩, rfl⟩
      · refine V_bipush hX dX5_findFault_23 (by decide) ?_
        have hvv : mfR (rdF tx g7 30 0) = -5 := (by rw [hF, show 30 - k = (29 - k) + 1 by omega, (rdF_b _ (by assumption) (by omega)).1]; rfl)
        exact V_iret hX hR dX5_findFault_25 ⟨_, _, _, _, congrArg (fun z => some (Value.int (jI z))) hvv.symm, ⟨by omega, by omega, by omega, by omega⟩, rfl⟩
  refine V.sub [0] rfl ?_
  exact L5_q_1 0 (Nat.zero_le _) _ _ _ hx hy ⟨Int.le_refl _, hln.1⟩ rfl
