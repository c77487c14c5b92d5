/-! a method that reads the script and writes nothing -/
def CtS (l : Launch) (G : vC) (y : MethodName) (cc : ByteArray) (maxL : Nat) (ret : Option FieldType) (rm : Room) (as : List Value) (bs L : Nat) (xs : Nat → Int32) (post : Option Value → va_W → Prop) : Prop :=
  ∀ sz : Nat, Met l y [Cond.code y cc maxL ret] rm (va_Pc as (fun U => U.heap.size = sz ∧ va_P G.1 vwCl [] U.heap ∧ vK G U ∧ va_D (fun _ => True) [] ∧ va_X bs L xs U U.heap ∧ bs < sz)) (vQ G post (va_A [] sz)) rm.cells rm.slots (va_A [] sz)
theorem CtS.of {l : Launch} {G : vC} {y : MethodName} {cc : ByteArray} {maxL : Nat} {ret : Option FieldType} {rm : Room} {as : List Value} {bs L : Nat} {xs : Nat → Int32} {post : Option Value → va_W → Prop}
    (hy : plainName y.cls = true) (hlen : (lg_sl as).length ≤ maxL)
    (body : ∀ X, VS X l G y cc rm maxL → VR X ret rm post → LawS X bs L xs → V X 0 0 [] (lv_args 0 as) 0 []) : CtS l G y cc maxL ret rm as bs L xs post := by
  intro sz
  refine Met.ofW (cc := cc) (maxL := maxL) (ret := ret) hy rfl ?_
  intro p e s m args below meth c s₁ B hml hv
  obtain ⟨rfl, hsz, hP, hK, hD0, hX1, hbl⟩ := hv
  subst hsz
  have hl := lv_entry as hlen
  rw [lg_entry_eq]
  have hb := body (G, p, l, e, rm, s, m, as.toArray, below, meth, c, va_A [] s.heap.size, MQ below (vQ G post (va_A [] s.heap.size)) as.toArray s rm.cells rm.slots (va_A [] s.heap.size), maxL)
    ⟨p, e, s, m, as.toArray, below, meth, c, _, _, rfl, B.exec, B.bytes, hml, findClass_of_methodNamed B.named, hK, fun q h => Or.inr h, B.notSynchronized, (name_of_methodNamed B.named B.method).1⟩ ⟨B.returns, rfl⟩
    ⟨_, _, _, _, _, _, _, _, _, _, _, _, _, _, rfl, hX1, hbl, fun z => by
      rcases va_A_mem.mp z with z | z
      · simp at z
      · omega⟩
  exact hb s.heap [] _ hP hD0.self va_S.rf hl
theorem CtS.blind {G : vC} {as : List Value} {bs L : Nat} {xs : Nat → Int32} {sz : Nat} : FrameBlind (va_Pc as (fun U => U.heap.size = sz ∧ va_P G.1 vwCl [] U.heap ∧ vK G U ∧ va_D (fun _ => True) [] ∧ va_X bs L xs U U.heap ∧ bs < sz)) := by
  intro a U g mk q
  obtain ⟨q0, q1, qP, qK, qD, qX, qb⟩ := q
  exact ⟨q0, q1, qP, qK.call, qD, va_X.moved (u := U) (U := U.calling g mk a) (State.WarmedH.refl U).alike qX, qb⟩
section LCell
variable {X : vX} {l : Launch} {G : vC} {y : MethodName} {cc : ByteArray} {R : Room} {nL k n pc : Nat} {w : va_W} {lv : List (Nat × Value)} {st : List Value}
theorem V_rSS (hX : VS X l G y cc R nL) {bs L : Nat} {xs : Nat → Int32} (hL : LawS X bs L xs) {i n1 maxL : Nat} {y2 : MethodName} {bytes : ByteArray} {ret : Option FieldType} {rm : Room} {as st0 : List Value} (hw : cw_S y.cls i y2 bytes maxL ret n1) {post : Option Value → va_W → Prop} (hM : CtS l G y2 bytes maxL ret rm as bs L xs post) (hroom : rm.frames + 1 ≤ R.frames ∧ 8 + (maxL + 11) + rm.locals ≤ R.locals) (hcell : k + rm.cells ≤ R.cells ∧ n + rm.slots ≤ R.slots) (hn : as.length = n1) (hst : st0 = as.reverse ++ st) (hcat : (st.map fun v => v.category).sum ≤ 8) (d : decode cc pc = .ok (.invokestatic i, 3))
    (kk : ∀ (v : Option Value) (u : va_W), post v u → V X (k + rm.cells) (n + rm.slots) (w ++ (u ++ [])) lv (pc + 3) (v.toList ++ st)) : V X k n w lv pc st0 := by
  obtain ⟨p0, e0, s0, m0, args0, below0, meth0, c0, A0, Q0, rfl, hx, hb, hml, hown, hK, hA, hlocks, hnm⟩ := hX
  intro H locs ls hP hD hS hl
  obtain ⟨h1, h2, h3, h4, h5, h6⟩ := hw
  obtain ⟨G1, p1, l1, e1, R1, s1, m1, args1, below1, meth1, c1, A1, Q1, nL1, he, hX1, hbl, hbA⟩ := hL
  cases he
  have hwd : w = w ++ ([] ++ []) := by simp
  rw [hwd] at hP hD
  have hpt := fr_part hP hD
  have hF := fr_free hD hS.1 hA
  exact vr_call (va_runS (g := F0 m0 pc ls st0) (Ts := []) (rest := st) ⟨hx, hb, hml, hown, fun _ h => by cases h⟩ (hM H.size) ⟨⟨rfl, rfl, hroom.1, hroom.2, (fun w hw2 a' U hW => by rw [List.mem_singleton.mp hw2]; exact (vK.warm hW hK).use h4 rfl), List.mem_singleton.mpr rfl, hK.use h4 rfl, hK.use h3 rfl, h5, (fun sig h => by rw [h] at h6; exact (Option.some.inj h6).symm), hK.use h1 rfl⟩, hK.use h2 rfl⟩
    ⟨CtS.blind, fun U hU hW => ⟨rfl, by rw [hU], by rw [hU]; exact hpt.1, vK.warm hW hK, hpt.2, va_X.kept (va_X.moved hW.alike hX1) (by rw [hU]; exact hS.2.1 bs hbl hbA), Nat.lt_of_lt_of_le hbl hS.1⟩⟩ rfl hn hl.1 hst (lv_room hcat) d hcell) hS (fun q _ h => hF q h) hF (fun v u H1 locs1 hpo hP1 hD1 hz1 hk1 hS1 => by
    obtain ⟨hP2, hD2⟩ := fr_join hP hD hk1 hF hP1 hD1
    exact kk v u hpo H1 locs1 ls hP2 hD2 hS1 hl)
end LCell
set_option maxRecDepth 100000 in
theorem c_L_cell (l : Launch) (G : vC) (bs L : Nat) (xs : Nat → Int32) (i : Int) (hi : 0 ≤ i ∧ i ≤ 1000) (hL : L ≤ 260) : CtS l G yL_cell cL_cell 2 (some .int) ({ frames := 0, cells := 0, slots := 0, locals := 0 } : Room) [.ref bs, .int (jI i)] bs L xs (fun v u => (∃ r, v = some (.int r)) ∧ u = []) := by
  refine CtS.of (by decide) (Nat.le_of_ble_eq_true rfl) (fun X hX hR hS => ?_)
  refine V.toLv (lv' := [(0, .ref bs), (1, .int (jI i))]) rfl ?_
  refine V_iload_n hX dL_cell_0 1 rfl ?_
  refine V_aload_n hX dL_cell_1 0 rfl ?_
  refine V_slen hX hS dL_cell_2 ?_
  refine V_icmp_ge (tgt := 12) hX dL_cell_3 (by decide) (by omega) (by omega) (fun c_1 => ?_) (fun c_1 => ?_)
  · refine V_ldc (a := 43117) (v := 43117) hX dL_cell_12 (List.mem_of_getElem? (i := 248) (by decide +kernel)) rfl rfl ?_
    refine V_iload_n hX dL_cell_14 1 rfl ?_
    refine V_iconst hX dL_cell_15 ?_
    refine V_iadd hX dL_cell_16 rfl ?_
    refine V_imul hX dL_cell_17 rfl ?_
    refine V_ldc (a := 2873831) (v := 2873831) hX dL_cell_18 (List.mem_of_getElem? (i := 249) (by decide +kernel)) rfl rfl ?_
    refine V_iadd hX dL_cell_20 rfl ?_
    exact V_iret hX hR dL_cell_21 ⟨⟨_, rfl⟩, rfl⟩
  · refine V_aload_n hX dL_cell_6 0 rfl ?_
    refine V_iload_n hX dL_cell_7 1 rfl ?_
    refine V_sld hX hS (by omega) (by omega) (by omega) rfl dL_cell_8 ?_
    refine V_goto (tgt := 21) hX dL_cell_9 (by decide) ?_
    exact V_iret hX hR dL_cell_21 ⟨⟨_, rfl⟩, rfl⟩
/-! an act's answer: its bounds; a refused act changes nothing; what is undone -/
theorem ca_b {s : Nat → Int} (h : IG s) (k x y z : Int) (hr : rgP k x y z) : iR (caR s k x y z) := by
  have hI := h.1
  have hb := hI.base
  unfold rgP at hr
  unfold caR
  split
  · unfold raR; (repeat' split) <;> omega
  · split
    · unfold brR
      split
      · have h1 := hI.sc x.toNat (by omega)
        split <;> omega
      · omega
    · split
      · unfold thR
        split
        · have h1 := hI.sc x.toNat (by omega)
          split <;> omega
        · omega
      · split
        · unfold tcR crN
          split
          · have h1 := hI.sc x.toNat (by omega)
            (repeat' split) <;> omega
          · omega
        · split
          · unfold soR crN
            split
            · have h1 := hI.sc x.toNat (by omega)
              (repeat' split) <;> omega
            · omega
          · split
            · unfold stR flN flM
              split
              · have h1 := hI.sc x.toNat (by omega)
                (repeat' split) <;> omega
              · omega
            · split
              · unfold gsR
                split
                · have h1 := hI.se x.toNat (by omega)
                  (repeat' split) <;> omega
                · omega
              · split
                · unfold blR; (repeat' split) <;> omega
                · split
                  · unfold adR
                    split
                    · have hc01 : s x.toNat = s 0 ∨ s x.toNat = s 1 := by rcases (by omega : x.toNat = 0 ∨ x.toNat = 1) with q | q <;> rw [q] <;> simp
                      (repeat' split) <;> omega
                    · omega
                  · split
                    · have := bsR_b s (pvF s true)
                      unfold cvR; split <;> omega
                    · exact goR_b hI z
theorem tsR_nn (s : Nat → Int) : ∀ j, 0 ≤ tsR s j := by
  intro j
  induction j with
  | zero => exact Int.le_refl _
  | succ j ih =>
    have h1 := (twR_b (tsS s j) (tsS s j 10).toNat).1
    show 0 ≤ tsR s j + tkR (tsS s j)
    unfold tkR
    omega
theorem ca_neg {s : Nat → Int} (h : IG s) (k x y z : Int) (hr : rgP k x y z) (hn : caR s k x y z < 0) : caS s k x y z = s := by
  have hI := h.1
  have hb := hI.base
  unfold rgP at hr
  unfold caR at hn
  unfold caS
  by_cases k0 : k = 0
  · rw [if_pos k0] at hn ⊢
    unfold raR at hn
    unfold raS
    rw [if_neg]
    intro q
    rw [if_pos (by omega), if_pos (by omega), if_neg (by omega)] at hn
    omega
  · rw [if_neg k0] at hn ⊢
    by_cases k1 : k = 1
    · rw [if_pos k1] at hn ⊢
      unfold brR at hn
      unfold brS
      split
      · have h1 := hI.sc x.toNat (by omega)
        rw [if_pos (by omega)] at hn
        split at hn
        · exact up_same (by omega)
        · omega
      · rfl
    · rw [if_neg k1] at hn ⊢
      by_cases k2 : k = 2
      · rw [if_pos k2] at hn ⊢
        unfold thR at hn
        unfold thS
        split
        · have h1 := hI.sc x.toNat (by omega)
          rw [if_pos (by omega)] at hn
          split at hn
          · exact up_same (by omega)
          · omega
        · rfl
      · rw [if_neg k2] at hn ⊢
        by_cases k3 : k = 3
        · rw [if_pos k3] at hn ⊢
          unfold tcR at hn
          unfold tcS
          rw [if_neg]
          intro q
          have h1 := hI.sc x.toNat (by omega)
          have hc : crN s x.toNat = s (ix x.toNat 5) + s (ix x.toNat 6) + s (ix x.toNat 7) + s (ix x.toNat 8) := rfl
          rw [if_pos (by omega), if_neg (by omega), if_neg (by omega)] at hn
          omega
        · rw [if_neg k3] at hn ⊢
          by_cases k4 : k = 4
          · rw [if_pos k4] at hn ⊢
            unfold soR at hn
            unfold soS
            split
            · have h1 := hI.sc x.toNat (by omega)
              have hc : crN s x.toNat = s (ix x.toNat 5) + s (ix x.toNat 6) + s (ix x.toNat 7) + s (ix x.toNat 8) := rfl
              rw [if_pos (by omega)] at hn
              split at hn
              · exact fly_same (by omega) (by omega) (by omega) (by omega)
              · omega
            · rfl
          · rw [if_neg k4] at hn ⊢
            by_cases k5 : k = 5
            · rw [if_pos k5] at hn ⊢
              unfold stR at hn
              unfold stS
              split
              · have h1 := hI.sc x.toNat (by omega)
                have hfn : 0 ≤ flN s x.toNat z := by unfold flN flM; (repeat' split) <;> omega
                rw [if_pos (by omega), if_pos (by omega)] at hn
                split at hn
                · exact st_same (by omega)
                · omega
              · rfl
            · rw [if_neg k5] at hn ⊢
              by_cases k6 : k = 6
              · rw [if_pos k6] at hn ⊢
                unfold gsR at hn
                unfold gsS
                split
                · have h1 := hI.se x.toNat (by omega)
                  rw [if_pos (by omega), if_pos (by omega)] at hn
                  split at hn
                  · exact up_same (by omega)
                  · omega
                · rfl
              · rw [if_neg k6] at hn ⊢
                by_cases k7 : k = 7
                · rw [if_pos k7] at hn ⊢
                  unfold blR at hn
                  unfold blS
                  split
                  · rw [if_pos (by omega), if_pos (by omega)] at hn
                    split at hn
                    · rw [up_same (s := s) (j := 3) (by omega)]
                      exact up_same (by omega)
                    · omega
                  · rfl
                · rw [if_neg k7] at hn ⊢
                  by_cases k8 : k = 8
                  · rw [if_pos k8] at hn ⊢
                    have hc01 : s x.toNat = s 0 ∨ s x.toNat = s 1 := by rcases (by omega : x.toNat = 0 ∨ x.toNat = 1) with q | q <;> rw [q] <;> simp
                    have hm : 0 ≤ z ∧ z ≤ (if x = 0 then 50 else 8) := by split <;> omega
                    unfold adR at hn
                    unfold adS
                    rw [if_pos (by omega), if_pos hm] at hn
                    split at hn
                    · (repeat' split) <;> first | exact up_same (by omega) | rfl
                    · omega
                  · rw [if_neg k8] at hn ⊢
                    by_cases k9 : k = 9
                    · rw [if_pos k9] at hn ⊢
                      unfold cvR at hn
                      unfold cvS
                      split
                      · rw [if_pos (by assumption)] at hn
                        omega
                      · rfl
                    · rw [if_neg k9] at hn ⊢
                      unfold goR at hn
                      unfold goS
                      split
                      · rw [if_pos (by omega), if_neg (by omega)] at hn
                        have := tsR_nn s z.toNat
                        omega
                      · rfl
theorem un_z {sz : Nat} {r : Int} (h : 0 ≤ r) (hz : sz ≤ 4) : 1 ≤ rcZ sz r ∧ rcZ sz r ≤ 4 := by
  unfold rcZ
  rw [if_pos h]
  split <;> omega
theorem un_h {hs : Nat → Nat → Int} {s s' : Nat → Int} {sz : Nat} {r : Int} (h : 0 ≤ r) (hz : sz ≤ 4) : (if rcZ sz r = 0 then s' else rcH hs sz s r (rcZ sz r - 1)) = s := by
  have h1 := un_z h hz
  rw [if_neg (by omega)]
  unfold rcH rcZ pushH
  rw [if_pos h, if_pos h]
  by_cases q : sz = 4
  · rw [if_pos q, if_pos q]
    exact if_pos rfl
  · rw [if_neg q, if_neg q]
    exact if_pos (by omega)
