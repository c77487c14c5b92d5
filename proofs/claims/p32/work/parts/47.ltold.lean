/-! what is told of a house, in one number -/
theorem ct_b {s : Nat → Int} (hI : Inv 99999 s) : sumK (fun k => s (ix (k / 4) (5 + k % 4))) 48 = sumK (fun k => crN s k) (s 10).toNat := by
  rw [sum_12 hI (f := fun k => crN s k) (fun k h1 h2 => by
    have z5 := hI.2.2.2 k 5 h1 h2 (by decide)
    have z6 := hI.2.2.2 k 6 h1 h2 (by decide)
    have z7 := hI.2.2.2 k 7 h1 h2 (by decide)
    have z8 := hI.2.2.2 k 8 h1 h2 (by decide)
    show crN s k = 0
    unfold crN
    omega)]
  exact sum_4 s 12
theorem ct_s {s : Nat → Int} (hI : Inv 99999 s) : sumK (fun k => s (ix k 4)) 12 = sumK (fun k => s (ix k 4)) (s 10).toNat :=
  (sum_12 hI (f := fun k => s (ix k 4)) (fun k h1 h2 => hI.2.2.2 k 4 h1 h2 (by decide))).symm
theorem dm_k : ∀ k : Nat, k < 65 → FP.Core.val64 (FP.dmul 4634204016564240384 (dB k)) ≠ .nan := by decide +kernel
theorem dm_sr {s : Nat → Int} (hI : Inv 99999 s) (k : Nat) (hk : k < 12) : vf_n64 (FP.dmul 4634204016564240384 (srR s (k : Int))) := by
  have h1 := hI.sc k hk
  unfold srR
  split
  · exact vf_of64 (dm_k _ (by rw [Int.toNat_natCast]; omega))
  · exact vf_of64 (by decide +kernel)
/-- the first loop: 14 counts -/
def tdA (s : Nat → Int) : Nat → Int64
  | 0 => 271
  | k + 1 => 31 * tdA s k + (jI (ctR s 0 0 (k : Int))).toInt64
/-- the inner one: 11 numbers of scarecrow k -/
def tdB (s : Nat → Int) (k : Nat) (v : Int64) : Nat → Int64
  | 0 => v
  | j + 1 => 31 * tdB s k v j + (jI (tsR2 s (k : Int) (j : Int))).toInt64
/-- the second loop: 12 scarecrows -/
def tdC (s : Nat → Int) : Nat → Int64
  | 0 => tdA s 14
  | k + 1 => 31 * tdB s k (tdC s k) 11 + FP.d2l (FP.dmul 4634204016564240384 (srR s (k : Int))) + (fdR s ((k : Int) / 2) 0).toInt64
theorem tdA_s (s : Nat → Int) (k : Nat) : tdA s (k + 1) = 31 * tdA s k + (jI (ctR s 0 0 (k : Int))).toInt64 := rfl
theorem tdB_s (s : Nat → Int) (k : Nat) (v : Int64) (j : Nat) : tdB s k v (j + 1) = 31 * tdB s k v j + (jI (tsR2 s (k : Int) (j : Int))).toInt64 := rfl
theorem tdC_s (s : Nat → Int) (k : Nat) : tdC s (k + 1) = 31 * tdB s k (tdC s k) 11 + FP.d2l (FP.dmul 4634204016564240384 (srR s (k : Int))) + (fdR s ((k : Int) / 2) 0).toInt64 := rfl
theorem ct_g {s : Nat → Int} {a b c : Int} (h : c < 14) : ctR s a b c = ctR s 0 0 c := by
  unfold ctR
  rw [if_neg (by omega), if_neg (by omega), if_neg (by omega), if_neg (by omega)]

set_option maxHeartbeats 4000000 in
set_option maxRecDepth 100000 in
theorem c_L_told (l : Launch) (G : vC) (o : Nat) (no : Nat → Nat) (be : Nat → Nat) (tr : Nat → Nat) (sn : Nat → Nat) (p : Nat → Nat) (te : Nat → Nat) (b : Nat → Nat) (c : Nat → Nat) (kp : Int) (sN : Int) (sE : Int) (s : Nat → Int) (sb : Nat → Int) (st : Nat → Int) (ss : Nat → Int) (q : Nat → Nat → Nat) (hs : Nat → Nat → Int) (sz : Nat) (ch : Nat → Int) (ki : Nat → Int) (fi : Nat → Int) (se : Nat → Int) (ln : Int) (th : Int) (ps : Int) (W : Nat → Nat) (vf : Nat → Int) (W2 : Nat → Nat) (vf2 : Nat → Int) (hI : Inv 99999 s) (hsz : sz ≤ 4) : Ct l G yL_told cL_told 5 (some .long) ({ frames := 4, cells := 0, slots := 0, locals := 93 } : Room) [.ref (o)] (oH o no be tr sn p te b c kp sN sE ++ (hB G no s ++ (hB G be sb ++ (hB G tr st ++ (hB G sn ss ++ (pW G p q hs sz ++ (sB G te ch ki fi se ln th ps ++ (bB G b true W vf ++ bB G c false W2 vf2)))))))) (fun v u => v = some (Value.long (tdC s 12)) ∧ ∃ W3 vf3, u = oH o no be tr sn p te b c kp sN sE ++ (hB G no s ++ (hB G be sb ++ (hB G tr st ++ (hB G sn ss ++ (pW G p q hs sz ++ (sB G te ch ki fi se ln th ps ++ (bB G b true W3 vf3 ++ bB G c false W2 vf2)))))))) := by
  refine Ct.of (by decide) (Nat.le_of_ble_eq_true rfl) (fun X hX hR => ?_)
  refine V.toLv (lv' := [(0, .ref (o))]) rfl ?_
  have hb := hI.base
  refine V_ldc2l (v := 271) hX dL_told_0 (List.mem_of_getElem? (i := 582) (by decide +kernel)) rfl ?_
  refine V_lstore_n (i := 1) (lv' := [(1, .long (271)), (0, .ref (o))]) hX dL_told_3 rfl (by decide) rfl ?_
  refine V_iconst hX dL_told_4 ?_
  refine V_istore_n (i := 3) (lv' := [(3, .int (jI 0)), (1, .long (271)), (0, .ref (o))]) hX dL_told_5 rfl (by decide) rfl ?_
  have L6_q_1 : ∀ k : Nat, k ≤ 14 → ∀ (i : Int) (v : Int64), (i = (k : Int)) → (v = tdA s k) → V X 0 0 (oH o no be tr sn p te b c kp sN sE ++ (hB G no s ++ (hB G be sb ++ (hB G tr st ++ (hB G sn ss ++ (pW G p q hs sz ++ (sB G te ch ki fi se ln th ps ++ (bB G b true W vf ++ bB G c false W2 vf2)))))))) [(3, .int (jI i)), (1, .long (v)), (0, .ref (o))] 6 [] := by
    refine up_ind (fun k => ∀ (i : Int) (v : Int64), (i = (k : Int)) → (v = tdA s k) → V X 0 0 (oH o no be tr sn p te b c kp sN sE ++ (hB G no s ++ (hB G be sb ++ (hB G tr st ++ (hB G sn ss ++ (pW G p q hs sz ++ (sB G te ch ki fi se ln th ps ++ (bB G b true W vf ++ bB G c false W2 vf2)))))))) [(3, .int (jI i)), (1, .long (v)), (0, .ref (o))] 6 []) (14) ?_
    intro k hk ih i v hi hv
    refine V_iload_n hX dL_told_6 0 rfl ?_
    refine V_bipush hX dL_told_7 (by decide) ?_
    refine V_icmp_ge (tgt := 31) hX dL_told_9 (by decide) (by omega) (by decide) (fun c_2 => ?_) (fun c_2 => ?_)
    · refine V_iconst hX dL_told_31 ?_
      refine V_istore_n (i := 3) (lv' := [(3, .int (jI 0)), (1, .long (v)), (0, .ref (o))]) hX dL_told_32 rfl (by decide) rfl ?_
      have L33_q_3 : ∀ k : Nat, k ≤ 12 → ∀ (i : Int) (v : Int64) (W5 : Nat → Nat) (vf5 : Nat → Int), (i = (k : Int)) → (v = tdC s k) → V X 0 0 (oH o no be tr sn p te b c kp sN sE ++ (hB G no s ++ (hB G be sb ++ (hB G tr st ++ (hB G sn ss ++ (pW G p q hs sz ++ (sB G te ch ki fi se ln th ps ++ (bB G b true W5 vf5 ++ bB G c false W2 vf2)))))))) [(3, .int (jI i)), (1, .long (v)), (0, .ref (o))] 33 [] := by
        refine up_ind (fun k => ∀ (i : Int) (v : Int64) (W5 : Nat → Nat) (vf5 : Nat → Int), (i = (k : Int)) → (v = tdC s k) → V X 0 0 (oH o no be tr sn p te b c kp sN sE ++ (hB G no s ++ (hB G be sb ++ (hB G tr st ++ (hB G sn ss ++ (pW G p q hs sz ++ (sB G te ch ki fi se ln th ps ++ (bB G b true W5 vf5 ++ bB G c false W2 vf2)))))))) [(3, .int (jI i)), (1, .long (v)), (0, .ref (o))] 33 []) (12) ?_
        intro k hkk ihk i v W5 vf5 hi hv
        refine V_iload_n hX dL_told_33 0 rfl ?_
        refine V_bipush hX dL_told_34 (by decide) ?_
        refine V_icmp_ge (tgt := 103) hX dL_told_36 (by decide) (by omega) (by decide) (fun c_4 => ?_) (fun c_4 => ?_)
        · refine V_lload_n hX dL_told_103 1 rfl ?_
          exact V_lret hX hR dL_told_104 ⟨congrArg (fun z => some (Value.long z)) (by rw [hv, show k = 12 by omega]), _, _, rfl⟩
        · refine V_iconst hX dL_told_39 ?_
          refine V_istore (i := 4) (lv' := [(4, .int (jI 0)), (3, .int (jI i)), (1, .long (v)), (0, .ref (o))]) hX dL_told_40 (by decide) rfl ?_
          have L42_q_5 : ∀ j : Nat, j ≤ 11 → ∀ (i2 : Int) (v2 : Int64), (i2 = (j : Int)) → (v2 = tdB s k v j) → V X 0 0 (oH o no be tr sn p te b c kp sN sE ++ (hB G no s ++ (hB G be sb ++ (hB G tr st ++ (hB G sn ss ++ (pW G p q hs sz ++ (sB G te ch ki fi se ln th ps ++ (bB G b true W5 vf5 ++ bB G c false W2 vf2)))))))) [(4, .int (jI i2)), (3, .int (jI i)), (1, .long (v2)), (0, .ref (o))] 42 [] := by
            refine up_ind (fun j => ∀ (i2 : Int) (v2 : Int64), (i2 = (j : Int)) → (v2 = tdB s k v j) → V X 0 0 (oH o no be tr sn p te b c kp sN sE ++ (hB G no s ++ (hB G be sb ++ (hB G tr st ++ (hB G sn ss ++ (pW G p q hs sz ++ (sB G te ch ki fi se ln th ps ++ (bB G b true W5 vf5 ++ bB G c false W2 vf2)))))))) [(4, .int (jI i2)), (3, .int (jI i)), (1, .long (v2)), (0, .ref (o))] 42 []) (11) ?_
            intro j hk ih i2 v2 hi2 hv2
            refine V_iload hX dL_told_42 0 rfl ?_
            refine V_bipush hX dL_told_44 (by decide) ?_
            refine V_icmp_ge (tgt := 70) hX dL_told_46 (by decide) (by omega) (by decide) (fun c_6 => ?_) (fun c_6 => ?_)
            · refine V_ldc2l (v := 31) hX dL_told_70 (List.mem_of_getElem? (i := 583) (by decide +kernel)) rfl ?_
              refine V_lload_n hX dL_told_73 2 rfl ?_
              refine V_lmul hX dL_told_74 ?_
              refine V_ldc2d (v := 4634204016564240384) hX dL_told_75 (List.mem_of_getElem? (i := 569) (by decide +kernel)) rfl ?_
              refine V_aload_n hX dL_told_78 3 rfl ?_
              refine V_iload_n hX dL_told_79 1 rfl ?_
              refine V_cV (st := [.double (4634204016564240384), .long (31 * v2)]) (v := .double (srR s i)) (w' := oH o no be tr sn p te b c kp sN sE ++ (hB G no s ++ (hB G be sb ++ (hB G tr st ++ (hB G sn ss ++ (pW G p q hs sz ++ (sB G te ch ki fi se ln th ps ++ (bB G b true W5 vf5 ++ bB G c false W2 vf2)))))))) hX wc_L_87 (c_X4_straw l G o no be tr sn p te b c kp sN sE s sb st ss q hs sz ch ki fi se ln th ps W5 vf5 W2 vf2 i hI hsz (by omega)) (by decide) (by decide) rfl rfl (Nat.le_of_ble_eq_true rfl) dL_told_80 [] ([]) (by simp only [List.append_assoc, List.nil_append, List.append_nil]) 0 rfl rfl (by simp only [List.append_assoc, List.nil_append, List.append_nil]) rfl rfl ?_
              refine V_dmul (r := FP.dmul 4634204016564240384 (srR s i)) hX dL_told_83 rfl (by rw [hi]; exact dm_sr hI k (by omega)) ?_
              refine V_d2l hX dL_told_84 ?_
              refine V_ladd hX dL_told_85 ?_
              refine V_aload_n hX dL_told_86 3 rfl ?_
              refine V_iload_n hX dL_told_87 1 rfl ?_
              refine V_iconst hX dL_told_88 ?_
              refine V_idiv hX dL_told_89 (by omega) (by omega) (by omega) (by omega) rfl ?_
              refine V_iconst hX dL_told_90 ?_
              refine V_rV (st := [.long ((31 * v2) + (FP.d2l (FP.dmul 4634204016564240384 (srR s i))))]) hX wc_L_96 (c_X4_fieldE l G o no be tr sn p te b c kp sN sE s sb st ss q hs sz ch ki fi se ln th ps W5 vf5 W2 vf2 (i / 2) 0 hI hsz (by omega) (by omega)) (by decide) (by decide) rfl rfl (Nat.le_of_ble_eq_true rfl) dL_told_91 [] ([]) (by simp only [List.append_assoc, List.nil_append, List.append_nil]) 0 rfl rfl (fun v_8 u_7 hp_9 => ?_)
              obtain ⟨rfl, W3_10, vf3_11, rfl⟩ := hp_9
              refine V.wd (w' := oH o no be tr sn p te b c kp sN sE ++ (hB G no s ++ (hB G be sb ++ (hB G tr st ++ (hB G sn ss ++ (pW G p q hs sz ++ (sB G te ch ki fi se ln th ps ++ (bB G b true W3_10 vf3_11 ++ bB G c false W2 vf2)))))))) (by simp only [List.append_assoc, List.nil_append, List.append_nil]) ?_
              refine V_i2l hX dL_told_94 ?_
              refine V_ladd hX dL_told_95 ?_
              refine V_lstore_n (i := 1) (lv' := [(1, .long (((31 * v2) + (FP.d2l (FP.dmul 4634204016564240384 (srR s i)))) + ((fdR s (i / 2) 0).toInt64))), (4, .int (jI i2)), (3, .int (jI i)), (0, .ref (o))]) hX dL_told_96 rfl (by decide) rfl ?_
              refine V_iinc (b := i + 1) (lv' := [(3, .int (jI (i + 1))), (1, .long (((31 * v2) + (FP.d2l (FP.dmul 4634204016564240384 (srR s i)))) + ((fdR s (i / 2) 0).toInt64))), (4, .int (jI i2)), (0, .ref (o))]) hX dL_told_97 2 rfl rfl (by decide) rfl ?_
              refine V_goto (tgt := 33) hX dL_told_100 (by decide) ?_
              refine V.sub [0, 1, 3] rfl ?_
              exact ihk (by omega) _ _ _ _ (by omega) (by rw [tdC_s, ← hi, ← hv, hv2, show j = 11 by omega])
            · refine V_ldc2l (v := 31) hX dL_told_49 (List.mem_of_getElem? (i := 583) (by decide +kernel)) rfl ?_
              refine V_lload_n hX dL_told_52 2 rfl ?_
              refine V_lmul hX dL_told_53 ?_
              refine V_aload_n hX dL_told_54 3 rfl ?_
              refine V_iload_n hX dL_told_55 1 rfl ?_
              refine V_iload hX dL_told_56 0 rfl ?_
              refine V_cV (st := [.long (31 * v2)]) (v := .int (jI (tsR2 s i i2))) (w' := oH o no be tr sn p te b c kp sN sE ++ (hB G no s ++ (hB G be sb ++ (hB G tr st ++ (hB G sn ss ++ (pW G p q hs sz ++ (sB G te ch ki fi se ln th ps ++ (bB G b true W5 vf5 ++ bB G c false W2 vf2)))))))) hX wc_L_93 (c_X4_scarecrow l G o no be tr sn p te b c kp sN sE s sb st ss q hs sz ch ki fi se ln th ps W5 vf5 W2 vf2 i i2 hI hsz (by omega) (by omega)) (by decide) (by decide) rfl rfl (Nat.le_of_ble_eq_true rfl) dL_told_58 [] ([]) (by simp only [List.append_assoc, List.nil_append, List.append_nil]) 0 rfl rfl (by simp only [List.append_assoc, List.nil_append, List.append_nil]) rfl rfl ?_
              refine V_i2l hX dL_told_61 ?_
              refine V_ladd hX dL_told_62 ?_
              refine V_lstore_n (i := 1) (lv' := [(1, .long ((31 * v2) + ((jI (tsR2 s i i2)).toInt64))), (4, .int (jI i2)), (3, .int (jI i)), (0, .ref (o))]) hX dL_told_63 rfl (by decide) rfl ?_
              refine V_iinc (b := i2 + 1) (lv' := [(4, .int (jI (i2 + 1))), (1, .long ((31 * v2) + ((jI (tsR2 s i i2)).toInt64))), (3, .int (jI i)), (0, .ref (o))]) hX dL_told_64 1 rfl rfl (by decide) rfl ?_
              refine V_goto (tgt := 42) hX dL_told_67 (by decide) ?_
              refine V.sub [0, 2, 1, 3] rfl ?_
              exact ih (by omega) _ _ (by omega) (by rw [tdB_s, ← hi, ← hi2, ← hv2])
          refine V.sub [0, 1, 2, 3] rfl ?_
          exact L42_q_5 0 (Nat.zero_le _) 0 _ rfl rfl
      refine V.sub [0, 1, 2] rfl ?_
      exact L33_q_3 0 (Nat.zero_le _) 0 _ _ _ rfl (by rw [hv, show k = 14 by omega]; rfl)
    · refine V_ldc2l (v := 31) hX dL_told_12 (List.mem_of_getElem? (i := 583) (by decide +kernel)) rfl ?_
      refine V_lload_n hX dL_told_15 1 rfl ?_
      refine V_lmul hX dL_told_16 ?_
      refine V_aload_n hX dL_told_17 2 rfl ?_
      refine V_iload_n hX dL_told_18 0 rfl ?_
      refine V_cV (st := [.long (31 * v)]) (v := .int (jI (ctR s (sz : Int) ln i))) (w' := oH o no be tr sn p te b c kp sN sE ++ (hB G no s ++ (hB G be sb ++ (hB G tr st ++ (hB G sn ss ++ (pW G p q hs sz ++ (sB G te ch ki fi se ln th ps ++ (bB G b true W vf ++ bB G c false W2 vf2)))))))) hX wc_L_106 (c_X4_count l G o no be tr sn p te b c kp sN sE s sb st ss q hs sz ch ki fi se ln th ps W vf W2 vf2 i hI hsz (by omega)) (by decide) (by decide) rfl rfl (Nat.le_of_ble_eq_true rfl) dL_told_19 [] ([]) (by simp only [List.append_assoc, List.nil_append, List.append_nil]) 0 rfl rfl (by simp only [List.append_assoc, List.nil_append, List.append_nil]) rfl rfl ?_
      refine V_i2l hX dL_told_22 ?_
      refine V_ladd hX dL_told_23 ?_
      refine V_lstore_n (i := 1) (lv' := [(1, .long ((31 * v) + ((jI (ctR s (sz : Int) ln i)).toInt64))), (3, .int (jI i)), (0, .ref (o))]) hX dL_told_24 rfl (by decide) rfl ?_
      refine V_iinc (b := i + 1) (lv' := [(3, .int (jI (i + 1))), (1, .long ((31 * v) + ((jI (ctR s (sz : Int) ln i)).toInt64))), (0, .ref (o))]) hX dL_told_25 1 rfl rfl (by decide) rfl ?_
      refine V_goto (tgt := 6) hX dL_told_28 (by decide) ?_
      refine V.sub [0, 1, 2] rfl ?_
      exact ih (by omega) _ _ (by omega) (by rw [tdA_s, ← hi, ← hv, ct_g (by omega)])
  refine V.sub [0, 1, 2] rfl ?_
  exact L6_q_1 0 (Nat.zero_le _) 0 _ rfl rfl
