/-! the law's methods, first half -/
set_option maxHeartbeats 4000000 in
set_option maxRecDepth 100000 in
theorem c_L_low (l : Launch) (G : vC) (v : Int32) (n : Int) (hn : 0 < n ∧ n ≤ 1000) : Fn l G yL_low cL_low 2 (some .int) ({ frames := 0, cells := 0, slots := 0, locals := 0 } : Room) [.int (v), .int (jI n)] ([]) (some (.int (jI (loN v % n)))) ([]) := by
  refine Ct.of (by decide) (Nat.le_of_ble_eq_true rfl) (fun X hX hR => ?_)
  refine V.toLv (lv' := [(0, .int (v)), (1, .int (jI n))]) rfl ?_
  have hlo := loN_b v
  refine V_iload_n hX dL_low_0 0 rfl ?_
  refine V_ldc (a := 2147483647) (v := 2147483647) hX dL_low_1 (List.mem_of_getElem? (i := 253) (by decide +kernel)) rfl rfl ?_
  refine V_iand hX dL_low_3 ?_
  refine V.sk (st' := [.int (jI (loN v))]) (congrArg (fun z => [Value.int z]) (loN_j v)) ?_
  refine V_iload_n hX dL_low_4 1 rfl ?_
  refine V_irem hX dL_low_5 (by omega) (by omega) (by omega) (by omega) rfl ?_
  exact V_iret hX hR dL_low_6 ⟨(congrArg (fun z => some (Value.int (jI z))) (by first | rfl | ((repeat' split) <;> first | rfl | omega | exact (up_same (by omega)).symm | exact up_same (by omega)))), rfl⟩

set_option maxHeartbeats 4000000 in
set_option maxRecDepth 100000 in
theorem c_L_crows (l : Launch) (G : vC) (d : Nat → Nat) (s : Nat → Int) (k : Nat) (hk : k < 12) : Fn l G yL_crows cL_crows 2 (some .int) ({ frames := 0, cells := 0, slots := 0, locals := 0 } : Room) [.int (jI ((k : Int))), .ref (d 2)] (lB G d s) (some (.int (jI (crN s k)))) (lB G d s) := by
  refine Ct.of (by decide) (Nat.le_of_ble_eq_true rfl) (fun X hX hR => ?_)
  refine V.toLv (lv' := [(0, .int (jI ((k : Int)))), (1, .ref (d 2))]) rfl ?_
  refine V_aload_n hX dL_crows_0 1 rfl ?_
  refine V_iconst hX dL_crows_1 ?_
  refine V_iload_n hX dL_crows_2 0 rfl ?_
  refine V_imul hX dL_crows_3 rfl ?_
  refine V_iald (i0 := 4 * k + 0) (r := (jI (s (ix k 5)))) hX 2 rfl (by omega) (by omega) (by omega) (by omega) (by show jI (s (ix ((4 * k + 0) / 4) (5 + (4 * k + 0) % 4))) = jI (s (ix k 5)); rw [show ix ((4 * k + 0) / 4) (5 + (4 * k + 0) % 4) = ix k 5 by unfold ix; omega]) dL_crows_4 ?_
  refine V_aload_n hX dL_crows_5 1 rfl ?_
  refine V_iconst hX dL_crows_6 ?_
  refine V_iload_n hX dL_crows_7 0 rfl ?_
  refine V_imul hX dL_crows_8 rfl ?_
  refine V_iconst hX dL_crows_9 ?_
  refine V_iadd hX dL_crows_10 rfl ?_
  refine V_iald (i0 := 4 * k + 1) (r := (jI (s (ix k 6)))) hX 2 rfl (by omega) (by omega) (by omega) (by omega) (by show jI (s (ix ((4 * k + 1) / 4) (5 + (4 * k + 1) % 4))) = jI (s (ix k 6)); rw [show ix ((4 * k + 1) / 4) (5 + (4 * k + 1) % 4) = ix k 6 by unfold ix; omega]) dL_crows_11 ?_
  refine V_iadd hX dL_crows_12 rfl ?_
  refine V_aload_n hX dL_crows_13 1 rfl ?_
  refine V_iconst hX dL_crows_14 ?_
  refine V_iload_n hX dL_crows_15 0 rfl ?_
  refine V_imul hX dL_crows_16 rfl ?_
  refine V_iconst hX dL_crows_17 ?_
  refine V_iadd hX dL_crows_18 rfl ?_
  refine V_iald (i0 := 4 * k + 2) (r := (jI (s (ix k 7)))) hX 2 rfl (by omega) (by omega) (by omega) (by omega) (by show jI (s (ix ((4 * k + 2) / 4) (5 + (4 * k + 2) % 4))) = jI (s (ix k 7)); rw [show ix ((4 * k + 2) / 4) (5 + (4 * k + 2) % 4) = ix k 7 by unfold ix; omega]) dL_crows_19 ?_
  refine V_iadd hX dL_crows_20 rfl ?_
  refine V_aload_n hX dL_crows_21 1 rfl ?_
  refine V_iconst hX dL_crows_22 ?_
  refine V_iload_n hX dL_crows_23 0 rfl ?_
  refine V_imul hX dL_crows_24 rfl ?_
  refine V_iconst hX dL_crows_25 ?_
  refine V_iadd hX dL_crows_26 rfl ?_
  refine V_iald (i0 := 4 * k + 3) (r := (jI (s (ix k 8)))) hX 2 rfl (by omega) (by omega) (by omega) (by omega) (by show jI (s (ix ((4 * k + 3) / 4) (5 + (4 * k + 3) % 4))) = jI (s (ix k 8)); rw [show ix ((4 * k + 3) / 4) (5 + (4 * k + 3) % 4) = ix k 8 by unfold ix; omega]) dL_crows_27 ?_
  refine V_iadd hX dL_crows_28 rfl ?_
  exact V_iret hX hR dL_crows_29 ⟨(congrArg (fun z => some (Value.int (jI z))) (by first | rfl | ((try unfold crN); (repeat' split) <;> first | rfl | omega | exact (up_same (by omega)).symm | exact up_same (by omega)))), rfl⟩

set_option maxHeartbeats 4000000 in
set_option maxRecDepth 100000 in
theorem c_L_weighs (l : Launch) (G : vC) (d : Nat → Nat) (s : Nat → Int) (f : Int) (w : Nat) (lb : Bool) (e : Int) (t : Int) (hI : Inv t s) (hf : iR f) (hw : w < 4) (he : e = byI s lb) : Fn l G yL_weighs cL_weighs 9 (some .float) ({ frames := 0, cells := 0, slots := 0, locals := 0 } : Room) [.int (jI f), .int (jI ((w : Int))), .int (jI e), .ref (d 0), .ref (d 1), .ref (d 2)] (lB G d s) (some (.float (fB (wF s lb f (s 10).toNat w)))) (lB G d s) := by
  refine Ct.of (by decide) (Nat.le_of_ble_eq_true rfl) (fun X hX hR => ?_)
  refine V.toLv (lv' := [(0, .int (jI f)), (1, .int (jI ((w : Int)))), (2, .int (jI e)), (3, .ref (d 0)), (4, .ref (d 1)), (5, .ref (d 2))]) rfl ?_
  have hb := hI.base
  obtain ⟨N, hN⟩ : ∃ N : Nat, s 10 = (N : Int) := ⟨(s 10).toNat, by omega⟩
  have heb := byI_b hI lb
  rw [← he] at heb
  refine V_fconst0 hX dL_weighs_0 ?_
  refine V_fstore (i := 6) (lv' := [(6, .float (FP.fconst0)), (0, .int (jI f)), (1, .int (jI ((w : Int)))), (2, .int (jI e)), (3, .ref (d 0)), (4, .ref (d 1)), (5, .ref (d 2))]) hX dL_weighs_1 (by decide) rfl ?_
  refine V.toLv (lv' := [(6, .float (fB 0)), (0, .int (jI f)), (1, .int (jI ((w : Int)))), (2, .int (jI e)), (3, .ref (d 0)), (4, .ref (d 1)), (5, .ref (d 2))]) (by rw [fB_0]) ?_
  refine V_iconst hX dL_weighs_3 ?_
  refine V_istore (i := 7) (lv' := [(7, .int (jI 0)), (6, .float (fB 0)), (0, .int (jI f)), (1, .int (jI ((w : Int)))), (2, .int (jI e)), (3, .ref (d 0)), (4, .ref (d 1)), (5, .ref (d 2))]) hX dL_weighs_4 (by decide) rfl ?_
  have L6_q_1 : ∀ k : Nat, k ≤ N → ∀ (i : Int) (m : Nat), (i = (k : Int)) → (m = wtN s lb f w k) → V X 0 0 (lB G d s) [(7, .int (jI i)), (6, .float (fB m)), (0, .int (jI f)), (1, .int (jI ((w : Int)))), (2, .int (jI e)), (3, .ref (d 0)), (4, .ref (d 1)), (5, .ref (d 2))] 6 [] := by
    refine up_ind (fun k => ∀ (i : Int) (m : Nat), (i = (k : Int)) → (m = wtN s lb f w k) → V X 0 0 (lB G d s) [(7, .int (jI i)), (6, .float (fB m)), (0, .int (jI f)), (1, .int (jI ((w : Int)))), (2, .int (jI e)), (3, .ref (d 0)), (4, .ref (d 1)), (5, .ref (d 2))] 6 []) (N) ?_
    intro k hk ih i m hi hm
    have hwb := wtN_b hI lb f w k hw (by omega)
    have hwl := fun hk12 hf0 => wt_law hI (f := f) (k := k) he hw hk12 hf0
    have hw0 := fun hf0 => wt_law0 (s := s) (lb := lb) (f := f) (w := w) (k := k) hf0
    refine V_iload hX dL_weighs_6 0 rfl ?_
    refine V_aload_n hX dL_weighs_8 5 rfl ?_
    refine V_bipush hX dL_weighs_9 (by decide) ?_
    refine V_iald (i0 := 10) (r := (jI (s 10))) hX 0 rfl (by decide) (by decide) (by decide) rfl (by show (if 10 < 17 then jI (s (10)) else 0) = jI (s 10); rw [if_pos (by omega)]) dL_weighs_11 ?_
    refine V_icmp_ge (tgt := 102) hX dL_weighs_12 (by decide) (by omega) (by omega) (fun c_2 => ?_) (fun c_2 => ?_)
    · refine V_fload hX dL_weighs_102 1 rfl ?_
      exact V_fret hX hR dL_weighs_104 ⟨(by rw [hm, show k = (s 10).toNat by omega]; first | done | rfl), rfl⟩
    · refine V_aload hX dL_weighs_15 6 rfl ?_
      have hs := hI.sc k (by omega)
      refine V_iconst hX dL_weighs_17 ?_
      refine V_iload hX dL_weighs_18 0 rfl ?_
      refine V_imul hX dL_weighs_20 rfl ?_
      refine V_iald (i0 := 5 * k + 0) (r := (jI (s (ix k 0)))) hX 1 rfl (by omega) (by omega) (by omega) (by omega) (by show jI (s (ix ((5 * k + 0) / 5) ((5 * k + 0) % 5))) = jI (s (ix k 0)); rw [show ix ((5 * k + 0) / 5) ((5 * k + 0) % 5) = ix k 0 by unfold ix; omega]) dL_weighs_21 ?_
      refine V_iload_n hX dL_weighs_22 2 rfl ?_
      refine V_icmp_ne (tgt := 96) hX dL_weighs_23 (by decide) (by omega) (by omega) (fun c_3 => ?_) (fun c_3 => ?_)
      · refine V_iinc (b := i + 1) (lv' := [(7, .int (jI (i + 1))), (6, .float (fB m)), (0, .int (jI f)), (1, .int (jI ((w : Int)))), (2, .int (jI e)), (3, .ref (d 0)), (4, .ref (d 1)), (5, .ref (d 2))]) hX dL_weighs_96 0 rfl rfl (by decide) rfl ?_
        refine V_goto (tgt := 6) hX dL_weighs_99 (by decide) ?_
        refine V.sub [0, 1, 2, 3, 4, 5, 6, 7] rfl ?_
        exact ih (by omega) _ _ (by omega) (by first | (rw [hw0 (by assumption)]; exact hm) | (rw [hwl (by omega) (by assumption)]; subst hm; split <;> omega))
      · refine V_aload hX dL_weighs_26 6 rfl ?_
        have hst := (wa_b hI lb f w k hw (by omega)).2.2
        refine V_iconst hX dL_weighs_28 ?_
        refine V_iload hX dL_weighs_29 0 rfl ?_
        refine V_imul hX dL_weighs_31 rfl ?_
        refine V_iconst hX dL_weighs_32 ?_
        refine V_iadd hX dL_weighs_33 rfl ?_
        refine V_iald (i0 := 5 * k + 4) (r := (jI (s (ix k 4)))) hX 1 rfl (by omega) (by omega) (by omega) (by omega) (by show jI (s (ix ((5 * k + 4) / 5) ((5 * k + 4) % 5))) = jI (s (ix k 4)); rw [show ix ((5 * k + 4) / 5) ((5 * k + 4) % 5) = ix k 4 by unfold ix; omega]) dL_weighs_34 ?_
        refine V_i2f hX dL_weighs_35 rfl ?_
        refine V_ldcf (v := 1115684864) hX dL_weighs_36 (List.mem_of_getElem? (i := 475) (by decide +kernel)) rfl ?_
        refine V_fdiv (r := fB (s (ix k 4)).toNat) hX dL_weighs_38 (by rw [show (s (ix k 4) : Int) = (((s (ix k 4)).toNat : Nat) : Int) by omega]; exact fB_straw _ (by omega)) (fB_vf (by omega)) ?_
        refine V_fstore (i := 8) (lv' := [(8, .float (fB (s (ix k 4)).toNat)), (7, .int (jI i)), (6, .float (fB m)), (0, .int (jI f)), (1, .int (jI ((w : Int)))), (2, .int (jI e)), (3, .ref (d 0)), (4, .ref (d 1)), (5, .ref (d 2))]) hX dL_weighs_39 (by decide) rfl ?_
        refine V_fload hX dL_weighs_41 2 rfl ?_
        refine V_aload hX dL_weighs_43 7 rfl ?_
        refine V_iconst hX dL_weighs_45 ?_
        refine V_iload hX dL_weighs_46 1 rfl ?_
        refine V_imul hX dL_weighs_48 rfl ?_
        refine V_iconst hX dL_weighs_49 ?_
        refine V_iadd hX dL_weighs_50 rfl ?_
        refine V_iald (i0 := 5 * k + 3) (r := (jI (s (ix k 3)))) hX 1 rfl (by omega) (by omega) (by omega) (by omega) (by show jI (s (ix ((5 * k + 3) / 5) ((5 * k + 3) % 5))) = jI (s (ix k 3)); rw [show ix ((5 * k + 3) / 5) ((5 * k + 3) % 5) = ix k 3 by unfold ix; omega]) dL_weighs_51 ?_
        refine V_iload_n hX dL_weighs_52 4 rfl ?_
        refine V_icmp_ne (tgt := 72) hX dL_weighs_53 (by decide) (by omega) (by omega) (fun c_4 => ?_) (fun c_4 => ?_)
        · refine V_fconst0 hX dL_weighs_72 ?_
          refine V_fadd (r := fB (m + 0)) hX dL_weighs_73 (by rw [fB_0]; exact fB_add (by omega)) (fB_vf (by omega)) ?_
          refine V_fstore (i := 6) (lv' := [(6, .float (fB (m + 0))), (8, .float (fB (s (ix k 4)).toNat)), (7, .int (jI i)), (0, .int (jI f)), (1, .int (jI ((w : Int)))), (2, .int (jI e)), (3, .ref (d 0)), (4, .ref (d 1)), (5, .ref (d 2))]) hX dL_weighs_74 (by decide) rfl ?_
          refine V_fload hX dL_weighs_76 0 rfl ?_
          refine V_aload hX dL_weighs_78 8 rfl ?_
          refine V_iconst hX dL_weighs_80 ?_
          refine V_iload hX dL_weighs_81 2 rfl ?_
          refine V_imul hX dL_weighs_83 rfl ?_
          refine V_iload_n hX dL_weighs_84 4 rfl ?_
          refine V_iadd hX dL_weighs_85 rfl ?_
          refine V_iald (i0 := 4 * k + w) (r := (jI (s (ix k (5 + w))))) hX 2 rfl (by omega) (by omega) (by omega) (by omega) (by show jI (s (ix ((4 * k + w) / 4) (5 + (4 * k + w) % 4))) = jI (s (ix k (5 + w))); rw [show ix ((4 * k + w) / 4) (5 + (4 * k + w) % 4) = ix k (5 + w) by unfold ix; omega]) dL_weighs_86 ?_
          refine V_iload_n hX dL_weighs_87 5 rfl ?_
          refine V_imul hX dL_weighs_88 rfl ?_
          have hll := lob_law hI (w := w) (k := k) he hw (by omega)
          have hln := hll.1
          have hl72 := hll.2
          refine V_i2f hX dL_weighs_89 rfl ?_
          refine V_ldcf (v := 1098907648) hX dL_weighs_90 (List.mem_of_getElem? (i := 476) (by decide +kernel)) rfl ?_
          refine V_fdiv (r := fB (4 * ((s (ix k (5 + w))).toNat * e.toNat))) hX dL_weighs_92 (by rw [show ((s (ix k (5 + w))) * e : Int) = (((s (ix k (5 + w))).toNat * e.toNat : Nat) : Int) by exact hln]; exact fB_lob _ (by omega)) (fB_vf (by omega)) ?_
          refine V_fadd (r := fB (m + 0 + (4 * ((s (ix k (5 + w))).toNat * e.toNat)))) hX dL_weighs_93 (fB_add (by omega)) (fB_vf (by omega)) ?_
          refine V_fstore (i := 6) (lv' := [(6, .float (fB (m + 0 + (4 * ((s (ix k (5 + w))).toNat * e.toNat))))), (8, .float (fB (s (ix k 4)).toNat)), (7, .int (jI i)), (0, .int (jI f)), (1, .int (jI ((w : Int)))), (2, .int (jI e)), (3, .ref (d 0)), (4, .ref (d 1)), (5, .ref (d 2))]) hX dL_weighs_94 (by decide) rfl ?_
          refine V_iinc (b := i + 1) (lv' := [(7, .int (jI (i + 1))), (6, .float (fB (m + 0 + (4 * ((s (ix k (5 + w))).toNat * e.toNat))))), (8, .float (fB (s (ix k 4)).toNat)), (0, .int (jI f)), (1, .int (jI ((w : Int)))), (2, .int (jI e)), (3, .ref (d 0)), (4, .ref (d 1)), (5, .ref (d 2))]) hX dL_weighs_96 2 rfl rfl (by decide) rfl ?_
          refine V_goto (tgt := 6) hX dL_weighs_99 (by decide) ?_
          refine V.sub [0, 1, 3, 4, 5, 6, 7, 8] rfl ?_
          exact ih (by omega) _ _ (by omega) (by first | (rw [hw0 (by assumption)]; exact hm) | (rw [hwl (by omega) (by assumption)]; subst hm; split <;> omega))
        · refine V_fload hX dL_weighs_56 0 rfl ?_
          refine V_aload hX dL_weighs_58 7 rfl ?_
          refine V_iconst hX dL_weighs_60 ?_
          refine V_iload hX dL_weighs_61 1 rfl ?_
          refine V_imul hX dL_weighs_63 rfl ?_
          refine V_iconst hX dL_weighs_64 ?_
          refine V_iadd hX dL_weighs_65 rfl ?_
          refine V_iald (i0 := 5 * k + 1) (r := (jI (s (ix k 1)))) hX 1 rfl (by omega) (by omega) (by omega) (by omega) (by show jI (s (ix ((5 * k + 1) / 5) ((5 * k + 1) % 5))) = jI (s (ix k 1)); rw [show ix ((5 * k + 1) / 5) ((5 * k + 1) % 5) = ix k 1 by unfold ix; omega]) dL_weighs_66 ?_
          refine V_i2f hX dL_weighs_67 rfl ?_
          refine V_fmul (r := fB (((s (ix k 4)).toNat) * (s (ix k 1)).toNat)) hX dL_weighs_68 (by rw [show (s (ix k 1) : Int) = (((s (ix k 1)).toNat : Nat) : Int) by omega]; exact fB_mul _ (by omega) _ (by omega)) (fB_vf (by omega)) ?_
          refine V_goto (tgt := 73) hX dL_weighs_69 (by decide) ?_
          refine V_fadd (r := fB (m + (((s (ix k 4)).toNat) * (s (ix k 1)).toNat))) hX dL_weighs_73 (fB_add (by omega)) (fB_vf (by omega)) ?_
          refine V_fstore (i := 6) (lv' := [(6, .float (fB (m + (((s (ix k 4)).toNat) * (s (ix k 1)).toNat)))), (8, .float (fB (s (ix k 4)).toNat)), (7, .int (jI i)), (0, .int (jI f)), (1, .int (jI ((w : Int)))), (2, .int (jI e)), (3, .ref (d 0)), (4, .ref (d 1)), (5, .ref (d 2))]) hX dL_weighs_74 (by decide) rfl ?_
          refine V_fload hX dL_weighs_76 0 rfl ?_
          refine V_aload hX dL_weighs_78 8 rfl ?_
          refine V_iconst hX dL_weighs_80 ?_
          refine V_iload hX dL_weighs_81 2 rfl ?_
          refine V_imul hX dL_weighs_83 rfl ?_
          refine V_iload_n hX dL_weighs_84 4 rfl ?_
          refine V_iadd hX dL_weighs_85 rfl ?_
          refine V_iald (i0 := 4 * k + w) (r := (jI (s (ix k (5 + w))))) hX 2 rfl (by omega) (by omega) (by omega) (by omega) (by show jI (s (ix ((4 * k + w) / 4) (5 + (4 * k + w) % 4))) = jI (s (ix k (5 + w))); rw [show ix ((4 * k + w) / 4) (5 + (4 * k + w) % 4) = ix k (5 + w) by unfold ix; omega]) dL_weighs_86 ?_
          refine V_iload_n hX dL_weighs_87 5 rfl ?_
          refine V_imul hX dL_weighs_88 rfl ?_
          have hll := lob_law hI (w := w) (k := k) he hw (by omega)
          have hln := hll.1
          have hl72 := hll.2
          refine V_i2f hX dL_weighs_89 rfl ?_
          refine V_ldcf (v := 1098907648) hX dL_weighs_90 (List.mem_of_getElem? (i := 476) (by decide +kernel)) rfl ?_
          refine V_fdiv (r := fB (4 * ((s (ix k (5 + w))).toNat * e.toNat))) hX dL_weighs_92 (by rw [show ((s (ix k (5 + w))) * e : Int) = (((s (ix k (5 + w))).toNat * e.toNat : Nat) : Int) by exact hln]; exact fB_lob _ (by omega)) (fB_vf (by omega)) ?_
          refine V_fadd (r := fB (m + (((s (ix k 4)).toNat) * (s (ix k 1)).toNat) + (4 * ((s (ix k (5 + w))).toNat * e.toNat)))) hX dL_weighs_93 (fB_add (by omega)) (fB_vf (by omega)) ?_
          refine V_fstore (i := 6) (lv' := [(6, .float (fB (m + (((s (ix k 4)).toNat) * (s (ix k 1)).toNat) + (4 * ((s (ix k (5 + w))).toNat * e.toNat))))), (8, .float (fB (s (ix k 4)).toNat)), (7, .int (jI i)), (0, .int (jI f)), (1, .int (jI ((w : Int)))), (2, .int (jI e)), (3, .ref (d 0)), (4, .ref (d 1)), (5, .ref (d 2))]) hX dL_weighs_94 (by decide) rfl ?_
          refine V_iinc (b := i + 1) (lv' := [(7, .int (jI (i + 1))), (6, .float (fB (m + (((s (ix k 4)).toNat) * (s (ix k 1)).toNat) + (4 * ((s (ix k (5 + w))).toNat * e.toNat))))), (8, .float (fB (s (ix k 4)).toNat)), (0, .int (jI f)), (1, .int (jI ((w : Int)))), (2, .int (jI e)), (3, .ref (d 0)), (4, .ref (d 1)), (5, .ref (d 2))]) hX dL_weighs_96 2 rfl rfl (by decide) rfl ?_
          refine V_goto (tgt := 6) hX dL_weighs_99 (by decide) ?_
          refine V.sub [0, 1, 3, 4, 5, 6, 7, 8] rfl ?_
          exact ih (by omega) _ _ (by omega) (by first | (rw [hw0 (by assumption)]; exact hm) | (rw [hwl (by omega) (by assumption)]; subst hm; split <;> omega))
  refine V.sub [0, 1, 2, 3, 4, 5, 6, 7] rfl ?_
  exact L6_q_1 0 (Nat.zero_le _) 0 0 rfl rfl

set_option maxHeartbeats 4000000 in
set_option maxRecDepth 100000 in
theorem c_L_speaker (l : Launch) (G : vC) (d : Nat → Nat) (s : Nat → Int) (f : Int) (t : Int) (hI : Inv t s) (hf : iR f) : Fn l G yL_speaker cL_speaker 6 (some .int) ({ frames := 0, cells := 0, slots := 0, locals := 0 } : Room) [.int (jI f), .ref (d 0), .ref (d 1)] (lB G d s) (some (.int (jI (spN s f (s 10).toNat)))) (lB G d s) := by
  refine Ct.of (by decide) (Nat.le_of_ble_eq_true rfl) (fun X hX hR => ?_)
  refine V.toLv (lv' := [(0, .int (jI f)), (1, .ref (d 0)), (2, .ref (d 1))]) rfl ?_
  have hb := hI.base
  obtain ⟨N, hN⟩ : ∃ N : Nat, s 10 = (N : Int) := ⟨(s 10).toNat, by omega⟩
  refine V_bipush hX dL_speaker_0 (by decide) ?_
  refine V_istore_n (i := 3) (lv' := [(3, .int (jI (-5))), (0, .int (jI f)), (1, .ref (d 0)), (2, .ref (d 1))]) hX dL_speaker_2 rfl (by decide) rfl ?_
  refine V_aload_n hX dL_speaker_3 2 rfl ?_
  refine V_bipush hX dL_speaker_4 (by decide) ?_
  refine V_iald (i0 := 10) (r := (jI (s 10))) hX 0 rfl (by decide) (by decide) (by decide) rfl (by show (if 10 < 17 then jI (s (10)) else 0) = jI (s 10); rw [if_pos (by omega)]) dL_speaker_6 ?_
  refine V_iconst hX dL_speaker_7 ?_
  refine V_isub hX dL_speaker_8 rfl ?_
  refine V_istore (i := 4) (lv' := [(4, .int (jI ((s 10) - 1))), (3, .int (jI (-5))), (0, .int (jI f)), (1, .ref (d 0)), (2, .ref (d 1))]) hX dL_speaker_9 (by decide) rfl ?_
  have L11_q_1 : ∀ k : Nat, k ≤ N → ∀ (i : Int) (b : Int), (i = (N : Int) - 1 - (k : Int)) → (b = -5 ∨ (0 ≤ b ∧ b < 12)) → (fin s f (N - k) b = fin s f N (-5)) → V X 0 0 (lB G d s) [(4, .int (jI i)), (3, .int (jI b)), (0, .int (jI f)), (1, .ref (d 0)), (2, .ref (d 1))] 11 [] := by
    refine up_ind (fun k => ∀ (i : Int) (b : Int), (i = (N : Int) - 1 - (k : Int)) → (b = -5 ∨ (0 ≤ b ∧ b < 12)) → (fin s f (N - k) b = fin s f N (-5)) → V X 0 0 (lB G d s) [(4, .int (jI i)), (3, .int (jI b)), (0, .int (jI f)), (1, .ref (d 0)), (2, .ref (d 1))] 11 []) (N) ?_
    intro k hk ih i b hi hbb hF
    refine V_iload hX dL_speaker_11 0 rfl ?_
    refine V_if_lt (tgt := 88) hX dL_speaker_13 (by decide) (by omega) (fun c_2 => ?_) (fun c_2 => ?_)
    · refine V_iload_n hX dL_speaker_88 1 rfl ?_
      exact V_iret hX hR dL_speaker_89 ⟨(congrArg (fun z => some (Value.int (jI z))) ((show b = fin s f (N - k) b by rw [show N - k = 0 by omega]; rfl).trans (hF.trans ((fin_sp hI f N (by omega)).trans (by congr 1; omega))))), rfl⟩
    · have hs := hI.sc (N - 1 - k) (by omega)
      refine V_bipush hX dL_speaker_16 (by decide) ?_
      refine V_aload_n hX dL_speaker_18 4 rfl ?_
      refine V_iconst hX dL_speaker_19 ?_
      refine V_iload hX dL_speaker_20 0 rfl ?_
      refine V_imul hX dL_speaker_22 rfl ?_
      refine V_iconst hX dL_speaker_23 ?_
      refine V_iadd hX dL_speaker_24 rfl ?_
      refine V_iald (i0 := 5 * (N - 1 - k) + 1) (r := (jI (s (ix ((N - 1 - k)) 1)))) hX 1 rfl (by omega) (by omega) (by omega) (by omega) (by show jI (s (ix ((5 * (N - 1 - k) + 1) / 5) ((5 * (N - 1 - k) + 1) % 5))) = jI (s (ix ((N - 1 - k)) 1)); rw [show ix ((5 * (N - 1 - k) + 1) / 5) ((5 * (N - 1 - k) + 1) % 5) = ix ((N - 1 - k)) 1 by unfold ix; omega]) dL_speaker_25 ?_
      refine V_imul hX dL_speaker_26 rfl ?_
      refine V_aload_n hX dL_speaker_27 4 rfl ?_
      refine V_iconst hX dL_speaker_28 ?_
      refine V_iload hX dL_speaker_29 0 rfl ?_
      refine V_imul hX dL_speaker_31 rfl ?_
      refine V_iconst hX dL_speaker_32 ?_
      refine V_iadd hX dL_speaker_33 rfl ?_
      refine V_iald (i0 := 5 * (N - 1 - k) + 4) (r := (jI (s (ix ((N - 1 - k)) 4)))) hX 1 rfl (by omega) (by omega) (by omega) (by omega) (by show jI (s (ix ((5 * (N - 1 - k) + 4) / 5) ((5 * (N - 1 - k) + 4) % 5))) = jI (s (ix ((N - 1 - k)) 4)); rw [show ix ((5 * (N - 1 - k) + 4) / 5) ((5 * (N - 1 - k) + 4) % 5) = ix ((N - 1 - k)) 4 by unfold ix; omega]) dL_speaker_34 ?_
      refine V_iadd hX dL_speaker_35 rfl ?_
      refine V_istore (i := 5) (lv' := [(5, .int (jI ((100 * (s (ix ((N - 1 - k)) 1))) + (s (ix ((N - 1 - k)) 4))))), (4, .int (jI i)), (3, .int (jI b)), (0, .int (jI f)), (1, .ref (d 0)), (2, .ref (d 1))]) hX dL_speaker_36 (by decide) rfl ?_
      refine V_aload_n hX dL_speaker_38 5 rfl ?_
      refine V_iconst hX dL_speaker_39 ?_
      refine V_iload hX dL_speaker_40 1 rfl ?_
      refine V_imul hX dL_speaker_42 rfl ?_
      refine V_iald (i0 := 5 * (N - 1 - k) + 0) (r := (jI (s (ix ((N - 1 - k)) 0)))) hX 1 rfl (by omega) (by omega) (by omega) (by omega) (by show jI (s (ix ((5 * (N - 1 - k) + 0) / 5) ((5 * (N - 1 - k) + 0) % 5))) = jI (s (ix ((N - 1 - k)) 0)); rw [show ix ((5 * (N - 1 - k) + 0) / 5) ((5 * (N - 1 - k) + 0) % 5) = ix ((N - 1 - k)) 0 by unfold ix; omega]) dL_speaker_43 ?_
      refine V_iload_n hX dL_speaker_44 3 rfl ?_
      refine V_icmp_ne (tgt := 80) hX dL_speaker_45 (by decide) (by omega) (by omega) (fun c_3 => ?_) (fun c_3 => ?_)
      · refine V_iload_n hX dL_speaker_80 2 rfl ?_
        refine V_istore_n (i := 3) (lv' := [(3, .int (jI b)), (5, .int (jI ((100 * (s (ix ((N - 1 - k)) 1))) + (s (ix ((N - 1 - k)) 4))))), (4, .int (jI i)), (0, .int (jI f)), (1, .ref (d 0)), (2, .ref (d 1))]) hX dL_speaker_81 rfl (by decide) rfl ?_
        refine V_iinc (b := i - 1) (lv' := [(4, .int (jI (i - 1))), (3, .int (jI b)), (5, .int (jI ((100 * (s (ix ((N - 1 - k)) 1))) + (s (ix ((N - 1 - k)) 4))))), (0, .int (jI f)), (1, .ref (d 0)), (2, .ref (d 1))]) hX dL_speaker_82 2 rfl (by omega) (by decide) rfl ?_
        refine V_goto (tgt := 11) hX dL_speaker_85 (by decide) ?_
        refine V.sub [0, 1, 3, 4, 5] rfl ?_
        exact ih (by omega) _ _ (by omega) (by omega) (by rw [← hF, show N - k = (N - (k + 1)) + 1 by omega, fin_s]; congr 1; rw [show N - (k + 1) = N - 1 - k by omega]; split <;> omega)
      · refine V_iload_n hX dL_speaker_48 2 rfl ?_
        refine V_if_lt (tgt := 75) hX dL_speaker_49 (by decide) (by omega) (fun c_4 => ?_) (fun c_4 => ?_)
        · refine V_iload hX dL_speaker_75 1 rfl ?_
          refine V_goto (tgt := 81) hX dL_speaker_77 (by decide) ?_
          refine V_istore_n (i := 3) (lv' := [(3, .int (jI i)), (5, .int (jI ((100 * (s (ix ((N - 1 - k)) 1))) + (s (ix ((N - 1 - k)) 4))))), (4, .int (jI i)), (0, .int (jI f)), (1, .ref (d 0)), (2, .ref (d 1))]) hX dL_speaker_81 rfl (by decide) rfl ?_
          refine V_iinc (b := i - 1) (lv' := [(4, .int (jI (i - 1))), (3, .int (jI i)), (5, .int (jI ((100 * (s (ix ((N - 1 - k)) 1))) + (s (ix ((N - 1 - k)) 4))))), (0, .int (jI f)), (1, .ref (d 0)), (2, .ref (d 1))]) hX dL_speaker_82 2 rfl (by omega) (by decide) rfl ?_
          refine V_goto (tgt := 11) hX dL_speaker_85 (by decide) ?_
          refine V.sub [0, 1, 3, 4, 5] rfl ?_
          exact ih (by omega) _ _ (by omega) (by omega) (by rw [← hF, show N - k = (N - (k + 1)) + 1 by omega, fin_s]; congr 1; rw [show N - (k + 1) = N - 1 - k by omega]; split <;> omega)
        · have hs2 := hI.sc b.toNat (by omega)
          refine V_iload hX dL_speaker_52 0 rfl ?_
          refine V_bipush hX dL_speaker_54 (by decide) ?_
          refine V_aload_n hX dL_speaker_56 5 rfl ?_
          refine V_iconst hX dL_speaker_57 ?_
          refine V_iload_n hX dL_speaker_58 2 rfl ?_
          refine V_imul hX dL_speaker_59 rfl ?_
          refine V_iconst hX dL_speaker_60 ?_
          refine V_iadd hX dL_speaker_61 rfl ?_
          refine V_iald (i0 := 5 * b.toNat + 1) (r := (jI (s (ix b.toNat 1)))) hX 1 rfl (by omega) (by omega) (by omega) (by omega) (by show jI (s (ix ((5 * b.toNat + 1) / 5) ((5 * b.toNat + 1) % 5))) = jI (s (ix b.toNat 1)); rw [show ix ((5 * b.toNat + 1) / 5) ((5 * b.toNat + 1) % 5) = ix b.toNat 1 by unfold ix; omega]) dL_speaker_62 ?_
          refine V_imul hX dL_speaker_63 rfl ?_
          refine V_aload_n hX dL_speaker_64 5 rfl ?_
          refine V_iconst hX dL_speaker_65 ?_
          refine V_iload_n hX dL_speaker_66 2 rfl ?_
          refine V_imul hX dL_speaker_67 rfl ?_
          refine V_iconst hX dL_speaker_68 ?_
          refine V_iadd hX dL_speaker_69 rfl ?_
          refine V_iald (i0 := 5 * b.toNat + 4) (r := (jI (s (ix b.toNat 4)))) hX 1 rfl (by omega) (by omega) (by omega) (by omega) (by show jI (s (ix ((5 * b.toNat + 4) / 5) ((5 * b.toNat + 4) % 5))) = jI (s (ix b.toNat 4)); rw [show ix ((5 * b.toNat + 4) / 5) ((5 * b.toNat + 4) % 5) = ix b.toNat 4 by unfold ix; omega]) dL_speaker_70 ?_
          refine V_iadd hX dL_speaker_71 rfl ?_
          refine V_icmp_lt (tgt := 80) hX dL_speaker_72 (by decide) (by omega) (by omega) (fun c_5 => ?_) (fun c_5 => ?_)
          · refine V_iload_n hX dL_speaker_80 2 rfl ?_
            refine V_istore_n (i := 3) (lv' := [(3, .int (jI b)), (5, .int (jI ((100 * (s (ix ((N - 1 - k)) 1))) + (s (ix ((N - 1 - k)) 4))))), (4, .int (jI i)), (0, .int (jI f)), (1, .ref (d 0)), (2, .ref (d 1))]) hX dL_speaker_81 rfl (by decide) rfl ?_
            refine V_iinc (b := i - 1) (lv' := [(4, .int (jI (i - 1))), (3, .int (jI b)), (5, .int (jI ((100 * (s (ix ((N - 1 - k)) 1))) + (s (ix ((N - 1 - k)) 4))))), (0, .int (jI f)), (1, .ref (d 0)), (2, .ref (d 1))]) hX dL_speaker_82 2 rfl (by omega) (by decide) rfl ?_
            refine V_goto (tgt := 11) hX dL_speaker_85 (by decide) ?_
            refine V.sub [0, 1, 3, 4, 5] rfl ?_
            exact ih (by omega) _ _ (by omega) (by omega) (by rw [← hF, show N - k = (N - (k + 1)) + 1 by omega, fin_s]; congr 1; rw [show N - (k + 1) = N - 1 - k by omega]; split <;> omega)
          · refine V_iload hX dL_speaker_75 1 rfl ?_
            refine V_goto (tgt := 81) hX dL_speaker_77 (by decide) ?_
            refine V_istore_n (i := 3) (lv' := [(3, .int (jI i)), (5, .int (jI ((100 * (s (ix ((N - 1 - k)) 1))) + (s (ix ((N - 1 - k)) 4))))), (4, .int (jI i)), (0, .int (jI f)), (1, .ref (d 0)), (2, .ref (d 1))]) hX dL_speaker_81 rfl (by decide) rfl ?_
            refine V_iinc (b := i - 1) (lv' := [(4, .int (jI (i - 1))), (3, .int (jI i)), (5, .int (jI ((100 * (s (ix ((N - 1 - k)) 1))) + (s (ix ((N - 1 - k)) 4))))), (0, .int (jI f)), (1, .ref (d 0)), (2, .ref (d 1))]) hX dL_speaker_82 2 rfl (by omega) (by decide) rfl ?_
            refine V_goto (tgt := 11) hX dL_speaker_85 (by decide) ?_
            refine V.sub [0, 1, 3, 4, 5] rfl ?_
            exact ih (by omega) _ _ (by omega) (by omega) (by rw [← hF, show N - k = (N - (k + 1)) + 1 by omega, fin_s]; congr 1; rw [show N - (k + 1) = N - 1 - k by omega]; split <;> omega)
  refine V.sub [0, 1, 2, 3, 4] rfl ?_
  exact L11_q_1 0 (Nat.zero_le _) _ _ (by omega) (Or.inl rfl) rfl

set_option maxHeartbeats 4000000 in
set_option maxRecDepth 100000 in
theorem c_L_votes (l : Launch) (G : vC) (d : Nat → Nat) (s : Nat → Int) (f : Int) (lb : Bool) (e : Int) (t : Int) (hI : Inv t s) (hf : iR f) (he : e = byI s lb) : Fn l G yL_votes cL_votes 11 (some .int) ({ frames := 1, cells := 0, slots := 0, locals := 28 } : Room) [.int (jI f), .int (jI e), .ref (d 0), .ref (d 1), .ref (d 2)] (lB G d s) (some (.int (jI (vR s lb f)))) (lB G d s) := by
  refine Ct.of (by decide) (Nat.le_of_ble_eq_true rfl) (fun X hX hR => ?_)
  refine V.toLv (lv' := [(0, .int (jI f)), (1, .int (jI e)), (2, .ref (d 0)), (3, .ref (d 1)), (4, .ref (d 2))]) rfl ?_
  have hb := hI.base
  have hpb := spN_b s f (s 10).toNat
  have hwb := wF_b hI lb f (s 10).toNat (by omega)
  have hgb := grN_b hwb 4 (Nat.le_refl _)
  refine V_iload_n hX dL_votes_0 0 rfl ?_
  refine V_aload_n hX dL_votes_1 2 rfl ?_
  refine V_aload_n hX dL_votes_2 3 rfl ?_
  refine V_cS (st := []) (v := .int (jI (spN s f (s 10).toNat))) (w' := lB G d s) hX wc_L_12 (c_L_speaker l G d s f t hI (by omega)) (by decide) (by decide) rfl rfl (Nat.le_of_ble_eq_true rfl) dL_votes_3 [] ([]) (by simp only [List.append_assoc, List.nil_append, List.append_nil]) (by simp only [List.append_assoc, List.nil_append, List.append_nil]) rfl rfl ?_
  refine V_istore (i := 5) (lv' := [(5, .int (jI (spN s f (s 10).toNat))), (0, .int (jI f)), (1, .int (jI e)), (2, .ref (d 0)), (3, .ref (d 1)), (4, .ref (d 2))]) hX dL_votes_6 (by decide) rfl ?_
  refine V_iload hX dL_votes_8 0 rfl ?_
  refine V_if_ge (tgt := 16) hX dL_votes_10 (by decide) (by omega) (fun c_1 => ?_) (fun c_1 => ?_)
  · refine V_fconst0 hX dL_votes_16 ?_
    refine V_fstore (i := 6) (lv' := [(6, .float (FP.fconst0)), (5, .int (jI (spN s f (s 10).toNat))), (0, .int (jI f)), (1, .int (jI e)), (2, .ref (d 0)), (3, .ref (d 1)), (4, .ref (d 2))]) hX dL_votes_17 (by decide) rfl ?_
    refine V.toLv (lv' := [(6, .float (fB 0)), (5, .int (jI (spN s f (s 10).toNat))), (0, .int (jI f)), (1, .int (jI e)), (2, .ref (d 0)), (3, .ref (d 1)), (4, .ref (d 2))]) (by rw [fB_0]) ?_
    refine V_iconst hX dL_votes_19 ?_
    refine V_istore (i := 7) (lv' := [(7, .int (jI 0)), (6, .float (fB 0)), (5, .int (jI (spN s f (s 10).toNat))), (0, .int (jI f)), (1, .int (jI e)), (2, .ref (d 0)), (3, .ref (d 1)), (4, .ref (d 2))]) hX dL_votes_20 (by decide) rfl ?_
    refine V_bipush hX dL_votes_22 (by decide) ?_
    refine V_istore (i := 8) (lv' := [(8, .int (jI (-5))), (7, .int (jI 0)), (6, .float (fB 0)), (5, .int (jI (spN s f (s 10).toNat))), (0, .int (jI f)), (1, .int (jI e)), (2, .ref (d 0)), (3, .ref (d 1)), (4, .ref (d 2))]) hX dL_votes_24 (by decide) rfl ?_
    refine V_iconst hX dL_votes_26 ?_
    refine V_istore (i := 9) (lv' := [(9, .int (jI 3)), (8, .int (jI (-5))), (7, .int (jI 0)), (6, .float (fB 0)), (5, .int (jI (spN s f (s 10).toNat))), (0, .int (jI f)), (1, .int (jI e)), (2, .ref (d 0)), (3, .ref (d 1)), (4, .ref (d 2))]) hX dL_votes_27 (by decide) rfl ?_
    have L29_q_2 : ∀ k : Nat, k ≤ 4 → ∀ (i : Int) (m : Nat) (c : Int) (y : Int), (i = 3 - (k : Int)) → (m = mwM (wF s lb f (s 10).toNat) k) → (c = mwC (wF s lb f (s 10).toNat) k) → (y = mwY (wF s lb f (s 10).toNat) k) → (m ≤ 8000) → V X 0 0 (lB G d s) [(9, .int (jI i)), (8, .int (jI y)), (7, .int (jI c)), (6, .float (fB m)), (5, .int (jI (spN s f (s 10).toNat))), (0, .int (jI f)), (1, .int (jI e)), (2, .ref (d 0)), (3, .ref (d 1)), (4, .ref (d 2))] 29 [] := by
      refine up_ind (fun k => ∀ (i : Int) (m : Nat) (c : Int) (y : Int), (i = 3 - (k : Int)) → (m = mwM (wF s lb f (s 10).toNat) k) → (c = mwC (wF s lb f (s 10).toNat) k) → (y = mwY (wF s lb f (s 10).toNat) k) → (m ≤ 8000) → V X 0 0 (lB G d s) [(9, .int (jI i)), (8, .int (jI y)), (7, .int (jI c)), (6, .float (fB m)), (5, .int (jI (spN s f (s 10).toNat))), (0, .int (jI f)), (1, .int (jI e)), (2, .ref (d 0)), (3, .ref (d 1)), (4, .ref (d 2))] 29 []) (4) ?_
      intro k hk ih i m c y hi hm hc hy hmb
      have hcb := mwC_b (wF s lb f (s 10).toNat) k
      have hyb := mwY_b (wF s lb f (s 10).toNat) k hk
      have hwk : k < 4 → wF s lb f (s 10).toNat (3 - k) ≤ 7296 := fun _ => hwb (3 - k) (by omega)
      refine V_iload hX dL_votes_29 0 rfl ?_
      refine V_if_lt (tgt := 118) hX dL_votes_31 (by decide) (by omega) (fun c_3 => ?_) (fun c_3 => ?_)
      · have htie := mw_tie (wF s lb f (s 10).toNat)
        have hk4 : k = 4 := by omega
        subst hk4
        have hs := hI.sc (spN s f (s 10).toNat).toNat (by omega)
        have hwy := hwb (s (ix (spN s f (s 10).toNat).toNat 3)).toNat (by omega)
        refine V_fload hX dL_votes_118 3 rfl ?_
        refine V_fconst0 hX dL_votes_120 ?_
        have hc_4 := cmpI_spec (m) (0)
        refine V_fcmp (r := jI (cmpI (m) (0))) hX dL_votes_121 (fB_cmpI0 (by omega)) ?_
        refine V_if_ne (tgt := 128) hX dL_votes_122 (by decide) (by omega) (fun c_5 => ?_) (fun c_5 => ?_)
        · refine V_iload_n hX dL_votes_128 5 rfl ?_
          refine V_aload_n hX dL_votes_129 8 rfl ?_
          refine V_iconst hX dL_votes_130 ?_
          refine V_iload hX dL_votes_131 4 rfl ?_
          refine V_imul hX dL_votes_133 rfl ?_
          refine V_iconst hX dL_votes_134 ?_
          refine V_iadd hX dL_votes_135 rfl ?_
          refine V_iald (i0 := 5 * (spN s f (s 10).toNat).toNat + 3) (r := (jI (s (ix ((spN s f (s 10).toNat).toNat) 3)))) hX 1 rfl (by omega) (by omega) (by omega) (by omega) (by show jI (s (ix ((5 * (spN s f (s 10).toNat).toNat + 3) / 5) ((5 * (spN s f (s 10).toNat).toNat + 3) % 5))) = jI (s (ix ((spN s f (s 10).toNat).toNat) 3)); rw [show ix ((5 * (spN s f (s 10).toNat).toNat + 3) / 5) ((5 * (spN s f (s 10).toNat).toNat + 3) % 5) = ix ((spN s f (s 10).toNat).toNat) 3 by unfold ix; omega]) dL_votes_136 ?_
          refine V_iload_n hX dL_votes_137 6 rfl ?_
          refine V_aload_n hX dL_votes_138 7 rfl ?_
          refine V_aload_n hX dL_votes_139 8 rfl ?_
          refine V_aload hX dL_votes_140 9 rfl ?_
          refine V.sk (st' := [.ref (d 2), .ref (d 1), .ref (d 0), .int (jI e), .int (jI (((s (ix ((spN s f (s 10).toNat).toNat) 3)).toNat : Int))), .int (jI f)]) (congrArg (fun z : Int => [Value.ref (d 2), Value.ref (d 1), Value.ref (d 0), Value.int (jI e), Value.int (jI z), Value.int (jI f)]) (show s (ix ((spN s f (s 10).toNat).toNat) 3) = ((s (ix ((spN s f (s 10).toNat).toNat) 3)).toNat : Int) by omega)) ?_
          refine V_cS (st := []) (v := .float (fB (wF s lb f (s 10).toNat ((s (ix ((spN s f (s 10).toNat).toNat) 3)).toNat)))) (w' := lB G d s) hX wc_L_18 (c_L_weighs l G d s f ((s (ix ((spN s f (s 10).toNat).toNat) 3)).toNat) lb e t hI (by omega) (by omega) he) (by decide) (by decide) rfl rfl (Nat.le_of_ble_eq_true rfl) dL_votes_142 [] ([]) (by simp only [List.append_assoc, List.nil_append, List.append_nil]) (by simp only [List.append_assoc, List.nil_append, List.append_nil]) rfl rfl ?_
          refine V_fload hX dL_votes_145 3 rfl ?_
          have hc_6 := cmpI_spec (wF s lb f (s 10).toNat ((s (ix ((spN s f (s 10).toNat).toNat) 3)).toNat)) (m)
          refine V_fcmp (r := jI (cmpI (wF s lb f (s 10).toNat ((s (ix ((spN s f (s 10).toNat).toNat) 3)).toNat)) (m))) hX dL_votes_147 (fB_cmpI (by omega) (by omega)) ?_
          refine V_if_ne (tgt := 155) hX dL_votes_148 (by decide) (by omega) (fun c_7 => ?_) (fun c_7 => ?_)
          · refine V_iconst hX dL_votes_155 ?_
            refine V_istore (i := 9) (lv' := [(9, .int (jI 0)), (8, .int (jI y)), (7, .int (jI c)), (6, .float (fB m)), (5, .int (jI (spN s f (s 10).toNat))), (0, .int (jI f)), (1, .int (jI e)), (2, .ref (d 0)), (3, .ref (d 1)), (4, .ref (d 2))]) hX dL_votes_156 (by decide) rfl ?_
            refine V_iload hX dL_votes_158 2 rfl ?_
            refine V_iconst hX dL_votes_160 ?_
            refine V_icmp_ne (tgt := 169) hX dL_votes_161 (by decide) (by omega) (by decide) (fun c_8 => ?_) (fun c_8 => ?_)
            · refine V_iload hX dL_votes_169 0 rfl ?_
              refine V_if_eq (tgt := 188) hX dL_votes_171 (by decide) (by decide) (fun c_9 => ?_) (fun c_9 => absurd c_9 (by decide))
              refine V_bipush hX dL_votes_188 (by decide) ?_
              refine V_iload hX dL_votes_190 1 rfl ?_
              refine V_iadd hX dL_votes_192 rfl ?_
              exact V_iret hX hR dL_votes_193 ⟨(congrArg (fun z => some (Value.int (jI z))) (by unfold vR; (repeat' split) <;> omega)), rfl⟩
            · refine V_iload hX dL_votes_164 1 rfl ?_
              refine V_goto (tgt := 193) hX dL_votes_166 (by decide) ?_
              exact V_iret hX hR dL_votes_193 ⟨(congrArg (fun z => some (Value.int (jI z))) (by unfold vR; (repeat' split) <;> omega)), rfl⟩
          · refine V_iconst hX dL_votes_151 ?_
            refine V_goto (tgt := 156) hX dL_votes_152 (by decide) ?_
            refine V_istore (i := 9) (lv' := [(9, .int (jI 1)), (8, .int (jI y)), (7, .int (jI c)), (6, .float (fB m)), (5, .int (jI (spN s f (s 10).toNat))), (0, .int (jI f)), (1, .int (jI e)), (2, .ref (d 0)), (3, .ref (d 1)), (4, .ref (d 2))]) hX dL_votes_156 (by decide) rfl ?_
            refine V_iload hX dL_votes_158 2 rfl ?_
            refine V_iconst hX dL_votes_160 ?_
            refine V_icmp_ne (tgt := 169) hX dL_votes_161 (by decide) (by omega) (by decide) (fun c_10 => ?_) (fun c_10 => ?_)
            · refine V_iload hX dL_votes_169 0 rfl ?_
              refine V_if_eq (tgt := 188) hX dL_votes_171 (by decide) (by decide) (fun c_11 => absurd c_11 (by decide)) (fun c_11 => ?_)
              refine V_bipush hX dL_votes_174 (by decide) ?_
              refine V_aload_n hX dL_votes_176 8 rfl ?_
              refine V_iconst hX dL_votes_177 ?_
              refine V_iload hX dL_votes_178 4 rfl ?_
              refine V_imul hX dL_votes_180 rfl ?_
              refine V_iconst hX dL_votes_181 ?_
              refine V_iadd hX dL_votes_182 rfl ?_
              refine V_iald (i0 := 5 * (spN s f (s 10).toNat).toNat + 3) (r := (jI (s (ix ((spN s f (s 10).toNat).toNat) 3)))) hX 1 rfl (by omega) (by omega) (by omega) (by omega) (by show jI (s (ix ((5 * (spN s f (s 10).toNat).toNat + 3) / 5) ((5 * (spN s f (s 10).toNat).toNat + 3) % 5))) = jI (s (ix ((spN s f (s 10).toNat).toNat) 3)); rw [show ix ((5 * (spN s f (s 10).toNat).toNat + 3) / 5) ((5 * (spN s f (s 10).toNat).toNat + 3) % 5) = ix ((spN s f (s 10).toNat).toNat) 3 by unfold ix; omega]) dL_votes_183 ?_
              refine V_iadd hX dL_votes_184 rfl ?_
              refine V_goto (tgt := 193) hX dL_votes_185 (by decide) ?_
              exact V_iret hX hR dL_votes_193 ⟨(congrArg (fun z => some (Value.int (jI z))) (by unfold vR; (repeat' split) <;> omega)), rfl⟩
            · refine V_iload hX dL_votes_164 1 rfl ?_
              refine V_goto (tgt := 193) hX dL_votes_166 (by decide) ?_
              exact V_iret hX hR dL_votes_193 ⟨(congrArg (fun z => some (Value.int (jI z))) (by unfold vR; (repeat' split) <;> omega)), rfl⟩
        · refine V_bipush hX dL_votes_125 (by decide) ?_
          exact V_iret hX hR dL_votes_127 ⟨(congrArg (fun z => some (Value.int (jI z))) (by unfold vR; (repeat' split) <;> omega)), rfl⟩
      · refine V_iload_n hX dL_votes_34 5 rfl ?_
        refine V_iload hX dL_votes_35 0 rfl ?_
        refine V_iload_n hX dL_votes_37 6 rfl ?_
        refine V_aload_n hX dL_votes_38 7 rfl ?_
        refine V_aload_n hX dL_votes_39 8 rfl ?_
        refine V_aload hX dL_votes_40 9 rfl ?_
        refine V.sk (st' := [.ref (d 2), .ref (d 1), .ref (d 0), .int (jI e), .int (jI (((3 - k : Nat) : Int))), .int (jI f)]) (congrArg (fun z : Int => [Value.ref (d 2), Value.ref (d 1), Value.ref (d 0), Value.int (jI e), Value.int (jI z), Value.int (jI f)]) (show i = ((3 - k : Nat) : Int) by omega)) ?_
        refine V_cS (st := []) (v := .float (fB (wF s lb f (s 10).toNat (3 - k)))) (w' := lB G d s) hX wc_L_18 (c_L_weighs l G d s f (3 - k) lb e t hI (by omega) (by omega) he) (by decide) (by decide) rfl rfl (Nat.le_of_ble_eq_true rfl) dL_votes_42 [] ([]) (by simp only [List.append_assoc, List.nil_append, List.append_nil]) (by simp only [List.append_assoc, List.nil_append, List.append_nil]) rfl rfl ?_
        refine V_fstore (i := 10) (lv' := [(10, .float (fB (wF s lb f (s 10).toNat (3 - k)))), (9, .int (jI i)), (8, .int (jI y)), (7, .int (jI c)), (6, .float (fB m)), (5, .int (jI (spN s f (s 10).toNat))), (0, .int (jI f)), (1, .int (jI e)), (2, .ref (d 0)), (3, .ref (d 1)), (4, .ref (d 2))]) hX dL_votes_45 (by decide) rfl ?_
        refine V_fload hX dL_votes_47 0 rfl ?_
        refine V_fload hX dL_votes_49 4 rfl ?_
        have hc_12 := cmpI_spec (wF s lb f (s 10).toNat (3 - k)) (m)
        refine V_fcmp (r := jI (cmpI (wF s lb f (s 10).toNat (3 - k)) (m))) hX dL_votes_51 (fB_cmpI (by omega) (by omega)) ?_
        refine V_if_le (tgt := 59) hX dL_votes_52 (by decide) (by omega) (fun c_13 => ?_) (fun c_13 => ?_)
        · refine V_fload hX dL_votes_59 0 rfl ?_
          refine V_fload hX dL_votes_61 4 rfl ?_
          have hc_14 := cmpI_spec (wF s lb f (s 10).toNat (3 - k)) (m)
          refine V_fcmp (r := jI (cmpI (wF s lb f (s 10).toNat (3 - k)) (m))) hX dL_votes_63 (fB_cmpI (by omega) (by omega)) ?_
          refine V_if_ne (tgt := 74) hX dL_votes_64 (by decide) (by omega) (fun c_15 => ?_) (fun c_15 => ?_)
          · refine V_iload hX dL_votes_74 3 rfl ?_
            refine V_istore (i := 7) (lv' := [(7, .int (jI c)), (10, .float (fB (wF s lb f (s 10).toNat (3 - k)))), (9, .int (jI i)), (8, .int (jI y)), (6, .float (fB m)), (5, .int (jI (spN s f (s 10).toNat))), (0, .int (jI f)), (1, .int (jI e)), (2, .ref (d 0)), (3, .ref (d 1)), (4, .ref (d 2))]) hX dL_votes_76 (by decide) rfl ?_
            refine V_fload hX dL_votes_78 1 rfl ?_
            refine V_fload hX dL_votes_80 4 rfl ?_
            have hc_16 := cmpI_spec (wF s lb f (s 10).toNat (3 - k)) (m)
            refine V_fcmp (r := jI (cmpI (wF s lb f (s 10).toNat (3 - k)) (m))) hX dL_votes_82 (fB_cmpI (by omega) (by omega)) ?_
            refine V_if_lt (tgt := 91) hX dL_votes_83 (by decide) (by omega) (fun c_17 => ?_) (fun c_17 => ?_)
            · refine V_iload hX dL_votes_91 3 rfl ?_
              refine V_istore (i := 8) (lv' := [(8, .int (jI y)), (7, .int (jI c)), (10, .float (fB (wF s lb f (s 10).toNat (3 - k)))), (9, .int (jI i)), (6, .float (fB m)), (5, .int (jI (spN s f (s 10).toNat))), (0, .int (jI f)), (1, .int (jI e)), (2, .ref (d 0)), (3, .ref (d 1)), (4, .ref (d 2))]) hX dL_votes_93 (by decide) rfl ?_
              refine V_fload hX dL_votes_95 2 rfl ?_
              refine V_fload hX dL_votes_97 4 rfl ?_
              have hc_18 := cmpI_spec (wF s lb f (s 10).toNat (3 - k)) (m)
              refine V_fcmp (r := jI (cmpI (wF s lb f (s 10).toNat (3 - k)) (m))) hX dL_votes_99 (fB_cmpI (by omega) (by omega)) ?_
              refine V_if_le (tgt := 108) hX dL_votes_100 (by decide) (by omega) (fun c_19 => ?_) (fun c_19 => by omega)
              refine V_fload hX dL_votes_108 4 rfl ?_
              refine V_fstore (i := 6) (lv' := [(6, .float (fB m)), (8, .int (jI y)), (7, .int (jI c)), (10, .float (fB (wF s lb f (s 10).toNat (3 - k)))), (9, .int (jI i)), (5, .int (jI (spN s f (s 10).toNat))), (0, .int (jI f)), (1, .int (jI e)), (2, .ref (d 0)), (3, .ref (d 1)), (4, .ref (d 2))]) hX dL_votes_110 (by decide) rfl ?_
              refine V_iinc (b := i - 1) (lv' := [(9, .int (jI (i - 1))), (6, .float (fB m)), (8, .int (jI y)), (7, .int (jI c)), (10, .float (fB (wF s lb f (s 10).toNat (3 - k)))), (5, .int (jI (spN s f (s 10).toNat))), (0, .int (jI f)), (1, .int (jI e)), (2, .ref (d 0)), (3, .ref (d 1)), (4, .ref (d 2))]) hX dL_votes_112 4 rfl (by omega) (by decide) rfl ?_
              refine V_goto (tgt := 29) hX dL_votes_115 (by decide) ?_
              refine V.sub [0, 2, 3, 1, 5, 6, 7, 8, 9, 10] rfl ?_
              exact ih (by omega) _ _ _ _ (by omega) (by rw [mwM_s]; split <;> omega) (by rw [mwC_s]; (repeat' split) <;> omega) (by rw [mwY_s]; split <;> omega) (by omega)
            · refine V_iload hX dL_votes_86 2 rfl ?_
              refine V_goto (tgt := 93) hX dL_votes_88 (by decide) ?_
              refine V_istore (i := 8) (lv' := [(8, .int (jI i)), (7, .int (jI c)), (10, .float (fB (wF s lb f (s 10).toNat (3 - k)))), (9, .int (jI i)), (6, .float (fB m)), (5, .int (jI (spN s f (s 10).toNat))), (0, .int (jI f)), (1, .int (jI e)), (2, .ref (d 0)), (3, .ref (d 1)), (4, .ref (d 2))]) hX dL_votes_93 (by decide) rfl ?_
              refine V_fload hX dL_votes_95 2 rfl ?_
              refine V_fload hX dL_votes_97 4 rfl ?_
              have hc_20 := cmpI_spec (wF s lb f (s 10).toNat (3 - k)) (m)
              refine V_fcmp (r := jI (cmpI (wF s lb f (s 10).toNat (3 - k)) (m))) hX dL_votes_99 (fB_cmpI (by omega) (by omega)) ?_
              refine V_if_le (tgt := 108) hX dL_votes_100 (by decide) (by omega) (fun c_21 => ?_) (fun c_21 => by omega)
              refine V_fload hX dL_votes_108 4 rfl ?_
              refine V_fstore (i := 6) (lv' := [(6, .float (fB m)), (8, .int (jI i)), (7, .int (jI c)), (10, .float (fB (wF s lb f (s 10).toNat (3 - k)))), (9, .int (jI i)), (5, .int (jI (spN s f (s 10).toNat))), (0, .int (jI f)), (1, .int (jI e)), (2, .ref (d 0)), (3, .ref (d 1)), (4, .ref (d 2))]) hX dL_votes_110 (by decide) rfl ?_
              refine V_iinc (b := i - 1) (lv' := [(9, .int (jI (i - 1))), (6, .float (fB m)), (8, .int (jI i)), (7, .int (jI c)), (10, .float (fB (wF s lb f (s 10).toNat (3 - k)))), (5, .int (jI (spN s f (s 10).toNat))), (0, .int (jI f)), (1, .int (jI e)), (2, .ref (d 0)), (3, .ref (d 1)), (4, .ref (d 2))]) hX dL_votes_112 4 rfl (by omega) (by decide) rfl ?_
              refine V_goto (tgt := 29) hX dL_votes_115 (by decide) ?_
              refine V.sub [0, 2, 3, 1, 5, 6, 7, 8, 9, 10] rfl ?_
              exact ih (by omega) _ _ _ _ (by omega) (by rw [mwM_s]; split <;> omega) (by rw [mwC_s]; (repeat' split) <;> omega) (by rw [mwY_s]; split <;> omega) (by omega)
          · refine V_iload hX dL_votes_67 3 rfl ?_
            refine V_iconst hX dL_votes_69 ?_
            refine V_iadd hX dL_votes_70 rfl ?_
            refine V_goto (tgt := 76) hX dL_votes_71 (by decide) ?_
            refine V_istore (i := 7) (lv' := [(7, .int (jI (c + 1))), (10, .float (fB (wF s lb f (s 10).toNat (3 - k)))), (9, .int (jI i)), (8, .int (jI y)), (6, .float (fB m)), (5, .int (jI (spN s f (s 10).toNat))), (0, .int (jI f)), (1, .int (jI e)), (2, .ref (d 0)), (3, .ref (d 1)), (4, .ref (d 2))]) hX dL_votes_76 (by decide) rfl ?_
            refine V_fload hX dL_votes_78 1 rfl ?_
            refine V_fload hX dL_votes_80 4 rfl ?_
            have hc_22 := cmpI_spec (wF s lb f (s 10).toNat (3 - k)) (m)
            refine V_fcmp (r := jI (cmpI (wF s lb f (s 10).toNat (3 - k)) (m))) hX dL_votes_82 (fB_cmpI (by omega) (by omega)) ?_
            refine V_if_lt (tgt := 91) hX dL_votes_83 (by decide) (by omega) (fun c_23 => by omega) (fun c_23 => ?_)
            refine V_iload hX dL_votes_86 2 rfl ?_
            refine V_goto (tgt := 93) hX dL_votes_88 (by decide) ?_
            refine V_istore (i := 8) (lv' := [(8, .int (jI i)), (7, .int (jI (c + 1))), (10, .float (fB (wF s lb f (s 10).toNat (3 - k)))), (9, .int (jI i)), (6, .float (fB m)), (5, .int (jI (spN s f (s 10).toNat))), (0, .int (jI f)), (1, .int (jI e)), (2, .ref (d 0)), (3, .ref (d 1)), (4, .ref (d 2))]) hX dL_votes_93 (by decide) rfl ?_
            refine V_fload hX dL_votes_95 2 rfl ?_
            refine V_fload hX dL_votes_97 4 rfl ?_
            have hc_24 := cmpI_spec (wF s lb f (s 10).toNat (3 - k)) (m)
            refine V_fcmp (r := jI (cmpI (wF s lb f (s 10).toNat (3 - k)) (m))) hX dL_votes_99 (fB_cmpI (by omega) (by omega)) ?_
            refine V_if_le (tgt := 108) hX dL_votes_100 (by decide) (by omega) (fun c_25 => ?_) (fun c_25 => by omega)
            refine V_fload hX dL_votes_108 4 rfl ?_
            refine V_fstore (i := 6) (lv' := [(6, .float (fB m)), (8, .int (jI i)), (7, .int (jI (c + 1))), (10, .float (fB (wF s lb f (s 10).toNat (3 - k)))), (9, .int (jI i)), (5, .int (jI (spN s f (s 10).toNat))), (0, .int (jI f)), (1, .int (jI e)), (2, .ref (d 0)), (3, .ref (d 1)), (4, .ref (d 2))]) hX dL_votes_110 (by decide) rfl ?_
            refine V_iinc (b := i - 1) (lv' := [(9, .int (jI (i - 1))), (6, .float (fB m)), (8, .int (jI i)), (7, .int (jI (c + 1))), (10, .float (fB (wF s lb f (s 10).toNat (3 - k)))), (5, .int (jI (spN s f (s 10).toNat))), (0, .int (jI f)), (1, .int (jI e)), (2, .ref (d 0)), (3, .ref (d 1)), (4, .ref (d 2))]) hX dL_votes_112 4 rfl (by omega) (by decide) rfl ?_
            refine V_goto (tgt := 29) hX dL_votes_115 (by decide) ?_
            refine V.sub [0, 2, 3, 1, 5, 6, 7, 8, 9, 10] rfl ?_
            exact ih (by omega) _ _ _ _ (by omega) (by rw [mwM_s]; split <;> omega) (by rw [mwC_s]; (repeat' split) <;> omega) (by rw [mwY_s]; split <;> omega) (by omega)
        · refine V_iconst hX dL_votes_55 ?_
          refine V_goto (tgt := 76) hX dL_votes_56 (by decide) ?_
          refine V_istore (i := 7) (lv' := [(7, .int (jI 1)), (10, .float (fB (wF s lb f (s 10).toNat (3 - k)))), (9, .int (jI i)), (8, .int (jI y)), (6, .float (fB m)), (5, .int (jI (spN s f (s 10).toNat))), (0, .int (jI f)), (1, .int (jI e)), (2, .ref (d 0)), (3, .ref (d 1)), (4, .ref (d 2))]) hX dL_votes_76 (by decide) rfl ?_
          refine V_fload hX dL_votes_78 1 rfl ?_
          refine V_fload hX dL_votes_80 4 rfl ?_
          have hc_26 := cmpI_spec (wF s lb f (s 10).toNat (3 - k)) (m)
          refine V_fcmp (r := jI (cmpI (wF s lb f (s 10).toNat (3 - k)) (m))) hX dL_votes_82 (fB_cmpI (by omega) (by omega)) ?_
          refine V_if_lt (tgt := 91) hX dL_votes_83 (by decide) (by omega) (fun c_27 => ?_) (fun c_27 => ?_)
          · refine V_iload hX dL_votes_91 3 rfl ?_
            refine V_istore (i := 8) (lv' := [(8, .int (jI y)), (7, .int (jI 1)), (10, .float (fB (wF s lb f (s 10).toNat (3 - k)))), (9, .int (jI i)), (6, .float (fB m)), (5, .int (jI (spN s f (s 10).toNat))), (0, .int (jI f)), (1, .int (jI e)), (2, .ref (d 0)), (3, .ref (d 1)), (4, .ref (d 2))]) hX dL_votes_93 (by decide) rfl ?_
            refine V_fload hX dL_votes_95 2 rfl ?_
            refine V_fload hX dL_votes_97 4 rfl ?_
            have hc_28 := cmpI_spec (wF s lb f (s 10).toNat (3 - k)) (m)
            refine V_fcmp (r := jI (cmpI (wF s lb f (s 10).toNat (3 - k)) (m))) hX dL_votes_99 (fB_cmpI (by omega) (by omega)) ?_
            refine V_if_le (tgt := 108) hX dL_votes_100 (by decide) (by omega) (fun c_29 => by omega) (fun c_29 => ?_)
            refine V_fload hX dL_votes_103 2 rfl ?_
            refine V_goto (tgt := 110) hX dL_votes_105 (by decide) ?_
            refine V_fstore (i := 6) (lv' := [(6, .float (fB (wF s lb f (s 10).toNat (3 - k)))), (8, .int (jI y)), (7, .int (jI 1)), (10, .float (fB (wF s lb f (s 10).toNat (3 - k)))), (9, .int (jI i)), (5, .int (jI (spN s f (s 10).toNat))), (0, .int (jI f)), (1, .int (jI e)), (2, .ref (d 0)), (3, .ref (d 1)), (4, .ref (d 2))]) hX dL_votes_110 (by decide) rfl ?_
            refine V_iinc (b := i - 1) (lv' := [(9, .int (jI (i - 1))), (6, .float (fB (wF s lb f (s 10).toNat (3 - k)))), (8, .int (jI y)), (7, .int (jI 1)), (10, .float (fB (wF s lb f (s 10).toNat (3 - k)))), (5, .int (jI (spN s f (s 10).toNat))), (0, .int (jI f)), (1, .int (jI e)), (2, .ref (d 0)), (3, .ref (d 1)), (4, .ref (d 2))]) hX dL_votes_112 4 rfl (by omega) (by decide) rfl ?_
            refine V_goto (tgt := 29) hX dL_votes_115 (by decide) ?_
            refine V.sub [0, 2, 3, 1, 5, 6, 7, 8, 9, 10] rfl ?_
            exact ih (by omega) _ _ _ _ (by omega) (by rw [mwM_s]; split <;> omega) (by rw [mwC_s]; (repeat' split) <;> omega) (by rw [mwY_s]; split <;> omega) (by omega)
          · refine V_iload hX dL_votes_86 2 rfl ?_
            refine V_goto (tgt := 93) hX dL_votes_88 (by decide) ?_
            refine V_istore (i := 8) (lv' := [(8, .int (jI i)), (7, .int (jI 1)), (10, .float (fB (wF s lb f (s 10).toNat (3 - k)))), (9, .int (jI i)), (6, .float (fB m)), (5, .int (jI (spN s f (s 10).toNat))), (0, .int (jI f)), (1, .int (jI e)), (2, .ref (d 0)), (3, .ref (d 1)), (4, .ref (d 2))]) hX dL_votes_93 (by decide) rfl ?_
            refine V_fload hX dL_votes_95 2 rfl ?_
            refine V_fload hX dL_votes_97 4 rfl ?_
            have hc_30 := cmpI_spec (wF s lb f (s 10).toNat (3 - k)) (m)
            refine V_fcmp (r := jI (cmpI (wF s lb f (s 10).toNat (3 - k)) (m))) hX dL_votes_99 (fB_cmpI (by omega) (by omega)) ?_
            refine V_if_le (tgt := 108) hX dL_votes_100 (by decide) (by omega) (fun c_31 => by omega) (fun c_31 => ?_)
            refine V_fload hX dL_votes_103 2 rfl ?_
            refine V_goto (tgt := 110) hX dL_votes_105 (by decide) ?_
            refine V_fstore (i := 6) (lv' := [(6, .float (fB (wF s lb f (s 10).toNat (3 - k)))), (8, .int (jI i)), (7, .int (jI 1)), (10, .float (fB (wF s lb f (s 10).toNat (3 - k)))), (9, .int (jI i)), (5, .int (jI (spN s f (s 10).toNat))), (0, .int (jI f)), (1, .int (jI e)), (2, .ref (d 0)), (3, .ref (d 1)), (4, .ref (d 2))]) hX dL_votes_110 (by decide) rfl ?_
            refine V_iinc (b := i - 1) (lv' := [(9, .int (jI (i - 1))), (6, .float (fB (wF s lb f (s 10).toNat (3 - k)))), (8, .int (jI i)), (7, .int (jI 1)), (10, .float (fB (wF s lb f (s 10).toNat (3 - k)))), (5, .int (jI (spN s f (s 10).toNat))), (0, .int (jI f)), (1, .int (jI e)), (2, .ref (d 0)), (3, .ref (d 1)), (4, .ref (d 2))]) hX dL_votes_112 4 rfl (by omega) (by decide) rfl ?_
            refine V_goto (tgt := 29) hX dL_votes_115 (by decide) ?_
            refine V.sub [0, 2, 3, 1, 5, 6, 7, 8, 9, 10] rfl ?_
            exact ih (by omega) _ _ _ _ (by omega) (by rw [mwM_s]; split <;> omega) (by rw [mwC_s]; (repeat' split) <;> omega) (by rw [mwY_s]; split <;> omega) (by omega)
    refine V.sub [0, 1, 2, 3, 4, 5, 6, 7, 8, 9] rfl ?_
    exact L29_q_2 0 (Nat.zero_le _) 3 0 0 (-5) rfl rfl rfl rfl (by decide)
  · refine V_bipush hX dL_votes_13 (by decide) ?_
    exact V_iret hX hR dL_votes_15 ⟨(congrArg (fun z => some (Value.int (jI z))) (by unfold vR; (repeat' split) <;> omega)), rfl⟩

set_option maxHeartbeats 4000000 in
set_option maxRecDepth 100000 in
theorem c_L_wayOf (l : Launch) (G : vC) (v : Int) (hv : 0 ≤ v ∧ v ≤ 35) : Fn l G yL_wayOf cL_wayOf 1 (some .int) ({ frames := 0, cells := 0, slots := 0, locals := 0 } : Room) [.int (jI v)] ([]) (some (.int (jI (wyI v)))) ([]) := by
  refine Ct.of (by decide) (Nat.le_of_ble_eq_true rfl) (fun X hX hR => ?_)
  refine V.toLv (lv' := [(0, .int (jI v))]) rfl ?_
  refine V_iload_n hX dL_wayOf_0 0 rfl ?_
  refine V_bipush hX dL_wayOf_1 (by decide) ?_
  refine V_icmp_eq (tgt := 12) hX dL_wayOf_3 (by decide) (by omega) (by decide) (fun c_1 => ?_) (fun c_1 => ?_)
  · refine V_bipush hX dL_wayOf_12 (by decide) ?_
    refine V_goto (tgt := 21) hX dL_wayOf_14 (by decide) ?_
    exact V_iret hX hR dL_wayOf_21 ⟨(congrArg (fun z => some (Value.int (jI z))) (by unfold wyI; split <;> omega)), rfl⟩
  · refine V_iload_n hX dL_wayOf_6 0 rfl ?_
    refine V_bipush hX dL_wayOf_7 (by decide) ?_
    refine V_icmp_ne (tgt := 17) hX dL_wayOf_9 (by decide) (by omega) (by decide) (fun c_2 => ?_) (fun c_2 => ?_)
    · refine V_iload_n hX dL_wayOf_17 0 rfl ?_
      refine V_bipush hX dL_wayOf_18 (by decide) ?_
      refine V_irem hX dL_wayOf_20 (by omega) (by omega) (by omega) (by omega) rfl ?_
      exact V_iret hX hR dL_wayOf_21 ⟨(congrArg (fun z => some (Value.int (jI z))) (by unfold wyI; split <;> omega)), rfl⟩
    · refine V_bipush hX dL_wayOf_12 (by decide) ?_
      refine V_goto (tgt := 21) hX dL_wayOf_14 (by decide) ?_
      exact V_iret hX hR dL_wayOf_21 ⟨(congrArg (fun z => some (Value.int (jI z))) (by unfold wyI; split <;> omega)), rfl⟩

set_option maxHeartbeats 4000000 in
set_option maxRecDepth 100000 in
theorem c_L_seats (l : Launch) (G : vC) (d : Nat → Nat) (s : Nat → Int) (t : Int) (hI : Inv t s) : Fn l G yL_seats cL_seats 3 (some .int) ({ frames := 0, cells := 0, slots := 0, locals := 0 } : Room) [.ref (d 0)] (lB G d s) (some (.int (jI (allS s)))) (lB G d s) := by
  refine Ct.of (by decide) (Nat.le_of_ble_eq_true rfl) (fun X hX hR => ?_)
  refine V.toLv (lv' := [(0, .ref (d 0))]) rfl ?_
  have hse := hI.se
  refine V_iconst hX dL_seats_0 ?_
  refine V_istore_n (i := 1) (lv' := [(1, .int (jI 0)), (0, .ref (d 0))]) hX dL_seats_1 rfl (by decide) rfl ?_
  refine V_iconst hX dL_seats_2 ?_
  refine V_istore_n (i := 2) (lv' := [(2, .int (jI 0)), (1, .int (jI 0)), (0, .ref (d 0))]) hX dL_seats_3 rfl (by decide) rfl ?_
  refine V_iload_n hX dL_seats_4 0 rfl ?_
  refine V_bipush hX dL_seats_5 (by decide) ?_
  refine V_icmp_ge (tgt := 25) hX dL_seats_7 (by decide) (by decide) (by decide) (fun c_1 => absurd c_1 (by decide)) (fun c_1 => ?_)
  refine V_iload_n hX dL_seats_10 1 rfl ?_
  refine V_aload_n hX dL_seats_11 2 rfl ?_
  refine V_bipush hX dL_seats_12 (by decide) ?_
  refine V_iload_n hX dL_seats_14 0 rfl ?_
  refine V_iadd (c := 11) hX dL_seats_15 rfl ?_
  refine V_iald (i0 := 11) (r := (jI (s 11))) hX 0 rfl (by decide) (by decide) (by decide) rfl (by show (if 11 < 17 then jI (s (11)) else 0) = jI (s 11); rw [if_pos (by omega)]) dL_seats_16 ?_
  refine V_iadd hX dL_seats_17 rfl ?_
  refine V_istore_n (i := 1) (lv' := [(1, .int (jI (0 + (s 11)))), (2, .int (jI 0)), (0, .ref (d 0))]) hX dL_seats_18 rfl (by decide) rfl ?_
  refine V_iinc (b := 1) (lv' := [(2, .int (jI 1)), (1, .int (jI (0 + (s 11)))), (0, .ref (d 0))]) hX dL_seats_19 1 rfl rfl (by decide) rfl ?_
  refine V_goto (tgt := 4) hX dL_seats_22 (by decide) ?_
  refine V_iload_n hX dL_seats_4 0 rfl ?_
  refine V_bipush hX dL_seats_5 (by decide) ?_
  refine V_icmp_ge (tgt := 25) hX dL_seats_7 (by decide) (by decide) (by decide) (fun c_2 => absurd c_2 (by decide)) (fun c_2 => ?_)
  refine V_iload_n hX dL_seats_10 1 rfl ?_
  refine V_aload_n hX dL_seats_11 2 rfl ?_
  refine V_bipush hX dL_seats_12 (by decide) ?_
  refine V_iload_n hX dL_seats_14 0 rfl ?_
  refine V_iadd (c := 12) hX dL_seats_15 rfl ?_
  refine V_iald (i0 := 12) (r := (jI (s 12))) hX 0 rfl (by decide) (by decide) (by decide) rfl (by show (if 12 < 17 then jI (s (12)) else 0) = jI (s 12); rw [if_pos (by omega)]) dL_seats_16 ?_
  refine V_iadd hX dL_seats_17 rfl ?_
  refine V_istore_n (i := 1) (lv' := [(1, .int (jI ((0 + (s 11)) + (s 12)))), (2, .int (jI 1)), (0, .ref (d 0))]) hX dL_seats_18 rfl (by decide) rfl ?_
  refine V_iinc (b := 2) (lv' := [(2, .int (jI 2)), (1, .int (jI ((0 + (s 11)) + (s 12)))), (0, .ref (d 0))]) hX dL_seats_19 1 rfl rfl (by decide) rfl ?_
  refine V_goto (tgt := 4) hX dL_seats_22 (by decide) ?_
  refine V_iload_n hX dL_seats_4 0 rfl ?_
  refine V_bipush hX dL_seats_5 (by decide) ?_
  refine V_icmp_ge (tgt := 25) hX dL_seats_7 (by decide) (by decide) (by decide) (fun c_3 => absurd c_3 (by decide)) (fun c_3 => ?_)
  refine V_iload_n hX dL_seats_10 1 rfl ?_
  refine V_aload_n hX dL_seats_11 2 rfl ?_
  refine V_bipush hX dL_seats_12 (by decide) ?_
  refine V_iload_n hX dL_seats_14 0 rfl ?_
  refine V_iadd (c := 13) hX dL_seats_15 rfl ?_
  refine V_iald (i0 := 13) (r := (jI (s 13))) hX 0 rfl (by decide) (by decide) (by decide) rfl (by show (if 13 < 17 then jI (s (13)) else 0) = jI (s 13); rw [if_pos (by omega)]) dL_seats_16 ?_
  refine V_iadd hX dL_seats_17 rfl ?_
  refine V_istore_n (i := 1) (lv' := [(1, .int (jI (((0 + (s 11)) + (s 12)) + (s 13)))), (2, .int (jI 2)), (0, .ref (d 0))]) hX dL_seats_18 rfl (by decide) rfl ?_
  refine V_iinc (b := 3) (lv' := [(2, .int (jI 3)), (1, .int (jI (((0 + (s 11)) + (s 12)) + (s 13)))), (0, .ref (d 0))]) hX dL_seats_19 1 rfl rfl (by decide) rfl ?_
  refine V_goto (tgt := 4) hX dL_seats_22 (by decide) ?_
  refine V_iload_n hX dL_seats_4 0 rfl ?_
  refine V_bipush hX dL_seats_5 (by decide) ?_
  refine V_icmp_ge (tgt := 25) hX dL_seats_7 (by decide) (by decide) (by decide) (fun c_4 => absurd c_4 (by decide)) (fun c_4 => ?_)
  refine V_iload_n hX dL_seats_10 1 rfl ?_
  refine V_aload_n hX dL_seats_11 2 rfl ?_
  refine V_bipush hX dL_seats_12 (by decide) ?_
  refine V_iload_n hX dL_seats_14 0 rfl ?_
  refine V_iadd (c := 14) hX dL_seats_15 rfl ?_
  refine V_iald (i0 := 14) (r := (jI (s 14))) hX 0 rfl (by decide) (by decide) (by decide) rfl (by show (if 14 < 17 then jI (s (14)) else 0) = jI (s 14); rw [if_pos (by omega)]) dL_seats_16 ?_
  refine V_iadd hX dL_seats_17 rfl ?_
  refine V_istore_n (i := 1) (lv' := [(1, .int (jI ((((0 + (s 11)) + (s 12)) + (s 13)) + (s 14)))), (2, .int (jI 3)), (0, .ref (d 0))]) hX dL_seats_18 rfl (by decide) rfl ?_
  refine V_iinc (b := 4) (lv' := [(2, .int (jI 4)), (1, .int (jI ((((0 + (s 11)) + (s 12)) + (s 13)) + (s 14)))), (0, .ref (d 0))]) hX dL_seats_19 1 rfl rfl (by decide) rfl ?_
  refine V_goto (tgt := 4) hX dL_seats_22 (by decide) ?_
  refine V_iload_n hX dL_seats_4 0 rfl ?_
  refine V_bipush hX dL_seats_5 (by decide) ?_
  refine V_icmp_ge (tgt := 25) hX dL_seats_7 (by decide) (by decide) (by decide) (fun c_5 => absurd c_5 (by decide)) (fun c_5 => ?_)
  refine V_iload_n hX dL_seats_10 1 rfl ?_
  refine V_aload_n hX dL_seats_11 2 rfl ?_
  refine V_bipush hX dL_seats_12 (by decide) ?_
  refine V_iload_n hX dL_seats_14 0 rfl ?_
  refine V_iadd (c := 15) hX dL_seats_15 rfl ?_
  refine V_iald (i0 := 15) (r := (jI (s 15))) hX 0 rfl (by decide) (by decide) (by decide) rfl (by show (if 15 < 17 then jI (s (15)) else 0) = jI (s 15); rw [if_pos (by omega)]) dL_seats_16 ?_
  refine V_iadd hX dL_seats_17 rfl ?_
  refine V_istore_n (i := 1) (lv' := [(1, .int (jI (((((0 + (s 11)) + (s 12)) + (s 13)) + (s 14)) + (s 15)))), (2, .int (jI 4)), (0, .ref (d 0))]) hX dL_seats_18 rfl (by decide) rfl ?_
  refine V_iinc (b := 5) (lv' := [(2, .int (jI 5)), (1, .int (jI (((((0 + (s 11)) + (s 12)) + (s 13)) + (s 14)) + (s 15)))), (0, .ref (d 0))]) hX dL_seats_19 1 rfl rfl (by decide) rfl ?_
  refine V_goto (tgt := 4) hX dL_seats_22 (by decide) ?_
  refine V_iload_n hX dL_seats_4 0 rfl ?_
  refine V_bipush hX dL_seats_5 (by decide) ?_
  refine V_icmp_ge (tgt := 25) hX dL_seats_7 (by decide) (by decide) (by decide) (fun c_6 => absurd c_6 (by decide)) (fun c_6 => ?_)
  refine V_iload_n hX dL_seats_10 1 rfl ?_
  refine V_aload_n hX dL_seats_11 2 rfl ?_
  refine V_bipush hX dL_seats_12 (by decide) ?_
  refine V_iload_n hX dL_seats_14 0 rfl ?_
  refine V_iadd (c := 16) hX dL_seats_15 rfl ?_
  refine V_iald (i0 := 16) (r := (jI (s 16))) hX 0 rfl (by decide) (by decide) (by decide) rfl (by show (if 16 < 17 then jI (s (16)) else 0) = jI (s 16); rw [if_pos (by omega)]) dL_seats_16 ?_
  refine V_iadd hX dL_seats_17 rfl ?_
  refine V_istore_n (i := 1) (lv' := [(1, .int (jI ((((((0 + (s 11)) + (s 12)) + (s 13)) + (s 14)) + (s 15)) + (s 16)))), (2, .int (jI 5)), (0, .ref (d 0))]) hX dL_seats_18 rfl (by decide) rfl ?_
  refine V_iinc (b := 6) (lv' := [(2, .int (jI 6)), (1, .int (jI ((((((0 + (s 11)) + (s 12)) + (s 13)) + (s 14)) + (s 15)) + (s 16)))), (0, .ref (d 0))]) hX dL_seats_19 1 rfl rfl (by decide) rfl ?_
  refine V_goto (tgt := 4) hX dL_seats_22 (by decide) ?_
  refine V_iload_n hX dL_seats_4 0 rfl ?_
  refine V_bipush hX dL_seats_5 (by decide) ?_
  refine V_icmp_ge (tgt := 25) hX dL_seats_7 (by decide) (by decide) (by decide) (fun c_7 => ?_) (fun c_7 => absurd c_7 (by decide))
  refine V_iload_n hX dL_seats_25 1 rfl ?_
  exact V_iret hX hR dL_seats_26 ⟨(congrArg (fun z => some (Value.int (jI z))) (by first | rfl | (unfold allS sumK; simp [sumK]; omega))), rfl⟩

set_option maxHeartbeats 4000000 in
set_option maxRecDepth 100000 in
theorem c_L_decides (l : Launch) (G : vC) (d : Nat → Nat) (s : Nat → Int) (lb : Bool) (e : Int) (t : Int) (hI : Inv t s) (he : e = byI s lb) : Fn l G yL_decides cL_decides 8 (some .int) ({ frames := 2, cells := 0, slots := 0, locals := 58 } : Room) [.int (jI e), .ref (d 0), .ref (d 1), .ref (d 2)] (lB G d s) (some (.int (jI (bsR s (pvF s lb))))) (lB G d s) := by
  refine Ct.of (by decide) (Nat.le_of_ble_eq_true rfl) (fun X hX hR => ?_)
  refine V.toLv (lv' := [(0, .int (jI e)), (1, .ref (d 0)), (2, .ref (d 1)), (3, .ref (d 2))]) rfl ?_
  have hb := hI.base
  have hse := hI.se
  have hal := allS_b hI
  refine V_bipush hX dL_decides_0 (by decide) ?_
  refine V_istore (i := 4) (lv' := [(4, .int (jI (-5))), (0, .int (jI e)), (1, .ref (d 0)), (2, .ref (d 1)), (3, .ref (d 2))]) hX dL_decides_2 (by decide) rfl ?_
  refine V_iconst hX dL_decides_4 ?_
  refine V_istore (i := 5) (lv' := [(5, .int (jI 0)), (4, .int (jI (-5))), (0, .int (jI e)), (1, .ref (d 0)), (2, .ref (d 1)), (3, .ref (d 2))]) hX dL_decides_5 (by decide) rfl ?_
  have L7_q_1 : ∀ j : Nat, j ≤ 4 → ∀ (i1 : Int) (dd : Int), (i1 = (j : Int)) → (dd = dcN s (pvF s lb) j) → V X 0 0 (lB G d s) [(5, .int (jI i1)), (4, .int (jI dd)), (0, .int (jI e)), (1, .ref (d 0)), (2, .ref (d 1)), (3, .ref (d 2))] 7 [] := by
    refine up_ind (fun j => ∀ (i1 : Int) (dd : Int), (i1 = (j : Int)) → (dd = dcN s (pvF s lb) j) → V X 0 0 (lB G d s) [(5, .int (jI i1)), (4, .int (jI dd)), (0, .int (jI e)), (1, .ref (d 0)), (2, .ref (d 1)), (3, .ref (d 2))] 7 []) (4) ?_
    intro j hkj ihj i1 dd hi1 hdd
    refine V_iload hX dL_decides_7 0 rfl ?_
    refine V_iconst hX dL_decides_9 ?_
    refine V_icmp_ge (tgt := 91) hX dL_decides_10 (by decide) (by omega) (by decide) (fun c_2 => ?_) (fun c_2 => ?_)
    · refine V_iload hX dL_decides_91 1 rfl ?_
      exact V_iret hX hR dL_decides_93 ⟨(congrArg (fun z => some (Value.int (jI z))) (by rw [hdd, show j = 4 by omega]; exact dc_bs hI _)), rfl⟩
    · refine V_iconst hX dL_decides_13 ?_
      refine V_istore (i := 6) (lv' := [(6, .int (jI 0)), (5, .int (jI i1)), (4, .int (jI dd)), (0, .int (jI e)), (1, .ref (d 0)), (2, .ref (d 1)), (3, .ref (d 2))]) hX dL_decides_14 (by decide) rfl ?_
      refine V_iconst hX dL_decides_16 ?_
      refine V_istore (i := 7) (lv' := [(7, .int (jI 0)), (6, .int (jI 0)), (5, .int (jI i1)), (4, .int (jI dd)), (0, .int (jI e)), (1, .ref (d 0)), (2, .ref (d 1)), (3, .ref (d 2))]) hX dL_decides_17 (by decide) rfl ?_
      have L19_q_3 : ∀ k : Nat, k ≤ 6 → ∀ (i : Int) (m : Int), (i = (k : Int)) → (m = hsN s (pvF s lb) i1 k) → V X 0 0 (lB G d s) [(7, .int (jI i)), (6, .int (jI m)), (5, .int (jI i1)), (4, .int (jI dd)), (0, .int (jI e)), (1, .ref (d 0)), (2, .ref (d 1)), (3, .ref (d 2))] 19 [] := by
        refine up_ind (fun k => ∀ (i : Int) (m : Int), (i = (k : Int)) → (m = hsN s (pvF s lb) i1 k) → V X 0 0 (lB G d s) [(7, .int (jI i)), (6, .int (jI m)), (5, .int (jI i1)), (4, .int (jI dd)), (0, .int (jI e)), (1, .ref (d 0)), (2, .ref (d 1)), (3, .ref (d 2))] 19 []) (6) ?_
        intro k hk ih i m hi hm
        have hvb := vR_b hI lb i
        have hwv := wy_vR hI lb i
        have hvt := vtR_b hI lb i
        have hpv : pvF s lb k = vtR s lb (k : Int) := rfl
        rw [← hi] at hpv
        have hmb := hsN_b hI (pvF s lb) i1 k hk
        have hsk := fun hk6 => hse k hk6
        refine V_iload hX dL_decides_19 0 rfl ?_
        refine V_bipush hX dL_decides_21 (by decide) ?_
        refine V_icmp_ge (tgt := 65) hX dL_decides_23 (by decide) (by omega) (by decide) (fun c_4 => ?_) (fun c_4 => ?_)
        · have hk6 : k = 6 := by omega
          subst hk6
          have hmj : mjP s (pvF s lb) (j : Int) ↔ allS s < 2 * m := by unfold mjP; rw [hm, hi1]
          refine V_iconst hX dL_decides_65 ?_
          refine V_iload hX dL_decides_66 1 rfl ?_
          refine V_imul hX dL_decides_68 rfl ?_
          refine V_aload_n hX dL_decides_69 5 rfl ?_
          refine V_cS (st := [.int (jI (2 * m))]) (v := .int (jI (allS s))) (w' := lB G d s) hX wc_L_30 (c_L_seats l G d s t hI) (by decide) (by decide) rfl rfl (Nat.le_of_ble_eq_true rfl) dL_decides_70 [] ([]) (by simp only [List.append_assoc, List.nil_append, List.append_nil]) (by simp only [List.append_assoc, List.nil_append, List.append_nil]) rfl rfl ?_
          refine V_icmp_le (tgt := 81) hX dL_decides_73 (by decide) (by omega) (by omega) (fun c_5 => ?_) (fun c_5 => ?_)
          · refine V_iload hX dL_decides_81 3 rfl ?_
            refine V_istore (i := 4) (lv' := [(4, .int (jI dd)), (7, .int (jI i)), (6, .int (jI m)), (5, .int (jI i1)), (0, .int (jI e)), (1, .ref (d 0)), (2, .ref (d 1)), (3, .ref (d 2))]) hX dL_decides_83 (by decide) rfl ?_
            refine V_iinc (b := i1 + 1) (lv' := [(5, .int (jI (i1 + 1))), (4, .int (jI dd)), (7, .int (jI i)), (6, .int (jI m)), (0, .int (jI e)), (1, .ref (d 0)), (2, .ref (d 1)), (3, .ref (d 2))]) hX dL_decides_85 3 rfl rfl (by decide) rfl ?_
            refine V_goto (tgt := 7) hX dL_decides_88 (by decide) ?_
            refine V.sub [0, 1, 4, 5, 6, 7] rfl ?_
            exact ihj (by omega) _ _ (by omega) (by rw [dcN_s]; split <;> omega)
          · refine V_iload hX dL_decides_76 2 rfl ?_
            refine V_goto (tgt := 83) hX dL_decides_78 (by decide) ?_
            refine V_istore (i := 4) (lv' := [(4, .int (jI i1)), (7, .int (jI i)), (6, .int (jI m)), (5, .int (jI i1)), (0, .int (jI e)), (1, .ref (d 0)), (2, .ref (d 1)), (3, .ref (d 2))]) hX dL_decides_83 (by decide) rfl ?_
            refine V_iinc (b := i1 + 1) (lv' := [(5, .int (jI (i1 + 1))), (4, .int (jI i1)), (7, .int (jI i)), (6, .int (jI m)), (0, .int (jI e)), (1, .ref (d 0)), (2, .ref (d 1)), (3, .ref (d 2))]) hX dL_decides_85 3 rfl rfl (by decide) rfl ?_
            refine V_goto (tgt := 7) hX dL_decides_88 (by decide) ?_
            refine V.sub [0, 1, 4, 5, 6, 7] rfl ?_
            exact ihj (by omega) _ _ (by omega) (by rw [dcN_s]; split <;> omega)
        · refine V_iload hX dL_decides_26 1 rfl ?_
          refine V_iload hX dL_decides_28 0 rfl ?_
          refine V_iload_n hX dL_decides_30 4 rfl ?_
          refine V_aload_n hX dL_decides_31 5 rfl ?_
          refine V_aload_n hX dL_decides_32 6 rfl ?_
          refine V_aload_n hX dL_decides_33 7 rfl ?_
          refine V_cS (st := [.int (jI m)]) (v := .int (jI (vR s lb i))) (w' := lB G d s) hX wc_L_22 (c_L_votes l G d s i lb e t hI (by omega) he) (by decide) (by decide) rfl rfl (Nat.le_of_ble_eq_true rfl) dL_decides_34 [] ([]) (by simp only [List.append_assoc, List.nil_append, List.append_nil]) (by simp only [List.append_assoc, List.nil_append, List.append_nil]) rfl rfl ?_
          refine V_cS (st := [.int (jI m)]) (v := .int (jI (wyI (vR s lb i)))) (w' := lB G d s) hX wc_L_26 (c_L_wayOf l G (vR s lb i) (by omega)) (by decide) (by decide) rfl rfl (Nat.le_of_ble_eq_true rfl) dL_decides_37 [] (lB G d s) (by simp only [List.append_assoc, List.nil_append, List.append_nil]) (by simp only [List.append_assoc, List.nil_append, List.append_nil]) rfl rfl ?_
          refine V_iload hX dL_decides_40 2 rfl ?_
          refine V_icmp_ne (tgt := 55) hX dL_decides_42 (by decide) (by omega) (by omega) (fun c_6 => ?_) (fun c_6 => ?_)
          · refine V_iconst hX dL_decides_55 ?_
            refine V_iadd hX dL_decides_56 rfl ?_
            refine V_istore (i := 6) (lv' := [(6, .int (jI (m + 0))), (7, .int (jI i)), (5, .int (jI i1)), (4, .int (jI dd)), (0, .int (jI e)), (1, .ref (d 0)), (2, .ref (d 1)), (3, .ref (d 2))]) hX dL_decides_57 (by decide) rfl ?_
            refine V_iinc (b := i + 1) (lv' := [(7, .int (jI (i + 1))), (6, .int (jI (m + 0))), (5, .int (jI i1)), (4, .int (jI dd)), (0, .int (jI e)), (1, .ref (d 0)), (2, .ref (d 1)), (3, .ref (d 2))]) hX dL_decides_59 1 rfl rfl (by decide) rfl ?_
            refine V_goto (tgt := 19) hX dL_decides_62 (by decide) ?_
            refine V.sub [0, 1, 2, 3, 4, 5, 6, 7] rfl ?_
            exact ih (by omega) _ _ (by omega) (by rw [hsN_s]; split <;> omega)
          · refine V_aload_n hX dL_decides_45 5 rfl ?_
            refine V_bipush hX dL_decides_46 (by decide) ?_
            refine V_iload hX dL_decides_48 0 rfl ?_
            refine V_iadd hX dL_decides_50 rfl ?_
            refine V_iald (i0 := 11 + k) (r := (jI (s (11 + k)))) hX 0 rfl (by omega) (by omega) (by omega) (by omega) (by show (if 11 + k < 17 then jI (s (11 + k)) else 0) = jI (s (11 + k)); rw [if_pos (by omega)]) dL_decides_51 ?_
            refine V_goto (tgt := 56) hX dL_decides_52 (by decide) ?_
            refine V_iadd hX dL_decides_56 rfl ?_
            refine V_istore (i := 6) (lv' := [(6, .int (jI (m + (s (11 + k))))), (7, .int (jI i)), (5, .int (jI i1)), (4, .int (jI dd)), (0, .int (jI e)), (1, .ref (d 0)), (2, .ref (d 1)), (3, .ref (d 2))]) hX dL_decides_57 (by decide) rfl ?_
            refine V_iinc (b := i + 1) (lv' := [(7, .int (jI (i + 1))), (6, .int (jI (m + (s (11 + k))))), (5, .int (jI i1)), (4, .int (jI dd)), (0, .int (jI e)), (1, .ref (d 0)), (2, .ref (d 1)), (3, .ref (d 2))]) hX dL_decides_59 1 rfl rfl (by decide) rfl ?_
            refine V_goto (tgt := 19) hX dL_decides_62 (by decide) ?_
            refine V.sub [0, 1, 2, 3, 4, 5, 6, 7] rfl ?_
            exact ih (by omega) _ _ (by omega) (by rw [hsN_s]; split <;> omega)
      refine V.sub [0, 1, 2, 3, 4, 5, 6, 7] rfl ?_
      exact L19_q_3 0 (Nat.zero_le _) 0 0 rfl rfl
  refine V.sub [0, 1, 2, 3, 4, 5] rfl ?_
  exact L7_q_1 0 (Nat.zero_le _) 0 (-5) rfl rfl
