set_option maxHeartbeats 4000000 in
set_option maxRecDepth 100000 in
theorem c_L_ofScarecrow (l : Launch) (G : vC) (d : Nat → Nat) (s : Nat → Int) (kd : Int) (x : Int) (y : Int) (z : Int) (t : Int) (hI : Inv t s) (hrg : rgP kd x y z) (hkd : 1 ≤ kd ∧ kd ≤ 5) : Fn l G yL_ofScarecrow cL_ofScarecrow 11 (some .int) ({ frames := 1, cells := 0, slots := 0, locals := 21 } : Room) [.int (jI kd), .int (jI x), .int (jI y), .int (jI z), .ref (d 0), .ref (d 1), .ref (d 2)] (lB G d s) (some (.int (jI (caR s kd x y z)))) (lB G d (caS s kd x y z)) := by
  refine Ct.of (by decide) (Nat.le_of_ble_eq_true rfl) (fun X hX hR => ?_)
  refine V.toLv (lv' := [(0, .int (jI kd)), (1, .int (jI x)), (2, .int (jI y)), (3, .int (jI z)), (4, .ref (d 0)), (5, .ref (d 1)), (6, .ref (d 2))]) rfl ?_
  have hb := hI.base
  have hrg2 := hrg
  unfold rgP at hrg2
  refine V_iload_n hX dL_ofScarecrow_0 1 rfl ?_
  refine V_aload hX dL_ofScarecrow_1 4 rfl ?_
  refine V_bipush hX dL_ofScarecrow_3 (by decide) ?_
  refine V_iald (i0 := 10) (r := (jI (s 10))) hX 0 rfl (by decide) (by decide) (by decide) rfl (by show (if 10 < 17 then jI (s (10)) else 0) = jI (s 10); rw [if_pos (by omega)]) dL_ofScarecrow_5 ?_
  refine V_icmp_lt (tgt := 11) hX dL_ofScarecrow_6 (by decide) (by omega) (by omega) (fun c_1 => ?_) (fun c_1 => ?_)
  · have hs := hI.sc x.toNat (by omega)
    have hcN : crN s x.toNat = s (ix x.toNat 5) + s (ix x.toNat 6) + s (ix x.toNat 7) + s (ix x.toNat 8) := rfl
    refine V_iconst hX dL_ofScarecrow_11 ?_
    refine V_iload_n hX dL_ofScarecrow_12 1 rfl ?_
    refine V_imul hX dL_ofScarecrow_13 rfl ?_
    refine V_iload_n hX dL_ofScarecrow_14 0 rfl ?_
    refine V_iconst hX dL_ofScarecrow_15 ?_
    refine V_icmp_ne (tgt := 23) hX dL_ofScarecrow_16 (by decide) (by omega) (by decide) (fun c_2 => ?_) (fun c_2 => ?_)
    · refine V_iconst hX dL_ofScarecrow_23 ?_
      refine V_iadd hX dL_ofScarecrow_24 rfl ?_
      refine V_istore (i := 7) (lv' := [(7, .int (jI ((5 * x) + 3))), (0, .int (jI kd)), (1, .int (jI x)), (2, .int (jI y)), (3, .int (jI z)), (4, .ref (d 0)), (5, .ref (d 1)), (6, .ref (d 2))]) hX dL_ofScarecrow_25 (by decide) rfl ?_
      refine V_aload hX dL_ofScarecrow_27 6 rfl ?_
      refine V_iload hX dL_ofScarecrow_29 0 rfl ?_
      refine V_iald (i0 := 5 * x.toNat + 3) (r := (jI (s (ix x.toNat 3)))) hX 1 rfl (by omega) (by omega) (by omega) (by omega) (by show jI (s (ix ((5 * x.toNat + 3) / 5) ((5 * x.toNat + 3) % 5))) = jI (s (ix x.toNat 3)); rw [show ix ((5 * x.toNat + 3) / 5) ((5 * x.toNat + 3) % 5) = ix x.toNat 3 by unfold ix; omega]) dL_ofScarecrow_31 ?_
      refine V_istore (i := 8) (lv' := [(8, .int (jI (s (ix x.toNat 3)))), (7, .int (jI ((5 * x) + 3))), (0, .int (jI kd)), (1, .int (jI x)), (2, .int (jI y)), (3, .int (jI z)), (4, .ref (d 0)), (5, .ref (d 1)), (6, .ref (d 2))]) hX dL_ofScarecrow_32 (by decide) rfl ?_
      refine V_iload_n hX dL_ofScarecrow_34 2 rfl ?_
      refine V_iconst hX dL_ofScarecrow_35 ?_
      refine V_icmp_eq (tgt := 44) hX dL_ofScarecrow_36 (by decide) (by omega) (by decide) (fun c_3 => by omega) (fun c_3 => ?_)
      refine V_iload_n hX dL_ofScarecrow_39 2 rfl ?_
      refine V_iconst hX dL_ofScarecrow_40 ?_
      refine V_icmp_ne (tgt := 64) hX dL_ofScarecrow_41 (by decide) (by omega) (by decide) (fun c_4 => ?_) (fun c_4 => ?_)
      · refine V_iload_n hX dL_ofScarecrow_64 3 rfl ?_
        refine V_aload hX dL_ofScarecrow_65 8 rfl ?_
        refine V.sk (st' := [.ref (d 2), .int (jI ((x.toNat : Int)))]) (congrArg (fun z : Int => [Value.ref (d 2), Value.int (jI z)]) (show x = (x.toNat : Int) by omega)) ?_
        refine V_cS (st := []) (v := .int (jI (crN s x.toNat))) (w' := lB G d s) hX wc_L_34 (c_L_crows l G d s x.toNat (by omega)) (by decide) (by decide) rfl rfl (Nat.le_of_ble_eq_true rfl) dL_ofScarecrow_67 [] ([]) (by simp only [List.append_assoc, List.nil_append, List.append_nil]) (by simp only [List.append_assoc, List.nil_append, List.append_nil]) rfl rfl ?_
        refine V_istore (i := 9) (lv' := [(9, .int (jI (crN s x.toNat))), (8, .int (jI (s (ix x.toNat 3)))), (7, .int (jI ((5 * x) + 3))), (0, .int (jI kd)), (1, .int (jI x)), (2, .int (jI y)), (3, .int (jI z)), (4, .ref (d 0)), (5, .ref (d 1)), (6, .ref (d 2))]) hX dL_ofScarecrow_70 (by decide) rfl ?_
        refine V_iload_n hX dL_ofScarecrow_72 3 rfl ?_
        refine V_iconst hX dL_ofScarecrow_73 ?_
        refine V_icmp_ne (tgt := 131) hX dL_ofScarecrow_74 (by decide) (by omega) (by decide) (fun c_5 => ?_) (fun c_5 => ?_)
        · refine V_iload_n hX dL_ofScarecrow_131 3 rfl ?_
          refine V_iconst hX dL_ofScarecrow_132 ?_
          refine V_icmp_ne (tgt := 174) hX dL_ofScarecrow_133 (by decide) (by omega) (by decide) (fun c_6 => ?_) (fun c_6 => ?_)
          · refine V_bipush hX dL_ofScarecrow_174 (by decide) ?_
            refine V_aload hX dL_ofScarecrow_176 8 rfl ?_
            refine V_iconst hX dL_ofScarecrow_178 ?_
            refine V_iload_n hX dL_ofScarecrow_179 4 rfl ?_
            refine V_imul hX dL_ofScarecrow_180 rfl ?_
            refine V_iconst hX dL_ofScarecrow_181 ?_
            refine V_iadd hX dL_ofScarecrow_182 rfl ?_
            refine V_iald (i0 := 5 * x.toNat + 4) (r := (jI (s (ix x.toNat 4)))) hX 1 rfl (by omega) (by omega) (by omega) (by omega) (by show jI (s (ix ((5 * x.toNat + 4) / 5) ((5 * x.toNat + 4) % 5))) = jI (s (ix x.toNat 4)); rw [show ix ((5 * x.toNat + 4) / 5) ((5 * x.toNat + 4) % 5) = ix x.toNat 4 by unfold ix; omega]) dL_ofScarecrow_183 ?_
            refine V_isub hX dL_ofScarecrow_184 rfl ?_
            refine V_iload_n hX dL_ofScarecrow_185 6 rfl ?_
            refine V_icmp_ge (tgt := 203) hX dL_ofScarecrow_186 (by decide) (by omega) (by omega) (fun c_7 => ?_) (fun c_7 => ?_)
            · refine V_iload_n hX dL_ofScarecrow_203 6 rfl ?_
              refine V_istore (i := 10) (lv' := [(10, .int (jI z)), (9, .int (jI (crN s x.toNat))), (8, .int (jI (s (ix x.toNat 3)))), (7, .int (jI ((5 * x) + 3))), (0, .int (jI kd)), (1, .int (jI x)), (2, .int (jI y)), (3, .int (jI z)), (4, .ref (d 0)), (5, .ref (d 1)), (6, .ref (d 2))]) hX dL_ofScarecrow_204 (by decide) rfl ?_
              refine V_iload hX dL_ofScarecrow_206 0 rfl ?_
              refine V_aload hX dL_ofScarecrow_208 8 rfl ?_
              refine V_iconst hX dL_ofScarecrow_210 ?_
              refine V_iald (i0 := 5) (r := (jI (s 5))) hX 0 rfl (by decide) (by decide) (by decide) rfl (by show (if 5 < 17 then jI (s (5)) else 0) = jI (s 5); rw [if_pos (by omega)]) dL_ofScarecrow_211 ?_
              refine V_icmp_le (tgt := 222) hX dL_ofScarecrow_212 (by decide) (by omega) (by omega) (fun c_8 => ?_) (fun c_8 => ?_)
              · refine V_iload hX dL_ofScarecrow_222 0 rfl ?_
                refine V.sk (st' := [.int (jI (flN s x.toNat z))]) (congrArg (fun z : Int => [Value.int (jI z)]) (by unfold flN flM; (repeat' split) <;> omega)) ?_
                have hfn : 0 ≤ flN s x.toNat z ∧ flN s x.toNat z ≤ 64 ∧ flN s x.toNat z ≤ s 5 := by unfold flN flM; (repeat' split) <;> omega
                refine V_istore (i := 10) (lv' := [(10, .int (jI (flN s x.toNat z))), (9, .int (jI (crN s x.toNat))), (8, .int (jI (s (ix x.toNat 3)))), (7, .int (jI ((5 * x) + 3))), (0, .int (jI kd)), (1, .int (jI x)), (2, .int (jI y)), (3, .int (jI z)), (4, .ref (d 0)), (5, .ref (d 1)), (6, .ref (d 2))]) hX dL_ofScarecrow_224 (by decide) rfl ?_
                refine V_aload hX dL_ofScarecrow_226 9 rfl ?_
                refine V_iconst hX dL_ofScarecrow_228 ?_
                refine V_iload_n hX dL_ofScarecrow_229 5 rfl ?_
                refine V_imul hX dL_ofScarecrow_230 rfl ?_
                refine V_iconst hX dL_ofScarecrow_231 ?_
                refine V_iadd hX dL_ofScarecrow_232 rfl ?_
                refine V_dup2 hX dL_ofScarecrow_233 rfl rfl ?_
                refine V_iald (i0 := 5 * x.toNat + 4) (r := (jI (s (ix x.toNat 4)))) hX 1 rfl (by omega) (by omega) (by omega) (by omega) (by show jI (s (ix ((5 * x.toNat + 4) / 5) ((5 * x.toNat + 4) % 5))) = jI (s (ix x.toNat 4)); rw [show ix ((5 * x.toNat + 4) / 5) ((5 * x.toNat + 4) % 5) = ix x.toNat 4 by unfold ix; omega]) dL_ofScarecrow_234 ?_
                refine V_iload hX dL_ofScarecrow_235 0 rfl ?_
                refine V_iadd hX dL_ofScarecrow_237 rfl ?_
                refine V_iast (i0 := 5 * x.toNat + 4) (w' := lB G d (up s (ix x.toNat 4) ((s (ix x.toNat 4)) + (flN s x.toNat z)))) hX 1 rfl (by omega) (by omega) (by omega) (by omega) dL_ofScarecrow_238 (lB_a G _ _ x.toNat 4 _ (by omega)) ?_
                refine V_aload hX dL_ofScarecrow_239 8 rfl ?_
                refine V_iconst hX dL_ofScarecrow_241 ?_
                refine V_dup2 hX dL_ofScarecrow_242 rfl rfl ?_
                refine V_iald (i0 := 5) (r := (jI (s 5))) hX 0 rfl (by decide) (by decide) (by decide) rfl (by show (if 5 < 17 then jI ((up s (ix x.toNat 4) ((s (ix x.toNat 4)) + (flN s x.toNat z))) (5)) else 0) = jI (s 5); rw [if_pos (by omega), up_ne (by unfold ix; omega)]) dL_ofScarecrow_243 ?_
                refine V_iload hX dL_ofScarecrow_244 0 rfl ?_
                refine V_isub hX dL_ofScarecrow_246 rfl ?_
                refine V_iast (i0 := 5) (w' := lB G d (up (up s (ix x.toNat 4) ((s (ix x.toNat 4)) + (flN s x.toNat z))) 5 ((s 5) - (flN s x.toNat z)))) hX 0 rfl (by decide) (by decide) (by decide) rfl dL_ofScarecrow_247 (lB_q G _ _ 5 _ (by omega)) ?_
                refine V_iload hX dL_ofScarecrow_248 0 rfl ?_
                refine V_if_ne (tgt := 258) hX dL_ofScarecrow_250 (by decide) (by omega) (fun c_9 => ?_) (fun c_9 => ?_)
                · refine V_iload hX dL_ofScarecrow_258 0 rfl ?_
                  exact V_iret hX hR dL_ofScarecrow_260 ⟨(congrArg (fun z => some (Value.int (jI z))) (by first | (have q : kd = 1 := by omega; subst q; show _ = brR s x y; unfold brR; (repeat' split) <;> omega) | (have q : kd = 2 := by omega; subst q; show _ = thR s x y; unfold thR; (repeat' split) <;> omega) | (have q : kd = 3 := by omega; subst q; show _ = tcR s x y; unfold tcR; (repeat' split) <;> omega) | (have q : kd = 4 := by omega; subst q; show _ = soR s x; unfold soR; (repeat' split) <;> omega) | (have q : kd = 5 := by omega; subst q; show _ = stR s x z; unfold stR; (repeat' split) <;> omega) | (unfold caR brR thR tcR soR stR; (repeat' split) <;> omega))), (congrArg (lB G d) (by first | (have q : kd = 1 := by omega; subst q; show _ = brS s x y; unfold brS; split <;> first | rfl | omega | exact (up_same (by omega)).symm | (exfalso; omega)) | (have q : kd = 2 := by omega; subst q; show _ = thS s x y; unfold thS; split <;> first | rfl | omega | exact (up_same (by omega)).symm | (exfalso; omega)) | (have q : kd = 3 := by omega; subst q; show _ = tcS s x y; unfold tcS; split <;> first | rfl | omega | exact (up_same (by omega)).symm | (exfalso; omega)) | (have q : kd = 4 := by omega; subst q; show _ = soS s x; unfold soS; split <;> first | rfl | omega | exact (up_same (by omega)).symm | (exfalso; omega)) | (have q : kd = 5 := by omega; subst q; show _ = stS s x z; unfold stS; split <;> first | rfl | omega | exact (up_same (by omega)).symm | (exfalso; omega)) | (unfold caS brS thS tcS soS stS; (repeat' split) <;> first | rfl | omega | exact (up_same (by omega)).symm | (exfalso; omega))))⟩
                · refine V_bipush hX dL_ofScarecrow_253 (by decide) ?_
                  refine V_goto (tgt := 260) hX dL_ofScarecrow_255 (by decide) ?_
                  exact V_iret hX hR dL_ofScarecrow_260 ⟨(congrArg (fun z => some (Value.int (jI z))) (by first | (have q : kd = 1 := by omega; subst q; show _ = brR s x y; unfold brR; (repeat' split) <;> omega) | (have q : kd = 2 := by omega; subst q; show _ = thR s x y; unfold thR; (repeat' split) <;> omega) | (have q : kd = 3 := by omega; subst q; show _ = tcR s x y; unfold tcR; (repeat' split) <;> omega) | (have q : kd = 4 := by omega; subst q; show _ = soR s x; unfold soR; (repeat' split) <;> omega) | (have q : kd = 5 := by omega; subst q; show _ = stR s x z; unfold stR; (repeat' split) <;> omega) | (unfold caR brR thR tcR soR stR; (repeat' split) <;> omega))), (congrArg (lB G d) (by first | (have q : kd = 1 := by omega; subst q; show _ = brS s x y; unfold brS; split <;> first | rfl | omega | exact (up_same (by omega)).symm | (exfalso; omega)) | (have q : kd = 2 := by omega; subst q; show _ = thS s x y; unfold thS; split <;> first | rfl | omega | exact (up_same (by omega)).symm | (exfalso; omega)) | (have q : kd = 3 := by omega; subst q; show _ = tcS s x y; unfold tcS; split <;> first | rfl | omega | exact (up_same (by omega)).symm | (exfalso; omega)) | (have q : kd = 4 := by omega; subst q; show _ = soS s x; unfold soS; split <;> first | rfl | omega | exact (up_same (by omega)).symm | (exfalso; omega)) | (have q : kd = 5 := by omega; subst q; show _ = stS s x z; unfold stS; split <;> first | rfl | omega | exact (up_same (by omega)).symm | (exfalso; omega)) | (unfold caS brS thS tcS soS stS; (repeat' split) <;> first | rfl | omega | exact (up_same (by omega)).symm | (exfalso; omega))))⟩
              · refine V_aload hX dL_ofScarecrow_215 8 rfl ?_
                refine V_iconst hX dL_ofScarecrow_217 ?_
                refine V_iald (i0 := 5) (r := (jI (s 5))) hX 0 rfl (by decide) (by decide) (by decide) rfl (by show (if 5 < 17 then jI (s (5)) else 0) = jI (s 5); rw [if_pos (by omega)]) dL_ofScarecrow_218 ?_
                refine V_goto (tgt := 224) hX dL_ofScarecrow_219 (by decide) ?_
                refine V.sk (st' := [.int (jI (flN s x.toNat z))]) (congrArg (fun z : Int => [Value.int (jI z)]) (by unfold flN flM; (repeat' split) <;> omega)) ?_
                have hfn : 0 ≤ flN s x.toNat z ∧ flN s x.toNat z ≤ 64 ∧ flN s x.toNat z ≤ s 5 := by unfold flN flM; (repeat' split) <;> omega
                refine V_istore (i := 10) (lv' := [(10, .int (jI (flN s x.toNat z))), (9, .int (jI (crN s x.toNat))), (8, .int (jI (s (ix x.toNat 3)))), (7, .int (jI ((5 * x) + 3))), (0, .int (jI kd)), (1, .int (jI x)), (2, .int (jI y)), (3, .int (jI z)), (4, .ref (d 0)), (5, .ref (d 1)), (6, .ref (d 2))]) hX dL_ofScarecrow_224 (by decide) rfl ?_
                refine V_aload hX dL_ofScarecrow_226 9 rfl ?_
                refine V_iconst hX dL_ofScarecrow_228 ?_
                refine V_iload_n hX dL_ofScarecrow_229 5 rfl ?_
                refine V_imul hX dL_ofScarecrow_230 rfl ?_
                refine V_iconst hX dL_ofScarecrow_231 ?_
                refine V_iadd hX dL_ofScarecrow_232 rfl ?_
                refine V_dup2 hX dL_ofScarecrow_233 rfl rfl ?_
                refine V_iald (i0 := 5 * x.toNat + 4) (r := (jI (s (ix x.toNat 4)))) hX 1 rfl (by omega) (by omega) (by omega) (by omega) (by show jI (s (ix ((5 * x.toNat + 4) / 5) ((5 * x.toNat + 4) % 5))) = jI (s (ix x.toNat 4)); rw [show ix ((5 * x.toNat + 4) / 5) ((5 * x.toNat + 4) % 5) = ix x.toNat 4 by unfold ix; omega]) dL_ofScarecrow_234 ?_
                refine V_iload hX dL_ofScarecrow_235 0 rfl ?_
                refine V_iadd hX dL_ofScarecrow_237 rfl ?_
                refine V_iast (i0 := 5 * x.toNat + 4) (w' := lB G d (up s (ix x.toNat 4) ((s (ix x.toNat 4)) + (flN s x.toNat z)))) hX 1 rfl (by omega) (by omega) (by omega) (by omega) dL_ofScarecrow_238 (lB_a G _ _ x.toNat 4 _ (by omega)) ?_
                refine V_aload hX dL_ofScarecrow_239 8 rfl ?_
                refine V_iconst hX dL_ofScarecrow_241 ?_
                refine V_dup2 hX dL_ofScarecrow_242 rfl rfl ?_
                refine V_iald (i0 := 5) (r := (jI (s 5))) hX 0 rfl (by decide) (by decide) (by decide) rfl (by show (if 5 < 17 then jI ((up s (ix x.toNat 4) ((s (ix x.toNat 4)) + (flN s x.toNat z))) (5)) else 0) = jI (s 5); rw [if_pos (by omega), up_ne (by unfold ix; omega)]) dL_ofScarecrow_243 ?_
                refine V_iload hX dL_ofScarecrow_244 0 rfl ?_
                refine V_isub hX dL_ofScarecrow_246 rfl ?_
                refine V_iast (i0 := 5) (w' := lB G d (up (up s (ix x.toNat 4) ((s (ix x.toNat 4)) + (flN s x.toNat z))) 5 ((s 5) - (flN s x.toNat z)))) hX 0 rfl (by decide) (by decide) (by decide) rfl dL_ofScarecrow_247 (lB_q G _ _ 5 _ (by omega)) ?_
                refine V_iload hX dL_ofScarecrow_248 0 rfl ?_
                refine V_if_ne (tgt := 258) hX dL_ofScarecrow_250 (by decide) (by omega) (fun c_10 => ?_) (fun c_10 => ?_)
                · refine V_iload hX dL_ofScarecrow_258 0 rfl ?_
                  exact V_iret hX hR dL_ofScarecrow_260 ⟨(congrArg (fun z => some (Value.int (jI z))) (by first | (have q : kd = 1 := by omega; subst q; show _ = brR s x y; unfold brR; (repeat' split) <;> omega) | (have q : kd = 2 := by omega; subst q; show _ = thR s x y; unfold thR; (repeat' split) <;> omega) | (have q : kd = 3 := by omega; subst q; show _ = tcR s x y; unfold tcR; (repeat' split) <;> omega) | (have q : kd = 4 := by omega; subst q; show _ = soR s x; unfold soR; (repeat' split) <;> omega) | (have q : kd = 5 := by omega; subst q; show _ = stR s x z; unfold stR; (repeat' split) <;> omega) | (unfold caR brR thR tcR soR stR; (repeat' split) <;> omega))), (congrArg (lB G d) (by first | (have q : kd = 1 := by omega; subst q; show _ = brS s x y; unfold brS; split <;> first | rfl | omega | exact (up_same (by omega)).symm | (exfalso; omega)) | (have q : kd = 2 := by omega; subst q; show _ = thS s x y; unfold thS; split <;> first | rfl | omega | exact (up_same (by omega)).symm | (exfalso; omega)) | (have q : kd = 3 := by omega; subst q; show _ = tcS s x y; unfold tcS; split <;> first | rfl | omega | exact (up_same (by omega)).symm | (exfalso; omega)) | (have q : kd = 4 := by omega; subst q; show _ = soS s x; unfold soS; split <;> first | rfl | omega | exact (up_same (by omega)).symm | (exfalso; omega)) | (have q : kd = 5 := by omega; subst q; show _ = stS s x z; unfold stS; split <;> first | rfl | omega | exact (up_same (by omega)).symm | (exfalso; omega)) | (unfold caS brS thS tcS soS stS; (repeat' split) <;> first | rfl | omega | exact (up_same (by omega)).symm | (exfalso; omega))))⟩
                · refine V_bipush hX dL_ofScarecrow_253 (by decide) ?_
                  refine V_goto (tgt := 260) hX dL_ofScarecrow_255 (by decide) ?_
                  exact V_iret hX hR dL_ofScarecrow_260 ⟨(congrArg (fun z => some (Value.int (jI z))) (by first | (have q : kd = 1 := by omega; subst q; show _ = brR s x y; unfold brR; (repeat' split) <;> omega) | (have q : kd = 2 := by omega; subst q; show _ = thR s x y; unfold thR; (repeat' split) <;> omega) | (have q : kd = 3 := by omega; subst q; show _ = tcR s x y; unfold tcR; (repeat' split) <;> omega) | (have q : kd = 4 := by omega; subst q; show _ = soR s x; unfold soR; (repeat' split) <;> omega) | (have q : kd = 5 := by omega; subst q; show _ = stR s x z; unfold stR; (repeat' split) <;> omega) | (unfold caR brR thR tcR soR stR; (repeat' split) <;> omega))), (congrArg (lB G d) (by first | (have q : kd = 1 := by omega; subst q; show _ = brS s x y; unfold brS; split <;> first | rfl | omega | exact (up_same (by omega)).symm | (exfalso; omega)) | (have q : kd = 2 := by omega; subst q; show _ = thS s x y; unfold thS; split <;> first | rfl | omega | exact (up_same (by omega)).symm | (exfalso; omega)) | (have q : kd = 3 := by omega; subst q; show _ = tcS s x y; unfold tcS; split <;> first | rfl | omega | exact (up_same (by omega)).symm | (exfalso; omega)) | (have q : kd = 4 := by omega; subst q; show _ = soS s x; unfold soS; split <;> first | rfl | omega | exact (up_same (by omega)).symm | (exfalso; omega)) | (have q : kd = 5 := by omega; subst q; show _ = stS s x z; unfold stS; split <;> first | rfl | omega | exact (up_same (by omega)).symm | (exfalso; omega)) | (unfold caS brS thS tcS soS stS; (repeat' split) <;> first | rfl | omega | exact (up_same (by omega)).symm | (exfalso; omega))))⟩
            · refine V_bipush hX dL_ofScarecrow_189 (by decide) ?_
              refine V_aload hX dL_ofScarecrow_191 8 rfl ?_
              refine V_iconst hX dL_ofScarecrow_193 ?_
              refine V_iload_n hX dL_ofScarecrow_194 4 rfl ?_
              refine V_imul hX dL_ofScarecrow_195 rfl ?_
              refine V_iconst hX dL_ofScarecrow_196 ?_
              refine V_iadd hX dL_ofScarecrow_197 rfl ?_
              refine V_iald (i0 := 5 * x.toNat + 4) (r := (jI (s (ix x.toNat 4)))) hX 1 rfl (by omega) (by omega) (by omega) (by omega) (by show jI (s (ix ((5 * x.toNat + 4) / 5) ((5 * x.toNat + 4) % 5))) = jI (s (ix x.toNat 4)); rw [show ix ((5 * x.toNat + 4) / 5) ((5 * x.toNat + 4) % 5) = ix x.toNat 4 by unfold ix; omega]) dL_ofScarecrow_198 ?_
              refine V_isub hX dL_ofScarecrow_199 rfl ?_
              refine V_goto (tgt := 204) hX dL_ofScarecrow_200 (by decide) ?_
              refine V_istore (i := 10) (lv' := [(10, .int (jI (64 - (s (ix x.toNat 4))))), (9, .int (jI (crN s x.toNat))), (8, .int (jI (s (ix x.toNat 3)))), (7, .int (jI ((5 * x) + 3))), (0, .int (jI kd)), (1, .int (jI x)), (2, .int (jI y)), (3, .int (jI z)), (4, .ref (d 0)), (5, .ref (d 1)), (6, .ref (d 2))]) hX dL_ofScarecrow_204 (by decide) rfl ?_
              refine V_iload hX dL_ofScarecrow_206 0 rfl ?_
              refine V_aload hX dL_ofScarecrow_208 8 rfl ?_
              refine V_iconst hX dL_ofScarecrow_210 ?_
              refine V_iald (i0 := 5) (r := (jI (s 5))) hX 0 rfl (by decide) (by decide) (by decide) rfl (by show (if 5 < 17 then jI (s (5)) else 0) = jI (s 5); rw [if_pos (by omega)]) dL_ofScarecrow_211 ?_
              refine V_icmp_le (tgt := 222) hX dL_ofScarecrow_212 (by decide) (by omega) (by omega) (fun c_11 => ?_) (fun c_11 => ?_)
              · refine V_iload hX dL_ofScarecrow_222 0 rfl ?_
                refine V.sk (st' := [.int (jI (flN s x.toNat z))]) (congrArg (fun z : Int => [Value.int (jI z)]) (by unfold flN flM; (repeat' split) <;> omega)) ?_
                have hfn : 0 ≤ flN s x.toNat z ∧ flN s x.toNat z ≤ 64 ∧ flN s x.toNat z ≤ s 5 := by unfold flN flM; (repeat' split) <;> omega
                refine V_istore (i := 10) (lv' := [(10, .int (jI (flN s x.toNat z))), (9, .int (jI (crN s x.toNat))), (8, .int (jI (s (ix x.toNat 3)))), (7, .int (jI ((5 * x) + 3))), (0, .int (jI kd)), (1, .int (jI x)), (2, .int (jI y)), (3, .int (jI z)), (4, .ref (d 0)), (5, .ref (d 1)), (6, .ref (d 2))]) hX dL_ofScarecrow_224 (by decide) rfl ?_
                refine V_aload hX dL_ofScarecrow_226 9 rfl ?_
                refine V_iconst hX dL_ofScarecrow_228 ?_
                refine V_iload_n hX dL_ofScarecrow_229 5 rfl ?_
                refine V_imul hX dL_ofScarecrow_230 rfl ?_
                refine V_iconst hX dL_ofScarecrow_231 ?_
                refine V_iadd hX dL_ofScarecrow_232 rfl ?_
                refine V_dup2 hX dL_ofScarecrow_233 rfl rfl ?_
                refine V_iald (i0 := 5 * x.toNat + 4) (r := (jI (s (ix x.toNat 4)))) hX 1 rfl (by omega) (by omega) (by omega) (by omega) (by show jI (s (ix ((5 * x.toNat + 4) / 5) ((5 * x.toNat + 4) % 5))) = jI (s (ix x.toNat 4)); rw [show ix ((5 * x.toNat + 4) / 5) ((5 * x.toNat + 4) % 5) = ix x.toNat 4 by unfold ix; omega]) dL_ofScarecrow_234 ?_
                refine V_iload hX dL_ofScarecrow_235 0 rfl ?_
                refine V_iadd hX dL_ofScarecrow_237 rfl ?_
                refine V_iast (i0 := 5 * x.toNat + 4) (w' := lB G d (up s (ix x.toNat 4) ((s (ix x.toNat 4)) + (flN s x.toNat z)))) hX 1 rfl (by omega) (by omega) (by omega) (by omega) dL_ofScarecrow_238 (lB_a G _ _ x.toNat 4 _ (by omega)) ?_
                refine V_aload hX dL_ofScarecrow_239 8 rfl ?_
                refine V_iconst hX dL_ofScarecrow_241 ?_
                refine V_dup2 hX dL_ofScarecrow_242 rfl rfl ?_
                refine V_iald (i0 := 5) (r := (jI (s 5))) hX 0 rfl (by decide) (by decide) (by decide) rfl (by show (if 5 < 17 then jI ((up s (ix x.toNat 4) ((s (ix x.toNat 4)) + (flN s x.toNat z))) (5)) else 0) = jI (s 5); rw [if_pos (by omega), up_ne (by unfold ix; omega)]) dL_ofScarecrow_243 ?_
                refine V_iload hX dL_ofScarecrow_244 0 rfl ?_
                refine V_isub hX dL_ofScarecrow_246 rfl ?_
                refine V_iast (i0 := 5) (w' := lB G d (up (up s (ix x.toNat 4) ((s (ix x.toNat 4)) + (flN s x.toNat z))) 5 ((s 5) - (flN s x.toNat z)))) hX 0 rfl (by decide) (by decide) (by decide) rfl dL_ofScarecrow_247 (lB_q G _ _ 5 _ (by omega)) ?_
                refine V_iload hX dL_ofScarecrow_248 0 rfl ?_
                refine V_if_ne (tgt := 258) hX dL_ofScarecrow_250 (by decide) (by omega) (fun c_12 => ?_) (fun c_12 => ?_)
                · refine V_iload hX dL_ofScarecrow_258 0 rfl ?_
                  exact V_iret hX hR dL_ofScarecrow_260 ⟨(congrArg (fun z => some (Value.int (jI z))) (by first | (have q : kd = 1 := by omega; subst q; show _ = brR s x y; unfold brR; (repeat' split) <;> omega) | (have q : kd = 2 := by omega; subst q; show _ = thR s x y; unfold thR; (repeat' split) <;> omega) | (have q : kd = 3 := by omega; subst q; show _ = tcR s x y; unfold tcR; (repeat' split) <;> omega) | (have q : kd = 4 := by omega; subst q; show _ = soR s x; unfold soR; (repeat' split) <;> omega) | (have q : kd = 5 := by omega; subst q; show _ = stR s x z; unfold stR; (repeat' split) <;> omega) | (unfold caR brR thR tcR soR stR; (repeat' split) <;> omega))), (congrArg (lB G d) (by first | (have q : kd = 1 := by omega; subst q; show _ = brS s x y; unfold brS; split <;> first | rfl | omega | exact (up_same (by omega)).symm | (exfalso; omega)) | (have q : kd = 2 := by omega; subst q; show _ = thS s x y; unfold thS; split <;> first | rfl | omega | exact (up_same (by omega)).symm | (exfalso; omega)) | (have q : kd = 3 := by omega; subst q; show _ = tcS s x y; unfold tcS; split <;> first | rfl | omega | exact (up_same (by omega)).symm | (exfalso; omega)) | (have q : kd = 4 := by omega; subst q; show _ = soS s x; unfold soS; split <;> first | rfl | omega | exact (up_same (by omega)).symm | (exfalso; omega)) | (have q : kd = 5 := by omega; subst q; show _ = stS s x z; unfold stS; split <;> first | rfl | omega | exact (up_same (by omega)).symm | (exfalso; omega)) | (unfold caS brS thS tcS soS stS; (repeat' split) <;> first | rfl | omega | exact (up_same (by omega)).symm | (exfalso; omega))))⟩
                · refine V_bipush hX dL_ofScarecrow_253 (by decide) ?_
                  refine V_goto (tgt := 260) hX dL_ofScarecrow_255 (by decide) ?_
                  exact V_iret hX hR dL_ofScarecrow_260 ⟨(congrArg (fun z => some (Value.int (jI z))) (by first | (have q : kd = 1 := by omega; subst q; show _ = brR s x y; unfold brR; (repeat' split) <;> omega) | (have q : kd = 2 := by omega; subst q; show _ = thR s x y; unfold thR; (repeat' split) <;> omega) | (have q : kd = 3 := by omega; subst q; show _ = tcR s x y; unfold tcR; (repeat' split) <;> omega) | (have q : kd = 4 := by omega; subst q; show _ = soR s x; unfold soR; (repeat' split) <;> omega) | (have q : kd = 5 := by omega; subst q; show _ = stR s x z; unfold stR; (repeat' split) <;> omega) | (unfold caR brR thR tcR soR stR; (repeat' split) <;> omega))), (congrArg (lB G d) (by first | (have q : kd = 1 := by omega; subst q; show _ = brS s x y; unfold brS; split <;> first | rfl | omega | exact (up_same (by omega)).symm | (exfalso; omega)) | (have q : kd = 2 := by omega; subst q; show _ = thS s x y; unfold thS; split <;> first | rfl | omega | exact (up_same (by omega)).symm | (exfalso; omega)) | (have q : kd = 3 := by omega; subst q; show _ = tcS s x y; unfold tcS; split <;> first | rfl | omega | exact (up_same (by omega)).symm | (exfalso; omega)) | (have q : kd = 4 := by omega; subst q; show _ = soS s x; unfold soS; split <;> first | rfl | omega | exact (up_same (by omega)).symm | (exfalso; omega)) | (have q : kd = 5 := by omega; subst q; show _ = stS s x z; unfold stS; split <;> first | rfl | omega | exact (up_same (by omega)).symm | (exfalso; omega)) | (unfold caS brS thS tcS soS stS; (repeat' split) <;> first | rfl | omega | exact (up_same (by omega)).symm | (exfalso; omega))))⟩
              · refine V_aload hX dL_ofScarecrow_215 8 rfl ?_
                refine V_iconst hX dL_ofScarecrow_217 ?_
                refine V_iald (i0 := 5) (r := (jI (s 5))) hX 0 rfl (by decide) (by decide) (by decide) rfl (by show (if 5 < 17 then jI (s (5)) else 0) = jI (s 5); rw [if_pos (by omega)]) dL_ofScarecrow_218 ?_
                refine V_goto (tgt := 224) hX dL_ofScarecrow_219 (by decide) ?_
                refine V.sk (st' := [.int (jI (flN s x.toNat z))]) (congrArg (fun z : Int => [Value.int (jI z)]) (by unfold flN flM; (repeat' split) <;> omega)) ?_
                have hfn : 0 ≤ flN s x.toNat z ∧ flN s x.toNat z ≤ 64 ∧ flN s x.toNat z ≤ s 5 := by unfold flN flM; (repeat' split) <;> omega
                refine V_istore (i := 10) (lv' := [(10, .int (jI (flN s x.toNat z))), (9, .int (jI (crN s x.toNat))), (8, .int (jI (s (ix x.toNat 3)))), (7, .int (jI ((5 * x) + 3))), (0, .int (jI kd)), (1, .int (jI x)), (2, .int (jI y)), (3, .int (jI z)), (4, .ref (d 0)), (5, .ref (d 1)), (6, .ref (d 2))]) hX dL_ofScarecrow_224 (by decide) rfl ?_
                refine V_aload hX dL_ofScarecrow_226 9 rfl ?_
                refine V_iconst hX dL_ofScarecrow_228 ?_
                refine V_iload_n hX dL_ofScarecrow_229 5 rfl ?_
                refine V_imul hX dL_ofScarecrow_230 rfl ?_
                refine V_iconst hX dL_ofScarecrow_231 ?_
                refine V_iadd hX dL_ofScarecrow_232 rfl ?_
                refine V_dup2 hX dL_ofScarecrow_233 rfl rfl ?_
                refine V_iald (i0 := 5 * x.toNat + 4) (r := (jI (s (ix x.toNat 4)))) hX 1 rfl (by omega) (by omega) (by omega) (by omega) (by show jI (s (ix ((5 * x.toNat + 4) / 5) ((5 * x.toNat + 4) % 5))) = jI (s (ix x.toNat 4)); rw [show ix ((5 * x.toNat + 4) / 5) ((5 * x.toNat + 4) % 5) = ix x.toNat 4 by unfold ix; omega]) dL_ofScarecrow_234 ?_
                refine V_iload hX dL_ofScarecrow_235 0 rfl ?_
                refine V_iadd hX dL_ofScarecrow_237 rfl ?_
                refine V_iast (i0 := 5 * x.toNat + 4) (w' := lB G d (up s (ix x.toNat 4) ((s (ix x.toNat 4)) + (flN s x.toNat z)))) hX 1 rfl (by omega) (by omega) (by omega) (by omega) dL_ofScarecrow_238 (lB_a G _ _ x.toNat 4 _ (by omega)) ?_
                refine V_aload hX dL_ofScarecrow_239 8 rfl ?_
                refine V_iconst hX dL_ofScarecrow_241 ?_
                refine V_dup2 hX dL_ofScarecrow_242 rfl rfl ?_
                refine V_iald (i0 := 5) (r := (jI (s 5))) hX 0 rfl (by decide) (by decide) (by decide) rfl (by show (if 5 < 17 then jI ((up s (ix x.toNat 4) ((s (ix x.toNat 4)) + (flN s x.toNat z))) (5)) else 0) = jI (s 5); rw [if_pos (by omega), up_ne (by unfold ix; omega)]) dL_ofScarecrow_243 ?_
                refine V_iload hX dL_ofScarecrow_244 0 rfl ?_
                refine V_isub hX dL_ofScarecrow_246 rfl ?_
                refine V_iast (i0 := 5) (w' := lB G d (up (up s (ix x.toNat 4) ((s (ix x.toNat 4)) + (flN s x.toNat z))) 5 ((s 5) - (flN s x.toNat z)))) hX 0 rfl (by decide) (by decide) (by decide) rfl dL_ofScarecrow_247 (lB_q G _ _ 5 _ (by omega)) ?_
                refine V_iload hX dL_ofScarecrow_248 0 rfl ?_
                refine V_if_ne (tgt := 258) hX dL_ofScarecrow_250 (by decide) (by omega) (fun c_13 => ?_) (fun c_13 => ?_)
                · refine V_iload hX dL_ofScarecrow_258 0 rfl ?_
                  exact V_iret hX hR dL_ofScarecrow_260 ⟨(congrArg (fun z => some (Value.int (jI z))) (by first | (have q : kd = 1 := by omega; subst q; show _ = brR s x y; unfold brR; (repeat' split) <;> omega) | (have q : kd = 2 := by omega; subst q; show _ = thR s x y; unfold thR; (repeat' split) <;> omega) | (have q : kd = 3 := by omega; subst q; show _ = tcR s x y; unfold tcR; (repeat' split) <;> omega) | (have q : kd = 4 := by omega; subst q; show _ = soR s x; unfold soR; (repeat' split) <;> omega) | (have q : kd = 5 := by omega; subst q; show _ = stR s x z; unfold stR; (repeat' split) <;> omega) | (unfold caR brR thR tcR soR stR; (repeat' split) <;> omega))), (congrArg (lB G d) (by first | (have q : kd = 1 := by omega; subst q; show _ = brS s x y; unfold brS; split <;> first | rfl | omega | exact (up_same (by omega)).symm | (exfalso; omega)) | (have q : kd = 2 := by omega; subst q; show _ = thS s x y; unfold thS; split <;> first | rfl | omega | exact (up_same (by omega)).symm | (exfalso; omega)) | (have q : kd = 3 := by omega; subst q; show _ = tcS s x y; unfold tcS; split <;> first | rfl | omega | exact (up_same (by omega)).symm | (exfalso; omega)) | (have q : kd = 4 := by omega; subst q; show _ = soS s x; unfold soS; split <;> first | rfl | omega | exact (up_same (by omega)).symm | (exfalso; omega)) | (have q : kd = 5 := by omega; subst q; show _ = stS s x z; unfold stS; split <;> first | rfl | omega | exact (up_same (by omega)).symm | (exfalso; omega)) | (unfold caS brS thS tcS soS stS; (repeat' split) <;> first | rfl | omega | exact (up_same (by omega)).symm | (exfalso; omega))))⟩
                · refine V_bipush hX dL_ofScarecrow_253 (by decide) ?_
                  refine V_goto (tgt := 260) hX dL_ofScarecrow_255 (by decide) ?_
                  exact V_iret hX hR dL_ofScarecrow_260 ⟨(congrArg (fun z => some (Value.int (jI z))) (by first | (have q : kd = 1 := by omega; subst q; show _ = brR s x y; unfold brR; (repeat' split) <;> omega) | (have q : kd = 2 := by omega; subst q; show _ = thR s x y; unfold thR; (repeat' split) <;> omega) | (have q : kd = 3 := by omega; subst q; show _ = tcR s x y; unfold tcR; (repeat' split) <;> omega) | (have q : kd = 4 := by omega; subst q; show _ = soR s x; unfold soR; (repeat' split) <;> omega) | (have q : kd = 5 := by omega; subst q; show _ = stR s x z; unfold stR; (repeat' split) <;> omega) | (unfold caR brR thR tcR soR stR; (repeat' split) <;> omega))), (congrArg (lB G d) (by first | (have q : kd = 1 := by omega; subst q; show _ = brS s x y; unfold brS; split <;> first | rfl | omega | exact (up_same (by omega)).symm | (exfalso; omega)) | (have q : kd = 2 := by omega; subst q; show _ = thS s x y; unfold thS; split <;> first | rfl | omega | exact (up_same (by omega)).symm | (exfalso; omega)) | (have q : kd = 3 := by omega; subst q; show _ = tcS s x y; unfold tcS; split <;> first | rfl | omega | exact (up_same (by omega)).symm | (exfalso; omega)) | (have q : kd = 4 := by omega; subst q; show _ = soS s x; unfold soS; split <;> first | rfl | omega | exact (up_same (by omega)).symm | (exfalso; omega)) | (have q : kd = 5 := by omega; subst q; show _ = stS s x z; unfold stS; split <;> first | rfl | omega | exact (up_same (by omega)).symm | (exfalso; omega)) | (unfold caS brS thS tcS soS stS; (repeat' split) <;> first | rfl | omega | exact (up_same (by omega)).symm | (exfalso; omega))))⟩
          · refine V_iconst hX dL_ofScarecrow_136 ?_
            refine V_istore (i := 10) (lv' := [(10, .int (jI 0)), (9, .int (jI (crN s x.toNat))), (8, .int (jI (s (ix x.toNat 3)))), (7, .int (jI ((5 * x) + 3))), (0, .int (jI kd)), (1, .int (jI x)), (2, .int (jI y)), (3, .int (jI z)), (4, .ref (d 0)), (5, .ref (d 1)), (6, .ref (d 2))]) hX dL_ofScarecrow_137 (by decide) rfl ?_
            refine V_iload hX dL_ofScarecrow_139 0 rfl ?_
            refine V_iconst hX dL_ofScarecrow_141 ?_
            refine V_icmp_ge (tgt := 161) hX dL_ofScarecrow_142 (by decide) (by decide) (by decide) (fun c_14 => absurd c_14 (by decide)) (fun c_14 => ?_)
            refine V_aload hX dL_ofScarecrow_145 10 rfl ?_
            refine V_iconst hX dL_ofScarecrow_147 ?_
            refine V_iload_n hX dL_ofScarecrow_148 5 rfl ?_
            refine V_imul hX dL_ofScarecrow_149 rfl ?_
            refine V_iload hX dL_ofScarecrow_150 0 rfl ?_
            refine V_iadd hX dL_ofScarecrow_152 rfl ?_
            refine V_iconst hX dL_ofScarecrow_153 ?_
            refine V_iast (i0 := 4 * x.toNat + 0) (w' := lB G d (up s (ix x.toNat 5) 0)) hX 2 rfl (by omega) (by omega) (by omega) (by omega) dL_ofScarecrow_154 (lB_cr G _ _ x.toNat 0 _ (by omega)) ?_
            refine V_iinc (b := 1) (lv' := [(10, .int (jI 1)), (9, .int (jI (crN s x.toNat))), (8, .int (jI (s (ix x.toNat 3)))), (7, .int (jI ((5 * x) + 3))), (0, .int (jI kd)), (1, .int (jI x)), (2, .int (jI y)), (3, .int (jI z)), (4, .ref (d 0)), (5, .ref (d 1)), (6, .ref (d 2))]) hX dL_ofScarecrow_155 0 rfl rfl (by decide) rfl ?_
            refine V_goto (tgt := 139) hX dL_ofScarecrow_158 (by decide) ?_
            refine V_iload hX dL_ofScarecrow_139 0 rfl ?_
            refine V_iconst hX dL_ofScarecrow_141 ?_
            refine V_icmp_ge (tgt := 161) hX dL_ofScarecrow_142 (by decide) (by decide) (by decide) (fun c_15 => absurd c_15 (by decide)) (fun c_15 => ?_)
            refine V_aload hX dL_ofScarecrow_145 10 rfl ?_
            refine V_iconst hX dL_ofScarecrow_147 ?_
            refine V_iload_n hX dL_ofScarecrow_148 5 rfl ?_
            refine V_imul hX dL_ofScarecrow_149 rfl ?_
            refine V_iload hX dL_ofScarecrow_150 0 rfl ?_
            refine V_iadd hX dL_ofScarecrow_152 rfl ?_
            refine V_iconst hX dL_ofScarecrow_153 ?_
            refine V_iast (i0 := 4 * x.toNat + 1) (w' := lB G d (up (up s (ix x.toNat 5) 0) (ix x.toNat 6) 0)) hX 2 rfl (by omega) (by omega) (by omega) (by omega) dL_ofScarecrow_154 (lB_cr G _ _ x.toNat 1 _ (by omega)) ?_
            refine V_iinc (b := 2) (lv' := [(10, .int (jI 2)), (9, .int (jI (crN s x.toNat))), (8, .int (jI (s (ix x.toNat 3)))), (7, .int (jI ((5 * x) + 3))), (0, .int (jI kd)), (1, .int (jI x)), (2, .int (jI y)), (3, .int (jI z)), (4, .ref (d 0)), (5, .ref (d 1)), (6, .ref (d 2))]) hX dL_ofScarecrow_155 0 rfl rfl (by decide) rfl ?_
            refine V_goto (tgt := 139) hX dL_ofScarecrow_158 (by decide) ?_
            refine V_iload hX dL_ofScarecrow_139 0 rfl ?_
            refine V_iconst hX dL_ofScarecrow_141 ?_
            refine V_icmp_ge (tgt := 161) hX dL_ofScarecrow_142 (by decide) (by decide) (by decide) (fun c_16 => absurd c_16 (by decide)) (fun c_16 => ?_)
            refine V_aload hX dL_ofScarecrow_145 10 rfl ?_
            refine V_iconst hX dL_ofScarecrow_147 ?_
            refine V_iload_n hX dL_ofScarecrow_148 5 rfl ?_
            refine V_imul hX dL_ofScarecrow_149 rfl ?_
            refine V_iload hX dL_ofScarecrow_150 0 rfl ?_
            refine V_iadd hX dL_ofScarecrow_152 rfl ?_
            refine V_iconst hX dL_ofScarecrow_153 ?_
            refine V_iast (i0 := 4 * x.toNat + 2) (w' := lB G d (up (up (up s (ix x.toNat 5) 0) (ix x.toNat 6) 0) (ix x.toNat 7) 0)) hX 2 rfl (by omega) (by omega) (by omega) (by omega) dL_ofScarecrow_154 (lB_cr G _ _ x.toNat 2 _ (by omega)) ?_
            refine V_iinc (b := 3) (lv' := [(10, .int (jI 3)), (9, .int (jI (crN s x.toNat))), (8, .int (jI (s (ix x.toNat 3)))), (7, .int (jI ((5 * x) + 3))), (0, .int (jI kd)), (1, .int (jI x)), (2, .int (jI y)), (3, .int (jI z)), (4, .ref (d 0)), (5, .ref (d 1)), (6, .ref (d 2))]) hX dL_ofScarecrow_155 0 rfl rfl (by decide) rfl ?_
            refine V_goto (tgt := 139) hX dL_ofScarecrow_158 (by decide) ?_
            refine V_iload hX dL_ofScarecrow_139 0 rfl ?_
            refine V_iconst hX dL_ofScarecrow_141 ?_
            refine V_icmp_ge (tgt := 161) hX dL_ofScarecrow_142 (by decide) (by decide) (by decide) (fun c_17 => absurd c_17 (by decide)) (fun c_17 => ?_)
            refine V_aload hX dL_ofScarecrow_145 10 rfl ?_
            refine V_iconst hX dL_ofScarecrow_147 ?_
            refine V_iload_n hX dL_ofScarecrow_148 5 rfl ?_
            refine V_imul hX dL_ofScarecrow_149 rfl ?_
            refine V_iload hX dL_ofScarecrow_150 0 rfl ?_
            refine V_iadd hX dL_ofScarecrow_152 rfl ?_
            refine V_iconst hX dL_ofScarecrow_153 ?_
            refine V_iast (i0 := 4 * x.toNat + 3) (w' := lB G d (up (up (up (up s (ix x.toNat 5) 0) (ix x.toNat 6) 0) (ix x.toNat 7) 0) (ix x.toNat 8) 0)) hX 2 rfl (by omega) (by omega) (by omega) (by omega) dL_ofScarecrow_154 (lB_cr G _ _ x.toNat 3 _ (by omega)) ?_
            refine V_iinc (b := 4) (lv' := [(10, .int (jI 4)), (9, .int (jI (crN s x.toNat))), (8, .int (jI (s (ix x.toNat 3)))), (7, .int (jI ((5 * x) + 3))), (0, .int (jI kd)), (1, .int (jI x)), (2, .int (jI y)), (3, .int (jI z)), (4, .ref (d 0)), (5, .ref (d 1)), (6, .ref (d 2))]) hX dL_ofScarecrow_155 0 rfl rfl (by decide) rfl ?_
            refine V_goto (tgt := 139) hX dL_ofScarecrow_158 (by decide) ?_
            refine V_iload hX dL_ofScarecrow_139 0 rfl ?_
            refine V_iconst hX dL_ofScarecrow_141 ?_
            refine V_icmp_ge (tgt := 161) hX dL_ofScarecrow_142 (by decide) (by decide) (by decide) (fun c_18 => ?_) (fun c_18 => absurd c_18 (by decide))
            refine V_iload hX dL_ofScarecrow_161 1 rfl ?_
            refine V_if_ne (tgt := 171) hX dL_ofScarecrow_163 (by decide) (by omega) (fun c_19 => ?_) (fun c_19 => ?_)
            · refine V_iload hX dL_ofScarecrow_171 1 rfl ?_
              exact V_iret hX hR dL_ofScarecrow_173 ⟨(congrArg (fun z => some (Value.int (jI z))) (by first | (have q : kd = 1 := by omega; subst q; show _ = brR s x y; unfold brR; (repeat' split) <;> omega) | (have q : kd = 2 := by omega; subst q; show _ = thR s x y; unfold thR; (repeat' split) <;> omega) | (have q : kd = 3 := by omega; subst q; show _ = tcR s x y; unfold tcR; (repeat' split) <;> omega) | (have q : kd = 4 := by omega; subst q; show _ = soR s x; unfold soR; (repeat' split) <;> omega) | (have q : kd = 5 := by omega; subst q; show _ = stR s x z; unfold stR; (repeat' split) <;> omega) | (unfold caR brR thR tcR soR stR; (repeat' split) <;> omega))), (congrArg (lB G d) (by first | (have q : kd = 1 := by omega; subst q; show _ = brS s x y; unfold brS; split <;> first | rfl | omega | exact (up_same (by omega)).symm | (exfalso; omega)) | (have q : kd = 2 := by omega; subst q; show _ = thS s x y; unfold thS; split <;> first | rfl | omega | exact (up_same (by omega)).symm | (exfalso; omega)) | (have q : kd = 3 := by omega; subst q; show _ = tcS s x y; unfold tcS; split <;> first | rfl | omega | exact (up_same (by omega)).symm | (exfalso; omega)) | (have q : kd = 4 := by omega; subst q; show _ = soS s x; unfold soS; split <;> first | rfl | omega | exact (up_same (by omega)).symm | (exfalso; omega)) | (have q : kd = 5 := by omega; subst q; show _ = stS s x z; unfold stS; split <;> first | rfl | omega | exact (up_same (by omega)).symm | (exfalso; omega)) | (unfold caS brS thS tcS soS stS; (repeat' split) <;> first | rfl | omega | exact (up_same (by omega)).symm | (exfalso; omega))))⟩
            · refine V_bipush hX dL_ofScarecrow_166 (by decide) ?_
              refine V_goto (tgt := 173) hX dL_ofScarecrow_168 (by decide) ?_
              exact V_iret hX hR dL_ofScarecrow_173 ⟨(congrArg (fun z => some (Value.int (jI z))) (by first | (have q : kd = 1 := by omega; subst q; show _ = brR s x y; unfold brR; (repeat' split) <;> omega) | (have q : kd = 2 := by omega; subst q; show _ = thR s x y; unfold thR; (repeat' split) <;> omega) | (have q : kd = 3 := by omega; subst q; show _ = tcR s x y; unfold tcR; (repeat' split) <;> omega) | (have q : kd = 4 := by omega; subst q; show _ = soR s x; unfold soR; (repeat' split) <;> omega) | (have q : kd = 5 := by omega; subst q; show _ = stR s x z; unfold stR; (repeat' split) <;> omega) | (unfold caR brR thR tcR soR stR; (repeat' split) <;> omega))), (congrArg (lB G d) (by first | (have q : kd = 1 := by omega; subst q; show _ = brS s x y; unfold brS; split <;> first | rfl | omega | exact (up_same (by omega)).symm | (exfalso; omega)) | (have q : kd = 2 := by omega; subst q; show _ = thS s x y; unfold thS; split <;> first | rfl | omega | exact (up_same (by omega)).symm | (exfalso; omega)) | (have q : kd = 3 := by omega; subst q; show _ = tcS s x y; unfold tcS; split <;> first | rfl | omega | exact (up_same (by omega)).symm | (exfalso; omega)) | (have q : kd = 4 := by omega; subst q; show _ = soS s x; unfold soS; split <;> first | rfl | omega | exact (up_same (by omega)).symm | (exfalso; omega)) | (have q : kd = 5 := by omega; subst q; show _ = stS s x z; unfold stS; split <;> first | rfl | omega | exact (up_same (by omega)).symm | (exfalso; omega)) | (unfold caS brS thS tcS soS stS; (repeat' split) <;> first | rfl | omega | exact (up_same (by omega)).symm | (exfalso; omega))))⟩
        · refine V_aload hX dL_ofScarecrow_77 8 rfl ?_
          refine V_iconst hX dL_ofScarecrow_79 ?_
          refine V_iload_n hX dL_ofScarecrow_80 4 rfl ?_
          refine V_imul hX dL_ofScarecrow_81 rfl ?_
          refine V_iconst hX dL_ofScarecrow_82 ?_
          refine V_iadd hX dL_ofScarecrow_83 rfl ?_
          refine V_iald (i0 := 5 * x.toNat + 4) (r := (jI (s (ix x.toNat 4)))) hX 1 rfl (by omega) (by omega) (by omega) (by omega) (by show jI (s (ix ((5 * x.toNat + 4) / 5) ((5 * x.toNat + 4) % 5))) = jI (s (ix x.toNat 4)); rw [show ix ((5 * x.toNat + 4) / 5) ((5 * x.toNat + 4) % 5) = ix x.toNat 4 by unfold ix; omega]) dL_ofScarecrow_84 ?_
          refine V_if_eq (tgt := 95) hX dL_ofScarecrow_85 (by decide) (by omega) (fun c_20 => ?_) (fun c_20 => ?_)
          · refine V_aload hX dL_ofScarecrow_95 8 rfl ?_
            refine V_iconst hX dL_ofScarecrow_97 ?_
            refine V_iload_n hX dL_ofScarecrow_98 4 rfl ?_
            refine V_imul hX dL_ofScarecrow_99 rfl ?_
            refine V_iconst hX dL_ofScarecrow_100 ?_
            refine V_iadd hX dL_ofScarecrow_101 rfl ?_
            refine V_iald (i0 := 5 * x.toNat + 4) (r := (jI (s (ix x.toNat 4)))) hX 1 rfl (by omega) (by omega) (by omega) (by omega) (by show jI (s (ix ((5 * x.toNat + 4) / 5) ((5 * x.toNat + 4) % 5))) = jI (s (ix x.toNat 4)); rw [show ix ((5 * x.toNat + 4) / 5) ((5 * x.toNat + 4) % 5) = ix x.toNat 4 by unfold ix; omega]) dL_ofScarecrow_102 ?_
            refine V_if_ne (tgt := 111) hX dL_ofScarecrow_103 (by decide) (by omega) (fun c_21 => by omega) (fun c_21 => ?_)
            refine V_bipush hX dL_ofScarecrow_106 (by decide) ?_
            refine V_goto (tgt := 113) hX dL_ofScarecrow_108 (by decide) ?_
            exact V_iret hX hR dL_ofScarecrow_113 ⟨(congrArg (fun z => some (Value.int (jI z))) (by first | (have q : kd = 1 := by omega; subst q; show _ = brR s x y; unfold brR; (repeat' split) <;> omega) | (have q : kd = 2 := by omega; subst q; show _ = thR s x y; unfold thR; (repeat' split) <;> omega) | (have q : kd = 3 := by omega; subst q; show _ = tcR s x y; unfold tcR; (repeat' split) <;> omega) | (have q : kd = 4 := by omega; subst q; show _ = soR s x; unfold soR; (repeat' split) <;> omega) | (have q : kd = 5 := by omega; subst q; show _ = stR s x z; unfold stR; (repeat' split) <;> omega) | (unfold caR brR thR tcR soR stR; (repeat' split) <;> omega))), (congrArg (lB G d) (by first | (have q : kd = 1 := by omega; subst q; show _ = brS s x y; unfold brS; split <;> first | rfl | omega | exact (up_same (by omega)).symm | (exfalso; omega)) | (have q : kd = 2 := by omega; subst q; show _ = thS s x y; unfold thS; split <;> first | rfl | omega | exact (up_same (by omega)).symm | (exfalso; omega)) | (have q : kd = 3 := by omega; subst q; show _ = tcS s x y; unfold tcS; split <;> first | rfl | omega | exact (up_same (by omega)).symm | (exfalso; omega)) | (have q : kd = 4 := by omega; subst q; show _ = soS s x; unfold soS; split <;> first | rfl | omega | exact (up_same (by omega)).symm | (exfalso; omega)) | (have q : kd = 5 := by omega; subst q; show _ = stS s x z; unfold stS; split <;> first | rfl | omega | exact (up_same (by omega)).symm | (exfalso; omega)) | (unfold caS brS thS tcS soS stS; (repeat' split) <;> first | rfl | omega | exact (up_same (by omega)).symm | (exfalso; omega))))⟩
          · refine V_iload hX dL_ofScarecrow_88 0 rfl ?_
            refine V_bipush hX dL_ofScarecrow_90 (by decide) ?_
            refine V_icmp_ne (tgt := 114) hX dL_ofScarecrow_92 (by decide) (by omega) (by decide) (fun c_22 => ?_) (fun c_22 => ?_)
            · have hcr := hI.cr x.toNat y.toNat (by omega) (by omega)
              refine V_aload hX dL_ofScarecrow_114 9 rfl ?_
              refine V_iconst hX dL_ofScarecrow_116 ?_
              refine V_iload_n hX dL_ofScarecrow_117 4 rfl ?_
              refine V_imul hX dL_ofScarecrow_118 rfl ?_
              refine V_iload_n hX dL_ofScarecrow_119 5 rfl ?_
              refine V_iadd hX dL_ofScarecrow_120 rfl ?_
              refine V_dup2 hX dL_ofScarecrow_121 rfl rfl ?_
              refine V_iald (i0 := 4 * x.toNat + y.toNat) (r := (jI (s (ix x.toNat (5 + y.toNat))))) hX 2 rfl (by omega) (by omega) (by omega) (by omega) (by show jI (s (ix ((4 * x.toNat + y.toNat) / 4) (5 + (4 * x.toNat + y.toNat) % 4))) = jI (s (ix x.toNat (5 + y.toNat))); rw [show ix ((4 * x.toNat + y.toNat) / 4) (5 + (4 * x.toNat + y.toNat) % 4) = ix x.toNat (5 + y.toNat) by unfold ix; omega]) dL_ofScarecrow_122 ?_
              refine V_iconst hX dL_ofScarecrow_123 ?_
              refine V_iadd hX dL_ofScarecrow_124 rfl ?_
              refine V_iast (i0 := 4 * x.toNat + y.toNat) (w' := lB G d (up s (ix x.toNat (5 + y.toNat)) ((s (ix x.toNat (5 + y.toNat))) + 1))) hX 2 rfl (by omega) (by omega) (by omega) (by omega) dL_ofScarecrow_125 (lB_cr G _ _ x.toNat y.toNat _ (by omega)) ?_
              refine V_iload hX dL_ofScarecrow_126 0 rfl ?_
              refine V_iconst hX dL_ofScarecrow_128 ?_
              refine V_iadd hX dL_ofScarecrow_129 rfl ?_
              exact V_iret hX hR dL_ofScarecrow_130 ⟨(congrArg (fun z => some (Value.int (jI z))) (by first | (have q : kd = 1 := by omega; subst q; show _ = brR s x y; unfold brR; (repeat' split) <;> omega) | (have q : kd = 2 := by omega; subst q; show _ = thR s x y; unfold thR; (repeat' split) <;> omega) | (have q : kd = 3 := by omega; subst q; show _ = tcR s x y; unfold tcR; (repeat' split) <;> omega) | (have q : kd = 4 := by omega; subst q; show _ = soR s x; unfold soR; (repeat' split) <;> omega) | (have q : kd = 5 := by omega; subst q; show _ = stR s x z; unfold stR; (repeat' split) <;> omega) | (unfold caR brR thR tcR soR stR; (repeat' split) <;> omega))), (congrArg (lB G d) (by first | (have q : kd = 1 := by omega; subst q; show _ = brS s x y; unfold brS; split <;> first | rfl | omega | exact (up_same (by omega)).symm | (exfalso; omega)) | (have q : kd = 2 := by omega; subst q; show _ = thS s x y; unfold thS; split <;> first | rfl | omega | exact (up_same (by omega)).symm | (exfalso; omega)) | (have q : kd = 3 := by omega; subst q; show _ = tcS s x y; unfold tcS; split <;> first | rfl | omega | exact (up_same (by omega)).symm | (exfalso; omega)) | (have q : kd = 4 := by omega; subst q; show _ = soS s x; unfold soS; split <;> first | rfl | omega | exact (up_same (by omega)).symm | (exfalso; omega)) | (have q : kd = 5 := by omega; subst q; show _ = stS s x z; unfold stS; split <;> first | rfl | omega | exact (up_same (by omega)).symm | (exfalso; omega)) | (unfold caS brS thS tcS soS stS; (repeat' split) <;> first | rfl | omega | exact (up_same (by omega)).symm | (exfalso; omega))))⟩
            · refine V_aload hX dL_ofScarecrow_95 8 rfl ?_
              refine V_iconst hX dL_ofScarecrow_97 ?_
              refine V_iload_n hX dL_ofScarecrow_98 4 rfl ?_
              refine V_imul hX dL_ofScarecrow_99 rfl ?_
              refine V_iconst hX dL_ofScarecrow_100 ?_
              refine V_iadd hX dL_ofScarecrow_101 rfl ?_
              refine V_iald (i0 := 5 * x.toNat + 4) (r := (jI (s (ix x.toNat 4)))) hX 1 rfl (by omega) (by omega) (by omega) (by omega) (by show jI (s (ix ((5 * x.toNat + 4) / 5) ((5 * x.toNat + 4) % 5))) = jI (s (ix x.toNat 4)); rw [show ix ((5 * x.toNat + 4) / 5) ((5 * x.toNat + 4) % 5) = ix x.toNat 4 by unfold ix; omega]) dL_ofScarecrow_102 ?_
              refine V_if_ne (tgt := 111) hX dL_ofScarecrow_103 (by decide) (by omega) (fun c_23 => ?_) (fun c_23 => by omega)
              refine V_bipush hX dL_ofScarecrow_111 (by decide) ?_
              exact V_iret hX hR dL_ofScarecrow_113 ⟨(congrArg (fun z => some (Value.int (jI z))) (by first | (have q : kd = 1 := by omega; subst q; show _ = brR s x y; unfold brR; (repeat' split) <;> omega) | (have q : kd = 2 := by omega; subst q; show _ = thR s x y; unfold thR; (repeat' split) <;> omega) | (have q : kd = 3 := by omega; subst q; show _ = tcR s x y; unfold tcR; (repeat' split) <;> omega) | (have q : kd = 4 := by omega; subst q; show _ = soR s x; unfold soR; (repeat' split) <;> omega) | (have q : kd = 5 := by omega; subst q; show _ = stR s x z; unfold stR; (repeat' split) <;> omega) | (unfold caR brR thR tcR soR stR; (repeat' split) <;> omega))), (congrArg (lB G d) (by first | (have q : kd = 1 := by omega; subst q; show _ = brS s x y; unfold brS; split <;> first | rfl | omega | exact (up_same (by omega)).symm | (exfalso; omega)) | (have q : kd = 2 := by omega; subst q; show _ = thS s x y; unfold thS; split <;> first | rfl | omega | exact (up_same (by omega)).symm | (exfalso; omega)) | (have q : kd = 3 := by omega; subst q; show _ = tcS s x y; unfold tcS; split <;> first | rfl | omega | exact (up_same (by omega)).symm | (exfalso; omega)) | (have q : kd = 4 := by omega; subst q; show _ = soS s x; unfold soS; split <;> first | rfl | omega | exact (up_same (by omega)).symm | (exfalso; omega)) | (have q : kd = 5 := by omega; subst q; show _ = stS s x z; unfold stS; split <;> first | rfl | omega | exact (up_same (by omega)).symm | (exfalso; omega)) | (unfold caS brS thS tcS soS stS; (repeat' split) <;> first | rfl | omega | exact (up_same (by omega)).symm | (exfalso; omega))))⟩
      · refine V_aload hX dL_ofScarecrow_44 7 rfl ?_
        refine V_iload hX dL_ofScarecrow_46 1 rfl ?_
        refine V_iload_n hX dL_ofScarecrow_48 4 rfl ?_
        refine V_iast (i0 := 5 * x.toNat + 3) (w' := lB G d (up s (ix x.toNat 3) y)) hX 1 rfl (by omega) (by omega) (by omega) (by omega) dL_ofScarecrow_49 (lB_a G _ _ x.toNat 3 _ (by omega)) ?_
        refine V_iload hX dL_ofScarecrow_50 0 rfl ?_
        refine V_iload_n hX dL_ofScarecrow_52 4 rfl ?_
        refine V_icmp_ne (tgt := 61) hX dL_ofScarecrow_53 (by decide) (by omega) (by omega) (fun c_24 => ?_) (fun c_24 => ?_)
        · refine V_iload hX dL_ofScarecrow_61 0 rfl ?_
          exact V_iret hX hR dL_ofScarecrow_63 ⟨(congrArg (fun z => some (Value.int (jI z))) (by first | (have q : kd = 1 := by omega; subst q; show _ = brR s x y; unfold brR; (repeat' split) <;> omega) | (have q : kd = 2 := by omega; subst q; show _ = thR s x y; unfold thR; (repeat' split) <;> omega) | (have q : kd = 3 := by omega; subst q; show _ = tcR s x y; unfold tcR; (repeat' split) <;> omega) | (have q : kd = 4 := by omega; subst q; show _ = soR s x; unfold soR; (repeat' split) <;> omega) | (have q : kd = 5 := by omega; subst q; show _ = stR s x z; unfold stR; (repeat' split) <;> omega) | (unfold caR brR thR tcR soR stR; (repeat' split) <;> omega))), (congrArg (lB G d) (by first | (have q : kd = 1 := by omega; subst q; show _ = brS s x y; unfold brS; split <;> first | rfl | omega | exact (up_same (by omega)).symm | (exfalso; omega)) | (have q : kd = 2 := by omega; subst q; show _ = thS s x y; unfold thS; split <;> first | rfl | omega | exact (up_same (by omega)).symm | (exfalso; omega)) | (have q : kd = 3 := by omega; subst q; show _ = tcS s x y; unfold tcS; split <;> first | rfl | omega | exact (up_same (by omega)).symm | (exfalso; omega)) | (have q : kd = 4 := by omega; subst q; show _ = soS s x; unfold soS; split <;> first | rfl | omega | exact (up_same (by omega)).symm | (exfalso; omega)) | (have q : kd = 5 := by omega; subst q; show _ = stS s x z; unfold stS; split <;> first | rfl | omega | exact (up_same (by omega)).symm | (exfalso; omega)) | (unfold caS brS thS tcS soS stS; (repeat' split) <;> first | rfl | omega | exact (up_same (by omega)).symm | (exfalso; omega))))⟩
        · refine V_bipush hX dL_ofScarecrow_56 (by decide) ?_
          refine V_goto (tgt := 63) hX dL_ofScarecrow_58 (by decide) ?_
          exact V_iret hX hR dL_ofScarecrow_63 ⟨(congrArg (fun z => some (Value.int (jI z))) (by first | (have q : kd = 1 := by omega; subst q; show _ = brR s x y; unfold brR; (repeat' split) <;> omega) | (have q : kd = 2 := by omega; subst q; show _ = thR s x y; unfold thR; (repeat' split) <;> omega) | (have q : kd = 3 := by omega; subst q; show _ = tcR s x y; unfold tcR; (repeat' split) <;> omega) | (have q : kd = 4 := by omega; subst q; show _ = soR s x; unfold soR; (repeat' split) <;> omega) | (have q : kd = 5 := by omega; subst q; show _ = stR s x z; unfold stR; (repeat' split) <;> omega) | (unfold caR brR thR tcR soR stR; (repeat' split) <;> omega))), (congrArg (lB G d) (by first | (have q : kd = 1 := by omega; subst q; show _ = brS s x y; unfold brS; split <;> first | rfl | omega | exact (up_same (by omega)).symm | (exfalso; omega)) | (have q : kd = 2 := by omega; subst q; show _ = thS s x y; unfold thS; split <;> first | rfl | omega | exact (up_same (by omega)).symm | (exfalso; omega)) | (have q : kd = 3 := by omega; subst q; show _ = tcS s x y; unfold tcS; split <;> first | rfl | omega | exact (up_same (by omega)).symm | (exfalso; omega)) | (have q : kd = 4 := by omega; subst q; show _ = soS s x; unfold soS; split <;> first | rfl | omega | exact (up_same (by omega)).symm | (exfalso; omega)) | (have q : kd = 5 := by omega; subst q; show _ = stS s x z; unfold stS; split <;> first | rfl | omega | exact (up_same (by omega)).symm | (exfalso; omega)) | (unfold caS brS thS tcS soS stS; (repeat' split) <;> first | rfl | omega | exact (up_same (by omega)).symm | (exfalso; omega))))⟩
    · refine V_iconst hX dL_ofScarecrow_19 ?_
      refine V_goto (tgt := 24) hX dL_ofScarecrow_20 (by decide) ?_
      refine V_iadd hX dL_ofScarecrow_24 rfl ?_
      refine V_istore (i := 7) (lv' := [(7, .int (jI ((5 * x) + 0))), (0, .int (jI kd)), (1, .int (jI x)), (2, .int (jI y)), (3, .int (jI z)), (4, .ref (d 0)), (5, .ref (d 1)), (6, .ref (d 2))]) hX dL_ofScarecrow_25 (by decide) rfl ?_
      refine V_aload hX dL_ofScarecrow_27 6 rfl ?_
      refine V_iload hX dL_ofScarecrow_29 0 rfl ?_
      refine V_iald (i0 := 5 * x.toNat + 0) (r := (jI (s (ix x.toNat 0)))) hX 1 rfl (by omega) (by omega) (by omega) (by omega) (by show jI (s (ix ((5 * x.toNat + 0) / 5) ((5 * x.toNat + 0) % 5))) = jI (s (ix x.toNat 0)); rw [show ix ((5 * x.toNat + 0) / 5) ((5 * x.toNat + 0) % 5) = ix x.toNat 0 by unfold ix; omega]) dL_ofScarecrow_31 ?_
      refine V_istore (i := 8) (lv' := [(8, .int (jI (s (ix x.toNat 0)))), (7, .int (jI ((5 * x) + 0))), (0, .int (jI kd)), (1, .int (jI x)), (2, .int (jI y)), (3, .int (jI z)), (4, .ref (d 0)), (5, .ref (d 1)), (6, .ref (d 2))]) hX dL_ofScarecrow_32 (by decide) rfl ?_
      refine V_iload_n hX dL_ofScarecrow_34 2 rfl ?_
      refine V_iconst hX dL_ofScarecrow_35 ?_
      refine V_icmp_eq (tgt := 44) hX dL_ofScarecrow_36 (by decide) (by omega) (by decide) (fun c_25 => ?_) (fun c_25 => by omega)
      refine V_aload hX dL_ofScarecrow_44 7 rfl ?_
      refine V_iload hX dL_ofScarecrow_46 1 rfl ?_
      refine V_iload_n hX dL_ofScarecrow_48 4 rfl ?_
      refine V_iast (i0 := 5 * x.toNat + 0) (w' := lB G d (up s (ix x.toNat 0) y)) hX 1 rfl (by omega) (by omega) (by omega) (by omega) dL_ofScarecrow_49 (lB_a G _ _ x.toNat 0 _ (by omega)) ?_
      refine V_iload hX dL_ofScarecrow_50 0 rfl ?_
      refine V_iload_n hX dL_ofScarecrow_52 4 rfl ?_
      refine V_icmp_ne (tgt := 61) hX dL_ofScarecrow_53 (by decide) (by omega) (by omega) (fun c_26 => ?_) (fun c_26 => ?_)
      · refine V_iload hX dL_ofScarecrow_61 0 rfl ?_
        exact V_iret hX hR dL_ofScarecrow_63 ⟨(congrArg (fun z => some (Value.int (jI z))) (by first | (have q : kd = 1 := by omega; subst q; show _ = brR s x y; unfold brR; (repeat' split) <;> omega) | (have q : kd = 2 := by omega; subst q; show _ = thR s x y; unfold thR; (repeat' split) <;> omega) | (have q : kd = 3 := by omega; subst q; show _ = tcR s x y; unfold tcR; (repeat' split) <;> omega) | (have q : kd = 4 := by omega; subst q; show _ = soR s x; unfold soR; (repeat' split) <;> omega) | (have q : kd = 5 := by omega; subst q; show _ = stR s x z; unfold stR; (repeat' split) <;> omega) | (unfold caR brR thR tcR soR stR; (repeat' split) <;> omega))), (congrArg (lB G d) (by first | (have q : kd = 1 := by omega; subst q; show _ = brS s x y; unfold brS; split <;> first | rfl | omega | exact (up_same (by omega)).symm | (exfalso; omega)) | (have q : kd = 2 := by omega; subst q; show _ = thS s x y; unfold thS; split <;> first | rfl | omega | exact (up_same (by omega)).symm | (exfalso; omega)) | (have q : kd = 3 := by omega; subst q; show _ = tcS s x y; unfold tcS; split <;> first | rfl | omega | exact (up_same (by omega)).symm | (exfalso; omega)) | (have q : kd = 4 := by omega; subst q; show _ = soS s x; unfold soS; split <;> first | rfl | omega | exact (up_same (by omega)).symm | (exfalso; omega)) | (have q : kd = 5 := by omega; subst q; show _ = stS s x z; unfold stS; split <;> first | rfl | omega | exact (up_same (by omega)).symm | (exfalso; omega)) | (unfold caS brS thS tcS soS stS; (repeat' split) <;> first | rfl | omega | exact (up_same (by omega)).symm | (exfalso; omega))))⟩
      · refine V_bipush hX dL_ofScarecrow_56 (by decide) ?_
        refine V_goto (tgt := 63) hX dL_ofScarecrow_58 (by decide) ?_
        exact V_iret hX hR dL_ofScarecrow_63 ⟨(congrArg (fun z => some (Value.int (jI z))) (by first | (have q : kd = 1 := by omega; subst q; show _ = brR s x y; unfold brR; (repeat' split) <;> omega) | (have q : kd = 2 := by omega; subst q; show _ = thR s x y; unfold thR; (repeat' split) <;> omega) | (have q : kd = 3 := by omega; subst q; show _ = tcR s x y; unfold tcR; (repeat' split) <;> omega) | (have q : kd = 4 := by omega; subst q; show _ = soR s x; unfold soR; (repeat' split) <;> omega) | (have q : kd = 5 := by omega; subst q; show _ = stR s x z; unfold stR; (repeat' split) <;> omega) | (unfold caR brR thR tcR soR stR; (repeat' split) <;> omega))), (congrArg (lB G d) (by first | (have q : kd = 1 := by omega; subst q; show _ = brS s x y; unfold brS; split <;> first | rfl | omega | exact (up_same (by omega)).symm | (exfalso; omega)) | (have q : kd = 2 := by omega; subst q; show _ = thS s x y; unfold thS; split <;> first | rfl | omega | exact (up_same (by omega)).symm | (exfalso; omega)) | (have q : kd = 3 := by omega; subst q; show _ = tcS s x y; unfold tcS; split <;> first | rfl | omega | exact (up_same (by omega)).symm | (exfalso; omega)) | (have q : kd = 4 := by omega; subst q; show _ = soS s x; unfold soS; split <;> first | rfl | omega | exact (up_same (by omega)).symm | (exfalso; omega)) | (have q : kd = 5 := by omega; subst q; show _ = stS s x z; unfold stS; split <;> first | rfl | omega | exact (up_same (by omega)).symm | (exfalso; omega)) | (unfold caS brS thS tcS soS stS; (repeat' split) <;> first | rfl | omega | exact (up_same (by omega)).symm | (exfalso; omega))))⟩
  · refine V_iconst hX dL_ofScarecrow_9 ?_
    exact V_iret hX hR dL_ofScarecrow_10 ⟨(congrArg (fun z => some (Value.int (jI z))) (by first | (have q : kd = 1 := by omega; subst q; show _ = brR s x y; unfold brR; (repeat' split) <;> omega) | (have q : kd = 2 := by omega; subst q; show _ = thR s x y; unfold thR; (repeat' split) <;> omega) | (have q : kd = 3 := by omega; subst q; show _ = tcR s x y; unfold tcR; (repeat' split) <;> omega) | (have q : kd = 4 := by omega; subst q; show _ = soR s x; unfold soR; (repeat' split) <;> omega) | (have q : kd = 5 := by omega; subst q; show _ = stR s x z; unfold stR; (repeat' split) <;> omega) | (unfold caR brR thR tcR soR stR; (repeat' split) <;> omega))), (congrArg (lB G d) (by first | (have q : kd = 1 := by omega; subst q; show _ = brS s x y; unfold brS; split <;> first | rfl | omega | exact (up_same (by omega)).symm | (exfalso; omega)) | (have q : kd = 2 := by omega; subst q; show _ = thS s x y; unfold thS; split <;> first | rfl | omega | exact (up_same (by omega)).symm | (exfalso; omega)) | (have q : kd = 3 := by omega; subst q; show _ = tcS s x y; unfold tcS; split <;> first | rfl | omega | exact (up_same (by omega)).symm | (exfalso; omega)) | (have q : kd = 4 := by omega; subst q; show _ = soS s x; unfold soS; split <;> first | rfl | omega | exact (up_same (by omega)).symm | (exfalso; omega)) | (have q : kd = 5 := by omega; subst q; show _ = stS s x z; unfold stS; split <;> first | rfl | omega | exact (up_same (by omega)).symm | (exfalso; omega)) | (unfold caS brS thS tcS soS stS; (repeat' split) <;> first | rfl | omega | exact (up_same (by omega)).symm | (exfalso; omega))))⟩
