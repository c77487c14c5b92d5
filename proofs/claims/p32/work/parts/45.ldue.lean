set_option maxHeartbeats 4000000 in
set_option maxRecDepth 100000 in
theorem c_L_due (l : Launch) (G : vC) (d : Nat → Nat) (s : Nat → Int) (kd : Int) (x : Int) (y : Int) (z : Int) (hI : Inv 99999 s) (hrg : rgP kd x y z) (htk : s 2 + 100 ≤ 99999) : Fn l G yL_due cL_due 10 (some .int) ({ frames := 3, cells := 0, slots := 0, locals := 85 } : Room) [.int (jI kd), .int (jI x), .int (jI y), .int (jI z), .ref (d 0), .ref (d 1), .ref (d 2), .ref (d 3)] (lB G d s) (some (.int (jI (caR s kd x y z)))) (lB G d (caS s kd x y z)) := by
  refine Ct.of (by decide) (Nat.le_of_ble_eq_true rfl) (fun X hX hR => ?_)
  refine V.toLv (lv' := [(0, .int (jI kd)), (1, .int (jI x)), (2, .int (jI y)), (3, .int (jI z)), (4, .ref (d 0)), (5, .ref (d 1)), (6, .ref (d 2)), (7, .ref (d 3))]) rfl ?_
  have hb := hI.base
  have hrg2 := hrg
  unfold rgP at hrg2
  refine V_iload_n hX dL_due_0 0 rfl ?_
  refine V_if_ne (tgt := 102) hX dL_due_1 (by decide) (by omega) (fun c_1 => ?_) (fun c_1 => ?_)
  · refine V_iload_n hX dL_due_102 0 rfl ?_
    refine V_bipush hX dL_due_103 (by decide) ?_
    refine V_icmp_ge (tgt := 122) hX dL_due_105 (by decide) (by omega) (by decide) (fun c_2 => ?_) (fun c_2 => ?_)
    · refine V_iload_n hX dL_due_122 0 rfl ?_
      refine V_bipush hX dL_due_123 (by decide) ?_
      refine V_icmp_ne (tgt := 171) hX dL_due_125 (by decide) (by omega) (by decide) (fun c_3 => ?_) (fun c_3 => ?_)
      · refine V_iload_n hX dL_due_171 0 rfl ?_
        refine V_bipush hX dL_due_172 (by decide) ?_
        refine V_icmp_eq (tgt := 183) hX dL_due_174 (by decide) (by omega) (by decide) (fun c_4 => ?_) (fun c_4 => ?_)
        · refine V_iload_n hX dL_due_183 0 rfl ?_
          refine V_bipush hX dL_due_184 (by decide) ?_
          refine V_icmp_ne (tgt := 196) hX dL_due_186 (by decide) (by omega) (by decide) (fun c_5 => by omega) (fun c_5 => ?_)
          refine V_bipush hX dL_due_189 (by decide) ?_
          refine V_iload_n hX dL_due_191 1 rfl ?_
          refine V_iadd hX dL_due_192 rfl ?_
          refine V_goto (tgt := 197) hX dL_due_193 (by decide) ?_
          refine V_istore (i := 8) (lv' := [(8, .int (jI (11 + x))), (0, .int (jI kd)), (1, .int (jI x)), (2, .int (jI y)), (3, .int (jI z)), (4, .ref (d 0)), (5, .ref (d 1)), (6, .ref (d 2)), (7, .ref (d 3))]) hX dL_due_197 (by decide) rfl ?_
          have hse1 := hI.se x.toNat (by omega)
          refine V_aload hX dL_due_199 5 rfl ?_
          refine V_iload hX dL_due_201 0 rfl ?_
          refine V_iald (i0 := 11 + x.toNat) (r := (jI (s (11 + x.toNat)))) hX 0 rfl (by omega) (by omega) (by omega) (by omega) (by show (if 11 + x.toNat < 17 then jI (s (11 + x.toNat)) else 0) = jI (s (11 + x.toNat)); rw [if_pos (by omega)]) dL_due_203 ?_
          refine V_istore (i := 9) (lv' := [(9, .int (jI (s (11 + x.toNat)))), (8, .int (jI (11 + x))), (0, .int (jI kd)), (1, .int (jI x)), (2, .int (jI y)), (3, .int (jI z)), (4, .ref (d 0)), (5, .ref (d 1)), (6, .ref (d 2)), (7, .ref (d 3))]) hX dL_due_204 (by decide) rfl ?_
          refine V_aload hX dL_due_206 6 rfl ?_
          refine V_iload hX dL_due_208 1 rfl ?_
          refine V_iload_n hX dL_due_210 2 rfl ?_
          refine V_bipush hX dL_due_211 (by decide) ?_
          refine V_icmp_ne (tgt := 220) hX dL_due_213 (by decide) (by omega) (by decide) (fun c_6 => by omega) (fun c_6 => ?_)
          refine V_iload_n hX dL_due_216 4 rfl ?_
          refine V_goto (tgt := 221) hX dL_due_217 (by decide) ?_
          refine V_iast (i0 := 11 + x.toNat) (w' := lB G d (up s (11 + x.toNat) y)) hX 0 rfl (by omega) (by omega) (by omega) (by omega) dL_due_221 (lB_q G _ _ (11 + x.toNat) _ (by omega)) ?_
          refine V_iload hX dL_due_222 0 rfl ?_
          refine V_aload hX dL_due_224 6 rfl ?_
          refine V_iload hX dL_due_226 1 rfl ?_
          refine V_iald (i0 := 11 + x.toNat) (r := (jI y)) hX 0 rfl (by omega) (by omega) (by omega) (by omega) (by show (if 11 + x.toNat < 17 then jI ((up s (11 + x.toNat) y) (11 + x.toNat)) else 0) = jI (y); rw [if_pos (by omega), up_eq]) dL_due_228 ?_
          refine V_icmp_ne (tgt := 237) hX dL_due_229 (by decide) (by omega) (by omega) (fun c_7 => ?_) (fun c_7 => ?_)
          · refine V_iload hX dL_due_237 0 rfl ?_
            have q : kd = 6 := by omega
            subst q
            exact V_iret hX hR dL_due_239 ⟨congrArg (fun z => some (Value.int (jI z))) (show _ = gsR s x y by unfold gsR; (repeat' split) <;> omega), congrArg (lB G d) (show _ = gsS s x y by unfold gsS; split <;> first | rfl | omega | exact (up_same (by omega)).symm | (exfalso; omega))⟩
          · refine V_bipush hX dL_due_232 (by decide) ?_
            refine V_goto (tgt := 239) hX dL_due_234 (by decide) ?_
            have q : kd = 6 := by omega
            subst q
            exact V_iret hX hR dL_due_239 ⟨congrArg (fun z => some (Value.int (jI z))) (show _ = gsR s x y by unfold gsR; (repeat' split) <;> omega), congrArg (lB G d) (show _ = gsS s x y by unfold gsS; split <;> first | rfl | omega | exact (up_same (by omega)).symm | (exfalso; omega))⟩
        · refine V_iload_n hX dL_due_177 0 rfl ?_
          refine V_bipush hX dL_due_178 (by decide) ?_
          refine V_icmp_ne (tgt := 240) hX dL_due_180 (by decide) (by omega) (by decide) (fun c_8 => ?_) (fun c_8 => ?_)
          · refine V_iload_n hX dL_due_240 0 rfl ?_
            refine V_bipush hX dL_due_241 (by decide) ?_
            refine V_icmp_ne (tgt := 312) hX dL_due_243 (by decide) (by omega) (by decide) (fun c_9 => ?_) (fun c_9 => ?_)
            · refine V_iconst hX dL_due_312 ?_
              refine V_istore (i := 8) (lv' := [(8, .int (jI 0)), (0, .int (jI kd)), (1, .int (jI x)), (2, .int (jI y)), (3, .int (jI z)), (4, .ref (d 0)), (5, .ref (d 1)), (6, .ref (d 2)), (7, .ref (d 3))]) hX dL_due_313 (by decide) rfl ?_
              refine V_iconst hX dL_due_315 ?_
              refine V_istore (i := 9) (lv' := [(9, .int (jI 0)), (8, .int (jI 0)), (0, .int (jI kd)), (1, .int (jI x)), (2, .int (jI y)), (3, .int (jI z)), (4, .ref (d 0)), (5, .ref (d 1)), (6, .ref (d 2)), (7, .ref (d 3))]) hX dL_due_316 (by decide) rfl ?_
              have L318_q_10 : ∀ k : Nat, k ≤ z.toNat → ∀ (i : Int) (acc : Int), (i = (k : Int)) → (acc = tsR s k) → V X 0 0 (lB G d (tsS s k)) [(9, .int (jI i)), (8, .int (jI acc)), (0, .int (jI kd)), (1, .int (jI x)), (2, .int (jI y)), (3, .int (jI z)), (4, .ref (d 0)), (5, .ref (d 1)), (6, .ref (d 2)), (7, .ref (d 3))] 318 [] := by
                refine up_ind (fun k => ∀ (i : Int) (acc : Int), (i = (k : Int)) → (acc = tsR s k) → V X 0 0 (lB G d (tsS s k)) [(9, .int (jI i)), (8, .int (jI acc)), (0, .int (jI kd)), (1, .int (jI x)), (2, .int (jI y)), (3, .int (jI z)), (4, .ref (d 0)), (5, .ref (d 1)), (6, .ref (d 2)), (7, .ref (d 3))] 318 []) (z.toNat) ?_
                intro k hk ih i acc hi hacc
                have hIk := hI.ts k (by omega)
                refine V_iload hX dL_due_318 0 rfl ?_
                refine V_iload_n hX dL_due_320 5 rfl ?_
                refine V_icmp_ge (tgt := 346) hX dL_due_321 (by decide) (by omega) (by omega) (fun c_11 => ?_) (fun c_11 => ?_)
                · refine V_iload hX dL_due_346 1 rfl ?_
                  have q : kd = 10 := by omega
                  subst q
                  exact V_iret hX hR dL_due_348 ⟨congrArg (fun z => some (Value.int (jI z))) (show _ = goR s z by unfold goR; rw [if_pos (by omega), if_neg (by omega), hacc, show k = z.toNat by omega]; first | done | rfl), congrArg (lB G d) (show _ = goS s z by unfold goS; rw [if_pos (by omega), show k = z.toNat by omega]; first | done | rfl)⟩
                · refine V_iload hX dL_due_324 1 rfl ?_
                  refine V_aload hX dL_due_326 6 rfl ?_
                  refine V_aload hX dL_due_328 7 rfl ?_
                  refine V_aload hX dL_due_330 8 rfl ?_
                  refine V_aload hX dL_due_332 9 rfl ?_
                  refine V_cS (st := [.int (jI acc)]) (v := .int (jI (tkR (tsS s k)))) (w' := lB G d (tkS (tsS s k))) hX wc_L_83 (c_L_tick l G d (tsS s k) ((99999 + (k : Int))) hIk (by omega)) (by decide) (by decide) rfl rfl (Nat.le_of_ble_eq_true rfl) dL_due_334 [] ([]) (by simp only [List.append_assoc, List.nil_append, List.append_nil]) (by simp only [List.append_assoc, List.nil_append, List.append_nil]) rfl rfl ?_
                  refine V_iadd hX dL_due_337 rfl ?_
                  refine V_istore (i := 8) (lv' := [(8, .int (jI (acc + (tkR (tsS s k))))), (9, .int (jI i)), (0, .int (jI kd)), (1, .int (jI x)), (2, .int (jI y)), (3, .int (jI z)), (4, .ref (d 0)), (5, .ref (d 1)), (6, .ref (d 2)), (7, .ref (d 3))]) hX dL_due_338 (by decide) rfl ?_
                  refine V_iinc (b := i + 1) (lv' := [(9, .int (jI (i + 1))), (8, .int (jI (acc + (tkR (tsS s k))))), (0, .int (jI kd)), (1, .int (jI x)), (2, .int (jI y)), (3, .int (jI z)), (4, .ref (d 0)), (5, .ref (d 1)), (6, .ref (d 2)), (7, .ref (d 3))]) hX dL_due_340 1 rfl rfl (by decide) rfl ?_
                  refine V_goto (tgt := 318) hX dL_due_343 (by decide) ?_
                  refine V.sub [0, 1, 2, 3, 4, 5, 6, 7, 8, 9] rfl ?_
                  exact ih (by omega) _ _ (by omega) (by rw [hacc]; rfl)
              refine V.sub [0, 1, 2, 3, 4, 5, 6, 7, 8, 9] rfl ?_
              exact L318_q_10 0 (Nat.zero_le _) 0 0 rfl rfl
            · have hbs := bsR_b s (pvF s true)
              refine V_aload hX dL_due_246 4 rfl ?_
              refine V_iconst hX dL_due_248 ?_
              refine V_iald (i0 := 1) (r := (jI (s 1))) hX 0 rfl (by decide) (by decide) (by decide) rfl (by show (if 1 < 17 then jI (s (1)) else 0) = jI (s 1); rw [if_pos (by omega)]) dL_due_249 ?_
              refine V_aload hX dL_due_250 4 rfl ?_
              refine V_aload hX dL_due_252 5 rfl ?_
              refine V_aload hX dL_due_254 6 rfl ?_
              refine V_cS (st := []) (v := .int (jI (bsR s (pvF s true)))) (w' := lB G d s) hX wc_L_79 (c_L_decides l G d s true (s 1) 99999 hI rfl) (by decide) (by decide) rfl rfl (Nat.le_of_ble_eq_true rfl) dL_due_256 [] ([]) (by simp only [List.append_assoc, List.nil_append, List.append_nil]) (by simp only [List.append_assoc, List.nil_append, List.append_nil]) rfl rfl ?_
              refine V_istore (i := 8) (lv' := [(8, .int (jI (bsR s (pvF s true)))), (0, .int (jI kd)), (1, .int (jI x)), (2, .int (jI y)), (3, .int (jI z)), (4, .ref (d 0)), (5, .ref (d 1)), (6, .ref (d 2)), (7, .ref (d 3))]) hX dL_due_259 (by decide) rfl ?_
              refine V_aload hX dL_due_261 5 rfl ?_
              refine V_bipush hX dL_due_263 (by decide) ?_
              refine V_dup2 hX dL_due_265 rfl rfl ?_
              refine V_iald (i0 := 8) (r := (jI (s 8))) hX 0 rfl (by decide) (by decide) (by decide) rfl (by show (if 8 < 17 then jI (s (8)) else 0) = jI (s 8); rw [if_pos (by omega)]) dL_due_266 ?_
              refine V_iload hX dL_due_267 0 rfl ?_
              refine V_if_ge (tgt := 276) hX dL_due_269 (by decide) (by omega) (fun c_12 => ?_) (fun c_12 => ?_)
              · refine V_iconst hX dL_due_276 ?_
                refine V_iadd hX dL_due_277 rfl ?_
                refine V_iast (i0 := 8) (w' := lB G d (up s 8 ((s 8) + 1))) hX 0 rfl (by decide) (by decide) (by decide) rfl dL_due_278 (lB_q G _ _ 8 _ (by omega)) ?_
                refine V_aload hX dL_due_279 5 rfl ?_
                refine V_bipush hX dL_due_281 (by decide) ?_
                refine V_iload hX dL_due_283 0 rfl ?_
                refine V_if_ge (tgt := 296) hX dL_due_285 (by decide) (by omega) (fun c_13 => ?_) (fun c_13 => by omega)
                refine V_iload hX dL_due_296 0 rfl ?_
                refine V_iast (i0 := 9) (w' := lB G d (up (up s 8 ((s 8) + 1)) 9 (bsR s (pvF s true)))) hX 0 rfl (by decide) (by decide) (by decide) rfl dL_due_298 (lB_q G _ _ 9 _ (by omega)) ?_
                refine V_iload hX dL_due_299 0 rfl ?_
                refine V_if_ge (tgt := 309) hX dL_due_301 (by decide) (by omega) (fun c_14 => ?_) (fun c_14 => by omega)
                refine V_iload hX dL_due_309 0 rfl ?_
                have q : kd = 9 := by omega
                subst q
                exact V_iret hX hR dL_due_311 ⟨congrArg (fun z => some (Value.int (jI z))) (show _ = cvR (bsR s (pvF s true)) by unfold cvR; (repeat' split) <;> omega), congrArg (lB G d) (show _ = cvS s (bsR s (pvF s true)) by unfold cvS; split <;> first | rfl | omega | (rw [up_same (s := s) (j := 8) (by omega), up_same (s := s) (j := 9) rfl]; done) | (rw [up_same (s := s) (j := 8) (by omega)]; exact up_same rfl))⟩
              · refine V_iconst hX dL_due_272 ?_
                refine V_goto (tgt := 277) hX dL_due_273 (by decide) ?_
                refine V_iadd hX dL_due_277 rfl ?_
                refine V_iast (i0 := 8) (w' := lB G d (up s 8 ((s 8) + 0))) hX 0 rfl (by decide) (by decide) (by decide) rfl dL_due_278 (lB_q G _ _ 8 _ (by omega)) ?_
                refine V_aload hX dL_due_279 5 rfl ?_
                refine V_bipush hX dL_due_281 (by decide) ?_
                refine V_iload hX dL_due_283 0 rfl ?_
                refine V_if_ge (tgt := 296) hX dL_due_285 (by decide) (by omega) (fun c_15 => by omega) (fun c_15 => ?_)
                refine V_aload hX dL_due_288 5 rfl ?_
                refine V_bipush hX dL_due_290 (by decide) ?_
                refine V_iald (i0 := 9) (r := (jI (s 9))) hX 0 rfl (by decide) (by decide) (by decide) rfl (by show (if 9 < 17 then jI ((up s 8 ((s 8) + 0)) (9)) else 0) = jI (s 9); rw [if_pos (by omega), up_ne (by decide)]) dL_due_292 ?_
                refine V_goto (tgt := 298) hX dL_due_293 (by decide) ?_
                refine V_iast (i0 := 9) (w' := lB G d (up (up s 8 ((s 8) + 0)) 9 (s 9))) hX 0 rfl (by decide) (by decide) (by decide) rfl dL_due_298 (lB_q G _ _ 9 _ (by omega)) ?_
                refine V_iload hX dL_due_299 0 rfl ?_
                refine V_if_ge (tgt := 309) hX dL_due_301 (by decide) (by omega) (fun c_16 => by omega) (fun c_16 => ?_)
                refine V_bipush hX dL_due_304 (by decide) ?_
                refine V_goto (tgt := 311) hX dL_due_306 (by decide) ?_
                have q : kd = 9 := by omega
                subst q
                exact V_iret hX hR dL_due_311 ⟨congrArg (fun z => some (Value.int (jI z))) (show _ = cvR (bsR s (pvF s true)) by unfold cvR; (repeat' split) <;> omega), congrArg (lB G d) (show _ = cvS s (bsR s (pvF s true)) by unfold cvS; split <;> first | rfl | omega | (rw [up_same (s := s) (j := 8) (by omega), up_same (s := s) (j := 9) rfl]; done) | (rw [up_same (s := s) (j := 8) (by omega)]; exact up_same rfl))⟩
          · refine V_iload_n hX dL_due_183 0 rfl ?_
            refine V_bipush hX dL_due_184 (by decide) ?_
            refine V_icmp_ne (tgt := 196) hX dL_due_186 (by decide) (by omega) (by decide) (fun c_17 => ?_) (fun c_17 => by omega)
            refine V_iload_n hX dL_due_196 1 rfl ?_
            refine V_istore (i := 8) (lv' := [(8, .int (jI x)), (0, .int (jI kd)), (1, .int (jI x)), (2, .int (jI y)), (3, .int (jI z)), (4, .ref (d 0)), (5, .ref (d 1)), (6, .ref (d 2)), (7, .ref (d 3))]) hX dL_due_197 (by decide) rfl ?_
            have hc01 : s x.toNat = s 0 ∨ s x.toNat = s 1 := by rcases (by omega : x.toNat = 0 ∨ x.toNat = 1) with q | q <;> rw [q] <;> simp
            refine V_aload hX dL_due_199 5 rfl ?_
            refine V_iload hX dL_due_201 0 rfl ?_
            refine V_iald (i0 := x.toNat) (r := (jI (s x.toNat))) hX 0 rfl (by omega) (by omega) (by omega) rfl (by show (if x.toNat < 17 then jI (s (x.toNat)) else 0) = jI (s x.toNat); rw [if_pos (by omega)]) dL_due_203 ?_
            refine V_istore (i := 9) (lv' := [(9, .int (jI (s x.toNat))), (8, .int (jI x)), (0, .int (jI kd)), (1, .int (jI x)), (2, .int (jI y)), (3, .int (jI z)), (4, .ref (d 0)), (5, .ref (d 1)), (6, .ref (d 2)), (7, .ref (d 3))]) hX dL_due_204 (by decide) rfl ?_
            refine V_aload hX dL_due_206 6 rfl ?_
            refine V_iload hX dL_due_208 1 rfl ?_
            refine V_iload_n hX dL_due_210 2 rfl ?_
            refine V_bipush hX dL_due_211 (by decide) ?_
            refine V_icmp_ne (tgt := 220) hX dL_due_213 (by decide) (by omega) (by decide) (fun c_18 => ?_) (fun c_18 => by omega)
            refine V_iload_n hX dL_due_220 5 rfl ?_
            refine V_iast (i0 := x.toNat) (w' := lB G d (up s x.toNat z)) hX 0 rfl (by omega) (by omega) (by omega) rfl dL_due_221 (lB_q G _ _ x.toNat _ (by omega)) ?_
            refine V_iload hX dL_due_222 0 rfl ?_
            refine V_aload hX dL_due_224 6 rfl ?_
            refine V_iload hX dL_due_226 1 rfl ?_
            refine V_iald (i0 := x.toNat) (r := (jI z)) hX 0 rfl (by omega) (by omega) (by omega) rfl (by show (if x.toNat < 17 then jI ((up s x.toNat z) (x.toNat)) else 0) = jI (z); rw [if_pos (by omega), up_eq]) dL_due_228 ?_
            refine V_icmp_ne (tgt := 237) hX dL_due_229 (by decide) (by omega) (by omega) (fun c_19 => ?_) (fun c_19 => ?_)
            · refine V_iload hX dL_due_237 0 rfl ?_
              have q : kd = 8 := by omega
              subst q
              exact V_iret hX hR dL_due_239 ⟨congrArg (fun z => some (Value.int (jI z))) (show _ = adR s x z by unfold adR; (repeat' split) <;> omega), congrArg (lB G d) (show _ = adS s x z by unfold adS; (repeat' split) <;> first | rfl | omega | exact (up_same (by omega)).symm | (exfalso; omega))⟩
            · refine V_bipush hX dL_due_232 (by decide) ?_
              refine V_goto (tgt := 239) hX dL_due_234 (by decide) ?_
              have q : kd = 8 := by omega
              subst q
              exact V_iret hX hR dL_due_239 ⟨congrArg (fun z => some (Value.int (jI z))) (show _ = adR s x z by unfold adR; (repeat' split) <;> omega), congrArg (lB G d) (show _ = adS s x z by unfold adS; (repeat' split) <;> first | rfl | omega | exact (up_same (by omega)).symm | (exfalso; omega))⟩
      · refine V_bipush hX dL_due_128 (by decide) ?_
        refine V_aload hX dL_due_130 4 rfl ?_
        refine V_iconst hX dL_due_132 ?_
        refine V_iald (i0 := 3) (r := (jI (s 3))) hX 0 rfl (by decide) (by decide) (by decide) rfl (by show (if 3 < 17 then jI (s (3)) else 0) = jI (s 3); rw [if_pos (by omega)]) dL_due_133 ?_
        refine V_imul hX dL_due_134 rfl ?_
        refine V_aload hX dL_due_135 4 rfl ?_
        refine V_iconst hX dL_due_137 ?_
        refine V_iald (i0 := 4) (r := (jI (s 4))) hX 0 rfl (by decide) (by decide) (by decide) rfl (by show (if 4 < 17 then jI (s (4)) else 0) = jI (s 4); rw [if_pos (by omega)]) dL_due_138 ?_
        refine V_iadd hX dL_due_139 rfl ?_
        refine V_istore (i := 8) (lv' := [(8, .int (jI ((10 * (s 3)) + (s 4)))), (0, .int (jI kd)), (1, .int (jI x)), (2, .int (jI y)), (3, .int (jI z)), (4, .ref (d 0)), (5, .ref (d 1)), (6, .ref (d 2)), (7, .ref (d 3))]) hX dL_due_140 (by decide) rfl ?_
        refine V_aload hX dL_due_142 5 rfl ?_
        refine V_iconst hX dL_due_144 ?_
        refine V_iload_n hX dL_due_145 3 rfl ?_
        refine V_iast (i0 := 3) (w' := lB G d (up s 3 y)) hX 0 rfl (by decide) (by decide) (by decide) rfl dL_due_146 (lB_q G _ _ 3 _ (by omega)) ?_
        refine V_aload hX dL_due_147 5 rfl ?_
        refine V_iconst hX dL_due_149 ?_
        refine V_iload_n hX dL_due_150 4 rfl ?_
        refine V_iast (i0 := 4) (w' := lB G d (up (up s 3 y) 4 z)) hX 0 rfl (by decide) (by decide) (by decide) rfl dL_due_151 (lB_q G _ _ 4 _ (by omega)) ?_
        refine V_iload hX dL_due_152 0 rfl ?_
        refine V_bipush hX dL_due_154 (by decide) ?_
        refine V_iload_n hX dL_due_156 3 rfl ?_
        refine V_imul hX dL_due_157 rfl ?_
        refine V_iload_n hX dL_due_158 4 rfl ?_
        refine V_iadd hX dL_due_159 rfl ?_
        refine V_icmp_ne (tgt := 168) hX dL_due_160 (by decide) (by omega) (by omega) (fun c_20 => ?_) (fun c_20 => ?_)
        · refine V_iload hX dL_due_168 0 rfl ?_
          have q : kd = 7 := by omega
          subst q
          exact V_iret hX hR dL_due_170 ⟨congrArg (fun z => some (Value.int (jI z))) (show _ = blR s y z by unfold blR; (repeat' split) <;> omega), congrArg (lB G d) (show _ = blS s y z by unfold blS; split <;> first | rfl | omega | exact (up_same (by omega)).symm | (exfalso; omega))⟩
        · refine V_bipush hX dL_due_163 (by decide) ?_
          refine V_goto (tgt := 170) hX dL_due_165 (by decide) ?_
          have q : kd = 7 := by omega
          subst q
          exact V_iret hX hR dL_due_170 ⟨congrArg (fun z => some (Value.int (jI z))) (show _ = blR s y z by unfold blR; (repeat' split) <;> omega), congrArg (lB G d) (show _ = blS s y z by unfold blS; split <;> first | rfl | omega | exact (up_same (by omega)).symm | (exfalso; omega))⟩
    · refine V_iload_n hX dL_due_108 0 rfl ?_
      refine V_iload_n hX dL_due_109 1 rfl ?_
      refine V_iload_n hX dL_due_110 2 rfl ?_
      refine V_iload_n hX dL_due_111 3 rfl ?_
      refine V_aload hX dL_due_112 4 rfl ?_
      refine V_aload hX dL_due_114 5 rfl ?_
      refine V_aload hX dL_due_116 6 rfl ?_
      refine V_cS (st := []) (v := .int (jI (caR s kd x y z))) (w' := lB G d (caS s kd x y z)) hX wc_L_75 (c_L_ofScarecrow l G d s kd x y z 99999 hI hrg (by omega)) (by decide) (by decide) rfl rfl (Nat.le_of_ble_eq_true rfl) dL_due_118 [] ([]) (by simp only [List.append_assoc, List.nil_append, List.append_nil]) (by simp only [List.append_assoc, List.nil_append, List.append_nil]) rfl rfl ?_
      exact V_iret hX hR dL_due_121 ⟨rfl, rfl⟩
  · refine V_aload hX dL_due_4 4 rfl ?_
    refine V_bipush hX dL_due_6 (by decide) ?_
    refine V_iald (i0 := 10) (r := (jI (s 10))) hX 0 rfl (by decide) (by decide) (by decide) rfl (by show (if 10 < 17 then jI (s (10)) else 0) = jI (s 10); rw [if_pos (by omega)]) dL_due_8 ?_
    refine V_bipush hX dL_due_9 (by decide) ?_
    refine V_icmp_ne (tgt := 17) hX dL_due_11 (by decide) (by omega) (by decide) (fun c_21 => ?_) (fun c_21 => ?_)
    · refine V_aload hX dL_due_17 4 rfl ?_
      refine V_bipush hX dL_due_19 (by decide) ?_
      refine V_iald (i0 := 10) (r := (jI (s 10))) hX 0 rfl (by decide) (by decide) (by decide) rfl (by show (if 10 < 17 then jI (s (10)) else 0) = jI (s 10); rw [if_pos (by omega)]) dL_due_21 ?_
      refine V_istore (i := 8) (lv' := [(8, .int (jI (s 10))), (0, .int (jI kd)), (1, .int (jI x)), (2, .int (jI y)), (3, .int (jI z)), (4, .ref (d 0)), (5, .ref (d 1)), (6, .ref (d 2)), (7, .ref (d 3))]) hX dL_due_22 (by decide) rfl ?_
      refine V_aload hX dL_due_24 6 rfl ?_
      refine V_iconst hX dL_due_26 ?_
      refine V_iload hX dL_due_27 0 rfl ?_
      refine V_imul hX dL_due_29 rfl ?_
      refine V_iload_n hX dL_due_30 2 rfl ?_
      refine V_bipush hX dL_due_31 (by decide) ?_
      refine V_irem hX dL_due_33 (by omega) (by omega) (by omega) (by omega) rfl ?_
      refine V_iast (i0 := 5 * (s 10).toNat + 0) (w' := lB G d (up s (ix ((s 10).toNat) 0) (x % 6))) hX 1 rfl (by omega) (by omega) (by omega) (by omega) dL_due_34 (lB_a G _ _ ((s 10).toNat) 0 _ (by omega)) ?_
      refine V_aload hX dL_due_35 6 rfl ?_
      refine V_iconst hX dL_due_37 ?_
      refine V_iload hX dL_due_38 0 rfl ?_
      refine V_imul hX dL_due_40 rfl ?_
      refine V_iconst hX dL_due_41 ?_
      refine V_iadd hX dL_due_42 rfl ?_
      refine V_iconst hX dL_due_43 ?_
      refine V_iload_n hX dL_due_44 3 rfl ?_
      refine V_iconst hX dL_due_45 ?_
      refine V_irem hX dL_due_46 (by omega) (by omega) (by omega) (by omega) rfl ?_
      refine V_iadd hX dL_due_47 rfl ?_
      refine V_iast (i0 := 5 * (s 10).toNat + 1) (w' := lB G d (up (up s (ix ((s 10).toNat) 0) (x % 6)) (ix ((s 10).toNat) 1) (1 + (y % 5)))) hX 1 rfl (by omega) (by omega) (by omega) (by omega) dL_due_48 (lB_a G _ _ ((s 10).toNat) 1 _ (by omega)) ?_
      refine V_aload hX dL_due_49 6 rfl ?_
      refine V_iconst hX dL_due_51 ?_
      refine V_iload hX dL_due_52 0 rfl ?_
      refine V_imul hX dL_due_54 rfl ?_
      refine V_iconst hX dL_due_55 ?_
      refine V_iadd hX dL_due_56 rfl ?_
      refine V_iconst hX dL_due_57 ?_
      refine V_iload_n hX dL_due_58 4 rfl ?_
      refine V_bipush hX dL_due_59 (by decide) ?_
      refine V_irem hX dL_due_61 (by omega) (by omega) (by omega) (by omega) rfl ?_
      refine V_iadd hX dL_due_62 rfl ?_
      refine V_iast (i0 := 5 * (s 10).toNat + 2) (w' := lB G d (up (up (up s (ix ((s 10).toNat) 0) (x % 6)) (ix ((s 10).toNat) 1) (1 + (y % 5))) (ix ((s 10).toNat) 2) (1 + (z % 9)))) hX 1 rfl (by omega) (by omega) (by omega) (by omega) dL_due_63 (lB_a G _ _ ((s 10).toNat) 2 _ (by omega)) ?_
      refine V_aload hX dL_due_64 6 rfl ?_
      refine V_iconst hX dL_due_66 ?_
      refine V_iload hX dL_due_67 0 rfl ?_
      refine V_imul hX dL_due_69 rfl ?_
      refine V_iconst hX dL_due_70 ?_
      refine V_iadd hX dL_due_71 rfl ?_
      refine V_iload_n hX dL_due_72 4 rfl ?_
      refine V_bipush hX dL_due_73 (by decide) ?_
      refine V_idiv hX dL_due_75 (by omega) (by omega) (by omega) (by omega) rfl ?_
      refine V_iconst hX dL_due_76 ?_
      refine V_irem hX dL_due_77 (by omega) (by omega) (by omega) (by omega) rfl ?_
      refine V_iast (i0 := 5 * (s 10).toNat + 3) (w' := lB G d (up (up (up (up s (ix ((s 10).toNat) 0) (x % 6)) (ix ((s 10).toNat) 1) (1 + (y % 5))) (ix ((s 10).toNat) 2) (1 + (z % 9))) (ix ((s 10).toNat) 3) ((z / 9) % 4))) hX 1 rfl (by omega) (by omega) (by omega) (by omega) dL_due_78 (lB_a G _ _ ((s 10).toNat) 3 _ (by omega)) ?_
      refine V_aload hX dL_due_79 6 rfl ?_
      refine V_iconst hX dL_due_81 ?_
      refine V_iload hX dL_due_82 0 rfl ?_
      refine V_imul hX dL_due_84 rfl ?_
      refine V_iconst hX dL_due_85 ?_
      refine V_iadd hX dL_due_86 rfl ?_
      refine V_bipush hX dL_due_87 (by decide) ?_
      refine V_iast (i0 := 5 * (s 10).toNat + 4) (w' := lB G d (up (up (up (up (up s (ix ((s 10).toNat) 0) (x % 6)) (ix ((s 10).toNat) 1) (1 + (y % 5))) (ix ((s 10).toNat) 2) (1 + (z % 9))) (ix ((s 10).toNat) 3) ((z / 9) % 4)) (ix ((s 10).toNat) 4) 64)) hX 1 rfl (by omega) (by omega) (by omega) (by omega) dL_due_89 (lB_a G _ _ ((s 10).toNat) 4 _ (by omega)) ?_
      refine V_aload hX dL_due_90 5 rfl ?_
      refine V_bipush hX dL_due_92 (by decide) ?_
      refine V_dup2 hX dL_due_94 rfl rfl ?_
      refine V_iald (i0 := 10) (r := (jI (s 10))) hX 0 rfl (by decide) (by decide) (by decide) rfl (by show (if 10 < 17 then jI ((up (up (up (up (up s (ix ((s 10).toNat) 0) (x % 6)) (ix ((s 10).toNat) 1) (1 + (y % 5))) (ix ((s 10).toNat) 2) (1 + (z % 9))) (ix ((s 10).toNat) 3) ((z / 9) % 4)) (ix ((s 10).toNat) 4) 64) (10)) else 0) = jI (s 10); rw [if_pos (by omega), up_ne (by unfold ix; omega), up_ne (by unfold ix; omega), up_ne (by unfold ix; omega), up_ne (by unfold ix; omega), up_ne (by unfold ix; omega)]) dL_due_95 ?_
      refine V_iconst hX dL_due_96 ?_
      refine V_iadd hX dL_due_97 rfl ?_
      refine V_iast (i0 := 10) (w' := lB G d (up (up (up (up (up (up s (ix ((s 10).toNat) 0) (x % 6)) (ix ((s 10).toNat) 1) (1 + (y % 5))) (ix ((s 10).toNat) 2) (1 + (z % 9))) (ix ((s 10).toNat) 3) ((z / 9) % 4)) (ix ((s 10).toNat) 4) 64) 10 ((s 10) + 1))) hX 0 rfl (by decide) (by decide) (by decide) rfl dL_due_98 (lB_q G _ _ 10 _ (by omega)) ?_
      refine V_iload hX dL_due_99 0 rfl ?_
      have q : kd = 0 := by omega
      subst q
      exact V_iret hX hR dL_due_101 ⟨congrArg (fun z => some (Value.int (jI z))) (show _ = raR s (x % 6) (1 + y % 5) (1 + z % 9) (z / 9 % 4) by unfold raR; (repeat' split) <;> omega), congrArg (lB G d) (show _ = raS s (x % 6) (1 + y % 5) (1 + z % 9) (z / 9 % 4) by unfold raS; split <;> first | rfl | omega | exact (up_same (by omega)).symm | (exfalso; omega))⟩
    · refine V_bipush hX dL_due_14 (by decide) ?_
      have q : kd = 0 := by omega
      subst q
      exact V_iret hX hR dL_due_16 ⟨congrArg (fun z => some (Value.int (jI z))) (show _ = raR s (x % 6) (1 + y % 5) (1 + z % 9) (z / 9 % 4) by unfold raR; (repeat' split) <;> omega), congrArg (lB G d) (show _ = raS s (x % 6) (1 + y % 5) (1 + z % 9) (z / 9 % 4) by unfold raS; split <;> first | rfl | omega | exact (up_same (by omega)).symm | (exfalso; omega))⟩

set_option maxHeartbeats 4000000 in
set_option maxRecDepth 100000 in
theorem c_L_call (l : Launch) (G : vC) (o : Nat) (no : Nat → Nat) (be : Nat → Nat) (tr : Nat → Nat) (sn : Nat → Nat) (p : Nat → Nat) (te : Nat → Nat) (b : Nat → Nat) (c : Nat → Nat) (kp : Int) (sN : Int) (sE : Int) (s : Nat → Int) (sb : Nat → Int) (st : Nat → Int) (ss : Nat → Int) (q : Nat → Nat → Nat) (hs : Nat → Nat → Int) (sz : Nat) (ch : Nat → Int) (ki : Nat → Int) (fi : Nat → Int) (se : Nat → Int) (ln : Int) (th : Int) (ps : Int) (W : Nat → Nat) (vf : Nat → Int) (W2 : Nat → Nat) (vf2 : Nat → Int) (kd : Int) (x : Int) (y : Int) (z : Int) (hI : Inv 99999 s) (hsz : sz ≤ 4) (hrg : rgP kd x y z) : Ct l G yL_call cL_call 5 (some .int) ({ frames := 6, cells := 0, slots := 0, locals := 266 } : Room) [.ref (o), .int (jI kd), .int (jI x), .int (jI y), .int (jI z)] (oH o no be tr sn p te b c kp sN sE ++ (hB G no s ++ (hB G be sb ++ (hB G tr st ++ (hB G sn ss ++ (pW G p q hs sz ++ (sB G te ch ki fi se ln th ps ++ (bB G b true W vf ++ bB G c false W2 vf2)))))))) (fun v u => v = some (Value.int (jI (caR s kd x y z))) ∧ ∃ W3 vf3, u = oH o no be tr sn p te b c kp sN sE ++ (hB G no (caS s kd x y z) ++ (hB G be s ++ (hB G tr st ++ (hB G sn ss ++ (pW G p (rcQ q sz (caR s kd x y z)) (rcH hs sz s (caR s kd x y z)) (rcZ sz (caR s kd x y z)) ++ (sB G te ch ki fi se ln th ps ++ (bB G b true W3 vf3 ++ bB G c false W2 vf2)))))))) := by
  refine Ct.of (by decide) (Nat.le_of_ble_eq_true rfl) (fun X hX hR => ?_)
  refine V.toLv (lv' := [(0, .ref (o)), (1, .int (jI kd)), (2, .int (jI x)), (3, .int (jI y)), (4, .int (jI z))]) rfl ?_
  have hb := hI.base
  have hrg2 := hrg
  unfold rgP at hrg2
  refine V_iload_n hX dL_call_0 1 rfl ?_
  by_cases c_1 : kd = 0
  · refine V_tableIn (tgt := 56) hX 0 dL_call_1 c_1 (by decide) (by decide) (by decide) rfl (by decide) ?_
    subst c_1
    refine V_aload_n hX dL_call_56 0 rfl ?_
    refine V_iload_n hX dL_call_57 2 rfl ?_
    refine V_bipush hX dL_call_58 (by decide) ?_
    refine V_irem hX dL_call_60 (by omega) (by omega) (by omega) (by omega) rfl ?_
    refine V_iconst hX dL_call_61 ?_
    refine V_iload_n hX dL_call_62 3 rfl ?_
    refine V_iconst hX dL_call_63 ?_
    refine V_irem hX dL_call_64 (by omega) (by omega) (by omega) (by omega) rfl ?_
    refine V_iadd hX dL_call_65 rfl ?_
    refine V_iconst hX dL_call_66 ?_
    refine V_iload hX dL_call_67 4 rfl ?_
    refine V_bipush hX dL_call_69 (by decide) ?_
    refine V_irem hX dL_call_71 (by omega) (by omega) (by omega) (by omega) rfl ?_
    refine V_iadd hX dL_call_72 rfl ?_
    refine V_iload hX dL_call_73 4 rfl ?_
    refine V_bipush hX dL_call_75 (by decide) ?_
    refine V_idiv hX dL_call_77 (by omega) (by omega) (by omega) (by omega) rfl ?_
    refine V_iconst hX dL_call_78 ?_
    refine V_irem hX dL_call_79 (by omega) (by omega) (by omega) (by omega) rfl ?_
    refine V_cV (st := []) (v := .int (jI (raR s (x % 6) (1 + (y % 5)) (1 + (z % 9)) ((z / 9) % 4)))) (w' := oH o no be tr sn p te b c kp sN sE ++ (hB G no (raS s (x % 6) (1 + (y % 5)) (1 + (z % 9)) ((z / 9) % 4)) ++ (hB G be s ++ (hB G tr st ++ (hB G sn ss ++ (pW G p (rcQ q sz (raR s (x % 6) (1 + (y % 5)) (1 + (z % 9)) ((z / 9) % 4))) (rcH hs sz s (raR s (x % 6) (1 + (y % 5)) (1 + (z % 9)) ((z / 9) % 4))) (rcZ sz (raR s (x % 6) (1 + (y % 5)) (1 + (z % 9)) ((z / 9) % 4))) ++ (sB G te ch ki fi se ln th ps ++ (bB G b true W vf ++ bB G c false W2 vf2)))))))) hX wc_L_38 (c_X4_setUp l G o no be tr sn p te b c kp sN sE s sb st ss q hs sz ch ki fi se ln th ps W vf W2 vf2 (x % 6) (1 + (y % 5)) (1 + (z % 9)) ((z / 9) % 4) hI hsz (by omega) (by omega) (by omega) (by omega)) (by decide) (by decide) rfl rfl (Nat.le_of_ble_eq_true rfl) dL_call_80 [] ([]) (by simp only [List.append_assoc, List.nil_append, List.append_nil]) 0 rfl rfl (by simp only [List.append_assoc, List.nil_append, List.append_nil]) rfl rfl ?_
    exact V_iret hX hR dL_call_83 ⟨rfl, _, _, rfl⟩
  by_cases c_2 : kd = 1
  · refine V_tableIn (tgt := 84) hX 1 dL_call_1 c_2 (by decide) (by decide) (by decide) rfl (by decide) ?_
    subst c_2
    refine V_aload_n hX dL_call_84 0 rfl ?_
    refine V_iload_n hX dL_call_85 2 rfl ?_
    refine V_iload_n hX dL_call_86 3 rfl ?_
    refine V_cV (st := []) (v := .int (jI (brR s x y))) (w' := oH o no be tr sn p te b c kp sN sE ++ (hB G no (brS s x y) ++ (hB G be s ++ (hB G tr st ++ (hB G sn ss ++ (pW G p (rcQ q sz (brR s x y)) (rcH hs sz s (brR s x y)) (rcZ sz (brR s x y)) ++ (sB G te ch ki fi se ln th ps ++ (bB G b true W vf ++ bB G c false W2 vf2)))))))) hX wc_L_44 (c_X4_carry l G o no be tr sn p te b c kp sN sE s sb st ss q hs sz ch ki fi se ln th ps W vf W2 vf2 x y hI hsz (by omega) (by omega)) (by decide) (by decide) rfl rfl (Nat.le_of_ble_eq_true rfl) dL_call_87 [] ([]) (by simp only [List.append_assoc, List.nil_append, List.append_nil]) 0 rfl rfl (by simp only [List.append_assoc, List.nil_append, List.append_nil]) rfl rfl ?_
    exact V_iret hX hR dL_call_90 ⟨rfl, _, _, rfl⟩
  by_cases c_3 : kd = 2
  · refine V_tableIn (tgt := 91) hX 2 dL_call_1 c_3 (by decide) (by decide) (by decide) rfl (by decide) ?_
    subst c_3
    refine V_aload_n hX dL_call_91 0 rfl ?_
    refine V_iload_n hX dL_call_92 2 rfl ?_
    refine V_iload_n hX dL_call_93 3 rfl ?_
    refine V_cV (st := []) (v := .int (jI (thR s x y))) (w' := oH o no be tr sn p te b c kp sN sE ++ (hB G no (thS s x y) ++ (hB G be s ++ (hB G tr st ++ (hB G sn ss ++ (pW G p (rcQ q sz (thR s x y)) (rcH hs sz s (thR s x y)) (rcZ sz (thR s x y)) ++ (sB G te ch ki fi se ln th ps ++ (bB G b true W vf ++ bB G c false W2 vf2)))))))) hX wc_L_48 (c_X4_face l G o no be tr sn p te b c kp sN sE s sb st ss q hs sz ch ki fi se ln th ps W vf W2 vf2 x y hI hsz (by omega) (by omega)) (by decide) (by decide) rfl rfl (Nat.le_of_ble_eq_true rfl) dL_call_94 [] ([]) (by simp only [List.append_assoc, List.nil_append, List.append_nil]) 0 rfl rfl (by simp only [List.append_assoc, List.nil_append, List.append_nil]) rfl rfl ?_
    exact V_iret hX hR dL_call_97 ⟨rfl, _, _, rfl⟩
  by_cases c_4 : kd = 3
  · refine V_tableIn (tgt := 98) hX 3 dL_call_1 c_4 (by decide) (by decide) (by decide) rfl (by decide) ?_
    subst c_4
    refine V_aload_n hX dL_call_98 0 rfl ?_
    refine V_iload_n hX dL_call_99 2 rfl ?_
    refine V_iload_n hX dL_call_100 3 rfl ?_
    refine V_cV (st := []) (v := .int (jI (tcR s x y))) (w' := oH o no be tr sn p te b c kp sN sE ++ (hB G no (tcS s x y) ++ (hB G be s ++ (hB G tr st ++ (hB G sn ss ++ (pW G p (rcQ q sz (tcR s x y)) (rcH hs sz s (tcR s x y)) (rcZ sz (tcR s x y)) ++ (sB G te ch ki fi se ln th ps ++ (bB G b true W vf ++ bB G c false W2 vf2)))))))) hX wc_L_51 (c_X4_crow l G o no be tr sn p te b c kp sN sE s sb st ss q hs sz ch ki fi se ln th ps W vf W2 vf2 x y hI hsz (by omega) (by omega)) (by decide) (by decide) rfl rfl (Nat.le_of_ble_eq_true rfl) dL_call_101 [] ([]) (by simp only [List.append_assoc, List.nil_append, List.append_nil]) 0 rfl rfl (by simp only [List.append_assoc, List.nil_append, List.append_nil]) rfl rfl ?_
    exact V_iret hX hR dL_call_104 ⟨rfl, _, _, rfl⟩
  by_cases c_5 : kd = 4
  · refine V_tableIn (tgt := 105) hX 4 dL_call_1 c_5 (by decide) (by decide) (by decide) rfl (by decide) ?_
    subst c_5
    refine V_aload_n hX dL_call_105 0 rfl ?_
    refine V_iload_n hX dL_call_106 2 rfl ?_
    refine V_cV (st := []) (v := .int (jI (soR s x))) (w' := oH o no be tr sn p te b c kp sN sE ++ (hB G no (soS s x) ++ (hB G be s ++ (hB G tr st ++ (hB G sn ss ++ (pW G p (rcQ q sz (soR s x)) (rcH hs sz s (soR s x)) (rcZ sz (soR s x)) ++ (sB G te ch ki fi se ln th ps ++ (bB G b true W vf ++ bB G c false W2 vf2)))))))) hX wc_L_54 (c_X4_scare l G o no be tr sn p te b c kp sN sE s sb st ss q hs sz ch ki fi se ln th ps W vf W2 vf2 x hI hsz (by omega)) (by decide) (by decide) rfl rfl (Nat.le_of_ble_eq_true rfl) dL_call_107 [] ([]) (by simp only [List.append_assoc, List.nil_append, List.append_nil]) 0 rfl rfl (by simp only [List.append_assoc, List.nil_append, List.append_nil]) rfl rfl ?_
    exact V_iret hX hR dL_call_110 ⟨rfl, _, _, rfl⟩
  by_cases c_6 : kd = 5
  · refine V_tableIn (tgt := 111) hX 5 dL_call_1 c_6 (by decide) (by decide) (by decide) rfl (by decide) ?_
    subst c_6
    refine V_aload_n hX dL_call_111 0 rfl ?_
    refine V_iload_n hX dL_call_112 2 rfl ?_
    refine V_iload hX dL_call_113 4 rfl ?_
    refine V_cV (st := []) (v := .int (jI (stR s x z))) (w' := oH o no be tr sn p te b c kp sN sE ++ (hB G no (stS s x z) ++ (hB G be s ++ (hB G tr st ++ (hB G sn ss ++ (pW G p (rcQ q sz (stR s x z)) (rcH hs sz s (stR s x z)) (rcZ sz (stR s x z)) ++ (sB G te ch ki fi se ln th ps ++ (bB G b true W vf ++ bB G c false W2 vf2)))))))) hX wc_L_57 (c_X4_fill l G o no be tr sn p te b c kp sN sE s sb st ss q hs sz ch ki fi se ln th ps W vf W2 vf2 x z hI hsz (by omega) (by omega)) (by decide) (by decide) rfl rfl (Nat.le_of_ble_eq_true rfl) dL_call_115 [] ([]) (by simp only [List.append_assoc, List.nil_append, List.append_nil]) 0 rfl rfl (by simp only [List.append_assoc, List.nil_append, List.append_nil]) rfl rfl ?_
    exact V_iret hX hR dL_call_118 ⟨rfl, _, _, rfl⟩
  by_cases c_7 : kd = 6
  · refine V_tableIn (tgt := 119) hX 6 dL_call_1 c_7 (by decide) (by decide) (by decide) rfl (by decide) ?_
    subst c_7
    refine V_aload_n hX dL_call_119 0 rfl ?_
    refine V_iload_n hX dL_call_120 2 rfl ?_
    refine V_iload_n hX dL_call_121 3 rfl ?_
    refine V_cV (st := []) (v := .int (jI (gsR s x y))) (w' := oH o no be tr sn p te b c kp sN sE ++ (hB G no (gsS s x y) ++ (hB G be s ++ (hB G tr st ++ (hB G sn ss ++ (pW G p (rcQ q sz (gsR s x y)) (rcH hs sz s (gsR s x y)) (rcZ sz (gsR s x y)) ++ (sB G te ch ki fi se ln th ps ++ (bB G b true W vf ++ bB G c false W2 vf2)))))))) hX wc_L_60 (c_X4_seats l G o no be tr sn p te b c kp sN sE s sb st ss q hs sz ch ki fi se ln th ps W vf W2 vf2 x y hI hsz (by omega) (by omega)) (by decide) (by decide) rfl rfl (Nat.le_of_ble_eq_true rfl) dL_call_122 [] ([]) (by simp only [List.append_assoc, List.nil_append, List.append_nil]) 0 rfl rfl (by simp only [List.append_assoc, List.nil_append, List.append_nil]) rfl rfl ?_
    exact V_iret hX hR dL_call_125 ⟨rfl, _, _, rfl⟩
  by_cases c_8 : kd = 7
  · refine V_tableIn (tgt := 126) hX 7 dL_call_1 c_8 (by decide) (by decide) (by decide) rfl (by decide) ?_
    subst c_8
    refine V_aload_n hX dL_call_126 0 rfl ?_
    refine V_iload_n hX dL_call_127 3 rfl ?_
    refine V_iload hX dL_call_128 4 rfl ?_
    refine V_cV (st := []) (v := .int (jI (blR s y z))) (w' := oH o no be tr sn p te b c kp sN sE ++ (hB G no (blS s y z) ++ (hB G be s ++ (hB G tr st ++ (hB G sn ss ++ (pW G p (rcQ q sz (blR s y z)) (rcH hs sz s (blR s y z)) (rcZ sz (blR s y z)) ++ (sB G te ch ki fi se ln th ps ++ (bB G b true W vf ++ bB G c false W2 vf2)))))))) hX wc_L_62 (c_X4_wind l G o no be tr sn p te b c kp sN sE s sb st ss q hs sz ch ki fi se ln th ps W vf W2 vf2 y z hI hsz (by omega) (by omega)) (by decide) (by decide) rfl rfl (Nat.le_of_ble_eq_true rfl) dL_call_130 [] ([]) (by simp only [List.append_assoc, List.nil_append, List.append_nil]) 0 rfl rfl (by simp only [List.append_assoc, List.nil_append, List.append_nil]) rfl rfl ?_
    exact V_iret hX hR dL_call_133 ⟨rfl, _, _, rfl⟩
  by_cases c_9 : kd = 8
  · refine V_tableIn (tgt := 134) hX 8 dL_call_1 c_9 (by decide) (by decide) (by decide) rfl (by decide) ?_
    subst c_9
    refine V_aload_n hX dL_call_134 0 rfl ?_
    refine V_iload_n hX dL_call_135 2 rfl ?_
    refine V_iload hX dL_call_136 4 rfl ?_
    refine V_cV (st := []) (v := .int (jI (adR s x z))) (w' := oH o no be tr sn p te b c kp sN sE ++ (hB G no (adS s x z) ++ (hB G be s ++ (hB G tr st ++ (hB G sn ss ++ (pW G p (rcQ q sz (adR s x z)) (rcH hs sz s (adR s x z)) (rcZ sz (adR s x z)) ++ (sB G te ch ki fi se ln th ps ++ (bB G b true W vf ++ bB G c false W2 vf2)))))))) hX wc_L_65 (c_X4_set l G o no be tr sn p te b c kp sN sE s sb st ss q hs sz ch ki fi se ln th ps W vf W2 vf2 x z hI hsz (by omega) (by omega)) (by decide) (by decide) rfl rfl (Nat.le_of_ble_eq_true rfl) dL_call_138 [] ([]) (by simp only [List.append_assoc, List.nil_append, List.append_nil]) 0 rfl rfl (by simp only [List.append_assoc, List.nil_append, List.append_nil]) rfl rfl ?_
    exact V_iret hX hR dL_call_141 ⟨rfl, _, _, rfl⟩
  by_cases c_10 : kd = 9
  · refine V_tableIn (tgt := 142) hX 9 dL_call_1 c_10 (by decide) (by decide) (by decide) rfl (by decide) ?_
    subst c_10
    refine V_aload_n hX dL_call_142 0 rfl ?_
    refine V_cV (st := []) (v := .int (jI (cvR (bsR s (pvF s true))))) (w' := oH o no be tr sn p te b c kp sN sE ++ (hB G no (cvS s (bsR s (pvF s true))) ++ (hB G be s ++ (hB G tr st ++ (hB G sn ss ++ (pW G p (rcQ q sz (cvR (bsR s (pvF s true)))) (rcH hs sz s (cvR (bsR s (pvF s true)))) (rcZ sz (cvR (bsR s (pvF s true)))) ++ (sB G te ch ki fi se ln th ps ++ (bB G b true (plW s true W 6) (pvF s true) ++ bB G c false W2 vf2)))))))) hX wc_L_68 (c_X4_vote l G o no be tr sn p te b c kp sN sE s sb st ss q hs sz ch ki fi se ln th ps W vf W2 vf2 hI hsz) (by decide) (by decide) rfl rfl (Nat.le_of_ble_eq_true rfl) dL_call_143 [] ([]) (by simp only [List.append_assoc, List.nil_append, List.append_nil]) 0 rfl rfl (by simp only [List.append_assoc, List.nil_append, List.append_nil]) rfl rfl ?_
    exact V_iret hX hR dL_call_146 ⟨rfl, _, _, rfl⟩
  refine V_tableOut (tgt := 147) hX dL_call_1 (by omega) (by omega) (by decide) ?_
  obtain rfl : kd = 10 := by omega
  refine V_aload_n hX dL_call_147 0 rfl ?_
  refine V_iload hX dL_call_148 4 rfl ?_
  refine V_cV (st := []) (v := .int (jI (goR s z))) (w' := oH o no be tr sn p te b c kp sN sE ++ (hB G no (goS s z) ++ (hB G be s ++ (hB G tr st ++ (hB G sn ss ++ (pW G p (rcQ q sz (goR s z)) (rcH hs sz s (goR s z)) (rcZ sz (goR s z)) ++ (sB G te ch ki fi se ln th ps ++ (bB G b true W vf ++ bB G c false W2 vf2)))))))) hX wc_L_72 (c_X4_pass l G o no be tr sn p te b c kp sN sE s sb st ss q hs sz ch ki fi se ln th ps W vf W2 vf2 z hI hsz (by omega)) (by decide) (by decide) rfl rfl (Nat.le_of_ble_eq_true rfl) dL_call_150 [] ([]) (by simp only [List.append_assoc, List.nil_append, List.append_nil]) 0 rfl rfl (by simp only [List.append_assoc, List.nil_append, List.append_nil]) rfl rfl ?_
  exact V_iret hX hR dL_call_153 ⟨rfl, _, _, rfl⟩
