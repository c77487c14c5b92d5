set_option maxHeartbeats 4000000 in
set_option maxRecDepth 100000 in
theorem c_L_tick (l : Launch) (G : vC) (d : Nat → Nat) (s : Nat → Int) (t : Int) (hI : Inv t s) (ht : t + 1 ≤ 1000000) : Fn l G yL_tick cL_tick 8 (some .int) ({ frames := 1, cells := 0, slots := 0, locals := 21 } : Room) [.ref (d 0), .ref (d 1), .ref (d 2), .ref (d 3)] (lB G d s) (some (.int (jI (tkR s)))) (lB G d (tkS s)) := by
  refine Ct.of (by decide) (Nat.le_of_ble_eq_true rfl) (fun X hX hR => ?_)
  refine V.toLv (lv' := [(0, .ref (d 0)), (1, .ref (d 1)), (2, .ref (d 2)), (3, .ref (d 3))]) rfl ?_
  have hb := hI.base
  obtain ⟨N, hN⟩ : ∃ N : Nat, s 10 = (N : Int) := ⟨(s 10).toNat, by omega⟩
  have hN2 : (s 10).toNat = N := by omega
  refine V_iconst hX dL_tick_0 ?_
  refine V_istore (i := 4) (lv' := [(4, .int (jI 0)), (0, .ref (d 0)), (1, .ref (d 1)), (2, .ref (d 2)), (3, .ref (d 3))]) hX dL_tick_1 (by decide) rfl ?_
  refine V_iconst hX dL_tick_3 ?_
  refine V_istore (i := 5) (lv' := [(5, .int (jI 0)), (4, .int (jI 0)), (0, .ref (d 0)), (1, .ref (d 1)), (2, .ref (d 2)), (3, .ref (d 3))]) hX dL_tick_4 (by decide) rfl ?_
  have L6_q_1 : ∀ k : Nat, k ≤ N → ∀ (i : Int) (acc : Int), (i = (k : Int)) → (acc = twR s k) → V X 0 0 (lB G d (twS s k)) [(5, .int (jI i)), (4, .int (jI acc)), (0, .ref (d 0)), (1, .ref (d 1)), (2, .ref (d 2)), (3, .ref (d 3))] 6 [] := by
    refine up_ind (fun k => ∀ (i : Int) (acc : Int), (i = (k : Int)) → (acc = twR s k) → V X 0 0 (lB G d (twS s k)) [(5, .int (jI i)), (4, .int (jI acc)), (0, .ref (d 0)), (1, .ref (d 1)), (2, .ref (d 2)), (3, .ref (d 3))] 6 []) (N) ?_
    intro k hk ih i acc hi hacc
    have e10 : twS s k 10 = s 10 := twS_lo s k 10 (by decide)
    have hIk := hI.tw k (by omega)
    have hbk := hIk.base
    refine V_iload hX dL_tick_6 0 rfl ?_
    refine V_aload_n hX dL_tick_8 2 rfl ?_
    refine V_bipush hX dL_tick_9 (by decide) ?_
    refine V_iald (i0 := 10) (r := (jI ((twS s k) 10))) hX 0 rfl (by decide) (by decide) (by decide) rfl (by show (if 10 < 17 then jI ((twS s k) (10)) else 0) = jI ((twS s k) 10); rw [if_pos (by omega)]) dL_tick_11 ?_
    refine V_icmp_ge (tgt := 123) hX dL_tick_12 (by decide) (by omega) (by omega) (fun c_2 => ?_) (fun c_2 => ?_)
    · have hkN : k = N := by omega
      refine V.wd (w' := lB G d (twS s N)) (congrArg (lB G d) (by rw [hkN])) ?_
      refine V_iconst hX dL_tick_123 ?_
      refine V_istore (i := 5) (lv' := [(5, .int (jI 0)), (4, .int (jI acc)), (0, .ref (d 0)), (1, .ref (d 1)), (2, .ref (d 2)), (3, .ref (d 3))]) hX dL_tick_124 (by decide) rfl ?_
      have L126_q_3 : ∀ k2 : Nat, k2 ≤ N → ∀ (i2 : Int), (i2 = (k2 : Int)) → V X 0 0 (lB G d (pkS (twS s N) k2)) [(5, .int (jI i2)), (4, .int (jI acc)), (0, .ref (d 0)), (1, .ref (d 1)), (2, .ref (d 2)), (3, .ref (d 3))] 126 [] := by
        refine up_ind (fun k2 => ∀ (i2 : Int), (i2 = (k2 : Int)) → V X 0 0 (lB G d (pkS (twS s N) k2)) [(5, .int (jI i2)), (4, .int (jI acc)), (0, .ref (d 0)), (1, .ref (d 1)), (2, .ref (d 2)), (3, .ref (d 3))] 126 []) (N) ?_
        intro k2 hk ih i2 hi2
        have e10 : pkS (twS s N) k2 10 = s 10 := (pkS_lo _ _ _ (by decide) (by decide)).trans (twS_lo s N 10 (by decide))
        have hIk := (hI.tw N (by omega)).pk k2 (by have e10b : twS s N 10 = s 10 := twS_lo s N 10 (by decide); omega)
        have hbk := hIk.base
        refine V_iload hX dL_tick_126 0 rfl ?_
        refine V_aload_n hX dL_tick_128 2 rfl ?_
        refine V_bipush hX dL_tick_129 (by decide) ?_
        refine V_iald (i0 := 10) (r := (jI ((pkS (twS s N) k2) 10))) hX 0 rfl (by decide) (by decide) (by decide) rfl (by show (if 10 < 17 then jI ((pkS (twS s N) k2) (10)) else 0) = jI ((pkS (twS s N) k2) 10); rw [if_pos (by omega)]) dL_tick_131 ?_
        refine V_icmp_ge (tgt := 260) hX dL_tick_132 (by decide) (by omega) (by omega) (fun c_4 => ?_) (fun c_4 => ?_)
        · have hkN2 : k2 = N := by omega
          refine V.wd (w' := lB G d (tkA s)) (congrArg (lB G d) (by rw [hkN2]; unfold tkA; rw [hN2])) ?_
          refine V_aload_n hX dL_tick_260 2 rfl ?_
          refine V_iconst hX dL_tick_261 ?_
          refine V_dup2 hX dL_tick_262 rfl rfl ?_
          refine V_iald (i0 := 2) (r := (jI ((tkA s) 2))) hX 0 rfl (by decide) (by decide) (by decide) rfl (by show (if 2 < 17 then jI ((tkA s) (2)) else 0) = jI ((tkA s) 2); rw [if_pos (by omega)]) dL_tick_263 ?_
          refine V_iconst hX dL_tick_264 ?_
          refine V_iadd hX dL_tick_265 rfl ?_
          refine V_iast (i0 := 2) (w' := lB G d (up (tkA s) 2 (((tkA s) 2) + 1))) hX 0 rfl (by decide) (by decide) (by decide) rfl dL_tick_266 (lB_q G _ _ 2 _ (by omega)) ?_
          refine V_aload_n hX dL_tick_267 2 rfl ?_
          refine V_bipush hX dL_tick_268 (by decide) ?_
          refine V_dup2 hX dL_tick_270 rfl rfl ?_
          refine V_iald (i0 := 7) (r := (jI ((tkA s) 7))) hX 0 rfl (by decide) (by decide) (by decide) rfl (by show (if 7 < 17 then jI ((up (tkA s) 2 (((tkA s) 2) + 1)) (7)) else 0) = jI ((tkA s) 7); rw [if_pos (by omega), up_ne (by decide)]) dL_tick_271 ?_
          refine V_iload hX dL_tick_272 1 rfl ?_
          refine V_iadd hX dL_tick_274 rfl ?_
          refine V_iast (i0 := 7) (w' := lB G d (up (up (tkA s) 2 (((tkA s) 2) + 1)) 7 (((tkA s) 7) + acc))) hX 0 rfl (by decide) (by decide) (by decide) rfl dL_tick_275 (lB_q G _ _ 7 _ (by omega)) ?_
          obtain ⟨Y, hY⟩ : ∃ Y : Nat → Int, Y = up (up (tkA s) 2 (((tkA s) 2) + 1)) 7 (((tkA s) 7) + acc) := ⟨_, rfl⟩
          have hTY : tkS s = shS Y := by rw [hY, hacc, hkN, ← hN2]; rfl
          have hIY : Inv (t + 1) Y := by rw [hY]; exact (hI.tkB ht).f7 _ trivial
          have hbY := hIY.base
          refine V.wd (w' := lB G d Y) (congrArg (lB G d) hY.symm) ?_
          refine V_aload_n hX dL_tick_276 2 rfl ?_
          refine V_iconst hX dL_tick_277 ?_
          refine V_aload_n hX dL_tick_278 2 rfl ?_
          refine V_iconst hX dL_tick_279 ?_
          refine V_iald (i0 := 0) (r := (jI (Y 0))) hX 0 rfl (by decide) (by decide) (by decide) rfl (by show (if 0 < 17 then jI (Y (0)) else 0) = jI (Y 0); rw [if_pos (by omega)]) dL_tick_280 ?_
          refine V_if_le (tgt := 304) hX dL_tick_281 (by decide) (by omega) (fun c_5 => ?_) (fun c_5 => ?_)
          · refine V_aload_n hX dL_tick_304 2 rfl ?_
            refine V_iconst hX dL_tick_305 ?_
            refine V_iald (i0 := 3) (r := (jI (Y 3))) hX 0 rfl (by decide) (by decide) (by decide) rfl (by show (if 3 < 17 then jI (Y (3)) else 0) = jI (Y 3); rw [if_pos (by omega)]) dL_tick_306 ?_
            refine V_iast (i0 := 3) (w' := lB G d (up Y 3 (Y 3))) hX 0 rfl (by decide) (by decide) (by decide) rfl dL_tick_307 (lB_q G _ _ 3 _ (by omega)) ?_
            refine V_iload hX dL_tick_308 1 rfl ?_
            exact V_iret hX hR dL_tick_310 ⟨(congrArg (fun z => some (Value.int (jI z))) (by rw [hacc, hkN]; unfold tkR; rw [hN2])), (congrArg (lB G d) (by rw [hTY]; unfold shS; split <;> first | rfl | omega | exact up_same rfl))⟩
          · refine V_aload_n hX dL_tick_284 2 rfl ?_
            refine V_iconst hX dL_tick_285 ?_
            refine V_iald (i0 := 2) (r := (jI (Y 2))) hX 0 rfl (by decide) (by decide) (by decide) rfl (by show (if 2 < 17 then jI (Y (2)) else 0) = jI (Y 2); rw [if_pos (by omega)]) dL_tick_286 ?_
            refine V_aload_n hX dL_tick_287 2 rfl ?_
            refine V_iconst hX dL_tick_288 ?_
            refine V_iald (i0 := 0) (r := (jI (Y 0))) hX 0 rfl (by decide) (by decide) (by decide) rfl (by show (if 0 < 17 then jI (Y (0)) else 0) = jI (Y 0); rw [if_pos (by omega)]) dL_tick_289 ?_
            refine V_irem hX dL_tick_290 (by omega) (by omega) (by omega) (by omega) rfl ?_
            refine V_if_ne (tgt := 304) hX dL_tick_291 (by decide) ⟨by have := Int.emod_nonneg (Y 2) (show Y 0 ≠ 0 by omega); omega, by have := Int.emod_lt_of_pos (Y 2) (show 0 < Y 0 by omega); omega⟩ (fun c_6 => ?_) (fun c_6 => ?_)
            · refine V_aload_n hX dL_tick_304 2 rfl ?_
              refine V_iconst hX dL_tick_305 ?_
              refine V_iald (i0 := 3) (r := (jI (Y 3))) hX 0 rfl (by decide) (by decide) (by decide) rfl (by show (if 3 < 17 then jI (Y (3)) else 0) = jI (Y 3); rw [if_pos (by omega)]) dL_tick_306 ?_
              refine V_iast (i0 := 3) (w' := lB G d (up Y 3 (Y 3))) hX 0 rfl (by decide) (by decide) (by decide) rfl dL_tick_307 (lB_q G _ _ 3 _ (by omega)) ?_
              refine V_iload hX dL_tick_308 1 rfl ?_
              exact V_iret hX hR dL_tick_310 ⟨(congrArg (fun z => some (Value.int (jI z))) (by rw [hacc, hkN]; unfold tkR; rw [hN2])), (congrArg (lB G d) (by rw [hTY]; unfold shS; split <;> first | rfl | omega | exact up_same rfl))⟩
            · refine V_aload_n hX dL_tick_294 2 rfl ?_
              refine V_iconst hX dL_tick_295 ?_
              refine V_iald (i0 := 3) (r := (jI (Y 3))) hX 0 rfl (by decide) (by decide) (by decide) rfl (by show (if 3 < 17 then jI (Y (3)) else 0) = jI (Y 3); rw [if_pos (by omega)]) dL_tick_296 ?_
              refine V_iconst hX dL_tick_297 ?_
              refine V_iadd hX dL_tick_298 rfl ?_
              refine V_iconst hX dL_tick_299 ?_
              refine V_irem hX dL_tick_300 (by omega) (by omega) (by omega) (by omega) rfl ?_
              refine V_goto (tgt := 307) hX dL_tick_301 (by decide) ?_
              refine V_iast (i0 := 3) (w' := lB G d (up Y 3 (((Y 3) + 1) % 4))) hX 0 rfl (by decide) (by decide) (by decide) rfl dL_tick_307 (lB_q G _ _ 3 _ (by omega)) ?_
              refine V_iload hX dL_tick_308 1 rfl ?_
              exact V_iret hX hR dL_tick_310 ⟨(congrArg (fun z => some (Value.int (jI z))) (by rw [hacc, hkN]; unfold tkR; rw [hN2])), (congrArg (lB G d) (by rw [hTY]; unfold shS; split <;> first | rfl | omega | exact up_same rfl))⟩
        · have hs := hIk.sc k2 (by omega)
          have hpl := plN_b hIk k2 (by omega)
          have hcN : crN (pkS (twS s N) k2) k2 = (pkS (twS s N) k2) (ix k2 5) + (pkS (twS s N) k2) (ix k2 6) + (pkS (twS s N) k2) (ix k2 7) + (pkS (twS s N) k2) (ix k2 8) := rfl
          refine V_iload hX dL_tick_135 0 rfl ?_
          refine V_aload_n hX dL_tick_137 4 rfl ?_
          refine V.sk (st' := [.ref (d 2), .int (jI ((k2 : Int)))]) (congrArg (fun z : Int => [Value.ref (d 2), Value.int (jI z)]) (show i2 = (k2 : Int) by omega)) ?_
          refine V_cS (st := []) (v := .int (jI (crN (pkS (twS s N) k2) k2))) (w' := lB G d (pkS (twS s N) k2)) hX wc_L_34 (c_L_crows l G d (pkS (twS s N) k2) k2 (by omega)) (by decide) (by decide) rfl rfl (Nat.le_of_ble_eq_true rfl) dL_tick_138 [] ([]) (by simp only [List.append_assoc, List.nil_append, List.append_nil]) (by simp only [List.append_assoc, List.nil_append, List.append_nil]) rfl rfl ?_
          refine V_aload_n hX dL_tick_141 3 rfl ?_
          refine V_iconst hX dL_tick_142 ?_
          refine V_iload hX dL_tick_143 0 rfl ?_
          refine V_imul hX dL_tick_145 rfl ?_
          refine V_iconst hX dL_tick_146 ?_
          refine V_iadd hX dL_tick_147 rfl ?_
          refine V_iald (i0 := 5 * k2 + 4) (r := (jI ((pkS (twS s N) k2) (ix k2 4)))) hX 1 rfl (by omega) (by omega) (by omega) (by omega) (by show jI ((pkS (twS s N) k2) (ix ((5 * k2 + 4) / 5) ((5 * k2 + 4) % 5))) = jI ((pkS (twS s N) k2) (ix k2 4)); rw [show ix ((5 * k2 + 4) / 5) ((5 * k2 + 4) % 5) = ix k2 4 by unfold ix; omega]) dL_tick_148 ?_
          refine V_icmp_ge (tgt := 161) hX dL_tick_149 (by decide) (by omega) (by omega) (fun c_7 => ?_) (fun c_7 => ?_)
          · refine V_aload_n hX dL_tick_161 3 rfl ?_
            refine V_iconst hX dL_tick_162 ?_
            refine V_iload hX dL_tick_163 0 rfl ?_
            refine V_imul hX dL_tick_165 rfl ?_
            refine V_iconst hX dL_tick_166 ?_
            refine V_iadd hX dL_tick_167 rfl ?_
            refine V_iald (i0 := 5 * k2 + 4) (r := (jI ((pkS (twS s N) k2) (ix k2 4)))) hX 1 rfl (by omega) (by omega) (by omega) (by omega) (by show jI ((pkS (twS s N) k2) (ix ((5 * k2 + 4) / 5) ((5 * k2 + 4) % 5))) = jI ((pkS (twS s N) k2) (ix k2 4)); rw [show ix ((5 * k2 + 4) / 5) ((5 * k2 + 4) % 5) = ix k2 4 by unfold ix; omega]) dL_tick_168 ?_
            refine V.sk (st' := [.int (jI (plN (pkS (twS s N) k2) k2))]) (congrArg (fun z : Int => [Value.int (jI z)]) (by unfold plN; split <;> omega)) ?_
            refine V_istore (i := 6) (lv' := [(6, .int (jI (plN (pkS (twS s N) k2) k2))), (5, .int (jI i2)), (4, .int (jI acc)), (0, .ref (d 0)), (1, .ref (d 1)), (2, .ref (d 2)), (3, .ref (d 3))]) hX dL_tick_169 (by decide) rfl ?_
            refine V_aload_n hX dL_tick_171 4 rfl ?_
            refine V_iconst hX dL_tick_172 ?_
            refine V_iload hX dL_tick_173 1 rfl ?_
            refine V_imul hX dL_tick_175 rfl ?_
            refine V_iconst hX dL_tick_176 ?_
            refine V_iadd hX dL_tick_177 rfl ?_
            refine V_dup2 hX dL_tick_178 rfl rfl ?_
            refine V_iald (i0 := 5 * k2 + 4) (r := (jI ((pkS (twS s N) k2) (ix k2 4)))) hX 1 rfl (by omega) (by omega) (by omega) (by omega) (by show jI ((pkS (twS s N) k2) (ix ((5 * k2 + 4) / 5) ((5 * k2 + 4) % 5))) = jI ((pkS (twS s N) k2) (ix k2 4)); rw [show ix ((5 * k2 + 4) / 5) ((5 * k2 + 4) % 5) = ix k2 4 by unfold ix; omega]) dL_tick_179 ?_
            refine V_iload hX dL_tick_180 0 rfl ?_
            refine V_isub hX dL_tick_182 rfl ?_
            refine V_iast (i0 := 5 * k2 + 4) (w' := lB G d (up (pkS (twS s N) k2) (ix k2 4) (((pkS (twS s N) k2) (ix k2 4)) - (plN (pkS (twS s N) k2) k2)))) hX 1 rfl (by omega) (by omega) (by omega) (by omega) dL_tick_183 (lB_a G _ _ k2 4 _ (by omega)) ?_
            refine V_aload_n hX dL_tick_184 6 rfl ?_
            refine V_iconst hX dL_tick_185 ?_
            refine V_iload hX dL_tick_186 1 rfl ?_
            refine V_imul hX dL_tick_188 rfl ?_
            refine V_iconst hX dL_tick_189 ?_
            refine V_iadd hX dL_tick_190 rfl ?_
            refine V_dup2 hX dL_tick_191 rfl rfl ?_
            refine V_iald (i0 := 2 * k2 + 1) (r := (jI ((pkS (twS s N) k2) (ix k2 10)))) hX 3 rfl (by omega) (by omega) (by omega) (by omega) (by show jI ((up (pkS (twS s N) k2) (ix k2 4) (((pkS (twS s N) k2) (ix k2 4)) - (plN (pkS (twS s N) k2) k2))) (ix ((2 * k2 + 1) / 2) (9 + (2 * k2 + 1) % 2))) = jI ((pkS (twS s N) k2) (ix k2 10)); rw [show ix ((2 * k2 + 1) / 2) (9 + (2 * k2 + 1) % 2) = ix k2 10 by unfold ix; omega, up_ne (by unfold ix; omega)]) dL_tick_192 ?_
            refine V_iload hX dL_tick_193 0 rfl ?_
            refine V_iadd hX dL_tick_195 rfl ?_
            refine V_iast (i0 := 2 * k2 + 1) (w' := lB G d (up (up (pkS (twS s N) k2) (ix k2 4) (((pkS (twS s N) k2) (ix k2 4)) - (plN (pkS (twS s N) k2) k2))) (ix k2 10) (((pkS (twS s N) k2) (ix k2 10)) + (plN (pkS (twS s N) k2) k2)))) hX 3 rfl (by omega) (by omega) (by omega) (by omega) dL_tick_196 (lB_n G _ _ k2 1 _ (by omega)) ?_
            refine V_aload_n hX dL_tick_197 3 rfl ?_
            refine V_bipush hX dL_tick_198 (by decide) ?_
            refine V_dup2 hX dL_tick_200 rfl rfl ?_
            refine V_iald (i0 := 6) (r := (jI ((pkS (twS s N) k2) 6))) hX 0 rfl (by decide) (by decide) (by decide) rfl (by show (if 6 < 17 then jI ((up (up (pkS (twS s N) k2) (ix k2 4) (((pkS (twS s N) k2) (ix k2 4)) - (plN (pkS (twS s N) k2) k2))) (ix k2 10) (((pkS (twS s N) k2) (ix k2 10)) + (plN (pkS (twS s N) k2) k2))) (6)) else 0) = jI ((pkS (twS s N) k2) 6); rw [if_pos (by omega), up_ne (by unfold ix; omega), up_ne (by unfold ix; omega)]) dL_tick_201 ?_
            refine V_iload hX dL_tick_202 0 rfl ?_
            refine V_iadd hX dL_tick_204 rfl ?_
            refine V_iast (i0 := 6) (w' := lB G d (up (up (up (pkS (twS s N) k2) (ix k2 4) (((pkS (twS s N) k2) (ix k2 4)) - (plN (pkS (twS s N) k2) k2))) (ix k2 10) (((pkS (twS s N) k2) (ix k2 10)) + (plN (pkS (twS s N) k2) k2))) 6 (((pkS (twS s N) k2) 6) + (plN (pkS (twS s N) k2) k2)))) hX 0 rfl (by decide) (by decide) (by decide) rfl dL_tick_205 (lB_q G _ _ 6 _ (by omega)) ?_
            have hp4 : pl1 (pkS (twS s N) k2) k2 (ix k2 4) = (pkS (twS s N) k2) (ix k2 4) - plN (pkS (twS s N) k2) k2 := by unfold pl1; rw [up_ne (by unfold ix; omega), up_ne (by unfold ix; omega), up_eq]
            refine V.wd (w' := lB G d (pl1 (pkS (twS s N) k2) k2)) (congrArg (lB G d) rfl) ?_
            refine V_iconst hX dL_tick_206 ?_
            refine V_istore (i := 7) (lv' := [(7, .int (jI 0)), (6, .int (jI (plN (pkS (twS s N) k2) k2))), (5, .int (jI i2)), (4, .int (jI acc)), (0, .ref (d 0)), (1, .ref (d 1)), (2, .ref (d 2)), (3, .ref (d 3))]) hX dL_tick_207 (by decide) rfl ?_
            refine V_iload hX dL_tick_209 0 rfl ?_
            refine V_iconst hX dL_tick_211 ?_
            refine V_icmp_ge (tgt := 254) hX dL_tick_212 (by decide) (by decide) (by decide) (fun c_8 => absurd c_8 (by decide)) (fun c_8 => ?_)
            refine V_aload_n hX dL_tick_215 6 rfl ?_
            refine V_iconst hX dL_tick_216 ?_
            refine V_iload hX dL_tick_217 2 rfl ?_
            refine V_imul hX dL_tick_219 rfl ?_
            refine V_iload hX dL_tick_220 0 rfl ?_
            refine V_iadd hX dL_tick_222 rfl ?_
            refine V_aload_n hX dL_tick_223 5 rfl ?_
            refine V_iconst hX dL_tick_224 ?_
            refine V_iload hX dL_tick_225 2 rfl ?_
            refine V_imul hX dL_tick_227 rfl ?_
            refine V_iconst hX dL_tick_228 ?_
            refine V_iadd hX dL_tick_229 rfl ?_
            refine V_iald (i0 := 5 * k2 + 4) (r := (jI ((pl1 (pkS (twS s N) k2) k2) (ix k2 4)))) hX 1 rfl (by omega) (by omega) (by omega) (by omega) (by show jI ((pl1 (pkS (twS s N) k2) k2) (ix ((5 * k2 + 4) / 5) ((5 * k2 + 4) % 5))) = jI ((pl1 (pkS (twS s N) k2) k2) (ix k2 4)); rw [show ix ((5 * k2 + 4) / 5) ((5 * k2 + 4) % 5) = ix k2 4 by unfold ix; omega]) dL_tick_230 ?_
            refine V_if_ne (tgt := 238) hX dL_tick_231 (by decide) (by omega) (fun c_9 => ?_) (fun c_9 => ?_)
            · refine V_aload_n hX dL_tick_238 6 rfl ?_
              refine V_iconst hX dL_tick_239 ?_
              refine V_iload hX dL_tick_240 2 rfl ?_
              refine V_imul hX dL_tick_242 rfl ?_
              refine V_iload hX dL_tick_243 0 rfl ?_
              refine V_iadd hX dL_tick_245 rfl ?_
              refine V_iald (i0 := 4 * k2 + 0) (r := (jI ((pl1 (pkS (twS s N) k2) k2) (ix k2 5)))) hX 2 rfl (by omega) (by omega) (by omega) (by omega) (by show jI ((pl1 (pkS (twS s N) k2) k2) (ix ((4 * k2 + 0) / 4) (5 + (4 * k2 + 0) % 4))) = jI ((pl1 (pkS (twS s N) k2) k2) (ix k2 5)); rw [show ix ((4 * k2 + 0) / 4) (5 + (4 * k2 + 0) % 4) = ix k2 5 by unfold ix; omega]) dL_tick_246 ?_
              refine V_iast (i0 := 4 * k2 + 0) (w' := lB G d (up (pl1 (pkS (twS s N) k2) k2) (ix k2 5) ((pl1 (pkS (twS s N) k2) k2) (ix k2 5)))) hX 2 rfl (by omega) (by omega) (by omega) (by omega) dL_tick_247 (lB_cr G _ _ k2 0 _ (by omega)) ?_
              refine V_iinc (b := 1) (lv' := [(7, .int (jI 1)), (6, .int (jI (plN (pkS (twS s N) k2) k2))), (5, .int (jI i2)), (4, .int (jI acc)), (0, .ref (d 0)), (1, .ref (d 1)), (2, .ref (d 2)), (3, .ref (d 3))]) hX dL_tick_248 0 rfl rfl (by decide) rfl ?_
              refine V_goto (tgt := 209) hX dL_tick_251 (by decide) ?_
              refine V_iload hX dL_tick_209 0 rfl ?_
              refine V_iconst hX dL_tick_211 ?_
              refine V_icmp_ge (tgt := 254) hX dL_tick_212 (by decide) (by decide) (by decide) (fun c_10 => absurd c_10 (by decide)) (fun c_10 => ?_)
              refine V_aload_n hX dL_tick_215 6 rfl ?_
              refine V_iconst hX dL_tick_216 ?_
              refine V_iload hX dL_tick_217 2 rfl ?_
              refine V_imul hX dL_tick_219 rfl ?_
              refine V_iload hX dL_tick_220 0 rfl ?_
              refine V_iadd hX dL_tick_222 rfl ?_
              refine V_aload_n hX dL_tick_223 5 rfl ?_
              refine V_iconst hX dL_tick_224 ?_
              refine V_iload hX dL_tick_225 2 rfl ?_
              refine V_imul hX dL_tick_227 rfl ?_
              refine V_iconst hX dL_tick_228 ?_
              refine V_iadd hX dL_tick_229 rfl ?_
              refine V_iald (i0 := 5 * k2 + 4) (r := (jI ((pl1 (pkS (twS s N) k2) k2) (ix k2 4)))) hX 1 rfl (by omega) (by omega) (by omega) (by omega) (by show jI ((up (pl1 (pkS (twS s N) k2) k2) (ix k2 5) ((pl1 (pkS (twS s N) k2) k2) (ix k2 5))) (ix ((5 * k2 + 4) / 5) ((5 * k2 + 4) % 5))) = jI ((pl1 (pkS (twS s N) k2) k2) (ix k2 4)); rw [show ix ((5 * k2 + 4) / 5) ((5 * k2 + 4) % 5) = ix k2 4 by unfold ix; omega, up_ne (by unfold ix; omega)]) dL_tick_230 ?_
              refine V_if_ne (tgt := 238) hX dL_tick_231 (by decide) (by omega) (fun c_11 => ?_) (fun c_11 => by omega)
              refine V_aload_n hX dL_tick_238 6 rfl ?_
              refine V_iconst hX dL_tick_239 ?_
              refine V_iload hX dL_tick_240 2 rfl ?_
              refine V_imul hX dL_tick_242 rfl ?_
              refine V_iload hX dL_tick_243 0 rfl ?_
              refine V_iadd hX dL_tick_245 rfl ?_
              refine V_iald (i0 := 4 * k2 + 1) (r := (jI ((pl1 (pkS (twS s N) k2) k2) (ix k2 6)))) hX 2 rfl (by omega) (by omega) (by omega) (by omega) (by show jI ((up (pl1 (pkS (twS s N) k2) k2) (ix k2 5) ((pl1 (pkS (twS s N) k2) k2) (ix k2 5))) (ix ((4 * k2 + 1) / 4) (5 + (4 * k2 + 1) % 4))) = jI ((pl1 (pkS (twS s N) k2) k2) (ix k2 6)); rw [show ix ((4 * k2 + 1) / 4) (5 + (4 * k2 + 1) % 4) = ix k2 6 by unfold ix; omega, up_ne (by unfold ix; omega)]) dL_tick_246 ?_
              refine V_iast (i0 := 4 * k2 + 1) (w' := lB G d (up (up (pl1 (pkS (twS s N) k2) k2) (ix k2 5) ((pl1 (pkS (twS s N) k2) k2) (ix k2 5))) (ix k2 6) ((pl1 (pkS (twS s N) k2) k2) (ix k2 6)))) hX 2 rfl (by omega) (by omega) (by omega) (by omega) dL_tick_247 (lB_cr G _ _ k2 1 _ (by omega)) ?_
              refine V_iinc (b := 2) (lv' := [(7, .int (jI 2)), (6, .int (jI (plN (pkS (twS s N) k2) k2))), (5, .int (jI i2)), (4, .int (jI acc)), (0, .ref (d 0)), (1, .ref (d 1)), (2, .ref (d 2)), (3, .ref (d 3))]) hX dL_tick_248 0 rfl rfl (by decide) rfl ?_
              refine V_goto (tgt := 209) hX dL_tick_251 (by decide) ?_
              refine V_iload hX dL_tick_209 0 rfl ?_
              refine V_iconst hX dL_tick_211 ?_
              refine V_icmp_ge (tgt := 254) hX dL_tick_212 (by decide) (by decide) (by decide) (fun c_12 => absurd c_12 (by decide)) (fun c_12 => ?_)
              refine V_aload_n hX dL_tick_215 6 rfl ?_
              refine V_iconst hX dL_tick_216 ?_
              refine V_iload hX dL_tick_217 2 rfl ?_
              refine V_imul hX dL_tick_219 rfl ?_
              refine V_iload hX dL_tick_220 0 rfl ?_
              refine V_iadd hX dL_tick_222 rfl ?_
              refine V_aload_n hX dL_tick_223 5 rfl ?_
              refine V_iconst hX dL_tick_224 ?_
              refine V_iload hX dL_tick_225 2 rfl ?_
              refine V_imul hX dL_tick_227 rfl ?_
              refine V_iconst hX dL_tick_228 ?_
              refine V_iadd hX dL_tick_229 rfl ?_
              refine V_iald (i0 := 5 * k2 + 4) (r := (jI ((pl1 (pkS (twS s N) k2) k2) (ix k2 4)))) hX 1 rfl (by omega) (by omega) (by omega) (by omega) (by show jI ((up (up (pl1 (pkS (twS s N) k2) k2) (ix k2 5) ((pl1 (pkS (twS s N) k2) k2) (ix k2 5))) (ix k2 6) ((pl1 (pkS (twS s N) k2) k2) (ix k2 6))) (ix ((5 * k2 + 4) / 5) ((5 * k2 + 4) % 5))) = jI ((pl1 (pkS (twS s N) k2) k2) (ix k2 4)); rw [show ix ((5 * k2 + 4) / 5) ((5 * k2 + 4) % 5) = ix k2 4 by unfold ix; omega, up_ne (by unfold ix; omega), up_ne (by unfold ix; omega)]) dL_tick_230 ?_
              refine V_if_ne (tgt := 238) hX dL_tick_231 (by decide) (by omega) (fun c_13 => ?_) (fun c_13 => by omega)
              refine V_aload_n hX dL_tick_238 6 rfl ?_
              refine V_iconst hX dL_tick_239 ?_
              refine V_iload hX dL_tick_240 2 rfl ?_
              refine V_imul hX dL_tick_242 rfl ?_
              refine V_iload hX dL_tick_243 0 rfl ?_
              refine V_iadd hX dL_tick_245 rfl ?_
              refine V_iald (i0 := 4 * k2 + 2) (r := (jI ((pl1 (pkS (twS s N) k2) k2) (ix k2 7)))) hX 2 rfl (by omega) (by omega) (by omega) (by omega) (by show jI ((up (up (pl1 (pkS (twS s N) k2) k2) (ix k2 5) ((pl1 (pkS (twS s N) k2) k2) (ix k2 5))) (ix k2 6) ((pl1 (pkS (twS s N) k2) k2) (ix k2 6))) (ix ((4 * k2 + 2) / 4) (5 + (4 * k2 + 2) % 4))) = jI ((pl1 (pkS (twS s N) k2) k2) (ix k2 7)); rw [show ix ((4 * k2 + 2) / 4) (5 + (4 * k2 + 2) % 4) = ix k2 7 by unfold ix; omega, up_ne (by unfold ix; omega), up_ne (by unfold ix; omega)]) dL_tick_246 ?_
              refine V_iast (i0 := 4 * k2 + 2) (w' := lB G d (up (up (up (pl1 (pkS (twS s N) k2) k2) (ix k2 5) ((pl1 (pkS (twS s N) k2) k2) (ix k2 5))) (ix k2 6) ((pl1 (pkS (twS s N) k2) k2) (ix k2 6))) (ix k2 7) ((pl1 (pkS (twS s N) k2) k2) (ix k2 7)))) hX 2 rfl (by omega) (by omega) (by omega) (by omega) dL_tick_247 (lB_cr G _ _ k2 2 _ (by omega)) ?_
              refine V_iinc (b := 3) (lv' := [(7, .int (jI 3)), (6, .int (jI (plN (pkS (twS s N) k2) k2))), (5, .int (jI i2)), (4, .int (jI acc)), (0, .ref (d 0)), (1, .ref (d 1)), (2, .ref (d 2)), (3, .ref (d 3))]) hX dL_tick_248 0 rfl rfl (by decide) rfl ?_
              refine V_goto (tgt := 209) hX dL_tick_251 (by decide) ?_
              refine V_iload hX dL_tick_209 0 rfl ?_
              refine V_iconst hX dL_tick_211 ?_
              refine V_icmp_ge (tgt := 254) hX dL_tick_212 (by decide) (by decide) (by decide) (fun c_14 => absurd c_14 (by decide)) (fun c_14 => ?_)
              refine V_aload_n hX dL_tick_215 6 rfl ?_
              refine V_iconst hX dL_tick_216 ?_
              refine V_iload hX dL_tick_217 2 rfl ?_
              refine V_imul hX dL_tick_219 rfl ?_
              refine V_iload hX dL_tick_220 0 rfl ?_
              refine V_iadd hX dL_tick_222 rfl ?_
              refine V_aload_n hX dL_tick_223 5 rfl ?_
              refine V_iconst hX dL_tick_224 ?_
              refine V_iload hX dL_tick_225 2 rfl ?_
              refine V_imul hX dL_tick_227 rfl ?_
              refine V_iconst hX dL_tick_228 ?_
              refine V_iadd hX dL_tick_229 rfl ?_
              refine V_iald (i0 := 5 * k2 + 4) (r := (jI ((pl1 (pkS (twS s N) k2) k2) (ix k2 4)))) hX 1 rfl (by omega) (by omega) (by omega) (by omega) (by show jI ((up (up (up (pl1 (pkS (twS s N) k2) k2) (ix k2 5) ((pl1 (pkS (twS s N) k2) k2) (ix k2 5))) (ix k2 6) ((pl1 (pkS (twS s N) k2) k2) (ix k2 6))) (ix k2 7) ((pl1 (pkS (twS s N) k2) k2) (ix k2 7))) (ix ((5 * k2 + 4) / 5) ((5 * k2 + 4) % 5))) = jI ((pl1 (pkS (twS s N) k2) k2) (ix k2 4)); rw [show ix ((5 * k2 + 4) / 5) ((5 * k2 + 4) % 5) = ix k2 4 by unfold ix; omega, up_ne (by unfold ix; omega), up_ne (by unfold ix; omega), up_ne (by unfold ix; omega)]) dL_tick_230 ?_
              refine V_if_ne (tgt := 238) hX dL_tick_231 (by decide) (by omega) (fun c_15 => ?_) (fun c_15 => by omega)
              refine V_aload_n hX dL_tick_238 6 rfl ?_
              refine V_iconst hX dL_tick_239 ?_
              refine V_iload hX dL_tick_240 2 rfl ?_
              refine V_imul hX dL_tick_242 rfl ?_
              refine V_iload hX dL_tick_243 0 rfl ?_
              refine V_iadd hX dL_tick_245 rfl ?_
              refine V_iald (i0 := 4 * k2 + 3) (r := (jI ((pl1 (pkS (twS s N) k2) k2) (ix k2 8)))) hX 2 rfl (by omega) (by omega) (by omega) (by omega) (by show jI ((up (up (up (pl1 (pkS (twS s N) k2) k2) (ix k2 5) ((pl1 (pkS (twS s N) k2) k2) (ix k2 5))) (ix k2 6) ((pl1 (pkS (twS s N) k2) k2) (ix k2 6))) (ix k2 7) ((pl1 (pkS (twS s N) k2) k2) (ix k2 7))) (ix ((4 * k2 + 3) / 4) (5 + (4 * k2 + 3) % 4))) = jI ((pl1 (pkS (twS s N) k2) k2) (ix k2 8)); rw [show ix ((4 * k2 + 3) / 4) (5 + (4 * k2 + 3) % 4) = ix k2 8 by unfold ix; omega, up_ne (by unfold ix; omega), up_ne (by unfold ix; omega), up_ne (by unfold ix; omega)]) dL_tick_246 ?_
              refine V_iast (i0 := 4 * k2 + 3) (w' := lB G d (up (up (up (up (pl1 (pkS (twS s N) k2) k2) (ix k2 5) ((pl1 (pkS (twS s N) k2) k2) (ix k2 5))) (ix k2 6) ((pl1 (pkS (twS s N) k2) k2) (ix k2 6))) (ix k2 7) ((pl1 (pkS (twS s N) k2) k2) (ix k2 7))) (ix k2 8) ((pl1 (pkS (twS s N) k2) k2) (ix k2 8)))) hX 2 rfl (by omega) (by omega) (by omega) (by omega) dL_tick_247 (lB_cr G _ _ k2 3 _ (by omega)) ?_
              refine V_iinc (b := 4) (lv' := [(7, .int (jI 4)), (6, .int (jI (plN (pkS (twS s N) k2) k2))), (5, .int (jI i2)), (4, .int (jI acc)), (0, .ref (d 0)), (1, .ref (d 1)), (2, .ref (d 2)), (3, .ref (d 3))]) hX dL_tick_248 0 rfl rfl (by decide) rfl ?_
              refine V_goto (tgt := 209) hX dL_tick_251 (by decide) ?_
              refine V_iload hX dL_tick_209 0 rfl ?_
              refine V_iconst hX dL_tick_211 ?_
              refine V_icmp_ge (tgt := 254) hX dL_tick_212 (by decide) (by decide) (by decide) (fun c_16 => ?_) (fun c_16 => absurd c_16 (by decide))
              refine V.wd (w' := lB G d (pkS (twS s N) (k2 + 1))) (congrArg (lB G d) (by show _ = plS (pkS (twS s N) k2) k2; unfold plS; first | (rw [if_pos (by omega)]; first | done | rfl) | (rw [if_neg (by omega), up_same (s := pl1 (pkS (twS s N) k2) k2) (j := ix k2 5) rfl, up_same (s := pl1 (pkS (twS s N) k2) k2) (j := ix k2 6) rfl, up_same (s := pl1 (pkS (twS s N) k2) k2) (j := ix k2 7) rfl, up_same (s := pl1 (pkS (twS s N) k2) k2) (j := ix k2 8) rfl]))) ?_
              refine V_iinc (b := i2 + 1) (lv' := [(5, .int (jI (i2 + 1))), (7, .int (jI 4)), (6, .int (jI (plN (pkS (twS s N) k2) k2))), (4, .int (jI acc)), (0, .ref (d 0)), (1, .ref (d 1)), (2, .ref (d 2)), (3, .ref (d 3))]) hX dL_tick_254 2 rfl rfl (by decide) rfl ?_
              refine V_goto (tgt := 126) hX dL_tick_257 (by decide) ?_
              refine V.sub [0, 3, 4, 5, 6, 7] rfl ?_
              exact ih (by omega) _ (by omega)
            · refine V_iconst hX dL_tick_234 ?_
              refine V_goto (tgt := 247) hX dL_tick_235 (by decide) ?_
              refine V_iast (i0 := 4 * k2 + 0) (w' := lB G d (up (pl1 (pkS (twS s N) k2) k2) (ix k2 5) 0)) hX 2 rfl (by omega) (by omega) (by omega) (by omega) dL_tick_247 (lB_cr G _ _ k2 0 _ (by omega)) ?_
              refine V_iinc (b := 1) (lv' := [(7, .int (jI 1)), (6, .int (jI (plN (pkS (twS s N) k2) k2))), (5, .int (jI i2)), (4, .int (jI acc)), (0, .ref (d 0)), (1, .ref (d 1)), (2, .ref (d 2)), (3, .ref (d 3))]) hX dL_tick_248 0 rfl rfl (by decide) rfl ?_
              refine V_goto (tgt := 209) hX dL_tick_251 (by decide) ?_
              refine V_iload hX dL_tick_209 0 rfl ?_
              refine V_iconst hX dL_tick_211 ?_
              refine V_icmp_ge (tgt := 254) hX dL_tick_212 (by decide) (by decide) (by decide) (fun c_17 => absurd c_17 (by decide)) (fun c_17 => ?_)
              refine V_aload_n hX dL_tick_215 6 rfl ?_
              refine V_iconst hX dL_tick_216 ?_
              refine V_iload hX dL_tick_217 2 rfl ?_
              refine V_imul hX dL_tick_219 rfl ?_
              refine V_iload hX dL_tick_220 0 rfl ?_
              refine V_iadd hX dL_tick_222 rfl ?_
              refine V_aload_n hX dL_tick_223 5 rfl ?_
              refine V_iconst hX dL_tick_224 ?_
              refine V_iload hX dL_tick_225 2 rfl ?_
              refine V_imul hX dL_tick_227 rfl ?_
              refine V_iconst hX dL_tick_228 ?_
              refine V_iadd hX dL_tick_229 rfl ?_
              refine V_iald (i0 := 5 * k2 + 4) (r := (jI ((pl1 (pkS (twS s N) k2) k2) (ix k2 4)))) hX 1 rfl (by omega) (by omega) (by omega) (by omega) (by show jI ((up (pl1 (pkS (twS s N) k2) k2) (ix k2 5) 0) (ix ((5 * k2 + 4) / 5) ((5 * k2 + 4) % 5))) = jI ((pl1 (pkS (twS s N) k2) k2) (ix k2 4)); rw [show ix ((5 * k2 + 4) / 5) ((5 * k2 + 4) % 5) = ix k2 4 by unfold ix; omega, up_ne (by unfold ix; omega)]) dL_tick_230 ?_
              refine V_if_ne (tgt := 238) hX dL_tick_231 (by decide) (by omega) (fun c_18 => by omega) (fun c_18 => ?_)
              refine V_iconst hX dL_tick_234 ?_
              refine V_goto (tgt := 247) hX dL_tick_235 (by decide) ?_
              refine V_iast (i0 := 4 * k2 + 1) (w' := lB G d (up (up (pl1 (pkS (twS s N) k2) k2) (ix k2 5) 0) (ix k2 6) 0)) hX 2 rfl (by omega) (by omega) (by omega) (by omega) dL_tick_247 (lB_cr G _ _ k2 1 _ (by omega)) ?_
              refine V_iinc (b := 2) (lv' := [(7, .int (jI 2)), (6, .int (jI (plN (pkS (twS s N) k2) k2))), (5, .int (jI i2)), (4, .int (jI acc)), (0, .ref (d 0)), (1, .ref (d 1)), (2, .ref (d 2)), (3, .ref (d 3))]) hX dL_tick_248 0 rfl rfl (by decide) rfl ?_
              refine V_goto (tgt := 209) hX dL_tick_251 (by decide) ?_
              refine V_iload hX dL_tick_209 0 rfl ?_
              refine V_iconst hX dL_tick_211 ?_
              refine V_icmp_ge (tgt := 254) hX dL_tick_212 (by decide) (by decide) (by decide) (fun c_19 => absurd c_19 (by decide)) (fun c_19 => ?_)
              refine V_aload_n hX dL_tick_215 6 rfl ?_
              refine V_iconst hX dL_tick_216 ?_
              refine V_iload hX dL_tick_217 2 rfl ?_
              refine V_imul hX dL_tick_219 rfl ?_
              refine V_iload hX dL_tick_220 0 rfl ?_
              refine V_iadd hX dL_tick_222 rfl ?_
              refine V_aload_n hX dL_tick_223 5 rfl ?_
              refine V_iconst hX dL_tick_224 ?_
              refine V_iload hX dL_tick_225 2 rfl ?_
              refine V_imul hX dL_tick_227 rfl ?_
              refine V_iconst hX dL_tick_228 ?_
              refine V_iadd hX dL_tick_229 rfl ?_
              refine V_iald (i0 := 5 * k2 + 4) (r := (jI ((pl1 (pkS (twS s N) k2) k2) (ix k2 4)))) hX 1 rfl (by omega) (by omega) (by omega) (by omega) (by show jI ((up (up (pl1 (pkS (twS s N) k2) k2) (ix k2 5) 0) (ix k2 6) 0) (ix ((5 * k2 + 4) / 5) ((5 * k2 + 4) % 5))) = jI ((pl1 (pkS (twS s N) k2) k2) (ix k2 4)); rw [show ix ((5 * k2 + 4) / 5) ((5 * k2 + 4) % 5) = ix k2 4 by unfold ix; omega, up_ne (by unfold ix; omega), up_ne (by unfold ix; omega)]) dL_tick_230 ?_
              refine V_if_ne (tgt := 238) hX dL_tick_231 (by decide) (by omega) (fun c_20 => by omega) (fun c_20 => ?_)
              refine V_iconst hX dL_tick_234 ?_
              refine V_goto (tgt := 247) hX dL_tick_235 (by decide) ?_
              refine V_iast (i0 := 4 * k2 + 2) (w' := lB G d (up (up (up (pl1 (pkS (twS s N) k2) k2) (ix k2 5) 0) (ix k2 6) 0) (ix k2 7) 0)) hX 2 rfl (by omega) (by omega) (by omega) (by omega) dL_tick_247 (lB_cr G _ _ k2 2 _ (by omega)) ?_
              refine V_iinc (b := 3) (lv' := [(7, .int (jI 3)), (6, .int (jI (plN (pkS (twS s N) k2) k2))), (5, .int (jI i2)), (4, .int (jI acc)), (0, .ref (d 0)), (1, .ref (d 1)), (2, .ref (d 2)), (3, .ref (d 3))]) hX dL_tick_248 0 rfl rfl (by decide) rfl ?_
              refine V_goto (tgt := 209) hX dL_tick_251 (by decide) ?_
              refine V_iload hX dL_tick_209 0 rfl ?_
              refine V_iconst hX dL_tick_211 ?_
              refine V_icmp_ge (tgt := 254) hX dL_tick_212 (by decide) (by decide) (by decide) (fun c_21 => absurd c_21 (by decide)) (fun c_21 => ?_)
              refine V_aload_n hX dL_tick_215 6 rfl ?_
              refine V_iconst hX dL_tick_216 ?_
              refine V_iload hX dL_tick_217 2 rfl ?_
              refine V_imul hX dL_tick_219 rfl ?_
              refine V_iload hX dL_tick_220 0 rfl ?_
              refine V_iadd hX dL_tick_222 rfl ?_
              refine V_aload_n hX dL_tick_223 5 rfl ?_
              refine V_iconst hX dL_tick_224 ?_
              refine V_iload hX dL_tick_225 2 rfl ?_
              refine V_imul hX dL_tick_227 rfl ?_
              refine V_iconst hX dL_tick_228 ?_
              refine V_iadd hX dL_tick_229 rfl ?_
              refine V_iald (i0 := 5 * k2 + 4) (r := (jI ((pl1 (pkS (twS s N) k2) k2) (ix k2 4)))) hX 1 rfl (by omega) (by omega) (by omega) (by omega) (by show jI ((up (up (up (pl1 (pkS (twS s N) k2) k2) (ix k2 5) 0) (ix k2 6) 0) (ix k2 7) 0) (ix ((5 * k2 + 4) / 5) ((5 * k2 + 4) % 5))) = jI ((pl1 (pkS (twS s N) k2) k2) (ix k2 4)); rw [show ix ((5 * k2 + 4) / 5) ((5 * k2 + 4) % 5) = ix k2 4 by unfold ix; omega, up_ne (by unfold ix; omega), up_ne (by unfold ix; omega), up_ne (by unfold ix; omega)]) dL_tick_230 ?_
              refine V_if_ne (tgt := 238) hX dL_tick_231 (by decide) (by omega) (fun c_22 => by omega) (fun c_22 => ?_)
              refine V_iconst hX dL_tick_234 ?_
              refine V_goto (tgt := 247) hX dL_tick_235 (by decide) ?_
              refine V_iast (i0 := 4 * k2 + 3) (w' := lB G d (up (up (up (up (pl1 (pkS (twS s N) k2) k2) (ix k2 5) 0) (ix k2 6) 0) (ix k2 7) 0) (ix k2 8) 0)) hX 2 rfl (by omega) (by omega) (by omega) (by omega) dL_tick_247 (lB_cr G _ _ k2 3 _ (by omega)) ?_
              refine V_iinc (b := 4) (lv' := [(7, .int (jI 4)), (6, .int (jI (plN (pkS (twS s N) k2) k2))), (5, .int (jI i2)), (4, .int (jI acc)), (0, .ref (d 0)), (1, .ref (d 1)), (2, .ref (d 2)), (3, .ref (d 3))]) hX dL_tick_248 0 rfl rfl (by decide) rfl ?_
              refine V_goto (tgt := 209) hX dL_tick_251 (by decide) ?_
              refine V_iload hX dL_tick_209 0 rfl ?_
              refine V_iconst hX dL_tick_211 ?_
              refine V_icmp_ge (tgt := 254) hX dL_tick_212 (by decide) (by decide) (by decide) (fun c_23 => ?_) (fun c_23 => absurd c_23 (by decide))
              refine V.wd (w' := lB G d (pkS (twS s N) (k2 + 1))) (congrArg (lB G d) (by show _ = plS (pkS (twS s N) k2) k2; unfold plS; first | (rw [if_pos (by omega)]; first | done | rfl) | (rw [if_neg (by omega), up_same (s := pl1 (pkS (twS s N) k2) k2) (j := ix k2 5) rfl, up_same (s := pl1 (pkS (twS s N) k2) k2) (j := ix k2 6) rfl, up_same (s := pl1 (pkS (twS s N) k2) k2) (j := ix k2 7) rfl, up_same (s := pl1 (pkS (twS s N) k2) k2) (j := ix k2 8) rfl]))) ?_
              refine V_iinc (b := i2 + 1) (lv' := [(5, .int (jI (i2 + 1))), (7, .int (jI 4)), (6, .int (jI (plN (pkS (twS s N) k2) k2))), (4, .int (jI acc)), (0, .ref (d 0)), (1, .ref (d 1)), (2, .ref (d 2)), (3, .ref (d 3))]) hX dL_tick_254 2 rfl rfl (by decide) rfl ?_
              refine V_goto (tgt := 126) hX dL_tick_257 (by decide) ?_
              refine V.sub [0, 3, 4, 5, 6, 7] rfl ?_
              exact ih (by omega) _ (by omega)
          · refine V_iload hX dL_tick_152 0 rfl ?_
            refine V_aload_n hX dL_tick_154 4 rfl ?_
            refine V.sk (st' := [.ref (d 2), .int (jI ((k2 : Int)))]) (congrArg (fun z : Int => [Value.ref (d 2), Value.int (jI z)]) (show i2 = (k2 : Int) by omega)) ?_
            refine V_cS (st := []) (v := .int (jI (crN (pkS (twS s N) k2) k2))) (w' := lB G d (pkS (twS s N) k2)) hX wc_L_34 (c_L_crows l G d (pkS (twS s N) k2) k2 (by omega)) (by decide) (by decide) rfl rfl (Nat.le_of_ble_eq_true rfl) dL_tick_155 [] ([]) (by simp only [List.append_assoc, List.nil_append, List.append_nil]) (by simp only [List.append_assoc, List.nil_append, List.append_nil]) rfl rfl ?_
            refine V_goto (tgt := 169) hX dL_tick_158 (by decide) ?_
            refine V.sk (st' := [.int (jI (plN (pkS (twS s N) k2) k2))]) (congrArg (fun z : Int => [Value.int (jI z)]) (by unfold plN; split <;> omega)) ?_
            refine V_istore (i := 6) (lv' := [(6, .int (jI (plN (pkS (twS s N) k2) k2))), (5, .int (jI i2)), (4, .int (jI acc)), (0, .ref (d 0)), (1, .ref (d 1)), (2, .ref (d 2)), (3, .ref (d 3))]) hX dL_tick_169 (by decide) rfl ?_
            refine V_aload_n hX dL_tick_171 4 rfl ?_
            refine V_iconst hX dL_tick_172 ?_
            refine V_iload hX dL_tick_173 1 rfl ?_
            refine V_imul hX dL_tick_175 rfl ?_
            refine V_iconst hX dL_tick_176 ?_
            refine V_iadd hX dL_tick_177 rfl ?_
            refine V_dup2 hX dL_tick_178 rfl rfl ?_
            refine V_iald (i0 := 5 * k2 + 4) (r := (jI ((pkS (twS s N) k2) (ix k2 4)))) hX 1 rfl (by omega) (by omega) (by omega) (by omega) (by show jI ((pkS (twS s N) k2) (ix ((5 * k2 + 4) / 5) ((5 * k2 + 4) % 5))) = jI ((pkS (twS s N) k2) (ix k2 4)); rw [show ix ((5 * k2 + 4) / 5) ((5 * k2 + 4) % 5) = ix k2 4 by unfold ix; omega]) dL_tick_179 ?_
            refine V_iload hX dL_tick_180 0 rfl ?_
            refine V_isub hX dL_tick_182 rfl ?_
            refine V_iast (i0 := 5 * k2 + 4) (w' := lB G d (up (pkS (twS s N) k2) (ix k2 4) (((pkS (twS s N) k2) (ix k2 4)) - (plN (pkS (twS s N) k2) k2)))) hX 1 rfl (by omega) (by omega) (by omega) (by omega) dL_tick_183 (lB_a G _ _ k2 4 _ (by omega)) ?_
            refine V_aload_n hX dL_tick_184 6 rfl ?_
            refine V_iconst hX dL_tick_185 ?_
            refine V_iload hX dL_tick_186 1 rfl ?_
            refine V_imul hX dL_tick_188 rfl ?_
            refine V_iconst hX dL_tick_189 ?_
            refine V_iadd hX dL_tick_190 rfl ?_
            refine V_dup2 hX dL_tick_191 rfl rfl ?_
            refine V_iald (i0 := 2 * k2 + 1) (r := (jI ((pkS (twS s N) k2) (ix k2 10)))) hX 3 rfl (by omega) (by omega) (by omega) (by omega) (by show jI ((up (pkS (twS s N) k2) (ix k2 4) (((pkS (twS s N) k2) (ix k2 4)) - (plN (pkS (twS s N) k2) k2))) (ix ((2 * k2 + 1) / 2) (9 + (2 * k2 + 1) % 2))) = jI ((pkS (twS s N) k2) (ix k2 10)); rw [show ix ((2 * k2 + 1) / 2) (9 + (2 * k2 + 1) % 2) = ix k2 10 by unfold ix; omega, up_ne (by unfold ix; omega)]) dL_tick_192 ?_
            refine V_iload hX dL_tick_193 0 rfl ?_
            refine V_iadd hX dL_tick_195 rfl ?_
            refine V_iast (i0 := 2 * k2 + 1) (w' := lB G d (up (up (pkS (twS s N) k2) (ix k2 4) (((pkS (twS s N) k2) (ix k2 4)) - (plN (pkS (twS s N) k2) k2))) (ix k2 10) (((pkS (twS s N) k2) (ix k2 10)) + (plN (pkS (twS s N) k2) k2)))) hX 3 rfl (by omega) (by omega) (by omega) (by omega) dL_tick_196 (lB_n G _ _ k2 1 _ (by omega)) ?_
            refine V_aload_n hX dL_tick_197 3 rfl ?_
            refine V_bipush hX dL_tick_198 (by decide) ?_
            refine V_dup2 hX dL_tick_200 rfl rfl ?_
            refine V_iald (i0 := 6) (r := (jI ((pkS (twS s N) k2) 6))) hX 0 rfl (by decide) (by decide) (by decide) rfl (by show (if 6 < 17 then jI ((up (up (pkS (twS s N) k2) (ix k2 4) (((pkS (twS s N) k2) (ix k2 4)) - (plN (pkS (twS s N) k2) k2))) (ix k2 10) (((pkS (twS s N) k2) (ix k2 10)) + (plN (pkS (twS s N) k2) k2))) (6)) else 0) = jI ((pkS (twS s N) k2) 6); rw [if_pos (by omega), up_ne (by unfold ix; omega), up_ne (by unfold ix; omega)]) dL_tick_201 ?_
            refine V_iload hX dL_tick_202 0 rfl ?_
            refine V_iadd hX dL_tick_204 rfl ?_
            refine V_iast (i0 := 6) (w' := lB G d (up (up (up (pkS (twS s N) k2) (ix k2 4) (((pkS (twS s N) k2) (ix k2 4)) - (plN (pkS (twS s N) k2) k2))) (ix k2 10) (((pkS (twS s N) k2) (ix k2 10)) + (plN (pkS (twS s N) k2) k2))) 6 (((pkS (twS s N) k2) 6) + (plN (pkS (twS s N) k2) k2)))) hX 0 rfl (by decide) (by decide) (by decide) rfl dL_tick_205 (lB_q G _ _ 6 _ (by omega)) ?_
            have hp4 : pl1 (pkS (twS s N) k2) k2 (ix k2 4) = (pkS (twS s N) k2) (ix k2 4) - plN (pkS (twS s N) k2) k2 := by unfold pl1; rw [up_ne (by unfold ix; omega), up_ne (by unfold ix; omega), up_eq]
            refine V.wd (w' := lB G d (pl1 (pkS (twS s N) k2) k2)) (congrArg (lB G d) rfl) ?_
            refine V_iconst hX dL_tick_206 ?_
            refine V_istore (i := 7) (lv' := [(7, .int (jI 0)), (6, .int (jI (plN (pkS (twS s N) k2) k2))), (5, .int (jI i2)), (4, .int (jI acc)), (0, .ref (d 0)), (1, .ref (d 1)), (2, .ref (d 2)), (3, .ref (d 3))]) hX dL_tick_207 (by decide) rfl ?_
            refine V_iload hX dL_tick_209 0 rfl ?_
            refine V_iconst hX dL_tick_211 ?_
            refine V_icmp_ge (tgt := 254) hX dL_tick_212 (by decide) (by decide) (by decide) (fun c_24 => absurd c_24 (by decide)) (fun c_24 => ?_)
            refine V_aload_n hX dL_tick_215 6 rfl ?_
            refine V_iconst hX dL_tick_216 ?_
            refine V_iload hX dL_tick_217 2 rfl ?_
            refine V_imul hX dL_tick_219 rfl ?_
            refine V_iload hX dL_tick_220 0 rfl ?_
            refine V_iadd hX dL_tick_222 rfl ?_
            refine V_aload_n hX dL_tick_223 5 rfl ?_
            refine V_iconst hX dL_tick_224 ?_
            refine V_iload hX dL_tick_225 2 rfl ?_
            refine V_imul hX dL_tick_227 rfl ?_
            refine V_iconst hX dL_tick_228 ?_
            refine V_iadd hX dL_tick_229 rfl ?_
            refine V_iald (i0 := 5 * k2 + 4) (r := (jI ((pl1 (pkS (twS s N) k2) k2) (ix k2 4)))) hX 1 rfl (by omega) (by omega) (by omega) (by omega) (by show jI ((pl1 (pkS (twS s N) k2) k2) (ix ((5 * k2 + 4) / 5) ((5 * k2 + 4) % 5))) = jI ((pl1 (pkS (twS s N) k2) k2) (ix k2 4)); rw [show ix ((5 * k2 + 4) / 5) ((5 * k2 + 4) % 5) = ix k2 4 by unfold ix; omega]) dL_tick_230 ?_
            refine V_if_ne (tgt := 238) hX dL_tick_231 (by decide) (by omega) (fun c_25 => ?_) (fun c_25 => ?_)
            · refine V_aload_n hX dL_tick_238 6 rfl ?_
              refine V_iconst hX dL_tick_239 ?_
              refine V_iload hX dL_tick_240 2 rfl ?_
              refine V_imul hX dL_tick_242 rfl ?_
              refine V_iload hX dL_tick_243 0 rfl ?_
              refine V_iadd hX dL_tick_245 rfl ?_
              refine V_iald (i0 := 4 * k2 + 0) (r := (jI ((pl1 (pkS (twS s N) k2) k2) (ix k2 5)))) hX 2 rfl (by omega) (by omega) (by omega) (by omega) (by show jI ((pl1 (pkS (twS s N) k2) k2) (ix ((4 * k2 + 0) / 4) (5 + (4 * k2 + 0) % 4))) = jI ((pl1 (pkS (twS s N) k2) k2) (ix k2 5)); rw [show ix ((4 * k2 + 0) / 4) (5 + (4 * k2 + 0) % 4) = ix k2 5 by unfold ix; omega]) dL_tick_246 ?_
              refine V_iast (i0 := 4 * k2 + 0) (w' := lB G d (up (pl1 (pkS (twS s N) k2) k2) (ix k2 5) ((pl1 (pkS (twS s N) k2) k2) (ix k2 5)))) hX 2 rfl (by omega) (by omega) (by omega) (by omega) dL_tick_247 (lB_cr G _ _ k2 0 _ (by omega)) ?_
              refine V_iinc (b := 1) (lv' := [(7, .int (jI 1)), (6, .int (jI (plN (pkS (twS s N) k2) k2))), (5, .int (jI i2)), (4, .int (jI acc)), (0, .ref (d 0)), (1, .ref (d 1)), (2, .ref (d 2)), (3, .ref (d 3))]) hX dL_tick_248 0 rfl rfl (by decide) rfl ?_
              refine V_goto (tgt := 209) hX dL_tick_251 (by decide) ?_
              refine V_iload hX dL_tick_209 0 rfl ?_
              refine V_iconst hX dL_tick_211 ?_
              refine V_icmp_ge (tgt := 254) hX dL_tick_212 (by decide) (by decide) (by decide) (fun c_26 => absurd c_26 (by decide)) (fun c_26 => ?_)
              refine V_aload_n hX dL_tick_215 6 rfl ?_
              refine V_iconst hX dL_tick_216 ?_
              refine V_iload hX dL_tick_217 2 rfl ?_
              refine V_imul hX dL_tick_219 rfl ?_
              refine V_iload hX dL_tick_220 0 rfl ?_
              refine V_iadd hX dL_tick_222 rfl ?_
              refine V_aload_n hX dL_tick_223 5 rfl ?_
              refine V_iconst hX dL_tick_224 ?_
              refine V_iload hX dL_tick_225 2 rfl ?_
              refine V_imul hX dL_tick_227 rfl ?_
              refine V_iconst hX dL_tick_228 ?_
              refine V_iadd hX dL_tick_229 rfl ?_
              refine V_iald (i0 := 5 * k2 + 4) (r := (jI ((pl1 (pkS (twS s N) k2) k2) (ix k2 4)))) hX 1 rfl (by omega) (by omega) (by omega) (by omega) (by show jI ((up (pl1 (pkS (twS s N) k2) k2) (ix k2 5) ((pl1 (pkS (twS s N) k2) k2) (ix k2 5))) (ix ((5 * k2 + 4) / 5) ((5 * k2 + 4) % 5))) = jI ((pl1 (pkS (twS s N) k2) k2) (ix k2 4)); rw [show ix ((5 * k2 + 4) / 5) ((5 * k2 + 4) % 5) = ix k2 4 by unfold ix; omega, up_ne (by unfold ix; omega)]) dL_tick_230 ?_
              refine V_if_ne (tgt := 238) hX dL_tick_231 (by decide) (by omega) (fun c_27 => ?_) (fun c_27 => by omega)
              refine V_aload_n hX dL_tick_238 6 rfl ?_
              refine V_iconst hX dL_tick_239 ?_
              refine V_iload hX dL_tick_240 2 rfl ?_
              refine V_imul hX dL_tick_242 rfl ?_
              refine V_iload hX dL_tick_243 0 rfl ?_
              refine V_iadd hX dL_tick_245 rfl ?_
              refine V_iald (i0 := 4 * k2 + 1) (r := (jI ((pl1 (pkS (twS s N) k2) k2) (ix k2 6)))) hX 2 rfl (by omega) (by omega) (by omega) (by omega) (by show jI ((up (pl1 (pkS (twS s N) k2) k2) (ix k2 5) ((pl1 (pkS (twS s N) k2) k2) (ix k2 5))) (ix ((4 * k2 + 1) / 4) (5 + (4 * k2 + 1) % 4))) = jI ((pl1 (pkS (twS s N) k2) k2) (ix k2 6)); rw [show ix ((4 * k2 + 1) / 4) (5 + (4 * k2 + 1) % 4) = ix k2 6 by unfold ix; omega, up_ne (by unfold ix; omega)]) dL_tick_246 ?_
              refine V_iast (i0 := 4 * k2 + 1) (w' := lB G d (up (up (pl1 (pkS (twS s N) k2) k2) (ix k2 5) ((pl1 (pkS (twS s N) k2) k2) (ix k2 5))) (ix k2 6) ((pl1 (pkS (twS s N) k2) k2) (ix k2 6)))) hX 2 rfl (by omega) (by omega) (by omega) (by omega) dL_tick_247 (lB_cr G _ _ k2 1 _ (by omega)) ?_
              refine V_iinc (b := 2) (lv' := [(7, .int (jI 2)), (6, .int (jI (plN (pkS (twS s N) k2) k2))), (5, .int (jI i2)), (4, .int (jI acc)), (0, .ref (d 0)), (1, .ref (d 1)), (2, .ref (d 2)), (3, .ref (d 3))]) hX dL_tick_248 0 rfl rfl (by decide) rfl ?_
              refine V_goto (tgt := 209) hX dL_tick_251 (by decide) ?_
              refine V_iload hX dL_tick_209 0 rfl ?_
              refine V_iconst hX dL_tick_211 ?_
              refine V_icmp_ge (tgt := 254) hX dL_tick_212 (by decide) (by decide) (by decide) (fun c_28 => absurd c_28 (by decide)) (fun c_28 => ?_)
              refine V_aload_n hX dL_tick_215 6 rfl ?_
              refine V_iconst hX dL_tick_216 ?_
              refine V_iload hX dL_tick_217 2 rfl ?_
              refine V_imul hX dL_tick_219 rfl ?_
              refine V_iload hX dL_tick_220 0 rfl ?_
              refine V_iadd hX dL_tick_222 rfl ?_
              refine V_aload_n hX dL_tick_223 5 rfl ?_
              refine V_iconst hX dL_tick_224 ?_
              refine V_iload hX dL_tick_225 2 rfl ?_
              refine V_imul hX dL_tick_227 rfl ?_
              refine V_iconst hX dL_tick_228 ?_
              refine V_iadd hX dL_tick_229 rfl ?_
              refine V_iald (i0 := 5 * k2 + 4) (r := (jI ((pl1 (pkS (twS s N) k2) k2) (ix k2 4)))) hX 1 rfl (by omega) (by omega) (by omega) (by omega) (by show jI ((up (up (pl1 (pkS (twS s N) k2) k2) (ix k2 5) ((pl1 (pkS (twS s N) k2) k2) (ix k2 5))) (ix k2 6) ((pl1 (pkS (twS s N) k2) k2) (ix k2 6))) (ix ((5 * k2 + 4) / 5) ((5 * k2 + 4) % 5))) = jI ((pl1 (pkS (twS s N) k2) k2) (ix k2 4)); rw [show ix ((5 * k2 + 4) / 5) ((5 * k2 + 4) % 5) = ix k2 4 by unfold ix; omega, up_ne (by unfold ix; omega), up_ne (by unfold ix; omega)]) dL_tick_230 ?_
              refine V_if_ne (tgt := 238) hX dL_tick_231 (by decide) (by omega) (fun c_29 => ?_) (fun c_29 => by omega)
              refine V_aload_n hX dL_tick_238 6 rfl ?_
              refine V_iconst hX dL_tick_239 ?_
              refine V_iload hX dL_tick_240 2 rfl ?_
              refine V_imul hX dL_tick_242 rfl ?_
              refine V_iload hX dL_tick_243 0 rfl ?_
              refine V_iadd hX dL_tick_245 rfl ?_
              refine V_iald (i0 := 4 * k2 + 2) (r := (jI ((pl1 (pkS (twS s N) k2) k2) (ix k2 7)))) hX 2 rfl (by omega) (by omega) (by omega) (by omega) (by show jI ((up (up (pl1 (pkS (twS s N) k2) k2) (ix k2 5) ((pl1 (pkS (twS s N) k2) k2) (ix k2 5))) (ix k2 6) ((pl1 (pkS (twS s N) k2) k2) (ix k2 6))) (ix ((4 * k2 + 2) / 4) (5 + (4 * k2 + 2) % 4))) = jI ((pl1 (pkS (twS s N) k2) k2) (ix k2 7)); rw [show ix ((4 * k2 + 2) / 4) (5 + (4 * k2 + 2) % 4) = ix k2 7 by unfold ix; omega, up_ne (by unfold ix; omega), up_ne (by unfold ix; omega)]) dL_tick_246 ?_
              refine V_iast (i0 := 4 * k2 + 2) (w' := lB G d (up (up (up (pl1 (pkS (twS s N) k2) k2) (ix k2 5) ((pl1 (pkS (twS s N) k2) k2) (ix k2 5))) (ix k2 6) ((pl1 (pkS (twS s N) k2) k2) (ix k2 6))) (ix k2 7) ((pl1 (pkS (twS s N) k2) k2) (ix k2 7)))) hX 2 rfl (by omega) (by omega) (by omega) (by omega) dL_tick_247 (lB_cr G _ _ k2 2 _ (by omega)) ?_
              refine V_iinc (b := 3) (lv' := [(7, .int (jI 3)), (6, .int (jI (plN (pkS (twS s N) k2) k2))), (5, .int (jI i2)), (4, .int (jI acc)), (0, .ref (d 0)), (1, .ref (d 1)), (2, .ref (d 2)), (3, .ref (d 3))]) hX dL_tick_248 0 rfl rfl (by decide) rfl ?_
              refine V_goto (tgt := 209) hX dL_tick_251 (by decide) ?_
              refine V_iload hX dL_tick_209 0 rfl ?_
              refine V_iconst hX dL_tick_211 ?_
              refine V_icmp_ge (tgt := 254) hX dL_tick_212 (by decide) (by decide) (by decide) (fun c_30 => absurd c_30 (by decide)) (fun c_30 => ?_)
              refine V_aload_n hX dL_tick_215 6 rfl ?_
              refine V_iconst hX dL_tick_216 ?_
              refine V_iload hX dL_tick_217 2 rfl ?_
              refine V_imul hX dL_tick_219 rfl ?_
              refine V_iload hX dL_tick_220 0 rfl ?_
              refine V_iadd hX dL_tick_222 rfl ?_
              refine V_aload_n hX dL_tick_223 5 rfl ?_
              refine V_iconst hX dL_tick_224 ?_
              refine V_iload hX dL_tick_225 2 rfl ?_
              refine V_imul hX dL_tick_227 rfl ?_
              refine V_iconst hX dL_tick_228 ?_
              refine V_iadd hX dL_tick_229 rfl ?_
              refine V_iald (i0 := 5 * k2 + 4) (r := (jI ((pl1 (pkS (twS s N) k2) k2) (ix k2 4)))) hX 1 rfl (by omega) (by omega) (by omega) (by omega) (by show jI ((up (up (up (pl1 (pkS (twS s N) k2) k2) (ix k2 5) ((pl1 (pkS (twS s N) k2) k2) (ix k2 5))) (ix k2 6) ((pl1 (pkS (twS s N) k2) k2) (ix k2 6))) (ix k2 7) ((pl1 (pkS (twS s N) k2) k2) (ix k2 7))) (ix ((5 * k2 + 4) / 5) ((5 * k2 + 4) % 5))) = jI ((pl1 (pkS (twS s N) k2) k2) (ix k2 4)); rw [show ix ((5 * k2 + 4) / 5) ((5 * k2 + 4) % 5) = ix k2 4 by unfold ix; omega, up_ne (by unfold ix; omega), up_ne (by unfold ix; omega), up_ne (by unfold ix; omega)]) dL_tick_230 ?_
              refine V_if_ne (tgt := 238) hX dL_tick_231 (by decide) (by omega) (fun c_31 => ?_) (fun c_31 => by omega)
              refine V_aload_n hX dL_tick_238 6 rfl ?_
              refine V_iconst hX dL_tick_239 ?_
              refine V_iload hX dL_tick_240 2 rfl ?_
              refine V_imul hX dL_tick_242 rfl ?_
              refine V_iload hX dL_tick_243 0 rfl ?_
              refine V_iadd hX dL_tick_245 rfl ?_
              refine V_iald (i0 := 4 * k2 + 3) (r := (jI ((pl1 (pkS (twS s N) k2) k2) (ix k2 8)))) hX 2 rfl (by omega) (by omega) (by omega) (by omega) (by show jI ((up (up (up (pl1 (pkS (twS s N) k2) k2) (ix k2 5) ((pl1 (pkS (twS s N) k2) k2) (ix k2 5))) (ix k2 6) ((pl1 (pkS (twS s N) k2) k2) (ix k2 6))) (ix k2 7) ((pl1 (pkS (twS s N) k2) k2) (ix k2 7))) (ix ((4 * k2 + 3) / 4) (5 + (4 * k2 + 3) % 4))) = jI ((pl1 (pkS (twS s N) k2) k2) (ix k2 8)); rw [show ix ((4 * k2 + 3) / 4) (5 + (4 * k2 + 3) % 4) = ix k2 8 by unfold ix; omega, up_ne (by unfold ix; omega), up_ne (by unfold ix; omega), up_ne (by unfold ix; omega)]) dL_tick_246 ?_
              refine V_iast (i0 := 4 * k2 + 3) (w' := lB G d (up (up (up (up (pl1 (pkS (twS s N) k2) k2) (ix k2 5) ((pl1 (pkS (twS s N) k2) k2) (ix k2 5))) (ix k2 6) ((pl1 (pkS (twS s N) k2) k2) (ix k2 6))) (ix k2 7) ((pl1 (pkS (twS s N) k2) k2) (ix k2 7))) (ix k2 8) ((pl1 (pkS (twS s N) k2) k2) (ix k2 8)))) hX 2 rfl (by omega) (by omega) (by omega) (by omega) dL_tick_247 (lB_cr G _ _ k2 3 _ (by omega)) ?_
              refine V_iinc (b := 4) (lv' := [(7, .int (jI 4)), (6, .int (jI (plN (pkS (twS s N) k2) k2))), (5, .int (jI i2)), (4, .int (jI acc)), (0, .ref (d 0)), (1, .ref (d 1)), (2, .ref (d 2)), (3, .ref (d 3))]) hX dL_tick_248 0 rfl rfl (by decide) rfl ?_
              refine V_goto (tgt := 209) hX dL_tick_251 (by decide) ?_
              refine V_iload hX dL_tick_209 0 rfl ?_
              refine V_iconst hX dL_tick_211 ?_
              refine V_icmp_ge (tgt := 254) hX dL_tick_212 (by decide) (by decide) (by decide) (fun c_32 => ?_) (fun c_32 => absurd c_32 (by decide))
              refine V.wd (w' := lB G d (pkS (twS s N) (k2 + 1))) (congrArg (lB G d) (by show _ = plS (pkS (twS s N) k2) k2; unfold plS; first | (rw [if_pos (by omega)]; first | done | rfl) | (rw [if_neg (by omega), up_same (s := pl1 (pkS (twS s N) k2) k2) (j := ix k2 5) rfl, up_same (s := pl1 (pkS (twS s N) k2) k2) (j := ix k2 6) rfl, up_same (s := pl1 (pkS (twS s N) k2) k2) (j := ix k2 7) rfl, up_same (s := pl1 (pkS (twS s N) k2) k2) (j := ix k2 8) rfl]))) ?_
              refine V_iinc (b := i2 + 1) (lv' := [(5, .int (jI (i2 + 1))), (7, .int (jI 4)), (6, .int (jI (plN (pkS (twS s N) k2) k2))), (4, .int (jI acc)), (0, .ref (d 0)), (1, .ref (d 1)), (2, .ref (d 2)), (3, .ref (d 3))]) hX dL_tick_254 2 rfl rfl (by decide) rfl ?_
              refine V_goto (tgt := 126) hX dL_tick_257 (by decide) ?_
              refine V.sub [0, 3, 4, 5, 6, 7] rfl ?_
              exact ih (by omega) _ (by omega)
            · refine V_iconst hX dL_tick_234 ?_
              refine V_goto (tgt := 247) hX dL_tick_235 (by decide) ?_
              refine V_iast (i0 := 4 * k2 + 0) (w' := lB G d (up (pl1 (pkS (twS s N) k2) k2) (ix k2 5) 0)) hX 2 rfl (by omega) (by omega) (by omega) (by omega) dL_tick_247 (lB_cr G _ _ k2 0 _ (by omega)) ?_
              refine V_iinc (b := 1) (lv' := [(7, .int (jI 1)), (6, .int (jI (plN (pkS (twS s N) k2) k2))), (5, .int (jI i2)), (4, .int (jI acc)), (0, .ref (d 0)), (1, .ref (d 1)), (2, .ref (d 2)), (3, .ref (d 3))]) hX dL_tick_248 0 rfl rfl (by decide) rfl ?_
              refine V_goto (tgt := 209) hX dL_tick_251 (by decide) ?_
              refine V_iload hX dL_tick_209 0 rfl ?_
              refine V_iconst hX dL_tick_211 ?_
              refine V_icmp_ge (tgt := 254) hX dL_tick_212 (by decide) (by decide) (by decide) (fun c_33 => absurd c_33 (by decide)) (fun c_33 => ?_)
              refine V_aload_n hX dL_tick_215 6 rfl ?_
              refine V_iconst hX dL_tick_216 ?_
              refine V_iload hX dL_tick_217 2 rfl ?_
              refine V_imul hX dL_tick_219 rfl ?_
              refine V_iload hX dL_tick_220 0 rfl ?_
              refine V_iadd hX dL_tick_222 rfl ?_
              refine V_aload_n hX dL_tick_223 5 rfl ?_
              refine V_iconst hX dL_tick_224 ?_
              refine V_iload hX dL_tick_225 2 rfl ?_
              refine V_imul hX dL_tick_227 rfl ?_
              refine V_iconst hX dL_tick_228 ?_
              refine V_iadd hX dL_tick_229 rfl ?_
              refine V_iald (i0 := 5 * k2 + 4) (r := (jI ((pl1 (pkS (twS s N) k2) k2) (ix k2 4)))) hX 1 rfl (by omega) (by omega) (by omega) (by omega) (by show jI ((up (pl1 (pkS (twS s N) k2) k2) (ix k2 5) 0) (ix ((5 * k2 + 4) / 5) ((5 * k2 + 4) % 5))) = jI ((pl1 (pkS (twS s N) k2) k2) (ix k2 4)); rw [show ix ((5 * k2 + 4) / 5) ((5 * k2 + 4) % 5) = ix k2 4 by unfold ix; omega, up_ne (by unfold ix; omega)]) dL_tick_230 ?_
              refine V_if_ne (tgt := 238) hX dL_tick_231 (by decide) (by omega) (fun c_34 => by omega) (fun c_34 => ?_)
              refine V_iconst hX dL_tick_234 ?_
              refine V_goto (tgt := 247) hX dL_tick_235 (by decide) ?_
              refine V_iast (i0 := 4 * k2 + 1) (w' := lB G d (up (up (pl1 (pkS (twS s N) k2) k2) (ix k2 5) 0) (ix k2 6) 0)) hX 2 rfl (by omega) (by omega) (by omega) (by omega) dL_tick_247 (lB_cr G _ _ k2 1 _ (by omega)) ?_
              refine V_iinc (b := 2) (lv' := [(7, .int (jI 2)), (6, .int (jI (plN (pkS (twS s N) k2) k2))), (5, .int (jI i2)), (4, .int (jI acc)), (0, .ref (d 0)), (1, .ref (d 1)), (2, .ref (d 2)), (3, .ref (d 3))]) hX dL_tick_248 0 rfl rfl (by decide) rfl ?_
              refine V_goto (tgt := 209) hX dL_tick_251 (by decide) ?_
              refine V_iload hX dL_tick_209 0 rfl ?_
              refine V_iconst hX dL_tick_211 ?_
              refine V_icmp_ge (tgt := 254) hX dL_tick_212 (by decide) (by decide) (by decide) (fun c_35 => absurd c_35 (by decide)) (fun c_35 => ?_)
              refine V_aload_n hX dL_tick_215 6 rfl ?_
              refine V_iconst hX dL_tick_216 ?_
              refine V_iload hX dL_tick_217 2 rfl ?_
              refine V_imul hX dL_tick_219 rfl ?_
              refine V_iload hX dL_tick_220 0 rfl ?_
              refine V_iadd hX dL_tick_222 rfl ?_
              refine V_aload_n hX dL_tick_223 5 rfl ?_
              refine V_iconst hX dL_tick_224 ?_
              refine V_iload hX dL_tick_225 2 rfl ?_
              refine V_imul hX dL_tick_227 rfl ?_
              refine V_iconst hX dL_tick_228 ?_
              refine V_iadd hX dL_tick_229 rfl ?_
              refine V_iald (i0 := 5 * k2 + 4) (r := (jI ((pl1 (pkS (twS s N) k2) k2) (ix k2 4)))) hX 1 rfl (by omega) (by omega) (by omega) (by omega) (by show jI ((up (up (pl1 (pkS (twS s N) k2) k2) (ix k2 5) 0) (ix k2 6) 0) (ix ((5 * k2 + 4) / 5) ((5 * k2 + 4) % 5))) = jI ((pl1 (pkS (twS s N) k2) k2) (ix k2 4)); rw [show ix ((5 * k2 + 4) / 5) ((5 * k2 + 4) % 5) = ix k2 4 by unfold ix; omega, up_ne (by unfold ix; omega), up_ne (by unfold ix; omega)]) dL_tick_230 ?_
              refine V_if_ne (tgt := 238) hX dL_tick_231 (by decide) (by omega) (fun c_36 => by omega) (fun c_36 => ?_)
              refine V_iconst hX dL_tick_234 ?_
              refine V_goto (tgt := 247) hX dL_tick_235 (by decide) ?_
              refine V_iast (i0 := 4 * k2 + 2) (w' := lB G d (up (up (up (pl1 (pkS (twS s N) k2) k2) (ix k2 5) 0) (ix k2 6) 0) (ix k2 7) 0)) hX 2 rfl (by omega) (by omega) (by omega) (by omega) dL_tick_247 (lB_cr G _ _ k2 2 _ (by omega)) ?_
              refine V_iinc (b := 3) (lv' := [(7, .int (jI 3)), (6, .int (jI (plN (pkS (twS s N) k2) k2))), (5, .int (jI i2)), (4, .int (jI acc)), (0, .ref (d 0)), (1, .ref (d 1)), (2, .ref (d 2)), (3, .ref (d 3))]) hX dL_tick_248 0 rfl rfl (by decide) rfl ?_
              refine V_goto (tgt := 209) hX dL_tick_251 (by decide) ?_
              refine V_iload hX dL_tick_209 0 rfl ?_
              refine V_iconst hX dL_tick_211 ?_
              refine V_icmp_ge (tgt := 254) hX dL_tick_212 (by decide) (by decide) (by decide) (fun c_37 => absurd c_37 (by decide)) (fun c_37 => ?_)
              refine V_aload_n hX dL_tick_215 6 rfl ?_
              refine V_iconst hX dL_tick_216 ?_
              refine V_iload hX dL_tick_217 2 rfl ?_
              refine V_imul hX dL_tick_219 rfl ?_
              refine V_iload hX dL_tick_220 0 rfl ?_
              refine V_iadd hX dL_tick_222 rfl ?_
              refine V_aload_n hX dL_tick_223 5 rfl ?_
              refine V_iconst hX dL_tick_224 ?_
              refine V_iload hX dL_tick_225 2 rfl ?_
              refine V_imul hX dL_tick_227 rfl ?_
              refine V_iconst hX dL_tick_228 ?_
              refine V_iadd hX dL_tick_229 rfl ?_
              refine V_iald (i0 := 5 * k2 + 4) (r := (jI ((pl1 (pkS (twS s N) k2) k2) (ix k2 4)))) hX 1 rfl (by omega) (by omega) (by omega) (by omega) (by show jI ((up (up (up (pl1 (pkS (twS s N) k2) k2) (ix k2 5) 0) (ix k2 6) 0) (ix k2 7) 0) (ix ((5 * k2 + 4) / 5) ((5 * k2 + 4) % 5))) = jI ((pl1 (pkS (twS s N) k2) k2) (ix k2 4)); rw [show ix ((5 * k2 + 4) / 5) ((5 * k2 + 4) % 5) = ix k2 4 by unfold ix; omega, up_ne (by unfold ix; omega), up_ne (by unfold ix; omega), up_ne (by unfold ix; omega)]) dL_tick_230 ?_
              refine V_if_ne (tgt := 238) hX dL_tick_231 (by decide) (by omega) (fun c_38 => by omega) (fun c_38 => ?_)
              refine V_iconst hX dL_tick_234 ?_
              refine V_goto (tgt := 247) hX dL_tick_235 (by decide) ?_
              refine V_iast (i0 := 4 * k2 + 3) (w' := lB G d (up (up (up (up (pl1 (pkS (twS s N) k2) k2) (ix k2 5) 0) (ix k2 6) 0) (ix k2 7) 0) (ix k2 8) 0)) hX 2 rfl (by omega) (by omega) (by omega) (by omega) dL_tick_247 (lB_cr G _ _ k2 3 _ (by omega)) ?_
              refine V_iinc (b := 4) (lv' := [(7, .int (jI 4)), (6, .int (jI (plN (pkS (twS s N) k2) k2))), (5, .int (jI i2)), (4, .int (jI acc)), (0, .ref (d 0)), (1, .ref (d 1)), (2, .ref (d 2)), (3, .ref (d 3))]) hX dL_tick_248 0 rfl rfl (by decide) rfl ?_
              refine V_goto (tgt := 209) hX dL_tick_251 (by decide) ?_
              refine V_iload hX dL_tick_209 0 rfl ?_
              refine V_iconst hX dL_tick_211 ?_
              refine V_icmp_ge (tgt := 254) hX dL_tick_212 (by decide) (by decide) (by decide) (fun c_39 => ?_) (fun c_39 => absurd c_39 (by decide))
              refine V.wd (w' := lB G d (pkS (twS s N) (k2 + 1))) (congrArg (lB G d) (by show _ = plS (pkS (twS s N) k2) k2; unfold plS; first | (rw [if_pos (by omega)]; first | done | rfl) | (rw [if_neg (by omega), up_same (s := pl1 (pkS (twS s N) k2) k2) (j := ix k2 5) rfl, up_same (s := pl1 (pkS (twS s N) k2) k2) (j := ix k2 6) rfl, up_same (s := pl1 (pkS (twS s N) k2) k2) (j := ix k2 7) rfl, up_same (s := pl1 (pkS (twS s N) k2) k2) (j := ix k2 8) rfl]))) ?_
              refine V_iinc (b := i2 + 1) (lv' := [(5, .int (jI (i2 + 1))), (7, .int (jI 4)), (6, .int (jI (plN (pkS (twS s N) k2) k2))), (4, .int (jI acc)), (0, .ref (d 0)), (1, .ref (d 1)), (2, .ref (d 2)), (3, .ref (d 3))]) hX dL_tick_254 2 rfl rfl (by decide) rfl ?_
              refine V_goto (tgt := 126) hX dL_tick_257 (by decide) ?_
              refine V.sub [0, 3, 4, 5, 6, 7] rfl ?_
              exact ih (by omega) _ (by omega)
      refine V.sub [0, 1, 2, 3, 4, 5] rfl ?_
      exact L126_q_3 0 (Nat.zero_le _) 0 rfl
    · have hs := hIk.sc k (by omega)
      refine V_aload_n hX dL_tick_15 2 rfl ?_
      refine V_iconst hX dL_tick_16 ?_
      refine V_iald (i0 := 4) (r := (jI ((twS s k) 4))) hX 0 rfl (by decide) (by decide) (by decide) rfl (by show (if 4 < 17 then jI ((twS s k) (4)) else 0) = jI ((twS s k) 4); rw [if_pos (by omega)]) dL_tick_17 ?_
      refine V_iconst hX dL_tick_18 ?_
      refine V_aload_n hX dL_tick_19 3 rfl ?_
      refine V_iconst hX dL_tick_20 ?_
      refine V_iload hX dL_tick_21 0 rfl ?_
      refine V_imul hX dL_tick_23 rfl ?_
      refine V_iconst hX dL_tick_24 ?_
      refine V_iadd hX dL_tick_25 rfl ?_
      refine V_iald (i0 := 5 * k + 4) (r := (jI ((twS s k) (ix k 4)))) hX 1 rfl (by omega) (by omega) (by omega) (by omega) (by show jI ((twS s k) (ix ((5 * k + 4) / 5) ((5 * k + 4) % 5))) = jI ((twS s k) (ix k 4)); rw [show ix ((5 * k + 4) / 5) ((5 * k + 4) % 5) = ix k 4 by unfold ix; omega]) dL_tick_26 ?_
      refine V_imul hX dL_tick_27 rfl ?_
      refine V_bipush hX dL_tick_28 (by decide) ?_
      refine V_icmp_ge (tgt := 37) hX dL_tick_30 (by decide) (by omega) (by decide) (fun c_40 => ?_) (fun c_40 => ?_)
      · refine V_iconst hX dL_tick_37 ?_
        refine V_iadd hX dL_tick_38 rfl ?_
        refine V_istore (i := 6) (lv' := [(6, .int (jI (((twS s k) 4) + 0))), (5, .int (jI i)), (4, .int (jI acc)), (0, .ref (d 0)), (1, .ref (d 1)), (2, .ref (d 2)), (3, .ref (d 3))]) hX dL_tick_39 (by decide) rfl ?_
        refine V_aload_n hX dL_tick_41 4 rfl ?_
        refine V_iconst hX dL_tick_42 ?_
        refine V_iload hX dL_tick_43 1 rfl ?_
        refine V_imul hX dL_tick_45 rfl ?_
        refine V_iconst hX dL_tick_46 ?_
        refine V_iadd hX dL_tick_47 rfl ?_
        refine V_iald (i0 := 5 * k + 3) (r := (jI ((twS s k) (ix k 3)))) hX 1 rfl (by omega) (by omega) (by omega) (by omega) (by show jI ((twS s k) (ix ((5 * k + 3) / 5) ((5 * k + 3) % 5))) = jI ((twS s k) (ix k 3)); rw [show ix ((5 * k + 3) / 5) ((5 * k + 3) % 5) = ix k 3 by unfold ix; omega]) dL_tick_48 ?_
        refine V_istore (i := 7) (lv' := [(7, .int (jI ((twS s k) (ix k 3)))), (6, .int (jI (((twS s k) 4) + 0))), (5, .int (jI i)), (4, .int (jI acc)), (0, .ref (d 0)), (1, .ref (d 1)), (2, .ref (d 2)), (3, .ref (d 3))]) hX dL_tick_49 (by decide) rfl ?_
        refine V_iload hX dL_tick_51 1 rfl ?_
        refine V_aload_n hX dL_tick_53 5 rfl ?_
        refine V_iconst hX dL_tick_54 ?_
        refine V_iload hX dL_tick_55 2 rfl ?_
        refine V_imul hX dL_tick_57 rfl ?_
        refine V_iconst hX dL_tick_58 ?_
        refine V_iadd hX dL_tick_59 rfl ?_
        refine V_iald (i0 := 5 * k + 2) (r := (jI ((twS s k) (ix k 2)))) hX 1 rfl (by omega) (by omega) (by omega) (by omega) (by show jI ((twS s k) (ix ((5 * k + 2) / 5) ((5 * k + 2) % 5))) = jI ((twS s k) (ix k 2)); rw [show ix ((5 * k + 2) / 5) ((5 * k + 2) % 5) = ix k 2 by unfold ix; omega]) dL_tick_60 ?_
        refine V_icmp_le (tgt := 117) hX dL_tick_61 (by decide) (by omega) (by omega) (fun c_41 => ?_) (fun c_41 => ?_)
        · refine V.wd (w' := lB G d (twS s (k + 1))) (congrArg (lB G d) (by show _ = tbS (twS s k) k; unfold tbS; first | (rw [if_pos (by unfold tbF; split <;> omega)]; done) | (rw [if_neg (by unfold tbF; split <;> omega), tb_law (Z := twS s k) (k := k) (by omega) (by omega) (Or.inl ⟨by assumption, rfl⟩)]; done) | (rw [if_neg (by unfold tbF; split <;> omega), tb_law (Z := twS s k) (k := k) (v := (twS s k (ix k 3) + 1) % 4) (by omega) (by omega) (Or.inr ⟨by assumption, rfl⟩)]; done))) ?_
          refine V_iinc (b := i + 1) (lv' := [(5, .int (jI (i + 1))), (7, .int (jI ((twS s k) (ix k 3)))), (6, .int (jI (((twS s k) 4) + 0))), (4, .int (jI acc)), (0, .ref (d 0)), (1, .ref (d 1)), (2, .ref (d 2)), (3, .ref (d 3))]) hX dL_tick_117 2 rfl rfl (by decide) rfl ?_
          refine V_goto (tgt := 6) hX dL_tick_120 (by decide) ?_
          refine V.sub [0, 3, 4, 5, 6, 7] rfl ?_
          exact ih (by omega) _ _ (by omega) (by show _ = twR s k + tbR (twS s k) k; rw [← hacc]; unfold tbR tbF; split <;> split <;> omega)
        · refine V_iload hX dL_tick_64 0 rfl ?_
          refine V_aload_n hX dL_tick_66 4 rfl ?_
          refine V_iconst hX dL_tick_67 ?_
          refine V_iald (i0 := 3) (r := (jI ((twS s k) 3))) hX 0 rfl (by decide) (by decide) (by decide) rfl (by show (if 3 < 17 then jI ((twS s k) (3)) else 0) = jI ((twS s k) 3); rw [if_pos (by omega)]) dL_tick_68 ?_
          refine V_icmp_eq (tgt := 117) hX dL_tick_69 (by decide) (by omega) (by omega) (fun c_42 => ?_) (fun c_42 => ?_)
          · refine V.wd (w' := lB G d (twS s (k + 1))) (congrArg (lB G d) (by show _ = tbS (twS s k) k; unfold tbS; first | (rw [if_pos (by unfold tbF; split <;> omega)]; done) | (rw [if_neg (by unfold tbF; split <;> omega), tb_law (Z := twS s k) (k := k) (by omega) (by omega) (Or.inl ⟨by assumption, rfl⟩)]; done) | (rw [if_neg (by unfold tbF; split <;> omega), tb_law (Z := twS s k) (k := k) (v := (twS s k (ix k 3) + 1) % 4) (by omega) (by omega) (Or.inr ⟨by assumption, rfl⟩)]; done))) ?_
            refine V_iinc (b := i + 1) (lv' := [(5, .int (jI (i + 1))), (7, .int (jI ((twS s k) (ix k 3)))), (6, .int (jI (((twS s k) 4) + 0))), (4, .int (jI acc)), (0, .ref (d 0)), (1, .ref (d 1)), (2, .ref (d 2)), (3, .ref (d 3))]) hX dL_tick_117 2 rfl rfl (by decide) rfl ?_
            refine V_goto (tgt := 6) hX dL_tick_120 (by decide) ?_
            refine V.sub [0, 3, 4, 5, 6, 7] rfl ?_
            exact ih (by omega) _ _ (by omega) (by show _ = twR s k + tbR (twS s k) k; rw [← hacc]; unfold tbR tbF; split <;> split <;> omega)
          · refine V_aload_n hX dL_tick_72 5 rfl ?_
            refine V_iconst hX dL_tick_73 ?_
            refine V_iload hX dL_tick_74 2 rfl ?_
            refine V_imul hX dL_tick_76 rfl ?_
            refine V_iconst hX dL_tick_77 ?_
            refine V_iadd hX dL_tick_78 rfl ?_
            refine V_aload_n hX dL_tick_79 4 rfl ?_
            refine V_iconst hX dL_tick_80 ?_
            refine V_iald (i0 := 3) (r := (jI ((twS s k) 3))) hX 0 rfl (by decide) (by decide) (by decide) rfl (by show (if 3 < 17 then jI ((twS s k) (3)) else 0) = jI ((twS s k) 3); rw [if_pos (by omega)]) dL_tick_81 ?_
            refine V_iconst hX dL_tick_82 ?_
            refine V_iadd hX dL_tick_83 rfl ?_
            refine V_iconst hX dL_tick_84 ?_
            refine V_irem hX dL_tick_85 (by omega) (by omega) (by omega) (by omega) rfl ?_
            refine V_iload hX dL_tick_86 0 rfl ?_
            refine V_icmp_ne (tgt := 97) hX dL_tick_88 (by decide) (by omega) (by omega) (fun c_43 => ?_) (fun c_43 => ?_)
            · refine V_iload hX dL_tick_97 0 rfl ?_
              refine V_iconst hX dL_tick_99 ?_
              refine V_iadd hX dL_tick_100 rfl ?_
              refine V_iconst hX dL_tick_101 ?_
              refine V_irem hX dL_tick_102 (by omega) (by omega) (by omega) (by omega) rfl ?_
              refine V_iast (i0 := 5 * k + 3) (w' := lB G d (up (twS s k) (ix k 3) ((((twS s k) (ix k 3)) + 1) % 4))) hX 1 rfl (by omega) (by omega) (by omega) (by omega) dL_tick_103 (lB_a G _ _ k 3 _ (by omega)) ?_
              refine V_aload_n hX dL_tick_104 7 rfl ?_
              refine V_iconst hX dL_tick_105 ?_
              refine V_iload hX dL_tick_106 2 rfl ?_
              refine V_imul hX dL_tick_108 rfl ?_
              refine V_dup2 hX dL_tick_109 rfl rfl ?_
              refine V_iald (i0 := 2 * k + 0) (r := (jI ((twS s k) (ix k 9)))) hX 3 rfl (by omega) (by omega) (by omega) (by omega) (by show jI ((up (twS s k) (ix k 3) ((((twS s k) (ix k 3)) + 1) % 4)) (ix ((2 * k + 0) / 2) (9 + (2 * k + 0) % 2))) = jI ((twS s k) (ix k 9)); rw [show ix ((2 * k + 0) / 2) (9 + (2 * k + 0) % 2) = ix k 9 by unfold ix; omega, up_ne (by unfold ix; omega)]) dL_tick_110 ?_
              refine V_iconst hX dL_tick_111 ?_
              refine V_iadd hX dL_tick_112 rfl ?_
              refine V_iast (i0 := 2 * k + 0) (w' := lB G d (up (up (twS s k) (ix k 3) ((((twS s k) (ix k 3)) + 1) % 4)) (ix k 9) (((twS s k) (ix k 9)) + 1))) hX 3 rfl (by omega) (by omega) (by omega) (by omega) dL_tick_113 (lB_n G _ _ k 0 _ (by omega)) ?_
              refine V_iinc (b := acc + 1) (lv' := [(4, .int (jI (acc + 1))), (7, .int (jI ((twS s k) (ix k 3)))), (6, .int (jI (((twS s k) 4) + 0))), (5, .int (jI i)), (0, .ref (d 0)), (1, .ref (d 1)), (2, .ref (d 2)), (3, .ref (d 3))]) hX dL_tick_114 3 rfl rfl (by decide) rfl ?_
              refine V.wd (w' := lB G d (twS s (k + 1))) (congrArg (lB G d) (by show _ = tbS (twS s k) k; unfold tbS; first | (rw [if_pos (by unfold tbF; split <;> omega)]; done) | (rw [if_neg (by unfold tbF; split <;> omega), tb_law (Z := twS s k) (k := k) (by omega) (by omega) (Or.inl ⟨by assumption, rfl⟩)]; done) | (rw [if_neg (by unfold tbF; split <;> omega), tb_law (Z := twS s k) (k := k) (v := (twS s k (ix k 3) + 1) % 4) (by omega) (by omega) (Or.inr ⟨by assumption, rfl⟩)]; done))) ?_
              refine V_iinc (b := i + 1) (lv' := [(5, .int (jI (i + 1))), (4, .int (jI (acc + 1))), (7, .int (jI ((twS s k) (ix k 3)))), (6, .int (jI (((twS s k) 4) + 0))), (0, .ref (d 0)), (1, .ref (d 1)), (2, .ref (d 2)), (3, .ref (d 3))]) hX dL_tick_117 3 rfl rfl (by decide) rfl ?_
              refine V_goto (tgt := 6) hX dL_tick_120 (by decide) ?_
              refine V.sub [0, 1, 4, 5, 6, 7] rfl ?_
              exact ih (by omega) _ _ (by omega) (by show _ = twR s k + tbR (twS s k) k; rw [← hacc]; unfold tbR tbF; split <;> split <;> omega)
            · refine V_aload_n hX dL_tick_91 4 rfl ?_
              refine V_iconst hX dL_tick_92 ?_
              refine V_iald (i0 := 3) (r := (jI ((twS s k) 3))) hX 0 rfl (by decide) (by decide) (by decide) rfl (by show (if 3 < 17 then jI ((twS s k) (3)) else 0) = jI ((twS s k) 3); rw [if_pos (by omega)]) dL_tick_93 ?_
              refine V_goto (tgt := 103) hX dL_tick_94 (by decide) ?_
              refine V_iast (i0 := 5 * k + 3) (w' := lB G d (up (twS s k) (ix k 3) ((twS s k) 3))) hX 1 rfl (by omega) (by omega) (by omega) (by omega) dL_tick_103 (lB_a G _ _ k 3 _ (by omega)) ?_
              refine V_aload_n hX dL_tick_104 7 rfl ?_
              refine V_iconst hX dL_tick_105 ?_
              refine V_iload hX dL_tick_106 2 rfl ?_
              refine V_imul hX dL_tick_108 rfl ?_
              refine V_dup2 hX dL_tick_109 rfl rfl ?_
              refine V_iald (i0 := 2 * k + 0) (r := (jI ((twS s k) (ix k 9)))) hX 3 rfl (by omega) (by omega) (by omega) (by omega) (by show jI ((up (twS s k) (ix k 3) ((twS s k) 3)) (ix ((2 * k + 0) / 2) (9 + (2 * k + 0) % 2))) = jI ((twS s k) (ix k 9)); rw [show ix ((2 * k + 0) / 2) (9 + (2 * k + 0) % 2) = ix k 9 by unfold ix; omega, up_ne (by unfold ix; omega)]) dL_tick_110 ?_
              refine V_iconst hX dL_tick_111 ?_
              refine V_iadd hX dL_tick_112 rfl ?_
              refine V_iast (i0 := 2 * k + 0) (w' := lB G d (up (up (twS s k) (ix k 3) ((twS s k) 3)) (ix k 9) (((twS s k) (ix k 9)) + 1))) hX 3 rfl (by omega) (by omega) (by omega) (by omega) dL_tick_113 (lB_n G _ _ k 0 _ (by omega)) ?_
              refine V_iinc (b := acc + 1) (lv' := [(4, .int (jI (acc + 1))), (7, .int (jI ((twS s k) (ix k 3)))), (6, .int (jI (((twS s k) 4) + 0))), (5, .int (jI i)), (0, .ref (d 0)), (1, .ref (d 1)), (2, .ref (d 2)), (3, .ref (d 3))]) hX dL_tick_114 3 rfl rfl (by decide) rfl ?_
              refine V.wd (w' := lB G d (twS s (k + 1))) (congrArg (lB G d) (by show _ = tbS (twS s k) k; unfold tbS; first | (rw [if_pos (by unfold tbF; split <;> omega)]; done) | (rw [if_neg (by unfold tbF; split <;> omega), tb_law (Z := twS s k) (k := k) (by omega) (by omega) (Or.inl ⟨by assumption, rfl⟩)]; done) | (rw [if_neg (by unfold tbF; split <;> omega), tb_law (Z := twS s k) (k := k) (v := (twS s k (ix k 3) + 1) % 4) (by omega) (by omega) (Or.inr ⟨by assumption, rfl⟩)]; done))) ?_
              refine V_iinc (b := i + 1) (lv' := [(5, .int (jI (i + 1))), (4, .int (jI (acc + 1))), (7, .int (jI ((twS s k) (ix k 3)))), (6, .int (jI (((twS s k) 4) + 0))), (0, .ref (d 0)), (1, .ref (d 1)), (2, .ref (d 2)), (3, .ref (d 3))]) hX dL_tick_117 3 rfl rfl (by decide) rfl ?_
              refine V_goto (tgt := 6) hX dL_tick_120 (by decide) ?_
              refine V.sub [0, 1, 4, 5, 6, 7] rfl ?_
              exact ih (by omega) _ _ (by omega) (by show _ = twR s k + tbR (twS s k) k; rw [← hacc]; unfold tbR tbF; split <;> split <;> omega)
      · refine V_iconst hX dL_tick_33 ?_
        refine V_goto (tgt := 38) hX dL_tick_34 (by decide) ?_
        refine V_iadd hX dL_tick_38 rfl ?_
        refine V_istore (i := 6) (lv' := [(6, .int (jI (((twS s k) 4) + 1))), (5, .int (jI i)), (4, .int (jI acc)), (0, .ref (d 0)), (1, .ref (d 1)), (2, .ref (d 2)), (3, .ref (d 3))]) hX dL_tick_39 (by decide) rfl ?_
        refine V_aload_n hX dL_tick_41 4 rfl ?_
        refine V_iconst hX dL_tick_42 ?_
        refine V_iload hX dL_tick_43 1 rfl ?_
        refine V_imul hX dL_tick_45 rfl ?_
        refine V_iconst hX dL_tick_46 ?_
        refine V_iadd hX dL_tick_47 rfl ?_
        refine V_iald (i0 := 5 * k + 3) (r := (jI ((twS s k) (ix k 3)))) hX 1 rfl (by omega) (by omega) (by omega) (by omega) (by show jI ((twS s k) (ix ((5 * k + 3) / 5) ((5 * k + 3) % 5))) = jI ((twS s k) (ix k 3)); rw [show ix ((5 * k + 3) / 5) ((5 * k + 3) % 5) = ix k 3 by unfold ix; omega]) dL_tick_48 ?_
        refine V_istore (i := 7) (lv' := [(7, .int (jI ((twS s k) (ix k 3)))), (6, .int (jI (((twS s k) 4) + 1))), (5, .int (jI i)), (4, .int (jI acc)), (0, .ref (d 0)), (1, .ref (d 1)), (2, .ref (d 2)), (3, .ref (d 3))]) hX dL_tick_49 (by decide) rfl ?_
        refine V_iload hX dL_tick_51 1 rfl ?_
        refine V_aload_n hX dL_tick_53 5 rfl ?_
        refine V_iconst hX dL_tick_54 ?_
        refine V_iload hX dL_tick_55 2 rfl ?_
        refine V_imul hX dL_tick_57 rfl ?_
        refine V_iconst hX dL_tick_58 ?_
        refine V_iadd hX dL_tick_59 rfl ?_
        refine V_iald (i0 := 5 * k + 2) (r := (jI ((twS s k) (ix k 2)))) hX 1 rfl (by omega) (by omega) (by omega) (by omega) (by show jI ((twS s k) (ix ((5 * k + 2) / 5) ((5 * k + 2) % 5))) = jI ((twS s k) (ix k 2)); rw [show ix ((5 * k + 2) / 5) ((5 * k + 2) % 5) = ix k 2 by unfold ix; omega]) dL_tick_60 ?_
        refine V_icmp_le (tgt := 117) hX dL_tick_61 (by decide) (by omega) (by omega) (fun c_44 => ?_) (fun c_44 => ?_)
        · refine V.wd (w' := lB G d (twS s (k + 1))) (congrArg (lB G d) (by show _ = tbS (twS s k) k; unfold tbS; first | (rw [if_pos (by unfold tbF; split <;> omega)]; done) | (rw [if_neg (by unfold tbF; split <;> omega), tb_law (Z := twS s k) (k := k) (by omega) (by omega) (Or.inl ⟨by assumption, rfl⟩)]; done) | (rw [if_neg (by unfold tbF; split <;> omega), tb_law (Z := twS s k) (k := k) (v := (twS s k (ix k 3) + 1) % 4) (by omega) (by omega) (Or.inr ⟨by assumption, rfl⟩)]; done))) ?_
          refine V_iinc (b := i + 1) (lv' := [(5, .int (jI (i + 1))), (7, .int (jI ((twS s k) (ix k 3)))), (6, .int (jI (((twS s k) 4) + 1))), (4, .int (jI acc)), (0, .ref (d 0)), (1, .ref (d 1)), (2, .ref (d 2)), (3, .ref (d 3))]) hX dL_tick_117 2 rfl rfl (by decide) rfl ?_
          refine V_goto (tgt := 6) hX dL_tick_120 (by decide) ?_
          refine V.sub [0, 3, 4, 5, 6, 7] rfl ?_
          exact ih (by omega) _ _ (by omega) (by show _ = twR s k + tbR (twS s k) k; rw [← hacc]; unfold tbR tbF; split <;> split <;> omega)
        · refine V_iload hX dL_tick_64 0 rfl ?_
          refine V_aload_n hX dL_tick_66 4 rfl ?_
          refine V_iconst hX dL_tick_67 ?_
          refine V_iald (i0 := 3) (r := (jI ((twS s k) 3))) hX 0 rfl (by decide) (by decide) (by decide) rfl (by show (if 3 < 17 then jI ((twS s k) (3)) else 0) = jI ((twS s k) 3); rw [if_pos (by omega)]) dL_tick_68 ?_
          refine V_icmp_eq (tgt := 117) hX dL_tick_69 (by decide) (by omega) (by omega) (fun c_45 => ?_) (fun c_45 => ?_)
          · refine V.wd (w' := lB G d (twS s (k + 1))) (congrArg (lB G d) (by show _ = tbS (twS s k) k; unfold tbS; first | (rw [if_pos (by unfold tbF; split <;> omega)]; done) | (rw [if_neg (by unfold tbF; split <;> omega), tb_law (Z := twS s k) (k := k) (by omega) (by omega) (Or.inl ⟨by assumption, rfl⟩)]; done) | (rw [if_neg (by unfold tbF; split <;> omega), tb_law (Z := twS s k) (k := k) (v := (twS s k (ix k 3) + 1) % 4) (by omega) (by omega) (Or.inr ⟨by assumption, rfl⟩)]; done))) ?_
            refine V_iinc (b := i + 1) (lv' := [(5, .int (jI (i + 1))), (7, .int (jI ((twS s k) (ix k 3)))), (6, .int (jI (((twS s k) 4) + 1))), (4, .int (jI acc)), (0, .ref (d 0)), (1, .ref (d 1)), (2, .ref (d 2)), (3, .ref (d 3))]) hX dL_tick_117 2 rfl rfl (by decide) rfl ?_
            refine V_goto (tgt := 6) hX dL_tick_120 (by decide) ?_
            refine V.sub [0, 3, 4, 5, 6, 7] rfl ?_
            exact ih (by omega) _ _ (by omega) (by show _ = twR s k + tbR (twS s k) k; rw [← hacc]; unfold tbR tbF; split <;> split <;> omega)
          · refine V_aload_n hX dL_tick_72 5 rfl ?_
            refine V_iconst hX dL_tick_73 ?_
            refine V_iload hX dL_tick_74 2 rfl ?_
            refine V_imul hX dL_tick_76 rfl ?_
            refine V_iconst hX dL_tick_77 ?_
            refine V_iadd hX dL_tick_78 rfl ?_
            refine V_aload_n hX dL_tick_79 4 rfl ?_
            refine V_iconst hX dL_tick_80 ?_
            refine V_iald (i0 := 3) (r := (jI ((twS s k) 3))) hX 0 rfl (by decide) (by decide) (by decide) rfl (by show (if 3 < 17 then jI ((twS s k) (3)) else 0) = jI ((twS s k) 3); rw [if_pos (by omega)]) dL_tick_81 ?_
            refine V_iconst hX dL_tick_82 ?_
            refine V_iadd hX dL_tick_83 rfl ?_
            refine V_iconst hX dL_tick_84 ?_
            refine V_irem hX dL_tick_85 (by omega) (by omega) (by omega) (by omega) rfl ?_
            refine V_iload hX dL_tick_86 0 rfl ?_
            refine V_icmp_ne (tgt := 97) hX dL_tick_88 (by decide) (by omega) (by omega) (fun c_46 => ?_) (fun c_46 => ?_)
            · refine V_iload hX dL_tick_97 0 rfl ?_
              refine V_iconst hX dL_tick_99 ?_
              refine V_iadd hX dL_tick_100 rfl ?_
              refine V_iconst hX dL_tick_101 ?_
              refine V_irem hX dL_tick_102 (by omega) (by omega) (by omega) (by omega) rfl ?_
              refine V_iast (i0 := 5 * k + 3) (w' := lB G d (up (twS s k) (ix k 3) ((((twS s k) (ix k 3)) + 1) % 4))) hX 1 rfl (by omega) (by omega) (by omega) (by omega) dL_tick_103 (lB_a G _ _ k 3 _ (by omega)) ?_
              refine V_aload_n hX dL_tick_104 7 rfl ?_
              refine V_iconst hX dL_tick_105 ?_
              refine V_iload hX dL_tick_106 2 rfl ?_
              refine V_imul hX dL_tick_108 rfl ?_
              refine V_dup2 hX dL_tick_109 rfl rfl ?_
              refine V_iald (i0 := 2 * k + 0) (r := (jI ((twS s k) (ix k 9)))) hX 3 rfl (by omega) (by omega) (by omega) (by omega) (by show jI ((up (twS s k) (ix k 3) ((((twS s k) (ix k 3)) + 1) % 4)) (ix ((2 * k + 0) / 2) (9 + (2 * k + 0) % 2))) = jI ((twS s k) (ix k 9)); rw [show ix ((2 * k + 0) / 2) (9 + (2 * k + 0) % 2) = ix k 9 by unfold ix; omega, up_ne (by unfold ix; omega)]) dL_tick_110 ?_
              refine V_iconst hX dL_tick_111 ?_
              refine V_iadd hX dL_tick_112 rfl ?_
              refine V_iast (i0 := 2 * k + 0) (w' := lB G d (up (up (twS s k) (ix k 3) ((((twS s k) (ix k 3)) + 1) % 4)) (ix k 9) (((twS s k) (ix k 9)) + 1))) hX 3 rfl (by omega) (by omega) (by omega) (by omega) dL_tick_113 (lB_n G _ _ k 0 _ (by omega)) ?_
              refine V_iinc (b := acc + 1) (lv' := [(4, .int (jI (acc + 1))), (7, .int (jI ((twS s k) (ix k 3)))), (6, .int (jI (((twS s k) 4) + 1))), (5, .int (jI i)), (0, .ref (d 0)), (1, .ref (d 1)), (2, .ref (d 2)), (3, .ref (d 3))]) hX dL_tick_114 3 rfl rfl (by decide) rfl ?_
              refine V.wd (w' := lB G d (twS s (k + 1))) (congrArg (lB G d) (by show _ = tbS (twS s k) k; unfold tbS; first | (rw [if_pos (by unfold tbF; split <;> omega)]; done) | (rw [if_neg (by unfold tbF; split <;> omega), tb_law (Z := twS s k) (k := k) (by omega) (by omega) (Or.inl ⟨by assumption, rfl⟩)]; done) | (rw [if_neg (by unfold tbF; split <;> omega), tb_law (Z := twS s k) (k := k) (v := (twS s k (ix k 3) + 1) % 4) (by omega) (by omega) (Or.inr ⟨by assumption, rfl⟩)]; done))) ?_
              refine V_iinc (b := i + 1) (lv' := [(5, .int (jI (i + 1))), (4, .int (jI (acc + 1))), (7, .int (jI ((twS s k) (ix k 3)))), (6, .int (jI (((twS s k) 4) + 1))), (0, .ref (d 0)), (1, .ref (d 1)), (2, .ref (d 2)), (3, .ref (d 3))]) hX dL_tick_117 3 rfl rfl (by decide) rfl ?_
              refine V_goto (tgt := 6) hX dL_tick_120 (by decide) ?_
              refine V.sub [0, 1, 4, 5, 6, 7] rfl ?_
              exact ih (by omega) _ _ (by omega) (by show _ = twR s k + tbR (twS s k) k; rw [← hacc]; unfold tbR tbF; split <;> split <;> omega)
            · refine V_aload_n hX dL_tick_91 4 rfl ?_
              refine V_iconst hX dL_tick_92 ?_
              refine V_iald (i0 := 3) (r := (jI ((twS s k) 3))) hX 0 rfl (by decide) (by decide) (by decide) rfl (by show (if 3 < 17 then jI ((twS s k) (3)) else 0) = jI ((twS s k) 3); rw [if_pos (by omega)]) dL_tick_93 ?_
              refine V_goto (tgt := 103) hX dL_tick_94 (by decide) ?_
              refine V_iast (i0 := 5 * k + 3) (w' := lB G d (up (twS s k) (ix k 3) ((twS s k) 3))) hX 1 rfl (by omega) (by omega) (by omega) (by omega) dL_tick_103 (lB_a G _ _ k 3 _ (by omega)) ?_
              refine V_aload_n hX dL_tick_104 7 rfl ?_
              refine V_iconst hX dL_tick_105 ?_
              refine V_iload hX dL_tick_106 2 rfl ?_
              refine V_imul hX dL_tick_108 rfl ?_
              refine V_dup2 hX dL_tick_109 rfl rfl ?_
              refine V_iald (i0 := 2 * k + 0) (r := (jI ((twS s k) (ix k 9)))) hX 3 rfl (by omega) (by omega) (by omega) (by omega) (by show jI ((up (twS s k) (ix k 3) ((twS s k) 3)) (ix ((2 * k + 0) / 2) (9 + (2 * k + 0) % 2))) = jI ((twS s k) (ix k 9)); rw [show ix ((2 * k + 0) / 2) (9 + (2 * k + 0) % 2) = ix k 9 by unfold ix; omega, up_ne (by unfold ix; omega)]) dL_tick_110 ?_
              refine V_iconst hX dL_tick_111 ?_
              refine V_iadd hX dL_tick_112 rfl ?_
              refine V_iast (i0 := 2 * k + 0) (w' := lB G d (up (up (twS s k) (ix k 3) ((twS s k) 3)) (ix k 9) (((twS s k) (ix k 9)) + 1))) hX 3 rfl (by omega) (by omega) (by omega) (by omega) dL_tick_113 (lB_n G _ _ k 0 _ (by omega)) ?_
              refine V_iinc (b := acc + 1) (lv' := [(4, .int (jI (acc + 1))), (7, .int (jI ((twS s k) (ix k 3)))), (6, .int (jI (((twS s k) 4) + 1))), (5, .int (jI i)), (0, .ref (d 0)), (1, .ref (d 1)), (2, .ref (d 2)), (3, .ref (d 3))]) hX dL_tick_114 3 rfl rfl (by decide) rfl ?_
              refine V.wd (w' := lB G d (twS s (k + 1))) (congrArg (lB G d) (by show _ = tbS (twS s k) k; unfold tbS; first | (rw [if_pos (by unfold tbF; split <;> omega)]; done) | (rw [if_neg (by unfold tbF; split <;> omega), tb_law (Z := twS s k) (k := k) (by omega) (by omega) (Or.inl ⟨by assumption, rfl⟩)]; done) | (rw [if_neg (by unfold tbF; split <;> omega), tb_law (Z := twS s k) (k := k) (v := (twS s k (ix k 3) + 1) % 4) (by omega) (by omega) (Or.inr ⟨by assumption, rfl⟩)]; done))) ?_
              refine V_iinc (b := i + 1) (lv' := [(5, .int (jI (i + 1))), (4, .int (jI (acc + 1))), (7, .int (jI ((twS s k) (ix k 3)))), (6, .int (jI (((twS s k) 4) + 1))), (0, .ref (d 0)), (1, .ref (d 1)), (2, .ref (d 2)), (3, .ref (d 3))]) hX dL_tick_117 3 rfl rfl (by decide) rfl ?_
              refine V_goto (tgt := 6) hX dL_tick_120 (by decide) ?_
              refine V.sub [0, 1, 4, 5, 6, 7] rfl ?_
              exact ih (by omega) _ _ (by omega) (by show _ = twR s k + tbR (twS s k) k; rw [← hacc]; unfold tbR tbF; split <;> split <;> omega)
  refine V.sub [0, 1, 2, 3, 4, 5] rfl ?_
  exact L6_q_1 0 (Nat.zero_le _) 0 0 rfl rfl
