/-! one call of the law -/
abbrev LH (s ss : Nat → Int) (hs : Nat → Nat → Int) (sz : Nat) (hh snm ch : Nat → Int) (ln ps th kp sN sE g10 g11 g12 g13 : Int) : Prop :=
  IG s ∧ IG ss ∧ sz ≤ 4 ∧ HR hh hs sz ∧ (∀ i, i < sz → IG (hs i)) ∧ SI ch ln ∧ (0 ≤ ps ∧ ps ≤ 1400000) ∧ (0 ≤ th ∧ th ≤ 30) ∧ (kp = 0 ∨ kp = 1) ∧ (kp = 1 → snm = ss) ∧ ((g13 = 0 ∧ sN = -5 ∧ sE = -5) ∨ (g13 ≠ 0 ∧ sE = g13 ∧ sN = g12)) ∧ iR g12 ∧ iR g13 ∧ (-5 ≤ g10 ∧ g10 ≤ 99) ∧ (-5 ≤ g11 ∧ g11 ≤ 99)
def lW (G : vC) (o : Nat) (no be tr sn p te b c mo : Nat → Nat) (s : Nat → Int) (sb : Nat → Int) (st : Nat → Int) (ss : Nat → Int) (q : Nat → Nat → Nat) (hs : Nat → Nat → Int) (sz : Nat) (ch : Nat → Int) (ki : Nat → Int) (fi : Nat → Int) (se : Nat → Int) (ln : Int) (th : Int) (ps : Int) (W : Nat → Nat) (vf : Nat → Int) (W2 : Nat → Nat) (vf2 : Nat → Int) (kp : Int) (sN : Int) (sE : Int) (sp : Nat → Int) (hh : Nat → Int) (snm : Nat → Int) (g8 : Int) (g9 : Int) (g10 : Int) (g11 : Int) (g12 : Int) (g13 : Int) : va_W := oH o no be tr sn p te b c kp sN sE ++ (hB G no s ++ (hB G be sb ++ (hB G tr st ++ (hB G sn ss ++ (pW G p q hs sz ++ (sB G te ch ki fi se ln th ps ++ (bB G b true W vf ++ (bB G c false W2 vf2 ++ mB G mo s sp hh snm ch ((sz : Int)) kp ln g8 g9 g10 g11 g12 g13))))))))
abbrev LG (X : vX) (G : vC) (pc : Nat) (bs : Nat) (o : Nat) (no : Nat → Nat) (be : Nat → Nat) (tr : Nat → Nat) (sn : Nat → Nat) (p : Nat → Nat) (te : Nat → Nat) (b : Nat → Nat) (c : Nat → Nat) (mo : Nat → Nat) (i : Int) : Prop := ∀ (s : Nat → Int) (sb : Nat → Int) (st : Nat → Int) (ss : Nat → Int) (q : Nat → Nat → Nat) (hs : Nat → Nat → Int) (sz : Nat) (ch : Nat → Int) (ki : Nat → Int) (fi : Nat → Int) (se : Nat → Int) (ln : Int) (th : Int) (ps : Int) (W : Nat → Nat) (vf : Nat → Int) (W2 : Nat → Nat) (vf2 : Nat → Int) (kp : Int) (sN : Int) (sE : Int) (sp : Nat → Int) (hh : Nat → Int) (snm : Nat → Int) (g8 : Int) (g9 : Int) (g10 : Int) (g11 : Int) (g12 : Int) (g13 : Int), LH s ss hs sz hh snm ch ln ps th kp sN sE g10 g11 g12 g13 → V X 108 2573 (lW G o no be tr sn p te b c mo s sb st ss q hs sz ch ki fi se ln th ps W vf W2 vf2 kp sN sE sp hh snm g8 g9 g10 g11 g12 g13) [(3, .int (jI i)), (2, .ref (mo 0)), (1, .ref (o)), (0, .ref (bs))] pc []
abbrev yLaw (nm : String) : MethodName := ⟨"StrawHouseLaw", nm, ""⟩

set_option maxHeartbeats 4000000 in
set_option maxRecDepth 100000 in
theorem lw_k0 {X : vX} {l : Launch} {G : vC} {nm : String} (hX : VS X l G (yLaw nm) cL_law room_1 8) {L : Nat} {xs : Nat → Int32} (bs : Nat) (o : Nat) (no : Nat → Nat) (be : Nat → Nat) (tr : Nat → Nat) (sn : Nat → Nat) (p : Nat → Nat) (te : Nat → Nat) (b : Nat → Nat) (c : Nat → Nat) (mo : Nat → Nat) (hL : LawS X bs L xs) (hLm : L ≤ 2560) (i : Int) (hi0 : 0 ≤ i) (hi5 : i + 5 ≤ L) (ih : LG X G 949 bs o no be tr sn p te b c mo i) : LG X G 164 bs o no be tr sn p te b c mo i := by
  intro s sb st ss q hs sz ch ki fi se ln th ps W vf W2 vf2 kp sN sE sp hh snm g8 g9 g10 g11 g12 g13 h
  obtain ⟨x1, e1, r1⟩ : ∃ z : Int, xs (i + 1).toNat = jI z ∧ iR z := ⟨_, (jI_as _).symm, jI_rng _⟩
  obtain ⟨x2, e2, r2⟩ : ∃ z : Int, xs (i + 2).toNat = jI z ∧ iR z := ⟨_, (jI_as _).symm, jI_rng _⟩
  obtain ⟨x3, e3, r3⟩ : ∃ z : Int, xs (i + 3).toNat = jI z ∧ iR z := ⟨_, (jI_as _).symm, jI_rng _⟩
  obtain ⟨x4, e4, r4⟩ : ∃ z : Int, xs (i + 4).toNat = jI z ∧ iR z := ⟨_, (jI_as _).symm, jI_rng _⟩
  obtain ⟨h0, h2, hsz, hHR, hHI, hS, hps, hth, hkp, hks, hst, h12, h13, hx, hy⟩ := h
  have hI := h0.1
  have hG := h0.2
  have hI2 := h2.1
  have hb := hI.base
  have h9 := h0.h9
  unfold lW
  refine V_aload_n hX dL_law_164 2 rfl ?_
  refine V_aload_n hX dL_law_165 3 rfl ?_
  refine V_iload_n hX dL_law_166 0 rfl ?_
  refine V_iconst hX dL_law_167 ?_
  refine V_iadd hX dL_law_168 rfl ?_
  refine V_sld hX hL (by omega) (by omega) (by omega) e1 dL_law_169 ?_
  refine V_aload_n hX dL_law_170 3 rfl ?_
  refine V_iload_n hX dL_law_171 0 rfl ?_
  refine V_iconst hX dL_law_172 ?_
  refine V_iadd hX dL_law_173 rfl ?_
  refine V_sld hX hL (by omega) (by omega) (by omega) e2 dL_law_174 ?_
  refine V_aload_n hX dL_law_175 3 rfl ?_
  refine V_iload_n hX dL_law_176 0 rfl ?_
  refine V_iconst hX dL_law_177 ?_
  refine V_iadd hX dL_law_178 rfl ?_
  refine V_sld hX hL (by omega) (by omega) (by omega) e3 dL_law_179 ?_
  refine V_aload_n hX dL_law_180 3 rfl ?_
  refine V_iload_n hX dL_law_181 0 rfl ?_
  refine V_iconst hX dL_law_182 ?_
  refine V_iadd hX dL_law_183 rfl ?_
  refine V_sld hX hL (by omega) (by omega) (by omega) e4 dL_law_184 ?_
  refine V_cV (st := []) (v := .int (jI (raR s x1 x2 x3 x4))) (w' := oH o no be tr sn p te b c kp sN sE ++ (hB G no (raS s x1 x2 x3 x4) ++ (hB G be s ++ (hB G tr st ++ (hB G sn ss ++ (pW G p (rcQ q sz (raR s x1 x2 x3 x4)) (rcH hs sz s (raR s x1 x2 x3 x4)) (rcZ sz (raR s x1 x2 x3 x4)) ++ (sB G te ch ki fi se ln th ps ++ (bB G b true W vf ++ (bB G c false W2 vf2 ++ mB G mo s sp hh snm ch ((sz : Int)) kp ln g8 g9 g10 g11 g12 g13))))))))) hX wc_L_13 (c_X4_setUp l G o no be tr sn p te b c kp sN sE s sb st ss q hs sz ch ki fi se ln th ps W vf W2 vf2 x1 x2 x3 x4 hI hsz (by omega) (by omega) (by omega) (by omega)) (by decide) (by decide) rfl rfl (Nat.le_of_ble_eq_true rfl) dL_law_185 [] (mB G mo s sp hh snm ch ((sz : Int)) kp ln g8 g9 g10 g11 g12 g13) (by simp only [List.append_assoc, List.nil_append, List.append_nil]) 0 rfl rfl (by simp only [List.append_assoc, List.nil_append, List.append_nil]) rfl rfl ?_
  refine V_aload_n hX dL_law_188 1 rfl ?_
  refine V_aload_n hX dL_law_189 3 rfl ?_
  refine V_iload_n hX dL_law_190 0 rfl ?_
  refine V_iconst hX dL_law_191 ?_
  refine V_iadd hX dL_law_192 rfl ?_
  refine V_sld hX hL (by omega) (by omega) (by omega) e1 dL_law_193 ?_
  refine V_aload_n hX dL_law_194 3 rfl ?_
  refine V_iload_n hX dL_law_195 0 rfl ?_
  refine V_iconst hX dL_law_196 ?_
  refine V_iadd hX dL_law_197 rfl ?_
  refine V_sld hX hL (by omega) (by omega) (by omega) e2 dL_law_198 ?_
  refine V_aload_n hX dL_law_199 3 rfl ?_
  refine V_iload_n hX dL_law_200 0 rfl ?_
  refine V_iconst hX dL_law_201 ?_
  refine V_iadd hX dL_law_202 rfl ?_
  refine V_sld hX hL (by omega) (by omega) (by omega) e3 dL_law_203 ?_
  refine V_aload_n hX dL_law_204 3 rfl ?_
  refine V_iload_n hX dL_law_205 0 rfl ?_
  refine V_iconst hX dL_law_206 ?_
  refine V_iadd hX dL_law_207 rfl ?_
  refine V_sld hX hL (by omega) (by omega) (by omega) e4 dL_law_208 ?_
  refine V_rV (st := [.int (jI (raR s x1 x2 x3 x4))]) hX wc_L_17 (c_X5_setUp l G mo s sp hh snm ch ((sz : Int)) kp ln g8 g9 g10 g11 g12 g13 99999 x1 x2 x3 x4 hI (by omega) (by omega) (by omega) (by omega) (by omega)) (by decide) (by decide) rfl rfl (Nat.le_of_ble_eq_true rfl) dL_law_209 (oH o no be tr sn p te b c kp sN sE ++ (hB G no (raS s x1 x2 x3 x4) ++ (hB G be s ++ (hB G tr st ++ (hB G sn ss ++ (pW G p (rcQ q sz (raR s x1 x2 x3 x4)) (rcH hs sz s (raR s x1 x2 x3 x4)) (rcZ sz (raR s x1 x2 x3 x4)) ++ (sB G te ch ki fi se ln th ps ++ (bB G b true W vf ++ bB G c false W2 vf2)))))))) ([]) (by simp only [List.append_assoc, List.nil_append, List.append_nil]) 102 rfl rfl (fun v_2 u_1 hp_3 => ?_)
  obtain ⟨rfl, sp2, rfl⟩ := hp_3
  refine V.wd (w' := oH o no be tr sn p te b c kp sN sE ++ (hB G no (raS s x1 x2 x3 x4) ++ (hB G be s ++ (hB G tr st ++ (hB G sn ss ++ (pW G p (rcQ q sz (raR s x1 x2 x3 x4)) (rcH hs sz s (raR s x1 x2 x3 x4)) (rcZ sz (raR s x1 x2 x3 x4)) ++ (sB G te ch ki fi se ln th ps ++ (bB G b true W vf ++ (bB G c false W2 vf2 ++ mB G mo (raS s x1 x2 x3 x4) sp2 (mcH hh ((sz : Int)) s (raR s x1 x2 x3 x4)) snm ch (mcZ ((sz : Int)) (raR s x1 x2 x3 x4)) kp ln g8 g9 g10 g11 g12 g13))))))))) (by simp only [List.append_assoc, List.nil_append, List.append_nil]) ?_
  refine V_icmp_eqv (tgt := 949) hX dL_law_212 (by decide) rfl ?_
  refine V.wd (w' := oH o no be tr sn p te b c kp sN sE ++ (hB G no (raS s x1 x2 x3 x4) ++ (hB G be s ++ (hB G tr st ++ (hB G sn ss ++ (pW G p (rcQ q sz (raR s x1 x2 x3 x4)) (rcH hs sz s (raR s x1 x2 x3 x4)) (rcZ sz (raR s x1 x2 x3 x4)) ++ (sB G te ch ki fi se ln th ps ++ (bB G b true W vf ++ (bB G c false W2 vf2 ++ mB G mo (raS s x1 x2 x3 x4) sp2 (mcH hh ((sz : Int)) s (raR s x1 x2 x3 x4)) snm ch (((rcZ sz (raR s x1 x2 x3 x4) : Nat) : Int)) kp ln g8 g9 g10 g11 g12 g13))))))))) (app_c rfl (app_c rfl (app_c rfl (app_c rfl (app_c rfl (app_c rfl (app_c rfl (app_c rfl (app_c rfl (mB_c rfl rfl rfl rfl rfl (mc_rc sz _) rfl rfl rfl rfl rfl rfl rfl rfl)))))))))) ?_
  refine V.sub [0, 1, 2, 3] rfl ?_
  exact ih _ _ _ _ _ _ _ _ _ _ _ _ _ _ _ _ _ _ _ _ _ _ _ _ _ _ _ _ _ _ ⟨⟨hI.ra _ _ _ _, hG.ge (GE.ra _ _ _ _ _)⟩, h2, rcZ_b hsz _, hHR.rc hsz _, IG.rc hHI hsz h0 _, hS, hps, hth, hkp, hks, hst, h12, h13, hx, hy⟩

set_option maxHeartbeats 4000000 in
set_option maxRecDepth 100000 in
theorem lw_k1 {X : vX} {l : Launch} {G : vC} {nm : String} (hX : VS X l G (yLaw nm) cL_law room_1 8) {L : Nat} {xs : Nat → Int32} (bs : Nat) (o : Nat) (no : Nat → Nat) (be : Nat → Nat) (tr : Nat → Nat) (sn : Nat → Nat) (p : Nat → Nat) (te : Nat → Nat) (b : Nat → Nat) (c : Nat → Nat) (mo : Nat → Nat) (hL : LawS X bs L xs) (hLm : L ≤ 2560) (i : Int) (hi0 : 0 ≤ i) (hi5 : i + 5 ≤ L) (ih : LG X G 949 bs o no be tr sn p te b c mo i) : LG X G 217 bs o no be tr sn p te b c mo i := by
  intro s sb st ss q hs sz ch ki fi se ln th ps W vf W2 vf2 kp sN sE sp hh snm g8 g9 g10 g11 g12 g13 h
  obtain ⟨x1, e1, r1⟩ : ∃ z : Int, xs (i + 1).toNat = jI z ∧ iR z := ⟨_, (jI_as _).symm, jI_rng _⟩
  obtain ⟨x2, e2, r2⟩ : ∃ z : Int, xs (i + 2).toNat = jI z ∧ iR z := ⟨_, (jI_as _).symm, jI_rng _⟩
  obtain ⟨x3, e3, r3⟩ : ∃ z : Int, xs (i + 3).toNat = jI z ∧ iR z := ⟨_, (jI_as _).symm, jI_rng _⟩
  obtain ⟨x4, e4, r4⟩ : ∃ z : Int, xs (i + 4).toNat = jI z ∧ iR z := ⟨_, (jI_as _).symm, jI_rng _⟩
  obtain ⟨h0, h2, hsz, hHR, hHI, hS, hps, hth, hkp, hks, hst, h12, h13, hx, hy⟩ := h
  have hI := h0.1
  have hG := h0.2
  have hI2 := h2.1
  have hb := hI.base
  have h9 := h0.h9
  unfold lW
  refine V_aload_n hX dL_law_217 2 rfl ?_
  refine V_aload_n hX dL_law_218 3 rfl ?_
  refine V_iload_n hX dL_law_219 0 rfl ?_
  refine V_iconst hX dL_law_220 ?_
  refine V_iadd hX dL_law_221 rfl ?_
  refine V_sld hX hL (by omega) (by omega) (by omega) e1 dL_law_222 ?_
  refine V_aload_n hX dL_law_223 3 rfl ?_
  refine V_iload_n hX dL_law_224 0 rfl ?_
  refine V_iconst hX dL_law_225 ?_
  refine V_iadd hX dL_law_226 rfl ?_
  refine V_sld hX hL (by omega) (by omega) (by omega) e2 dL_law_227 ?_
  refine V_cV (st := []) (v := .int (jI (brR s x1 x2))) (w' := oH o no be tr sn p te b c kp sN sE ++ (hB G no (brS s x1 x2) ++ (hB G be s ++ (hB G tr st ++ (hB G sn ss ++ (pW G p (rcQ q sz (brR s x1 x2)) (rcH hs sz s (brR s x1 x2)) (rcZ sz (brR s x1 x2)) ++ (sB G te ch ki fi se ln th ps ++ (bB G b true W vf ++ (bB G c false W2 vf2 ++ mB G mo s sp hh snm ch ((sz : Int)) kp ln g8 g9 g10 g11 g12 g13))))))))) hX wc_L_18 (c_X4_carry l G o no be tr sn p te b c kp sN sE s sb st ss q hs sz ch ki fi se ln th ps W vf W2 vf2 x1 x2 hI hsz (by omega) (by omega)) (by decide) (by decide) rfl rfl (Nat.le_of_ble_eq_true rfl) dL_law_228 [] (mB G mo s sp hh snm ch ((sz : Int)) kp ln g8 g9 g10 g11 g12 g13) (by simp only [List.append_assoc, List.nil_append, List.append_nil]) 0 rfl rfl (by simp only [List.append_assoc, List.nil_append, List.append_nil]) rfl rfl ?_
  refine V_aload_n hX dL_law_231 1 rfl ?_
  refine V_aload_n hX dL_law_232 3 rfl ?_
  refine V_iload_n hX dL_law_233 0 rfl ?_
  refine V_iconst hX dL_law_234 ?_
  refine V_iadd hX dL_law_235 rfl ?_
  refine V_sld hX hL (by omega) (by omega) (by omega) e1 dL_law_236 ?_
  refine V_aload_n hX dL_law_237 3 rfl ?_
  refine V_iload_n hX dL_law_238 0 rfl ?_
  refine V_iconst hX dL_law_239 ?_
  refine V_iadd hX dL_law_240 rfl ?_
  refine V_sld hX hL (by omega) (by omega) (by omega) e2 dL_law_241 ?_
  refine V_rV (st := [.int (jI (brR s x1 x2))]) hX wc_L_22 (c_X5_carry l G mo s sp hh snm ch ((sz : Int)) kp ln g8 g9 g10 g11 g12 g13 99999 x1 x2 hI (by omega) (by omega) (by omega)) (by decide) (by decide) rfl rfl (Nat.le_of_ble_eq_true rfl) dL_law_242 (oH o no be tr sn p te b c kp sN sE ++ (hB G no (brS s x1 x2) ++ (hB G be s ++ (hB G tr st ++ (hB G sn ss ++ (pW G p (rcQ q sz (brR s x1 x2)) (rcH hs sz s (brR s x1 x2)) (rcZ sz (brR s x1 x2)) ++ (sB G te ch ki fi se ln th ps ++ (bB G b true W vf ++ bB G c false W2 vf2)))))))) ([]) (by simp only [List.append_assoc, List.nil_append, List.append_nil]) 102 rfl rfl (fun v_2 u_1 hp_3 => ?_)
  obtain ⟨rfl, sp2, rfl⟩ := hp_3
  refine V.wd (w' := oH o no be tr sn p te b c kp sN sE ++ (hB G no (brS s x1 x2) ++ (hB G be s ++ (hB G tr st ++ (hB G sn ss ++ (pW G p (rcQ q sz (brR s x1 x2)) (rcH hs sz s (brR s x1 x2)) (rcZ sz (brR s x1 x2)) ++ (sB G te ch ki fi se ln th ps ++ (bB G b true W vf ++ (bB G c false W2 vf2 ++ mB G mo (brS s x1 x2) sp2 (mcH hh ((sz : Int)) s (brR s x1 x2)) snm ch (mcZ ((sz : Int)) (brR s x1 x2)) kp ln g8 g9 g10 g11 g12 g13))))))))) (by simp only [List.append_assoc, List.nil_append, List.append_nil]) ?_
  refine V_icmp_eqv (tgt := 949) hX dL_law_245 (by decide) rfl ?_
  refine V.wd (w' := oH o no be tr sn p te b c kp sN sE ++ (hB G no (brS s x1 x2) ++ (hB G be s ++ (hB G tr st ++ (hB G sn ss ++ (pW G p (rcQ q sz (brR s x1 x2)) (rcH hs sz s (brR s x1 x2)) (rcZ sz (brR s x1 x2)) ++ (sB G te ch ki fi se ln th ps ++ (bB G b true W vf ++ (bB G c false W2 vf2 ++ mB G mo (brS s x1 x2) sp2 (mcH hh ((sz : Int)) s (brR s x1 x2)) snm ch (((rcZ sz (brR s x1 x2) : Nat) : Int)) kp ln g8 g9 g10 g11 g12 g13))))))))) (app_c rfl (app_c rfl (app_c rfl (app_c rfl (app_c rfl (app_c rfl (app_c rfl (app_c rfl (app_c rfl (mB_c rfl rfl rfl rfl rfl (mc_rc sz _) rfl rfl rfl rfl rfl rfl rfl rfl)))))))))) ?_
  refine V.sub [0, 1, 2, 3] rfl ?_
  exact ih _ _ _ _ _ _ _ _ _ _ _ _ _ _ _ _ _ _ _ _ _ _ _ _ _ _ _ _ _ _ ⟨⟨hI.br _ _, hG.ge (GE.br _ _ _)⟩, h2, rcZ_b hsz _, hHR.rc hsz _, IG.rc hHI hsz h0 _, hS, hps, hth, hkp, hks, hst, h12, h13, hx, hy⟩

set_option maxHeartbeats 4000000 in
set_option maxRecDepth 100000 in
theorem lw_k2 {X : vX} {l : Launch} {G : vC} {nm : String} (hX : VS X l G (yLaw nm) cL_law room_1 8) {L : Nat} {xs : Nat → Int32} (bs : Nat) (o : Nat) (no : Nat → Nat) (be : Nat → Nat) (tr : Nat → Nat) (sn : Nat → Nat) (p : Nat → Nat) (te : Nat → Nat) (b : Nat → Nat) (c : Nat → Nat) (mo : Nat → Nat) (hL : LawS X bs L xs) (hLm : L ≤ 2560) (i : Int) (hi0 : 0 ≤ i) (hi5 : i + 5 ≤ L) (ih : LG X G 949 bs o no be tr sn p te b c mo i) : LG X G 250 bs o no be tr sn p te b c mo i := by
  intro s sb st ss q hs sz ch ki fi se ln th ps W vf W2 vf2 kp sN sE sp hh snm g8 g9 g10 g11 g12 g13 h
  obtain ⟨x1, e1, r1⟩ : ∃ z : Int, xs (i + 1).toNat = jI z ∧ iR z := ⟨_, (jI_as _).symm, jI_rng _⟩
  obtain ⟨x2, e2, r2⟩ : ∃ z : Int, xs (i + 2).toNat = jI z ∧ iR z := ⟨_, (jI_as _).symm, jI_rng _⟩
  obtain ⟨x3, e3, r3⟩ : ∃ z : Int, xs (i + 3).toNat = jI z ∧ iR z := ⟨_, (jI_as _).symm, jI_rng _⟩
  obtain ⟨x4, e4, r4⟩ : ∃ z : Int, xs (i + 4).toNat = jI z ∧ iR z := ⟨_, (jI_as _).symm, jI_rng _⟩
  obtain ⟨h0, h2, hsz, hHR, hHI, hS, hps, hth, hkp, hks, hst, h12, h13, hx, hy⟩ := h
  have hI := h0.1
  have hG := h0.2
  have hI2 := h2.1
  have hb := hI.base
  have h9 := h0.h9
  unfold lW
  refine V_aload_n hX dL_law_250 2 rfl ?_
  refine V_aload_n hX dL_law_251 3 rfl ?_
  refine V_iload_n hX dL_law_252 0 rfl ?_
  refine V_iconst hX dL_law_253 ?_
  refine V_iadd hX dL_law_254 rfl ?_
  refine V_sld hX hL (by omega) (by omega) (by omega) e1 dL_law_255 ?_
  refine V_aload_n hX dL_law_256 3 rfl ?_
  refine V_iload_n hX dL_law_257 0 rfl ?_
  refine V_iconst hX dL_law_258 ?_
  refine V_iadd hX dL_law_259 rfl ?_
  refine V_sld hX hL (by omega) (by omega) (by omega) e2 dL_law_260 ?_
  refine V_cV (st := []) (v := .int (jI (thR s x1 x2))) (w' := oH o no be tr sn p te b c kp sN sE ++ (hB G no (thS s x1 x2) ++ (hB G be s ++ (hB G tr st ++ (hB G sn ss ++ (pW G p (rcQ q sz (thR s x1 x2)) (rcH hs sz s (thR s x1 x2)) (rcZ sz (thR s x1 x2)) ++ (sB G te ch ki fi se ln th ps ++ (bB G b true W vf ++ (bB G c false W2 vf2 ++ mB G mo s sp hh snm ch ((sz : Int)) kp ln g8 g9 g10 g11 g12 g13))))))))) hX wc_L_23 (c_X4_face l G o no be tr sn p te b c kp sN sE s sb st ss q hs sz ch ki fi se ln th ps W vf W2 vf2 x1 x2 hI hsz (by omega) (by omega)) (by decide) (by decide) rfl rfl (Nat.le_of_ble_eq_true rfl) dL_law_261 [] (mB G mo s sp hh snm ch ((sz : Int)) kp ln g8 g9 g10 g11 g12 g13) (by simp only [List.append_assoc, List.nil_append, List.append_nil]) 0 rfl rfl (by simp only [List.append_assoc, List.nil_append, List.append_nil]) rfl rfl ?_
  refine V_aload_n hX dL_law_264 1 rfl ?_
  refine V_aload_n hX dL_law_265 3 rfl ?_
  refine V_iload_n hX dL_law_266 0 rfl ?_
  refine V_iconst hX dL_law_267 ?_
  refine V_iadd hX dL_law_268 rfl ?_
  refine V_sld hX hL (by omega) (by omega) (by omega) e1 dL_law_269 ?_
  refine V_aload_n hX dL_law_270 3 rfl ?_
  refine V_iload_n hX dL_law_271 0 rfl ?_
  refine V_iconst hX dL_law_272 ?_
  refine V_iadd hX dL_law_273 rfl ?_
  refine V_sld hX hL (by omega) (by omega) (by omega) e2 dL_law_274 ?_
  refine V_rV (st := [.int (jI (thR s x1 x2))]) hX wc_L_26 (c_X5_face l G mo s sp hh snm ch ((sz : Int)) kp ln g8 g9 g10 g11 g12 g13 99999 x1 x2 hI (by omega) (by omega) (by omega)) (by decide) (by decide) rfl rfl (Nat.le_of_ble_eq_true rfl) dL_law_275 (oH o no be tr sn p te b c kp sN sE ++ (hB G no (thS s x1 x2) ++ (hB G be s ++ (hB G tr st ++ (hB G sn ss ++ (pW G p (rcQ q sz (thR s x1 x2)) (rcH hs sz s (thR s x1 x2)) (rcZ sz (thR s x1 x2)) ++ (sB G te ch ki fi se ln th ps ++ (bB G b true W vf ++ bB G c false W2 vf2)))))))) ([]) (by simp only [List.append_assoc, List.nil_append, List.append_nil]) 102 rfl rfl (fun v_2 u_1 hp_3 => ?_)
  obtain ⟨rfl, sp2, rfl⟩ := hp_3
  refine V.wd (w' := oH o no be tr sn p te b c kp sN sE ++ (hB G no (thS s x1 x2) ++ (hB G be s ++ (hB G tr st ++ (hB G sn ss ++ (pW G p (rcQ q sz (thR s x1 x2)) (rcH hs sz s (thR s x1 x2)) (rcZ sz (thR s x1 x2)) ++ (sB G te ch ki fi se ln th ps ++ (bB G b true W vf ++ (bB G c false W2 vf2 ++ mB G mo (thS s x1 x2) sp2 (mcH hh ((sz : Int)) s (thR s x1 x2)) snm ch (mcZ ((sz : Int)) (thR s x1 x2)) kp ln g8 g9 g10 g11 g12 g13))))))))) (by simp only [List.append_assoc, List.nil_append, List.append_nil]) ?_
  refine V_icmp_eqv (tgt := 949) hX dL_law_278 (by decide) rfl ?_
  refine V.wd (w' := oH o no be tr sn p te b c kp sN sE ++ (hB G no (thS s x1 x2) ++ (hB G be s ++ (hB G tr st ++ (hB G sn ss ++ (pW G p (rcQ q sz (thR s x1 x2)) (rcH hs sz s (thR s x1 x2)) (rcZ sz (thR s x1 x2)) ++ (sB G te ch ki fi se ln th ps ++ (bB G b true W vf ++ (bB G c false W2 vf2 ++ mB G mo (thS s x1 x2) sp2 (mcH hh ((sz : Int)) s (thR s x1 x2)) snm ch (((rcZ sz (thR s x1 x2) : Nat) : Int)) kp ln g8 g9 g10 g11 g12 g13))))))))) (app_c rfl (app_c rfl (app_c rfl (app_c rfl (app_c rfl (app_c rfl (app_c rfl (app_c rfl (app_c rfl (mB_c rfl rfl rfl rfl rfl (mc_rc sz _) rfl rfl rfl rfl rfl rfl rfl rfl)))))))))) ?_
  refine V.sub [0, 1, 2, 3] rfl ?_
  exact ih _ _ _ _ _ _ _ _ _ _ _ _ _ _ _ _ _ _ _ _ _ _ _ _ _ _ _ _ _ _ ⟨⟨hI.th _ _, hG.ge (GE.th _ _ _)⟩, h2, rcZ_b hsz _, hHR.rc hsz _, IG.rc hHI hsz h0 _, hS, hps, hth, hkp, hks, hst, h12, h13, hx, hy⟩

set_option maxHeartbeats 4000000 in
set_option maxRecDepth 100000 in
theorem lw_k3 {X : vX} {l : Launch} {G : vC} {nm : String} (hX : VS X l G (yLaw nm) cL_law room_1 8) {L : Nat} {xs : Nat → Int32} (bs : Nat) (o : Nat) (no : Nat → Nat) (be : Nat → Nat) (tr : Nat → Nat) (sn : Nat → Nat) (p : Nat → Nat) (te : Nat → Nat) (b : Nat → Nat) (c : Nat → Nat) (mo : Nat → Nat) (hL : LawS X bs L xs) (hLm : L ≤ 2560) (i : Int) (hi0 : 0 ≤ i) (hi5 : i + 5 ≤ L) (ih : LG X G 949 bs o no be tr sn p te b c mo i) : LG X G 283 bs o no be tr sn p te b c mo i := by
  intro s sb st ss q hs sz ch ki fi se ln th ps W vf W2 vf2 kp sN sE sp hh snm g8 g9 g10 g11 g12 g13 h
  obtain ⟨x1, e1, r1⟩ : ∃ z : Int, xs (i + 1).toNat = jI z ∧ iR z := ⟨_, (jI_as _).symm, jI_rng _⟩
  obtain ⟨x2, e2, r2⟩ : ∃ z : Int, xs (i + 2).toNat = jI z ∧ iR z := ⟨_, (jI_as _).symm, jI_rng _⟩
  obtain ⟨x3, e3, r3⟩ : ∃ z : Int, xs (i + 3).toNat = jI z ∧ iR z := ⟨_, (jI_as _).symm, jI_rng _⟩
  obtain ⟨x4, e4, r4⟩ : ∃ z : Int, xs (i + 4).toNat = jI z ∧ iR z := ⟨_, (jI_as _).symm, jI_rng _⟩
  obtain ⟨h0, h2, hsz, hHR, hHI, hS, hps, hth, hkp, hks, hst, h12, h13, hx, hy⟩ := h
  have hI := h0.1
  have hG := h0.2
  have hI2 := h2.1
  have hb := hI.base
  have h9 := h0.h9
  unfold lW
  refine V_aload_n hX dL_law_283 2 rfl ?_
  refine V_aload_n hX dL_law_284 3 rfl ?_
  refine V_iload_n hX dL_law_285 0 rfl ?_
  refine V_iconst hX dL_law_286 ?_
  refine V_iadd hX dL_law_287 rfl ?_
  refine V_sld hX hL (by omega) (by omega) (by omega) e1 dL_law_288 ?_
  refine V_aload_n hX dL_law_289 3 rfl ?_
  refine V_iload_n hX dL_law_290 0 rfl ?_
  refine V_iconst hX dL_law_291 ?_
  refine V_iadd hX dL_law_292 rfl ?_
  refine V_sld hX hL (by omega) (by omega) (by omega) e2 dL_law_293 ?_
  refine V_cV (st := []) (v := .int (jI (tcR s x1 x2))) (w' := oH o no be tr sn p te b c kp sN sE ++ (hB G no (tcS s x1 x2) ++ (hB G be s ++ (hB G tr st ++ (hB G sn ss ++ (pW G p (rcQ q sz (tcR s x1 x2)) (rcH hs sz s (tcR s x1 x2)) (rcZ sz (tcR s x1 x2)) ++ (sB G te ch ki fi se ln th ps ++ (bB G b true W vf ++ (bB G c false W2 vf2 ++ mB G mo s sp hh snm ch ((sz : Int)) kp ln g8 g9 g10 g11 g12 g13))))))))) hX wc_L_27 (c_X4_crow l G o no be tr sn p te b c kp sN sE s sb st ss q hs sz ch ki fi se ln th ps W vf W2 vf2 x1 x2 hI hsz (by omega) (by omega)) (by decide) (by decide) rfl rfl (Nat.le_of_ble_eq_true rfl) dL_law_294 [] (mB G mo s sp hh snm ch ((sz : Int)) kp ln g8 g9 g10 g11 g12 g13) (by simp only [List.append_assoc, List.nil_append, List.append_nil]) 0 rfl rfl (by simp only [List.append_assoc, List.nil_append, List.append_nil]) rfl rfl ?_
  refine V_aload_n hX dL_law_297 1 rfl ?_
  refine V_aload_n hX dL_law_298 3 rfl ?_
  refine V_iload_n hX dL_law_299 0 rfl ?_
  refine V_iconst hX dL_law_300 ?_
  refine V_iadd hX dL_law_301 rfl ?_
  refine V_sld hX hL (by omega) (by omega) (by omega) e1 dL_law_302 ?_
  refine V_aload_n hX dL_law_303 3 rfl ?_
  refine V_iload_n hX dL_law_304 0 rfl ?_
  refine V_iconst hX dL_law_305 ?_
  refine V_iadd hX dL_law_306 rfl ?_
  refine V_sld hX hL (by omega) (by omega) (by omega) e2 dL_law_307 ?_
  refine V_rV (st := [.int (jI (tcR s x1 x2))]) hX wc_L_30 (c_X5_crow l G mo s sp hh snm ch ((sz : Int)) kp ln g8 g9 g10 g11 g12 g13 99999 x1 x2 hI (by omega) (by omega) (by omega)) (by decide) (by decide) rfl rfl (Nat.le_of_ble_eq_true rfl) dL_law_308 (oH o no be tr sn p te b c kp sN sE ++ (hB G no (tcS s x1 x2) ++ (hB G be s ++ (hB G tr st ++ (hB G sn ss ++ (pW G p (rcQ q sz (tcR s x1 x2)) (rcH hs sz s (tcR s x1 x2)) (rcZ sz (tcR s x1 x2)) ++ (sB G te ch ki fi se ln th ps ++ (bB G b true W vf ++ bB G c false W2 vf2)))))))) ([]) (by simp only [List.append_assoc, List.nil_append, List.append_nil]) 102 rfl rfl (fun v_2 u_1 hp_3 => ?_)
  obtain ⟨rfl, sp2, rfl⟩ := hp_3
  refine V.wd (w' := oH o no be tr sn p te b c kp sN sE ++ (hB G no (tcS s x1 x2) ++ (hB G be s ++ (hB G tr st ++ (hB G sn ss ++ (pW G p (rcQ q sz (tcR s x1 x2)) (rcH hs sz s (tcR s x1 x2)) (rcZ sz (tcR s x1 x2)) ++ (sB G te ch ki fi se ln th ps ++ (bB G b true W vf ++ (bB G c false W2 vf2 ++ mB G mo (tcS s x1 x2) sp2 (mcH hh ((sz : Int)) s (tcR s x1 x2)) snm ch (mcZ ((sz : Int)) (tcR s x1 x2)) kp ln g8 g9 g10 g11 g12 g13))))))))) (by simp only [List.append_assoc, List.nil_append, List.append_nil]) ?_
  refine V_icmp_eqv (tgt := 949) hX dL_law_311 (by decide) rfl ?_
  refine V.wd (w' := oH o no be tr sn p te b c kp sN sE ++ (hB G no (tcS s x1 x2) ++ (hB G be s ++ (hB G tr st ++ (hB G sn ss ++ (pW G p (rcQ q sz (tcR s x1 x2)) (rcH hs sz s (tcR s x1 x2)) (rcZ sz (tcR s x1 x2)) ++ (sB G te ch ki fi se ln th ps ++ (bB G b true W vf ++ (bB G c false W2 vf2 ++ mB G mo (tcS s x1 x2) sp2 (mcH hh ((sz : Int)) s (tcR s x1 x2)) snm ch (((rcZ sz (tcR s x1 x2) : Nat) : Int)) kp ln g8 g9 g10 g11 g12 g13))))))))) (app_c rfl (app_c rfl (app_c rfl (app_c rfl (app_c rfl (app_c rfl (app_c rfl (app_c rfl (app_c rfl (mB_c rfl rfl rfl rfl rfl (mc_rc sz _) rfl rfl rfl rfl rfl rfl rfl rfl)))))))))) ?_
  refine V.sub [0, 1, 2, 3] rfl ?_
  exact ih _ _ _ _ _ _ _ _ _ _ _ _ _ _ _ _ _ _ _ _ _ _ _ _ _ _ _ _ _ _ ⟨⟨hI.tc _ _, hG.ge (GE.tc _ _ _)⟩, h2, rcZ_b hsz _, hHR.rc hsz _, IG.rc hHI hsz h0 _, hS, hps, hth, hkp, hks, hst, h12, h13, hx, hy⟩

set_option maxHeartbeats 4000000 in
set_option maxRecDepth 100000 in
theorem lw_k4 {X : vX} {l : Launch} {G : vC} {nm : String} (hX : VS X l G (yLaw nm) cL_law room_1 8) {L : Nat} {xs : Nat → Int32} (bs : Nat) (o : Nat) (no : Nat → Nat) (be : Nat → Nat) (tr : Nat → Nat) (sn : Nat → Nat) (p : Nat → Nat) (te : Nat → Nat) (b : Nat → Nat) (c : Nat → Nat) (mo : Nat → Nat) (hL : LawS X bs L xs) (hLm : L ≤ 2560) (i : Int) (hi0 : 0 ≤ i) (hi5 : i + 5 ≤ L) (ih : LG X G 949 bs o no be tr sn p te b c mo i) : LG X G 316 bs o no be tr sn p te b c mo i := by
  intro s sb st ss q hs sz ch ki fi se ln th ps W vf W2 vf2 kp sN sE sp hh snm g8 g9 g10 g11 g12 g13 h
  obtain ⟨x1, e1, r1⟩ : ∃ z : Int, xs (i + 1).toNat = jI z ∧ iR z := ⟨_, (jI_as _).symm, jI_rng _⟩
  obtain ⟨x2, e2, r2⟩ : ∃ z : Int, xs (i + 2).toNat = jI z ∧ iR z := ⟨_, (jI_as _).symm, jI_rng _⟩
  obtain ⟨x3, e3, r3⟩ : ∃ z : Int, xs (i + 3).toNat = jI z ∧ iR z := ⟨_, (jI_as _).symm, jI_rng _⟩
  obtain ⟨x4, e4, r4⟩ : ∃ z : Int, xs (i + 4).toNat = jI z ∧ iR z := ⟨_, (jI_as _).symm, jI_rng _⟩
  obtain ⟨h0, h2, hsz, hHR, hHI, hS, hps, hth, hkp, hks, hst, h12, h13, hx, hy⟩ := h
  have hI := h0.1
  have hG := h0.2
  have hI2 := h2.1
  have hb := hI.base
  have h9 := h0.h9
  unfold lW
  refine V_aload_n hX dL_law_316 2 rfl ?_
  refine V_aload_n hX dL_law_317 3 rfl ?_
  refine V_iload_n hX dL_law_318 0 rfl ?_
  refine V_iconst hX dL_law_319 ?_
  refine V_iadd hX dL_law_320 rfl ?_
  refine V_sld hX hL (by omega) (by omega) (by omega) e1 dL_law_321 ?_
  refine V_cV (st := []) (v := .int (jI (soR s x1))) (w' := oH o no be tr sn p te b c kp sN sE ++ (hB G no (soS s x1) ++ (hB G be s ++ (hB G tr st ++ (hB G sn ss ++ (pW G p (rcQ q sz (soR s x1)) (rcH hs sz s (soR s x1)) (rcZ sz (soR s x1)) ++ (sB G te ch ki fi se ln th ps ++ (bB G b true W vf ++ (bB G c false W2 vf2 ++ mB G mo s sp hh snm ch ((sz : Int)) kp ln g8 g9 g10 g11 g12 g13))))))))) hX wc_L_31 (c_X4_scare l G o no be tr sn p te b c kp sN sE s sb st ss q hs sz ch ki fi se ln th ps W vf W2 vf2 x1 hI hsz (by omega)) (by decide) (by decide) rfl rfl (Nat.le_of_ble_eq_true rfl) dL_law_322 [] (mB G mo s sp hh snm ch ((sz : Int)) kp ln g8 g9 g10 g11 g12 g13) (by simp only [List.append_assoc, List.nil_append, List.append_nil]) 0 rfl rfl (by simp only [List.append_assoc, List.nil_append, List.append_nil]) rfl rfl ?_
  refine V_aload_n hX dL_law_325 1 rfl ?_
  refine V_aload_n hX dL_law_326 3 rfl ?_
  refine V_iload_n hX dL_law_327 0 rfl ?_
  refine V_iconst hX dL_law_328 ?_
  refine V_iadd hX dL_law_329 rfl ?_
  refine V_sld hX hL (by omega) (by omega) (by omega) e1 dL_law_330 ?_
  refine V_rV (st := [.int (jI (soR s x1))]) hX wc_L_35 (c_X5_scare l G mo s sp hh snm ch ((sz : Int)) kp ln g8 g9 g10 g11 g12 g13 99999 x1 hI (by omega) (by omega)) (by decide) (by decide) rfl rfl (Nat.le_of_ble_eq_true rfl) dL_law_331 (oH o no be tr sn p te b c kp sN sE ++ (hB G no (soS s x1) ++ (hB G be s ++ (hB G tr st ++ (hB G sn ss ++ (pW G p (rcQ q sz (soR s x1)) (rcH hs sz s (soR s x1)) (rcZ sz (soR s x1)) ++ (sB G te ch ki fi se ln th ps ++ (bB G b true W vf ++ bB G c false W2 vf2)))))))) ([]) (by simp only [List.append_assoc, List.nil_append, List.append_nil]) 102 rfl rfl (fun v_2 u_1 hp_3 => ?_)
  obtain ⟨rfl, sp2, rfl⟩ := hp_3
  refine V.wd (w' := oH o no be tr sn p te b c kp sN sE ++ (hB G no (soS s x1) ++ (hB G be s ++ (hB G tr st ++ (hB G sn ss ++ (pW G p (rcQ q sz (soR s x1)) (rcH hs sz s (soR s x1)) (rcZ sz (soR s x1)) ++ (sB G te ch ki fi se ln th ps ++ (bB G b true W vf ++ (bB G c false W2 vf2 ++ mB G mo (soS s x1) sp2 (mcH hh ((sz : Int)) s (soR s x1)) snm ch (mcZ ((sz : Int)) (soR s x1)) kp ln g8 g9 g10 g11 g12 g13))))))))) (by simp only [List.append_assoc, List.nil_append, List.append_nil]) ?_
  refine V_icmp_eqv (tgt := 949) hX dL_law_334 (by decide) rfl ?_
  refine V.wd (w' := oH o no be tr sn p te b c kp sN sE ++ (hB G no (soS s x1) ++ (hB G be s ++ (hB G tr st ++ (hB G sn ss ++ (pW G p (rcQ q sz (soR s x1)) (rcH hs sz s (soR s x1)) (rcZ sz (soR s x1)) ++ (sB G te ch ki fi se ln th ps ++ (bB G b true W vf ++ (bB G c false W2 vf2 ++ mB G mo (soS s x1) sp2 (mcH hh ((sz : Int)) s (soR s x1)) snm ch (((rcZ sz (soR s x1) : Nat) : Int)) kp ln g8 g9 g10 g11 g12 g13))))))))) (app_c rfl (app_c rfl (app_c rfl (app_c rfl (app_c rfl (app_c rfl (app_c rfl (app_c rfl (app_c rfl (mB_c rfl rfl rfl rfl rfl (mc_rc sz _) rfl rfl rfl rfl rfl rfl rfl rfl)))))))))) ?_
  refine V.sub [0, 1, 2, 3] rfl ?_
  exact ih _ _ _ _ _ _ _ _ _ _ _ _ _ _ _ _ _ _ _ _ _ _ _ _ _ _ _ _ _ _ ⟨⟨hI.so _, hG.ge (GE.so _ _)⟩, h2, rcZ_b hsz _, hHR.rc hsz _, IG.rc hHI hsz h0 _, hS, hps, hth, hkp, hks, hst, h12, h13, hx, hy⟩

set_option maxHeartbeats 4000000 in
set_option maxRecDepth 100000 in
theorem lw_k5 {X : vX} {l : Launch} {G : vC} {nm : String} (hX : VS X l G (yLaw nm) cL_law room_1 8) {L : Nat} {xs : Nat → Int32} (bs : Nat) (o : Nat) (no : Nat → Nat) (be : Nat → Nat) (tr : Nat → Nat) (sn : Nat → Nat) (p : Nat → Nat) (te : Nat → Nat) (b : Nat → Nat) (c : Nat → Nat) (mo : Nat → Nat) (hL : LawS X bs L xs) (hLm : L ≤ 2560) (i : Int) (hi0 : 0 ≤ i) (hi5 : i + 5 ≤ L) (ih : LG X G 949 bs o no be tr sn p te b c mo i) : LG X G 339 bs o no be tr sn p te b c mo i := by
  intro s sb st ss q hs sz ch ki fi se ln th ps W vf W2 vf2 kp sN sE sp hh snm g8 g9 g10 g11 g12 g13 h
  obtain ⟨x1, e1, r1⟩ : ∃ z : Int, xs (i + 1).toNat = jI z ∧ iR z := ⟨_, (jI_as _).symm, jI_rng _⟩
  obtain ⟨x2, e2, r2⟩ : ∃ z : Int, xs (i + 2).toNat = jI z ∧ iR z := ⟨_, (jI_as _).symm, jI_rng _⟩
  obtain ⟨x3, e3, r3⟩ : ∃ z : Int, xs (i + 3).toNat = jI z ∧ iR z := ⟨_, (jI_as _).symm, jI_rng _⟩
  obtain ⟨x4, e4, r4⟩ : ∃ z : Int, xs (i + 4).toNat = jI z ∧ iR z := ⟨_, (jI_as _).symm, jI_rng _⟩
  obtain ⟨h0, h2, hsz, hHR, hHI, hS, hps, hth, hkp, hks, hst, h12, h13, hx, hy⟩ := h
  have hI := h0.1
  have hG := h0.2
  have hI2 := h2.1
  have hb := hI.base
  have h9 := h0.h9
  unfold lW
  refine V_aload_n hX dL_law_339 2 rfl ?_
  refine V_aload_n hX dL_law_340 3 rfl ?_
  refine V_iload_n hX dL_law_341 0 rfl ?_
  refine V_iconst hX dL_law_342 ?_
  refine V_iadd hX dL_law_343 rfl ?_
  refine V_sld hX hL (by omega) (by omega) (by omega) e1 dL_law_344 ?_
  refine V_aload_n hX dL_law_345 3 rfl ?_
  refine V_iload_n hX dL_law_346 0 rfl ?_
  refine V_iconst hX dL_law_347 ?_
  refine V_iadd hX dL_law_348 rfl ?_
  refine V_sld hX hL (by omega) (by omega) (by omega) e2 dL_law_349 ?_
  refine V_cV (st := []) (v := .int (jI (stR s x1 x2))) (w' := oH o no be tr sn p te b c kp sN sE ++ (hB G no (stS s x1 x2) ++ (hB G be s ++ (hB G tr st ++ (hB G sn ss ++ (pW G p (rcQ q sz (stR s x1 x2)) (rcH hs sz s (stR s x1 x2)) (rcZ sz (stR s x1 x2)) ++ (sB G te ch ki fi se ln th ps ++ (bB G b true W vf ++ (bB G c false W2 vf2 ++ mB G mo s sp hh snm ch ((sz : Int)) kp ln g8 g9 g10 g11 g12 g13))))))))) hX wc_L_36 (c_X4_fill l G o no be tr sn p te b c kp sN sE s sb st ss q hs sz ch ki fi se ln th ps W vf W2 vf2 x1 x2 hI hsz (by omega) (by omega)) (by decide) (by decide) rfl rfl (Nat.le_of_ble_eq_true rfl) dL_law_350 [] (mB G mo s sp hh snm ch ((sz : Int)) kp ln g8 g9 g10 g11 g12 g13) (by simp only [List.append_assoc, List.nil_append, List.append_nil]) 0 rfl rfl (by simp only [List.append_assoc, List.nil_append, List.append_nil]) rfl rfl ?_
  refine V_aload_n hX dL_law_353 1 rfl ?_
  refine V_aload_n hX dL_law_354 3 rfl ?_
  refine V_iload_n hX dL_law_355 0 rfl ?_
  refine V_iconst hX dL_law_356 ?_
  refine V_iadd hX dL_law_357 rfl ?_
  refine V_sld hX hL (by omega) (by omega) (by omega) e1 dL_law_358 ?_
  refine V_aload_n hX dL_law_359 3 rfl ?_
  refine V_iload_n hX dL_law_360 0 rfl ?_
  refine V_iconst hX dL_law_361 ?_
  refine V_iadd hX dL_law_362 rfl ?_
  refine V_sld hX hL (by omega) (by omega) (by omega) e2 dL_law_363 ?_
  refine V_rV (st := [.int (jI (stR s x1 x2))]) hX wc_L_39 (c_X5_fill l G mo s sp hh snm ch ((sz : Int)) kp ln g8 g9 g10 g11 g12 g13 99999 x1 x2 hI (by omega) (by omega) (by omega)) (by decide) (by decide) rfl rfl (Nat.le_of_ble_eq_true rfl) dL_law_364 (oH o no be tr sn p te b c kp sN sE ++ (hB G no (stS s x1 x2) ++ (hB G be s ++ (hB G tr st ++ (hB G sn ss ++ (pW G p (rcQ q sz (stR s x1 x2)) (rcH hs sz s (stR s x1 x2)) (rcZ sz (stR s x1 x2)) ++ (sB G te ch ki fi se ln th ps ++ (bB G b true W vf ++ bB G c false W2 vf2)))))))) ([]) (by simp only [List.append_assoc, List.nil_append, List.append_nil]) 102 rfl rfl (fun v_2 u_1 hp_3 => ?_)
  obtain ⟨rfl, sp2, rfl⟩ := hp_3
  refine V.wd (w' := oH o no be tr sn p te b c kp sN sE ++ (hB G no (stS s x1 x2) ++ (hB G be s ++ (hB G tr st ++ (hB G sn ss ++ (pW G p (rcQ q sz (stR s x1 x2)) (rcH hs sz s (stR s x1 x2)) (rcZ sz (stR s x1 x2)) ++ (sB G te ch ki fi se ln th ps ++ (bB G b true W vf ++ (bB G c false W2 vf2 ++ mB G mo (stS s x1 x2) sp2 (mcH hh ((sz : Int)) s (stR s x1 x2)) snm ch (mcZ ((sz : Int)) (stR s x1 x2)) kp ln g8 g9 g10 g11 g12 g13))))))))) (by simp only [List.append_assoc, List.nil_append, List.append_nil]) ?_
  refine V_icmp_eqv (tgt := 949) hX dL_law_367 (by decide) rfl ?_
  refine V.wd (w' := oH o no be tr sn p te b c kp sN sE ++ (hB G no (stS s x1 x2) ++ (hB G be s ++ (hB G tr st ++ (hB G sn ss ++ (pW G p (rcQ q sz (stR s x1 x2)) (rcH hs sz s (stR s x1 x2)) (rcZ sz (stR s x1 x2)) ++ (sB G te ch ki fi se ln th ps ++ (bB G b true W vf ++ (bB G c false W2 vf2 ++ mB G mo (stS s x1 x2) sp2 (mcH hh ((sz : Int)) s (stR s x1 x2)) snm ch (((rcZ sz (stR s x1 x2) : Nat) : Int)) kp ln g8 g9 g10 g11 g12 g13))))))))) (app_c rfl (app_c rfl (app_c rfl (app_c rfl (app_c rfl (app_c rfl (app_c rfl (app_c rfl (app_c rfl (mB_c rfl rfl rfl rfl rfl (mc_rc sz _) rfl rfl rfl rfl rfl rfl rfl rfl)))))))))) ?_
  refine V.sub [0, 1, 2, 3] rfl ?_
  exact ih _ _ _ _ _ _ _ _ _ _ _ _ _ _ _ _ _ _ _ _ _ _ _ _ _ _ _ _ _ _ ⟨⟨hI.stf _ _, hG.ge (GE.st _ _ _)⟩, h2, rcZ_b hsz _, hHR.rc hsz _, IG.rc hHI hsz h0 _, hS, hps, hth, hkp, hks, hst, h12, h13, hx, hy⟩

set_option maxHeartbeats 4000000 in
set_option maxRecDepth 100000 in
theorem lw_k6 {X : vX} {l : Launch} {G : vC} {nm : String} (hX : VS X l G (yLaw nm) cL_law room_1 8) {L : Nat} {xs : Nat → Int32} (bs : Nat) (o : Nat) (no : Nat → Nat) (be : Nat → Nat) (tr : Nat → Nat) (sn : Nat → Nat) (p : Nat → Nat) (te : Nat → Nat) (b : Nat → Nat) (c : Nat → Nat) (mo : Nat → Nat) (hL : LawS X bs L xs) (hLm : L ≤ 2560) (i : Int) (hi0 : 0 ≤ i) (hi5 : i + 5 ≤ L) (ih : LG X G 949 bs o no be tr sn p te b c mo i) : LG X G 372 bs o no be tr sn p te b c mo i := by
  intro s sb st ss q hs sz ch ki fi se ln th ps W vf W2 vf2 kp sN sE sp hh snm g8 g9 g10 g11 g12 g13 h
  obtain ⟨x1, e1, r1⟩ : ∃ z : Int, xs (i + 1).toNat = jI z ∧ iR z := ⟨_, (jI_as _).symm, jI_rng _⟩
  obtain ⟨x2, e2, r2⟩ : ∃ z : Int, xs (i + 2).toNat = jI z ∧ iR z := ⟨_, (jI_as _).symm, jI_rng _⟩
  obtain ⟨x3, e3, r3⟩ : ∃ z : Int, xs (i + 3).toNat = jI z ∧ iR z := ⟨_, (jI_as _).symm, jI_rng _⟩
  obtain ⟨x4, e4, r4⟩ : ∃ z : Int, xs (i + 4).toNat = jI z ∧ iR z := ⟨_, (jI_as _).symm, jI_rng _⟩
  obtain ⟨h0, h2, hsz, hHR, hHI, hS, hps, hth, hkp, hks, hst, h12, h13, hx, hy⟩ := h
  have hI := h0.1
  have hG := h0.2
  have hI2 := h2.1
  have hb := hI.base
  have h9 := h0.h9
  unfold lW
  refine V_aload_n hX dL_law_372 2 rfl ?_
  refine V_aload_n hX dL_law_373 3 rfl ?_
  refine V_iload_n hX dL_law_374 0 rfl ?_
  refine V_iconst hX dL_law_375 ?_
  refine V_iadd hX dL_law_376 rfl ?_
  refine V_sld hX hL (by omega) (by omega) (by omega) e1 dL_law_377 ?_
  refine V_aload_n hX dL_law_378 3 rfl ?_
  refine V_iload_n hX dL_law_379 0 rfl ?_
  refine V_iconst hX dL_law_380 ?_
  refine V_iadd hX dL_law_381 rfl ?_
  refine V_sld hX hL (by omega) (by omega) (by omega) e2 dL_law_382 ?_
  refine V_cV (st := []) (v := .int (jI (gsR s x1 x2))) (w' := oH o no be tr sn p te b c kp sN sE ++ (hB G no (gsS s x1 x2) ++ (hB G be s ++ (hB G tr st ++ (hB G sn ss ++ (pW G p (rcQ q sz (gsR s x1 x2)) (rcH hs sz s (gsR s x1 x2)) (rcZ sz (gsR s x1 x2)) ++ (sB G te ch ki fi se ln th ps ++ (bB G b true W vf ++ (bB G c false W2 vf2 ++ mB G mo s sp hh snm ch ((sz : Int)) kp ln g8 g9 g10 g11 g12 g13))))))))) hX wc_L_40 (c_X4_seats l G o no be tr sn p te b c kp sN sE s sb st ss q hs sz ch ki fi se ln th ps W vf W2 vf2 x1 x2 hI hsz (by omega) (by omega)) (by decide) (by decide) rfl rfl (Nat.le_of_ble_eq_true rfl) dL_law_383 [] (mB G mo s sp hh snm ch ((sz : Int)) kp ln g8 g9 g10 g11 g12 g13) (by simp only [List.append_assoc, List.nil_append, List.append_nil]) 0 rfl rfl (by simp only [List.append_assoc, List.nil_append, List.append_nil]) rfl rfl ?_
  refine V_aload_n hX dL_law_386 1 rfl ?_
  refine V_aload_n hX dL_law_387 3 rfl ?_
  refine V_iload_n hX dL_law_388 0 rfl ?_
  refine V_iconst hX dL_law_389 ?_
  refine V_iadd hX dL_law_390 rfl ?_
  refine V_sld hX hL (by omega) (by omega) (by omega) e1 dL_law_391 ?_
  refine V_aload_n hX dL_law_392 3 rfl ?_
  refine V_iload_n hX dL_law_393 0 rfl ?_
  refine V_iconst hX dL_law_394 ?_
  refine V_iadd hX dL_law_395 rfl ?_
  refine V_sld hX hL (by omega) (by omega) (by omega) e2 dL_law_396 ?_
  refine V_rV (st := [.int (jI (gsR s x1 x2))]) hX wc_L_43 (c_X5_seats l G mo s sp hh snm ch ((sz : Int)) kp ln g8 g9 g10 g11 g12 g13 99999 x1 x2 hI (by omega) (by omega) (by omega)) (by decide) (by decide) rfl rfl (Nat.le_of_ble_eq_true rfl) dL_law_397 (oH o no be tr sn p te b c kp sN sE ++ (hB G no (gsS s x1 x2) ++ (hB G be s ++ (hB G tr st ++ (hB G sn ss ++ (pW G p (rcQ q sz (gsR s x1 x2)) (rcH hs sz s (gsR s x1 x2)) (rcZ sz (gsR s x1 x2)) ++ (sB G te ch ki fi se ln th ps ++ (bB G b true W vf ++ bB G c false W2 vf2)))))))) ([]) (by simp only [List.append_assoc, List.nil_append, List.append_nil]) 102 rfl rfl (fun v_2 u_1 hp_3 => ?_)
  obtain ⟨rfl, sp2, rfl⟩ := hp_3
  refine V.wd (w' := oH o no be tr sn p te b c kp sN sE ++ (hB G no (gsS s x1 x2) ++ (hB G be s ++ (hB G tr st ++ (hB G sn ss ++ (pW G p (rcQ q sz (gsR s x1 x2)) (rcH hs sz s (gsR s x1 x2)) (rcZ sz (gsR s x1 x2)) ++ (sB G te ch ki fi se ln th ps ++ (bB G b true W vf ++ (bB G c false W2 vf2 ++ mB G mo (gsS s x1 x2) sp2 (mcH hh ((sz : Int)) s (gsR s x1 x2)) snm ch (mcZ ((sz : Int)) (gsR s x1 x2)) kp ln g8 g9 g10 g11 g12 g13))))))))) (by simp only [List.append_assoc, List.nil_append, List.append_nil]) ?_
  refine V_icmp_eqv (tgt := 949) hX dL_law_400 (by decide) rfl ?_
  refine V.wd (w' := oH o no be tr sn p te b c kp sN sE ++ (hB G no (gsS s x1 x2) ++ (hB G be s ++ (hB G tr st ++ (hB G sn ss ++ (pW G p (rcQ q sz (gsR s x1 x2)) (rcH hs sz s (gsR s x1 x2)) (rcZ sz (gsR s x1 x2)) ++ (sB G te ch ki fi se ln th ps ++ (bB G b true W vf ++ (bB G c false W2 vf2 ++ mB G mo (gsS s x1 x2) sp2 (mcH hh ((sz : Int)) s (gsR s x1 x2)) snm ch (((rcZ sz (gsR s x1 x2) : Nat) : Int)) kp ln g8 g9 g10 g11 g12 g13))))))))) (app_c rfl (app_c rfl (app_c rfl (app_c rfl (app_c rfl (app_c rfl (app_c rfl (app_c rfl (app_c rfl (mB_c rfl rfl rfl rfl rfl (mc_rc sz _) rfl rfl rfl rfl rfl rfl rfl rfl)))))))))) ?_
  refine V.sub [0, 1, 2, 3] rfl ?_
  exact ih _ _ _ _ _ _ _ _ _ _ _ _ _ _ _ _ _ _ _ _ _ _ _ _ _ _ _ _ _ _ ⟨⟨hI.gs _ _, hG.ge (GE.gs _ _ _)⟩, h2, rcZ_b hsz _, hHR.rc hsz _, IG.rc hHI hsz h0 _, hS, hps, hth, hkp, hks, hst, h12, h13, hx, hy⟩

set_option maxHeartbeats 4000000 in
set_option maxRecDepth 100000 in
theorem lw_k7 {X : vX} {l : Launch} {G : vC} {nm : String} (hX : VS X l G (yLaw nm) cL_law room_1 8) {L : Nat} {xs : Nat → Int32} (bs : Nat) (o : Nat) (no : Nat → Nat) (be : Nat → Nat) (tr : Nat → Nat) (sn : Nat → Nat) (p : Nat → Nat) (te : Nat → Nat) (b : Nat → Nat) (c : Nat → Nat) (mo : Nat → Nat) (hL : LawS X bs L xs) (hLm : L ≤ 2560) (i : Int) (hi0 : 0 ≤ i) (hi5 : i + 5 ≤ L) (ih : LG X G 949 bs o no be tr sn p te b c mo i) : LG X G 405 bs o no be tr sn p te b c mo i := by
  intro s sb st ss q hs sz ch ki fi se ln th ps W vf W2 vf2 kp sN sE sp hh snm g8 g9 g10 g11 g12 g13 h
  obtain ⟨x1, e1, r1⟩ : ∃ z : Int, xs (i + 1).toNat = jI z ∧ iR z := ⟨_, (jI_as _).symm, jI_rng _⟩
  obtain ⟨x2, e2, r2⟩ : ∃ z : Int, xs (i + 2).toNat = jI z ∧ iR z := ⟨_, (jI_as _).symm, jI_rng _⟩
  obtain ⟨x3, e3, r3⟩ : ∃ z : Int, xs (i + 3).toNat = jI z ∧ iR z := ⟨_, (jI_as _).symm, jI_rng _⟩
  obtain ⟨x4, e4, r4⟩ : ∃ z : Int, xs (i + 4).toNat = jI z ∧ iR z := ⟨_, (jI_as _).symm, jI_rng _⟩
  obtain ⟨h0, h2, hsz, hHR, hHI, hS, hps, hth, hkp, hks, hst, h12, h13, hx, hy⟩ := h
  have hI := h0.1
  have hG := h0.2
  have hI2 := h2.1
  have hb := hI.base
  have h9 := h0.h9
  unfold lW
  refine V_aload_n hX dL_law_405 2 rfl ?_
  refine V_aload_n hX dL_law_406 3 rfl ?_
  refine V_iload_n hX dL_law_407 0 rfl ?_
  refine V_iconst hX dL_law_408 ?_
  refine V_iadd hX dL_law_409 rfl ?_
  refine V_sld hX hL (by omega) (by omega) (by omega) e1 dL_law_410 ?_
  refine V_aload_n hX dL_law_411 3 rfl ?_
  refine V_iload_n hX dL_law_412 0 rfl ?_
  refine V_iconst hX dL_law_413 ?_
  refine V_iadd hX dL_law_414 rfl ?_
  refine V_sld hX hL (by omega) (by omega) (by omega) e2 dL_law_415 ?_
  refine V_cV (st := []) (v := .int (jI (blR s x1 x2))) (w' := oH o no be tr sn p te b c kp sN sE ++ (hB G no (blS s x1 x2) ++ (hB G be s ++ (hB G tr st ++ (hB G sn ss ++ (pW G p (rcQ q sz (blR s x1 x2)) (rcH hs sz s (blR s x1 x2)) (rcZ sz (blR s x1 x2)) ++ (sB G te ch ki fi se ln th ps ++ (bB G b true W vf ++ (bB G c false W2 vf2 ++ mB G mo s sp hh snm ch ((sz : Int)) kp ln g8 g9 g10 g11 g12 g13))))))))) hX wc_L_44 (c_X4_wind l G o no be tr sn p te b c kp sN sE s sb st ss q hs sz ch ki fi se ln th ps W vf W2 vf2 x1 x2 hI hsz (by omega) (by omega)) (by decide) (by decide) rfl rfl (Nat.le_of_ble_eq_true rfl) dL_law_416 [] (mB G mo s sp hh snm ch ((sz : Int)) kp ln g8 g9 g10 g11 g12 g13) (by simp only [List.append_assoc, List.nil_append, List.append_nil]) 0 rfl rfl (by simp only [List.append_assoc, List.nil_append, List.append_nil]) rfl rfl ?_
  refine V_aload_n hX dL_law_419 1 rfl ?_
  refine V_aload_n hX dL_law_420 3 rfl ?_
  refine V_iload_n hX dL_law_421 0 rfl ?_
  refine V_iconst hX dL_law_422 ?_
  refine V_iadd hX dL_law_423 rfl ?_
  refine V_sld hX hL (by omega) (by omega) (by omega) e1 dL_law_424 ?_
  refine V_aload_n hX dL_law_425 3 rfl ?_
  refine V_iload_n hX dL_law_426 0 rfl ?_
  refine V_iconst hX dL_law_427 ?_
  refine V_iadd hX dL_law_428 rfl ?_
  refine V_sld hX hL (by omega) (by omega) (by omega) e2 dL_law_429 ?_
  refine V_rV (st := [.int (jI (blR s x1 x2))]) hX wc_L_47 (c_X5_wind l G mo s sp hh snm ch ((sz : Int)) kp ln g8 g9 g10 g11 g12 g13 99999 x1 x2 hI (by omega) (by omega) (by omega)) (by decide) (by decide) rfl rfl (Nat.le_of_ble_eq_true rfl) dL_law_430 (oH o no be tr sn p te b c kp sN sE ++ (hB G no (blS s x1 x2) ++ (hB G be s ++ (hB G tr st ++ (hB G sn ss ++ (pW G p (rcQ q sz (blR s x1 x2)) (rcH hs sz s (blR s x1 x2)) (rcZ sz (blR s x1 x2)) ++ (sB G te ch ki fi se ln th ps ++ (bB G b true W vf ++ bB G c false W2 vf2)))))))) ([]) (by simp only [List.append_assoc, List.nil_append, List.append_nil]) 102 rfl rfl (fun v_2 u_1 hp_3 => ?_)
  obtain ⟨rfl, sp2, rfl⟩ := hp_3
  refine V.wd (w' := oH o no be tr sn p te b c kp sN sE ++ (hB G no (blS s x1 x2) ++ (hB G be s ++ (hB G tr st ++ (hB G sn ss ++ (pW G p (rcQ q sz (blR s x1 x2)) (rcH hs sz s (blR s x1 x2)) (rcZ sz (blR s x1 x2)) ++ (sB G te ch ki fi se ln th ps ++ (bB G b true W vf ++ (bB G c false W2 vf2 ++ mB G mo (blS s x1 x2) sp2 (mcH hh ((sz : Int)) s (blR s x1 x2)) snm ch (mcZ ((sz : Int)) (blR s x1 x2)) kp ln g8 g9 g10 g11 g12 g13))))))))) (by simp only [List.append_assoc, List.nil_append, List.append_nil]) ?_
  refine V_icmp_eqv (tgt := 949) hX dL_law_433 (by decide) rfl ?_
  refine V.wd (w' := oH o no be tr sn p te b c kp sN sE ++ (hB G no (blS s x1 x2) ++ (hB G be s ++ (hB G tr st ++ (hB G sn ss ++ (pW G p (rcQ q sz (blR s x1 x2)) (rcH hs sz s (blR s x1 x2)) (rcZ sz (blR s x1 x2)) ++ (sB G te ch ki fi se ln th ps ++ (bB G b true W vf ++ (bB G c false W2 vf2 ++ mB G mo (blS s x1 x2) sp2 (mcH hh ((sz : Int)) s (blR s x1 x2)) snm ch (((rcZ sz (blR s x1 x2) : Nat) : Int)) kp ln g8 g9 g10 g11 g12 g13))))))))) (app_c rfl (app_c rfl (app_c rfl (app_c rfl (app_c rfl (app_c rfl (app_c rfl (app_c rfl (app_c rfl (mB_c rfl rfl rfl rfl rfl (mc_rc sz _) rfl rfl rfl rfl rfl rfl rfl rfl)))))))))) ?_
  refine V.sub [0, 1, 2, 3] rfl ?_
  exact ih _ _ _ _ _ _ _ _ _ _ _ _ _ _ _ _ _ _ _ _ _ _ _ _ _ _ _ _ _ _ ⟨⟨hI.bl _ _, hG.ge (GE.bl _ _ _)⟩, h2, rcZ_b hsz _, hHR.rc hsz _, IG.rc hHI hsz h0 _, hS, hps, hth, hkp, hks, hst, h12, h13, hx, hy⟩

set_option maxHeartbeats 4000000 in
set_option maxRecDepth 100000 in
theorem lw_k8 {X : vX} {l : Launch} {G : vC} {nm : String} (hX : VS X l G (yLaw nm) cL_law room_1 8) {L : Nat} {xs : Nat → Int32} (bs : Nat) (o : Nat) (no : Nat → Nat) (be : Nat → Nat) (tr : Nat → Nat) (sn : Nat → Nat) (p : Nat → Nat) (te : Nat → Nat) (b : Nat → Nat) (c : Nat → Nat) (mo : Nat → Nat) (hL : LawS X bs L xs) (hLm : L ≤ 2560) (i : Int) (hi0 : 0 ≤ i) (hi5 : i + 5 ≤ L) (ih : LG X G 949 bs o no be tr sn p te b c mo i) : LG X G 438 bs o no be tr sn p te b c mo i := by
  intro s sb st ss q hs sz ch ki fi se ln th ps W vf W2 vf2 kp sN sE sp hh snm g8 g9 g10 g11 g12 g13 h
  obtain ⟨x1, e1, r1⟩ : ∃ z : Int, xs (i + 1).toNat = jI z ∧ iR z := ⟨_, (jI_as _).symm, jI_rng _⟩
  obtain ⟨x2, e2, r2⟩ : ∃ z : Int, xs (i + 2).toNat = jI z ∧ iR z := ⟨_, (jI_as _).symm, jI_rng _⟩
  obtain ⟨x3, e3, r3⟩ : ∃ z : Int, xs (i + 3).toNat = jI z ∧ iR z := ⟨_, (jI_as _).symm, jI_rng _⟩
  obtain ⟨x4, e4, r4⟩ : ∃ z : Int, xs (i + 4).toNat = jI z ∧ iR z := ⟨_, (jI_as _).symm, jI_rng _⟩
  obtain ⟨h0, h2, hsz, hHR, hHI, hS, hps, hth, hkp, hks, hst, h12, h13, hx, hy⟩ := h
  have hI := h0.1
  have hG := h0.2
  have hI2 := h2.1
  have hb := hI.base
  have h9 := h0.h9
  unfold lW
  refine V_aload_n hX dL_law_438 2 rfl ?_
  refine V_aload_n hX dL_law_439 3 rfl ?_
  refine V_iload_n hX dL_law_440 0 rfl ?_
  refine V_iconst hX dL_law_441 ?_
  refine V_iadd hX dL_law_442 rfl ?_
  refine V_sld hX hL (by omega) (by omega) (by omega) e1 dL_law_443 ?_
  refine V_aload_n hX dL_law_444 3 rfl ?_
  refine V_iload_n hX dL_law_445 0 rfl ?_
  refine V_iconst hX dL_law_446 ?_
  refine V_iadd hX dL_law_447 rfl ?_
  refine V_sld hX hL (by omega) (by omega) (by omega) e2 dL_law_448 ?_
  refine V_cV (st := []) (v := .int (jI (adR s x1 x2))) (w' := oH o no be tr sn p te b c kp sN sE ++ (hB G no (adS s x1 x2) ++ (hB G be s ++ (hB G tr st ++ (hB G sn ss ++ (pW G p (rcQ q sz (adR s x1 x2)) (rcH hs sz s (adR s x1 x2)) (rcZ sz (adR s x1 x2)) ++ (sB G te ch ki fi se ln th ps ++ (bB G b true W vf ++ (bB G c false W2 vf2 ++ mB G mo s sp hh snm ch ((sz : Int)) kp ln g8 g9 g10 g11 g12 g13))))))))) hX wc_L_48 (c_X4_set l G o no be tr sn p te b c kp sN sE s sb st ss q hs sz ch ki fi se ln th ps W vf W2 vf2 x1 x2 hI hsz (by omega) (by omega)) (by decide) (by decide) rfl rfl (Nat.le_of_ble_eq_true rfl) dL_law_449 [] (mB G mo s sp hh snm ch ((sz : Int)) kp ln g8 g9 g10 g11 g12 g13) (by simp only [List.append_assoc, List.nil_append, List.append_nil]) 0 rfl rfl (by simp only [List.append_assoc, List.nil_append, List.append_nil]) rfl rfl ?_
  refine V_aload_n hX dL_law_452 1 rfl ?_
  refine V_aload_n hX dL_law_453 3 rfl ?_
  refine V_iload_n hX dL_law_454 0 rfl ?_
  refine V_iconst hX dL_law_455 ?_
  refine V_iadd hX dL_law_456 rfl ?_
  refine V_sld hX hL (by omega) (by omega) (by omega) e1 dL_law_457 ?_
  refine V_aload_n hX dL_law_458 3 rfl ?_
  refine V_iload_n hX dL_law_459 0 rfl ?_
  refine V_iconst hX dL_law_460 ?_
  refine V_iadd hX dL_law_461 rfl ?_
  refine V_sld hX hL (by omega) (by omega) (by omega) e2 dL_law_462 ?_
  refine V_rV (st := [.int (jI (adR s x1 x2))]) hX wc_L_51 (c_X5_set l G mo s sp hh snm ch ((sz : Int)) kp ln g8 g9 g10 g11 g12 g13 99999 x1 x2 hI (by omega) (by omega) (by omega)) (by decide) (by decide) rfl rfl (Nat.le_of_ble_eq_true rfl) dL_law_463 (oH o no be tr sn p te b c kp sN sE ++ (hB G no (adS s x1 x2) ++ (hB G be s ++ (hB G tr st ++ (hB G sn ss ++ (pW G p (rcQ q sz (adR s x1 x2)) (rcH hs sz s (adR s x1 x2)) (rcZ sz (adR s x1 x2)) ++ (sB G te ch ki fi se ln th ps ++ (bB G b true W vf ++ bB G c false W2 vf2)))))))) ([]) (by simp only [List.append_assoc, List.nil_append, List.append_nil]) 102 rfl rfl (fun v_2 u_1 hp_3 => ?_)
  obtain ⟨rfl, sp2, rfl⟩ := hp_3
  refine V.wd (w' := oH o no be tr sn p te b c kp sN sE ++ (hB G no (adS s x1 x2) ++ (hB G be s ++ (hB G tr st ++ (hB G sn ss ++ (pW G p (rcQ q sz (adR s x1 x2)) (rcH hs sz s (adR s x1 x2)) (rcZ sz (adR s x1 x2)) ++ (sB G te ch ki fi se ln th ps ++ (bB G b true W vf ++ (bB G c false W2 vf2 ++ mB G mo (adS s x1 x2) sp2 (mcH hh ((sz : Int)) s (adR s x1 x2)) snm ch (mcZ ((sz : Int)) (adR s x1 x2)) kp ln g8 g9 g10 g11 g12 g13))))))))) (by simp only [List.append_assoc, List.nil_append, List.append_nil]) ?_
  refine V_icmp_eqv (tgt := 949) hX dL_law_466 (by decide) rfl ?_
  refine V.wd (w' := oH o no be tr sn p te b c kp sN sE ++ (hB G no (adS s x1 x2) ++ (hB G be s ++ (hB G tr st ++ (hB G sn ss ++ (pW G p (rcQ q sz (adR s x1 x2)) (rcH hs sz s (adR s x1 x2)) (rcZ sz (adR s x1 x2)) ++ (sB G te ch ki fi se ln th ps ++ (bB G b true W vf ++ (bB G c false W2 vf2 ++ mB G mo (adS s x1 x2) sp2 (mcH hh ((sz : Int)) s (adR s x1 x2)) snm ch (((rcZ sz (adR s x1 x2) : Nat) : Int)) kp ln g8 g9 g10 g11 g12 g13))))))))) (app_c rfl (app_c rfl (app_c rfl (app_c rfl (app_c rfl (app_c rfl (app_c rfl (app_c rfl (app_c rfl (mB_c rfl rfl rfl rfl rfl (mc_rc sz _) rfl rfl rfl rfl rfl rfl rfl rfl)))))))))) ?_
  refine V.sub [0, 1, 2, 3] rfl ?_
  exact ih _ _ _ _ _ _ _ _ _ _ _ _ _ _ _ _ _ _ _ _ _ _ _ _ _ _ _ _ _ _ ⟨⟨hI.ad _ _, hG.ge (GE.ad _ _ _)⟩, h2, rcZ_b hsz _, hHR.rc hsz _, IG.rc hHI hsz h0 _, hS, hps, hth, hkp, hks, hst, h12, h13, hx, hy⟩

set_option maxHeartbeats 4000000 in
set_option maxRecDepth 100000 in
theorem lw_k9 {X : vX} {l : Launch} {G : vC} {nm : String} (hX : VS X l G (yLaw nm) cL_law room_1 8) {L : Nat} {xs : Nat → Int32} (bs : Nat) (o : Nat) (no : Nat → Nat) (be : Nat → Nat) (tr : Nat → Nat) (sn : Nat → Nat) (p : Nat → Nat) (te : Nat → Nat) (b : Nat → Nat) (c : Nat → Nat) (mo : Nat → Nat) (hL : LawS X bs L xs) (hLm : L ≤ 2560) (i : Int) (hi0 : 0 ≤ i) (hi5 : i + 5 ≤ L) (ih : LG X G 949 bs o no be tr sn p te b c mo i) : LG X G 471 bs o no be tr sn p te b c mo i := by
  intro s sb st ss q hs sz ch ki fi se ln th ps W vf W2 vf2 kp sN sE sp hh snm g8 g9 g10 g11 g12 g13 h
  obtain ⟨x1, e1, r1⟩ : ∃ z : Int, xs (i + 1).toNat = jI z ∧ iR z := ⟨_, (jI_as _).symm, jI_rng _⟩
  obtain ⟨x2, e2, r2⟩ : ∃ z : Int, xs (i + 2).toNat = jI z ∧ iR z := ⟨_, (jI_as _).symm, jI_rng _⟩
  obtain ⟨x3, e3, r3⟩ : ∃ z : Int, xs (i + 3).toNat = jI z ∧ iR z := ⟨_, (jI_as _).symm, jI_rng _⟩
  obtain ⟨x4, e4, r4⟩ : ∃ z : Int, xs (i + 4).toNat = jI z ∧ iR z := ⟨_, (jI_as _).symm, jI_rng _⟩
  obtain ⟨h0, h2, hsz, hHR, hHI, hS, hps, hth, hkp, hks, hst, h12, h13, hx, hy⟩ := h
  have hI := h0.1
  have hG := h0.2
  have hI2 := h2.1
  have hb := hI.base
  have h9 := h0.h9
  unfold lW
  refine V_aload_n hX dL_law_471 2 rfl ?_
  refine V_cV (st := []) (v := .int (jI (cvR (bsR s (pvF s true))))) (w' := oH o no be tr sn p te b c kp sN sE ++ (hB G no (cvS s (bsR s (pvF s true))) ++ (hB G be s ++ (hB G tr st ++ (hB G sn ss ++ (pW G p (rcQ q sz (cvR (bsR s (pvF s true)))) (rcH hs sz s (cvR (bsR s (pvF s true)))) (rcZ sz (cvR (bsR s (pvF s true)))) ++ (sB G te ch ki fi se ln th ps ++ (bB G b true (plW s true W 6) (pvF s true) ++ (bB G c false W2 vf2 ++ mB G mo s sp hh snm ch ((sz : Int)) kp ln g8 g9 g10 g11 g12 g13))))))))) hX wc_L_52 (c_X4_vote l G o no be tr sn p te b c kp sN sE s sb st ss q hs sz ch ki fi se ln th ps W vf W2 vf2 hI hsz) (by decide) (by decide) rfl rfl (Nat.le_of_ble_eq_true rfl) dL_law_472 [] (mB G mo s sp hh snm ch ((sz : Int)) kp ln g8 g9 g10 g11 g12 g13) (by simp only [List.append_assoc, List.nil_append, List.append_nil]) 0 rfl rfl (by simp only [List.append_assoc, List.nil_append, List.append_nil]) rfl rfl ?_
  refine V_aload_n hX dL_law_475 1 rfl ?_
  refine V_rV (st := [.int (jI (cvR (bsR s (pvF s true))))]) hX wc_L_56 (c_X5_vote l G mo s sp hh snm ch ((sz : Int)) kp ln g8 g9 g10 g11 g12 g13 99999 hI (by omega)) (by decide) (by decide) rfl rfl (Nat.le_of_ble_eq_true rfl) dL_law_476 (oH o no be tr sn p te b c kp sN sE ++ (hB G no (cvS s (bsR s (pvF s true))) ++ (hB G be s ++ (hB G tr st ++ (hB G sn ss ++ (pW G p (rcQ q sz (cvR (bsR s (pvF s true)))) (rcH hs sz s (cvR (bsR s (pvF s true)))) (rcZ sz (cvR (bsR s (pvF s true)))) ++ (sB G te ch ki fi se ln th ps ++ (bB G b true (plW s true W 6) (pvF s true) ++ bB G c false W2 vf2)))))))) ([]) (by simp only [List.append_assoc, List.nil_append, List.append_nil]) 102 rfl rfl (fun v_2 u_1 hp_3 => ?_)
  obtain ⟨rfl, sp2, rfl⟩ := hp_3
  refine V.wd (w' := oH o no be tr sn p te b c kp sN sE ++ (hB G no (cvS s (bsR s (pvF s true))) ++ (hB G be s ++ (hB G tr st ++ (hB G sn ss ++ (pW G p (rcQ q sz (cvR (bsR s (pvF s true)))) (rcH hs sz s (cvR (bsR s (pvF s true)))) (rcZ sz (cvR (bsR s (pvF s true)))) ++ (sB G te ch ki fi se ln th ps ++ (bB G b true (plW s true W 6) (pvF s true) ++ (bB G c false W2 vf2 ++ mB G mo (cvS s (bsR s (pvF s true))) sp2 (mcH hh ((sz : Int)) s (cvR (bsR s (pvF s true)))) snm ch (mcZ ((sz : Int)) (cvR (bsR s (pvF s true)))) kp ln g8 g9 g10 g11 g12 g13))))))))) (by simp only [List.append_assoc, List.nil_append, List.append_nil]) ?_
  refine V_icmp_eqv (tgt := 949) hX dL_law_479 (by decide) rfl ?_
  refine V.wd (w' := oH o no be tr sn p te b c kp sN sE ++ (hB G no (cvS s (bsR s (pvF s true))) ++ (hB G be s ++ (hB G tr st ++ (hB G sn ss ++ (pW G p (rcQ q sz (cvR (bsR s (pvF s true)))) (rcH hs sz s (cvR (bsR s (pvF s true)))) (rcZ sz (cvR (bsR s (pvF s true)))) ++ (sB G te ch ki fi se ln th ps ++ (bB G b true (plW s true W 6) (pvF s true) ++ (bB G c false W2 vf2 ++ mB G mo (cvS s (bsR s (pvF s true))) sp2 (mcH hh ((sz : Int)) s (cvR (bsR s (pvF s true)))) snm ch (((rcZ sz (cvR (bsR s (pvF s true))) : Nat) : Int)) kp ln g8 g9 g10 g11 g12 g13))))))))) (app_c rfl (app_c rfl (app_c rfl (app_c rfl (app_c rfl (app_c rfl (app_c rfl (app_c rfl (app_c rfl (mB_c rfl rfl rfl rfl rfl (mc_rc sz _) rfl rfl rfl rfl rfl rfl rfl rfl)))))))))) ?_
  refine V.sub [0, 1, 2, 3] rfl ?_
  exact ih _ _ _ _ _ _ _ _ _ _ _ _ _ _ _ _ _ _ _ _ _ _ _ _ _ _ _ _ _ _ ⟨⟨hI.cv _, hG.ge (GE.cv _ _)⟩, h2, rcZ_b hsz _, hHR.rc hsz _, IG.rc hHI hsz h0 _, hS, hps, hth, hkp, hks, hst, h12, h13, hx, hy⟩

set_option maxHeartbeats 4000000 in
set_option maxRecDepth 100000 in
theorem lw_k10 {X : vX} {l : Launch} {G : vC} {nm : String} (hX : VS X l G (yLaw nm) cL_law room_1 8) {L : Nat} {xs : Nat → Int32} (bs : Nat) (o : Nat) (no : Nat → Nat) (be : Nat → Nat) (tr : Nat → Nat) (sn : Nat → Nat) (p : Nat → Nat) (te : Nat → Nat) (b : Nat → Nat) (c : Nat → Nat) (mo : Nat → Nat) (hL : LawS X bs L xs) (hLm : L ≤ 2560) (i : Int) (hi0 : 0 ≤ i) (hi5 : i + 5 ≤ L) (ih : LG X G 949 bs o no be tr sn p te b c mo i) : LG X G 484 bs o no be tr sn p te b c mo i := by
  intro s sb st ss q hs sz ch ki fi se ln th ps W vf W2 vf2 kp sN sE sp hh snm g8 g9 g10 g11 g12 g13 h
  obtain ⟨x1, e1, r1⟩ : ∃ z : Int, xs (i + 1).toNat = jI z ∧ iR z := ⟨_, (jI_as _).symm, jI_rng _⟩
  obtain ⟨x2, e2, r2⟩ : ∃ z : Int, xs (i + 2).toNat = jI z ∧ iR z := ⟨_, (jI_as _).symm, jI_rng _⟩
  obtain ⟨x3, e3, r3⟩ : ∃ z : Int, xs (i + 3).toNat = jI z ∧ iR z := ⟨_, (jI_as _).symm, jI_rng _⟩
  obtain ⟨x4, e4, r4⟩ : ∃ z : Int, xs (i + 4).toNat = jI z ∧ iR z := ⟨_, (jI_as _).symm, jI_rng _⟩
  obtain ⟨h0, h2, hsz, hHR, hHI, hS, hps, hth, hkp, hks, hst, h12, h13, hx, hy⟩ := h
  have hI := h0.1
  have hG := h0.2
  have hI2 := h2.1
  have hb := hI.base
  have h9 := h0.h9
  unfold lW
  refine V_aload_n hX dL_law_484 2 rfl ?_
  refine V_aload_n hX dL_law_485 3 rfl ?_
  refine V_iload_n hX dL_law_486 0 rfl ?_
  refine V_iconst hX dL_law_487 ?_
  refine V_iadd hX dL_law_488 rfl ?_
  refine V_sld hX hL (by omega) (by omega) (by omega) e1 dL_law_489 ?_
  refine V_cV (st := []) (v := .int (jI (goR s x1))) (w' := oH o no be tr sn p te b c kp sN sE ++ (hB G no (goS s x1) ++ (hB G be s ++ (hB G tr st ++ (hB G sn ss ++ (pW G p (rcQ q sz (goR s x1)) (rcH hs sz s (goR s x1)) (rcZ sz (goR s x1)) ++ (sB G te ch ki fi se ln th ps ++ (bB G b true W vf ++ (bB G c false W2 vf2 ++ mB G mo s sp hh snm ch ((sz : Int)) kp ln g8 g9 g10 g11 g12 g13))))))))) hX wc_L_57 (c_X4_pass l G o no be tr sn p te b c kp sN sE s sb st ss q hs sz ch ki fi se ln th ps W vf W2 vf2 x1 hI hsz (by omega)) (by decide) (by decide) rfl rfl (Nat.le_of_ble_eq_true rfl) dL_law_490 [] (mB G mo s sp hh snm ch ((sz : Int)) kp ln g8 g9 g10 g11 g12 g13) (by simp only [List.append_assoc, List.nil_append, List.append_nil]) 0 rfl rfl (by simp only [List.append_assoc, List.nil_append, List.append_nil]) rfl rfl ?_
  refine V_aload_n hX dL_law_493 1 rfl ?_
  refine V_aload_n hX dL_law_494 3 rfl ?_
  refine V_iload_n hX dL_law_495 0 rfl ?_
  refine V_iconst hX dL_law_496 ?_
  refine V_iadd hX dL_law_497 rfl ?_
  refine V_sld hX hL (by omega) (by omega) (by omega) e1 dL_law_498 ?_
  refine V_rV (st := [.int (jI (goR s x1))]) hX wc_L_60 (c_X5_pass l G mo s sp hh snm ch ((sz : Int)) kp ln g8 g9 g10 g11 g12 g13 99999 x1 hI (by omega) (by omega) (by omega)) (by decide) (by decide) rfl rfl (Nat.le_of_ble_eq_true rfl) dL_law_499 (oH o no be tr sn p te b c kp sN sE ++ (hB G no (goS s x1) ++ (hB G be s ++ (hB G tr st ++ (hB G sn ss ++ (pW G p (rcQ q sz (goR s x1)) (rcH hs sz s (goR s x1)) (rcZ sz (goR s x1)) ++ (sB G te ch ki fi se ln th ps ++ (bB G b true W vf ++ bB G c false W2 vf2)))))))) ([]) (by simp only [List.append_assoc, List.nil_append, List.append_nil]) 102 rfl rfl (fun v_2 u_1 hp_3 => ?_)
  obtain ⟨rfl, sp2, rfl⟩ := hp_3
  refine V.wd (w' := oH o no be tr sn p te b c kp sN sE ++ (hB G no (goS s x1) ++ (hB G be s ++ (hB G tr st ++ (hB G sn ss ++ (pW G p (rcQ q sz (goR s x1)) (rcH hs sz s (goR s x1)) (rcZ sz (goR s x1)) ++ (sB G te ch ki fi se ln th ps ++ (bB G b true W vf ++ (bB G c false W2 vf2 ++ mB G mo (goS s x1) sp2 (mcH hh ((sz : Int)) s (goR s x1)) snm ch (mcZ ((sz : Int)) (goR s x1)) kp ln g8 g9 g10 g11 g12 g13))))))))) (by simp only [List.append_assoc, List.nil_append, List.append_nil]) ?_
  refine V_icmp_eqv (tgt := 949) hX dL_law_502 (by decide) rfl ?_
  refine V.wd (w' := oH o no be tr sn p te b c kp sN sE ++ (hB G no (goS s x1) ++ (hB G be s ++ (hB G tr st ++ (hB G sn ss ++ (pW G p (rcQ q sz (goR s x1)) (rcH hs sz s (goR s x1)) (rcZ sz (goR s x1)) ++ (sB G te ch ki fi se ln th ps ++ (bB G b true W vf ++ (bB G c false W2 vf2 ++ mB G mo (goS s x1) sp2 (mcH hh ((sz : Int)) s (goR s x1)) snm ch (((rcZ sz (goR s x1) : Nat) : Int)) kp ln g8 g9 g10 g11 g12 g13))))))))) (app_c rfl (app_c rfl (app_c rfl (app_c rfl (app_c rfl (app_c rfl (app_c rfl (app_c rfl (app_c rfl (mB_c rfl rfl rfl rfl rfl (mc_rc sz _) rfl rfl rfl rfl rfl rfl rfl rfl)))))))))) ?_
  refine V.sub [0, 1, 2, 3] rfl ?_
  exact ih _ _ _ _ _ _ _ _ _ _ _ _ _ _ _ _ _ _ _ _ _ _ _ _ _ _ _ _ _ _ ⟨⟨hI.go _, GI.go hI hG _⟩, h2, rcZ_b hsz _, hHR.rc hsz _, IG.rc hHI hsz h0 _, hS, hps, hth, hkp, hks, hst, h12, h13, hx, hy⟩

set_option maxHeartbeats 4000000 in
set_option maxRecDepth 100000 in
theorem lw_k18 {X : vX} {l : Launch} {G : vC} {nm : String} (hX : VS X l G (yLaw nm) cL_law room_1 8) {L : Nat} {xs : Nat → Int32} (bs : Nat) (o : Nat) (no : Nat → Nat) (be : Nat → Nat) (tr : Nat → Nat) (sn : Nat → Nat) (p : Nat → Nat) (te : Nat → Nat) (b : Nat → Nat) (c : Nat → Nat) (mo : Nat → Nat) (hL : LawS X bs L xs) (hLm : L ≤ 2560) (i : Int) (hi0 : 0 ≤ i) (hi5 : i + 5 ≤ L) (ih : LG X G 949 bs o no be tr sn p te b c mo i) : LG X G 620 bs o no be tr sn p te b c mo i := by
  intro s sb st ss q hs sz ch ki fi se ln th ps W vf W2 vf2 kp sN sE sp hh snm g8 g9 g10 g11 g12 g13 h
  obtain ⟨x1, e1, r1⟩ : ∃ z : Int, xs (i + 1).toNat = jI z ∧ iR z := ⟨_, (jI_as _).symm, jI_rng _⟩
  obtain ⟨x2, e2, r2⟩ : ∃ z : Int, xs (i + 2).toNat = jI z ∧ iR z := ⟨_, (jI_as _).symm, jI_rng _⟩
  obtain ⟨x3, e3, r3⟩ : ∃ z : Int, xs (i + 3).toNat = jI z ∧ iR z := ⟨_, (jI_as _).symm, jI_rng _⟩
  obtain ⟨x4, e4, r4⟩ : ∃ z : Int, xs (i + 4).toNat = jI z ∧ iR z := ⟨_, (jI_as _).symm, jI_rng _⟩
  obtain ⟨h0, h2, hsz, hHR, hHI, hS, hps, hth, hkp, hks, hst, h12, h13, hx, hy⟩ := h
  have hI := h0.1
  have hG := h0.2
  have hI2 := h2.1
  have hb := hI.base
  have h9 := h0.h9
  unfold lW
  refine V_aload_n hX dL_law_620 2 rfl ?_
  refine V_aload_n hX dL_law_621 3 rfl ?_
  refine V_iload_n hX dL_law_622 0 rfl ?_
  refine V_iconst hX dL_law_623 ?_
  refine V_iadd hX dL_law_624 rfl ?_
  refine V_sld hX hL (by omega) (by omega) (by omega) e1 dL_law_625 ?_
  refine V_aload_n hX dL_law_626 3 rfl ?_
  refine V_iload_n hX dL_law_627 0 rfl ?_
  refine V_iconst hX dL_law_628 ?_
  refine V_iadd hX dL_law_629 rfl ?_
  refine V_sld hX hL (by omega) (by omega) (by omega) e2 dL_law_630 ?_
  refine V_cV (st := []) (v := .int (jI (tsR2 s x1 x2))) (w' := oH o no be tr sn p te b c kp sN sE ++ (hB G no s ++ (hB G be sb ++ (hB G tr st ++ (hB G sn ss ++ (pW G p q hs sz ++ (sB G te ch ki fi se ln th ps ++ (bB G b true W vf ++ (bB G c false W2 vf2 ++ mB G mo s sp hh snm ch ((sz : Int)) kp ln g8 g9 g10 g11 g12 g13))))))))) hX wc_L_90 (c_X4_scarecrow l G o no be tr sn p te b c kp sN sE s sb st ss q hs sz ch ki fi se ln th ps W vf W2 vf2 x1 x2 hI hsz (by omega) (by omega)) (by decide) (by decide) rfl rfl (Nat.le_of_ble_eq_true rfl) dL_law_631 [] (mB G mo s sp hh snm ch ((sz : Int)) kp ln g8 g9 g10 g11 g12 g13) (by simp only [List.append_assoc, List.nil_append, List.append_nil]) 0 rfl rfl (by simp only [List.append_assoc, List.nil_append, List.append_nil]) rfl rfl ?_
  refine V_aload_n hX dL_law_634 1 rfl ?_
  refine V_aload_n hX dL_law_635 3 rfl ?_
  refine V_iload_n hX dL_law_636 0 rfl ?_
  refine V_iconst hX dL_law_637 ?_
  refine V_iadd hX dL_law_638 rfl ?_
  refine V_sld hX hL (by omega) (by omega) (by omega) e1 dL_law_639 ?_
  refine V_aload_n hX dL_law_640 3 rfl ?_
  refine V_iload_n hX dL_law_641 0 rfl ?_
  refine V_iconst hX dL_law_642 ?_
  refine V_iadd hX dL_law_643 rfl ?_
  refine V_sld hX hL (by omega) (by omega) (by omega) e2 dL_law_644 ?_
  refine V_cV (st := [.int (jI (tsR2 s x1 x2))]) (v := .int (jI (tsR2 s x1 x2))) (w' := oH o no be tr sn p te b c kp sN sE ++ (hB G no s ++ (hB G be sb ++ (hB G tr st ++ (hB G sn ss ++ (pW G p q hs sz ++ (sB G te ch ki fi se ln th ps ++ (bB G b true W vf ++ (bB G c false W2 vf2 ++ mB G mo s sp hh snm ch (sz : Int) kp ln g8 g9 g10 g11 g12 g13))))))))) hX wc_L_93 (c_X5_scarecrow l G mo s sp hh snm ch ((sz : Int)) kp ln g8 g9 g10 g11 g12 g13 99999 x1 x2 hI (by omega) (by omega)) (by decide) (by decide) rfl rfl (Nat.le_of_ble_eq_true rfl) dL_law_645 (oH o no be tr sn p te b c kp sN sE ++ (hB G no s ++ (hB G be sb ++ (hB G tr st ++ (hB G sn ss ++ (pW G p q hs sz ++ (sB G te ch ki fi se ln th ps ++ (bB G b true W vf ++ bB G c false W2 vf2)))))))) ([]) (by simp only [List.append_assoc, List.nil_append, List.append_nil]) 102 rfl rfl (by simp only [List.append_assoc, List.nil_append, List.append_nil]) rfl rfl ?_
  refine V_icmp_eqv (tgt := 949) hX dL_law_648 (by decide) rfl ?_
  refine V.sub [0, 1, 2, 3] rfl ?_
  exact ih _ _ _ _ _ _ _ _ _ _ _ _ _ _ _ _ _ _ _ _ _ _ _ _ _ _ _ _ _ _ ⟨h0, h2, hsz, hHR, hHI, hS, hps, hth, hkp, hks, hst, h12, h13, hx, hy⟩

set_option maxHeartbeats 4000000 in
set_option maxRecDepth 100000 in
theorem lw_k22 {X : vX} {l : Launch} {G : vC} {nm : String} (hX : VS X l G (yLaw nm) cL_law room_1 8) {L : Nat} {xs : Nat → Int32} (bs : Nat) (o : Nat) (no : Nat → Nat) (be : Nat → Nat) (tr : Nat → Nat) (sn : Nat → Nat) (p : Nat → Nat) (te : Nat → Nat) (b : Nat → Nat) (c : Nat → Nat) (mo : Nat → Nat) (hL : LawS X bs L xs) (hLm : L ≤ 2560) (i : Int) (hi0 : 0 ≤ i) (hi5 : i + 5 ≤ L) (ih : LG X G 949 bs o no be tr sn p te b c mo i) : LG X G 798 bs o no be tr sn p te b c mo i := by
  intro s sb st ss q hs sz ch ki fi se ln th ps W vf W2 vf2 kp sN sE sp hh snm g8 g9 g10 g11 g12 g13 h
  obtain ⟨x1, e1, r1⟩ : ∃ z : Int, xs (i + 1).toNat = jI z ∧ iR z := ⟨_, (jI_as _).symm, jI_rng _⟩
  obtain ⟨x2, e2, r2⟩ : ∃ z : Int, xs (i + 2).toNat = jI z ∧ iR z := ⟨_, (jI_as _).symm, jI_rng _⟩
  obtain ⟨x3, e3, r3⟩ : ∃ z : Int, xs (i + 3).toNat = jI z ∧ iR z := ⟨_, (jI_as _).symm, jI_rng _⟩
  obtain ⟨x4, e4, r4⟩ : ∃ z : Int, xs (i + 4).toNat = jI z ∧ iR z := ⟨_, (jI_as _).symm, jI_rng _⟩
  obtain ⟨h0, h2, hsz, hHR, hHI, hS, hps, hth, hkp, hks, hst, h12, h13, hx, hy⟩ := h
  have hI := h0.1
  have hG := h0.2
  have hI2 := h2.1
  have hb := hI.base
  have h9 := h0.h9
  unfold lW
  refine V_aload_n hX dL_law_798 2 rfl ?_
  refine V_aload_n hX dL_law_799 3 rfl ?_
  refine V_iload_n hX dL_law_800 0 rfl ?_
  refine V_iconst hX dL_law_801 ?_
  refine V_iadd hX dL_law_802 rfl ?_
  refine V_sld hX hL (by omega) (by omega) (by omega) e1 dL_law_803 ?_
  refine V_cV (st := []) (v := .int (jI (if 0 ≤ x1 ∧ x1 ≤ 5 then rsR s true x1 else -1))) (w' := oH o no be tr sn p te b c kp sN sE ++ (hB G no s ++ (hB G be sb ++ (hB G tr st ++ (hB G sn ss ++ (pW G p q hs sz ++ (sB G te ch ki fi se ln th ps ++ (bB G b true (if 0 ≤ x1 ∧ x1 ≤ 5 then vtW s true x1 W else W) vf ++ (bB G c false W2 vf2 ++ mB G mo s sp hh snm ch ((sz : Int)) kp ln g8 g9 g10 g11 g12 g13))))))))) hX wc_L_108 (c_X4_reason l G o no be tr sn p te b c kp sN sE s sb st ss q hs sz ch ki fi se ln th ps W vf W2 vf2 x1 hI hsz (by omega)) (by decide) (by decide) rfl rfl (Nat.le_of_ble_eq_true rfl) dL_law_804 [] (mB G mo s sp hh snm ch ((sz : Int)) kp ln g8 g9 g10 g11 g12 g13) (by simp only [List.append_assoc, List.nil_append, List.append_nil]) 0 rfl rfl (by simp only [List.append_assoc, List.nil_append, List.append_nil]) rfl rfl ?_
  refine V_aload_n hX dL_law_807 1 rfl ?_
  refine V_aload_n hX dL_law_808 3 rfl ?_
  refine V_iload_n hX dL_law_809 0 rfl ?_
  refine V_iconst hX dL_law_810 ?_
  refine V_iadd hX dL_law_811 rfl ?_
  refine V_sld hX hL (by omega) (by omega) (by omega) e1 dL_law_812 ?_
  refine V_cV (st := [.int (jI (if 0 ≤ x1 ∧ x1 ≤ 5 then rsR s true x1 else -1))]) (v := .int (jI (if 0 ≤ x1 ∧ x1 ≤ 5 then rsR s true x1 else -1))) (w' := oH o no be tr sn p te b c kp sN sE ++ (hB G no s ++ (hB G be sb ++ (hB G tr st ++ (hB G sn ss ++ (pW G p q hs sz ++ (sB G te ch ki fi se ln th ps ++ (bB G b true (if 0 ≤ x1 ∧ x1 ≤ 5 then vtW s true x1 W else W) vf ++ (bB G c false W2 vf2 ++ mB G mo s sp hh snm ch (sz : Int) kp ln g8 g9 g10 g11 g12 g13))))))))) hX wc_L_111 (c_X5_reason l G mo s sp hh snm ch ((sz : Int)) kp ln g8 g9 g10 g11 g12 g13 99999 x1 hI (by omega)) (by decide) (by decide) rfl rfl (Nat.le_of_ble_eq_true rfl) dL_law_813 (oH o no be tr sn p te b c kp sN sE ++ (hB G no s ++ (hB G be sb ++ (hB G tr st ++ (hB G sn ss ++ (pW G p q hs sz ++ (sB G te ch ki fi se ln th ps ++ (bB G b true (if 0 ≤ x1 ∧ x1 ≤ 5 then vtW s true x1 W else W) vf ++ bB G c false W2 vf2)))))))) ([]) (by simp only [List.append_assoc, List.nil_append, List.append_nil]) 102 rfl rfl (by simp only [List.append_assoc, List.nil_append, List.append_nil]) rfl rfl ?_
  refine V_icmp_eqv (tgt := 949) hX dL_law_816 (by decide) rfl ?_
  refine V.sub [0, 1, 2, 3] rfl ?_
  exact ih _ _ _ _ _ _ _ _ _ _ _ _ _ _ _ _ _ _ _ _ _ _ _ _ _ _ _ _ _ _ ⟨h0, h2, hsz, hHR, hHI, hS, hps, hth, hkp, hks, hst, h12, h13, hx, hy⟩

set_option maxHeartbeats 4000000 in
set_option maxRecDepth 100000 in
theorem lw_k25 {X : vX} {l : Launch} {G : vC} {nm : String} (hX : VS X l G (yLaw nm) cL_law room_1 8) {L : Nat} {xs : Nat → Int32} (bs : Nat) (o : Nat) (no : Nat → Nat) (be : Nat → Nat) (tr : Nat → Nat) (sn : Nat → Nat) (p : Nat → Nat) (te : Nat → Nat) (b : Nat → Nat) (c : Nat → Nat) (mo : Nat → Nat) (hL : LawS X bs L xs) (hLm : L ≤ 2560) (i : Int) (hi0 : 0 ≤ i) (hi5 : i + 5 ≤ L) (ih : LG X G 949 bs o no be tr sn p te b c mo i) : LG X G 857 bs o no be tr sn p te b c mo i := by
  intro s sb st ss q hs sz ch ki fi se ln th ps W vf W2 vf2 kp sN sE sp hh snm g8 g9 g10 g11 g12 g13 h
  obtain ⟨x1, e1, r1⟩ : ∃ z : Int, xs (i + 1).toNat = jI z ∧ iR z := ⟨_, (jI_as _).symm, jI_rng _⟩
  obtain ⟨x2, e2, r2⟩ : ∃ z : Int, xs (i + 2).toNat = jI z ∧ iR z := ⟨_, (jI_as _).symm, jI_rng _⟩
  obtain ⟨x3, e3, r3⟩ : ∃ z : Int, xs (i + 3).toNat = jI z ∧ iR z := ⟨_, (jI_as _).symm, jI_rng _⟩
  obtain ⟨x4, e4, r4⟩ : ∃ z : Int, xs (i + 4).toNat = jI z ∧ iR z := ⟨_, (jI_as _).symm, jI_rng _⟩
  obtain ⟨h0, h2, hsz, hHR, hHI, hS, hps, hth, hkp, hks, hst, h12, h13, hx, hy⟩ := h
  have hI := h0.1
  have hG := h0.2
  have hI2 := h2.1
  have hb := hI.base
  have h9 := h0.h9
  unfold lW
  refine V_aload_n hX dL_law_857 2 rfl ?_
  refine V_cV (st := []) (v := .int (jI (bsR s (pvF s false)))) (w' := oH o no be tr sn p te b c kp sN sE ++ (hB G no s ++ (hB G be sb ++ (hB G tr st ++ (hB G sn ss ++ (pW G p q hs sz ++ (sB G te ch ki fi se ln th ps ++ (bB G b true W vf ++ (bB G c false (plW s false W2 6) (pvF s false) ++ mB G mo s sp hh snm ch ((sz : Int)) kp ln g8 g9 g10 g11 g12 g13))))))))) hX wc_L_120 (c_X4_withoutCrows l G o no be tr sn p te b c kp sN sE s sb st ss q hs sz ch ki fi se ln th ps W vf W2 vf2 hI hsz) (by decide) (by decide) rfl rfl (Nat.le_of_ble_eq_true rfl) dL_law_858 [] (mB G mo s sp hh snm ch ((sz : Int)) kp ln g8 g9 g10 g11 g12 g13) (by simp only [List.append_assoc, List.nil_append, List.append_nil]) 0 rfl rfl (by simp only [List.append_assoc, List.nil_append, List.append_nil]) rfl rfl ?_
  refine V_aload_n hX dL_law_861 1 rfl ?_
  refine V_cV (st := [.int (jI (bsR s (pvF s false)))]) (v := .int (jI (bsR s (pvF s false)))) (w' := oH o no be tr sn p te b c kp sN sE ++ (hB G no s ++ (hB G be sb ++ (hB G tr st ++ (hB G sn ss ++ (pW G p q hs sz ++ (sB G te ch ki fi se ln th ps ++ (bB G b true W vf ++ (bB G c false (plW s false W2 6) (pvF s false) ++ mB G mo s sp hh snm ch (sz : Int) kp ln g8 g9 g10 g11 g12 g13))))))))) hX wc_L_123 (c_X5_withoutCrows l G mo s sp hh snm ch ((sz : Int)) kp ln g8 g9 g10 g11 g12 g13 99999 hI) (by decide) (by decide) rfl rfl (Nat.le_of_ble_eq_true rfl) dL_law_862 (oH o no be tr sn p te b c kp sN sE ++ (hB G no s ++ (hB G be sb ++ (hB G tr st ++ (hB G sn ss ++ (pW G p q hs sz ++ (sB G te ch ki fi se ln th ps ++ (bB G b true W vf ++ bB G c false (plW s false W2 6) (pvF s false))))))))) ([]) (by simp only [List.append_assoc, List.nil_append, List.append_nil]) 102 rfl rfl (by simp only [List.append_assoc, List.nil_append, List.append_nil]) rfl rfl ?_
  refine V_icmp_eqv (tgt := 949) hX dL_law_865 (by decide) rfl ?_
  refine V.sub [0, 1, 2, 3] rfl ?_
  exact ih _ _ _ _ _ _ _ _ _ _ _ _ _ _ _ _ _ _ _ _ _ _ _ _ _ _ _ _ _ _ ⟨h0, h2, hsz, hHR, hHI, hS, hps, hth, hkp, hks, hst, h12, h13, hx, hy⟩

set_option maxHeartbeats 4000000 in
set_option maxRecDepth 100000 in
theorem lw_k21 {X : vX} {l : Launch} {G : vC} {nm : String} (hX : VS X l G (yLaw nm) cL_law room_1 8) {L : Nat} {xs : Nat → Int32} (bs : Nat) (o : Nat) (no : Nat → Nat) (be : Nat → Nat) (tr : Nat → Nat) (sn : Nat → Nat) (p : Nat → Nat) (te : Nat → Nat) (b : Nat → Nat) (c : Nat → Nat) (mo : Nat → Nat) (hL : LawS X bs L xs) (hLm : L ≤ 2560) (i : Int) (hi0 : 0 ≤ i) (hi5 : i + 5 ≤ L) (ih : LG X G 949 bs o no be tr sn p te b c mo i) : LG X G 765 bs o no be tr sn p te b c mo i := by
  intro s sb st ss q hs sz ch ki fi se ln th ps W vf W2 vf2 kp sN sE sp hh snm g8 g9 g10 g11 g12 g13 h
  obtain ⟨x1, e1, r1⟩ : ∃ z : Int, xs (i + 1).toNat = jI z ∧ iR z := ⟨_, (jI_as _).symm, jI_rng _⟩
  obtain ⟨x2, e2, r2⟩ : ∃ z : Int, xs (i + 2).toNat = jI z ∧ iR z := ⟨_, (jI_as _).symm, jI_rng _⟩
  obtain ⟨x3, e3, r3⟩ : ∃ z : Int, xs (i + 3).toNat = jI z ∧ iR z := ⟨_, (jI_as _).symm, jI_rng _⟩
  obtain ⟨x4, e4, r4⟩ : ∃ z : Int, xs (i + 4).toNat = jI z ∧ iR z := ⟨_, (jI_as _).symm, jI_rng _⟩
  obtain ⟨h0, h2, hsz, hHR, hHI, hS, hps, hth, hkp, hks, hst, h12, h13, hx, hy⟩ := h
  have hI := h0.1
  have hG := h0.2
  have hI2 := h2.1
  have hb := hI.base
  have h9 := h0.h9
  unfold lW
  refine V_aload_n hX dL_law_765 2 rfl ?_
  refine V_aload_n hX dL_law_766 3 rfl ?_
  refine V_iload_n hX dL_law_767 0 rfl ?_
  refine V_iconst hX dL_law_768 ?_
  refine V_iadd hX dL_law_769 rfl ?_
  refine V_sld hX hL (by omega) (by omega) (by omega) e1 dL_law_770 ?_
  refine V_aload_n hX dL_law_771 3 rfl ?_
  refine V_iload_n hX dL_law_772 0 rfl ?_
  refine V_iconst hX dL_law_773 ?_
  refine V_iadd hX dL_law_774 rfl ?_
  refine V_sld hX hL (by omega) (by omega) (by omega) e2 dL_law_775 ?_
  refine V_cV (st := []) (v := .int (fdR s x1 x2)) (w' := oH o no be tr sn p te b c kp sN sE ++ (hB G no s ++ (hB G be sb ++ (hB G tr st ++ (hB G sn ss ++ (pW G p q hs sz ++ (sB G te ch ki fi se ln th ps ++ (bB G b true (if (0 ≤ x1 ∧ x1 ≤ 5) ∧ x2 = 2 then vtW s true x1 W else W) vf ++ (bB G c false W2 vf2 ++ mB G mo s sp hh snm ch ((sz : Int)) kp ln g8 g9 g10 g11 g12 g13))))))))) hX wc_L_104 (c_X4_field l G o no be tr sn p te b c kp sN sE s sb st ss q hs sz ch ki fi se ln th ps W vf W2 vf2 x1 x2 hI hsz (by omega) (by omega)) (by decide) (by decide) rfl rfl (Nat.le_of_ble_eq_true rfl) dL_law_776 [] (mB G mo s sp hh snm ch ((sz : Int)) kp ln g8 g9 g10 g11 g12 g13) (by simp only [List.append_assoc, List.nil_append, List.append_nil]) 0 rfl rfl (by simp only [List.append_assoc, List.nil_append, List.append_nil]) rfl rfl ?_
  refine V_aload_n hX dL_law_779 1 rfl ?_
  refine V_aload_n hX dL_law_780 3 rfl ?_
  refine V_iload_n hX dL_law_781 0 rfl ?_
  refine V_iconst hX dL_law_782 ?_
  refine V_iadd hX dL_law_783 rfl ?_
  refine V_sld hX hL (by omega) (by omega) (by omega) e1 dL_law_784 ?_
  refine V_aload_n hX dL_law_785 3 rfl ?_
  refine V_iload_n hX dL_law_786 0 rfl ?_
  refine V_iconst hX dL_law_787 ?_
  refine V_iadd hX dL_law_788 rfl ?_
  refine V_sld hX hL (by omega) (by omega) (by omega) e2 dL_law_789 ?_
  refine V_cV (st := [.int (fdR s x1 x2)]) (v := .int (fdR s x1 x2)) (w' := oH o no be tr sn p te b c kp sN sE ++ (hB G no s ++ (hB G be sb ++ (hB G tr st ++ (hB G sn ss ++ (pW G p q hs sz ++ (sB G te ch ki fi se ln th ps ++ (bB G b true (if (0 ≤ x1 ∧ x1 ≤ 5) ∧ x2 = 2 then vtW s true x1 W else W) vf ++ (bB G c false W2 vf2 ++ mB G mo s sp hh snm ch (sz : Int) kp ln g8 g9 g10 g11 g12 g13))))))))) hX wc_L_107 (c_X5_field l G mo s sp hh snm ch ((sz : Int)) kp ln g8 g9 g10 g11 g12 g13 99999 x1 x2 hI (by omega) (by omega)) (by decide) (by decide) rfl rfl (Nat.le_of_ble_eq_true rfl) dL_law_790 (oH o no be tr sn p te b c kp sN sE ++ (hB G no s ++ (hB G be sb ++ (hB G tr st ++ (hB G sn ss ++ (pW G p q hs sz ++ (sB G te ch ki fi se ln th ps ++ (bB G b true (if (0 ≤ x1 ∧ x1 ≤ 5) ∧ x2 = 2 then vtW s true x1 W else W) vf ++ bB G c false W2 vf2)))))))) ([]) (by simp only [List.append_assoc, List.nil_append, List.append_nil]) 102 rfl rfl (by simp only [List.append_assoc, List.nil_append, List.append_nil]) rfl rfl ?_
  refine V_icmp_eqv (tgt := 949) hX dL_law_793 (by decide) rfl ?_
  refine V.sub [0, 1, 2, 3] rfl ?_
  exact ih _ _ _ _ _ _ _ _ _ _ _ _ _ _ _ _ _ _ _ _ _ _ _ _ _ _ _ _ _ _ ⟨h0, h2, hsz, hHR, hHI, hS, hps, hth, hkp, hks, hst, h12, h13, hx, hy⟩

theorem un_eq {hh s : Nat → Int} {hs : Nat → Nat → Int} {sz : Nat} (h : HR hh hs sz) {j : Nat} (hj : j < 149) : (if (sz : Int) = 0 then s else roH hh ((sz : Int) - 1)) j = (if sz = 0 then s else hs (sz - 1)) j := by
  by_cases z : sz = 0
  · rw [if_pos (by omega), if_pos z]
  · rw [if_neg (by omega), if_neg z]
    unfold roH
    rw [show ((sz : Int) - 1).toNat = sz - 1 by omega]
    exact h (sz - 1) j (by omega) hj
theorem pm_st {s tx : Nat → Int} {ln sN sE g12 g13 : Int} (h : IG s) (hst : (g13 = 0 ∧ sN = -5 ∧ sE = -5) ∨ (g13 ≠ 0 ∧ sE = g13 ∧ sN = g12)) (h12 : iR g12) (h13 : iR g13) :
    (((if pmP s tx ln then pfA s tx ln (pmN s tx ln).toNat else g13) = 0 ∧ (if pmP s tx ln then pmN s tx ln else sN) = -5 ∧ (if pmP s tx ln then pfA s tx ln (pmN s tx ln).toNat else sE) = -5) ∨ ((if pmP s tx ln then pfA s tx ln (pmN s tx ln).toNat else g13) ≠ 0 ∧ (if pmP s tx ln then pfA s tx ln (pmN s tx ln).toNat else sE) = (if pmP s tx ln then pfA s tx ln (pmN s tx ln).toNat else g13) ∧ (if pmP s tx ln then pmN s tx ln else sN) = (if pmP s tx ln then pmN s tx ln else g12))) ∧ iR (if pmP s tx ln then pmN s tx ln else g12) ∧ iR (if pmP s tx ln then pfA s tx ln (pmN s tx ln).toNat else g13) := by
  by_cases q : pmP s tx ln
  · rw [if_pos q, if_pos q, if_pos q, if_pos q]
    have h1 : erP (pfA s tx ln (pmN s tx ln).toNat) := pfX_e _ _ q.2
    have h2 : iR (pfA s tx ln (pmN s tx ln).toNat) := dtR_b (h.1.pf tx ln _) _ _ _
    have h3 := rdF_b0 (tx := tx) (ln := ln) 30 0 (by decide)
    have h4 : pmN s tx ln = -1 ∨ (0 ≤ pmN s tx ln ∧ pmN s tx ln < ((0 : Nat) : Int) + ((rdN tx ln 30 0).toNat : Int)) := pfX_b (rdN tx ln 30 0).toNat 0
    exact ⟨Or.inr ⟨by omega, rfl, rfl⟩, by omega, h2⟩
  · rw [if_neg q, if_neg q, if_neg q, if_neg q]
    exact ⟨hst, h12, h13⟩
theorem rs_s {s ss snm : Nat → Int} {kp : Int} (hkp : kp = 0 ∨ kp = 1) (hks : kp = 1 → snm = ss) : (if kp = 0 then s else snm) = (if kp = 0 then s else ss) := by
  rcases hkp with rfl | rfl
  · rfl
  · rw [hks rfl]
theorem rs_r {ss snm : Nat → Int} {kp : Int} (hkp : kp = 0 ∨ kp = 1) (hks : kp = 1 → snm = ss) : (if kp = 0 then (-5 : Int) else ss 2) = (if kp = 0 then -5 else snm 2) := by
  rcases hkp with rfl | rfl
  · rfl
  · rw [hks rfl]
theorem rs_z {ss : Nat → Int} {kp : Int} (sz : Nat) (h : IG ss) : (if kp = 0 then (sz : Int) else phZ (sz : Int)) = ((if kp = 0 then sz else rcZ sz (ss 2) : Nat) : Int) := by
  have hb := h.1.base
  unfold phZ rcZ
  (repeat' split) <;> omega
theorem rs_b {ss : Nat → Int} {kp : Int} {sz : Nat} (h : sz ≤ 4) : (if kp = 0 then sz else rcZ sz (ss 2)) ≤ 4 := by
  have := rcZ_b h (ss 2)
  split <;> omega
theorem rs_H {hh s ss : Nat → Int} {hs : Nat → Nat → Int} {kp : Int} {sz : Nat} (h : HR hh hs sz) (hz : sz ≤ 4) (h2 : IG ss) : HR (if kp = 0 then hh else phH hh (sz : Int) s) (if kp = 0 then hs else rcH hs sz s (ss 2)) (if kp = 0 then sz else rcZ sz (ss 2)) := by
  have hb := h2.1.base
  by_cases z : kp = 0
  · rw [if_pos z, if_pos z, if_pos z]; exact h
  · rw [if_neg z, if_neg z, if_neg z]
    unfold rcH rcZ
    rw [if_pos (by omega), if_pos (by omega)]
    exact h.push hz
theorem rs_I {s ss : Nat → Int} {hs : Nat → Nat → Int} {kp : Int} {sz : Nat} (h : ∀ i, i < sz → IG (hs i)) (hz : sz ≤ 4) (h0 : IG s) : ∀ i, i < (if kp = 0 then sz else rcZ sz (ss 2)) → IG ((if kp = 0 then hs else rcH hs sz s (ss 2)) i) := by
  by_cases z : kp = 0
  · rw [if_pos z, if_pos z]; exact h
  · rw [if_neg z, if_neg z]; exact IG.rc h hz h0 _
theorem rs_0 {s ss : Nat → Int} {kp : Int} (h : IG s) (h2 : IG ss) : IG (if kp = 0 then s else ss) := by
  split
  · exact h
  · exact h2
theorem un_0 {s : Nat → Int} {hs : Nat → Nat → Int} {sz : Nat} (h : IG s) (h2 : ∀ i, i < sz → IG (hs i)) : IG (if sz = 0 then s else hs (sz - 1)) := by
  split
  · exact h
  · exact h2 _ (by omega)

set_option maxHeartbeats 4000000 in
set_option maxRecDepth 100000 in
theorem lw_k11 {X : vX} {l : Launch} {G : vC} {nm : String} (hX : VS X l G (yLaw nm) cL_law room_1 8) {L : Nat} {xs : Nat → Int32} (bs : Nat) (o : Nat) (no : Nat → Nat) (be : Nat → Nat) (tr : Nat → Nat) (sn : Nat → Nat) (p : Nat → Nat) (te : Nat → Nat) (b : Nat → Nat) (c : Nat → Nat) (mo : Nat → Nat) (hL : LawS X bs L xs) (hLm : L ≤ 2560) (i : Int) (hi0 : 0 ≤ i) (hi5 : i + 5 ≤ L) (ih : LG X G 949 bs o no be tr sn p te b c mo i) : LG X G 507 bs o no be tr sn p te b c mo i := by
  intro s sb st ss q hs sz ch ki fi se ln th ps W vf W2 vf2 kp sN sE sp hh snm g8 g9 g10 g11 g12 g13 h
  obtain ⟨x1, e1, r1⟩ : ∃ z : Int, xs (i + 1).toNat = jI z ∧ iR z := ⟨_, (jI_as _).symm, jI_rng _⟩
  obtain ⟨x2, e2, r2⟩ : ∃ z : Int, xs (i + 2).toNat = jI z ∧ iR z := ⟨_, (jI_as _).symm, jI_rng _⟩
  obtain ⟨x3, e3, r3⟩ : ∃ z : Int, xs (i + 3).toNat = jI z ∧ iR z := ⟨_, (jI_as _).symm, jI_rng _⟩
  obtain ⟨x4, e4, r4⟩ : ∃ z : Int, xs (i + 4).toNat = jI z ∧ iR z := ⟨_, (jI_as _).symm, jI_rng _⟩
  obtain ⟨h0, h2, hsz, hHR, hHI, hS, hps, hth, hkp, hks, hst, h12, h13, hx, hy⟩ := h
  have hI := h0.1
  have hG := h0.2
  have hI2 := h2.1
  have hb := hI.base
  have h9 := h0.h9
  unfold lW
  obtain ⟨ec, hec, hc0, hc1⟩ := i2c_e (jI x1)
  refine V_aload_n hX dL_law_507 2 rfl ?_
  refine V_aload_n hX dL_law_508 3 rfl ?_
  refine V_iload_n hX dL_law_509 0 rfl ?_
  refine V_iconst hX dL_law_510 ?_
  refine V_iadd hX dL_law_511 rfl ?_
  refine V_sld hX hL (by omega) (by omega) (by omega) e1 dL_law_512 ?_
  refine V_i2c (v := jI ec) hX dL_law_513 hec ?_
  refine V_cV (st := []) (v := .int (jI (if ln < 60 then ln + 1 else -3))) (w' := oH o no be tr sn p te b c kp sN sE ++ (hB G no s ++ (hB G be sb ++ (hB G tr st ++ (hB G sn ss ++ (pW G p q hs sz ++ (sB G te (if ln < 60 then up ch ln.toNat ec else ch) ki fi se (if ln < 60 then ln + 1 else ln) th ps ++ (bB G b true W vf ++ (bB G c false W2 vf2 ++ mB G mo s sp hh snm ch ((sz : Int)) kp ln g8 g9 g10 g11 g12 g13))))))))) hX wc_L_61 (c_X4_type l G o no be tr sn p te b c kp sN sE s sb st ss q hs sz ch ki fi se ln th ps W vf W2 vf2 ec hI hsz hS hps hth (by omega)) (by decide) (by decide) rfl rfl (Nat.le_of_ble_eq_true rfl) dL_law_514 [] (mB G mo s sp hh snm ch ((sz : Int)) kp ln g8 g9 g10 g11 g12 g13) (by simp only [List.append_assoc, List.nil_append, List.append_nil]) 0 rfl rfl (by simp only [List.append_assoc, List.nil_append, List.append_nil]) rfl rfl ?_
  refine V_aload_n hX dL_law_517 1 rfl ?_
  refine V_aload_n hX dL_law_518 3 rfl ?_
  refine V_iload_n hX dL_law_519 0 rfl ?_
  refine V_iconst hX dL_law_520 ?_
  refine V_iadd hX dL_law_521 rfl ?_
  refine V_sld hX hL (by omega) (by omega) (by omega) e1 dL_law_522 ?_
  refine V_i2c (v := jI ec) hX dL_law_523 hec ?_
  refine V_cV (st := [.int (jI (if ln < 60 then ln + 1 else -3))]) (v := .int (jI (if ln < 60 then ln + 1 else -3))) (w' := oH o no be tr sn p te b c kp sN sE ++ (hB G no s ++ (hB G be sb ++ (hB G tr st ++ (hB G sn ss ++ (pW G p q hs sz ++ (sB G te (if ln < 60 then up ch ln.toNat ec else ch) ki fi se (if ln < 60 then ln + 1 else ln) th ps ++ (bB G b true W vf ++ (bB G c false W2 vf2 ++ mB G mo s sp hh snm (if ln < 60 then up ch ln.toNat ec else ch) (sz : Int) kp (if ln < 60 then ln + 1 else ln) g8 g9 g10 g11 g12 g13))))))))) hX wc_L_65 (c_X5_type l G mo s sp hh snm ch ((sz : Int)) kp ln g8 g9 g10 g11 g12 g13 ec (by omega) hS) (by decide) (by decide) rfl rfl (Nat.le_of_ble_eq_true rfl) dL_law_524 (oH o no be tr sn p te b c kp sN sE ++ (hB G no s ++ (hB G be sb ++ (hB G tr st ++ (hB G sn ss ++ (pW G p q hs sz ++ (sB G te (if ln < 60 then up ch ln.toNat ec else ch) ki fi se (if ln < 60 then ln + 1 else ln) th ps ++ (bB G b true W vf ++ bB G c false W2 vf2)))))))) ([]) (by simp only [List.append_assoc, List.nil_append, List.append_nil]) 102 rfl rfl (by simp only [List.append_assoc, List.nil_append, List.append_nil]) rfl rfl ?_
  refine V_icmp_eqv (tgt := 949) hX dL_law_527 (by decide) rfl ?_
  refine V.sub [0, 1, 2, 3] rfl ?_
  exact ih _ _ _ _ _ _ _ _ _ _ _ _ _ _ _ _ _ _ _ _ _ _ _ _ _ _ _ _ _ _ ⟨h0, h2, hsz, hHR, hHI, SI.ty hS ⟨hc0, hc1⟩, hps, hth, hkp, hks, hst, h12, h13, hx, hy⟩

set_option maxHeartbeats 4000000 in
set_option maxRecDepth 100000 in
theorem lw_k12 {X : vX} {l : Launch} {G : vC} {nm : String} (hX : VS X l G (yLaw nm) cL_law room_1 8) {L : Nat} {xs : Nat → Int32} (bs : Nat) (o : Nat) (no : Nat → Nat) (be : Nat → Nat) (tr : Nat → Nat) (sn : Nat → Nat) (p : Nat → Nat) (te : Nat → Nat) (b : Nat → Nat) (c : Nat → Nat) (mo : Nat → Nat) (hL : LawS X bs L xs) (hLm : L ≤ 2560) (i : Int) (hi0 : 0 ≤ i) (hi5 : i + 5 ≤ L) (ih : LG X G 949 bs o no be tr sn p te b c mo i) : LG X G 532 bs o no be tr sn p te b c mo i := by
  intro s sb st ss q hs sz ch ki fi se ln th ps W vf W2 vf2 kp sN sE sp hh snm g8 g9 g10 g11 g12 g13 h
  obtain ⟨x1, e1, r1⟩ : ∃ z : Int, xs (i + 1).toNat = jI z ∧ iR z := ⟨_, (jI_as _).symm, jI_rng _⟩
  obtain ⟨x2, e2, r2⟩ : ∃ z : Int, xs (i + 2).toNat = jI z ∧ iR z := ⟨_, (jI_as _).symm, jI_rng _⟩
  obtain ⟨x3, e3, r3⟩ : ∃ z : Int, xs (i + 3).toNat = jI z ∧ iR z := ⟨_, (jI_as _).symm, jI_rng _⟩
  obtain ⟨x4, e4, r4⟩ : ∃ z : Int, xs (i + 4).toNat = jI z ∧ iR z := ⟨_, (jI_as _).symm, jI_rng _⟩
  obtain ⟨h0, h2, hsz, hHR, hHI, hS, hps, hth, hkp, hks, hst, h12, h13, hx, hy⟩ := h
  have hI := h0.1
  have hG := h0.2
  have hI2 := h2.1
  have hb := hI.base
  have h9 := h0.h9
  unfold lW
  refine V_aload_n hX dL_law_532 2 rfl ?_
  refine V_cV (st := []) (v := .int (jI ln)) (w' := oH o no be tr sn p te b c kp sN sE ++ (hB G no s ++ (hB G be sb ++ (hB G tr st ++ (hB G sn ss ++ (pW G p q hs sz ++ (sB G te ch ki fi se 0 th ps ++ (bB G b true W vf ++ (bB G c false W2 vf2 ++ mB G mo s sp hh snm ch ((sz : Int)) kp ln g8 g9 g10 g11 g12 g13))))))))) hX wc_L_66 (c_X4_clearText l G o no be tr sn p te b c kp sN sE s sb st ss q hs sz ch ki fi se ln th ps W vf W2 vf2 hI hsz hS hps hth) (by decide) (by decide) rfl rfl (Nat.le_of_ble_eq_true rfl) dL_law_533 [] (mB G mo s sp hh snm ch ((sz : Int)) kp ln g8 g9 g10 g11 g12 g13) (by simp only [List.append_assoc, List.nil_append, List.append_nil]) 0 rfl rfl (by simp only [List.append_assoc, List.nil_append, List.append_nil]) rfl rfl ?_
  refine V_aload_n hX dL_law_536 1 rfl ?_
  refine V_cV (st := [.int (jI ln)]) (v := .int (jI ln)) (w' := oH o no be tr sn p te b c kp sN sE ++ (hB G no s ++ (hB G be sb ++ (hB G tr st ++ (hB G sn ss ++ (pW G p q hs sz ++ (sB G te ch ki fi se 0 th ps ++ (bB G b true W vf ++ (bB G c false W2 vf2 ++ mB G mo s sp hh snm ch (sz : Int) kp 0 g8 g9 g10 g11 g12 g13))))))))) hX wc_L_69 (c_X5_clearText l G mo s sp hh snm ch ((sz : Int)) kp ln g8 g9 g10 g11 g12 g13 hS) (by decide) (by decide) rfl rfl (Nat.le_of_ble_eq_true rfl) dL_law_537 (oH o no be tr sn p te b c kp sN sE ++ (hB G no s ++ (hB G be sb ++ (hB G tr st ++ (hB G sn ss ++ (pW G p q hs sz ++ (sB G te ch ki fi se 0 th ps ++ (bB G b true W vf ++ bB G c false W2 vf2)))))))) ([]) (by simp only [List.append_assoc, List.nil_append, List.append_nil]) 102 rfl rfl (by simp only [List.append_assoc, List.nil_append, List.append_nil]) rfl rfl ?_
  refine V_icmp_eqv (tgt := 949) hX dL_law_540 (by decide) rfl ?_
  refine V.sub [0, 1, 2, 3] rfl ?_
  exact ih _ _ _ _ _ _ _ _ _ _ _ _ _ _ _ _ _ _ _ _ _ _ _ _ _ _ _ _ _ _ ⟨h0, h2, hsz, hHR, hHI, hS.z, hps, hth, hkp, hks, hst, h12, h13, hx, hy⟩

set_option maxHeartbeats 4000000 in
set_option maxRecDepth 100000 in
theorem lw_k13 {X : vX} {l : Launch} {G : vC} {nm : String} (hX : VS X l G (yLaw nm) cL_law room_1 8) {L : Nat} {xs : Nat → Int32} (bs : Nat) (o : Nat) (no : Nat → Nat) (be : Nat → Nat) (tr : Nat → Nat) (sn : Nat → Nat) (p : Nat → Nat) (te : Nat → Nat) (b : Nat → Nat) (c : Nat → Nat) (mo : Nat → Nat) (hL : LawS X bs L xs) (hLm : L ≤ 2560) (i : Int) (hi0 : 0 ≤ i) (hi5 : i + 5 ≤ L) (ih : LG X G 949 bs o no be tr sn p te b c mo i) : LG X G 545 bs o no be tr sn p te b c mo i := by
  intro s sb st ss q hs sz ch ki fi se ln th ps W vf W2 vf2 kp sN sE sp hh snm g8 g9 g10 g11 g12 g13 h
  obtain ⟨x1, e1, r1⟩ : ∃ z : Int, xs (i + 1).toNat = jI z ∧ iR z := ⟨_, (jI_as _).symm, jI_rng _⟩
  obtain ⟨x2, e2, r2⟩ : ∃ z : Int, xs (i + 2).toNat = jI z ∧ iR z := ⟨_, (jI_as _).symm, jI_rng _⟩
  obtain ⟨x3, e3, r3⟩ : ∃ z : Int, xs (i + 3).toNat = jI z ∧ iR z := ⟨_, (jI_as _).symm, jI_rng _⟩
  obtain ⟨x4, e4, r4⟩ : ∃ z : Int, xs (i + 4).toNat = jI z ∧ iR z := ⟨_, (jI_as _).symm, jI_rng _⟩
  obtain ⟨h0, h2, hsz, hHR, hHI, hS, hps, hth, hkp, hks, hst, h12, h13, hx, hy⟩ := h
  have hI := h0.1
  have hG := h0.2
  have hI2 := h2.1
  have hb := hI.base
  have h9 := h0.h9
  unfold lW
  refine V_aload_n hX dL_law_545 2 rfl ?_
  refine V_rV (st := []) hX wc_L_70 (c_X4_perform l G o no be tr sn p te b c kp sN sE s sb st ss q hs sz ch ki fi se ln th ps W vf W2 vf2 hI hsz hS hps hth) (by decide) (by decide) rfl rfl (Nat.le_of_ble_eq_true rfl) dL_law_546 [] (mB G mo s sp hh snm ch ((sz : Int)) kp ln g8 g9 g10 g11 g12 g13) (by simp only [List.append_assoc, List.nil_append, List.append_nil]) 0 rfl rfl (fun v_2 u_1 hp_3 => ?_)
  obtain ⟨sb2, ki2, fi2, se2, th2, ps2, W3, vf3, rfl, hbd2, rfl⟩ := hp_3
  refine V.wd (w' := oH o no be tr sn p te b c kp (if pmP s ch ln then pmN s ch ln else sN) (if pmP s ch ln then pfA s ch ln (pmN s ch ln).toNat else sE) ++ (hB G no (pmS s ch ln) ++ (hB G be sb2 ++ (hB G tr st ++ (hB G sn ss ++ (pW G p (rcQ q sz (pmR s ch ln)) (rcH hs sz s (pmR s ch ln)) (rcZ sz (pmR s ch ln)) ++ (sB G te ch ki2 fi2 se2 ln th2 ps2 ++ (bB G b true W3 vf3 ++ (bB G c false W2 vf2 ++ mB G mo s sp hh snm ch ((sz : Int)) kp ln g8 g9 g10 g11 g12 g13))))))))) (by simp only [List.append_assoc, List.nil_append, List.append_nil]) ?_
  refine V_aload_n hX dL_law_549 1 rfl ?_
  refine V_rV (st := [.int (jI (pmR s ch ln))]) hX wc_L_73 (c_X5_perform l G mo s sp hh snm ch ((sz : Int)) kp ln g8 g9 g10 g11 g12 g13 99999 hI (by omega) hS (by omega) (by omega) (by omega) (by omega)) (by decide) (by decide) rfl rfl (Nat.le_of_ble_eq_true rfl) dL_law_550 (oH o no be tr sn p te b c kp (if pmP s ch ln then pmN s ch ln else sN) (if pmP s ch ln then pfA s ch ln (pmN s ch ln).toNat else sE) ++ (hB G no (pmS s ch ln) ++ (hB G be sb2 ++ (hB G tr st ++ (hB G sn ss ++ (pW G p (rcQ q sz (pmR s ch ln)) (rcH hs sz s (pmR s ch ln)) (rcZ sz (pmR s ch ln)) ++ (sB G te ch ki2 fi2 se2 ln th2 ps2 ++ (bB G b true W3 vf3 ++ bB G c false W2 vf2)))))))) ([]) (by simp only [List.append_assoc, List.nil_append, List.append_nil]) 102 rfl rfl (fun v_5 u_4 hp_6 => ?_)
  obtain ⟨sp2, x8, x9, x10, x11, rfl, hxb, rfl⟩ := hp_6
  refine V.wd (w' := oH o no be tr sn p te b c kp (if pmP s ch ln then pmN s ch ln else sN) (if pmP s ch ln then pfA s ch ln (pmN s ch ln).toNat else sE) ++ (hB G no (pmS s ch ln) ++ (hB G be sb2 ++ (hB G tr st ++ (hB G sn ss ++ (pW G p (rcQ q sz (pmR s ch ln)) (rcH hs sz s (pmR s ch ln)) (rcZ sz (pmR s ch ln)) ++ (sB G te ch ki2 fi2 se2 ln th2 ps2 ++ (bB G b true W3 vf3 ++ (bB G c false W2 vf2 ++ mB G mo (pmS s ch ln) sp2 (mcH hh (sz : Int) s (pmR s ch ln)) snm ch (mcZ (sz : Int) (pmR s ch ln)) kp ln x8 x9 x10 x11 (if pmP s ch ln then pmN s ch ln else g12) (if pmP s ch ln then pfA s ch ln (pmN s ch ln).toNat else g13)))))))))) (by simp only [List.append_assoc, List.nil_append, List.append_nil]) ?_
  refine V_icmp_eqv (tgt := 949) hX dL_law_553 (by decide) rfl ?_
  refine V.wd (w' := oH o no be tr sn p te b c kp (if pmP s ch ln then pmN s ch ln else sN) (if pmP s ch ln then pfA s ch ln (pmN s ch ln).toNat else sE) ++ (hB G no (pmS s ch ln) ++ (hB G be sb2 ++ (hB G tr st ++ (hB G sn ss ++ (pW G p (rcQ q sz (pmR s ch ln)) (rcH hs sz s (pmR s ch ln)) (rcZ sz (pmR s ch ln)) ++ (sB G te ch ki2 fi2 se2 ln th2 ps2 ++ (bB G b true W3 vf3 ++ (bB G c false W2 vf2 ++ mB G mo (pmS s ch ln) sp2 (mcH hh (sz : Int) s (pmR s ch ln)) snm ch (((rcZ sz (pmR s ch ln) : Nat) : Int)) kp ln x8 x9 x10 x11 (if pmP s ch ln then pmN s ch ln else g12) (if pmP s ch ln then pfA s ch ln (pmN s ch ln).toNat else g13)))))))))) (app_c rfl (app_c rfl (app_c rfl (app_c rfl (app_c rfl (app_c rfl (app_c rfl (app_c rfl (app_c rfl (mB_c rfl rfl rfl rfl rfl (mc_rc sz _) rfl rfl rfl rfl rfl rfl rfl rfl)))))))))) ?_
  refine V.sub [0, 1, 2, 3] rfl ?_
  exact ih _ _ _ _ _ _ _ _ _ _ _ _ _ _ _ _ _ _ _ _ _ _ _ _ _ _ _ _ _ _ ⟨h0.pm ln, h2, rcZ_b hsz _, hHR.rc hsz _, IG.rc hHI hsz h0 _, hS, ⟨hbd2.2.2.1, hbd2.2.2.2⟩, ⟨hbd2.1, hbd2.2.1⟩, hkp, hks, (pm_st h0 hst h12 h13).1, (pm_st h0 hst h12 h13).2.1, (pm_st h0 hst h12 h13).2.2, ⟨hxb.1, hxb.2.1⟩, ⟨hxb.2.2.1, hxb.2.2.2⟩⟩

set_option maxHeartbeats 4000000 in
set_option maxRecDepth 100000 in
theorem lw_k14 {X : vX} {l : Launch} {G : vC} {nm : String} (hX : VS X l G (yLaw nm) cL_law room_1 8) {L : Nat} {xs : Nat → Int32} (bs : Nat) (o : Nat) (no : Nat → Nat) (be : Nat → Nat) (tr : Nat → Nat) (sn : Nat → Nat) (p : Nat → Nat) (te : Nat → Nat) (b : Nat → Nat) (c : Nat → Nat) (mo : Nat → Nat) (hL : LawS X bs L xs) (hLm : L ≤ 2560) (i : Int) (hi0 : 0 ≤ i) (hi5 : i + 5 ≤ L) (ih : LG X G 949 bs o no be tr sn p te b c mo i) : LG X G 558 bs o no be tr sn p te b c mo i := by
  intro s sb st ss q hs sz ch ki fi se ln th ps W vf W2 vf2 kp sN sE sp hh snm g8 g9 g10 g11 g12 g13 h
  obtain ⟨x1, e1, r1⟩ : ∃ z : Int, xs (i + 1).toNat = jI z ∧ iR z := ⟨_, (jI_as _).symm, jI_rng _⟩
  obtain ⟨x2, e2, r2⟩ : ∃ z : Int, xs (i + 2).toNat = jI z ∧ iR z := ⟨_, (jI_as _).symm, jI_rng _⟩
  obtain ⟨x3, e3, r3⟩ : ∃ z : Int, xs (i + 3).toNat = jI z ∧ iR z := ⟨_, (jI_as _).symm, jI_rng _⟩
  obtain ⟨x4, e4, r4⟩ : ∃ z : Int, xs (i + 4).toNat = jI z ∧ iR z := ⟨_, (jI_as _).symm, jI_rng _⟩
  obtain ⟨h0, h2, hsz, hHR, hHI, hS, hps, hth, hkp, hks, hst, h12, h13, hx, hy⟩ := h
  have hI := h0.1
  have hG := h0.2
  have hI2 := h2.1
  have hb := hI.base
  have h9 := h0.h9
  unfold lW
  refine V_aload_n hX dL_law_558 2 rfl ?_
  refine V_aload_n hX dL_law_559 3 rfl ?_
  refine V_iload_n hX dL_law_560 0 rfl ?_
  refine V_iconst hX dL_law_561 ?_
  refine V_iadd hX dL_law_562 rfl ?_
  refine V_sld hX hL (by omega) (by omega) (by omega) e1 dL_law_563 ?_
  refine V_cV (st := []) (v := .int (jI (if x1 = 0 then sN else if x1 = 1 then sE else -2))) (w' := oH o no be tr sn p te b c kp sN sE ++ (hB G no s ++ (hB G be sb ++ (hB G tr st ++ (hB G sn ss ++ (pW G p q hs sz ++ (sB G te ch ki fi se ln th ps ++ (bB G b true W vf ++ (bB G c false W2 vf2 ++ mB G mo s sp hh snm ch ((sz : Int)) kp ln g8 g9 g10 g11 g12 g13))))))))) hX wc_L_74 (c_X4_stopped l G o no be tr sn p te b c kp sN sE s sb st ss q hs sz ch ki fi se ln th ps W vf W2 vf2 x1 hI hsz (by omega)) (by decide) (by decide) rfl rfl (Nat.le_of_ble_eq_true rfl) dL_law_564 [] (mB G mo s sp hh snm ch ((sz : Int)) kp ln g8 g9 g10 g11 g12 g13) (by simp only [List.append_assoc, List.nil_append, List.append_nil]) 0 rfl rfl (by simp only [List.append_assoc, List.nil_append, List.append_nil]) rfl rfl ?_
  refine V_aload_n hX dL_law_567 1 rfl ?_
  refine V_aload_n hX dL_law_568 3 rfl ?_
  refine V_iload_n hX dL_law_569 0 rfl ?_
  refine V_iconst hX dL_law_570 ?_
  refine V_iadd hX dL_law_571 rfl ?_
  refine V_sld hX hL (by omega) (by omega) (by omega) e1 dL_law_572 ?_
  refine V_cV (st := [.int (jI (if x1 = 0 then sN else if x1 = 1 then sE else -2))]) (v := .int (jI (if 0 ≤ x1 ∧ x1 ≤ 1 then (if g13 = 0 then -5 else if x1 = 0 then g12 else g13) else -2))) (w' := oH o no be tr sn p te b c kp sN sE ++ (hB G no s ++ (hB G be sb ++ (hB G tr st ++ (hB G sn ss ++ (pW G p q hs sz ++ (sB G te ch ki fi se ln th ps ++ (bB G b true W vf ++ (bB G c false W2 vf2 ++ mB G mo s sp hh snm ch (sz : Int) kp ln g8 g9 g10 g11 g12 g13))))))))) hX wc_L_77 (c_X5_stopped l G mo s sp hh snm ch ((sz : Int)) kp ln g8 g9 g10 g11 g12 g13 x1 (by omega) (by omega) (by omega)) (by decide) (by decide) rfl rfl (Nat.le_of_ble_eq_true rfl) dL_law_573 (oH o no be tr sn p te b c kp sN sE ++ (hB G no s ++ (hB G be sb ++ (hB G tr st ++ (hB G sn ss ++ (pW G p q hs sz ++ (sB G te ch ki fi se ln th ps ++ (bB G b true W vf ++ bB G c false W2 vf2)))))))) ([]) (by simp only [List.append_assoc, List.nil_append, List.append_nil]) 102 rfl rfl (by simp only [List.append_assoc, List.nil_append, List.append_nil]) rfl rfl ?_
  refine V_icmp_eqv (tgt := 949) hX dL_law_576 (by decide) (congrArg jI (by (repeat' split) <;> omega)) ?_
  refine V.sub [0, 1, 2, 3] rfl ?_
  exact ih _ _ _ _ _ _ _ _ _ _ _ _ _ _ _ _ _ _ _ _ _ _ _ _ _ _ _ _ _ _ ⟨h0, h2, hsz, hHR, hHI, hS, hps, hth, hkp, hks, hst, h12, h13, hx, hy⟩

set_option maxHeartbeats 4000000 in
set_option maxRecDepth 100000 in
theorem lw_k15 {X : vX} {l : Launch} {G : vC} {nm : String} (hX : VS X l G (yLaw nm) cL_law room_1 8) {L : Nat} {xs : Nat → Int32} (bs : Nat) (o : Nat) (no : Nat → Nat) (be : Nat → Nat) (tr : Nat → Nat) (sn : Nat → Nat) (p : Nat → Nat) (te : Nat → Nat) (b : Nat → Nat) (c : Nat → Nat) (mo : Nat → Nat) (hL : LawS X bs L xs) (hLm : L ≤ 2560) (i : Int) (hi0 : 0 ≤ i) (hi5 : i + 5 ≤ L) (ih : LG X G 949 bs o no be tr sn p te b c mo i) : LG X G 581 bs o no be tr sn p te b c mo i := by
  intro s sb st ss q hs sz ch ki fi se ln th ps W vf W2 vf2 kp sN sE sp hh snm g8 g9 g10 g11 g12 g13 h
  obtain ⟨x1, e1, r1⟩ : ∃ z : Int, xs (i + 1).toNat = jI z ∧ iR z := ⟨_, (jI_as _).symm, jI_rng _⟩
  obtain ⟨x2, e2, r2⟩ : ∃ z : Int, xs (i + 2).toNat = jI z ∧ iR z := ⟨_, (jI_as _).symm, jI_rng _⟩
  obtain ⟨x3, e3, r3⟩ : ∃ z : Int, xs (i + 3).toNat = jI z ∧ iR z := ⟨_, (jI_as _).symm, jI_rng _⟩
  obtain ⟨x4, e4, r4⟩ : ∃ z : Int, xs (i + 4).toNat = jI z ∧ iR z := ⟨_, (jI_as _).symm, jI_rng _⟩
  obtain ⟨h0, h2, hsz, hHR, hHI, hS, hps, hth, hkp, hks, hst, h12, h13, hx, hy⟩ := h
  have hI := h0.1
  have hG := h0.2
  have hI2 := h2.1
  have hb := hI.base
  have h9 := h0.h9
  unfold lW
  refine V_aload_n hX dL_law_581 2 rfl ?_
  refine V_cV (st := []) (v := .int (jI (if sz = 0 then -5 else (sz : Int) - 1))) (w' := oH o no be tr sn p te b c kp sN sE ++ (hB G no (if sz = 0 then s else hs (sz - 1)) ++ (hB G be sb ++ (hB G tr st ++ (hB G sn ss ++ (pW G p q hs (sz - 1) ++ (sB G te ch ki fi se ln th ps ++ (bB G b true W vf ++ (bB G c false W2 vf2 ++ mB G mo s sp hh snm ch ((sz : Int)) kp ln g8 g9 g10 g11 g12 g13))))))))) hX wc_L_78 (c_X4_undo l G o no be tr sn p te b c kp sN sE s sb st ss q hs sz ch ki fi se ln th ps W vf W2 vf2 hI hsz) (by decide) (by decide) rfl rfl (Nat.le_of_ble_eq_true rfl) dL_law_582 [] (mB G mo s sp hh snm ch ((sz : Int)) kp ln g8 g9 g10 g11 g12 g13) (by simp only [List.append_assoc, List.nil_append, List.append_nil]) 0 rfl rfl (by simp only [List.append_assoc, List.nil_append, List.append_nil]) rfl rfl ?_
  refine V_aload_n hX dL_law_585 1 rfl ?_
  refine V_cV (st := [.int (jI (if sz = 0 then -5 else (sz : Int) - 1))]) (v := .int (jI (if ((sz : Int)) = 0 then -5 else ((sz : Int)) - 1))) (w' := oH o no be tr sn p te b c kp sN sE ++ (hB G no (if sz = 0 then s else hs (sz - 1)) ++ (hB G be sb ++ (hB G tr st ++ (hB G sn ss ++ (pW G p q hs (sz - 1) ++ (sB G te ch ki fi se ln th ps ++ (bB G b true W vf ++ (bB G c false W2 vf2 ++ mB G mo (if ((sz : Int)) = 0 then s else roH hh (((sz : Int)) - 1)) sp hh snm ch (if ((sz : Int)) = 0 then ((sz : Int)) else ((sz : Int)) - 1) kp ln g8 g9 g10 g11 g12 g13))))))))) hX wc_L_81 (c_X5_undo l G mo s sp hh snm ch ((sz : Int)) kp ln g8 g9 g10 g11 g12 g13 (by omega)) (by decide) (by decide) rfl rfl (Nat.le_of_ble_eq_true rfl) dL_law_586 (oH o no be tr sn p te b c kp sN sE ++ (hB G no (if sz = 0 then s else hs (sz - 1)) ++ (hB G be sb ++ (hB G tr st ++ (hB G sn ss ++ (pW G p q hs (sz - 1) ++ (sB G te ch ki fi se ln th ps ++ (bB G b true W vf ++ bB G c false W2 vf2)))))))) ([]) (by simp only [List.append_assoc, List.nil_append, List.append_nil]) 102 rfl rfl (by simp only [List.append_assoc, List.nil_append, List.append_nil]) rfl rfl ?_
  refine V_icmp_eqv (tgt := 949) hX dL_law_589 (by decide) (congrArg jI (by (repeat' split) <;> omega)) ?_
  refine V.fn hX 103 (g := mI (if sz = 0 then s else hs (sz - 1))) (w' := oH o no be tr sn p te b c kp sN sE ++ (hB G no (if sz = 0 then s else hs (sz - 1)) ++ (hB G be sb ++ (hB G tr st ++ (hB G sn ss ++ (pW G p q hs (sz - 1) ++ (sB G te ch ki fi se ln th ps ++ (bB G b true W vf ++ (bB G c false W2 vf2 ++ mB G mo (if sz = 0 then s else hs (sz - 1)) sp hh snm ch (if ((sz : Int)) = 0 then ((sz : Int)) else ((sz : Int)) - 1) kp ln g8 g9 g10 g11 g12 g13))))))))) rfl (fun j hj => congrArg jI (un_eq hHR hj)) rfl ?_
  refine V.wd (w' := oH o no be tr sn p te b c kp sN sE ++ (hB G no (if sz = 0 then s else hs (sz - 1)) ++ (hB G be sb ++ (hB G tr st ++ (hB G sn ss ++ (pW G p q hs (sz - 1) ++ (sB G te ch ki fi se ln th ps ++ (bB G b true W vf ++ (bB G c false W2 vf2 ++ mB G mo (if sz = 0 then s else hs (sz - 1)) sp hh snm ch (((sz - 1 : Nat) : Int)) kp ln g8 g9 g10 g11 g12 g13))))))))) (app_c rfl (app_c rfl (app_c rfl (app_c rfl (app_c rfl (app_c rfl (app_c rfl (app_c rfl (app_c rfl (mB_c rfl rfl rfl rfl rfl (by split <;> omega) rfl rfl rfl rfl rfl rfl rfl rfl)))))))))) ?_
  refine V.sub [0, 1, 2, 3] rfl ?_
  exact ih _ _ _ _ _ _ _ _ _ _ _ _ _ _ _ _ _ _ _ _ _ _ _ _ _ _ _ _ _ _ ⟨un_0 h0 hHI, h2, by omega, fun i j a b => hHR i j (by omega) b, fun i a => hHI i (by omega), hS, hps, hth, hkp, hks, hst, h12, h13, hx, hy⟩

set_option maxHeartbeats 4000000 in
set_option maxRecDepth 100000 in
theorem lw_k16 {X : vX} {l : Launch} {G : vC} {nm : String} (hX : VS X l G (yLaw nm) cL_law room_1 8) {L : Nat} {xs : Nat → Int32} (bs : Nat) (o : Nat) (no : Nat → Nat) (be : Nat → Nat) (tr : Nat → Nat) (sn : Nat → Nat) (p : Nat → Nat) (te : Nat → Nat) (b : Nat → Nat) (c : Nat → Nat) (mo : Nat → Nat) (hL : LawS X bs L xs) (hLm : L ≤ 2560) (i : Int) (hi0 : 0 ≤ i) (hi5 : i + 5 ≤ L) (ih : LG X G 949 bs o no be tr sn p te b c mo i) : LG X G 594 bs o no be tr sn p te b c mo i := by
  intro s sb st ss q hs sz ch ki fi se ln th ps W vf W2 vf2 kp sN sE sp hh snm g8 g9 g10 g11 g12 g13 h
  obtain ⟨x1, e1, r1⟩ : ∃ z : Int, xs (i + 1).toNat = jI z ∧ iR z := ⟨_, (jI_as _).symm, jI_rng _⟩
  obtain ⟨x2, e2, r2⟩ : ∃ z : Int, xs (i + 2).toNat = jI z ∧ iR z := ⟨_, (jI_as _).symm, jI_rng _⟩
  obtain ⟨x3, e3, r3⟩ : ∃ z : Int, xs (i + 3).toNat = jI z ∧ iR z := ⟨_, (jI_as _).symm, jI_rng _⟩
  obtain ⟨x4, e4, r4⟩ : ∃ z : Int, xs (i + 4).toNat = jI z ∧ iR z := ⟨_, (jI_as _).symm, jI_rng _⟩
  obtain ⟨h0, h2, hsz, hHR, hHI, hS, hps, hth, hkp, hks, hst, h12, h13, hx, hy⟩ := h
  have hI := h0.1
  have hG := h0.2
  have hI2 := h2.1
  have hb := hI.base
  have h9 := h0.h9
  unfold lW
  refine V_aload_n hX dL_law_594 2 rfl ?_
  refine V_cV (st := []) (v := .int (jI (s 2))) (w' := oH o no be tr sn p te b c 1 sN sE ++ (hB G no s ++ (hB G be sb ++ (hB G tr st ++ (hB G sn s ++ (pW G p q hs sz ++ (sB G te ch ki fi se ln th ps ++ (bB G b true W vf ++ (bB G c false W2 vf2 ++ mB G mo s sp hh snm ch ((sz : Int)) kp ln g8 g9 g10 g11 g12 g13))))))))) hX wc_L_82 (c_X4_keep l G o no be tr sn p te b c kp sN sE s sb st ss q hs sz ch ki fi se ln th ps W vf W2 vf2 hI hsz) (by decide) (by decide) rfl rfl (Nat.le_of_ble_eq_true rfl) dL_law_595 [] (mB G mo s sp hh snm ch ((sz : Int)) kp ln g8 g9 g10 g11 g12 g13) (by simp only [List.append_assoc, List.nil_append, List.append_nil]) 0 rfl rfl (by simp only [List.append_assoc, List.nil_append, List.append_nil]) rfl rfl ?_
  refine V_aload_n hX dL_law_598 1 rfl ?_
  refine V_cV (st := [.int (jI (s 2))]) (v := .int (jI (s 2))) (w' := oH o no be tr sn p te b c 1 sN sE ++ (hB G no s ++ (hB G be sb ++ (hB G tr st ++ (hB G sn s ++ (pW G p q hs sz ++ (sB G te ch ki fi se ln th ps ++ (bB G b true W vf ++ (bB G c false W2 vf2 ++ mB G mo s sp hh s ch (sz : Int) 1 ln g8 g9 g10 g11 g12 g13))))))))) hX wc_L_85 (c_X5_keep l G mo s sp hh snm ch ((sz : Int)) kp ln g8 g9 g10 g11 g12 g13 99999 hI) (by decide) (by decide) rfl rfl (Nat.le_of_ble_eq_true rfl) dL_law_599 (oH o no be tr sn p te b c 1 sN sE ++ (hB G no s ++ (hB G be sb ++ (hB G tr st ++ (hB G sn s ++ (pW G p q hs sz ++ (sB G te ch ki fi se ln th ps ++ (bB G b true W vf ++ bB G c false W2 vf2)))))))) ([]) (by simp only [List.append_assoc, List.nil_append, List.append_nil]) 102 rfl rfl (by simp only [List.append_assoc, List.nil_append, List.append_nil]) rfl rfl ?_
  refine V_icmp_eqv (tgt := 949) hX dL_law_602 (by decide) rfl ?_
  refine V.sub [0, 1, 2, 3] rfl ?_
  exact ih _ _ _ _ _ _ _ _ _ _ _ _ _ _ _ _ _ _ _ _ _ _ _ _ _ _ _ _ _ _ ⟨h0, h0, hsz, hHR, hHI, hS, hps, hth, Or.inr rfl, fun _ => rfl, hst, h12, h13, hx, hy⟩

set_option maxHeartbeats 4000000 in
set_option maxRecDepth 100000 in
theorem lw_k17 {X : vX} {l : Launch} {G : vC} {nm : String} (hX : VS X l G (yLaw nm) cL_law room_1 8) {L : Nat} {xs : Nat → Int32} (bs : Nat) (o : Nat) (no : Nat → Nat) (be : Nat → Nat) (tr : Nat → Nat) (sn : Nat → Nat) (p : Nat → Nat) (te : Nat → Nat) (b : Nat → Nat) (c : Nat → Nat) (mo : Nat → Nat) (hL : LawS X bs L xs) (hLm : L ≤ 2560) (i : Int) (hi0 : 0 ≤ i) (hi5 : i + 5 ≤ L) (ih : LG X G 949 bs o no be tr sn p te b c mo i) : LG X G 607 bs o no be tr sn p te b c mo i := by
  intro s sb st ss q hs sz ch ki fi se ln th ps W vf W2 vf2 kp sN sE sp hh snm g8 g9 g10 g11 g12 g13 h
  obtain ⟨x1, e1, r1⟩ : ∃ z : Int, xs (i + 1).toNat = jI z ∧ iR z := ⟨_, (jI_as _).symm, jI_rng _⟩
  obtain ⟨x2, e2, r2⟩ : ∃ z : Int, xs (i + 2).toNat = jI z ∧ iR z := ⟨_, (jI_as _).symm, jI_rng _⟩
  obtain ⟨x3, e3, r3⟩ : ∃ z : Int, xs (i + 3).toNat = jI z ∧ iR z := ⟨_, (jI_as _).symm, jI_rng _⟩
  obtain ⟨x4, e4, r4⟩ : ∃ z : Int, xs (i + 4).toNat = jI z ∧ iR z := ⟨_, (jI_as _).symm, jI_rng _⟩
  obtain ⟨h0, h2, hsz, hHR, hHI, hS, hps, hth, hkp, hks, hst, h12, h13, hx, hy⟩ := h
  have hI := h0.1
  have hG := h0.2
  have hI2 := h2.1
  have hb := hI.base
  have h9 := h0.h9
  unfold lW
  refine V_aload_n hX dL_law_607 2 rfl ?_
  refine V_cV (st := []) (v := .int (jI (if kp = 0 then -5 else ss 2))) (w' := oH o no be tr sn p te b c kp sN sE ++ (hB G no (if kp = 0 then s else ss) ++ (hB G be (if kp = 0 then sb else s) ++ (hB G tr st ++ (hB G sn ss ++ (pW G p (if kp = 0 then q else rcQ q sz (ss 2)) (if kp = 0 then hs else rcH hs sz s (ss 2)) (if kp = 0 then sz else rcZ sz (ss 2)) ++ (sB G te ch ki fi se ln th ps ++ (bB G b true W vf ++ (bB G c false W2 vf2 ++ mB G mo s sp hh snm ch ((sz : Int)) kp ln g8 g9 g10 g11 g12 g13))))))))) hX wc_L_86 (c_X4_restore l G o no be tr sn p te b c kp sN sE s sb st ss q hs sz ch ki fi se ln th ps W vf W2 vf2 hI hsz (by omega) (by omega)) (by decide) (by decide) rfl rfl (Nat.le_of_ble_eq_true rfl) dL_law_608 [] (mB G mo s sp hh snm ch ((sz : Int)) kp ln g8 g9 g10 g11 g12 g13) (by simp only [List.append_assoc, List.nil_append, List.append_nil]) 0 rfl rfl (by simp only [List.append_assoc, List.nil_append, List.append_nil]) rfl rfl ?_
  refine V_aload_n hX dL_law_611 1 rfl ?_
  refine V_cV (st := [.int (jI (if kp = 0 then -5 else ss 2))]) (v := .int (jI (if kp = 0 then -5 else snm 2))) (w' := oH o no be tr sn p te b c kp sN sE ++ (hB G no (if kp = 0 then s else ss) ++ (hB G be (if kp = 0 then sb else s) ++ (hB G tr st ++ (hB G sn ss ++ (pW G p (if kp = 0 then q else rcQ q sz (ss 2)) (if kp = 0 then hs else rcH hs sz s (ss 2)) (if kp = 0 then sz else rcZ sz (ss 2)) ++ (sB G te ch ki fi se ln th ps ++ (bB G b true W vf ++ (bB G c false W2 vf2 ++ mB G mo (if kp = 0 then s else snm) (if kp = 0 then sp else s) (if kp = 0 then hh else phH hh ((sz : Int)) s) snm ch (if kp = 0 then ((sz : Int)) else phZ ((sz : Int))) kp ln g8 g9 g10 g11 g12 g13))))))))) hX wc_L_89 (c_X5_restore l G mo s sp hh snm ch ((sz : Int)) kp ln g8 g9 g10 g11 g12 g13 (by omega) (by omega)) (by decide) (by decide) rfl rfl (Nat.le_of_ble_eq_true rfl) dL_law_612 (oH o no be tr sn p te b c kp sN sE ++ (hB G no (if kp = 0 then s else ss) ++ (hB G be (if kp = 0 then sb else s) ++ (hB G tr st ++ (hB G sn ss ++ (pW G p (if kp = 0 then q else rcQ q sz (ss 2)) (if kp = 0 then hs else rcH hs sz s (ss 2)) (if kp = 0 then sz else rcZ sz (ss 2)) ++ (sB G te ch ki fi se ln th ps ++ (bB G b true W vf ++ bB G c false W2 vf2)))))))) ([]) (by simp only [List.append_assoc, List.nil_append, List.append_nil]) 102 rfl rfl (by simp only [List.append_assoc, List.nil_append, List.append_nil]) rfl rfl ?_
  refine V_icmp_eqv (tgt := 949) hX dL_law_615 (by decide) (congrArg jI (rs_r hkp hks)) ?_
  refine V.wd (w' := oH o no be tr sn p te b c kp sN sE ++ (hB G no (if kp = 0 then s else ss) ++ (hB G be (if kp = 0 then sb else s) ++ (hB G tr st ++ (hB G sn ss ++ (pW G p (if kp = 0 then q else rcQ q sz (ss 2)) (if kp = 0 then hs else rcH hs sz s (ss 2)) (if kp = 0 then sz else rcZ sz (ss 2)) ++ (sB G te ch ki fi se ln th ps ++ (bB G b true W vf ++ (bB G c false W2 vf2 ++ mB G mo (if kp = 0 then s else ss) (if kp = 0 then sp else s) (if kp = 0 then hh else phH hh ((sz : Int)) s) snm ch (((if kp = 0 then sz else rcZ sz (ss 2) : Nat) : Int)) kp ln g8 g9 g10 g11 g12 g13))))))))) (app_c rfl (app_c rfl (app_c rfl (app_c rfl (app_c rfl (app_c rfl (app_c rfl (app_c rfl (app_c rfl (mB_c (rs_s hkp hks) rfl rfl rfl rfl (rs_z sz h2) rfl rfl rfl rfl rfl rfl rfl rfl)))))))))) ?_
  refine V.sub [0, 1, 2, 3] rfl ?_
  exact ih _ _ _ _ _ _ _ _ _ _ _ _ _ _ _ _ _ _ _ _ _ _ _ _ _ _ _ _ _ _ ⟨rs_0 h0 h2, h2, rs_b hsz, rs_H hHR hsz h2, rs_I hHI hsz h0, hS, hps, hth, hkp, hks, hst, h12, h13, hx, hy⟩

set_option maxHeartbeats 4000000 in
set_option maxRecDepth 100000 in
theorem lw_k19 {X : vX} {l : Launch} {G : vC} {nm : String} (hX : VS X l G (yLaw nm) cL_law room_1 8) {L : Nat} {xs : Nat → Int32} (bs : Nat) (o : Nat) (no : Nat → Nat) (be : Nat → Nat) (tr : Nat → Nat) (sn : Nat → Nat) (p : Nat → Nat) (te : Nat → Nat) (b : Nat → Nat) (c : Nat → Nat) (mo : Nat → Nat) (hL : LawS X bs L xs) (hLm : L ≤ 2560) (i : Int) (hi0 : 0 ≤ i) (hi5 : i + 5 ≤ L) (ih : LG X G 949 bs o no be tr sn p te b c mo i) : LG X G 653 bs o no be tr sn p te b c mo i := by
  intro s sb st ss q hs sz ch ki fi se ln th ps W vf W2 vf2 kp sN sE sp hh snm g8 g9 g10 g11 g12 g13 h
  obtain ⟨x1, e1, r1⟩ : ∃ z : Int, xs (i + 1).toNat = jI z ∧ iR z := ⟨_, (jI_as _).symm, jI_rng _⟩
  obtain ⟨x2, e2, r2⟩ : ∃ z : Int, xs (i + 2).toNat = jI z ∧ iR z := ⟨_, (jI_as _).symm, jI_rng _⟩
  obtain ⟨x3, e3, r3⟩ : ∃ z : Int, xs (i + 3).toNat = jI z ∧ iR z := ⟨_, (jI_as _).symm, jI_rng _⟩
  obtain ⟨x4, e4, r4⟩ : ∃ z : Int, xs (i + 4).toNat = jI z ∧ iR z := ⟨_, (jI_as _).symm, jI_rng _⟩
  obtain ⟨h0, h2, hsz, hHR, hHI, hS, hps, hth, hkp, hks, hst, h12, h13, hx, hy⟩ := h
  have hI := h0.1
  have hG := h0.2
  have hI2 := h2.1
  have hb := hI.base
  have h9 := h0.h9
  unfold lW
  refine V_aload_n hX dL_law_653 2 rfl ?_
  refine V_aload_n hX dL_law_654 3 rfl ?_
  refine V_iload_n hX dL_law_655 0 rfl ?_
  refine V_iconst hX dL_law_656 ?_
  refine V_iadd hX dL_law_657 rfl ?_
  refine V_sld hX hL (by omega) (by omega) (by omega) e1 dL_law_658 ?_
  refine V_cV (st := []) (v := .double (srR s x1)) (w' := oH o no be tr sn p te b c kp sN sE ++ (hB G no s ++ (hB G be sb ++ (hB G tr st ++ (hB G sn ss ++ (pW G p q hs sz ++ (sB G te ch ki fi se ln th ps ++ (bB G b true W vf ++ (bB G c false W2 vf2 ++ mB G mo s sp hh snm ch ((sz : Int)) kp ln g8 g9 g10 g11 g12 g13))))))))) hX wc_L_94 (c_X4_straw l G o no be tr sn p te b c kp sN sE s sb st ss q hs sz ch ki fi se ln th ps W vf W2 vf2 x1 hI hsz (by omega)) (by decide) (by decide) rfl rfl (Nat.le_of_ble_eq_true rfl) dL_law_659 [] (mB G mo s sp hh snm ch ((sz : Int)) kp ln g8 g9 g10 g11 g12 g13) (by simp only [List.append_assoc, List.nil_append, List.append_nil]) 0 rfl rfl (by simp only [List.append_assoc, List.nil_append, List.append_nil]) rfl rfl ?_
  refine V_dstore (i := 4) (lv' := [(4, .double (srR s x1)), (3, .int (jI i)), (2, .ref (mo 0)), (1, .ref (o)), (0, .ref (bs))]) hX dL_law_662 (by decide) rfl ?_
  refine V_aload_n hX dL_law_664 2 rfl ?_
  refine V_aload_n hX dL_law_665 4 rfl ?_
  refine V_iload_n hX dL_law_666 1 rfl ?_
  refine V_iconst hX dL_law_667 ?_
  refine V_iadd hX dL_law_668 rfl ?_
  refine V_sld hX hL (by omega) (by omega) (by omega) e1 dL_law_669 ?_
  refine V_cV (st := []) (v := .double (srR s x1)) (w' := oH o no be tr sn p te b c kp sN sE ++ (hB G no s ++ (hB G be sb ++ (hB G tr st ++ (hB G sn ss ++ (pW G p q hs sz ++ (sB G te ch ki fi se ln th ps ++ (bB G b true W vf ++ (bB G c false W2 vf2 ++ mB G mo s sp hh snm ch (sz : Int) kp ln g8 g9 g10 g11 g12 g13))))))))) hX wc_L_98 (c_X5_straw l G mo s sp hh snm ch ((sz : Int)) kp ln g8 g9 g10 g11 g12 g13 99999 x1 hI (by omega)) (by decide) (by decide) rfl rfl (Nat.le_of_ble_eq_true rfl) dL_law_670 (oH o no be tr sn p te b c kp sN sE ++ (hB G no s ++ (hB G be sb ++ (hB G tr st ++ (hB G sn ss ++ (pW G p q hs sz ++ (sB G te ch ki fi se ln th ps ++ (bB G b true W vf ++ bB G c false W2 vf2)))))))) ([]) (by simp only [List.append_assoc, List.nil_append, List.append_nil]) 102 rfl rfl (by simp only [List.append_assoc, List.nil_append, List.append_nil]) rfl rfl ?_
  refine V_dstore (i := 6) (lv' := [(6, .double (srR s x1)), (4, .double (srR s x1)), (3, .int (jI i)), (2, .ref (mo 0)), (1, .ref (o)), (0, .ref (bs))]) hX dL_law_673 (by decide) rfl ?_
  obtain ⟨rr, hrr, hri⟩ : ∃ z : Int, Op.cmpValue (FP.dcmp (srR s x1) (srR s x1)) .l = jI z ∧ iR z := ⟨_, (jI_as _).symm, jI_rng _⟩
  refine V_dload hX dL_law_675 1 rfl ?_
  refine V_dload hX dL_law_677 0 rfl ?_
  refine V_dcmp hX dL_law_679 hrr ?_
  refine V_if_eq (tgt := 701) hX dL_law_680 (by decide) (by omega) (fun c_1 => ?_) (fun c_1 => ?_)
  · refine V_goto (tgt := 949) hX dL_law_701 (by decide) ?_
    refine V.sub [2, 3, 4, 5] rfl ?_
    exact ih _ _ _ _ _ _ _ _ _ _ _ _ _ _ _ _ _ _ _ _ _ _ _ _ _ _ _ _ _ _ ⟨h0, h2, hsz, hHR, hHI, hS, hps, hth, hkp, hks, hst, h12, h13, hx, hy⟩
  · refine V_dload hX dL_law_683 1 rfl ?_
    refine V_dload hX dL_law_685 1 rfl ?_
    refine V_dcmp hX dL_law_687 hrr ?_
    refine V_if_eq (tgt := 699) hX dL_law_688 (by decide) (by omega) (fun c_2 => ?_) (fun c_2 => ?_)
    · exact absurd c_2 (by omega)
    · refine V_dload hX dL_law_691 0 rfl ?_
      refine V_dload hX dL_law_693 0 rfl ?_
      refine V_dcmp hX dL_law_695 hrr ?_
      refine V_if_ne (tgt := 701) hX dL_law_696 (by decide) (by omega) (fun c_3 => ?_) (fun c_3 => ?_)
      · refine V_goto (tgt := 949) hX dL_law_701 (by decide) ?_
        refine V.sub [2, 3, 4, 5] rfl ?_
        exact ih _ _ _ _ _ _ _ _ _ _ _ _ _ _ _ _ _ _ _ _ _ _ _ _ _ _ _ _ _ _ ⟨h0, h2, hsz, hHR, hHI, hS, hps, hth, hkp, hks, hst, h12, h13, hx, hy⟩
      · exact absurd c_3 (by omega)

set_option maxHeartbeats 4000000 in
set_option maxRecDepth 100000 in
theorem lw_k20 {X : vX} {l : Launch} {G : vC} {nm : String} (hX : VS X l G (yLaw nm) cL_law room_1 8) {L : Nat} {xs : Nat → Int32} (bs : Nat) (o : Nat) (no : Nat → Nat) (be : Nat → Nat) (tr : Nat → Nat) (sn : Nat → Nat) (p : Nat → Nat) (te : Nat → Nat) (b : Nat → Nat) (c : Nat → Nat) (mo : Nat → Nat) (hL : LawS X bs L xs) (hLm : L ≤ 2560) (i : Int) (hi0 : 0 ≤ i) (hi5 : i + 5 ≤ L) (ih : LG X G 949 bs o no be tr sn p te b c mo i) : LG X G 704 bs o no be tr sn p te b c mo i := by
  intro s sb st ss q hs sz ch ki fi se ln th ps W vf W2 vf2 kp sN sE sp hh snm g8 g9 g10 g11 g12 g13 h
  obtain ⟨x1, e1, r1⟩ : ∃ z : Int, xs (i + 1).toNat = jI z ∧ iR z := ⟨_, (jI_as _).symm, jI_rng _⟩
  obtain ⟨x2, e2, r2⟩ : ∃ z : Int, xs (i + 2).toNat = jI z ∧ iR z := ⟨_, (jI_as _).symm, jI_rng _⟩
  obtain ⟨x3, e3, r3⟩ : ∃ z : Int, xs (i + 3).toNat = jI z ∧ iR z := ⟨_, (jI_as _).symm, jI_rng _⟩
  obtain ⟨x4, e4, r4⟩ : ∃ z : Int, xs (i + 4).toNat = jI z ∧ iR z := ⟨_, (jI_as _).symm, jI_rng _⟩
  obtain ⟨h0, h2, hsz, hHR, hHI, hS, hps, hth, hkp, hks, hst, h12, h13, hx, hy⟩ := h
  have hI := h0.1
  have hG := h0.2
  have hI2 := h2.1
  have hb := hI.base
  have h9 := h0.h9
  unfold lW
  refine V_aload_n hX dL_law_704 2 rfl ?_
  refine V_aload_n hX dL_law_705 3 rfl ?_
  refine V_iload_n hX dL_law_706 0 rfl ?_
  refine V_iconst hX dL_law_707 ?_
  refine V_iadd hX dL_law_708 rfl ?_
  refine V_sld hX hL (by omega) (by omega) (by omega) e1 dL_law_709 ?_
  refine V_aload_n hX dL_law_710 3 rfl ?_
  refine V_iload_n hX dL_law_711 0 rfl ?_
  refine V_iconst hX dL_law_712 ?_
  refine V_iadd hX dL_law_713 rfl ?_
  refine V_sld hX hL (by omega) (by omega) (by omega) e2 dL_law_714 ?_
  refine V_cV (st := []) (v := .double (wgR s x1 x2)) (w' := oH o no be tr sn p te b c kp sN sE ++ (hB G no s ++ (hB G be sb ++ (hB G tr st ++ (hB G sn ss ++ (pW G p q hs sz ++ (sB G te ch ki fi se ln th ps ++ (bB G b true (if 0 ≤ x1 ∧ x1 ≤ 5 ∧ 0 ≤ x2 ∧ x2 ≤ 3 then wF s true x1 (s 10).toNat else W) vf ++ (bB G c false W2 vf2 ++ mB G mo s sp hh snm ch ((sz : Int)) kp ln g8 g9 g10 g11 g12 g13))))))))) hX wc_L_99 (c_X4_weight l G o no be tr sn p te b c kp sN sE s sb st ss q hs sz ch ki fi se ln th ps W vf W2 vf2 x1 x2 hI hsz (by omega) (by omega)) (by decide) (by decide) rfl rfl (Nat.le_of_ble_eq_true rfl) dL_law_715 [] (mB G mo s sp hh snm ch ((sz : Int)) kp ln g8 g9 g10 g11 g12 g13) (by simp only [List.append_assoc, List.nil_append, List.append_nil]) 0 rfl rfl (by simp only [List.append_assoc, List.nil_append, List.append_nil]) rfl rfl ?_
  refine V_dstore (i := 4) (lv' := [(4, .double (wgR s x1 x2)), (3, .int (jI i)), (2, .ref (mo 0)), (1, .ref (o)), (0, .ref (bs))]) hX dL_law_718 (by decide) rfl ?_
  refine V_aload_n hX dL_law_720 2 rfl ?_
  refine V_aload_n hX dL_law_721 4 rfl ?_
  refine V_iload_n hX dL_law_722 1 rfl ?_
  refine V_iconst hX dL_law_723 ?_
  refine V_iadd hX dL_law_724 rfl ?_
  refine V_sld hX hL (by omega) (by omega) (by omega) e1 dL_law_725 ?_
  refine V_aload_n hX dL_law_726 4 rfl ?_
  refine V_iload_n hX dL_law_727 1 rfl ?_
  refine V_iconst hX dL_law_728 ?_
  refine V_iadd hX dL_law_729 rfl ?_
  refine V_sld hX hL (by omega) (by omega) (by omega) e2 dL_law_730 ?_
  refine V_cV (st := []) (v := .double (wgR s x1 x2)) (w' := oH o no be tr sn p te b c kp sN sE ++ (hB G no s ++ (hB G be sb ++ (hB G tr st ++ (hB G sn ss ++ (pW G p q hs sz ++ (sB G te ch ki fi se ln th ps ++ (bB G b true (if 0 ≤ x1 ∧ x1 ≤ 5 ∧ 0 ≤ x2 ∧ x2 ≤ 3 then wF s true x1 (s 10).toNat else W) vf ++ (bB G c false W2 vf2 ++ mB G mo s sp hh snm ch (sz : Int) kp ln g8 g9 g10 g11 g12 g13))))))))) hX wc_L_103 (c_X5_weight l G mo s sp hh snm ch ((sz : Int)) kp ln g8 g9 g10 g11 g12 g13 99999 x1 x2 hI (by omega) (by omega)) (by decide) (by decide) rfl rfl (Nat.le_of_ble_eq_true rfl) dL_law_731 (oH o no be tr sn p te b c kp sN sE ++ (hB G no s ++ (hB G be sb ++ (hB G tr st ++ (hB G sn ss ++ (pW G p q hs sz ++ (sB G te ch ki fi se ln th ps ++ (bB G b true (if 0 ≤ x1 ∧ x1 ≤ 5 ∧ 0 ≤ x2 ∧ x2 ≤ 3 then wF s true x1 (s 10).toNat else W) vf ++ bB G c false W2 vf2)))))))) ([]) (by simp only [List.append_assoc, List.nil_append, List.append_nil]) 102 rfl rfl (by simp only [List.append_assoc, List.nil_append, List.append_nil]) rfl rfl ?_
  refine V_dstore (i := 6) (lv' := [(6, .double (wgR s x1 x2)), (4, .double (wgR s x1 x2)), (3, .int (jI i)), (2, .ref (mo 0)), (1, .ref (o)), (0, .ref (bs))]) hX dL_law_734 (by decide) rfl ?_
  obtain ⟨rr, hrr, hri⟩ : ∃ z : Int, Op.cmpValue (FP.dcmp (wgR s x1 x2) (wgR s x1 x2)) .l = jI z ∧ iR z := ⟨_, (jI_as _).symm, jI_rng _⟩
  refine V_dload hX dL_law_736 1 rfl ?_
  refine V_dload hX dL_law_738 0 rfl ?_
  refine V_dcmp hX dL_law_740 hrr ?_
  refine V_if_eq (tgt := 762) hX dL_law_741 (by decide) (by omega) (fun c_1 => ?_) (fun c_1 => ?_)
  · refine V_goto (tgt := 949) hX dL_law_762 (by decide) ?_
    refine V.sub [2, 3, 4, 5] rfl ?_
    exact ih _ _ _ _ _ _ _ _ _ _ _ _ _ _ _ _ _ _ _ _ _ _ _ _ _ _ _ _ _ _ ⟨h0, h2, hsz, hHR, hHI, hS, hps, hth, hkp, hks, hst, h12, h13, hx, hy⟩
  · refine V_dload hX dL_law_744 1 rfl ?_
    refine V_dload hX dL_law_746 1 rfl ?_
    refine V_dcmp hX dL_law_748 hrr ?_
    refine V_if_eq (tgt := 760) hX dL_law_749 (by decide) (by omega) (fun c_2 => ?_) (fun c_2 => ?_)
    · exact absurd c_2 (by omega)
    · refine V_dload hX dL_law_752 0 rfl ?_
      refine V_dload hX dL_law_754 0 rfl ?_
      refine V_dcmp hX dL_law_756 hrr ?_
      refine V_if_ne (tgt := 762) hX dL_law_757 (by decide) (by omega) (fun c_3 => ?_) (fun c_3 => ?_)
      · refine V_goto (tgt := 949) hX dL_law_762 (by decide) ?_
        refine V.sub [2, 3, 4, 5] rfl ?_
        exact ih _ _ _ _ _ _ _ _ _ _ _ _ _ _ _ _ _ _ _ _ _ _ _ _ _ _ _ _ _ _ ⟨h0, h2, hsz, hHR, hHI, hS, hps, hth, hkp, hks, hst, h12, h13, hx, hy⟩
      · exact absurd c_3 (by omega)

set_option maxHeartbeats 4000000 in
set_option maxRecDepth 100000 in
theorem lw_k23 {X : vX} {l : Launch} {G : vC} {nm : String} (hX : VS X l G (yLaw nm) cL_law room_1 8) {L : Nat} {xs : Nat → Int32} (bs : Nat) (o : Nat) (no : Nat → Nat) (be : Nat → Nat) (tr : Nat → Nat) (sn : Nat → Nat) (p : Nat → Nat) (te : Nat → Nat) (b : Nat → Nat) (c : Nat → Nat) (mo : Nat → Nat) (hL : LawS X bs L xs) (hLm : L ≤ 2560) (i : Int) (hi0 : 0 ≤ i) (hi5 : i + 5 ≤ L) (ih : LG X G 949 bs o no be tr sn p te b c mo i) : LG X G 821 bs o no be tr sn p te b c mo i := by
  intro s sb st ss q hs sz ch ki fi se ln th ps W vf W2 vf2 kp sN sE sp hh snm g8 g9 g10 g11 g12 g13 h
  obtain ⟨x1, e1, r1⟩ : ∃ z : Int, xs (i + 1).toNat = jI z ∧ iR z := ⟨_, (jI_as _).symm, jI_rng _⟩
  obtain ⟨x2, e2, r2⟩ : ∃ z : Int, xs (i + 2).toNat = jI z ∧ iR z := ⟨_, (jI_as _).symm, jI_rng _⟩
  obtain ⟨x3, e3, r3⟩ : ∃ z : Int, xs (i + 3).toNat = jI z ∧ iR z := ⟨_, (jI_as _).symm, jI_rng _⟩
  obtain ⟨x4, e4, r4⟩ : ∃ z : Int, xs (i + 4).toNat = jI z ∧ iR z := ⟨_, (jI_as _).symm, jI_rng _⟩
  obtain ⟨h0, h2, hsz, hHR, hHI, hS, hps, hth, hkp, hks, hst, h12, h13, hx, hy⟩ := h
  have hI := h0.1
  have hG := h0.2
  have hI2 := h2.1
  have hb := hI.base
  have h9 := h0.h9
  unfold lW
  refine V_aload_n hX dL_law_821 2 rfl ?_
  refine V_aload_n hX dL_law_822 3 rfl ?_
  refine V_iload_n hX dL_law_823 0 rfl ?_
  refine V_iconst hX dL_law_824 ?_
  refine V_iadd hX dL_law_825 rfl ?_
  refine V_sld hX hL (by omega) (by omega) (by omega) e1 dL_law_826 ?_
  refine V_cV (st := []) (v := .int (jI (if x1 = 0 then bsR s (pvF s true) else if x1 = 1 then dpR s (pvF s true) else -2))) (w' := oH o no be tr sn p te b c kp sN sE ++ (hB G no s ++ (hB G be sb ++ (hB G tr st ++ (hB G sn ss ++ (pW G p q hs sz ++ (sB G te ch ki fi se ln th ps ++ (bB G b true (if x1 = 0 ∨ x1 = 1 then plW s true W 6 else W) (if x1 = 0 ∨ x1 = 1 then pvF s true else vf) ++ (bB G c false W2 vf2 ++ mB G mo s sp hh snm ch ((sz : Int)) kp ln g8 g9 g10 g11 g12 g13))))))))) hX wc_L_112 (c_X4_decision l G o no be tr sn p te b c kp sN sE s sb st ss q hs sz ch ki fi se ln th ps W vf W2 vf2 x1 hI hsz (by omega)) (by decide) (by decide) rfl rfl (Nat.le_of_ble_eq_true rfl) dL_law_827 [] (mB G mo s sp hh snm ch ((sz : Int)) kp ln g8 g9 g10 g11 g12 g13) (by simp only [List.append_assoc, List.nil_append, List.append_nil]) 0 rfl rfl (by simp only [List.append_assoc, List.nil_append, List.append_nil]) rfl rfl ?_
  refine V_aload_n hX dL_law_830 1 rfl ?_
  refine V_aload_n hX dL_law_831 3 rfl ?_
  refine V_iload_n hX dL_law_832 0 rfl ?_
  refine V_iconst hX dL_law_833 ?_
  refine V_iadd hX dL_law_834 rfl ?_
  refine V_sld hX hL (by omega) (by omega) (by omega) e1 dL_law_835 ?_
  refine V_cV (st := [.int (jI (if x1 = 0 then bsR s (pvF s true) else if x1 = 1 then dpR s (pvF s true) else -2))]) (v := .int (jI (if 0 ≤ x1 ∧ x1 ≤ 1 then bsR s (pvF s true) else -2))) (w' := oH o no be tr sn p te b c kp sN sE ++ (hB G no s ++ (hB G be sb ++ (hB G tr st ++ (hB G sn ss ++ (pW G p q hs sz ++ (sB G te ch ki fi se ln th ps ++ (bB G b true (if x1 = 0 ∨ x1 = 1 then plW s true W 6 else W) (if x1 = 0 ∨ x1 = 1 then pvF s true else vf) ++ (bB G c false W2 vf2 ++ mB G mo s sp hh snm ch (sz : Int) kp ln g8 g9 g10 g11 g12 g13))))))))) hX wc_L_115 (c_X5_decision l G mo s sp hh snm ch ((sz : Int)) kp ln g8 g9 g10 g11 g12 g13 99999 x1 hI (by omega)) (by decide) (by decide) rfl rfl (Nat.le_of_ble_eq_true rfl) dL_law_836 (oH o no be tr sn p te b c kp sN sE ++ (hB G no s ++ (hB G be sb ++ (hB G tr st ++ (hB G sn ss ++ (pW G p q hs sz ++ (sB G te ch ki fi se ln th ps ++ (bB G b true (if x1 = 0 ∨ x1 = 1 then plW s true W 6 else W) (if x1 = 0 ∨ x1 = 1 then pvF s true else vf) ++ bB G c false W2 vf2)))))))) ([]) (by simp only [List.append_assoc, List.nil_append, List.append_nil]) 102 rfl rfl (by simp only [List.append_assoc, List.nil_append, List.append_nil]) rfl rfl ?_
  refine V_icmp_eqv (tgt := 949) hX dL_law_839 (by decide) (congrArg jI (by rw [dp_bs hI]; (repeat' split) <;> first | rfl | omega)) ?_
  refine V.sub [0, 1, 2, 3] rfl ?_
  exact ih _ _ _ _ _ _ _ _ _ _ _ _ _ _ _ _ _ _ _ _ _ _ _ _ _ _ _ _ _ _ ⟨h0, h2, hsz, hHR, hHI, hS, hps, hth, hkp, hks, hst, h12, h13, hx, hy⟩

set_option maxHeartbeats 4000000 in
set_option maxRecDepth 100000 in
theorem lw_k24 {X : vX} {l : Launch} {G : vC} {nm : String} (hX : VS X l G (yLaw nm) cL_law room_1 8) {L : Nat} {xs : Nat → Int32} (bs : Nat) (o : Nat) (no : Nat → Nat) (be : Nat → Nat) (tr : Nat → Nat) (sn : Nat → Nat) (p : Nat → Nat) (te : Nat → Nat) (b : Nat → Nat) (c : Nat → Nat) (mo : Nat → Nat) (hL : LawS X bs L xs) (hLm : L ≤ 2560) (i : Int) (hi0 : 0 ≤ i) (hi5 : i + 5 ≤ L) (ih : LG X G 949 bs o no be tr sn p te b c mo i) : LG X G 844 bs o no be tr sn p te b c mo i := by
  intro s sb st ss q hs sz ch ki fi se ln th ps W vf W2 vf2 kp sN sE sp hh snm g8 g9 g10 g11 g12 g13 h
  obtain ⟨x1, e1, r1⟩ : ∃ z : Int, xs (i + 1).toNat = jI z ∧ iR z := ⟨_, (jI_as _).symm, jI_rng _⟩
  obtain ⟨x2, e2, r2⟩ : ∃ z : Int, xs (i + 2).toNat = jI z ∧ iR z := ⟨_, (jI_as _).symm, jI_rng _⟩
  obtain ⟨x3, e3, r3⟩ : ∃ z : Int, xs (i + 3).toNat = jI z ∧ iR z := ⟨_, (jI_as _).symm, jI_rng _⟩
  obtain ⟨x4, e4, r4⟩ : ∃ z : Int, xs (i + 4).toNat = jI z ∧ iR z := ⟨_, (jI_as _).symm, jI_rng _⟩
  obtain ⟨h0, h2, hsz, hHR, hHI, hS, hps, hth, hkp, hks, hst, h12, h13, hx, hy⟩ := h
  have hI := h0.1
  have hG := h0.2
  have hI2 := h2.1
  have hb := hI.base
  have h9 := h0.h9
  unfold lW
  refine V_aload_n hX dL_law_844 2 rfl ?_
  refine V_rV (st := []) hX wc_L_116 (c_X4_swings l G o no be tr sn p te b c kp sN sE s sb st ss q hs sz ch ki fi se ln th ps W vf W2 vf2 hI hsz) (by decide) (by decide) rfl rfl (Nat.le_of_ble_eq_true rfl) dL_law_845 [] (mB G mo s sp hh snm ch ((sz : Int)) kp ln g8 g9 g10 g11 g12 g13) (by simp only [List.append_assoc, List.nil_append, List.append_nil]) 0 rfl rfl (fun v_2 u_1 hp_3 => ?_)
  obtain ⟨rfl, W3, rfl⟩ := hp_3
  refine V.wd (w' := oH o no be tr sn p te b c kp sN sE ++ (hB G no s ++ (hB G be sb ++ (hB G tr s ++ (hB G sn ss ++ (pW G p q hs sz ++ (sB G te ch ki fi se ln th ps ++ (bB G b true W3 (pvF s true) ++ (bB G c false W2 vf2 ++ mB G mo s sp hh snm ch ((sz : Int)) kp ln g8 g9 g10 g11 g12 g13))))))))) (by simp only [List.append_assoc, List.nil_append, List.append_nil]) ?_
  refine V_aload_n hX dL_law_848 1 rfl ?_
  refine V_cV (st := [.int (swN s (pvF s true) (bsR s (pvF s true)) (s 10).toNat)]) (v := .int (swN s (pvF s true) (bsR s (pvF s true)) (s 10).toNat)) (w' := oH o no be tr sn p te b c kp sN sE ++ (hB G no s ++ (hB G be sb ++ (hB G tr s ++ (hB G sn ss ++ (pW G p q hs sz ++ (sB G te ch ki fi se ln th ps ++ (bB G b true W3 (pvF s true) ++ (bB G c false W2 vf2 ++ mB G mo s sp hh snm ch (sz : Int) kp ln g8 g9 g10 g11 g12 g13))))))))) hX wc_L_119 (c_X5_swings l G mo s sp hh snm ch ((sz : Int)) kp ln g8 g9 g10 g11 g12 g13 99999 hI) (by decide) (by decide) rfl rfl (Nat.le_of_ble_eq_true rfl) dL_law_849 (oH o no be tr sn p te b c kp sN sE ++ (hB G no s ++ (hB G be sb ++ (hB G tr s ++ (hB G sn ss ++ (pW G p q hs sz ++ (sB G te ch ki fi se ln th ps ++ (bB G b true W3 (pvF s true) ++ bB G c false W2 vf2)))))))) ([]) (by simp only [List.append_assoc, List.nil_append, List.append_nil]) 102 rfl rfl (by simp only [List.append_assoc, List.nil_append, List.append_nil]) rfl rfl ?_
  refine V_icmp_eqv (tgt := 949) hX dL_law_852 (by decide) rfl ?_
  refine V.sub [0, 1, 2, 3] rfl ?_
  exact ih _ _ _ _ _ _ _ _ _ _ _ _ _ _ _ _ _ _ _ _ _ _ _ _ _ _ _ _ _ _ ⟨h0, h2, hsz, hHR, hHI, hS, hps, hth, hkp, hks, hst, h12, h13, hx, hy⟩

set_option maxHeartbeats 4000000 in
set_option maxRecDepth 100000 in
theorem lw_k26 {X : vX} {l : Launch} {G : vC} {nm : String} (hX : VS X l G (yLaw nm) cL_law room_1 8) {L : Nat} {xs : Nat → Int32} (bs : Nat) (o : Nat) (no : Nat → Nat) (be : Nat → Nat) (tr : Nat → Nat) (sn : Nat → Nat) (p : Nat → Nat) (te : Nat → Nat) (b : Nat → Nat) (c : Nat → Nat) (mo : Nat → Nat) (hL : LawS X bs L xs) (hLm : L ≤ 2560) (i : Int) (hi0 : 0 ≤ i) (hi5 : i + 5 ≤ L) (ih : LG X G 949 bs o no be tr sn p te b c mo i) : LG X G 870 bs o no be tr sn p te b c mo i := by
  intro s sb st ss q hs sz ch ki fi se ln th ps W vf W2 vf2 kp sN sE sp hh snm g8 g9 g10 g11 g12 g13 h
  obtain ⟨x1, e1, r1⟩ : ∃ z : Int, xs (i + 1).toNat = jI z ∧ iR z := ⟨_, (jI_as _).symm, jI_rng _⟩
  obtain ⟨x2, e2, r2⟩ : ∃ z : Int, xs (i + 2).toNat = jI z ∧ iR z := ⟨_, (jI_as _).symm, jI_rng _⟩
  obtain ⟨x3, e3, r3⟩ : ∃ z : Int, xs (i + 3).toNat = jI z ∧ iR z := ⟨_, (jI_as _).symm, jI_rng _⟩
  obtain ⟨x4, e4, r4⟩ : ∃ z : Int, xs (i + 4).toNat = jI z ∧ iR z := ⟨_, (jI_as _).symm, jI_rng _⟩
  obtain ⟨h0, h2, hsz, hHR, hHI, hS, hps, hth, hkp, hks, hst, h12, h13, hx, hy⟩ := h
  have hI := h0.1
  have hG := h0.2
  have hI2 := h2.1
  have hb := hI.base
  have h9 := h0.h9
  unfold lW
  refine V_aload_n hX dL_law_870 2 rfl ?_
  refine V_aload_n hX dL_law_871 3 rfl ?_
  refine V_iload_n hX dL_law_872 0 rfl ?_
  refine V_iconst hX dL_law_873 ?_
  refine V_iadd hX dL_law_874 rfl ?_
  refine V_sld hX hL (by omega) (by omega) (by omega) e1 dL_law_875 ?_
  refine V_rV (st := []) hX wc_L_124 (c_X4_turnsIn l G o no be tr sn p te b c kp sN sE s sb st ss q hs sz ch ki fi se ln th ps W vf W2 vf2 x1 hI hsz r1 h9) (by decide) (by decide) rfl rfl (Nat.le_of_ble_eq_true rfl) dL_law_876 [] (mB G mo s sp hh snm ch ((sz : Int)) kp ln g8 g9 g10 g11 g12 g13) (by simp only [List.append_assoc, List.nil_append, List.append_nil]) 0 rfl rfl (fun v_2 u_1 hp_3 => ?_)
  obtain ⟨rfl, st2, rfl⟩ := hp_3
  refine V.wd (w' := oH o no be tr sn p te b c kp sN sE ++ (hB G no s ++ (hB G be sb ++ (hB G tr st2 ++ (hB G sn ss ++ (pW G p q hs sz ++ (sB G te ch ki fi se ln th ps ++ (bB G b true W vf ++ (bB G c false W2 vf2 ++ mB G mo s sp hh snm ch ((sz : Int)) kp ln g8 g9 g10 g11 g12 g13))))))))) (by simp only [List.append_assoc, List.nil_append, List.append_nil]) ?_
  refine V_aload_n hX dL_law_879 1 rfl ?_
  refine V_aload_n hX dL_law_880 3 rfl ?_
  refine V_iload_n hX dL_law_881 0 rfl ?_
  refine V_iconst hX dL_law_882 ?_
  refine V_iadd hX dL_law_883 rfl ?_
  refine V_sld hX hL (by omega) (by omega) (by omega) e1 dL_law_884 ?_
  refine V_rV (st := [.int (jI (if 0 ≤ x1 ∧ x1 < s 10 then tiF s x1.toNat 300 0 else -1))]) hX wc_L_127 (c_X5_turnsIn l G mo s sp hh snm ch ((sz : Int)) kp ln g8 g9 g10 g11 g12 g13 99999 x1 hI r1 h9 rfl) (by decide) (by decide) rfl rfl (Nat.le_of_ble_eq_true rfl) dL_law_885 (oH o no be tr sn p te b c kp sN sE ++ (hB G no s ++ (hB G be sb ++ (hB G tr st2 ++ (hB G sn ss ++ (pW G p q hs sz ++ (sB G te ch ki fi se ln th ps ++ (bB G b true W vf ++ bB G c false W2 vf2)))))))) ([]) (by simp only [List.append_assoc, List.nil_append, List.append_nil]) 102 rfl rfl (fun v_5 u_4 hp_6 => ?_)
  obtain ⟨rfl, sp2, rfl⟩ := hp_6
  refine V.wd (w' := oH o no be tr sn p te b c kp sN sE ++ (hB G no s ++ (hB G be sb ++ (hB G tr st2 ++ (hB G sn ss ++ (pW G p q hs sz ++ (sB G te ch ki fi se ln th ps ++ (bB G b true W vf ++ (bB G c false W2 vf2 ++ mB G mo s sp2 hh snm ch (sz : Int) kp ln g8 g9 g10 g11 g12 g13))))))))) (by simp only [List.append_assoc, List.nil_append, List.append_nil]) ?_
  refine V_icmp_eqv (tgt := 949) hX dL_law_888 (by decide) rfl ?_
  refine V.sub [0, 1, 2, 3] rfl ?_
  exact ih _ _ _ _ _ _ _ _ _ _ _ _ _ _ _ _ _ _ _ _ _ _ _ _ _ _ _ _ _ _ ⟨h0, h2, hsz, hHR, hHI, hS, hps, hth, hkp, hks, hst, h12, h13, hx, hy⟩

set_option maxHeartbeats 4000000 in
set_option maxRecDepth 100000 in
theorem lw_k27 {X : vX} {l : Launch} {G : vC} {nm : String} (hX : VS X l G (yLaw nm) cL_law room_1 8) {L : Nat} {xs : Nat → Int32} (bs : Nat) (o : Nat) (no : Nat → Nat) (be : Nat → Nat) (tr : Nat → Nat) (sn : Nat → Nat) (p : Nat → Nat) (te : Nat → Nat) (b : Nat → Nat) (c : Nat → Nat) (mo : Nat → Nat) (hL : LawS X bs L xs) (hLm : L ≤ 2560) (i : Int) (hi0 : 0 ≤ i) (hi5 : i + 5 ≤ L) (ih : LG X G 949 bs o no be tr sn p te b c mo i) : LG X G 893 bs o no be tr sn p te b c mo i := by
  intro s sb st ss q hs sz ch ki fi se ln th ps W vf W2 vf2 kp sN sE sp hh snm g8 g9 g10 g11 g12 g13 h
  obtain ⟨x1, e1, r1⟩ : ∃ z : Int, xs (i + 1).toNat = jI z ∧ iR z := ⟨_, (jI_as _).symm, jI_rng _⟩
  obtain ⟨x2, e2, r2⟩ : ∃ z : Int, xs (i + 2).toNat = jI z ∧ iR z := ⟨_, (jI_as _).symm, jI_rng _⟩
  obtain ⟨x3, e3, r3⟩ : ∃ z : Int, xs (i + 3).toNat = jI z ∧ iR z := ⟨_, (jI_as _).symm, jI_rng _⟩
  obtain ⟨x4, e4, r4⟩ : ∃ z : Int, xs (i + 4).toNat = jI z ∧ iR z := ⟨_, (jI_as _).symm, jI_rng _⟩
  obtain ⟨h0, h2, hsz, hHR, hHI, hS, hps, hth, hkp, hks, hst, h12, h13, hx, hy⟩ := h
  have hI := h0.1
  have hG := h0.2
  have hI2 := h2.1
  have hb := hI.base
  have h9 := h0.h9
  unfold lW
  refine V_aload_n hX dL_law_893 2 rfl ?_
  refine V_aload_n hX dL_law_894 3 rfl ?_
  refine V_iload_n hX dL_law_895 0 rfl ?_
  refine V_iconst hX dL_law_896 ?_
  refine V_iadd hX dL_law_897 rfl ?_
  refine V_sld hX hL (by omega) (by omega) (by omega) e1 dL_law_898 ?_
  refine V_aload_n hX dL_law_899 3 rfl ?_
  refine V_iload_n hX dL_law_900 0 rfl ?_
  refine V_iconst hX dL_law_901 ?_
  refine V_iadd hX dL_law_902 rfl ?_
  refine V_sld hX hL (by omega) (by omega) (by omega) e2 dL_law_903 ?_
  refine V_cV (st := []) (v := .int (jI (ifR s x1 x2))) (w' := oH o no be tr sn p te b c kp sN sE ++ (hB G no s ++ (hB G be sb ++ (hB G tr (ifS s st x1 x2) ++ (hB G sn ss ++ (pW G p q hs sz ++ (sB G te ch ki fi se ln th ps ++ (bB G b true (if 1 ≤ x1 ∧ x1 ≤ 300 ∧ x2 = 0 then plW (tsS s x1.toNat) true W 6 else W) (if 1 ≤ x1 ∧ x1 ≤ 300 ∧ x2 = 0 then pvF (tsS s x1.toNat) true else vf) ++ (bB G c false W2 vf2 ++ mB G mo s sp hh snm ch ((sz : Int)) kp ln g8 g9 g10 g11 g12 g13))))))))) hX wc_L_128 (c_X4_ifTicks l G o no be tr sn p te b c kp sN sE s sb st ss q hs sz ch ki fi se ln th ps W vf W2 vf2 x1 x2 hI hsz (by omega) (by omega)) (by decide) (by decide) rfl rfl (Nat.le_of_ble_eq_true rfl) dL_law_904 [] (mB G mo s sp hh snm ch ((sz : Int)) kp ln g8 g9 g10 g11 g12 g13) (by simp only [List.append_assoc, List.nil_append, List.append_nil]) 0 rfl rfl (by simp only [List.append_assoc, List.nil_append, List.append_nil]) rfl rfl ?_
  refine V_aload_n hX dL_law_907 1 rfl ?_
  refine V_aload_n hX dL_law_908 3 rfl ?_
  refine V_iload_n hX dL_law_909 0 rfl ?_
  refine V_iconst hX dL_law_910 ?_
  refine V_iadd hX dL_law_911 rfl ?_
  refine V_sld hX hL (by omega) (by omega) (by omega) e1 dL_law_912 ?_
  refine V_aload_n hX dL_law_913 3 rfl ?_
  refine V_iload_n hX dL_law_914 0 rfl ?_
  refine V_iconst hX dL_law_915 ?_
  refine V_iadd hX dL_law_916 rfl ?_
  refine V_sld hX hL (by omega) (by omega) (by omega) e2 dL_law_917 ?_
  refine V_rV (st := [.int (jI (ifR s x1 x2))]) hX wc_L_131 (c_X5_ifTicks l G mo s sp hh snm ch ((sz : Int)) kp ln g8 g9 g10 g11 g12 g13 99999 x1 x2 hI (by omega) (by omega) (by omega)) (by decide) (by decide) rfl rfl (Nat.le_of_ble_eq_true rfl) dL_law_918 (oH o no be tr sn p te b c kp sN sE ++ (hB G no s ++ (hB G be sb ++ (hB G tr (ifS s st x1 x2) ++ (hB G sn ss ++ (pW G p q hs sz ++ (sB G te ch ki fi se ln th ps ++ (bB G b true (if 1 ≤ x1 ∧ x1 ≤ 300 ∧ x2 = 0 then plW (tsS s x1.toNat) true W 6 else W) (if 1 ≤ x1 ∧ x1 ≤ 300 ∧ x2 = 0 then pvF (tsS s x1.toNat) true else vf) ++ bB G c false W2 vf2)))))))) ([]) (by simp only [List.append_assoc, List.nil_append, List.append_nil]) 102 rfl rfl (fun v_2 u_1 hp_3 => ?_)
  obtain ⟨rfl, sp2, rfl⟩ := hp_3
  refine V.wd (w' := oH o no be tr sn p te b c kp sN sE ++ (hB G no s ++ (hB G be sb ++ (hB G tr (ifS s st x1 x2) ++ (hB G sn ss ++ (pW G p q hs sz ++ (sB G te ch ki fi se ln th ps ++ (bB G b true (if 1 ≤ x1 ∧ x1 ≤ 300 ∧ x2 = 0 then plW (tsS s x1.toNat) true W 6 else W) (if 1 ≤ x1 ∧ x1 ≤ 300 ∧ x2 = 0 then pvF (tsS s x1.toNat) true else vf) ++ (bB G c false W2 vf2 ++ mB G mo s sp2 hh snm ch (sz : Int) kp ln g8 g9 g10 g11 g12 g13))))))))) (by simp only [List.append_assoc, List.nil_append, List.append_nil]) ?_
  refine V_icmp_eqv (tgt := 949) hX dL_law_921 (by decide) (congrArg jI (if_mi hI hG _ _)) ?_
  refine V.sub [0, 1, 2, 3] rfl ?_
  exact ih _ _ _ _ _ _ _ _ _ _ _ _ _ _ _ _ _ _ _ _ _ _ _ _ _ _ _ _ _ _ ⟨h0, h2, hsz, hHR, hHI, hS, hps, hth, hkp, hks, hst, h12, h13, hx, hy⟩

set_option maxHeartbeats 4000000 in
set_option maxRecDepth 100000 in
theorem lw_k28 {X : vX} {l : Launch} {G : vC} {nm : String} (hX : VS X l G (yLaw nm) cL_law room_1 8) {L : Nat} {xs : Nat → Int32} (bs : Nat) (o : Nat) (no : Nat → Nat) (be : Nat → Nat) (tr : Nat → Nat) (sn : Nat → Nat) (p : Nat → Nat) (te : Nat → Nat) (b : Nat → Nat) (c : Nat → Nat) (mo : Nat → Nat) (hL : LawS X bs L xs) (hLm : L ≤ 2560) (i : Int) (hi0 : 0 ≤ i) (hi5 : i + 5 ≤ L) (ih : LG X G 949 bs o no be tr sn p te b c mo i) : LG X G 926 bs o no be tr sn p te b c mo i := by
  intro s sb st ss q hs sz ch ki fi se ln th ps W vf W2 vf2 kp sN sE sp hh snm g8 g9 g10 g11 g12 g13 h
  obtain ⟨x1, e1, r1⟩ : ∃ z : Int, xs (i + 1).toNat = jI z ∧ iR z := ⟨_, (jI_as _).symm, jI_rng _⟩
  obtain ⟨x2, e2, r2⟩ : ∃ z : Int, xs (i + 2).toNat = jI z ∧ iR z := ⟨_, (jI_as _).symm, jI_rng _⟩
  obtain ⟨x3, e3, r3⟩ : ∃ z : Int, xs (i + 3).toNat = jI z ∧ iR z := ⟨_, (jI_as _).symm, jI_rng _⟩
  obtain ⟨x4, e4, r4⟩ : ∃ z : Int, xs (i + 4).toNat = jI z ∧ iR z := ⟨_, (jI_as _).symm, jI_rng _⟩
  obtain ⟨h0, h2, hsz, hHR, hHI, hS, hps, hth, hkp, hks, hst, h12, h13, hx, hy⟩ := h
  have hI := h0.1
  have hG := h0.2
  have hI2 := h2.1
  have hb := hI.base
  have h9 := h0.h9
  unfold lW
  refine V_aload_n hX dL_law_926 2 rfl ?_
  refine V_aload_n hX dL_law_927 3 rfl ?_
  refine V_iload_n hX dL_law_928 0 rfl ?_
  refine V_iconst hX dL_law_929 ?_
  refine V_iadd hX dL_law_930 rfl ?_
  refine V_sld hX hL (by omega) (by omega) (by omega) e1 dL_law_931 ?_
  refine V_cV (st := []) (v := .int (jI (ctR s (sz : Int) ln x1))) (w' := oH o no be tr sn p te b c kp sN sE ++ (hB G no s ++ (hB G be sb ++ (hB G tr st ++ (hB G sn ss ++ (pW G p q hs sz ++ (sB G te ch ki fi se ln th ps ++ (bB G b true W vf ++ (bB G c false W2 vf2 ++ mB G mo s sp hh snm ch ((sz : Int)) kp ln g8 g9 g10 g11 g12 g13))))))))) hX wc_L_132 (c_X4_count l G o no be tr sn p te b c kp sN sE s sb st ss q hs sz ch ki fi se ln th ps W vf W2 vf2 x1 hI hsz (by omega)) (by decide) (by decide) rfl rfl (Nat.le_of_ble_eq_true rfl) dL_law_932 [] (mB G mo s sp hh snm ch ((sz : Int)) kp ln g8 g9 g10 g11 g12 g13) (by simp only [List.append_assoc, List.nil_append, List.append_nil]) 0 rfl rfl (by simp only [List.append_assoc, List.nil_append, List.append_nil]) rfl rfl ?_
  refine V_aload_n hX dL_law_935 1 rfl ?_
  refine V_aload_n hX dL_law_936 3 rfl ?_
  refine V_iload_n hX dL_law_937 0 rfl ?_
  refine V_iconst hX dL_law_938 ?_
  refine V_iadd hX dL_law_939 rfl ?_
  refine V_sld hX hL (by omega) (by omega) (by omega) e1 dL_law_940 ?_
  refine V_cV (st := [.int (jI (ctR s (sz : Int) ln x1))]) (v := .int (jI (mcR s ((sz : Int)) ln x1))) (w' := oH o no be tr sn p te b c kp sN sE ++ (hB G no s ++ (hB G be sb ++ (hB G tr st ++ (hB G sn ss ++ (pW G p q hs sz ++ (sB G te ch ki fi se ln th ps ++ (bB G b true W vf ++ (bB G c false W2 vf2 ++ mB G mo s sp hh snm ch (sz : Int) kp ln g8 g9 g10 g11 g12 g13))))))))) hX wc_L_135 (c_X5_count l G mo s sp hh snm ch ((sz : Int)) kp ln g8 g9 g10 g11 g12 g13 99999 x1 hI (by omega)) (by decide) (by decide) rfl rfl (Nat.le_of_ble_eq_true rfl) dL_law_941 (oH o no be tr sn p te b c kp sN sE ++ (hB G no s ++ (hB G be sb ++ (hB G tr st ++ (hB G sn ss ++ (pW G p q hs sz ++ (sB G te ch ki fi se ln th ps ++ (bB G b true W vf ++ bB G c false W2 vf2)))))))) ([]) (by simp only [List.append_assoc, List.nil_append, List.append_nil]) 102 rfl rfl (by simp only [List.append_assoc, List.nil_append, List.append_nil]) rfl rfl ?_
  refine V_icmp_eqv (tgt := 949) hX dL_law_944 (by decide) (congrArg jI (ct_mc hI hG _ _ _)) ?_
  refine V.sub [0, 1, 2, 3] rfl ?_
  exact ih _ _ _ _ _ _ _ _ _ _ _ _ _ _ _ _ _ _ _ _ _ _ _ _ _ _ _ _ _ _ ⟨h0, h2, hsz, hHR, hHI, hS, hps, hth, hkp, hks, hst, h12, h13, hx, hy⟩
