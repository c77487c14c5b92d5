/-! one call of the law -/
abbrev LH (s ss : Nat → Int) (hs : Nat → Nat → Int) (sz : Nat) (hh snm ch : Nat → Int) (ln ps th kp sN sE g10 g11 g12 g13 : Int) : Prop :=
  IG s ∧ IG ss ∧ sz ≤ 4 ∧ HR hh hs sz ∧ (∀ i, i < sz → IG (hs i)) ∧ SI ch ln ∧ (0 ≤ ps ∧ ps ≤ 1400000) ∧ (0 ≤ th ∧ th ≤ 30) ∧ (kp = 0 ∨ kp = 1) ∧ (kp = 1 → snm = ss) ∧ ((g13 = 0 ∧ sN = -5 ∧ sE = -5) ∨ (g13 ≠ 0 ∧ sE = g13 ∧ sN = g12)) ∧ iR g12 ∧ iR g13 ∧ (-5 ≤ g10 ∧ g10 ≤ 99) ∧ (-5 ≤ g11 ∧ g11 ≤ 99)
def lW (G : vC) (o : Nat) (no be tr sn p te b c mo : Nat → Nat) (s : Nat → Int) (sb : Nat → Int) (st : Nat → Int) (ss : Nat → Int) (q : Nat → Nat → Nat) (hs : Nat → Nat → Int) (sz : Nat) (ch : Nat → Int) (ki : Nat → Int) (fi : Nat → Int) (se : Nat → Int) (ln : Int) (th : Int) (ps : Int) (W : Nat → Nat) (vf : Nat → Int) (W2 : Nat → Nat) (vf2 : Nat → Int) (kp : Int) (sN : Int) (sE : Int) (sp : Nat → Int) (hh : Nat → Int) (snm : Nat → Int) (g8 : Int) (g9 : Int) (g10 : Int) (g11 : Int) (g12 : Int) (g13 : Int) : va_W := oH o no be tr sn p te b c kp sN sE ++ (hB G no s ++ (hB G be sb ++ (hB G tr st ++ (hB G sn ss ++ (pW G p q hs sz ++ (sB G te ch ki fi se ln th ps ++ (bB G b true W vf ++ (bB G c false W2 vf2 ++ mB G mo s sp hh snm ch ((sz : Int)) kp ln g8 g9 g10 g11 g12 g13))))))))
abbrev LG (X : vX) (G : vC) (pc : Nat) (bs : Nat) (o : Nat) (no : Nat → Nat) (be : Nat → Nat) (tr : Nat → Nat) (sn : Nat → Nat) (p : Nat → Nat) (te : Nat → Nat) (b : Nat → Nat) (c : Nat → Nat) (mo : Nat → Nat) (i : Int) : Prop := ∀ (s : Nat → Int) (sb : Nat → Int) (st : Nat → Int) (ss : Nat → Int) (q : Nat → Nat → Nat) (hs : Nat → Nat → Int) (sz : Nat) (ch : Nat → Int) (ki : Nat → Int) (fi : Nat → Int) (se : Nat → Int) (ln : Int) (th : Int) (ps : Int) (W : Nat → Nat) (vf : Nat → Int) (W2 : Nat → Nat) (vf2 : Nat → Int) (kp : Int) (sN : Int) (sE : Int) (sp : Nat → Int) (hh : Nat → Int) (snm : Nat → Int) (g8 : Int) (g9 : Int) (g10 : Int) (g11 : Int) (g12 : Int) (g13 : Int), LH s ss hs sz hh snm ch ln ps th kp sN sE g10 g11 g12 g13 → V X 108 2573 (lW G o no be tr sn p te b c mo s sb st ss q hs sz ch ki fi se ln th ps W vf W2 vf2 kp sN sE sp hh snm g8 g9 g10 g11 g12 g13) [(3, .int (jI i)), (2, .ref (mo 0)), (1, .ref (o)), (0, .ref (bs))] pc []
abbrev yLaw (nm : String) : MethodName := ⟨"StrawHouseLaw", nm, ""⟩

set_option maxHeartbeats 4000000 in
set_option maxRecDepth 100000 in
theorem lw_k0 {X : vX} {l : Launch} {G : vC} {nm : String} (hX : VS X l G (yLaw nm) cL_law room_1 8) {L : Nat} {xs : Nat → Int32} (bs : Nat) (o : Nat) (no : Nat → Nat) (be : Nat → Nat) (tr : Nat → Nat) (sn : Nat → Nat) (p : Nat → Nat) (te : Nat → Nat) (b : Nat → Nat) (c : Nat → Nat) (mo : Nat → Nat) (hL : LawS X bs L xs) (hLm : L ≤ 2560) (i : Int) (hi0 : 0 ≤ i) (hi5 : i + 5 ≤ L) (ih : LG X G 949 bs o no be tr sn p te b c mo i) : LG X G 164 bs o no be tr sn p te b c mo i := by
  intro s sb st ss q hs sz ch ki fi se ln th ps W vf W2 vf2 kp sN sE sp hh snm g8 g9 g10 g11 g12 g13 h
  obtain ⟨x1, e1, r1⟩ : ∃ z : Int, xs (i + 1).toNat = jI z ∧ iR z := ⟨_, (jI_as _).symm, jI_rng _⟩
  obtain ⟨x2, e2, r2⟩ : ∃ z : Int, xs (i + 2).toNat = jI z ∧ iR z := ⟨_, (jI_as _).symm, jI_rng _⟩
  obtain ⟨x3, e3, r3⟩ : ∃ z : Int, xs (i + 3).toNat = jI z ∧ iR z := ⟨_, (jI_as _).symm, jI_rng _⟩
  obtain ⟨x4, e4, r4⟩ : ∃ z : Int, xs (i + 4).toNat = jI z ∧ iR z := ⟨_, (jI_as _).symm, jI_rng _⟩
  obtain ⟨h0, h2, hsz, hHR, hHI, hS, hps, hth, hkp, hks, hst, h12, h13, hx, hy⟩ := h
  have hI := h0.1
  have hG := h0.2
  have hI2 := h2.1
  have hb := hI.base
  have h9 := h0.h9
  unfold lW
  refine V_aload_n hX dL_law_164 2 rfl ?_
  refine V_aload_n hX dL_law_165 3 rfl ?_
  refine V_iload_n hX dL_law_166 0 rfl ?_
  refine V_iconst hX dL_law_167 ?_
  refine V_iadd hX dL_law_168 rfl ?_
  refine V_sld hX hL (by omega) (by omega) (by omega) e1 dL_law_169 ?_
  refine V_aload_n hX dL_law_170 3 rfl ?_
  refine V_iload_n hX dL_law_171 0 rfl ?_
  refine V_iconst hX dL_law_172 ?_
  refine V_iadd hX dL_law_173 rfl ?_
  refine V_sld hX hL (by omega) (by omega) (by omega) e2 dL_law_174 ?_
  refine V_aload_n hX dL_law_175 3 rfl ?_
  refine V_iload_n hX dL_law_176 0 rfl ?_
  refine V_iconst hX dL_law_177 ?_
  refine V_iadd hX dL_law_178 rfl ?_
  refine V_sld hX hL (by omega) (by omega) (by omega) e3 dL_law_179 ?_
  refine V_aload_n hX dL_law_180 3 rfl ?_
  refine V_iload_n hX dL_law_181 0 rfl ?_
  refine V_iconst hX dL_law_182 ?_
  refine V_iadd hX dL_law_183 rfl ?_
  refine V_sld hX hL (by omega) (by omega) (by omega) e4 dL_law_184 ?_
  refine V_cV (st := []) (v := .int (jI (raR s x1 x2 x3 x4))) (w' := oH o no be tr sn p te b c kp sN sE ++ (hB G no (raS s x1 x2 x3 x4) ++ (hB G be s ++ (hB G tr st ++ (hB G sn ss ++ (pW G p (rcQ q sz (raR s x1 x2 x3 x4)) (rcH hs sz s (raR s x1 x2 x3 x4)) (rcZ sz (raR s x1 x2 x3 x4)) ++ (sB G te ch ki fi se ln th ps ++ (bB G b true W vf ++ (bB G c false W2 vf2 ++ mB G mo s sp hh snm ch ((sz : Int)) kp ln g8 g9 g10 g11 g12 g13))))))))) hX wc_L_13 (c_X4_setUp l G o no be tr sn p te b c kp sN sE s sb st ss q hs sz ch ki fi se ln th ps W vf W2 vf2 x1 x2 x3 x4 hI hsz (by omega) (by omega) (by omega) (by omega)) (by decide) (by decide) rfl rfl (Nat.le_of_ble_eq_true rfl) dL_law_185 [] (mB G mo s sp hh snm ch ((sz : Int)) kp ln g8 g9 g10 g11 g12 g13) (by simp only [List.append_assoc, List.nil_append, List.append_nil]) 0 rfl rfl (by simp only [List.append_assoc, List.nil_append, List.append_nil]) rfl rfl ?_
  refine V_aload_n hX dL_law_188 1 rfl ?_
  refine V_aload_n hX dL_law_189 3 rfl ?_
  refine V_iload_n hX dL_law_190 0 rfl ?_
  refine V_iconst hX dL_law_191 ?_
  refine V_iadd hX dL_law_192 rfl ?_
  refine V_sld hX hL (by omega) (by omega) (by omega) e1 dL_law_193 ?_
  refine V_aload_n hX dL_law_194 3 rfl ?_
  refine V_iload_n hX dL_law_195 0 rfl ?_
  refine V_iconst hX dL_law_196 ?_
  refine V_iadd hX dL_law_197 rfl ?_
  refine V_sld hX hL (by omega) (by omega) (by omega) e2 dL_law_198 ?_
  refine V_aload_n hX dL_law_199 3 rfl ?_
  refine V_iload_n hX dL_law_200 0 rfl ?_
  refine V_iconst hX dL_law_201 ?_
  refine V_iadd hX dL_law_202 rfl ?_
  refine V_sld hX hL (by omega) (by omega) (by omega) e3 dL_law_203 ?_
  refine V_aload_n hX dL_law_204 3 rfl ?_
  refine V_iload_n hX dL_law_205 0 rfl ?_
  refine V_iconst hX dL_law_206 ?_
  refine V_iadd hX dL_law_207 rfl ?_
  refine V_sld hX hL (by omega) (by omega) (by omega) e4 dL_law_208 ?_
  refine V_rV (st := [.int (jI (raR s x1 x2 x3 x4))]) hX wc_L_17 (c_X5_setUp l G mo s sp hh snm ch ((sz : Int)) kp ln g8 g9 g10 g11 g12 g13 99999 x1 x2 x3 x4 hI (by omega) (by omega) (by omega) (by omega) (by omega)) (by decide) (by decide) rfl rfl (Nat.le_of_ble_eq_true rfl) dL_law_209 (oH o no be tr sn p te b c kp sN sE ++ (hB G no (raS s x1 x2 x3 x4) ++ (hB G be s ++ (hB G tr st ++ (hB G sn ss ++ (pW G p (rcQ q sz (raR s x1 x2 x3 x4)) (rcH hs sz s (raR s x1 x2 x3 x4)) (rcZ sz (raR s x1 x2 x3 x4)) ++ (sB G te ch ki fi se ln th ps ++ (bB G b true W vf ++ bB G c false W2 vf2)))))))) ([]) (by simp only [List.append_assoc, List.nil_append, List.append_nil]) 102 rfl rfl (fun v_2 u_1 hp_3 => ?_)
  obtain ⟨rfl, sp2, rfl⟩ := hp_3
  refine V.wd (w' := oH o no be tr sn p te b c kp sN sE ++ (hB G no (raS s x1 x2 x3 x4) ++ (hB G be s ++ (hB G tr st ++ (hB G sn ss ++ (pW G p (rcQ q sz (raR s x1 x2 x3 x4)) (rcH hs sz s (raR s x1 x2 x3 x4)) (rcZ sz (raR s x1 x2 x3 x4)) ++ (sB G te ch ki fi se ln th ps ++ (bB G b true W vf ++ (bB G c false W2 vf2 ++ mB G mo (raS s x1 x2 x3 x4) sp2 (mcH hh ((sz : Int)) s (raR s x1 x2 x3 x4)) snm ch (mcZ ((sz : Int)) (raR s x1 x2 x3 x4)) kp ln g8 g9 g10 g11 g12 g13))))))))) (by simp only [List.append_assoc, List.nil_append, List.append_nil]) ?_
  refine V_icmp_eqv (tgt := 949) hX dL_law_212 (by decide) rfl ?_
  refine V.wd (w' := oH o no be tr sn p te b c kp sN sE ++ (hB G no (raS s x1 x2 x3 x4) ++ (hB G be s ++ (hB G tr st ++ (hB G sn ss ++ (pW G p (rcQ q sz (raR s x1 x2 x3 x4)) (rcH hs sz s (raR s x1 x2 x3 x4)) (rcZ sz (raR s x1 x2 x3 x4)) ++ (sB G te ch ki fi se ln th ps ++ (bB G b true W vf ++ (bB G c false W2 vf2 ++ mB G mo (raS s x1 x2 x3 x4) sp2 (mcH hh ((sz : Int)) s (raR s x1 x2 x3 x4)) snm ch (((rcZ sz (raR s x1 x2 x3 x4) : Nat) : Int)) kp ln g8 g9 g10 g11 g12 g13))))))))) (app_c rfl (app_c rfl (app_c rfl (app_c rfl (app_c rfl (app_c rfl (app_c rfl (app_c rfl (app_c rfl (mB_c rfl rfl rfl rfl rfl (mc_rc sz _) rfl rfl rfl rfl rfl rfl rfl rfl)))))))))) ?_
  refine V.sub [0, 1, 2, 3] rfl ?_
  exact ih _ _ _ _ _ _ _ _ _ _ _ _ _ _ _ _ _ _ _ _ _ _ _ _ _ _ _ _ _ _ ⟨⟨hI.ra _ _ _ _, hG.ge (GE.ra _ _ _ _ _)⟩, h2, rcZ_b hsz _, hHR.rc hsz _, IG.rc hHI hsz h0 _, hS, hps, hth, hkp, hks, hst, h12, h13, hx, hy⟩
