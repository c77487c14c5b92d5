/-! what may swing, seen again -/
theorem sp_up {s : Nat → Int} {k : Nat} {w f : Int} (n : Nat) : spN (up s (ix k 3) w) f n = spN s f n := by
  induction n with
  | zero => rfl
  | succ n ih =>
    rw [spN_s, spN_s, ih]
    have e : ∀ j c, c ≠ 3 → c < 11 → up s (ix k 3) w (ix j c) = s (ix j c) := fun j c h h2 => up_ne (by unfold ix; omega)
    unfold bfr
    rw [e n 0 (by decide) (by decide), e n 1 (by decide) (by decide), e n 4 (by decide) (by decide), e _ 1 (by decide) (by decide), e _ 4 (by decide) (by decide)]
theorem wt_up {s : Nat → Int} {k y : Nat} {w f : Int} {lb : Bool} (h : s (ix k 0) ≠ f) (hy : y < 4) (n : Nat) : wtN (up s (ix k 3) w) lb f y n = wtN s lb f y n := by
  induction n with
  | zero => rfl
  | succ n ih =>
    show wtN (up s (ix k 3) w) lb f y n + wa (up s (ix k 3) w) lb f y n = wtN s lb f y n + wa s lb f y n
    rw [ih]
    congr 1
    have e : ∀ j c, c ≠ 3 → c < 11 → up s (ix k 3) w (ix j c) = s (ix j c) := fun j c h h2 => up_ne (by unfold ix; omega)
    unfold wa lobN
    rw [e n 0 (by decide) (by decide), e n 1 (by decide) (by decide), e n 4 (by decide) (by decide), e n (5 + y) (by omega) (by omega), up_ix (j := 1) (by decide)]
    by_cases q : s (ix n 0) = f
    · have hn : n ≠ k := fun z => h (by rw [← z]; exact q)
      rw [up_ne (k := ix n 3) (by unfold ix; omega)]
    · rw [if_neg q, if_neg q]
theorem vt_up {s : Nat → Int} {k : Nat} {w f : Int} {lb : Bool} (h : s (ix k 0) ≠ f) (hw : 0 ≤ spN s f (s 10).toNat → (s (ix (spN s f (s 10).toNat).toNat 3)).toNat < 4) : vtR (up s (ix k 3) w) lb f = vtR s lb f := by
  have e10 : up s (ix k 3) w 10 = s 10 := up_ix (by decide)
  have eW : ∀ y, y < 4 → wF (up s (ix k 3) w) lb f (s 10).toNat y = wF s lb f (s 10).toNat y := fun y hy => wt_up h hy _
  have eG : grN (wF (up s (ix k 3) w) lb f (s 10).toNat) 4 = grN (wF s lb f (s 10).toNat) 4 := by
    rw [grN_s, grN_s, grN_s, grN_s, grN_s, grN_s, grN_s, grN_s, eW 0 (by decide), eW 1 (by decide), eW 2 (by decide), eW 3 (by decide)]
    rfl
  unfold vtR
  rw [e10, sp_up, eG]
  by_cases q : spN s f (s 10).toNat < 0
  · rw [if_pos q, if_pos q]
  · rw [if_neg q, if_neg q]
    have hsp := spN_in (s := s) (f := f) (s 10).toNat (by omega)
    have hne : (spN s f (s 10).toNat).toNat ≠ k := fun z => h (by rw [← z]; exact hsp)
    rw [up_ne (k := ix (spN s f (s 10).toNat).toNat 3) (by unfold ix; omega)]
    unfold loW
    rw [eW 0 (by decide), eW 1 (by decide), eW 2 (by decide), eW 3 (by decide)]
    rw [eW _ (hw (by omega))]
theorem hsN_cg {s vf vf' : Nat → Int} {w : Int} : ∀ n, (∀ f, f < n → vf f = vf' f) → hsN s vf w n = hsN s vf' w n := by
  intro n h
  induction n with
  | zero => rfl
  | succ n ih => rw [hsN_s, hsN_s, ih (fun f hf => h f (by omega)), h n (by omega)]
theorem bsR_cg {s vf vf' : Nat → Int} (h : ∀ f, f < 6 → vf f = vf' f) : bsR s vf = bsR s vf' := by
  unfold bsR mjP
  rw [hsN_cg (w := 0) 6 h, hsN_cg (w := 1) 6 h, hsN_cg (w := 2) 6 h, hsN_cg (w := 3) 6 h]
theorem csQ_m {t : Int} {s : Nat → Int} (hI : Inv t s) {k : Nat} (hk : k < 12) (u w : Int) : csQ s (pvF s true) u k w ↔ bsR (up s (ix k 3) w) (pvF (up s (ix k 3) w) true) ≠ u := by
  have hs := hI.sc k hk
  have hb := hI.base
  unfold csQ
  rw [bsR_cg (vf := up (pvF s true) (s (ix k 0)).toNat (vtR (up s (ix k 3) w) true (s (ix k 0)))) (vf' := pvF (up s (ix k 3) w) true)]
  intro f hf
  by_cases q : f = (s (ix k 0)).toNat
  · subst q
    rw [up_eq]
    show _ = vtR (up s (ix k 3) w) true (((s (ix k 0)).toNat : Nat) : Int)
    rw [show (((s (ix k 0)).toNat : Nat) : Int) = s (ix k 0) by omega]
  · rw [up_ne q]
    exact (vt_up (by omega) (fun z => by
      have h1 := spN_b s (f : Int) (s 10).toNat
      have h2 := hI.sc (spN s (f : Int) (s 10).toNat).toNat (by omega)
      omega)).symm
theorem csP_m {t : Int} {s : Nat → Int} (hI : Inv t s) {k : Nat} (hk : k < 12) (u : Int) : csP s (pvF s true) u k ↔ (bsR (up s (ix k 3) 0) (pvF (up s (ix k 3) 0) true) ≠ u ∨ bsR (up s (ix k 3) 1) (pvF (up s (ix k 3) 1) true) ≠ u ∨ bsR (up s (ix k 3) 2) (pvF (up s (ix k 3) 2) true) ≠ u ∨ bsR (up s (ix k 3) 3) (pvF (up s (ix k 3) 3) true) ≠ u) := by
  unfold csP
  rw [csQ_m hI hk, csQ_m hI hk, csQ_m hI hk, csQ_m hI hk]
theorem tiF_n (s : Nat → Int) (a k : Nat) (h : k < 300) : tiF s a (300 - k) k = if s (ix a 9) < tsS s (k + 1) (ix a 9) then (k : Int) + 1 else tiF s a (300 - (k + 1)) (k + 1) := by
  rw [show 300 - k = (300 - (k + 1)) + 1 by omega, tiF_s]

set_option maxHeartbeats 4000000 in
set_option maxRecDepth 100000 in
theorem c_X5_swingsWith (l : Launch) (G : vC) (m : Nat → Nat) (s : Nat → Int) (sp : Nat → Int) (hi : Nat → Int) (sn : Nat → Int) (tx : Nat → Int) (g3 : Int) (g5 : Int) (g7 : Int) (g8 : Int) (g9 : Int) (g10 : Int) (g11 : Int) (g12 : Int) (g13 : Int) (t : Int) (k : Nat) (u : Int) (hI : Inv t s) (hk : k < 12) (hn : (k : Int) < s 10) (hu : iR u) : Fn l G yX5_swingsWith cX5_swingsWith 6 (some .boolean) ({ frames := 6, cells := 0, slots := 0, locals := 145 } : Room) [.ref (m 0), .int (jI ((k : Int))), .int (jI u)] (mB G m s sp hi sn tx g3 g5 g7 g8 g9 g10 g11 g12 g13) (some (.int (jI (bI (csP s (pvF s true) u k))))) (mB G m s sp hi sn tx g3 g5 g7 g8 g9 g10 g11 g12 g13) := by
  refine Ct.of (by decide) (Nat.le_of_ble_eq_true rfl) (fun X hX hR => ?_)
  refine V.toLv (lv' := [(0, .ref (m 0)), (1, .int (jI ((k : Int)))), (2, .int (jI u))]) rfl ?_
  have hb := hI.base
  have hs := hI.sc k hk
  have hcs := csP_m hI hk u
  have hb0 := bsR_b (up s (ix k 3) 0) (pvF (up s (ix k 3) 0) true)
  have hb1 := bsR_b (up s (ix k 3) 1) (pvF (up s (ix k 3) 1) true)
  have hb2 := bsR_b (up s (ix k 3) 2) (pvF (up s (ix k 3) 2) true)
  have hb3 := bsR_b (up s (ix k 3) 3) (pvF (up s (ix k 3) 3) true)
  refine V_aload_n hX dX5_swingsWith_0 0 rfl ?_
  refine V_iload_n hX dX5_swingsWith_1 1 rfl ?_
  refine V_iconst hX dX5_swingsWith_2 ?_
  refine V.sk (st' := [.int (jI ((3 : Int))), .int (jI ((k : Int))), .ref (m 0)]) rfl ?_
  refine V_cV (st := []) (v := .int (jI (s (ix k 3)))) (w' := mB G m s sp hi sn tx g3 g5 g7 g8 g9 g10 g11 g12 g13) hX wc_X5_29 (c_X5_of l G m s sp hi sn tx g3 g5 g7 g8 g9 g10 g11 g12 g13 k 3 (by omega) (by omega)) (by decide) (by decide) rfl rfl (Nat.le_of_ble_eq_true rfl) dX5_swingsWith_3 [] ([]) (by simp only [List.append_assoc, List.nil_append, List.append_nil]) 0 rfl rfl (by simp only [List.append_assoc, List.nil_append, List.append_nil]) rfl rfl ?_
  refine V_istore_n (i := 3) (lv' := [(3, .int (jI (s (ix k 3)))), (0, .ref (m 0)), (1, .int (jI ((k : Int)))), (2, .int (jI u))]) hX dX5_swingsWith_6 rfl (by decide) rfl ?_
  refine V_iconst hX dX5_swingsWith_7 ?_
  refine V_istore (i := 4) (lv' := [(4, .int (jI 0)), (3, .int (jI (s (ix k 3)))), (0, .ref (m 0)), (1, .int (jI ((k : Int)))), (2, .int (jI u))]) hX dX5_swingsWith_8 (by decide) rfl ?_
  refine V_iconst hX dX5_swingsWith_10 ?_
  refine V_istore (i := 5) (lv' := [(5, .int (jI 0)), (4, .int (jI 0)), (3, .int (jI (s (ix k 3)))), (0, .ref (m 0)), (1, .int (jI ((k : Int)))), (2, .int (jI u))]) hX dX5_swingsWith_11 (by decide) rfl ?_
  refine V_iload hX dX5_swingsWith_13 0 rfl ?_
  refine V_iconst hX dX5_swingsWith_15 ?_
  refine V_icmp_ge (tgt := 59) hX dX5_swingsWith_16 (by decide) (by decide) (by decide) (fun c_1 => absurd c_1 (by decide)) (fun c_1 => ?_)
  refine V_aload_n hX dX5_swingsWith_19 3 rfl ?_
  refine V_iload_n hX dX5_swingsWith_20 4 rfl ?_
  refine V_iconst hX dX5_swingsWith_21 ?_
  refine V_iload hX dX5_swingsWith_22 0 rfl ?_
  refine V.sk (st' := [.int (jI 0), .int (jI ((3 : Int))), .int (jI ((k : Int))), .ref (m 0)]) rfl ?_
  refine V_dV (st := []) (w' := mB G m (up s (ix k 3) 0) sp hi sn tx g3 g5 g7 g8 g9 g10 g11 g12 g13) hX wc_X5_75 (c_X5_setOf l G m s sp hi sn tx g3 g5 g7 g8 g9 g10 g11 g12 g13 k 3 0 (by omega) (by omega)) (by decide) (by decide) rfl rfl (Nat.le_of_ble_eq_true rfl) dX5_swingsWith_24 [] ([]) (by simp only [List.append_assoc, List.nil_append, List.append_nil]) 0 rfl rfl (by simp only [List.append_assoc, List.nil_append, List.append_nil]) rfl rfl ?_
  refine V_iload hX dX5_swingsWith_27 1 rfl ?_
  refine V_if_ne (tgt := 46) hX dX5_swingsWith_29 (by decide) (by decide) (fun c_2 => absurd c_2 (by decide)) (fun c_2 => ?_)
  refine V_aload_n hX dX5_swingsWith_32 3 rfl ?_
  refine V_aload_n hX dX5_swingsWith_33 3 rfl ?_
  refine V_get (v := .ref (m 1)) hX cbX5 0 0 (by decide) wf_X5_7 rfl rfl rfl rfl dX5_swingsWith_34 ?_
  refine V_iconst hX dX5_swingsWith_37 ?_
  refine V_iald (i0 := 1) (r := (jI (s 1))) hX 1 rfl (by decide) (by decide) (by decide) rfl (by show jI ((up s (ix k 3) 0) 1) = jI (s 1); rw [up_ne (by unfold ix; omega)]) dX5_swingsWith_38 ?_
  refine V_cV (st := []) (v := .int (jI (bsR (up s (ix k 3) 0) (pvF (up s (ix k 3) 0) true)))) (w' := mB G m (up s (ix k 3) 0) sp hi sn tx g3 g5 g7 g8 g9 g10 g11 g12 g13) hX wc_X5_101 (c_X5_decides l G m (up s (ix k 3) 0) sp hi sn tx g3 g5 g7 g8 g9 g10 g11 g12 g13 t true (s 1) (hI.a3 k _ hk hn (by omega)) (Or.inl ⟨rfl, (up_ix (by decide)).symm⟩)) (by decide) (by decide) rfl rfl (Nat.le_of_ble_eq_true rfl) dX5_swingsWith_39 [] ([]) (by simp only [List.append_assoc, List.nil_append, List.append_nil]) 0 rfl rfl (by simp only [List.append_assoc, List.nil_append, List.append_nil]) rfl rfl ?_
  refine V_iload_n hX dX5_swingsWith_42 5 rfl ?_
  refine V_icmp_eq (tgt := 50) hX dX5_swingsWith_43 (by decide) (by omega) (by omega) (fun c_3 => ?_) (fun c_3 => ?_)
  · refine V_iconst hX dX5_swingsWith_50 ?_
    refine V_istore (i := 4) (lv' := [(4, .int (jI 0)), (5, .int (jI 0)), (3, .int (jI (s (ix k 3)))), (0, .ref (m 0)), (1, .int (jI ((k : Int)))), (2, .int (jI u))]) hX dX5_swingsWith_51 (by decide) rfl ?_
    refine V_iinc (b := 1) (lv' := [(5, .int (jI 1)), (4, .int (jI 0)), (3, .int (jI (s (ix k 3)))), (0, .ref (m 0)), (1, .int (jI ((k : Int)))), (2, .int (jI u))]) hX dX5_swingsWith_53 1 rfl rfl (by decide) rfl ?_
    refine V_goto (tgt := 13) hX dX5_swingsWith_56 (by decide) ?_
    refine V_iload hX dX5_swingsWith_13 0 rfl ?_
    refine V_iconst hX dX5_swingsWith_15 ?_
    refine V_icmp_ge (tgt := 59) hX dX5_swingsWith_16 (by decide) (by decide) (by decide) (fun c_4 => absurd c_4 (by decide)) (fun c_4 => ?_)
    refine V_aload_n hX dX5_swingsWith_19 3 rfl ?_
    refine V_iload_n hX dX5_swingsWith_20 4 rfl ?_
    refine V_iconst hX dX5_swingsWith_21 ?_
    refine V_iload hX dX5_swingsWith_22 0 rfl ?_
    refine V.sk (st' := [.int (jI 1), .int (jI ((3 : Int))), .int (jI ((k : Int))), .ref (m 0)]) rfl ?_
    refine V_dV (st := []) (w' := mB G m (up (up s (ix k 3) 0) (ix k 3) 1) sp hi sn tx g3 g5 g7 g8 g9 g10 g11 g12 g13) hX wc_X5_75 (c_X5_setOf l G m (up s (ix k 3) 0) sp hi sn tx g3 g5 g7 g8 g9 g10 g11 g12 g13 k 3 1 (by omega) (by omega)) (by decide) (by decide) rfl rfl (Nat.le_of_ble_eq_true rfl) dX5_swingsWith_24 [] ([]) (by simp only [List.append_assoc, List.nil_append, List.append_nil]) 0 rfl rfl (by simp only [List.append_assoc, List.nil_append, List.append_nil]) rfl rfl ?_
    refine V.wd (w' := mB G m (up s (ix k 3) 1) sp hi sn tx g3 g5 g7 g8 g9 g10 g11 g12 g13) (mB_c up_up rfl rfl rfl rfl rfl rfl rfl rfl rfl rfl rfl rfl rfl) ?_
    refine V_iload hX dX5_swingsWith_27 1 rfl ?_
    refine V_if_ne (tgt := 46) hX dX5_swingsWith_29 (by decide) (by decide) (fun c_5 => absurd c_5 (by decide)) (fun c_5 => ?_)
    refine V_aload_n hX dX5_swingsWith_32 3 rfl ?_
    refine V_aload_n hX dX5_swingsWith_33 3 rfl ?_
    refine V_get (v := .ref (m 1)) hX cbX5 0 0 (by decide) wf_X5_7 rfl rfl rfl rfl dX5_swingsWith_34 ?_
    refine V_iconst hX dX5_swingsWith_37 ?_
    refine V_iald (i0 := 1) (r := (jI (s 1))) hX 1 rfl (by decide) (by decide) (by decide) rfl (by show jI ((up s (ix k 3) 1) 1) = jI (s 1); rw [up_ne (by unfold ix; omega)]) dX5_swingsWith_38 ?_
    refine V_cV (st := []) (v := .int (jI (bsR (up s (ix k 3) 1) (pvF (up s (ix k 3) 1) true)))) (w' := mB G m (up s (ix k 3) 1) sp hi sn tx g3 g5 g7 g8 g9 g10 g11 g12 g13) hX wc_X5_101 (c_X5_decides l G m (up s (ix k 3) 1) sp hi sn tx g3 g5 g7 g8 g9 g10 g11 g12 g13 t true (s 1) (hI.a3 k _ hk hn (by omega)) (Or.inl ⟨rfl, (up_ix (by decide)).symm⟩)) (by decide) (by decide) rfl rfl (Nat.le_of_ble_eq_true rfl) dX5_swingsWith_39 [] ([]) (by simp only [List.append_assoc, List.nil_append, List.append_nil]) 0 rfl rfl (by simp only [List.append_assoc, List.nil_append, List.append_nil]) rfl rfl ?_
    refine V_iload_n hX dX5_swingsWith_42 5 rfl ?_
    refine V_icmp_eq (tgt := 50) hX dX5_swingsWith_43 (by decide) (by omega) (by omega) (fun c_6 => ?_) (fun c_6 => ?_)
    · refine V_iconst hX dX5_swingsWith_50 ?_
      refine V_istore (i := 4) (lv' := [(4, .int (jI 0)), (5, .int (jI 1)), (3, .int (jI (s (ix k 3)))), (0, .ref (m 0)), (1, .int (jI ((k : Int)))), (2, .int (jI u))]) hX dX5_swingsWith_51 (by decide) rfl ?_
      refine V_iinc (b := 2) (lv' := [(5, .int (jI 2)), (4, .int (jI 0)), (3, .int (jI (s (ix k 3)))), (0, .ref (m 0)), (1, .int (jI ((k : Int)))), (2, .int (jI u))]) hX dX5_swingsWith_53 1 rfl rfl (by decide) rfl ?_
      refine V_goto (tgt := 13) hX dX5_swingsWith_56 (by decide) ?_
      refine V_iload hX dX5_swingsWith_13 0 rfl ?_
      refine V_iconst hX dX5_swingsWith_15 ?_
      refine V_icmp_ge (tgt := 59) hX dX5_swingsWith_16 (by decide) (by decide) (by decide) (fun c_7 => absurd c_7 (by decide)) (fun c_7 => ?_)
      refine V_aload_n hX dX5_swingsWith_19 3 rfl ?_
      refine V_iload_n hX dX5_swingsWith_20 4 rfl ?_
      refine V_iconst hX dX5_swingsWith_21 ?_
      refine V_iload hX dX5_swingsWith_22 0 rfl ?_
      refine V.sk (st' := [.int (jI 2), .int (jI ((3 : Int))), .int (jI ((k : Int))), .ref (m 0)]) rfl ?_
      refine V_dV (st := []) (w' := mB G m (up (up s (ix k 3) 1) (ix k 3) 2) sp hi sn tx g3 g5 g7 g8 g9 g10 g11 g12 g13) hX wc_X5_75 (c_X5_setOf l G m (up s (ix k 3) 1) sp hi sn tx g3 g5 g7 g8 g9 g10 g11 g12 g13 k 3 2 (by omega) (by omega)) (by decide) (by decide) rfl rfl (Nat.le_of_ble_eq_true rfl) dX5_swingsWith_24 [] ([]) (by simp only [List.append_assoc, List.nil_append, List.append_nil]) 0 rfl rfl (by simp only [List.append_assoc, List.nil_append, List.append_nil]) rfl rfl ?_
      refine V.wd (w' := mB G m (up s (ix k 3) 2) sp hi sn tx g3 g5 g7 g8 g9 g10 g11 g12 g13) (mB_c up_up rfl rfl rfl rfl rfl rfl rfl rfl rfl rfl rfl rfl rfl) ?_
      refine V_iload hX dX5_swingsWith_27 1 rfl ?_
      refine V_if_ne (tgt := 46) hX dX5_swingsWith_29 (by decide) (by decide) (fun c_8 => absurd c_8 (by decide)) (fun c_8 => ?_)
      refine V_aload_n hX dX5_swingsWith_32 3 rfl ?_
      refine V_aload_n hX dX5_swingsWith_33 3 rfl ?_
      refine V_get (v := .ref (m 1)) hX cbX5 0 0 (by decide) wf_X5_7 rfl rfl rfl rfl dX5_swingsWith_34 ?_
      refine V_iconst hX dX5_swingsWith_37 ?_
      refine V_iald (i0 := 1) (r := (jI (s 1))) hX 1 rfl (by decide) (by decide) (by decide) rfl (by show jI ((up s (ix k 3) 2) 1) = jI (s 1); rw [up_ne (by unfold ix; omega)]) dX5_swingsWith_38 ?_
      refine V_cV (st := []) (v := .int (jI (bsR (up s (ix k 3) 2) (pvF (up s (ix k 3) 2) true)))) (w' := mB G m (up s (ix k 3) 2) sp hi sn tx g3 g5 g7 g8 g9 g10 g11 g12 g13) hX wc_X5_101 (c_X5_decides l G m (up s (ix k 3) 2) sp hi sn tx g3 g5 g7 g8 g9 g10 g11 g12 g13 t true (s 1) (hI.a3 k _ hk hn (by omega)) (Or.inl ⟨rfl, (up_ix (by decide)).symm⟩)) (by decide) (by decide) rfl rfl (Nat.le_of_ble_eq_true rfl) dX5_swingsWith_39 [] ([]) (by simp only [List.append_assoc, List.nil_append, List.append_nil]) 0 rfl rfl (by simp only [List.append_assoc, List.nil_append, List.append_nil]) rfl rfl ?_
      refine V_iload_n hX dX5_swingsWith_42 5 rfl ?_
      refine V_icmp_eq (tgt := 50) hX dX5_swingsWith_43 (by decide) (by omega) (by omega) (fun c_9 => ?_) (fun c_9 => ?_)
      · refine V_iconst hX dX5_swingsWith_50 ?_
        refine V_istore (i := 4) (lv' := [(4, .int (jI 0)), (5, .int (jI 2)), (3, .int (jI (s (ix k 3)))), (0, .ref (m 0)), (1, .int (jI ((k : Int)))), (2, .int (jI u))]) hX dX5_swingsWith_51 (by decide) rfl ?_
        refine V_iinc (b := 3) (lv' := [(5, .int (jI 3)), (4, .int (jI 0)), (3, .int (jI (s (ix k 3)))), (0, .ref (m 0)), (1, .int (jI ((k : Int)))), (2, .int (jI u))]) hX dX5_swingsWith_53 1 rfl rfl (by decide) rfl ?_
        refine V_goto (tgt := 13) hX dX5_swingsWith_56 (by decide) ?_
        refine V_iload hX dX5_swingsWith_13 0 rfl ?_
        refine V_iconst hX dX5_swingsWith_15 ?_
        refine V_icmp_ge (tgt := 59) hX dX5_swingsWith_16 (by decide) (by decide) (by decide) (fun c_10 => absurd c_10 (by decide)) (fun c_10 => ?_)
        refine V_aload_n hX dX5_swingsWith_19 3 rfl ?_
        refine V_iload_n hX dX5_swingsWith_20 4 rfl ?_
        refine V_iconst hX dX5_swingsWith_21 ?_
        refine V_iload hX dX5_swingsWith_22 0 rfl ?_
        refine V.sk (st' := [.int (jI 3), .int (jI ((3 : Int))), .int (jI ((k : Int))), .ref (m 0)]) rfl ?_
        refine V_dV (st := []) (w' := mB G m (up (up s (ix k 3) 2) (ix k 3) 3) sp hi sn tx g3 g5 g7 g8 g9 g10 g11 g12 g13) hX wc_X5_75 (c_X5_setOf l G m (up s (ix k 3) 2) sp hi sn tx g3 g5 g7 g8 g9 g10 g11 g12 g13 k 3 3 (by omega) (by omega)) (by decide) (by decide) rfl rfl (Nat.le_of_ble_eq_true rfl) dX5_swingsWith_24 [] ([]) (by simp only [List.append_assoc, List.nil_append, List.append_nil]) 0 rfl rfl (by simp only [List.append_assoc, List.nil_append, List.append_nil]) rfl rfl ?_
        refine V.wd (w' := mB G m (up s (ix k 3) 3) sp hi sn tx g3 g5 g7 g8 g9 g10 g11 g12 g13) (mB_c up_up rfl rfl rfl rfl rfl rfl rfl rfl rfl rfl rfl rfl rfl) ?_
        refine V_iload hX dX5_swingsWith_27 1 rfl ?_
        refine V_if_ne (tgt := 46) hX dX5_swingsWith_29 (by decide) (by decide) (fun c_11 => absurd c_11 (by decide)) (fun c_11 => ?_)
        refine V_aload_n hX dX5_swingsWith_32 3 rfl ?_
        refine V_aload_n hX dX5_swingsWith_33 3 rfl ?_
        refine V_get (v := .ref (m 1)) hX cbX5 0 0 (by decide) wf_X5_7 rfl rfl rfl rfl dX5_swingsWith_34 ?_
        refine V_iconst hX dX5_swingsWith_37 ?_
        refine V_iald (i0 := 1) (r := (jI (s 1))) hX 1 rfl (by decide) (by decide) (by decide) rfl (by show jI ((up s (ix k 3) 3) 1) = jI (s 1); rw [up_ne (by unfold ix; omega)]) dX5_swingsWith_38 ?_
        refine V_cV (st := []) (v := .int (jI (bsR (up s (ix k 3) 3) (pvF (up s (ix k 3) 3) true)))) (w' := mB G m (up s (ix k 3) 3) sp hi sn tx g3 g5 g7 g8 g9 g10 g11 g12 g13) hX wc_X5_101 (c_X5_decides l G m (up s (ix k 3) 3) sp hi sn tx g3 g5 g7 g8 g9 g10 g11 g12 g13 t true (s 1) (hI.a3 k _ hk hn (by omega)) (Or.inl ⟨rfl, (up_ix (by decide)).symm⟩)) (by decide) (by decide) rfl rfl (Nat.le_of_ble_eq_true rfl) dX5_swingsWith_39 [] ([]) (by simp only [List.append_assoc, List.nil_append, List.append_nil]) 0 rfl rfl (by simp only [List.append_assoc, List.nil_append, List.append_nil]) rfl rfl ?_
        refine V_iload_n hX dX5_swingsWith_42 5 rfl ?_
        refine V_icmp_eq (tgt := 50) hX dX5_swingsWith_43 (by decide) (by omega) (by omega) (fun c_12 => ?_) (fun c_12 => ?_)
        · refine V_iconst hX dX5_swingsWith_50 ?_
          refine V_istore (i := 4) (lv' := [(4, .int (jI 0)), (5, .int (jI 3)), (3, .int (jI (s (ix k 3)))), (0, .ref (m 0)), (1, .int (jI ((k : Int)))), (2, .int (jI u))]) hX dX5_swingsWith_51 (by decide) rfl ?_
          refine V_iinc (b := 4) (lv' := [(5, .int (jI 4)), (4, .int (jI 0)), (3, .int (jI (s (ix k 3)))), (0, .ref (m 0)), (1, .int (jI ((k : Int)))), (2, .int (jI u))]) hX dX5_swingsWith_53 1 rfl rfl (by decide) rfl ?_
          refine V_goto (tgt := 13) hX dX5_swingsWith_56 (by decide) ?_
          refine V_iload hX dX5_swingsWith_13 0 rfl ?_
          refine V_iconst hX dX5_swingsWith_15 ?_
          refine V_icmp_ge (tgt := 59) hX dX5_swingsWith_16 (by decide) (by decide) (by decide) (fun c_13 => ?_) (fun c_13 => absurd c_13 (by decide))
          refine V_aload_n hX dX5_swingsWith_59 3 rfl ?_
          refine V_iload_n hX dX5_swingsWith_60 4 rfl ?_
          refine V_iconst hX dX5_swingsWith_61 ?_
          refine V_iload_n hX dX5_swingsWith_62 2 rfl ?_
          refine V.sk (st' := [.int (jI (s (ix k 3))), .int (jI ((3 : Int))), .int (jI ((k : Int))), .ref (m 0)]) rfl ?_
          refine V_dV (st := []) (w' := mB G m (up (up s (ix k 3) 3) (ix k 3) (s (ix k 3))) sp hi sn tx g3 g5 g7 g8 g9 g10 g11 g12 g13) hX wc_X5_75 (c_X5_setOf l G m (up s (ix k 3) 3) sp hi sn tx g3 g5 g7 g8 g9 g10 g11 g12 g13 k 3 (s (ix k 3)) (by omega) (by omega)) (by decide) (by decide) rfl rfl (Nat.le_of_ble_eq_true rfl) dX5_swingsWith_63 [] ([]) (by simp only [List.append_assoc, List.nil_append, List.append_nil]) 0 rfl rfl (by simp only [List.append_assoc, List.nil_append, List.append_nil]) rfl rfl ?_
          refine V.wd (w' := mB G m s sp hi sn tx g3 g5 g7 g8 g9 g10 g11 g12 g13) (mB_c (by rw [up_up]; exact up_same rfl) rfl rfl rfl rfl rfl rfl rfl rfl rfl rfl rfl rfl rfl) ?_
          refine V_iload hX dX5_swingsWith_66 1 rfl ?_
          exact V_zret hX hR rfl dX5_swingsWith_68 ⟨(by first | exact congrArg (fun z => some (Value.int (jI z))) (bI_t (hcs.mpr (by omega))).symm | exact congrArg (fun z => some (Value.int (jI z))) (bI_f (fun z => absurd (hcs.mp z) (by omega))).symm), rfl⟩
        · refine V_iconst hX dX5_swingsWith_46 ?_
          refine V_goto (tgt := 51) hX dX5_swingsWith_47 (by decide) ?_
          refine V_istore (i := 4) (lv' := [(4, .int (jI 1)), (5, .int (jI 3)), (3, .int (jI (s (ix k 3)))), (0, .ref (m 0)), (1, .int (jI ((k : Int)))), (2, .int (jI u))]) hX dX5_swingsWith_51 (by decide) rfl ?_
          refine V_iinc (b := 4) (lv' := [(5, .int (jI 4)), (4, .int (jI 1)), (3, .int (jI (s (ix k 3)))), (0, .ref (m 0)), (1, .int (jI ((k : Int)))), (2, .int (jI u))]) hX dX5_swingsWith_53 1 rfl rfl (by decide) rfl ?_
          refine V_goto (tgt := 13) hX dX5_swingsWith_56 (by decide) ?_
          refine V_iload hX dX5_swingsWith_13 0 rfl ?_
          refine V_iconst hX dX5_swingsWith_15 ?_
          refine V_icmp_ge (tgt := 59) hX dX5_swingsWith_16 (by decide) (by decide) (by decide) (fun c_14 => ?_) (fun c_14 => absurd c_14 (by decide))
          refine V_aload_n hX dX5_swingsWith_59 3 rfl ?_
          refine V_iload_n hX dX5_swingsWith_60 4 rfl ?_
          refine V_iconst hX dX5_swingsWith_61 ?_
          refine V_iload_n hX dX5_swingsWith_62 2 rfl ?_
          refine V.sk (st' := [.int (jI (s (ix k 3))), .int (jI ((3 : Int))), .int (jI ((k : Int))), .ref (m 0)]) rfl ?_
          refine V_dV (st := []) (w' := mB G m (up (up s (ix k 3) 3) (ix k 3) (s (ix k 3))) sp hi sn tx g3 g5 g7 g8 g9 g10 g11 g12 g13) hX wc_X5_75 (c_X5_setOf l G m (up s (ix k 3) 3) sp hi sn tx g3 g5 g7 g8 g9 g10 g11 g12 g13 k 3 (s (ix k 3)) (by omega) (by omega)) (by decide) (by decide) rfl rfl (Nat.le_of_ble_eq_true rfl) dX5_swingsWith_63 [] ([]) (by simp only [List.append_assoc, List.nil_append, List.append_nil]) 0 rfl rfl (by simp only [List.append_assoc, List.nil_append, List.append_nil]) rfl rfl ?_
          refine V.wd (w' := mB G m s sp hi sn tx g3 g5 g7 g8 g9 g10 g11 g12 g13) (mB_c (by rw [up_up]; exact up_same rfl) rfl rfl rfl rfl rfl rfl rfl rfl rfl rfl rfl rfl rfl) ?_
          refine V_iload hX dX5_swingsWith_66 1 rfl ?_
          exact V_zret hX hR rfl dX5_swingsWith_68 ⟨(by first | exact congrArg (fun z => some (Value.int (jI z))) (bI_t (hcs.mpr (by omega))).symm | exact congrArg (fun z => some (Value.int (jI z))) (bI_f (fun z => absurd (hcs.mp z) (by omega))).symm), rfl⟩
      · refine V_iconst hX dX5_swingsWith_46 ?_
        refine V_goto (tgt := 51) hX dX5_swingsWith_47 (by decide) ?_
        refine V_istore (i := 4) (lv' := [(4, .int (jI 1)), (5, .int (jI 2)), (3, .int (jI (s (ix k 3)))), (0, .ref (m 0)), (1, .int (jI ((k : Int)))), (2, .int (jI u))]) hX dX5_swingsWith_51 (by decide) rfl ?_
        refine V_iinc (b := 3) (lv' := [(5, .int (jI 3)), (4, .int (jI 1)), (3, .int (jI (s (ix k 3)))), (0, .ref (m 0)), (1, .int (jI ((k : Int)))), (2, .int (jI u))]) hX dX5_swingsWith_53 1 rfl rfl (by decide) rfl ?_
        refine V_goto (tgt := 13) hX dX5_swingsWith_56 (by decide) ?_
        refine V_iload hX dX5_swingsWith_13 0 rfl ?_
        refine V_iconst hX dX5_swingsWith_15 ?_
        refine V_icmp_ge (tgt := 59) hX dX5_swingsWith_16 (by decide) (by decide) (by decide) (fun c_15 => absurd c_15 (by decide)) (fun c_15 => ?_)
        refine V_aload_n hX dX5_swingsWith_19 3 rfl ?_
        refine V_iload_n hX dX5_swingsWith_20 4 rfl ?_
        refine V_iconst hX dX5_swingsWith_21 ?_
        refine V_iload hX dX5_swingsWith_22 0 rfl ?_
        refine V.sk (st' := [.int (jI 3), .int (jI ((3 : Int))), .int (jI ((k : Int))), .ref (m 0)]) rfl ?_
        refine V_dV (st := []) (w' := mB G m (up (up s (ix k 3) 2) (ix k 3) 3) sp hi sn tx g3 g5 g7 g8 g9 g10 g11 g12 g13) hX wc_X5_75 (c_X5_setOf l G m (up s (ix k 3) 2) sp hi sn tx g3 g5 g7 g8 g9 g10 g11 g12 g13 k 3 3 (by omega) (by omega)) (by decide) (by decide) rfl rfl (Nat.le_of_ble_eq_true rfl) dX5_swingsWith_24 [] ([]) (by simp only [List.append_assoc, List.nil_append, List.append_nil]) 0 rfl rfl (by simp only [List.append_assoc, List.nil_append, List.append_nil]) rfl rfl ?_
        refine V.wd (w' := mB G m (up s (ix k 3) 3) sp hi sn tx g3 g5 g7 g8 g9 g10 g11 g12 g13) (mB_c up_up rfl rfl rfl rfl rfl rfl rfl rfl rfl rfl rfl rfl rfl) ?_
        refine V_iload hX dX5_swingsWith_27 1 rfl ?_
        refine V_if_ne (tgt := 46) hX dX5_swingsWith_29 (by decide) (by decide) (fun c_16 => ?_) (fun c_16 => absurd c_16 (by decide))
        refine V_iconst hX dX5_swingsWith_46 ?_
        refine V_goto (tgt := 51) hX dX5_swingsWith_47 (by decide) ?_
        refine V_istore (i := 4) (lv' := [(4, .int (jI 1)), (5, .int (jI 3)), (3, .int (jI (s (ix k 3)))), (0, .ref (m 0)), (1, .int (jI ((k : Int)))), (2, .int (jI u))]) hX dX5_swingsWith_51 (by decide) rfl ?_
        refine V_iinc (b := 4) (lv' := [(5, .int (jI 4)), (4, .int (jI 1)), (3, .int (jI (s (ix k 3)))), (0, .ref (m 0)), (1, .int (jI ((k : Int)))), (2, .int (jI u))]) hX dX5_swingsWith_53 1 rfl rfl (by decide) rfl ?_
        refine V_goto (tgt := 13) hX dX5_swingsWith_56 (by decide) ?_
        refine V_iload hX dX5_swingsWith_13 0 rfl ?_
        refine V_iconst hX dX5_swingsWith_15 ?_
        refine V_icmp_ge (tgt := 59) hX dX5_swingsWith_16 (by decide) (by decide) (by decide) (fun c_17 => ?_) (fun c_17 => absurd c_17 (by decide))
        refine V_aload_n hX dX5_swingsWith_59 3 rfl ?_
        refine V_iload_n hX dX5_swingsWith_60 4 rfl ?_
        refine V_iconst hX dX5_swingsWith_61 ?_
        refine V_iload_n hX dX5_swingsWith_62 2 rfl ?_
        refine V.sk (st' := [.int (jI (s (ix k 3))), .int (jI ((3 : Int))), .int (jI ((k : Int))), .ref (m 0)]) rfl ?_
        refine V_dV (st := []) (w' := mB G m (up (up s (ix k 3) 3) (ix k 3) (s (ix k 3))) sp hi sn tx g3 g5 g7 g8 g9 g10 g11 g12 g13) hX wc_X5_75 (c_X5_setOf l G m (up s (ix k 3) 3) sp hi sn tx g3 g5 g7 g8 g9 g10 g11 g12 g13 k 3 (s (ix k 3)) (by omega) (by omega)) (by decide) (by decide) rfl rfl (Nat.le_of_ble_eq_true rfl) dX5_swingsWith_63 [] ([]) (by simp only [List.append_assoc, List.nil_append, List.append_nil]) 0 rfl rfl (by simp only [List.append_assoc, List.nil_append, List.append_nil]) rfl rfl ?_
        refine V.wd (w' := mB G m s sp hi sn tx g3 g5 g7 g8 g9 g10 g11 g12 g13) (mB_c (by rw [up_up]; exact up_same rfl) rfl rfl rfl rfl rfl rfl rfl rfl rfl rfl rfl rfl rfl) ?_
        refine V_iload hX dX5_swingsWith_66 1 rfl ?_
        exact V_zret hX hR rfl dX5_swingsWith_68 ⟨(by first | exact congrArg (fun z => some (Value.int (jI z))) (bI_t (hcs.mpr (by omega))).symm | exact congrArg (fun z => some (Value.int (jI z))) (bI_f (fun z => absurd (hcs.mp z) (by omega))).symm), rfl⟩
    · refine V_iconst hX dX5_swingsWith_46 ?_
      refine V_goto (tgt := 51) hX dX5_swingsWith_47 (by decide) ?_
      refine V_istore (i := 4) (lv' := [(4, .int (jI 1)), (5, .int (jI 1)), (3, .int (jI (s (ix k 3)))), (0, .ref (m 0)), (1, .int (jI ((k : Int)))), (2, .int (jI u))]) hX dX5_swingsWith_51 (by decide) rfl ?_
      refine V_iinc (b := 2) (lv' := [(5, .int (jI 2)), (4, .int (jI 1)), (3, .int (jI (s (ix k 3)))), (0, .ref (m 0)), (1, .int (jI ((k : Int)))), (2, .int (jI u))]) hX dX5_swingsWith_53 1 rfl rfl (by decide) rfl ?_
      refine V_goto (tgt := 13) hX dX5_swingsWith_56 (by decide) ?_
      refine V_iload hX dX5_swingsWith_13 0 rfl ?_
      refine V_iconst hX dX5_swingsWith_15 ?_
      refine V_icmp_ge (tgt := 59) hX dX5_swingsWith_16 (by decide) (by decide) (by decide) (fun c_18 => absurd c_18 (by decide)) (fun c_18 => ?_)
      refine V_aload_n hX dX5_swingsWith_19 3 rfl ?_
      refine V_iload_n hX dX5_swingsWith_20 4 rfl ?_
      refine V_iconst hX dX5_swingsWith_21 ?_
      refine V_iload hX dX5_swingsWith_22 0 rfl ?_
      refine V.sk (st' := [.int (jI 2), .int (jI ((3 : Int))), .int (jI ((k : Int))), .ref (m 0)]) rfl ?_
      refine V_dV (st := []) (w' := mB G m (up (up s (ix k 3) 1) (ix k 3) 2) sp hi sn tx g3 g5 g7 g8 g9 g10 g11 g12 g13) hX wc_X5_75 (c_X5_setOf l G m (up s (ix k 3) 1) sp hi sn tx g3 g5 g7 g8 g9 g10 g11 g12 g13 k 3 2 (by omega) (by omega)) (by decide) (by decide) rfl rfl (Nat.le_of_ble_eq_true rfl) dX5_swingsWith_24 [] ([]) (by simp only [List.append_assoc, List.nil_append, List.append_nil]) 0 rfl rfl (by simp only [List.append_assoc, List.nil_append, List.append_nil]) rfl rfl ?_
      refine V.wd (w' := mB G m (up s (ix k 3) 2) sp hi sn tx g3 g5 g7 g8 g9 g10 g11 g12 g13) (mB_c up_up rfl rfl rfl rfl rfl rfl rfl rfl rfl rfl rfl rfl rfl) ?_
      refine V_iload hX dX5_swingsWith_27 1 rfl ?_
      refine V_if_ne (tgt := 46) hX dX5_swingsWith_29 (by decide) (by decide) (fun c_19 => ?_) (fun c_19 => absurd c_19 (by decide))
      refine V_iconst hX dX5_swingsWith_46 ?_
      refine V_goto (tgt := 51) hX dX5_swingsWith_47 (by decide) ?_
      refine V_istore (i := 4) (lv' := [(4, .int (jI 1)), (5, .int (jI 2)), (3, .int (jI (s (ix k 3)))), (0, .ref (m 0)), (1, .int (jI ((k : Int)))), (2, .int (jI u))]) hX dX5_swingsWith_51 (by decide) rfl ?_
      refine V_iinc (b := 3) (lv' := [(5, .int (jI 3)), (4, .int (jI 1)), (3, .int (jI (s (ix k 3)))), (0, .ref (m 0)), (1, .int (jI ((k : Int)))), (2, .int (jI u))]) hX dX5_swingsWith_53 1 rfl rfl (by decide) rfl ?_
      refine V_goto (tgt := 13) hX dX5_swingsWith_56 (by decide) ?_
      refine V_iload hX dX5_swingsWith_13 0 rfl ?_
      refine V_iconst hX dX5_swingsWith_15 ?_
      refine V_icmp_ge (tgt := 59) hX dX5_swingsWith_16 (by decide) (by decide) (by decide) (fun c_20 => absurd c_20 (by decide)) (fun c_20 => ?_)
      refine V_aload_n hX dX5_swingsWith_19 3 rfl ?_
      refine V_iload_n hX dX5_swingsWith_20 4 rfl ?_
      refine V_iconst hX dX5_swingsWith_21 ?_
      refine V_iload hX dX5_swingsWith_22 0 rfl ?_
      refine V.sk (st' := [.int (jI 3), .int (jI ((3 : Int))), .int (jI ((k : Int))), .ref (m 0)]) rfl ?_
      refine V_dV (st := []) (w' := mB G m (up (up s (ix k 3) 2) (ix k 3) 3) sp hi sn tx g3 g5 g7 g8 g9 g10 g11 g12 g13) hX wc_X5_75 (c_X5_setOf l G m (up s (ix k 3) 2) sp hi sn tx g3 g5 g7 g8 g9 g10 g11 g12 g13 k 3 3 (by omega) (by omega)) (by decide) (by decide) rfl rfl (Nat.le_of_ble_eq_true rfl) dX5_swingsWith_24 [] ([]) (by simp only [List.append_assoc, List.nil_append, List.append_nil]) 0 rfl rfl (by simp only [List.append_assoc, List.nil_append, List.append_nil]) rfl rfl ?_
      refine V.wd (w' := mB G m (up s (ix k 3) 3) sp hi sn tx g3 g5 g7 g8 g9 g10 g11 g12 g13) (mB_c up_up rfl rfl rfl rfl rfl rfl rfl rfl rfl rfl rfl rfl rfl) ?_
      refine V_iload hX dX5_swingsWith_27 1 rfl ?_
      refine V_if_ne (tgt := 46) hX dX5_swingsWith_29 (by decide) (by decide) (fun c_21 => ?_) (fun c_21 => absurd c_21 (by decide))
      refine V_iconst hX dX5_swingsWith_46 ?_
      refine V_goto (tgt := 51) hX dX5_swingsWith_47 (by decide) ?_
      refine V_istore (i := 4) (lv' := [(4, .int (jI 1)), (5, .int (jI 3)), (3, .int (jI (s (ix k 3)))), (0, .ref (m 0)), (1, .int (jI ((k : Int)))), (2, .int (jI u))]) hX dX5_swingsWith_51 (by decide) rfl ?_
      refine V_iinc (b := 4) (lv' := [(5, .int (jI 4)), (4, .int (jI 1)), (3, .int (jI (s (ix k 3)))), (0, .ref (m 0)), (1, .int (jI ((k : Int)))), (2, .int (jI u))]) hX dX5_swingsWith_53 1 rfl rfl (by decide) rfl ?_
      refine V_goto (tgt := 13) hX dX5_swingsWith_56 (by decide) ?_
      refine V_iload hX dX5_swingsWith_13 0 rfl ?_
      refine V_iconst hX dX5_swingsWith_15 ?_
      refine V_icmp_ge (tgt := 59) hX dX5_swingsWith_16 (by decide) (by decide) (by decide) (fun c_22 => ?_) (fun c_22 => absurd c_22 (by decide))
      refine V_aload_n hX dX5_swingsWith_59 3 rfl ?_
      refine V_iload_n hX dX5_swingsWith_60 4 rfl ?_
      refine V_iconst hX dX5_swingsWith_61 ?_
      refine V_iload_n hX dX5_swingsWith_62 2 rfl ?_
      refine V.sk (st' := [.int (jI (s (ix k 3))), .int (jI ((3 : Int))), .int (jI ((k : Int))), .ref (m 0)]) rfl ?_
      refine V_dV (st := []) (w' := mB G m (up (up s (ix k 3) 3) (ix k 3) (s (ix k 3))) sp hi sn tx g3 g5 g7 g8 g9 g10 g11 g12 g13) hX wc_X5_75 (c_X5_setOf l G m (up s (ix k 3) 3) sp hi sn tx g3 g5 g7 g8 g9 g10 g11 g12 g13 k 3 (s (ix k 3)) (by omega) (by omega)) (by decide) (by decide) rfl rfl (Nat.le_of_ble_eq_true rfl) dX5_swingsWith_63 [] ([]) (by simp only [List.append_assoc, List.nil_append, List.append_nil]) 0 rfl rfl (by simp only [List.append_assoc, List.nil_append, List.append_nil]) rfl rfl ?_
      refine V.wd (w' := mB G m s sp hi sn tx g3 g5 g7 g8 g9 g10 g11 g12 g13) (mB_c (by rw [up_up]; exact up_same rfl) rfl rfl rfl rfl rfl rfl rfl rfl rfl rfl rfl rfl rfl) ?_
      refine V_iload hX dX5_swingsWith_66 1 rfl ?_
      exact V_zret hX hR rfl dX5_swingsWith_68 ⟨(by first | exact congrArg (fun z => some (Value.int (jI z))) (bI_t (hcs.mpr (by omega))).symm | exact congrArg (fun z => some (Value.int (jI z))) (bI_f (fun z => absurd (hcs.mp z) (by omega))).symm), rfl⟩
  · refine V_iconst hX dX5_swingsWith_46 ?_
    refine V_goto (tgt := 51) hX dX5_swingsWith_47 (by decide) ?_
    refine V_istore (i := 4) (lv' := [(4, .int (jI 1)), (5, .int (jI 0)), (3, .int (jI (s (ix k 3)))), (0, .ref (m 0)), (1, .int (jI ((k : Int)))), (2, .int (jI u))]) hX dX5_swingsWith_51 (by decide) rfl ?_
    refine V_iinc (b := 1) (lv' := [(5, .int (jI 1)), (4, .int (jI 1)), (3, .int (jI (s (ix k 3)))), (0, .ref (m 0)), (1, .int (jI ((k : Int)))), (2, .int (jI u))]) hX dX5_swingsWith_53 1 rfl rfl (by decide) rfl ?_
    refine V_goto (tgt := 13) hX dX5_swingsWith_56 (by decide) ?_
    refine V_iload hX dX5_swingsWith_13 0 rfl ?_
    refine V_iconst hX dX5_swingsWith_15 ?_
    refine V_icmp_ge (tgt := 59) hX dX5_swingsWith_16 (by decide) (by decide) (by decide) (fun c_23 => absurd c_23 (by decide)) (fun c_23 => ?_)
    refine V_aload_n hX dX5_swingsWith_19 3 rfl ?_
    refine V_iload_n hX dX5_swingsWith_20 4 rfl ?_
    refine V_iconst hX dX5_swingsWith_21 ?_
    refine V_iload hX dX5_swingsWith_22 0 rfl ?_
    refine V.sk (st' := [.int (jI 1), .int (jI ((3 : Int))), .int (jI ((k : Int))), .ref (m 0)]) rfl ?_
    refine V_dV (st := []) (w' := mB G m (up (up s (ix k 3) 0) (ix k 3) 1) sp hi sn tx g3 g5 g7 g8 g9 g10 g11 g12 g13) hX wc_X5_75 (c_X5_setOf l G m (up s (ix k 3) 0) sp hi sn tx g3 g5 g7 g8 g9 g10 g11 g12 g13 k 3 1 (by omega) (by omega)) (by decide) (by decide) rfl rfl (Nat.le_of_ble_eq_true rfl) dX5_swingsWith_24 [] ([]) (by simp only [List.append_assoc, List.nil_append, List.append_nil]) 0 rfl rfl (by simp only [List.append_assoc, List.nil_append, List.append_nil]) rfl rfl ?_
    refine V.wd (w' := mB G m (up s (ix k 3) 1) sp hi sn tx g3 g5 g7 g8 g9 g10 g11 g12 g13) (mB_c up_up rfl rfl rfl rfl rfl rfl rfl rfl rfl rfl rfl rfl rfl) ?_
    refine V_iload hX dX5_swingsWith_27 1 rfl ?_
    refine V_if_ne (tgt := 46) hX dX5_swingsWith_29 (by decide) (by decide) (fun c_24 => ?_) (fun c_24 => absurd c_24 (by decide))
    refine V_iconst hX dX5_swingsWith_46 ?_
    refine V_goto (tgt := 51) hX dX5_swingsWith_47 (by decide) ?_
    refine V_istore (i := 4) (lv' := [(4, .int (jI 1)), (5, .int (jI 1)), (3, .int (jI (s (ix k 3)))), (0, .ref (m 0)), (1, .int (jI ((k : Int)))), (2, .int (jI u))]) hX dX5_swingsWith_51 (by decide) rfl ?_
    refine V_iinc (b := 2) (lv' := [(5, .int (jI 2)), (4, .int (jI 1)), (3, .int (jI (s (ix k 3)))), (0, .ref (m 0)), (1, .int (jI ((k : Int)))), (2, .int (jI u))]) hX dX5_swingsWith_53 1 rfl rfl (by decide) rfl ?_
    refine V_goto (tgt := 13) hX dX5_swingsWith_56 (by decide) ?_
    refine V_iload hX dX5_swingsWith_13 0 rfl ?_
    refine V_iconst hX dX5_swingsWith_15 ?_
    refine V_icmp_ge (tgt := 59) hX dX5_swingsWith_16 (by decide) (by decide) (by decide) (fun c_25 => absurd c_25 (by decide)) (fun c_25 => ?_)
    refine V_aload_n hX dX5_swingsWith_19 3 rfl ?_
    refine V_iload_n hX dX5_swingsWith_20 4 rfl ?_
    refine V_iconst hX dX5_swingsWith_21 ?_
    refine V_iload hX dX5_swingsWith_22 0 rfl ?_
    refine V.sk (st' := [.int (jI 2), .int (jI ((3 : Int))), .int (jI ((k : Int))), .ref (m 0)]) rfl ?_
    refine V_dV (st := []) (w' := mB G m (up (up s (ix k 3) 1) (ix k 3) 2) sp hi sn tx g3 g5 g7 g8 g9 g10 g11 g12 g13) hX wc_X5_75 (c_X5_setOf l G m (up s (ix k 3) 1) sp hi sn tx g3 g5 g7 g8 g9 g10 g11 g12 g13 k 3 2 (by omega) (by omega)) (by decide) (by decide) rfl rfl (Nat.le_of_ble_eq_true rfl) dX5_swingsWith_24 [] ([]) (by simp only [List.append_assoc, List.nil_append, List.append_nil]) 0 rfl rfl (by simp only [List.append_assoc, List.nil_append, List.append_nil]) rfl rfl ?_
    refine V.wd (w' := mB G m (up s (ix k 3) 2) sp hi sn tx g3 g5 g7 g8 g9 g10 g11 g12 g13) (mB_c up_up rfl rfl rfl rfl rfl rfl rfl rfl rfl rfl rfl rfl rfl) ?_
    refine V_iload hX dX5_swingsWith_27 1 rfl ?_
    refine V_if_ne (tgt := 46) hX dX5_swingsWith_29 (by decide) (by decide) (fun c_26 => ?_) (fun c_26 => absurd c_26 (by decide))
    refine V_iconst hX dX5_swingsWith_46 ?_
    refine V_goto (tgt := 51) hX dX5_swingsWith_47 (by decide) ?_
    refine V_istore (i := 4) (lv' := [(4, .int (jI 1)), (5, .int (jI 2)), (3, .int (jI (s (ix k 3)))), (0, .ref (m 0)), (1, .int (jI ((k : Int)))), (2, .int (jI u))]) hX dX5_swingsWith_51 (by decide) rfl ?_
    refine V_iinc (b := 3) (lv' := [(5, .int (jI 3)), (4, .int (jI 1)), (3, .int (jI (s (ix k 3)))), (0, .ref (m 0)), (1, .int (jI ((k : Int)))), (2, .int (jI u))]) hX dX5_swingsWith_53 1 rfl rfl (by decide) rfl ?_
    refine V_goto (tgt := 13) hX dX5_swingsWith_56 (by decide) ?_
    refine V_iload hX dX5_swingsWith_13 0 rfl ?_
    refine V_iconst hX dX5_swingsWith_15 ?_
    refine V_icmp_ge (tgt := 59) hX dX5_swingsWith_16 (by decide) (by decide) (by decide) (fun c_27 => absurd c_27 (by decide)) (fun c_27 => ?_)
    refine V_aload_n hX dX5_swingsWith_19 3 rfl ?_
    refine V_iload_n hX dX5_swingsWith_20 4 rfl ?_
    refine V_iconst hX dX5_swingsWith_21 ?_
    refine V_iload hX dX5_swingsWith_22 0 rfl ?_
    refine V.sk (st' := [.int (jI 3), .int (jI ((3 : Int))), .int (jI ((k : Int))), .ref (m 0)]) rfl ?_
    refine V_dV (st := []) (w' := mB G m (up (up s (ix k 3) 2) (ix k 3) 3) sp hi sn tx g3 g5 g7 g8 g9 g10 g11 g12 g13) hX wc_X5_75 (c_X5_setOf l G m (up s (ix k 3) 2) sp hi sn tx g3 g5 g7 g8 g9 g10 g11 g12 g13 k 3 3 (by omega) (by omega)) (by decide) (by decide) rfl rfl (Nat.le_of_ble_eq_true rfl) dX5_swingsWith_24 [] ([]) (by simp only [List.append_assoc, List.nil_append, List.append_nil]) 0 rfl rfl (by simp only [List.append_assoc, List.nil_append, List.append_nil]) rfl rfl ?_
    refine V.wd (w' := mB G m (up s (ix k 3) 3) sp hi sn tx g3 g5 g7 g8 g9 g10 g11 g12 g13) (mB_c up_up rfl rfl rfl rfl rfl rfl rfl rfl rfl rfl rfl rfl rfl) ?_
    refine V_iload hX dX5_swingsWith_27 1 rfl ?_
    refine V_if_ne (tgt := 46) hX dX5_swingsWith_29 (by decide) (by decide) (fun c_28 => ?_) (fun c_28 => absurd c_28 (by decide))
    refine V_iconst hX dX5_swingsWith_46 ?_
    refine V_goto (tgt := 51) hX dX5_swingsWith_47 (by decide) ?_
    refine V_istore (i := 4) (lv' := [(4, .int (jI 1)), (5, .int (jI 3)), (3, .int (jI (s (ix k 3)))), (0, .ref (m 0)), (1, .int (jI ((k : Int)))), (2, .int (jI u))]) hX dX5_swingsWith_51 (by decide) rfl ?_
    refine V_iinc (b := 4) (lv' := [(5, .int (jI 4)), (4, .int (jI 1)), (3, .int (jI (s (ix k 3)))), (0, .ref (m 0)), (1, .int (jI ((k : Int)))), (2, .int (jI u))]) hX dX5_swingsWith_53 1 rfl rfl (by decide) rfl ?_
    refine V_goto (tgt := 13) hX dX5_swingsWith_56 (by decide) ?_
    refine V_iload hX dX5_swingsWith_13 0 rfl ?_
    refine V_iconst hX dX5_swingsWith_15 ?_
    refine V_icmp_ge (tgt := 59) hX dX5_swingsWith_16 (by decide) (by decide) (by decide) (fun c_29 => ?_) (fun c_29 => absurd c_29 (by decide))
    refine V_aload_n hX dX5_swingsWith_59 3 rfl ?_
    refine V_iload_n hX dX5_swingsWith_60 4 rfl ?_
    refine V_iconst hX dX5_swingsWith_61 ?_
    refine V_iload_n hX dX5_swingsWith_62 2 rfl ?_
    refine V.sk (st' := [.int (jI (s (ix k 3))), .int (jI ((3 : Int))), .int (jI ((k : Int))), .ref (m 0)]) rfl ?_
    refine V_dV (st := []) (w' := mB G m (up (up s (ix k 3) 3) (ix k 3) (s (ix k 3))) sp hi sn tx g3 g5 g7 g8 g9 g10 g11 g12 g13) hX wc_X5_75 (c_X5_setOf l G m (up s (ix k 3) 3) sp hi sn tx g3 g5 g7 g8 g9 g10 g11 g12 g13 k 3 (s (ix k 3)) (by omega) (by omega)) (by decide) (by decide) rfl rfl (Nat.le_of_ble_eq_true rfl) dX5_swingsWith_63 [] ([]) (by simp only [List.append_assoc, List.nil_append, List.append_nil]) 0 rfl rfl (by simp only [List.append_assoc, List.nil_append, List.append_nil]) rfl rfl ?_
    refine V.wd (w' := mB G m s sp hi sn tx g3 g5 g7 g8 g9 g10 g11 g12 g13) (mB_c (by rw [up_up]; exact up_same rfl) rfl rfl rfl rfl rfl rfl rfl rfl rfl rfl rfl rfl rfl) ?_
    refine V_iload hX dX5_swingsWith_66 1 rfl ?_
    exact V_zret hX hR rfl dX5_swingsWith_68 ⟨(by first | exact congrArg (fun z => some (Value.int (jI z))) (bI_t (hcs.mpr (by omega))).symm | exact congrArg (fun z => some (Value.int (jI z))) (bI_f (fun z => absurd (hcs.mp z) (by omega))).symm), rfl⟩

set_option maxHeartbeats 4000000 in
set_option maxRecDepth 100000 in
theorem c_X5_swings (l : Launch) (G : vC) (m : Nat → Nat) (s : Nat → Int) (sp : Nat → Int) (hi : Nat → Int) (sn : Nat → Int) (tx : Nat → Int) (g3 : Int) (g5 : Int) (g7 : Int) (g8 : Int) (g9 : Int) (g10 : Int) (g11 : Int) (g12 : Int) (g13 : Int) (t : Int) (hI : Inv t s) : Fn l G yX5_swings cX5_swings 4 (some .int) ({ frames := 7, cells := 0, slots := 0, locals := 170 } : Room) [.ref (m 0)] (mB G m s sp hi sn tx g3 g5 g7 g8 g9 g10 g11 g12 g13) (some (.int (swN s (pvF s true) (bsR s (pvF s true)) (s 10).toNat))) (mB G m s sp hi sn tx g3 g5 g7 g8 g9 g10 g11 g12 g13) := by
  refine Ct.of (by decide) (Nat.le_of_ble_eq_true rfl) (fun X hX hR => ?_)
  refine V.toLv (lv' := [(0, .ref (m 0))]) rfl ?_
  have hb := hI.base
  obtain ⟨N, hN⟩ : ∃ N : Nat, s 10 = (N : Int) := ⟨(s 10).toNat, by omega⟩
  have hbs := bsR_b s (pvF s true)
  refine V_aload_n hX dX5_swings_0 0 rfl ?_
  refine V_aload_n hX dX5_swings_1 0 rfl ?_
  refine V_get (v := .ref (m 1)) hX cbX5 0 0 (by decide) wf_X5_7 rfl rfl rfl rfl dX5_swings_2 ?_
  refine V_iconst hX dX5_swings_5 ?_
  refine V_iald (i0 := 1) (r := (jI (s 1))) hX 1 rfl (by decide) (by decide) (by decide) rfl rfl dX5_swings_6 ?_
  refine V_cV (st := []) (v := .int (jI (bsR s (pvF s true)))) (w' := mB G m s sp hi sn tx g3 g5 g7 g8 g9 g10 g11 g12 g13) hX wc_X5_101 (c_X5_decides l G m s sp hi sn tx g3 g5 g7 g8 g9 g10 g11 g12 g13 t true (s 1) hI (by first | exact hc | exact Or.inl ⟨rfl, rfl⟩ | exact Or.inr ⟨rfl, rfl⟩)) (by decide) (by decide) rfl rfl (Nat.le_of_ble_eq_true rfl) dX5_swings_7 [] ([]) (by simp only [List.append_assoc, List.nil_append, List.append_nil]) 0 rfl rfl (by simp only [List.append_assoc, List.nil_append, List.append_nil]) rfl rfl ?_
  refine V_istore_n (i := 1) (lv' := [(1, .int (jI (bsR s (pvF s true)))), (0, .ref (m 0))]) hX dX5_swings_10 rfl (by decide) rfl ?_
  refine V_iconst hX dX5_swings_11 ?_
  refine V_istore_n (i := 2) (lv' := [(2, .int (jI 0)), (1, .int (jI (bsR s (pvF s true)))), (0, .ref (m 0))]) hX dX5_swings_12 rfl (by decide) rfl ?_
  refine V_iconst hX dX5_swings_13 ?_
  refine V_istore_n (i := 3) (lv' := [(3, .int (jI 0)), (2, .int (jI 0)), (1, .int (jI (bsR s (pvF s true)))), (0, .ref (m 0))]) hX dX5_swings_14 rfl (by decide) rfl ?_
  have L15_q_1 : ∀ k : Nat, k ≤ N → ∀ (i : Int) (mk : Int32), (i = (k : Int)) → (mk = swN s (pvF s true) (bsR s (pvF s true)) k) → V X 0 0 (mB G m s sp hi sn tx g3 g5 g7 g8 g9 g10 g11 g12 g13) [(3, .int (jI i)), (2, .int (mk)), (0, .ref (m 0)), (1, .int (jI (bsR s (pvF s true))))] 15 [] := by
    refine up_ind (fun k => ∀ (i : Int) (mk : Int32), (i = (k : Int)) → (mk = swN s (pvF s true) (bsR s (pvF s true)) k) → V X 0 0 (mB G m s sp hi sn tx g3 g5 g7 g8 g9 g10 g11 g12 g13) [(3, .int (jI i)), (2, .int (mk)), (0, .ref (m 0)), (1, .int (jI (bsR s (pvF s true))))] 15 []) (N) ?_
    intro k hk ih i mk hik hmk
    refine V_iload_n hX dX5_swings_15 0 rfl ?_
    refine V_aload_n hX dX5_swings_16 2 rfl ?_
    refine V_get (v := .ref (m 1)) hX cbX5 0 0 (by decide) wf_X5_7 rfl rfl rfl rfl dX5_swings_17 ?_
    refine V_bipush hX dX5_swings_20 (by decide) ?_
    refine V_iald (i0 := 10) (r := (jI (s 10))) hX 1 rfl (by decide) (by decide) (by decide) rfl rfl dX5_swings_22 ?_
    refine V_icmp_ge (tgt := 51) hX dX5_swings_23 (by decide) (by omega) (by omega) (fun c_2 => ?_) (fun c_2 => ?_)
    · refine V_iload_n hX dX5_swings_51 1 rfl ?_
      exact V_iret hX hR dX5_swings_52 ⟨(congrArg (fun z => some (Value.int z)) (by rw [hmk]; congr 1; omega)), rfl⟩
    · refine V_iload_n hX dX5_swings_26 1 rfl ?_
      refine V_aload_n hX dX5_swings_27 2 rfl ?_
      refine V_iload_n hX dX5_swings_28 0 rfl ?_
      refine V_iload_n hX dX5_swings_29 3 rfl ?_
      refine V.sk (st' := [.int (jI (bsR s (pvF s true))), .int (jI ((k : Int))), .ref (m 0), .int (mk)]) (congrArg (fun z : Int => [Value.int (jI (bsR s (pvF s true))), Value.int (jI z), Value.ref (m 0), Value.int (mk)]) (show i = (k : Int) by omega)) ?_
      refine V_cV (st := [.int (mk)]) (v := .int (jI (bI (csP s (pvF s true) (bsR s (pvF s true)) k)))) (w' := mB G m s sp hi sn tx g3 g5 g7 g8 g9 g10 g11 g12 g13) hX wc_X5_183 (c_X5_swingsWith l G m s sp hi sn tx g3 g5 g7 g8 g9 g10 g11 g12 g13 t k (bsR s (pvF s true)) hI (by omega) (by omega) (by omega)) (by decide) (by decide) rfl rfl (Nat.le_of_ble_eq_true rfl) dX5_swings_30 [] ([]) (by simp only [List.append_assoc, List.nil_append, List.append_nil]) 0 rfl rfl (by simp only [List.append_assoc, List.nil_append, List.append_nil]) rfl rfl ?_
      refine V_ifz (tgt := 42) hX dX5_swings_33 (by decide) (fun c_3 => ?_) (fun c_3 => ?_)
      · refine V_iconst hX dX5_swings_42 ?_
        refine V_ior hX dX5_swings_43 ?_
        refine V_istore_n (i := 2) (lv' := [(2, .int ((mk) ||| (jI (0)))), (3, .int (jI i)), (0, .ref (m 0)), (1, .int (jI (bsR s (pvF s true))))]) hX dX5_swings_44 rfl (by decide) rfl ?_
        refine V_iinc (b := i + 1) (lv' := [(3, .int (jI (i + 1))), (2, .int ((mk) ||| (jI (0)))), (0, .ref (m 0)), (1, .int (jI (bsR s (pvF s true))))]) hX dX5_swings_45 1 rfl rfl (by decide) rfl ?_
        refine V_goto (tgt := 15) hX dX5_swings_48 (by decide) ?_
        refine V.sub [0, 1, 2, 3] rfl ?_
        exact ih (by omega) _ _ (by omega) (by subst hik; rw [hmk]; first | exact (swN_t (by assumption)).symm | exact (or_0 _).trans (swN_f (by assumption)).symm)
      · refine V_iconst hX dX5_swings_36 ?_
        refine V_iload_n hX dX5_swings_37 0 rfl ?_
        refine V_ishl hX dX5_swings_38 ?_
        refine V_goto (tgt := 43) hX dX5_swings_39 (by decide) ?_
        refine V_ior hX dX5_swings_43 ?_
        refine V_istore_n (i := 2) (lv' := [(2, .int ((mk) ||| ((jI (1)) <<< ((jI (i)) &&& 31)))), (3, .int (jI i)), (0, .ref (m 0)), (1, .int (jI (bsR s (pvF s true))))]) hX dX5_swings_44 rfl (by decide) rfl ?_
        refine V_iinc (b := i + 1) (lv' := [(3, .int (jI (i + 1))), (2, .int ((mk) ||| ((jI (1)) <<< ((jI (i)) &&& 31)))), (0, .ref (m 0)), (1, .int (jI (bsR s (pvF s true))))]) hX dX5_swings_45 1 rfl rfl (by decide) rfl ?_
        refine V_goto (tgt := 15) hX dX5_swings_48 (by decide) ?_
        refine V.sub [0, 1, 2, 3] rfl ?_
        exact ih (by omega) _ _ (by omega) (by subst hik; rw [hmk]; first | exact (swN_t (by assumption)).symm | exact (or_0 _).trans (swN_f (by assumption)).symm)
  refine V.sub [0, 1, 3, 2] rfl ?_
  exact L15_q_1 0 (Nat.zero_le _) 0 (jI 0) rfl rfl

set_option maxHeartbeats 4000000 in
set_option maxRecDepth 100000 in
theorem c_X5_turnsIn (l : Launch) (G : vC) (m : Nat → Nat) (s : Nat → Int) (sp : Nat → Int) (hi : Nat → Int) (sn : Nat → Int) (tx : Nat → Int) (g3 : Int) (g5 : Int) (g7 : Int) (g8 : Int) (g9 : Int) (g10 : Int) (g11 : Int) (g12 : Int) (g13 : Int) (t : Int) (a : Int) (hI : Inv t s) (ha : iR a) (h9 : ∀ k, k < 12 → 0 ≤ s (ix k 9) ∧ s (ix k 9) ≤ 100000) (ht : t = 99999) : Ct l G yX5_turnsIn cX5_turnsIn 5 (some .int) ({ frames := 4, cells := 0, slots := 0, locals := 91 } : Room) [.ref (m 0), .int (jI a)] (mB G m s sp hi sn tx g3 g5 g7 g8 g9 g10 g11 g12 g13) (fun v u => v = some (Value.int (jI (if 0 ≤ a ∧ a < s 10 then tiF s a.toNat 300 0 else -1))) ∧ ∃ sp2 : Nat → Int, u = mB G m s sp2 hi sn tx g3 g5 g7 g8 g9 g10 g11 g12 g13) := by
  refine Ct.of (by decide) (Nat.le_of_ble_eq_true rfl) (fun X hX hR => ?_)
  refine V.toLv (lv' := [(0, .ref (m 0)), (1, .int (jI a))]) rfl ?_
  have hb := hI.base
  refine V_aload_n hX dX5_turnsIn_0 0 rfl ?_
  refine V_iload_n hX dX5_turnsIn_1 1 rfl ?_
  refine V_cV (st := []) (v := .int (jI (bI (0 ≤ a ∧ a < s 10)))) (w' := mB G m s sp hi sn tx g3 g5 g7 g8 g9 g10 g11 g12 g13) hX wc_X5_95 (c_X5_isScarecrow l G m s sp hi sn tx g3 g5 g7 g8 g9 g10 g11 g12 g13 t a hI (by omega)) (by decide) (by decide) rfl rfl (Nat.le_of_ble_eq_true rfl) dX5_turnsIn_2 [] ([]) (by simp only [List.append_assoc, List.nil_append, List.append_nil]) 0 rfl rfl (by simp only [List.append_assoc, List.nil_append, List.append_nil]) rfl rfl ?_
  refine V_ifnz (tgt := 10) hX dX5_turnsIn_5 (by decide) (fun c_1 => ?_) (fun c_1 => ?_)
  · refine V_aload_n hX dX5_turnsIn_10 0 rfl ?_
    refine V_dV (st := []) (w' := mB G m s s hi sn tx g3 g5 g7 g8 g9 g10 g11 g12 g13) hX wc_X5_48 (c_X5_putAside l G m s sp hi sn tx g3 g5 g7 g8 g9 g10 g11 g12 g13 ) (by decide) (by decide) rfl rfl (Nat.le_of_ble_eq_true rfl) dX5_turnsIn_11 [] ([]) (by simp only [List.append_assoc, List.nil_append, List.append_nil]) 0 rfl rfl (by simp only [List.append_assoc, List.nil_append, List.append_nil]) rfl rfl ?_
    refine V_aload_n hX dX5_turnsIn_14 0 rfl ?_
    refine V_iload_n hX dX5_turnsIn_15 1 rfl ?_
    refine V_bipush hX dX5_turnsIn_16 (by decide) ?_
    refine V.sk (st' := [.int (jI ((9 : Int))), .int (jI a), .ref (m 0)]) rfl ?_
    refine V.sk (st' := [.int (jI ((9 : Int))), .int (jI ((a.toNat : Int))), .ref (m 0)]) (congrArg (fun z : Int => [Value.int (jI ((9 : Int))), Value.int (jI z), Value.ref (m 0)]) (show a = (a.toNat : Int) by omega)) ?_
    refine V_cV (st := []) (v := .int (jI (s (ix a.toNat 9)))) (w' := mB G m s s hi sn tx g3 g5 g7 g8 g9 g10 g11 g12 g13) hX wc_X5_29 (c_X5_of l G m s s hi sn tx g3 g5 g7 g8 g9 g10 g11 g12 g13 a.toNat 9 (by omega) (by omega)) (by decide) (by decide) rfl rfl (Nat.le_of_ble_eq_true rfl) dX5_turnsIn_18 [] ([]) (by simp only [List.append_assoc, List.nil_append, List.append_nil]) 0 rfl rfl (by simp only [List.append_assoc, List.nil_append, List.append_nil]) rfl rfl ?_
    refine V_istore_n (i := 2) (lv' := [(2, .int (jI (s (ix a.toNat 9)))), (0, .ref (m 0)), (1, .int (jI a))]) hX dX5_turnsIn_21 rfl (by decide) rfl ?_
    refine V_iconst hX dX5_turnsIn_22 ?_
    refine V_istore_n (i := 3) (lv' := [(3, .int (jI 0)), (2, .int (jI (s (ix a.toNat 9)))), (0, .ref (m 0)), (1, .int (jI a))]) hX dX5_turnsIn_23 rfl (by decide) rfl ?_
    have L24_q_2 : ∀ k : Nat, k ≤ 300 → ∀ (i : Int), (i = (k : Int)) → ((tsS s k (ix a.toNat 9) = s (ix a.toNat 9) ∧ tiF s a.toNat 300 0 = tiF s a.toNat (300 - k) k) ∨ (s (ix a.toNat 9) < tsS s k (ix a.toNat 9) ∧ tiF s a.toNat 300 0 = (k : Int))) → V X 0 0 (mB G m (tsS s k) s hi sn tx g3 g5 g7 g8 g9 g10 g11 g12 g13) [(3, .int (jI i)), (0, .ref (m 0)), (1, .int (jI a)), (2, .int (jI (s (ix a.toNat 9))))] 24 [] := by
      refine up_ind (fun k => ∀ (i : Int), (i = (k : Int)) → ((tsS s k (ix a.toNat 9) = s (ix a.toNat 9) ∧ tiF s a.toNat 300 0 = tiF s a.toNat (300 - k) k) ∨ (s (ix a.toNat 9) < tsS s k (ix a.toNat 9) ∧ tiF s a.toNat 300 0 = (k : Int))) → V X 0 0 (mB G m (tsS s k) s hi sn tx g3 g5 g7 g8 g9 g10 g11 g12 g13) [(3, .int (jI i)), (0, .ref (m 0)), (1, .int (jI a)), (2, .int (jI (s (ix a.toNat 9))))] 24 []) (300) ?_
      intro k hk ih i hik hT
      have hIk := hI.ts k (by omega)
      have h91 := h9 a.toNat (by omega)
      have h92 := ts9 s k a.toNat
      have h93 := ts9 s (k + 1) a.toNat
      have htn := tiF_n s a.toNat k
      have htr := (tsR_b hIk 1 (by omega)).1
      have htr2 : tsR (tsS s k) 1 = 0 + tkR (tsS s k) := rfl
      have htr3 := (tsR_b hIk 1 (by omega)).2
      have hte : tiF s a.toNat (300 - 300) 300 = -5 := rfl
      refine V_iload_n hX dX5_turnsIn_24 0 rfl ?_
      refine V_sipush hX dX5_turnsIn_25 (by decide) ?_
      refine V_icmp_ge (tgt := 60) hX dX5_turnsIn_28 (by decide) (by omega) (by decide) (fun c_3 => ?_) (fun c_3 => ?_)
      · refine V_aload_n hX dX5_turnsIn_60 1 rfl ?_
        refine V_iload_n hX dX5_turnsIn_61 2 rfl ?_
        refine V_bipush hX dX5_turnsIn_62 (by decide) ?_
        refine V.sk (st' := [.int (jI ((9 : Int))), .int (jI a), .ref (m 0)]) rfl ?_
        refine V.sk (st' := [.int (jI ((9 : Int))), .int (jI ((a.toNat : Int))), .ref (m 0)]) (congrArg (fun z : Int => [Value.int (jI ((9 : Int))), Value.int (jI z), Value.ref (m 0)]) (show a = (a.toNat : Int) by omega)) ?_
        refine V_cV (st := []) (v := .int (jI ((tsS s k) (ix a.toNat 9)))) (w' := mB G m (tsS s k) s hi sn tx g3 g5 g7 g8 g9 g10 g11 g12 g13) hX wc_X5_29 (c_X5_of l G m (tsS s k) s hi sn tx g3 g5 g7 g8 g9 g10 g11 g12 g13 a.toNat 9 (by omega) (by omega)) (by decide) (by decide) rfl rfl (Nat.le_of_ble_eq_true rfl) dX5_turnsIn_64 [] ([]) (by simp only [List.append_assoc, List.nil_append, List.append_nil]) 0 rfl rfl (by simp only [List.append_assoc, List.nil_append, List.append_nil]) rfl rfl ?_
        refine V_iload_n hX dX5_turnsIn_67 3 rfl ?_
        refine V_icmp_le (tgt := 75) hX dX5_turnsIn_68 (by decide) (by omega) (by omega) (fun c_4 => ?_) (fun c_4 => ?_)
        · refine V_iconst hX dX5_turnsIn_75 ?_
          refine V_istore (i := 4) (lv' := [(4, .int (jI 0)), (3, .int (jI i)), (0, .ref (m 0)), (1, .int (jI a)), (2, .int (jI (s (ix a.toNat 9))))]) hX dX5_turnsIn_76 (by decide) rfl ?_
          refine V_aload_n hX dX5_turnsIn_78 2 rfl ?_
          refine V_dV (st := []) (w' := mB G m s s hi sn tx g3 g5 g7 g8 g9 g10 g11 g12 g13) hX wc_X5_167 (c_X5_takeBack l G m (tsS s k) s hi sn tx g3 g5 g7 g8 g9 g10 g11 g12 g13 ) (by decide) (by decide) rfl rfl (Nat.le_of_ble_eq_true rfl) dX5_turnsIn_79 [] ([]) (by simp only [List.append_assoc, List.nil_append, List.append_nil]) 0 rfl rfl (by simp only [List.append_assoc, List.nil_append, List.append_nil]) rfl rfl ?_
          refine V_iload hX dX5_turnsIn_82 0 rfl ?_
          refine V_if_eq (tgt := 91) hX dX5_turnsIn_84 (by decide) (by decide) (fun c_5 => ?_) (fun c_5 => absurd c_5 (by decide))
          refine V_bipush hX dX5_turnsIn_91 (by decide) ?_
          exact V_iret hX hR dX5_turnsIn_93 ⟨congrArg (fun z => some (Value.int (jI z))) (by rw [if_pos (by omega)]; rcases (by omega : k < 300 ∨ k = 300) with z | z <;> first | omega | (subst z; omega)), _, rfl⟩
        · refine V_iconst hX dX5_turnsIn_71 ?_
          refine V_goto (tgt := 76) hX dX5_turnsIn_72 (by decide) ?_
          refine V_istore (i := 4) (lv' := [(4, .int (jI 1)), (3, .int (jI i)), (0, .ref (m 0)), (1, .int (jI a)), (2, .int (jI (s (ix a.toNat 9))))]) hX dX5_turnsIn_76 (by decide) rfl ?_
          refine V_aload_n hX dX5_turnsIn_78 2 rfl ?_
          refine V_dV (st := []) (w' := mB G m s s hi sn tx g3 g5 g7 g8 g9 g10 g11 g12 g13) hX wc_X5_167 (c_X5_takeBack l G m (tsS s k) s hi sn tx g3 g5 g7 g8 g9 g10 g11 g12 g13 ) (by decide) (by decide) rfl rfl (Nat.le_of_ble_eq_true rfl) dX5_turnsIn_79 [] ([]) (by simp only [List.append_assoc, List.nil_append, List.append_nil]) 0 rfl rfl (by simp only [List.append_assoc, List.nil_append, List.append_nil]) rfl rfl ?_
          refine V_iload hX dX5_turnsIn_82 0 rfl ?_
          refine V_if_eq (tgt := 91) hX dX5_turnsIn_84 (by decide) (by decide) (fun c_6 => absurd c_6 (by decide)) (fun c_6 => ?_)
          refine V_iload_n hX dX5_turnsIn_87 1 rfl ?_
          refine V_goto (tgt := 93) hX dX5_turnsIn_88 (by decide) ?_
          exact V_iret hX hR dX5_turnsIn_93 ⟨congrArg (fun z => some (Value.int (jI z))) (by rw [if_pos (by omega)]; rcases (by omega : k < 300 ∨ k = 300) with z | z <;> first | omega | (subst z; omega)), _, rfl⟩
      · refine V_aload_n hX dX5_turnsIn_31 1 rfl ?_
        refine V_iload_n hX dX5_turnsIn_32 2 rfl ?_
        refine V_bipush hX dX5_turnsIn_33 (by decide) ?_
        refine V.sk (st' := [.int (jI ((9 : Int))), .int (jI a), .ref (m 0)]) rfl ?_
        refine V.sk (st' := [.int (jI ((9 : Int))), .int (jI ((a.toNat : Int))), .ref (m 0)]) (congrArg (fun z : Int => [Value.int (jI ((9 : Int))), Value.int (jI z), Value.ref (m 0)]) (show a = (a.toNat : Int) by omega)) ?_
        refine V_cV (st := []) (v := .int (jI ((tsS s k) (ix a.toNat 9)))) (w' := mB G m (tsS s k) s hi sn tx g3 g5 g7 g8 g9 g10 g11 g12 g13) hX wc_X5_29 (c_X5_of l G m (tsS s k) s hi sn tx g3 g5 g7 g8 g9 g10 g11 g12 g13 a.toNat 9 (by omega) (by omega)) (by decide) (by decide) rfl rfl (Nat.le_of_ble_eq_true rfl) dX5_turnsIn_35 [] ([]) (by simp only [List.append_assoc, List.nil_append, List.append_nil]) 0 rfl rfl (by simp only [List.append_assoc, List.nil_append, List.append_nil]) rfl rfl ?_
        refine V_iload_n hX dX5_turnsIn_38 3 rfl ?_
        refine V_icmp_ne (tgt := 60) hX dX5_turnsIn_39 (by decide) (by omega) (by omega) (fun c_7 => ?_) (fun c_7 => ?_)
        · refine V_aload_n hX dX5_turnsIn_60 1 rfl ?_
          refine V_iload_n hX dX5_turnsIn_61 2 rfl ?_
          refine V_bipush hX dX5_turnsIn_62 (by decide) ?_
          refine V.sk (st' := [.int (jI ((9 : Int))), .int (jI a), .ref (m 0)]) rfl ?_
          refine V.sk (st' := [.int (jI ((9 : Int))), .int (jI ((a.toNat : Int))), .ref (m 0)]) (congrArg (fun z : Int => [Value.int (jI ((9 : Int))), Value.int (jI z), Value.ref (m 0)]) (show a = (a.toNat : Int) by omega)) ?_
          refine V_cV (st := []) (v := .int (jI ((tsS s k) (ix a.toNat 9)))) (w' := mB G m (tsS s k) s hi sn tx g3 g5 g7 g8 g9 g10 g11 g12 g13) hX wc_X5_29 (c_X5_of l G m (tsS s k) s hi sn tx g3 g5 g7 g8 g9 g10 g11 g12 g13 a.toNat 9 (by omega) (by omega)) (by decide) (by decide) rfl rfl (Nat.le_of_ble_eq_true rfl) dX5_turnsIn_64 [] ([]) (by simp only [List.append_assoc, List.nil_append, List.append_nil]) 0 rfl rfl (by simp only [List.append_assoc, List.nil_append, List.append_nil]) rfl rfl ?_
          refine V_iload_n hX dX5_turnsIn_67 3 rfl ?_
          refine V_icmp_le (tgt := 75) hX dX5_turnsIn_68 (by decide) (by omega) (by omega) (fun c_8 => ?_) (fun c_8 => ?_)
          · refine V_iconst hX dX5_turnsIn_75 ?_
            refine V_istore (i := 4) (lv' := [(4, .int (jI 0)), (3, .int (jI i)), (0, .ref (m 0)), (1, .int (jI a)), (2, .int (jI (s (ix a.toNat 9))))]) hX dX5_turnsIn_76 (by decide) rfl ?_
            refine V_aload_n hX dX5_turnsIn_78 2 rfl ?_
            refine V_dV (st := []) (w' := mB G m s s hi sn tx g3 g5 g7 g8 g9 g10 g11 g12 g13) hX wc_X5_167 (c_X5_takeBack l G m (tsS s k) s hi sn tx g3 g5 g7 g8 g9 g10 g11 g12 g13 ) (by decide) (by decide) rfl rfl (Nat.le_of_ble_eq_true rfl) dX5_turnsIn_79 [] ([]) (by simp only [List.append_assoc, List.nil_append, List.append_nil]) 0 rfl rfl (by simp only [List.append_assoc, List.nil_append, List.append_nil]) rfl rfl ?_
            refine V_iload hX dX5_turnsIn_82 0 rfl ?_
            refine V_if_eq (tgt := 91) hX dX5_turnsIn_84 (by decide) (by decide) (fun c_9 => ?_) (fun c_9 => absurd c_9 (by decide))
            refine V_bipush hX dX5_turnsIn_91 (by decide) ?_
            exact V_iret hX hR dX5_turnsIn_93 ⟨congrArg (fun z => some (Value.int (jI z))) (by rw [if_pos (by omega)]; rcases (by omega : k < 300 ∨ k = 300) with z | z <;> first | omega | (subst z; omega)), _, rfl⟩
          · refine V_iconst hX dX5_turnsIn_71 ?_
            refine V_goto (tgt := 76) hX dX5_turnsIn_72 (by decide) ?_
            refine V_istore (i := 4) (lv' := [(4, .int (jI 1)), (3, .int (jI i)), (0, .ref (m 0)), (1, .int (jI a)), (2, .int (jI (s (ix a.toNat 9))))]) hX dX5_turnsIn_76 (by decide) rfl ?_
            refine V_aload_n hX dX5_turnsIn_78 2 rfl ?_
            refine V_dV (st := []) (w' := mB G m s s hi sn tx g3 g5 g7 g8 g9 g10 g11 g12 g13) hX wc_X5_167 (c_X5_takeBack l G m (tsS s k) s hi sn tx g3 g5 g7 g8 g9 g10 g11 g12 g13 ) (by decide) (by decide) rfl rfl (Nat.le_of_ble_eq_true rfl) dX5_turnsIn_79 [] ([]) (by simp only [List.append_assoc, List.nil_append, List.append_nil]) 0 rfl rfl (by simp only [List.append_assoc, List.nil_append, List.append_nil]) rfl rfl ?_
            refine V_iload hX dX5_turnsIn_82 0 rfl ?_
            refine V_if_eq (tgt := 91) hX dX5_turnsIn_84 (by decide) (by decide) (fun c_10 => absurd c_10 (by decide)) (fun c_10 => ?_)
            refine V_iload_n hX dX5_turnsIn_87 1 rfl ?_
            refine V_goto (tgt := 93) hX dX5_turnsIn_88 (by decide) ?_
            exact V_iret hX hR dX5_turnsIn_93 ⟨congrArg (fun z => some (Value.int (jI z))) (by rw [if_pos (by omega)]; rcases (by omega : k < 300 ∨ k = 300) with z | z <;> first | omega | (subst z; omega)), _, rfl⟩
        · refine V_iload_n hX dX5_turnsIn_42 0 rfl ?_
          refine V_aload_n hX dX5_turnsIn_43 1 rfl ?_
          refine V_cV (st := [.int (jI i)]) (v := .int (jI (tkR (tsS s k)))) (w' := mB G m (tkS (tsS s k)) s hi sn tx g3 g5 g7 g8 g9 g10 g11 g12 g13) hX wc_X5_92 (c_X5_passOne l G m (tsS s k) s hi sn tx g3 g5 g7 g8 g9 g10 g11 g12 g13 (t + (k : Int)) hIk (by omega)) (by decide) (by decide) rfl rfl (Nat.le_of_ble_eq_true rfl) dX5_turnsIn_44 [] ([]) (by simp only [List.append_assoc, List.nil_append, List.append_nil]) 0 rfl rfl (by simp only [List.append_assoc, List.nil_append, List.append_nil]) rfl rfl ?_
          refine V_if_ge (tgt := 54) hX dX5_turnsIn_47 (by decide) (by omega) (fun c_11 => ?_) (fun c_11 => ?_)
          · refine V_iconst hX dX5_turnsIn_54 ?_
            refine V_iadd hX dX5_turnsIn_55 rfl ?_
            refine V_istore_n (i := 3) (lv' := [(3, .int (jI (i + 1))), (0, .ref (m 0)), (1, .int (jI a)), (2, .int (jI (s (ix a.toNat 9))))]) hX dX5_turnsIn_56 rfl (by decide) rfl ?_
            refine V.wd (w' := mB G m (tsS s (k + 1)) s hi sn tx g3 g5 g7 g8 g9 g10 g11 g12 g13) (mB_c rfl rfl rfl rfl rfl rfl rfl rfl rfl rfl rfl rfl rfl rfl) ?_
            refine V_goto (tgt := 24) hX dX5_turnsIn_57 (by decide) ?_
            refine V.sub [0, 1, 2, 3] rfl ?_
            exact ih (by omega) _ (by omega) (by have q := htn (by omega); split at q <;> omega)
          · refine V_iconst hX dX5_turnsIn_50 ?_
            refine V_goto (tgt := 55) hX dX5_turnsIn_51 (by decide) ?_
            refine V_iadd hX dX5_turnsIn_55 rfl ?_
            refine V_istore_n (i := 3) (lv' := [(3, .int (jI (i + 0))), (0, .ref (m 0)), (1, .int (jI a)), (2, .int (jI (s (ix a.toNat 9))))]) hX dX5_turnsIn_56 rfl (by decide) rfl ?_
            refine V.wd (w' := mB G m (tsS s (k + 1)) s hi sn tx g3 g5 g7 g8 g9 g10 g11 g12 g13) (mB_c rfl rfl rfl rfl rfl rfl rfl rfl rfl rfl rfl rfl rfl rfl) ?_
            refine V_goto (tgt := 24) hX dX5_turnsIn_57 (by decide) ?_
            refine V.sub [0, 1, 2, 3] rfl ?_
            exact ih (by omega) _ (by omega) (by have q := htn (by omega); split at q <;> omega)
    refine V.sub [0, 2, 3, 1] rfl ?_
    exact L24_q_2 0 (Nat.zero_le _) 0 rfl (Or.inl ⟨rfl, rfl⟩)
  · refine V_iconst hX dX5_turnsIn_8 ?_
    exact V_iret hX hR dX5_turnsIn_9 ⟨congrArg (fun z => some (Value.int (jI z))) (if_neg (by omega)).symm, _, rfl⟩

set_option maxHeartbeats 4000000 in
set_option maxRecDepth 100000 in
theorem c_X5_ifTicks (l : Launch) (G : vC) (m : Nat → Nat) (s : Nat → Int) (sp : Nat → Int) (hi : Nat → Int) (sn : Nat → Int) (tx : Nat → Int) (g3 : Int) (g5 : Int) (g7 : Int) (g8 : Int) (g9 : Int) (g10 : Int) (g11 : Int) (g12 : Int) (g13 : Int) (t : Int) (a : Int) (e : Int) (hI : Inv t s) (ha : iR a) (he : iR e) (ht : t = 99999) : Ct l G yX5_ifTicks cX5_ifTicks 6 (some .int) ({ frames := 6, cells := 0, slots := 0, locals := 145 } : Room) [.ref (m 0), .int (jI a), .int (jI e)] (mB G m s sp hi sn tx g3 g5 g7 g8 g9 g10 g11 g12 g13) (fun v u => v = some (Value.int (jI (miR s a e))) ∧ ∃ sp2 : Nat → Int, u = mB G m s sp2 hi sn tx g3 g5 g7 g8 g9 g10 g11 g12 g13) := by
  refine Ct.of (by decide) (Nat.le_of_ble_eq_true rfl) (fun X hX hR => ?_)
  refine V.toLv (lv' := [(0, .ref (m 0)), (1, .int (jI a)), (2, .int (jI e))]) rfl ?_
  have hb := hI.base
  refine V_iload_n hX dX5_ifTicks_0 1 rfl ?_
  refine V_iconst hX dX5_ifTicks_1 ?_
  refine V_sipush hX dX5_ifTicks_2 (by decide) ?_
  refine V_cS (st := []) (v := .int (jI (bI (1 ≤ a ∧ a ≤ 300)))) (w' := mB G m s sp hi sn tx g3 g5 g7 g8 g9 g10 g11 g12 g13) hX wc_X5_25 (c_X5_within l G a 1 300 (by omega) (by omega) (by omega)) (by decide) (by decide) rfl rfl (Nat.le_of_ble_eq_true rfl) dX5_ifTicks_5 [] (mB G m s sp hi sn tx g3 g5 g7 g8 g9 g10 g11 g12 g13) (by simp only [List.append_assoc, List.nil_append, List.append_nil]) (by simp only [List.append_assoc, List.nil_append, List.append_nil]) rfl rfl ?_
  refine V_ifz (tgt := 20) hX dX5_ifTicks_8 (by decide) (fun c_1 => ?_) (fun c_1 => ?_)
  · refine V_bipush hX dX5_ifTicks_20 (by decide) ?_
    exact V_iret hX hR dX5_ifTicks_22 ⟨congrArg (fun z => some (Value.int (jI z))) (by unfold miR; (repeat' split) <;> first | rfl | omega), _, rfl⟩
  · refine V_iload_n hX dX5_ifTicks_11 2 rfl ?_
    refine V_iconst hX dX5_ifTicks_12 ?_
    refine V_iconst hX dX5_ifTicks_13 ?_
    refine V_cS (st := []) (v := .int (jI (bI (0 ≤ e ∧ e ≤ 2)))) (w' := mB G m s sp hi sn tx g3 g5 g7 g8 g9 g10 g11 g12 g13) hX wc_X5_25 (c_X5_within l G e 0 2 (by omega) (by omega) (by omega)) (by decide) (by decide) rfl rfl (Nat.le_of_ble_eq_true rfl) dX5_ifTicks_14 [] (mB G m s sp hi sn tx g3 g5 g7 g8 g9 g10 g11 g12 g13) (by simp only [List.append_assoc, List.nil_append, List.append_nil]) (by simp only [List.append_assoc, List.nil_append, List.append_nil]) rfl rfl ?_
    refine V_ifnz (tgt := 23) hX dX5_ifTicks_17 (by decide) (fun c_2 => ?_) (fun c_2 => ?_)
    · refine V_aload_n hX dX5_ifTicks_23 0 rfl ?_
      refine V_dV (st := []) (w' := mB G m s s hi sn tx g3 g5 g7 g8 g9 g10 g11 g12 g13) hX wc_X5_48 (c_X5_putAside l G m s sp hi sn tx g3 g5 g7 g8 g9 g10 g11 g12 g13 ) (by decide) (by decide) rfl rfl (Nat.le_of_ble_eq_true rfl) dX5_ifTicks_24 [] ([]) (by simp only [List.append_assoc, List.nil_append, List.append_nil]) 0 rfl rfl (by simp only [List.append_assoc, List.nil_append, List.append_nil]) rfl rfl ?_
      refine V_aload_n hX dX5_ifTicks_27 0 rfl ?_
      refine V_get (v := .ref (m 1)) hX cbX5 0 0 (by decide) wf_X5_7 rfl rfl rfl rfl dX5_ifTicks_28 ?_
      refine V_bipush hX dX5_ifTicks_31 (by decide) ?_
      refine V_iald (i0 := 6) (r := (jI (s 6))) hX 1 rfl (by decide) (by decide) (by decide) rfl rfl dX5_ifTicks_33 ?_
      refine V_istore_n (i := 3) (lv' := [(3, .int (jI (s 6))), (0, .ref (m 0)), (1, .int (jI a)), (2, .int (jI e))]) hX dX5_ifTicks_34 rfl (by decide) rfl ?_
      refine V_aload_n hX dX5_ifTicks_35 1 rfl ?_
      refine V_iload_n hX dX5_ifTicks_36 2 rfl ?_
      refine V.sk (st' := [.int (jI ((a.toNat : Int))), .ref (m 0)]) (congrArg (fun z : Int => [Value.int (jI z), Value.ref (m 0)]) (show a = (a.toNat : Int) by omega)) ?_
      refine V_cV (st := []) (v := .int (jI (tsR s a.toNat))) (w' := mB G m (tsS s a.toNat) s hi sn tx g3 g5 g7 g8 g9 g10 g11 g12 g13) hX wc_X5_105 (c_X5_passMany l G m s s hi sn tx g3 g5 g7 g8 g9 g10 g11 g12 g13 t a.toNat hI (by omega) (by omega)) (by decide) (by decide) rfl rfl (Nat.le_of_ble_eq_true rfl) dX5_ifTicks_37 [] ([]) (by simp only [List.append_assoc, List.nil_append, List.append_nil]) 0 rfl rfl (by simp only [List.append_assoc, List.nil_append, List.append_nil]) rfl rfl ?_
      refine V_istore (i := 4) (lv' := [(4, .int (jI (tsR s a.toNat))), (3, .int (jI (s 6))), (0, .ref (m 0)), (1, .int (jI a)), (2, .int (jI e))]) hX dX5_ifTicks_40 (by decide) rfl ?_
      refine V_iload_n hX dX5_ifTicks_42 4 rfl ?_
      refine V_if_ne (tgt := 59) hX dX5_ifTicks_43 (by decide) (by omega) (fun c_3 => ?_) (fun c_3 => ?_)
      · refine V_iload_n hX dX5_ifTicks_59 4 rfl ?_
        refine V_iconst hX dX5_ifTicks_60 ?_
        refine V_icmp_ne (tgt := 69) hX dX5_ifTicks_61 (by decide) (by omega) (by decide) (fun c_4 => ?_) (fun c_4 => ?_)
        · refine V_aload_n hX dX5_ifTicks_69 2 rfl ?_
          refine V_get (v := .ref (m 1)) hX cbX5 0 0 (by decide) wf_X5_7 rfl rfl rfl rfl dX5_ifTicks_70 ?_
          refine V_bipush hX dX5_ifTicks_73 (by decide) ?_
          refine V_iald (i0 := 6) (r := (jI ((tsS s a.toNat) 6))) hX 1 rfl (by decide) (by decide) (by decide) rfl rfl dX5_ifTicks_75 ?_
          refine V_iload_n hX dX5_ifTicks_76 1 rfl ?_
          refine V_isub hX dX5_ifTicks_77 rfl ?_
          refine V_istore (i := 5) (lv' := [(5, .int (jI (((tsS s a.toNat) 6) - (s 6)))), (4, .int (jI (tsR s a.toNat))), (3, .int (jI (s 6))), (0, .ref (m 0)), (1, .int (jI a)), (2, .int (jI e))]) hX dX5_ifTicks_78 (by decide) rfl ?_
          refine V_aload_n hX dX5_ifTicks_80 3 rfl ?_
          refine V_dV (st := []) (w' := mB G m s s hi sn tx g3 g5 g7 g8 g9 g10 g11 g12 g13) hX wc_X5_167 (c_X5_takeBack l G m (tsS s a.toNat) s hi sn tx g3 g5 g7 g8 g9 g10 g11 g12 g13 ) (by decide) (by decide) rfl rfl (Nat.le_of_ble_eq_true rfl) dX5_ifTicks_81 [] ([]) (by simp only [List.append_assoc, List.nil_append, List.append_nil]) 0 rfl rfl (by simp only [List.append_assoc, List.nil_append, List.append_nil]) rfl rfl ?_
          refine V_iload hX dX5_ifTicks_84 0 rfl ?_
          exact V_iret hX hR dX5_ifTicks_86 ⟨congrArg (fun z => some (Value.int (jI z))) (by unfold miR; (repeat' split) <;> first | rfl | omega), _, rfl⟩
        · refine V_iload hX dX5_ifTicks_64 0 rfl ?_
          refine V_goto (tgt := 78) hX dX5_ifTicks_66 (by decide) ?_
          refine V_istore (i := 5) (lv' := [(5, .int (jI (tsR s a.toNat))), (4, .int (jI (tsR s a.toNat))), (3, .int (jI (s 6))), (0, .ref (m 0)), (1, .int (jI a)), (2, .int (jI e))]) hX dX5_ifTicks_78 (by decide) rfl ?_
          refine V_aload_n hX dX5_ifTicks_80 3 rfl ?_
          refine V_dV (st := []) (w' := mB G m s s hi sn tx g3 g5 g7 g8 g9 g10 g11 g12 g13) hX wc_X5_167 (c_X5_takeBack l G m (tsS s a.toNat) s hi sn tx g3 g5 g7 g8 g9 g10 g11 g12 g13 ) (by decide) (by decide) rfl rfl (Nat.le_of_ble_eq_true rfl) dX5_ifTicks_81 [] ([]) (by simp only [List.append_assoc, List.nil_append, List.append_nil]) 0 rfl rfl (by simp only [List.append_assoc, List.nil_append, List.append_nil]) rfl rfl ?_
          refine V_iload hX dX5_ifTicks_84 0 rfl ?_
          exact V_iret hX hR dX5_ifTicks_86 ⟨congrArg (fun z => some (Value.int (jI z))) (by unfold miR; (repeat' split) <;> first | rfl | omega), _, rfl⟩
      · refine V_aload_n hX dX5_ifTicks_46 2 rfl ?_
        refine V_aload_n hX dX5_ifTicks_47 2 rfl ?_
        refine V_get (v := .ref (m 1)) hX cbX5 0 0 (by decide) wf_X5_7 rfl rfl rfl rfl dX5_ifTicks_48 ?_
        refine V_iconst hX dX5_ifTicks_51 ?_
        refine V_iald (i0 := 1) (r := (jI ((tsS s a.toNat) 1))) hX 1 rfl (by decide) (by decide) (by decide) rfl rfl dX5_ifTicks_52 ?_
        refine V_cV (st := []) (v := .int (jI (bsR (tsS s a.toNat) (pvF (tsS s a.toNat) true)))) (w' := mB G m (tsS s a.toNat) s hi sn tx g3 g5 g7 g8 g9 g10 g11 g12 g13) hX wc_X5_101 (c_X5_decides l G m (tsS s a.toNat) s hi sn tx g3 g5 g7 g8 g9 g10 g11 g12 g13 (t + (a.toNat : Int)) true ((tsS s a.toNat) 1) (hI.ts a.toNat (by omega)) (Or.inl ⟨rfl, rfl⟩)) (by decide) (by decide) rfl rfl (Nat.le_of_ble_eq_true rfl) dX5_ifTicks_53 [] ([]) (by simp only [List.append_assoc, List.nil_append, List.append_nil]) 0 rfl rfl (by simp only [List.append_assoc, List.nil_append, List.append_nil]) rfl rfl ?_
        refine V_goto (tgt := 78) hX dX5_ifTicks_56 (by decide) ?_
        refine V_istore (i := 5) (lv' := [(5, .int (jI (bsR (tsS s a.toNat) (pvF (tsS s a.toNat) true)))), (4, .int (jI (tsR s a.toNat))), (3, .int (jI (s 6))), (0, .ref (m 0)), (1, .int (jI a)), (2, .int (jI e))]) hX dX5_ifTicks_78 (by decide) rfl ?_
        refine V_aload_n hX dX5_ifTicks_80 3 rfl ?_
        refine V_dV (st := []) (w' := mB G m s s hi sn tx g3 g5 g7 g8 g9 g10 g11 g12 g13) hX wc_X5_167 (c_X5_takeBack l G m (tsS s a.toNat) s hi sn tx g3 g5 g7 g8 g9 g10 g11 g12 g13 ) (by decide) (by decide) rfl rfl (Nat.le_of_ble_eq_true rfl) dX5_ifTicks_81 [] ([]) (by simp only [List.append_assoc, List.nil_append, List.append_nil]) 0 rfl rfl (by simp only [List.append_assoc, List.nil_append, List.append_nil]) rfl rfl ?_
        refine V_iload hX dX5_ifTicks_84 0 rfl ?_
        exact V_iret hX hR dX5_ifTicks_86 ⟨congrArg (fun z => some (Value.int (jI z))) (by unfold miR; (repeat' split) <;> first | rfl | omega), _, rfl⟩
    · refine V_bipush hX dX5_ifTicks_20 (by decide) ?_
      exact V_iret hX hR dX5_ifTicks_22 ⟨congrArg (fun z => some (Value.int (jI z))) (by unfold miR; (repeat' split) <;> first | rfl | omega), _, rfl⟩
