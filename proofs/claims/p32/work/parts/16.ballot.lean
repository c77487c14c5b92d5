set_option maxHeartbeats 4000000 in
set_option maxRecDepth 100000 in
theorem c_X1_strawAsFloat (l : Launch) (G : vC) (h : Nat → Nat) (s : Nat → Int) (t : Int) (k : Nat) (hI : Inv t s) (hk : k < 12) : Fn l G yX1_strawAsFloat cX1_strawAsFloat 2 (some .float) ({ frames := 0, cells := 0, slots := 0, locals := 0 } : Room) [.ref (h 0), .int (jI ((k : Int)))] (hB G h s) (some (.float (fB (s (ix k 4)).toNat))) (hB G h s) := by
  refine Ct.of (by decide) (Nat.le_of_ble_eq_true rfl) (fun X hX hR => ?_)
  refine V.toLv (lv' := [(0, .ref (h 0)), (1, .int (jI ((k : Int))))]) rfl ?_
  have hb := hI.base
  have hs := hI.sc k hk
  refine V_aload_n hX dX1_strawAsFloat_0 0 rfl ?_
  refine V_get (v := .ref (h 5)) hX cbX1 4 0 (by decide) wf_X1_24 rfl rfl rfl rfl dX1_strawAsFloat_1 ?_
  refine V_iload_n hX dX1_strawAsFloat_4 1 rfl ?_
  refine V_iald (i0 := k) (r := (jI (s (ix k 4)))) hX 5 rfl (by omega) (by omega) (by omega) (by omega) rfl dX1_strawAsFloat_5 ?_
  refine V_i2f hX dX1_strawAsFloat_6 rfl ?_
  refine V_ldcf (v := 1115684864) hX dX1_strawAsFloat_7 (List.mem_of_getElem? (i := 396) (by decide +kernel)) rfl ?_
  refine V_fdiv (r := fB (s (ix k 4)).toNat) hX dX1_strawAsFloat_9 (by rw [show (s (ix k 4) : Int) = (((s (ix k 4)).toNat : Nat) : Int) by omega]; exact fB_straw _ (by omega)) (fB_vf (by omega)) ?_
  exact V_fret hX hR dX1_strawAsFloat_10 ⟨rfl, rfl⟩

set_option maxHeartbeats 4000000 in
set_option maxRecDepth 100000 in
theorem c_X1_lobbyFor (l : Launch) (G : vC) (h : Nat → Nat) (s : Nat → Int) (t : Int) (k : Nat) (w : Nat) (hI : Inv t s) (hk : k < 12) (hw : w < 4) : Fn l G yX1_lobbyFor cX1_lobbyFor 3 (some .float) ({ frames := 0, cells := 0, slots := 0, locals := 0 } : Room) [.ref (h 0), .int (jI ((k : Int))), .int (jI ((w : Int)))] (hB G h s) (some (.float (fB (4 * (lobN s k w))))) (hB G h s) := by
  refine Ct.of (by decide) (Nat.le_of_ble_eq_true rfl) (fun X hX hR => ?_)
  refine V.toLv (lv' := [(0, .ref (h 0)), (1, .int (jI ((k : Int)))), (2, .int (jI ((w : Int))))]) rfl ?_
  have hb := hI.base
  have hs := hI.sc k hk
  have hcr := hI.cr k w hk hw
  have hlb := (wa_b hI true 0 w k hw hk).2.1
  have hln : (s (ix k (5 + w))) * (s 1) = ((lobN s k w : Nat) : Int) := by unfold lobN; rw [Int.natCast_mul, Int.toNat_of_nonneg (by omega), Int.toNat_of_nonneg (by omega)]
  refine V_aload_n hX dX1_lobbyFor_0 0 rfl ?_
  refine V_get (v := .ref (h 8)) hX cbX1 7 0 (by decide) wf_X1_33 rfl rfl rfl rfl dX1_lobbyFor_1 ?_
  refine V_iload_n hX dX1_lobbyFor_4 1 rfl ?_
  refine V_iconst hX dX1_lobbyFor_5 ?_
  refine V_imul hX dX1_lobbyFor_6 rfl ?_
  refine V_iload_n hX dX1_lobbyFor_7 2 rfl ?_
  refine V_iadd hX dX1_lobbyFor_8 rfl ?_
  refine V_iald (i0 := k * 4 + w) (r := (jI (s (ix k (5 + w))))) hX 8 rfl (by omega) (by omega) (by omega) (by omega) (by show jI (s (ix ((k * 4 + w) / 4) (5 + (k * 4 + w) % 4))) = jI (s (ix k (5 + w))); rw [show ix ((k * 4 + w) / 4) (5 + (k * 4 + w) % 4) = ix k (5 + w) by unfold ix; omega]) dX1_lobbyFor_9 ?_
  refine V_aload_n hX dX1_lobbyFor_10 0 rfl ?_
  refine V_get (v := .ref (h 10)) hX cbX1 9 0 (by decide) wf_X1_39 rfl rfl rfl rfl dX1_lobbyFor_11 ?_
  refine V_iconst hX dX1_lobbyFor_14 ?_
  refine V_iald (i0 := 1) (r := (jI (s 1))) hX 10 rfl (by decide) (by decide) (by decide) rfl (by show (if 1 < 2 then jI (s (1)) else 0) = jI (s 1); rw [if_pos (by omega)]) dX1_lobbyFor_15 ?_
  refine V_imul hX dX1_lobbyFor_16 rfl ?_
  refine V_i2f hX dX1_lobbyFor_17 rfl ?_
  refine V_ldcf (v := 1098907648) hX dX1_lobbyFor_18 (List.mem_of_getElem? (i := 401) (by decide +kernel)) rfl ?_
  refine V_fdiv (r := fB (4 * (lobN s k w))) hX dX1_lobbyFor_20 (by rw [show ((s (ix k (5 + w))) * (s 1) : Int) = ((lobN s k w : Nat) : Int) by exact hln]; exact fB_lob _ (by omega)) (fB_vf (by omega)) ?_
  exact V_fret hX hR dX1_lobbyFor_21 ⟨rfl, rfl⟩

set_option maxHeartbeats 4000000 in
set_option maxRecDepth 100000 in
theorem c_X0_speaksBefore (l : Launch) (G : vC) (h : Nat → Nat) (s : Nat → Int) (t : Int) (a : Nat) (b : Nat) (hI : Inv t s) (ha : a < 12) (hb2 : b < 12) : Fn l G yX0_speaksBefore cX0_speaksBefore 3 (some .boolean) ({ frames := 0, cells := 0, slots := 0, locals := 0 } : Room) [.ref (h 0), .int (jI ((a : Int))), .int (jI ((b : Int)))] (hB G h s) (some (.int (jI (bI (bfr s a b))))) (hB G h s) := by
  refine Ct.of (by decide) (Nat.le_of_ble_eq_true rfl) (fun X hX hR => ?_)
  refine V.toLv (lv' := [(0, .ref (h 0)), (1, .int (jI ((a : Int)))), (2, .int (jI ((b : Int))))]) rfl ?_
  have hb := hI.base
  have hsa := hI.sc a ha
  have hsb := hI.sc b hb2
  refine V_aload_n hX dX0_speaksBefore_0 0 rfl ?_
  refine V_getN (v := .ref (h 2)) hX cbX1 1 0 (by decide) wf_X0_39 rfl rfl rfl rfl dX0_speaksBefore_1 ?_
  refine V_iload_n hX dX0_speaksBefore_4 1 rfl ?_
  refine V_iald (i0 := a) (r := (jI (s (ix a 1)))) hX 2 rfl (by omega) (by omega) (by omega) (by omega) rfl dX0_speaksBefore_5 ?_
  refine V_aload_n hX dX0_speaksBefore_6 0 rfl ?_
  refine V_getN (v := .ref (h 2)) hX cbX1 1 0 (by decide) wf_X0_39 rfl rfl rfl rfl dX0_speaksBefore_7 ?_
  refine V_iload_n hX dX0_speaksBefore_10 2 rfl ?_
  refine V_iald (i0 := b) (r := (jI (s (ix b 1)))) hX 2 rfl (by omega) (by omega) (by omega) (by omega) rfl dX0_speaksBefore_11 ?_
  refine V_icmp_eq (tgt := 36) hX dX0_speaksBefore_12 (by decide) (by omega) (by omega) (fun c_1 => ?_) (fun c_1 => ?_)
  · refine V_aload_n hX dX0_speaksBefore_36 0 rfl ?_
    refine V_getN (v := .ref (h 5)) hX cbX1 4 0 (by decide) wf_X0_50 rfl rfl rfl rfl dX0_speaksBefore_37 ?_
    refine V_iload_n hX dX0_speaksBefore_40 1 rfl ?_
    refine V_iald (i0 := a) (r := (jI (s (ix a 4)))) hX 5 rfl (by omega) (by omega) (by omega) (by omega) rfl dX0_speaksBefore_41 ?_
    refine V_aload_n hX dX0_speaksBefore_42 0 rfl ?_
    refine V_getN (v := .ref (h 5)) hX cbX1 4 0 (by decide) wf_X0_50 rfl rfl rfl rfl dX0_speaksBefore_43 ?_
    refine V_iload_n hX dX0_speaksBefore_46 2 rfl ?_
    refine V_iald (i0 := b) (r := (jI (s (ix b 4)))) hX 5 rfl (by omega) (by omega) (by omega) (by omega) rfl dX0_speaksBefore_47 ?_
    refine V_icmp_le (tgt := 55) hX dX0_speaksBefore_48 (by decide) (by omega) (by omega) (fun c_2 => ?_) (fun c_2 => ?_)
    · refine V_iconst hX dX0_speaksBefore_55 ?_
      exact V_zret hX hR rfl dX0_speaksBefore_56 ⟨(congrArg (fun z => some (Value.int (jI z))) (bI_f (by omega)).symm), rfl⟩
    · refine V_iconst hX dX0_speaksBefore_51 ?_
      refine V_goto (tgt := 56) hX dX0_speaksBefore_52 (by decide) ?_
      exact V_zret hX hR rfl dX0_speaksBefore_56 ⟨(congrArg (fun z => some (Value.int (jI z))) (bI_t (by omega)).symm), rfl⟩
  · refine V_aload_n hX dX0_speaksBefore_15 0 rfl ?_
    refine V_getN (v := .ref (h 2)) hX cbX1 1 0 (by decide) wf_X0_39 rfl rfl rfl rfl dX0_speaksBefore_16 ?_
    refine V_iload_n hX dX0_speaksBefore_19 1 rfl ?_
    refine V_iald (i0 := a) (r := (jI (s (ix a 1)))) hX 2 rfl (by omega) (by omega) (by omega) (by omega) rfl dX0_speaksBefore_20 ?_
    refine V_aload_n hX dX0_speaksBefore_21 0 rfl ?_
    refine V_getN (v := .ref (h 2)) hX cbX1 1 0 (by decide) wf_X0_39 rfl rfl rfl rfl dX0_speaksBefore_22 ?_
    refine V_iload_n hX dX0_speaksBefore_25 2 rfl ?_
    refine V_iald (i0 := b) (r := (jI (s (ix b 1)))) hX 2 rfl (by omega) (by omega) (by omega) (by omega) rfl dX0_speaksBefore_26 ?_
    refine V_icmp_le (tgt := 34) hX dX0_speaksBefore_27 (by decide) (by omega) (by omega) (fun c_3 => ?_) (fun c_3 => ?_)
    · refine V_iconst hX dX0_speaksBefore_34 ?_
      exact V_zret hX hR rfl dX0_speaksBefore_35 ⟨(congrArg (fun z => some (Value.int (jI z))) (bI_f (by omega)).symm), rfl⟩
    · refine V_iconst hX dX0_speaksBefore_30 ?_
      refine V_goto (tgt := 35) hX dX0_speaksBefore_31 (by decide) ?_
      exact V_zret hX hR rfl dX0_speaksBefore_35 ⟨(congrArg (fun z => some (Value.int (jI z))) (bI_t (by omega)).symm), rfl⟩

set_option maxHeartbeats 4000000 in
set_option maxRecDepth 100000 in
theorem c_X0_greatestWeight (l : Launch) (G : vC) (b : Nat → Nat) (lob : Bool) (W : Nat → Nat) (vf : Nat → Int) (hW : ∀ w, w < 4 → W w ≤ 8000) : Fn l G yX0_greatestWeight cX0_greatestWeight 3 (some .float) ({ frames := 0, cells := 0, slots := 0, locals := 0 } : Room) [.ref (b 0)] (bB G b lob W vf) (some (.float (fB (grN W 4)))) (bB G b lob W vf) := by
  refine Ct.of (by decide) (Nat.le_of_ble_eq_true rfl) (fun X hX hR => ?_)
  refine V.toLv (lv' := [(0, .ref (b 0))]) rfl ?_
  refine V_fconst0 hX dX0_greatestWeight_0 ?_
  refine V_fstore_n (i := 1) (lv' := [(1, .float (FP.fconst0)), (0, .ref (b 0))]) hX dX0_greatestWeight_1 rfl (by decide) rfl ?_
  refine V.toLv (lv' := [(1, .float (fB 0)), (0, .ref (b 0))]) (by rw [fB_0]) ?_
  refine V_iconst hX dX0_greatestWeight_2 ?_
  refine V_istore_n (i := 2) (lv' := [(2, .int (jI 0)), (1, .float (fB 0)), (0, .ref (b 0))]) hX dX0_greatestWeight_3 rfl (by decide) rfl ?_
  have L4_q_1 : ∀ k : Nat, k ≤ 4 → ∀ (i : Int) (g : Nat), (i = (k : Int)) → (g = grN W k) → V X 0 0 (bB G b lob W vf) [(2, .int (jI i)), (1, .float (fB g)), (0, .ref (b 0))] 4 [] := by
    refine up_ind (fun k => ∀ (i : Int) (g : Nat), (i = (k : Int)) → (g = grN W k) → V X 0 0 (bB G b lob W vf) [(2, .int (jI i)), (1, .float (fB g)), (0, .ref (b 0))] 4 []) (4) ?_
    intro k hk ih i g hi hg
    have hgb := grN_b hW k hk
    have hWk : k < 4 → W k ≤ 8000 := hW k
    refine V_iload_n hX dX0_greatestWeight_4 0 rfl ?_
    refine V_iconst hX dX0_greatestWeight_5 ?_
    refine V_icmp_ge (tgt := 33) hX dX0_greatestWeight_6 (by decide) (by omega) (by decide) (fun c_2 => ?_) (fun c_2 => ?_)
    · refine V_fload_n hX dX0_greatestWeight_33 1 rfl ?_
      exact V_fret hX hR dX0_greatestWeight_34 ⟨(by rw [hg, show k = 4 by omega]), rfl⟩
    · refine V_aload_n hX dX0_greatestWeight_9 2 rfl ?_
      refine V_get (v := .ref (b 1)) hX cbX0 1 0 (by decide) wf_X0_9 rfl rfl rfl rfl dX0_greatestWeight_10 ?_
      refine V_iload_n hX dX0_greatestWeight_13 0 rfl ?_
      refine V_fald (i0 := k) (r := (fB (W k))) hX 1 rfl (by omega) (by omega) (by omega) (by omega) rfl dX0_greatestWeight_14 ?_
      refine V_fload_n hX dX0_greatestWeight_15 1 rfl ?_
      have hc_3 := cmpI_spec (W k) (g)
      refine V_fcmp (r := jI (cmpI (W k) (g))) hX dX0_greatestWeight_16 (fB_cmpI (by omega) (by omega)) ?_
      refine V_if_le (tgt := 27) hX dX0_greatestWeight_17 (by decide) (by omega) (fun c_4 => ?_) (fun c_4 => ?_)
      · refine V_iinc (b := i + 1) (lv' := [(2, .int (jI (i + 1))), (1, .float (fB g)), (0, .ref (b 0))]) hX dX0_greatestWeight_27 0 rfl rfl (by decide) rfl ?_
        refine V_goto (tgt := 4) hX dX0_greatestWeight_30 (by decide) ?_
        refine V.sub [0, 1, 2] rfl ?_
        exact ih (by omega) _ _ (by omega) (by rw [grN_s]; split <;> omega)
      · refine V_aload_n hX dX0_greatestWeight_20 2 rfl ?_
        refine V_get (v := .ref (b 1)) hX cbX0 1 0 (by decide) wf_X0_9 rfl rfl rfl rfl dX0_greatestWeight_21 ?_
        refine V_iload_n hX dX0_greatestWeight_24 0 rfl ?_
        refine V_fald (i0 := k) (r := (fB (W k))) hX 1 rfl (by omega) (by omega) (by omega) (by omega) rfl dX0_greatestWeight_25 ?_
        refine V_fstore_n (i := 1) (lv' := [(1, .float (fB (W k))), (2, .int (jI i)), (0, .ref (b 0))]) hX dX0_greatestWeight_26 rfl (by decide) rfl ?_
        refine V_iinc (b := i + 1) (lv' := [(2, .int (jI (i + 1))), (1, .float (fB (W k))), (0, .ref (b 0))]) hX dX0_greatestWeight_27 1 rfl rfl (by decide) rfl ?_
        refine V_goto (tgt := 4) hX dX0_greatestWeight_30 (by decide) ?_
        refine V.sub [0, 1, 2] rfl ?_
        exact ih (by omega) _ _ (by omega) (by rw [grN_s]; split <;> omega)
  refine V.sub [0, 1, 2] rfl ?_
  exact L4_q_1 0 (Nat.zero_le _) 0 0 rfl rfl

set_option maxHeartbeats 4000000 in
set_option maxRecDepth 100000 in
theorem c_X0_speakerOf (l : Launch) (G : vC) (b : Nat → Nat) (lob : Bool) (W : Nat → Nat) (vf : Nat → Int) (h : Nat → Nat) (s : Nat → Int) (t : Int) (f : Int) (hI : Inv t s) (hf : iR f) : Fn l G yX0_speakerOf cX0_speakerOf 5 (some .int) ({ frames := 1, cells := 0, slots := 0, locals := 22 } : Room) [.ref (b 0), .ref (h 0), .int (jI f)] (bB G b lob W vf ++ hB G h s) (some (.int (jI (spN s f (s 10).toNat)))) (bB G b lob W vf ++ hB G h s) := by
  refine Ct.of (by decide) (Nat.le_of_ble_eq_true rfl) (fun X hX hR => ?_)
  refine V.toLv (lv' := [(0, .ref (b 0)), (1, .ref (h 0)), (2, .int (jI f))]) rfl ?_
  have hb := hI.base
  obtain ⟨N, hN⟩ : ∃ N : Nat, s 10 = (N : Int) := ⟨(s 10).toNat, by omega⟩
  refine V_bipush hX dX0_speakerOf_0 (by decide) ?_
  refine V_istore_n (i := 3) (lv' := [(3, .int (jI (-5))), (0, .ref (b 0)), (1, .ref (h 0)), (2, .int (jI f))]) hX dX0_speakerOf_2 rfl (by decide) rfl ?_
  refine V_iconst hX dX0_speakerOf_3 ?_
  refine V_istore (i := 4) (lv' := [(4, .int (jI 0)), (3, .int (jI (-5))), (0, .ref (b 0)), (1, .ref (h 0)), (2, .int (jI f))]) hX dX0_speakerOf_4 (by decide) rfl ?_
  have L6_q_1 : ∀ k : Nat, k ≤ N → ∀ (i : Int) (sp : Int), (i = (k : Int)) → (sp = spN s f k) → V X 0 0 (bB G b lob W vf ++ hB G h s) [(4, .int (jI i)), (3, .int (jI sp)), (0, .ref (b 0)), (1, .ref (h 0)), (2, .int (jI f))] 6 [] := by
    refine up_ind (fun k => ∀ (i : Int) (sp : Int), (i = (k : Int)) → (sp = spN s f k) → V X 0 0 (bB G b lob W vf ++ hB G h s) [(4, .int (jI i)), (3, .int (jI sp)), (0, .ref (b 0)), (1, .ref (h 0)), (2, .int (jI f))] 6 []) (N) ?_
    intro k hk ih i sp hi hsp
    have hspb := spN_b s f k
    refine V_iload hX dX0_speakerOf_6 0 rfl ?_
    refine V_aload_n hX dX0_speakerOf_8 3 rfl ?_
    refine V_getN (v := .int (jI (s 10))) hX cbX1 10 3 (by decide) wf_X0_23 rfl rfl rfl rfl dX0_speakerOf_9 ?_
    refine V_icmp_ge (tgt := 49) hX dX0_speakerOf_12 (by decide) (by omega) (by omega) (fun c_2 => ?_) (fun c_2 => ?_)
    · refine V_iload_n hX dX0_speakerOf_49 1 rfl ?_
      exact V_iret hX hR dX0_speakerOf_50 ⟨(congrArg (fun z => some (Value.int (jI z))) (by rw [hsp]; congr 1; omega)), rfl⟩
    · have hs := hI.sc k (by omega)
      refine V_aload_n hX dX0_speakerOf_15 3 rfl ?_
      refine V_getN (v := .ref (h 1)) hX cbX1 0 3 (by decide) wf_X0_29 rfl rfl rfl rfl dX0_speakerOf_16 ?_
      refine V_iload hX dX0_speakerOf_19 0 rfl ?_
      refine V_iald (i0 := k) (r := (jI (s (ix k 0)))) hX 4 rfl (by omega) (by omega) (by omega) (by omega) rfl dX0_speakerOf_21 ?_
      refine V_iload_n hX dX0_speakerOf_22 4 rfl ?_
      refine V_icmp_ne (tgt := 43) hX dX0_speakerOf_23 (by decide) (by omega) (by omega) (fun c_3 => ?_) (fun c_3 => ?_)
      · refine V_iinc (b := i + 1) (lv' := [(4, .int (jI (i + 1))), (3, .int (jI sp)), (0, .ref (b 0)), (1, .ref (h 0)), (2, .int (jI f))]) hX dX0_speakerOf_43 0 rfl rfl (by decide) rfl ?_
        refine V_goto (tgt := 6) hX dX0_speakerOf_46 (by decide) ?_
        refine V.sub [0, 1, 2, 3, 4] rfl ?_
        exact ih (by omega) _ _ (by omega) (by subst hsp; rw [spN_s]; split <;> omega)
      · refine V_iload_n hX dX0_speakerOf_26 1 rfl ?_
        refine V_if_lt (tgt := 40) hX dX0_speakerOf_27 (by decide) (by omega) (fun c_4 => ?_) (fun c_4 => ?_)
        · refine V_iload hX dX0_speakerOf_40 0 rfl ?_
          refine V_istore_n (i := 3) (lv' := [(3, .int (jI i)), (4, .int (jI i)), (0, .ref (b 0)), (1, .ref (h 0)), (2, .int (jI f))]) hX dX0_speakerOf_42 rfl (by decide) rfl ?_
          refine V_iinc (b := i + 1) (lv' := [(4, .int (jI (i + 1))), (3, .int (jI i)), (0, .ref (b 0)), (1, .ref (h 0)), (2, .int (jI f))]) hX dX0_speakerOf_43 1 rfl rfl (by decide) rfl ?_
          refine V_goto (tgt := 6) hX dX0_speakerOf_46 (by decide) ?_
          refine V.sub [0, 1, 2, 3, 4] rfl ?_
          exact ih (by omega) _ _ (by omega) (by subst hsp; rw [spN_s]; split <;> omega)
        · refine V_aload_n hX dX0_speakerOf_30 3 rfl ?_
          refine V_iload hX dX0_speakerOf_31 0 rfl ?_
          refine V_iload_n hX dX0_speakerOf_33 1 rfl ?_
          refine V.perm (w' := hB G h s ++ bB G b lob W vf) (List.perm_append_comm (l₁ := bB G b lob W vf) (l₂ := hB G h s)) ?_
          refine V.sk (st' := [.int (jI ((sp.toNat : Int))), .int (jI i), .ref (h 0)]) (congrArg (fun z : Int => [Value.int (jI z), Value.int (jI i), Value.ref (h 0)]) (show sp = (sp.toNat : Int) by omega)) ?_
          refine V.sk (st' := [.int (jI ((sp.toNat : Int))), .int (jI ((k : Int))), .ref (h 0)]) (congrArg (fun z : Int => [Value.int (jI ((sp.toNat : Int))), Value.int (jI z), Value.ref (h 0)]) (show i = (k : Int) by omega)) ?_
          refine V_cS (st := []) (v := .int (jI (bI (bfr s k sp.toNat)))) (w' := hB G h s ++ bB G b lob W vf) hX wc_X0_46 (c_X0_speaksBefore l G h s t k sp.toNat hI (by omega) (by omega)) (by decide) (by decide) rfl rfl (Nat.le_of_ble_eq_true rfl) dX0_speakerOf_34 [] (bB G b lob W vf) (by simp only [List.append_assoc, List.nil_append, List.append_nil]) (by simp only [List.append_assoc, List.nil_append, List.append_nil]) rfl rfl ?_
          refine V_ifz (tgt := 43) hX dX0_speakerOf_37 (by decide) (fun c_5 => ?_) (fun c_5 => ?_)
          · refine V_iinc (b := i + 1) (lv' := [(4, .int (jI (i + 1))), (3, .int (jI sp)), (0, .ref (b 0)), (1, .ref (h 0)), (2, .int (jI f))]) hX dX0_speakerOf_43 0 rfl rfl (by decide) rfl ?_
            refine V_goto (tgt := 6) hX dX0_speakerOf_46 (by decide) ?_
            refine V.perm (w' := bB G b lob W vf ++ hB G h s) (List.perm_append_comm (l₁ := hB G h s) (l₂ := bB G b lob W vf)) ?_
            refine V.sub [0, 1, 2, 3, 4] rfl ?_
            exact ih (by omega) _ _ (by omega) (by subst hsp; rw [spN_s]; split <;> omega)
          · refine V_iload hX dX0_speakerOf_40 0 rfl ?_
            refine V_istore_n (i := 3) (lv' := [(3, .int (jI i)), (4, .int (jI i)), (0, .ref (b 0)), (1, .ref (h 0)), (2, .int (jI f))]) hX dX0_speakerOf_42 rfl (by decide) rfl ?_
            refine V_iinc (b := i + 1) (lv' := [(4, .int (jI (i + 1))), (3, .int (jI i)), (0, .ref (b 0)), (1, .ref (h 0)), (2, .int (jI f))]) hX dX0_speakerOf_43 1 rfl rfl (by decide) rfl ?_
            refine V_goto (tgt := 6) hX dX0_speakerOf_46 (by decide) ?_
            refine V.perm (w' := bB G b lob W vf ++ hB G h s) (List.perm_append_comm (l₁ := hB G h s) (l₂ := bB G b lob W vf)) ?_
            refine V.sub [0, 1, 2, 3, 4] rfl ?_
            exact ih (by omega) _ _ (by omega) (by subst hsp; rw [spN_s]; split <;> omega)
  refine V.sub [0, 1, 2, 3, 4] rfl ?_
  exact L6_q_1 0 (Nat.zero_le _) 0 (-5) rfl rfl

set_option maxHeartbeats 4000000 in
set_option maxRecDepth 100000 in
theorem c_X0_weigh (l : Launch) (G : vC) (b : Nat → Nat) (lob : Bool) (W : Nat → Nat) (vf : Nat → Int) (h : Nat → Nat) (s : Nat → Int) (t : Int) (f : Int) (hI : Inv t s) (hf : iR f) : Fn l G yX0_weigh cX0_weigh 5 none ({ frames := 1, cells := 0, slots := 0, locals := 22 } : Room) [.ref (b 0), .ref (h 0), .int (jI f)] (bB G b lob W vf ++ hB G h s) none (bB G b lob (wF s lob f (s 10).toNat) vf ++ hB G h s) := by
  refine Ct.of (by decide) (Nat.le_of_ble_eq_true rfl) (fun X hX hR => ?_)
  refine V.toLv (lv' := [(0, .ref (b 0)), (1, .ref (h 0)), (2, .int (jI f))]) rfl ?_
  have hb := hI.base
  obtain ⟨N, hN⟩ : ∃ N : Nat, s 10 = (N : Int) := ⟨(s 10).toNat, by omega⟩
  refine V_iconst hX dX0_weigh_0 ?_
  refine V_istore_n (i := 3) (lv' := [(3, .int (jI 0)), (0, .ref (b 0)), (1, .ref (h 0)), (2, .int (jI f))]) hX dX0_weigh_1 rfl (by decide) rfl ?_
  refine V_iload_n hX dX0_weigh_2 0 rfl ?_
  refine V_iconst hX dX0_weigh_3 ?_
  refine V_icmp_ge (tgt := 20) hX dX0_weigh_4 (by decide) (by decide) (by decide) (fun c_1 => absurd c_1 (by decide)) (fun c_1 => ?_)
  refine V_aload_n hX dX0_weigh_7 1 rfl ?_
  refine V_get (v := .ref (b 1)) hX cbX0 1 0 (by decide) wf_X0_9 rfl rfl rfl rfl dX0_weigh_8 ?_
  refine V_iload_n hX dX0_weigh_11 0 rfl ?_
  refine V_fconst0 hX dX0_weigh_12 ?_
  refine V_fast (i0 := 0) (w' := bB G b lob (upN W 0 0) vf ++ hB G h s) hX 1 rfl (by decide) (by decide) (by decide) rfl dX0_weigh_13 (set_l (bB_w0 G _ _ _ _ _) (Nat.le_of_ble_eq_true rfl)) ?_
  refine V_iinc (b := 1) (lv' := [(3, .int (jI 1)), (0, .ref (b 0)), (1, .ref (h 0)), (2, .int (jI f))]) hX dX0_weigh_14 0 rfl rfl (by decide) rfl ?_
  refine V_goto (tgt := 2) hX dX0_weigh_17 (by decide) ?_
  refine V_iload_n hX dX0_weigh_2 0 rfl ?_
  refine V_iconst hX dX0_weigh_3 ?_
  refine V_icmp_ge (tgt := 20) hX dX0_weigh_4 (by decide) (by decide) (by decide) (fun c_2 => absurd c_2 (by decide)) (fun c_2 => ?_)
  refine V_aload_n hX dX0_weigh_7 1 rfl ?_
  refine V_get (v := .ref (b 1)) hX cbX0 1 0 (by decide) wf_X0_9 rfl rfl rfl rfl dX0_weigh_8 ?_
  refine V_iload_n hX dX0_weigh_11 0 rfl ?_
  refine V_fconst0 hX dX0_weigh_12 ?_
  refine V_fast (i0 := 1) (w' := bB G b lob (upN (upN W 0 0) 1 0) vf ++ hB G h s) hX 1 rfl (by decide) (by decide) (by decide) rfl dX0_weigh_13 (set_l (bB_w0 G _ _ _ _ _) (Nat.le_of_ble_eq_true rfl)) ?_
  refine V_iinc (b := 2) (lv' := [(3, .int (jI 2)), (0, .ref (b 0)), (1, .ref (h 0)), (2, .int (jI f))]) hX dX0_weigh_14 0 rfl rfl (by decide) rfl ?_
  refine V_goto (tgt := 2) hX dX0_weigh_17 (by decide) ?_
  refine V_iload_n hX dX0_weigh_2 0 rfl ?_
  refine V_iconst hX dX0_weigh_3 ?_
  refine V_icmp_ge (tgt := 20) hX dX0_weigh_4 (by decide) (by decide) (by decide) (fun c_3 => absurd c_3 (by decide)) (fun c_3 => ?_)
  refine V_aload_n hX dX0_weigh_7 1 rfl ?_
  refine V_get (v := .ref (b 1)) hX cbX0 1 0 (by decide) wf_X0_9 rfl rfl rfl rfl dX0_weigh_8 ?_
  refine V_iload_n hX dX0_weigh_11 0 rfl ?_
  refine V_fconst0 hX dX0_weigh_12 ?_
  refine V_fast (i0 := 2) (w' := bB G b lob (upN (upN (upN W 0 0) 1 0) 2 0) vf ++ hB G h s) hX 1 rfl (by decide) (by decide) (by decide) rfl dX0_weigh_13 (set_l (bB_w0 G _ _ _ _ _) (Nat.le_of_ble_eq_true rfl)) ?_
  refine V_iinc (b := 3) (lv' := [(3, .int (jI 3)), (0, .ref (b 0)), (1, .ref (h 0)), (2, .int (jI f))]) hX dX0_weigh_14 0 rfl rfl (by decide) rfl ?_
  refine V_goto (tgt := 2) hX dX0_weigh_17 (by decide) ?_
  refine V_iload_n hX dX0_weigh_2 0 rfl ?_
  refine V_iconst hX dX0_weigh_3 ?_
  refine V_icmp_ge (tgt := 20) hX dX0_weigh_4 (by decide) (by decide) (by decide) (fun c_4 => absurd c_4 (by decide)) (fun c_4 => ?_)
  refine V_aload_n hX dX0_weigh_7 1 rfl ?_
  refine V_get (v := .ref (b 1)) hX cbX0 1 0 (by decide) wf_X0_9 rfl rfl rfl rfl dX0_weigh_8 ?_
  refine V_iload_n hX dX0_weigh_11 0 rfl ?_
  refine V_fconst0 hX dX0_weigh_12 ?_
  refine V_fast (i0 := 3) (w' := bB G b lob (upN (upN (upN (upN W 0 0) 1 0) 2 0) 3 0) vf ++ hB G h s) hX 1 rfl (by decide) (by decide) (by decide) rfl dX0_weigh_13 (set_l (bB_w0 G _ _ _ _ _) (Nat.le_of_ble_eq_true rfl)) ?_
  refine V_iinc (b := 4) (lv' := [(3, .int (jI 4)), (0, .ref (b 0)), (1, .ref (h 0)), (2, .int (jI f))]) hX dX0_weigh_14 0 rfl rfl (by decide) rfl ?_
  refine V_goto (tgt := 2) hX dX0_weigh_17 (by decide) ?_
  refine V_iload_n hX dX0_weigh_2 0 rfl ?_
  refine V_iconst hX dX0_weigh_3 ?_
  refine V_icmp_ge (tgt := 20) hX dX0_weigh_4 (by decide) (by decide) (by decide) (fun c_5 => ?_) (fun c_5 => absurd c_5 (by decide))
  refine V.fnf hX 1 (g := bW (wF s lob f 0)) (w' := bB G b lob (wF s lob f 0) vf ++ hB G h s) rfl (wF_0 s lob f W) rfl ?_
  refine V_iconst hX dX0_weigh_20 ?_
  refine V_istore_n (i := 3) (lv' := [(3, .int (jI 0)), (0, .ref (b 0)), (1, .ref (h 0)), (2, .int (jI f))]) hX dX0_weigh_21 rfl (by decide) rfl ?_
  have L22_q_6 : ∀ k : Nat, k ≤ N → ∀ (i : Int), (i = (k : Int)) → V X 0 0 (bB G b lob (wF s lob f k) vf ++ hB G h s) [(3, .int (jI i)), (0, .ref (b 0)), (1, .ref (h 0)), (2, .int (jI f))] 22 [] := by
    refine up_ind (fun k => ∀ (i : Int), (i = (k : Int)) → V X 0 0 (bB G b lob (wF s lob f k) vf ++ hB G h s) [(3, .int (jI i)), (0, .ref (b 0)), (1, .ref (h 0)), (2, .int (jI f))] 22 []) (N) ?_
    intro k hk ih i hi
    have hwb := wF_b hI lob f k (by omega)
    refine V_iload_n hX dX0_weigh_22 0 rfl ?_
    refine V_aload_n hX dX0_weigh_23 2 rfl ?_
    refine V_getN (v := .int (jI (s 10))) hX cbX1 10 3 (by decide) wf_X0_23 rfl rfl rfl rfl dX0_weigh_24 ?_
    refine V_icmp_ge (tgt := 115) hX dX0_weigh_27 (by decide) (by omega) (by omega) (fun c_7 => ?_) (fun c_7 => ?_)
    · exact V_vret hX hR dX0_weigh_115 ⟨rfl, (by rw [show k = (s 10).toNat by omega])⟩
    · have hs := hI.sc k (by omega)
      refine V_aload_n hX dX0_weigh_30 2 rfl ?_
      refine V_getN (v := .ref (h 1)) hX cbX1 0 3 (by decide) wf_X0_29 rfl rfl rfl rfl dX0_weigh_31 ?_
      refine V_iload_n hX dX0_weigh_34 0 rfl ?_
      refine V_iald (i0 := k) (r := (jI (s (ix k 0)))) hX 4 rfl (by omega) (by omega) (by omega) (by omega) rfl dX0_weigh_35 ?_
      refine V_iload_n hX dX0_weigh_36 3 rfl ?_
      refine V_icmp_eq (tgt := 43) hX dX0_weigh_37 (by decide) (by omega) (by omega) (fun c_8 => ?_) (fun c_8 => ?_)
      · have hwy := hwb (s (ix k 3)).toNat (by omega)
        have hab := (wa_b hI lob f 0 k (by decide) (by omega)).2.2
        refine V_aload_n hX dX0_weigh_43 1 rfl ?_
        refine V_get (v := .ref (b 1)) hX cbX0 1 0 (by decide) wf_X0_9 rfl rfl rfl rfl dX0_weigh_44 ?_
        refine V_aload_n hX dX0_weigh_47 2 rfl ?_
        refine V_getN (v := .ref (h 4)) hX cbX1 3 3 (by decide) wf_X0_32 rfl rfl rfl rfl dX0_weigh_48 ?_
        refine V_iload_n hX dX0_weigh_51 0 rfl ?_
        refine V_iald (i0 := k) (r := (jI (s (ix k 3)))) hX 7 rfl (by omega) (by omega) (by omega) (by omega) rfl dX0_weigh_52 ?_
        refine V_dup2 hX dX0_weigh_53 rfl rfl ?_
        refine V_fald (i0 := (s (ix k 3)).toNat) (r := (fB ((wF s lob f k) ((s (ix k 3)).toNat)))) hX 1 rfl (by omega) (by omega) (by omega) (by unfold ix; omega) rfl dX0_weigh_54 ?_
        refine V_aload_n hX dX0_weigh_55 2 rfl ?_
        refine V_iload_n hX dX0_weigh_56 0 rfl ?_
        refine V.perm (w' := hB G h s ++ bB G b lob (wF s lob f k) vf) (List.perm_append_comm (l₁ := bB G b lob (wF s lob f k) vf) (l₂ := hB G h s)) ?_
        refine V.sk (st' := [.int (jI ((k : Int))), .ref (h 0), .float (fB ((wF s lob f k) ((s (ix k 3)).toNat))), .int (jI (s (ix k 3))), .ref (b 1)]) (congrArg (fun z : Int => [Value.int (jI z), Value.ref (h 0), Value.float (fB ((wF s lob f k) ((s (ix k 3)).toNat))), Value.int (jI (s (ix k 3))), Value.ref (b 1)]) (show i = (k : Int) by omega)) ?_
        refine V_cVN (st := [.float (fB ((wF s lob f k) ((s (ix k 3)).toNat))), .int (jI (s (ix k 3))), .ref (b 1)]) (v := .float (fB (s (ix k 4)).toNat)) (w' := hB G h s ++ bB G b lob (wF s lob f k) vf) hX wc_X0_35 (c_X1_strawAsFloat l G h s t k hI (by omega)) (by decide) (by decide) rfl rfl (Nat.le_of_ble_eq_true rfl) dX0_weigh_57 [] (bB G b lob (wF s lob f k) vf) (by simp only [List.append_assoc, List.nil_append, List.append_nil]) 0 rfl rfl (by simp only [List.append_assoc, List.nil_append, List.append_nil]) rfl rfl ?_
        refine V_aload_n hX dX0_weigh_60 2 rfl ?_
        refine V_getN (v := .ref (h 2)) hX cbX1 1 0 (by decide) wf_X0_39 rfl rfl rfl rfl dX0_weigh_61 ?_
        refine V_iload_n hX dX0_weigh_64 0 rfl ?_
        refine V_iald (i0 := k) (r := (jI (s (ix k 1)))) hX 2 rfl (by omega) (by omega) (by omega) (by omega) rfl dX0_weigh_65 ?_
        refine V_i2f hX dX0_weigh_66 rfl ?_
        refine V_fmul (r := fB (((s (ix k 4)).toNat) * (s (ix k 1)).toNat)) hX dX0_weigh_67 (by rw [show (s (ix k 1) : Int) = (((s (ix k 1)).toNat : Nat) : Int) by omega]; exact fB_mul _ (by omega) _ (by omega)) (fB_vf (by omega)) ?_
        refine V_fadd (r := fB ((wF s lob f k) ((s (ix k 3)).toNat) + (((s (ix k 4)).toNat) * (s (ix k 1)).toNat))) hX dX0_weigh_68 (fB_add (by omega)) (fB_vf (by omega)) ?_
        refine V_fast (i0 := (s (ix k 3)).toNat) (w' := hB G h s ++ bB G b lob (upN (wF s lob f k) ((s (ix k 3)).toNat) (((wF s lob f k) ((s (ix k 3)).toNat) + (((s (ix k 4)).toNat) * (s (ix k 1)).toNat)))) vf) hX 12 rfl (by omega) (by omega) (by omega) (by unfold ix; omega) dX0_weigh_69 (set_r rfl (bB_w G _ _ _ _ _ _)) ?_
        have hu : ∀ w, w < 4 → upN (wF s lob f k) (s (ix k 3)).toNat (wF s lob f k (s (ix k 3)).toNat + ((s (ix k 4)).toNat * (s (ix k 1)).toNat)) w ≤ 7616 := fun w hw => by have := hwb w hw; unfold upN; split <;> omega
        have hu0 := hu 0 (by decide)
        have hu1 := hu 1 (by decide)
        have hu2 := hu 2 (by decide)
        have hu3 := hu 3 (by decide)
        have hlb0 := (wa_b hI lob f 0 k (by decide) (by omega)).2.1
        have hlb1 := (wa_b hI lob f 1 k (by decide) (by omega)).2.1
        have hlb2 := (wa_b hI lob f 2 k (by decide) (by omega)).2.1
        have hlb3 := (wa_b hI lob f 3 k (by decide) (by omega)).2.1
        refine V_iconst hX dX0_weigh_70 ?_
        refine V_istore (i := 4) (lv' := [(4, .int (jI 0)), (3, .int (jI i)), (0, .ref (b 0)), (1, .ref (h 0)), (2, .int (jI f))]) hX dX0_weigh_71 (by decide) rfl ?_
        refine V_aload_n hX dX0_weigh_73 2 rfl ?_
        refine V_get (v := .int (jI (bI (lob = true)))) hX cbX0 0 11 (by decide) wf_X0_19 rfl rfl rfl rfl dX0_weigh_74 ?_
        refine V_ifz (tgt := 109) hX dX0_weigh_77 (by decide) (fun c_9 => ?_) (fun c_9 => ?_)
        · refine V.perm (w' := bB G b lob (upN (wF s lob f k) ((s (ix k 3)).toNat) (((wF s lob f k) ((s (ix k 3)).toNat) + (((s (ix k 4)).toNat) * (s (ix k 1)).toNat)))) vf ++ hB G h s) (List.perm_append_comm (l₁ := hB G h s) (l₂ := bB G b lob (upN (wF s lob f k) ((s (ix k 3)).toNat) (((wF s lob f k) ((s (ix k 3)).toNat) + (((s (ix k 4)).toNat) * (s (ix k 1)).toNat)))) vf)) ?_
          refine V.fnf hX 1 (g := bW (wF s lob f (k + 1))) (w' := bB G b lob (wF s lob f (k + 1)) vf ++ hB G h s) rfl (fun j hj => by first | exact wF_skip (by assumption) j | exact wF_q (by assumption) (by assumption) (by omega) rfl j hj | exact wF_l (by assumption) (by assumption) (by omega) rfl rfl rfl rfl rfl j hj) rfl ?_
          refine V_iinc (b := i + 1) (lv' := [(3, .int (jI (i + 1))), (4, .int (jI 0)), (0, .ref (b 0)), (1, .ref (h 0)), (2, .int (jI f))]) hX dX0_weigh_109 1 rfl rfl (by decide) rfl ?_
          refine V_goto (tgt := 22) hX dX0_weigh_112 (by decide) ?_
          refine V.sub [0, 2, 3, 4] rfl ?_
          exact ih (by omega) _ (by omega)
        · refine V_iload hX dX0_weigh_80 0 rfl ?_
          refine V_iconst hX dX0_weigh_82 ?_
          refine V_icmp_ge (tgt := 109) hX dX0_weigh_83 (by decide) (by decide) (by decide) (fun c_10 => absurd c_10 (by decide)) (fun c_10 => ?_)
          refine V_aload_n hX dX0_weigh_86 2 rfl ?_
          refine V_get (v := .ref (b 1)) hX cbX0 1 11 (by decide) wf_X0_9 rfl rfl rfl rfl dX0_weigh_87 ?_
          refine V_iload hX dX0_weigh_90 0 rfl ?_
          refine V_dup2 hX dX0_weigh_92 rfl rfl ?_
          refine V_fald (i0 := 0) (r := (fB ((upN (wF s lob f k) ((s (ix k 3)).toNat) (((wF s lob f k) ((s (ix k 3)).toNat) + (((s (ix k 4)).toNat) * (s (ix k 1)).toNat)))) 0))) hX 12 rfl (by decide) (by decide) (by decide) rfl rfl dX0_weigh_93 ?_
          refine V_aload_n hX dX0_weigh_94 3 rfl ?_
          refine V_iload_n hX dX0_weigh_95 1 rfl ?_
          refine V_iload hX dX0_weigh_96 0 rfl ?_
          refine V.sk (st' := [.int (jI ((0 : Int))), .int (jI i), .ref (h 0), .float (fB ((upN (wF s lob f k) ((s (ix k 3)).toNat) (((wF s lob f k) ((s (ix k 3)).toNat) + (((s (ix k 4)).toNat) * (s (ix k 1)).toNat)))) 0)), .int (jI 0), .ref (b 1)]) rfl ?_
          refine V.sk (st' := [.int (jI ((0 : Int))), .int (jI ((k : Int))), .ref (h 0), .float (fB ((upN (wF s lob f k) ((s (ix k 3)).toNat) (((wF s lob f k) ((s (ix k 3)).toNat) + (((s (ix k 4)).toNat) * (s (ix k 1)).toNat)))) 0)), .int (jI 0), .ref (b 1)]) (congrArg (fun z : Int => [Value.int (jI ((0 : Int))), Value.int (jI z), Value.ref (h 0), Value.float (fB ((upN (wF s lob f k) ((s (ix k 3)).toNat) (((wF s lob f k) ((s (ix k 3)).toNat) + (((s (ix k 4)).toNat) * (s (ix k 1)).toNat)))) 0)), Value.int (jI 0), Value.ref (b 1)]) (show i = (k : Int) by omega)) ?_
          refine V_cVN (st := [.float (fB ((upN (wF s lob f k) ((s (ix k 3)).toNat) (((wF s lob f k) ((s (ix k 3)).toNat) + (((s (ix k 4)).toNat) * (s (ix k 1)).toNat)))) 0)), .int (jI 0), .ref (b 1)]) (v := .float (fB (4 * (lobN s k 0)))) (w' := hB G h s ++ bB G b lob (upN (wF s lob f k) ((s (ix k 3)).toNat) (((wF s lob f k) ((s (ix k 3)).toNat) + (((s (ix k 4)).toNat) * (s (ix k 1)).toNat)))) vf) hX wc_X0_42 (c_X1_lobbyFor l G h s t k 0 hI (by omega) (by omega)) (by decide) (by decide) rfl rfl (Nat.le_of_ble_eq_true rfl) dX0_weigh_98 [] (bB G b lob (upN (wF s lob f k) ((s (ix k 3)).toNat) (((wF s lob f k) ((s (ix k 3)).toNat) + (((s (ix k 4)).toNat) * (s (ix k 1)).toNat)))) vf) (by simp only [List.append_assoc, List.nil_append, List.append_nil]) 0 rfl rfl (by simp only [List.append_assoc, List.nil_append, List.append_nil]) rfl rfl ?_
          refine V_fadd (r := fB ((upN (wF s lob f k) ((s (ix k 3)).toNat) (((wF s lob f k) ((s (ix k 3)).toNat) + (((s (ix k 4)).toNat) * (s (ix k 1)).toNat)))) 0 + (4 * (lobN s k 0)))) hX dX0_weigh_101 (fB_add (by omega)) (fB_vf (by omega)) ?_
          refine V_fast (i0 := 0) (w' := hB G h s ++ bB G b lob (upN (upN (wF s lob f k) ((s (ix k 3)).toNat) (((wF s lob f k) ((s (ix k 3)).toNat) + (((s (ix k 4)).toNat) * (s (ix k 1)).toNat)))) 0 (((upN (wF s lob f k) ((s (ix k 3)).toNat) (((wF s lob f k) ((s (ix k 3)).toNat) + (((s (ix k 4)).toNat) * (s (ix k 1)).toNat)))) 0 + (4 * (lobN s k 0))))) vf) hX 12 rfl (by decide) (by decide) (by decide) rfl dX0_weigh_102 (set_r rfl (bB_w G _ _ _ _ _ _)) ?_
          refine V_iinc (b := 1) (lv' := [(4, .int (jI 1)), (3, .int (jI i)), (0, .ref (b 0)), (1, .ref (h 0)), (2, .int (jI f))]) hX dX0_weigh_103 0 rfl rfl (by decide) rfl ?_
          refine V_goto (tgt := 73) hX dX0_weigh_106 (by decide) ?_
          refine V_aload_n hX dX0_weigh_73 2 rfl ?_
          refine V_get (v := .int (jI (bI (lob = true)))) hX cbX0 0 11 (by decide) wf_X0_19 rfl rfl rfl rfl dX0_weigh_74 ?_
          refine V_ifz (tgt := 109) hX dX0_weigh_77 (by decide) (fun c_11 => absurd c_9 c_11) (fun c_11 => ?_)
          refine V_iload hX dX0_weigh_80 0 rfl ?_
          refine V_iconst hX dX0_weigh_82 ?_
          refine V_icmp_ge (tgt := 109) hX dX0_weigh_83 (by decide) (by decide) (by decide) (fun c_12 => absurd c_12 (by decide)) (fun c_12 => ?_)
          refine V_aload_n hX dX0_weigh_86 2 rfl ?_
          refine V_get (v := .ref (b 1)) hX cbX0 1 11 (by decide) wf_X0_9 rfl rfl rfl rfl dX0_weigh_87 ?_
          refine V_iload hX dX0_weigh_90 0 rfl ?_
          refine V_dup2 hX dX0_weigh_92 rfl rfl ?_
          refine V_fald (i0 := 1) (r := (fB ((upN (wF s lob f k) ((s (ix k 3)).toNat) (((wF s lob f k) ((s (ix k 3)).toNat) + (((s (ix k 4)).toNat) * (s (ix k 1)).toNat)))) 1))) hX 12 rfl (by decide) (by decide) (by decide) rfl (by show fB ((upN (upN (wF s lob f k) ((s (ix k 3)).toNat) (((wF s lob f k) ((s (ix k 3)).toNat) + (((s (ix k 4)).toNat) * (s (ix k 1)).toNat)))) 0 (((upN (wF s lob f k) ((s (ix k 3)).toNat) (((wF s lob f k) ((s (ix k 3)).toNat) + (((s (ix k 4)).toNat) * (s (ix k 1)).toNat)))) 0 + (4 * (lobN s k 0))))) 1) = fB ((upN (wF s lob f k) ((s (ix k 3)).toNat) (((wF s lob f k) ((s (ix k 3)).toNat) + (((s (ix k 4)).toNat) * (s (ix k 1)).toNat)))) 1); rw [upN_ne (by decide)]) dX0_weigh_93 ?_
          refine V_aload_n hX dX0_weigh_94 3 rfl ?_
          refine V_iload_n hX dX0_weigh_95 1 rfl ?_
          refine V_iload hX dX0_weigh_96 0 rfl ?_
          refine V.sk (st' := [.int (jI ((1 : Int))), .int (jI i), .ref (h 0), .float (fB ((upN (wF s lob f k) ((s (ix k 3)).toNat) (((wF s lob f k) ((s (ix k 3)).toNat) + (((s (ix k 4)).toNat) * (s (ix k 1)).toNat)))) 1)), .int (jI 1), .ref (b 1)]) rfl ?_
          refine V.sk (st' := [.int (jI ((1 : Int))), .int (jI ((k : Int))), .ref (h 0), .float (fB ((upN (wF s lob f k) ((s (ix k 3)).toNat) (((wF s lob f k) ((s (ix k 3)).toNat) + (((s (ix k 4)).toNat) * (s (ix k 1)).toNat)))) 1)), .int (jI 1), .ref (b 1)]) (congrArg (fun z : Int => [Value.int (jI ((1 : Int))), Value.int (jI z), Value.ref (h 0), Value.float (fB ((upN (wF s lob f k) ((s (ix k 3)).toNat) (((wF s lob f k) ((s (ix k 3)).toNat) + (((s (ix k 4)).toNat) * (s (ix k 1)).toNat)))) 1)), Value.int (jI 1), Value.ref (b 1)]) (show i = (k : Int) by omega)) ?_
          refine V_cVN (st := [.float (fB ((upN (wF s lob f k) ((s (ix k 3)).toNat) (((wF s lob f k) ((s (ix k 3)).toNat) + (((s (ix k 4)).toNat) * (s (ix k 1)).toNat)))) 1)), .int (jI 1), .ref (b 1)]) (v := .float (fB (4 * (lobN s k 1)))) (w' := hB G h s ++ bB G b lob (upN (upN (wF s lob f k) ((s (ix k 3)).toNat) (((wF s lob f k) ((s (ix k 3)).toNat) + (((s (ix k 4)).toNat) * (s (ix k 1)).toNat)))) 0 (((upN (wF s lob f k) ((s (ix k 3)).toNat) (((wF s lob f k) ((s (ix k 3)).toNat) + (((s (ix k 4)).toNat) * (s (ix k 1)).toNat)))) 0 + (4 * (lobN s k 0))))) vf) hX wc_X0_42 (c_X1_lobbyFor l G h s t k 1 hI (by omega) (by omega)) (by decide) (by decide) rfl rfl (Nat.le_of_ble_eq_true rfl) dX0_weigh_98 [] (bB G b lob (upN (upN (wF s lob f k) ((s (ix k 3)).toNat) (((wF s lob f k) ((s (ix k 3)).toNat) + (((s (ix k 4)).toNat) * (s (ix k 1)).toNat)))) 0 (((upN (wF s lob f k) ((s (ix k 3)).toNat) (((wF s lob f k) ((s (ix k 3)).toNat) + (((s (ix k 4)).toNat) * (s (ix k 1)).toNat)))) 0 + (4 * (lobN s k 0))))) vf) (by simp only [List.append_assoc, List.nil_append, List.append_nil]) 0 rfl rfl (by simp only [List.append_assoc, List.nil_append, List.append_nil]) rfl rfl ?_
          refine V_fadd (r := fB ((upN (wF s lob f k) ((s (ix k 3)).toNat) (((wF s lob f k) ((s (ix k 3)).toNat) + (((s (ix k 4)).toNat) * (s (ix k 1)).toNat)))) 1 + (4 * (lobN s k 1)))) hX dX0_weigh_101 (fB_add (by omega)) (fB_vf (by omega)) ?_
          refine V_fast (i0 := 1) (w' := hB G h s ++ bB G b lob (upN (upN (upN (wF s lob f k) ((s (ix k 3)).toNat) (((wF s lob f k) ((s (ix k 3)).toNat) + (((s (ix k 4)).toNat) * (s (ix k 1)).toNat)))) 0 (((upN (wF s lob f k) ((s (ix k 3)).toNat) (((wF s lob f k) ((s (ix k 3)).toNat) + (((s (ix k 4)).toNat) * (s (ix k 1)).toNat)))) 0 + (4 * (lobN s k 0))))) 1 (((upN (wF s lob f k) ((s (ix k 3)).toNat) (((wF s lob f k) ((s (ix k 3)).toNat) + (((s (ix k 4)).toNat) * (s (ix k 1)).toNat)))) 1 + (4 * (lobN s k 1))))) vf) hX 12 rfl (by decide) (by decide) (by decide) rfl dX0_weigh_102 (set_r rfl (bB_w G _ _ _ _ _ _)) ?_
          refine V_iinc (b := 2) (lv' := [(4, .int (jI 2)), (3, .int (jI i)), (0, .ref (b 0)), (1, .ref (h 0)), (2, .int (jI f))]) hX dX0_weigh_103 0 rfl rfl (by decide) rfl ?_
          refine V_goto (tgt := 73) hX dX0_weigh_106 (by decide) ?_
          refine V_aload_n hX dX0_weigh_73 2 rfl ?_
          refine V_get (v := .int (jI (bI (lob = true)))) hX cbX0 0 11 (by decide) wf_X0_19 rfl rfl rfl rfl dX0_weigh_74 ?_
          refine V_ifz (tgt := 109) hX dX0_weigh_77 (by decide) (fun c_13 => absurd c_9 c_13) (fun c_13 => ?_)
          refine V_iload hX dX0_weigh_80 0 rfl ?_
          refine V_iconst hX dX0_weigh_82 ?_
          refine V_icmp_ge (tgt := 109) hX dX0_weigh_83 (by decide) (by decide) (by decide) (fun c_14 => absurd c_14 (by decide)) (fun c_14 => ?_)
          refine V_aload_n hX dX0_weigh_86 2 rfl ?_
          refine V_get (v := .ref (b 1)) hX cbX0 1 11 (by decide) wf_X0_9 rfl rfl rfl rfl dX0_weigh_87 ?_
          refine V_iload hX dX0_weigh_90 0 rfl ?_
          refine V_dup2 hX dX0_weigh_92 rfl rfl ?_
          refine V_fald (i0 := 2) (r := (fB ((upN (wF s lob f k) ((s (ix k 3)).toNat) (((wF s lob f k) ((s (ix k 3)).toNat) + (((s (ix k 4)).toNat) * (s (ix k 1)).toNat)))) 2))) hX 12 rfl (by decide) (by decide) (by decide) rfl (by show fB ((upN (upN (upN (wF s lob f k) ((s (ix k 3)).toNat) (((wF s lob f k) ((s (ix k 3)).toNat) + (((s (ix k 4)).toNat) * (s (ix k 1)).toNat)))) 0 (((upN (wF s lob f k) ((s (ix k 3)).toNat) (((wF s lob f k) ((s (ix k 3)).toNat) + (((s (ix k 4)).toNat) * (s (ix k 1)).toNat)))) 0 + (4 * (lobN s k 0))))) 1 (((upN (wF s lob f k) ((s (ix k 3)).toNat) (((wF s lob f k) ((s (ix k 3)).toNat) + (((s (ix k 4)).toNat) * (s (ix k 1)).toNat)))) 1 + (4 * (lobN s k 1))))) 2) = fB ((upN (wF s lob f k) ((s (ix k 3)).toNat) (((wF s lob f k) ((s (ix k 3)).toNat) + (((s (ix k 4)).toNat) * (s (ix k 1)).toNat)))) 2); rw [upN_ne (by decide), upN_ne (by decide)]) dX0_weigh_93 ?_
          refine V_aload_n hX dX0_weigh_94 3 rfl ?_
          refine V_iload_n hX dX0_weigh_95 1 rfl ?_
          refine V_iload hX dX0_weigh_96 0 rfl ?_
          refine V.sk (st' := [.int (jI ((2 : Int))), .int (jI i), .ref (h 0), .float (fB ((upN (wF s lob f k) ((s (ix k 3)).toNat) (((wF s lob f k) ((s (ix k 3)).toNat) + (((s (ix k 4)).toNat) * (s (ix k 1)).toNat)))) 2)), .int (jI 2), .ref (b 1)]) rfl ?_
          refine V.sk (st' := [.int (jI ((2 : Int))), .int (jI ((k : Int))), .ref (h 0), .float (fB ((upN (wF s lob f k) ((s (ix k 3)).toNat) (((wF s lob f k) ((s (ix k 3)).toNat) + (((s (ix k 4)).toNat) * (s (ix k 1)).toNat)))) 2)), .int (jI 2), .ref (b 1)]) (congrArg (fun z : Int => [Value.int (jI ((2 : Int))), Value.int (jI z), Value.ref (h 0), Value.float (fB ((upN (wF s lob f k) ((s (ix k 3)).toNat) (((wF s lob f k) ((s (ix k 3)).toNat) + (((s (ix k 4)).toNat) * (s (ix k 1)).toNat)))) 2)), Value.int (jI 2), Value.ref (b 1)]) (show i = (k : Int) by omega)) ?_
          refine V_cVN (st := [.float (fB ((upN (wF s lob f k) ((s (ix k 3)).toNat) (((wF s lob f k) ((s (ix k 3)).toNat) + (((s (ix k 4)).toNat) * (s (ix k 1)).toNat)))) 2)), .int (jI 2), .ref (b 1)]) (v := .float (fB (4 * (lobN s k 2)))) (w' := hB G h s ++ bB G b lob (upN (upN (upN (wF s lob f k) ((s (ix k 3)).toNat) (((wF s lob f k) ((s (ix k 3)).toNat) + (((s (ix k 4)).toNat) * (s (ix k 1)).toNat)))) 0 (((upN (wF s lob f k) ((s (ix k 3)).toNat) (((wF s lob f k) ((s (ix k 3)).toNat) + (((s (ix k 4)).toNat) * (s (ix k 1)).toNat)))) 0 + (4 * (lobN s k 0))))) 1 (((upN (wF s lob f k) ((s (ix k 3)).toNat) (((wF s lob f k) ((s (ix k 3)).toNat) + (((s (ix k 4)).toNat) * (s (ix k 1)).toNat)))) 1 + (4 * (lobN s k 1))))) vf) hX wc_X0_42 (c_X1_lobbyFor l G h s t k 2 hI (by omega) (by omega)) (by decide) (by decide) rfl rfl (Nat.le_of_ble_eq_true rfl) dX0_weigh_98 [] (bB G b lob (upN (upN (upN (wF s lob f k) ((s (ix k 3)).toNat) (((wF s lob f k) ((s (ix k 3)).toNat) + (((s (ix k 4)).toNat) * (s (ix k 1)).toNat)))) 0 (((upN (wF s lob f k) ((s (ix k 3)).toNat) (((wF s lob f k) ((s (ix k 3)).toNat) + (((s (ix k 4)).toNat) * (s (ix k 1)).toNat)))) 0 + (4 * (lobN s k 0))))) 1 (((upN (wF s lob f k) ((s (ix k 3)).toNat) (((wF s lob f k) ((s (ix k 3)).toNat) + (((s (ix k 4)).toNat) * (s (ix k 1)).toNat)))) 1 + (4 * (lobN s k 1))))) vf) (by simp only [List.append_assoc, List.nil_append, List.append_nil]) 0 rfl rfl (by simp only [List.append_assoc, List.nil_append, List.append_nil]) rfl rfl ?_
          refine V_fadd (r := fB ((upN (wF s lob f k) ((s (ix k 3)).toNat) (((wF s lob f k) ((s (ix k 3)).toNat) + (((s (ix k 4)).toNat) * (s (ix k 1)).toNat)))) 2 + (4 * (lobN s k 2)))) hX dX0_weigh_101 (fB_add (by omega)) (fB_vf (by omega)) ?_
          refine V_fast (i0 := 2) (w' := hB G h s ++ bB G b lob (upN (upN (upN (upN (wF s lob f k) ((s (ix k 3)).toNat) (((wF s lob f k) ((s (ix k 3)).toNat) + (((s (ix k 4)).toNat) * (s (ix k 1)).toNat)))) 0 (((upN (wF s lob f k) ((s (ix k 3)).toNat) (((wF s lob f k) ((s (ix k 3)).toNat) + (((s (ix k 4)).toNat) * (s (ix k 1)).toNat)))) 0 + (4 * (lobN s k 0))))) 1 (((upN (wF s lob f k) ((s (ix k 3)).toNat) (((wF s lob f k) ((s (ix k 3)).toNat) + (((s (ix k 4)).toNat) * (s (ix k 1)).toNat)))) 1 + (4 * (lobN s k 1))))) 2 (((upN (wF s lob f k) ((s (ix k 3)).toNat) (((wF s lob f k) ((s (ix k 3)).toNat) + (((s (ix k 4)).toNat) * (s (ix k 1)).toNat)))) 2 + (4 * (lobN s k 2))))) vf) hX 12 rfl (by decide) (by decide) (by decide) rfl dX0_weigh_102 (set_r rfl (bB_w G _ _ _ _ _ _)) ?_
          refine V_iinc (b := 3) (lv' := [(4, .int (jI 3)), (3, .int (jI i)), (0, .ref (b 0)), (1, .ref (h 0)), (2, .int (jI f))]) hX dX0_weigh_103 0 rfl rfl (by decide) rfl ?_
          refine V_goto (tgt := 73) hX dX0_weigh_106 (by decide) ?_
          refine V_aload_n hX dX0_weigh_73 2 rfl ?_
          refine V_get (v := .int (jI (bI (lob = true)))) hX cbX0 0 11 (by decide) wf_X0_19 rfl rfl rfl rfl dX0_weigh_74 ?_
          refine V_ifz (tgt := 109) hX dX0_weigh_77 (by decide) (fun c_15 => absurd c_9 c_15) (fun c_15 => ?_)
          refine V_iload hX dX0_weigh_80 0 rfl ?_
          refine V_iconst hX dX0_weigh_82 ?_
          refine V_icmp_ge (tgt := 109) hX dX0_weigh_83 (by decide) (by decide) (by decide) (fun c_16 => absurd c_16 (by decide)) (fun c_16 => ?_)
          refine V_aload_n hX dX0_weigh_86 2 rfl ?_
          refine V_get (v := .ref (b 1)) hX cbX0 1 11 (by decide) wf_X0_9 rfl rfl rfl rfl dX0_weigh_87 ?_
          refine V_iload hX dX0_weigh_90 0 rfl ?_
          refine V_dup2 hX dX0_weigh_92 rfl rfl ?_
          refine V_fald (i0 := 3) (r := (fB ((upN (wF s lob f k) ((s (ix k 3)).toNat) (((wF s lob f k) ((s (ix k 3)).toNat) + (((s (ix k 4)).toNat) * (s (ix k 1)).toNat)))) 3))) hX 12 rfl (by decide) (by decide) (by decide) rfl (by show fB ((upN (upN (upN (upN (wF s lob f k) ((s (ix k 3)).toNat) (((wF s lob f k) ((s (ix k 3)).toNat) + (((s (ix k 4)).toNat) * (s (ix k 1)).toNat)))) 0 (((upN (wF s lob f k) ((s (ix k 3)).toNat) (((wF s lob f k) ((s (ix k 3)).toNat) + (((s (ix k 4)).toNat) * (s (ix k 1)).toNat)))) 0 + (4 * (lobN s k 0))))) 1 (((upN (wF s lob f k) ((s (ix k 3)).toNat) (((wF s lob f k) ((s (ix k 3)).toNat) + (((s (ix k 4)).toNat) * (s (ix k 1)).toNat)))) 1 + (4 * (lobN s k 1))))) 2 (((upN (wF s lob f k) ((s (ix k 3)).toNat) (((wF s lob f k) ((s (ix k 3)).toNat) + (((s (ix k 4)).toNat) * (s (ix k 1)).toNat)))) 2 + (4 * (lobN s k 2))))) 3) = fB ((upN (wF s lob f k) ((s (ix k 3)).toNat) (((wF s lob f k) ((s (ix k 3)).toNat) + (((s (ix k 4)).toNat) * (s (ix k 1)).toNat)))) 3); rw [upN_ne (by decide), upN_ne (by decide), upN_ne (by decide)]) dX0_weigh_93 ?_
          refine V_aload_n hX dX0_weigh_94 3 rfl ?_
          refine V_iload_n hX dX0_weigh_95 1 rfl ?_
          refine V_iload hX dX0_weigh_96 0 rfl ?_
          refine V.sk (st' := [.int (jI ((3 : Int))), .int (jI i), .ref (h 0), .float (fB ((upN (wF s lob f k) ((s (ix k 3)).toNat) (((wF s lob f k) ((s (ix k 3)).toNat) + (((s (ix k 4)).toNat) * (s (ix k 1)).toNat)))) 3)), .int (jI 3), .ref (b 1)]) rfl ?_
          refine V.sk (st' := [.int (jI ((3 : Int))), .int (jI ((k : Int))), .ref (h 0), .float (fB ((upN (wF s lob f k) ((s (ix k 3)).toNat) (((wF s lob f k) ((s (ix k 3)).toNat) + (((s (ix k 4)).toNat) * (s (ix k 1)).toNat)))) 3)), .int (jI 3), .ref (b 1)]) (congrArg (fun z : Int => [Value.int (jI ((3 : Int))), Value.int (jI z), Value.ref (h 0), Value.float (fB ((upN (wF s lob f k) ((s (ix k 3)).toNat) (((wF s lob f k) ((s (ix k 3)).toNat) + (((s (ix k 4)).toNat) * (s (ix k 1)).toNat)))) 3)), Value.int (jI 3), Value.ref (b 1)]) (show i = (k : Int) by omega)) ?_
          refine V_cVN (st := [.float (fB ((upN (wF s lob f k) ((s (ix k 3)).toNat) (((wF s lob f k) ((s (ix k 3)).toNat) + (((s (ix k 4)).toNat) * (s (ix k 1)).toNat)))) 3)), .int (jI 3), .ref (b 1)]) (v := .float (fB (4 * (lobN s k 3)))) (w' := hB G h s ++ bB G b lob (upN (upN (upN (upN (wF s lob f k) ((s (ix k 3)).toNat) (((wF s lob f k) ((s (ix k 3)).toNat) + (((s (ix k 4)).toNat) * (s (ix k 1)).toNat)))) 0 (((upN (wF s lob f k) ((s (ix k 3)).toNat) (((wF s lob f k) ((s (ix k 3)).toNat) + (((s (ix k 4)).toNat) * (s (ix k 1)).toNat)))) 0 + (4 * (lobN s k 0))))) 1 (((upN (wF s lob f k) ((s (ix k 3)).toNat) (((wF s lob f k) ((s (ix k 3)).toNat) + (((s (ix k 4)).toNat) * (s (ix k 1)).toNat)))) 1 + (4 * (lobN s k 1))))) 2 (((upN (wF s lob f k) ((s (ix k 3)).toNat) (((wF s lob f k) ((s (ix k 3)).toNat) + (((s (ix k 4)).toNat) * (s (ix k 1)).toNat)))) 2 + (4 * (lobN s k 2))))) vf) hX wc_X0_42 (c_X1_lobbyFor l G h s t k 3 hI (by omega) (by omega)) (by decide) (by decide) rfl rfl (Nat.le_of_ble_eq_true rfl) dX0_weigh_98 [] (bB G b lob (upN (upN (upN (upN (wF s lob f k) ((s (ix k 3)).toNat) (((wF s lob f k) ((s (ix k 3)).toNat) + (((s (ix k 4)).toNat) * (s (ix k 1)).toNat)))) 0 (((upN (wF s lob f k) ((s (ix k 3)).toNat) (((wF s lob f k) ((s (ix k 3)).toNat) + (((s (ix k 4)).toNat) * (s (ix k 1)).toNat)))) 0 + (4 * (lobN s k 0))))) 1 (((upN (wF s lob f k) ((s (ix k 3)).toNat) (((wF s lob f k) ((s (ix k 3)).toNat) + (((s (ix k 4)).toNat) * (s (ix k 1)).toNat)))) 1 + (4 * (lobN s k 1))))) 2 (((upN (wF s lob f k) ((s (ix k 3)).toNat) (((wF s lob f k) ((s (ix k 3)).toNat) + (((s (ix k 4)).toNat) * (s (ix k 1)).toNat)))) 2 + (4 * (lobN s k 2))))) vf) (by simp only [List.append_assoc, List.nil_append, List.append_nil]) 0 rfl rfl (by simp only [List.append_assoc, List.nil_append, List.append_nil]) rfl rfl ?_
          refine V_fadd (r := fB ((upN (wF s lob f k) ((s (ix k 3)).toNat) (((wF s lob f k) ((s (ix k 3)).toNat) + (((s (ix k 4)).toNat) * (s (ix k 1)).toNat)))) 3 + (4 * (lobN s k 3)))) hX dX0_weigh_101 (fB_add (by omega)) (fB_vf (by omega)) ?_
          refine V_fast (i0 := 3) (w' := hB G h s ++ bB G b lob (upN (upN (upN (upN (upN (wF s lob f k) ((s (ix k 3)).toNat) (((wF s lob f k) ((s (ix k 3)).toNat) + (((s (ix k 4)).toNat) * (s (ix k 1)).toNat)))) 0 (((upN (wF s lob f k) ((s (ix k 3)).toNat) (((wF s lob f k) ((s (ix k 3)).toNat) + (((s (ix k 4)).toNat) * (s (ix k 1)).toNat)))) 0 + (4 * (lobN s k 0))))) 1 (((upN (wF s lob f k) ((s (ix k 3)).toNat) (((wF s lob f k) ((s (ix k 3)).toNat) + (((s (ix k 4)).toNat) * (s (ix k 1)).toNat)))) 1 + (4 * (lobN s k 1))))) 2 (((upN (wF s lob f k) ((s (ix k 3)).toNat) (((wF s lob f k) ((s (ix k 3)).toNat) + (((s (ix k 4)).toNat) * (s (ix k 1)).toNat)))) 2 + (4 * (lobN s k 2))))) 3 (((upN (wF s lob f k) ((s (ix k 3)).toNat) (((wF s lob f k) ((s (ix k 3)).toNat) + (((s (ix k 4)).toNat) * (s (ix k 1)).toNat)))) 3 + (4 * (lobN s k 3))))) vf) hX 12 rfl (by decide) (by decide) (by decide) rfl dX0_weigh_102 (set_r rfl (bB_w G _ _ _ _ _ _)) ?_
          refine V_iinc (b := 4) (lv' := [(4, .int (jI 4)), (3, .int (jI i)), (0, .ref (b 0)), (1, .ref (h 0)), (2, .int (jI f))]) hX dX0_weigh_103 0 rfl rfl (by decide) rfl ?_
          refine V_goto (tgt := 73) hX dX0_weigh_106 (by decide) ?_
          refine V_aload_n hX dX0_weigh_73 2 rfl ?_
          refine V_get (v := .int (jI (bI (lob = true)))) hX cbX0 0 11 (by decide) wf_X0_19 rfl rfl rfl rfl dX0_weigh_74 ?_
          refine V_ifz (tgt := 109) hX dX0_weigh_77 (by decide) (fun c_17 => absurd c_9 c_17) (fun c_17 => ?_)
          refine V_iload hX dX0_weigh_80 0 rfl ?_
          refine V_iconst hX dX0_weigh_82 ?_
          refine V_icmp_ge (tgt := 109) hX dX0_weigh_83 (by decide) (by decide) (by decide) (fun c_18 => ?_) (fun c_18 => absurd c_18 (by decide))
          refine V.perm (w' := bB G b lob (upN (upN (upN (upN (upN (wF s lob f k) ((s (ix k 3)).toNat) (((wF s lob f k) ((s (ix k 3)).toNat) + (((s (ix k 4)).toNat) * (s (ix k 1)).toNat)))) 0 (((upN (wF s lob f k) ((s (ix k 3)).toNat) (((wF s lob f k) ((s (ix k 3)).toNat) + (((s (ix k 4)).toNat) * (s (ix k 1)).toNat)))) 0 + (4 * (lobN s k 0))))) 1 (((upN (wF s lob f k) ((s (ix k 3)).toNat) (((wF s lob f k) ((s (ix k 3)).toNat) + (((s (ix k 4)).toNat) * (s (ix k 1)).toNat)))) 1 + (4 * (lobN s k 1))))) 2 (((upN (wF s lob f k) ((s (ix k 3)).toNat) (((wF s lob f k) ((s (ix k 3)).toNat) + (((s (ix k 4)).toNat) * (s (ix k 1)).toNat)))) 2 + (4 * (lobN s k 2))))) 3 (((upN (wF s lob f k) ((s (ix k 3)).toNat) (((wF s lob f k) ((s (ix k 3)).toNat) + (((s (ix k 4)).toNat) * (s (ix k 1)).toNat)))) 3 + (4 * (lobN s k 3))))) vf ++ hB G h s) (List.perm_append_comm (l₁ := hB G h s) (l₂ := bB G b lob (upN (upN (upN (upN (upN (wF s lob f k) ((s (ix k 3)).toNat) (((wF s lob f k) ((s (ix k 3)).toNat) + (((s (ix k 4)).toNat) * (s (ix k 1)).toNat)))) 0 (((upN (wF s lob f k) ((s (ix k 3)).toNat) (((wF s lob f k) ((s (ix k 3)).toNat) + (((s (ix k 4)).toNat) * (s (ix k 1)).toNat)))) 0 + (4 * (lobN s k 0))))) 1 (((upN (wF s lob f k) ((s (ix k 3)).toNat) (((wF s lob f k) ((s (ix k 3)).toNat) + (((s (ix k 4)).toNat) * (s (ix k 1)).toNat)))) 1 + (4 * (lobN s k 1))))) 2 (((upN (wF s lob f k) ((s (ix k 3)).toNat) (((wF s lob f k) ((s (ix k 3)).toNat) + (((s (ix k 4)).toNat) * (s (ix k 1)).toNat)))) 2 + (4 * (lobN s k 2))))) 3 (((upN (wF s lob f k) ((s (ix k 3)).toNat) (((wF s lob f k) ((s (ix k 3)).toNat) + (((s (ix k 4)).toNat) * (s (ix k 1)).toNat)))) 3 + (4 * (lobN s k 3))))) vf)) ?_
          refine V.fnf hX 1 (g := bW (wF s lob f (k + 1))) (w' := bB G b lob (wF s lob f (k + 1)) vf ++ hB G h s) rfl (fun j hj => by first | exact wF_skip (by assumption) j | exact wF_q (by assumption) (by assumption) (by omega) rfl j hj | exact wF_l (by assumption) (by assumption) (by omega) rfl rfl rfl rfl rfl j hj) rfl ?_
          refine V_iinc (b := i + 1) (lv' := [(3, .int (jI (i + 1))), (4, .int (jI 4)), (0, .ref (b 0)), (1, .ref (h 0)), (2, .int (jI f))]) hX dX0_weigh_109 1 rfl rfl (by decide) rfl ?_
          refine V_goto (tgt := 22) hX dX0_weigh_112 (by decide) ?_
          refine V.sub [0, 2, 3, 4] rfl ?_
          exact ih (by omega) _ (by omega)
      · refine V_goto (tgt := 109) hX dX0_weigh_40 (by decide) ?_
        refine V.fnf hX 1 (g := bW (wF s lob f (k + 1))) (w' := bB G b lob (wF s lob f (k + 1)) vf ++ hB G h s) rfl (fun j hj => by first | exact wF_skip (by assumption) j | exact wF_q (by assumption) (by assumption) (by omega) rfl j hj | exact wF_l (by assumption) (by assumption) (by omega) rfl rfl rfl rfl rfl j hj) rfl ?_
        refine V_iinc (b := i + 1) (lv' := [(3, .int (jI (i + 1))), (0, .ref (b 0)), (1, .ref (h 0)), (2, .int (jI f))]) hX dX0_weigh_109 0 rfl rfl (by decide) rfl ?_
        refine V_goto (tgt := 22) hX dX0_weigh_112 (by decide) ?_
        refine V.sub [0, 1, 2, 3] rfl ?_
        exact ih (by omega) _ (by omega)
  refine V.sub [0, 1, 2, 3] rfl ?_
  exact L22_q_6 0 (Nat.zero_le _) 0 rfl

set_option maxHeartbeats 4000000 in
set_option maxRecDepth 100000 in
theorem c_X0_lowestOf (l : Launch) (G : vC) (b : Nat → Nat) (lob : Bool) (W : Nat → Nat) (vf : Nat → Int) (g : Nat) (hW : ∀ w, w < 4 → W w ≤ 8000) (hg : g ≤ 8000) : Fn l G yX0_lowestOf cX0_lowestOf 3 (some .int) ({ frames := 0, cells := 0, slots := 0, locals := 0 } : Room) [.ref (b 0), .float (fB g)] (bB G b lob W vf) (some (.int (jI (loW W g)))) (bB G b lob W vf) := by
  refine Ct.of (by decide) (Nat.le_of_ble_eq_true rfl) (fun X hX hR => ?_)
  refine V.toLv (lv' := [(0, .ref (b 0)), (1, .float (fB g))]) rfl ?_
  have hW0 := hW 0 (by decide)
  have hW1 := hW 1 (by decide)
  have hW2 := hW 2 (by decide)
  have hW3 := hW 3 (by decide)
  refine V_iconst hX dX0_lowestOf_0 ?_
  refine V_istore_n (i := 2) (lv' := [(2, .int (jI 0)), (0, .ref (b 0)), (1, .float (fB g))]) hX dX0_lowestOf_1 rfl (by decide) rfl ?_
  refine V_iload_n hX dX0_lowestOf_2 0 rfl ?_
  refine V_iconst hX dX0_lowestOf_3 ?_
  refine V_icmp_ge (tgt := 26) hX dX0_lowestOf_4 (by decide) (by decide) (by decide) (fun c_1 => absurd c_1 (by decide)) (fun c_1 => ?_)
  refine V_aload_n hX dX0_lowestOf_7 1 rfl ?_
  refine V_get (v := .ref (b 1)) hX cbX0 1 0 (by decide) wf_X0_9 rfl rfl rfl rfl dX0_lowestOf_8 ?_
  refine V_iload_n hX dX0_lowestOf_11 0 rfl ?_
  refine V_fald (i0 := 0) (r := (fB (W 0))) hX 1 rfl (by decide) (by decide) (by decide) rfl rfl dX0_lowestOf_12 ?_
  refine V_fload_n hX dX0_lowestOf_13 2 rfl ?_
  have hc_2 := cmpI_spec (W 0) (g)
  refine V_fcmp (r := jI (cmpI (W 0) (g))) hX dX0_lowestOf_14 (fB_cmpI (by omega) (by omega)) ?_
  refine V_if_ne (tgt := 20) hX dX0_lowestOf_15 (by decide) (by omega) (fun c_3 => ?_) (fun c_3 => ?_)
  · refine V_iinc (b := 1) (lv' := [(2, .int (jI 1)), (0, .ref (b 0)), (1, .float (fB g))]) hX dX0_lowestOf_20 0 rfl rfl (by decide) rfl ?_
    refine V_goto (tgt := 2) hX dX0_lowestOf_23 (by decide) ?_
    refine V_iload_n hX dX0_lowestOf_2 0 rfl ?_
    refine V_iconst hX dX0_lowestOf_3 ?_
    refine V_icmp_ge (tgt := 26) hX dX0_lowestOf_4 (by decide) (by decide) (by decide) (fun c_4 => absurd c_4 (by decide)) (fun c_4 => ?_)
    refine V_aload_n hX dX0_lowestOf_7 1 rfl ?_
    refine V_get (v := .ref (b 1)) hX cbX0 1 0 (by decide) wf_X0_9 rfl rfl rfl rfl dX0_lowestOf_8 ?_
    refine V_iload_n hX dX0_lowestOf_11 0 rfl ?_
    refine V_fald (i0 := 1) (r := (fB (W 1))) hX 1 rfl (by decide) (by decide) (by decide) rfl rfl dX0_lowestOf_12 ?_
    refine V_fload_n hX dX0_lowestOf_13 2 rfl ?_
    have hc_5 := cmpI_spec (W 1) (g)
    refine V_fcmp (r := jI (cmpI (W 1) (g))) hX dX0_lowestOf_14 (fB_cmpI (by omega) (by omega)) ?_
    refine V_if_ne (tgt := 20) hX dX0_lowestOf_15 (by decide) (by omega) (fun c_6 => ?_) (fun c_6 => ?_)
    · refine V_iinc (b := 2) (lv' := [(2, .int (jI 2)), (0, .ref (b 0)), (1, .float (fB g))]) hX dX0_lowestOf_20 0 rfl rfl (by decide) rfl ?_
      refine V_goto (tgt := 2) hX dX0_lowestOf_23 (by decide) ?_
      refine V_iload_n hX dX0_lowestOf_2 0 rfl ?_
      refine V_iconst hX dX0_lowestOf_3 ?_
      refine V_icmp_ge (tgt := 26) hX dX0_lowestOf_4 (by decide) (by decide) (by decide) (fun c_7 => absurd c_7 (by decide)) (fun c_7 => ?_)
      refine V_aload_n hX dX0_lowestOf_7 1 rfl ?_
      refine V_get (v := .ref (b 1)) hX cbX0 1 0 (by decide) wf_X0_9 rfl rfl rfl rfl dX0_lowestOf_8 ?_
      refine V_iload_n hX dX0_lowestOf_11 0 rfl ?_
      refine V_fald (i0 := 2) (r := (fB (W 2))) hX 1 rfl (by decide) (by decide) (by decide) rfl rfl dX0_lowestOf_12 ?_
      refine V_fload_n hX dX0_lowestOf_13 2 rfl ?_
      have hc_8 := cmpI_spec (W 2) (g)
      refine V_fcmp (r := jI (cmpI (W 2) (g))) hX dX0_lowestOf_14 (fB_cmpI (by omega) (by omega)) ?_
      refine V_if_ne (tgt := 20) hX dX0_lowestOf_15 (by decide) (by omega) (fun c_9 => ?_) (fun c_9 => ?_)
      · refine V_iinc (b := 3) (lv' := [(2, .int (jI 3)), (0, .ref (b 0)), (1, .float (fB g))]) hX dX0_lowestOf_20 0 rfl rfl (by decide) rfl ?_
        refine V_goto (tgt := 2) hX dX0_lowestOf_23 (by decide) ?_
        refine V_iload_n hX dX0_lowestOf_2 0 rfl ?_
        refine V_iconst hX dX0_lowestOf_3 ?_
        refine V_icmp_ge (tgt := 26) hX dX0_lowestOf_4 (by decide) (by decide) (by decide) (fun c_10 => absurd c_10 (by decide)) (fun c_10 => ?_)
        refine V_aload_n hX dX0_lowestOf_7 1 rfl ?_
        refine V_get (v := .ref (b 1)) hX cbX0 1 0 (by decide) wf_X0_9 rfl rfl rfl rfl dX0_lowestOf_8 ?_
        refine V_iload_n hX dX0_lowestOf_11 0 rfl ?_
        refine V_fald (i0 := 3) (r := (fB (W 3))) hX 1 rfl (by decide) (by decide) (by decide) rfl rfl dX0_lowestOf_12 ?_
        refine V_fload_n hX dX0_lowestOf_13 2 rfl ?_
        have hc_11 := cmpI_spec (W 3) (g)
        refine V_fcmp (r := jI (cmpI (W 3) (g))) hX dX0_lowestOf_14 (fB_cmpI (by omega) (by omega)) ?_
        refine V_if_ne (tgt := 20) hX dX0_lowestOf_15 (by decide) (by omega) (fun c_12 => ?_) (fun c_12 => ?_)
        · refine V_iinc (b := 4) (lv' := [(2, .int (jI 4)), (0, .ref (b 0)), (1, .float (fB g))]) hX dX0_lowestOf_20 0 rfl rfl (by decide) rfl ?_
          refine V_goto (tgt := 2) hX dX0_lowestOf_23 (by decide) ?_
          refine V_iload_n hX dX0_lowestOf_2 0 rfl ?_
          refine V_iconst hX dX0_lowestOf_3 ?_
          refine V_icmp_ge (tgt := 26) hX dX0_lowestOf_4 (by decide) (by decide) (by decide) (fun c_13 => ?_) (fun c_13 => absurd c_13 (by decide))
          refine V_bipush hX dX0_lowestOf_26 (by decide) ?_
          exact V_iret hX hR dX0_lowestOf_28 ⟨(congrArg (fun z => some (Value.int (jI z))) (by unfold loW; (repeat' split) <;> omega)), rfl⟩
        · refine V_iload_n hX dX0_lowestOf_18 0 rfl ?_
          exact V_iret hX hR dX0_lowestOf_19 ⟨(congrArg (fun z => some (Value.int (jI z))) (by unfold loW; (repeat' split) <;> omega)), rfl⟩
      · refine V_iload_n hX dX0_lowestOf_18 0 rfl ?_
        exact V_iret hX hR dX0_lowestOf_19 ⟨(congrArg (fun z => some (Value.int (jI z))) (by unfold loW; (repeat' split) <;> omega)), rfl⟩
    · refine V_iload_n hX dX0_lowestOf_18 0 rfl ?_
      exact V_iret hX hR dX0_lowestOf_19 ⟨(congrArg (fun z => some (Value.int (jI z))) (by unfold loW; (repeat' split) <;> omega)), rfl⟩
  · refine V_iload_n hX dX0_lowestOf_18 0 rfl ?_
    exact V_iret hX hR dX0_lowestOf_19 ⟨(congrArg (fun z => some (Value.int (jI z))) (by unfold loW; (repeat' split) <;> omega)), rfl⟩

set_option maxHeartbeats 4000000 in
set_option maxRecDepth 100000 in
theorem c_X0_howManyOf (l : Launch) (G : vC) (b : Nat → Nat) (lob : Bool) (W : Nat → Nat) (vf : Nat → Int) (g : Nat) (hW : ∀ w, w < 4 → W w ≤ 8000) (hg : g ≤ 8000) : Fn l G yX0_howManyOf cX0_howManyOf 4 (some .int) ({ frames := 0, cells := 0, slots := 0, locals := 0 } : Room) [.ref (b 0), .float (fB g)] (bB G b lob W vf) (some (.int (jI (hmW W g)))) (bB G b lob W vf) := by
  refine Ct.of (by decide) (Nat.le_of_ble_eq_true rfl) (fun X hX hR => ?_)
  refine V.toLv (lv' := [(0, .ref (b 0)), (1, .float (fB g))]) rfl ?_
  have hW0 := hW 0 (by decide)
  have hW1 := hW 1 (by decide)
  have hW2 := hW 2 (by decide)
  have hW3 := hW 3 (by decide)
  refine V_iconst hX dX0_howManyOf_0 ?_
  refine V_istore_n (i := 2) (lv' := [(2, .int (jI 0)), (0, .ref (b 0)), (1, .float (fB g))]) hX dX0_howManyOf_1 rfl (by decide) rfl ?_
  refine V_iconst hX dX0_howManyOf_2 ?_
  refine V_istore_n (i := 3) (lv' := [(3, .int (jI 0)), (2, .int (jI 0)), (0, .ref (b 0)), (1, .float (fB g))]) hX dX0_howManyOf_3 rfl (by decide) rfl ?_
  refine V_iload_n hX dX0_howManyOf_4 0 rfl ?_
  refine V_iconst hX dX0_howManyOf_5 ?_
  refine V_icmp_ge (tgt := 29) hX dX0_howManyOf_6 (by decide) (by decide) (by decide) (fun c_1 => absurd c_1 (by decide)) (fun c_1 => ?_)
  refine V_aload_n hX dX0_howManyOf_9 2 rfl ?_
  refine V_get (v := .ref (b 1)) hX cbX0 1 0 (by decide) wf_X0_9 rfl rfl rfl rfl dX0_howManyOf_10 ?_
  refine V_iload_n hX dX0_howManyOf_13 0 rfl ?_
  refine V_fald (i0 := 0) (r := (fB (W 0))) hX 1 rfl (by decide) (by decide) (by decide) rfl rfl dX0_howManyOf_14 ?_
  refine V_fload_n hX dX0_howManyOf_15 3 rfl ?_
  have hc_2 := cmpI_spec (W 0) (g)
  refine V_fcmp (r := jI (cmpI (W 0) (g))) hX dX0_howManyOf_16 (fB_cmpI (by omega) (by omega)) ?_
  refine V_if_ne (tgt := 23) hX dX0_howManyOf_17 (by decide) (by omega) (fun c_3 => ?_) (fun c_3 => ?_)
  · refine V_iinc (b := 1) (lv' := [(3, .int (jI 1)), (2, .int (jI 0)), (0, .ref (b 0)), (1, .float (fB g))]) hX dX0_howManyOf_23 0 rfl rfl (by decide) rfl ?_
    refine V_goto (tgt := 4) hX dX0_howManyOf_26 (by decide) ?_
    refine V_iload_n hX dX0_howManyOf_4 0 rfl ?_
    refine V_iconst hX dX0_howManyOf_5 ?_
    refine V_icmp_ge (tgt := 29) hX dX0_howManyOf_6 (by decide) (by decide) (by decide) (fun c_4 => absurd c_4 (by decide)) (fun c_4 => ?_)
    refine V_aload_n hX dX0_howManyOf_9 2 rfl ?_
    refine V_get (v := .ref (b 1)) hX cbX0 1 0 (by decide) wf_X0_9 rfl rfl rfl rfl dX0_howManyOf_10 ?_
    refine V_iload_n hX dX0_howManyOf_13 0 rfl ?_
    refine V_fald (i0 := 1) (r := (fB (W 1))) hX 1 rfl (by decide) (by decide) (by decide) rfl rfl dX0_howManyOf_14 ?_
    refine V_fload_n hX dX0_howManyOf_15 3 rfl ?_
    have hc_5 := cmpI_spec (W 1) (g)
    refine V_fcmp (r := jI (cmpI (W 1) (g))) hX dX0_howManyOf_16 (fB_cmpI (by omega) (by omega)) ?_
    refine V_if_ne (tgt := 23) hX dX0_howManyOf_17 (by decide) (by omega) (fun c_6 => ?_) (fun c_6 => ?_)
    · refine V_iinc (b := 2) (lv' := [(3, .int (jI 2)), (2, .int (jI 0)), (0, .ref (b 0)), (1, .float (fB g))]) hX dX0_howManyOf_23 0 rfl rfl (by decide) rfl ?_
      refine V_goto (tgt := 4) hX dX0_howManyOf_26 (by decide) ?_
      refine V_iload_n hX dX0_howManyOf_4 0 rfl ?_
      refine V_iconst hX dX0_howManyOf_5 ?_
      refine V_icmp_ge (tgt := 29) hX dX0_howManyOf_6 (by decide) (by decide) (by decide) (fun c_7 => absurd c_7 (by decide)) (fun c_7 => ?_)
      refine V_aload_n hX dX0_howManyOf_9 2 rfl ?_
      refine V_get (v := .ref (b 1)) hX cbX0 1 0 (by decide) wf_X0_9 rfl rfl rfl rfl dX0_howManyOf_10 ?_
      refine V_iload_n hX dX0_howManyOf_13 0 rfl ?_
      refine V_fald (i0 := 2) (r := (fB (W 2))) hX 1 rfl (by decide) (by decide) (by decide) rfl rfl dX0_howManyOf_14 ?_
      refine V_fload_n hX dX0_howManyOf_15 3 rfl ?_
      have hc_8 := cmpI_spec (W 2) (g)
      refine V_fcmp (r := jI (cmpI (W 2) (g))) hX dX0_howManyOf_16 (fB_cmpI (by omega) (by omega)) ?_
      refine V_if_ne (tgt := 23) hX dX0_howManyOf_17 (by decide) (by omega) (fun c_9 => ?_) (fun c_9 => ?_)
      · refine V_iinc (b := 3) (lv' := [(3, .int (jI 3)), (2, .int (jI 0)), (0, .ref (b 0)), (1, .float (fB g))]) hX dX0_howManyOf_23 0 rfl rfl (by decide) rfl ?_
        refine V_goto (tgt := 4) hX dX0_howManyOf_26 (by decide) ?_
        refine V_iload_n hX dX0_howManyOf_4 0 rfl ?_
        refine V_iconst hX dX0_howManyOf_5 ?_
        refine V_icmp_ge (tgt := 29) hX dX0_howManyOf_6 (by decide) (by decide) (by decide) (fun c_10 => absurd c_10 (by decide)) (fun c_10 => ?_)
        refine V_aload_n hX dX0_howManyOf_9 2 rfl ?_
        refine V_get (v := .ref (b 1)) hX cbX0 1 0 (by decide) wf_X0_9 rfl rfl rfl rfl dX0_howManyOf_10 ?_
        refine V_iload_n hX dX0_howManyOf_13 0 rfl ?_
        refine V_fald (i0 := 3) (r := (fB (W 3))) hX 1 rfl (by decide) (by decide) (by decide) rfl rfl dX0_howManyOf_14 ?_
        refine V_fload_n hX dX0_howManyOf_15 3 rfl ?_
        have hc_11 := cmpI_spec (W 3) (g)
        refine V_fcmp (r := jI (cmpI (W 3) (g))) hX dX0_howManyOf_16 (fB_cmpI (by omega) (by omega)) ?_
        refine V_if_ne (tgt := 23) hX dX0_howManyOf_17 (by decide) (by omega) (fun c_12 => ?_) (fun c_12 => ?_)
        · refine V_iinc (b := 4) (lv' := [(3, .int (jI 4)), (2, .int (jI 0)), (0, .ref (b 0)), (1, .float (fB g))]) hX dX0_howManyOf_23 0 rfl rfl (by decide) rfl ?_
          refine V_goto (tgt := 4) hX dX0_howManyOf_26 (by decide) ?_
          refine V_iload_n hX dX0_howManyOf_4 0 rfl ?_
          refine V_iconst hX dX0_howManyOf_5 ?_
          refine V_icmp_ge (tgt := 29) hX dX0_howManyOf_6 (by decide) (by decide) (by decide) (fun c_13 => ?_) (fun c_13 => absurd c_13 (by decide))
          refine V_iload_n hX dX0_howManyOf_29 1 rfl ?_
          exact V_iret hX hR dX0_howManyOf_30 ⟨(congrArg (fun z => some (Value.int (jI z))) (by unfold hmW; (repeat' split) <;> omega)), rfl⟩
        · refine V_iinc (b := 1) (lv' := [(2, .int (jI 1)), (3, .int (jI 3)), (0, .ref (b 0)), (1, .float (fB g))]) hX dX0_howManyOf_20 1 rfl rfl (by decide) rfl ?_
          refine V_iinc (b := 4) (lv' := [(3, .int (jI 4)), (2, .int (jI 1)), (0, .ref (b 0)), (1, .float (fB g))]) hX dX0_howManyOf_23 1 rfl rfl (by decide) rfl ?_
          refine V_goto (tgt := 4) hX dX0_howManyOf_26 (by decide) ?_
          refine V_iload_n hX dX0_howManyOf_4 0 rfl ?_
          refine V_iconst hX dX0_howManyOf_5 ?_
          refine V_icmp_ge (tgt := 29) hX dX0_howManyOf_6 (by decide) (by decide) (by decide) (fun c_14 => ?_) (fun c_14 => absurd c_14 (by decide))
          refine V_iload_n hX dX0_howManyOf_29 1 rfl ?_
          exact V_iret hX hR dX0_howManyOf_30 ⟨(congrArg (fun z => some (Value.int (jI z))) (by unfold hmW; (repeat' split) <;> omega)), rfl⟩
      · refine V_iinc (b := 1) (lv' := [(2, .int (jI 1)), (3, .int (jI 2)), (0, .ref (b 0)), (1, .float (fB g))]) hX dX0_howManyOf_20 1 rfl rfl (by decide) rfl ?_
        refine V_iinc (b := 3) (lv' := [(3, .int (jI 3)), (2, .int (jI 1)), (0, .ref (b 0)), (1, .float (fB g))]) hX dX0_howManyOf_23 1 rfl rfl (by decide) rfl ?_
        refine V_goto (tgt := 4) hX dX0_howManyOf_26 (by decide) ?_
        refine V_iload_n hX dX0_howManyOf_4 0 rfl ?_
        refine V_iconst hX dX0_howManyOf_5 ?_
        refine V_icmp_ge (tgt := 29) hX dX0_howManyOf_6 (by decide) (by decide) (by decide) (fun c_15 => absurd c_15 (by decide)) (fun c_15 => ?_)
        refine V_aload_n hX dX0_howManyOf_9 2 rfl ?_
        refine V_get (v := .ref (b 1)) hX cbX0 1 0 (by decide) wf_X0_9 rfl rfl rfl rfl dX0_howManyOf_10 ?_
        refine V_iload_n hX dX0_howManyOf_13 0 rfl ?_
        refine V_fald (i0 := 3) (r := (fB (W 3))) hX 1 rfl (by decide) (by decide) (by decide) rfl rfl dX0_howManyOf_14 ?_
        refine V_fload_n hX dX0_howManyOf_15 3 rfl ?_
        have hc_16 := cmpI_spec (W 3) (g)
        refine V_fcmp (r := jI (cmpI (W 3) (g))) hX dX0_howManyOf_16 (fB_cmpI (by omega) (by omega)) ?_
        refine V_if_ne (tgt := 23) hX dX0_howManyOf_17 (by decide) (by omega) (fun c_17 => ?_) (fun c_17 => ?_)
        · refine V_iinc (b := 4) (lv' := [(3, .int (jI 4)), (2, .int (jI 1)), (0, .ref (b 0)), (1, .float (fB g))]) hX dX0_howManyOf_23 0 rfl rfl (by decide) rfl ?_
          refine V_goto (tgt := 4) hX dX0_howManyOf_26 (by decide) ?_
          refine V_iload_n hX dX0_howManyOf_4 0 rfl ?_
          refine V_iconst hX dX0_howManyOf_5 ?_
          refine V_icmp_ge (tgt := 29) hX dX0_howManyOf_6 (by decide) (by decide) (by decide) (fun c_18 => ?_) (fun c_18 => absurd c_18 (by decide))
          refine V_iload_n hX dX0_howManyOf_29 1 rfl ?_
          exact V_iret hX hR dX0_howManyOf_30 ⟨(congrArg (fun z => some (Value.int (jI z))) (by unfold hmW; (repeat' split) <;> omega)), rfl⟩
        · refine V_iinc (b := 2) (lv' := [(2, .int (jI 2)), (3, .int (jI 3)), (0, .ref (b 0)), (1, .float (fB g))]) hX dX0_howManyOf_20 1 rfl rfl (by decide) rfl ?_
          refine V_iinc (b := 4) (lv' := [(3, .int (jI 4)), (2, .int (jI 2)), (0, .ref (b 0)), (1, .float (fB g))]) hX dX0_howManyOf_23 1 rfl rfl (by decide) rfl ?_
          refine V_goto (tgt := 4) hX dX0_howManyOf_26 (by decide) ?_
          refine V_iload_n hX dX0_howManyOf_4 0 rfl ?_
          refine V_iconst hX dX0_howManyOf_5 ?_
          refine V_icmp_ge (tgt := 29) hX dX0_howManyOf_6 (by decide) (by decide) (by decide) (fun c_19 => ?_) (fun c_19 => absurd c_19 (by decide))
          refine V_iload_n hX dX0_howManyOf_29 1 rfl ?_
          exact V_iret hX hR dX0_howManyOf_30 ⟨(congrArg (fun z => some (Value.int (jI z))) (by unfold hmW; (repeat' split) <;> omega)), rfl⟩
    · refine V_iinc (b := 1) (lv' := [(2, .int (jI 1)), (3, .int (jI 1)), (0, .ref (b 0)), (1, .float (fB g))]) hX dX0_howManyOf_20 1 rfl rfl (by decide) rfl ?_
      refine V_iinc (b := 2) (lv' := [(3, .int (jI 2)), (2, .int (jI 1)), (0, .ref (b 0)), (1, .float (fB g))]) hX dX0_howManyOf_23 1 rfl rfl (by decide) rfl ?_
      refine V_goto (tgt := 4) hX dX0_howManyOf_26 (by decide) ?_
      refine V_iload_n hX dX0_howManyOf_4 0 rfl ?_
      refine V_iconst hX dX0_howManyOf_5 ?_
      refine V_icmp_ge (tgt := 29) hX dX0_howManyOf_6 (by decide) (by decide) (by decide) (fun c_20 => absurd c_20 (by decide)) (fun c_20 => ?_)
      refine V_aload_n hX dX0_howManyOf_9 2 rfl ?_
      refine V_get (v := .ref (b 1)) hX cbX0 1 0 (by decide) wf_X0_9 rfl rfl rfl rfl dX0_howManyOf_10 ?_
      refine V_iload_n hX dX0_howManyOf_13 0 rfl ?_
      refine V_fald (i0 := 2) (r := (fB (W 2))) hX 1 rfl (by decide) (by decide) (by decide) rfl rfl dX0_howManyOf_14 ?_
      refine V_fload_n hX dX0_howManyOf_15 3 rfl ?_
      have hc_21 := cmpI_spec (W 2) (g)
      refine V_fcmp (r := jI (cmpI (W 2) (g))) hX dX0_howManyOf_16 (fB_cmpI (by omega) (by omega)) ?_
      refine V_if_ne (tgt := 23) hX dX0_howManyOf_17 (by decide) (by omega) (fun c_22 => ?_) (fun c_22 => ?_)
      · refine V_iinc (b := 3) (lv' := [(3, .int (jI 3)), (2, .int (jI 1)), (0, .ref (b 0)), (1, .float (fB g))]) hX dX0_howManyOf_23 0 rfl rfl (by decide) rfl ?_
        refine V_goto (tgt := 4) hX dX0_howManyOf_26 (by decide) ?_
        refine V_iload_n hX dX0_howManyOf_4 0 rfl ?_
        refine V_iconst hX dX0_howManyOf_5 ?_
        refine V_icmp_ge (tgt := 29) hX dX0_howManyOf_6 (by decide) (by decide) (by decide) (fun c_23 => absurd c_23 (by decide)) (fun c_23 => ?_)
        refine V_aload_n hX dX0_howManyOf_9 2 rfl ?_
        refine V_get (v := .ref (b 1)) hX cbX0 1 0 (by decide) wf_X0_9 rfl rfl rfl rfl dX0_howManyOf_10 ?_
        refine V_iload_n hX dX0_howManyOf_13 0 rfl ?_
        refine V_fald (i0 := 3) (r := (fB (W 3))) hX 1 rfl (by decide) (by decide) (by decide) rfl rfl dX0_howManyOf_14 ?_
        refine V_fload_n hX dX0_howManyOf_15 3 rfl ?_
        have hc_24 := cmpI_spec (W 3) (g)
        refine V_fcmp (r := jI (cmpI (W 3) (g))) hX dX0_howManyOf_16 (fB_cmpI (by omega) (by omega)) ?_
        refine V_if_ne (tgt := 23) hX dX0_howManyOf_17 (by decide) (by omega) (fun c_25 => ?_) (fun c_25 => ?_)
        · refine V_iinc (b := 4) (lv' := [(3, .int (jI 4)), (2, .int (jI 1)), (0, .ref (b 0)), (1, .float (fB g))]) hX dX0_howManyOf_23 0 rfl rfl (by decide) rfl ?_
          refine V_goto (tgt := 4) hX dX0_howManyOf_26 (by decide) ?_
          refine V_iload_n hX dX0_howManyOf_4 0 rfl ?_
          refine V_iconst hX dX0_howManyOf_5 ?_
          refine V_icmp_ge (tgt := 29) hX dX0_howManyOf_6 (by decide) (by decide) (by decide) (fun c_26 => ?_) (fun c_26 => absurd c_26 (by decide))
          refine V_iload_n hX dX0_howManyOf_29 1 rfl ?_
          exact V_iret hX hR dX0_howManyOf_30 ⟨(congrArg (fun z => some (Value.int (jI z))) (by unfold hmW; (repeat' split) <;> omega)), rfl⟩
        · refine V_iinc (b := 2) (lv' := [(2, .int (jI 2)), (3, .int (jI 3)), (0, .ref (b 0)), (1, .float (fB g))]) hX dX0_howManyOf_20 1 rfl rfl (by decide) rfl ?_
          refine V_iinc (b := 4) (lv' := [(3, .int (jI 4)), (2, .int (jI 2)), (0, .ref (b 0)), (1, .float (fB g))]) hX dX0_howManyOf_23 1 rfl rfl (by decide) rfl ?_
          refine V_goto (tgt := 4) hX dX0_howManyOf_26 (by decide) ?_
          refine V_iload_n hX dX0_howManyOf_4 0 rfl ?_
          refine V_iconst hX dX0_howManyOf_5 ?_
          refine V_icmp_ge (tgt := 29) hX dX0_howManyOf_6 (by decide) (by decide) (by decide) (fun c_27 => ?_) (fun c_27 => absurd c_27 (by decide))
          refine V_iload_n hX dX0_howManyOf_29 1 rfl ?_
          exact V_iret hX hR dX0_howManyOf_30 ⟨(congrArg (fun z => some (Value.int (jI z))) (by unfold hmW; (repeat' split) <;> omega)), rfl⟩
      · refine V_iinc (b := 2) (lv' := [(2, .int (jI 2)), (3, .int (jI 2)), (0, .ref (b 0)), (1, .float (fB g))]) hX dX0_howManyOf_20 1 rfl rfl (by decide) rfl ?_
        refine V_iinc (b := 3) (lv' := [(3, .int (jI 3)), (2, .int (jI 2)), (0, .ref (b 0)), (1, .float (fB g))]) hX dX0_howManyOf_23 1 rfl rfl (by decide) rfl ?_
        refine V_goto (tgt := 4) hX dX0_howManyOf_26 (by decide) ?_
        refine V_iload_n hX dX0_howManyOf_4 0 rfl ?_
        refine V_iconst hX dX0_howManyOf_5 ?_
        refine V_icmp_ge (tgt := 29) hX dX0_howManyOf_6 (by decide) (by decide) (by decide) (fun c_28 => absurd c_28 (by decide)) (fun c_28 => ?_)
        refine V_aload_n hX dX0_howManyOf_9 2 rfl ?_
        refine V_get (v := .ref (b 1)) hX cbX0 1 0 (by decide) wf_X0_9 rfl rfl rfl rfl dX0_howManyOf_10 ?_
        refine V_iload_n hX dX0_howManyOf_13 0 rfl ?_
        refine V_fald (i0 := 3) (r := (fB (W 3))) hX 1 rfl (by decide) (by decide) (by decide) rfl rfl dX0_howManyOf_14 ?_
        refine V_fload_n hX dX0_howManyOf_15 3 rfl ?_
        have hc_29 := cmpI_spec (W 3) (g)
        refine V_fcmp (r := jI (cmpI (W 3) (g))) hX dX0_howManyOf_16 (fB_cmpI (by omega) (by omega)) ?_
        refine V_if_ne (tgt := 23) hX dX0_howManyOf_17 (by decide) (by omega) (fun c_30 => ?_) (fun c_30 => ?_)
        · refine V_iinc (b := 4) (lv' := [(3, .int (jI 4)), (2, .int (jI 2)), (0, .ref (b 0)), (1, .float (fB g))]) hX dX0_howManyOf_23 0 rfl rfl (by decide) rfl ?_
          refine V_goto (tgt := 4) hX dX0_howManyOf_26 (by decide) ?_
          refine V_iload_n hX dX0_howManyOf_4 0 rfl ?_
          refine V_iconst hX dX0_howManyOf_5 ?_
          refine V_icmp_ge (tgt := 29) hX dX0_howManyOf_6 (by decide) (by decide) (by decide) (fun c_31 => ?_) (fun c_31 => absurd c_31 (by decide))
          refine V_iload_n hX dX0_howManyOf_29 1 rfl ?_
          exact V_iret hX hR dX0_howManyOf_30 ⟨(congrArg (fun z => some (Value.int (jI z))) (by unfold hmW; (repeat' split) <;> omega)), rfl⟩
        · refine V_iinc (b := 3) (lv' := [(2, .int (jI 3)), (3, .int (jI 3)), (0, .ref (b 0)), (1, .float (fB g))]) hX dX0_howManyOf_20 1 rfl rfl (by decide) rfl ?_
          refine V_iinc (b := 4) (lv' := [(3, .int (jI 4)), (2, .int (jI 3)), (0, .ref (b 0)), (1, .float (fB g))]) hX dX0_howManyOf_23 1 rfl rfl (by decide) rfl ?_
          refine V_goto (tgt := 4) hX dX0_howManyOf_26 (by decide) ?_
          refine V_iload_n hX dX0_howManyOf_4 0 rfl ?_
          refine V_iconst hX dX0_howManyOf_5 ?_
          refine V_icmp_ge (tgt := 29) hX dX0_howManyOf_6 (by decide) (by decide) (by decide) (fun c_32 => ?_) (fun c_32 => absurd c_32 (by decide))
          refine V_iload_n hX dX0_howManyOf_29 1 rfl ?_
          exact V_iret hX hR dX0_howManyOf_30 ⟨(congrArg (fun z => some (Value.int (jI z))) (by unfold hmW; (repeat' split) <;> omega)), rfl⟩
  · refine V_iinc (b := 1) (lv' := [(2, .int (jI 1)), (3, .int (jI 0)), (0, .ref (b 0)), (1, .float (fB g))]) hX dX0_howManyOf_20 1 rfl rfl (by decide) rfl ?_
    refine V_iinc (b := 1) (lv' := [(3, .int (jI 1)), (2, .int (jI 1)), (0, .ref (b 0)), (1, .float (fB g))]) hX dX0_howManyOf_23 1 rfl rfl (by decide) rfl ?_
    refine V_goto (tgt := 4) hX dX0_howManyOf_26 (by decide) ?_
    refine V_iload_n hX dX0_howManyOf_4 0 rfl ?_
    refine V_iconst hX dX0_howManyOf_5 ?_
    refine V_icmp_ge (tgt := 29) hX dX0_howManyOf_6 (by decide) (by decide) (by decide) (fun c_33 => absurd c_33 (by decide)) (fun c_33 => ?_)
    refine V_aload_n hX dX0_howManyOf_9 2 rfl ?_
    refine V_get (v := .ref (b 1)) hX cbX0 1 0 (by decide) wf_X0_9 rfl rfl rfl rfl dX0_howManyOf_10 ?_
    refine V_iload_n hX dX0_howManyOf_13 0 rfl ?_
    refine V_fald (i0 := 1) (r := (fB (W 1))) hX 1 rfl (by decide) (by decide) (by decide) rfl rfl dX0_howManyOf_14 ?_
    refine V_fload_n hX dX0_howManyOf_15 3 rfl ?_
    have hc_34 := cmpI_spec (W 1) (g)
    refine V_fcmp (r := jI (cmpI (W 1) (g))) hX dX0_howManyOf_16 (fB_cmpI (by omega) (by omega)) ?_
    refine V_if_ne (tgt := 23) hX dX0_howManyOf_17 (by decide) (by omega) (fun c_35 => ?_) (fun c_35 => ?_)
    · refine V_iinc (b := 2) (lv' := [(3, .int (jI 2)), (2, .int (jI 1)), (0, .ref (b 0)), (1, .float (fB g))]) hX dX0_howManyOf_23 0 rfl rfl (by decide) rfl ?_
      refine V_goto (tgt := 4) hX dX0_howManyOf_26 (by decide) ?_
      refine V_iload_n hX dX0_howManyOf_4 0 rfl ?_
      refine V_iconst hX dX0_howManyOf_5 ?_
      refine V_icmp_ge (tgt := 29) hX dX0_howManyOf_6 (by decide) (by decide) (by decide) (fun c_36 => absurd c_36 (by decide)) (fun c_36 => ?_)
      refine V_aload_n hX dX0_howManyOf_9 2 rfl ?_
      refine V_get (v := .ref (b 1)) hX cbX0 1 0 (by decide) wf_X0_9 rfl rfl rfl rfl dX0_howManyOf_10 ?_
      refine V_iload_n hX dX0_howManyOf_13 0 rfl ?_
      refine V_fald (i0 := 2) (r := (fB (W 2))) hX 1 rfl (by decide) (by decide) (by decide) rfl rfl dX0_howManyOf_14 ?_
      refine V_fload_n hX dX0_howManyOf_15 3 rfl ?_
      have hc_37 := cmpI_spec (W 2) (g)
      refine V_fcmp (r := jI (cmpI (W 2) (g))) hX dX0_howManyOf_16 (fB_cmpI (by omega) (by omega)) ?_
      refine V_if_ne (tgt := 23) hX dX0_howManyOf_17 (by decide) (by omega) (fun c_38 => ?_) (fun c_38 => ?_)
      · refine V_iinc (b := 3) (lv' := [(3, .int (jI 3)), (2, .int (jI 1)), (0, .ref (b 0)), (1, .float (fB g))]) hX dX0_howManyOf_23 0 rfl rfl (by decide) rfl ?_
        refine V_goto (tgt := 4) hX dX0_howManyOf_26 (by decide) ?_
        refine V_iload_n hX dX0_howManyOf_4 0 rfl ?_
        refine V_iconst hX dX0_howManyOf_5 ?_
        refine V_icmp_ge (tgt := 29) hX dX0_howManyOf_6 (by decide) (by decide) (by decide) (fun c_39 => absurd c_39 (by decide)) (fun c_39 => ?_)
        refine V_aload_n hX dX0_howManyOf_9 2 rfl ?_
        refine V_get (v := .ref (b 1)) hX cbX0 1 0 (by decide) wf_X0_9 rfl rfl rfl rfl dX0_howManyOf_10 ?_
        refine V_iload_n hX dX0_howManyOf_13 0 rfl ?_
        refine V_fald (i0 := 3) (r := (fB (W 3))) hX 1 rfl (by decide) (by decide) (by decide) rfl rfl dX0_howManyOf_14 ?_
        refine V_fload_n hX dX0_howManyOf_15 3 rfl ?_
        have hc_40 := cmpI_spec (W 3) (g)
        refine V_fcmp (r := jI (cmpI (W 3) (g))) hX dX0_howManyOf_16 (fB_cmpI (by omega) (by omega)) ?_
        refine V_if_ne (tgt := 23) hX dX0_howManyOf_17 (by decide) (by omega) (fun c_41 => ?_) (fun c_41 => ?_)
        · refine V_iinc (b := 4) (lv' := [(3, .int (jI 4)), (2, .int (jI 1)), (0, .ref (b 0)), (1, .float (fB g))]) hX dX0_howManyOf_23 0 rfl rfl (by decide) rfl ?_
          refine V_goto (tgt := 4) hX dX0_howManyOf_26 (by decide) ?_
          refine V_iload_n hX dX0_howManyOf_4 0 rfl ?_
          refine V_iconst hX dX0_howManyOf_5 ?_
          refine V_icmp_ge (tgt := 29) hX dX0_howManyOf_6 (by decide) (by decide) (by decide) (fun c_42 => ?_) (fun c_42 => absurd c_42 (by decide))
          refine V_iload_n hX dX0_howManyOf_29 1 rfl ?_
          exact V_iret hX hR dX0_howManyOf_30 ⟨(congrArg (fun z => some (Value.int (jI z))) (by unfold hmW; (repeat' split) <;> omega)), rfl⟩
        · refine V_iinc (b := 2) (lv' := [(2, .int (jI 2)), (3, .int (jI 3)), (0, .ref (b 0)), (1, .float (fB g))]) hX dX0_howManyOf_20 1 rfl rfl (by decide) rfl ?_
          refine V_iinc (b := 4) (lv' := [(3, .int (jI 4)), (2, .int (jI 2)), (0, .ref (b 0)), (1, .float (fB g))]) hX dX0_howManyOf_23 1 rfl rfl (by decide) rfl ?_
          refine V_goto (tgt := 4) hX dX0_howManyOf_26 (by decide) ?_
          refine V_iload_n hX dX0_howManyOf_4 0 rfl ?_
          refine V_iconst hX dX0_howManyOf_5 ?_
          refine V_icmp_ge (tgt := 29) hX dX0_howManyOf_6 (by decide) (by decide) (by decide) (fun c_43 => ?_) (fun c_43 => absurd c_43 (by decide))
          refine V_iload_n hX dX0_howManyOf_29 1 rfl ?_
          exact V_iret hX hR dX0_howManyOf_30 ⟨(congrArg (fun z => some (Value.int (jI z))) (by unfold hmW; (repeat' split) <;> omega)), rfl⟩
      · refine V_iinc (b := 2) (lv' := [(2, .int (jI 2)), (3, .int (jI 2)), (0, .ref (b 0)), (1, .float (fB g))]) hX dX0_howManyOf_20 1 rfl rfl (by decide) rfl ?_
        refine V_iinc (b := 3) (lv' := [(3, .int (jI 3)), (2, .int (jI 2)), (0, .ref (b 0)), (1, .float (fB g))]) hX dX0_howManyOf_23 1 rfl rfl (by decide) rfl ?_
        refine V_goto (tgt := 4) hX dX0_howManyOf_26 (by decide) ?_
        refine V_iload_n hX dX0_howManyOf_4 0 rfl ?_
        refine V_iconst hX dX0_howManyOf_5 ?_
        refine V_icmp_ge (tgt := 29) hX dX0_howManyOf_6 (by decide) (by decide) (by decide) (fun c_44 => absurd c_44 (by decide)) (fun c_44 => ?_)
        refine V_aload_n hX dX0_howManyOf_9 2 rfl ?_
        refine V_get (v := .ref (b 1)) hX cbX0 1 0 (by decide) wf_X0_9 rfl rfl rfl rfl dX0_howManyOf_10 ?_
        refine V_iload_n hX dX0_howManyOf_13 0 rfl ?_
        refine V_fald (i0 := 3) (r := (fB (W 3))) hX 1 rfl (by decide) (by decide) (by decide) rfl rfl dX0_howManyOf_14 ?_
        refine V_fload_n hX dX0_howManyOf_15 3 rfl ?_
        have hc_45 := cmpI_spec (W 3) (g)
        refine V_fcmp (r := jI (cmpI (W 3) (g))) hX dX0_howManyOf_16 (fB_cmpI (by omega) (by omega)) ?_
        refine V_if_ne (tgt := 23) hX dX0_howManyOf_17 (by decide) (by omega) (fun c_46 => ?_) (fun c_46 => ?_)
        · refine V_iinc (b := 4) (lv' := [(3, .int (jI 4)), (2, .int (jI 2)), (0, .ref (b 0)), (1, .float (fB g))]) hX dX0_howManyOf_23 0 rfl rfl (by decide) rfl ?_
          refine V_goto (tgt := 4) hX dX0_howManyOf_26 (by decide) ?_
          refine V_iload_n hX dX0_howManyOf_4 0 rfl ?_
          refine V_iconst hX dX0_howManyOf_5 ?_
          refine V_icmp_ge (tgt := 29) hX dX0_howManyOf_6 (by decide) (by decide) (by decide) (fun c_47 => ?_) (fun c_47 => absurd c_47 (by decide))
          refine V_iload_n hX dX0_howManyOf_29 1 rfl ?_
          exact V_iret hX hR dX0_howManyOf_30 ⟨(congrArg (fun z => some (Value.int (jI z))) (by unfold hmW; (repeat' split) <;> omega)), rfl⟩
        · refine V_iinc (b := 3) (lv' := [(2, .int (jI 3)), (3, .int (jI 3)), (0, .ref (b 0)), (1, .float (fB g))]) hX dX0_howManyOf_20 1 rfl rfl (by decide) rfl ?_
          refine V_iinc (b := 4) (lv' := [(3, .int (jI 4)), (2, .int (jI 3)), (0, .ref (b 0)), (1, .float (fB g))]) hX dX0_howManyOf_23 1 rfl rfl (by decide) rfl ?_
          refine V_goto (tgt := 4) hX dX0_howManyOf_26 (by decide) ?_
          refine V_iload_n hX dX0_howManyOf_4 0 rfl ?_
          refine V_iconst hX dX0_howManyOf_5 ?_
          refine V_icmp_ge (tgt := 29) hX dX0_howManyOf_6 (by decide) (by decide) (by decide) (fun c_48 => ?_) (fun c_48 => absurd c_48 (by decide))
          refine V_iload_n hX dX0_howManyOf_29 1 rfl ?_
          exact V_iret hX hR dX0_howManyOf_30 ⟨(congrArg (fun z => some (Value.int (jI z))) (by unfold hmW; (repeat' split) <;> omega)), rfl⟩
    · refine V_iinc (b := 2) (lv' := [(2, .int (jI 2)), (3, .int (jI 1)), (0, .ref (b 0)), (1, .float (fB g))]) hX dX0_howManyOf_20 1 rfl rfl (by decide) rfl ?_
      refine V_iinc (b := 2) (lv' := [(3, .int (jI 2)), (2, .int (jI 2)), (0, .ref (b 0)), (1, .float (fB g))]) hX dX0_howManyOf_23 1 rfl rfl (by decide) rfl ?_
      refine V_goto (tgt := 4) hX dX0_howManyOf_26 (by decide) ?_
      refine V_iload_n hX dX0_howManyOf_4 0 rfl ?_
      refine V_iconst hX dX0_howManyOf_5 ?_
      refine V_icmp_ge (tgt := 29) hX dX0_howManyOf_6 (by decide) (by decide) (by decide) (fun c_49 => absurd c_49 (by decide)) (fun c_49 => ?_)
      refine V_aload_n hX dX0_howManyOf_9 2 rfl ?_
      refine V_get (v := .ref (b 1)) hX cbX0 1 0 (by decide) wf_X0_9 rfl rfl rfl rfl dX0_howManyOf_10 ?_
      refine V_iload_n hX dX0_howManyOf_13 0 rfl ?_
      refine V_fald (i0 := 2) (r := (fB (W 2))) hX 1 rfl (by decide) (by decide) (by decide) rfl rfl dX0_howManyOf_14 ?_
      refine V_fload_n hX dX0_howManyOf_15 3 rfl ?_
      have hc_50 := cmpI_spec (W 2) (g)
      refine V_fcmp (r := jI (cmpI (W 2) (g))) hX dX0_howManyOf_16 (fB_cmpI (by omega) (by omega)) ?_
      refine V_if_ne (tgt := 23) hX dX0_howManyOf_17 (by decide) (by omega) (fun c_51 => ?_) (fun c_51 => ?_)
      · refine V_iinc (b := 3) (lv' := [(3, .int (jI 3)), (2, .int (jI 2)), (0, .ref (b 0)), (1, .float (fB g))]) hX dX0_howManyOf_23 0 rfl rfl (by decide) rfl ?_
        refine V_goto (tgt := 4) hX dX0_howManyOf_26 (by decide) ?_
        refine V_iload_n hX dX0_howManyOf_4 0 rfl ?_
        refine V_iconst hX dX0_howManyOf_5 ?_
        refine V_icmp_ge (tgt := 29) hX dX0_howManyOf_6 (by decide) (by decide) (by decide) (fun c_52 => absurd c_52 (by decide)) (fun c_52 => ?_)
        refine V_aload_n hX dX0_howManyOf_9 2 rfl ?_
        refine V_get (v := .ref (b 1)) hX cbX0 1 0 (by decide) wf_X0_9 rfl rfl rfl rfl dX0_howManyOf_10 ?_
        refine V_iload_n hX dX0_howManyOf_13 0 rfl ?_
        refine V_fald (i0 := 3) (r := (fB (W 3))) hX 1 rfl (by decide) (by decide) (by decide) rfl rfl dX0_howManyOf_14 ?_
        refine V_fload_n hX dX0_howManyOf_15 3 rfl ?_
        have hc_53 := cmpI_spec (W 3) (g)
        refine V_fcmp (r := jI (cmpI (W 3) (g))) hX dX0_howManyOf_16 (fB_cmpI (by omega) (by omega)) ?_
        refine V_if_ne (tgt := 23) hX dX0_howManyOf_17 (by decide) (by omega) (fun c_54 => ?_) (fun c_54 => ?_)
        · refine V_iinc (b := 4) (lv' := [(3, .int (jI 4)), (2, .int (jI 2)), (0, .ref (b 0)), (1, .float (fB g))]) hX dX0_howManyOf_23 0 rfl rfl (by decide) rfl ?_
          refine V_goto (tgt := 4) hX dX0_howManyOf_26 (by decide) ?_
          refine V_iload_n hX dX0_howManyOf_4 0 rfl ?_
          refine V_iconst hX dX0_howManyOf_5 ?_
          refine V_icmp_ge (tgt := 29) hX dX0_howManyOf_6 (by decide) (by decide) (by decide) (fun c_55 => ?_) (fun c_55 => absurd c_55 (by decide))
          refine V_iload_n hX dX0_howManyOf_29 1 rfl ?_
          exact V_iret hX hR dX0_howManyOf_30 ⟨(congrArg (fun z => some (Value.int (jI z))) (by unfold hmW; (repeat' split) <;> omega)), rfl⟩
        · refine V_iinc (b := 3) (lv' := [(2, .int (jI 3)), (3, .int (jI 3)), (0, .ref (b 0)), (1, .float (fB g))]) hX dX0_howManyOf_20 1 rfl rfl (by decide) rfl ?_
          refine V_iinc (b := 4) (lv' := [(3, .int (jI 4)), (2, .int (jI 3)), (0, .ref (b 0)), (1, .float (fB g))]) hX dX0_howManyOf_23 1 rfl rfl (by decide) rfl ?_
          refine V_goto (tgt := 4) hX dX0_howManyOf_26 (by decide) ?_
          refine V_iload_n hX dX0_howManyOf_4 0 rfl ?_
          refine V_iconst hX dX0_howManyOf_5 ?_
          refine V_icmp_ge (tgt := 29) hX dX0_howManyOf_6 (by decide) (by decide) (by decide) (fun c_56 => ?_) (fun c_56 => absurd c_56 (by decide))
          refine V_iload_n hX dX0_howManyOf_29 1 rfl ?_
          exact V_iret hX hR dX0_howManyOf_30 ⟨(congrArg (fun z => some (Value.int (jI z))) (by unfold hmW; (repeat' split) <;> omega)), rfl⟩
      · refine V_iinc (b := 3) (lv' := [(2, .int (jI 3)), (3, .int (jI 2)), (0, .ref (b 0)), (1, .float (fB g))]) hX dX0_howManyOf_20 1 rfl rfl (by decide) rfl ?_
        refine V_iinc (b := 3) (lv' := [(3, .int (jI 3)), (2, .int (jI 3)), (0, .ref (b 0)), (1, .float (fB g))]) hX dX0_howManyOf_23 1 rfl rfl (by decide) rfl ?_
        refine V_goto (tgt := 4) hX dX0_howManyOf_26 (by decide) ?_
        refine V_iload_n hX dX0_howManyOf_4 0 rfl ?_
        refine V_iconst hX dX0_howManyOf_5 ?_
        refine V_icmp_ge (tgt := 29) hX dX0_howManyOf_6 (by decide) (by decide) (by decide) (fun c_57 => absurd c_57 (by decide)) (fun c_57 => ?_)
        refine V_aload_n hX dX0_howManyOf_9 2 rfl ?_
        refine V_get (v := .ref (b 1)) hX cbX0 1 0 (by decide) wf_X0_9 rfl rfl rfl rfl dX0_howManyOf_10 ?_
        refine V_iload_n hX dX0_howManyOf_13 0 rfl ?_
        refine V_fald (i0 := 3) (r := (fB (W 3))) hX 1 rfl (by decide) (by decide) (by decide) rfl rfl dX0_howManyOf_14 ?_
        refine V_fload_n hX dX0_howManyOf_15 3 rfl ?_
        have hc_58 := cmpI_spec (W 3) (g)
        refine V_fcmp (r := jI (cmpI (W 3) (g))) hX dX0_howManyOf_16 (fB_cmpI (by omega) (by omega)) ?_
        refine V_if_ne (tgt := 23) hX dX0_howManyOf_17 (by decide) (by omega) (fun c_59 => ?_) (fun c_59 => ?_)
        · refine V_iinc (b := 4) (lv' := [(3, .int (jI 4)), (2, .int (jI 3)), (0, .ref (b 0)), (1, .float (fB g))]) hX dX0_howManyOf_23 0 rfl rfl (by decide) rfl ?_
          refine V_goto (tgt := 4) hX dX0_howManyOf_26 (by decide) ?_
          refine V_iload_n hX dX0_howManyOf_4 0 rfl ?_
          refine V_iconst hX dX0_howManyOf_5 ?_
          refine V_icmp_ge (tgt := 29) hX dX0_howManyOf_6 (by decide) (by decide) (by decide) (fun c_60 => ?_) (fun c_60 => absurd c_60 (by decide))
          refine V_iload_n hX dX0_howManyOf_29 1 rfl ?_
          exact V_iret hX hR dX0_howManyOf_30 ⟨(congrArg (fun z => some (Value.int (jI z))) (by unfold hmW; (repeat' split) <;> omega)), rfl⟩
        · refine V_iinc (b := 4) (lv' := [(2, .int (jI 4)), (3, .int (jI 3)), (0, .ref (b 0)), (1, .float (fB g))]) hX dX0_howManyOf_20 1 rfl rfl (by decide) rfl ?_
          refine V_iinc (b := 4) (lv' := [(3, .int (jI 4)), (2, .int (jI 4)), (0, .ref (b 0)), (1, .float (fB g))]) hX dX0_howManyOf_23 1 rfl rfl (by decide) rfl ?_
          refine V_goto (tgt := 4) hX dX0_howManyOf_26 (by decide) ?_
          refine V_iload_n hX dX0_howManyOf_4 0 rfl ?_
          refine V_iconst hX dX0_howManyOf_5 ?_
          refine V_icmp_ge (tgt := 29) hX dX0_howManyOf_6 (by decide) (by decide) (by decide) (fun c_61 => ?_) (fun c_61 => absurd c_61 (by decide))
          refine V_iload_n hX dX0_howManyOf_29 1 rfl ?_
          exact V_iret hX hR dX0_howManyOf_30 ⟨(congrArg (fun z => some (Value.int (jI z))) (by unfold hmW; (repeat' split) <;> omega)), rfl⟩

set_option maxHeartbeats 4000000 in
set_option maxRecDepth 100000 in
theorem c_X0_voteOf (l : Launch) (G : vC) (b : Nat → Nat) (lob : Bool) (W : Nat → Nat) (vf : Nat → Int) (h : Nat → Nat) (s : Nat → Int) (t : Int) (f : Int) (hI : Inv t s) (hf : iR f) : Fn l G yX0_voteOf cX0_voteOf 6 (some .int) ({ frames := 2, cells := 0, slots := 0, locals := 46 } : Room) [.ref (b 0), .ref (h 0), .int (jI f)] (bB G b lob W vf ++ hB G h s) (some (.int (jI (vtR s lob f)))) (bB G b lob (vtW s lob f W) vf ++ hB G h s) := by
  refine Ct.of (by decide) (Nat.le_of_ble_eq_true rfl) (fun X hX hR => ?_)
  refine V.toLv (lv' := [(0, .ref (b 0)), (1, .ref (h 0)), (2, .int (jI f))]) rfl ?_
  have hb := hI.base
  have hspb := spN_b s f (s 10).toNat
  refine V_aload_n hX dX0_voteOf_0 0 rfl ?_
  refine V_aload_n hX dX0_voteOf_1 1 rfl ?_
  refine V_iload_n hX dX0_voteOf_2 2 rfl ?_
  refine V_cV (st := []) (v := .int (jI (spN s f (s 10).toNat))) (w' := bB G b lob W vf ++ hB G h s) hX wc_X0_53 (c_X0_speakerOf l G b lob W vf h s t f hI (by omega)) (by decide) (by decide) rfl rfl (Nat.le_of_ble_eq_true rfl) dX0_voteOf_3 [] ([]) (by simp only [List.append_assoc, List.nil_append, List.append_nil]) 0 rfl rfl (by simp only [List.append_assoc, List.nil_append, List.append_nil]) rfl rfl ?_
  refine V_istore_n (i := 3) (lv' := [(3, .int (jI (spN s f (s 10).toNat))), (0, .ref (b 0)), (1, .ref (h 0)), (2, .int (jI f))]) hX dX0_voteOf_6 rfl (by decide) rfl ?_
  refine V_iload_n hX dX0_voteOf_7 0 rfl ?_
  refine V_if_ge (tgt := 14) hX dX0_voteOf_8 (by decide) (by omega) (fun c_1 => ?_) (fun c_1 => ?_)
  · have hs := hI.sc (spN s f (s 10).toNat).toNat (by omega)
    have hwb := wF_b hI lob f (s 10).toNat (by omega)
    have hgb := grN_b hwb 4 (Nat.le_refl _)
    refine V_aload_n hX dX0_voteOf_14 1 rfl ?_
    refine V_aload_n hX dX0_voteOf_15 2 rfl ?_
    refine V_iload_n hX dX0_voteOf_16 3 rfl ?_
    refine V_dV (st := []) (w' := bB G b lob (wF s lob f (s 10).toNat) vf ++ hB G h s) hX wc_X0_57 (c_X0_weigh l G b lob W vf h s t f hI (by omega)) (by decide) (by decide) rfl rfl (Nat.le_of_ble_eq_true rfl) dX0_voteOf_17 [] ([]) (by simp only [List.append_assoc, List.nil_append, List.append_nil]) 0 rfl rfl (by simp only [List.append_assoc, List.nil_append, List.append_nil]) rfl rfl ?_
    refine V_aload_n hX dX0_voteOf_20 1 rfl ?_
    refine V_cV (st := []) (v := .float (fB (grN (wF s lob f (s 10).toNat) 4))) (w' := bB G b lob (wF s lob f (s 10).toNat) vf ++ hB G h s) hX wc_X0_61 (c_X0_greatestWeight l G b lob (wF s lob f (s 10).toNat) vf (fun w hw2 => by have := hwb w hw2; omega)) (by decide) (by decide) rfl rfl (Nat.le_of_ble_eq_true rfl) dX0_voteOf_21 [] (hB G h s) (by simp only [List.append_assoc, List.nil_append, List.append_nil]) 0 rfl rfl (by simp only [List.append_assoc, List.nil_append, List.append_nil]) rfl rfl ?_
    refine V_fstore (i := 4) (lv' := [(4, .float (fB (grN (wF s lob f (s 10).toNat) 4))), (3, .int (jI (spN s f (s 10).toNat))), (0, .ref (b 0)), (1, .ref (h 0)), (2, .int (jI f))]) hX dX0_voteOf_24 (by decide) rfl ?_
    refine V_fload hX dX0_voteOf_26 0 rfl ?_
    refine V_fconst0 hX dX0_voteOf_28 ?_
    have hc_2 := cmpI_spec (grN (wF s lob f (s 10).toNat) 4) (0)
    refine V_fcmp (r := jI (cmpI (grN (wF s lob f (s 10).toNat) 4) (0))) hX dX0_voteOf_29 (fB_cmpI0 (by omega)) ?_
    refine V_if_gt (tgt := 36) hX dX0_voteOf_30 (by decide) (by omega) (fun c_3 => ?_) (fun c_3 => ?_)
    · refine V_aload_n hX dX0_voteOf_36 3 rfl ?_
      refine V_getN (v := .ref (h 4)) hX cbX1 3 3 (by decide) wf_X0_32 rfl rfl rfl rfl dX0_voteOf_37 ?_
      refine V_iload_n hX dX0_voteOf_40 1 rfl ?_
      refine V_iald (i0 := (spN s f (s 10).toNat).toNat) (r := (jI (s (ix ((spN s f (s 10).toNat).toNat) 3)))) hX 7 rfl (by omega) (by omega) (by omega) rfl rfl dX0_voteOf_41 ?_
      have hwy := hwb (s (ix (spN s f (s 10).toNat).toNat 3)).toNat (by omega)
      refine V_istore (i := 5) (lv' := [(5, .int (jI (s (ix ((spN s f (s 10).toNat).toNat) 3)))), (4, .float (fB (grN (wF s lob f (s 10).toNat) 4))), (3, .int (jI (spN s f (s 10).toNat))), (0, .ref (b 0)), (1, .ref (h 0)), (2, .int (jI f))]) hX dX0_voteOf_42 (by decide) rfl ?_
      refine V_aload_n hX dX0_voteOf_44 3 rfl ?_
      refine V_get (v := .ref (b 1)) hX cbX0 1 0 (by decide) wf_X0_9 rfl rfl rfl rfl dX0_voteOf_45 ?_
      refine V_iload hX dX0_voteOf_48 0 rfl ?_
      refine V_fald (i0 := (s (ix ((spN s f (s 10).toNat).toNat) 3)).toNat) (r := (fB ((wF s lob f (s 10).toNat) ((s (ix ((spN s f (s 10).toNat).toNat) 3)).toNat)))) hX 1 rfl (by omega) (by omega) (by omega) (by unfold ix; omega) rfl dX0_voteOf_50 ?_
      refine V_fload hX dX0_voteOf_51 1 rfl ?_
      have hc_4 := cmpI_spec ((wF s lob f (s 10).toNat) ((s (ix ((spN s f (s 10).toNat).toNat) 3)).toNat)) (grN (wF s lob f (s 10).toNat) 4)
      refine V_fcmp (r := jI (cmpI ((wF s lob f (s 10).toNat) ((s (ix ((spN s f (s 10).toNat).toNat) 3)).toNat)) (grN (wF s lob f (s 10).toNat) 4))) hX dX0_voteOf_53 (fB_cmpI (by omega) (by omega)) ?_
      refine V_if_ne (tgt := 62) hX dX0_voteOf_54 (by decide) (by omega) (fun c_5 => ?_) (fun c_5 => ?_)
      · refine V_aload_n hX dX0_voteOf_62 3 rfl ?_
        refine V_fload hX dX0_voteOf_63 1 rfl ?_
        refine V_cV (st := []) (v := .int (jI (loW (wF s lob f (s 10).toNat) (grN (wF s lob f (s 10).toNat) 4)))) (w' := bB G b lob (wF s lob f (s 10).toNat) vf ++ hB G h s) hX wc_X0_65 (c_X0_lowestOf l G b lob (wF s lob f (s 10).toNat) vf (grN (wF s lob f (s 10).toNat) 4) (fun w hw2 => by have := hwb w hw2; omega) (by omega)) (by decide) (by decide) rfl rfl (Nat.le_of_ble_eq_true rfl) dX0_voteOf_65 [] (hB G h s) (by simp only [List.append_assoc, List.nil_append, List.append_nil]) 0 rfl rfl (by simp only [List.append_assoc, List.nil_append, List.append_nil]) rfl rfl ?_
        exact V_iret hX hR dX0_voteOf_68 ⟨(congrArg (fun z => some (Value.int (jI z))) (by unfold vtR; (repeat' split) <;> first | rfl | omega)), (app_c (bB_c (by unfold vtW; split <;> first | rfl | omega) rfl) rfl)⟩
      · refine V_iload hX dX0_voteOf_57 0 rfl ?_
        refine V_goto (tgt := 68) hX dX0_voteOf_59 (by decide) ?_
        exact V_iret hX hR dX0_voteOf_68 ⟨(congrArg (fun z => some (Value.int (jI z))) (by unfold vtR; (repeat' split) <;> first | rfl | omega)), (app_c (bB_c (by unfold vtW; split <;> first | rfl | omega) rfl) rfl)⟩
    · refine V_bipush hX dX0_voteOf_33 (by decide) ?_
      exact V_iret hX hR dX0_voteOf_35 ⟨(congrArg (fun z => some (Value.int (jI z))) (by unfold vtR; (repeat' split) <;> first | rfl | omega)), (app_c (bB_c (by unfold vtW; split <;> first | rfl | omega) rfl) rfl)⟩
  · refine V_bipush hX dX0_voteOf_11 (by decide) ?_
    exact V_iret hX hR dX0_voteOf_13 ⟨(congrArg (fun z => some (Value.int (jI z))) (by unfold vtR; (repeat' split) <;> first | rfl | omega)), (app_c (bB_c (by unfold vtW; split <;> first | rfl | omega) rfl) rfl)⟩

set_option maxHeartbeats 4000000 in
set_option maxRecDepth 100000 in
theorem c_X0_reasonOf (l : Launch) (G : vC) (b : Nat → Nat) (lob : Bool) (W : Nat → Nat) (vf : Nat → Int) (h : Nat → Nat) (s : Nat → Int) (t : Int) (f : Int) (hI : Inv t s) (hf : iR f) : Fn l G yX0_reasonOf cX0_reasonOf 5 (some .int) ({ frames := 2, cells := 0, slots := 0, locals := 46 } : Room) [.ref (b 0), .ref (h 0), .int (jI f)] (bB G b lob W vf ++ hB G h s) (some (.int (jI (rsR s lob f)))) (bB G b lob (vtW s lob f W) vf ++ hB G h s) := by
  refine Ct.of (by decide) (Nat.le_of_ble_eq_true rfl) (fun X hX hR => ?_)
  refine V.toLv (lv' := [(0, .ref (b 0)), (1, .ref (h 0)), (2, .int (jI f))]) rfl ?_
  have hb := hI.base
  have hspb := spN_b s f (s 10).toNat
  refine V_aload_n hX dX0_reasonOf_0 0 rfl ?_
  refine V_aload_n hX dX0_reasonOf_1 1 rfl ?_
  refine V_iload_n hX dX0_reasonOf_2 2 rfl ?_
  refine V_cV (st := []) (v := .int (jI (spN s f (s 10).toNat))) (w' := bB G b lob W vf ++ hB G h s) hX wc_X0_53 (c_X0_speakerOf l G b lob W vf h s t f hI (by omega)) (by decide) (by decide) rfl rfl (Nat.le_of_ble_eq_true rfl) dX0_reasonOf_3 [] ([]) (by simp only [List.append_assoc, List.nil_append, List.append_nil]) 0 rfl rfl (by simp only [List.append_assoc, List.nil_append, List.append_nil]) rfl rfl ?_
  refine V_istore_n (i := 3) (lv' := [(3, .int (jI (spN s f (s 10).toNat))), (0, .ref (b 0)), (1, .ref (h 0)), (2, .int (jI f))]) hX dX0_reasonOf_6 rfl (by decide) rfl ?_
  refine V_iload_n hX dX0_reasonOf_7 0 rfl ?_
  refine V_if_ge (tgt := 13) hX dX0_reasonOf_8 (by decide) (by omega) (fun c_1 => ?_) (fun c_1 => ?_)
  · have hs := hI.sc (spN s f (s 10).toNat).toNat (by omega)
    have hwb := wF_b hI lob f (s 10).toNat (by omega)
    have hgb := grN_b hwb 4 (Nat.le_refl _)
    have hwy := hwb (s (ix (spN s f (s 10).toNat).toNat 3)).toNat (by omega)
    have hmb := hmW_b (wF s lob f (s 10).toNat) (grN (wF s lob f (s 10).toNat) 4)
    refine V_aload_n hX dX0_reasonOf_13 1 rfl ?_
    refine V_aload_n hX dX0_reasonOf_14 2 rfl ?_
    refine V_iload_n hX dX0_reasonOf_15 3 rfl ?_
    refine V_dV (st := []) (w' := bB G b lob (wF s lob f (s 10).toNat) vf ++ hB G h s) hX wc_X0_57 (c_X0_weigh l G b lob W vf h s t f hI (by omega)) (by decide) (by decide) rfl rfl (Nat.le_of_ble_eq_true rfl) dX0_reasonOf_16 [] ([]) (by simp only [List.append_assoc, List.nil_append, List.append_nil]) 0 rfl rfl (by simp only [List.append_assoc, List.nil_append, List.append_nil]) rfl rfl ?_
    refine V_aload_n hX dX0_reasonOf_19 1 rfl ?_
    refine V_cV (st := []) (v := .float (fB (grN (wF s lob f (s 10).toNat) 4))) (w' := bB G b lob (wF s lob f (s 10).toNat) vf ++ hB G h s) hX wc_X0_61 (c_X0_greatestWeight l G b lob (wF s lob f (s 10).toNat) vf (fun w hw2 => by have := hwb w hw2; omega)) (by decide) (by decide) rfl rfl (Nat.le_of_ble_eq_true rfl) dX0_reasonOf_20 [] (hB G h s) (by simp only [List.append_assoc, List.nil_append, List.append_nil]) 0 rfl rfl (by simp only [List.append_assoc, List.nil_append, List.append_nil]) rfl rfl ?_
    refine V_fstore (i := 4) (lv' := [(4, .float (fB (grN (wF s lob f (s 10).toNat) 4))), (3, .int (jI (spN s f (s 10).toNat))), (0, .ref (b 0)), (1, .ref (h 0)), (2, .int (jI f))]) hX dX0_reasonOf_23 (by decide) rfl ?_
    refine V_fload hX dX0_reasonOf_25 0 rfl ?_
    refine V_fconst0 hX dX0_reasonOf_27 ?_
    have hc_2 := cmpI_spec (grN (wF s lob f (s 10).toNat) 4) (0)
    refine V_fcmp (r := jI (cmpI (grN (wF s lob f (s 10).toNat) 4) (0))) hX dX0_reasonOf_28 (fB_cmpI0 (by omega)) ?_
    refine V_if_gt (tgt := 34) hX dX0_reasonOf_29 (by decide) (by omega) (fun c_3 => ?_) (fun c_3 => ?_)
    · refine V_aload_n hX dX0_reasonOf_34 2 rfl ?_
      refine V_fload hX dX0_reasonOf_35 0 rfl ?_
      refine V_cV (st := []) (v := .int (jI (hmW (wF s lob f (s 10).toNat) (grN (wF s lob f (s 10).toNat) 4)))) (w' := bB G b lob (wF s lob f (s 10).toNat) vf ++ hB G h s) hX wc_X0_69 (c_X0_howManyOf l G b lob (wF s lob f (s 10).toNat) vf (grN (wF s lob f (s 10).toNat) 4) (fun w hw2 => by have := hwb w hw2; omega) (by omega)) (by decide) (by decide) rfl rfl (Nat.le_of_ble_eq_true rfl) dX0_reasonOf_37 [] (hB G h s) (by simp only [List.append_assoc, List.nil_append, List.append_nil]) 0 rfl rfl (by simp only [List.append_assoc, List.nil_append, List.append_nil]) rfl rfl ?_
      refine V_iconst hX dX0_reasonOf_40 ?_
      refine V_icmp_ne (tgt := 46) hX dX0_reasonOf_41 (by decide) (by omega) (by decide) (fun c_4 => ?_) (fun c_4 => ?_)
      · refine V_aload_n hX dX0_reasonOf_46 2 rfl ?_
        refine V_get (v := .ref (b 1)) hX cbX0 1 0 (by decide) wf_X0_9 rfl rfl rfl rfl dX0_reasonOf_47 ?_
        refine V_aload_n hX dX0_reasonOf_50 3 rfl ?_
        refine V_getN (v := .ref (h 4)) hX cbX1 3 3 (by decide) wf_X0_32 rfl rfl rfl rfl dX0_reasonOf_51 ?_
        refine V_iload_n hX dX0_reasonOf_54 1 rfl ?_
        refine V_iald (i0 := (spN s f (s 10).toNat).toNat) (r := (jI (s (ix ((spN s f (s 10).toNat).toNat) 3)))) hX 7 rfl (by omega) (by omega) (by omega) rfl rfl dX0_reasonOf_55 ?_
        refine V_fald (i0 := (s (ix ((spN s f (s 10).toNat).toNat) 3)).toNat) (r := (fB ((wF s lob f (s 10).toNat) ((s (ix ((spN s f (s 10).toNat).toNat) 3)).toNat)))) hX 1 rfl (by omega) (by omega) (by omega) (by unfold ix; omega) rfl dX0_reasonOf_56 ?_
        refine V_fload hX dX0_reasonOf_57 0 rfl ?_
        have hc_5 := cmpI_spec ((wF s lob f (s 10).toNat) ((s (ix ((spN s f (s 10).toNat).toNat) 3)).toNat)) (grN (wF s lob f (s 10).toNat) 4)
        refine V_fcmp (r := jI (cmpI ((wF s lob f (s 10).toNat) ((s (ix ((spN s f (s 10).toNat).toNat) 3)).toNat)) (grN (wF s lob f (s 10).toNat) 4))) hX dX0_reasonOf_59 (fB_cmpI (by omega) (by omega)) ?_
        refine V_if_ne (tgt := 67) hX dX0_reasonOf_60 (by decide) (by omega) (fun c_6 => ?_) (fun c_6 => ?_)
        · refine V_iconst hX dX0_reasonOf_67 ?_
          exact V_iret hX hR dX0_reasonOf_68 ⟨(congrArg (fun z => some (Value.int (jI z))) (by unfold rsR; (repeat' split) <;> first | rfl | omega)), (app_c (bB_c (by unfold vtW; split <;> first | rfl | omega) rfl) rfl)⟩
        · refine V_iconst hX dX0_reasonOf_63 ?_
          refine V_goto (tgt := 68) hX dX0_reasonOf_64 (by decide) ?_
          exact V_iret hX hR dX0_reasonOf_68 ⟨(congrArg (fun z => some (Value.int (jI z))) (by unfold rsR; (repeat' split) <;> first | rfl | omega)), (app_c (bB_c (by unfold vtW; split <;> first | rfl | omega) rfl) rfl)⟩
      · refine V_iconst hX dX0_reasonOf_44 ?_
        exact V_iret hX hR dX0_reasonOf_45 ⟨(congrArg (fun z => some (Value.int (jI z))) (by unfold rsR; (repeat' split) <;> first | rfl | omega)), (app_c (bB_c (by unfold vtW; split <;> first | rfl | omega) rfl) rfl)⟩
    · refine V_iconst hX dX0_reasonOf_32 ?_
      exact V_iret hX hR dX0_reasonOf_33 ⟨(congrArg (fun z => some (Value.int (jI z))) (by unfold rsR; (repeat' split) <;> first | rfl | omega)), (app_c (bB_c (by unfold vtW; split <;> first | rfl | omega) rfl) rfl)⟩
  · refine V_iconst hX dX0_reasonOf_11 ?_
    exact V_iret hX hR dX0_reasonOf_12 ⟨(congrArg (fun z => some (Value.int (jI z))) (by unfold rsR; (repeat' split) <;> first | rfl | omega)), (app_c (bB_c (by unfold vtW; split <;> first | rfl | omega) rfl) rfl)⟩

set_option maxHeartbeats 4000000 in
set_option maxRecDepth 100000 in
theorem c_X0_poll (l : Launch) (G : vC) (b : Nat → Nat) (lob : Bool) (W : Nat → Nat) (vf : Nat → Int) (h : Nat → Nat) (s : Nat → Int) (t : Int) (hI : Inv t s) : Fn l G yX0_poll cX0_poll 3 none ({ frames := 3, cells := 0, slots := 0, locals := 71 } : Room) [.ref (b 0), .ref (h 0)] (bB G b lob W vf ++ hB G h s) none (bB G b lob (plW s lob W 6) (pvF s lob) ++ hB G h s) := by
  refine Ct.of (by decide) (Nat.le_of_ble_eq_true rfl) (fun X hX hR => ?_)
  refine V.toLv (lv' := [(0, .ref (b 0)), (1, .ref (h 0))]) rfl ?_
  have hb := hI.base
  refine V_iconst hX dX0_poll_0 ?_
  refine V_istore_n (i := 2) (lv' := [(2, .int (jI 0)), (0, .ref (b 0)), (1, .ref (h 0))]) hX dX0_poll_1 rfl (by decide) rfl ?_
  refine V_iload_n hX dX0_poll_2 0 rfl ?_
  refine V_bipush hX dX0_poll_3 (by decide) ?_
  refine V_icmp_ge (tgt := 26) hX dX0_poll_5 (by decide) (by decide) (by decide) (fun c_1 => absurd c_1 (by decide)) (fun c_1 => ?_)
  refine V_aload_n hX dX0_poll_8 1 rfl ?_
  refine V_get (v := .ref (b 2)) hX cbX0 2 0 (by decide) wf_X0_15 rfl rfl rfl rfl dX0_poll_9 ?_
  refine V_iload_n hX dX0_poll_12 0 rfl ?_
  refine V_aload_n hX dX0_poll_13 1 rfl ?_
  refine V_aload_n hX dX0_poll_14 2 rfl ?_
  refine V_iload_n hX dX0_poll_15 0 rfl ?_
  refine V_cV (st := [.int (jI 0), .ref (b 2)]) (v := .int (jI (vtR s lob 0))) (w' := bB G b lob (vtW s lob 0 W) vf ++ hB G h s) hX wc_X0_72 (c_X0_voteOf l G b lob W vf h s t 0 hI (by omega)) (by decide) (by decide) rfl rfl (Nat.le_of_ble_eq_true rfl) dX0_poll_16 [] ([]) (by simp only [List.append_assoc, List.nil_append, List.append_nil]) 0 rfl rfl (by simp only [List.append_assoc, List.nil_append, List.append_nil]) rfl rfl ?_
  refine V_iast (i0 := 0) (w' := bB G b lob (vtW s lob 0 W) (up vf 0 (vtR s lob 0)) ++ hB G h s) hX 2 rfl (by decide) (by decide) (by decide) rfl dX0_poll_19 (set_l (bB_v G _ _ _ _ _ _) (Nat.le_of_ble_eq_true rfl)) ?_
  refine V_iinc (b := 1) (lv' := [(2, .int (jI 1)), (0, .ref (b 0)), (1, .ref (h 0))]) hX dX0_poll_20 0 rfl rfl (by decide) rfl ?_
  refine V_goto (tgt := 2) hX dX0_poll_23 (by decide) ?_
  refine V_iload_n hX dX0_poll_2 0 rfl ?_
  refine V_bipush hX dX0_poll_3 (by decide) ?_
  refine V_icmp_ge (tgt := 26) hX dX0_poll_5 (by decide) (by decide) (by decide) (fun c_2 => absurd c_2 (by decide)) (fun c_2 => ?_)
  refine V_aload_n hX dX0_poll_8 1 rfl ?_
  refine V_get (v := .ref (b 2)) hX cbX0 2 0 (by decide) wf_X0_15 rfl rfl rfl rfl dX0_poll_9 ?_
  refine V_iload_n hX dX0_poll_12 0 rfl ?_
  refine V_aload_n hX dX0_poll_13 1 rfl ?_
  refine V_aload_n hX dX0_poll_14 2 rfl ?_
  refine V_iload_n hX dX0_poll_15 0 rfl ?_
  refine V_cV (st := [.int (jI 1), .ref (b 2)]) (v := .int (jI (vtR s lob 1))) (w' := bB G b lob (vtW s lob 1 (vtW s lob 0 W)) (up vf 0 (vtR s lob 0)) ++ hB G h s) hX wc_X0_72 (c_X0_voteOf l G b lob (vtW s lob 0 W) (up vf 0 (vtR s lob 0)) h s t 1 hI (by omega)) (by decide) (by decide) rfl rfl (Nat.le_of_ble_eq_true rfl) dX0_poll_16 [] ([]) (by simp only [List.append_assoc, List.nil_append, List.append_nil]) 0 rfl rfl (by simp only [List.append_assoc, List.nil_append, List.append_nil]) rfl rfl ?_
  refine V_iast (i0 := 1) (w' := bB G b lob (vtW s lob 1 (vtW s lob 0 W)) (up (up vf 0 (vtR s lob 0)) 1 (vtR s lob 1)) ++ hB G h s) hX 2 rfl (by decide) (by decide) (by decide) rfl dX0_poll_19 (set_l (bB_v G _ _ _ _ _ _) (Nat.le_of_ble_eq_true rfl)) ?_
  refine V_iinc (b := 2) (lv' := [(2, .int (jI 2)), (0, .ref (b 0)), (1, .ref (h 0))]) hX dX0_poll_20 0 rfl rfl (by decide) rfl ?_
  refine V_goto (tgt := 2) hX dX0_poll_23 (by decide) ?_
  refine V_iload_n hX dX0_poll_2 0 rfl ?_
  refine V_bipush hX dX0_poll_3 (by decide) ?_
  refine V_icmp_ge (tgt := 26) hX dX0_poll_5 (by decide) (by decide) (by decide) (fun c_3 => absurd c_3 (by decide)) (fun c_3 => ?_)
  refine V_aload_n hX dX0_poll_8 1 rfl ?_
  refine V_get (v := .ref (b 2)) hX cbX0 2 0 (by decide) wf_X0_15 rfl rfl rfl rfl dX0_poll_9 ?_
  refine V_iload_n hX dX0_poll_12 0 rfl ?_
  refine V_aload_n hX dX0_poll_13 1 rfl ?_
  refine V_aload_n hX dX0_poll_14 2 rfl ?_
  refine V_iload_n hX dX0_poll_15 0 rfl ?_
  refine V_cV (st := [.int (jI 2), .ref (b 2)]) (v := .int (jI (vtR s lob 2))) (w' := bB G b lob (vtW s lob 2 (vtW s lob 1 (vtW s lob 0 W))) (up (up vf 0 (vtR s lob 0)) 1 (vtR s lob 1)) ++ hB G h s) hX wc_X0_72 (c_X0_voteOf l G b lob (vtW s lob 1 (vtW s lob 0 W)) (up (up vf 0 (vtR s lob 0)) 1 (vtR s lob 1)) h s t 2 hI (by omega)) (by decide) (by decide) rfl rfl (Nat.le_of_ble_eq_true rfl) dX0_poll_16 [] ([]) (by simp only [List.append_assoc, List.nil_append, List.append_nil]) 0 rfl rfl (by simp only [List.append_assoc, List.nil_append, List.append_nil]) rfl rfl ?_
  refine V_iast (i0 := 2) (w' := bB G b lob (vtW s lob 2 (vtW s lob 1 (vtW s lob 0 W))) (up (up (up vf 0 (vtR s lob 0)) 1 (vtR s lob 1)) 2 (vtR s lob 2)) ++ hB G h s) hX 2 rfl (by decide) (by decide) (by decide) rfl dX0_poll_19 (set_l (bB_v G _ _ _ _ _ _) (Nat.le_of_ble_eq_true rfl)) ?_
  refine V_iinc (b := 3) (lv' := [(2, .int (jI 3)), (0, .ref (b 0)), (1, .ref (h 0))]) hX dX0_poll_20 0 rfl rfl (by decide) rfl ?_
  refine V_goto (tgt := 2) hX dX0_poll_23 (by decide) ?_
  refine V_iload_n hX dX0_poll_2 0 rfl ?_
  refine V_bipush hX dX0_poll_3 (by decide) ?_
  refine V_icmp_ge (tgt := 26) hX dX0_poll_5 (by decide) (by decide) (by decide) (fun c_4 => absurd c_4 (by decide)) (fun c_4 => ?_)
  refine V_aload_n hX dX0_poll_8 1 rfl ?_
  refine V_get (v := .ref (b 2)) hX cbX0 2 0 (by decide) wf_X0_15 rfl rfl rfl rfl dX0_poll_9 ?_
  refine V_iload_n hX dX0_poll_12 0 rfl ?_
  refine V_aload_n hX dX0_poll_13 1 rfl ?_
  refine V_aload_n hX dX0_poll_14 2 rfl ?_
  refine V_iload_n hX dX0_poll_15 0 rfl ?_
  refine V_cV (st := [.int (jI 3), .ref (b 2)]) (v := .int (jI (vtR s lob 3))) (w' := bB G b lob (vtW s lob 3 (vtW s lob 2 (vtW s lob 1 (vtW s lob 0 W)))) (up (up (up vf 0 (vtR s lob 0)) 1 (vtR s lob 1)) 2 (vtR s lob 2)) ++ hB G h s) hX wc_X0_72 (c_X0_voteOf l G b lob (vtW s lob 2 (vtW s lob 1 (vtW s lob 0 W))) (up (up (up vf 0 (vtR s lob 0)) 1 (vtR s lob 1)) 2 (vtR s lob 2)) h s t 3 hI (by omega)) (by decide) (by decide) rfl rfl (Nat.le_of_ble_eq_true rfl) dX0_poll_16 [] ([]) (by simp only [List.append_assoc, List.nil_append, List.append_nil]) 0 rfl rfl (by simp only [List.append_assoc, List.nil_append, List.append_nil]) rfl rfl ?_
  refine V_iast (i0 := 3) (w' := bB G b lob (vtW s lob 3 (vtW s lob 2 (vtW s lob 1 (vtW s lob 0 W)))) (up (up (up (up vf 0 (vtR s lob 0)) 1 (vtR s lob 1)) 2 (vtR s lob 2)) 3 (vtR s lob 3)) ++ hB G h s) hX 2 rfl (by decide) (by decide) (by decide) rfl dX0_poll_19 (set_l (bB_v G _ _ _ _ _ _) (Nat.le_of_ble_eq_true rfl)) ?_
  refine V_iinc (b := 4) (lv' := [(2, .int (jI 4)), (0, .ref (b 0)), (1, .ref (h 0))]) hX dX0_poll_20 0 rfl rfl (by decide) rfl ?_
  refine V_goto (tgt := 2) hX dX0_poll_23 (by decide) ?_
  refine V_iload_n hX dX0_poll_2 0 rfl ?_
  refine V_bipush hX dX0_poll_3 (by decide) ?_
  refine V_icmp_ge (tgt := 26) hX dX0_poll_5 (by decide) (by decide) (by decide) (fun c_5 => absurd c_5 (by decide)) (fun c_5 => ?_)
  refine V_aload_n hX dX0_poll_8 1 rfl ?_
  refine V_get (v := .ref (b 2)) hX cbX0 2 0 (by decide) wf_X0_15 rfl rfl rfl rfl dX0_poll_9 ?_
  refine V_iload_n hX dX0_poll_12 0 rfl ?_
  refine V_aload_n hX dX0_poll_13 1 rfl ?_
  refine V_aload_n hX dX0_poll_14 2 rfl ?_
  refine V_iload_n hX dX0_poll_15 0 rfl ?_
  refine V_cV (st := [.int (jI 4), .ref (b 2)]) (v := .int (jI (vtR s lob 4))) (w' := bB G b lob (vtW s lob 4 (vtW s lob 3 (vtW s lob 2 (vtW s lob 1 (vtW s lob 0 W))))) (up (up (up (up vf 0 (vtR s lob 0)) 1 (vtR s lob 1)) 2 (vtR s lob 2)) 3 (vtR s lob 3)) ++ hB G h s) hX wc_X0_72 (c_X0_voteOf l G b lob (vtW s lob 3 (vtW s lob 2 (vtW s lob 1 (vtW s lob 0 W)))) (up (up (up (up vf 0 (vtR s lob 0)) 1 (vtR s lob 1)) 2 (vtR s lob 2)) 3 (vtR s lob 3)) h s t 4 hI (by omega)) (by decide) (by decide) rfl rfl (Nat.le_of_ble_eq_true rfl) dX0_poll_16 [] ([]) (by simp only [List.append_assoc, List.nil_append, List.append_nil]) 0 rfl rfl (by simp only [List.append_assoc, List.nil_append, List.append_nil]) rfl rfl ?_
  refine V_iast (i0 := 4) (w' := bB G b lob (vtW s lob 4 (vtW s lob 3 (vtW s lob 2 (vtW s lob 1 (vtW s lob 0 W))))) (up (up (up (up (up vf 0 (vtR s lob 0)) 1 (vtR s lob 1)) 2 (vtR s lob 2)) 3 (vtR s lob 3)) 4 (vtR s lob 4)) ++ hB G h s) hX 2 rfl (by decide) (by decide) (by decide) rfl dX0_poll_19 (set_l (bB_v G _ _ _ _ _ _) (Nat.le_of_ble_eq_true rfl)) ?_
  refine V_iinc (b := 5) (lv' := [(2, .int (jI 5)), (0, .ref (b 0)), (1, .ref (h 0))]) hX dX0_poll_20 0 rfl rfl (by decide) rfl ?_
  refine V_goto (tgt := 2) hX dX0_poll_23 (by decide) ?_
  refine V_iload_n hX dX0_poll_2 0 rfl ?_
  refine V_bipush hX dX0_poll_3 (by decide) ?_
  refine V_icmp_ge (tgt := 26) hX dX0_poll_5 (by decide) (by decide) (by decide) (fun c_6 => absurd c_6 (by decide)) (fun c_6 => ?_)
  refine V_aload_n hX dX0_poll_8 1 rfl ?_
  refine V_get (v := .ref (b 2)) hX cbX0 2 0 (by decide) wf_X0_15 rfl rfl rfl rfl dX0_poll_9 ?_
  refine V_iload_n hX dX0_poll_12 0 rfl ?_
  refine V_aload_n hX dX0_poll_13 1 rfl ?_
  refine V_aload_n hX dX0_poll_14 2 rfl ?_
  refine V_iload_n hX dX0_poll_15 0 rfl ?_
  refine V_cV (st := [.int (jI 5), .ref (b 2)]) (v := .int (jI (vtR s lob 5))) (w' := bB G b lob (vtW s lob 5 (vtW s lob 4 (vtW s lob 3 (vtW s lob 2 (vtW s lob 1 (vtW s lob 0 W)))))) (up (up (up (up (up vf 0 (vtR s lob 0)) 1 (vtR s lob 1)) 2 (vtR s lob 2)) 3 (vtR s lob 3)) 4 (vtR s lob 4)) ++ hB G h s) hX wc_X0_72 (c_X0_voteOf l G b lob (vtW s lob 4 (vtW s lob 3 (vtW s lob 2 (vtW s lob 1 (vtW s lob 0 W))))) (up (up (up (up (up vf 0 (vtR s lob 0)) 1 (vtR s lob 1)) 2 (vtR s lob 2)) 3 (vtR s lob 3)) 4 (vtR s lob 4)) h s t 5 hI (by omega)) (by decide) (by decide) rfl rfl (Nat.le_of_ble_eq_true rfl) dX0_poll_16 [] ([]) (by simp only [List.append_assoc, List.nil_append, List.append_nil]) 0 rfl rfl (by simp only [List.append_assoc, List.nil_append, List.append_nil]) rfl rfl ?_
  refine V_iast (i0 := 5) (w' := bB G b lob (vtW s lob 5 (vtW s lob 4 (vtW s lob 3 (vtW s lob 2 (vtW s lob 1 (vtW s lob 0 W)))))) (up (up (up (up (up (up vf 0 (vtR s lob 0)) 1 (vtR s lob 1)) 2 (vtR s lob 2)) 3 (vtR s lob 3)) 4 (vtR s lob 4)) 5 (vtR s lob 5)) ++ hB G h s) hX 2 rfl (by decide) (by decide) (by decide) rfl dX0_poll_19 (set_l (bB_v G _ _ _ _ _ _) (Nat.le_of_ble_eq_true rfl)) ?_
  refine V_iinc (b := 6) (lv' := [(2, .int (jI 6)), (0, .ref (b 0)), (1, .ref (h 0))]) hX dX0_poll_20 0 rfl rfl (by decide) rfl ?_
  refine V_goto (tgt := 2) hX dX0_poll_23 (by decide) ?_
  refine V_iload_n hX dX0_poll_2 0 rfl ?_
  refine V_bipush hX dX0_poll_3 (by decide) ?_
  refine V_icmp_ge (tgt := 26) hX dX0_poll_5 (by decide) (by decide) (by decide) (fun c_7 => ?_) (fun c_7 => absurd c_7 (by decide))
  refine V.fn hX 2 (g := mI (pvF s lob)) (w' := bB G b lob (vtW s lob 5 (vtW s lob 4 (vtW s lob 3 (vtW s lob 2 (vtW s lob 1 (vtW s lob 0 W)))))) (pvF s lob) ++ hB G h s) rfl (pv_fn s lob vf) rfl ?_
  exact V_vret hX hR dX0_poll_26 ⟨rfl, rfl⟩

set_option maxHeartbeats 4000000 in
set_option maxRecDepth 100000 in
theorem c_X0_hasMajority (l : Launch) (G : vC) (b : Nat → Nat) (lob : Bool) (W : Nat → Nat) (vf : Nat → Int) (h : Nat → Nat) (s : Nat → Int) (t : Int) (w : Int) (hI : Inv t s) (hv : ∀ f, f < 6 → vf f = -5 ∨ (0 ≤ vf f ∧ vf f ≤ 3)) (hw : iR w) : Fn l G yX0_hasMajority cX0_hasMajority 5 (some .boolean) ({ frames := 1, cells := 0, slots := 0, locals := 22 } : Room) [.ref (b 0), .ref (h 0), .int (jI w)] (bB G b lob W vf ++ hB G h s) (some (.int (jI (bI (mjP s vf w))))) (bB G b lob W vf ++ hB G h s) := by
  refine Ct.of (by decide) (Nat.le_of_ble_eq_true rfl) (fun X hX hR => ?_)
  refine V.toLv (lv' := [(0, .ref (b 0)), (1, .ref (h 0)), (2, .int (jI w))]) rfl ?_
  have hb := hI.base
  refine V_iconst hX dX0_hasMajority_0 ?_
  refine V_istore_n (i := 3) (lv' := [(3, .int (jI 0)), (0, .ref (b 0)), (1, .ref (h 0)), (2, .int (jI w))]) hX dX0_hasMajority_1 rfl (by decide) rfl ?_
  refine V_iconst hX dX0_hasMajority_2 ?_
  refine V_istore (i := 4) (lv' := [(4, .int (jI 0)), (3, .int (jI 0)), (0, .ref (b 0)), (1, .ref (h 0)), (2, .int (jI w))]) hX dX0_hasMajority_3 (by decide) rfl ?_
  have L5_q_1 : ∀ k : Nat, k ≤ 6 → ∀ (i : Int) (acc : Int), (i = (k : Int)) → (acc = hsN s vf w k) → V X 0 0 (bB G b lob W vf ++ hB G h s) [(4, .int (jI i)), (3, .int (jI acc)), (0, .ref (b 0)), (1, .ref (h 0)), (2, .int (jI w))] 5 [] := by
    refine up_ind (fun k => ∀ (i : Int) (acc : Int), (i = (k : Int)) → (acc = hsN s vf w k) → V X 0 0 (bB G b lob W vf ++ hB G h s) [(4, .int (jI i)), (3, .int (jI acc)), (0, .ref (b 0)), (1, .ref (h 0)), (2, .int (jI w))] 5 []) (6) ?_
    intro k hk ih i acc hi hacc
    have hsb := hsN_b hI vf w k hk
    refine V_iload hX dX0_hasMajority_5 0 rfl ?_
    refine V_bipush hX dX0_hasMajority_7 (by decide) ?_
    refine V_icmp_ge (tgt := 39) hX dX0_hasMajority_9 (by decide) (by omega) (by decide) (fun c_2 => ?_) (fun c_2 => ?_)
    · have hk6 : k = 6 := by omega
      subst hk6
      have hall := allS_b hI
      have hal : sumK (fun k => s (11 + k)) 6 = allS s := rfl
      refine V_iconst hX dX0_hasMajority_39 ?_
      refine V_iload_n hX dX0_hasMajority_40 1 rfl ?_
      refine V_imul hX dX0_hasMajority_41 rfl ?_
      refine V_aload_n hX dX0_hasMajority_42 3 rfl ?_
      refine V_getN (v := .ref (h 9)) hX cbX1 8 3 (by decide) wf_X0_94 rfl rfl rfl rfl dX0_hasMajority_43 ?_
      refine V_cSN (st := [.int (jI (2 * acc))]) (v := .int (jI (sumK (fun k => s (11 + k)) 6))) (w' := bB G b lob W vf ++ hB G h s) hX wc_X0_97 (c_X4_sumOf l G (h 9) 6 (hse s) (fun k => s (11 + k)) (by decide) (fun _ hk => if_pos hk)) (by decide) (by decide) rfl rfl (Nat.le_of_ble_eq_true rfl) dX0_hasMajority_46 ((bB G b lob W vf ++ hB G h s).take 12) ((bB G b lob W vf ++ hB G h s).drop 13) rfl rfl rfl rfl ?_
      refine V_icmp_le (tgt := 56) hX dX0_hasMajority_49 (by decide) (by omega) (by omega) (fun c_3 => ?_) (fun c_3 => ?_)
      · refine V_iconst hX dX0_hasMajority_56 ?_
        exact V_zret hX hR rfl dX0_hasMajority_57 ⟨(congrArg (fun z => some (Value.int (jI z))) (bI_f (by omega)).symm), rfl⟩
      · refine V_iconst hX dX0_hasMajority_52 ?_
        refine V_goto (tgt := 57) hX dX0_hasMajority_53 (by decide) ?_
        exact V_zret hX hR rfl dX0_hasMajority_57 ⟨(congrArg (fun z => some (Value.int (jI z))) (bI_t (by omega)).symm), rfl⟩
    · have hvk := hv k (by omega)
      refine V_aload_n hX dX0_hasMajority_12 2 rfl ?_
      refine V_get (v := .ref (b 2)) hX cbX0 2 0 (by decide) wf_X0_15 rfl rfl rfl rfl dX0_hasMajority_13 ?_
      refine V_iload hX dX0_hasMajority_16 0 rfl ?_
      refine V_iald (i0 := k) (r := (jI (vf k))) hX 2 rfl (by omega) (by omega) (by omega) (by omega) rfl dX0_hasMajority_18 ?_
      refine V_iload_n hX dX0_hasMajority_19 4 rfl ?_
      refine V_icmp_ne (tgt := 33) hX dX0_hasMajority_20 (by decide) (by omega) (by omega) (fun c_4 => ?_) (fun c_4 => ?_)
      · refine V_iinc (b := i + 1) (lv' := [(4, .int (jI (i + 1))), (3, .int (jI acc)), (0, .ref (b 0)), (1, .ref (h 0)), (2, .int (jI w))]) hX dX0_hasMajority_33 0 rfl rfl (by decide) rfl ?_
        refine V_goto (tgt := 5) hX dX0_hasMajority_36 (by decide) ?_
        refine V.sub [0, 1, 2, 3, 4] rfl ?_
        exact ih (by omega) _ _ (by omega) (by rw [hsN_s]; split <;> omega)
      · refine V_iload_n hX dX0_hasMajority_23 1 rfl ?_
        refine V_aload_n hX dX0_hasMajority_24 3 rfl ?_
        refine V_getN (v := .ref (h 9)) hX cbX1 8 3 (by decide) wf_X0_94 rfl rfl rfl rfl dX0_hasMajority_25 ?_
        refine V_iload hX dX0_hasMajority_28 0 rfl ?_
        refine V_iald (i0 := k) (r := (jI (s (11 + k)))) hX 12 rfl (by omega) (by omega) (by omega) (by omega) (by show (if k < 6 then jI (s (11 + k)) else 0) = jI (s (11 + k)); rw [if_pos (by omega)]) dX0_hasMajority_30 ?_
        refine V_iadd hX dX0_hasMajority_31 rfl ?_
        refine V_istore_n (i := 3) (lv' := [(3, .int (jI (acc + (s (11 + k))))), (4, .int (jI i)), (0, .ref (b 0)), (1, .ref (h 0)), (2, .int (jI w))]) hX dX0_hasMajority_32 rfl (by decide) rfl ?_
        refine V_iinc (b := i + 1) (lv' := [(4, .int (jI (i + 1))), (3, .int (jI (acc + (s (11 + k))))), (0, .ref (b 0)), (1, .ref (h 0)), (2, .int (jI w))]) hX dX0_hasMajority_33 1 rfl rfl (by decide) rfl ?_
        refine V_goto (tgt := 5) hX dX0_hasMajority_36 (by decide) ?_
        refine V.sub [0, 1, 2, 3, 4] rfl ?_
        exact ih (by omega) _ _ (by omega) (by rw [hsN_s]; split <;> omega)
  refine V.sub [0, 1, 2, 3, 4] rfl ?_
  exact L5_q_1 0 (Nat.zero_le _) 0 0 rfl rfl

set_option maxHeartbeats 4000000 in
set_option maxRecDepth 100000 in
theorem c_X0_bySeats (l : Launch) (G : vC) (b : Nat → Nat) (lob : Bool) (W : Nat → Nat) (vf : Nat → Int) (h : Nat → Nat) (s : Nat → Int) (t : Int) (hI : Inv t s) (hv : ∀ f, f < 6 → vf f = -5 ∨ (0 ≤ vf f ∧ vf f ≤ 3)) : Fn l G yX0_bySeats cX0_bySeats 3 (some .int) ({ frames := 2, cells := 0, slots := 0, locals := 46 } : Room) [.ref (b 0), .ref (h 0)] (bB G b lob W vf ++ hB G h s) (some (.int (jI (bsR s vf)))) (bB G b lob W vf ++ hB G h s) := by
  refine Ct.of (by decide) (Nat.le_of_ble_eq_true rfl) (fun X hX hR => ?_)
  refine V.toLv (lv' := [(0, .ref (b 0)), (1, .ref (h 0))]) rfl ?_
  have hb := hI.base
  refine V_iconst hX dX0_bySeats_0 ?_
  refine V_istore_n (i := 2) (lv' := [(2, .int (jI 0)), (0, .ref (b 0)), (1, .ref (h 0))]) hX dX0_bySeats_1 rfl (by decide) rfl ?_
  refine V_iload_n hX dX0_bySeats_2 0 rfl ?_
  refine V_iconst hX dX0_bySeats_3 ?_
  refine V_icmp_ge (tgt := 24) hX dX0_bySeats_4 (by decide) (by decide) (by decide) (fun c_1 => absurd c_1 (by decide)) (fun c_1 => ?_)
  refine V_aload_n hX dX0_bySeats_7 1 rfl ?_
  refine V_aload_n hX dX0_bySeats_8 2 rfl ?_
  refine V_iload_n hX dX0_bySeats_9 0 rfl ?_
  refine V_cV (st := []) (v := .int (jI (bI (mjP s vf 0)))) (w' := bB G b lob W vf ++ hB G h s) hX wc_X0_83 (c_X0_hasMajority l G b lob W vf h s t 0 hI hv (by omega)) (by decide) (by decide) rfl rfl (Nat.le_of_ble_eq_true rfl) dX0_bySeats_10 [] ([]) (by simp only [List.append_assoc, List.nil_append, List.append_nil]) 0 rfl rfl (by simp only [List.append_assoc, List.nil_append, List.append_nil]) rfl rfl ?_
  refine V_ifz (tgt := 18) hX dX0_bySeats_13 (by decide) (fun c_2 => ?_) (fun c_2 => ?_)
  · refine V_iinc (b := 1) (lv' := [(2, .int (jI 1)), (0, .ref (b 0)), (1, .ref (h 0))]) hX dX0_bySeats_18 0 rfl rfl (by decide) rfl ?_
    refine V_goto (tgt := 2) hX dX0_bySeats_21 (by decide) ?_
    refine V_iload_n hX dX0_bySeats_2 0 rfl ?_
    refine V_iconst hX dX0_bySeats_3 ?_
    refine V_icmp_ge (tgt := 24) hX dX0_bySeats_4 (by decide) (by decide) (by decide) (fun c_3 => absurd c_3 (by decide)) (fun c_3 => ?_)
    refine V_aload_n hX dX0_bySeats_7 1 rfl ?_
    refine V_aload_n hX dX0_bySeats_8 2 rfl ?_
    refine V_iload_n hX dX0_bySeats_9 0 rfl ?_
    refine V_cV (st := []) (v := .int (jI (bI (mjP s vf 1)))) (w' := bB G b lob W vf ++ hB G h s) hX wc_X0_83 (c_X0_hasMajority l G b lob W vf h s t 1 hI hv (by omega)) (by decide) (by decide) rfl rfl (Nat.le_of_ble_eq_true rfl) dX0_bySeats_10 [] ([]) (by simp only [List.append_assoc, List.nil_append, List.append_nil]) 0 rfl rfl (by simp only [List.append_assoc, List.nil_append, List.append_nil]) rfl rfl ?_
    refine V_ifz (tgt := 18) hX dX0_bySeats_13 (by decide) (fun c_4 => ?_) (fun c_4 => ?_)
    · refine V_iinc (b := 2) (lv' := [(2, .int (jI 2)), (0, .ref (b 0)), (1, .ref (h 0))]) hX dX0_bySeats_18 0 rfl rfl (by decide) rfl ?_
      refine V_goto (tgt := 2) hX dX0_bySeats_21 (by decide) ?_
      refine V_iload_n hX dX0_bySeats_2 0 rfl ?_
      refine V_iconst hX dX0_bySeats_3 ?_
      refine V_icmp_ge (tgt := 24) hX dX0_bySeats_4 (by decide) (by decide) (by decide) (fun c_5 => absurd c_5 (by decide)) (fun c_5 => ?_)
      refine V_aload_n hX dX0_bySeats_7 1 rfl ?_
      refine V_aload_n hX dX0_bySeats_8 2 rfl ?_
      refine V_iload_n hX dX0_bySeats_9 0 rfl ?_
      refine V_cV (st := []) (v := .int (jI (bI (mjP s vf 2)))) (w' := bB G b lob W vf ++ hB G h s) hX wc_X0_83 (c_X0_hasMajority l G b lob W vf h s t 2 hI hv (by omega)) (by decide) (by decide) rfl rfl (Nat.le_of_ble_eq_true rfl) dX0_bySeats_10 [] ([]) (by simp only [List.append_assoc, List.nil_append, List.append_nil]) 0 rfl rfl (by simp only [List.append_assoc, List.nil_append, List.append_nil]) rfl rfl ?_
      refine V_ifz (tgt := 18) hX dX0_bySeats_13 (by decide) (fun c_6 => ?_) (fun c_6 => ?_)
      · refine V_iinc (b := 3) (lv' := [(2, .int (jI 3)), (0, .ref (b 0)), (1, .ref (h 0))]) hX dX0_bySeats_18 0 rfl rfl (by decide) rfl ?_
        refine V_goto (tgt := 2) hX dX0_bySeats_21 (by decide) ?_
        refine V_iload_n hX dX0_bySeats_2 0 rfl ?_
        refine V_iconst hX dX0_bySeats_3 ?_
        refine V_icmp_ge (tgt := 24) hX dX0_bySeats_4 (by decide) (by decide) (by decide) (fun c_7 => absurd c_7 (by decide)) (fun c_7 => ?_)
        refine V_aload_n hX dX0_bySeats_7 1 rfl ?_
        refine V_aload_n hX dX0_bySeats_8 2 rfl ?_
        refine V_iload_n hX dX0_bySeats_9 0 rfl ?_
        refine V_cV (st := []) (v := .int (jI (bI (mjP s vf 3)))) (w' := bB G b lob W vf ++ hB G h s) hX wc_X0_83 (c_X0_hasMajority l G b lob W vf h s t 3 hI hv (by omega)) (by decide) (by decide) rfl rfl (Nat.le_of_ble_eq_true rfl) dX0_bySeats_10 [] ([]) (by simp only [List.append_assoc, List.nil_append, List.append_nil]) 0 rfl rfl (by simp only [List.append_assoc, List.nil_append, List.append_nil]) rfl rfl ?_
        refine V_ifz (tgt := 18) hX dX0_bySeats_13 (by decide) (fun c_8 => ?_) (fun c_8 => ?_)
        · refine V_iinc (b := 4) (lv' := [(2, .int (jI 4)), (0, .ref (b 0)), (1, .ref (h 0))]) hX dX0_bySeats_18 0 rfl rfl (by decide) rfl ?_
          refine V_goto (tgt := 2) hX dX0_bySeats_21 (by decide) ?_
          refine V_iload_n hX dX0_bySeats_2 0 rfl ?_
          refine V_iconst hX dX0_bySeats_3 ?_
          refine V_icmp_ge (tgt := 24) hX dX0_bySeats_4 (by decide) (by decide) (by decide) (fun c_9 => ?_) (fun c_9 => absurd c_9 (by decide))
          refine V_bipush hX dX0_bySeats_24 (by decide) ?_
          exact V_iret hX hR dX0_bySeats_26 ⟨(congrArg (fun z => some (Value.int (jI z))) (by unfold bsR; (repeat' split) <;> first | rfl | omega)), rfl⟩
        · refine V_iload_n hX dX0_bySeats_16 0 rfl ?_
          exact V_iret hX hR dX0_bySeats_17 ⟨(congrArg (fun z => some (Value.int (jI z))) (by unfold bsR; (repeat' split) <;> first | rfl | omega)), rfl⟩
      · refine V_iload_n hX dX0_bySeats_16 0 rfl ?_
        exact V_iret hX hR dX0_bySeats_17 ⟨(congrArg (fun z => some (Value.int (jI z))) (by unfold bsR; (repeat' split) <;> first | rfl | omega)), rfl⟩
    · refine V_iload_n hX dX0_bySeats_16 0 rfl ?_
      exact V_iret hX hR dX0_bySeats_17 ⟨(congrArg (fun z => some (Value.int (jI z))) (by unfold bsR; (repeat' split) <;> first | rfl | omega)), rfl⟩
  · refine V_iload_n hX dX0_bySeats_16 0 rfl ?_
    exact V_iret hX hR dX0_bySeats_17 ⟨(congrArg (fun z => some (Value.int (jI z))) (by unfold bsR; (repeat' split) <;> first | rfl | omega)), rfl⟩

set_option maxHeartbeats 4000000 in
set_option maxRecDepth 100000 in
theorem c_X0_decide (l : Launch) (G : vC) (b : Nat → Nat) (lob : Bool) (W : Nat → Nat) (vf : Nat → Int) (h : Nat → Nat) (s : Nat → Int) (t : Int) (hI : Inv t s) : Fn l G yX0_decide cX0_decide 2 (some .int) ({ frames := 4, cells := 0, slots := 0, locals := 93 } : Room) [.ref (b 0), .ref (h 0)] (bB G b lob W vf ++ hB G h s) (some (.int (jI (bsR s (pvF s lob))))) (bB G b lob (plW s lob W 6) (pvF s lob) ++ hB G h s) := by
  refine Ct.of (by decide) (Nat.le_of_ble_eq_true rfl) (fun X hX hR => ?_)
  refine V.toLv (lv' := [(0, .ref (b 0)), (1, .ref (h 0))]) rfl ?_
  have hb := hI.base
  refine V_aload_n hX dX0_decide_0 0 rfl ?_
  refine V_aload_n hX dX0_decide_1 1 rfl ?_
  refine V_dV (st := []) (w' := bB G b lob (plW s lob W 6) (pvF s lob) ++ hB G h s) hX wc_X0_75 (c_X0_poll l G b lob W vf h s t hI) (by decide) (by decide) rfl rfl (Nat.le_of_ble_eq_true rfl) dX0_decide_2 [] ([]) (by simp only [List.append_assoc, List.nil_append, List.append_nil]) 0 rfl rfl (by simp only [List.append_assoc, List.nil_append, List.append_nil]) rfl rfl ?_
  refine V_aload_n hX dX0_decide_5 0 rfl ?_
  refine V_aload_n hX dX0_decide_6 1 rfl ?_
  refine V_cV (st := []) (v := .int (jI (bsR s (pvF s lob)))) (w' := bB G b lob (plW s lob W 6) (pvF s lob) ++ hB G h s) hX wc_X0_79 (c_X0_bySeats l G b lob (plW s lob W 6) (pvF s lob) h s t hI (fun f hf => vtR_b hI lob (f : Int))) (by decide) (by decide) rfl rfl (Nat.le_of_ble_eq_true rfl) dX0_decide_7 [] ([]) (by simp only [List.append_assoc, List.nil_append, List.append_nil]) 0 rfl rfl (by simp only [List.append_assoc, List.nil_append, List.append_nil]) rfl rfl ?_
  exact V_iret hX hR dX0_decide_10 ⟨rfl, rfl⟩

set_option maxHeartbeats 4000000 in
set_option maxRecDepth 100000 in
theorem c_X0_leftByPairs (l : Launch) (G : vC) (b : Nat → Nat) (lob : Bool) (W : Nat → Nat) (vf : Nat → Int) (h : Nat → Nat) (s : Nat → Int) (t : Int) (hI : Inv t s) (hv : ∀ f, f < 6 → vf f = -5 ∨ (0 ≤ vf f ∧ vf f ≤ 3)) : Fn l G yX0_leftByPairs cX0_leftByPairs 6 (some .int) ({ frames := 2, cells := 0, slots := 0, locals := 42 } : Room) [.ref (b 0), .ref (h 0)] (bB G b lob W vf ++ hB G h s) (some (.int (jI ((lbW s vf 6).1)))) (bB G b lob W vf ++ hB G h s) := by
  refine Ct.of (by decide) (Nat.le_of_ble_eq_true rfl) (fun X hX hR => ?_)
  refine V.toLv (lv' := [(0, .ref (b 0)), (1, .ref (h 0))]) rfl ?_
  have hb := hI.base
  refine V_bipush hX dX0_leftByPairs_0 (by decide) ?_
  refine V_istore_n (i := 2) (lv' := [(2, .int (jI (-5))), (0, .ref (b 0)), (1, .ref (h 0))]) hX dX0_leftByPairs_2 rfl (by decide) rfl ?_
  refine V_iconst hX dX0_leftByPairs_3 ?_
  refine V_istore_n (i := 3) (lv' := [(3, .int (jI 0)), (2, .int (jI (-5))), (0, .ref (b 0)), (1, .ref (h 0))]) hX dX0_leftByPairs_4 rfl (by decide) rfl ?_
  refine V_iconst hX dX0_leftByPairs_5 ?_
  refine V_istore (i := 4) (lv' := [(4, .int (jI 0)), (3, .int (jI 0)), (2, .int (jI (-5))), (0, .ref (b 0)), (1, .ref (h 0))]) hX dX0_leftByPairs_6 (by decide) rfl ?_
  have L8_q_1 : ∀ k : Nat, k ≤ 6 → ∀ (i : Int) (y : Int) (lf : Int), (i = (k : Int)) → (y = (lbW s vf k).1) → (lf = (lbW s vf k).2) → V X 0 0 (bB G b lob W vf ++ hB G h s) [(4, .int (jI i)), (2, .int (jI y)), (3, .int (jI lf)), (0, .ref (b 0)), (1, .ref (h 0))] 8 [] := by
    refine up_ind (fun k => ∀ (i : Int) (y : Int) (lf : Int), (i = (k : Int)) → (y = (lbW s vf k).1) → (lf = (lbW s vf k).2) → V X 0 0 (bB G b lob W vf ++ hB G h s) [(4, .int (jI i)), (2, .int (jI y)), (3, .int (jI lf)), (0, .ref (b 0)), (1, .ref (h 0))] 8 []) (6) ?_
    intro k hk ih i y lf hi hy hlf
    have hlb := lbW_b hI vf hv k hk
    refine V_iload hX dX0_leftByPairs_8 0 rfl ?_
    refine V_bipush hX dX0_leftByPairs_10 (by decide) ?_
    refine V_icmp_ge (tgt := 76) hX dX0_leftByPairs_12 (by decide) (by omega) (by decide) (fun c_2 => ?_) (fun c_2 => ?_)
    · refine V_iload_n hX dX0_leftByPairs_76 1 rfl ?_
      exact V_iret hX hR dX0_leftByPairs_77 ⟨(congrArg (fun z => some (Value.int (jI z))) (by rw [hy, show k = 6 by omega])), rfl⟩
    · have hvk := hv k (by omega)
      have hse := hI.se k (by omega)
      refine V_aload_n hX dX0_leftByPairs_15 3 rfl ?_
      refine V_get (v := .ref (b 2)) hX cbX0 2 0 (by decide) wf_X0_15 rfl rfl rfl rfl dX0_leftByPairs_16 ?_
      refine V_iload hX dX0_leftByPairs_19 0 rfl ?_
      refine V_iald (i0 := k) (r := (jI (vf k))) hX 2 rfl (by omega) (by omega) (by omega) (by omega) rfl dX0_leftByPairs_21 ?_
      refine V_istore (i := 5) (lv' := [(5, .int (jI (vf k))), (4, .int (jI i)), (2, .int (jI y)), (3, .int (jI lf)), (0, .ref (b 0)), (1, .ref (h 0))]) hX dX0_leftByPairs_22 (by decide) rfl ?_
      refine V_iload hX dX0_leftByPairs_24 0 rfl ?_
      refine V_cSN (st := []) (v := .int (jI (bI (0 ≤ (vf k) ∧ (vf k) ≤ 3)))) (w' := bB G b lob W vf ++ hB G h s) hX wc_X0_90 (c_X4_isWay l G (vf k) (by omega)) (by decide) (by decide) rfl rfl (Nat.le_of_ble_eq_true rfl) dX0_leftByPairs_26 [] (bB G b lob W vf ++ hB G h s) (by simp only [List.append_assoc, List.nil_append, List.append_nil]) (by simp only [List.append_assoc, List.nil_append, List.append_nil]) rfl rfl ?_
      refine V_ifz (tgt := 60) hX dX0_leftByPairs_29 (by decide) (fun c_3 => ?_) (fun c_3 => ?_)
      · refine V_iload_n hX dX0_leftByPairs_60 3 rfl ?_
        refine V_if_ge (tgt := 70) hX dX0_leftByPairs_61 (by decide) (by omega) (fun c_4 => ?_) (fun c_4 => ?_)
        · refine V_iinc (b := i + 1) (lv' := [(4, .int (jI (i + 1))), (5, .int (jI (vf k))), (2, .int (jI y)), (3, .int (jI lf)), (0, .ref (b 0)), (1, .ref (h 0))]) hX dX0_leftByPairs_70 1 rfl rfl (by decide) rfl ?_
          refine V_goto (tgt := 8) hX dX0_leftByPairs_73 (by decide) ?_
          refine V.sub [0, 2, 3, 4, 5] rfl ?_
          exact ih (by omega) _ _ _ (by omega) (by rw [lbW_s]; simp only []; (repeat' split) <;> simp only [] <;> omega) (by rw [lbW_s]; simp only []; (repeat' split) <;> simp only [] <;> omega)
        · refine V_iload hX dX0_leftByPairs_64 0 rfl ?_
          refine V_istore_n (i := 2) (lv' := [(2, .int (jI (vf k))), (5, .int (jI (vf k))), (4, .int (jI i)), (3, .int (jI lf)), (0, .ref (b 0)), (1, .ref (h 0))]) hX dX0_leftByPairs_66 rfl (by decide) rfl ?_
          refine V_iload_n hX dX0_leftByPairs_67 3 rfl ?_
          refine V_ineg hX dX0_leftByPairs_68 rfl ?_
          refine V_istore_n (i := 3) (lv' := [(3, .int (jI (-lf))), (2, .int (jI (vf k))), (5, .int (jI (vf k))), (4, .int (jI i)), (0, .ref (b 0)), (1, .ref (h 0))]) hX dX0_leftByPairs_69 rfl (by decide) rfl ?_
          refine V_iinc (b := i + 1) (lv' := [(4, .int (jI (i + 1))), (3, .int (jI (-lf))), (2, .int (jI (vf k))), (5, .int (jI (vf k))), (0, .ref (b 0)), (1, .ref (h 0))]) hX dX0_leftByPairs_70 3 rfl rfl (by decide) rfl ?_
          refine V_goto (tgt := 8) hX dX0_leftByPairs_73 (by decide) ?_
          refine V.sub [0, 2, 1, 4, 5] rfl ?_
          exact ih (by omega) _ _ _ (by omega) (by rw [lbW_s]; simp only []; (repeat' split) <;> simp only [] <;> omega) (by rw [lbW_s]; simp only []; (repeat' split) <;> simp only [] <;> omega)
      · refine V_iload hX dX0_leftByPairs_32 0 rfl ?_
        refine V_iload_n hX dX0_leftByPairs_34 2 rfl ?_
        refine V_icmp_ne (tgt := 50) hX dX0_leftByPairs_35 (by decide) (by omega) (by omega) (fun c_5 => ?_) (fun c_5 => ?_)
        · refine V_iload_n hX dX0_leftByPairs_50 3 rfl ?_
          refine V_aload_n hX dX0_leftByPairs_51 5 rfl ?_
          refine V_getN (v := .ref (h 9)) hX cbX1 8 3 (by decide) wf_X0_94 rfl rfl rfl rfl dX0_leftByPairs_52 ?_
          refine V_iload hX dX0_leftByPairs_55 1 rfl ?_
          refine V_iald (i0 := k) (r := (jI (s (11 + k)))) hX 12 rfl (by omega) (by omega) (by omega) (by omega) (by show (if k < 6 then jI (s (11 + k)) else 0) = jI (s (11 + k)); rw [if_pos (by omega)]) dX0_leftByPairs_57 ?_
          refine V_isub hX dX0_leftByPairs_58 rfl ?_
          refine V_istore_n (i := 3) (lv' := [(3, .int (jI (lf - (s (11 + k))))), (5, .int (jI (vf k))), (4, .int (jI i)), (2, .int (jI y)), (0, .ref (b 0)), (1, .ref (h 0))]) hX dX0_leftByPairs_59 rfl (by decide) rfl ?_
          refine V_iload_n hX dX0_leftByPairs_60 0 rfl ?_
          refine V_if_ge (tgt := 70) hX dX0_leftByPairs_61 (by decide) (by omega) (fun c_6 => ?_) (fun c_6 => ?_)
          · refine V_iinc (b := i + 1) (lv' := [(4, .int (jI (i + 1))), (3, .int (jI (lf - (s (11 + k))))), (5, .int (jI (vf k))), (2, .int (jI y)), (0, .ref (b 0)), (1, .ref (h 0))]) hX dX0_leftByPairs_70 2 rfl rfl (by decide) rfl ?_
            refine V_goto (tgt := 8) hX dX0_leftByPairs_73 (by decide) ?_
            refine V.sub [0, 3, 1, 4, 5] rfl ?_
            exact ih (by omega) _ _ _ (by omega) (by rw [lbW_s]; simp only []; (repeat' split) <;> simp only [] <;> omega) (by rw [lbW_s]; simp only []; (repeat' split) <;> simp only [] <;> omega)
          · refine V_iload hX dX0_leftByPairs_64 1 rfl ?_
            refine V_istore_n (i := 2) (lv' := [(2, .int (jI (vf k))), (3, .int (jI (lf - (s (11 + k))))), (5, .int (jI (vf k))), (4, .int (jI i)), (0, .ref (b 0)), (1, .ref (h 0))]) hX dX0_leftByPairs_66 rfl (by decide) rfl ?_
            refine V_iload_n hX dX0_leftByPairs_67 1 rfl ?_
            refine V_ineg hX dX0_leftByPairs_68 rfl ?_
            refine V_istore_n (i := 3) (lv' := [(3, .int (jI (-(lf - (s (11 + k)))))), (2, .int (jI (vf k))), (5, .int (jI (vf k))), (4, .int (jI i)), (0, .ref (b 0)), (1, .ref (h 0))]) hX dX0_leftByPairs_69 rfl (by decide) rfl ?_
            refine V_iinc (b := i + 1) (lv' := [(4, .int (jI (i + 1))), (3, .int (jI (-(lf - (s (11 + k)))))), (2, .int (jI (vf k))), (5, .int (jI (vf k))), (0, .ref (b 0)), (1, .ref (h 0))]) hX dX0_leftByPairs_70 3 rfl rfl (by decide) rfl ?_
            refine V_goto (tgt := 8) hX dX0_leftByPairs_73 (by decide) ?_
            refine V.sub [0, 2, 1, 4, 5] rfl ?_
            exact ih (by omega) _ _ _ (by omega) (by rw [lbW_s]; simp only []; (repeat' split) <;> simp only [] <;> omega) (by rw [lbW_s]; simp only []; (repeat' split) <;> simp only [] <;> omega)
        · refine V_iload_n hX dX0_leftByPairs_38 3 rfl ?_
          refine V_aload_n hX dX0_leftByPairs_39 5 rfl ?_
          refine V_getN (v := .ref (h 9)) hX cbX1 8 3 (by decide) wf_X0_94 rfl rfl rfl rfl dX0_leftByPairs_40 ?_
          refine V_iload hX dX0_leftByPairs_43 1 rfl ?_
          refine V_iald (i0 := k) (r := (jI (s (11 + k)))) hX 12 rfl (by omega) (by omega) (by omega) (by omega) (by show (if k < 6 then jI (s (11 + k)) else 0) = jI (s (11 + k)); rw [if_pos (by omega)]) dX0_leftByPairs_45 ?_
          refine V_iadd hX dX0_leftByPairs_46 rfl ?_
          refine V_goto (tgt := 59) hX dX0_leftByPairs_47 (by decide) ?_
          refine V_istore_n (i := 3) (lv' := [(3, .int (jI (lf + (s (11 + k))))), (5, .int (jI (vf k))), (4, .int (jI i)), (2, .int (jI y)), (0, .ref (b 0)), (1, .ref (h 0))]) hX dX0_leftByPairs_59 rfl (by decide) rfl ?_
          refine V_iload_n hX dX0_leftByPairs_60 0 rfl ?_
          refine V_if_ge (tgt := 70) hX dX0_leftByPairs_61 (by decide) (by omega) (fun c_7 => ?_) (fun c_7 => ?_)
          · refine V_iinc (b := i + 1) (lv' := [(4, .int (jI (i + 1))), (3, .int (jI (lf + (s (11 + k))))), (5, .int (jI (vf k))), (2, .int (jI y)), (0, .ref (b 0)), (1, .ref (h 0))]) hX dX0_leftByPairs_70 2 rfl rfl (by decide) rfl ?_
            refine V_goto (tgt := 8) hX dX0_leftByPairs_73 (by decide) ?_
            refine V.sub [0, 3, 1, 4, 5] rfl ?_
            exact ih (by omega) _ _ _ (by omega) (by rw [lbW_s]; simp only []; (repeat' split) <;> simp only [] <;> omega) (by rw [lbW_s]; simp only []; (repeat' split) <;> simp only [] <;> omega)
          · refine V_iload hX dX0_leftByPairs_64 1 rfl ?_
            refine V_istore_n (i := 2) (lv' := [(2, .int (jI (vf k))), (3, .int (jI (lf + (s (11 + k))))), (5, .int (jI (vf k))), (4, .int (jI i)), (0, .ref (b 0)), (1, .ref (h 0))]) hX dX0_leftByPairs_66 rfl (by decide) rfl ?_
            refine V_iload_n hX dX0_leftByPairs_67 1 rfl ?_
            refine V_ineg hX dX0_leftByPairs_68 rfl ?_
            refine V_istore_n (i := 3) (lv' := [(3, .int (jI (-(lf + (s (11 + k)))))), (2, .int (jI (vf k))), (5, .int (jI (vf k))), (4, .int (jI i)), (0, .ref (b 0)), (1, .ref (h 0))]) hX dX0_leftByPairs_69 rfl (by decide) rfl ?_
            refine V_iinc (b := i + 1) (lv' := [(4, .int (jI (i + 1))), (3, .int (jI (-(lf + (s (11 + k)))))), (2, .int (jI (vf k))), (5, .int (jI (vf k))), (0, .ref (b 0)), (1, .ref (h 0))]) hX dX0_leftByPairs_70 3 rfl rfl (by decide) rfl ?_
            refine V_goto (tgt := 8) hX dX0_leftByPairs_73 (by decide) ?_
            refine V.sub [0, 2, 1, 4, 5] rfl ?_
            exact ih (by omega) _ _ _ (by omega) (by rw [lbW_s]; simp only []; (repeat' split) <;> simp only [] <;> omega) (by rw [lbW_s]; simp only []; (repeat' split) <;> simp only [] <;> omega)
  refine V.sub [0, 2, 1, 3, 4] rfl ?_
  exact L8_q_1 0 (Nat.zero_le _) 0 (-5) 0 rfl rfl rfl

set_option maxHeartbeats 4000000 in
set_option maxRecDepth 100000 in
theorem c_X0_decideByPairs (l : Launch) (G : vC) (b : Nat → Nat) (lob : Bool) (W : Nat → Nat) (vf : Nat → Int) (h : Nat → Nat) (s : Nat → Int) (t : Int) (hI : Inv t s) : Fn l G yX0_decideByPairs cX0_decideByPairs 3 (some .int) ({ frames := 4, cells := 0, slots := 0, locals := 93 } : Room) [.ref (b 0), .ref (h 0)] (bB G b lob W vf ++ hB G h s) (some (.int (jI (dpR s (pvF s lob))))) (bB G b lob (plW s lob W 6) (pvF s lob) ++ hB G h s) := by
  refine Ct.of (by decide) (Nat.le_of_ble_eq_true rfl) (fun X hX hR => ?_)
  refine V.toLv (lv' := [(0, .ref (b 0)), (1, .ref (h 0))]) rfl ?_
  have hb := hI.base
  refine V_aload_n hX dX0_decideByPairs_0 0 rfl ?_
  refine V_aload_n hX dX0_decideByPairs_1 1 rfl ?_
  refine V_dV (st := []) (w' := bB G b lob (plW s lob W 6) (pvF s lob) ++ hB G h s) hX wc_X0_75 (c_X0_poll l G b lob W vf h s t hI) (by decide) (by decide) rfl rfl (Nat.le_of_ble_eq_true rfl) dX0_decideByPairs_2 [] ([]) (by simp only [List.append_assoc, List.nil_append, List.append_nil]) 0 rfl rfl (by simp only [List.append_assoc, List.nil_append, List.append_nil]) rfl rfl ?_
  refine V_aload_n hX dX0_decideByPairs_5 0 rfl ?_
  refine V_aload_n hX dX0_decideByPairs_6 1 rfl ?_
  refine V_cV (st := []) (v := .int (jI ((lbW s (pvF s lob) 6).1))) (w' := bB G b lob (plW s lob W 6) (pvF s lob) ++ hB G h s) hX wc_X0_87 (c_X0_leftByPairs l G b lob (plW s lob W 6) (pvF s lob) h s t hI (fun f hf => vtR_b hI lob (f : Int))) (by decide) (by decide) rfl rfl (Nat.le_of_ble_eq_true rfl) dX0_decideByPairs_7 [] ([]) (by simp only [List.append_assoc, List.nil_append, List.append_nil]) 0 rfl rfl (by simp only [List.append_assoc, List.nil_append, List.append_nil]) rfl rfl ?_
  refine V_istore_n (i := 2) (lv' := [(2, .int (jI ((lbW s (pvF s lob) 6).1))), (0, .ref (b 0)), (1, .ref (h 0))]) hX dX0_decideByPairs_10 rfl (by decide) rfl ?_
  have hlb := lbW_b hI (pvF s lob) (fun f hf => vtR_b hI lob (f : Int)) 6 (by decide)
  refine V_iload_n hX dX0_decideByPairs_11 0 rfl ?_
  refine V_cSN (st := []) (v := .int (jI (bI (0 ≤ ((lbW s (pvF s lob) 6).1) ∧ ((lbW s (pvF s lob) 6).1) ≤ 3)))) (w' := bB G b lob (plW s lob W 6) (pvF s lob) ++ hB G h s) hX wc_X0_90 (c_X4_isWay l G ((lbW s (pvF s lob) 6).1) (by omega)) (by decide) (by decide) rfl rfl (Nat.le_of_ble_eq_true rfl) dX0_decideByPairs_12 [] (bB G b lob (plW s lob W 6) (pvF s lob) ++ hB G h s) (by simp only [List.append_assoc, List.nil_append, List.append_nil]) (by simp only [List.append_assoc, List.nil_append, List.append_nil]) rfl rfl ?_
  refine V_ifz (tgt := 31) hX dX0_decideByPairs_15 (by decide) (fun c_1 => ?_) (fun c_1 => ?_)
  · refine V_bipush hX dX0_decideByPairs_31 (by decide) ?_
    exact V_iret hX hR dX0_decideByPairs_33 ⟨(congrArg (fun z => some (Value.int (jI z))) (by unfold dpR; (repeat' split) <;> first | rfl | omega)), rfl⟩
  · refine V_aload_n hX dX0_decideByPairs_18 1 rfl ?_
    refine V_aload_n hX dX0_decideByPairs_19 2 rfl ?_
    refine V_iload_n hX dX0_decideByPairs_20 0 rfl ?_
    refine V_cV (st := []) (v := .int (jI (bI (mjP s (pvF s lob) ((lbW s (pvF s lob) 6).1))))) (w' := bB G b lob (plW s lob W 6) (pvF s lob) ++ hB G h s) hX wc_X0_83 (c_X0_hasMajority l G b lob (plW s lob W 6) (pvF s lob) h s t ((lbW s (pvF s lob) 6).1) hI (fun f hf => vtR_b hI lob (f : Int)) (by omega)) (by decide) (by decide) rfl rfl (Nat.le_of_ble_eq_true rfl) dX0_decideByPairs_21 [] ([]) (by simp only [List.append_assoc, List.nil_append, List.append_nil]) 0 rfl rfl (by simp only [List.append_assoc, List.nil_append, List.append_nil]) rfl rfl ?_
    refine V_ifz (tgt := 31) hX dX0_decideByPairs_24 (by decide) (fun c_2 => ?_) (fun c_2 => ?_)
    · refine V_bipush hX dX0_decideByPairs_31 (by decide) ?_
      exact V_iret hX hR dX0_decideByPairs_33 ⟨(congrArg (fun z => some (Value.int (jI z))) (by unfold dpR; (repeat' split) <;> first | rfl | omega)), rfl⟩
    · refine V_iload_n hX dX0_decideByPairs_27 0 rfl ?_
      refine V_goto (tgt := 33) hX dX0_decideByPairs_28 (by decide) ?_
      exact V_iret hX hR dX0_decideByPairs_33 ⟨(congrArg (fun z => some (Value.int (jI z))) (by unfold dpR; (repeat' split) <;> first | rfl | omega)), rfl⟩
