/-! what the reference tells -/
theorem or_0 (x : Int32) : x ||| jI 0 = x := by
  show x ||| 0 = x
  first | exact Int32.or_zero | simp
def sdZ (s : Nat → Int) (f : Int) : Nat → Nat
  | 0 => 0
  | k + 1 => if s (ix k 0) = f then sdZ s f k + 2 ^ k else sdZ s f k
theorem sdZ_b (s : Nat → Int) (f : Int) : ∀ k, sdZ s f k < 2 ^ k := by
  intro k
  induction k with
  | zero => exact Nat.zero_lt_one
  | succ k ih =>
    have h2 : 2 ^ (k + 1) = 2 ^ k + 2 ^ k := by rw [Nat.pow_succ]; omega
    unfold sdZ
    split <;> omega
theorem sdN_z (s : Nat → Int) (f : Int) : ∀ k, k ≤ 12 → sdN s f k = jI ((sdZ s f k : Nat) : Int) := by
  intro k
  induction k with
  | zero => intro _; rfl
  | succ k ih =>
    intro hk
    unfold sdZ
    by_cases q : s (ix k 0) = f
    · rw [sdN_t q, if_pos q, ih (by omega), or_bit k (by omega) _ (sdZ_b s f k)]
    · rw [sdN_f q, if_neg q, ih (by omega)]
theorem sdZ_0 (s : Nat → Int) (f : Int) : ∀ k, sdZ s f k = 0 ↔ spN s f k < 0 := by
  intro k
  rw [sp_no]
  induction k with
  | zero => exact ⟨fun _ j hj => absurd hj (Nat.not_lt_zero j), fun _ => rfl⟩
  | succ k ih =>
    have hp := Nat.two_pow_pos k
    unfold sdZ
    by_cases q : s (ix k 0) = f
    · rw [if_pos q]
      exact ⟨fun z => by omega, fun z => absurd q (z k (by omega))⟩
    · rw [if_neg q, ih]
      constructor
      · intro z j hj
        by_cases e : j = k
        · rw [e]; exact q
        · exact z j (by omega)
      · intro z j hj
        exact z j (by omega)
def smF (s : Nat → Int) (c : Int) (k : Nat) : Int := if c = 5 then crN s k else s (ix k c.toNat)
def mcR (s : Nat → Int) (g3 g7 c : Int) : Int := if c = 14 then g3 else if c = 15 then g7 else if c = 0 then s 2 else if c = 1 then s 10 else if c = 2 then sumK (smF s 5) (s 10).toNat else if c = 3 then s 3 else if c = 4 then s 4 else if c = 5 then s 5 else if c = 6 then sumK (smF s 4) (s 10).toNat else if c = 7 then s 6 else if c = 8 then s 7 else if c = 9 then s 8 else if c = 10 then s 9 else if c = 11 then allS s else if c = 12 then s 0 else if c = 13 then s 1 else -2
def miR (s : Nat → Int) (m c : Int) : Int := if 1 ≤ m ∧ m ≤ 300 ∧ 0 ≤ c ∧ c ≤ 2 then (if c = 0 then bsR (tsS s m.toNat) (pvF (tsS s m.toNat) true) else if c = 1 then tsR s m.toNat else tsS s m.toNat 6 - s 6) else -2

set_option maxHeartbeats 4000000 in
set_option maxRecDepth 100000 in
theorem c_X5_standing (l : Launch) (G : vC) (m : Nat → Nat) (s : Nat → Int) (sp : Nat → Int) (hi : Nat → Int) (sn : Nat → Int) (tx : Nat → Int) (g3 : Int) (g5 : Int) (g7 : Int) (g8 : Int) (g9 : Int) (g10 : Int) (g11 : Int) (g12 : Int) (g13 : Int) (t : Int) (f : Int) (hI : Inv t s) (hf : iR f) : Fn l G yX5_standing cX5_standing 4 (some .int) ({ frames := 1, cells := 0, slots := 0, locals := 22 } : Room) [.ref (m 0), .int (jI f)] (mB G m s sp hi sn tx g3 g5 g7 g8 g9 g10 g11 g12 g13) (some (.int (sdN s f (s 10).toNat))) (mB G m s sp hi sn tx g3 g5 g7 g8 g9 g10 g11 g12 g13) := by
  refine Ct.of (by decide) (Nat.le_of_ble_eq_true rfl) (fun X hX hR => ?_)
  refine V.toLv (lv' := [(0, .ref (m 0)), (1, .int (jI f))]) rfl ?_
  have hb := hI.base
  obtain ⟨N, hN⟩ : ∃ N : Nat, s 10 = (N : Int) := ⟨(s 10).toNat, by omega⟩
  refine V_iconst hX dX5_standing_0 ?_
  refine V_istore_n (i := 2) (lv' := [(2, .int (jI 0)), (0, .ref (m 0)), (1, .int (jI f))]) hX dX5_standing_1 rfl (by decide) rfl ?_
  refine V_iconst hX dX5_standing_2 ?_
  refine V_istore_n (i := 3) (lv' := [(3, .int (jI 0)), (2, .int (jI 0)), (0, .ref (m 0)), (1, .int (jI f))]) hX dX5_standing_3 rfl (by decide) rfl ?_
  have L4_q_1 : ∀ k : Nat, k ≤ N → ∀ (i : Int) (mk : Int32), (i = (k : Int)) → (mk = sdN s f k) → V X 0 0 (mB G m s sp hi sn tx g3 g5 g7 g8 g9 g10 g11 g12 g13) [(3, .int (jI i)), (2, .int (mk)), (0, .ref (m 0)), (1, .int (jI f))] 4 [] := by
    refine up_ind (fun k => ∀ (i : Int) (mk : Int32), (i = (k : Int)) → (mk = sdN s f k) → V X 0 0 (mB G m s sp hi sn tx g3 g5 g7 g8 g9 g10 g11 g12 g13) [(3, .int (jI i)), (2, .int (mk)), (0, .ref (m 0)), (1, .int (jI f))] 4 []) (N) ?_
    intro k hk ih i mk hik hmk
    refine V_iload_n hX dX5_standing_4 0 rfl ?_
    refine V_aload_n hX dX5_standing_5 2 rfl ?_
    refine V_get (v := .ref (m 1)) hX cbX5 0 0 (by decide) wf_X5_7 rfl rfl rfl rfl dX5_standing_6 ?_
    refine V_bipush hX dX5_standing_9 (by decide) ?_
    refine V_iald (i0 := 10) (r := (jI (s 10))) hX 1 rfl (by decide) (by decide) (by decide) rfl rfl dX5_standing_11 ?_
    refine V_icmp_ge (tgt := 41) hX dX5_standing_12 (by decide) (by omega) (by omega) (fun c_2 => ?_) (fun c_2 => ?_)
    · refine V_iload_n hX dX5_standing_41 1 rfl ?_
      exact V_iret hX hR dX5_standing_42 ⟨(congrArg (fun z => some (Value.int z)) (by rw [hmk]; congr 1; omega)), rfl⟩
    · have hs2 := hI.sc k (by omega)
      refine V_iload_n hX dX5_standing_15 1 rfl ?_
      refine V_aload_n hX dX5_standing_16 2 rfl ?_
      refine V_iload_n hX dX5_standing_17 0 rfl ?_
      refine V_iconst hX dX5_standing_18 ?_
      refine V.sk (st' := [.int (jI ((0 : Int))), .int (jI i), .ref (m 0), .int (mk)]) rfl ?_
      refine V.sk (st' := [.int (jI ((0 : Int))), .int (jI ((k : Int))), .ref (m 0), .int (mk)]) (congrArg (fun z : Int => [Value.int (jI ((0 : Int))), Value.int (jI z), Value.ref (m 0), Value.int (mk)]) (show i = (k : Int) by omega)) ?_
      refine V_cV (st := [.int (mk)]) (v := .int (jI (s (ix k 0)))) (w' := mB G m s sp hi sn tx g3 g5 g7 g8 g9 g10 g11 g12 g13) hX wc_X5_29 (c_X5_of l G m s sp hi sn tx g3 g5 g7 g8 g9 g10 g11 g12 g13 k 0 (by omega) (by omega)) (by decide) (by decide) rfl rfl (Nat.le_of_ble_eq_true rfl) dX5_standing_19 [] ([]) (by simp only [List.append_assoc, List.nil_append, List.append_nil]) 0 rfl rfl (by simp only [List.append_assoc, List.nil_append, List.append_nil]) rfl rfl ?_
      refine V_iload_n hX dX5_standing_22 3 rfl ?_
      refine V_icmp_ne (tgt := 32) hX dX5_standing_23 (by decide) (by omega) (by omega) (fun c_3 => ?_) (fun c_3 => ?_)
      · refine V_iconst hX dX5_standing_32 ?_
        refine V_ior hX dX5_standing_33 ?_
        refine V_istore_n (i := 2) (lv' := [(2, .int ((mk) ||| (jI (0)))), (3, .int (jI i)), (0, .ref (m 0)), (1, .int (jI f))]) hX dX5_standing_34 rfl (by decide) rfl ?_
        refine V_iinc (b := i + 1) (lv' := [(3, .int (jI (i + 1))), (2, .int ((mk) ||| (jI (0)))), (0, .ref (m 0)), (1, .int (jI f))]) hX dX5_standing_35 1 rfl rfl (by decide) rfl ?_
        refine V_goto (tgt := 4) hX dX5_standing_38 (by decide) ?_
        refine V.sub [0, 1, 2, 3] rfl ?_
        exact ih (by omega) _ _ (by omega) (by subst hik; rw [hmk]; first | exact (sdN_t (by omega)).symm | exact (or_0 _).trans (sdN_f (by omega)).symm)
      · refine V_iconst hX dX5_standing_26 ?_
        refine V_iload_n hX dX5_standing_27 0 rfl ?_
        refine V_ishl hX dX5_standing_28 ?_
        refine V_goto (tgt := 33) hX dX5_standing_29 (by decide) ?_
        refine V_ior hX dX5_standing_33 ?_
        refine V_istore_n (i := 2) (lv' := [(2, .int ((mk) ||| ((jI (1)) <<< ((jI (i)) &&& 31)))), (3, .int (jI i)), (0, .ref (m 0)), (1, .int (jI f))]) hX dX5_standing_34 rfl (by decide) rfl ?_
        refine V_iinc (b := i + 1) (lv' := [(3, .int (jI (i + 1))), (2, .int ((mk) ||| ((jI (1)) <<< ((jI (i)) &&& 31)))), (0, .ref (m 0)), (1, .int (jI f))]) hX dX5_standing_35 1 rfl rfl (by decide) rfl ?_
        refine V_goto (tgt := 4) hX dX5_standing_38 (by decide) ?_
        refine V.sub [0, 1, 2, 3] rfl ?_
        exact ih (by omega) _ _ (by omega) (by subst hik; rw [hmk]; first | exact (sdN_t (by omega)).symm | exact (or_0 _).trans (sdN_f (by omega)).symm)
  refine V.sub [0, 1, 2, 3] rfl ?_
  exact L4_q_1 0 (Nat.zero_le _) 0 (jI 0) rfl rfl

set_option maxHeartbeats 4000000 in
set_option maxRecDepth 100000 in
theorem c_X5_field (l : Launch) (G : vC) (m : Nat → Nat) (s : Nat → Int) (sp : Nat → Int) (hi : Nat → Int) (sn : Nat → Int) (tx : Nat → Int) (g3 : Int) (g5 : Int) (g7 : Int) (g8 : Int) (g9 : Int) (g10 : Int) (g11 : Int) (g12 : Int) (g13 : Int) (t : Int) (f : Int) (e : Int) (hI : Inv t s) (hf : iR f) (he : iR e) : Fn l G yX5_field cX5_field 3 (some .int) ({ frames := 5, cells := 0, slots := 0, locals := 121 } : Room) [.ref (m 0), .int (jI f), .int (jI e)] (mB G m s sp hi sn tx g3 g5 g7 g8 g9 g10 g11 g12 g13) (some (.int (fdR s f e))) (mB G m s sp hi sn tx g3 g5 g7 g8 g9 g10 g11 g12 g13) := by
  refine Ct.of (by decide) (Nat.le_of_ble_eq_true rfl) (fun X hX hR => ?_)
  refine V.toLv (lv' := [(0, .ref (m 0)), (1, .int (jI f)), (2, .int (jI e))]) rfl ?_
  have hb := hI.base
  refine V_iload_n hX dX5_field_0 1 rfl ?_
  refine V_cS (st := []) (v := .int (jI (bI (0 ≤ f ∧ f ≤ 5)))) (w' := mB G m s sp hi sn tx g3 g5 g7 g8 g9 g10 g11 g12 g13) hX wc_X5_108 (c_X5_isField l G f (by omega)) (by decide) (by decide) rfl rfl (Nat.le_of_ble_eq_true rfl) dX5_field_1 [] (mB G m s sp hi sn tx g3 g5 g7 g8 g9 g10 g11 g12 g13) (by simp only [List.append_assoc, List.nil_append, List.append_nil]) (by simp only [List.append_assoc, List.nil_append, List.append_nil]) rfl rfl ?_
  refine V_ifnz (tgt := 9) hX dX5_field_4 (by decide) (fun c_1 => ?_) (fun c_1 => ?_)
  · refine V_iload_n hX dX5_field_9 2 rfl ?_
    by_cases c_2 : e = 0
    · refine V_tableIn (tgt := 40) hX 0 dX5_field_10 c_2 (by decide) (by decide) (by decide) rfl (by decide) ?_
      have hse1 := hI.se f.toNat (by omega)
      refine V_aload_n hX dX5_field_40 0 rfl ?_
      refine V_get (v := .ref (m 1)) hX cbX5 0 0 (by decide) wf_X5_7 rfl rfl rfl rfl dX5_field_41 ?_
      refine V_bipush hX dX5_field_44 (by decide) ?_
      refine V_iload_n hX dX5_field_46 1 rfl ?_
      refine V_iadd hX dX5_field_47 rfl ?_
      refine V_iald (i0 := 11 + f.toNat) (r := (jI (s (11 + f.toNat)))) hX 1 rfl (by omega) (by omega) (by omega) (by omega) rfl dX5_field_48 ?_
      exact V_iret hX hR dX5_field_49 ⟨congrArg (fun z => some (Value.int z)) (by unfold fdR; (repeat' split) <;> first | rfl | omega), rfl⟩
    by_cases c_3 : e = 1
    · refine V_tableIn (tgt := 50) hX 1 dX5_field_10 c_3 (by decide) (by decide) (by decide) rfl (by decide) ?_
      refine V_aload_n hX dX5_field_50 0 rfl ?_
      refine V_iload_n hX dX5_field_51 1 rfl ?_
      refine V_cV (st := []) (v := .int (sdN s f (s 10).toNat)) (w' := mB G m s sp hi sn tx g3 g5 g7 g8 g9 g10 g11 g12 g13) hX wc_X5_180 (c_X5_standing l G m s sp hi sn tx g3 g5 g7 g8 g9 g10 g11 g12 g13 t f hI (by omega)) (by decide) (by decide) rfl rfl (Nat.le_of_ble_eq_true rfl) dX5_field_52 [] ([]) (by simp only [List.append_assoc, List.nil_append, List.append_nil]) 0 rfl rfl (by simp only [List.append_assoc, List.nil_append, List.append_nil]) rfl rfl ?_
      exact V_iret hX hR dX5_field_55 ⟨congrArg (fun z => some (Value.int z)) (by unfold fdR; (repeat' split) <;> first | rfl | omega), rfl⟩
    by_cases c_4 : e = 2
    · refine V_tableIn (tgt := 56) hX 2 dX5_field_10 c_4 (by decide) (by decide) (by decide) rfl (by decide) ?_
      refine V_aload_n hX dX5_field_56 0 rfl ?_
      refine V_iload_n hX dX5_field_57 1 rfl ?_
      refine V_aload_n hX dX5_field_58 0 rfl ?_
      refine V_get (v := .ref (m 1)) hX cbX5 0 0 (by decide) wf_X5_7 rfl rfl rfl rfl dX5_field_59 ?_
      refine V_iconst hX dX5_field_62 ?_
      refine V_iald (i0 := 1) (r := (jI (s 1))) hX 1 rfl (by decide) (by decide) (by decide) rfl rfl dX5_field_63 ?_
      refine V_cV (st := []) (v := .int (jI (vtR s true f))) (w' := mB G m s sp hi sn tx g3 g5 g7 g8 g9 g10 g11 g12 g13) hX wc_X5_68 (c_X5_votes l G m s sp hi sn tx g3 g5 g7 g8 g9 g10 g11 g12 g13 t true f (s 1) hI (by first | exact hc | exact Or.inl ⟨rfl, rfl⟩ | exact Or.inr ⟨rfl, rfl⟩) (by omega)) (by decide) (by decide) rfl rfl (Nat.le_of_ble_eq_true rfl) dX5_field_64 [] ([]) (by simp only [List.append_assoc, List.nil_append, List.append_nil]) 0 rfl rfl (by simp only [List.append_assoc, List.nil_append, List.append_nil]) rfl rfl ?_
      exact V_iret hX hR dX5_field_67 ⟨congrArg (fun z => some (Value.int z)) (by unfold fdR; (repeat' split) <;> first | rfl | omega), rfl⟩
    by_cases c_5 : e = 3
    · refine V_tableIn (tgt := 68) hX 3 dX5_field_10 c_5 (by decide) (by decide) (by decide) rfl (by decide) ?_
      refine V_aload_n hX dX5_field_68 0 rfl ?_
      refine V_iload_n hX dX5_field_69 1 rfl ?_
      refine V_cV (st := []) (v := .int (jI (spN s f (s 10).toNat))) (w' := mB G m s sp hi sn tx g3 g5 g7 g8 g9 g10 g11 g12 g13) hX wc_X5_61 (c_X5_speaker l G m s sp hi sn tx g3 g5 g7 g8 g9 g10 g11 g12 g13 t f hI (by omega)) (by decide) (by decide) rfl rfl (Nat.le_of_ble_eq_true rfl) dX5_field_70 [] ([]) (by simp only [List.append_assoc, List.nil_append, List.append_nil]) 0 rfl rfl (by simp only [List.append_assoc, List.nil_append, List.append_nil]) rfl rfl ?_
      exact V_iret hX hR dX5_field_73 ⟨congrArg (fun z => some (Value.int z)) (by unfold fdR; (repeat' split) <;> first | rfl | omega), rfl⟩
    refine V_tableOut (tgt := 74) hX dX5_field_10 (by omega) (by omega) (by decide) ?_
    refine V_bipush hX dX5_field_74 (by decide) ?_
    exact V_iret hX hR dX5_field_76 ⟨congrArg (fun z => some (Value.int z)) (by unfold fdR; (repeat' split) <;> first | rfl | omega), rfl⟩
  · refine V_iconst hX dX5_field_7 ?_
    exact V_iret hX hR dX5_field_8 ⟨congrArg (fun z => some (Value.int z)) (by unfold fdR; (repeat' split) <;> first | rfl | omega), rfl⟩

set_option maxHeartbeats 4000000 in
set_option maxRecDepth 100000 in
theorem c_X5_reason (l : Launch) (G : vC) (m : Nat → Nat) (s : Nat → Int) (sp : Nat → Int) (hi : Nat → Int) (sn : Nat → Int) (tx : Nat → Int) (g3 : Int) (g5 : Int) (g7 : Int) (g8 : Int) (g9 : Int) (g10 : Int) (g11 : Int) (g12 : Int) (g13 : Int) (t : Int) (f : Int) (hI : Inv t s) (hf : iR f) : Fn l G yX5_reason cX5_reason 4 (some .int) ({ frames := 4, cells := 0, slots := 0, locals := 97 } : Room) [.ref (m 0), .int (jI f)] (mB G m s sp hi sn tx g3 g5 g7 g8 g9 g10 g11 g12 g13) (some (.int (jI (if 0 ≤ f ∧ f ≤ 5 then rsR s true f else -1)))) (mB G m s sp hi sn tx g3 g5 g7 g8 g9 g10 g11 g12 g13) := by
  refine Ct.of (by decide) (Nat.le_of_ble_eq_true rfl) (fun X hX hR => ?_)
  refine V.toLv (lv' := [(0, .ref (m 0)), (1, .int (jI f))]) rfl ?_
  have hb := hI.base
  have hgn : spN s f (s 10).toNat < 0 → grN (wF s true f (s 10).toNat) 4 = 0 := gr_no
  have hzb := ldZ_b (wF s true f (s 10).toNat) (grN (wF s true f (s 10).toNat) 4)
  have hz0 := ld_0 (wF s true f (s 10).toNat)
  have hspb := spN_b s f (s 10).toNat
  have hsz := sdZ_b s f (s 10).toNat
  have hs0 := sdZ_0 s f (s 10).toNat
  have hsp : 2 ^ (s 10).toNat ≤ 2 ^ 12 := Nat.pow_le_pow_right (by decide) (by omega)
  refine V_iload_n hX dX5_reason_0 1 rfl ?_
  refine V_cS (st := []) (v := .int (jI (bI (0 ≤ f ∧ f ≤ 5)))) (w' := mB G m s sp hi sn tx g3 g5 g7 g8 g9 g10 g11 g12 g13) hX wc_X5_108 (c_X5_isField l G f (by omega)) (by decide) (by decide) rfl rfl (Nat.le_of_ble_eq_true rfl) dX5_reason_1 [] (mB G m s sp hi sn tx g3 g5 g7 g8 g9 g10 g11 g12 g13) (by simp only [List.append_assoc, List.nil_append, List.append_nil]) (by simp only [List.append_assoc, List.nil_append, List.append_nil]) rfl rfl ?_
  refine V_ifnz (tgt := 9) hX dX5_reason_4 (by decide) (fun c_1 => ?_) (fun c_1 => ?_)
  · refine V_aload_n hX dX5_reason_9 0 rfl ?_
    refine V_iload_n hX dX5_reason_10 1 rfl ?_
    refine V_cV (st := []) (v := .int (sdN s f (s 10).toNat)) (w' := mB G m s sp hi sn tx g3 g5 g7 g8 g9 g10 g11 g12 g13) hX wc_X5_180 (c_X5_standing l G m s sp hi sn tx g3 g5 g7 g8 g9 g10 g11 g12 g13 t f hI (by omega)) (by decide) (by decide) rfl rfl (Nat.le_of_ble_eq_true rfl) dX5_reason_11 [] ([]) (by simp only [List.append_assoc, List.nil_append, List.append_nil]) 0 rfl rfl (by simp only [List.append_assoc, List.nil_append, List.append_nil]) rfl rfl ?_
    refine V.sk (st' := [.int (jI (((sdZ s f (s 10).toNat : Nat) : Int)))]) (congrArg (fun z : Int32 => ([Value.int z] : List Value)) (show sdN s f (s 10).toNat = jI (((sdZ s f (s 10).toNat : Nat) : Int)) from sdN_z s f _ (by omega))) ?_
    refine V_if_ne (tgt := 19) hX dX5_reason_14 (by decide) (by omega) (fun c_2 => ?_) (fun c_2 => ?_)
    · refine V_aload_n hX dX5_reason_19 0 rfl ?_
      refine V_iload_n hX dX5_reason_20 1 rfl ?_
      refine V_aload_n hX dX5_reason_21 0 rfl ?_
      refine V_get (v := .ref (m 1)) hX cbX5 0 0 (by decide) wf_X5_7 rfl rfl rfl rfl dX5_reason_22 ?_
      refine V_iconst hX dX5_reason_25 ?_
      refine V_iald (i0 := 1) (r := (jI (s 1))) hX 1 rfl (by decide) (by decide) (by decide) rfl rfl dX5_reason_26 ?_
      refine V_cV (st := []) (v := .int (jI (ldZ (wF s true f (s 10).toNat) (grN (wF s true f (s 10).toNat) 4)))) (w' := mB G m s sp hi sn tx g3 g5 g7 g8 g9 g10 g11 g12 g13) hX wc_X5_58 (c_X5_leaders l G m s sp hi sn tx g3 g5 g7 g8 g9 g10 g11 g12 g13 t true f (s 1) hI (by first | exact hc | exact Or.inl ⟨rfl, rfl⟩ | exact Or.inr ⟨rfl, rfl⟩) (by omega)) (by decide) (by decide) rfl rfl (Nat.le_of_ble_eq_true rfl) dX5_reason_27 [] ([]) (by simp only [List.append_assoc, List.nil_append, List.append_nil]) 0 rfl rfl (by simp only [List.append_assoc, List.nil_append, List.append_nil]) rfl rfl ?_
      refine V_istore_n (i := 2) (lv' := [(2, .int (jI (ldZ (wF s true f (s 10).toNat) (grN (wF s true f (s 10).toNat) 4)))), (0, .ref (m 0)), (1, .int (jI f))]) hX dX5_reason_30 rfl (by decide) rfl ?_
      refine V_iload_n hX dX5_reason_31 0 rfl ?_
      refine V_if_ne (tgt := 37) hX dX5_reason_32 (by decide) (by omega) (fun c_3 => ?_) (fun c_3 => ?_)
      · have hgp : 0 < grN (wF s true f (s 10).toNat) 4 := by omega
        have hs := hI.sc (spN s f (s 10).toNat).toNat (by omega)
        have hlb2 := ldB_h (wF s true f (s 10).toNat) (grN (wF s true f (s 10).toNat) 4) (s (ix (spN s f (s 10).toNat).toNat 3)).toNat
        have hhm := hm_ld (W := wF s true f (s 10).toNat) (g := grN (wF s true f (s 10).toNat) 4) hgp
        have han := an_b (z := ldZ (wF s true f (s 10).toNat) (grN (wF s true f (s 10).toNat) 4)) (by omega) (by omega)
        have hhb := hmW_b (wF s true f (s 10).toNat) (grN (wF s true f (s 10).toNat) 4)
        refine V_iload_n hX dX5_reason_37 0 rfl ?_
        refine V_iload_n hX dX5_reason_38 0 rfl ?_
        refine V_iconst hX dX5_reason_39 ?_
        refine V_isub hX dX5_reason_40 rfl ?_
        refine V_iand hX dX5_reason_41 ?_
        refine V.sk (st' := [.int (jI (anZ (ldZ (wF s true f (s 10).toNat) (grN (wF s true f (s 10).toNat) 4))))]) (congrArg (fun z : Int32 => ([Value.int z] : List Value)) (show (jI (ldZ (wF s true f (s 10).toNat) (grN (wF s true f (s 10).toNat) 4))) &&& (jI ((ldZ (wF s true f (s 10).toNat) (grN (wF s true f (s 10).toNat) 4)) - 1)) = jI (anZ (ldZ (wF s true f (s 10).toNat) (grN (wF s true f (s 10).toNat) 4))) from an_ld (by omega) (by omega))) ?_
        refine V_if_ne (tgt := 49) hX dX5_reason_42 (by decide) (by omega) (fun c_4 => ?_) (fun c_4 => ?_)
        · refine V_iconst hX dX5_reason_49 ?_
          refine V_istore_n (i := 3) (lv' := [(3, .int (jI 0)), (2, .int (jI (ldZ (wF s true f (s 10).toNat) (grN (wF s true f (s 10).toNat) 4)))), (0, .ref (m 0)), (1, .int (jI f))]) hX dX5_reason_50 rfl (by decide) rfl ?_
          refine V_iload_n hX dX5_reason_51 0 rfl ?_
          refine V_if_eq (tgt := 59) hX dX5_reason_52 (by decide) (by decide) (fun c_5 => ?_) (fun c_5 => absurd c_5 (by decide))
          refine V_iload_n hX dX5_reason_59 1 rfl ?_
          refine V_aload_n hX dX5_reason_60 2 rfl ?_
          refine V_aload_n hX dX5_reason_61 2 rfl ?_
          refine V_iload_n hX dX5_reason_62 3 rfl ?_
          refine V_cV (st := [.ref (m 0), .int (jI (ldZ (wF s true f (s 10).toNat) (grN (wF s true f (s 10).toNat) 4)))]) (v := .int (jI (spN s f (s 10).toNat))) (w' := mB G m s sp hi sn tx g3 g5 g7 g8 g9 g10 g11 g12 g13) hX wc_X5_61 (c_X5_speaker l G m s sp hi sn tx g3 g5 g7 g8 g9 g10 g11 g12 g13 t f hI (by omega)) (by decide) (by decide) rfl rfl (Nat.le_of_ble_eq_true rfl) dX5_reason_63 [] ([]) (by simp only [List.append_assoc, List.nil_append, List.append_nil]) 0 rfl rfl (by simp only [List.append_assoc, List.nil_append, List.append_nil]) rfl rfl ?_
          refine V_iconst hX dX5_reason_66 ?_
          refine V.sk (st' := [.int (jI ((3 : Int))), .int (jI (spN s f (s 10).toNat)), .ref (m 0), .int (jI (ldZ (wF s true f (s 10).toNat) (grN (wF s true f (s 10).toNat) 4)))]) rfl ?_
          refine V.sk (st' := [.int (jI ((3 : Int))), .int (jI (((spN s f (s 10).toNat).toNat : Int))), .ref (m 0), .int (jI (ldZ (wF s true f (s 10).toNat) (grN (wF s true f (s 10).toNat) 4)))]) (congrArg (fun z : Int => [Value.int (jI ((3 : Int))), Value.int (jI z), Value.ref (m 0), Value.int (jI (ldZ (wF s true f (s 10).toNat) (grN (wF s true f (s 10).toNat) 4)))]) (show spN s f (s 10).toNat = ((spN s f (s 10).toNat).toNat : Int) by omega)) ?_
          refine V_cV (st := [.int (jI (ldZ (wF s true f (s 10).toNat) (grN (wF s true f (s 10).toNat) 4)))]) (v := .int (jI (s (ix ((spN s f (s 10).toNat).toNat) 3)))) (w' := mB G m s sp hi sn tx g3 g5 g7 g8 g9 g10 g11 g12 g13) hX wc_X5_29 (c_X5_of l G m s sp hi sn tx g3 g5 g7 g8 g9 g10 g11 g12 g13 ((spN s f (s 10).toNat).toNat) 3 (by omega) (by omega)) (by decide) (by decide) rfl rfl (Nat.le_of_ble_eq_true rfl) dX5_reason_67 [] ([]) (by simp only [List.append_assoc, List.nil_append, List.append_nil]) 0 rfl rfl (by simp only [List.append_assoc, List.nil_append, List.append_nil]) rfl rfl ?_
          refine V_ishr hX dX5_reason_70 ?_
          refine V_iconst hX dX5_reason_71 ?_
          refine V_iand hX dX5_reason_72 ?_
          refine V.sk (st' := [.int (jI (ldB (wF s true f (s 10).toNat) (grN (wF s true f (s 10).toNat) 4) (s (ix (spN s f (s 10).toNat).toNat 3)).toNat))]) (congrArg (fun z : Int32 => ([Value.int z] : List Value)) (show ((jI (ldZ (wF s true f (s 10).toNat) (grN (wF s true f (s 10).toNat) 4))) >>> ((jI (s (ix ((spN s f (s 10).toNat).toNat) 3))) &&& 31)) &&& (jI (1)) = jI (ldB (wF s true f (s 10).toNat) (grN (wF s true f (s 10).toNat) 4) (s (ix (spN s f (s 10).toNat).toNat 3)).toNat) from (by rw [show s (ix (spN s f (s 10).toNat).toNat 3) = (((s (ix (spN s f (s 10).toNat).toNat 3)).toNat : Nat) : Int) by omega]; exact sh_ld (by omega) (by omega)))) ?_
          refine V_iconst hX dX5_reason_73 ?_
          refine V_icmp_ne (tgt := 81) hX dX5_reason_74 (by decide) (by omega) (by decide) (fun c_6 => ?_) (fun c_6 => ?_)
          · refine V_iconst hX dX5_reason_81 ?_
            exact V_iret hX hR dX5_reason_82 ⟨(congrArg (fun z => some (Value.int (jI z))) (by unfold rsR; (repeat' split) <;> first | rfl | omega)), rfl⟩
          · refine V_iconst hX dX5_reason_77 ?_
            refine V_goto (tgt := 82) hX dX5_reason_78 (by decide) ?_
            exact V_iret hX hR dX5_reason_82 ⟨(congrArg (fun z => some (Value.int (jI z))) (by unfold rsR; (repeat' split) <;> first | rfl | omega)), rfl⟩
        · refine V_iconst hX dX5_reason_45 ?_
          refine V_goto (tgt := 50) hX dX5_reason_46 (by decide) ?_
          refine V_istore_n (i := 3) (lv' := [(3, .int (jI 1)), (2, .int (jI (ldZ (wF s true f (s 10).toNat) (grN (wF s true f (s 10).toNat) 4)))), (0, .ref (m 0)), (1, .int (jI f))]) hX dX5_reason_50 rfl (by decide) rfl ?_
          refine V_iload_n hX dX5_reason_51 0 rfl ?_
          refine V_if_eq (tgt := 59) hX dX5_reason_52 (by decide) (by decide) (fun c_7 => absurd c_7 (by decide)) (fun c_7 => ?_)
          refine V_iconst hX dX5_reason_55 ?_
          refine V_goto (tgt := 82) hX dX5_reason_56 (by decide) ?_
          exact V_iret hX hR dX5_reason_82 ⟨(congrArg (fun z => some (Value.int (jI z))) (by unfold rsR; (repeat' split) <;> first | rfl | omega)), rfl⟩
      · refine V_iconst hX dX5_reason_35 ?_
        exact V_iret hX hR dX5_reason_36 ⟨(congrArg (fun z => some (Value.int (jI z))) (by unfold rsR; (repeat' split) <;> first | rfl | omega)), rfl⟩
    · refine V_iconst hX dX5_reason_17 ?_
      exact V_iret hX hR dX5_reason_18 ⟨(congrArg (fun z => some (Value.int (jI z))) (by unfold rsR; (repeat' split) <;> first | rfl | omega)), rfl⟩
  · refine V_iconst hX dX5_reason_7 ?_
    exact V_iret hX hR dX5_reason_8 ⟨(congrArg (fun z => some (Value.int (jI z))) (by unfold rsR; (repeat' split) <;> first | rfl | omega)), rfl⟩

set_option maxHeartbeats 4000000 in
set_option maxRecDepth 100000 in
theorem c_X5_straw (l : Launch) (G : vC) (m : Nat → Nat) (s : Nat → Int) (sp : Nat → Int) (hi : Nat → Int) (sn : Nat → Int) (tx : Nat → Int) (g3 : Int) (g5 : Int) (g7 : Int) (g8 : Int) (g9 : Int) (g10 : Int) (g11 : Int) (g12 : Int) (g13 : Int) (t : Int) (a : Int) (hI : Inv t s) (ha : iR a) : Fn l G yX5_straw cX5_straw 2 (some .double) ({ frames := 2, cells := 0, slots := 0, locals := 43 } : Room) [.ref (m 0), .int (jI a)] (mB G m s sp hi sn tx g3 g5 g7 g8 g9 g10 g11 g12 g13) (some (.double (srR s a))) (mB G m s sp hi sn tx g3 g5 g7 g8 g9 g10 g11 g12 g13) := by
  refine Ct.of (by decide) (Nat.le_of_ble_eq_true rfl) (fun X hX hR => ?_)
  refine V.toLv (lv' := [(0, .ref (m 0)), (1, .int (jI a))]) rfl ?_
  have hb := hI.base
  refine V_aload_n hX dX5_straw_0 0 rfl ?_
  refine V_iload_n hX dX5_straw_1 1 rfl ?_
  refine V_cV (st := []) (v := .int (jI (bI (0 ≤ a ∧ a < s 10)))) (w' := mB G m s sp hi sn tx g3 g5 g7 g8 g9 g10 g11 g12 g13) hX wc_X5_95 (c_X5_isScarecrow l G m s sp hi sn tx g3 g5 g7 g8 g9 g10 g11 g12 g13 t a hI (by omega)) (by decide) (by decide) rfl rfl (Nat.le_of_ble_eq_true rfl) dX5_straw_2 [] ([]) (by simp only [List.append_assoc, List.nil_append, List.append_nil]) 0 rfl rfl (by simp only [List.append_assoc, List.nil_append, List.append_nil]) rfl rfl ?_
  refine V_ifz (tgt := 22) hX dX5_straw_5 (by decide) (fun c_1 => ?_) (fun c_1 => ?_)
  · refine V_ldc2d (v := 13830554455654793216) hX dX5_straw_22 (List.mem_of_getElem? (i := 958) (by decide +kernel)) rfl ?_
    exact V_dret hX hR dX5_straw_25 ⟨(congrArg (fun z => some (Value.double z)) (by unfold srR; split <;> first | rfl | omega)), rfl⟩
  · have hs1 := hI.sc a.toNat (by omega)
    refine V_aload_n hX dX5_straw_8 0 rfl ?_
    refine V_iload_n hX dX5_straw_9 1 rfl ?_
    refine V_iconst hX dX5_straw_10 ?_
    refine V.sk (st' := [.int (jI ((4 : Int))), .int (jI a), .ref (m 0)]) rfl ?_
    refine V.sk (st' := [.int (jI ((4 : Int))), .int (jI ((a.toNat : Int))), .ref (m 0)]) (congrArg (fun z : Int => [Value.int (jI ((4 : Int))), Value.int (jI z), Value.ref (m 0)]) (show a = (a.toNat : Int) by omega)) ?_
    refine V_cV (st := []) (v := .int (jI (s (ix a.toNat 4)))) (w' := mB G m s sp hi sn tx g3 g5 g7 g8 g9 g10 g11 g12 g13) hX wc_X5_29 (c_X5_of l G m s sp hi sn tx g3 g5 g7 g8 g9 g10 g11 g12 g13 a.toNat 4 (by omega) (by omega)) (by decide) (by decide) rfl rfl (Nat.le_of_ble_eq_true rfl) dX5_straw_11 [] ([]) (by simp only [List.append_assoc, List.nil_append, List.append_nil]) 0 rfl rfl (by simp only [List.append_assoc, List.nil_append, List.append_nil]) rfl rfl ?_
    refine V_i2d hX dX5_straw_14 rfl ?_
    refine V_ldc2d (v := 4634204016564240384) hX dX5_straw_15 (List.mem_of_getElem? (i := 957) (by decide +kernel)) rfl ?_
    refine V_ddiv (r := dB ((s (ix a.toNat 4)).toNat)) hX dX5_straw_18 (by unfold dB; rw [show ((((s (ix a.toNat 4)).toNat : Nat)) : Int) = s (ix a.toNat 4) by omega]) (dB_vf (by omega)) ?_
    refine V_goto (tgt := 25) hX dX5_straw_19 (by decide) ?_
    exact V_dret hX hR dX5_straw_25 ⟨(congrArg (fun z => some (Value.double z)) (by unfold srR; split <;> first | rfl | omega)), rfl⟩

set_option maxHeartbeats 4000000 in
set_option maxRecDepth 100000 in
theorem c_X5_weight (l : Launch) (G : vC) (m : Nat → Nat) (s : Nat → Int) (sp : Nat → Int) (hi : Nat → Int) (sn : Nat → Int) (tx : Nat → Int) (g3 : Int) (g5 : Int) (g7 : Int) (g8 : Int) (g9 : Int) (g10 : Int) (g11 : Int) (g12 : Int) (g13 : Int) (t : Int) (f : Int) (w : Int) (hI : Inv t s) (hf : iR f) (hw : iR w) : Fn l G yX5_weight cX5_weight 3 (some .double) ({ frames := 2, cells := 0, slots := 0, locals := 48 } : Room) [.ref (m 0), .int (jI f), .int (jI w)] (mB G m s sp hi sn tx g3 g5 g7 g8 g9 g10 g11 g12 g13) (some (.double (wgR s f w))) (mB G m s sp hi sn tx g3 g5 g7 g8 g9 g10 g11 g12 g13) := by
  refine Ct.of (by decide) (Nat.le_of_ble_eq_true rfl) (fun X hX hR => ?_)
  refine V.toLv (lv' := [(0, .ref (m 0)), (1, .int (jI f)), (2, .int (jI w))]) rfl ?_
  have hb := hI.base
  refine V_iload_n hX dX5_weight_0 1 rfl ?_
  refine V_cS (st := []) (v := .int (jI (bI (0 ≤ f ∧ f ≤ 5)))) (w' := mB G m s sp hi sn tx g3 g5 g7 g8 g9 g10 g11 g12 g13) hX wc_X5_108 (c_X5_isField l G f (by omega)) (by decide) (by decide) rfl rfl (Nat.le_of_ble_eq_true rfl) dX5_weight_1 [] (mB G m s sp hi sn tx g3 g5 g7 g8 g9 g10 g11 g12 g13) (by simp only [List.append_assoc, List.nil_append, List.append_nil]) (by simp only [List.append_assoc, List.nil_append, List.append_nil]) rfl rfl ?_
  refine V_ifz (tgt := 34) hX dX5_weight_4 (by decide) (fun c_1 => ?_) (fun c_1 => ?_)
  · refine V_ldc2d (v := 13830554455654793216) hX dX5_weight_34 (List.mem_of_getElem? (i := 958) (by decide +kernel)) rfl ?_
    exact V_dret hX hR dX5_weight_37 ⟨(congrArg (fun z => some (Value.double z)) (by unfold wgR wF; split <;> first | rfl | omega)), rfl⟩
  · refine V_iload_n hX dX5_weight_7 2 rfl ?_
    refine V_cS (st := []) (v := .int (jI (bI (0 ≤ w ∧ w ≤ 3)))) (w' := mB G m s sp hi sn tx g3 g5 g7 g8 g9 g10 g11 g12 g13) hX wc_X5_98 (c_X5_isWay l G w (by omega)) (by decide) (by decide) rfl rfl (Nat.le_of_ble_eq_true rfl) dX5_weight_8 [] (mB G m s sp hi sn tx g3 g5 g7 g8 g9 g10 g11 g12 g13) (by simp only [List.append_assoc, List.nil_append, List.append_nil]) (by simp only [List.append_assoc, List.nil_append, List.append_nil]) rfl rfl ?_
    refine V_ifz (tgt := 34) hX dX5_weight_11 (by decide) (fun c_2 => ?_) (fun c_2 => ?_)
    · refine V_ldc2d (v := 13830554455654793216) hX dX5_weight_34 (List.mem_of_getElem? (i := 958) (by decide +kernel)) rfl ?_
      exact V_dret hX hR dX5_weight_37 ⟨(congrArg (fun z => some (Value.double z)) (by unfold wgR wF; split <;> first | rfl | omega)), rfl⟩
    · refine V_aload_n hX dX5_weight_14 0 rfl ?_
      refine V_iload_n hX dX5_weight_15 1 rfl ?_
      refine V_iload_n hX dX5_weight_16 2 rfl ?_
      refine V_aload_n hX dX5_weight_17 0 rfl ?_
      refine V_get (v := .ref (m 1)) hX cbX5 0 0 (by decide) wf_X5_7 rfl rfl rfl rfl dX5_weight_18 ?_
      refine V_iconst hX dX5_weight_21 ?_
      refine V_iald (i0 := 1) (r := (jI (s 1))) hX 1 rfl (by decide) (by decide) (by decide) rfl rfl dX5_weight_22 ?_
      refine V.sk (st' := [.int (jI (s 1)), .int (jI ((w.toNat : Int))), .int (jI f), .ref (m 0)]) (congrArg (fun z : Int => [Value.int (jI (s 1)), Value.int (jI z), Value.int (jI f), Value.ref (m 0)]) (show w = (w.toNat : Int) by omega)) ?_
      refine V_cV (st := []) (v := .int (jI (((wtN s true f w.toNat (s 10).toNat : Nat) : Int)))) (w' := mB G m s sp hi sn tx g3 g5 g7 g8 g9 g10 g11 g12 g13) hX wc_X5_51 (c_X5_weighs l G m s sp hi sn tx g3 g5 g7 g8 g9 g10 g11 g12 g13 t true f w.toNat (s 1) hI (Or.inl ⟨rfl, rfl⟩) hf (by omega)) (by decide) (by decide) rfl rfl (Nat.le_of_ble_eq_true rfl) dX5_weight_23 [] ([]) (by simp only [List.append_assoc, List.nil_append, List.append_nil]) 0 rfl rfl (by simp only [List.append_assoc, List.nil_append, List.append_nil]) rfl rfl ?_
      have hwb := wtN_b hI true f w.toNat (s 10).toNat (by omega) (by omega)
      refine V_i2d hX dX5_weight_26 rfl ?_
      refine V_ldc2d (v := 4634204016564240384) hX dX5_weight_27 (List.mem_of_getElem? (i := 957) (by decide +kernel)) rfl ?_
      refine V_ddiv (r := dB (wtN s true f w.toNat (s 10).toNat)) hX dX5_weight_30 rfl (dB_vf (by omega)) ?_
      refine V_goto (tgt := 37) hX dX5_weight_31 (by decide) ?_
      exact V_dret hX hR dX5_weight_37 ⟨(congrArg (fun z => some (Value.double z)) (by unfold wgR wF; split <;> first | rfl | omega)), rfl⟩

set_option maxHeartbeats 4000000 in
set_option maxRecDepth 100000 in
theorem c_X5_scarecrow (l : Launch) (G : vC) (m : Nat → Nat) (s : Nat → Int) (sp : Nat → Int) (hi : Nat → Int) (sn : Nat → Int) (tx : Nat → Int) (g3 : Int) (g5 : Int) (g7 : Int) (g8 : Int) (g9 : Int) (g10 : Int) (g11 : Int) (g12 : Int) (g13 : Int) (t : Int) (a : Int) (e : Int) (hI : Inv t s) (ha : iR a) (he : iR e) : Fn l G yX5_scarecrow cX5_scarecrow 3 (some .int) ({ frames := 2, cells := 0, slots := 0, locals := 45 } : Room) [.ref (m 0), .int (jI a), .int (jI e)] (mB G m s sp hi sn tx g3 g5 g7 g8 g9 g10 g11 g12 g13) (some (.int (jI (tsR2 s a e)))) (mB G m s sp hi sn tx g3 g5 g7 g8 g9 g10 g11 g12 g13) := by
  refine Ct.of (by decide) (Nat.le_of_ble_eq_true rfl) (fun X hX hR => ?_)
  refine V.toLv (lv' := [(0, .ref (m 0)), (1, .int (jI a)), (2, .int (jI e))]) rfl ?_
  have hb := hI.base
  have hs := hI.sc a.toNat
  refine V_aload_n hX dX5_scarecrow_0 0 rfl ?_
  refine V_iload_n hX dX5_scarecrow_1 1 rfl ?_
  refine V_cV (st := []) (v := .int (jI (bI (0 ≤ a ∧ a < s 10)))) (w' := mB G m s sp hi sn tx g3 g5 g7 g8 g9 g10 g11 g12 g13) hX wc_X5_95 (c_X5_isScarecrow l G m s sp hi sn tx g3 g5 g7 g8 g9 g10 g11 g12 g13 t a hI (by omega)) (by decide) (by decide) rfl rfl (Nat.le_of_ble_eq_true rfl) dX5_scarecrow_2 [] ([]) (by simp only [List.append_assoc, List.nil_append, List.append_nil]) 0 rfl rfl (by simp only [List.append_assoc, List.nil_append, List.append_nil]) rfl rfl ?_
  refine V_ifnz (tgt := 10) hX dX5_scarecrow_5 (by decide) (fun c_1 => ?_) (fun c_1 => ?_)
  · refine V_iload_n hX dX5_scarecrow_10 2 rfl ?_
    refine V_iconst hX dX5_scarecrow_11 ?_
    refine V_bipush hX dX5_scarecrow_12 (by decide) ?_
    refine V_cS (st := []) (v := .int (jI (bI (0 ≤ e ∧ e ≤ 10)))) (w' := mB G m s sp hi sn tx g3 g5 g7 g8 g9 g10 g11 g12 g13) hX wc_X5_25 (c_X5_within l G e 0 10 (by omega) (by omega) (by omega)) (by decide) (by decide) rfl rfl (Nat.le_of_ble_eq_true rfl) dX5_scarecrow_14 [] (mB G m s sp hi sn tx g3 g5 g7 g8 g9 g10 g11 g12 g13) (by simp only [List.append_assoc, List.nil_append, List.append_nil]) (by simp only [List.append_assoc, List.nil_append, List.append_nil]) rfl rfl ?_
    refine V_ifnz (tgt := 23) hX dX5_scarecrow_17 (by decide) (fun c_2 => ?_) (fun c_2 => ?_)
    · refine V_iload_n hX dX5_scarecrow_23 2 rfl ?_
      refine V_iconst hX dX5_scarecrow_24 ?_
      refine V_icmp_ne (tgt := 36) hX dX5_scarecrow_25 (by decide) (by omega) (by decide) (fun c_3 => ?_) (fun c_3 => ?_)
      · refine V_aload_n hX dX5_scarecrow_36 0 rfl ?_
        refine V_iload_n hX dX5_scarecrow_37 1 rfl ?_
        refine V_iload_n hX dX5_scarecrow_38 2 rfl ?_
        refine V.sk (st' := [.int (jI ((e.toNat : Int))), .int (jI a), .ref (m 0)]) (congrArg (fun z : Int => [Value.int (jI z), Value.int (jI a), Value.ref (m 0)]) (show e = (e.toNat : Int) by omega)) ?_
        refine V.sk (st' := [.int (jI ((e.toNat : Int))), .int (jI ((a.toNat : Int))), .ref (m 0)]) (congrArg (fun z : Int => [Value.int (jI ((e.toNat : Int))), Value.int (jI z), Value.ref (m 0)]) (show a = (a.toNat : Int) by omega)) ?_
        refine V_cV (st := []) (v := .int (jI (s (ix a.toNat e.toNat)))) (w' := mB G m s sp hi sn tx g3 g5 g7 g8 g9 g10 g11 g12 g13) hX wc_X5_29 (c_X5_of l G m s sp hi sn tx g3 g5 g7 g8 g9 g10 g11 g12 g13 a.toNat e.toNat (by omega) (by omega)) (by decide) (by decide) rfl rfl (Nat.le_of_ble_eq_true rfl) dX5_scarecrow_39 [] ([]) (by simp only [List.append_assoc, List.nil_append, List.append_nil]) 0 rfl rfl (by simp only [List.append_assoc, List.nil_append, List.append_nil]) rfl rfl ?_
        exact V_iret hX hR dX5_scarecrow_42 ⟨(congrArg (fun z => some (Value.int (jI z))) (by unfold tsR2; (repeat' split) <;> first | rfl | omega)), rfl⟩
      · refine V_aload_n hX dX5_scarecrow_28 0 rfl ?_
        refine V_iload_n hX dX5_scarecrow_29 1 rfl ?_
        refine V.sk (st' := [.int (jI ((a.toNat : Int))), .ref (m 0)]) (congrArg (fun z : Int => [Value.int (jI z), Value.ref (m 0)]) (show a = (a.toNat : Int) by omega)) ?_
        refine V_cV (st := []) (v := .int (jI (crN s a.toNat))) (w' := mB G m s sp hi sn tx g3 g5 g7 g8 g9 g10 g11 g12 g13) hX wc_X5_79 (c_X5_crowsOn l G m s sp hi sn tx g3 g5 g7 g8 g9 g10 g11 g12 g13 t a.toNat hI (by omega)) (by decide) (by decide) rfl rfl (Nat.le_of_ble_eq_true rfl) dX5_scarecrow_30 [] ([]) (by simp only [List.append_assoc, List.nil_append, List.append_nil]) 0 rfl rfl (by simp only [List.append_assoc, List.nil_append, List.append_nil]) rfl rfl ?_
        refine V_goto (tgt := 42) hX dX5_scarecrow_33 (by decide) ?_
        exact V_iret hX hR dX5_scarecrow_42 ⟨(congrArg (fun z => some (Value.int (jI z))) (by unfold tsR2; (repeat' split) <;> first | rfl | omega)), rfl⟩
    · refine V_bipush hX dX5_scarecrow_20 (by decide) ?_
      exact V_iret hX hR dX5_scarecrow_22 ⟨(congrArg (fun z => some (Value.int (jI z))) (by unfold tsR2; (repeat' split) <;> first | rfl | omega)), rfl⟩
  · refine V_iconst hX dX5_scarecrow_8 ?_
    exact V_iret hX hR dX5_scarecrow_9 ⟨(congrArg (fun z => some (Value.int (jI z))) (by unfold tsR2; (repeat' split) <;> first | rfl | omega)), rfl⟩

set_option maxHeartbeats 4000000 in
set_option maxRecDepth 100000 in
theorem c_X5_stopped (l : Launch) (G : vC) (m : Nat → Nat) (s : Nat → Int) (sp : Nat → Int) (hi : Nat → Int) (sn : Nat → Int) (tx : Nat → Int) (g3 : Int) (g5 : Int) (g7 : Int) (g8 : Int) (g9 : Int) (g10 : Int) (g11 : Int) (g12 : Int) (g13 : Int) (a : Int) (ha : iR a) (h13 : iR g13) (h12 : iR g12) : Fn l G yX5_stopped cX5_stopped 2 (some .int) ({ frames := 1, cells := 0, slots := 0, locals := 22 } : Room) [.ref (m 0), .int (jI a)] (mB G m s sp hi sn tx g3 g5 g7 g8 g9 g10 g11 g12 g13) (some (.int (jI (if 0 ≤ a ∧ a ≤ 1 then (if g13 = 0 then -5 else if a = 0 then g12 else g13) else -2)))) (mB G m s sp hi sn tx g3 g5 g7 g8 g9 g10 g11 g12 g13) := by
  refine Ct.of (by decide) (Nat.le_of_ble_eq_true rfl) (fun X hX hR => ?_)
  refine V.toLv (lv' := [(0, .ref (m 0)), (1, .int (jI a))]) rfl ?_
  refine V_iload_n hX dX5_stopped_0 1 rfl ?_
  refine V_iconst hX dX5_stopped_1 ?_
  refine V_iconst hX dX5_stopped_2 ?_
  refine V_cS (st := []) (v := .int (jI (bI (0 ≤ a ∧ a ≤ 1)))) (w' := mB G m s sp hi sn tx g3 g5 g7 g8 g9 g10 g11 g12 g13) hX wc_X5_25 (c_X5_within l G a 0 1 (by omega) (by omega) (by omega)) (by decide) (by decide) rfl rfl (Nat.le_of_ble_eq_true rfl) dX5_stopped_3 [] (mB G m s sp hi sn tx g3 g5 g7 g8 g9 g10 g11 g12 g13) (by simp only [List.append_assoc, List.nil_append, List.append_nil]) (by simp only [List.append_assoc, List.nil_append, List.append_nil]) rfl rfl ?_
  refine V_ifnz (tgt := 12) hX dX5_stopped_6 (by decide) (fun c_1 => ?_) (fun c_1 => ?_)
  · refine V_aload_n hX dX5_stopped_12 0 rfl ?_
    refine V_get (v := .int (jI g13)) hX cbX5 13 0 (by decide) wf_X5_173 rfl rfl rfl rfl dX5_stopped_13 ?_
    refine V_if_ne (tgt := 24) hX dX5_stopped_16 (by decide) (by omega) (fun c_2 => ?_) (fun c_2 => ?_)
    · refine V_iload_n hX dX5_stopped_24 1 rfl ?_
      refine V_if_ne (tgt := 35) hX dX5_stopped_25 (by decide) (by omega) (fun c_3 => ?_) (fun c_3 => ?_)
      · refine V_aload_n hX dX5_stopped_35 0 rfl ?_
        refine V_get (v := .int (jI g13)) hX cbX5 13 0 (by decide) wf_X5_173 rfl rfl rfl rfl dX5_stopped_36 ?_
        exact V_iret hX hR dX5_stopped_39 ⟨(congrArg (fun z => some (Value.int (jI z))) (by first | rfl | ((repeat' split) <;> first | rfl | omega | exact (up_same (by omega)).symm | exact up_same (by omega)))), rfl⟩
      · refine V_aload_n hX dX5_stopped_28 0 rfl ?_
        refine V_get (v := .int (jI g12)) hX cbX5 12 0 (by decide) wf_X5_170 rfl rfl rfl rfl dX5_stopped_29 ?_
        refine V_goto (tgt := 39) hX dX5_stopped_32 (by decide) ?_
        exact V_iret hX hR dX5_stopped_39 ⟨(congrArg (fun z => some (Value.int (jI z))) (by first | rfl | ((repeat' split) <;> first | rfl | omega | exact (up_same (by omega)).symm | exact up_same (by omega)))), rfl⟩
    · refine V_bipush hX dX5_stopped_19 (by decide) ?_
      refine V_goto (tgt := 39) hX dX5_stopped_21 (by decide) ?_
      exact V_iret hX hR dX5_stopped_39 ⟨(congrArg (fun z => some (Value.int (jI z))) (by first | rfl | ((repeat' split) <;> first | rfl | omega | exact (up_same (by omega)).symm | exact up_same (by omega)))), rfl⟩
  · refine V_bipush hX dX5_stopped_9 (by decide) ?_
    exact V_iret hX hR dX5_stopped_11 ⟨(congrArg (fun z => some (Value.int (jI z))) (by first | rfl | ((repeat' split) <;> first | rfl | omega | exact (up_same (by omega)).symm | exact up_same (by omega)))), rfl⟩

set_option maxHeartbeats 4000000 in
set_option maxRecDepth 100000 in
theorem c_X5_type (l : Launch) (G : vC) (m : Nat → Nat) (s : Nat → Int) (sp : Nat → Int) (hi : Nat → Int) (sn : Nat → Int) (tx : Nat → Int) (g3 : Int) (g5 : Int) (g7 : Int) (g8 : Int) (g9 : Int) (g10 : Int) (g11 : Int) (g12 : Int) (g13 : Int) (e : Int) (he : 0 ≤ e ∧ e < 65536) (hS : SI tx g7) : Fn l G yX5_type cX5_type 2 (some .int) ({ frames := 0, cells := 0, slots := 0, locals := 0 } : Room) [.ref (m 0), .int (jI e)] (mB G m s sp hi sn tx g3 g5 g7 g8 g9 g10 g11 g12 g13) (some (.int (jI (if g7 < 60 then g7 + 1 else -3)))) (mB G m s sp hi sn (if g7 < 60 then up tx g7.toNat e else tx) g3 g5 (if g7 < 60 then g7 + 1 else g7) g8 g9 g10 g11 g12 g13) := by
  refine Ct.of (by decide) (Nat.le_of_ble_eq_true rfl) (fun X hX hR => ?_)
  refine V.toLv (lv' := [(0, .ref (m 0)), (1, .int (jI e))]) rfl ?_
  have hln := hS.2
  refine V_aload_n hX dX5_type_0 0 rfl ?_
  refine V_get (v := .int (jI g7)) hX cbX5 7 0 (by decide) wf_X5_129 rfl rfl rfl rfl dX5_type_1 ?_
  refine V_bipush hX dX5_type_4 (by decide) ?_
  refine V_icmp_ne (tgt := 12) hX dX5_type_6 (by decide) (by omega) (by decide) (fun c_1 => ?_) (fun c_1 => ?_)
  · refine V_aload_n hX dX5_type_12 0 rfl ?_
    refine V_get (v := .ref (m 5)) hX cbX5 6 0 (by decide) wf_X5_22 rfl rfl rfl rfl dX5_type_13 ?_
    refine V_aload_n hX dX5_type_16 0 rfl ?_
    refine V_get (v := .int (jI g7)) hX cbX5 7 0 (by decide) wf_X5_129 rfl rfl rfl rfl dX5_type_17 ?_
    refine V_iload_n hX dX5_type_20 1 rfl ?_
    refine V_iast (i0 := g7.toNat) (w' := mB G m s sp hi sn (up tx g7.toNat e) g3 g5 g7 g8 g9 g10 g11 g12 g13) hX 5 rfl (by omega) (by omega) (by omega) rfl dX5_type_21 (mB_w5 G _ _ _ _ _ _ _ _ _ _ _ _ _ _ _ _ _) ?_
    refine V_aload_n hX dX5_type_22 0 rfl ?_
    refine V_dup hX dX5_type_23 rfl ?_
    refine V_get (v := .int (jI g7)) hX cbX5 7 0 (by decide) wf_X5_129 rfl rfl rfl rfl dX5_type_24 ?_
    refine V_iconst hX dX5_type_27 ?_
    refine V_iadd hX dX5_type_28 rfl ?_
    refine V_put (w' := mB G m s sp hi sn (up tx g7.toNat e) g3 g5 (g7 + 1) g8 g9 g10 g11 g12 g13) hX cbX5 7 0 (by decide) wf_X5_129 rfl rfl rfl rfl rfl rfl (Nat.le_of_ble_eq_true rfl) dX5_type_29 rfl ?_
    refine V_aload_n hX dX5_type_32 0 rfl ?_
    refine V_get (v := .int (jI (g7 + 1))) hX cbX5 7 0 (by decide) wf_X5_129 rfl rfl rfl rfl dX5_type_33 ?_
    exact V_iret hX hR dX5_type_36 ⟨(congrArg (fun z => some (Value.int (jI z))) (by first | rfl | ((repeat' split) <;> first | rfl | omega | exact (up_same (by omega)).symm | exact up_same (by omega)))), (mB_c rfl rfl rfl rfl (by first | rfl | ((repeat' split) <;> first | rfl | omega | exact (up_same (by omega)).symm | exact up_same (by omega))) rfl rfl (by first | rfl | ((repeat' split) <;> first | rfl | omega | exact (up_same (by omega)).symm | exact up_same (by omega))) rfl rfl rfl rfl rfl rfl)⟩
  · refine V_bipush hX dX5_type_9 (by decide) ?_
    exact V_iret hX hR dX5_type_11 ⟨(congrArg (fun z => some (Value.int (jI z))) (by first | rfl | ((repeat' split) <;> first | rfl | omega | exact (up_same (by omega)).symm | exact up_same (by omega)))), (mB_c rfl rfl rfl rfl (by first | rfl | ((repeat' split) <;> first | rfl | omega | exact (up_same (by omega)).symm | exact up_same (by omega))) rfl rfl (by first | rfl | ((repeat' split) <;> first | rfl | omega | exact (up_same (by omega)).symm | exact up_same (by omega))) rfl rfl rfl rfl rfl rfl)⟩

set_option maxHeartbeats 4000000 in
set_option maxRecDepth 100000 in
theorem c_X5_clearText (l : Launch) (G : vC) (m : Nat → Nat) (s : Nat → Int) (sp : Nat → Int) (hi : Nat → Int) (sn : Nat → Int) (tx : Nat → Int) (g3 : Int) (g5 : Int) (g7 : Int) (g8 : Int) (g9 : Int) (g10 : Int) (g11 : Int) (g12 : Int) (g13 : Int) (hS : SI tx g7) : Fn l G yX5_clearText cX5_clearText 2 (some .int) ({ frames := 0, cells := 0, slots := 0, locals := 0 } : Room) [.ref (m 0)] (mB G m s sp hi sn tx g3 g5 g7 g8 g9 g10 g11 g12 g13) (some (.int (jI g7))) (mB G m s sp hi sn tx g3 g5 0 g8 g9 g10 g11 g12 g13) := by
  refine Ct.of (by decide) (Nat.le_of_ble_eq_true rfl) (fun X hX hR => ?_)
  refine V.toLv (lv' := [(0, .ref (m 0))]) rfl ?_
  have hln := hS.2
  refine V_aload_n hX dX5_clearText_0 0 rfl ?_
  refine V_get (v := .int (jI g7)) hX cbX5 7 0 (by decide) wf_X5_129 rfl rfl rfl rfl dX5_clearText_1 ?_
  refine V_istore_n (i := 1) (lv' := [(1, .int (jI g7)), (0, .ref (m 0))]) hX dX5_clearText_4 rfl (by decide) rfl ?_
  refine V_aload_n hX dX5_clearText_5 1 rfl ?_
  refine V_iconst hX dX5_clearText_6 ?_
  refine V_put (w' := mB G m s sp hi sn tx g3 g5 0 g8 g9 g10 g11 g12 g13) hX cbX5 7 0 (by decide) wf_X5_129 rfl rfl rfl rfl rfl rfl (Nat.le_of_ble_eq_true rfl) dX5_clearText_7 rfl ?_
  refine V_iload_n hX dX5_clearText_10 0 rfl ?_
  exact V_iret hX hR dX5_clearText_11 ⟨rfl, rfl⟩

set_option maxHeartbeats 4000000 in
set_option maxRecDepth 100000 in
theorem c_X5_sumOf (l : Launch) (G : vC) (m : Nat → Nat) (s : Nat → Int) (sp : Nat → Int) (hi : Nat → Int) (sn : Nat → Int) (tx : Nat → Int) (g3 : Int) (g5 : Int) (g7 : Int) (g8 : Int) (g9 : Int) (g10 : Int) (g11 : Int) (g12 : Int) (g13 : Int) (t : Int) (c : Int) (hI : Inv t s) (hc : c = 4 ∨ c = 5) : Fn l G yX5_sumOf cX5_sumOf 4 (some .int) ({ frames := 2, cells := 0, slots := 0, locals := 45 } : Room) [.ref (m 0), .int (jI c)] (mB G m s sp hi sn tx g3 g5 g7 g8 g9 g10 g11 g12 g13) (some (.int (jI (sumK (smF s c) (s 10).toNat)))) (mB G m s sp hi sn tx g3 g5 g7 g8 g9 g10 g11 g12 g13) := by
  refine Ct.of (by decide) (Nat.le_of_ble_eq_true rfl) (fun X hX hR => ?_)
  refine V.toLv (lv' := [(0, .ref (m 0)), (1, .int (jI c))]) rfl ?_
  have hb := hI.base
  obtain ⟨N, hN⟩ : ∃ N : Nat, s 10 = (N : Int) := ⟨(s 10).toNat, by omega⟩
  refine V_iconst hX dX5_sumOf_0 ?_
  refine V_istore_n (i := 2) (lv' := [(2, .int (jI 0)), (0, .ref (m 0)), (1, .int (jI c))]) hX dX5_sumOf_1 rfl (by decide) rfl ?_
  refine V_iconst hX dX5_sumOf_2 ?_
  refine V_istore_n (i := 3) (lv' := [(3, .int (jI 0)), (2, .int (jI 0)), (0, .ref (m 0)), (1, .int (jI c))]) hX dX5_sumOf_3 rfl (by decide) rfl ?_
  have L4_q_1 : ∀ k : Nat, k ≤ N → ∀ (i : Int) (acc : Int), (i = (k : Int)) → (acc = sumK (smF s c) k) → V X 0 0 (mB G m s sp hi sn tx g3 g5 g7 g8 g9 g10 g11 g12 g13) [(3, .int (jI i)), (2, .int (jI acc)), (0, .ref (m 0)), (1, .int (jI c))] 4 [] := by
    refine up_ind (fun k => ∀ (i : Int) (acc : Int), (i = (k : Int)) → (acc = sumK (smF s c) k) → V X 0 0 (mB G m s sp hi sn tx g3 g5 g7 g8 g9 g10 g11 g12 g13) [(3, .int (jI i)), (2, .int (jI acc)), (0, .ref (m 0)), (1, .int (jI c))] 4 []) (N) ?_
    intro k hk ih i acc hik hacc
    have hsm : sumK (smF s c) (k + 1) = sumK (smF s c) k + (if c = 5 then crN s k else s (ix k c.toNat)) := rfl
    refine V_iload_n hX dX5_sumOf_4 0 rfl ?_
    refine V_aload_n hX dX5_sumOf_5 2 rfl ?_
    refine V_get (v := .ref (m 1)) hX cbX5 0 0 (by decide) wf_X5_7 rfl rfl rfl rfl dX5_sumOf_6 ?_
    refine V_bipush hX dX5_sumOf_9 (by decide) ?_
    refine V_iald (i0 := 10) (r := (jI (s 10))) hX 1 rfl (by decide) (by decide) (by decide) rfl rfl dX5_sumOf_11 ?_
    refine V_icmp_ge (tgt := 43) hX dX5_sumOf_12 (by decide) (by omega) (by omega) (fun c_2 => ?_) (fun c_2 => ?_)
    · refine V_iload_n hX dX5_sumOf_43 1 rfl ?_
      exact V_iret hX hR dX5_sumOf_44 ⟨(congrArg (fun z => some (Value.int (jI z))) (by rw [hacc]; congr 1; omega)), rfl⟩
    · refine V_iload_n hX dX5_sumOf_15 1 rfl ?_
      refine V_iload_n hX dX5_sumOf_16 3 rfl ?_
      refine V_iconst hX dX5_sumOf_17 ?_
      refine V_icmp_ne (tgt := 29) hX dX5_sumOf_18 (by decide) (by omega) (by decide) (fun c_3 => ?_) (fun c_3 => ?_)
      · refine V_aload_n hX dX5_sumOf_29 2 rfl ?_
        refine V_iload_n hX dX5_sumOf_30 0 rfl ?_
        refine V_iload_n hX dX5_sumOf_31 3 rfl ?_
        refine V.sk (st' := [.int (jI ((c.toNat : Int))), .int (jI i), .ref (m 0), .int (jI acc)]) (congrArg (fun z : Int => [Value.int (jI z), Value.int (jI i), Value.ref (m 0), Value.int (jI acc)]) (show c = (c.toNat : Int) by omega)) ?_
        refine V.sk (st' := [.int (jI ((c.toNat : Int))), .int (jI ((k : Int))), .ref (m 0), .int (jI acc)]) (congrArg (fun z : Int => [Value.int (jI ((c.toNat : Int))), Value.int (jI z), Value.ref (m 0), Value.int (jI acc)]) (show i = (k : Int) by omega)) ?_
        refine V_cV (st := [.int (jI acc)]) (v := .int (jI (s (ix k c.toNat)))) (w' := mB G m s sp hi sn tx g3 g5 g7 g8 g9 g10 g11 g12 g13) hX wc_X5_29 (c_X5_of l G m s sp hi sn tx g3 g5 g7 g8 g9 g10 g11 g12 g13 k c.toNat (by omega) (by omega)) (by decide) (by decide) rfl rfl (Nat.le_of_ble_eq_true rfl) dX5_sumOf_32 [] ([]) (by simp only [List.append_assoc, List.nil_append, List.append_nil]) 0 rfl rfl (by simp only [List.append_assoc, List.nil_append, List.append_nil]) rfl rfl ?_
        refine V_iadd hX dX5_sumOf_35 rfl ?_
        refine V_istore_n (i := 2) (lv' := [(2, .int (jI (acc + (s (ix k c.toNat))))), (3, .int (jI i)), (0, .ref (m 0)), (1, .int (jI c))]) hX dX5_sumOf_36 rfl (by decide) rfl ?_
        refine V_iinc (b := i + 1) (lv' := [(3, .int (jI (i + 1))), (2, .int (jI (acc + (s (ix k c.toNat))))), (0, .ref (m 0)), (1, .int (jI c))]) hX dX5_sumOf_37 1 rfl rfl (by decide) rfl ?_
        refine V_goto (tgt := 4) hX dX5_sumOf_40 (by decide) ?_
        refine V.sub [0, 1, 2, 3] rfl ?_
        exact ih (by omega) _ _ (by omega) (by rw [hsm, hacc]; split <;> omega)
      · refine V_aload_n hX dX5_sumOf_21 2 rfl ?_
        refine V_iload_n hX dX5_sumOf_22 0 rfl ?_
        refine V.sk (st' := [.int (jI ((k : Int))), .ref (m 0), .int (jI acc)]) (congrArg (fun z : Int => [Value.int (jI z), Value.ref (m 0), Value.int (jI acc)]) (show i = (k : Int) by omega)) ?_
        refine V_cV (st := [.int (jI acc)]) (v := .int (jI (crN s k))) (w' := mB G m s sp hi sn tx g3 g5 g7 g8 g9 g10 g11 g12 g13) hX wc_X5_79 (c_X5_crowsOn l G m s sp hi sn tx g3 g5 g7 g8 g9 g10 g11 g12 g13 t k hI (by omega)) (by decide) (by decide) rfl rfl (Nat.le_of_ble_eq_true rfl) dX5_sumOf_23 [] ([]) (by simp only [List.append_assoc, List.nil_append, List.append_nil]) 0 rfl rfl (by simp only [List.append_assoc, List.nil_append, List.append_nil]) rfl rfl ?_
        refine V_goto (tgt := 35) hX dX5_sumOf_26 (by decide) ?_
        refine V_iadd hX dX5_sumOf_35 rfl ?_
        refine V_istore_n (i := 2) (lv' := [(2, .int (jI (acc + (crN s k)))), (3, .int (jI i)), (0, .ref (m 0)), (1, .int (jI c))]) hX dX5_sumOf_36 rfl (by decide) rfl ?_
        refine V_iinc (b := i + 1) (lv' := [(3, .int (jI (i + 1))), (2, .int (jI (acc + (crN s k)))), (0, .ref (m 0)), (1, .int (jI c))]) hX dX5_sumOf_37 1 rfl rfl (by decide) rfl ?_
        refine V_goto (tgt := 4) hX dX5_sumOf_40 (by decide) ?_
        refine V.sub [0, 1, 2, 3] rfl ?_
        exact ih (by omega) _ _ (by omega) (by rw [hsm, hacc]; split <;> omega)
  refine V.sub [0, 1, 2, 3] rfl ?_
  exact L4_q_1 0 (Nat.zero_le _) 0 0 rfl rfl

set_option maxHeartbeats 4000000 in
set_option maxRecDepth 100000 in
theorem c_X5_count (l : Launch) (G : vC) (m : Nat → Nat) (s : Nat → Int) (sp : Nat → Int) (hi : Nat → Int) (sn : Nat → Int) (tx : Nat → Int) (g3 : Int) (g5 : Int) (g7 : Int) (g8 : Int) (g9 : Int) (g10 : Int) (g11 : Int) (g12 : Int) (g13 : Int) (t : Int) (e : Int) (hI : Inv t s) (he : iR e) : Fn l G yX5_count cX5_count 2 (some .int) ({ frames := 3, cells := 0, slots := 0, locals := 68 } : Room) [.ref (m 0), .int (jI e)] (mB G m s sp hi sn tx g3 g5 g7 g8 g9 g10 g11 g12 g13) (some (.int (jI (mcR s g3 g7 e)))) (mB G m s sp hi sn tx g3 g5 g7 g8 g9 g10 g11 g12 g13) := by
  refine Ct.of (by decide) (Nat.le_of_ble_eq_true rfl) (fun X hX hR => ?_)
  refine V.toLv (lv' := [(0, .ref (m 0)), (1, .int (jI e))]) rfl ?_
  have hb := hI.base
  refine V_iload_n hX dX5_count_0 1 rfl ?_
  by_cases c_1 : e = 0
  · refine V_tableIn (tgt := 80) hX 0 dX5_count_1 c_1 (by decide) (by decide) (by decide) rfl (by decide) ?_
    subst c_1
    refine V_aload_n hX dX5_count_80 0 rfl ?_
    refine V_get (v := .ref (m 1)) hX cbX5 0 0 (by decide) wf_X5_7 rfl rfl rfl rfl dX5_count_81 ?_
    refine V_iconst hX dX5_count_84 ?_
    refine V_iald (i0 := 2) (r := (jI (s 2))) hX 1 rfl (by decide) (by decide) (by decide) rfl rfl dX5_count_85 ?_
    exact V_iret hX hR dX5_count_86 ⟨(congrArg (fun z => some (Value.int (jI z))) (by unfold mcR; (repeat' split) <;> first | rfl | omega)), rfl⟩
  by_cases c_2 : e = 1
  · refine V_tableIn (tgt := 87) hX 1 dX5_count_1 c_2 (by decide) (by decide) (by decide) rfl (by decide) ?_
    subst c_2
    refine V_aload_n hX dX5_count_87 0 rfl ?_
    refine V_get (v := .ref (m 1)) hX cbX5 0 0 (by decide) wf_X5_7 rfl rfl rfl rfl dX5_count_88 ?_
    refine V_bipush hX dX5_count_91 (by decide) ?_
    refine V_iald (i0 := 10) (r := (jI (s 10))) hX 1 rfl (by decide) (by decide) (by decide) rfl rfl dX5_count_93 ?_
    exact V_iret hX hR dX5_count_94 ⟨(congrArg (fun z => some (Value.int (jI z))) (by unfold mcR; (repeat' split) <;> first | rfl | omega)), rfl⟩
  by_cases c_3 : e = 2
  · refine V_tableIn (tgt := 95) hX 2 dX5_count_1 c_3 (by decide) (by decide) (by decide) rfl (by decide) ?_
    subst c_3
    refine V_aload_n hX dX5_count_95 0 rfl ?_
    refine V_iconst hX dX5_count_96 ?_
    refine V_cV (st := []) (v := .int (jI (sumK (smF s 5) (s 10).toNat))) (w' := mB G m s sp hi sn tx g3 g5 g7 g8 g9 g10 g11 g12 g13) hX wc_X5_187 (c_X5_sumOf l G m s sp hi sn tx g3 g5 g7 g8 g9 g10 g11 g12 g13 t 5 hI (by omega)) (by decide) (by decide) rfl rfl (Nat.le_of_ble_eq_true rfl) dX5_count_97 [] ([]) (by simp only [List.append_assoc, List.nil_append, List.append_nil]) 0 rfl rfl (by simp only [List.append_assoc, List.nil_append, List.append_nil]) rfl rfl ?_
    exact V_iret hX hR dX5_count_100 ⟨(congrArg (fun z => some (Value.int (jI z))) (by unfold mcR; (repeat' split) <;> first | rfl | omega)), rfl⟩
  by_cases c_4 : e = 3
  · refine V_tableIn (tgt := 101) hX 3 dX5_count_1 c_4 (by decide) (by decide) (by decide) rfl (by decide) ?_
    subst c_4
    refine V_aload_n hX dX5_count_101 0 rfl ?_
    refine V_get (v := .ref (m 1)) hX cbX5 0 0 (by decide) wf_X5_7 rfl rfl rfl rfl dX5_count_102 ?_
    refine V_iconst hX dX5_count_105 ?_
    refine V_iload_n hX dX5_count_106 1 rfl ?_
    refine V_iadd (c := 6) hX dX5_count_107 rfl ?_
    refine V_iconst hX dX5_count_108 ?_
    refine V_isub (c := 3) hX dX5_count_109 rfl ?_
    refine V_iald (i0 := 3) (r := (jI (s 3))) hX 1 rfl (by decide) (by decide) (by decide) rfl rfl dX5_count_110 ?_
    exact V_iret hX hR dX5_count_111 ⟨(congrArg (fun z => some (Value.int (jI z))) (by unfold mcR; (repeat' split) <;> first | rfl | omega)), rfl⟩
  by_cases c_5 : e = 4
  · refine V_tableIn (tgt := 101) hX 4 dX5_count_1 c_5 (by decide) (by decide) (by decide) rfl (by decide) ?_
    subst c_5
    refine V_aload_n hX dX5_count_101 0 rfl ?_
    refine V_get (v := .ref (m 1)) hX cbX5 0 0 (by decide) wf_X5_7 rfl rfl rfl rfl dX5_count_102 ?_
    refine V_iconst hX dX5_count_105 ?_
    refine V_iload_n hX dX5_count_106 1 rfl ?_
    refine V_iadd (c := 7) hX dX5_count_107 rfl ?_
    refine V_iconst hX dX5_count_108 ?_
    refine V_isub (c := 4) hX dX5_count_109 rfl ?_
    refine V_iald (i0 := 4) (r := (jI (s 4))) hX 1 rfl (by decide) (by decide) (by decide) rfl rfl dX5_count_110 ?_
    exact V_iret hX hR dX5_count_111 ⟨(congrArg (fun z => some (Value.int (jI z))) (by unfold mcR; (repeat' split) <;> first | rfl | omega)), rfl⟩
  by_cases c_6 : e = 5
  · refine V_tableIn (tgt := 101) hX 5 dX5_count_1 c_6 (by decide) (by decide) (by decide) rfl (by decide) ?_
    subst c_6
    refine V_aload_n hX dX5_count_101 0 rfl ?_
    refine V_get (v := .ref (m 1)) hX cbX5 0 0 (by decide) wf_X5_7 rfl rfl rfl rfl dX5_count_102 ?_
    refine V_iconst hX dX5_count_105 ?_
    refine V_iload_n hX dX5_count_106 1 rfl ?_
    refine V_iadd (c := 8) hX dX5_count_107 rfl ?_
    refine V_iconst hX dX5_count_108 ?_
    refine V_isub (c := 5) hX dX5_count_109 rfl ?_
    refine V_iald (i0 := 5) (r := (jI (s 5))) hX 1 rfl (by decide) (by decide) (by decide) rfl rfl dX5_count_110 ?_
    exact V_iret hX hR dX5_count_111 ⟨(congrArg (fun z => some (Value.int (jI z))) (by unfold mcR; (repeat' split) <;> first | rfl | omega)), rfl⟩
  by_cases c_7 : e = 6
  · refine V_tableIn (tgt := 112) hX 6 dX5_count_1 c_7 (by decide) (by decide) (by decide) rfl (by decide) ?_
    subst c_7
    refine V_aload_n hX dX5_count_112 0 rfl ?_
    refine V_iconst hX dX5_count_113 ?_
    refine V_cV (st := []) (v := .int (jI (sumK (smF s 4) (s 10).toNat))) (w' := mB G m s sp hi sn tx g3 g5 g7 g8 g9 g10 g11 g12 g13) hX wc_X5_187 (c_X5_sumOf l G m s sp hi sn tx g3 g5 g7 g8 g9 g10 g11 g12 g13 t 4 hI (by omega)) (by decide) (by decide) rfl rfl (Nat.le_of_ble_eq_true rfl) dX5_count_114 [] ([]) (by simp only [List.append_assoc, List.nil_append, List.append_nil]) 0 rfl rfl (by simp only [List.append_assoc, List.nil_append, List.append_nil]) rfl rfl ?_
    exact V_iret hX hR dX5_count_117 ⟨(congrArg (fun z => some (Value.int (jI z))) (by unfold mcR; (repeat' split) <;> first | rfl | omega)), rfl⟩
  by_cases c_8 : e = 7
  · refine V_tableIn (tgt := 118) hX 7 dX5_count_1 c_8 (by decide) (by decide) (by decide) rfl (by decide) ?_
    subst c_8
    refine V_aload_n hX dX5_count_118 0 rfl ?_
    refine V_get (v := .ref (m 1)) hX cbX5 0 0 (by decide) wf_X5_7 rfl rfl rfl rfl dX5_count_119 ?_
    refine V_bipush hX dX5_count_122 (by decide) ?_
    refine V_iload_n hX dX5_count_124 1 rfl ?_
    refine V_iadd (c := 13) hX dX5_count_125 rfl ?_
    refine V_bipush hX dX5_count_126 (by decide) ?_
    refine V_isub (c := 6) hX dX5_count_128 rfl ?_
    refine V_iald (i0 := 6) (r := (jI (s 6))) hX 1 rfl (by decide) (by decide) (by decide) rfl rfl dX5_count_129 ?_
    exact V_iret hX hR dX5_count_130 ⟨(congrArg (fun z => some (Value.int (jI z))) (by unfold mcR; (repeat' split) <;> first | rfl | omega)), rfl⟩
  by_cases c_9 : e = 8
  · refine V_tableIn (tgt := 118) hX 8 dX5_count_1 c_9 (by decide) (by decide) (by decide) rfl (by decide) ?_
    subst c_9
    refine V_aload_n hX dX5_count_118 0 rfl ?_
    refine V_get (v := .ref (m 1)) hX cbX5 0 0 (by decide) wf_X5_7 rfl rfl rfl rfl dX5_count_119 ?_
    refine V_bipush hX dX5_count_122 (by decide) ?_
    refine V_iload_n hX dX5_count_124 1 rfl ?_
    refine V_iadd (c := 14) hX dX5_count_125 rfl ?_
    refine V_bipush hX dX5_count_126 (by decide) ?_
    refine V_isub (c := 7) hX dX5_count_128 rfl ?_
    refine V_iald (i0 := 7) (r := (jI (s 7))) hX 1 rfl (by decide) (by decide) (by decide) rfl rfl dX5_count_129 ?_
    exact V_iret hX hR dX5_count_130 ⟨(congrArg (fun z => some (Value.int (jI z))) (by unfold mcR; (repeat' split) <;> first | rfl | omega)), rfl⟩
  by_cases c_10 : e = 9
  · refine V_tableIn (tgt := 118) hX 9 dX5_count_1 c_10 (by decide) (by decide) (by decide) rfl (by decide) ?_
    subst c_10
    refine V_aload_n hX dX5_count_118 0 rfl ?_
    refine V_get (v := .ref (m 1)) hX cbX5 0 0 (by decide) wf_X5_7 rfl rfl rfl rfl dX5_count_119 ?_
    refine V_bipush hX dX5_count_122 (by decide) ?_
    refine V_iload_n hX dX5_count_124 1 rfl ?_
    refine V_iadd (c := 15) hX dX5_count_125 rfl ?_
    refine V_bipush hX dX5_count_126 (by decide) ?_
    refine V_isub (c := 8) hX dX5_count_128 rfl ?_
    refine V_iald (i0 := 8) (r := (jI (s 8))) hX 1 rfl (by decide) (by decide) (by decide) rfl rfl dX5_count_129 ?_
    exact V_iret hX hR dX5_count_130 ⟨(congrArg (fun z => some (Value.int (jI z))) (by unfold mcR; (repeat' split) <;> first | rfl | omega)), rfl⟩
  by_cases c_11 : e = 10
  · refine V_tableIn (tgt := 118) hX 10 dX5_count_1 c_11 (by decide) (by decide) (by decide) rfl (by decide) ?_
    subst c_11
    refine V_aload_n hX dX5_count_118 0 rfl ?_
    refine V_get (v := .ref (m 1)) hX cbX5 0 0 (by decide) wf_X5_7 rfl rfl rfl rfl dX5_count_119 ?_
    refine V_bipush hX dX5_count_122 (by decide) ?_
    refine V_iload_n hX dX5_count_124 1 rfl ?_
    refine V_iadd (c := 16) hX dX5_count_125 rfl ?_
    refine V_bipush hX dX5_count_126 (by decide) ?_
    refine V_isub (c := 9) hX dX5_count_128 rfl ?_
    refine V_iald (i0 := 9) (r := (jI (s 9))) hX 1 rfl (by decide) (by decide) (by decide) rfl rfl dX5_count_129 ?_
    exact V_iret hX hR dX5_count_130 ⟨(congrArg (fun z => some (Value.int (jI z))) (by unfold mcR; (repeat' split) <;> first | rfl | omega)), rfl⟩
  by_cases c_12 : e = 11
  · refine V_tableIn (tgt := 131) hX 11 dX5_count_1 c_12 (by decide) (by decide) (by decide) rfl (by decide) ?_
    subst c_12
    refine V_aload_n hX dX5_count_131 0 rfl ?_
    refine V_cV (st := []) (v := .int (jI (allS s))) (w' := mB G m s sp hi sn tx g3 g5 g7 g8 g9 g10 g11 g12 g13) hX wc_X5_71 (c_X5_allSeats l G m s sp hi sn tx g3 g5 g7 g8 g9 g10 g11 g12 g13 t hI) (by decide) (by decide) rfl rfl (Nat.le_of_ble_eq_true rfl) dX5_count_132 [] ([]) (by simp only [List.append_assoc, List.nil_append, List.append_nil]) 0 rfl rfl (by simp only [List.append_assoc, List.nil_append, List.append_nil]) rfl rfl ?_
    exact V_iret hX hR dX5_count_135 ⟨(congrArg (fun z => some (Value.int (jI z))) (by unfold mcR; (repeat' split) <;> first | rfl | omega)), rfl⟩
  by_cases c_13 : e = 12
  · refine V_tableIn (tgt := 136) hX 12 dX5_count_1 c_13 (by decide) (by decide) (by decide) rfl (by decide) ?_
    subst c_13
    refine V_aload_n hX dX5_count_136 0 rfl ?_
    refine V_get (v := .ref (m 1)) hX cbX5 0 0 (by decide) wf_X5_7 rfl rfl rfl rfl dX5_count_137 ?_
    refine V_iconst hX dX5_count_140 ?_
    refine V_iload_n hX dX5_count_141 1 rfl ?_
    refine V_iadd (c := 12) hX dX5_count_142 rfl ?_
    refine V_bipush hX dX5_count_143 (by decide) ?_
    refine V_isub (c := 0) hX dX5_count_145 rfl ?_
    refine V_iald (i0 := 0) (r := (jI (s 0))) hX 1 rfl (by decide) (by decide) (by decide) rfl rfl dX5_count_146 ?_
    exact V_iret hX hR dX5_count_147 ⟨(congrArg (fun z => some (Value.int (jI z))) (by unfold mcR; (repeat' split) <;> first | rfl | omega)), rfl⟩
  by_cases c_14 : e = 13
  · refine V_tableIn (tgt := 136) hX 13 dX5_count_1 c_14 (by decide) (by decide) (by decide) rfl (by decide) ?_
    subst c_14
    refine V_aload_n hX dX5_count_136 0 rfl ?_
    refine V_get (v := .ref (m 1)) hX cbX5 0 0 (by decide) wf_X5_7 rfl rfl rfl rfl dX5_count_137 ?_
    refine V_iconst hX dX5_count_140 ?_
    refine V_iload_n hX dX5_count_141 1 rfl ?_
    refine V_iadd (c := 13) hX dX5_count_142 rfl ?_
    refine V_bipush hX dX5_count_143 (by decide) ?_
    refine V_isub (c := 1) hX dX5_count_145 rfl ?_
    refine V_iald (i0 := 1) (r := (jI (s 1))) hX 1 rfl (by decide) (by decide) (by decide) rfl rfl dX5_count_146 ?_
    exact V_iret hX hR dX5_count_147 ⟨(congrArg (fun z => some (Value.int (jI z))) (by unfold mcR; (repeat' split) <;> first | rfl | omega)), rfl⟩
  by_cases c_15 : e = 14
  · refine V_tableIn (tgt := 148) hX 14 dX5_count_1 c_15 (by decide) (by decide) (by decide) rfl (by decide) ?_
    subst c_15
    refine V_aload_n hX dX5_count_148 0 rfl ?_
    refine V_get (v := .int (jI g3)) hX cbX5 3 0 (by decide) wf_X5_33 rfl rfl rfl rfl dX5_count_149 ?_
    exact V_iret hX hR dX5_count_152 ⟨(congrArg (fun z => some (Value.int (jI z))) (by unfold mcR; (repeat' split) <;> first | rfl | omega)), rfl⟩
  by_cases c_16 : e = 15
  · refine V_tableIn (tgt := 153) hX 15 dX5_count_1 c_16 (by decide) (by decide) (by decide) rfl (by decide) ?_
    subst c_16
    refine V_aload_n hX dX5_count_153 0 rfl ?_
    refine V_get (v := .int (jI g7)) hX cbX5 7 0 (by decide) wf_X5_129 rfl rfl rfl rfl dX5_count_154 ?_
    exact V_iret hX hR dX5_count_157 ⟨(congrArg (fun z => some (Value.int (jI z))) (by unfold mcR; (repeat' split) <;> first | rfl | omega)), rfl⟩
  refine V_tableOut (tgt := 158) hX dX5_count_1 (by omega) (by omega) (by decide) ?_
  refine V_bipush hX dX5_count_158 (by decide) ?_
  exact V_iret hX hR dX5_count_160 ⟨(congrArg (fun z => some (Value.int (jI z))) (by unfold mcR; (repeat' split) <;> first | rfl | omega)), rfl⟩
