/-! the weights: floats that hold whole numbers of 64ths -/
theorem cd_form (k : Nat) (hk : k < 2 ^ 24) : ∃ j : Nat, j ≤ 143 ∧ cd k = .fin false (k * 2 ^ j) (-6 - j) := by
  unfold cd
  by_cases h0 : k = 0
  · subst h0
    exact ⟨143, by decide, by decide +kernel⟩
  · have h1 := Nat.log2_self_le h0
    have h2 : k < 2 ^ (k.log2 + 1) := Nat.lt_log2_self
    have h3 : k.log2 < 24 := (Nat.log2_lt h0).mpr hk
    refine ⟨23 - k.log2, by omega, ?_⟩
    have hlo : 2 ^ 23 ≤ k * 2 ^ (23 - k.log2) := by
      calc 2 ^ 23 = 2 ^ k.log2 * 2 ^ (23 - k.log2) := by rw [← Nat.pow_add]; congr 1; omega
        _ ≤ k * 2 ^ (23 - k.log2) := Nat.mul_le_mul_right _ h1
    have hhi : k * 2 ^ (23 - k.log2) < 2 ^ 24 := by
      calc k * 2 ^ (23 - k.log2) < 2 ^ (k.log2 + 1) * 2 ^ (23 - k.log2) := Nat.mul_lt_mul_of_pos_right h2 (Nat.two_pow_pos _)
        _ = 2 ^ 24 := by rw [← Nat.pow_add]; congr 1; omega
    refine FP.Core.roundRatio_exact FP.Core.good_b32 (by decide) ⟨hhi, ?_, ?_, Or.inr hlo⟩ ?_
    · show (-149 : Int) ≤ _; omega
    · show _ ≤ (104 : Int); omega
    · rw [show ((-6 : Int) - (-6 - ((23 - k.log2 : Nat) : Int))).toNat = 23 - k.log2 by omega, show ((-6 - ((23 - k.log2 : Nat) : Int)) - (-6 : Int)).toNat = 0 by omega]
      simp
theorem val_fB (k : Nat) : FP.Core.val32 (fB k) = cd k := FP.Core.val32_of32 (FP.Core.roundRatio_fits FP.Core.good_b32 false k (by decide) (-6))
theorem fB_nn {k : Nat} (hk : k < 2 ^ 24) : FP.Core.val32 (fB k) ≠ .nan := by
  obtain ⟨j, -, h⟩ := cd_form k hk
  rw [val_fB, h]
  exact fun h => by cases h
theorem vf_of {x : UInt32} (h : FP.Core.val32 x ≠ .nan) : vf_n32 x := by
  unfold vf_n32
  rw [UInt32.le_iff_toNat_le, UInt32.toNat_and]
  show x.toNat &&& (2 ^ 31 - 1) ≤ 2139095040
  rw [Nat.and_two_pow_sub_one_eq_mod]
  unfold FP.Core.val32 FP.Core.decode FP.Core.fieldE FP.Core.fieldT at h
  have e1 : FP.Core.b32.tails = 8388608 := by decide
  have e2 : FP.Core.b32.exps = 256 := by decide
  rw [e1, e2] at h
  by_cases h1 : x.toNat / 8388608 % 256 = 256 - 1
  · rw [if_pos h1] at h
    by_cases h2 : x.toNat % 8388608 = 0
    · omega
    · rw [if_neg h2] at h
      exact absurd rfl h
  · omega
theorem fB_vf {k : Nat} (hk : k < 2 ^ 24) : vf_n32 (fB k) := vf_of (fB_nn hk)
theorem vf_of64 {x : UInt64} (h : FP.Core.val64 x ≠ .nan) : vf_n64 x := by
  unfold vf_n64
  rw [UInt64.le_iff_toNat_le, UInt64.toNat_and]
  show x.toNat &&& (2 ^ 63 - 1) ≤ 9218868437227405312
  rw [Nat.and_two_pow_sub_one_eq_mod]
  unfold FP.Core.val64 FP.Core.decode FP.Core.fieldE FP.Core.fieldT at h
  have e1 : FP.Core.b64.tails = 4503599627370496 := by decide
  have e2 : FP.Core.b64.exps = 2048 := by decide
  rw [e1, e2] at h
  by_cases h1 : x.toNat / 4503599627370496 % 2048 = 2048 - 1
  · rw [if_pos h1] at h
    by_cases h2 : x.toNat % 4503599627370496 = 0
    · omega
    · rw [if_neg h2] at h
      exact absurd rfl h
  · omega
theorem fB_add {a b : Nat} (h : a + b < 2 ^ 24) : FP.fadd (fB a) (fB b) = fB (a + b) := by
  refine FP.Core.val32_inj (a := FP.Core.fadd (fB a) (fB b)) (b := fB (a + b)) ?_ ?_
  all_goals rw [FP.Core.val32_fadd, val_fB, val_fB]
  all_goals obtain ⟨j, hj, ha⟩ := cd_form a (by omega)
  all_goals obtain ⟨i, hi, hb⟩ := cd_form b (by omega)
  all_goals rw [ha, hb]
  · show FP.Core.roundRatio _ _ _ _ _ ≠ _
    unfold FP.Core.roundRatio
    split
    · exact fun h => by cases h
    · unfold FP.Core.roundAt FP.Core.settle FP.Core.bound
      split <;> split <;> exact fun h => by cases h
  · rw [val_fB]
    have key : FP.Core.sumUnits false (a * 2 ^ j) (-6 - j) false (b * 2 ^ i) (-6 - i) (min (-6 - j) (-6 - i)) = (((a + b) * 2 ^ (max j i) : Nat) : Int) := by
      unfold FP.Core.sumUnits FP.Core.signed FP.Core.inUnits
      simp only [if_neg (by decide : ¬ (false = true))]
      have e1 : ((-6 - (j : Int)) - min (-6 - (j : Int)) (-6 - i)).toNat = max j i - j := by omega
      have e2 : ((-6 - (i : Int)) - min (-6 - (j : Int)) (-6 - i)).toNat = max j i - i := by omega
      rw [e1, e2, Nat.mul_assoc, Nat.mul_assoc, ← Nat.pow_add, ← Nat.pow_add, show j + (max j i - j) = max j i by omega, show i + (max j i - i) = max j i by omega, Nat.add_mul]
      simp
    unfold FP.Core.exactSum FP.Core.round
    simp only [key]
    have es : FP.Core.sumSign false false (((a + b) * 2 ^ (max j i) : Nat) : Int) = false := by
      unfold FP.Core.sumSign
      split
      · rfl
      · exact decide_eq_false (by omega)
    rw [es]
    unfold cd
    refine FP.Core.roundRatio_congr (by decide) (by decide) ?_
    rw [Int.natAbs_natCast, show (min (-6 - (j : Int)) (-6 - i) - -6).toNat = 0 by omega, show (-6 - min (-6 - (j : Int)) (-6 - i)).toNat = max j i by omega]
    simp
theorem fB_cmp {a b : Nat} (ha : a < 2 ^ 24) (hb : b < 2 ^ 24) : FP.fcmp (fB a) (fB b) = some (compare (a : Int) (b : Int)) := by
  show FP.Core.order (FP.Core.val32 (fB a)) (FP.Core.val32 (fB b)) = _
  rw [val_fB, val_fB]
  obtain ⟨j, hj, h1⟩ := cd_form a ha
  obtain ⟨i, hi, h2⟩ := cd_form b hb
  rw [h1, h2]
  unfold FP.Core.order FP.Core.signed FP.Core.inUnits
  simp only [if_neg (by decide : ¬ (false = true))]
  have e1 : ((-6 - (j : Int)) - min (-6 - (j : Int)) (-6 - i)).toNat = max j i - j := by omega
  have e2 : ((-6 - (i : Int)) - min (-6 - (j : Int)) (-6 - i)).toNat = max j i - i := by omega
  rw [e1, e2, Nat.mul_assoc, Nat.mul_assoc, ← Nat.pow_add, ← Nat.pow_add, show j + (max j i - j) = max j i by omega, show i + (max j i - i) = max j i by omega]
  rw [Int.natCast_mul, Int.natCast_mul]
  rw [FP.Core.compare_mul_pos _ _ _ (by exact_mod_cast Nat.two_pow_pos _)]
theorem fB_straw : ∀ k : Nat, k < 65 → FP.fdiv (FP.i2f (jI k)) 1115684864 = fB k := by decide +kernel
theorem fB_lob : ∀ m : Nat, m < 73 → FP.fdiv (FP.i2f (jI m)) 1098907648 = fB (4 * m) := by decide +kernel
theorem fB_mul : ∀ k : Nat, k < 65 → ∀ m : Nat, m < 6 → FP.fmul (fB k) (FP.i2f (jI m)) = fB (k * m) := by decide +kernel
/-- a weight as a double -/
def dB (k : Nat) : UInt64 := FP.ddiv (FP.i2d (jI k)) 4634204016564240384
theorem cd64_form (k : Nat) (hk : k < 2 ^ 24) : ∃ j : Nat, j ≤ 1074 ∧ FP.Core.roundRatio FP.Core.b64 false k 1 0 = .fin false (k * 2 ^ j) (0 - j) := by
  by_cases h0 : k = 0
  · subst h0
    exact ⟨1074, by decide, by decide +kernel⟩
  · have h1 := Nat.log2_self_le h0
    have h2 : k < 2 ^ (k.log2 + 1) := Nat.lt_log2_self
    have h3 : k.log2 < 24 := (Nat.log2_lt h0).mpr hk
    refine ⟨52 - k.log2, by omega, ?_⟩
    have hlo : 2 ^ 52 ≤ k * 2 ^ (52 - k.log2) := by
      calc 2 ^ 52 = 2 ^ k.log2 * 2 ^ (52 - k.log2) := by rw [← Nat.pow_add]; congr 1; omega
        _ ≤ k * 2 ^ (52 - k.log2) := Nat.mul_le_mul_right _ h1
    have hhi : k * 2 ^ (52 - k.log2) < 2 ^ 53 := by
      calc k * 2 ^ (52 - k.log2) < 2 ^ (k.log2 + 1) * 2 ^ (52 - k.log2) := Nat.mul_lt_mul_of_pos_right h2 (Nat.two_pow_pos _)
        _ = 2 ^ 53 := by rw [← Nat.pow_add]; congr 1; omega
    refine FP.Core.roundRatio_exact FP.Core.good_b64 (by decide) ⟨hhi, ?_, ?_, Or.inr hlo⟩ ?_
    · show (-1074 : Int) ≤ _; omega
    · show _ ≤ (971 : Int); omega
    · rw [show ((0 : Int) - (0 - ((52 - k.log2 : Nat) : Int))).toNat = 52 - k.log2 by omega, show ((0 - ((52 - k.log2 : Nat) : Int)) - (0 : Int)).toNat = 0 by omega]
      simp
theorem val_dB {k : Nat} (hk : k < 2 ^ 24) : FP.Core.val64 (dB k) = FP.Core.roundRatio FP.Core.b64 false k 1 (-6) := by
  have e0 : FP.Core.val64 4634204016564240384 = .fin false (2 ^ 52) (-46) := by decide +kernel
  have e1 : FP.Core.val64 (FP.Core.i2d (jI k)) = FP.Core.roundRatio FP.Core.b64 false k 1 0 := by
    rw [FP.Core.val64_i2d, jI_toInt ⟨by omega, by omega⟩]
    show FP.Core.roundRatio _ (decide ((k : Int) < 0)) (k : Int).natAbs 1 0 = _
    rw [decide_eq_false (by omega), Int.natAbs_natCast]
  show FP.Core.val64 (FP.Core.ddiv (FP.Core.i2d (jI k)) 4634204016564240384) = _
  rw [FP.Core.val64_ddiv, e0, e1]
  obtain ⟨j, hj, h⟩ := cd64_form k hk
  rw [h]
  dsimp only [FP.Core.quotient]
  rw [if_neg (by decide)]
  refine FP.Core.roundRatio_congr (by decide) (by decide) ?_
  rw [show ((0 : Int) - j - -46 - -6).toNat = 52 - j by omega, show (-6 - ((0 : Int) - j - -46)).toNat = j - 52 by omega]
  rw [Nat.mul_one, Nat.mul_assoc, Nat.mul_assoc, ← Nat.pow_add, ← Nat.pow_add, show j + (52 - j) = 52 + (j - 52) by omega]
theorem dB_nn {k : Nat} (hk : k < 2 ^ 24) : FP.Core.val64 (dB k) ≠ .nan := by
  rw [val_dB hk]
  unfold FP.Core.roundRatio
  split
  · exact fun h => by cases h
  · unfold FP.Core.roundAt FP.Core.settle FP.Core.bound
    split <;> split <;> exact fun h => by cases h
theorem dB_vf {k : Nat} (hk : k < 2 ^ 24) : vf_n64 (dB k) := vf_of64 (dB_nn hk)
theorem fB_dB {k : Nat} (hk : k < 2 ^ 24) : FP.f2d (fB k) = dB k := by
  have hn : FP.Core.fIsNaN (fB k) = false := decide_eq_false (fB_nn hk)
  have e : FP.f2d (fB k) = FP.Core.f2d (fB k) := by unfold FP.f2d; rw [hn]; rfl
  rw [e]
  have e2 : FP.Core.val64 (FP.Core.f2d (fB k)) = FP.Core.val64 (dB k) := by
    rw [FP.Core.val64_f2d, val_fB, val_dB hk]
    obtain ⟨j, hj, h⟩ := cd_form k hk
    rw [h]
    show FP.Core.roundRatio _ _ _ _ _ = _
    refine FP.Core.roundRatio_congr (by decide) (by decide) ?_
    rw [show (-6 - (j : Int) - -6).toNat = 0 by omega, show (-6 - (-6 - (j : Int))).toNat = j by omega]
    simp
  exact FP.Core.val64_inj (by rw [e2]; exact dB_nn hk) e2
