/-! bits that are set one by one -/
theorem or_bit : ∀ k : Nat, k < 12 → ∀ x : Nat, x < 2 ^ k → (jI x) ||| ((jI 1) <<< ((jI k) &&& 31)) = jI ((x + 2 ^ k : Nat) : Int) := by decide +kernel
