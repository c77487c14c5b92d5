/-! the law's acts -/
def caR (s : Nat → Int) (k x y z : Int) : Int := if k = 0 then raR s (x % 6) (1 + y % 5) (1 + z % 9) (z / 9 % 4) else if k = 1 then brR s x y else if k = 2 then thR s x y else if k = 3 then tcR s x y else if k = 4 then soR s x else if k = 5 then stR s x z else if k = 6 then gsR s x y else if k = 7 then blR s y z else if k = 8 then adR s x z else if k = 9 then cvR (bsR s (pvF s true)) else goR s z
def caS (s : Nat → Int) (k x y z : Int) : Nat → Int := if k = 0 then raS s (x % 6) (1 + y % 5) (1 + z % 9) (z / 9 % 4) else if k = 1 then brS s x y else if k = 2 then thS s x y else if k = 3 then tcS s x y else if k = 4 then soS s x else if k = 5 then stS s x z else if k = 6 then gsS s x y else if k = 7 then blS s y z else if k = 8 then adS s x z else if k = 9 then cvS s (bsR s (pvF s true)) else goS s z
def rgP (k x y z : Int) : Prop := 0 ≤ k ∧ k ≤ 10 ∧ 0 ≤ x ∧ x ≤ 11 ∧ 0 ≤ y ∧ y ≤ 9 ∧ 0 ≤ z ∧ z ≤ 64 ∧ (k = 1 → y ≤ 5) ∧ (k = 2 ∨ k = 3 ∨ k = 7 → y ≤ 3) ∧ (k = 6 → x ≤ 5 ∧ 1 ≤ y) ∧ (k = 5 → 1 ≤ z) ∧ (k = 7 → z ≤ 9) ∧ (k = 8 → x ≤ 1 ∧ z ≤ 20 ∧ (x = 1 → z ≤ 8)) ∧ (k = 10 → 1 ≤ z)
theorem IG.ca {s : Nat → Int} (h : IG s) (k x y z : Int) : IG (caS s k x y z) := by
  have hI := h.1
  have hG := h.2
  unfold caS
  split
  · exact ⟨hI.ra _ _ _ _, hG.ge (GE.ra _ _ _ _ _)⟩
  · split
    · exact ⟨hI.br _ _, hG.ge (GE.br _ _ _)⟩
    · split
      · exact ⟨hI.th _ _, hG.ge (GE.th _ _ _)⟩
      · split
        · exact ⟨hI.tc _ _, hG.ge (GE.tc _ _ _)⟩
        · split
          · exact ⟨hI.so _, hG.ge (GE.so _ _)⟩
          · split
            · exact ⟨hI.stf _ _, hG.ge (GE.st _ _ _)⟩
            · split
              · exact ⟨hI.gs _ _, hG.ge (GE.gs _ _ _)⟩
              · split
                · exact ⟨hI.bl _ _, hG.ge (GE.bl _ _ _)⟩
                · split
                  · exact ⟨hI.ad _ _, hG.ge (GE.ad _ _ _)⟩
                  · split
                    · exact ⟨hI.cv _, hG.ge (GE.cv _ _)⟩
                    · exact ⟨hI.go _, GI.go hI hG _⟩
theorem ca_2 (s : Nat → Int) (k x y z : Int) (hz : z ≤ 64) : caS s k x y z 2 ≤ s 2 + 64 ∨ ¬ IG s := by
  by_cases h : IG s
  · refine Or.inl ?_
    unfold caS
    split
    · rw [(GE.ra s _ _ _ _).1]; omega
    · split
      · rw [(GE.br s _ _).1]; omega
      · split
        · rw [(GE.th s _ _).1]; omega
        · split
          · rw [(GE.tc s _ _).1]; omega
          · split
            · rw [(GE.so s _).1]; omega
            · split
              · rw [(GE.st s _ _).1]; omega
              · split
                · rw [(GE.gs s _ _).1]; omega
                · split
                  · rw [(GE.bl s _ _).1]; omega
                  · split
                    · rw [(GE.ad s _ _).1]; omega
                    · split
                      · rw [(GE.cv s _).1]; omega
                      · unfold goS
                        split
                        · rw [tsS_2]; omega
                        · omega
  · exact Or.inr h
theorem tb_law {Z : Nat → Int} {k : Nat} {v : Int} (h3 : 0 ≤ Z 3 ∧ Z 3 ≤ 3) (hw : 0 ≤ Z (ix k 3) ∧ Z (ix k 3) ≤ 3) (hv : (((Z 3 + 1) % 4 = Z (ix k 3)) ∧ v = Z 3) ∨ (¬ ((Z 3 + 1) % 4 = Z (ix k 3)) ∧ v = (Z (ix k 3) + 1) % 4)) : v = tbN Z k := by
  unfold tbN
  split <;> omega
