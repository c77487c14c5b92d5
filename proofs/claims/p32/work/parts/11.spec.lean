/-! what the acts answer, and the state behind them, as functions of the state's row -/
theorem up_same {s : Nat → Int} {j : Nat} {v : Int} (h : s j = v) : up s j v = s := by
  funext k; unfold up; split
  · subst_vars; rfl
  · rfl
theorem up_comm {s : Nat → Int} {i j : Nat} {v u : Int} (h : i ≠ j) : up (up s i v) j u = up (up s j u) i v := by
  funext k; unfold up
  split <;> split <;> first | rfl | omega
theorem up_up {s : Nat → Int} {j : Nat} {v u : Int} : up (up s j v) j u = up s j u := by
  funext k; unfold up; split <;> rfl
def fly (s : Nat → Int) (k : Nat) : Nat → Int := up (up (up (up s (ix k 5) 0) (ix k 6) 0) (ix k 7) 0) (ix k 8) 0
def raR (s : Nat → Int) (f h p w : Int) : Int := if 0 ≤ f ∧ f ≤ 5 ∧ 0 ≤ w ∧ w ≤ 3 then (if 1 ≤ h ∧ h ≤ 5 ∧ 1 ≤ p ∧ p ≤ 9 then (if 12 ≤ s 10 then -3 else s 10) else -2) else -1
def raS (s : Nat → Int) (f h p w : Int) : Nat → Int := if 0 ≤ f ∧ f ≤ 5 ∧ 0 ≤ w ∧ w ≤ 3 ∧ 1 ≤ h ∧ h ≤ 5 ∧ 1 ≤ p ∧ p ≤ 9 ∧ ¬ 12 ≤ s 10 then up (up (up (up (up (up s (ix (s 10).toNat 0) f) (ix (s 10).toNat 1) h) (ix (s 10).toNat 2) p) (ix (s 10).toNat 3) w) (ix (s 10).toNat 4) 64) 10 (s 10 + 1) else s
def brR (s : Nat → Int) (a b : Int) : Int := if 0 ≤ a ∧ a < s 10 ∧ 0 ≤ b ∧ b ≤ 5 then (if s (ix a.toNat 0) = b then -5 else s (ix a.toNat 0)) else -1
def brS (s : Nat → Int) (a b : Int) : Nat → Int := if 0 ≤ a ∧ a < s 10 ∧ 0 ≤ b ∧ b ≤ 5 then up s (ix a.toNat 0) b else s
def thR (s : Nat → Int) (a b : Int) : Int := if 0 ≤ a ∧ a < s 10 ∧ 0 ≤ b ∧ b ≤ 3 then (if s (ix a.toNat 3) = b then -5 else s (ix a.toNat 3)) else -1
def thS (s : Nat → Int) (a b : Int) : Nat → Int := if 0 ≤ a ∧ a < s 10 ∧ 0 ≤ b ∧ b ≤ 3 then up s (ix a.toNat 3) b else s
def tcR (s : Nat → Int) (a w : Int) : Int := if 0 ≤ a ∧ a < s 10 ∧ 0 ≤ w ∧ w ≤ 3 then (if s (ix a.toNat 4) = 0 then -4 else if 9 ≤ crN s a.toNat then -3 else crN s a.toNat + 1) else -1
def tcS (s : Nat → Int) (a w : Int) : Nat → Int := if 0 ≤ a ∧ a < s 10 ∧ 0 ≤ w ∧ w ≤ 3 ∧ ¬ s (ix a.toNat 4) = 0 ∧ ¬ 9 ≤ crN s a.toNat then up s (ix a.toNat (5 + w.toNat)) (s (ix a.toNat (5 + w.toNat)) + 1) else s
def soR (s : Nat → Int) (a : Int) : Int := if 0 ≤ a ∧ a < s 10 then (if crN s a.toNat = 0 then -5 else crN s a.toNat) else -1
def soS (s : Nat → Int) (a : Int) : Nat → Int := if 0 ≤ a ∧ a < s 10 then fly s a.toNat else s
def flM (s : Nat → Int) (k : Nat) : Int := if s 5 < 64 - s (ix k 4) then s 5 else 64 - s (ix k 4)
def flN (s : Nat → Int) (k : Nat) (m : Int) : Int := if flM s k < m then flM s k else m
def stR (s : Nat → Int) (a m : Int) : Int := if 0 ≤ a ∧ a < s 10 then (if 1 ≤ m ∧ m ≤ 64 then (if flN s a.toNat m ≤ 0 then -5 else flN s a.toNat m) else -2) else -1
def stS (s : Nat → Int) (a m : Int) : Nat → Int := if 0 ≤ a ∧ a < s 10 ∧ 1 ≤ m ∧ m ≤ 64 then up (up s (ix a.toNat 4) (s (ix a.toNat 4) + flN s a.toNat m)) 5 (s 5 - flN s a.toNat m) else s
def gsR (s : Nat → Int) (f m : Int) : Int := if 0 ≤ f ∧ f ≤ 5 then (if 1 ≤ m ∧ m ≤ 9 then (if s (11 + f.toNat) = m then -5 else s (11 + f.toNat)) else -2) else -1
def gsS (s : Nat → Int) (f m : Int) : Nat → Int := if 0 ≤ f ∧ f ≤ 5 ∧ 1 ≤ m ∧ m ≤ 9 then up s (11 + f.toNat) m else s
def blR (s : Nat → Int) (w m : Int) : Int := if 0 ≤ w ∧ w ≤ 3 then (if 0 ≤ m ∧ m ≤ 9 then (if s 3 = w ∧ s 4 = m then -5 else 10 * s 3 + s 4) else -2) else -1
def blS (s : Nat → Int) (w m : Int) : Nat → Int := if 0 ≤ w ∧ w ≤ 3 ∧ 0 ≤ m ∧ m ≤ 9 then up (up s 3 w) 4 m else s
def adR (s : Nat → Int) (c m : Int) : Int := if 0 ≤ c ∧ c ≤ 1 then (if 0 ≤ m ∧ m ≤ (if c = 0 then 50 else 8) then (if s c.toNat = m then -5 else s c.toNat) else -2) else -1
def adS (s : Nat → Int) (c m : Int) : Nat → Int := if 0 ≤ c ∧ c ≤ 1 ∧ 0 ≤ m ∧ m ≤ (if c = 0 then 50 else 8) then up s c.toNat m else s
def cvR (d : Int) : Int := if 0 ≤ d ∧ d ≤ 3 then d else -4
def cvS (s : Nat → Int) (d : Int) : Nat → Int := if 0 ≤ d ∧ d ≤ 3 then up (up s 8 (s 8 + 1)) 9 d else s
/-- the wind turns scarecrow k -/
def tbF (s : Nat → Int) (k : Nat) : Int := if s (ix k 4) < 32 then s 4 + 1 else s 4
def tbN (s : Nat → Int) (k : Nat) : Int := (s (ix k 3) + (if (s (ix k 3) + 4 - 1) % 4 = s 3 then 3 else 1)) % 4
def tbR (s : Nat → Int) (k : Nat) : Int := if tbF s k ≤ s (ix k 2) ∨ s (ix k 3) = s 3 then 0 else 1
def tbS (s : Nat → Int) (k : Nat) : Nat → Int := if tbF s k ≤ s (ix k 2) ∨ s (ix k 3) = s 3 then s else up (up s (ix k 3) (tbN s k)) (ix k 9) (s (ix k 9) + 1)
/-- crows pluck of scarecrow k -/
def plN (s : Nat → Int) (k : Nat) : Int := if s (ix k 4) < crN s k then s (ix k 4) else crN s k
def pl1 (s : Nat → Int) (k : Nat) : Nat → Int := up (up (up s (ix k 4) (s (ix k 4) - plN s k)) (ix k 10) (s (ix k 10) + plN s k)) 6 (s 6 + plN s k)
def plS (s : Nat → Int) (k : Nat) : Nat → Int := if s (ix k 4) - plN s k = 0 then fly (pl1 s k) k else pl1 s k
def twS (s : Nat → Int) : Nat → (Nat → Int)
  | 0 => s
  | k + 1 => tbS (twS s k) k
def twR (s : Nat → Int) : Nat → Int
  | 0 => 0
  | k + 1 => twR s k + tbR (twS s k) k
def pkS (s : Nat → Int) : Nat → (Nat → Int)
  | 0 => s
  | k + 1 => plS (pkS s k) k
/-- a tick: turning, plucking, the tick, the turns told, the wind -/
def tkA (s : Nat → Int) : Nat → Int := pkS (twS s (s 10).toNat) (s 10).toNat
def tkR (s : Nat → Int) : Int := twR s (s 10).toNat
def shS (s : Nat → Int) : Nat → Int := if 0 < s 0 ∧ s 2 % s 0 = 0 then up s 3 ((s 3 + 1) % 4) else s
def tkS (s : Nat → Int) : Nat → Int := shS (up (up (tkA s) 2 (tkA s 2 + 1)) 7 (tkA s 7 + tkR s))
def tsS (s : Nat → Int) : Nat → (Nat → Int)
  | 0 => s
  | j + 1 => tkS (tsS s j)
def tsR (s : Nat → Int) : Nat → Int
  | 0 => 0
  | j + 1 => tsR s j + tkR (tsS s j)
def goR (s : Nat → Int) (m : Int) : Int := if 1 ≤ m ∧ m ≤ 99 then (if 99999 < s 2 + m then -3 else tsR s m.toNat) else -2
def goS (s : Nat → Int) (m : Int) : Nat → Int := if 1 ≤ m ∧ m ≤ 99 ∧ ¬ 99999 < s 2 + m then tsS s m.toNat else s

theorem Inv.a0 {t : Int} {s : Nat → Int} (h : Inv t s) (k : Nat) (v : Int) (hk : k < 12) (hn : (k : Int) < s 10) (hv : 0 ≤ v ∧ v ≤ 5) : Inv t (up s (ix k 0) v) := by
  refine ⟨?_, fun f hf => ?_, fun j hj => ?_, fun j c hj hjn hc => ?_⟩
  · simp only [up_ix (s := s) (k := k) (c := 0) (v := v) (j := 0) (by decide), up_ix (s := s) (k := k) (c := 0) (v := v) (j := 1) (by decide), up_ix (s := s) (k := k) (c := 0) (v := v) (j := 2) (by decide), up_ix (s := s) (k := k) (c := 0) (v := v) (j := 3) (by decide), up_ix (s := s) (k := k) (c := 0) (v := v) (j := 4) (by decide), up_ix (s := s) (k := k) (c := 0) (v := v) (j := 5) (by decide), up_ix (s := s) (k := k) (c := 0) (v := v) (j := 10) (by decide)]
    exact h.1
  · rw [up_ne (by unfold ix; omega)]
    exact h.2.1 f hf
  · have h1 := h.sc j hj
    by_cases q : j = k
    · subst q
      simp only [up_eq (s := s) (j := ix j 0) (v := v), up_ne (s := s) (k := ix j 1) (j := ix j 0) (v := v) (by unfold ix; omega), up_ne (s := s) (k := ix j 2) (j := ix j 0) (v := v) (by unfold ix; omega), up_ne (s := s) (k := ix j 3) (j := ix j 0) (v := v) (by unfold ix; omega), up_ne (s := s) (k := ix j 4) (j := ix j 0) (v := v) (by unfold ix; omega), up_ne (s := s) (k := ix j 5) (j := ix j 0) (v := v) (by unfold ix; omega), up_ne (s := s) (k := ix j 6) (j := ix j 0) (v := v) (by unfold ix; omega), up_ne (s := s) (k := ix j 7) (j := ix j 0) (v := v) (by unfold ix; omega), up_ne (s := s) (k := ix j 8) (j := ix j 0) (v := v) (by unfold ix; omega)]
      omega
    · simp only [up_ne (s := s) (k := ix j 0) (j := ix k 0) (v := v) (by unfold ix; omega), up_ne (s := s) (k := ix j 1) (j := ix k 0) (v := v) (by unfold ix; omega), up_ne (s := s) (k := ix j 2) (j := ix k 0) (v := v) (by unfold ix; omega), up_ne (s := s) (k := ix j 3) (j := ix k 0) (v := v) (by unfold ix; omega), up_ne (s := s) (k := ix j 4) (j := ix k 0) (v := v) (by unfold ix; omega), up_ne (s := s) (k := ix j 5) (j := ix k 0) (v := v) (by unfold ix; omega), up_ne (s := s) (k := ix j 6) (j := ix k 0) (v := v) (by unfold ix; omega), up_ne (s := s) (k := ix j 7) (j := ix k 0) (v := v) (by unfold ix; omega), up_ne (s := s) (k := ix j 8) (j := ix k 0) (v := v) (by unfold ix; omega)]
      exact h1
  · rw [up_ix (by decide)] at hjn
    rw [up_ne (by unfold ix; omega)]
    exact h.2.2.2 j c hj hjn hc

theorem Inv.a1 {t : Int} {s : Nat → Int} (h : Inv t s) (k : Nat) (v : Int) (hk : k < 12) (hn : (k : Int) < s 10) (hv : 0 ≤ v ∧ v ≤ 5) : Inv t (up s (ix k 1) v) := by
  refine ⟨?_, fun f hf => ?_, fun j hj => ?_, fun j c hj hjn hc => ?_⟩
  · simp only [up_ix (s := s) (k := k) (c := 1) (v := v) (j := 0) (by decide), up_ix (s := s) (k := k) (c := 1) (v := v) (j := 1) (by decide), up_ix (s := s) (k := k) (c := 1) (v := v) (j := 2) (by decide), up_ix (s := s) (k := k) (c := 1) (v := v) (j := 3) (by decide), up_ix (s := s) (k := k) (c := 1) (v := v) (j := 4) (by decide), up_ix (s := s) (k := k) (c := 1) (v := v) (j := 5) (by decide), up_ix (s := s) (k := k) (c := 1) (v := v) (j := 10) (by decide)]
    exact h.1
  · rw [up_ne (by unfold ix; omega)]
    exact h.2.1 f hf
  · have h1 := h.sc j hj
    by_cases q : j = k
    · subst q
      simp only [up_ne (s := s) (k := ix j 0) (j := ix j 1) (v := v) (by unfold ix; omega), up_eq (s := s) (j := ix j 1) (v := v), up_ne (s := s) (k := ix j 2) (j := ix j 1) (v := v) (by unfold ix; omega), up_ne (s := s) (k := ix j 3) (j := ix j 1) (v := v) (by unfold ix; omega), up_ne (s := s) (k := ix j 4) (j := ix j 1) (v := v) (by unfold ix; omega), up_ne (s := s) (k := ix j 5) (j := ix j 1) (v := v) (by unfold ix; omega), up_ne (s := s) (k := ix j 6) (j := ix j 1) (v := v) (by unfold ix; omega), up_ne (s := s) (k := ix j 7) (j := ix j 1) (v := v) (by unfold ix; omega), up_ne (s := s) (k := ix j 8) (j := ix j 1) (v := v) (by unfold ix; omega)]
      omega
    · simp only [up_ne (s := s) (k := ix j 0) (j := ix k 1) (v := v) (by unfold ix; omega), up_ne (s := s) (k := ix j 1) (j := ix k 1) (v := v) (by unfold ix; omega), up_ne (s := s) (k := ix j 2) (j := ix k 1) (v := v) (by unfold ix; omega), up_ne (s := s) (k := ix j 3) (j := ix k 1) (v := v) (by unfold ix; omega), up_ne (s := s) (k := ix j 4) (j := ix k 1) (v := v) (by unfold ix; omega), up_ne (s := s) (k := ix j 5) (j := ix k 1) (v := v) (by unfold ix; omega), up_ne (s := s) (k := ix j 6) (j := ix k 1) (v := v) (by unfold ix; omega), up_ne (s := s) (k := ix j 7) (j := ix k 1) (v := v) (by unfold ix; omega), up_ne (s := s) (k := ix j 8) (j := ix k 1) (v := v) (by unfold ix; omega)]
      exact h1
  · rw [up_ix (by decide)] at hjn
    rw [up_ne (by unfold ix; omega)]
    exact h.2.2.2 j c hj hjn hc

theorem Inv.a2 {t : Int} {s : Nat → Int} (h : Inv t s) (k : Nat) (v : Int) (hk : k < 12) (hn : (k : Int) < s 10) (hv : 0 ≤ v ∧ v ≤ 9) : Inv t (up s (ix k 2) v) := by
  refine ⟨?_, fun f hf => ?_, fun j hj => ?_, fun j c hj hjn hc => ?_⟩
  · simp only [up_ix (s := s) (k := k) (c := 2) (v := v) (j := 0) (by decide), up_ix (s := s) (k := k) (c := 2) (v := v) (j := 1) (by decide), up_ix (s := s) (k := k) (c := 2) (v := v) (j := 2) (by decide), up_ix (s := s) (k := k) (c := 2) (v := v) (j := 3) (by decide), up_ix (s := s) (k := k) (c := 2) (v := v) (j := 4) (by decide), up_ix (s := s) (k := k) (c := 2) (v := v) (j := 5) (by decide), up_ix (s := s) (k := k) (c := 2) (v := v) (j := 10) (by decide)]
    exact h.1
  · rw [up_ne (by unfold ix; omega)]
    exact h.2.1 f hf
  · have h1 := h.sc j hj
    by_cases q : j = k
    · subst q
      simp only [up_ne (s := s) (k := ix j 0) (j := ix j 2) (v := v) (by unfold ix; omega), up_ne (s := s) (k := ix j 1) (j := ix j 2) (v := v) (by unfold ix; omega), up_eq (s := s) (j := ix j 2) (v := v), up_ne (s := s) (k := ix j 3) (j := ix j 2) (v := v) (by unfold ix; omega), up_ne (s := s) (k := ix j 4) (j := ix j 2) (v := v) (by unfold ix; omega), up_ne (s := s) (k := ix j 5) (j := ix j 2) (v := v) (by unfold ix; omega), up_ne (s := s) (k := ix j 6) (j := ix j 2) (v := v) (by unfold ix; omega), up_ne (s := s) (k := ix j 7) (j := ix j 2) (v := v) (by unfold ix; omega), up_ne (s := s) (k := ix j 8) (j := ix j 2) (v := v) (by unfold ix; omega)]
      omega
    · simp only [up_ne (s := s) (k := ix j 0) (j := ix k 2) (v := v) (by unfold ix; omega), up_ne (s := s) (k := ix j 1) (j := ix k 2) (v := v) (by unfold ix; omega), up_ne (s := s) (k := ix j 2) (j := ix k 2) (v := v) (by unfold ix; omega), up_ne (s := s) (k := ix j 3) (j := ix k 2) (v := v) (by unfold ix; omega), up_ne (s := s) (k := ix j 4) (j := ix k 2) (v := v) (by unfold ix; omega), up_ne (s := s) (k := ix j 5) (j := ix k 2) (v := v) (by unfold ix; omega), up_ne (s := s) (k := ix j 6) (j := ix k 2) (v := v) (by unfold ix; omega), up_ne (s := s) (k := ix j 7) (j := ix k 2) (v := v) (by unfold ix; omega), up_ne (s := s) (k := ix j 8) (j := ix k 2) (v := v) (by unfold ix; omega)]
      exact h1
  · rw [up_ix (by decide)] at hjn
    rw [up_ne (by unfold ix; omega)]
    exact h.2.2.2 j c hj hjn hc

theorem Inv.a3 {t : Int} {s : Nat → Int} (h : Inv t s) (k : Nat) (v : Int) (hk : k < 12) (hn : (k : Int) < s 10) (hv : 0 ≤ v ∧ v ≤ 3) : Inv t (up s (ix k 3) v) := by
  refine ⟨?_, fun f hf => ?_, fun j hj => ?_, fun j c hj hjn hc => ?_⟩
  · simp only [up_ix (s := s) (k := k) (c := 3) (v := v) (j := 0) (by decide), up_ix (s := s) (k := k) (c := 3) (v := v) (j := 1) (by decide), up_ix (s := s) (k := k) (c := 3) (v := v) (j := 2) (by decide), up_ix (s := s) (k := k) (c := 3) (v := v) (j := 3) (by decide), up_ix (s := s) (k := k) (c := 3) (v := v) (j := 4) (by decide), up_ix (s := s) (k := k) (c := 3) (v := v) (j := 5) (by decide), up_ix (s := s) (k := k) (c := 3) (v := v) (j := 10) (by decide)]
    exact h.1
  · rw [up_ne (by unfold ix; omega)]
    exact h.2.1 f hf
  · have h1 := h.sc j hj
    by_cases q : j = k
    · subst q
      simp only [up_ne (s := s) (k := ix j 0) (j := ix j 3) (v := v) (by unfold ix; omega), up_ne (s := s) (k := ix j 1) (j := ix j 3) (v := v) (by unfold ix; omega), up_ne (s := s) (k := ix j 2) (j := ix j 3) (v := v) (by unfold ix; omega), up_eq (s := s) (j := ix j 3) (v := v), up_ne (s := s) (k := ix j 4) (j := ix j 3) (v := v) (by unfold ix; omega), up_ne (s := s) (k := ix j 5) (j := ix j 3) (v := v) (by unfold ix; omega), up_ne (s := s) (k := ix j 6) (j := ix j 3) (v := v) (by unfold ix; omega), up_ne (s := s) (k := ix j 7) (j := ix j 3) (v := v) (by unfold ix; omega), up_ne (s := s) (k := ix j 8) (j := ix j 3) (v := v) (by unfold ix; omega)]
      omega
    · simp only [up_ne (s := s) (k := ix j 0) (j := ix k 3) (v := v) (by unfold ix; omega), up_ne (s := s) (k := ix j 1) (j := ix k 3) (v := v) (by unfold ix; omega), up_ne (s := s) (k := ix j 2) (j := ix k 3) (v := v) (by unfold ix; omega), up_ne (s := s) (k := ix j 3) (j := ix k 3) (v := v) (by unfold ix; omega), up_ne (s := s) (k := ix j 4) (j := ix k 3) (v := v) (by unfold ix; omega), up_ne (s := s) (k := ix j 5) (j := ix k 3) (v := v) (by unfold ix; omega), up_ne (s := s) (k := ix j 6) (j := ix k 3) (v := v) (by unfold ix; omega), up_ne (s := s) (k := ix j 7) (j := ix k 3) (v := v) (by unfold ix; omega), up_ne (s := s) (k := ix j 8) (j := ix k 3) (v := v) (by unfold ix; omega)]
      exact h1
  · rw [up_ix (by decide)] at hjn
    rw [up_ne (by unfold ix; omega)]
    exact h.2.2.2 j c hj hjn hc

theorem Inv.a4 {t : Int} {s : Nat → Int} (h : Inv t s) (k : Nat) (v : Int) (hk : k < 12) (hn : (k : Int) < s 10) (hv : 0 ≤ v ∧ v ≤ 64) : Inv t (up s (ix k 4) v) := by
  refine ⟨?_, fun f hf => ?_, fun j hj => ?_, fun j c hj hjn hc => ?_⟩
  · simp only [up_ix (s := s) (k := k) (c := 4) (v := v) (j := 0) (by decide), up_ix (s := s) (k := k) (c := 4) (v := v) (j := 1) (by decide), up_ix (s := s) (k := k) (c := 4) (v := v) (j := 2) (by decide), up_ix (s := s) (k := k) (c := 4) (v := v) (j := 3) (by decide), up_ix (s := s) (k := k) (c := 4) (v := v) (j := 4) (by decide), up_ix (s := s) (k := k) (c := 4) (v := v) (j := 5) (by decide), up_ix (s := s) (k := k) (c := 4) (v := v) (j := 10) (by decide)]
    exact h.1
  · rw [up_ne (by unfold ix; omega)]
    exact h.2.1 f hf
  · have h1 := h.sc j hj
    by_cases q : j = k
    · subst q
      simp only [up_ne (s := s) (k := ix j 0) (j := ix j 4) (v := v) (by unfold ix; omega), up_ne (s := s) (k := ix j 1) (j := ix j 4) (v := v) (by unfold ix; omega), up_ne (s := s) (k := ix j 2) (j := ix j 4) (v := v) (by unfold ix; omega), up_ne (s := s) (k := ix j 3) (j := ix j 4) (v := v) (by unfold ix; omega), up_eq (s := s) (j := ix j 4) (v := v), up_ne (s := s) (k := ix j 5) (j := ix j 4) (v := v) (by unfold ix; omega), up_ne (s := s) (k := ix j 6) (j := ix j 4) (v := v) (by unfold ix; omega), up_ne (s := s) (k := ix j 7) (j := ix j 4) (v := v) (by unfold ix; omega), up_ne (s := s) (k := ix j 8) (j := ix j 4) (v := v) (by unfold ix; omega)]
      omega
    · simp only [up_ne (s := s) (k := ix j 0) (j := ix k 4) (v := v) (by unfold ix; omega), up_ne (s := s) (k := ix j 1) (j := ix k 4) (v := v) (by unfold ix; omega), up_ne (s := s) (k := ix j 2) (j := ix k 4) (v := v) (by unfold ix; omega), up_ne (s := s) (k := ix j 3) (j := ix k 4) (v := v) (by unfold ix; omega), up_ne (s := s) (k := ix j 4) (j := ix k 4) (v := v) (by unfold ix; omega), up_ne (s := s) (k := ix j 5) (j := ix k 4) (v := v) (by unfold ix; omega), up_ne (s := s) (k := ix j 6) (j := ix k 4) (v := v) (by unfold ix; omega), up_ne (s := s) (k := ix j 7) (j := ix k 4) (v := v) (by unfold ix; omega), up_ne (s := s) (k := ix j 8) (j := ix k 4) (v := v) (by unfold ix; omega)]
      exact h1
  · rw [up_ix (by decide)] at hjn
    rw [up_ne (by unfold ix; omega)]
    exact h.2.2.2 j c hj hjn hc

theorem Inv.a5 {t : Int} {s : Nat → Int} (h : Inv t s) (k : Nat) (v : Int) (hk : k < 12) (hn : (k : Int) < s 10) (hv : 0 ≤ v ∧ v + s (ix k 6) + s (ix k 7) + s (ix k 8) ≤ 9) : Inv t (up s (ix k 5) v) := by
  refine ⟨?_, fun f hf => ?_, fun j hj => ?_, fun j c hj hjn hc => ?_⟩
  · simp only [up_ix (s := s) (k := k) (c := 5) (v := v) (j := 0) (by decide), up_ix (s := s) (k := k) (c := 5) (v := v) (j := 1) (by decide), up_ix (s := s) (k := k) (c := 5) (v := v) (j := 2) (by decide), up_ix (s := s) (k := k) (c := 5) (v := v) (j := 3) (by decide), up_ix (s := s) (k := k) (c := 5) (v := v) (j := 4) (by decide), up_ix (s := s) (k := k) (c := 5) (v := v) (j := 5) (by decide), up_ix (s := s) (k := k) (c := 5) (v := v) (j := 10) (by decide)]
    exact h.1
  · rw [up_ne (by unfold ix; omega)]
    exact h.2.1 f hf
  · have h1 := h.sc j hj
    by_cases q : j = k
    · subst q
      simp only [up_ne (s := s) (k := ix j 0) (j := ix j 5) (v := v) (by unfold ix; omega), up_ne (s := s) (k := ix j 1) (j := ix j 5) (v := v) (by unfold ix; omega), up_ne (s := s) (k := ix j 2) (j := ix j 5) (v := v) (by unfold ix; omega), up_ne (s := s) (k := ix j 3) (j := ix j 5) (v := v) (by unfold ix; omega), up_ne (s := s) (k := ix j 4) (j := ix j 5) (v := v) (by unfold ix; omega), up_eq (s := s) (j := ix j 5) (v := v), up_ne (s := s) (k := ix j 6) (j := ix j 5) (v := v) (by unfold ix; omega), up_ne (s := s) (k := ix j 7) (j := ix j 5) (v := v) (by unfold ix; omega), up_ne (s := s) (k := ix j 8) (j := ix j 5) (v := v) (by unfold ix; omega)]
      omega
    · simp only [up_ne (s := s) (k := ix j 0) (j := ix k 5) (v := v) (by unfold ix; omega), up_ne (s := s) (k := ix j 1) (j := ix k 5) (v := v) (by unfold ix; omega), up_ne (s := s) (k := ix j 2) (j := ix k 5) (v := v) (by unfold ix; omega), up_ne (s := s) (k := ix j 3) (j := ix k 5) (v := v) (by unfold ix; omega), up_ne (s := s) (k := ix j 4) (j := ix k 5) (v := v) (by unfold ix; omega), up_ne (s := s) (k := ix j 5) (j := ix k 5) (v := v) (by unfold ix; omega), up_ne (s := s) (k := ix j 6) (j := ix k 5) (v := v) (by unfold ix; omega), up_ne (s := s) (k := ix j 7) (j := ix k 5) (v := v) (by unfold ix; omega), up_ne (s := s) (k := ix j 8) (j := ix k 5) (v := v) (by unfold ix; omega)]
      exact h1
  · rw [up_ix (by decide)] at hjn
    rw [up_ne (by unfold ix; omega)]
    exact h.2.2.2 j c hj hjn hc

theorem Inv.a6 {t : Int} {s : Nat → Int} (h : Inv t s) (k : Nat) (v : Int) (hk : k < 12) (hn : (k : Int) < s 10) (hv : 0 ≤ v ∧ v + s (ix k 5) + s (ix k 7) + s (ix k 8) ≤ 9) : Inv t (up s (ix k 6) v) := by
  refine ⟨?_, fun f hf => ?_, fun j hj => ?_, fun j c hj hjn hc => ?_⟩
  · simp only [up_ix (s := s) (k := k) (c := 6) (v := v) (j := 0) (by decide), up_ix (s := s) (k := k) (c := 6) (v := v) (j := 1) (by decide), up_ix (s := s) (k := k) (c := 6) (v := v) (j := 2) (by decide), up_ix (s := s) (k := k) (c := 6) (v := v) (j := 3) (by decide), up_ix (s := s) (k := k) (c := 6) (v := v) (j := 4) (by decide), up_ix (s := s) (k := k) (c := 6) (v := v) (j := 5) (by decide), up_ix (s := s) (k := k) (c := 6) (v := v) (j := 10) (by decide)]
    exact h.1
  · rw [up_ne (by unfold ix; omega)]
    exact h.2.1 f hf
  · have h1 := h.sc j hj
    by_cases q : j = k
    · subst q
      simp only [up_ne (s := s) (k := ix j 0) (j := ix j 6) (v := v) (by unfold ix; omega), up_ne (s := s) (k := ix j 1) (j := ix j 6) (v := v) (by unfold ix; omega), up_ne (s := s) (k := ix j 2) (j := ix j 6) (v := v) (by unfold ix; omega), up_ne (s := s) (k := ix j 3) (j := ix j 6) (v := v) (by unfold ix; omega), up_ne (s := s) (k := ix j 4) (j := ix j 6) (v := v) (by unfold ix; omega), up_ne (s := s) (k := ix j 5) (j := ix j 6) (v := v) (by unfold ix; omega), up_eq (s := s) (j := ix j 6) (v := v), up_ne (s := s) (k := ix j 7) (j := ix j 6) (v := v) (by unfold ix; omega), up_ne (s := s) (k := ix j 8) (j := ix j 6) (v := v) (by unfold ix; omega)]
      omega
    · simp only [up_ne (s := s) (k := ix j 0) (j := ix k 6) (v := v) (by unfold ix; omega), up_ne (s := s) (k := ix j 1) (j := ix k 6) (v := v) (by unfold ix; omega), up_ne (s := s) (k := ix j 2) (j := ix k 6) (v := v) (by unfold ix; omega), up_ne (s := s) (k := ix j 3) (j := ix k 6) (v := v) (by unfold ix; omega), up_ne (s := s) (k := ix j 4) (j := ix k 6) (v := v) (by unfold ix; omega), up_ne (s := s) (k := ix j 5) (j := ix k 6) (v := v) (by unfold ix; omega), up_ne (s := s) (k := ix j 6) (j := ix k 6) (v := v) (by unfold ix; omega), up_ne (s := s) (k := ix j 7) (j := ix k 6) (v := v) (by unfold ix; omega), up_ne (s := s) (k := ix j 8) (j := ix k 6) (v := v) (by unfold ix; omega)]
      exact h1
  · rw [up_ix (by decide)] at hjn
    rw [up_ne (by unfold ix; omega)]
    exact h.2.2.2 j c hj hjn hc

theorem Inv.a7 {t : Int} {s : Nat → Int} (h : Inv t s) (k : Nat) (v : Int) (hk : k < 12) (hn : (k : Int) < s 10) (hv : 0 ≤ v ∧ v + s (ix k 5) + s (ix k 6) + s (ix k 8) ≤ 9) : Inv t (up s (ix k 7) v) := by
  refine ⟨?_, fun f hf => ?_, fun j hj => ?_, fun j c hj hjn hc => ?_⟩
  · simp only [up_ix (s := s) (k := k) (c := 7) (v := v) (j := 0) (by decide), up_ix (s := s) (k := k) (c := 7) (v := v) (j := 1) (by decide), up_ix (s := s) (k := k) (c := 7) (v := v) (j := 2) (by decide), up_ix (s := s) (k := k) (c := 7) (v := v) (j := 3) (by decide), up_ix (s := s) (k := k) (c := 7) (v := v) (j := 4) (by decide), up_ix (s := s) (k := k) (c := 7) (v := v) (j := 5) (by decide), up_ix (s := s) (k := k) (c := 7) (v := v) (j := 10) (by decide)]
    exact h.1
  · rw [up_ne (by unfold ix; omega)]
    exact h.2.1 f hf
  · have h1 := h.sc j hj
    by_cases q : j = k
    · subst q
      simp only [up_ne (s := s) (k := ix j 0) (j := ix j 7) (v := v) (by unfold ix; omega), up_ne (s := s) (k := ix j 1) (j := ix j 7) (v := v) (by unfold ix; omega), up_ne (s := s) (k := ix j 2) (j := ix j 7) (v := v) (by unfold ix; omega), up_ne (s := s) (k := ix j 3) (j := ix j 7) (v := v) (by unfold ix; omega), up_ne (s := s) (k := ix j 4) (j := ix j 7) (v := v) (by unfold ix; omega), up_ne (s := s) (k := ix j 5) (j := ix j 7) (v := v) (by unfold ix; omega), up_ne (s := s) (k := ix j 6) (j := ix j 7) (v := v) (by unfold ix; omega), up_eq (s := s) (j := ix j 7) (v := v), up_ne (s := s) (k := ix j 8) (j := ix j 7) (v := v) (by unfold ix; omega)]
      omega
    · simp only [up_ne (s := s) (k := ix j 0) (j := ix k 7) (v := v) (by unfold ix; omega), up_ne (s := s) (k := ix j 1) (j := ix k 7) (v := v) (by unfold ix; omega), up_ne (s := s) (k := ix j 2) (j := ix k 7) (v := v) (by unfold ix; omega), up_ne (s := s) (k := ix j 3) (j := ix k 7) (v := v) (by unfold ix; omega), up_ne (s := s) (k := ix j 4) (j := ix k 7) (v := v) (by unfold ix; omega), up_ne (s := s) (k := ix j 5) (j := ix k 7) (v := v) (by unfold ix; omega), up_ne (s := s) (k := ix j 6) (j := ix k 7) (v := v) (by unfold ix; omega), up_ne (s := s) (k := ix j 7) (j := ix k 7) (v := v) (by unfold ix; omega), up_ne (s := s) (k := ix j 8) (j := ix k 7) (v := v) (by unfold ix; omega)]
      exact h1
  · rw [up_ix (by decide)] at hjn
    rw [up_ne (by unfold ix; omega)]
    exact h.2.2.2 j c hj hjn hc

theorem Inv.a8 {t : Int} {s : Nat → Int} (h : Inv t s) (k : Nat) (v : Int) (hk : k < 12) (hn : (k : Int) < s 10) (hv : 0 ≤ v ∧ v + s (ix k 5) + s (ix k 6) + s (ix k 7) ≤ 9) : Inv t (up s (ix k 8) v) := by
  refine ⟨?_, fun f hf => ?_, fun j hj => ?_, fun j c hj hjn hc => ?_⟩
  · simp only [up_ix (s := s) (k := k) (c := 8) (v := v) (j := 0) (by decide), up_ix (s := s) (k := k) (c := 8) (v := v) (j := 1) (by decide), up_ix (s := s) (k := k) (c := 8) (v := v) (j := 2) (by decide), up_ix (s := s) (k := k) (c := 8) (v := v) (j := 3) (by decide), up_ix (s := s) (k := k) (c := 8) (v := v) (j := 4) (by decide), up_ix (s := s) (k := k) (c := 8) (v := v) (j := 5) (by decide), up_ix (s := s) (k := k) (c := 8) (v := v) (j := 10) (by decide)]
    exact h.1
  · rw [up_ne (by unfold ix; omega)]
    exact h.2.1 f hf
  · have h1 := h.sc j hj
    by_cases q : j = k
    · subst q
      simp only [up_ne (s := s) (k := ix j 0) (j := ix j 8) (v := v) (by unfold ix; omega), up_ne (s := s) (k := ix j 1) (j := ix j 8) (v := v) (by unfold ix; omega), up_ne (s := s) (k := ix j 2) (j := ix j 8) (v := v) (by unfold ix; omega), up_ne (s := s) (k := ix j 3) (j := ix j 8) (v := v) (by unfold ix; omega), up_ne (s := s) (k := ix j 4) (j := ix j 8) (v := v) (by unfold ix; omega), up_ne (s := s) (k := ix j 5) (j := ix j 8) (v := v) (by unfold ix; omega), up_ne (s := s) (k := ix j 6) (j := ix j 8) (v := v) (by unfold ix; omega), up_ne (s := s) (k := ix j 7) (j := ix j 8) (v := v) (by unfold ix; omega), up_eq (s := s) (j := ix j 8) (v := v)]
      omega
    · simp only [up_ne (s := s) (k := ix j 0) (j := ix k 8) (v := v) (by unfold ix; omega), up_ne (s := s) (k := ix j 1) (j := ix k 8) (v := v) (by unfold ix; omega), up_ne (s := s) (k := ix j 2) (j := ix k 8) (v := v) (by unfold ix; omega), up_ne (s := s) (k := ix j 3) (j := ix k 8) (v := v) (by unfold ix; omega), up_ne (s := s) (k := ix j 4) (j := ix k 8) (v := v) (by unfold ix; omega), up_ne (s := s) (k := ix j 5) (j := ix k 8) (v := v) (by unfold ix; omega), up_ne (s := s) (k := ix j 6) (j := ix k 8) (v := v) (by unfold ix; omega), up_ne (s := s) (k := ix j 7) (j := ix k 8) (v := v) (by unfold ix; omega), up_ne (s := s) (k := ix j 8) (j := ix k 8) (v := v) (by unfold ix; omega)]
      exact h1
  · rw [up_ix (by decide)] at hjn
    rw [up_ne (by unfold ix; omega)]
    exact h.2.2.2 j c hj hjn hc

theorem Inv.a9 {t : Int} {s : Nat → Int} (h : Inv t s) (k : Nat) (v : Int) (hk : k < 12) (hn : (k : Int) < s 10) (hv : True) : Inv t (up s (ix k 9) v) := by
  refine ⟨?_, fun f hf => ?_, fun j hj => ?_, fun j c hj hjn hc => ?_⟩
  · simp only [up_ix (s := s) (k := k) (c := 9) (v := v) (j := 0) (by decide), up_ix (s := s) (k := k) (c := 9) (v := v) (j := 1) (by decide), up_ix (s := s) (k := k) (c := 9) (v := v) (j := 2) (by decide), up_ix (s := s) (k := k) (c := 9) (v := v) (j := 3) (by decide), up_ix (s := s) (k := k) (c := 9) (v := v) (j := 4) (by decide), up_ix (s := s) (k := k) (c := 9) (v := v) (j := 5) (by decide), up_ix (s := s) (k := k) (c := 9) (v := v) (j := 10) (by decide)]
    exact h.1
  · rw [up_ne (by unfold ix; omega)]
    exact h.2.1 f hf
  · have h1 := h.sc j hj
    by_cases q : j = k
    · subst q
      simp only [up_ne (s := s) (k := ix j 0) (j := ix j 9) (v := v) (by unfold ix; omega), up_ne (s := s) (k := ix j 1) (j := ix j 9) (v := v) (by unfold ix; omega), up_ne (s := s) (k := ix j 2) (j := ix j 9) (v := v) (by unfold ix; omega), up_ne (s := s) (k := ix j 3) (j := ix j 9) (v := v) (by unfold ix; omega), up_ne (s := s) (k := ix j 4) (j := ix j 9) (v := v) (by unfold ix; omega), up_ne (s := s) (k := ix j 5) (j := ix j 9) (v := v) (by unfold ix; omega), up_ne (s := s) (k := ix j 6) (j := ix j 9) (v := v) (by unfold ix; omega), up_ne (s := s) (k := ix j 7) (j := ix j 9) (v := v) (by unfold ix; omega), up_ne (s := s) (k := ix j 8) (j := ix j 9) (v := v) (by unfold ix; omega)]
      omega
    · simp only [up_ne (s := s) (k := ix j 0) (j := ix k 9) (v := v) (by unfold ix; omega), up_ne (s := s) (k := ix j 1) (j := ix k 9) (v := v) (by unfold ix; omega), up_ne (s := s) (k := ix j 2) (j := ix k 9) (v := v) (by unfold ix; omega), up_ne (s := s) (k := ix j 3) (j := ix k 9) (v := v) (by unfold ix; omega), up_ne (s := s) (k := ix j 4) (j := ix k 9) (v := v) (by unfold ix; omega), up_ne (s := s) (k := ix j 5) (j := ix k 9) (v := v) (by unfold ix; omega), up_ne (s := s) (k := ix j 6) (j := ix k 9) (v := v) (by unfold ix; omega), up_ne (s := s) (k := ix j 7) (j := ix k 9) (v := v) (by unfold ix; omega), up_ne (s := s) (k := ix j 8) (j := ix k 9) (v := v) (by unfold ix; omega)]
      exact h1
  · rw [up_ix (by decide)] at hjn
    rw [up_ne (by unfold ix; omega)]
    exact h.2.2.2 j c hj hjn hc

theorem Inv.a10 {t : Int} {s : Nat → Int} (h : Inv t s) (k : Nat) (v : Int) (hk : k < 12) (hn : (k : Int) < s 10) (hv : True) : Inv t (up s (ix k 10) v) := by
  refine ⟨?_, fun f hf => ?_, fun j hj => ?_, fun j c hj hjn hc => ?_⟩
  · simp only [up_ix (s := s) (k := k) (c := 10) (v := v) (j := 0) (by decide), up_ix (s := s) (k := k) (c := 10) (v := v) (j := 1) (by decide), up_ix (s := s) (k := k) (c := 10) (v := v) (j := 2) (by decide), up_ix (s := s) (k := k) (c := 10) (v := v) (j := 3) (by decide), up_ix (s := s) (k := k) (c := 10) (v := v) (j := 4) (by decide), up_ix (s := s) (k := k) (c := 10) (v := v) (j := 5) (by decide), up_ix (s := s) (k := k) (c := 10) (v := v) (j := 10) (by decide)]
    exact h.1
  · rw [up_ne (by unfold ix; omega)]
    exact h.2.1 f hf
  · have h1 := h.sc j hj
    by_cases q : j = k
    · subst q
      simp only [up_ne (s := s) (k := ix j 0) (j := ix j 10) (v := v) (by unfold ix; omega), up_ne (s := s) (k := ix j 1) (j := ix j 10) (v := v) (by unfold ix; omega), up_ne (s := s) (k := ix j 2) (j := ix j 10) (v := v) (by unfold ix; omega), up_ne (s := s) (k := ix j 3) (j := ix j 10) (v := v) (by unfold ix; omega), up_ne (s := s) (k := ix j 4) (j := ix j 10) (v := v) (by unfold ix; omega), up_ne (s := s) (k := ix j 5) (j := ix j 10) (v := v) (by unfold ix; omega), up_ne (s := s) (k := ix j 6) (j := ix j 10) (v := v) (by unfold ix; omega), up_ne (s := s) (k := ix j 7) (j := ix j 10) (v := v) (by unfold ix; omega), up_ne (s := s) (k := ix j 8) (j := ix j 10) (v := v) (by unfold ix; omega)]
      omega
    · simp only [up_ne (s := s) (k := ix j 0) (j := ix k 10) (v := v) (by unfold ix; omega), up_ne (s := s) (k := ix j 1) (j := ix k 10) (v := v) (by unfold ix; omega), up_ne (s := s) (k := ix j 2) (j := ix k 10) (v := v) (by unfold ix; omega), up_ne (s := s) (k := ix j 3) (j := ix k 10) (v := v) (by unfold ix; omega), up_ne (s := s) (k := ix j 4) (j := ix k 10) (v := v) (by unfold ix; omega), up_ne (s := s) (k := ix j 5) (j := ix k 10) (v := v) (by unfold ix; omega), up_ne (s := s) (k := ix j 6) (j := ix k 10) (v := v) (by unfold ix; omega), up_ne (s := s) (k := ix j 7) (j := ix k 10) (v := v) (by unfold ix; omega), up_ne (s := s) (k := ix j 8) (j := ix k 10) (v := v) (by unfold ix; omega)]
      exact h1
  · rw [up_ix (by decide)] at hjn
    rw [up_ne (by unfold ix; omega)]
    exact h.2.2.2 j c hj hjn hc

theorem Inv.f0 {t : Int} {s : Nat → Int} (h : Inv t s) (v : Int) (hv : 0 ≤ v ∧ v ≤ 50) : Inv t (up s 0 v) := by
  have h0 := h.1
  refine ⟨?_, fun f hf => ?_, fun j hj => ?_, fun j c hj hjn hc => ?_⟩
  · simp only [up_eq (s := s) (j := 0) (v := v), up_ne (s := s) (k := 1) (j := 0) (v := v) (by decide), up_ne (s := s) (k := 2) (j := 0) (v := v) (by decide), up_ne (s := s) (k := 3) (j := 0) (v := v) (by decide), up_ne (s := s) (k := 4) (j := 0) (v := v) (by decide), up_ne (s := s) (k := 5) (j := 0) (v := v) (by decide), up_ne (s := s) (k := 10) (j := 0) (v := v) (by decide)]
    omega
  · rw [up_ne (by omega)]
    exact h.2.1 f hf
  · simp only [up_ne (s := s) (k := ix j 0) (j := 0) (v := v) (by unfold ix; omega), up_ne (s := s) (k := ix j 1) (j := 0) (v := v) (by unfold ix; omega), up_ne (s := s) (k := ix j 2) (j := 0) (v := v) (by unfold ix; omega), up_ne (s := s) (k := ix j 3) (j := 0) (v := v) (by unfold ix; omega), up_ne (s := s) (k := ix j 4) (j := 0) (v := v) (by unfold ix; omega), up_ne (s := s) (k := ix j 5) (j := 0) (v := v) (by unfold ix; omega), up_ne (s := s) (k := ix j 6) (j := 0) (v := v) (by unfold ix; omega), up_ne (s := s) (k := ix j 7) (j := 0) (v := v) (by unfold ix; omega), up_ne (s := s) (k := ix j 8) (j := 0) (v := v) (by unfold ix; omega)]
    exact h.sc j hj
  · rw [up_ne (by decide)] at hjn
    rw [up_ne (by unfold ix; omega)]
    exact h.2.2.2 j c hj hjn hc

theorem Inv.f1 {t : Int} {s : Nat → Int} (h : Inv t s) (v : Int) (hv : 0 ≤ v ∧ v ≤ 8) : Inv t (up s 1 v) := by
  have h0 := h.1
  refine ⟨?_, fun f hf => ?_, fun j hj => ?_, fun j c hj hjn hc => ?_⟩
  · simp only [up_ne (s := s) (k := 0) (j := 1) (v := v) (by decide), up_eq (s := s) (j := 1) (v := v), up_ne (s := s) (k := 2) (j := 1) (v := v) (by decide), up_ne (s := s) (k := 3) (j := 1) (v := v) (by decide), up_ne (s := s) (k := 4) (j := 1) (v := v) (by decide), up_ne (s := s) (k := 5) (j := 1) (v := v) (by decide), up_ne (s := s) (k := 10) (j := 1) (v := v) (by decide)]
    omega
  · rw [up_ne (by omega)]
    exact h.2.1 f hf
  · simp only [up_ne (s := s) (k := ix j 0) (j := 1) (v := v) (by unfold ix; omega), up_ne (s := s) (k := ix j 1) (j := 1) (v := v) (by unfold ix; omega), up_ne (s := s) (k := ix j 2) (j := 1) (v := v) (by unfold ix; omega), up_ne (s := s) (k := ix j 3) (j := 1) (v := v) (by unfold ix; omega), up_ne (s := s) (k := ix j 4) (j := 1) (v := v) (by unfold ix; omega), up_ne (s := s) (k := ix j 5) (j := 1) (v := v) (by unfold ix; omega), up_ne (s := s) (k := ix j 6) (j := 1) (v := v) (by unfold ix; omega), up_ne (s := s) (k := ix j 7) (j := 1) (v := v) (by unfold ix; omega), up_ne (s := s) (k := ix j 8) (j := 1) (v := v) (by unfold ix; omega)]
    exact h.sc j hj
  · rw [up_ne (by decide)] at hjn
    rw [up_ne (by unfold ix; omega)]
    exact h.2.2.2 j c hj hjn hc

theorem Inv.f2 {t : Int} {s : Nat → Int} (h : Inv t s) (v : Int) (hv : 0 ≤ v ∧ v ≤ t) : Inv t (up s 2 v) := by
  have h0 := h.1
  refine ⟨?_, fun f hf => ?_, fun j hj => ?_, fun j c hj hjn hc => ?_⟩
  · simp only [up_ne (s := s) (k := 0) (j := 2) (v := v) (by decide), up_ne (s := s) (k := 1) (j := 2) (v := v) (by decide), up_eq (s := s) (j := 2) (v := v), up_ne (s := s) (k := 3) (j := 2) (v := v) (by decide), up_ne (s := s) (k := 4) (j := 2) (v := v) (by decide), up_ne (s := s) (k := 5) (j := 2) (v := v) (by decide), up_ne (s := s) (k := 10) (j := 2) (v := v) (by decide)]
    omega
  · rw [up_ne (by omega)]
    exact h.2.1 f hf
  · simp only [up_ne (s := s) (k := ix j 0) (j := 2) (v := v) (by unfold ix; omega), up_ne (s := s) (k := ix j 1) (j := 2) (v := v) (by unfold ix; omega), up_ne (s := s) (k := ix j 2) (j := 2) (v := v) (by unfold ix; omega), up_ne (s := s) (k := ix j 3) (j := 2) (v := v) (by unfold ix; omega), up_ne (s := s) (k := ix j 4) (j := 2) (v := v) (by unfold ix; omega), up_ne (s := s) (k := ix j 5) (j := 2) (v := v) (by unfold ix; omega), up_ne (s := s) (k := ix j 6) (j := 2) (v := v) (by unfold ix; omega), up_ne (s := s) (k := ix j 7) (j := 2) (v := v) (by unfold ix; omega), up_ne (s := s) (k := ix j 8) (j := 2) (v := v) (by unfold ix; omega)]
    exact h.sc j hj
  · rw [up_ne (by decide)] at hjn
    rw [up_ne (by unfold ix; omega)]
    exact h.2.2.2 j c hj hjn hc

theorem Inv.f3 {t : Int} {s : Nat → Int} (h : Inv t s) (v : Int) (hv : 0 ≤ v ∧ v ≤ 3) : Inv t (up s 3 v) := by
  have h0 := h.1
  refine ⟨?_, fun f hf => ?_, fun j hj => ?_, fun j c hj hjn hc => ?_⟩
  · simp only [up_ne (s := s) (k := 0) (j := 3) (v := v) (by decide), up_ne (s := s) (k := 1) (j := 3) (v := v) (by decide), up_ne (s := s) (k := 2) (j := 3) (v := v) (by decide), up_eq (s := s) (j := 3) (v := v), up_ne (s := s) (k := 4) (j := 3) (v := v) (by decide), up_ne (s := s) (k := 5) (j := 3) (v := v) (by decide), up_ne (s := s) (k := 10) (j := 3) (v := v) (by decide)]
    omega
  · rw [up_ne (by omega)]
    exact h.2.1 f hf
  · simp only [up_ne (s := s) (k := ix j 0) (j := 3) (v := v) (by unfold ix; omega), up_ne (s := s) (k := ix j 1) (j := 3) (v := v) (by unfold ix; omega), up_ne (s := s) (k := ix j 2) (j := 3) (v := v) (by unfold ix; omega), up_ne (s := s) (k := ix j 3) (j := 3) (v := v) (by unfold ix; omega), up_ne (s := s) (k := ix j 4) (j := 3) (v := v) (by unfold ix; omega), up_ne (s := s) (k := ix j 5) (j := 3) (v := v) (by unfold ix; omega), up_ne (s := s) (k := ix j 6) (j := 3) (v := v) (by unfold ix; omega), up_ne (s := s) (k := ix j 7) (j := 3) (v := v) (by unfold ix; omega), up_ne (s := s) (k := ix j 8) (j := 3) (v := v) (by unfold ix; omega)]
    exact h.sc j hj
  · rw [up_ne (by decide)] at hjn
    rw [up_ne (by unfold ix; omega)]
    exact h.2.2.2 j c hj hjn hc

theorem Inv.f4 {t : Int} {s : Nat → Int} (h : Inv t s) (v : Int) (hv : 0 ≤ v ∧ v ≤ 9) : Inv t (up s 4 v) := by
  have h0 := h.1
  refine ⟨?_, fun f hf => ?_, fun j hj => ?_, fun j c hj hjn hc => ?_⟩
  · simp only [up_ne (s := s) (k := 0) (j := 4) (v := v) (by decide), up_ne (s := s) (k := 1) (j := 4) (v := v) (by decide), up_ne (s := s) (k := 2) (j := 4) (v := v) (by decide), up_ne (s := s) (k := 3) (j := 4) (v := v) (by decide), up_eq (s := s) (j := 4) (v := v), up_ne (s := s) (k := 5) (j := 4) (v := v) (by decide), up_ne (s := s) (k := 10) (j := 4) (v := v) (by decide)]
    omega
  · rw [up_ne (by omega)]
    exact h.2.1 f hf
  · simp only [up_ne (s := s) (k := ix j 0) (j := 4) (v := v) (by unfold ix; omega), up_ne (s := s) (k := ix j 1) (j := 4) (v := v) (by unfold ix; omega), up_ne (s := s) (k := ix j 2) (j := 4) (v := v) (by unfold ix; omega), up_ne (s := s) (k := ix j 3) (j := 4) (v := v) (by unfold ix; omega), up_ne (s := s) (k := ix j 4) (j := 4) (v := v) (by unfold ix; omega), up_ne (s := s) (k := ix j 5) (j := 4) (v := v) (by unfold ix; omega), up_ne (s := s) (k := ix j 6) (j := 4) (v := v) (by unfold ix; omega), up_ne (s := s) (k := ix j 7) (j := 4) (v := v) (by unfold ix; omega), up_ne (s := s) (k := ix j 8) (j := 4) (v := v) (by unfold ix; omega)]
    exact h.sc j hj
  · rw [up_ne (by decide)] at hjn
    rw [up_ne (by unfold ix; omega)]
    exact h.2.2.2 j c hj hjn hc

theorem Inv.f5 {t : Int} {s : Nat → Int} (h : Inv t s) (v : Int) (hv : 0 ≤ v ∧ v ≤ 640) : Inv t (up s 5 v) := by
  have h0 := h.1
  refine ⟨?_, fun f hf => ?_, fun j hj => ?_, fun j c hj hjn hc => ?_⟩
  · simp only [up_ne (s := s) (k := 0) (j := 5) (v := v) (by decide), up_ne (s := s) (k := 1) (j := 5) (v := v) (by decide), up_ne (s := s) (k := 2) (j := 5) (v := v) (by decide), up_ne (s := s) (k := 3) (j := 5) (v := v) (by decide), up_ne (s := s) (k := 4) (j := 5) (v := v) (by decide), up_eq (s := s) (j := 5) (v := v), up_ne (s := s) (k := 10) (j := 5) (v := v) (by decide)]
    omega
  · rw [up_ne (by omega)]
    exact h.2.1 f hf
  · simp only [up_ne (s := s) (k := ix j 0) (j := 5) (v := v) (by unfold ix; omega), up_ne (s := s) (k := ix j 1) (j := 5) (v := v) (by unfold ix; omega), up_ne (s := s) (k := ix j 2) (j := 5) (v := v) (by unfold ix; omega), up_ne (s := s) (k := ix j 3) (j := 5) (v := v) (by unfold ix; omega), up_ne (s := s) (k := ix j 4) (j := 5) (v := v) (by unfold ix; omega), up_ne (s := s) (k := ix j 5) (j := 5) (v := v) (by unfold ix; omega), up_ne (s := s) (k := ix j 6) (j := 5) (v := v) (by unfold ix; omega), up_ne (s := s) (k := ix j 7) (j := 5) (v := v) (by unfold ix; omega), up_ne (s := s) (k := ix j 8) (j := 5) (v := v) (by unfold ix; omega)]
    exact h.sc j hj
  · rw [up_ne (by decide)] at hjn
    rw [up_ne (by unfold ix; omega)]
    exact h.2.2.2 j c hj hjn hc

theorem Inv.f6 {t : Int} {s : Nat → Int} (h : Inv t s) (v : Int) (hv : True) : Inv t (up s 6 v) := by
  have h0 := h.1
  refine ⟨?_, fun f hf => ?_, fun j hj => ?_, fun j c hj hjn hc => ?_⟩
  · simp only [up_ne (s := s) (k := 0) (j := 6) (v := v) (by decide), up_ne (s := s) (k := 1) (j := 6) (v := v) (by decide), up_ne (s := s) (k := 2) (j := 6) (v := v) (by decide), up_ne (s := s) (k := 3) (j := 6) (v := v) (by decide), up_ne (s := s) (k := 4) (j := 6) (v := v) (by decide), up_ne (s := s) (k := 5) (j := 6) (v := v) (by decide), up_ne (s := s) (k := 10) (j := 6) (v := v) (by decide)]
    omega
  · rw [up_ne (by omega)]
    exact h.2.1 f hf
  · simp only [up_ne (s := s) (k := ix j 0) (j := 6) (v := v) (by unfold ix; omega), up_ne (s := s) (k := ix j 1) (j := 6) (v := v) (by unfold ix; omega), up_ne (s := s) (k := ix j 2) (j := 6) (v := v) (by unfold ix; omega), up_ne (s := s) (k := ix j 3) (j := 6) (v := v) (by unfold ix; omega), up_ne (s := s) (k := ix j 4) (j := 6) (v := v) (by unfold ix; omega), up_ne (s := s) (k := ix j 5) (j := 6) (v := v) (by unfold ix; omega), up_ne (s := s) (k := ix j 6) (j := 6) (v := v) (by unfold ix; omega), up_ne (s := s) (k := ix j 7) (j := 6) (v := v) (by unfold ix; omega), up_ne (s := s) (k := ix j 8) (j := 6) (v := v) (by unfold ix; omega)]
    exact h.sc j hj
  · rw [up_ne (by decide)] at hjn
    rw [up_ne (by unfold ix; omega)]
    exact h.2.2.2 j c hj hjn hc

theorem Inv.f7 {t : Int} {s : Nat → Int} (h : Inv t s) (v : Int) (hv : True) : Inv t (up s 7 v) := by
  have h0 := h.1
  refine ⟨?_, fun f hf => ?_, fun j hj => ?_, fun j c hj hjn hc => ?_⟩
  · simp only [up_ne (s := s) (k := 0) (j := 7) (v := v) (by decide), up_ne (s := s) (k := 1) (j := 7) (v := v) (by decide), up_ne (s := s) (k := 2) (j := 7) (v := v) (by decide), up_ne (s := s) (k := 3) (j := 7) (v := v) (by decide), up_ne (s := s) (k := 4) (j := 7) (v := v) (by decide), up_ne (s := s) (k := 5) (j := 7) (v := v) (by decide), up_ne (s := s) (k := 10) (j := 7) (v := v) (by decide)]
    omega
  · rw [up_ne (by omega)]
    exact h.2.1 f hf
  · simp only [up_ne (s := s) (k := ix j 0) (j := 7) (v := v) (by unfold ix; omega), up_ne (s := s) (k := ix j 1) (j := 7) (v := v) (by unfold ix; omega), up_ne (s := s) (k := ix j 2) (j := 7) (v := v) (by unfold ix; omega), up_ne (s := s) (k := ix j 3) (j := 7) (v := v) (by unfold ix; omega), up_ne (s := s) (k := ix j 4) (j := 7) (v := v) (by unfold ix; omega), up_ne (s := s) (k := ix j 5) (j := 7) (v := v) (by unfold ix; omega), up_ne (s := s) (k := ix j 6) (j := 7) (v := v) (by unfold ix; omega), up_ne (s := s) (k := ix j 7) (j := 7) (v := v) (by unfold ix; omega), up_ne (s := s) (k := ix j 8) (j := 7) (v := v) (by unfold ix; omega)]
    exact h.sc j hj
  · rw [up_ne (by decide)] at hjn
    rw [up_ne (by unfold ix; omega)]
    exact h.2.2.2 j c hj hjn hc

theorem Inv.f8 {t : Int} {s : Nat → Int} (h : Inv t s) (v : Int) (hv : True) : Inv t (up s 8 v) := by
  have h0 := h.1
  refine ⟨?_, fun f hf => ?_, fun j hj => ?_, fun j c hj hjn hc => ?_⟩
  · simp only [up_ne (s := s) (k := 0) (j := 8) (v := v) (by decide), up_ne (s := s) (k := 1) (j := 8) (v := v) (by decide), up_ne (s := s) (k := 2) (j := 8) (v := v) (by decide), up_ne (s := s) (k := 3) (j := 8) (v := v) (by decide), up_ne (s := s) (k := 4) (j := 8) (v := v) (by decide), up_ne (s := s) (k := 5) (j := 8) (v := v) (by decide), up_ne (s := s) (k := 10) (j := 8) (v := v) (by decide)]
    omega
  · rw [up_ne (by omega)]
    exact h.2.1 f hf
  · simp only [up_ne (s := s) (k := ix j 0) (j := 8) (v := v) (by unfold ix; omega), up_ne (s := s) (k := ix j 1) (j := 8) (v := v) (by unfold ix; omega), up_ne (s := s) (k := ix j 2) (j := 8) (v := v) (by unfold ix; omega), up_ne (s := s) (k := ix j 3) (j := 8) (v := v) (by unfold ix; omega), up_ne (s := s) (k := ix j 4) (j := 8) (v := v) (by unfold ix; omega), up_ne (s := s) (k := ix j 5) (j := 8) (v := v) (by unfold ix; omega), up_ne (s := s) (k := ix j 6) (j := 8) (v := v) (by unfold ix; omega), up_ne (s := s) (k := ix j 7) (j := 8) (v := v) (by unfold ix; omega), up_ne (s := s) (k := ix j 8) (j := 8) (v := v) (by unfold ix; omega)]
    exact h.sc j hj
  · rw [up_ne (by decide)] at hjn
    rw [up_ne (by unfold ix; omega)]
    exact h.2.2.2 j c hj hjn hc

theorem Inv.f9 {t : Int} {s : Nat → Int} (h : Inv t s) (v : Int) (hv : True) : Inv t (up s 9 v) := by
  have h0 := h.1
  refine ⟨?_, fun f hf => ?_, fun j hj => ?_, fun j c hj hjn hc => ?_⟩
  · simp only [up_ne (s := s) (k := 0) (j := 9) (v := v) (by decide), up_ne (s := s) (k := 1) (j := 9) (v := v) (by decide), up_ne (s := s) (k := 2) (j := 9) (v := v) (by decide), up_ne (s := s) (k := 3) (j := 9) (v := v) (by decide), up_ne (s := s) (k := 4) (j := 9) (v := v) (by decide), up_ne (s := s) (k := 5) (j := 9) (v := v) (by decide), up_ne (s := s) (k := 10) (j := 9) (v := v) (by decide)]
    omega
  · rw [up_ne (by omega)]
    exact h.2.1 f hf
  · simp only [up_ne (s := s) (k := ix j 0) (j := 9) (v := v) (by unfold ix; omega), up_ne (s := s) (k := ix j 1) (j := 9) (v := v) (by unfold ix; omega), up_ne (s := s) (k := ix j 2) (j := 9) (v := v) (by unfold ix; omega), up_ne (s := s) (k := ix j 3) (j := 9) (v := v) (by unfold ix; omega), up_ne (s := s) (k := ix j 4) (j := 9) (v := v) (by unfold ix; omega), up_ne (s := s) (k := ix j 5) (j := 9) (v := v) (by unfold ix; omega), up_ne (s := s) (k := ix j 6) (j := 9) (v := v) (by unfold ix; omega), up_ne (s := s) (k := ix j 7) (j := 9) (v := v) (by unfold ix; omega), up_ne (s := s) (k := ix j 8) (j := 9) (v := v) (by unfold ix; omega)]
    exact h.sc j hj
  · rw [up_ne (by decide)] at hjn
    rw [up_ne (by unfold ix; omega)]
    exact h.2.2.2 j c hj hjn hc

theorem Inv.g {t : Int} {s : Nat → Int} (h : Inv t s) (f : Nat) (hf : f < 6) (v : Int) (hv : 1 ≤ v ∧ v ≤ 9) : Inv t (up s (11 + f) v) := by
  refine ⟨?_, fun g hg => ?_, fun j hj => ?_, fun j c hj hjn hc => ?_⟩
  · simp only [up_ne (s := s) (k := 0) (j := 11 + f) (v := v) (by omega), up_ne (s := s) (k := 1) (j := 11 + f) (v := v) (by omega), up_ne (s := s) (k := 2) (j := 11 + f) (v := v) (by omega), up_ne (s := s) (k := 3) (j := 11 + f) (v := v) (by omega), up_ne (s := s) (k := 4) (j := 11 + f) (v := v) (by omega), up_ne (s := s) (k := 5) (j := 11 + f) (v := v) (by omega), up_ne (s := s) (k := 10) (j := 11 + f) (v := v) (by omega)]
    exact h.1
  · by_cases q : g = f
    · subst q; rw [up_eq]; exact hv
    · rw [up_ne (by omega)]; exact h.2.1 g hg
  · have e : ∀ d, up s (11 + f) v (ix j d) = s (ix j d) := fun d => up_ne (by unfold ix; omega)
    simp only [e]
    exact h.sc j hj
  · rw [up_ne (by omega)] at hjn
    rw [up_ne (by unfold ix; omega)]
    exact h.2.2.2 j c hj hjn hc
theorem Inv.mono {t t' : Int} {s : Nat → Int} (h : Inv t s) (h1 : t ≤ t') (h2 : t' ≤ 1000000) : Inv t' s := by
  have h0 := h.1
  exact ⟨by omega, h.2.1, h.2.2.1, h.2.2.2⟩
theorem Inv.flies {t : Int} {s : Nat → Int} (h : Inv t s) (k : Nat) (hk : k < 12) (hn : (k : Int) < s 10) : Inv t (fly s k) := by
  have h1 := h.sc k hk
  unfold fly
  have i1 := h.a5 k 0 hk hn (by omega)
  have h2 := i1.sc k hk
  have i2 := i1.a6 k 0 hk (by rw [up_ix (by decide)]; exact hn) (by omega)
  have h3 := i2.sc k hk
  have i3 := i2.a7 k 0 hk (by rw [up_ix (by decide), up_ix (by decide)]; exact hn) (by omega)
  have h4 := i3.sc k hk
  exact i3.a8 k 0 hk (by rw [up_ix (by decide), up_ix (by decide), up_ix (by decide)]; exact hn) (by omega)

theorem fly_same {s : Nat → Int} {k : Nat} (h1 : s (ix k 5) = 0) (h2 : s (ix k 6) = 0) (h3 : s (ix k 7) = 0) (h4 : s (ix k 8) = 0) : fly s k = s := by
  unfold fly
  rw [up_same h1, up_same h2, up_same h3, up_same h4]
theorem st_same {s : Nat → Int} {k : Nat} {m : Int} (h : flN s k m = 0) : up (up s (ix k 4) (s (ix k 4) + flN s k m)) 5 (s 5 - flN s k m) = s := by
  rw [h, up_same (s := s) (j := ix k 4) (by omega)]
  exact up_same (by omega)
theorem fly_6 (s : Nat → Int) (k : Nat) (v : Int) : fly (up s 6 v) k = up (fly s k) 6 v := by
  unfold fly
  rw [up_comm (i := 6) (j := ix k 5) (by unfold ix; omega), up_comm (i := 6) (j := ix k 6) (by unfold ix; omega), up_comm (i := 6) (j := ix k 7) (by unfold ix; omega), up_comm (i := 6) (j := ix k 8) (by unfold ix; omega)]
theorem hB_pl1 (G : vC) (h : Nat → Nat) (s : Nat → Int) (k : Nat) : hB G h (pl1 s k) = hB G h (up (up s (ix k 4) (s (ix k 4) - plN s k)) (ix k 10) (s (ix k 10) + plN s k)) := (hB_g6 G h _ _).symm
theorem hB_pl2 (G : vC) (h : Nat → Nat) (s : Nat → Int) (k : Nat) : hB G h (fly (pl1 s k) k) = hB G h (fly (up (up s (ix k 4) (s (ix k 4) - plN s k)) (ix k 10) (s (ix k 10) + plN s k)) k) := by
  unfold pl1
  rw [fly_6]
  exact (hB_g6 G h _ _).symm
theorem hB_sh7 (G : vC) (h : Nat → Nat) (s : Nat → Int) (v : Int) : hB G h (shS (up s 7 v)) = hB G h (shS s) := by
  unfold shS
  rw [up_ne (s := s) (k := 0) (j := 7) (v := v) (by decide), up_ne (s := s) (k := 2) (j := 7) (v := v) (by decide), up_ne (s := s) (k := 3) (j := 7) (v := v) (by decide)]
  split
  · rw [up_comm (by decide)]
    exact (hB_g7 G h _ _).symm
  · exact (hB_g7 G h _ _).symm
theorem Inv.tb {t : Int} {s : Nat → Int} (h : Inv t s) (k : Nat) (hk : (k : Int) < s 10) : Inv t (tbS s k) := by
  have hb := h.base
  unfold tbS
  split
  · exact h
  · have h1 := h.a3 k (tbN s k) (by omega) hk (by unfold tbN; omega)
    exact h1.a9 k _ (by omega) (by rw [up_ix (by decide)]; exact hk) trivial
theorem tbS_lo (s : Nat → Int) (k j : Nat) (hj : j < 17) : tbS s k j = s j := by
  unfold tbS
  split
  · rfl
  · rw [up_ix hj, up_ix hj]
theorem twS_lo (s : Nat → Int) (k j : Nat) (hj : j < 17) : twS s k j = s j := by
  induction k with
  | zero => rfl
  | succ k ih => exact (tbS_lo _ _ _ hj).trans ih
theorem Inv.tw {t : Int} {s : Nat → Int} (h : Inv t s) (k : Nat) (hk : (k : Int) ≤ s 10) : Inv t (twS s k) := by
  induction k with
  | zero => exact h
  | succ k ih => exact (ih (by omega)).tb k (by rw [twS_lo _ _ _ (by decide)]; omega)
theorem fly_lo (s : Nat → Int) (k j : Nat) (hj : j < 17) : fly s k j = s j := by
  unfold fly
  rw [up_ix hj, up_ix hj, up_ix hj, up_ix hj]
theorem plS_lo (s : Nat → Int) (k j : Nat) (hj : j < 17) (h6 : j ≠ 6) : plS s k j = s j := by
  have e : pl1 s k j = s j := by unfold pl1; rw [up_ne h6, up_ix hj, up_ix hj]
  unfold plS
  split
  · rw [fly_lo _ _ _ hj, e]
  · exact e
theorem pkS_lo (s : Nat → Int) (k j : Nat) (hj : j < 17) (h6 : j ≠ 6) : pkS s k j = s j := by
  induction k with
  | zero => rfl
  | succ k ih => exact (plS_lo _ _ _ hj h6).trans ih
theorem plN_b {t : Int} {s : Nat → Int} (h : Inv t s) (k : Nat) (hk : k < 12) : 0 ≤ plN s k ∧ plN s k ≤ s (ix k 4) ∧ plN s k ≤ 9 := by
  have h1 := h.sc k hk
  unfold plN crN
  split <;> omega
theorem Inv.pl {t : Int} {s : Nat → Int} (h : Inv t s) (k : Nat) (hk : (k : Int) < s 10) : Inv t (plS s k) := by
  have hb := h.base
  have h0 := h.sc k (by omega)
  have hp := plN_b h k (by omega)
  have h1 : Inv t (pl1 s k) := by
    have i1 := h.a4 k (s (ix k 4) - plN s k) (by omega) hk (by omega)
    have i2 := i1.a10 k (s (ix k 10) + plN s k) (by omega) (by rw [up_ix (by decide)]; exact hk) trivial
    exact i2.f6 _ trivial
  unfold plS
  split
  · refine h1.flies k (by omega) ?_
    unfold pl1
    rw [up_ne (by decide), up_ix (by decide), up_ix (by decide)]; exact hk
  · exact h1
theorem Inv.pk {t : Int} {s : Nat → Int} (h : Inv t s) (k : Nat) (hk : (k : Int) ≤ s 10) : Inv t (pkS s k) := by
  induction k with
  | zero => exact h
  | succ k ih => exact (ih (by omega)).pl k (by rw [pkS_lo _ _ _ (by decide) (by decide)]; omega)
theorem tkA_lo (s : Nat → Int) (j : Nat) (hj : j < 17) (h6 : j ≠ 6) : tkA s j = s j := by
  unfold tkA
  rw [pkS_lo _ _ _ hj h6, twS_lo _ _ _ hj]
theorem Inv.tkAI {t : Int} {s : Nat → Int} (h : Inv t s) : Inv t (tkA s) := by
  have hb := h.base
  have h1 := h.tw (s 10).toNat (by omega)
  exact h1.pk (s 10).toNat (by rw [twS_lo _ _ _ (by decide)]; omega)
theorem Inv.tkB {t : Int} {s : Nat → Int} (h : Inv t s) (ht : t + 1 ≤ 1000000) : Inv (t + 1) (up (tkA s) 2 (tkA s 2 + 1)) := by
  have hb := h.tkAI.base
  exact (h.tkAI.mono (by omega) ht).f2 _ (by omega)
theorem Inv.sh {t : Int} {s : Nat → Int} (h : Inv t s) : Inv t (shS s) := by
  have hb := h.base
  unfold shS
  split
  · exact h.f3 _ (by omega)
  · exact h
theorem Inv.tk {t : Int} {s : Nat → Int} (h : Inv t s) (ht : t + 1 ≤ 1000000) : Inv (t + 1) (tkS s) := ((h.tkB ht).f7 _ trivial).sh
theorem Inv.ts {t : Int} {s : Nat → Int} (h : Inv t s) (j : Nat) (ht : t + j ≤ 1000000) : Inv (t + j) (tsS s j) := by
  induction j with
  | zero => exact h.mono (by omega) ht
  | succ j ih =>
    have h1 := (ih (by omega)).tk (by omega)
    rw [show t + ((j + 1 : Nat) : Int) = t + j + 1 by omega]
    exact h1
theorem tbR_b (s : Nat → Int) (k : Nat) : 0 ≤ tbR s k ∧ tbR s k ≤ 1 := by
  unfold tbR
  split <;> omega
theorem twR_b (s : Nat → Int) (k : Nat) : 0 ≤ twR s k ∧ twR s k ≤ k := by
  induction k with
  | zero => exact ⟨Int.le_refl _, Int.le_refl _⟩
  | succ k ih =>
    have h1 := tbR_b (twS s k) k
    show 0 ≤ twR s k + tbR (twS s k) k ∧ twR s k + tbR (twS s k) k ≤ _
    omega
theorem tsR_b {t : Int} {s : Nat → Int} (h : Inv t s) (j : Nat) (ht : t + j ≤ 1000000) : 0 ≤ tsR s j ∧ tsR s j ≤ 12 * j := by
  induction j with
  | zero => exact ⟨Int.le_refl _, Int.le_refl _⟩
  | succ j ih =>
    have h1 := ih (by omega)
    have h2 := (h.ts j (by omega)).base
    have h3 := twR_b (tsS s j) (tsS s j 10).toNat
    show 0 ≤ tsR s j + tkR (tsS s j) ∧ tsR s j + tkR (tsS s j) ≤ _
    unfold tkR
    omega
theorem goR_b {s : Nat → Int} (h : Inv 99999 s) (m : Int) : -2147483648 ≤ goR s m ∧ goR s m ≤ 2147483647 := by
  have h2 := h.base
  unfold goR
  split
  · have h1 := tsR_b h m.toNat (by omega)
    split <;> omega
  · omega
theorem shS_lo (s : Nat → Int) (j : Nat) (hj : j ≠ 3) : shS s j = s j := by
  unfold shS
  split
  · exact up_ne hj
  · rfl
theorem tkS_lo (s : Nat → Int) (j : Nat) (hj : j < 17) (h2 : j ≠ 2) (h3 : j ≠ 3) (h6 : j ≠ 6) (h7 : j ≠ 7) : tkS s j = s j := by
  unfold tkS
  rw [shS_lo _ _ h3, up_ne h7, up_ne h2, tkA_lo _ _ hj h6]
theorem tkS_2 (s : Nat → Int) : tkS s 2 = s 2 + 1 := by
  unfold tkS
  rw [shS_lo _ _ (by decide), up_ne (by decide), up_eq, tkA_lo _ _ (by decide) (by decide)]
theorem tsS_lo (s : Nat → Int) (k j : Nat) (hj : j < 17) (h2 : j ≠ 2) (h3 : j ≠ 3) (h6 : j ≠ 6) (h7 : j ≠ 7) : tsS s k j = s j := by
  induction k with
  | zero => rfl
  | succ k ih => exact (tkS_lo _ _ hj h2 h3 h6 h7).trans ih
theorem tsS_2 (s : Nat → Int) (k : Nat) : tsS s k 2 = s 2 + k := by
  induction k with
  | zero => show s 2 = s 2 + 0; omega
  | succ k ih =>
    show tkS (tsS s k) 2 = _
    rw [tkS_2, ih]
    omega
