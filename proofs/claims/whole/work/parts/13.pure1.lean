/-! pure words: parities, bits, rows -/
def parF (str ord : Nat → Nat) (f : Nat) : Nat → Nat
  | 0 => 0
  | k + 1 => parF str ord f k ^^^ str (ord (f + k))
/-- is one of the k places from f on set? -/
def anyF (r : Nat → Nat) (f : Nat) : Nat → Nat
  | 0 => 0
  | k + 1 => if anyF r f k = 0 then (if r (f + k) = 0 then 0 else 1) else 1
theorem anyF_lt (r : Nat → Nat) (f : Nat) : ∀ k, anyF r f k < 2
  | 0 => Nat.zero_lt_two
  | k + 1 => by
    unfold anyF
    split
    · split <;> decide
    · decide
theorem anyF_step (r : Nat → Nat) (f k : Nat) (h : anyF r f k = 0) (h2 : r (f + k) = 0) : anyF r f (k + 1) = 0 := by
  unfold anyF
  rw [if_pos h, if_pos h2]
theorem anyF_up (r : Nat → Nat) (f k : Nat) (h : anyF r f k ≠ 0) : ∀ j, anyF r f (k + j) = 1
  | 0 => by have := anyF_lt r f k; show anyF r f k = 1; omega
  | j + 1 => by
    show anyF r f (k + j + 1) = 1
    unfold anyF
    rw [if_neg (by rw [anyF_up r f k h j]; decide)]
theorem anyF_hit (r : Nat → Nat) (f k t : Nat) (hk : k < t) (h : anyF r f k = 0) (h2 : ¬ r (f + k) = 0) : 1 = anyF r f t := by
  have h1 : anyF r f (k + 1) ≠ 0 := by
    unfold anyF
    rw [if_pos h, if_neg h2]
    decide
  have := anyF_up r f (k + 1) h1 (t - (k + 1))
  rw [show k + 1 + (t - (k + 1)) = t by omega] at this
  exact this.symm
