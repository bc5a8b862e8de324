/-! pure words: the dialogue's blocks, questions -/
def bsF (n : Nat → Nat → Nat) (p : Nat) : Nat := n 14 4 * 2 ^ p
def beF (n : Nat → Nat → Nat) (p f : Nat) : Nat := if n 14 5 < f + n 14 4 * 2 ^ p then n 14 5 else f + n 14 4 * 2 ^ p
def bcF (n : Nat → Nat → Nat) (p : Nat) : Nat := (n 14 5 - 1) / (n 14 4 * 2 ^ p) + 1
def odF (n : Nat → Nat → Nat) (p f t mk : Nat) : Nat := if n (25 + p) mk = parF (n 12) (n (20 + p)) f (t - f) then 0 else 1
theorem odF_lt (n : Nat → Nat → Nat) (p f t mk : Nat) : odF n p f t mk < 2 := by unfold odF; split <;> decide
theorem jI_or {p : Nat} (h : p < 4) : jI (20 + p) = 128 := by
  rcases (show p = 0 ∨ p = 1 ∨ p = 2 ∨ p = 3 by omega) with rfl | rfl | rfl | rfl <;> rfl
theorem jI_kn {p : Nat} (h : p < 4) : jI (25 + p) = 128 := by
  rcases (show p = 0 ∨ p = 1 ∨ p = 2 ∨ p = 3 by omega) with rfl | rfl | rfl | rfl <;> rfl
theorem kx1 {x y : Nat} (hx : x < 2) (hy : y < 2) : x ^^^ y < 2 := Nat.xor_lt_two_pow (n := 1) hx hy
theorem parF_lt {str ord : Nat → Nat} {f : Nat} (h : ∀ i, str i < 2) : ∀ k, parF str ord f k < 2
  | 0 => by show 0 < 2; decide
  | k + 1 => kx1 (parF_lt h k) (h _)
theorem kn_shr {x q : Nat} (hq : q < 32) (hx : x < 2147483648) : nI x >>> (nI q &&& 31) = nI (x / 2 ^ q) := pk_shrN hx _ q (kn_s31 q hq)
theorem bs_pos {n : Nat → Nat → Nat} {p : Nat} (h : 4 ≤ n 14 4) : 4 ≤ n 14 4 * 2 ^ p := by
  have : 1 ≤ 2 ^ p := Nat.one_le_two_pow
  calc 4 ≤ n 14 4 := h
    _ = n 14 4 * 1 := (Nat.mul_one _).symm
    _ ≤ n 14 4 * 2 ^ p := Nat.mul_le_mul_left _ this
theorem bs_le {n : Nat → Nat → Nat} {p : Nat} (h : n 14 4 ≤ 128) (hp : p < 4) : n 14 4 * 2 ^ p ≤ 1024 := by
  rcases (show p = 0 ∨ p = 1 ∨ p = 2 ∨ p = 3 by omega) with rfl | rfl | rfl | rfl <;> omega
/-- a question's number for the row -/
def qwF (p f t : Nat) : Nat := p * 2 ^ 16 ||| f * 2 ^ 8 ||| t
theorem kn_shlA {x : Nat} (hx : x < 128) : nI x <<< (nI 16 &&& 31) = nI (x * 2 ^ 16) := pk_shlN _ 16 (by decide) (by omega)
theorem kn_shlB {x : Nat} (hx : x < 65536) : nI x <<< (nI 8 &&& 31) = nI (x * 2 ^ 8) := pk_shlN _ 8 (by decide) (by omega)
/-- a question is asked: the row, its number, its mark -/
def akG (n : Nat → Nat → Nat) (q f t mk : Nat) : Nat → Nat → Nat := ku (ku (ku n 29 (n 14 0) (q * 2 ^ 16 ||| f * 2 ^ 8 ||| t)) 14 0 (n 14 0 + 1)) 14 1 mk
/-- a letter is sent, if there is room -/
def sdG (n : Nat → Nat → Nat) (x y z : Nat) : Nat → Nat → Nat := ku (ku (ku (ku n 16 (n 15 0) x) 17 (n 15 0) y) 18 (n 15 0) z) 15 0 (n 15 0 + 1)
def sdF (n : Nat → Nat → Nat) (x y z : Nat) : Nat → Nat → Nat := if n 15 0 = 16 then n else sdG n x y z
def akF (n : Nat → Nat → Nat) (q f t mk : Nat) : Nat → Nat → Nat := sdG (akG n q f t mk) 0 (n 14 0 + 1) 0
