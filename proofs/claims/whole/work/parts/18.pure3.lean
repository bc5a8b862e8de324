/-! pure words: shuffling, letters -/
def flF (n : Nat → Nat → Nat) (q : Nat) : Nat → Nat → Nat → Nat
  | 0 => n
  | k + 1 => ku (flF n q k) q k k
def swP (n : Nat → Nat → Nat) (q s t : Nat) : Nat → (Nat → Nat → Nat) × Nat
  | 0 => (flF n q t, s)
  | k + 1 => (ku (ku (swP n q s t k).1 q (drV (swP n q s t k).2 (t - 1 - k + 1)) ((swP n q s t k).1 q (t - 1 - k))) q (t - 1 - k) ((swP n q s t k).1 q (drV (swP n q s t k).2 (t - 1 - k + 1))), drS (swP n q s t k).2 (t - 1 - k + 1))
theorem kg_self (g : Nat → Nat) (i : Nat) : kg g i (g i) = g := by
  funext j
  unfold kg
  split
  · rename_i h; rw [h]
  · rfl
/-- letters: shifted by one from k + 1 on -/
def shN (n : Nat → Nat → Nat) (k : Nat) : Nat → Nat → Nat → Nat
  | 0 => n
  | i + 1 => ku (ku (ku (shN n k i) 16 (k + 1 + i - 1) (shN n k i 16 (k + 1 + i))) 17 (k + 1 + i - 1) (ku (shN n k i) 16 (k + 1 + i - 1) (shN n k i 16 (k + 1 + i)) 17 (k + 1 + i))) 18 (k + 1 + i - 1) (ku (ku (shN n k i) 16 (k + 1 + i - 1) (shN n k i 16 (k + 1 + i))) 17 (k + 1 + i - 1) (ku (shN n k i) 16 (k + 1 + i - 1) (shN n k i 16 (k + 1 + i)) 17 (k + 1 + i)) 18 (k + 1 + i))
theorem shN_c (n : Nat → Nat → Nat) (k : Nat) : ∀ i, shN n k i 15 0 = n 15 0
  | 0 => rfl
  | i + 1 => by
    have := shN_c n k i
    simp only [shN]
    rw [ku_n (by decide), ku_n (by decide), ku_n (by decide)]
    exact this
def fiF (n : Nat → Nat → Nat) (q x : Nat) : Nat → Nat → Nat → Nat
  | 0 => n
  | k + 1 => ku (fiF n q x k) q k x
