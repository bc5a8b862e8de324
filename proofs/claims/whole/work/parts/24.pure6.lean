/-! pure words: going on keeps what it needs -/
def DI (n : Nat → Nat → Nat) : Prop := (4 ≤ n 14 4 ∧ n 14 4 ≤ 128 ∧ n 14 4 ≤ n 14 5 ∧ n 14 5 ≤ 128) ∧ (∀ p i, p < 4 → n (25 + p) i < 4294967296) ∧ (∀ p i, p < 4 → i < n 14 5 → n (20 + p) i < 128) ∧ (∀ i, n 12 i < 2) ∧ n 14 0 < 512 ∧ n 15 0 ≤ 16 ∧ n 14 3 ≤ 4
theorem sb_in {n : Nat → Nat → Nat} {q : Nat} {z : Nat × Nat} (hq : q < 4) (ht : 4 ≤ n 14 5) (ht2 : n 14 5 ≤ 128) (hz : z.1 = 4294967295 ∨ (z.1 < 512 ∧ z.1 % 128 < n 14 5)) : ∀ b, b ≤ bcF n q → ((sbF n q z b).1 = 4294967295 ∨ ((sbF n q z b).1 < 512 ∧ (sbF n q z b).1 % 128 < n 14 5))
  | 0, _ => hz
  | b + 1, hb => by
    have ih := sb_in hq ht ht2 hz b (by omega)
    have h1 := blk_lt (n := n) (q := q) (b := b) ht (by omega)
    unfold sbF
    split
    · split
      · exact ih
      · refine Or.inr ⟨?_, ?_⟩
        · show q * 128 + b * (n 14 4 * 2 ^ q) < 512
          omega
        · show (q * 128 + b * (n 14 4 * 2 ^ q)) % 128 < n 14 5
          omega
    · exact ih
theorem so_in {n : Nat → Nat → Nat} (ht : 4 ≤ n 14 5) (ht2 : n 14 5 ≤ 128) : ∀ q, q ≤ 4 → ((soF n q).1 = 4294967295 ∨ ((soF n q).1 < 512 ∧ (soF n q).1 % 128 < n 14 5))
  | 0, _ => Or.inl rfl
  | q + 1, hq => sb_in (by omega) ht ht2 (so_in ht ht2 q (by omega)) _ (Nat.le_refl _)
theorem af_two (n : Nat → Nat → Nat) (q : Nat) : (afF n q).2 < 2 := by
  unfold afF
  split
  · show 1 < 2; decide
  · show 0 < 2; decide
theorem af_zero {n : Nat → Nat → Nat} {q : Nat} (h : (afF n q).2 = 0) : (afF n q).1 = n := by
  unfold afF at h ⊢
  split
  · rename_i b hb; simp only [hb] at h; omega
  · rfl
theorem sr_two (n : Nat → Nat → Nat) (q f : Nat) : (srF n q f).2 < 2 := by
  unfold srF
  split
  · show 0 < 2; decide
  · show 1 < 2; decide
theorem mm_two (n : Nat → Nat → Nat) : (mmF n).2 < 2 := by
  unfold mmF
  split
  · show 0 < 2; decide
  · exact sr_two _ _ _
theorem DI_fp {n : Nat → Nat → Nat} (h : DI n) (q f : Nat) : DI (fpF n q f) := by
  obtain ⟨h1, h2, h3, h4, h5, h6, h7⟩ := h
  unfold fpF
  refine ⟨h1, fun p i hp => ?_, fun p i hp hi => ?_, fun i => ?_, h5, h6, h7⟩
  · rw [ku_n (by omega)]; exact h2 p i hp
  · rw [ku_n (by omega)]; exact h3 p i hp hi
  · unfold ku
    rw [if_pos rfl]
    split
    · exact kx1 (h4 _) (by decide)
    · exact h4 i
theorem DI_up {n : Nat → Nat → Nat} (h : DI n) (hc : n 14 3 < 4) : DI (ku n 14 3 (n 14 3 + 1)) := by
  obtain ⟨h1, h2, h3, h4, h5, h6, h7⟩ := h
  refine ⟨h1, fun p i hp => ?_, fun p i hp hi => ?_, fun i => ?_, h5, h6, ?_⟩
  · rw [ku_n (by omega)]; exact h2 p i hp
  · rw [ku_n (by omega)]; exact h3 p i hp hi
  · rw [ku_n (by decide)]; exact h4 i
  · rw [ku_s]; omega
theorem DI_mm {n : Nat → Nat → Nat} (h : DI n) (hc : n 14 3 < 4) (hz : (mmF n).2 = 0) : DI (mmF n).1 := by
  unfold mmF at hz ⊢
  split
  · exact DI_up h hc
  · rename_i hb
    rw [if_neg hb] at hz
    unfold srF at hz ⊢
    split
    · exact DI_fp h _ _
    · rename_i hb2
      rw [if_neg hb2] at hz
      exact absurd hz (show ¬ 1 = 0 by decide)
theorem go_stop {n : Nat → Nat → Nat} {k : Nat} (h : ¬ (goF n k).2 = 0 ∨ (goF n k).1 14 3 = 4) : ∀ j, goF n (k + j) = goF n k
  | 0 => rfl
  | j + 1 => by
    have ih := go_stop h j
    show goF n (k + j + 1) = _
    simp only [goF, ih]
    rcases h with h | h
    · rw [if_neg h]
    · rw [if_pos h]
      split <;> rfl
theorem go_256 {n : Nat → Nat → Nat} {k : Nat} (hk : k ≤ 256) (h : ¬ (goF n k).2 = 0 ∨ (goF n k).1 14 3 = 4) : goF n 256 = goF n k := by
  have := go_stop h (256 - k)
  rwa [show k + (256 - k) = 256 by omega] at this
theorem go_a {n : Nat → Nat → Nat} {k : Nat} (h : (goF n k).2 = 0) (h4 : ¬ (goF n k).1 14 3 = 4) (ha : ¬ (afF (goF n k).1 ((goF n k).1 14 3)).2 = 0) : goF n (k + 1) = afF (goF n k).1 ((goF n k).1 14 3) := by
  simp only [goF]
  rw [if_pos h, if_neg h4]
  unfold stF
  rw [if_neg ha]
theorem go_m {n : Nat → Nat → Nat} {k : Nat} (h : (goF n k).2 = 0) (h4 : ¬ (goF n k).1 14 3 = 4) (ha : (afF (goF n k).1 ((goF n k).1 14 3)).2 = 0) : goF n (k + 1) = mmF (goF n k).1 := by
  simp only [goF]
  rw [if_pos h, if_neg h4]
  unfold stF
  rw [if_pos ha]
/-- beginning -/
def kfF (n : Nat → Nat → Nat) : Nat → Nat → Nat → Nat
  | 0 => n
  | p + 1 => fiF (kfF n p) (25 + p) 4294967295 128
def bgF (n : Nat → Nat → Nat) (z t : Nat) : Nat → Nat → Nat := ku (kfF (ku (ku n 14 4 z) 14 5 t) 4) 14 3 0
/-- a question's number is well formed -/
def QI (n : Nat → Nat → Nat) (x : Nat) : Prop := 1 ≤ x ∧ x ≤ 512 ∧ n 29 (x - 1) < 2147483648 ∧ n 29 (x - 1) / 2 ^ 16 < 4 ∧ (n 29 (x - 1) / 2 ^ 8 &&& 255) ≤ (n 29 (x - 1) &&& 255) ∧ (n 29 (x - 1) &&& 255) ≤ n 14 5 ∧ n 14 5 ≤ 128
def pnF (n : Nat → Nat → Nat) (x : Nat) : Nat := parF (n 6) (n (20 + n 29 (x - 1) / 2 ^ 16)) (n 29 (x - 1) / 2 ^ 8 &&& 255) ((n 29 (x - 1) &&& 255) - (n 29 (x - 1) / 2 ^ 8 &&& 255))
def anF (n : Nat → Nat → Nat) (x : Nat) : Nat → Nat → Nat := sdF (ku n 14 2 (if n 14 2 < x then x else n 14 2)) 1 x (pnF n x)
def tkF (n : Nat → Nat → Nat) (k : Nat) : Nat → Nat → Nat := ku (shN n k (n 15 0 - 1 - k)) 15 0 (n 15 0 - 1)
theorem shN_o {n : Nat → Nat → Nat} {k x : Nat} (h : x ≠ 16 ∧ x ≠ 17 ∧ x ≠ 18) : ∀ i, shN n k i x = n x
  | 0 => rfl
  | i + 1 => by
    simp only [shN]
    rw [ku_row h.2.2, ku_row h.2.1, ku_row h.1]
    exact shN_o h i
theorem tk_o {n : Nat → Nat → Nat} {k x : Nat} (h : x ≠ 15 ∧ x ≠ 16 ∧ x ≠ 17 ∧ x ≠ 18) : tkF n k x = n x := by
  unfold tkF
  rw [ku_row h.1]
  exact shN_o h.2 _
/-- is the newest question unknown? -/
def unF (n : Nat → Nat → Nat) : Nat := if n (25 + n 29 (n 14 0 - 1) / 2 ^ 16) (n 14 1) = 4294967295 then 1 else 0
def lnF (n : Nat → Nat → Nat) (x : Nat) : Nat → Nat → Nat := ku n (25 + n 29 (n 14 0 - 1) / 2 ^ 16) (n 14 1) x
def dvF (n : Nat → Nat → Nat) (k : Nat) : Nat → Nat → Nat :=
  if n 16 k = 0 then anF (tkF n k) (n 17 k) else if n 17 k = n 14 0 then (if unF (tkF n k) = 0 then tkF n k else (goF (lnF (tkF n k) (n 18 k)) 256).1) else tkF n k
