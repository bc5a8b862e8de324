/-! pure: a round of the dialogue, in the class and in the model -/
/-- a question's row -/
def QW (n m : Nat → Nat → Nat) (q : Nat) : Prop := m 42 q < 4 ∧ m 43 q < m 44 q ∧ m 44 q ≤ n 14 5 ∧ n 29 (q - 1) = (m 42 q * 2 ^ 16 ||| m 43 q * 2 ^ 8 ||| m 44 q)
def R5 (n m : Nat → Nat → Nat) : Prop := ∀ q, 1 ≤ q → q ≤ n 14 0 → QW n m q
/-- the true parity of a question -/
def tq (n m : Nat → Nat → Nat) (q : Nat) : Nat := parF (n 6) (n (20 + m 42 q)) (m 43 q) (m 44 q - m 43 q)
def R6 (n m : Nat → Nat → Nat) : Prop := ∀ i, i < n 15 0 → n 16 i = m 46 i ∧ n 17 i = m 47 i ∧ n 18 i = m 48 i ∧ n 16 i < 2 ∧ 1 ≤ n 17 i ∧ n 17 i ≤ n 14 0 ∧ n 18 i < 2 ∧ (n 16 i = 1 → n 18 i = tq n m (n 17 i))
def R7 (n m : Nat → Nat → Nat) : Prop := 1 ≤ n 14 0 → n 14 1 < n 14 5 ∧ rgN n (m 42 (n 14 0)) (n 14 1) = (m 43 (n 14 0), m 44 (n 14 0))
def R8 (n m : Nat → Nat → Nat) : Prop := m 33 9 ≤ m 33 8 ∧ m 33 8 ≤ m 33 9 + 1 ∧ (m 33 9 < m 33 8 → n (25 + m 42 (n 14 0)) (n 14 1) = 4294967295)
def R9 (m : Nat → Nat → Nat) : Prop := ∀ q, 1 ≤ q → q ≤ m 33 9 → m 45 q < 2
def RB (m : Nat → Nat → Nat) : Prop := (∀ i, m 38 i < 2) ∧ (∀ i, m 46 i < 2)
def RX (n m : Nat → Nat → Nat) : Prop := DX n ∧ R1 n m ∧ R2 n m ∧ R3 n m ∧ R4 n m ∧ R5 n m ∧ R6 n m ∧ R7 n m ∧ R8 n m ∧ R9 m ∧ RB m ∧ n 14 2 ≤ n 14 0 ∧ NB n ∧ NB m ∧ BK n
theorem sd_o {n : Nat → Nat → Nat} {x y z r : Nat} (h : r ≠ 15 ∧ r ≠ 16 ∧ r ≠ 17 ∧ r ≠ 18) : sdF n x y z r = n r := by
  unfold sdF sdG
  split
  · rfl
  · rw [ku_row h.1, ku_row h.2.2.2, ku_row h.2.2.1, ku_row h.2.1]
theorem sdM_o {m : Nat → Nat → Nat} {x y z r : Nat} (h : r ≠ 33 ∧ r ≠ 46 ∧ r ≠ 47 ∧ r ≠ 48) : sdM m x y z r = m r := by
  unfold sdM sdMG
  split
  · rfl
  · rw [ku_row h.1, ku_row h.2.2.2, ku_row h.2.2.1, ku_row h.2.1]
theorem sdM_33 {m : Nat → Nat → Nat} {x y z j : Nat} (h : j ≠ 11) : sdM m x y z 33 j = m 33 j := by
  unfold sdM sdMG
  split
  · rfl
  · rw [ku_m h]; rfl
theorem NB_sd {n : Nat → Nat → Nat} {x y z : Nat} (h : NB n) (hx : x < 4294967296) (hy : y < 4294967296) (hz : z < 4294967296) (hc : n 15 0 ≤ 16) : NB (sdF n x y z) := by
  unfold sdF sdG
  split
  · exact h
  · exact NB_ku (NB_ku (NB_ku (NB_ku h hx) hy) hz) (by omega)
theorem NB_sdM {m : Nat → Nat → Nat} {x y z : Nat} (h : NB m) (hx : x < 4294967296) (hy : y < 4294967296) (hz : z < 4294967296) (hc : m 33 11 ≤ 16) : NB (sdM m x y z) := by
  unfold sdM sdMG
  split
  · exact h
  · exact NB_ku (NB_ku (NB_ku (NB_ku h hx) hy) hz) (by omega)
/-- sending a letter on both sides -/
theorem R6_sd {n m : Nat → Nat → Nat} {x y z : Nat} (h6 : R6 n m) (h11 : m 33 11 = n 15 0) (hc : n 15 0 ≤ 16) (hx : x < 2) (hy : 1 ≤ y ∧ y ≤ n 14 0) (hz : z < 2) (ht : x = 1 → z = tq n m y) : R6 (sdF n x y z) (sdM m x y z) ∧ sdM m x y z 33 11 = sdF n x y z 15 0 ∧ sdF n x y z 15 0 ≤ 16 := by
  have e14 : sdF n x y z 14 = n 14 := sd_o (by decide)
  have etq : ∀ q, tq (sdF n x y z) (sdM m x y z) q = tq n m q := fun q => by
    unfold tq
    rw [sdM_o (r := 42) (by decide), sdM_o (r := 43) (by decide), sdM_o (r := 44) (by decide), sd_o (r := 6) (by decide)]
    by_cases hq : 20 + m 42 q = 15 ∨ 20 + m 42 q = 16 ∨ 20 + m 42 q = 17 ∨ 20 + m 42 q = 18
    · omega
    · rw [sd_o (r := 20 + m 42 q) (by omega)]
  by_cases hf : n 15 0 = 16
  · have e1 : sdF n x y z = n := by unfold sdF; rw [if_pos hf]
    have e2 : sdM m x y z = m := by unfold sdM; rw [if_pos (h11.trans hf)]
    rw [e1, e2]
    exact ⟨h6, h11, hc⟩
  · have e1 : sdF n x y z = sdG n x y z := by unfold sdF; rw [if_neg hf]
    have e2 : sdM m x y z = sdMG m x y z := by unfold sdM; rw [if_neg (by rw [h11]; exact hf)]
    have c1 : sdF n x y z 15 0 = n 15 0 + 1 := by rw [e1]; unfold sdG; exact ku_s _ _ _ _
    have c2 : sdM m x y z 33 11 = m 33 11 + 1 := by rw [e2]; unfold sdMG; exact ku_s _ _ _ _
    refine ⟨?_, by rw [c1, c2, h11], by omega⟩
    intro i hi
    rw [c1] at hi
    rw [etq, e14, e1, e2]
    have r16 : sdG n x y z 16 i = if i = n 15 0 then x else n 16 i := by
      unfold sdG
      rw [ku_n (by decide), ku_n (by decide), ku_n (by decide)]
      simp [ku]
    have r17 : sdG n x y z 17 i = if i = n 15 0 then y else n 17 i := by
      unfold sdG
      rw [ku_n (by decide), ku_n (by decide)]
      simp [ku]
    have r18 : sdG n x y z 18 i = if i = n 15 0 then z else n 18 i := by
      unfold sdG
      rw [ku_n (by decide)]
      simp [ku]
    have s46 : sdMG m x y z 46 i = if i = n 15 0 then x else m 46 i := by
      unfold sdMG
      rw [ku_n (by decide), ku_n (by decide), ku_n (by decide), h11]
      simp [ku]
    have s47 : sdMG m x y z 47 i = if i = n 15 0 then y else m 47 i := by
      unfold sdMG
      rw [ku_n (by decide), ku_n (by decide), h11]
      simp [ku]
    have s48 : sdMG m x y z 48 i = if i = n 15 0 then z else m 48 i := by
      unfold sdMG
      rw [ku_n (by decide), h11]
      simp [ku]
    rw [r16, r17, r18, s46, s47, s48]
    by_cases hin : i = n 15 0
    · simp only [if_pos hin]
      exact ⟨trivial, trivial, trivial, hx, hy.1, hy.2, hz, ht⟩
    · simp only [if_neg hin]
      exact h6 i (by omega)
theorem sdM_46 {m : Nat → Nat → Nat} {x y z : Nat} (h : ∀ i, m 46 i < 2) (hx : x < 2) : ∀ i, sdM m x y z 46 i < 2 := by
  intro i
  unfold sdM sdMG
  split
  · exact h i
  · rw [ku_n (by decide), ku_n (by decide), ku_n (by decide)]
    simp only [ku, if_true]
    split
    · exact hx
    · exact h i
