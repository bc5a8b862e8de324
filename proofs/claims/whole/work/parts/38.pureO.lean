/-! pure words: the model's rows that stay -/
theorem cpM_o {n : Nat → Nat → Nat} {p x : Nat} (h : x ≠ 41) : ∀ i, cpM n p i x = n x
  | 0 => rfl
  | i + 1 => by simp only [cpM]; rw [ku_row h]; exact cpM_o h i
theorem soM_o {n : Nat → Nat → Nat} {z x : Nat} (h : x ≠ 41) (h2 : x ≠ 39) : ∀ p, soM n z p x = n x
  | 0 => rfl
  | p + 1 => by simp only [soM]; rw [cpM_o h, shuF_o h2]; exact soM_o h h2 p
theorem drM_o {n : Nat → Nat → Nat} {z x : Nat} (h : x ≠ 50) : ∀ k, (drM n z k).1 x = n x
  | 0 => rfl
  | k + 1 => by simp only [drM]; rw [ku_row h]; exact drM_o h k
theorem kbM_o {n : Nat → Nat → Nat} {t q j x : Nat} (h : x ≠ 49) : ∀ k, kbM n t q j k x = n x
  | 0 => rfl
  | k + 1 => by simp only [kbM]; rw [ku_row h]; exact kbM_o h k
theorem kaM_o {n : Nat → Nat → Nat} {t q x : Nat} (h : x ≠ 49) : ∀ k, kaM n t q k x = n x
  | 0 => rfl
  | k + 1 => by simp only [kaM]; rw [kbM_o h]; exact kaM_o h k
theorem NB_cpM {n : Nat → Nat → Nat} {p : Nat} (h : NB n) : ∀ i, NB (cpM n p i)
  | 0 => h
  | i + 1 => NB_ku (NB_cpM h i) (NB_cpM h i _ _)
theorem NB_soM {n : Nat → Nat → Nat} {z : Nat} (h : NB n) : ∀ p, NB (soM n z p)
  | 0 => h
  | p + 1 => NB_cpM (NB_shuF (NB_soM h p) (Nat.le_of_lt (h _ _))) _
def w3F (x y z : Nat) : Nat := (((((x + 4294967296 - y) % 4294967296) + 4294967296 - z) % 4294967296) + 4294967296 - 16) % 4294967296
