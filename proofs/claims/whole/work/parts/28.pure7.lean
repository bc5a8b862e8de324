/-! pure words: KeyDistiller's own methods -/
theorem flF_o {n : Nat → Nat → Nat} {q x : Nat} (h : x ≠ q) : ∀ k, flF n q k x = n x
  | 0 => rfl
  | k + 1 => by simp only [flF]; rw [ku_row h]; exact flF_o h k
theorem fiF_o {n : Nat → Nat → Nat} {q v x : Nat} (h : x ≠ q) : ∀ k, fiF n q v k x = n x
  | 0 => rfl
  | k + 1 => by simp only [fiF]; rw [ku_row h]; exact fiF_o h k
theorem swP_o {n : Nat → Nat → Nat} {q z t x : Nat} (h : x ≠ q) : ∀ k, (swP n q z t k).1 x = n x
  | 0 => flF_o h t
  | k + 1 => by simp only [swP]; rw [ku_row h, ku_row h]; exact swP_o h k
theorem lvP_o {n : Nat → Nat → Nat} {c q x : Nat} (h : x ≠ c) : ∀ k, (lvP n c q k).1 x = n x
  | 0 => rfl
  | k + 1 => by
    simp only [lvP]
    split
    · show ku _ c _ _ x = n x
      rw [ku_row h]; exact lvP_o h k
    · exact lvP_o h k
def shuF (n : Nat → Nat → Nat) (q z t : Nat) : Nat → Nat → Nat := if t = 0 then n else (swP n q z t (t - 1)).1
def shuS (n : Nat → Nat → Nat) (q z t : Nat) : Nat := if t = 0 then z else (swP n q z t (t - 1)).2
theorem shuF_o {n : Nat → Nat → Nat} {q z t x : Nat} (h : x ≠ q) : shuF n q z t x = n x := by
  unfold shuF
  split
  · rfl
  · exact swP_o h _
def smP (n : Nat → Nat → Nat) : Nat → (Nat → Nat → Nat) × Nat
  | 0 => (n, 0)
  | i + 1 => (ku (smP n i).1 31 ((smP n i).1 30 i) 1, (smP n i).2 + (ku (smP n i).1 31 ((smP n i).1 30 i) 1 6 ((smP n i).1 30 i) ^^^ ku (smP n i).1 31 ((smP n i).1 30 i) 1 12 ((smP n i).1 30 i)))
theorem smP_o {n : Nat → Nat → Nat} {x : Nat} (h : x ≠ 31) : ∀ k, (smP n k).1 x = n x
  | 0 => rfl
  | k + 1 => by simp only [smP]; rw [ku_row h]; exact smP_o h k
theorem smP_d {n : Nat → Nat → Nat} (h6 : ∀ i, n 6 i < 2) (h12 : ∀ i, n 12 i < 2) : ∀ k, (smP n k).2 ≤ k
  | 0 => Nat.le_refl _
  | k + 1 => by
    have ih := smP_d h6 h12 k
    simp only [smP]
    rw [show ku (smP n k).1 31 ((smP n k).1 30 k) 1 6 = n 6 from by rw [ku_row (by decide), smP_o (by decide)], show ku (smP n k).1 31 ((smP n k).1 30 k) 1 12 = n 12 from by rw [ku_row (by decide), smP_o (by decide)]]
    have := kx1 (h6 ((smP n k).1 30 k)) (h12 ((smP n k).1 30 k))
    omega
/-- sampling: behind the shuffle and the marks -/
def sa0 (n : Nat → Nat → Nat) (z k : Nat) : (Nat → Nat → Nat) × Nat := smP (fiF (shuF n 30 z (n 0 0)) 31 0 128) k
def sa1 (n : Nat → Nat → Nat) (z k : Nat) : Nat → Nat → Nat := (lvP (lvP (sa0 n z k).1 6 31 (n 0 0)).1 12 31 (n 0 0)).1
def saF (n : Nat → Nat → Nat) (z k : Nat) : Nat → Nat → Nat := ku (ku (ku (sa1 n z k) 0 0 (n 0 0 - k)) 0 1 (n 0 1 + k)) 0 2 (n 0 2 + (sa0 n z k).2)
theorem sa0_o {n : Nat → Nat → Nat} {z k x : Nat} (h : x ≠ 31 ∧ x ≠ 30) : (sa0 n z k).1 x = n x := by
  unfold sa0
  rw [smP_o h.1, fiF_o h.1, shuF_o h.2]
theorem sa1_o {n : Nat → Nat → Nat} {z k x : Nat} (h : x ≠ 31 ∧ x ≠ 30 ∧ x ≠ 6 ∧ x ≠ 12) : sa1 n z k x = n x := by
  unfold sa1
  rw [lvP_o h.2.2.2, lvP_o h.2.2.1, sa0_o ⟨h.1, h.2.1⟩]
/-- all numbers are ints -/
def NB (n : Nat → Nat → Nat) : Prop := ∀ i j, n i j < 4294967296
theorem NB_ku {n : Nat → Nat → Nat} {i j v : Nat} (h : NB n) (hv : v < 4294967296) : NB (ku n i j v) := by
  intro x y
  unfold ku
  split
  · split
    · exact hv
    · exact h x y
  · exact h x y
theorem NB_fiF {n : Nat → Nat → Nat} {q v : Nat} (h : NB n) (hv : v < 4294967296) : ∀ k, NB (fiF n q v k)
  | 0 => h
  | k + 1 => NB_ku (NB_fiF h hv k) hv
theorem NB_flF {n : Nat → Nat → Nat} {q : Nat} (h : NB n) : ∀ k, k ≤ 4294967296 → NB (flF n q k)
  | 0, _ => h
  | k + 1, hk => NB_ku (NB_flF h k (by omega)) (by omega)
theorem NB_swP {n : Nat → Nat → Nat} {q z t : Nat} (h : NB n) (ht : t ≤ 4294967296) : ∀ k, NB (swP n q z t k).1
  | 0 => NB_flF h t ht
  | k + 1 => NB_ku (NB_ku (NB_swP h ht k) (NB_swP h ht k _ _)) (NB_swP h ht k _ _)
theorem NB_shuF {n : Nat → Nat → Nat} {q z t : Nat} (h : NB n) (ht : t ≤ 4294967296) : NB (shuF n q z t) := by
  unfold shuF
  split
  · exact h
  · exact NB_swP h ht _
theorem NB_smP {n : Nat → Nat → Nat} (h : NB n) : ∀ k, NB (smP n k).1
  | 0 => h
  | k + 1 => NB_ku (NB_smP h k) (by decide)
theorem NB_lvP {n : Nat → Nat → Nat} {c q : Nat} (h : NB n) : ∀ k, NB (lvP n c q k).1
  | 0 => h
  | k + 1 => by
    simp only [lvP]
    split
    · exact NB_ku (NB_lvP h k) (NB_lvP h k _ _)
    · exact NB_lvP h k
theorem NB_sa0 {n : Nat → Nat → Nat} {z k : Nat} (h : NB n) : NB (sa0 n z k).1 := NB_smP (NB_fiF (NB_shuF h (Nat.le_of_lt (h _ _))) (by decide) _) _
/-- starting: the four orders -/
def stO (n : Nat → Nat → Nat) (z : Nat) : Nat → Nat → Nat → Nat
  | 0 => n
  | p + 1 => shuF (stO n z p) (20 + p) (z + p) (n 0 0)
def stS (n : Nat → Nat → Nat) (s z : Nat) : Nat → Nat
  | 0 => s
  | p + 1 => shuS (stO n z p) (20 + p) (z + p) (n 0 0)
theorem stO_o {n : Nat → Nat → Nat} {z x : Nat} (h : ∀ p, p < 4 → x ≠ 20 + p) : ∀ k, k ≤ 4 → stO n z k x = n x
  | 0, _ => rfl
  | k + 1, hk => by simp only [stO]; rw [shuF_o (h k (by omega))]; exact stO_o h k (by omega)
/-- the pulses that are kept -/
def kpF (n : Nat → Nat → Nat) (k : Nat) : Nat := if n 2 k = 0 then 0 else if n 8 k = 0 then 0 else if n 11 k = 1 then (if n 3 k = n 9 k then 1 else 0) else 0
theorem kpF_lt (n : Nat → Nat → Nat) (k : Nat) : kpF n k < 2 := by
  unfold kpF
  split; · decide
  split; · decide
  split
  · split <;> decide
  · decide
def siP (n : Nat → Nat → Nat) : Nat → (Nat → Nat → Nat) × Nat
  | 0 => (n, 0)
  | k + 1 => if kpF (siP n k).1 k = 0 then siP n k else (ku (ku (siP n k).1 6 (siP n k).2 ((siP n k).1 4 k)) 12 (siP n k).2 (ku (siP n k).1 6 (siP n k).2 ((siP n k).1 4 k) 10 k), (siP n k).2 + 1)
theorem siP_le (n : Nat → Nat → Nat) : ∀ k, (siP n k).2 ≤ k
  | 0 => Nat.le_refl _
  | k + 1 => by
    have := siP_le n k
    simp only [siP]
    split
    · omega
    · show (siP n k).2 + 1 ≤ k + 1; omega
def siF (n : Nat → Nat → Nat) : Nat → Nat → Nat := ku (siP n 128).1 0 0 (siP n 128).2
theorem NB_siP {n : Nat → Nat → Nat} (h : NB n) : ∀ k, NB (siP n k).1
  | 0 => h
  | k + 1 => by
    have ih := NB_siP h k
    simp only [siP]
    split
    · exact ih
    · exact NB_ku (NB_ku ih (ih _ _)) (NB_ku ih (ih _ _) _ _)
/-- key bits -/
def kyF (str dr : Nat → Nat) (q : Nat) : Nat → Nat
  | 0 => 0
  | k + 1 => kyF str dr q k ^^^ (str k &&& dr (k + q))
/-- drawing the key's bits -/
def drP (n : Nat → Nat → Nat) (z : Nat) : Nat → (Nat → Nat → Nat) × Nat
  | 0 => (n, z)
  | k + 1 => (ku (drP n z k).1 32 k (advF (drP n z k).2 / 2 ^ 63), advF (drP n z k).2)
theorem drP_o {n : Nat → Nat → Nat} {z x : Nat} (h : x ≠ 32) : ∀ k, (drP n z k).1 x = n x
  | 0 => rfl
  | k + 1 => by simp only [drP]; rw [ku_row h]; exact drP_o h k
/-- what a letter tells -/
def tlF (n : Nat → Nat → Nat) (k x : Nat) : Nat :=
  if x = 0 then n 16 k else if x = 1 then n 17 k else if x = 2 then (if n 16 k = 0 then n 29 (n 17 k - 1) / 2 ^ 16 else n 18 k) else if x = 3 then (if n 16 k = 0 then n 29 (n 17 k - 1) / 2 ^ 8 &&& 255 else 4294967295) else if x = 4 then (if n 16 k = 0 then n 29 (n 17 k - 1) &&& 255 else 4294967295) else 4294967295
theorem noteF_o {n : Nat → Nat → Nat} {o f b v z x : Nat} (h : x ≠ o + 1 ∧ x ≠ o + 2 ∧ x ≠ o + 3 ∧ x ≠ o + 4) : ∀ k, noteF n o f b v z k x = n x
  | 0 => rfl
  | k + 1 => by simp only [noteF]; rw [ku_row h.2.2.2, ku_row h.2.2.1, ku_row h.2.1, ku_row h.1]; exact noteF_o h k
theorem kn_sw2 {x : Int} (h0 : ¬ x = 0) (h1 : ¬ x = 1) : Op.lookupswitch.offset (#[((0 : Int), (27 : Int)), (1, 32)]).toList 37 x = 37 := by
  have e0 : ¬ (0 : Int) = x := fun q => h0 q.symm
  have e1 : ¬ (1 : Int) = x := fun q => h1 q.symm
  simp [Op.lookupswitch.offset, h0, h1, e0, e1]
theorem tagF_lt {r : Nat → Nat} {x t : Nat} (hx : x < 65536) : tagF r x t < 65536 := smF_lt hx _ 16
