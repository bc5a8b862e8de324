/-! pure: ranges by their marks, parities, distances -/
def dsc (m : Nat) : Nat → Nat × Nat → Nat × Nat
  | 0, w => w
  | k + 1, w => if m = mdF w then w else if m < mdF w then dsc m k (w.1, mdF w) else dsc m k (mdF w, w.2)
def beR (z t p f : Nat) : Nat := if t < f + z * 2 ^ p then t else f + z * 2 ^ p
/-- the range that a mark stands for: a block by its first place, a half by its end -/
def rngF (z t p m : Nat) : Nat × Nat := if m % (z * 2 ^ p) = 0 then (m, beR z t p m) else ((dsc m 128 (m / (z * 2 ^ p) * (z * 2 ^ p), beR z t p (m / (z * 2 ^ p) * (z * 2 ^ p)))).1, m)
theorem rng_block {z t p k : Nat} : rngF z t p (k * (z * 2 ^ p)) = (k * (z * 2 ^ p), beR z t p (k * (z * 2 ^ p))) := by
  unfold rngF
  rw [if_pos (Nat.mul_mod_left _ _)]
theorem bs4 {z : Nat} (h : 4 ≤ z) (p : Nat) : 4 ≤ z * 2 ^ p := by
  have : 0 < 2 ^ p := Nat.two_pow_pos p
  calc 4 ≤ z * 1 := by omega
    _ ≤ z * 2 ^ p := Nat.mul_le_mul_left _ this
theorem beR_gt {z t p f : Nat} (hz : 4 ≤ z) (h : f < t) : f < beR z t p f := by
  have h1 := bs4 hz p
  unfold beR
  split <;> omega
theorem beR_le {z t p f : Nat} : beR z t p f ≤ t := by
  unfold beR
  split <;> omega
theorem beR_bs {z t p f : Nat} : beR z t p f ≤ f + z * 2 ^ p := by
  unfold beR
  split <;> omega
/-- inside a block no place is a block's first -/
theorem in_blk {z p k m : Nat} (h1 : k * (z * 2 ^ p) < m) (h2 : m < k * (z * 2 ^ p) + z * 2 ^ p) : ¬ m % (z * 2 ^ p) = 0 ∧ m / (z * 2 ^ p) = k := by
  have hd : m / (z * 2 ^ p) = k := by
    apply Nat.div_eq_of_lt_le
    · omega
    · rw [Nat.add_mul, Nat.one_mul]; exact h2
  refine ⟨fun h => ?_, hd⟩
  have h3 := Nat.div_add_mod m (z * 2 ^ p)
  rw [hd, h, Nat.mul_comm] at h3
  omega
/-- a way down: each step takes the left or the right half -/
def stepD (w v : Nat × Nat) : Prop := v = (w.1, mdF w) ∨ v = (mdF w, w.2)
theorem dsc_path {w : Nat → Nat × Nat} {k : Nat} (hk : k ≤ 128) (hs : ∀ i, i < k → ¬ (w i).2 - (w i).1 ≤ 1 ∧ stepD (w i) (w (i + 1))) : ∀ i, i ≤ k → ∀ m, (w i).1 < m → m < (w i).2 → dsc m 128 (w 0) = dsc m (128 - i) (w i)
  | 0, _, m, _, _ => rfl
  | i + 1, hi, m, h1, h2 => by
    obtain ⟨hg, hst⟩ := hs i (by omega)
    have hm := md_in hg
    have e : 128 - i = (128 - (i + 1)) + 1 := by omega
    rcases hst with h | h
    · rw [h] at h1 h2
      have ih := dsc_path hk hs i (by omega) m h1 (by have h2' : m < mdF (w i) := h2; omega)
      rw [ih, e, h]
      simp only [dsc]
      rw [if_neg (by have h2' : m < mdF (w i) := h2; omega), if_pos h2]
    · rw [h] at h1 h2
      have ih := dsc_path hk hs i (by omega) m (by have h1' : mdF (w i) < m := h1; omega) h2
      rw [ih, e, h]
      simp only [dsc]
      rw [if_neg (by have h1' : mdF (w i) < m := h1; omega), if_neg (by have h1' : mdF (w i) < m := h1; omega)]
theorem dsc_mid {w : Nat → Nat × Nat} {k : Nat} (hk : k < 128) (hs : ∀ i, i < k → ¬ (w i).2 - (w i).1 ≤ 1 ∧ stepD (w i) (w (i + 1))) (hg : ¬ (w k).2 - (w k).1 ≤ 1) : dsc (mdF (w k)) 128 (w 0) = w k := by
  have hm := md_in hg
  rw [dsc_path (Nat.le_of_lt hk) hs k (Nat.le_refl _) _ hm.1 hm.2, show 128 - k = (127 - k) + 1 by omega]
  simp only [dsc]
  rw [if_true]
/-- the range of a half's mark -/
theorem rng_mid {z t p b k : Nat} {w : Nat → Nat × Nat} (h0 : w 0 = (b * (z * 2 ^ p), beR z t p (b * (z * 2 ^ p)))) (hk : k < 128) (hs : ∀ i, i < k → ¬ (w i).2 - (w i).1 ≤ 1 ∧ stepD (w i) (w (i + 1))) (hg : ¬ (w k).2 - (w k).1 ≤ 1) (hin : (w 0).1 ≤ (w k).1 ∧ (w k).2 ≤ (w 0).2) : rngF z t p (mdF (w k)) = ((w k).1, mdF (w k)) := by
  have hm := md_in hg
  have hb := beR_bs (z := z) (t := t) (p := p) (f := b * (z * 2 ^ p))
  rw [h0] at hin
  obtain ⟨hin1, hin2⟩ := hin
  have hin1 : b * (z * 2 ^ p) ≤ (w k).1 := hin1
  have hin2 : (w k).2 ≤ beR z t p (b * (z * 2 ^ p)) := hin2
  obtain ⟨h1, h2⟩ := in_blk (z := z) (p := p) (k := b) (m := mdF (w k)) (by omega) (by omega)
  unfold rngF
  rw [if_neg h1, h2, ← h0, dsc_mid hk hs hg]
/-- what a range has of its mark -/
theorem rng_to {z t p m : Nat} (h : ¬ m % (z * 2 ^ p) = 0) : (rngF z t p m).2 = m := by
  unfold rngF
  rw [if_neg h]
theorem rng_inj {z t p m m' : Nat} (hz : 4 ≤ z) (hm : m < t) (hm' : m' < t) (h : rngF z t p m = rngF z t p m') : m = m' := by
  by_cases h1 : m % (z * 2 ^ p) = 0 <;> by_cases h2 : m' % (z * 2 ^ p) = 0
  · unfold rngF at h
    rw [if_pos h1, if_pos h2] at h
    exact congrArg Prod.fst h
  · exfalso
    have e2 := rng_to (t := t) h2
    rw [← h] at e2
    unfold rngF at e2
    rw [if_pos h1] at e2
    have e2 : beR z t p m = m' := e2
    unfold beR at e2
    split at e2
    · omega
    · rw [← e2, Nat.add_mod_right] at h2
      exact h2 h1
  · exfalso
    have e1 := rng_to (t := t) h1
    rw [h] at e1
    unfold rngF at e1
    rw [if_pos h2] at e1
    have e1 : beR z t p m' = m := e1
    unfold beR at e1
    split at e1
    · omega
    · rw [← e1, Nat.add_mod_right] at h1
      exact h1 h2
  · have e1 := rng_to (t := t) h1
    have e2 := rng_to (t := t) h2
    rw [← e1, h, e2]
theorem parF_eq {s s' o o' : Nat → Nat} {f : Nat} : ∀ k, (∀ i, f ≤ i → i < f + k → s (o i) = s' (o' i)) → parF s o f k = parF s' o' f k
  | 0, _ => rfl
  | k + 1, h => by
    simp only [parF]
    rw [parF_eq k (fun i h1 h2 => h i h1 (by omega)), h (f + k) (by omega) (by omega)]
theorem parF_add {s o : Nat → Nat} {f j : Nat} : ∀ k, parF s o f (j + k) = parF s o f j ^^^ parF s o (f + j) k
  | 0 => by show _ = parF s o f j ^^^ 0; rw [Nat.xor_zero]; rfl
  | k + 1 => by
    show parF s o f (j + k) ^^^ s (o (f + (j + k))) = parF s o f j ^^^ (parF s o (f + j) k ^^^ s (o (f + j + k)))
    rw [parF_add k, Nat.xor_assoc, Nat.add_assoc]
theorem parF_1 {s o : Nat → Nat} {f : Nat} : parF s o f 1 = s (o f) := by
  show 0 ^^^ s (o (f + 0)) = _
  rw [Nat.zero_xor, Nat.add_zero]
/-- how many of the first k places differ -/
def hamF (s s' : Nat → Nat) : Nat → Nat
  | 0 => 0
  | k + 1 => if s k = s' k then hamF s s' k else hamF s s' k + 1
theorem hamF_le (s s' : Nat → Nat) : ∀ k, hamF s s' k ≤ k
  | 0 => Nat.le_refl _
  | k + 1 => by
    have ih := hamF_le s s' k
    simp only [hamF]
    split <;> omega
theorem hamF_out {s s' r : Nat → Nat} {x : Nat} (h : ∀ i, i ≠ x → s' i = r i) : ∀ k, k ≤ x → hamF s s' k = hamF s r k
  | 0, _ => rfl
  | k + 1, hk => by
    simp only [hamF]
    rw [hamF_out h k (by omega), h k (by omega)]
theorem hamF_flip {s s' r : Nat → Nat} {x : Nat} (h : ∀ i, i ≠ x → s' i = r i) (h1 : ¬ s x = s' x) (h2 : s x = r x) : ∀ k, x < k → hamF s r k + 1 = hamF s s' k
  | 0, hk => absurd hk (by omega)
  | k + 1, hk => by
    simp only [hamF]
    by_cases hx : x = k
    · subst hx
      rw [if_neg h1, if_pos h2, hamF_out h x (Nat.le_refl _)]
    · have ih := hamF_flip h h1 h2 k (by omega)
      rw [h k (fun q => hx q.symm)]
      split <;> omega
theorem kx_flip {x : Nat} (h : x < 2) : x ^^^ 1 = 1 - x := by
  rcases (show x = 0 ∨ x = 1 by omega) with rfl | rfl <;> decide
