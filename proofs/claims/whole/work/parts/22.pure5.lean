/-! pure words: asking, searching, going on -/
def akH (n : Nat → Nat → Nat) (q f t mk : Nat) : Nat → Nat → Nat := sdF (akG n q f t mk) 0 (n 14 0 + 1) 0
/-- the first of the first k blocks whose mark is unknown -/
def fbF (r : Nat → Nat) (b : Nat) : Nat → Option Nat
  | 0 => none
  | k + 1 => match fbF r b k with
    | some j => some j
    | none => if r (k * b) = 4294967295 then some k else none
theorem fb_none {r : Nat → Nat} {b k : Nat} (h : fbF r b k = none) (h2 : ¬ r (k * b) = 4294967295) : fbF r b (k + 1) = none := by
  simp only [fbF, h]
  rw [if_neg h2]
theorem fb_hit {r : Nat → Nat} {b k : Nat} (h : fbF r b k = none) (h2 : r (k * b) = 4294967295) : fbF r b (k + 1) = some k := by
  simp only [fbF, h]
  rw [if_pos h2]
theorem fb_up {r : Nat → Nat} {b k j : Nat} (h : fbF r b k = some j) : ∀ i, fbF r b (k + i) = some j
  | 0 => h
  | i + 1 => by
    show fbF r b (k + i + 1) = some j
    simp only [fbF, fb_up h i]
theorem fb_at {r : Nat → Nat} {b k t : Nat} (hk : k < t) (h : fbF r b k = none) (h2 : r (k * b) = 4294967295) : fbF r b t = some k := by
  have := fb_up (fb_hit h h2) (t - (k + 1))
  rwa [show k + 1 + (t - (k + 1)) = t by omega] at this
def afF (n : Nat → Nat → Nat) (q : Nat) : (Nat → Nat → Nat) × Nat := match fbF (n (25 + q)) (n 14 4 * 2 ^ q) (bcF n q) with
  | some b => (akH n q (b * (n 14 4 * 2 ^ q)) (beF n q (b * (n 14 4 * 2 ^ q))) (b * (n 14 4 * 2 ^ q)), 1)
  | none => (n, 0)
theorem af_some {n : Nat → Nat → Nat} {q b : Nat} (h : fbF (n (25 + q)) (n 14 4 * 2 ^ q) (bcF n q) = some b) : afF n q = (akH n q (b * (n 14 4 * 2 ^ q)) (beF n q (b * (n 14 4 * 2 ^ q))) (b * (n 14 4 * 2 ^ q)), 1) := by
  unfold afF; rw [h]
theorem af_none {n : Nat → Nat → Nat} {q : Nat} (h : fbF (n (25 + q)) (n 14 4 * 2 ^ q) (bcF n q) = none) : afF n q = (n, 0) := by
  unfold afF; rw [h]
theorem blk_lt {n : Nat → Nat → Nat} {q b : Nat} (ht : 4 ≤ n 14 5) (h : b < bcF n q) : b * (n 14 4 * 2 ^ q) < n 14 5 := by
  unfold bcF at h
  have h1 : b ≤ (n 14 5 - 1) / (n 14 4 * 2 ^ q) := by omega
  have h2 := Nat.mul_le_mul_right (n 14 4 * 2 ^ q) h1
  have h3 := Nat.div_mul_le_self (n 14 5 - 1) (n 14 4 * 2 ^ q)
  omega
/-- the smallest odd block: found, and how many places -/
def sbF (n : Nat → Nat → Nat) (q : Nat) (z : Nat × Nat) : Nat → Nat × Nat
  | 0 => z
  | b + 1 => if beF n q (b * (n 14 4 * 2 ^ q)) - b * (n 14 4 * 2 ^ q) < (sbF n q z b).2 then (if odF n q (b * (n 14 4 * 2 ^ q)) (beF n q (b * (n 14 4 * 2 ^ q))) (b * (n 14 4 * 2 ^ q)) = 0 then sbF n q z b else (q * 128 + b * (n 14 4 * 2 ^ q), beF n q (b * (n 14 4 * 2 ^ q)) - b * (n 14 4 * 2 ^ q))) else sbF n q z b
def soF (n : Nat → Nat → Nat) : Nat → Nat × Nat
  | 0 => (4294967295, 129)
  | q + 1 => sbF n q (soF n q) (bcF n q)
theorem be_gt {n : Nat → Nat → Nat} {q f : Nat} (hz : 4 ≤ n 14 4) (h : f < n 14 5) : f < beF n q f := by
  unfold beF
  have := bs_pos (n := n) (p := q) hz
  split <;> omega
theorem be_le {n : Nat → Nat → Nat} {q f : Nat} : beF n q f ≤ n 14 5 := by
  unfold beF
  split <;> omega
theorem sb_ok {n : Nat → Nat → Nat} {q : Nat} {z : Nat × Nat} (hq : q < 4) (ht : 4 ≤ n 14 5) (ht2 : n 14 5 ≤ 128) (hz : z.1 = 4294967295 ∨ z.1 < 512) (hz2 : z.2 ≤ 129) : ∀ b, b ≤ bcF n q → ((sbF n q z b).1 = 4294967295 ∨ (sbF n q z b).1 < 512) ∧ (sbF n q z b).2 ≤ 129
  | 0, _ => ⟨hz, hz2⟩
  | b + 1, hb => by
    have ih := sb_ok hq ht ht2 hz hz2 b (by omega)
    have h1 := blk_lt (n := n) (q := q) (b := b) ht (by omega)
    have h2 := be_le (n := n) (q := q) (f := b * (n 14 4 * 2 ^ q))
    unfold sbF
    split
    · split
      · exact ih
      · refine ⟨Or.inr ?_, ?_⟩
        · show q * 128 + b * (n 14 4 * 2 ^ q) < 512
          omega
        · show beF n q (b * (n 14 4 * 2 ^ q)) - b * (n 14 4 * 2 ^ q) ≤ 129
          omega
    · exact ih
theorem so_ok {n : Nat → Nat → Nat} (ht : 4 ≤ n 14 5) (ht2 : n 14 5 ≤ 128) : ∀ q, q ≤ 4 → ((soF n q).1 = 4294967295 ∨ (soF n q).1 < 512) ∧ (soF n q).2 ≤ 129
  | 0, _ => ⟨Or.inl rfl, Nat.le_refl _⟩
  | q + 1, hq => sb_ok (by omega) ht ht2 (so_ok ht ht2 q (by omega)).1 (so_ok ht ht2 q (by omega)).2 _ (Nat.le_refl _)
/-- halving -/
def mdF (z : Nat × Nat) : Nat := z.1 + (z.2 - z.1 + 1) / 2
def hvF (n : Nat → Nat → Nat) (q : Nat) (z : Nat × Nat) : Nat → Nat × Nat
  | 0 => z
  | k + 1 => if (hvF n q z k).2 - (hvF n q z k).1 ≤ 1 then hvF n q z k else if n (25 + q) (mdF (hvF n q z k)) = 4294967295 then hvF n q z k else if odF n q (hvF n q z k).1 (mdF (hvF n q z k)) (mdF (hvF n q z k)) = 0 then (mdF (hvF n q z k), (hvF n q z k).2) else ((hvF n q z k).1, mdF (hvF n q z k))
def fpF (n : Nat → Nat → Nat) (q f : Nat) : Nat → Nat → Nat := ku n 12 (n (20 + q) f) (n 12 (n (20 + q) f) ^^^ 1)
def srF (n : Nat → Nat → Nat) (q f : Nat) : (Nat → Nat → Nat) × Nat :=
  if (hvF n q (f, beF n q f) 128).2 - (hvF n q (f, beF n q f) 128).1 ≤ 1 then (fpF n q (hvF n q (f, beF n q f) 128).1, 0)
  else (akH n q (hvF n q (f, beF n q f) 128).1 (mdF (hvF n q (f, beF n q f) 128)) (mdF (hvF n q (f, beF n q f) 128)), 1)
theorem hv_s1 {n : Nat → Nat → Nat} {q : Nat} {z : Nat × Nat} {k : Nat} (h : (hvF n q z k).2 - (hvF n q z k).1 ≤ 1 ∨ n (25 + q) (mdF (hvF n q z k)) = 4294967295) : ∀ j, hvF n q z (k + j) = hvF n q z k
  | 0 => rfl
  | j + 1 => by
    have ih := hv_s1 h j
    show hvF n q z (k + j + 1) = _
    simp only [hvF, ih]
    rcases h with h | h
    · rw [if_pos h]
    · rw [if_pos h]; split <;> rfl
theorem hv_128 {n : Nat → Nat → Nat} {q : Nat} {z : Nat × Nat} {k : Nat} (hk : k ≤ 128) (h : (hvF n q z k).2 - (hvF n q z k).1 ≤ 1 ∨ n (25 + q) (mdF (hvF n q z k)) = 4294967295) : hvF n q z 128 = hvF n q z k := by
  have := hv_s1 h (128 - k)
  rwa [show k + (128 - k) = 128 by omega] at this
/-- what holds of a search after k halvings -/
def hvI (z w : Nat × Nat) (k : Nat) : Prop := w.1 < w.2 ∧ w.2 - w.1 + k ≤ 128 ∧ z.1 ≤ w.1 ∧ w.2 ≤ z.2
theorem md_in {w : Nat × Nat} (h : ¬ w.2 - w.1 ≤ 1) : w.1 < mdF w ∧ mdF w < w.2 := by unfold mdF; omega
def mmF (n : Nat → Nat → Nat) : (Nat → Nat → Nat) × Nat :=
  if (soF n (n 14 3 + 1)).1 = 4294967295 then (ku n 14 3 (n 14 3 + 1), 0) else srF n ((soF n (n 14 3 + 1)).1 / 128) ((soF n (n 14 3 + 1)).1 % 128)
def stF (n : Nat → Nat → Nat) : (Nat → Nat → Nat) × Nat := if (afF n (n 14 3)).2 = 0 then mmF n else afF n (n 14 3)
def goF (n : Nat → Nat → Nat) : Nat → (Nat → Nat → Nat) × Nat
  | 0 => (n, 0)
  | k + 1 => if (goF n k).2 = 0 then (if (goF n k).1 14 3 = 4 then goF n k else stF (goF n k).1) else goF n k
theorem bc_le {n : Nat → Nat → Nat} {q : Nat} (hz : 4 ≤ n 14 4) (ht2 : n 14 5 ≤ 128) : bcF n q ≤ 200 := by
  unfold bcF
  have := Nat.div_le_self (n 14 5 - 1) (n 14 4 * 2 ^ q)
  omega
theorem hv_next {n : Nat → Nat → Nat} {q k : Nat} {z : Nat × Nat} (h : hvI z (hvF n q z k) k) (h1 : ¬ (hvF n q z k).2 - (hvF n q z k).1 ≤ 1) (h2 : ¬ n (25 + q) (mdF (hvF n q z k)) = 4294967295) {o : Prop} (_ : o) : hvI z (hvF n q z (k + 1)) (k + 1) := by
  have hm := md_in h1
  unfold hvI at h ⊢
  simp only [hvF]
  rw [if_neg h1, if_neg h2]
  split
  · show mdF (hvF n q z k) < (hvF n q z k).2 ∧ _
    refine ⟨hm.2, ?_, ?_, h.2.2.2⟩
    · show (hvF n q z k).2 - mdF (hvF n q z k) + (k + 1) ≤ 128; omega
    · show z.1 ≤ mdF (hvF n q z k); omega
  · show (hvF n q z k).1 < mdF (hvF n q z k) ∧ _
    refine ⟨hm.1, ?_, h.2.2.1, ?_⟩
    · show mdF (hvF n q z k) - (hvF n q z k).1 + (k + 1) ≤ 128; omega
    · show mdF (hvF n q z k) ≤ z.2; omega
