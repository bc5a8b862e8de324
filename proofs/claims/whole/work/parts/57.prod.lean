/-! pure: the two ways of multiplying -/
def xtF (v : Nat) : Nat := if 65535 < v * 2 ^ 1 then v * 2 ^ 1 ^^^ 65579 else v * 2 ^ 1
theorem tb16 {x : Nat} (h : x < 131072) : (65535 < x) ↔ x.testBit 16 = true := by
  rw [Nat.testBit_eq_decide_div_mod_eq]
  have : x / 2 ^ 16 % 2 = x / 65536 := by omega
  rw [this]
  simp
  omega
theorem dbl_xor (u v : Nat) : (u ^^^ v) * 2 ^ 1 = u * 2 ^ 1 ^^^ v * 2 ^ 1 := by
  rw [← Nat.shiftLeft_eq, ← Nat.shiftLeft_eq, ← Nat.shiftLeft_eq, Nat.shiftLeft_xor_distrib]
theorem xt_xor {u v : Nat} (hu : u < 65536) (hv : v < 65536) : xtF (u ^^^ v) = xtF u ^^^ xtF v := by
  have hx : u ^^^ v < 65536 := kx_lt hu hv
  unfold xtF
  have e := dbl_xor u v
  have t1 := tb16 (x := u * 2 ^ 1) (by omega)
  have t2 := tb16 (x := v * 2 ^ 1) (by omega)
  have t3 := tb16 (x := (u ^^^ v) * 2 ^ 1) (by omega)
  have t4 : ((u ^^^ v) * 2 ^ 1).testBit 16 = ((u * 2 ^ 1).testBit 16 ^^ (v * 2 ^ 1).testBit 16) := by rw [e, Nat.testBit_xor]
  by_cases h1 : 65535 < u * 2 ^ 1 <;> by_cases h2 : 65535 < v * 2 ^ 1
  · have b1 := t1.mp h1
    have b2 := t2.mp h2
    rw [if_neg (fun q => by have := t3.mp q; rw [t4, b1, b2] at this; exact absurd this (by decide)), if_pos h1, if_pos h2, e]
    rw [Nat.xor_assoc, ← Nat.xor_assoc 65579, Nat.xor_comm 65579, Nat.xor_assoc, Nat.xor_self, Nat.xor_zero]
  · have b1 := t1.mp h1
    have b2 : (v * 2 ^ 1).testBit 16 = false := by cases hc : (v * 2 ^ 1).testBit 16; rfl; exact absurd (t2.mpr hc) h2
    rw [if_pos (t3.mpr (by rw [t4, b1, b2]; rfl)), if_pos h1, if_neg h2, e]
    rw [Nat.xor_assoc, Nat.xor_comm (v * 2 ^ 1), ← Nat.xor_assoc]
  · have b2 := t2.mp h2
    have b1 : (u * 2 ^ 1).testBit 16 = false := by cases hc : (u * 2 ^ 1).testBit 16; rfl; exact absurd (t1.mpr hc) h1
    rw [if_pos (t3.mpr (by rw [t4, b1, b2]; rfl)), if_neg h1, if_pos h2, e, Nat.xor_assoc]
  · have b2 : (v * 2 ^ 1).testBit 16 = false := by cases hc : (v * 2 ^ 1).testBit 16; rfl; exact absurd (t2.mpr hc) h2
    have b1 : (u * 2 ^ 1).testBit 16 = false := by cases hc : (u * 2 ^ 1).testBit 16; rfl; exact absurd (t1.mpr hc) h1
    rw [if_neg (fun q => by have := t3.mp q; rw [t4, b1, b2] at this; exact absurd this (by decide)), if_neg h1, if_neg h2, e]
def smG (a b s : Nat) : Nat → Nat
  | 0 => 0
  | k + 1 => if b / 2 ^ (s + k) &&& 1 = 1 then smG a b s k ^^^ shF a k else smG a b s k
theorem smG_0 (a b : Nat) : ∀ k, smG a b 0 k = smF a b k
  | 0 => rfl
  | k + 1 => by
    simp only [smG, smF]
    rw [smG_0 a b k, Nat.zero_add]
theorem smG_lt {a : Nat} (h : a < 65536) (b s : Nat) : ∀ k, smG a b s k < 65536
  | 0 => by show 0 < 65536; decide
  | k + 1 => by
    simp only [smG]
    split
    · exact kx_lt (smG_lt h b s k) (shF_lt h k)
    · exact smG_lt h b s k
theorem smG_s {a : Nat} (h : a < 65536) (b s : Nat) : ∀ k, smG a b s (k + 1) = if b / 2 ^ s &&& 1 = 1 then xtF (smG a b (s + 1) k) ^^^ a else xtF (smG a b (s + 1) k)
  | 0 => by
    show (if b / 2 ^ (s + 0) &&& 1 = 1 then 0 ^^^ a else 0) = if b / 2 ^ s &&& 1 = 1 then xtF 0 ^^^ a else xtF 0
    rw [Nat.add_zero]
    rfl
  | k + 1 => by
    have ih := smG_s h b s k
    rw [show smG a b s (k + 1 + 1) = if b / 2 ^ (s + (k + 1)) &&& 1 = 1 then smG a b s (k + 1) ^^^ shF a (k + 1) else smG a b s (k + 1) from rfl, show smG a b (s + 1) (k + 1) = if b / 2 ^ (s + 1 + k) &&& 1 = 1 then smG a b (s + 1) k ^^^ shF a k else smG a b (s + 1) k from rfl, ih, show s + (k + 1) = s + 1 + k by omega, show shF a (k + 1) = xtF (shF a k) from rfl]
    by_cases h1 : b / 2 ^ (s + 1 + k) &&& 1 = 1
    · rw [if_pos h1, if_pos h1, xt_xor (smG_lt h b (s + 1) k) (shF_lt h k)]
      split
      · rw [Nat.xor_assoc, Nat.xor_comm a, ← Nat.xor_assoc]
      · rfl
    · rw [if_neg h1, if_neg h1]
theorem phF_G {a : Nat} (h : a < 65536) (b : Nat) : ∀ j, j ≤ 16 → phF a b j = smG a b (16 - j) j
  | 0, _ => rfl
  | j + 1, hj => by
    have ih := phF_G h b j (by omega)
    rw [phF_s, ih, smG_s h, show 16 - (j + 1) = 15 - j by omega, show 15 - j + 1 = 16 - j by omega]
    rfl
theorem pr_eq {a : Nat} (h : a < 65536) (b : Nat) : prM a b = prF a b := by
  unfold prM prF
  rw [phF_G h b 16 (Nat.le_refl _), smG_0]
theorem word_eq {r r' : Nat → Nat} {f : Nat} : ∀ k, (∀ i, i < f + k → r i = r' i) → wordF r f k = wordF r' f k
  | 0, _ => rfl
  | k + 1, h => by
    simp only [wordF]
    rw [word_eq k (fun i hi => h i (by omega)), h (f + k) (by omega)]
theorem tg_eq {r r' : Nat → Nat} {x t : Nat} (hx : x < 65536) (h : ∀ i, i < t → r i = r' i) : ∀ k, tgM r x t k = tgF r' x t k
  | 0 => rfl
  | k + 1 => by
    simp only [tgM, tgF]
    rw [pr_eq hx, tg_eq hx h k]
    by_cases hk : 16 * k ≤ t
    · rw [word_eq (r := r) (r' := r') _ (fun i hi => h i (by split at hi <;> omega))]
    · rw [show (if t < 16 * k + 16 then t else 16 * k + 16) - 16 * k = 0 by split <;> omega]
      rfl
theorem tag_eq {r r' : Nat → Nat} {x t : Nat} (hx : x < 65536) (h : ∀ i, i < t → r i = r' i) : tagM r x t = tagF r' x t := by
  unfold tagM tagF
  rw [pr_eq hx, tg_eq hx h]
