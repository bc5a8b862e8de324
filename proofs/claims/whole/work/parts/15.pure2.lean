/-! pure words: what a station's methods do -/
def noteF (n : Nat → Nat → Nat) (o f b v s : Nat) : Nat → Nat → Nat → Nat
  | 0 => n
  | k + 1 => ku (ku (ku (ku (noteF n o f b v s k) (o + 1) (f + k) 1) (o + 2) (f + k) (b / 2 ^ k &&& 1)) (o + 3) (f + k) (v / 2 ^ k &&& 1)) (o + 4) (f + k) (s / 2 ^ k &&& 1)
/-- leaving out: the numbers and how many are kept, after k places -/
def lvP (n : Nat → Nat → Nat) (c q : Nat) : Nat → (Nat → Nat → Nat) × Nat
  | 0 => (n, 0)
  | k + 1 => if (lvP n c q k).1 q k = 0 then (ku (lvP n c q k).1 c (lvP n c q k).2 ((lvP n c q k).1 c k), (lvP n c q k).2 + 1) else lvP n c q k
theorem lvP_le (n : Nat → Nat → Nat) (c q : Nat) : ∀ k, (lvP n c q k).2 ≤ k
  | 0 => Nat.le_refl _
  | k + 1 => by
    have := lvP_le n c q k
    unfold lvP
    split
    · show (lvP n c q k).2 + 1 ≤ k + 1; omega
    · omega
def wordF (r : Nat → Nat) (f : Nat) : Nat → Nat
  | 0 => 0
  | k + 1 => wordF r f k ||| r (f + k) * 2 ^ k
def shF (a : Nat) : Nat → Nat
  | 0 => a
  | k + 1 => if 65535 < shF a k * 2 ^ 1 then shF a k * 2 ^ 1 ^^^ 65579 else shF a k * 2 ^ 1
def smF (a b : Nat) : Nat → Nat
  | 0 => 0
  | k + 1 => if b / 2 ^ k &&& 1 = 1 then smF a b k ^^^ shF a k else smF a b k
theorem kx_red {x : Nat} (h : 65535 < x) (h2 : x < 131072) : x ^^^ 65579 < 65536 := by
  apply Nat.lt_pow_two_of_testBit (n := 16)
  intro i hi
  rw [Nat.testBit_xor]
  by_cases h16 : i = 16
  · subst h16
    have h3 : x.testBit 16 = true := by
      rw [Nat.testBit_eq_decide_div_mod_eq]
      have : x / 2 ^ 16 % 2 = 1 := by omega
      simp [this]
    rw [h3]
    decide
  · have h17 : 17 ≤ i := by omega
    have hp : 131072 ≤ 2 ^ i := by
      have := Nat.pow_le_pow_right (n := 2) (by decide) h17
      omega
    rw [Nat.testBit_lt_two_pow (by omega), Nat.testBit_lt_two_pow (by omega)]
    rfl
theorem shF_lt {a : Nat} (h : a < 65536) : ∀ k, shF a k < 65536
  | 0 => h
  | k + 1 => by
    have := shF_lt h k
    unfold shF
    split
    · exact kx_red (by assumption) (by omega)
    · omega
theorem kx_lt {x y : Nat} (hx : x < 65536) (hy : y < 65536) : x ^^^ y < 65536 := Nat.xor_lt_two_pow (n := 16) hx hy
theorem smF_lt {a : Nat} (h : a < 65536) (b : Nat) : ∀ k, smF a b k < 65536
  | 0 => by show 0 < 65536; decide
  | k + 1 => by
    have := smF_lt h b k
    unfold smF
    split
    · exact kx_lt this (shF_lt h k)
    · exact this
/-- the product of the class -/
def prF (a b : Nat) : Nat := smF a b 16
theorem kn_shl16 {x q : Nat} (hq : q < 16) (hx : x < 65536) : nI x <<< (nI q &&& 31) = nI (x * 2 ^ q) := by
  refine pk_shlN _ q (kn_s31 q (by omega)) ?_
  have h1 : 2 ^ q ≤ 2 ^ 15 := Nat.pow_le_pow_right (by decide) (by omega)
  have h2 : x * 2 ^ q ≤ x * 2 ^ 15 := Nat.mul_le_mul_left x h1
  omega
theorem wordF_lt {r : Nat → Nat} {f : Nat} (h : ∀ i, r i < 2) : ∀ k, k ≤ 16 → wordF r f k < 2 ^ k
  | 0, _ => by show 0 < 1; decide
  | k + 1, hk => by
    have h1 := wordF_lt (r := r) (f := f) h k (by omega)
    have h2 := h (f + k)
    unfold wordF
    apply Nat.or_lt_two_pow
    · have : (2 : Nat) ^ (k + 1) = 2 ^ k * 2 := Nat.pow_succ 2 k
      omega
    · have : (2 : Nat) ^ (k + 1) = 2 ^ k * 2 := Nat.pow_succ 2 k
      rcases (show r (f + k) = 0 ∨ r (f + k) = 1 by omega) with e | e <;> rw [e] <;> omega
theorem wordF_16 {r : Nat → Nat} {f k : Nat} (h : ∀ i, r i < 2) (hk : k ≤ 16) : wordF r f k < 65536 := by
  have h1 := wordF_lt (f := f) h k hk
  have h2 : 2 ^ k ≤ 2 ^ 16 := Nat.pow_le_pow_right (by decide) hk
  omega
/-- tags: the sum after k words -/
def tgF (r : Nat → Nat) (x t : Nat) : Nat → Nat
  | 0 => 0
  | k + 1 => prF x (tgF r x t k ^^^ wordF r (16 * k) ((if t < 16 * k + 16 then t else 16 * k + 16) - 16 * k))
def tagF (r : Nat → Nat) (x t : Nat) : Nat := prF x (tgF r x t ((t + 15) / 16) ^^^ t)
theorem tgF_lt {r : Nat → Nat} {x t : Nat} (hx : x < 65536) : ∀ k, tgF r x t k < 65536
  | 0 => by show 0 < 65536; decide
  | k + 1 => smF_lt hx _ 16
section J15
variable {p : Program} {l : Launch} {e : Env} {R : Room} {s : State} {m : MethodId} {args : Array Value} {below : List Frame} {meth : Method} {c : Code} {H : Heap} {locs : List Loc} {cells slots : Nat} {Q : State → Prop}
variable {cc : ByteArray} {pc : Nat} {ls : Array Slot} {rest : List Value} {d : Nat → Nat} {D : va_G} {mx : Nat} {ret : Option FieldType} {own : String}
theorem j_min (X : jX p s m args meth c cc mx ret own d D) {index : Nat} (w5 : Cond.methodLink own index ⟨"java/lang/Math", "min", "(II)I"⟩ ∈ jT) {x y : Nat} (h : x < 2147483648 ∧ y < 2147483648) (hls : ls.size = mx) (hR : 1 ≤ R.frames ∧ (rest.map fun v => v.category).sum + 13 ≤ R.locals) (hcs : cells ≤ R.cells ∧ slots ≤ R.slots) (hdg : decode cc pc = .ok (.invokestatic index, 3))
    (kk : W p l e R s m args below meth c H locs cells slots Q (F0 m (pc + 3) ls (.int (nI (if y < x then y else x)) :: rest))) : W p l e R s m args below meth c H locs cells slots Q (F0 m pc ls (.int (nI y) :: .int (nI x) :: rest)) := by
  refine va_mmin X.1 X.2.1 (X.2.2.1.trans hls.symm) X.2.2.2.2.2.1 (X.2.2.2.2.2.2.1 _ w5) (X.2.2.2.2.2.2.1 _ jm_431) (X.2.2.2.2.2.2.1 _ jm_13) (X.2.2.2.2.2.2.1 _ jm_432) hR.1 hR.2 hcs.1 hcs.2 hdg ?_
  by_cases hxy : y < x
  · rw [if_pos hxy] at kk
    rw [if_pos ((nI_ltI h.2 h.1).mpr hxy)]
    exact kk
  · rw [if_neg hxy] at kk
    rw [if_neg (fun z => hxy ((nI_ltI h.2 h.1).mp z))]
    exact kk
theorem j_max (X : jX p s m args meth c cc mx ret own d D) {index : Nat} (w5 : Cond.methodLink own index ⟨"java/lang/Math", "max", "(II)I"⟩ ∈ jT) {x y : Nat} (h : x < 2147483648 ∧ y < 2147483648) (hls : ls.size = mx) (hR : 1 ≤ R.frames ∧ (rest.map fun v => v.category).sum + 13 ≤ R.locals) (hcs : cells ≤ R.cells ∧ slots ≤ R.slots) (hdg : decode cc pc = .ok (.invokestatic index, 3))
    (kk : W p l e R s m args below meth c H locs cells slots Q (F0 m (pc + 3) ls (.int (nI (if x < y then y else x)) :: rest))) : W p l e R s m args below meth c H locs cells slots Q (F0 m pc ls (.int (nI y) :: .int (nI x) :: rest)) := by
  refine va_mmax X.1 X.2.1 (X.2.2.1.trans hls.symm) X.2.2.2.2.2.1 (X.2.2.2.2.2.2.1 _ w5) (X.2.2.2.2.2.2.1 _ jm_500) (X.2.2.2.2.2.2.1 _ jm_13) (X.2.2.2.2.2.2.1 _ jm_501) hR.1 hR.2 hcs.1 hcs.2 hdg ?_
  by_cases hxy : x < y
  · rw [if_pos hxy] at kk
    rw [if_pos ((nI_ltI h.1 h.2).mpr hxy)]
    exact kk
  · rw [if_neg hxy] at kk
    rw [if_neg (fun z => hxy ((nI_ltI h.1 h.2).mp z))]
    exact kk
end J15
