/-! pure words: the model's own -/
theorem kn_sbit {x k : Nat} (hk : k < 32) : (nI x >>> (nI k &&& 31)) &&& nI 1 = nI (x / 2 ^ k &&& 1) := by
  apply kn_inj
  rw [Int32.toBitVec_and, Int32.toBitVec_shiftRight, kn_bv, kn_bv, kn_bv, BitVec.sshiftRight_eq', kn_s31 k hk]
  apply BitVec.eq_of_getLsbD_eq
  intro i hi
  rw [BitVec.getLsbD_and, BitVec.getLsbD_ofNat, BitVec.getLsbD_ofNat, Nat.testBit_and]
  by_cases h0 : i = 0
  · subst h0
    rw [BitVec.getLsbD_sshiftRight, BitVec.getLsbD_ofNat]
    simp [Nat.testBit_div_two_pow, hk]
    rw [Nat.testBit_eq_decide_div_mod_eq]
  · have : Nat.testBit 1 i = false := by
      rw [Nat.testBit_eq_decide_div_mod_eq]
      have : 1 / 2 ^ i = 0 := Nat.div_eq_of_lt (Nat.one_lt_two_pow h0)
      simp [this]
    simp [this]
section KM
variable {p : Program} {l : Launch} {e : Env} {R : Room} {s : State} {m : MethodId} {args : Array Value} {below : List Frame} {meth : Method} {c : Code} {H : Heap} {locs : List Loc} {cells slots : Nat} {Q : State → Prop}
variable {cc : ByteArray} {pc : Nat} {ls : Array Slot} {rest : List Value}
theorem kn_llt (hx : p.tables.exec = Jvm.exec) (hb : c.code = cc) {x y : Nat} {off : Int} {tgt : Nat} (hd0 : decode cc pc = .ok (.lcmp, 1)) (hdg : decode cc (pc + 1) = .ok (.ifCond .lt off, 3)) (ht : ((pc + 1 : Nat) : Int) + off = (tgt : Int)) (h : x < 9223372036854775808 ∧ y < 9223372036854775808)
    (kt : x < y → W p l e R s m args below meth c H locs cells slots Q (F0 m tgt ls rest)) (kf : y ≤ x → W p l e R s m args below meth c H locs cells slots Q (F0 m (pc + 1 + 3) ls rest)) : W p l e R s m args below meth c H locs cells slots Q (F0 m pc ls (.long (lN y) :: .long (lN x) :: rest)) :=
  W.lcmp hx hb hd0 (lv_if_lt hx hb hdg ht (fun z => kt (Nat.lt_of_not_le fun q => by have h2 := (lg_cmp_ge _ _).mpr ((pk_lLE h.2 h.1).mpr q); exact absurd z (by first | exact Int32.not_lt.mpr h2 | (intro z2; exact absurd (Int32.lt_of_lt_of_le z2 h2) (Int32.lt_irrefl))))) (fun z => kf ((pk_lLE h.2 h.1).mp ((lg_cmp_ge _ _).mp (by first | exact Int32.not_lt.mp z | (exact Int32.le_of_not_lt z))))))
theorem kn_lsub (hx : p.tables.exec = Jvm.exec) (hb : c.code = cc) {x y : Nat} (hdg : decode cc pc = .ok (.lsub, 1)) (h : y ≤ x) (k : W p l e R s m args below meth c H locs cells slots Q (F0 m (pc + 1) ls (.long (lN (x - y)) :: rest))) : W p l e R s m args below meth c H locs cells slots Q (F0 m pc ls (.long (lN y) :: .long (lN x) :: rest)) := by
  refine lv_lsub hx hb hdg ?_
  rw [show lN x - lN y = lN (x - y) from by
    apply wb_inj
    rw [Int64.toBitVec_sub, wb_tb, wb_tb, wb_tb]
    apply BitVec.eq_of_toNat_eq
    simp only [BitVec.toNat_sub, BitVec.toNat_ofNat]
    omega]
  exact k
theorem kn_lneg (hx : p.tables.exec = Jvm.exec) (hb : c.code = cc) {x : Nat} {off : Int} {tgt : Nat} (hd0 : decode cc pc = .ok (.lcmp, 1)) (hdg : decode cc (pc + 1) = .ok (.ifCond .ge off, 3)) (ht : ((pc + 1 : Nat) : Int) + off = (tgt : Int)) (h : x < 18446744073709551616)
    (kt : x / 2 ^ 63 = 0 → W p l e R s m args below meth c H locs cells slots Q (F0 m tgt ls rest)) (kf : x / 2 ^ 63 = 1 → W p l e R s m args below meth c H locs cells slots Q (F0 m (pc + 1 + 3) ls rest)) : W p l e R s m args below meth c H locs cells slots Q (F0 m pc ls (.long (lN 0) :: .long (lN x) :: rest)) := by
  have key : lN 0 ≤ lN x ↔ x / 2 ^ 63 = 0 := by
    rw [Int64.le_iff_toInt_le, ← Int64.toInt_toBitVec, ← Int64.toInt_toBitVec, wb_tb, wb_tb, BitVec.toInt_eq_toNat_cond, BitVec.toInt_eq_toNat_cond, BitVec.toNat_ofNat, BitVec.toNat_ofNat]
    split <;> split <;> omega
  exact W.lcmp hx hb hd0 (lv_if_ge hx hb hdg ht (fun z => kt (key.mp ((lg_cmp_ge _ _).mp z))) (fun z => kf (by have := mt (fun q => (lg_cmp_ge _ _).mpr (key.mpr q)) z; omega)))
end KM
def mS (n : Nat → Nat → Nat) (x : Nat) : Nat → Nat := fun i => n 38 (128 * x + i)
def mO (n : Nat → Nat → Nat) (p : Nat) : Nat → Nat := fun i => n 41 (128 * p + i)
/-- the first of the first k answered questions with this range -/
def knP (n : Nat → Nat → Nat) (p f t : Nat) : Nat → Option Nat
  | 0 => none
  | k + 1 => match knP n p f t k with
    | some j => some j
    | none => if n 42 (k + 1) = p ∧ n 43 (k + 1) = f ∧ n 44 (k + 1) = t then some (k + 1) else none
def kwF (n : Nat → Nat → Nat) (p f t : Nat) : Nat := match knP n p f t (n 33 9) with
  | some j => n 45 j
  | none => 4294967295
theorem knP_none {n : Nat → Nat → Nat} {p f t k : Nat} (h : knP n p f t k = none) (h2 : ¬ (n 42 (k + 1) = p ∧ n 43 (k + 1) = f ∧ n 44 (k + 1) = t)) : knP n p f t (k + 1) = none := by
  simp only [knP, h]
  rw [if_neg h2]
theorem knP_hit {n : Nat → Nat → Nat} {p f t k : Nat} (h : knP n p f t k = none) (h2 : n 42 (k + 1) = p ∧ n 43 (k + 1) = f ∧ n 44 (k + 1) = t) : knP n p f t (k + 1) = some (k + 1) := by
  simp only [knP, h]
  rw [if_pos h2]
theorem knP_up {n : Nat → Nat → Nat} {p f t k j : Nat} (h : knP n p f t k = some j) : ∀ i, knP n p f t (k + i) = some j
  | 0 => h
  | i + 1 => by
    show knP n p f t (k + i + 1) = some j
    simp only [knP, knP_up h i]
theorem kw_hit {n : Nat → Nat → Nat} {p f t k : Nat} (hk : k < n 33 9) (h : knP n p f t k = none) (h2 : n 42 (k + 1) = p ∧ n 43 (k + 1) = f ∧ n 44 (k + 1) = t) : kwF n p f t = n 45 (k + 1) := by
  have := knP_up (knP_hit h h2) (n 33 9 - (k + 1))
  rw [show k + 1 + (n 33 9 - (k + 1)) = n 33 9 by omega] at this
  unfold kwF
  rw [this]
theorem kw_none {n : Nat → Nat → Nat} {p f t : Nat} (h : knP n p f t (n 33 9) = none) : kwF n p f t = 4294967295 := by
  unfold kwF
  rw [h]
theorem kw_lt {n : Nat → Nat → Nat} (hB : NB n) (p f t : Nat) : kwF n p f t < 4294967296 := by
  unfold kwF
  split
  · exact hB _ _
  · decide
/-- a letter is sent -/
def sdMG (n : Nat → Nat → Nat) (x y z : Nat) : Nat → Nat → Nat := ku (ku (ku (ku n 46 (n 33 11) x) 47 (n 33 11) y) 48 (n 33 11) z) 33 11 (n 33 11 + 1)
def sdM (n : Nat → Nat → Nat) (x y z : Nat) : Nat → Nat → Nat := if n 33 11 = 16 then n else sdMG n x y z
/-- a question is asked -/
def akMG (n : Nat → Nat → Nat) (q f t : Nat) : Nat → Nat → Nat := ku (ku (ku (ku n 33 8 (n 33 8 + 1)) 42 (n 33 8 + 1) q) 43 (n 33 8 + 1) f) 44 (n 33 8 + 1) t
def akM (n : Nat → Nat → Nat) (q f t : Nat) : Nat → Nat → Nat := sdM (akMG n q f t) 0 (n 33 8 + 1) 0
/-- blocks -/
def beM (n : Nat → Nat → Nat) (p f : Nat) : Nat := if n 33 2 < f + n 33 6 * 2 ^ p then n 33 2 else f + n 33 6 * 2 ^ p
def bcM (n : Nat → Nat → Nat) (p : Nat) : Nat := (n 33 2 - 1) / (n 33 6 * 2 ^ p) + 1
def afM (n : Nat → Nat → Nat) (q : Nat) : (Nat → Nat → Nat) × Nat := match fbF (fun f => kwF n q f (beM n q f)) (n 33 6 * 2 ^ q) (bcM n q) with
  | some b => (akM n q (b * (n 33 6 * 2 ^ q)) (beM n q (b * (n 33 6 * 2 ^ q))), 1)
  | none => (n, 0)
theorem afM_some {n : Nat → Nat → Nat} {q b : Nat} (h : fbF (fun f => kwF n q f (beM n q f)) (n 33 6 * 2 ^ q) (bcM n q) = some b) : afM n q = (akM n q (b * (n 33 6 * 2 ^ q)) (beM n q (b * (n 33 6 * 2 ^ q))), 1) := by
  unfold afM
  rw [h]
theorem afM_none {n : Nat → Nat → Nat} {q : Nat} (h : fbF (fun f => kwF n q f (beM n q f)) (n 33 6 * 2 ^ q) (bcM n q) = none) : afM n q = (n, 0) := by
  unfold afM
  rw [h]
theorem bsM_pos {n : Nat → Nat → Nat} {p : Nat} (h : 4 ≤ n 33 6) : 4 ≤ n 33 6 * 2 ^ p := by
  have : 0 < 2 ^ p := Nat.two_pow_pos p
  calc 4 ≤ n 33 6 * 1 := by omega
    _ ≤ n 33 6 * 2 ^ p := Nat.mul_le_mul_left _ this
theorem bsM_le {n : Nat → Nat → Nat} {p : Nat} (h : n 33 6 ≤ 128) (hp : p < 4) : n 33 6 * 2 ^ p ≤ 1024 := by
  rcases (show p = 0 ∨ p = 1 ∨ p = 2 ∨ p = 3 by omega) with rfl | rfl | rfl | rfl <;> omega
theorem blM_lt {n : Nat → Nat → Nat} {q b : Nat} (ht : 4 ≤ n 33 2) (h : b < bcM n q) : b * (n 33 6 * 2 ^ q) < n 33 2 := by
  unfold bcM at h
  have h1 : b ≤ (n 33 2 - 1) / (n 33 6 * 2 ^ q) := by omega
  have h2 := Nat.mul_le_mul_right (n 33 6 * 2 ^ q) h1
  have h3 := Nat.div_mul_le_self (n 33 2 - 1) (n 33 6 * 2 ^ q)
  omega
theorem blM_ge {n : Nat → Nat → Nat} {q : Nat} (hz : 4 ≤ n 33 6) : n 33 2 ≤ bcM n q * (n 33 6 * 2 ^ q) := by
  have h1 := bsM_pos (p := q) hz
  unfold bcM
  have h2 := Nat.div_add_mod (n 33 2 - 1) (n 33 6 * 2 ^ q)
  have h3 := Nat.mod_lt (n 33 2 - 1) (show 0 < n 33 6 * 2 ^ q by omega)
  rw [Nat.add_mul, Nat.one_mul]
  rw [Nat.mul_comm] at h2
  omega
theorem bcM_le {n : Nat → Nat → Nat} {q : Nat} (hz : 4 ≤ n 33 6) (ht2 : n 33 2 ≤ 128) : bcM n q ≤ 200 := by
  have h1 := bsM_pos (p := q) hz
  unfold bcM
  have : (n 33 2 - 1) / (n 33 6 * 2 ^ q) ≤ n 33 2 - 1 := Nat.div_le_self _ _
  omega
theorem beM_gt {n : Nat → Nat → Nat} {q f : Nat} (hz : 4 ≤ n 33 6) (h : f < n 33 2) : f < beM n q f := by
  have h1 := bsM_pos (p := q) hz
  unfold beM
  split <;> omega
theorem beM_le {n : Nat → Nat → Nat} {q f : Nat} : beM n q f ≤ n 33 2 := by
  unfold beM
  split <;> omega
/-- the smallest odd block: its first place, its pass -/
def sbT (n : Nat → Nat → Nat) (q : Nat) (z : Nat × Nat) : Nat → Nat × Nat
  | 0 => z
  | b + 1 => if kwF n q (b * (n 33 6 * 2 ^ q)) (beM n q (b * (n 33 6 * 2 ^ q))) = parF (mS n 1) (mO n q) (b * (n 33 6 * 2 ^ q)) (beM n q (b * (n 33 6 * 2 ^ q)) - b * (n 33 6 * 2 ^ q)) then sbT n q z b
    else if (sbT n q z b).1 = 4294967295 then (b * (n 33 6 * 2 ^ q), q)
    else if beM n q (b * (n 33 6 * 2 ^ q)) - b * (n 33 6 * 2 ^ q) < beM n (sbT n q z b).2 (sbT n q z b).1 - (sbT n q z b).1 then (b * (n 33 6 * 2 ^ q), q)
    else sbT n q z b
def soT (n : Nat → Nat → Nat) : Nat → Nat × Nat
  | 0 => (4294967295, 0)
  | q + 1 => sbT n q (soT n q) (bcM n q)
theorem sbT_ok {n : Nat → Nat → Nat} {q : Nat} {z : Nat × Nat} (hq : q < 4) (ht : 4 ≤ n 33 2) (hz : (z.1 = 4294967295 ∨ z.1 < n 33 2) ∧ z.2 < 4) : ∀ b, b ≤ bcM n q → ((sbT n q z b).1 = 4294967295 ∨ (sbT n q z b).1 < n 33 2) ∧ (sbT n q z b).2 < 4
  | 0, _ => hz
  | b + 1, hb => by
    have ih := sbT_ok hq ht hz b (by omega)
    have h1 := blM_lt (n := n) (q := q) (b := b) ht (by omega)
    unfold sbT
    split
    · exact ih
    · split
      · exact ⟨Or.inr h1, hq⟩
      · split
        · exact ⟨Or.inr h1, hq⟩
        · exact ih
theorem soT_ok {n : Nat → Nat → Nat} (ht : 4 ≤ n 33 2) : ∀ q, q ≤ 4 → ((soT n q).1 = 4294967295 ∨ (soT n q).1 < n 33 2) ∧ (soT n q).2 < 4
  | 0, _ => ⟨Or.inl rfl, by show 0 < 4; decide⟩
  | q + 1, hq => sbT_ok (by omega) ht (soT_ok ht q (by omega)) _ (Nat.le_refl _)
/-- halving -/
def hvT (n : Nat → Nat → Nat) (q : Nat) (z : Nat × Nat) : Nat → Nat × Nat
  | 0 => z
  | k + 1 => if (hvT n q z k).2 - (hvT n q z k).1 ≤ 1 then hvT n q z k else if kwF n q (hvT n q z k).1 (mdF (hvT n q z k)) = 4294967295 then hvT n q z k else if kwF n q (hvT n q z k).1 (mdF (hvT n q z k)) = parF (mS n 1) (mO n q) (hvT n q z k).1 (mdF (hvT n q z k) - (hvT n q z k).1) then (mdF (hvT n q z k), (hvT n q z k).2) else ((hvT n q z k).1, mdF (hvT n q z k))
theorem hvT_s1 {n : Nat → Nat → Nat} {q : Nat} {z : Nat × Nat} {k : Nat} (h : (hvT n q z k).2 - (hvT n q z k).1 ≤ 1 ∨ kwF n q (hvT n q z k).1 (mdF (hvT n q z k)) = 4294967295) : ∀ j, hvT n q z (k + j) = hvT n q z k
  | 0 => rfl
  | j + 1 => by
    have ih := hvT_s1 h j
    show hvT n q z (k + j + 1) = _
    simp only [hvT, ih]
    rcases h with h | h
    · rw [if_pos h]
    · rw [if_pos h]; split <;> rfl
theorem hvT_128 {n : Nat → Nat → Nat} {q : Nat} {z : Nat × Nat} {k : Nat} (hk : k ≤ 128) (h : (hvT n q z k).2 - (hvT n q z k).1 ≤ 1 ∨ kwF n q (hvT n q z k).1 (mdF (hvT n q z k)) = 4294967295) : hvT n q z 128 = hvT n q z k := by
  have := hvT_s1 h (128 - k)
  rw [show k + (128 - k) = 128 by omega] at this
  exact this
theorem hvT_next {n : Nat → Nat → Nat} {q k : Nat} {z : Nat × Nat} (h : hvI z (hvT n q z k) k) (h1 : ¬ (hvT n q z k).2 - (hvT n q z k).1 ≤ 1) (h2 : ¬ kwF n q (hvT n q z k).1 (mdF (hvT n q z k)) = 4294967295) : hvI z (hvT n q z (k + 1)) (k + 1) := by
  have hm := md_in h1
  simp only [hvI] at h ⊢
  simp only [hvT]
  rw [if_neg h1, if_neg h2]
  split
  · refine ⟨hm.2, ?_, ?_, h.2.2.2⟩ <;> omega
  · refine ⟨hm.1, ?_, h.2.2.1, ?_⟩ <;> omega
def fpM (n : Nat → Nat → Nat) (q f : Nat) : Nat → Nat → Nat := ku n 38 (128 + n 41 (128 * q + f)) (1 - n 38 (128 + n 41 (128 * q + f)))
def hzM (n : Nat → Nat → Nat) : Nat × Nat := hvT n (soT n (n 33 7 + 1)).2 ((soT n (n 33 7 + 1)).1, beM n (soT n (n 33 7 + 1)).2 (soT n (n 33 7 + 1)).1) 128
def srM (n : Nat → Nat → Nat) : (Nat → Nat → Nat) × Nat :=
  if (soT n (n 33 7 + 1)).1 = 4294967295 then (n, 0) else if (hzM n).2 - (hzM n).1 ≤ 1 then (fpM n (soT n (n 33 7 + 1)).2 (hzM n).1, 1) else (akM n (soT n (n 33 7 + 1)).2 (hzM n).1 (mdF (hzM n)), 2)
def mmM (n : Nat → Nat → Nat) : (Nat → Nat → Nat) × Nat :=
  if (srM n).2 = 0 then (ku n 33 7 (n 33 7 + 1), 0) else if (srM n).2 = 1 then ((srM n).1, 0) else ((srM n).1, 1)
def stM (n : Nat → Nat → Nat) : (Nat → Nat → Nat) × Nat := if (afM n (n 33 7)).2 = 0 then mmM n else afM n (n 33 7)
def goT (n : Nat → Nat → Nat) : Nat → (Nat → Nat → Nat) × Nat
  | 0 => (n, 0)
  | k + 1 => if (goT n k).2 = 0 then (if (goT n k).1 33 7 = 4 then goT n k else stM (goT n k).1) else goT n k
theorem goT_stop {n : Nat → Nat → Nat} {k : Nat} (h : ¬ (goT n k).2 = 0 ∨ (goT n k).1 33 7 = 4) : ∀ j, goT n (k + j) = goT n k
  | 0 => rfl
  | j + 1 => by
    have ih := goT_stop h j
    show goT n (k + j + 1) = _
    simp only [goT, ih]
    rcases h with h | h
    · rw [if_neg h]
    · split
      · first | rfl | rw [if_pos h]
      · rfl
theorem goT_256 {n : Nat → Nat → Nat} {k : Nat} (hk : k ≤ 256) (h : ¬ (goT n k).2 = 0 ∨ (goT n k).1 33 7 = 4) : goT n 256 = goT n k := by
  have := goT_stop h (256 - k)
  rw [show k + (256 - k) = 256 by omega] at this
  exact this
theorem goT_a {n : Nat → Nat → Nat} {k : Nat} (h : (goT n k).2 = 0) (h4 : ¬ (goT n k).1 33 7 = 4) (ha : ¬ (afM (goT n k).1 ((goT n k).1 33 7)).2 = 0) : goT n (k + 1) = afM (goT n k).1 ((goT n k).1 33 7) := by
  simp only [goT]
  rw [if_pos h, if_neg h4, stM, if_neg ha]
theorem goT_m {n : Nat → Nat → Nat} {k : Nat} (h : (goT n k).2 = 0) (h4 : ¬ (goT n k).1 33 7 = 4) (ha : (afM (goT n k).1 ((goT n k).1 33 7)).2 = 0) : goT n (k + 1) = mmM (goT n k).1 := by
  simp only [goT]
  rw [if_pos h, if_neg h4, stM, if_pos ha]
theorem afM_zero {n : Nat → Nat → Nat} {q : Nat} (h : (afM n q).2 = 0) : (afM n q).1 = n := by
  unfold afM at h ⊢
  split
  · rename_i b hb; rw [hb] at h; exact absurd h (by show ¬ 1 = 0; decide)
  · rfl
theorem afM_two (n : Nat → Nat → Nat) (q : Nat) : (afM n q).2 < 2 := by
  unfold afM
  split
  · show 1 < 2; decide
  · show 0 < 2; decide
theorem srM_three (n : Nat → Nat → Nat) : (srM n).2 < 3 := by
  unfold srM
  split
  · show 0 < 3; decide
  · split
    · show 1 < 3; decide
    · show 2 < 3; decide
theorem srM_n0 {n : Nat → Nat → Nat} (h : (srM n).2 = 0) : (srM n).1 = n := by
  unfold srM at h ⊢
  split
  · rfl
  · rename_i h0
    rw [if_neg h0] at h
    split at h
    · exact absurd h (by show ¬ 1 = 0; decide)
    · exact absurd h (by show ¬ 2 = 0; decide)
/-- the shuffle's exchange, the other way round -/
theorem ku_swap (n : Nat → Nat → Nat) (q i j : Nat) : ku (ku n q j (n q i)) q i (n q j) = ku (ku n q i (n q j)) q j (n q i) := by
  funext x y
  simp only [ku]
  by_cases hx : x = q
  · simp only [if_pos hx]
    by_cases h1 : y = i <;> by_cases h2 : y = j
    · subst h1; subst h2; simp
    · simp [h1, h2]; intro h3; exact absurd (h1.trans h3) h2
    · simp [h1, h2]; intro h3; exact absurd (h2.trans h3) h1
    · simp [h1, h2]
  · simp only [if_neg hx]
/-- record -/
def nr0 (n : Nat → Nat → Nat) (f b v : Nat) : Nat → Nat → Nat → Nat
  | 0 => n
  | k + 1 => ku (ku (ku (ku (nr0 n f b v k) 34 (f + k) 1) 35 (f + k) (b / 2 ^ k &&& 1)) 36 (f + k) (v / 2 ^ k &&& 1)) 37 (f + k) (nr0 n f b v k 37 (f + k))
def nr1 (n : Nat → Nat → Nat) (f b v z : Nat) : Nat → Nat → Nat → Nat
  | 0 => n
  | k + 1 => ku (ku (ku (ku (nr1 n f b v z k) 34 (128 + f + k) 1) 35 (128 + f + k) (b / 2 ^ k &&& 1)) 36 (128 + f + k) (v / 2 ^ k &&& 1)) 37 (f + k) (if z / 2 ^ k &&& 1 = 1 then 1 else 0)
theorem nr0_37 {n : Nat → Nat → Nat} {f b v : Nat} : ∀ k, nr0 n f b v k 37 = n 37
  | 0 => rfl
  | k + 1 => by
    have ih := nr0_37 (n := n) (f := f) (b := b) (v := v) k
    funext y
    simp only [nr0, ku]
    rw [ih]
    simp
    intro h
    rw [h]
theorem NB_nr0 {n : Nat → Nat → Nat} {f b v : Nat} (h : NB n) : ∀ k, NB (nr0 n f b v k)
  | 0 => h
  | k + 1 => by
    have ih := NB_nr0 (f := f) (b := b) (v := v) h k
    have h1 : ∀ x : Nat, x &&& 1 < 4294967296 := fun x => Nat.lt_of_le_of_lt Nat.and_le_right (by decide)
    exact NB_ku (NB_ku (NB_ku (NB_ku ih (by decide)) (h1 _)) (h1 _)) (ih _ _)
theorem NB_nr1 {n : Nat → Nat → Nat} {f b v z : Nat} (h : NB n) : ∀ k, NB (nr1 n f b v z k)
  | 0 => h
  | k + 1 => by
    have ih := NB_nr1 (f := f) (b := b) (v := v) (z := z) h k
    have h1 : ∀ x : Nat, x &&& 1 < 4294967296 := fun x => Nat.lt_of_le_of_lt Nat.and_le_right (by decide)
    exact NB_ku (NB_ku (NB_ku (NB_ku ih (by decide)) (h1 _)) (h1 _)) (by split <;> decide)
/-- is every one of the k places from f on free? -/
def frF (r : Nat → Nat) (f : Nat) : Nat → Nat
  | 0 => 1
  | k + 1 => if frF r f k = 0 then 0 else if r (f + k) = 0 then 1 else 0
theorem frF_lt (r : Nat → Nat) (f : Nat) : ∀ k, frF r f k < 2
  | 0 => by show 1 < 2; decide
  | k + 1 => by
    simp only [frF]
    split
    · decide
    · split <;> decide
theorem frF_any (r : Nat → Nat) (f : Nat) : ∀ k, frF r f k = 0 ↔ ¬ anyF r f k = 0
  | 0 => by show 1 = 0 ↔ ¬ 0 = 0; decide
  | k + 1 => by
    have ih := frF_any r f k
    simp only [frF, anyF]
    by_cases h : anyF r f k = 0
    · rw [if_pos h, if_neg (fun q => ih.mp q h)]
      by_cases h2 : r (f + k) = 0
      · rw [if_pos h2, if_pos h2]; decide
      · rw [if_neg h2, if_neg h2]; decide
    · rw [if_neg h, if_pos (ih.mpr h)]; decide
theorem kn_if1 {P : Prop} [Decidable P] (h : ¬ (if P then 1 else 0) = 0) : P := by
  by_cases q : P
  · exact q
  · rw [if_neg q] at h; exact absurd rfl h
def ctF (r : Nat → Nat) : Nat → Nat
  | 0 => 0
  | k + 1 => if r k = 0 then ctF r k else ctF r k + 1
/-- sift -/
def siM (n : Nat → Nat → Nat) : Nat → Nat → Nat → Nat
  | 0 => n
  | k + 1 => if siM n k 34 k = 0 then siM n k else if siM n k 34 (128 + k) = 0 then siM n k else if siM n k 37 k = 0 then siM n k else if siM n k 35 k = siM n k 35 (128 + k) then
      ku (ku (ku (siM n k) 38 (siM n k 33 2) (siM n k 36 k)) 38 (128 + siM n k 33 2) (siM n k 36 (128 + k))) 33 2 (siM n k 33 2 + 1) else siM n k
theorem siM_le (n : Nat → Nat → Nat) : ∀ k, siM n k 33 2 ≤ n 33 2 + k
  | 0 => Nat.le_refl _
  | k + 1 => by
    have ih := siM_le n k
    simp only [siM]
    split; · omega
    split; · omega
    split; · omega
    split
    · show siM n k 33 2 + 1 ≤ _; omega
    · omega
theorem NB_siM {n : Nat → Nat → Nat} (h : NB n) (h2 : n 33 2 ≤ 200) : ∀ k, k ≤ 200 → NB (siM n k)
  | 0, _ => h
  | k + 1, hk => by
    have ih := NB_siM h h2 k (by omega)
    have h3 := siM_le n k
    simp only [siM]
    split; · exact ih
    split; · exact ih
    split; · exact ih
    split
    · exact NB_ku (NB_ku (NB_ku ih (ih _ _)) (ih _ _)) (by omega)
    · exact ih
/-- sample -/
def smM (n : Nat → Nat → Nat) : Nat → (Nat → Nat → Nat) × Nat
  | 0 => (n, 0)
  | i + 1 => (ku (smM n i).1 40 ((smM n i).1 39 i) 1, if (smM n i).1 38 ((smM n i).1 39 i) = (smM n i).1 38 (128 + (smM n i).1 39 i) then (smM n i).2 else (smM n i).2 + 1)
def lvM (n : Nat → Nat → Nat) : Nat → (Nat → Nat → Nat) × Nat
  | 0 => (n, 0)
  | i + 1 => if (lvM n i).1 40 i = 0 then (ku (ku (lvM n i).1 38 (lvM n i).2 ((lvM n i).1 38 i)) 38 (128 + (lvM n i).2) (ku (lvM n i).1 38 (lvM n i).2 ((lvM n i).1 38 i) 38 (128 + i)), (lvM n i).2 + 1) else lvM n i
theorem smM_o {n : Nat → Nat → Nat} {x : Nat} (h : x ≠ 40) : ∀ k, (smM n k).1 x = n x
  | 0 => rfl
  | k + 1 => by simp only [smM]; rw [ku_row h]; exact smM_o h k
theorem smM_le (n : Nat → Nat → Nat) : ∀ k, (smM n k).2 ≤ k
  | 0 => Nat.le_refl _
  | k + 1 => by
    have ih := smM_le n k
    simp only [smM]
    split <;> omega
theorem NB_smM {n : Nat → Nat → Nat} (h : NB n) : ∀ k, NB (smM n k).1
  | 0 => h
  | k + 1 => NB_ku (NB_smM h k) (by decide)
theorem lvM_o {n : Nat → Nat → Nat} {x : Nat} (h : x ≠ 38) : ∀ k, (lvM n k).1 x = n x
  | 0 => rfl
  | k + 1 => by
    simp only [lvM]
    split
    · show ku _ 38 _ _ x = _
      rw [ku_row h, ku_row h]; exact lvM_o h k
    · exact lvM_o h k
theorem lvM_le (n : Nat → Nat → Nat) : ∀ k, (lvM n k).2 ≤ k
  | 0 => Nat.le_refl _
  | k + 1 => by
    have ih := lvM_le n k
    simp only [lvM]
    split
    · show (lvM n k).2 + 1 ≤ k + 1; omega
    · omega
theorem NB_lvM {n : Nat → Nat → Nat} (h : NB n) : ∀ k, NB (lvM n k).1
  | 0 => h
  | k + 1 => by
    have ih := NB_lvM h k
    simp only [lvM]
    split
    · exact NB_ku (NB_ku ih (ih _ _)) (NB_ku ih (ih _ _) _ _)
    · exact ih
/-- start: the orders -/
def cpM (n : Nat → Nat → Nat) (p : Nat) : Nat → Nat → Nat → Nat
  | 0 => n
  | i + 1 => ku (cpM n p i) 41 (128 * p + i) (cpM n p i 39 i)
def soM (n : Nat → Nat → Nat) (z : Nat) : Nat → Nat → Nat → Nat
  | 0 => n
  | p + 1 => cpM (shuF (soM n z p) 39 (z + p) (n 33 2)) p (n 33 2)
def soS (n : Nat → Nat → Nat) (s z : Nat) : Nat → Nat
  | 0 => s
  | p + 1 => shuS (soM n z p) 39 (z + p) (n 33 2)
/-- letters -/
def shM (n : Nat → Nat → Nat) (k : Nat) : Nat → Nat → Nat → Nat
  | 0 => n
  | i + 1 => ku (ku (ku (shM n k i) 46 (k + i) (shM n k i 46 (k + i + 1))) 47 (k + i) (ku (shM n k i) 46 (k + i) (shM n k i 46 (k + i + 1)) 47 (k + i + 1))) 48 (k + i) (ku (ku (shM n k i) 46 (k + i) (shM n k i 46 (k + i + 1))) 47 (k + i) (ku (shM n k i) 46 (k + i) (shM n k i 46 (k + i + 1)) 47 (k + i + 1)) 48 (k + i + 1))
def tkM (n : Nat → Nat → Nat) (k : Nat) : Nat → Nat → Nat := shM (ku n 33 11 (n 33 11 - 1)) k (n 33 11 - 1 - k)
def pnM (n : Nat → Nat → Nat) (q : Nat) : Nat := parF (mS n 0) (mO n (n 42 q)) (n 43 q) (n 44 q - n 43 q)
def anM (n : Nat → Nat → Nat) (q : Nat) : Nat → Nat → Nat := sdM (ku n 33 10 (if n 33 10 < q then q else n 33 10)) 1 q (pnM (ku n 33 10 (if n 33 10 < q then q else n 33 10)) q)
def lnM (n : Nat → Nat → Nat) (q b : Nat) : Nat → Nat → Nat := ku (ku n 45 q b) 33 9 q
def cmM (n : Nat → Nat → Nat) (x q b : Nat) : Nat → Nat → Nat :=
  if x = 0 then anM n q else if q = n 33 8 then (if n 33 9 < n 33 8 then (goT (lnM n q b) 256).1 else n) else n
/-- products, from the highest bit on -/
def phF (a b : Nat) : Nat → Nat
  | 0 => 0
  | j + 1 => if b / 2 ^ (15 - j) &&& 1 = 1 then (if 65535 < phF a b j * 2 ^ 1 then phF a b j * 2 ^ 1 ^^^ 65579 else phF a b j * 2 ^ 1) ^^^ a else (if 65535 < phF a b j * 2 ^ 1 then phF a b j * 2 ^ 1 ^^^ 65579 else phF a b j * 2 ^ 1)
theorem phF_s (a b j : Nat) : phF a b (j + 1) = if b / 2 ^ (15 - j) &&& 1 = 1 then (if 65535 < phF a b j * 2 ^ 1 then phF a b j * 2 ^ 1 ^^^ 65579 else phF a b j * 2 ^ 1) ^^^ a else (if 65535 < phF a b j * 2 ^ 1 then phF a b j * 2 ^ 1 ^^^ 65579 else phF a b j * 2 ^ 1) := rfl
def prM (a b : Nat) : Nat := phF a b 16
theorem phF_lt {a : Nat} (h : a < 65536) (b : Nat) : ∀ k, phF a b k < 65536
  | 0 => by show 0 < 65536; decide
  | k + 1 => by
    have ih := phF_lt h b k
    have h2 : (if 65535 < phF a b k * 2 ^ 1 then phF a b k * 2 ^ 1 ^^^ 65579 else phF a b k * 2 ^ 1) < 65536 := by
      split
      · exact kx_red (by omega) (by omega)
      · omega
    simp only [phF]
    split
    · exact kx_lt h2 h
    · exact h2
def tgM (r : Nat → Nat) (x t : Nat) : Nat → Nat
  | 0 => 0
  | k + 1 => prM x (tgM r x t k ^^^ wordF r (16 * k) ((if t < 16 * k + 16 then t else 16 * k + 16) - 16 * k))
def tagM (r : Nat → Nat) (x t : Nat) : Nat := prM x (tgM r x t ((t + 15) / 16) ^^^ t)
theorem tgM_lt {r : Nat → Nat} {x t : Nat} (hx : x < 65536) : ∀ k, tgM r x t k < 65536
  | 0 => by show 0 < 65536; decide
  | k + 1 => phF_lt hx _ 16
theorem tagM_lt {r : Nat → Nat} {x t : Nat} (hx : x < 65536) : tagM r x t < 65536 := phF_lt hx _ 16
/-- the key -/
def drM (n : Nat → Nat → Nat) (z : Nat) : Nat → (Nat → Nat → Nat) × Nat
  | 0 => (n, z)
  | k + 1 => (ku (drM n z k).1 50 k (advF (drM n z k).2 / 2 ^ 63), advF (drM n z k).2)
def kxF (n : Nat → Nat → Nat) (x q : Nat) : Nat → Nat
  | 0 => 0
  | k + 1 => kxF n x q k ^^^ (n 38 (128 * x + k) &&& n 50 (k + q))
def kbM (n : Nat → Nat → Nat) (t q j : Nat) : Nat → Nat → Nat → Nat
  | 0 => n
  | x + 1 => ku (kbM n t q j x) 49 (128 * x + j) (kxF (kbM n t q j x) x (q - 1 - j) t)
def kaM (n : Nat → Nat → Nat) (t q : Nat) : Nat → Nat → Nat → Nat
  | 0 => n
  | j + 1 => kbM (kaM n t q j) t q j 2
