/-! pure: sending, taking out, answering, learning on both sides -/
theorem knP_none_all {n : Nat → Nat → Nat} {p f t : Nat} : ∀ k, knP n p f t k = none → ∀ i, 1 ≤ i → i ≤ k → ¬ (n 42 i = p ∧ n 43 i = f ∧ n 44 i = t)
  | 0, _, i, h1, h2 => by omega
  | k + 1, h, i, h1, h2 => by
    cases hc : knP n p f t k with
    | some j => simp only [knP, hc] at h; cases h
    | none =>
      simp only [knP, hc] at h
      split at h
      · cases h
      · rename_i hx
        by_cases hi : i = k + 1
        · rw [hi]; exact hx
        · exact knP_none_all k hc i h1 (by omega)
theorem knP_some {n : Nat → Nat → Nat} {p f t : Nat} : ∀ {k j : Nat}, knP n p f t k = some j → 1 ≤ j ∧ j ≤ k
  | 0, j, h => by cases h
  | k + 1, j, h => by
    cases hc : knP n p f t k with
    | some x =>
      have ih := knP_some hc
      simp only [knP, hc] at h
      cases h
      omega
    | none =>
      simp only [knP, hc] at h
      split at h
      · cases h; omega
      · cases h
theorem kw_un {m : Nat → Nat → Nat} (h9 : R9 m) {p f t : Nat} : kwF m p f t = 4294967295 ↔ knP m p f t (m 33 9) = none := by
  unfold kwF
  cases hc : knP m p f t (m 33 9) with
  | none => simp
  | some j =>
    have hj := knP_some hc
    have := h9 j hj.1 hj.2
    simp
    omega
/-- the newest question is unknown just as long as its answer hasn't come -/
theorem un_R {n m : Nat → Nat → Nat} (h : RX n m) (h1 : 1 ≤ n 14 0) : n (25 + m 42 (n 14 0)) (n 14 1) = 4294967295 ↔ m 33 9 < m 33 8 := by
  obtain ⟨hD, r1, r2, r3, r4, r5, r6, r7, r8, r9, rb, rd2, hBn, hBm, hBK⟩ := h
  refine ⟨fun hu => ?_, r8.2.2⟩
  have hq := r5 (n 14 0) h1 (Nat.le_refl _)
  have h7 := r7 h1
  rw [r4 _ _ hq.1 h7.1, h7.2, kw_un r9] at hu
  have hall := knP_none_all _ hu (n 14 0) h1
  have := r8.1
  have e8 := r1.2.2.2.1
  by_cases hl : n 14 0 ≤ m 33 9
  · exact absurd ⟨rfl, rfl, rfl⟩ (hall hl)
  · omega
theorem un_F {n m : Nat → Nat → Nat} (h : RX n m) (h1 : 1 ≤ n 14 0) : unF n = 0 ↔ ¬ m 33 9 < m 33 8 := by
  have hQ := qw_parts (h.2.2.2.2.2.1 (n 14 0) h1 (Nat.le_refl _)) h.1.1.2.2
  unfold unF
  rw [hQ.2.2.1, ← un_R h h1]
  split
  · rename_i hx; simp [hx]
  · rename_i hx; simp [hx]
theorem RX_send {n m : Nat → Nat → Nat} (h : RX n m) {x y z : Nat} (hx : x < 2) (hy : 1 ≤ y ∧ y ≤ n 14 0) (hz : z < 2) (ht : x = 1 → z = tq n m y) : RX (sdF n x y z) (sdM m x y z) := by
  obtain ⟨hD, r1, r2, r3, r4, r5, r6, r7, r8, r9, rb, rd2, hBn, hBm, hBK⟩ := h
  have hc := hD.2.2.2.2.1
  have h11 := r1.2.2.2.2.1
  have s6 := R6_sd r6 h11 hc hx hy hz ht
  have e : ∀ r, r ≠ 15 → r ≠ 16 → r ≠ 17 → r ≠ 18 → sdF n x y z r = n r := fun r a b c d => sd_o ⟨a, b, c, d⟩
  have em : ∀ r, r ≠ 33 → r ≠ 46 → r ≠ 47 → r ≠ 48 → sdM m x y z r = m r := fun r a b c d => sdM_o ⟨a, b, c, d⟩
  have e14 := e 14 (by decide) (by decide) (by decide) (by decide)
  have e20 : ∀ p, p < 4 → sdF n x y z (20 + p) = n (20 + p) := fun p _ => e _ (by omega) (by omega) (by omega) (by omega)
  have e25 : ∀ p, p < 4 → sdF n x y z (25 + p) = n (25 + p) := fun p _ => e _ (by omega) (by omega) (by omega) (by omega)
  have m42 := em 42 (by decide) (by decide) (by decide) (by decide)
  have m43 := em 43 (by decide) (by decide) (by decide) (by decide)
  have m44 := em 44 (by decide) (by decide) (by decide) (by decide)
  have m45 := em 45 (by decide) (by decide) (by decide) (by decide)
  have e6 := e 6 (by decide) (by decide) (by decide) (by decide)
  have e12 := e 12 (by decide) (by decide) (by decide) (by decide)
  have ekw : ∀ p f9 t, kwF (sdM m x y z) p f9 t = kwF m p f9 t := fun p f9 t => kwF_eq m42 m43 m44 m45 (sdM_33 (by decide)) p f9 t
  refine ⟨DX_c hD (by rw [e14]) (by rw [e14]) e6 (fun i => by rw [e12]; exact (hD.2.2.1 i).2) e20 e25 s6.2.2 (by rw [e14]; exact hD.2.2.2.2.2), ?_, ?_, R3_c r3 (by rw [e14]) e20 (em 41 (by decide) (by decide) (by decide) (by decide)), R4_c r4 (by rw [e14]) (by rw [e14]) e25 ekw, ?_, s6.1, ?_, ?_, ?_, ?_, ?_, ?_, ?_, BK_c hBK (by rw [e14]) (by rw [e14]) (by rw [e14]) e25⟩
  · refine ⟨?_, ?_, ?_, ?_, s6.2.1, ?_⟩
    · rw [e14, sdM_33 (by decide)]; exact r1.1
    · rw [e14, sdM_33 (by decide)]; exact r1.2.1
    · rw [e14, sdM_33 (by decide)]; exact r1.2.2.1
    · rw [e14, sdM_33 (by decide)]; exact r1.2.2.2.1
    · rw [e14, sdM_33 (by decide)]; exact r1.2.2.2.2.2
  · intro i hi
    rw [e6, e12, em 38 (by decide) (by decide) (by decide) (by decide)]
    exact r2 i hi
  · intro q9 a1 a2
    rw [e14] at a2
    have := r5 q9 a1 a2
    unfold QW at this ⊢
    rw [m42, m43, m44, e14, e 29 (by decide) (by decide) (by decide) (by decide)]
    exact this
  · intro hn1
    rw [e14] at hn1 ⊢
    rw [m42, m43, m44, rg_c (by rw [e14]) (by rw [e14])]
    exact r7 hn1
  · unfold R8
    rw [sdM_33 (by decide), sdM_33 (by decide), m42, e14, e (25 + m 42 (n 14 0)) (by omega) (by omega) (by omega) (by omega)]
    exact r8
  · intro q9 a1 a2
    rw [sdM_33 (by decide)] at a2
    rw [m45]
    exact r9 q9 a1 a2
  · exact ⟨fun i => by rw [em 38 (by decide) (by decide) (by decide) (by decide)]; exact rb.1 i, sdM_46 rb.2 hx⟩
  · rw [e14]; exact rd2
  · have h0 := hBn 14 0
    exact NB_sd hBn (by omega) (by omega) (by omega) hc
  · have h0 := hBn 14 0
    exact NB_sdM hBm (by omega) (by omega) (by omega) (by omega)
/-- the row of letters behind a letter that is taken out -/
theorem sh_16 {n : Nat → Nat → Nat} {k : Nat} : ∀ c i, shN n k c 16 i = (if k ≤ i ∧ i < k + c then n 16 (i + 1) else n 16 i) ∧ shN n k c 17 i = (if k ≤ i ∧ i < k + c then n 17 (i + 1) else n 17 i) ∧ shN n k c 18 i = (if k ≤ i ∧ i < k + c then n 18 (i + 1) else n 18 i)
  | 0, i => by rw [if_neg (by omega), if_neg (by omega), if_neg (by omega)]; exact ⟨rfl, rfl, rfl⟩
  | c + 1, i => by
    have ih := sh_16 (n := n) (k := k) c
    have hi := ih i
    have h1 := ih (k + 1 + c)
    rw [if_neg (by omega), if_neg (by omega), if_neg (by omega)] at h1
    have ek : k + 1 + c - 1 = k + c := by omega
    simp only [shN, ek]
    refine ⟨?_, ?_, ?_⟩
    · rw [ku_n (by decide), ku_n (by decide)]
      simp only [ku, if_true]
      by_cases hx : i = k + c
      · rw [if_pos hx, h1.1, if_pos (by omega), hx, show k + c + 1 = k + 1 + c by omega]
      · rw [if_neg hx, hi.1]
        by_cases hy : k ≤ i ∧ i < k + c
        · rw [if_pos hy, if_pos (by omega)]
        · rw [if_neg hy, if_neg (by omega)]
    · rw [ku_n (by decide)]
      simp only [ku, if_true]
      by_cases hx : i = k + c
      · rw [if_pos hx, if_neg (by decide), h1.2.1, if_pos (by omega), hx, show k + c + 1 = k + 1 + c by omega]
      · rw [if_neg hx, if_neg (by decide), hi.2.1]
        by_cases hy : k ≤ i ∧ i < k + c
        · rw [if_pos hy, if_pos (by omega)]
        · rw [if_neg hy, if_neg (by omega)]
    · simp only [ku, if_true]
      by_cases hx : i = k + c
      · rw [if_pos hx, if_neg (by decide), if_neg (by decide), h1.2.2, if_pos (by omega), hx, show k + c + 1 = k + 1 + c by omega]
      · rw [if_neg hx, if_neg (by decide), if_neg (by decide), hi.2.2]
        by_cases hy : k ≤ i ∧ i < k + c
        · rw [if_pos hy, if_pos (by omega)]
        · rw [if_neg hy, if_neg (by omega)]
theorem shM_46 {m : Nat → Nat → Nat} {k : Nat} : ∀ c i, shM m k c 46 i = (if k ≤ i ∧ i < k + c then m 46 (i + 1) else m 46 i) ∧ shM m k c 47 i = (if k ≤ i ∧ i < k + c then m 47 (i + 1) else m 47 i) ∧ shM m k c 48 i = (if k ≤ i ∧ i < k + c then m 48 (i + 1) else m 48 i)
  | 0, i => by rw [if_neg (by omega), if_neg (by omega), if_neg (by omega)]; exact ⟨rfl, rfl, rfl⟩
  | c + 1, i => by
    have ih := shM_46 (m := m) (k := k) c
    have hi := ih i
    have h1 := ih (k + c + 1)
    rw [if_neg (by omega), if_neg (by omega), if_neg (by omega)] at h1
    simp only [shM]
    refine ⟨?_, ?_, ?_⟩
    · rw [ku_n (by decide), ku_n (by decide)]
      simp only [ku, if_true]
      by_cases hx : i = k + c
      · rw [if_pos hx, h1.1, if_pos (by omega), hx]
      · rw [if_neg hx, hi.1]
        by_cases hy : k ≤ i ∧ i < k + c
        · rw [if_pos hy, if_pos (by omega)]
        · rw [if_neg hy, if_neg (by omega)]
    · rw [ku_n (by decide)]
      simp only [ku, if_true]
      by_cases hx : i = k + c
      · rw [if_pos hx, if_neg (by decide), h1.2.1, if_pos (by omega), hx]
      · rw [if_neg hx, if_neg (by decide), hi.2.1]
        by_cases hy : k ≤ i ∧ i < k + c
        · rw [if_pos hy, if_pos (by omega)]
        · rw [if_neg hy, if_neg (by omega)]
    · simp only [ku, if_true]
      by_cases hx : i = k + c
      · rw [if_pos hx, if_neg (by decide), if_neg (by decide), h1.2.2, if_pos (by omega), hx]
      · rw [if_neg hx, if_neg (by decide), if_neg (by decide), hi.2.2]
        by_cases hy : k ≤ i ∧ i < k + c
        · rw [if_pos hy, if_pos (by omega)]
        · rw [if_neg hy, if_neg (by omega)]
