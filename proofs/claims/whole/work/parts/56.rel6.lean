/-! pure: going on, on both sides; what each side leaves alone -/
theorem af_row {n : Nat → Nat → Nat} {q r : Nat} (h : r ≠ 14 ∧ r ≠ 15 ∧ r ≠ 16 ∧ r ≠ 17 ∧ r ≠ 18 ∧ r ≠ 29) : (afF n q).1 r = n r := by
  unfold afF
  split
  · exact ah_row h
  · rfl
theorem mm_row {n : Nat → Nat → Nat} {r : Nat} (h : r ≠ 14 ∧ r ≠ 15 ∧ r ≠ 16 ∧ r ≠ 17 ∧ r ≠ 18 ∧ r ≠ 29 ∧ r ≠ 12) : (mmF n).1 r = n r := by
  unfold mmF
  split
  · exact ku_row h.1
  · unfold srF
    split
    · exact ku_row h.2.2.2.2.2.2
    · exact ah_row ⟨h.1, h.2.1, h.2.2.1, h.2.2.2.1, h.2.2.2.2.1, h.2.2.2.2.2.1⟩
theorem go_row {n : Nat → Nat → Nat} {r : Nat} (h : r ≠ 14 ∧ r ≠ 15 ∧ r ≠ 16 ∧ r ≠ 17 ∧ r ≠ 18 ∧ r ≠ 29 ∧ r ≠ 12) : ∀ k, (goF n k).1 r = n r
  | 0 => rfl
  | k + 1 => by
    have ih := go_row (n := n) h k
    simp only [goF]
    split
    · split
      · exact ih
      · unfold stF
        split
        · rw [mm_row h]; exact ih
        · rw [af_row ⟨h.1, h.2.1, h.2.2.1, h.2.2.2.1, h.2.2.2.2.1, h.2.2.2.2.2.1⟩]; exact ih
    · exact ih
theorem afM_row {m : Nat → Nat → Nat} {q r : Nat} (h : r ≠ 33 ∧ r ≠ 42 ∧ r ≠ 43 ∧ r ≠ 44 ∧ r ≠ 46 ∧ r ≠ 47 ∧ r ≠ 48) : (afM m q).1 r = m r := by
  unfold afM
  split
  · exact am_row h
  · rfl
theorem srM_row {m : Nat → Nat → Nat} {r : Nat} (h : r ≠ 33 ∧ r ≠ 42 ∧ r ≠ 43 ∧ r ≠ 44 ∧ r ≠ 46 ∧ r ≠ 47 ∧ r ≠ 48 ∧ r ≠ 38) : (srM m).1 r = m r := by
  unfold srM
  split
  · rfl
  · split
    · exact ku_row h.2.2.2.2.2.2.2
    · exact am_row ⟨h.1, h.2.1, h.2.2.1, h.2.2.2.1, h.2.2.2.2.1, h.2.2.2.2.2.1, h.2.2.2.2.2.2.1⟩
theorem goT_row {m : Nat → Nat → Nat} {r : Nat} (h : r ≠ 33 ∧ r ≠ 42 ∧ r ≠ 43 ∧ r ≠ 44 ∧ r ≠ 46 ∧ r ≠ 47 ∧ r ≠ 48 ∧ r ≠ 38) : ∀ k, (goT m k).1 r = m r
  | 0 => rfl
  | k + 1 => by
    have ih := goT_row (m := m) h k
    simp only [goT]
    split
    · split
      · exact ih
      · unfold stM
        split
        · unfold mmM
          split
          · show ku _ 33 7 _ r = _
            rw [ku_row h.1]; exact ih
          · split
            · show (srM _).1 r = _
              rw [srM_row h]; exact ih
            · show (srM _).1 r = _
              rw [srM_row h]; exact ih
        · rw [afM_row ⟨h.1, h.2.1, h.2.2.1, h.2.2.2.1, h.2.2.2.2.1, h.2.2.2.2.2.1, h.2.2.2.2.2.2.1⟩]; exact ih
    · exact ih
/-- of the model's own numbers only these change -/
theorem am_33o {m : Nat → Nat → Nat} {q f t j : Nat} (hj : j ≠ 11 ∧ j ≠ 8) : akM m q f t 33 j = m 33 j := by rw [am_33 hj.1, if_neg hj.2]
theorem goT_33 {m : Nat → Nat → Nat} {j : Nat} (h : j ≠ 7 ∧ j ≠ 8 ∧ j ≠ 11) : ∀ k, (goT m k).1 33 j = m 33 j
  | 0 => rfl
  | k + 1 => by
    have ih := goT_33 (m := m) h k
    simp only [goT]
    split
    · split
      · exact ih
      · unfold stM
        split
        · unfold mmM
          have hsr : (srM (goT m k).1).1 33 j = (goT m k).1 33 j := by
            unfold srM
            split
            · rfl
            · split
              · rfl
              · exact am_33o ⟨h.2.2, h.2.1⟩
          split
          · show ku _ 33 7 _ 33 j = _
            rw [ku_m h.1]; exact ih
          · split
            · exact hsr.trans ih
            · exact hsr.trans ih
        · unfold afM
          split
          · exact (am_33o ⟨h.2.2, h.2.1⟩).trans ih
          · exact ih
    · exact ih
theorem go_R {n m : Nat → Nat → Nat} (h : RX n m) (hp : m 33 9 = m 33 8) (h512 : n 14 0 < 512) : ∀ k, (goF n k).2 = (goT m k).2 ∧ RX (goF n k).1 (goT m k).1 ∧ (((goF n k).2 = 0 ∧ (goT m k).1 33 9 = (goT m k).1 33 8 ∧ (goF n k).1 14 0 = n 14 0 ∧ ((goF n k).1 14 3 = 4 ∨ muF (goF n k).1 + k ≤ muF n)) ∨ ((goF n k).2 = 1 ∧ (goT m k).1 33 9 < (goT m k).1 33 8 ∧ (goF n k).1 14 0 = n 14 0 + 1))
  | 0 => ⟨rfl, h, Or.inl ⟨rfl, hp, rfl, Or.inr (Nat.le_refl _)⟩⟩
  | k + 1 => by
    obtain ⟨i1, i2, i3⟩ := go_R h hp h512 k
    have e7 : (goT m k).1 33 7 = (goF n k).1 14 3 := i2.2.1.2.2.1
    rcases i3 with ⟨j1, j2, j3, j4⟩ | ⟨j1, j2, j3⟩
    · by_cases h4 : (goF n k).1 14 3 = 4
      · have e1 : goF n (k + 1) = goF n k := go_stop (Or.inr h4) 1
        have e2 : goT m (k + 1) = goT m k := goT_stop (Or.inr (e7.trans h4)) 1
        rw [e1, e2]
        exact ⟨i1, i2, Or.inl ⟨j1, j2, j3, Or.inl h4⟩⟩
      · have h3 : (goF n k).1 14 3 < 4 := by have := i2.1.2.2.2.2.2; omega
        have hs := st_R i2 j2 h3 (by omega)
        have e1 : goF n (k + 1) = stF (goF n k).1 := by simp only [goF]; rw [if_pos j1, if_neg h4]
        have e2 : goT m (k + 1) = stM (goT m k).1 := by simp only [goT]; rw [if_pos (by omega), if_neg (by rw [e7]; exact h4)]
        rw [e1, e2]
        refine ⟨hs.1, hs.2.1, ?_⟩
        rcases hs.2.2 with ⟨s1, s2, s3, s4⟩ | ⟨s1, s2, s3⟩
        · refine Or.inl ⟨s1, s2, by omega, Or.inr ?_⟩
          rcases j4 with j4 | j4
          · exact absurd j4 h4
          · omega
        · exact Or.inr ⟨s1, s2, by omega⟩
    · have e1 : goF n (k + 1) = goF n k := go_stop (Or.inl (by omega)) 1
      have e2 : goT m (k + 1) = goT m k := goT_stop (Or.inl (by omega)) 1
      rw [e1, e2]
      exact ⟨i1, i2, Or.inr ⟨j1, j2, j3⟩⟩
theorem mu_le {n : Nat → Nat → Nat} (hD : DX n) : muF n ≤ 132 := by
  have := hamF_le (n 6) (n 12) (n 14 5)
  have := hD.1.2.2
  unfold muF
  omega
/-- both stop in time -/
theorem go_end {n m : Nat → Nat → Nat} (h : RX n m) (hp : m 33 9 = m 33 8) (h512 : n 14 0 < 512) : RX (goF n 256).1 (goT m 256).1 ∧ (¬ (goT m 256).2 = 0 ∨ (goT m 256).1 33 7 = 4) ∧ (goF n 256).1 14 0 ≤ n 14 0 + 1 ∧ n 14 0 ≤ (goF n 256).1 14 0 := by
  obtain ⟨i1, i2, i3⟩ := go_R h hp h512 256
  have hmu := mu_le h.1
  refine ⟨i2, ?_, ?_, ?_⟩
  · rcases i3 with ⟨j1, j2, j3, j4⟩ | ⟨j1, j2, j3⟩
    · rcases j4 with j4 | j4
      · exact Or.inr (i2.2.1.2.2.1.trans j4)
      · omega
    · exact Or.inl (by omega)
  · rcases i3 with ⟨j1, j2, j3, j4⟩ | ⟨j1, j2, j3⟩ <;> omega
  · rcases i3 with ⟨j1, j2, j3, j4⟩ | ⟨j1, j2, j3⟩ <;> omega
theorem RX_DI {n m : Nat → Nat → Nat} (h : RX n m) (h512 : n 14 0 < 512) : DI n := by
  obtain ⟨hD, h1, h2, h3, h4, h5, h6, h7, h8, h9, hb, hd2, hBn, hBm, hBK⟩ := h
  obtain ⟨a1, a2, a3, a4, a5, a6⟩ := hD
  exact ⟨⟨a1.1, by omega, a1.2.1, a1.2.2⟩, fun p i _ => hBn _ _, fun p i hp hi => by have := a2 p i hp hi; omega, fun i => (a3 i).2, h512, a5, a6⟩
theorem RX_MI {n m : Nat → Nat → Nat} (h : RX n m) (h512 : n 14 0 < 512) : MI m := by
  obtain ⟨hD, h1, h2, h3, h4, h5, h6, h7, h8, h9, hb, hd2, hBn, hBm, hBK⟩ := h
  obtain ⟨a1, a2, a3, a4, a5, a6⟩ := hD
  obtain ⟨b1, b2, b3, b4, b5, b6⟩ := h1
  refine ⟨⟨by omega, by omega, by omega, by omega⟩, hBm, fun p i hp hi => ?_, hb.1, by omega, by omega, by omega, by have := h8.1; omega⟩
  have e := h3 p i hp (by omega)
  have := a2 p i hp (by omega)
  show m 41 (128 * p + i) < 128
  omega
/-- the same relation, where the rows are the same -/
theorem RX_rows {n m n' m' : Nat → Nat → Nat} (h : RX n m) (hn : ∀ r, r < 33 → n' r = n r) (hm : ∀ r, r ≠ 33 → 33 ≤ r → m' r = m r) (h33 : ∀ j, j ≠ 0 → m' 33 j = m 33 j) (hBn' : NB n') (hBm' : NB m') : RX n' m' := by
  obtain ⟨hD, h1, h2, h3, h4, h5, h6, h7, h8, h9, hb, hd2, hBn, hBm, hBK⟩ := h
  have e20 : ∀ p, p < 4 → n' (20 + p) = n (20 + p) := fun p hp => hn _ (by omega)
  have e25 : ∀ p, p < 4 → n' (25 + p) = n (25 + p) := fun p hp => hn _ (by omega)
  have e14 := hn 14 (by decide)
  have ekw : ∀ p f9 t, kwF m' p f9 t = kwF m p f9 t := fun p f9 t => kwF_eq (hm 42 (by decide) (by decide)) (hm 43 (by decide) (by decide)) (hm 44 (by decide) (by decide)) (hm 45 (by decide) (by decide)) (h33 9 (by decide)) p f9 t
  have m42 := hm 42 (by decide) (by decide)
  have m43 := hm 43 (by decide) (by decide)
  have m44 := hm 44 (by decide) (by decide)
  refine ⟨DX_c hD (by rw [e14]) (by rw [e14]) (hn 6 (by decide)) (fun i => by rw [hn 12 (by decide)]; exact (hD.2.2.1 i).2) e20 e25 (by rw [hn 15 (by decide)]; exact hD.2.2.2.2.1) (by rw [e14]; exact hD.2.2.2.2.2), ?_, ?_, R3_c h3 (by rw [e14]) e20 (hm 41 (by decide) (by decide)), R4_c h4 (by rw [e14]) (by rw [e14]) e25 ekw, ?_, ?_, ?_, ?_, ?_, ?_, ?_, hBn', hBm', BK_c hBK (by rw [e14]) (by rw [e14]) (by rw [e14]) e25⟩
  · unfold R1
    rw [e14, hn 15 (by decide), h33 6 (by decide), h33 2 (by decide), h33 7 (by decide), h33 8 (by decide), h33 11 (by decide), h33 10 (by decide)]
    exact h1
  · intro i hi
    rw [hn 6 (by decide), hn 12 (by decide), hm 38 (by decide) (by decide)]
    exact h2 i hi
  · intro q9 a1 a2
    rw [e14] at a2
    have := h5 q9 a1 a2
    unfold QW at this ⊢
    rw [m42, m43, m44, e14, hn 29 (by decide)]
    exact this
  · intro i hi
    rw [hn 15 (by decide)] at hi
    obtain ⟨b1, b2, b3, b4, b5, b6, b7, b8⟩ := h6 i hi
    rw [hn 16 (by decide), hn 17 (by decide), hn 18 (by decide), e14, hm 46 (by decide) (by decide), hm 47 (by decide) (by decide), hm 48 (by decide) (by decide)]
    refine ⟨b1, b2, b3, b4, b5, b6, b7, fun hx9 => ?_⟩
    rw [b8 hx9]
    have hq := (h5 (n 17 i) b5 b6).1
    exact (tq_c (by rw [m42]) (by rw [m43]) (by rw [m44]) (hn 6 (by decide)) (hn _ (by omega))).symm
  · intro hn1
    rw [e14] at hn1 ⊢
    rw [m42, m43, m44, rg_c (by rw [e14]) (by rw [e14])]
    exact h7 hn1
  · unfold R8
    rw [h33 9 (by decide), h33 8 (by decide), m42, e14]
    refine ⟨h8.1, h8.2.1, fun hx => ?_⟩
    have hx2 := h8.2.2 hx
    have h18 : 1 ≤ n 14 0 := by have := h1.2.2.2.1; omega
    have hq := (h5 (n 14 0) h18 (Nat.le_refl _)).1
    rw [hn _ (by omega)]
    exact hx2
  · intro q9 a1 a2
    rw [h33 9 (by decide)] at a2
    rw [hm 45 (by decide) (by decide)]
    exact h9 q9 a1 a2
  · exact ⟨fun i => by rw [hm 38 (by decide) (by decide)]; exact hb.1 i, fun i => by rw [hm 46 (by decide) (by decide)]; exact hb.2 i⟩
  · rw [e14]; exact hd2
