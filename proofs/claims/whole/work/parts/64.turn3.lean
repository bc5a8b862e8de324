/-! turns: record, sift -/
theorem ku_r (n : Nat → Nat → Nat) (i j v y : Nat) : ku n i j v i y = if y = j then v else n i y := by simp [ku]
theorem and1_lt (x : Nat) : x &&& 1 < 2 := by rw [Nat.and_one_is_mod]; omega
theorem any_all {r : Nat → Nat} {f : Nat} : ∀ k, anyF r f k = 0 → ∀ j, j < k → r (f + j) = 0
  | 0, _, j, hj => absurd hj (by omega)
  | k + 1, h, j, hj => by
    have h1 : anyF r f k = 0 := by
      apply Decidable.byContradiction
      intro q
      simp only [anyF, if_neg q] at h
      exact absurd h (by decide)
    simp only [anyF, h1, if_true] at h
    by_cases hjk : j < k
    · exact any_all k h1 j hjk
    · have : j = k := by omega
      subst this
      apply Decidable.byContradiction
      intro q
      rw [if_neg q] at h
      exact absurd h (by decide)
theorem any_c {r r' : Nat → Nat} {f f' : Nat} : ∀ k, (∀ j, j < k → r (f + j) = r' (f' + j)) → anyF r f k = anyF r' f' k
  | 0, _ => rfl
  | k + 1, h => by
    simp only [anyF]
    rw [any_c k (fun j hj => h j (by omega)), h k (by omega)]
theorem ct_c {r r' : Nat → Nat} : ∀ k, (∀ j, j < k → r j = r' j) → ctF r k = ctF r' k
  | 0, _ => rfl
  | k + 1, h => by
    simp only [ctF]
    rw [ct_c k (fun j hj => h j (by omega)), h k (by omega)]
theorem ct_rng {r r' : Nat → Nat} {f k : Nat} (h : ∀ i, r' i = if f ≤ i ∧ i < f + k then 1 else r i) (hz : ∀ j, j < k → r (f + j) = 0) : ∀ N, ctF r' N = ctF r N + (if N ≤ f then 0 else if N ≤ f + k then N - f else k)
  | 0 => by simp [ctF]
  | N + 1 => by
    have ih := ct_rng h hz N
    simp only [ctF]
    rw [h N]
    by_cases hx : f ≤ N ∧ N < f + k
    · have := hz (N - f) (by omega)
      rw [show f + (N - f) = N by omega] at this
      rw [if_pos hx, if_neg (by decide), if_pos this, ih]
      (repeat' split) <;> omega
    · rw [if_neg hx]
      by_cases hq : r N = 0
      · rw [if_pos hq, if_pos hq, ih]
        (repeat' split) <;> omega
      · rw [if_neg hq, if_neg hq, ih]
        (repeat' split) <;> omega
theorem ifr {f k i : Nat} {x y : Nat} (h : ¬ i = f + k) : (if f ≤ i ∧ i < f + (k + 1) then x else y) = if f ≤ i ∧ i < f + k then x else y := by
  by_cases hy : f ≤ i ∧ i < f + k
  · rw [if_pos hy, if_pos (by omega)]
  · rw [if_neg hy, if_neg (by omega)]
theorem note_r {n : Nat → Nat → Nat} {o f b v s : Nat} : ∀ k i, noteF n o f b v s k (o + 1) i = (if f ≤ i ∧ i < f + k then 1 else n (o + 1) i) ∧ noteF n o f b v s k (o + 2) i = (if f ≤ i ∧ i < f + k then b / 2 ^ (i - f) &&& 1 else n (o + 2) i) ∧ noteF n o f b v s k (o + 3) i = (if f ≤ i ∧ i < f + k then v / 2 ^ (i - f) &&& 1 else n (o + 3) i) ∧ noteF n o f b v s k (o + 4) i = (if f ≤ i ∧ i < f + k then s / 2 ^ (i - f) &&& 1 else n (o + 4) i)
  | 0, i => by
    rw [if_neg (by omega), if_neg (by omega), if_neg (by omega), if_neg (by omega)]
    exact ⟨rfl, rfl, rfl, rfl⟩
  | k + 1, i => by
    obtain ⟨i1, i2, i3, i4⟩ := note_r (n := n) (o := o) (f := f) (b := b) (v := v) (s := s) k i
    simp only [noteF]
    refine ⟨?_, ?_, ?_, ?_⟩
    · rw [ku_n (by omega), ku_n (by omega), ku_n (by omega), ku_r]
      by_cases hx : i = f + k
      · rw [if_pos hx, if_pos (by omega)]
      · rw [if_neg hx, i1, ifr hx]
    · rw [ku_n (by omega), ku_n (by omega), ku_r, ku_n (by omega)]
      by_cases hx : i = f + k
      · rw [if_pos hx, if_pos (by omega), show i - f = k by omega]
      · rw [if_neg hx, i2, ifr hx]
    · rw [ku_n (by omega), ku_r, ku_n (by omega), ku_n (by omega)]
      by_cases hx : i = f + k
      · rw [if_pos hx, if_pos (by omega), show i - f = k by omega]
      · rw [if_neg hx, i3, ifr hx]
    · rw [ku_r, ku_n (by omega), ku_n (by omega), ku_n (by omega)]
      by_cases hx : i = f + k
      · rw [if_pos hx, if_pos (by omega), show i - f = k by omega]
      · rw [if_neg hx, i4, ifr hx]
theorem NB_note {n : Nat → Nat → Nat} {o f b v s : Nat} (h : NB n) : ∀ k, NB (noteF n o f b v s k)
  | 0 => h
  | k + 1 => by
    have a1 := and1_lt (b / 2 ^ k)
    have a2 := and1_lt (v / 2 ^ k)
    have a3 := and1_lt (s / 2 ^ k)
    exact NB_ku (NB_ku (NB_ku (NB_ku (NB_note h k) (by decide)) (by omega)) (by omega)) (by omega)
theorem nr0_r {n : Nat → Nat → Nat} {f b v : Nat} : ∀ k i, nr0 n f b v k 34 i = (if f ≤ i ∧ i < f + k then 1 else n 34 i) ∧ nr0 n f b v k 35 i = (if f ≤ i ∧ i < f + k then b / 2 ^ (i - f) &&& 1 else n 35 i) ∧ nr0 n f b v k 36 i = (if f ≤ i ∧ i < f + k then v / 2 ^ (i - f) &&& 1 else n 36 i)
  | 0, i => by
    rw [if_neg (by omega), if_neg (by omega), if_neg (by omega)]
    exact ⟨rfl, rfl, rfl⟩
  | k + 1, i => by
    obtain ⟨i1, i2, i3⟩ := nr0_r (n := n) (f := f) (b := b) (v := v) k i
    simp only [nr0]
    refine ⟨?_, ?_, ?_⟩
    · rw [ku_n (by omega), ku_n (by omega), ku_n (by omega), ku_r]
      by_cases hx : i = f + k
      · rw [if_pos hx, if_pos (by omega)]
      · rw [if_neg hx, i1, ifr hx]
    · rw [ku_n (by omega), ku_n (by omega), ku_r, ku_n (by omega)]
      by_cases hx : i = f + k
      · rw [if_pos hx, if_pos (by omega), show i - f = k by omega]
      · rw [if_neg hx, i2, ifr hx]
    · rw [ku_n (by omega), ku_r, ku_n (by omega), ku_n (by omega)]
      by_cases hx : i = f + k
      · rw [if_pos hx, if_pos (by omega), show i - f = k by omega]
      · rw [if_neg hx, i3, ifr hx]
theorem nr0_o {n : Nat → Nat → Nat} {f b v r : Nat} (h : r ≠ 34 ∧ r ≠ 35 ∧ r ≠ 36) : ∀ k, nr0 n f b v k r = n r
  | 0 => rfl
  | k + 1 => by
    by_cases h7 : r = 37
    · rw [h7]; exact nr0_37 _
    · simp only [nr0]
      rw [ku_row h7, ku_row h.2.2, ku_row h.2.1, ku_row h.1]
      exact nr0_o h k
theorem nr1_r {n : Nat → Nat → Nat} {f b v z : Nat} : ∀ k i, nr1 n f b v z k 34 i = (if 128 + f ≤ i ∧ i < 128 + f + k then 1 else n 34 i) ∧ nr1 n f b v z k 35 i = (if 128 + f ≤ i ∧ i < 128 + f + k then b / 2 ^ (i - (128 + f)) &&& 1 else n 35 i) ∧ nr1 n f b v z k 36 i = (if 128 + f ≤ i ∧ i < 128 + f + k then v / 2 ^ (i - (128 + f)) &&& 1 else n 36 i) ∧ nr1 n f b v z k 37 i = (if f ≤ i ∧ i < f + k then z / 2 ^ (i - f) &&& 1 else n 37 i)
  | 0, i => by
    rw [if_neg (by omega), if_neg (by omega), if_neg (by omega), if_neg (by omega)]
    exact ⟨rfl, rfl, rfl, rfl⟩
  | k + 1, i => by
    obtain ⟨i1, i2, i3, i4⟩ := nr1_r (n := n) (f := f) (b := b) (v := v) (z := z) k i
    have hb : (if z / 2 ^ k &&& 1 = 1 then 1 else 0) = z / 2 ^ k &&& 1 := by
      have := and1_lt (z / 2 ^ k)
      split <;> omega
    simp only [nr1, hb]
    refine ⟨?_, ?_, ?_, ?_⟩
    · rw [ku_n (by omega), ku_n (by omega), ku_n (by omega), ku_r]
      by_cases hx : i = 128 + f + k
      · rw [if_pos hx, if_pos (by omega)]
      · rw [if_neg hx, i1, ifr hx]
    · rw [ku_n (by omega), ku_n (by omega), ku_r, ku_n (by omega)]
      by_cases hx : i = 128 + f + k
      · rw [if_pos hx, if_pos (by omega), show i - (128 + f) = k by omega]
      · rw [if_neg hx, i2, ifr hx]
    · rw [ku_n (by omega), ku_r, ku_n (by omega), ku_n (by omega)]
      by_cases hx : i = 128 + f + k
      · rw [if_pos hx, if_pos (by omega), show i - (128 + f) = k by omega]
      · rw [if_neg hx, i3, ifr hx]
    · rw [ku_r, ku_n (by omega), ku_n (by omega), ku_n (by omega)]
      by_cases hx : i = f + k
      · rw [if_pos hx, if_pos (by omega), show i - f = k by omega]
      · rw [if_neg hx, i4, ifr hx]
theorem nr1_o {n : Nat → Nat → Nat} {f b v z r : Nat} (h : r ≠ 34 ∧ r ≠ 35 ∧ r ≠ 36 ∧ r ≠ 37) : ∀ k, nr1 n f b v z k r = n r
  | 0 => rfl
  | k + 1 => by
    simp only [nr1]
    rw [ku_row h.2.2.2, ku_row h.2.2.1, ku_row h.2.1, ku_row h.1]
    exact nr1_o h k
theorem IV_ns {t : Nat} {n : Nat → Nat → Nat} {g : Nat → Nat} (h : IV t n g) (h1 : n 14 3 = 4294967295) : IB0 n := by
  rcases h.2.2.2.2.1 with h0 | h2
  · exact h0
  · have := h2.2.2.2.1.2.2.2.2.2; omega
theorem IV_nb {t : Nat} {n : Nat → Nat → Nat} {g : Nat → Nat} (h : IV t n g) (h1 : n 0 0 = 4294967295) : IB0 n := by
  rcases h.2.2.2.2.1 with h0 | h2
  · exact h0
  · have := h2.2.1; have := h2.2.2.2.1.1.2.2; omega
/-- while not begun: what stays when the dialogue's rows stay -/
theorem IV_pre {t : Nat} {n n2 : Nat → Nat → Nat} {g g2 : Nat → Nat} (h : IV t n g) (h0 : IB0 n) (hB : NB n2) (hR : IRc n2) (hS : ISt n2) (hr : ∀ r, r = 14 ∨ r = 15 ∨ r = 32 ∨ r = 46 → n2 r = n r) (e03 : n2 0 3 = n 0 3) (h33 : ∀ j, 5 ≤ j → n2 33 j = n 33 j) : IV (t + 1) n2 g2 := by
  obtain ⟨-, -, -, hK, -, ht⟩ := h
  obtain ⟨k1, k2, k3, k4⟩ := hK
  have h00 := h0
  obtain ⟨b1, b2, b3, b4, b5, b6, b7, b8, b9, b10, b11⟩ := h0
  have hz : n 0 3 = 0 := by
    apply Decidable.byContradiction
    intro q
    have := (k4 (by omega)).1
    omega
  refine ⟨hB, hR, hS, ⟨by rw [e03, h33 12 (by omega)]; exact k1, by rw [e03]; exact k2, by rw [hr 32 (by omega)]; exact k3, fun q => by omega⟩, Or.inl ?_, by rw [hr 14 (by omega)]; omega⟩
  unfold IB0
  rw [hr 14 (by omega), hr 15 (by omega), hr 46 (by omega), h33 5 (by omega), h33 7 (by omega), h33 11 (by omega), h33 8 (by omega), h33 9 (by omega), h33 10 (by omega)]
  exact h00
theorem ISt_c {n n2 : Nat → Nat → Nat} (hS : ISt n) (hr : ∀ r, r = 0 ∨ r = 6 ∨ r = 12 ∨ r = 38 → n2 r = n r) (h33 : ∀ j, j ≠ 0 → n2 33 j = n 33 j) : ISt n2 := by
  unfold ISt
  rw [hr 0 (by omega), hr 6 (by omega), hr 12 (by omega), hr 38 (by omega), h33 1 (by omega), h33 2 (by omega), h33 3 (by omega), h33 4 (by omega)]
  exact hS
theorem if_lt2 {P : Prop} [Decidable P] {x y : Nat} (hx : x < 2) (hy : y < 2) : (if P then x else y) < 2 := by split <;> assumption
theorem T_record {l : Launch} (hlt : l.stackTraces = false) {d : Nat → Nat} {D : va_G} {a : Nat → Nat} (hap : ∀ i j : Nat, i < 52 → j < 52 → a i = a j → i = j) (t : Nat) (n : Nat → Nat → Nat) (g : Nat → Nat) (_ : t < 512) (h : IV t n g) (p0 : Nat) (p1 : Nat) (p2 : Nat) (p3 : Nat) (p4 : Nat) (p5 : Nat) (hp0 : p0 < 4294967296) (hp1 : p1 < 4294967296) (hp2 : p2 < 4294967296) (hp3 : p3 < 4294967296) (hp4 : p4 < 4294967296) (hp5 : p5 < 4294967296) : TB (IV (t + 1)) l d D a n g jy_L_record jb_L_record 9 [(0, 18, 21, 13), (0, 18, 25, 15)] [.ref (a 0), .int (nI p0), .int (nI p1), .int (nI p2), .int (nI p3), .int (nI p4), .int (nI p5), .ref (a 51)] jy_M_record jb_M_record 10 [.ref (a 33), .int (nI p0), .int (nI p1), .int (nI p2), .int (nI p3), .int (nI p4), .int (nI p5)] := by
  by_cases hg : p0 < 2 ∧ 1 ≤ p2 ∧ p2 ≤ 32 ∧ p1 + p2 ≤ 128
  · obtain ⟨g0, g1, g2, g3⟩ := hg
    obtain ⟨r1, r2, r3, r4⟩ := h.2.1
    rcases IV_len h with ⟨h1, h2, h3⟩ | ⟨h1, h2, h3, h4⟩
    · have h0 := IV_nb h h1
      rcases (show p0 = 0 ∨ p0 = 1 by omega) with rfl | rfl
      · have ea : anyF (n 2) p1 p2 = anyF (n 34) p1 p2 := any_c _ (fun j hj => (r1 (p1 + j) (by omega)).1)
        by_cases ha : anyF (n 34) p1 p2 = 0
        · have hz := any_all _ ha
          have hK := c_K_record_1 l d D a n g hap p1 p2 p3 p4 p5 hp1 hp2 hp3 hp4 hp5 g1 g2 g3 h.1 h1 (by rw [ea]; exact ha)
          have hct : ctF (n 34) 128 ≤ 128 := by
            have : ∀ k, ctF (n 34) k ≤ k := fun k => by
              induction k with
              | zero => exact Nat.le_refl _
              | succ k ih => simp only [ctF]; split <;> omega
            exact this 128
          have hB1 : NB (ku (noteF n 1 p1 p3 p4 p5 p2) 1 0 (n 1 0 + p2)) := NB_ku (NB_note h.1 _) (by omega)
          have o1 : ∀ r, 6 ≤ r → ku (noteF n 1 p1 p3 p4 p5 p2) 1 0 (n 1 0 + p2) r = n r := fun r hr => by rw [ku_row (by omega), noteF_o (by omega)]
          have hM := c_M_record_g_0 l d D a (ku (noteF n 1 p1 p3 p4 p5 p2) 1 0 (n 1 0 + p2)) (kg g 2 (n 1 0 + p2)) hap hB1 p1 p2 p3 p4 p5 g1 g2 g3 (by rw [o1 33 (by decide)]; exact h2) (by rw [o1 34 (by decide)]; exact ha) (fun i => by rw [o1 37 (by decide)]; exact (r2 i).2.1)
          generalize hn1 : ku (noteF n 1 p1 p3 p4 p5 p2) 1 0 (n 1 0 + p2) = n1 at hK hM hB1 o1
          have q2 := fun i => (note_r (n := n) (o := 1) (f := p1) (b := p3) (v := p4) (s := p5) p2 i)
          have w2 : ∀ i, n1 2 i = (if p1 ≤ i ∧ i < p1 + p2 then 1 else n 2 i) := fun i => by rw [← hn1, ku_n (by decide)]; exact (q2 i).1
          have w3 : ∀ i, n1 3 i = (if p1 ≤ i ∧ i < p1 + p2 then p3 / 2 ^ (i - p1) &&& 1 else n 3 i) := fun i => by rw [← hn1, ku_n (by decide)]; exact (q2 i).2.1
          have w4 : ∀ i, n1 4 i = (if p1 ≤ i ∧ i < p1 + p2 then p4 / 2 ^ (i - p1) &&& 1 else n 4 i) := fun i => by rw [← hn1, ku_n (by decide)]; exact (q2 i).2.2.1
          have w1 : n1 1 0 = n 1 0 + p2 := by rw [← hn1]; exact ku_s _ _ _ _
          have q3 := fun i => (nr0_r (n := ku n1 33 0 0) (f := p1) (b := p3) (v := p4) p2 i)
          have o2 : ∀ r, r ≠ 33 → r ≠ 34 → r ≠ 35 → r ≠ 36 → nr0 (ku n1 33 0 0) p1 p3 p4 p2 r = n1 r := fun r a b c d => by rw [nr0_o ⟨b, c, d⟩, ku_row a]
          have o3 : nr0 (ku n1 33 0 0) p1 p3 p4 p2 33 = ku n1 33 0 0 33 := nr0_o (by decide) _
          have hB2 : NB (nr0 (ku n1 33 0 0) p1 p3 p4 p2) := NB_nr0 (NB_ku hB1 (by decide)) _
          generalize hn2 : nr0 (ku n1 33 0 0) p1 p3 p4 p2 = n2 at hM q3 o2 o3 hB2
          have v34 : ∀ i, n2 34 i = (if p1 ≤ i ∧ i < p1 + p2 then 1 else n 34 i) := fun i => by rw [(q3 i).1, ku_n (by decide), o1 34 (by decide)]
          have v35 : ∀ i, n2 35 i = (if p1 ≤ i ∧ i < p1 + p2 then p3 / 2 ^ (i - p1) &&& 1 else n 35 i) := fun i => by rw [(q3 i).2.1, ku_n (by decide), o1 35 (by decide)]
          have v36 : ∀ i, n2 36 i = (if p1 ≤ i ∧ i < p1 + p2 then p4 / 2 ^ (i - p1) &&& 1 else n 36 i) := fun i => by rw [(q3 i).2.2, ku_n (by decide), o1 36 (by decide)]
          have ect : ctF (n2 34) 128 = n 1 0 + p2 := by
            rw [ct_rng v34 hz 128, ← r3, if_neg (by omega)]
            split <;> omega
          have e33 : ∀ j, j ≠ 0 → n2 33 j = n 33 j := fun j hj => by rw [o3, ku_m hj, o1 33 (by decide)]
          have e00 : n1 0 = n 0 := by rw [← hn1, ku_row (by decide), noteF_o (by decide)]
          have eo : ∀ r, (r = 0 ∨ (6 ≤ r ∧ r < 33) ∨ 37 ≤ r) → n2 r = n r := fun r hr => by
            rw [o2 r (by omega) (by omega) (by omega) (by omega)]
            rcases (show r = 0 ∨ 6 ≤ r by omega) with rfl | h6
            · exact e00
            · exact o1 r h6
          refine ⟨0, _, n1, kg g 2 (n 1 0 + p2), n2, kg g 2 (n 1 0 + p2), _, w_record_r l d D a n g hap 0 p1 p2 p3 p4 p5 _ _ g (by omega) _ ⟨by decide, by decide, rfl, rfl⟩ hK, ⟨by decide, by decide, rfl, rfl⟩, hM, by decide, by rw [o3, ku_s], fun _ => ⟨by rw [kg_s, ect], by omega⟩, ?_⟩
          refine IV_pre h h0 hB2 ⟨fun i hi => ?_, fun i => ?_, ?_, ?_⟩ (ISt_c h.2.2.1 (fun r hr => eo r (by omega)) e33) (fun r hr => eo r (by omega)) (by rw [eo 0 (by omega)]) (fun j hj => e33 j (by omega))
          · obtain ⟨x1, x2, x3, x4, x5, x6, x7⟩ := r1 i hi
            rw [o2 2 (by decide) (by decide) (by decide) (by decide), o2 3 (by decide) (by decide) (by decide) (by decide), o2 4 (by decide) (by decide) (by decide) (by decide), w2, w3, w4, eo 8 (by omega), eo 9 (by omega), eo 10 (by omega), eo 11 (by omega), eo 37 (by omega), v34, v34, v35, v35, v36, v36, x1, x3, x5, if_neg (show ¬ (p1 ≤ 128 + i ∧ 128 + i < p1 + p2) by omega), if_neg (show ¬ (p1 ≤ 128 + i ∧ 128 + i < p1 + p2) by omega), if_neg (show ¬ (p1 ≤ 128 + i ∧ 128 + i < p1 + p2) by omega)]
            exact ⟨rfl, x2, rfl, x4, rfl, x6, x7⟩
          · obtain ⟨x1, x2, x3, x4, x5⟩ := r2 i
            rw [v34, eo 37 (by omega), v36, o2 4 (by decide) (by decide) (by decide) (by decide), w4, eo 10 (by omega)]
            exact ⟨if_lt2 (by decide) x1, x2, if_lt2 (and1_lt _) x3, if_lt2 (and1_lt _) x4, x5⟩
          · rw [ect, o2 1 (by decide) (by decide) (by decide) (by decide), w1]
          · rw [eo 7 (by omega), r4]
            exact ct_c _ (fun j hj => by rw [v34, if_neg (by omega)])
        · exact TB_th 2 (by decide) (w_record_IS l d D a n g 0 p1 p2 p3 p4 p5 _ ⟨by decide, by decide, rfl, rfl⟩ (t_K_record_IS_1a l d D a n g hlt p1 p2 p3 p4 p5 hp1 hp2 hp3 hp4 hp5 g1 g2 g3 h.1 h1 (by rw [ea]; exact ha))) ⟨by decide, by decide, rfl, rfl⟩ (kk_th _ _ _ _ _) (c_M_record_2b_0 l d D a n g hap h.1 p1 p2 p3 p4 p5 g1 g2 g3 h2 ha) (IV_th h (by decide))
      · have ea : anyF (n 8) p1 p2 = anyF (n 34) (128 + p1) p2 := any_c _ (fun j hj => by rw [show 128 + p1 + j = 128 + (p1 + j) by omega]; exact (r1 (p1 + j) (by omega)).2.1)
        by_cases ha : anyF (n 34) (128 + p1) p2 = 0
        · have hz := any_all _ ha
          have hK := c_K_record_7 l d D a n g hap p1 p2 p3 p4 p5 hp1 hp2 hp3 hp4 hp5 g1 g2 g3 h.1 h1 (by rw [ea]; exact ha)
          have hct : ctF (fun i => n 34 (128 + i)) 128 ≤ 128 := by
            have : ∀ k, ctF (fun i => n 34 (128 + i)) k ≤ k := fun k => by
              induction k with
              | zero => exact Nat.le_refl _
              | succ k ih => simp only [ctF]; split <;> omega
            exact this 128
          have hB1 : NB (ku (noteF n 7 p1 p3 p4 p5 p2) 7 0 (n 7 0 + p2)) := NB_ku (NB_note h.1 _) (by omega)
          have o1 : ∀ r, (r < 7 ∨ 12 ≤ r) → ku (noteF n 7 p1 p3 p4 p5 p2) 7 0 (n 7 0 + p2) r = n r := fun r hr => by rw [ku_row (by omega), noteF_o (by omega)]
          have hM := c_M_record_g_1 l d D a (ku (noteF n 7 p1 p3 p4 p5 p2) 7 0 (n 7 0 + p2)) (kg g 2 (n 7 0 + p2)) hap hB1 p1 p2 p3 p4 p5 g1 g2 g3 (by rw [o1 33 (by omega)]; exact h2) (by rw [o1 34 (by omega)]; exact ha) (fun i => by rw [o1 37 (by omega)]; exact (r2 i).2.1)
          generalize hn1 : ku (noteF n 7 p1 p3 p4 p5 p2) 7 0 (n 7 0 + p2) = n1 at hK hM hB1 o1
          have q2 := fun i => (note_r (n := n) (o := 7) (f := p1) (b := p3) (v := p4) (s := p5) p2 i)
          have w2 : ∀ i, n1 8 i = (if p1 ≤ i ∧ i < p1 + p2 then 1 else n 8 i) := fun i => by rw [← hn1, ku_n (by decide)]; exact (q2 i).1
          have w3 : ∀ i, n1 9 i = (if p1 ≤ i ∧ i < p1 + p2 then p3 / 2 ^ (i - p1) &&& 1 else n 9 i) := fun i => by rw [← hn1, ku_n (by decide)]; exact (q2 i).2.1
          have w4 : ∀ i, n1 10 i = (if p1 ≤ i ∧ i < p1 + p2 then p4 / 2 ^ (i - p1) &&& 1 else n 10 i) := fun i => by rw [← hn1, ku_n (by decide)]; exact (q2 i).2.2.1
          have w5 : ∀ i, n1 11 i = (if p1 ≤ i ∧ i < p1 + p2 then p5 / 2 ^ (i - p1) &&& 1 else n 11 i) := fun i => by rw [← hn1, ku_n (by decide)]; exact (q2 i).2.2.2
          have w1 : n1 7 0 = n 7 0 + p2 := by rw [← hn1]; exact ku_s _ _ _ _
          have q3 := fun i => (nr1_r (n := ku n1 33 0 0) (f := p1) (b := p3) (v := p4) (z := p5) p2 i)
          have o2 : ∀ r, r ≠ 33 → r ≠ 34 → r ≠ 35 → r ≠ 36 → r ≠ 37 → nr1 (ku n1 33 0 0) p1 p3 p4 p5 p2 r = n1 r := fun r a b c d e => by rw [nr1_o ⟨b, c, d, e⟩, ku_row a]
          have o3 : nr1 (ku n1 33 0 0) p1 p3 p4 p5 p2 33 = ku n1 33 0 0 33 := nr1_o (by decide) _
          have hB2 : NB (nr1 (ku n1 33 0 0) p1 p3 p4 p5 p2) := NB_nr1 (NB_ku hB1 (by decide)) _
          generalize hn2 : nr1 (ku n1 33 0 0) p1 p3 p4 p5 p2 = n2 at hM q3 o2 o3 hB2
          have v34 : ∀ i, n2 34 i = (if 128 + p1 ≤ i ∧ i < 128 + p1 + p2 then 1 else n 34 i) := fun i => by rw [(q3 i).1, ku_n (by decide), o1 34 (by omega)]
          have v35 : ∀ i, n2 35 i = (if 128 + p1 ≤ i ∧ i < 128 + p1 + p2 then p3 / 2 ^ (i - (128 + p1)) &&& 1 else n 35 i) := fun i => by rw [(q3 i).2.1, ku_n (by decide), o1 35 (by omega)]
          have v36 : ∀ i, n2 36 i = (if 128 + p1 ≤ i ∧ i < 128 + p1 + p2 then p4 / 2 ^ (i - (128 + p1)) &&& 1 else n 36 i) := fun i => by rw [(q3 i).2.2.1, ku_n (by decide), o1 36 (by omega)]
          have v37 : ∀ i, n2 37 i = (if p1 ≤ i ∧ i < p1 + p2 then p5 / 2 ^ (i - p1) &&& 1 else n 37 i) := fun i => by rw [(q3 i).2.2.2, ku_n (by decide), o1 37 (by omega)]
          have s34 : ∀ i, n2 34 (128 + i) = (if p1 ≤ i ∧ i < p1 + p2 then 1 else n 34 (128 + i)) := fun i => by
            rw [v34]
            by_cases hx : p1 ≤ i ∧ i < p1 + p2
            · rw [if_pos hx, if_pos (by omega)]
            · rw [if_neg hx, if_neg (by omega)]
          have s35 : ∀ i, n2 35 (128 + i) = (if p1 ≤ i ∧ i < p1 + p2 then p3 / 2 ^ (i - p1) &&& 1 else n 35 (128 + i)) := fun i => by
            rw [v35]
            by_cases hx : p1 ≤ i ∧ i < p1 + p2
            · rw [if_pos hx, if_pos (by omega), show 128 + i - (128 + p1) = i - p1 by omega]
            · rw [if_neg hx, if_neg (by omega)]
          have s36 : ∀ i, n2 36 (128 + i) = (if p1 ≤ i ∧ i < p1 + p2 then p4 / 2 ^ (i - p1) &&& 1 else n 36 (128 + i)) := fun i => by
            rw [v36]
            by_cases hx : p1 ≤ i ∧ i < p1 + p2
            · rw [if_pos hx, if_pos (by omega), show 128 + i - (128 + p1) = i - p1 by omega]
            · rw [if_neg hx, if_neg (by omega)]
          have ect : ctF (fun i => n2 34 (128 + i)) 128 = n 7 0 + p2 := by
            rw [ct_rng (r := fun i => n 34 (128 + i)) s34 (fun j hj => by show n 34 (128 + (p1 + j)) = 0; rw [← Nat.add_assoc]; exact hz j hj) 128, ← r4, if_neg (by omega)]
            split <;> omega
          have e33 : ∀ j, j ≠ 0 → n2 33 j = n 33 j := fun j hj => by rw [o3, ku_m hj, o1 33 (by omega)]
          have eo : ∀ r, (r < 7 ∨ (12 ≤ r ∧ r < 33) ∨ 38 ≤ r) → n2 r = n r := fun r hr => by
            rw [o2 r (by omega) (by omega) (by omega) (by omega) (by omega)]
            exact o1 r (by omega)
          refine ⟨0, _, n1, kg g 2 (n 7 0 + p2), n2, kg g 2 (n 7 0 + p2), _, w_record_r l d D a n g hap 1 p1 p2 p3 p4 p5 _ _ g (by omega) _ ⟨by decide, by decide, rfl, rfl⟩ hK, ⟨by decide, by decide, rfl, rfl⟩, hM, by decide, by rw [o3, ku_s], fun _ => ⟨by rw [kg_s, ect], by omega⟩, ?_⟩
          refine IV_pre h h0 hB2 ⟨fun i hi => ?_, fun i => ?_, ?_, ?_⟩ (ISt_c h.2.2.1 (fun r hr => eo r (by omega)) e33) (fun r hr => eo r (by omega)) (by rw [eo 0 (by omega)]) (fun j hj => e33 j (by omega))
          · obtain ⟨x1, x2, x3, x4, x5, x6, x7⟩ := r1 i hi
            rw [o2 8 (by decide) (by decide) (by decide) (by decide) (by decide), o2 9 (by decide) (by decide) (by decide) (by decide) (by decide), o2 10 (by decide) (by decide) (by decide) (by decide) (by decide), o2 11 (by decide) (by decide) (by decide) (by decide) (by decide), w2, w3, w4, w5, eo 2 (by omega), eo 3 (by omega), eo 4 (by omega), s34, s35, s36, v37, v34, v35, v36, x2, x4, x6, x7, if_neg (show ¬ (128 + p1 ≤ i ∧ i < 128 + p1 + p2) by omega), if_neg (show ¬ (128 + p1 ≤ i ∧ i < 128 + p1 + p2) by omega), if_neg (show ¬ (128 + p1 ≤ i ∧ i < 128 + p1 + p2) by omega)]
            exact ⟨x1, rfl, x3, rfl, x5, rfl, rfl⟩
          · obtain ⟨x1, x2, x3, x4, x5⟩ := r2 i
            rw [v34, v37, v36, o2 10 (by decide) (by decide) (by decide) (by decide) (by decide), w4, eo 4 (by omega)]
            exact ⟨if_lt2 (by decide) x1, if_lt2 (and1_lt _) x2, if_lt2 (and1_lt _) x3, x4, if_lt2 (and1_lt _) x5⟩
          · rw [eo 1 (by omega), r3]
            exact ct_c _ (fun j hj => by rw [v34, if_neg (by omega)])
          · rw [ect, o2 7 (by decide) (by decide) (by decide) (by decide) (by decide), w1]
        · exact TB_th 2 (by decide) (w_record_IS l d D a n g 1 p1 p2 p3 p4 p5 _ ⟨by decide, by decide, rfl, rfl⟩ (t_K_record_IS_7a l d D a n g hlt p1 p2 p3 p4 p5 hp1 hp2 hp3 hp4 hp5 g1 g2 g3 h.1 h1 (by rw [ea]; exact ha))) ⟨by decide, by decide, rfl, rfl⟩ (kk_th _ _ _ _ _) (c_M_record_2b_1 l d D a n g hap h.1 p1 p2 p3 p4 p5 g1 g2 g3 h2 ha) (IV_th h (by decide))
    · rcases (show p0 = 0 ∨ p0 = 1 by omega) with rfl | rfl
      · exact TB_th 2 (by decide) (w_record_IS l d D a n g 0 p1 p2 p3 p4 p5 _ ⟨by decide, by decide, rfl, rfl⟩ (t_K_record_IS_1s l d D a n g hlt p1 p2 p3 p4 p5 hp1 hp2 hp3 hp4 hp5 g1 g2 g3 h.1 h1)) ⟨by decide, by decide, rfl, rfl⟩ (kk_th _ _ _ _ _) (c_M_record_2a_0 l d D a n g hap h.1 p1 p2 p3 p4 p5 g1 g2 g3 h3) (IV_th h (by decide))
      · exact TB_th 2 (by decide) (w_record_IS l d D a n g 1 p1 p2 p3 p4 p5 _ ⟨by decide, by decide, rfl, rfl⟩ (t_K_record_IS_7s l d D a n g hlt p1 p2 p3 p4 p5 hp1 hp2 hp3 hp4 hp5 g1 g2 g3 h.1 h1)) ⟨by decide, by decide, rfl, rfl⟩ (kk_th _ _ _ _ _) (c_M_record_2a_1 l d D a n g hap h.1 p1 p2 p3 p4 p5 g1 g2 g3 h3) (IV_th h (by decide))
  · exact TB_th 1 (by decide) (w_record_IA l d D a n g p0 p1 p2 p3 p4 p5 _ ⟨by decide, by decide, rfl, rfl⟩ (t_K_record_IA l d D a n g hlt p0 p1 p2 p3 p4 p5 hp0 hp1 hp2 hp3 hp4 hp5 hg)) ⟨by decide, by decide, rfl, rfl⟩ rfl (c_M_record_1 l d D a n g hap p0 p1 p2 p3 p4 p5 hp0 hp1 hp2 (fun q => hg ⟨q.1, q.2.1.1, q.2.1.2, q.2.2⟩)) (IV_th h (by decide))
