/-! turns: sift -/
theorem siP_o {n : Nat → Nat → Nat} {r : Nat} (h : r ≠ 6 ∧ r ≠ 12) : ∀ k, (siP n k).1 r = n r
  | 0 => rfl
  | k + 1 => by
    have ih := siP_o (n := n) h k
    simp only [siP]
    split
    · exact ih
    · dsimp only
      rw [ku_row h.2, ku_row h.1]
      exact ih
theorem siM_o {n : Nat → Nat → Nat} {r : Nat} (h : r ≠ 33 ∧ r ≠ 38) : ∀ k, siM n k r = n r
  | 0 => rfl
  | k + 1 => by
    have ih := siM_o (n := n) h k
    simp only [siM]
    split
    · exact ih
    · split
      · exact ih
      · split
        · exact ih
        · split
          · rw [ku_row h.1, ku_row h.2, ku_row h.2]
            exact ih
          · exact ih
theorem siM_33 {n : Nat → Nat → Nat} {j : Nat} (h : j ≠ 2) : ∀ k, siM n k 33 j = n 33 j
  | 0 => rfl
  | k + 1 => by
    have ih := siM_33 (n := n) h k
    simp only [siM]
    split
    · exact ih
    · split
      · exact ih
      · split
        · exact ih
        · split
          · rw [ku_m h, ku_n (by decide), ku_n (by decide)]
            exact ih
          · exact ih
theorem siP_b {n : Nat → Nat → Nat} (h : ∀ i, n 6 i < 2 ∧ n 12 i < 2 ∧ n 4 i < 2 ∧ n 10 i < 2) : ∀ k i, (siP n k).1 6 i < 2 ∧ (siP n k).1 12 i < 2
  | 0, i => ⟨(h i).1, (h i).2.1⟩
  | k + 1, i => by
    have ih := siP_b h k i
    have e4 : (siP n k).1 4 = n 4 := siP_o (by decide) k
    have e10 : (siP n k).1 10 = n 10 := siP_o (by decide) k
    simp only [siP]
    split
    · exact ih
    · refine ⟨?_, ?_⟩
      · dsimp only
        rw [ku_n (by decide), ku_r, e4]
        exact if_lt2 (h k).2.2.1 ih.1
      · dsimp only
        rw [ku_r, ku_n (by decide), ku_n (by decide), e10]
        exact if_lt2 (h k).2.2.2 ih.2
theorem siM_b {n : Nat → Nat → Nat} (h : ∀ i, n 38 i < 2 ∧ n 36 i < 2) : ∀ k i, siM n k 38 i < 2
  | 0, i => (h i).1
  | k + 1, i => by
    have ih := siM_b h k i
    have e36 : siM n k 36 = n 36 := siM_o (by decide) k
    simp only [siM]
    split
    · exact ih
    · split
      · exact ih
      · split
        · exact ih
        · split
          · rw [ku_n (by decide), ku_r, ku_r, e36]
            exact if_lt2 (h _).2 (if_lt2 (h _).2 ih)
          · exact ih
theorem kp_c {n m : Nat → Nat → Nat} {k : Nat} (h2 : m 2 = n 2) (h8 : m 8 = n 8) (h11 : m 11 = n 11) (h3 : m 3 = n 3) (h9 : m 9 = n 9) : kpF m k = kpF n k := by
  unfold kpF
  rw [h2, h8, h11, h3, h9]
theorem si_R {n m : Nat → Nat → Nat} (hR : ∀ i, i < 128 → n 2 i = m 34 i ∧ n 8 i = m 34 (128 + i) ∧ n 3 i = m 35 i ∧ n 9 i = m 35 (128 + i) ∧ n 4 i = m 36 i ∧ n 10 i = m 36 (128 + i) ∧ n 11 i = m 37 i) (h37 : ∀ i, m 37 i < 2) (h2 : m 33 2 = 0) (hS : ∀ i, i < 128 → n 6 i = m 38 i ∧ n 12 i = m 38 (128 + i)) : ∀ k, k ≤ 128 → (siP n k).2 = siM m k 33 2 ∧ ∀ i, i < 128 → (siP n k).1 6 i = siM m k 38 i ∧ (siP n k).1 12 i = siM m k 38 (128 + i)
  | 0, _ => ⟨h2.symm, hS⟩
  | k + 1, hk => by
    obtain ⟨ih1, ih2⟩ := si_R hR h37 h2 hS k (by omega)
    obtain ⟨x1, x2, x3, x4, x5, x6, x7⟩ := hR k (by omega)
    have x8 := h37 k
    have hle := siP_le n k
    have ek : kpF (siP n k).1 k = kpF n k := kp_c (siP_o (by decide) k) (siP_o (by decide) k) (siP_o (by decide) k) (siP_o (by decide) k) (siP_o (by decide) k)
    have e4 : (siP n k).1 4 = n 4 := siP_o (by decide) k
    have e10 : (siP n k).1 10 = n 10 := siP_o (by decide) k
    have e34 : siM m k 34 = m 34 := siM_o (by decide) k
    have e35 : siM m k 35 = m 35 := siM_o (by decide) k
    have e36 : siM m k 36 = m 36 := siM_o (by decide) k
    have e37 : siM m k 37 = m 37 := siM_o (by decide) k
    simp only [siP, siM]
    rw [ek, e34, e35, e36, e37, e4]
    by_cases c1 : m 34 k = 0
    · have : kpF n k = 0 := by unfold kpF; rw [if_pos (by omega)]
      rw [if_pos this, if_pos c1]
      exact ⟨ih1, ih2⟩
    · rw [if_neg c1]
      by_cases c2 : m 34 (128 + k) = 0
      · have : kpF n k = 0 := by unfold kpF; rw [if_neg (by omega), if_pos (by omega)]
        rw [if_pos this, if_pos c2]
        exact ⟨ih1, ih2⟩
      · rw [if_neg c2]
        by_cases c3 : m 37 k = 0
        · have : kpF n k = 0 := by unfold kpF; rw [if_neg (by omega), if_neg (by omega), if_neg (by omega)]
          rw [if_pos this, if_pos c3]
          exact ⟨ih1, ih2⟩
        · rw [if_neg c3]
          by_cases c4 : m 35 k = m 35 (128 + k)
          · have : kpF n k = 1 := by unfold kpF; rw [if_neg (by omega), if_neg (by omega), if_pos (by omega), if_pos (by omega)]
            rw [if_neg (by omega), if_pos c4]
            refine ⟨?_, fun i hi => ⟨?_, ?_⟩⟩
            · dsimp only
              rw [ku_s, ih1]
            · dsimp only
              rw [ku_n (by decide), ku_r, ku_n (by decide), ku_r, ku_r, ← ih1, if_neg (show ¬ i = 128 + (siP n k).2 by omega), x5, (ih2 i hi).1]
            · dsimp only
              rw [ku_r, ku_n (by decide), ku_n (by decide), ku_n (by decide), ku_r, ku_r, ← ih1, if_neg (show ¬ 128 + i = (siP n k).2 by omega), e10, x6, (ih2 i hi).2]
              by_cases hx : i = (siP n k).2
              · rw [if_pos hx, if_pos (by omega)]
              · rw [if_neg hx, if_neg (by omega)]
          · have : kpF n k = 0 := by unfold kpF; rw [if_neg (by omega), if_neg (by omega), if_pos (by omega), if_neg (by omega)]
            rw [if_pos this, if_neg c4]
            exact ⟨ih1, ih2⟩
theorem T_sift {l : Launch} (hlt : l.stackTraces = false) {d : Nat → Nat} {D : va_G} {a : Nat → Nat} (hap : ∀ i j : Nat, i < 52 → j < 52 → a i = a j → i = j) (t : Nat) (n : Nat → Nat → Nat) (g : Nat → Nat) (_ : t < 512) (h : IV t n g) : TB (IV (t + 1)) l d D a n g jy_L_sift jb_L_sift 3 [(0, 8, 11, 15)] [.ref (a 0), .ref (a 51)] jy_M_sift jb_M_sift 2 [.ref (a 33)] := by
  rcases IV_len h with ⟨h1, h2, h3⟩ | ⟨h1, h2, h3, h4⟩
  · have h0 := IV_nb h h1
    obtain ⟨r1, r2, r3, r4⟩ := h.2.1
    obtain ⟨s1, s2, s3, s4, s5⟩ := h.2.2.1
    have hz34 : n 33 3 = 0 ∧ n 33 4 = 0 := by
      rcases s5 with q | q
      · exact q.2.2.2
      · omega
    have hle := siP_le n 128
    have hK := c_K_sift l d D a n g hap h.1 h1
    have hB1 : NB (siF n) := NB_ku (NB_siP h.1 128) (by omega)
    have o1 : ∀ r, r ≠ 0 → r ≠ 6 → r ≠ 12 → siF n r = n r := fun r q1 q2 q3 => by unfold siF; rw [ku_row q1, siP_o ⟨q2, q3⟩]
    have o6 : ∀ r, r ≠ 0 → siF n r = (siP n 128).1 r := fun r q1 => by unfold siF; rw [ku_row q1]
    have o0 : siF n 0 0 = (siP n 128).2 := by unfold siF; exact ku_s _ _ _ _
    have o0j : ∀ j, j ≠ 0 → siF n 0 j = n 0 j := fun j hj => by unfold siF; rw [ku_m hj, siP_o (by decide)]
    have hM := c_M_sift l d D a (siF n) (kg g 2 (siP n 128).2) hap hB1 (by rw [o1 33 (by decide) (by decide) (by decide)]; exact h2) (by rw [o1 33 (by decide) (by decide) (by decide)]; exact h3)
    have m0 : ∀ r, r ≠ 33 → ku (ku (siF n) 33 0 0) 33 1 1 r = siF n r := fun r hr => by rw [ku_row hr, ku_row hr]
    have m33 : ∀ j, j ≠ 0 → j ≠ 1 → ku (ku (siF n) 33 0 0) 33 1 1 33 j = n 33 j := fun j q0 q1 => by rw [ku_m q1, ku_m q0, o1 33 (by decide) (by decide) (by decide)]
    have hS := si_R (n := n) (m := ku (ku (siF n) 33 0 0) 33 1 1) (fun i hi => by
      rw [m0 34 (by decide), m0 35 (by decide), m0 36 (by decide), m0 37 (by decide), o1 34 (by decide) (by decide) (by decide), o1 35 (by decide) (by decide) (by decide), o1 36 (by decide) (by decide) (by decide), o1 37 (by decide) (by decide) (by decide)]
      exact r1 i hi) (fun i => by rw [m0 37 (by decide), o1 37 (by decide) (by decide) (by decide)]; exact (r2 i).2.1) (by rw [m33 2 (by decide) (by decide)]; exact h3) (fun i hi => by rw [m0 38 (by decide), o1 38 (by decide) (by decide) (by decide)]; exact s1 i hi) 128 (Nat.le_refl _)
    have hb6 := siP_b (n := n) (fun i => ⟨(s2 i).1, (s2 i).2.1, (r2 i).2.2.2.1, (r2 i).2.2.2.2⟩) 128
    have hb38 := siM_b (n := ku (ku (siF n) 33 0 0) 33 1 1) (fun i => by
      rw [m0 38 (by decide), m0 36 (by decide), o1 36 (by decide) (by decide) (by decide), o1 38 (by decide) (by decide) (by decide)]
      exact ⟨(s2 i).2.2, (r2 i).2.2.1⟩) 128
    have hB2 : NB (siM (ku (ku (siF n) 33 0 0) 33 1 1) 128) := NB_siM (NB_ku (NB_ku hB1 (by decide)) (by decide)) (by rw [m33 2 (by decide) (by decide)]; omega) 128 (by decide)
    have o2 : ∀ r, r ≠ 33 → r ≠ 38 → siM (ku (ku (siF n) 33 0 0) 33 1 1) 128 r = siF n r := fun r q1 q2 => by rw [siM_o ⟨q1, q2⟩, m0 r q1]
    have o33 : ∀ j, j ≠ 0 → j ≠ 1 → j ≠ 2 → siM (ku (ku (siF n) 33 0 0) 33 1 1) 128 33 j = n 33 j := fun j q0 q1 q2 => by rw [siM_33 q2, m33 j q0 q1]
    have z0 : siM (ku (ku (siF n) 33 0 0) 33 1 1) 128 33 0 = 0 := by rw [siM_33 (by decide), ku_m (by decide), ku_s]
    have z1 : siM (ku (ku (siF n) 33 0 0) 33 1 1) 128 33 1 = 1 := by rw [siM_33 (by decide), ku_s]
    generalize siM (ku (ku (siF n) 33 0 0) 33 1 1) 128 = n2 at hM hS hb38 hB2 o2 o33 z0 z1
    have eo : ∀ r, r ≠ 0 → r ≠ 6 → r ≠ 12 → r ≠ 33 → r ≠ 38 → n2 r = n r := fun r q0 q6 q12 q33 q38 => by rw [o2 r q33 q38, o1 r q0 q6 q12]
    refine ⟨0, _, siF n, kg g 2 (siP n 128).2, n2, kg g 2 (siP n 128).2, _, w_sift_r l d D a n g hap _ _ g (by omega) _ ⟨by decide, by decide, rfl, rfl⟩ hK, ⟨by decide, by decide, rfl, rfl⟩, hM, by decide, z0, fun _ => ⟨by rw [kg_s]; exact hS.1, by rw [← hS.1]; omega⟩, ?_⟩
    refine IV_pre h h0 hB2 ?_ ⟨fun i hi => ?_, fun i => ?_, ?_, ?_, Or.inr ⟨?_, z1, ?_, ?_, ?_⟩⟩ (fun r hr => eo r (by omega) (by omega) (by omega) (by omega) (by omega)) (by rw [o2 0 (by decide) (by decide), o0j 3 (by decide)]) (fun j hj => o33 j (by omega) (by omega) (by omega))
    · unfold IRc
      rw [eo 1 (by decide) (by decide) (by decide) (by decide) (by decide), eo 2 (by decide) (by decide) (by decide) (by decide) (by decide), eo 3 (by decide) (by decide) (by decide) (by decide) (by decide), eo 4 (by decide) (by decide) (by decide) (by decide) (by decide), eo 7 (by decide) (by decide) (by decide) (by decide) (by decide), eo 8 (by decide) (by decide) (by decide) (by decide) (by decide), eo 9 (by decide) (by decide) (by decide) (by decide) (by decide), eo 10 (by decide) (by decide) (by decide) (by decide) (by decide), eo 11 (by decide) (by decide) (by decide) (by decide) (by decide), eo 34 (by decide) (by decide) (by decide) (by decide) (by decide), eo 35 (by decide) (by decide) (by decide) (by decide) (by decide), eo 36 (by decide) (by decide) (by decide) (by decide) (by decide), eo 37 (by decide) (by decide) (by decide) (by decide) (by decide)]
      exact ⟨r1, r2, r3, r4⟩
    · rw [o2 6 (by decide) (by decide), o2 12 (by decide) (by decide), o6 6 (by decide), o6 12 (by decide)]
      exact hS.2 i hi
    · rw [o2 6 (by decide) (by decide), o2 12 (by decide) (by decide), o6 6 (by decide), o6 12 (by decide)]
      exact ⟨(hb6 i).1, (hb6 i).2, hb38 i⟩
    · rw [o2 0 (by decide) (by decide), o0j 1 (by decide), o33 3 (by decide) (by decide) (by decide)]; exact s3
    · rw [o2 0 (by decide) (by decide), o0j 2 (by decide), o33 4 (by decide) (by decide) (by decide)]; exact s4
    · rw [o2 0 (by decide) (by decide), o0]; exact hle
    · rw [o2 0 (by decide) (by decide), o0]; exact hS.1.symm
    · rw [o2 0 (by decide) (by decide), o0, o33 3 (by decide) (by decide) (by decide)]; omega
    · rw [o33 3 (by decide) (by decide) (by decide), o33 4 (by decide) (by decide) (by decide)]; omega
  · exact TB_th 1 (by decide) (w_sift_IS l d D a n g _ ⟨by decide, by decide, rfl, rfl⟩ (t_K_sift l d D a n g hlt h.1 h1)) ⟨by decide, by decide, rfl, rfl⟩ rfl (c_M_sift_1 l d D a n g hap h.1 h3) (IV_th h (by decide))
