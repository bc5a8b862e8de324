/-! turns: shorten -/
theorem adv_lt (x : Nat) : advF x / 2 ^ 63 < 2 := by
  have : advF x < 18446744073709551616 := Nat.mod_lt _ (by decide)
  omega
theorem dr_R {n m : Nat → Nat → Nat} {z : Nat} : ∀ k, (drP n z k).2 = (drM m z k).2 ∧ ∀ i, i < k → (drP n z k).1 32 i = (drM m z k).1 50 i
  | 0 => ⟨rfl, fun i hi => absurd hi (by omega)⟩
  | k + 1 => by
    obtain ⟨ih1, ih2⟩ := dr_R (n := n) (m := m) (z := z) k
    simp only [drP, drM]
    refine ⟨by rw [ih1], fun i hi => ?_⟩
    rw [ku_r, ku_r, ih1]
    by_cases hx : i = k
    · rw [if_pos hx, if_pos hx]
    · rw [if_neg hx, if_neg hx]
      exact ih2 i (by omega)
theorem drP_b {n : Nat → Nat → Nat} {z : Nat} (h : ∀ i, n 32 i < 2) : ∀ k i, (drP n z k).1 32 i < 2
  | 0, i => h i
  | k + 1, i => by
    simp only [drP]
    rw [ku_r]
    exact if_lt2 (adv_lt _) (drP_b h k i)
theorem NB_drP {n : Nat → Nat → Nat} {z : Nat} (h : NB n) : ∀ k, NB (drP n z k).1
  | 0 => h
  | k + 1 => NB_ku (NB_drP h k) (by have := adv_lt (drP n z k).2; omega)
theorem NB_drM {n : Nat → Nat → Nat} {z : Nat} (h : NB n) : ∀ k, NB (drM n z k).1
  | 0 => h
  | k + 1 => NB_ku (NB_drM h k) (by have := adv_lt (drM n z k).2; omega)
theorem kxF_lt {n : Nat → Nat → Nat} {x q : Nat} (h : ∀ i, n 38 i < 2) : ∀ k, kxF n x q k < 2
  | 0 => by show 0 < 2; decide
  | k + 1 => kx1 (kxF_lt h k) (Nat.lt_of_le_of_lt Nat.and_le_left (h _))
theorem kxF_c {n m : Nat → Nat → Nat} {x q : Nat} (h1 : n 38 = m 38) (h2 : n 50 = m 50) : ∀ k, kxF n x q k = kxF m x q k
  | 0 => rfl
  | k + 1 => by
    simp only [kxF]
    rw [kxF_c h1 h2 k, h1, h2]
theorem NB_kbM {n : Nat → Nat → Nat} {t q j : Nat} (h : NB n) (hb : ∀ i, n 38 i < 2) : ∀ x, NB (kbM n t q j x)
  | 0 => h
  | x + 1 => NB_ku (NB_kbM h hb x) (by have := kxF_lt (n := kbM n t q j x) (x := x) (q := q - 1 - j) (fun i => by rw [kbM_o (by decide)]; exact hb i) t; omega)
theorem NB_kaM {n : Nat → Nat → Nat} {t q : Nat} (h : NB n) (hb : ∀ i, n 38 i < 2) : ∀ j, NB (kaM n t q j)
  | 0 => h
  | j + 1 => NB_kbM (NB_kaM h hb j) (fun i => by rw [kaM_o (by decide)]; exact hb i) 2
theorem kb_r {n : Nat → Nat → Nat} {t q j i : Nat} : kbM n t q j 2 49 i = if i = 128 + j then kxF n 1 (q - 1 - j) t else if i = j then kxF n 0 (q - 1 - j) t else n 49 i := by
  simp only [kbM]
  rw [ku_r, ku_r, kxF_c (n := ku n 49 (128 * 0 + j) (kxF n 0 (q - 1 - j) t)) (m := n) (ku_row (by decide)) (ku_row (by decide)), show 128 * 1 + j = 128 + j by omega, show 128 * 0 + j = j by omega]
theorem ka_r {m : Nat → Nat → Nat} {t q : Nat} : ∀ J, J ≤ 128 → ∀ j, j < J → kaM m t q J 49 j = kxF m 0 (q - 1 - j) t ∧ kaM m t q J 49 (128 + j) = kxF m 1 (q - 1 - j) t
  | 0, _, j, hj => absurd hj (by omega)
  | J + 1, hJ, j, hj => by
    have e38 : kaM m t q J 38 = m 38 := kaM_o (by decide) J
    have e50 : kaM m t q J 50 = m 50 := kaM_o (by decide) J
    simp only [kaM]
    rw [kb_r, kb_r, if_neg (show ¬ j = 128 + J by omega), kxF_c e38 e50, kxF_c e38 e50]
    by_cases hx : j = J
    · rw [if_pos hx, if_pos (by omega), hx]
      exact ⟨rfl, rfl⟩
    · rw [if_neg hx, if_neg (by omega), if_neg (by omega)]
      exact ka_r J (by omega) j (by omega)
theorem ky_kx {m : Nat → Nat → Nat} {s dr : Nat → Nat} {x q : Nat} : ∀ k, (∀ i, i < k → m 38 (128 * x + i) = s i ∧ m 50 (i + q) = dr (i + q)) → kxF m x q k = kyF s dr q k
  | 0, _ => rfl
  | k + 1, h => by
    simp only [kxF, kyF]
    rw [ky_kx k (fun i hi => h i (by omega)), (h k (by omega)).1, (h k (by omega)).2]
theorem T_shorten {l : Launch} (hlt : l.stackTraces = false) {d : Nat → Nat} {D : va_G} {a : Nat → Nat} (hap : ∀ i j : Nat, i < 52 → j < 52 → a i = a j → i = j) (t : Nat) (n : Nat → Nat → Nat) (g : Nat → Nat) (ht : t < 512) (h : IV t n g) (z x m9 : Nat) (_ : z < 18446744073709551616) (hx : x < 4294967296) (hm9 : m9 < 4294967296) : TB (IV (t + 1)) l d D a n g jy_L_shorten jb_L_shorten 7 [(0, 13, 16, 15), (0, 13, 20, 13), (0, 13, 24, 51)] [.ref (a 0), .long (lN z), .int (nI x), .int (nI m9), .ref (a 51)] jy_M_shorten jb_M_shorten 10 [.ref (a 33), .long (lN z), .int (nI x), .int (nI m9)] := by
  obtain ⟨a1, a2, a3, a4, a5, a6, a7, a8⟩ := IV_pass h
  have h5 : n 14 0 ≤ t := h.2.2.2.2.2
  by_cases hov : n 14 3 = 4
  · have h3 : IB1 n := by
      rcases IV_bg h with ⟨q1, q2⟩ | ⟨q1, q2, q3⟩
      · omega
      · exact q3
    have hX : RX n n := h3.2.2.2
    have hl : n 14 5 ≤ 128 := hX.1.1.2.2
    have e00 : n 0 0 = n 14 5 := h3.2.1
    have e2 : n 33 2 = n 0 0 := by rw [e00]; exact hX.2.1.2.1
    obtain ⟨s1, s2, s3, s4, s5⟩ := h.2.2.1
    have h6 : ∀ i, n 6 i < 2 := fun i => (s2 i).1
    have h12 : ∀ i, n 12 i < 2 := fun i => (s2 i).2.1
    have h38 : ∀ i, n 38 i < 2 := fun i => (s2 i).2.2
    by_cases hg : 1 ≤ x ∧ x ≤ 65535 ∧ m9 ≤ 128
    · obtain ⟨g1, g2, g3⟩ := hg
      have et0 : tagM (mS n 0) x (n 33 2) = tagF (n 6) x (n 0 0) := by
        rw [e2]
        exact tag_eq (by omega) (fun i hi => by show n 38 (128 * 0 + i) = _; rw [show 128 * 0 + i = i by omega]; exact (s1 i (by omega)).1.symm)
      have et1 : tagM (mS n 1) x (n 33 2) = tagF (n 12) x (n 0 0) := by
        rw [e2]
        exact tag_eq (by omega) (fun i hi => by show n 38 (128 * 1 + i) = _; rw [show 128 * 1 + i = 128 + i by omega]; exact (s1 i (by omega)).2.symm)
      by_cases hok : n 14 2 + m9 + 17 ≤ n 0 0
      · by_cases htg : tagF (n 6) x (n 0 0) = tagF (n 12) x (n 0 0)
        · have hK := c_K_shorten l d D a n g hap h.1 z x m9 g1 g2 g3 hov (by omega) (by omega) h6 h12 hok htg
          generalize hq : n 0 0 - n 14 2 - m9 - 16 = q at hK
          generalize hKK : n 0 0 + q - 1 = K at hK
          have o1 : ∀ r, r ≠ 0 → r ≠ 32 → ku (drP n z K).1 0 3 q r = n r := fun r q1 q2 => by rw [ku_row q1, drP_o q2]
          have f0 : ∀ j, j ≠ 3 → ku (drP n z K).1 0 3 q 0 j = n 0 j := fun j hj => by rw [ku_m hj, drP_o (by decide)]
          have f03 : ku (drP n z K).1 0 3 q 0 3 = q := ku_s _ _ _ _
          have f32 : ku (drP n z K).1 0 3 q 32 = (drP n z K).1 32 := ku_row (by decide)
          have hB1 : NB (ku (drP n z K).1 0 3 q) := NB_ku (NB_drP h.1 K) (by omega)
          have e33 := o1 33 (by decide) (by decide)
          have e38 := o1 38 (by decide) (by decide)
          have hmS : ∀ y, mS (ku (drP n z K).1 0 3 q) y = mS n y := fun y => by funext i; show ku (drP n z K).1 0 3 q 38 _ = n 38 _; rw [e38]
          have hM := c_M_shorten l d D a (ku (drP n z K).1 0 3 q) (kg (kg g 0 (drP n z K).2) 2 q) hap hB1 z x m9 g1 g2 g3 (by rw [e33]; omega) (by rw [e33]; omega) (by rw [e33]; omega) (fun i => by rw [e38]; exact h38 i) (by rw [e33]; omega) (by rw [e33, hmS, hmS, et0, et1]; exact htg)
          rw [e33, e2, a2, hq, hKK] at hM
          have hdr := dr_R (n := n) (m := ku (ku (drP n z K).1 0 3 q) 33 0 0) (z := z) K
          have hb32 := drP_b (n := n) (z := z) h.2.2.2.1.2.2.1 K
          generalize hn1 : ku (drP n z K).1 0 3 q = n1 at *
          have D0 : ∀ r, r ≠ 33 → r ≠ 50 → (drM (ku n1 33 0 0) z K).1 r = n1 r := fun r q1 q2 => by rw [drM_o q2, ku_row q1]
          have D33 : (drM (ku n1 33 0 0) z K).1 33 = ku n1 33 0 0 33 := drM_o (by decide) _
          have hBd : NB (drM (ku n1 33 0 0) z K).1 := NB_drM (NB_ku hB1 (by decide)) K
          generalize (drM (ku n1 33 0 0) z K).1 = M at *
          have A0 : ∀ r, r ≠ 33 → r ≠ 49 → kaM (ku M 33 12 q) (n 0 0) q q r = M r := fun r q1 q2 => by rw [kaM_o q2, ku_row q1]
          have A33 : kaM (ku M 33 12 q) (n 0 0) q q 33 = ku M 33 12 q 33 := kaM_o (by decide) _
          have A49 := ka_r (m := ku M 33 12 q) (t := n 0 0) (q := q) q (by omega)
          have hB2 : NB (kaM (ku M 33 12 q) (n 0 0) q q) := NB_kaM (NB_ku hBd (by omega)) (fun i => by rw [ku_row (by decide), D0 38 (by decide) (by decide), e38]; exact h38 i) q
          generalize kaM (ku M 33 12 q) (n 0 0) q q = n2 at *
          have or : ∀ r, r ≠ 33 → r ≠ 49 → r ≠ 50 → n2 r = n1 r := fun r q1 q2 q3 => by rw [A0 r q1 q2, D0 r q1 q3]
          have eo : ∀ r, r ≠ 0 → r ≠ 32 → r ≠ 33 → r ≠ 49 → r ≠ 50 → n2 r = n r := fun r q1 q2 q3 q4 q5 => by rw [or r q3 q4 q5, o1 r q1 q2]
          have x33 : ∀ j, j ≠ 0 → j ≠ 12 → n2 33 j = n 33 j := fun j q1 q2 => by rw [A33, ku_m q2, D33, ku_m q1, e33]
          have x330 : n2 33 0 = 0 := by rw [A33, ku_m (by decide), D33, ku_s]
          have x3312 : n2 33 12 = q := by rw [A33, ku_s]
          have y0 : n2 0 = n1 0 := or 0 (by decide) (by decide) (by decide)
          have y32 : n2 32 = (drP n z K).1 32 := by rw [or 32 (by decide) (by decide) (by decide), f32]
          have y6 : n2 6 = n 6 := eo 6 (by decide) (by decide) (by decide) (by decide) (by decide)
          have y12 : n2 12 = n 12 := eo 12 (by decide) (by decide) (by decide) (by decide) (by decide)
          have y14 : n2 14 = n 14 := eo 14 (by decide) (by decide) (by decide) (by decide) (by decide)
          have y38 : n2 38 = n 38 := eo 38 (by decide) (by decide) (by decide) (by decide) (by decide)
          have key : ∀ j, j < q → n2 49 j = kyF (n 6) (n2 32) (q - 1 - j) (n 0 0) ∧ n2 49 (128 + j) = kyF (n 12) (n2 32) (q - 1 - j) (n 0 0) := fun j hj => by
            obtain ⟨k1, k2⟩ := A49 j hj
            have m38 : ku M 33 12 q 38 = n 38 := by rw [ku_row (by decide), D0 38 (by decide) (by decide), e38]
            have m50 : ku M 33 12 q 50 = M 50 := ku_row (by decide)
            refine ⟨?_, ?_⟩
            · rw [k1]
              refine ky_kx _ (fun i hi => ⟨?_, ?_⟩)
              · rw [m38, show 128 * 0 + i = i by omega]; exact (s1 i (by omega)).1.symm
              · rw [m50, y32]; exact (hdr.2 _ (by omega)).symm
            · rw [k2]
              refine ky_kx _ (fun i hi => ⟨?_, ?_⟩)
              · rw [m38, show 128 * 1 + i = 128 + i by omega]; exact (s1 i (by omega)).2.symm
              · rw [m50, y32]; exact (hdr.2 _ (by omega)).symm
          refine ⟨0, q, n1, _, n2, _, _, w_shorten_r l d D a n g hap z x m9 q n1 _ (by omega) _ ⟨by decide, by decide, rfl, rfl⟩ hK, ⟨by decide, by decide, rfl, rfl⟩, hM, by decide, x330, fun _ => ⟨by rw [kg_n (by decide), kg_s], by omega⟩, ?_⟩
          refine ⟨hB2, IRc_c h.2.1 (fun r hr => eo r (by omega) (by omega) (by omega) (by omega) (by omega)), ⟨?_, ?_, ?_, ?_, ?_⟩, ⟨?_, ?_, ?_, ?_⟩, Or.inr ⟨?_, ?_, ?_, ?_⟩, ?_⟩
          · intro i hi; rw [y6, y12, y38]; exact s1 i hi
          · intro i; rw [y6, y12, y38]; exact s2 i
          · rw [y0, f0 1 (by decide), x33 3 (by decide) (by decide)]; exact s3
          · rw [y0, f0 2 (by decide), x33 4 (by decide) (by decide)]; exact s4
          · rw [y0, f0 0 (by decide), x33 1 (by decide) (by decide), x33 2 (by decide) (by decide), x33 3 (by decide) (by decide), x33 4 (by decide) (by decide)]; exact s5
          · rw [y0, f03, x3312]
          · rw [y0, f03]; omega
          · intro i; rw [y32]; exact hb32 i
          · intro _
            rw [y14]
            refine ⟨hov, ?_⟩
            rw [y0, f03, f0 0 (by decide), y6, y12]
            exact key
          · rw [x33 5 (by decide) (by decide)]; exact h3.1
          · rw [y0, f0 0 (by decide), y14]; exact e00
          · rw [y14]; exact h3.2.2.1
          · exact RX_rows2 hX (fun r q1 q2 q3 => eo r q2 q3 (by omega) (by omega) (by omega)) (fun r q1 q2 => eo r (by omega) (by omega) (by omega) (by omega) (by omega)) (fun j q1 q2 => x33 j q1 q2) hB2 hB2
          · rw [y14]; omega
        · exact TB_th 3 (by decide) (w_shorten_UO l d D a n g z x m9 _ ⟨by decide, by decide, rfl, rfl⟩ (t_K_shorten_UOb l d D a n g hlt h.1 z x m9 g1 g2 g3 hov (by omega) (by omega) h6 h12 hok htg)) ⟨by decide, by decide, rfl, rfl⟩ (kk_th _ _ _ _ _) (c_M_shorten_3b l d D a n g hap h.1 z x m9 g1 g2 g3 (by omega) (by omega) (by omega) h38 (by omega) (by rw [et0, et1]; exact htg)) (IV_th h (by decide))
      · exact TB_th 3 (by decide) (w_shorten_UO l d D a n g z x m9 _ ⟨by decide, by decide, rfl, rfl⟩ (t_K_shorten_UOa l d D a n g hlt h.1 z x m9 g1 g2 g3 hov (by omega) (by omega) hok)) ⟨by decide, by decide, rfl, rfl⟩ (kk_th _ _ _ _ _) (c_M_shorten_3a l d D a n g hap h.1 z x m9 g1 g2 g3 (by omega) (by omega) (by omega) h38 (by omega)) (IV_th h (by decide))
    · exact TB_th 2 (by decide) (w_shorten_IA l d D a n g z x m9 _ ⟨by decide, by decide, rfl, rfl⟩ (t_K_shorten_IA l d D a n g hlt h.1 z x m9 hx hm9 hov hg)) ⟨by decide, by decide, rfl, rfl⟩ rfl (c_M_shorten_2 l d D a n g hap h.1 z x m9 hx hm9 (by omega) (fun q => hg ⟨q.1.1, q.1.2, q.2⟩)) (IV_th h (by decide))
  · exact TB_th 1 (by decide) (w_shorten_IS l d D a n g z x m9 _ ⟨by decide, by decide, rfl, rfl⟩ (t_K_shorten_IS l d D a n g hlt h.1 z x m9 hov)) ⟨by decide, by decide, rfl, rfl⟩ rfl (c_M_shorten_1 l d D a n g hap h.1 z x m9 (by omega)) (IV_th h (by decide))
