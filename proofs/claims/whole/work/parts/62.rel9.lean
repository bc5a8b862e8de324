/-! pure: learning a parity, delivering a letter -/
theorem knP_ln {m : Nat → Nat → Nat} {q b p f t : Nat} : ∀ k, knP (lnM m q b) p f t k = knP m p f t k := fun k => knP_c p f t k (fun _ _ _ => ⟨rfl, rfl, rfl⟩)
theorem RX_learn {n m : Nat → Nat → Nat} (h : RX n m) (hp : m 33 9 < m 33 8) {b : Nat} (hb2 : b = tq n m (n 14 0)) : RX (lnF n b) (lnM m (n 14 0) b) ∧ lnM m (n 14 0) b 33 9 = lnM m (n 14 0) b 33 8 := by
  have h0 := h
  obtain ⟨hD, h1, h2, h3, h4, h5, h6, h7, h8, h9, hb, hd2, hBn, hBm, hBK⟩ := h
  have a8 : m 33 8 = n 14 0 := h1.2.2.2.1
  have hn1 : 1 ≤ n 14 0 := by omega
  have e9 : n 14 0 = m 33 9 + 1 := by have := h8.2.1; omega
  have hbl : b < 2 := by rw [hb2]; exact tq_lt h0 _
  have hQ := h5 (n 14 0) hn1 (Nat.le_refl _)
  have hW := qw_parts hQ hD.1.2.2
  obtain ⟨h7a, h7b⟩ := h7 hn1
  have hun := h8.2.2 hp
  have eF : lnF n b = ku n (25 + m 42 (n 14 0)) (n 14 1) b := by unfold lnF; rw [hW.2.2.1]
  have hq4 := hQ.1
  rw [eF]
  have e : ∀ r, ¬ (25 ≤ r ∧ r < 29) → ku n (25 + m 42 (n 14 0)) (n 14 1) b r = n r := fun r hr => ku_row (by omega)
  have e14 := e 14 (by omega)
  have e20 : ∀ p, p < 4 → ku n (25 + m 42 (n 14 0)) (n 14 1) b (20 + p) = n (20 + p) := fun p _ => e _ (by omega)
  have rg : ∀ p i, rgN (ku n (25 + m 42 (n 14 0)) (n 14 1) b) p i = rgN n p i := fun p i => rg_c (by rw [e14]) (by rw [e14]) p i
  have l9 : lnM m (n 14 0) b 33 9 = n 14 0 := ku_s _ _ _ _
  have l8 : lnM m (n 14 0) b 33 8 = n 14 0 := a8
  have l45 : ∀ i, lnM m (n 14 0) b 45 i = if i = n 14 0 then b else m 45 i := fun i => by
    unfold lnM
    rw [ku_n (by decide)]
    simp [ku]
  have v : ∀ p i, ku n (25 + m 42 (n 14 0)) (n 14 1) b (25 + p) i = if p = m 42 (n 14 0) ∧ i = n 14 1 then b else n (25 + p) i := fun p i => by
    by_cases hpq : p = m 42 (n 14 0)
    · subst hpq
      by_cases hi : i = n 14 1
      · subst hi; rw [ku_s, if_pos ⟨rfl, rfl⟩]
      · rw [ku_m hi, if_neg (fun q => hi q.2)]
    · rw [ku_n (by omega), if_neg (fun q => hpq q.1)]
  have nst : knP m (m 42 (n 14 0)) (m 43 (n 14 0)) (m 44 (n 14 0)) (m 33 9) = none := by
    rw [← kw_un h9]
    have := h4 _ _ hq4 h7a
    rw [h7b] at this
    rw [← this]
    exact hun
  have tqs : ∀ q, m 42 q < 4 → tq (ku n (25 + m 42 (n 14 0)) (n 14 1) b) (lnM m (n 14 0) b) q = tq n m q := fun q _ => tq_c rfl rfl rfl (e 6 (by omega)) (e _ (by omega))
  have etp : ∀ p i, p < 4 → tpN (ku n (25 + m 42 (n 14 0)) (n 14 1) b) p i = tpN n p i := fun p i hp4 => tp_c (by rw [e14]) (by rw [e14]) (e 6 (by omega)) (e20 p hp4) i
  refine ⟨⟨?_, ?_, ?_, ?_, ?_, ?_, ?_, ?_, ?_, ?_, ?_, ?_, ?_, ?_, ?_⟩, by rw [l9, l8]⟩
  · obtain ⟨a1, a2, a3, a4, a5, a6⟩ := hD
    refine ⟨by rw [e14]; exact a1, fun p i hp4 hi => ?_, fun i => by rw [e 6 (by omega), e 12 (by omega)]; exact a3 i, fun p i hp4 hi => ?_, by rw [e 15 (by omega)]; exact a5, by rw [e14]; exact a6⟩
    · rw [e14] at hi ⊢
      rw [e20 p hp4]
      exact a2 p i hp4 hi
    · rw [e14] at hi
      rw [etp p i hp4, v]
      split
      · rename_i hx
        right
        rw [hx.1, hx.2, hb2]
        unfold tpN tq
        rw [h7b]
      · exact a4 p i hp4 hi
  · obtain ⟨b1, b2, b3, b4, b5, b6⟩ := h1
    refine ⟨?_, ?_, ?_, ?_, ?_, ?_⟩
    · rw [e14]; exact b1
    · rw [e14]; exact b2
    · rw [e14]; exact b3
    · rw [e14]; exact b4
    · rw [e 15 (by omega)]; exact b5
    · rw [e14]; exact b6
  · intro i hi
    rw [e 6 (by omega), e 12 (by omega)]
    exact h2 i hi
  · exact R3_c h3 (by rw [e14]) e20 rfl
  · intro p i hp4 hi
    rw [e14] at hi
    rw [rg, v]
    have hk := h4 p i hp4 hi
    unfold kwF
    rw [l9, knP_ln, e9]
    cases hc : knP m p (rgN n p i).1 (rgN n p i).2 (m 33 9) with
    | some j =>
      have hj := knP_some hc
      rw [knP_up hc 1]
      have hne : ¬ (p = m 42 (n 14 0) ∧ i = n 14 1) := fun q => by
        rw [q.1, q.2, h7b, nst] at hc
        cases hc
      rw [← e9, if_neg hne, hk]
      unfold kwF
      rw [hc]
      show m 45 j = lnM m (n 14 0) b 45 j
      rw [l45, if_neg (by omega)]
    | none =>
      by_cases hx : p = m 42 (n 14 0) ∧ i = n 14 1
      · rw [← e9, if_pos hx]
        have := knP_hit hc (by rw [← e9, hx.1, hx.2, h7b]; exact ⟨rfl, rfl, rfl⟩)
        rw [← e9] at this
        rw [this]
        show b = lnM m (n 14 0) b 45 (n 14 0)
        rw [l45, if_pos rfl]
      · have := knP_none hc (fun q => hx (by
          rw [← e9] at q
          refine ⟨q.1.symm, ?_⟩
          refine rng_inj (z := n 14 4) (t := n 14 5) (p := p) hD.1.1 hi h7a ?_
          have hr : rgN n p (n 14 1) = (m 43 (n 14 0), m 44 (n 14 0)) := by rw [← q.1]; exact h7b
          show rgN n p i = rgN n p (n 14 1)
          rw [hr, q.2.1, q.2.2]))
        rw [← e9] at this
        rw [← e9, this, if_neg hx, hk, kw_none hc]
  · intro q9 a1 a2
    rw [e14] at a2
    have := h5 q9 a1 a2
    unfold QW at this ⊢
    rw [e14, e 29 (by omega)]
    exact this
  · intro i hi
    rw [e 15 (by omega)] at hi
    obtain ⟨b1, b2, b3, b4, b5, b6, b7, b8⟩ := h6 i hi
    rw [e 16 (by omega), e 17 (by omega), e 18 (by omega), e14]
    exact ⟨b1, b2, b3, b4, b5, b6, b7, fun q => by rw [tqs _ (h5 _ b5 b6).1]; exact b8 q⟩
  · intro _
    rw [e14, rg]
    exact ⟨h7a, h7b⟩
  · refine ⟨by rw [l9, l8]; exact Nat.le_refl _, by rw [l9, l8]; omega, fun q => ?_⟩
    rw [l9, l8] at q
    omega
  · intro q9 a1 a2
    rw [l9] at a2
    rw [l45]
    split
    · exact hbl
    · exact h9 q9 a1 (by omega)
  · exact ⟨hb.1, hb.2⟩
  · rw [e14]; exact hd2
  · exact NB_ku hBn (by omega)
  · exact NB_ku (NB_ku hBm (by omega)) (hBn 14 0)
  · intro p b9 hp4 hp3 hb9
    rw [e14] at hp3 ⊢
    have hb9 : b9 < bcF n p := by
      unfold bcF at hb9 ⊢
      rw [e14] at hb9
      exact hb9
    rw [v]
    split
    · omega
    · exact hBK p b9 hp4 hp3 hb9
theorem go_4 {n : Nat → Nat → Nat} (h : n 14 3 = 4) : ∀ k, goF n k = (n, 0)
  | 0 => rfl
  | k + 1 => by
    simp only [goF, go_4 h k, if_true]
    rw [if_pos h]
/-- a letter that comes on both sides -/
theorem RX_deliver {n m : Nat → Nat → Nat} (h : RX n m) {k : Nat} (hk : k < n 15 0) (h512 : n 14 0 < 512) : RX (dvF n k) (cmM (tkM m k) (n 16 k) (n 17 k) (n 18 k)) ∧ n 14 0 ≤ dvF n k 14 0 ∧ dvF n k 14 0 ≤ n 14 0 + 1 ∧ (n 14 3 = 4 → dvF n k 14 3 = 4 ∧ dvF n k 12 = n 12) ∧ (n 16 k = 1 → n 17 k = tkM m k 33 8 → tkM m k 33 9 < tkM m k 33 8 → MI (lnM (tkM m k) (n 17 k) (n 18 k)) ∧ (¬ (goT (lnM (tkM m k) (n 17 k) (n 18 k)) 256).2 = 0 ∨ (goT (lnM (tkM m k) (n 17 k) (n 18 k)) 256).1 33 7 = 4)) ∧ (¬ n 16 k = 0 → n 17 k = n 14 0 → ¬ unF (tkF n k) = 0 → DI (lnF (tkF n k) (n 18 k))) := by
  have hT := RX_take h hk
  obtain ⟨b1, b2, b3, b4, b5, b6, b7, b8⟩ := h.2.2.2.2.2.2.1 k hk
  have e14 : tkF n k 14 = n 14 := tk_o (by decide)
  have m8 : tkM m k 33 8 = n 14 0 := by rw [tkM_33 (by decide)]; exact h.2.1.2.2.2.1
  have hn1 : 1 ≤ tkF n k 14 0 := by rw [e14]; omega
  have hu := un_F hT hn1
  have htq : tq (tkF n k) (tkM m k) (n 17 k) = tq n m (n 17 k) := by
    have := (h.2.2.2.2.2.1 _ b5 b6).1
    exact tq_c (by rw [tkM_o (by decide)]) (by rw [tkM_o (by decide)]) (by rw [tkM_o (by decide)]) (tk_o (by decide)) (tk_o (by omega))
  have hln : n 16 k = 1 → n 17 k = n 14 0 → tkM m k 33 9 < tkM m k 33 8 → RX (lnF (tkF n k) (n 18 k)) (lnM (tkM m k) (n 17 k) (n 18 k)) ∧ lnM (tkM m k) (n 17 k) (n 18 k) 33 9 = lnM (tkM m k) (n 17 k) (n 18 k) 33 8 := fun c1 c2 c3 => by
    have := RX_learn hT c3 (b := n 18 k) (by rw [b8 c1, e14, ← c2, htq])
    rw [e14, ← c2] at this
    exact this
  have l14 : ∀ x j, lnF (tkF n k) x 14 j = n 14 j := fun x j => by
    unfold lnF
    rw [ku_n (by omega), e14]
  have l12 : ∀ x, lnF (tkF n k) x 12 = n 12 := fun x => by
    unfold lnF
    rw [ku_row (by omega), tk_o (by decide)]
  refine ⟨?_, ?_⟩
  · unfold dvF cmM
    by_cases hx : n 16 k = 0
    · rw [if_pos hx, if_pos hx]
      exact RX_answer hT (by rw [e14]; exact ⟨b5, b6⟩)
    · rw [if_neg hx, if_neg hx, m8]
      by_cases hy : n 17 k = n 14 0
      · rw [if_pos hy, if_pos hy]
        by_cases hz : unF (tkF n k) = 0
        · rw [if_pos hz, if_neg (by rw [← m8]; exact hu.mp hz)]
          exact hT
        · have hp : tkM m k 33 9 < tkM m k 33 8 := by
            apply Decidable.byContradiction
            intro q
            exact hz (hu.mpr q)
          rw [if_neg hz, if_pos (by rw [← m8]; exact hp)]
          obtain ⟨g1, g2⟩ := hln (by omega) hy hp
          exact (go_end g1 g2 (by rw [l14]; exact h512)).1
      · rw [if_neg hy, if_neg hy]
        exact hT
  · refine ⟨?_, ?_, ?_, ?_, ?_⟩
    · unfold dvF
      split
      · unfold anF
        rw [sd_o (by decide), ku_m (by decide), e14]
        exact Nat.le_refl _
      · split
        · split
          · rw [e14]; exact Nat.le_refl _
          · rename_i hx hy hz
            have hp : tkM m k 33 9 < tkM m k 33 8 := by
              apply Decidable.byContradiction
              intro q
              exact hz (hu.mpr q)
            obtain ⟨g1, g2⟩ := hln (by omega) hy hp
            have := (go_end g1 g2 (by rw [l14]; exact h512)).2.2.2
            rw [l14] at this
            exact this
        · rw [e14]; exact Nat.le_refl _
    · unfold dvF
      split
      · unfold anF
        rw [sd_o (by decide), ku_m (by decide), e14]
        omega
      · split
        · split
          · rw [e14]; omega
          · rename_i hx hy hz
            have hp : tkM m k 33 9 < tkM m k 33 8 := by
              apply Decidable.byContradiction
              intro q
              exact hz (hu.mpr q)
            obtain ⟨g1, g2⟩ := hln (by omega) hy hp
            have := (go_end g1 g2 (by rw [l14]; exact h512)).2.2.1
            rw [l14] at this
            exact this
        · rw [e14]; omega
    · intro h4
      unfold dvF
      split
      · unfold anF
        rw [sd_o (by decide), sd_o (by decide), ku_m (by decide), ku_row (by decide), e14, tk_o (by decide)]
        exact ⟨h4, rfl⟩
      · split
        · split
          · rw [e14, tk_o (by decide)]
            exact ⟨h4, rfl⟩
          · rw [go_4 (by rw [l14]; exact h4)]
            exact ⟨(l14 _ 3).trans h4, l12 _⟩
        · rw [e14, tk_o (by decide)]
          exact ⟨h4, rfl⟩
    · intro c1 c2 c3
      obtain ⟨g1, g2⟩ := hln c1 (by rw [← m8]; exact c2) c3
      exact ⟨RX_MI g1 (by rw [l14]; exact h512), (go_end g1 g2 (by rw [l14]; exact h512)).2.1⟩
    · intro c1 c2 c3
      have hp : tkM m k 33 9 < tkM m k 33 8 := by
        apply Decidable.byContradiction
        intro q
        exact c3 (hu.mpr q)
      exact RX_DI (hln (by omega) c2 hp).1 (by rw [l14]; exact h512)
