/-! pure: taking a letter out, answering, learning, delivering -/
theorem RX_let {n m n' m' : Nat → Nat → Nat} (h : RX n m) (e : ∀ r, r ≠ 15 → r ≠ 16 → r ≠ 17 → r ≠ 18 → n' r = n r) (em : ∀ r, r ≠ 33 → r ≠ 46 → r ≠ 47 → r ≠ 48 → m' r = m r) (e33 : ∀ j, j ≠ 11 → m' 33 j = m 33 j) (s6 : R6 n' m') (h11 : m' 33 11 = n' 15 0) (h16 : n' 15 0 ≤ 16) (h46 : ∀ i, m' 46 i < 2) (hBn' : NB n') (hBm' : NB m') : RX n' m' := by
  obtain ⟨hD, r1, r2, r3, r4, r5, r6, r7, r8, r9, rb, rd2, hBn, hBm, hBK⟩ := h
  have e14 := e 14 (by decide) (by decide) (by decide) (by decide)
  have e20 : ∀ p, p < 4 → n' (20 + p) = n (20 + p) := fun p _ => e _ (by omega) (by omega) (by omega) (by omega)
  have e25 : ∀ p, p < 4 → n' (25 + p) = n (25 + p) := fun p _ => e _ (by omega) (by omega) (by omega) (by omega)
  have m42 := em 42 (by decide) (by decide) (by decide) (by decide)
  have m43 := em 43 (by decide) (by decide) (by decide) (by decide)
  have m44 := em 44 (by decide) (by decide) (by decide) (by decide)
  have m45 := em 45 (by decide) (by decide) (by decide) (by decide)
  have m38 := em 38 (by decide) (by decide) (by decide) (by decide)
  have e6 := e 6 (by decide) (by decide) (by decide) (by decide)
  have e12 := e 12 (by decide) (by decide) (by decide) (by decide)
  have ekw : ∀ p f9 t, kwF m' p f9 t = kwF m p f9 t := fun p f9 t => kwF_eq m42 m43 m44 m45 (e33 9 (by decide)) p f9 t
  refine ⟨DX_c hD (by rw [e14]) (by rw [e14]) e6 (fun i => by rw [e12]; exact (hD.2.2.1 i).2) e20 e25 h16 (by rw [e14]; exact hD.2.2.2.2.2), ?_, ?_, R3_c r3 (by rw [e14]) e20 (em 41 (by decide) (by decide) (by decide) (by decide)), R4_c r4 (by rw [e14]) (by rw [e14]) e25 ekw, ?_, s6, ?_, ?_, ?_, ?_, ?_, hBn', hBm', BK_c hBK (by rw [e14]) (by rw [e14]) (by rw [e14]) e25⟩
  · refine ⟨?_, ?_, ?_, ?_, h11, ?_⟩
    · rw [e14, e33 6 (by decide)]; exact r1.1
    · rw [e14, e33 2 (by decide)]; exact r1.2.1
    · rw [e14, e33 7 (by decide)]; exact r1.2.2.1
    · rw [e14, e33 8 (by decide)]; exact r1.2.2.2.1
    · rw [e14, e33 10 (by decide)]; exact r1.2.2.2.2.2
  · intro i hi
    rw [e6, e12, m38]
    exact r2 i hi
  · intro q9 a1 a2
    rw [e14] at a2
    have := r5 q9 a1 a2
    unfold QW at this ⊢
    rw [m42, m43, m44, e14, e 29 (by decide) (by decide) (by decide) (by decide)]
    exact this
  · intro hn1
    rw [e14] at hn1 ⊢
    rw [m42, m43, m44, rg_c (by rw [e14]) (by rw [e14])]
    exact r7 hn1
  · unfold R8
    rw [e33 9 (by decide), e33 8 (by decide), m42, e14, e (25 + m 42 (n 14 0)) (by omega) (by omega) (by omega) (by omega)]
    exact r8
  · intro q9 a1 a2
    rw [e33 9 (by decide)] at a2
    rw [m45]
    exact r9 q9 a1 a2
  · exact ⟨fun i => by rw [m38]; exact rb.1 i, h46⟩
  · rw [e14]; exact rd2
theorem NB_shN {n : Nat → Nat → Nat} {k : Nat} (h : NB n) : ∀ c, NB (shN n k c)
  | 0 => h
  | c + 1 => by
    have ih := NB_shN (k := k) h c
    have a1 := NB_ku (i := 16) (j := k + 1 + c - 1) ih (ih 16 (k + 1 + c))
    have a2 := NB_ku (i := 17) (j := k + 1 + c - 1) a1 (a1 17 (k + 1 + c))
    exact NB_ku (i := 18) (j := k + 1 + c - 1) a2 (a2 18 (k + 1 + c))
theorem NB_shM {n : Nat → Nat → Nat} {k : Nat} (h : NB n) : ∀ c, NB (shM n k c)
  | 0 => h
  | c + 1 => by
    have ih := NB_shM (k := k) h c
    have a1 := NB_ku (i := 46) (j := k + c) ih (ih 46 (k + c + 1))
    have a2 := NB_ku (i := 47) (j := k + c) a1 (a1 47 (k + c + 1))
    exact NB_ku (i := 48) (j := k + c) a2 (a2 48 (k + c + 1))
theorem tkM_o {m : Nat → Nat → Nat} {k r : Nat} (h : r ≠ 33 ∧ r ≠ 46 ∧ r ≠ 47 ∧ r ≠ 48) : tkM m k r = m r := by
  unfold tkM
  rw [shM_o h.2, ku_row h.1]
theorem tkM_33 {m : Nat → Nat → Nat} {k j : Nat} (h : j ≠ 11) : tkM m k 33 j = m 33 j := by
  unfold tkM
  rw [shM_o (by decide), ku_m h]
theorem tkM_11 {m : Nat → Nat → Nat} {k : Nat} : tkM m k 33 11 = m 33 11 - 1 := by
  unfold tkM
  rw [shM_o (by decide), ku_s]
/-- taking a letter out on both sides -/
theorem RX_take {n m : Nat → Nat → Nat} (h : RX n m) {k : Nat} (hk : k < n 15 0) : RX (tkF n k) (tkM m k) := by
  have h0 := h
  obtain ⟨hD, r1, r2, r3, r4, r5, r6, r7, r8, r9, rb, rd2, hBn, hBm, hBK⟩ := h0
  have hc := hD.2.2.2.2.1
  have h11 := r1.2.2.2.2.1
  have e : ∀ r, r ≠ 15 → r ≠ 16 → r ≠ 17 → r ≠ 18 → tkF n k r = n r := fun r a b c d => tk_o ⟨a, b, c, d⟩
  have em : ∀ r, r ≠ 33 → r ≠ 46 → r ≠ 47 → r ≠ 48 → tkM m k r = m r := fun r a b c d => tkM_o ⟨a, b, c, d⟩
  have c15 : tkF n k 15 0 = n 15 0 - 1 := by unfold tkF; exact ku_s _ _ _ _
  have f16 : ∀ i, tkF n k 16 i = (if k ≤ i ∧ i < k + (n 15 0 - 1 - k) then n 16 (i + 1) else n 16 i) ∧ tkF n k 17 i = (if k ≤ i ∧ i < k + (n 15 0 - 1 - k) then n 17 (i + 1) else n 17 i) ∧ tkF n k 18 i = (if k ≤ i ∧ i < k + (n 15 0 - 1 - k) then n 18 (i + 1) else n 18 i) := fun i => by
    unfold tkF
    rw [ku_n (by decide), ku_n (by decide), ku_n (by decide)]
    exact sh_16 _ i
  have f46 : ∀ i, tkM m k 46 i = (if k ≤ i ∧ i < k + (n 15 0 - 1 - k) then m 46 (i + 1) else m 46 i) ∧ tkM m k 47 i = (if k ≤ i ∧ i < k + (n 15 0 - 1 - k) then m 47 (i + 1) else m 47 i) ∧ tkM m k 48 i = (if k ≤ i ∧ i < k + (n 15 0 - 1 - k) then m 48 (i + 1) else m 48 i) := fun i => by
    have := shM_46 (m := ku m 33 11 (m 33 11 - 1)) (k := k) (m 33 11 - 1 - k) i
    rw [ku_row (by decide), ku_row (by decide), ku_row (by decide)] at this
    unfold tkM
    rw [← h11]
    exact this
  have etq : ∀ q, m 42 q < 4 → tq (tkF n k) (tkM m k) q = tq n m q := fun q hq => tq_c (by rw [em 42 (by decide) (by decide) (by decide) (by decide)]) (by rw [em 43 (by decide) (by decide) (by decide) (by decide)]) (by rw [em 44 (by decide) (by decide) (by decide) (by decide)]) (e 6 (by decide) (by decide) (by decide) (by decide)) (e _ (by omega) (by omega) (by omega) (by omega))
  have s6 : R6 (tkF n k) (tkM m k) := by
    intro i hi
    rw [c15] at hi
    obtain ⟨u1, u2, u3⟩ := f16 i
    obtain ⟨v1, v2, v3⟩ := f46 i
    rw [u1, u2, u3, v1, v2, v3, e 14 (by decide) (by decide) (by decide) (by decide)]
    by_cases hx : k ≤ i ∧ i < k + (n 15 0 - 1 - k)
    · simp only [if_pos hx]
      obtain ⟨b1, b2, b3, b4, b5, b6, b7, b8⟩ := r6 (i + 1) (by omega)
      exact ⟨b1, b2, b3, b4, b5, b6, b7, fun q => by rw [etq _ (r5 _ b5 b6).1]; exact b8 q⟩
    · simp only [if_neg hx]
      obtain ⟨b1, b2, b3, b4, b5, b6, b7, b8⟩ := r6 i (by omega)
      exact ⟨b1, b2, b3, b4, b5, b6, b7, fun q => by rw [etq _ (r5 _ b5 b6).1]; exact b8 q⟩
  refine RX_let h e em (fun j hj => tkM_33 hj) s6 (by rw [tkM_11, c15, h11]) (by omega) (fun i => ?_) ?_ ?_
  · rw [(f46 i).1]
    split <;> exact rb.2 _
  · exact NB_ku (NB_shN hBn _) (by omega)
  · exact NB_shM (NB_ku hBm (by omega)) _
theorem RX_disc {n m : Nat → Nat → Nat} (h : RX n m) {x : Nat} (hx : x ≤ n 14 0) : RX (ku n 14 2 x) (ku m 33 10 x) := by
  obtain ⟨hD, h1, h2, h3, h4, h5, h6, h7, h8, h9, hb, hd2, hBn, hBm, hBK⟩ := h
  have e : ∀ r, r ≠ 14 → ku n 14 2 x r = n r := fun r hr => ku_row hr
  have em : ∀ r, r ≠ 33 → ku m 33 10 x r = m r := fun r hr => ku_row hr
  have e20 : ∀ p, p < 4 → ku n 14 2 x (20 + p) = n (20 + p) := fun p _ => e _ (by omega)
  have e25 : ∀ p, p < 4 → ku n 14 2 x (25 + p) = n (25 + p) := fun p _ => e _ (by omega)
  have hx4 := hBn 14 0
  have ekw : ∀ p f9 t, kwF (ku m 33 10 x) p f9 t = kwF m p f9 t := fun p f9 t => kwF_eq (em 42 (by decide)) (em 43 (by decide)) (em 44 (by decide)) (em 45 (by decide)) rfl p f9 t
  refine ⟨DX_c hD rfl rfl rfl (fun i => (hD.2.2.1 i).2) e20 e25 hD.2.2.2.2.1 hD.2.2.2.2.2, ⟨h1.1, h1.2.1, h1.2.2.1, h1.2.2.2.1, h1.2.2.2.2.1, rfl⟩, h2, R3_c h3 rfl e20 rfl, R4_c h4 rfl rfl e25 ekw, h5, ?_, h7, ?_, h9, hb, hx, NB_ku hBn (by omega), NB_ku hBm (by omega), BK_c hBK rfl rfl rfl e25⟩
  · intro i hi
    obtain ⟨b1, b2, b3, b4, b5, b6, b7, b8⟩ := h6 i hi
    refine ⟨b1, b2, b3, b4, b5, b6, b7, fun hx9 => ?_⟩
    have e9 := b8 hx9
    refine e9.trans (tq_c (n := n) (n' := ku n 14 2 x) (m := m) (m' := ku m 33 10 x) (q := n 17 i) rfl rfl rfl rfl ?_).symm
    exact e _ (by have := (h5 (n 17 i) b5 b6).1; omega)
  · refine ⟨h8.1, h8.2.1, fun hx9 => ?_⟩
    have e9 := h8.2.2 hx9
    show ku n 14 2 x (25 + m 42 (n 14 0)) (n 14 1) = 4294967295
    rw [e _ (by omega)]
    exact e9
theorem pn_F {n m : Nat → Nat → Nat} (h : RX n m) {x : Nat} (hx : 1 ≤ x ∧ x ≤ n 14 0) : pnF n x = tq n m x := by
  have hQ := qw_parts (h.2.2.2.2.2.1 x hx.1 hx.2) h.1.1.2.2
  unfold pnF tq
  rw [hQ.2.2.1, hQ.2.2.2.1, hQ.2.2.2.2]
theorem pn_M {n m : Nat → Nat → Nat} (h : RX n m) {x : Nat} (hx : 1 ≤ x ∧ x ≤ n 14 0) : pnM m x = tq n m x := by
  obtain ⟨b1, b2, b3, b4⟩ := h.2.2.2.2.2.1 x hx.1 hx.2
  have hl : n 14 5 ≤ 128 := h.1.1.2.2
  unfold pnM tq
  refine parF_eq _ (fun i h4 h5 => ?_)
  have h6 := h.1.2.1 (m 42 x) i b1 (by omega)
  have h7 := h.2.2.2.1 (m 42 x) i b1 (by omega)
  show m 38 (128 * 0 + m 41 (128 * m 42 x + i)) = n 6 (n (20 + m 42 x) i)
  rw [← h7, (h.2.2.1 _ (by omega)).1, show 128 * 0 + n (20 + m 42 x) i = n (20 + m 42 x) i by omega]
theorem tq_lt {n m : Nat → Nat → Nat} (h : RX n m) (q : Nat) : tq n m q < 2 := parF_lt (fun i => (h.1.2.2.1 i).1) _
/-- answering a question on both sides -/
theorem RX_answer {n m : Nat → Nat → Nat} (h : RX n m) {x : Nat} (hx : 1 ≤ x ∧ x ≤ n 14 0) : RX (anF n x) (anM m x) := by
  have h10 := h.2.1.2.2.2.2.2
  have hd2 := h.2.2.2.2.2.2.2.2.2.2.2.1
  have hdx : (if n 14 2 < x then x else n 14 2) ≤ n 14 0 := by split <;> omega
  have hR := RX_disc h hdx
  have e1 : pnF n x = tq (ku n 14 2 (if n 14 2 < x then x else n 14 2)) (ku m 33 10 (if n 14 2 < x then x else n 14 2)) x := by
    rw [pn_F h hx]
    exact (tq_c (n := n) (m := m) (n' := ku n 14 2 (if n 14 2 < x then x else n 14 2)) (m' := ku m 33 10 (if n 14 2 < x then x else n 14 2)) (q := x) rfl rfl rfl rfl (ku_row (by omega))).symm
  have e2 : pnM (ku m 33 10 (if n 14 2 < x then x else n 14 2)) x = pnF n x := by
    rw [pn_M hR hx, e1]
  unfold anF anM
  rw [h10, e2]
  exact RX_send hR (by decide) hx (by rw [e1]; exact tq_lt hR x) (fun _ => e1)
