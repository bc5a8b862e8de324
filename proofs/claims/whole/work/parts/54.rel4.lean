/-! pure: what stays when rows stay; asking, flipping, going to the next pass -/
theorem rg_c {n n' : Nat → Nat → Nat} (h4 : n' 14 4 = n 14 4) (h5 : n' 14 5 = n 14 5) (p m : Nat) : rgN n' p m = rgN n p m := by unfold rgN; rw [h4, h5]
theorem tp_c {n n' : Nat → Nat → Nat} (h4 : n' 14 4 = n 14 4) (h5 : n' 14 5 = n 14 5) (h6 : n' 6 = n 6) {p : Nat} (h20 : n' (20 + p) = n (20 + p)) (m : Nat) : tpN n' p m = tpN n p m := by unfold tpN; rw [rg_c h4 h5, h6, h20]
theorem DX_c {n n' : Nat → Nat → Nat} (h : DX n) (h4 : n' 14 4 = n 14 4) (h5 : n' 14 5 = n 14 5) (h6 : n' 6 = n 6) (h12 : ∀ i, n' 12 i < 2) (h20 : ∀ p, p < 4 → n' (20 + p) = n (20 + p)) (h25 : ∀ p, p < 4 → n' (25 + p) = n (25 + p)) (h15 : n' 15 0 ≤ 16) (h3 : n' 14 3 ≤ 4) : DX n' := by
  obtain ⟨a1, a2, a3, a4, a5, a6⟩ := h
  refine ⟨by rw [h4, h5]; exact a1, fun p i hp hi => ?_, fun i => ⟨by rw [h6]; exact (a3 i).1, h12 i⟩, fun p m hp hm => ?_, h15, h3⟩
  · rw [h5] at hi ⊢
    rw [h20 p hp]
    exact a2 p i hp hi
  · rw [h5] at hm
    rw [h25 p hp, tp_c h4 h5 h6 (h20 p hp)]
    exact a4 p m hp hm
theorem R3_c {n n' m m' : Nat → Nat → Nat} (h : R3 n m) (h5 : n' 14 5 = n 14 5) (h20 : ∀ p, p < 4 → n' (20 + p) = n (20 + p)) (h41 : m' 41 = m 41) : R3 n' m' := fun p i hp hi => by
  rw [h20 p hp, h41]
  exact h p i hp (by rw [← h5]; exact hi)
theorem R4_c {n n' m m' : Nat → Nat → Nat} (h : R4 n m) (h4 : n' 14 4 = n 14 4) (h5 : n' 14 5 = n 14 5) (h25 : ∀ p, p < 4 → n' (25 + p) = n (25 + p)) (hk : ∀ p f t, kwF m' p f t = kwF m p f t) : R4 n' m' := fun p i hp hi => by
  rw [h25 p hp, rg_c h4 h5, hk]
  exact h p i hp (by rw [← h5]; exact hi)
theorem knP_c {m m' : Nat → Nat → Nat} (p f t : Nat) : ∀ k, (∀ i, 1 ≤ i → i ≤ k → m' 42 i = m 42 i ∧ m' 43 i = m 43 i ∧ m' 44 i = m 44 i) → knP m' p f t k = knP m p f t k
  | 0, _ => rfl
  | k + 1, h => by
    have h1 := h (k + 1) (by omega) (by omega)
    simp only [knP]
    rw [knP_c p f t k (fun i a b => h i a (by omega)), h1.1, h1.2.1, h1.2.2]
theorem BK_c {n n' : Nat → Nat → Nat} (h : BK n) (h3 : n' 14 3 = n 14 3) (h4 : n' 14 4 = n 14 4) (h5 : n' 14 5 = n 14 5) (h25 : ∀ p, p < 4 → n' (25 + p) = n (25 + p)) : BK n' := fun p b hp h3' hb => by
  rw [h25 p hp, h4]
  refine h p b hp (by rw [← h3]; exact h3') ?_
  unfold bcF at hb ⊢
  rw [← h4, ← h5]
  exact hb
theorem tq_c {n n' m m' : Nat → Nat → Nat} {q : Nat} (h42 : m' 42 q = m 42 q) (h43 : m' 43 q = m 43 q) (h44 : m' 44 q = m 44 q) (h6 : n' 6 = n 6) (h20 : n' (20 + m 42 q) = n (20 + m 42 q)) : tq n' m' q = tq n m q := by
  unfold tq
  rw [h42, h43, h44, h6, h20]
theorem qw_lt {q f t : Nat} (hq : q < 4) (hf : f < 128) (ht : t ≤ 128) : (q * 2 ^ 16 ||| f * 2 ^ 8 ||| t) < 4294967296 :=
  Nat.or_lt_two_pow (n := 32) (Nat.or_lt_two_pow (n := 32) (by omega) (by omega)) (by omega)
theorem ah_row {n : Nat → Nat → Nat} {q f t mk r : Nat} (h : r ≠ 14 ∧ r ≠ 15 ∧ r ≠ 16 ∧ r ≠ 17 ∧ r ≠ 18 ∧ r ≠ 29) : akH n q f t mk r = n r := by
  unfold akH
  rw [sd_o ⟨h.2.1, h.2.2.1, h.2.2.2.1, h.2.2.2.2.1⟩]
  unfold akG
  rw [ku_row h.1, ku_row h.1, ku_row h.2.2.2.2.2]
theorem ah_14 {n : Nat → Nat → Nat} {q f t mk j : Nat} : akH n q f t mk 14 j = if j = 1 then mk else if j = 0 then n 14 0 + 1 else n 14 j := by
  unfold akH
  rw [sd_o (by decide)]
  unfold akG
  simp [ku]
theorem am_row {m : Nat → Nat → Nat} {q f t r : Nat} (h : r ≠ 33 ∧ r ≠ 42 ∧ r ≠ 43 ∧ r ≠ 44 ∧ r ≠ 46 ∧ r ≠ 47 ∧ r ≠ 48) : akM m q f t r = m r := by
  unfold akM
  rw [sdM_o ⟨h.1, h.2.2.2.2.1, h.2.2.2.2.2.1, h.2.2.2.2.2.2⟩]
  unfold akMG
  rw [ku_row h.2.2.2.1, ku_row h.2.2.1, ku_row h.2.1, ku_row h.1]
theorem am_33 {m : Nat → Nat → Nat} {q f t j : Nat} (hj : j ≠ 11) : akM m q f t 33 j = if j = 8 then m 33 8 + 1 else m 33 j := by
  unfold akM
  rw [sdM_33 hj]
  unfold akMG
  simp [ku]
theorem am_42 {m : Nat → Nat → Nat} {q f t i : Nat} : akM m q f t 42 i = (if i = m 33 8 + 1 then q else m 42 i) ∧ akM m q f t 43 i = (if i = m 33 8 + 1 then f else m 43 i) ∧ akM m q f t 44 i = (if i = m 33 8 + 1 then t else m 44 i) := by
  unfold akM
  rw [sdM_o (r := 42) (by decide), sdM_o (r := 43) (by decide), sdM_o (r := 44) (by decide)]
  unfold akMG
  refine ⟨?_, ?_, ?_⟩ <;> simp [ku]
/-- asking on both sides -/
theorem RX_ask {n m : Nat → Nat → Nat} (h : RX n m) (hp : m 33 9 = m 33 8) {q f t mk : Nat} (hq : q < 4) (hmk : mk < n 14 5) (hrg : rgN n q mk = (f, t)) (hun : n (25 + q) mk = 4294967295) (hft : f < t) (ht : t ≤ n 14 5) (h512 : n 14 0 < 512) : RX (akH n q f t mk) (akM m q f t) ∧ akH n q f t mk 14 0 = n 14 0 + 1 ∧ akM m q f t 33 9 < akM m q f t 33 8 := by
  obtain ⟨hD, h1, h2, h3, h4, h5, h6, h7, h8, h9, hb, hd2, hBn, hBm, hBK⟩ := h
  have hl : n 14 5 ≤ 128 := hD.1.2.2
  have hc : n 15 0 ≤ 16 := hD.2.2.2.2.1
  have a8 : m 33 8 = n 14 0 := h1.2.2.2.1
  have a11 : m 33 11 = n 15 0 := h1.2.2.2.2.1
  have e20 : ∀ p, p < 4 → akH n q f t mk (20 + p) = n (20 + p) := fun p hp => ah_row (by omega)
  have e25 : ∀ p, p < 4 → akH n q f t mk (25 + p) = n (25 + p) := fun p hp => ah_row (by omega)
  have e6 : akH n q f t mk 6 = n 6 := ah_row (by decide)
  have e12 : akH n q f t mk 12 = n 12 := ah_row (by decide)
  have c0 : akH n q f t mk 14 0 = n 14 0 + 1 := by rw [ah_14]; rfl
  have c1 : akH n q f t mk 14 1 = mk := by rw [ah_14]; rfl
  have c2 : akH n q f t mk 14 2 = n 14 2 := by rw [ah_14]; rfl
  have c3 : akH n q f t mk 14 3 = n 14 3 := by rw [ah_14]; rfl
  have c4 : akH n q f t mk 14 4 = n 14 4 := by rw [ah_14]; rfl
  have c5 : akH n q f t mk 14 5 = n 14 5 := by rw [ah_14]; rfl
  have m8 : akM m q f t 33 8 = n 14 0 + 1 := by rw [am_33 (by decide), a8]; rfl
  have m9 : akM m q f t 33 9 = n 14 0 := by rw [am_33 (by decide), ← a8, ← hp]; rfl
  have old : ∀ i, i ≤ n 14 0 → akM m q f t 42 i = m 42 i ∧ akM m q f t 43 i = m 43 i ∧ akM m q f t 44 i = m 44 i := fun i hi => by
    have := am_42 (m := m) (q := q) (f := f) (t := t) (i := i)
    rw [a8] at this
    rw [this.1, this.2.1, this.2.2, if_neg (by omega), if_neg (by omega), if_neg (by omega)]
    exact ⟨rfl, rfl, rfl⟩
  have new : akM m q f t 42 (n 14 0 + 1) = q ∧ akM m q f t 43 (n 14 0 + 1) = f ∧ akM m q f t 44 (n 14 0 + 1) = t := by
    have := am_42 (m := m) (q := q) (f := f) (t := t) (i := n 14 0 + 1)
    rw [a8] at this
    rw [this.1, this.2.1, this.2.2, if_pos rfl, if_pos rfl, if_pos rfl]
    exact ⟨rfl, rfl, rfl⟩
  have e29 : ∀ i, akH n q f t mk 29 i = if i = n 14 0 then (q * 2 ^ 16 ||| f * 2 ^ 8 ||| t) else n 29 i := fun i => by
    unfold akH
    rw [sd_o (by decide)]
    unfold akG
    simp [ku]
  -- the letters, over the question's own rows
  have hG6 : R6 (akG n q f t mk) (akMG m q f t) := by
    intro i hi
    have hi : i < n 15 0 := hi
    obtain ⟨b1, b2, b3, b4, b5, b6, b7, b8⟩ := h6 i hi
    refine ⟨b1, b2, b3, b4, b5, ?_, b7, fun hx => ?_⟩
    · show n 17 i ≤ akG n q f t mk 14 0
      unfold akG
      simp [ku]
      omega
    · show n 18 i = tq (akG n q f t mk) (akMG m q f t) (n 17 i)
      rw [b8 hx]
      have hQ := h5 (n 17 i) b5 b6
      symm
      refine tq_c ?_ ?_ ?_ rfl ?_
      · unfold akMG; simp [ku]; omega
      · unfold akMG; simp [ku]; omega
      · unfold akMG; simp [ku]; omega
      · unfold akG
        have := hQ.1
        rw [ku_row (by omega), ku_row (by omega), ku_row (by omega)]
  have hS6 := R6_sd (n := akG n q f t mk) (m := akMG m q f t) (x := 0) (y := n 14 0 + 1) (z := 0) hG6 a11 hc (by decide) ⟨by omega, by unfold akG; simp [ku]⟩ (by decide) (fun h => absurd h (by decide))
  have eM : akM m q f t = sdM (akMG m q f t) 0 (n 14 0 + 1) 0 := by unfold akM; rw [a8]
  refine ⟨⟨?_, ?_, ?_, ?_, ?_, ?_, ?_, ?_, ?_, ?_, ?_, ?_, ?_, ?_, ?_⟩, c0, by omega⟩
  · exact DX_c hD c4 c5 e6 (fun i => by rw [e12]; exact (hD.2.2.1 i).2) e20 e25 hS6.2.2 (by rw [c3]; exact hD.2.2.2.2.2)
  · refine ⟨?_, ?_, ?_, by rw [m8, c0], ?_, ?_⟩
    · rw [am_33 (by decide), c4]; exact h1.1
    · rw [am_33 (by decide), c5]; exact h1.2.1
    · rw [am_33 (by decide), c3]; exact h1.2.2.1
    · rw [eM]; exact hS6.2.1
    · rw [am_33 (by decide), c2]; exact h1.2.2.2.2.2
  · intro i hi
    rw [e6, e12, am_row (r := 38) (by decide)]
    exact h2 i hi
  · exact R3_c h3 c5 e20 (am_row (by decide))
  · refine R4_c h4 c4 c5 e25 (fun p f9 t9 => ?_)
    unfold kwF
    rw [m9, hp, a8, knP_c (m := m) (m' := akM m q f t) p f9 t9 (n 14 0) (fun i _ hi => old i hi), am_row (r := 45) (by decide)]
  · intro q9 hq1 hq2
    rw [c0] at hq2
    by_cases hn : q9 = n 14 0 + 1
    · subst hn
      unfold QW
      rw [new.1, new.2.1, new.2.2, c5, e29, if_pos (by omega)]
      exact ⟨hq, hft, ht, rfl⟩
    · have ho := old q9 (by omega)
      unfold QW
      rw [ho.1, ho.2.1, ho.2.2, c5, e29, if_neg (by omega)]
      exact h5 q9 hq1 (by omega)
  · rw [eM]; exact hS6.1
  · intro _
    rw [c0, c1, c5, new.1, new.2.1, new.2.2, rg_c c4 c5]
    exact ⟨hmk, hrg⟩
  · refine ⟨by omega, by omega, fun _ => ?_⟩
    rw [c0, c1, new.1, e25 q hq]
    exact hun
  · intro q9 hq1 hq2
    rw [m9] at hq2
    rw [am_row (r := 45) (by decide)]
    exact h9 q9 hq1 (by omega)
  · refine ⟨fun i => by rw [am_row (r := 38) (by decide)]; exact hb.1 i, ?_⟩
    rw [eM]
    exact sdM_46 hb.2 (by decide)
  · rw [c0, c2]; omega
  · have : NB (akG n q f t mk) := NB_ku (NB_ku (NB_ku hBn (qw_lt hq (by omega) (by omega))) (by omega)) (by omega)
    exact NB_sd this (by decide) (by omega) (by decide) hc
  · rw [eM]
    have : NB (akMG m q f t) := by
      unfold akMG
      rw [a8]
      exact NB_ku (NB_ku (NB_ku (NB_ku hBm (by omega)) (by omega)) (by omega)) (by omega)
    exact NB_sdM this (by decide) (by omega) (by decide) (by show m 33 11 ≤ 16; omega)
  · exact BK_c hBK c3 c4 c5 e25
