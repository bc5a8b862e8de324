/-! turns: start, shorten -/
theorem RX_rows2 {n m n' m' : Nat → Nat → Nat} (h : RX n m) (hn : ∀ r, r < 33 → r ≠ 0 → r ≠ 32 → n' r = n r) (hm : ∀ r, 33 < r → r < 49 → m' r = m r) (h33 : ∀ j, j ≠ 0 → j ≠ 12 → m' 33 j = m 33 j) (hBn' : NB n') (hBm' : NB m') : RX n' m' := by
  obtain ⟨hD, h1, h2, h3, h4, h5, h6, h7, h8, h9, hb, hd2, hBn, hBm, hBK⟩ := h
  have e20 : ∀ p, p < 4 → n' (20 + p) = n (20 + p) := fun p hp => hn _ (by omega) (by omega) (by omega)
  have e25 : ∀ p, p < 4 → n' (25 + p) = n (25 + p) := fun p hp => hn _ (by omega) (by omega) (by omega)
  have e14 := hn 14 (by decide) (by decide) (by decide)
  have ekw : ∀ p f9 t, kwF m' p f9 t = kwF m p f9 t := fun p f9 t => kwF_eq (hm 42 (by decide) (by decide)) (hm 43 (by decide) (by decide)) (hm 44 (by decide) (by decide)) (hm 45 (by decide) (by decide)) (h33 9 (by decide) (by decide)) p f9 t
  have m42 := hm 42 (by decide) (by decide)
  have m43 := hm 43 (by decide) (by decide)
  have m44 := hm 44 (by decide) (by decide)
  refine ⟨DX_c hD (by rw [e14]) (by rw [e14]) (hn 6 (by decide) (by decide) (by decide)) (fun i => by rw [hn 12 (by decide) (by decide) (by decide)]; exact (hD.2.2.1 i).2) e20 e25 (by rw [hn 15 (by decide) (by decide) (by decide)]; exact hD.2.2.2.2.1) (by rw [e14]; exact hD.2.2.2.2.2), ?_, ?_, R3_c h3 (by rw [e14]) e20 (hm 41 (by decide) (by decide)), R4_c h4 (by rw [e14]) (by rw [e14]) e25 ekw, ?_, ?_, ?_, ?_, ?_, ?_, ?_, hBn', hBm', BK_c hBK (by rw [e14]) (by rw [e14]) (by rw [e14]) e25⟩
  · unfold R1
    rw [e14, hn 15 (by decide) (by decide) (by decide), h33 6 (by decide) (by decide), h33 2 (by decide) (by decide), h33 7 (by decide) (by decide), h33 8 (by decide) (by decide), h33 11 (by decide) (by decide), h33 10 (by decide) (by decide)]
    exact h1
  · intro i hi
    rw [hn 6 (by decide) (by decide) (by decide), hn 12 (by decide) (by decide) (by decide), hm 38 (by decide) (by decide)]
    exact h2 i hi
  · intro q9 a1 a2
    rw [e14] at a2
    have := h5 q9 a1 a2
    unfold QW at this ⊢
    rw [m42, m43, m44, e14, hn 29 (by decide) (by decide) (by decide)]
    exact this
  · intro i hi
    rw [hn 15 (by decide) (by decide) (by decide)] at hi
    obtain ⟨b1, b2, b3, b4, b5, b6, b7, b8⟩ := h6 i hi
    rw [hn 16 (by decide) (by decide) (by decide), hn 17 (by decide) (by decide) (by decide), hn 18 (by decide) (by decide) (by decide), e14, hm 46 (by decide) (by decide), hm 47 (by decide) (by decide), hm 48 (by decide) (by decide)]
    refine ⟨b1, b2, b3, b4, b5, b6, b7, fun hx9 => ?_⟩
    rw [b8 hx9]
    have hq := (h5 (n 17 i) b5 b6).1
    exact (tq_c (by rw [m42]) (by rw [m43]) (by rw [m44]) (hn 6 (by decide) (by decide) (by decide)) (hn _ (by omega) (by omega) (by omega))).symm
  · intro hn1
    rw [e14] at hn1 ⊢
    rw [m42, m43, m44, rg_c (by rw [e14]) (by rw [e14])]
    exact h7 hn1
  · unfold R8
    rw [h33 9 (by decide) (by decide), h33 8 (by decide) (by decide), m42, e14]
    refine ⟨h8.1, h8.2.1, fun hx => ?_⟩
    have hx2 := h8.2.2 hx
    have h18 : 1 ≤ n 14 0 := by have := h1.2.2.2.1; omega
    have hq := (h5 (n 14 0) h18 (Nat.le_refl _)).1
    rw [hn _ (by omega) (by omega) (by omega)]
    exact hx2
  · intro q9 a1 a2
    rw [h33 9 (by decide) (by decide)] at a2
    rw [hm 45 (by decide) (by decide)]
    exact h9 q9 a1 a2
  · exact ⟨fun i => by rw [hm 38 (by decide) (by decide)]; exact hb.1 i, fun i => by rw [hm 46 (by decide) (by decide)]; exact hb.2 i⟩
  · rw [e14]; exact hd2
theorem stO_r {n : Nat → Nat → Nat} {z : Nat} : ∀ P, P ≤ 4 → ∀ p, p < P → ∀ i, i < n 0 0 → stO n z P (20 + p) i = shuF n 99 (z + p) (n 0 0) 99 i
  | 0, _, p, hp, _, _ => absurd hp (by omega)
  | P + 1, hP, p, hp, i, hi => by
    simp only [stO]
    by_cases hx : p = P
    · subst hx
      exact shu_R hi
    · rw [shuF_o (by omega)]
      exact stO_r P (by omega) p (by omega) i hi
theorem NB_stO {n : Nat → Nat → Nat} {z : Nat} (h : NB n) : ∀ P, NB (stO n z P)
  | 0 => h
  | P + 1 => NB_shuF (NB_stO h P) (Nat.le_of_lt (h _ _))
theorem cp_r {n : Nat → Nat → Nat} {p : Nat} : ∀ c x, cpM n p c 41 x = if 128 * p ≤ x ∧ x < 128 * p + c then n 39 (x - 128 * p) else n 41 x
  | 0, x => by rw [if_neg (by omega)]; rfl
  | c + 1, x => by
    simp only [cpM]
    rw [ku_r, cp_r c x, cpM_o (by decide)]
    by_cases hx : x = 128 * p + c
    · rw [if_pos hx, if_pos (by omega), show x - 128 * p = c by omega]
    · rw [if_neg hx, ifr hx]
theorem soM_r {m : Nat → Nat → Nat} {z : Nat} (ht : m 33 2 ≤ 128) : ∀ P p, p < P → ∀ i, i < m 33 2 → soM m z P 41 (128 * p + i) = shuF m 99 (z + p) (m 33 2) 99 i
  | 0, p, hp, _, _ => absurd hp (by omega)
  | P + 1, p, hp, i, hi => by
    simp only [soM]
    rw [cp_r]
    by_cases hx : p = P
    · subst hx
      rw [if_pos (by omega), show 128 * p + i - 128 * p = i by omega]
      exact shu_R hi
    · rw [if_neg (by omega), shuF_o (by decide)]
      exact soM_r ht P p (by omega) i hi
theorem kf_o {n : Nat → Nat → Nat} {r : Nat} (h : ¬ (25 ≤ r ∧ r < 29)) : ∀ P, P ≤ 4 → kfF n P r = n r
  | 0, _ => rfl
  | P + 1, hP => by
    simp only [kfF]
    rw [fiF_o (by omega)]
    exact kf_o h P (by omega)
theorem kf_r {n : Nat → Nat → Nat} : ∀ P p, p < P → ∀ i, i < 128 → kfF n P (25 + p) i = 4294967295
  | 0, p, hp, _, _ => absurd hp (by omega)
  | P + 1, p, hp, i, hi => by
    simp only [kfF]
    by_cases hx : p = P
    · subst hx
      rw [fi_r, if_pos hi]
    · rw [fiF_o (by omega)]
      exact kf_r P p (by omega) i hi
theorem NB_kfF {n : Nat → Nat → Nat} (h : NB n) : ∀ P, NB (kfF n P)
  | 0 => h
  | P + 1 => NB_fiF (NB_kfF h P) (by decide) _
/-- the dialogue's relation at its start -/
theorem RX_st {n m0 : Nat → Nat → Nat} {k z : Nat} (hB : NB n) (hB0 : NB m0) (hr : ∀ r, 33 ≤ r → m0 r = n r) (hS : ISt n) (h0 : IB0 n) (h4 : 4 ≤ k) (hk : k ≤ n 0 0) (hn : n 0 0 ≤ 128) (h2 : n 33 2 = n 0 0) : RX (bgF (stO n z 4) k (n 0 0)) (soM (ku (ku (ku (ku m0 33 0 0) 33 5 1) 33 6 k) 33 7 0) z 4) := by
  obtain ⟨s1, s2, -, -, -⟩ := hS
  obtain ⟨b1, b2, b3, b4, b5, b6, b7, b8, b9, b10, b11⟩ := h0
  have N0 : ∀ r, ¬ (25 ≤ r ∧ r < 29) → r ≠ 14 → bgF (stO n z 4) k (n 0 0) r = stO n z 4 r := fun r q1 q2 => by unfold bgF; rw [ku_row q2, kf_o q1 4 (by decide), ku_row q2, ku_row q2]
  have N1 : ∀ r, ¬ (20 ≤ r ∧ r < 29) → r ≠ 14 → bgF (stO n z 4) k (n 0 0) r = n r := fun r q1 q2 => by rw [N0 r (by omega) q2, stO_o (fun p hp => by omega) 4 (by decide)]
  have s14 : stO n z 4 14 = n 14 := stO_o (fun p hp => by omega) 4 (by decide)
  have N14 : ∀ j, j ≠ 3 → j ≠ 4 → j ≠ 5 → bgF (stO n z 4) k (n 0 0) 14 j = n 14 j := fun j q3 q4 q5 => by unfold bgF; rw [ku_m q3, kf_o (by omega) 4 (by decide), ku_m q5, ku_m q4, s14]
  have N143 : bgF (stO n z 4) k (n 0 0) 14 3 = 0 := by unfold bgF; rw [ku_s]
  have N144 : bgF (stO n z 4) k (n 0 0) 14 4 = k := by unfold bgF; rw [ku_m (by decide), kf_o (by omega) 4 (by decide), ku_m (by decide), ku_s]
  have N145 : bgF (stO n z 4) k (n 0 0) 14 5 = n 0 0 := by unfold bgF; rw [ku_m (by decide), kf_o (by omega) 4 (by decide), ku_s]
  have N20 : ∀ p i, p < 4 → i < n 0 0 → bgF (stO n z 4) k (n 0 0) (20 + p) i = shuF n 99 (z + p) (n 0 0) 99 i := fun p i hp hi => by rw [N0 (20 + p) (by omega) (by omega)]; exact stO_r 4 (by decide) p hp i hi
  have N25 : ∀ p i, p < 4 → i < 128 → bgF (stO n z 4) k (n 0 0) (25 + p) i = 4294967295 := fun p i hp hi => by unfold bgF; rw [ku_n (by omega)]; exact kf_r 4 p hp i hi
  have NBN : NB (bgF (stO n z 4) k (n 0 0)) := NB_ku (NB_kfF (NB_ku (NB_ku (NB_stO hB 4) (by omega)) (by omega)) 4) (by decide)
  generalize bgF (stO n z 4) k (n 0 0) = N at *
  have M0 : ∀ r, 33 < r → ku (ku (ku (ku m0 33 0 0) 33 5 1) 33 6 k) 33 7 0 r = n r := fun r q => by rw [ku_row (by omega), ku_row (by omega), ku_row (by omega), ku_row (by omega), hr r (by omega)]
  have M33 : ∀ j, j ≠ 0 → j ≠ 5 → j ≠ 6 → j ≠ 7 → ku (ku (ku (ku m0 33 0 0) 33 5 1) 33 6 k) 33 7 0 33 j = n 33 j := fun j q0 q5 q6 q7 => by rw [ku_m q7, ku_m q6, ku_m q5, ku_m q0, hr 33 (by decide)]
  have M336 : ku (ku (ku (ku m0 33 0 0) 33 5 1) 33 6 k) 33 7 0 33 6 = k := by rw [ku_m (by decide), ku_s]
  have M337 : ku (ku (ku (ku m0 33 0 0) 33 5 1) 33 6 k) 33 7 0 33 7 = 0 := ku_s _ _ _ _
  have NBM : NB (ku (ku (ku (ku m0 33 0 0) 33 5 1) 33 6 k) 33 7 0) := NB_ku (NB_ku (NB_ku (NB_ku hB0 (by decide)) (by decide)) (by omega)) (by decide)
  generalize ku (ku (ku (ku m0 33 0 0) 33 5 1) 33 6 k) 33 7 0 = M at *
  have e2 : M 33 2 = n 0 0 := by rw [M33 2 (by decide) (by decide) (by decide) (by decide)]; exact h2
  have S33 : soM M z 4 33 = M 33 := soM_o (by decide) (by decide) 4
  have Sr : ∀ r, 33 < r → r ≠ 39 → r ≠ 41 → soM M z 4 r = n r := fun r q1 q2 q3 => by rw [soM_o q3 q2, M0 r q1]
  have S41 : ∀ p i, p < 4 → i < n 0 0 → soM M z 4 41 (128 * p + i) = shuF M 99 (z + p) (n 0 0) 99 i := fun p i hp hi => by
    have := soM_r (m := M) (z := z) (by omega) 4 p hp i (by omega)
    rw [e2] at this
    exact this
  have NBS : NB (soM M z 4) := NB_soM NBM 4
  have x9 : soM M z 4 33 9 = 0 := by rw [S33, M33 9 (by decide) (by decide) (by decide) (by decide)]; exact b8
  have x8 : soM M z 4 33 8 = 0 := by rw [S33, M33 8 (by decide) (by decide) (by decide) (by decide)]; exact b7
  have y0 : N 14 0 = 0 := by rw [N14 0 (by decide) (by decide) (by decide)]; exact b6
  have y15 : N 15 0 = 0 := by rw [N1 15 (by omega) (by decide)]; exact b4
  refine ⟨⟨?_, ?_, ?_, ?_, by omega, by omega⟩, ⟨?_, ?_, ?_, ?_, ?_, ?_⟩, ?_, ?_, ?_, ?_, ?_, ?_, ?_, ?_, ?_, ?_, NBN, NBS, ?_⟩
  · rw [N144, N145]; exact ⟨h4, hk, hn⟩
  · intro p i hp hi
    rw [N145] at hi ⊢
    rw [N20 p i hp hi]
    exact shu_lt hi
  · intro i
    rw [N1 6 (by omega) (by decide), N1 12 (by omega) (by decide)]
    exact ⟨(s2 i).1, (s2 i).2.1⟩
  · intro p i hp hi
    rw [N145] at hi
    exact Or.inl (N25 p i hp (by omega))
  · rw [S33, M336, N144]
  · rw [S33, e2, N145]
  · rw [S33, M337, N143]
  · rw [x8, y0]
  · rw [S33, M33 11 (by decide) (by decide) (by decide) (by decide), y15]; exact b5
  · rw [S33, M33 10 (by decide) (by decide) (by decide) (by decide), N14 2 (by decide) (by decide) (by decide), b10, b9]
  · intro i hi
    rw [N1 6 (by omega) (by decide), N1 12 (by omega) (by decide), Sr 38 (by decide) (by decide) (by decide)]
    exact s1 i hi
  · intro p i hp hi
    rw [N145] at hi
    rw [N20 p i hp hi, S41 p i hp hi]
    exact shu_R hi
  · intro p i hp hi
    rw [N145] at hi
    rw [N25 p i hp (by omega), kw_none (by rw [x9]; rfl)]
  · intro q a1 a2; omega
  · intro i hi; omega
  · intro q; omega
  · exact ⟨by omega, by omega, fun q => by omega⟩
  · intro q a1 a2; omega
  · refine ⟨fun i => ?_, fun i => ?_⟩
    · rw [Sr 38 (by decide) (by decide) (by decide)]; exact (s2 i).2.2
    · rw [Sr 46 (by decide) (by decide) (by decide)]; exact b11 i
  · rw [N14 2 (by decide) (by decide) (by decide)]; omega
  · intro p b hp hp3; omega
theorem go_first {N M : Nat → Nat → Nat} (h : RX N M) (h3 : N 14 3 = 0) (hu : N 25 0 = 4294967295) : ¬ (goF N 256).2 = 0 := by
  have hb : ∃ b, fbF (N (25 + N 14 3)) (N 14 4 * 2 ^ (N 14 3)) (bcF N (N 14 3)) = some b := by
    cases hc : fbF (N (25 + N 14 3)) (N 14 4 * 2 ^ (N 14 3)) (bcF N (N 14 3)) with
    | some b => exact ⟨b, rfl⟩
    | none =>
      have := fb_all _ hc 0 (Nat.succ_pos _)
      rw [h3, Nat.zero_mul] at this
      exact absurd hu this
  obtain ⟨b, hb⟩ := hb
  have ha := af_some hb
  have h1 : ¬ (afF N (N 14 3)).2 = 0 := by rw [ha]; exact Nat.one_ne_zero
  have hg : goF N (0 + 1) = afF N (N 14 3) := go_a (n := N) (k := 0) rfl (by show ¬ N 14 3 = 4; omega) h1
  rw [go_256 (n := N) (k := 0 + 1) (by decide) (Or.inl (by rw [hg]; exact h1)), hg]
  exact h1
theorem T_start {l : Launch} (hlt : l.stackTraces = false) {d : Nat → Nat} {D : va_G} {a : Nat → Nat} (hap : ∀ i j : Nat, i < 52 → j < 52 → a i = a j → i = j) (t : Nat) (n : Nat → Nat → Nat) (g : Nat → Nat) (_ : t < 512) (h : IV t n g) (k z : Nat) (hk4 : k < 4294967296) (_ : z < 18446744073709551616) : TB (IV (t + 1)) l d D a n g jy_L_start jb_L_start 6 [(0, 11, 14, 15), (0, 11, 18, 13)] [.ref (a 0), .int (nI k), .long (lN z), .ref (a 51)] jy_M_start jb_M_start 6 [.ref (a 33), .int (nI k), .long (lN z)] := by
  rcases IV_len h with ⟨h1, h2, h3⟩ | ⟨h1, h2, h3, h4⟩
  · exact TB_th 1 (by decide) (w_start_IS l d D a n g k z _ ⟨by decide, by decide, rfl, rfl⟩ (t_K_start_ISa l d D a n g hlt h.1 k z h1)) ⟨by decide, by decide, rfl, rfl⟩ rfl (c_M_start_1a l d D a n g hap h.1 k z h2) (IV_th h (by decide))
  · rcases IV_bg h with ⟨c1, c2⟩ | ⟨c1, c2, c3⟩
    · by_cases hk : 4 ≤ k ∧ k ≤ n 0 0
      · have h0 := IV_ns h c1
        have hS := h.2.2.1
        have z3 : n 0 3 = 0 := by
          apply Decidable.byContradiction
          intro q
          have := (h.2.2.2.1.2.2.2 (by omega)).1
          omega
        have hX0 := RX_st (n := n) (m0 := n) (k := k) (z := z) h.1 h.1 (fun _ _ => rfl) hS h0 hk.1 hk.2 h2 h4
        have N0 : ∀ r, ¬ (25 ≤ r ∧ r < 29) → r ≠ 14 → bgF (stO n z 4) k (n 0 0) r = stO n z 4 r := fun r q1 q2 => by unfold bgF; rw [ku_row q2, kf_o q1 4 (by decide), ku_row q2, ku_row q2]
        have N1 : ∀ r, ¬ (20 ≤ r ∧ r < 29) → r ≠ 14 → bgF (stO n z 4) k (n 0 0) r = n r := fun r q1 q2 => by rw [N0 r (by omega) q2, stO_o (fun p hp => by omega) 4 (by decide)]
        have N140 : bgF (stO n z 4) k (n 0 0) 14 0 = 0 := by
          unfold bgF
          rw [ku_m (by decide), kf_o (by omega) 4 (by decide), ku_m (by decide), ku_m (by decide), stO_o (fun p hp => by omega) 4 (by decide)]
          exact h0.2.2.2.2.2.1
        have N143 : bgF (stO n z 4) k (n 0 0) 14 3 = 0 := by unfold bgF; rw [ku_s]
        have N25 : bgF (stO n z 4) k (n 0 0) 25 0 = 4294967295 := by unfold bgF; rw [ku_n (by decide)]; exact kf_r 4 0 (by decide) 0 (by decide)
        have hD := RX_DI hX0 (by omega)
        have hK := c_K_start l d D a n g hap h.1 h1 c1 h2 k z hk.1 hk.2 hD
        have G1 : ∀ r, 33 ≤ r ∨ r < 12 ∨ r = 32 → (goF (bgF (stO n z 4) k (n 0 0)) 256).1 r = n r := fun r hr => by rw [go_row (by omega), N1 r (by omega) (by omega)]
        have hp0 : ∀ m0 : Nat → Nat → Nat, (∀ r, 33 ≤ r → m0 r = n r) → soM (ku (ku (ku (ku m0 33 0 0) 33 5 1) 33 6 k) 33 7 0) z 4 33 9 = soM (ku (ku (ku (ku m0 33 0 0) 33 5 1) 33 6 k) 33 7 0) z 4 33 8 := fun m0 hm => by
          rw [soM_o (by decide) (by decide)]
          show m0 33 9 = m0 33 8
          rw [hm 33 (by decide), h0.2.2.2.2.2.2.1, h0.2.2.2.2.2.2.2.1]
        have hE0 := go_end hX0 (hp0 n (fun _ _ => rfl)) (by omega)
        have hB1 : NB (goF (bgF (stO n z 4) k (n 0 0)) 256).1 := hE0.1.2.2.2.2.2.2.2.2.2.2.2.2.1
        have hX1 := RX_st (n := n) (m0 := (goF (bgF (stO n z 4) k (n 0 0)) 256).1) (k := k) (z := z) h.1 hB1 (fun r hr => G1 r (by omega)) hS h0 hk.1 hk.2 h2 h4
        have hp1 := hp0 (goF (bgF (stO n z 4) k (n 0 0)) 256).1 (fun r hr => G1 r (by omega))
        have hE := go_end hX1 hp1 (by omega)
        have hR := go_R hX1 hp1 (by omega) 256
        have hf := go_first hX1 N143 N25
        have h14 : (goF (bgF (stO n z 4) k (n 0 0)) 256).1 14 0 = 1 := by
          rcases hR.2.2 with q | q
          · exact absurd q.1 hf
          · rw [q.2.2, N140]
        have hMI := RX_MI hX1 (by omega)
        generalize hn1 : (goF (bgF (stO n z 4) k (n 0 0)) 256).1 = n1 at *
        have hM := c_M_start l d D a n1 (kg (kg g 0 (stS n (g 0) z 4)) 2 (n1 15 0)) hap hB1 (by rw [G1 33 (by omega)]; exact h3) (by rw [G1 33 (by omega)]; exact c2) (by rw [G1 33 (by omega)]; omega) k z hk.1 (by rw [G1 33 (by omega)]; omega) hMI hE.2.1
        have S0 : ∀ r, r ≠ 33 → r ≠ 39 → r ≠ 41 → soM (ku (ku (ku (ku n1 33 0 0) 33 5 1) 33 6 k) 33 7 0) z 4 r = n1 r := fun r q1 q2 q3 => by rw [soM_o q3 q2, ku_row q1, ku_row q1, ku_row q1, ku_row q1]
        have S33 : ∀ j, j ≠ 0 → j ≠ 5 → j ≠ 6 → j ≠ 7 → soM (ku (ku (ku (ku n1 33 0 0) 33 5 1) 33 6 k) 33 7 0) z 4 33 j = n 33 j := fun j q0 q5 q6 q7 => by rw [soM_o (by decide) (by decide), ku_m q7, ku_m q6, ku_m q5, ku_m q0, G1 33 (by omega)]
        have S335 : soM (ku (ku (ku (ku n1 33 0 0) 33 5 1) 33 6 k) 33 7 0) z 4 33 5 = 1 := by rw [soM_o (by decide) (by decide), ku_m (by decide), ku_m (by decide), ku_s]
        have S330 : soM (ku (ku (ku (ku n1 33 0 0) 33 5 1) 33 6 k) 33 7 0) z 4 33 0 = 0 := by rw [soM_o (by decide) (by decide), ku_m (by decide), ku_m (by decide), ku_m (by decide), ku_s]
        generalize soM (ku (ku (ku (ku n1 33 0 0) 33 5 1) 33 6 k) 33 7 0) z 4 = M at *
        have o2 : ∀ r, (r < 33 ∨ (34 ≤ r ∧ r < 38) ∨ r = 49) → (goT M 256).1 r = n1 r := fun r hr => by rw [goT_row (by omega), S0 r (by omega) (by omega) (by omega)]
        have o33 : ∀ j, j ≠ 0 → j ≠ 5 → j ≠ 6 → j ≠ 7 → j ≠ 8 → j ≠ 11 → (goT M 256).1 33 j = n 33 j := fun j q0 q5 q6 q7 q8 q11 => by rw [goT_33 ⟨q7, q8, q11⟩, S33 j q0 q5 q6 q7]
        have o335 : (goT M 256).1 33 5 = 1 := by rw [goT_33 (by decide)]; exact S335
        have o330 : (goT M 256).1 33 0 = 0 := by rw [goT_33 (by decide)]; exact S330
        have hX2 : RX n1 (goT M 256).1 := hE.1
        generalize (goT M 256).1 = n2 at *
        have hXX := RX_out hX2 (fun r hr => o2 r (Or.inl hr))
        have e11 := hX2.2.1.2.2.2.2.1
        have h16 : n1 15 0 ≤ 16 := hX2.1.2.2.2.2.1
        have eo : ∀ r, (r < 12 ∨ r = 32 ∨ (34 ≤ r ∧ r < 38) ∨ r = 49) → n2 r = n r := fun r hr => by rw [o2 r (by omega), G1 r (by omega)]
        have e0 := eo 0 (by omega)
        refine ⟨0, n2 33 11, n1, _, n2, _, _, w_start_r l d D a n g hap k z (n1 15 0) n1 _ (by omega) _ ⟨by decide, by decide, rfl, rfl⟩ hK, ⟨by decide, by decide, rfl, rfl⟩, hM, by decide, o330, fun _ => ⟨by rw [kg_n (by decide), kg_s, e11], by omega⟩, ?_⟩
        have x14 : n2 14 0 = 1 := by rw [o2 14 (by omega)]; exact h14
        refine ⟨hXX.2.2.2.2.2.2.2.2.2.2.2.2.1, IRc_c h.2.1 (fun r hr => eo r (by omega)), ⟨hXX.2.2.1, fun i => ⟨(hXX.1.2.2.1 i).1, (hXX.1.2.2.1 i).2, hXX.2.2.2.2.2.2.2.2.2.2.1.1 i⟩, ?_, ?_, ?_⟩, ⟨?_, ?_, ?_, ?_⟩, Or.inr ⟨o335, ?_, by omega, hXX⟩, by omega⟩
        · rw [e0, o33 3 (by decide) (by decide) (by decide) (by decide) (by decide) (by decide)]; exact hS.2.2.1
        · rw [e0, o33 4 (by decide) (by decide) (by decide) (by decide) (by decide) (by decide)]; exact hS.2.2.2.1
        · rw [e0, o33 1 (by decide) (by decide) (by decide) (by decide) (by decide) (by decide), o33 2 (by decide) (by decide) (by decide) (by decide) (by decide) (by decide), o33 3 (by decide) (by decide) (by decide) (by decide) (by decide) (by decide), o33 4 (by decide) (by decide) (by decide) (by decide) (by decide) (by decide)]; exact hS.2.2.2.2
        · rw [e0, o33 12 (by decide) (by decide) (by decide) (by decide) (by decide) (by decide)]; exact h.2.2.2.1.1
        · rw [e0]; exact h.2.2.2.1.2.1
        · rw [eo 32 (by omega)]; exact h.2.2.2.1.2.2.1
        · rw [e0]; intro q; omega
        · have q1 := hXX.2.1.2.1
          rw [o33 2 (by decide) (by decide) (by decide) (by decide) (by decide) (by decide)] at q1
          rw [e0]; omega
      · exact TB_th 2 (by decide) (w_start_IA l d D a n g k z _ ⟨by decide, by decide, rfl, rfl⟩ (t_K_start_IA l d D a n g hlt h.1 h1 c1 h2 k z hk4 hk)) ⟨by decide, by decide, rfl, rfl⟩ rfl (c_M_start_2 l d D a n g hap h.1 h3 c2 (by omega) k z hk4 (by rw [h4]; exact hk)) (IV_th h (by decide))
    · exact TB_th 1 (by decide) (w_start_IS l d D a n g k z _ ⟨by decide, by decide, rfl, rfl⟩ (t_K_start_ISb l d D a n g hlt h.1 k z h1 c1)) ⟨by decide, by decide, rfl, rfl⟩ rfl (c_M_start_1b l d D a n g hap h.1 k z h3 c2) (IV_th h (by decide))
