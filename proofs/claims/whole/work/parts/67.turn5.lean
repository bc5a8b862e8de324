/-! turns: sample -/
theorem T_sample {l : Launch} (hlt : l.stackTraces = false) {d : Nat → Nat} {D : va_G} {a : Nat → Nat} (hap : ∀ i j : Nat, i < 52 → j < 52 → a i = a j → i = j) (t : Nat) (n : Nat → Nat → Nat) (g : Nat → Nat) (_ : t < 512) (h : IV t n g) (z k : Nat) (_ : z < 18446744073709551616) (hk4 : k < 4294967296) : TB (IV (t + 1)) l d D a n g jy_L_sample jb_L_sample 6 [(0, 11, 14, 15), (0, 11, 18, 13)] [.ref (a 0), .long (lN z), .int (nI k), .ref (a 51)] jy_M_sample jb_M_sample 7 [.ref (a 33), .long (lN z), .int (nI k)] := by
  rcases IV_len h with ⟨h1, h2, h3⟩ | ⟨h1, h2, h3, h4⟩
  · exact TB_th 1 (by decide) (w_sample_IS l d D a n g z k _ ⟨by decide, by decide, rfl, rfl⟩ (t_K_sample_ISa l d D a n g hlt h.1 z k h1)) ⟨by decide, by decide, rfl, rfl⟩ rfl (c_M_sample_1a l d D a n g hap h.1 z k h2) (IV_th h (by decide))
  · rcases IV_bg h with ⟨c1, c2⟩ | ⟨c1, c2, c3⟩
    · by_cases hk : k ≤ n 0 0
      · have h0 := IV_ns h c1
        obtain ⟨s1, s2, s3, s4, s5⟩ := h.2.2.1
        have s6 : n 33 3 + n 0 0 ≤ 128 ∧ n 33 4 ≤ n 33 3 ∧ n 33 1 = 1 := by
          rcases s5 with q | q
          · omega
          · exact ⟨q.2.2.2.1, q.2.2.2.2, q.2.1⟩
        have hsd := smP_d (n := fiF (shuF n 30 z (n 0 0)) 31 0 128) (fun i => by rw [fiF_o (by decide), shuF_o (by decide)]; exact (s2 i).1) (fun i => by rw [fiF_o (by decide), shuF_o (by decide)]; exact (s2 i).2.1) k
        have hsd : (sa0 n z k).2 ≤ k := hsd
        have hK := c_K_sample l d D a n g hap h.1 z k h1 c1 hk h2 (fun i => (s2 i).1) (fun i => (s2 i).2.1) (fun i hi => by have := shu_lt (n := n) (q := 30) (z := z) hi; omega)
        have hB1 : NB (saF n z k) := NB_ku (NB_ku (NB_ku (NB_lvP (NB_lvP (NB_sa0 h.1) _) _) (by omega)) (by omega)) (by omega)
        have o1 : ∀ r, r ≠ 0 → r ≠ 6 → r ≠ 12 → r ≠ 30 → r ≠ 31 → saF n z k r = n r := fun r q0 q6 q12 q30 q31 => by unfold saF; rw [ku_row q0, ku_row q0, ku_row q0, sa1_o ⟨q31, q30, q6, q12⟩]
        have o6 : ∀ r, r ≠ 0 → saF n z k r = sa1 n z k r := fun r q0 => by unfold saF; rw [ku_row q0, ku_row q0, ku_row q0]
        have f00 : saF n z k 0 0 = n 0 0 - k := by unfold saF; rw [ku_m (by decide), ku_m (by decide), ku_s]
        have f01 : saF n z k 0 1 = n 0 1 + k := by unfold saF; rw [ku_m (by decide), ku_s]
        have f02 : saF n z k 0 2 = n 0 2 + (sa0 n z k).2 := by unfold saF; rw [ku_s]
        have f03 : saF n z k 0 3 = n 0 3 := by unfold saF; rw [ku_m (by decide), ku_m (by decide), ku_m (by decide), sa1_o (by decide)]
        have e33 : saF n z k 33 = n 33 := o1 33 (by decide) (by decide) (by decide) (by decide) (by decide)
        have hM := c_M_sample l d D a (saF n z k) (kg (kg g 0 (shuS n 30 z (n 0 0))) 2 (sa0 n z k).2) hap hB1 (by rw [e33]; exact h3) (by rw [e33]; exact c2) (by rw [e33]; omega) z k (by rw [e33]; omega) (fun i hi => by have := shu_lt (n := ku (saF n z k) 33 0 0) (q := 39) (z := z) hi; rw [e33] at this ⊢; omega)
        rw [e33, h4] at hM
        have m0 : ∀ r, r ≠ 33 → ku (saF n z k) 33 0 0 r = saF n z k r := fun r hr => ku_row hr
        generalize hm : ku (saF n z k) 33 0 0 = m at hM m0
        have m33 : ∀ j, j ≠ 0 → m 33 j = n 33 j := fun j hj => by rw [← hm, ku_m hj, e33]
        have m330 : m 33 0 = 0 := by rw [← hm, ku_s]
        have hBm : NB m := by rw [← hm]; exact NB_ku hB1 (by decide)
        have m38 : m 38 = n 38 := by rw [m0 38 (by decide)]; exact o1 38 (by decide) (by decide) (by decide) (by decide) (by decide)
        -- the marks
        have A6 : ∀ r, r ≠ 30 → r ≠ 31 → fiF (shuF n 30 z (n 0 0)) 31 0 128 r = n r := fun r q1 q2 => by rw [fiF_o q2, shuF_o q1]
        have B6 : ∀ r, r ≠ 39 → r ≠ 40 → fiF (shuF m 39 z (n 0 0)) 40 0 128 r = m r := fun r q1 q2 => by rw [fiF_o q2, shuF_o q1]
        have A30 : fiF (shuF n 30 z (n 0 0)) 31 0 128 30 = shuF n 30 z (n 0 0) 30 := fiF_o (by decide) _
        have B39 : fiF (shuF m 39 z (n 0 0)) 40 0 128 39 = shuF m 39 z (n 0 0) 39 := fiF_o (by decide) _
        have hSM := sm_R (A := fiF (shuF n 30 z (n 0 0)) 31 0 128) (B := fiF (shuF m 39 z (n 0 0)) 40 0 128) (t := n 0 0) h2 (fun i hi => by rw [A30, B39]; exact shu_R hi) (fun i hi => by rw [B39]; exact shu_lt hi) (fun i j hi hj q => by rw [B39] at q; exact shu_inj hi hj q) (fun i hi => by rw [A6 6 (by decide) (by decide), A6 12 (by decide) (by decide), B6 38 (by decide) (by decide), m38]; exact s1 i hi) (fun i => by rw [A6 6 (by decide) (by decide), A6 12 (by decide) (by decide)]; exact ⟨(s2 i).1, (s2 i).2.1⟩) (fun i hi => by rw [fi_r, fi_r, if_pos hi, if_pos hi]; exact ⟨rfl, rfl⟩) k hk
        have hBs : NB (smM (fiF (shuF m 39 z (n 0 0)) 40 0 128) k).1 := NB_smM (NB_fiF (NB_shuF hBm (by omega)) (by decide) _) _
        have S6 : ∀ r, r ≠ 39 → r ≠ 40 → (smM (fiF (shuF m 39 z (n 0 0)) 40 0 128) k).1 r = m r := fun r q1 q2 => by rw [smM_o q2, B6 r q1 q2]
        have P6 : ∀ r, r ≠ 30 → r ≠ 31 → (sa0 n z k).1 r = n r := fun r q1 q2 => sa0_o ⟨q2, q1⟩
        obtain ⟨u1, u2, u3, -⟩ := hSM
        have u1 : (sa0 n z k).2 = (smM (fiF (shuF m 39 z (n 0 0)) 40 0 128) k).2 := u1
        have u2 : ∀ i, i < 128 → (sa0 n z k).1 31 i = (smM (fiF (shuF m 39 z (n 0 0)) 40 0 128) k).1 40 i := u2
        rw [← u1] at hM
        generalize (smM (fiF (shuF m 39 z (n 0 0)) 40 0 128) k).1 = B' at hM u2 u3 hBs S6
        have hL6 := lv_R (A := (sa0 n z k).1) (B := B') (c := 6) (o := 0) (by decide) (Or.inl rfl) u2 (fun i hi => by rw [P6 6 (by decide) (by decide), S6 38 (by decide) (by decide), m38, Nat.zero_add]; exact (s1 i hi).1) (n 0 0) h2
        have L31 : (lvP (sa0 n z k).1 6 31 (n 0 0)).1 31 = (sa0 n z k).1 31 := lvP_o (by decide) _
        have L12 : (lvP (sa0 n z k).1 6 31 (n 0 0)).1 12 = n 12 := by rw [lvP_o (by decide)]; exact P6 12 (by decide) (by decide)
        have hL12 := lv_R (A := (lvP (sa0 n z k).1 6 31 (n 0 0)).1) (B := B') (c := 12) (o := 128) (by decide) (Or.inr rfl) (fun i hi => by rw [L31]; exact u2 i hi) (fun i hi => by rw [L12, S6 38 (by decide) (by decide), m38]; exact (s1 i hi).2) (n 0 0) h2
        have g6 : saF n z k 6 = (lvP (sa0 n z k).1 6 31 (n 0 0)).1 6 := by rw [o6 6 (by decide)]; unfold sa1; exact lvP_o (by decide) _
        have g12 : saF n z k 12 = (lvP (lvP (sa0 n z k).1 6 31 (n 0 0)).1 12 31 (n 0 0)).1 12 := by rw [o6 12 (by decide)]; rfl
        have hct := lvM_ct (B := B') (n 0 0)
        rw [u3] at hct
        have hBl : NB (lvM B' (n 0 0)).1 := NB_lvM hBs _
        have V : ∀ r, r ≠ 38 → r ≠ 39 → r ≠ 40 → (lvM B' (n 0 0)).1 r = m r := fun r q1 q2 q3 => by rw [lvM_o q1, S6 r q2 q3]
        have hb38 := lvM_b (n := B') (fun i => by rw [S6 38 (by decide) (by decide), m38]; exact (s2 i).2.2) (n 0 0)
        have hb6 := lvP_b (n := (sa0 n z k).1) (c := 6) (q := 31) (fun i => by rw [P6 6 (by decide) (by decide)]; exact (s2 i).1) (n 0 0)
        have hb12 := lvP_b (n := (lvP (sa0 n z k).1 6 31 (n 0 0)).1) (c := 12) (q := 31) (fun i => by rw [L12]; exact (s2 i).2.1) (n 0 0)
        have hl2 := lvM_le B' (n 0 0)
        generalize hn2 : ku (ku (ku (lvM B' (n 0 0)).1 33 2 (lvM B' (n 0 0)).2) 33 3 (n 33 3 + k)) 33 4 (n 33 4 + (sa0 n z k).2) = n2 at hM
        have o2 : ∀ r, r ≠ 33 → n2 r = (lvM B' (n 0 0)).1 r := fun r hr => by rw [← hn2, ku_row hr, ku_row hr, ku_row hr]
        have x0 : n2 33 0 = 0 := by rw [← hn2, ku_m (by decide), ku_m (by decide), ku_m (by decide), V 33 (by decide) (by decide) (by decide)]; exact m330
        have x2 : n2 33 2 = (lvM B' (n 0 0)).2 := by rw [← hn2, ku_m (by decide), ku_m (by decide), ku_s]
        have x3 : n2 33 3 = n 33 3 + k := by rw [← hn2, ku_m (by decide), ku_s]
        have x4 : n2 33 4 = n 33 4 + (sa0 n z k).2 := by rw [← hn2, ku_s]
        have xj : ∀ j, j ≠ 0 → j ≠ 2 → j ≠ 3 → j ≠ 4 → n2 33 j = n 33 j := fun j q0 q2 q3 q4 => by rw [← hn2, ku_m q4, ku_m q3, ku_m q2, V 33 (by decide) (by decide) (by decide)]; exact m33 j q0
        have hB2 : NB n2 := by rw [← hn2]; exact NB_ku (NB_ku (NB_ku hBl (by omega)) (by omega)) (by omega)
        have or : ∀ r, r ≠ 33 → r ≠ 38 → r ≠ 39 → r ≠ 40 → n2 r = saF n z k r := fun r q1 q2 q3 q4 => by rw [o2 r q1, V r q2 q3 q4, m0 r q1]
        have eo : ∀ r, r ≠ 0 → r ≠ 6 → r ≠ 12 → r ≠ 30 → r ≠ 31 → r ≠ 33 → r ≠ 38 → r ≠ 39 → r ≠ 40 → n2 r = n r := fun r q1 q2 q3 q4 q5 q6 q7 q8 q9 => by rw [or r q6 q7 q8 q9, o1 r q1 q2 q3 q4 q5]
        have y0 : n2 0 = saF n z k 0 := or 0 (by decide) (by decide) (by decide) (by decide)
        have y6 : n2 6 = saF n z k 6 := or 6 (by decide) (by decide) (by decide) (by decide)
        have y12 : n2 12 = saF n z k 12 := or 12 (by decide) (by decide) (by decide) (by decide)
        refine ⟨0, _, saF n z k, _, n2, _, _, w_sample_r l d D a n g hap z k _ _ _ (by omega) _ ⟨by decide, by decide, rfl, rfl⟩ hK, ⟨by decide, by decide, rfl, rfl⟩, hM, by decide, x0, fun _ => ⟨by rw [kg_n (by decide), kg_s], by omega⟩, ?_⟩
        refine IV_pre h h0 hB2 (IRc_c h.2.1 (fun r hr => eo r (by omega) (by omega) (by omega) (by omega) (by omega) (by omega) (by omega) (by omega) (by omega))) ⟨fun i hi => ?_, fun i => ?_, ?_, ?_, Or.inr ⟨?_, ?_, ?_, ?_, ?_⟩⟩ (fun r hr => eo r (by omega) (by omega) (by omega) (by omega) (by omega) (by omega) (by omega) (by omega) (by omega)) (by rw [y0, f03]) (fun j hj => xj j (by omega) (by omega) (by omega) (by omega))
        · rw [y6, y12, o2 38 (by decide), g6, g12]
          have q6 := hL6.2 i hi
          rw [Nat.zero_add] at q6
          exact ⟨q6, hL12.2 i hi⟩
        · rw [y6, y12, o2 38 (by decide), g6, g12]
          exact ⟨hb6 i, hb12 i, hb38 i⟩
        · rw [y0, f01, x3, s3]
        · rw [y0, f02, x4, s4]
        · rw [y0, f00]; omega
        · rw [xj 1 (by decide) (by decide) (by decide) (by decide)]; exact s6.2.2
        · rw [x2, y0, f00]; omega
        · rw [x3, y0, f00]; omega
        · rw [x3, x4]; omega
      · exact TB_th 2 (by decide) (w_sample_IA l d D a n g z k _ ⟨by decide, by decide, rfl, rfl⟩ (t_K_sample_IA l d D a n g hlt h.1 h1 c1 h2 z k hk4 hk)) ⟨by decide, by decide, rfl, rfl⟩ rfl (c_M_sample_2 l d D a n g hap h.1 h3 c2 (by omega) z k hk4 (by omega)) (IV_th h (by decide))
    · exact TB_th 1 (by decide) (w_sample_IS l d D a n g z k _ ⟨by decide, by decide, rfl, rfl⟩ (t_K_sample_ISb l d D a n g hlt h.1 z k h1 c1)) ⟨by decide, by decide, rfl, rfl⟩ rfl (c_M_sample_1b l d D a n g hap h.1 z k h3 c2) (IV_th h (by decide))
