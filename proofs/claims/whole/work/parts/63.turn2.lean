/-! turns: tick, letter -/
theorem IV_dlg {t : Nat} {n n2 : Nat → Nat → Nat} {g g2 : Nat → Nat} (h : IV t n g) (h1 : IB1 n) (hr : ∀ r, (r < 12 ∨ r = 32 ∨ (34 ≤ r ∧ r < 38) ∨ r = 49) → n2 r = n r) (h33 : ∀ j, ((j ≠ 0 ∧ j < 6) ∨ j = 12) → n2 33 j = n 33 j) (hX : RX n2 n2) (h0 : 1 ≤ n2 14 0) (ht : n2 14 0 ≤ t + 1) (h4 : n 14 3 = 4 → n2 14 3 = 4 ∧ n2 12 = n 12) : IV (t + 1) n2 g2 := by
  obtain ⟨hB, hR, hS, hK, hD, -⟩ := h
  obtain ⟨b1, b2, b3, b4⟩ := h1
  have e5 : n2 14 5 = n 14 5 := by
    have q1 := hX.2.1.2.1
    have q2 := b4.2.1.2.1
    rw [h33 2 (by omega)] at q1
    omega
  have e0 := hr 0 (by omega)
  have e6 := hr 6 (by omega)
  have e32 := hr 32 (by omega)
  refine ⟨hX.2.2.2.2.2.2.2.2.2.2.2.2.1, ?_, ?_, ?_, Or.inr ⟨by rw [h33 5 (by omega)]; exact b1, by rw [e0, e5]; exact b2, h0, hX⟩, ht⟩
  · unfold IRc
    rw [hr 1 (by omega), hr 2 (by omega), hr 3 (by omega), hr 4 (by omega), hr 7 (by omega), hr 8 (by omega), hr 9 (by omega), hr 10 (by omega), hr 11 (by omega), hr 34 (by omega), hr 35 (by omega), hr 36 (by omega), hr 37 (by omega)]
    exact hR
  · obtain ⟨-, -, s3, s4, s5⟩ := hS
    refine ⟨hX.2.2.1, fun i => ⟨(hX.1.2.2.1 i).1, (hX.1.2.2.1 i).2, hX.2.2.2.2.2.2.2.2.2.2.1.1 i⟩, ?_, ?_, ?_⟩
    · rw [e0, h33 3 (by omega)]; exact s3
    · rw [e0, h33 4 (by omega)]; exact s4
    · rw [e0, h33 1 (by omega), h33 2 (by omega), h33 3 (by omega), h33 4 (by omega)]; exact s5
  · obtain ⟨k1, k2, k3, k4⟩ := hK
    refine ⟨?_, ?_, ?_, ?_⟩
    · rw [e0, h33 12 (by omega)]; exact k1
    · rw [e0]; exact k2
    · intro i; rw [e32]; exact k3 i
    · intro hp
      rw [e0] at hp
      obtain ⟨k5, k6⟩ := k4 hp
      obtain ⟨q1, q2⟩ := h4 k5
      rw [e0, q2, e6, e32, hr 49 (by omega)]
      exact ⟨q1, k6⟩
theorem RX_in {n n1 : Nat → Nat → Nat} (hX : RX n n) (hc : ∀ r, 33 ≤ r → n1 r = n r) (hB : NB n1) : RX n (ku n1 33 0 0) :=
  RX_rows hX (fun _ _ => rfl) (fun r h1 h2 => by rw [ku_row h1]; exact hc r h2) (fun j hj => by rw [ku_m hj, hc 33 (by decide)]) hX.2.2.2.2.2.2.2.2.2.2.2.2.1 (NB_ku hB (by decide))
theorem RX_out {n1 n2 : Nat → Nat → Nat} (h : RX n1 n2) (hr : ∀ r, r < 33 → n2 r = n1 r) : RX n2 n2 :=
  RX_rows h hr (fun _ _ _ => rfl) (fun _ _ => rfl) h.2.2.2.2.2.2.2.2.2.2.2.2.2.1 h.2.2.2.2.2.2.2.2.2.2.2.2.2.1
theorem TB_dl {t : Nat} {l : Launch} {d : Nat → Nat} {D : va_G} {a : Nat → Nat} {n n1 n2 : Nat → Nat → Nat} {g : Nat → Nat} {y : MethodName} {b : ByteArray} {mx : Nat} {hh : List (Nat × Nat × Nat × Nat)} {av : List Value} {yM : MethodName} {bM : ByteArray} {mM : Nat} {aM : List Value} (h : IV t n g) (h1 : IB1 n) (hW : jWr l d D a n g y b mx hh rmW av (fun v9 m2 h2 => some (.int (nI 0)) = v9 ∧ n1 = m2 ∧ kg g 2 (n1 15 0) = h2)) {rm : Room} (hr : rmS rm) (hM : jEff l d D a n1 (kg g 2 (n1 15 0)) yM bM mM (some .int) rm aM (fun v9 m2 h2 => some (.int (nI (n2 33 11))) = v9 ∧ n2 = m2 ∧ kg g 2 (n1 15 0) = h2)) (hX : RX n1 n2) (c1 : ∀ r, (r < 12 ∨ r = 32 ∨ 33 ≤ r) → n1 r = n r) (c2 : ∀ r, (r < 33 ∨ (34 ≤ r ∧ r < 38) ∨ r = 49) → n2 r = n1 r) (c3 : ∀ j, ((j ≠ 0 ∧ j < 6) ∨ j = 12) → n2 33 j = n1 33 j) (h33 : n2 33 0 = 0) (h0 : 1 ≤ n1 14 0) (ht : n1 14 0 ≤ t + 1) (h4 : n 14 3 = 4 → n1 14 3 = 4 ∧ n1 12 = n 12) : TB (IV (t + 1)) l d D a n g y b mx hh av yM bM mM aM := by
  have e11 := hX.2.1.2.2.2.2.1
  have h16 : n1 15 0 ≤ 16 := hX.1.2.2.2.2.1
  refine ⟨0, n2 33 11, n1, kg g 2 (n1 15 0), n2, kg g 2 (n1 15 0), rm, hW, hr, hM, by decide, h33, fun _ => ⟨by rw [kg_s, e11], by omega⟩, ?_⟩
  refine IV_dlg h h1 (fun r hr => ?_) (fun j hj => ?_) (RX_out hX (fun r hr => c2 r (Or.inl hr))) ?_ ?_ (fun q => ?_)
  · rw [c2 r (by omega), c1 r (by omega)]
  · rw [c3 j hj, c1 33 (by omega)]
  · rw [c2 14 (by omega)]; exact h0
  · rw [c2 14 (by omega)]; exact ht
  · rw [c2 14 (by omega), c2 12 (by omega)]; exact h4 q
theorem T_tick {l : Launch} (hlt : l.stackTraces = false) {d : Nat → Nat} {D : va_G} {a : Nat → Nat} (hap : ∀ i j : Nat, i < 52 → j < 52 → a i = a j → i = j) (t : Nat) (n : Nat → Nat → Nat) (g : Nat → Nat) (ht : t < 512) (h : IV t n g) : TB (IV (t + 1)) l d D a n g jy_L_tick jb_L_tick 3 [(0, 8, 11, 15)] [.ref (a 0), .ref (a 51)] jy_M_tick jb_M_tick 1 [.ref (a 33)] := by
  rcases IV_bg h with ⟨h1, h2⟩ | ⟨h1, h2, h3⟩
  · exact TB_th 1 (by decide) (w_tick_IS l d D a n g _ ⟨by decide, by decide, rfl, rfl⟩ (t_K_tick_IS l d D a n g hlt h.1 h1)) ⟨by decide, by decide, rfl, rfl⟩ rfl (c_M_tick_1 l d D a n g hap h.1 h2) (IV_th h (by decide))
  · have hX : RX n n := h3.2.2.2
    have hn1 : 1 ≤ n 14 0 := h3.2.2.1
    have h5 : n 14 0 ≤ t := h.2.2.2.2.2
    have hq0 := hX.2.2.2.2.2.1 (n 14 0) hn1 (Nat.le_refl _)
    have hQ := qw_parts hq0 hX.1.1.2.2
    have h16 : n 15 0 ≤ 16 := hX.1.2.2.2.2.1
    have e11 : n 33 11 = n 15 0 := hX.2.1.2.2.2.2.1
    have e8 : n 33 8 = n 14 0 := hX.2.1.2.2.2.1
    have h98 := hX.2.2.2.2.2.2.2.2.1.1
    have hl : n 14 5 ≤ 128 := hX.1.1.2.2
    have hmk := (hX.2.2.2.2.2.2.2.1 hn1).1
    have hK := c_K_tick l d D a n g hap h.1 h1 hn1 (by omega) hQ.2.1 (by rw [hQ.2.2.1]; exact hq0.1) (by omega) (h.1 _ _) h16
    by_cases hu : unF n = 0
    · rw [if_pos hu] at hK
      have hp := (un_F hX hn1).mp hu
      have hM := c_M_tick_b l d D a n (kg g 2 (n 15 0)) hap h.1 h2 hp (by omega)
      rw [e11] at hM
      exact TB_pu (n 15 0) (by omega) (w_tick_r l d D a n g hap (n 15 0) n g (by omega) _ ⟨by decide, by decide, rfl, rfl⟩ hK) ⟨by decide, by decide, rfl, rfl⟩ hM (IV_th h (by decide))
    · rw [if_neg hu] at hK
      have hp : n 33 9 < n 33 8 := by
        apply Decidable.byContradiction
        intro q
        exact hu ((un_F hX hn1).mpr q)
      have e33 : sdF n 0 (n 14 0) 0 33 = n 33 := sd_o (by decide)
      have hB1 : NB (sdF n 0 (n 14 0) 0) := NB_sd h.1 (by decide) (h.1 _ _) (by decide) h16
      have hI := RX_in hX (n1 := sdF n 0 (n 14 0) 0) (fun r hr => sd_o (by omega)) hB1
      have hS := RX_send hI (x := 0) (y := n 14 0) (z := 0) (by decide) ⟨hn1, Nat.le_refl _⟩ (by decide) (fun q => absurd q (by decide))
      have h15 : sdF n 0 (n 14 0) 0 15 0 ≤ 16 := hS.1.2.2.2.2.1
      have hM := c_M_tick_a l d D a (sdF n 0 (n 14 0) 0) (kg g 2 (sdF n 0 (n 14 0) 0 15 0)) hap hB1 (by rw [e33]; exact h2) (by rw [e33]; omega) (by rw [e33]; exact hp) (by rw [e33]; omega)
      rw [e33, e8] at hM
      refine TB_dl h h3 (w_tick_r l d D a n g hap _ _ g (by omega) _ ⟨by decide, by decide, rfl, rfl⟩ hK) ⟨by decide, by decide, rfl, rfl⟩ hM hS (fun r hr => sd_o (by omega)) (fun r hr => ?_) (fun j hj => ?_) ?_ ?_ ?_ ?_
      · rw [sdM_o (by omega), ku_row (by omega)]
      · rw [sdM_33 (by omega), ku_m (by omega)]
      · rw [sdM_33 (by omega), ku_s]
      · rw [sd_o (by decide)]; exact hn1
      · rw [sd_o (by decide)]; omega
      · intro q; rw [sd_o (by decide), sd_o (by decide)]; exact ⟨q, rfl⟩
theorem dv_row {n : Nat → Nat → Nat} {k r : Nat} (hq : n 29 (n 14 0 - 1) / 2 ^ 16 < 4) (h : r < 12 ∨ r = 32 ∨ 33 ≤ r) : dvF n k r = n r := by
  have e29 : tkF n k 29 = n 29 := tk_o (by decide)
  have e14 : tkF n k 14 = n 14 := tk_o (by decide)
  unfold dvF
  split
  · unfold anF
    rw [sd_o (by omega), ku_row (by omega), tk_o (by omega)]
  · split
    · split
      · exact tk_o (by omega)
      · rw [go_row (by omega)]
        unfold lnF
        rw [e29, e14, ku_row (by omega), tk_o (by omega)]
    · exact tk_o (by omega)
theorem cm_row {m : Nat → Nat → Nat} {x q b r : Nat} (h : r < 33 ∨ (34 ≤ r ∧ r < 38) ∨ r = 49) : cmM m x q b r = m r := by
  unfold cmM
  split
  · unfold anM
    rw [sdM_o (by omega), ku_row (by omega)]
  · split
    · split
      · rw [goT_row (by omega)]
        unfold lnM
        rw [ku_row (by omega), ku_row (by omega)]
      · rfl
    · rfl
theorem cm_33 {m : Nat → Nat → Nat} {x q b j : Nat} (h : j < 6 ∨ j = 12) : cmM m x q b 33 j = m 33 j := by
  unfold cmM
  split
  · unfold anM
    rw [sdM_33 (by omega), ku_m (by omega)]
  · split
    · split
      · rw [goT_33 (by omega)]
        unfold lnM
        rw [ku_m (by omega), ku_n (by omega)]
      · rfl
    · rfl
theorem T_letter {l : Launch} (hlt : l.stackTraces = false) {d : Nat → Nat} {D : va_G} {a : Nat → Nat} (hap : ∀ i j : Nat, i < 52 → j < 52 → a i = a j → i = j) (t : Nat) (n : Nat → Nat → Nat) (g : Nat → Nat) (ht : t < 512) (h : IV t n g) (p0 p1 : Nat) (hp0 : p0 < 4294967296) (hp1 : p1 < 4294967296) : TB (IV (t + 1)) l d D a n g jy_L_letter jb_L_letter 5 [(0, 10, 13, 13), (0, 10, 17, 33), (0, 10, 21, 15)] [.ref (a 0), .int (nI p0), .int (nI p1), .ref (a 51)] jy_M_letter jb_M_letter 7 [.ref (a 33), .int (nI p0), .int (nI p1)] := by
  obtain ⟨a1, a2, a3, a4, a5, a6, a7, a8⟩ := IV_pass h
  by_cases hx : p1 ≤ 2
  · by_cases hk : p0 < n 15 0
    · have h3 : IB1 n := by
        rcases h.2.2.2.2.1 with h0 | h1
        · have := h0.2.2.2.1; omega
        · exact h1
      have hX : RX n n := h3.2.2.2
      have hn1 : 1 ≤ n 14 0 := h3.2.2.1
      have h5 : n 14 0 ≤ t := h.2.2.2.2.2
      obtain ⟨b1, b2, b3, b4, b5, b6, b7, b8⟩ := hX.2.2.2.2.2.2.1 p0 hk
      rcases (show p1 = 0 ∨ p1 = 1 ∨ p1 = 2 by omega) with rfl | rfl | rfl
      · have hl : n 14 5 ≤ 128 := hX.1.1.2.2
        have hq0 := hX.2.2.2.2.2.1 (n 14 0) hn1 (Nat.le_refl _)
        have hQ := qw_parts hq0 hl
        have hqk := hX.2.2.2.2.2.1 (n 17 p0) b5 b6
        have hQk := qw_parts hqk hl
        have hq4 : n 29 (n 14 0 - 1) / 2 ^ 16 < 4 := by rw [hQ.2.2.1]; exact hq0.1
        have hmk := (hX.2.2.2.2.2.2.2.1 hn1).1
        have hV := RX_deliver hX hk (by omega)
        have er : ∀ r, 33 ≤ r → dvF n p0 r = n r := fun r hr => dv_row hq4 (by omega)
        have hK := c_K_letter_0 l d D a n g hap p0 hp0 a4 hk ⟨h.1 _ _, h.1 _ _, h.1 _ _⟩ (fun _ => by
          unfold QI
          rw [tk_o (by decide), tk_o (by decide), hQk.2.2.1, hQk.2.2.2.1, hQk.2.2.2.2]
          exact ⟨b5, by omega, hQk.2.1, hqk.1, Nat.le_of_lt hqk.2.1, hqk.2.2.1, hl⟩) (by omega) (fun p i hp hi => by have := hX.1.2.1 p i hp hi; omega) hn1 (by omega) hQ.2.1 hq4 (by omega) (h.1 _ _) hV.2.2.2.2.2
        have hB1 : NB (dvF n p0) := hV.1.2.2.2.2.2.2.2.2.2.2.2.2.1
        have hI := RX_in hX (n1 := dvF n p0) er hB1
        have hT := RX_take hI hk
        have hV2 := RX_deliver hI hk (by omega)
        have e46 : dvF n p0 46 p0 = n 16 p0 := by rw [er 46 (by decide)]; exact b1.symm
        have e47 : dvF n p0 47 p0 = n 17 p0 := by rw [er 47 (by decide)]; exact b2.symm
        have e48 : dvF n p0 48 p0 = n 18 p0 := by rw [er 48 (by decide)]; exact b3.symm
        have t14 : tkF n p0 14 = n 14 := tk_o (by decide)
        have hTq := hT.2.2.2.2.2.1 (n 17 p0) b5 (by rw [t14]; exact b6)
        have hTI := RX_MI hT (by rw [t14]; omega)
        have u2 := hT.2.1.2.1
        have u10 := hT.2.1.2.2.2.2.2
        have u11 := hT.2.1.2.2.2.2.1
        have ud := hT.2.2.2.2.2.2.2.2.2.2.2.1
        have u14 := congrFun t14 0
        have u145 := congrFun t14 5
        have hM := c_M_letter_c l d D a (dvF n p0) (kg g 2 (dvF n p0 15 0)) hap (fun i => by rw [er 46 (by decide)]; exact a6 i) p0 (by rw [er 33 (by decide)]; omega) (by rw [er 33 (by decide)]; omega) (by
          rw [e46, e47, e48]
          exact c_M_comesF l d D a _ _ hap (n 16 p0) (n 17 p0) (n 18 p0) b4 ⟨b5, by omega⟩ hTq.1 (Nat.le_of_lt hTq.2.1) (by have := hTq.2.2.1; omega) (by omega) (by omega) hTI.2.2.2.2.2.1 hTI.2.2.1 (Nat.le_of_lt hTI.2.2.2.2.1) hTI.2.2.2.2.2.2.2 hV2.2.2.2.2.1)
        rw [e46, e47, e48] at hM
        have h15 : dvF n p0 15 0 ≤ 16 := hV.1.1.2.2.2.2.1
        refine TB_dl h h3 (w_letter_r l d D a n g hap p0 0 _ _ g (by omega) _ ⟨by decide, by decide, rfl, rfl⟩ hK) ⟨by decide, by decide, rfl, rfl⟩ hM hV2.1 (fun r hr => dv_row hq4 hr) (fun r hr => ?_) (fun j hj => ?_) ?_ ?_ ?_ hV.2.2.2.1
        · rw [cm_row hr, tkM_o (by omega), ku_row (by omega)]
        · rw [cm_33 (by omega), tkM_33 (by omega), ku_m (by omega)]
        · rw [cm_33 (by omega), tkM_33 (by omega), ku_s]
        · have := hV.2.1; omega
        · have := hV.2.2.1; omega
      · have hK := c_K_letter_1 l d D a n g hap p0 hp0 a4 hk
        have hT0 := RX_take hX hk
        have hB1 : NB (tkF n p0) := hT0.2.2.2.2.2.2.2.2.2.2.2.2.1
        have er : ∀ r, 33 ≤ r → tkF n p0 r = n r := fun r hr => tk_o (by omega)
        have hT := RX_take (RX_in hX (n1 := tkF n p0) er hB1) hk
        have h15 : tkF n p0 15 0 ≤ 16 := hT0.1.2.2.2.2.1
        have hM := c_M_letter_l l d D a (tkF n p0) (kg g 2 (tkF n p0 15 0)) hap (fun i => by rw [er 46 (by decide)]; exact a6 i) p0 (by rw [er 33 (by decide)]; omega) (by rw [er 33 (by decide)]; omega)
        refine TB_dl h h3 (w_letter_r l d D a n g hap p0 1 _ _ g (by omega) _ ⟨by decide, by decide, rfl, rfl⟩ hK) ⟨by decide, by decide, rfl, rfl⟩ hM hT (fun r hr => tk_o (by omega)) (fun r hr => ?_) (fun j hj => ?_) ?_ ?_ ?_ ?_
        · rw [tkM_o (by omega), ku_row (by omega)]
        · rw [tkM_33 (by omega), ku_m (by omega)]
        · rw [tkM_33 (by omega), ku_s]
        · rw [tk_o (by decide)]; exact hn1
        · rw [tk_o (by decide)]; omega
        · intro q; rw [tk_o (by decide), tk_o (by decide)]; exact ⟨q, rfl⟩
      · by_cases hf : n 15 0 = 16
        · exact TB_th 3 (by decide) (w_letter_IS l d D a n g p0 2 _ ⟨by decide, by decide, rfl, rfl⟩ (t_K_letter_IS l d D a n g hlt p0 hp0 a4 hk hf)) ⟨by decide, by decide, rfl, rfl⟩ rfl (c_M_letter_3 l d D a n g hap p0 (by omega) (by omega)) (IV_th h (by decide))
        · have hK := c_K_letter_2 l d D a n g hap p0 hp0 (by omega) hk
          have eF : sdG n (n 16 p0) (n 17 p0) (n 18 p0) = sdF n (n 16 p0) (n 17 p0) (n 18 p0) := by unfold sdF; rw [if_neg hf]
          have e15 : n 15 0 + 1 = sdF n (n 16 p0) (n 17 p0) (n 18 p0) 15 0 := by rw [← eF]; unfold sdG; exact (ku_s _ _ _ _).symm
          rw [eF, e15] at hK
          have er : ∀ r, 33 ≤ r → sdF n (n 16 p0) (n 17 p0) (n 18 p0) r = n r := fun r hr => sd_o (by omega)
          have hB1 : NB (sdF n (n 16 p0) (n 17 p0) (n 18 p0)) := NB_sd h.1 (h.1 _ _) (h.1 _ _) (h.1 _ _) a4
          have hI := RX_in hX er hB1
          have hS := RX_send hI (x := n 16 p0) (y := n 17 p0) (z := n 18 p0) b4 ⟨b5, b6⟩ b7 (fun q => by
            refine (b8 q).trans ?_
            symm
            exact tq_c (by rw [ku_row (by decide), er 42 (by decide)]) (by rw [ku_row (by decide), er 43 (by decide)]) (by rw [ku_row (by decide), er 44 (by decide)]) rfl rfl)
          have hM := c_M_letter_d l d D a (sdF n (n 16 p0) (n 17 p0) (n 18 p0)) (kg g 2 (sdF n (n 16 p0) (n 17 p0) (n 18 p0) 15 0)) hap (fun i => by rw [er 46 (by decide)]; exact a6 i) p0 (by rw [er 33 (by decide)]; omega) (by rw [er 33 (by decide)]; omega)
          rw [er 46 (by decide), er 47 (by decide), er 48 (by decide), ← b1, ← b2, ← b3] at hM
          have e11 : (ku (sdF n (n 16 p0) (n 17 p0) (n 18 p0)) 33 0 0) 33 11 = n 33 11 := by rw [ku_m (by decide), er 33 (by decide)]
          have eM : sdMG (ku (sdF n (n 16 p0) (n 17 p0) (n 18 p0)) 33 0 0) (n 16 p0) (n 17 p0) (n 18 p0) = sdM (ku (sdF n (n 16 p0) (n 17 p0) (n 18 p0)) 33 0 0) (n 16 p0) (n 17 p0) (n 18 p0) := by
            unfold sdM
            rw [if_neg (by rw [e11]; omega)]
          have eW : sdF n (n 16 p0) (n 17 p0) (n 18 p0) 33 11 + 1 = sdM (ku (sdF n (n 16 p0) (n 17 p0) (n 18 p0)) 33 0 0) (n 16 p0) (n 17 p0) (n 18 p0) 33 11 := by
            rw [hS.2.1.2.2.2.2.1, ← e15, er 33 (by decide)]
            omega
          rw [eM, eW] at hM
          have h15 : sdF n (n 16 p0) (n 17 p0) (n 18 p0) 15 0 ≤ 16 := hS.1.2.2.2.2.1
          refine TB_dl h h3 (w_letter_r l d D a n g hap p0 2 _ _ g (by omega) _ ⟨by decide, by decide, rfl, rfl⟩ hK) ⟨by decide, by decide, rfl, rfl⟩ hM hS (fun r hr => sd_o (by omega)) (fun r hr => ?_) (fun j hj => ?_) ?_ ?_ ?_ ?_
          · rw [sdM_o (by omega), ku_row (by omega)]
          · rw [sdM_33 (by omega), ku_m (by omega)]
          · rw [sdM_33 (by omega), ku_s]
          · rw [sd_o (by decide)]; exact hn1
          · rw [sd_o (by decide)]; omega
          · intro q; rw [sd_o (by decide), sd_o (by decide)]; exact ⟨q, rfl⟩
    · exact TB_th 2 (by decide) (w_letter_IO l d D a n g p0 p1 _ ⟨by decide, by decide, rfl, rfl⟩ (t_K_letter_IO l d D a n g hlt p0 p1 hx hp0 a4 hk)) ⟨by decide, by decide, rfl, rfl⟩ rfl (c_M_letter_2 l d D a n g hap p0 p1 hp0 hx (by omega) (by omega)) (IV_th h (by decide))
  · exact TB_th 1 (by decide) (w_letter_IA l d D a n g p0 p1 _ ⟨by decide, by decide, rfl, rfl⟩ (t_K_letter_IA l d D a n g hlt p0 p1 hp1 hx)) ⟨by decide, by decide, rfl, rfl⟩ rfl (c_M_letter_1 l d D a n g hap p0 p1 hp1 hx) (IV_th h (by decide))
