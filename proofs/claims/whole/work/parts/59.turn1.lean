/-! turns: told, answered, bit, item, tag, key, tick -/
theorem kx_tg {x : Nat} (h : x < 2) : x < 2147483648 := by omega
theorem ky_lt {s d : Nat → Nat} {q : Nat} (hs : ∀ i, s i < 2) : ∀ k, kyF s d q k < 2
  | 0 => by show 0 < 2; decide
  | k + 1 => kx1 (ky_lt hs k) (Nat.lt_of_le_of_lt Nat.and_le_left (hs k))
theorem bx1 {p f t : Nat} (hp : p < 4) (hf : f < 128) (ht : t ≤ 128) : (p * 2 ^ 16 ||| f * 2 ^ 8 ||| t) = p * 65536 + f * 256 + t := by
  have h1 : f * 2 ^ 8 ||| t = f * 2 ^ 8 + t := by
    rw [Nat.mul_comm, ← Nat.two_pow_add_eq_or_of_lt (by omega)]
  have h2 : p * 2 ^ 16 ||| (f * 2 ^ 8 + t) = p * 2 ^ 16 + (f * 2 ^ 8 + t) := by
    rw [Nat.mul_comm, ← Nat.two_pow_add_eq_or_of_lt (by omega)]
  rw [Nat.or_assoc, h1, h2]
  omega
theorem an255 (x : Nat) : x &&& 255 = x % 256 := Nat.and_two_pow_sub_one_eq_mod x 8
/-- a question's word, taken apart -/
theorem qw_parts {n m : Nat → Nat → Nat} {q : Nat} (h : QW n m q) (hl : n 14 5 ≤ 128) : n 29 (q - 1) = 65536 * m 42 q + 256 * m 43 q + m 44 q ∧ n 29 (q - 1) < 2147483648 ∧ n 29 (q - 1) / 2 ^ 16 = m 42 q ∧ (n 29 (q - 1) / 2 ^ 8 &&& 255) = m 43 q ∧ (n 29 (q - 1) &&& 255) = m 44 q := by
  obtain ⟨h1, h2, h3, h4⟩ := h
  rw [bx1 h1 (by omega) (by omega)] at h4
  refine ⟨by omega, by omega, by omega, ?_, ?_⟩
  · rw [an255]; omega
  · rw [an255]; omega
theorem T_told {l : Launch} {d : Nat → Nat} {D : va_G} {a : Nat → Nat} (hap : ∀ i j : Nat, i < 52 → j < 52 → a i = a j → i = j) (t : Nat) (n : Nat → Nat → Nat) (g : Nat → Nat) (ht : t < 512) (h : IV t n g) (p0 p1 : Nat) (hp0 : p0 < 4294967296) (hp1 : p1 < 4294967296) : TP (IV (t + 1)) l d D a n g (some .int) jy_K_told jb_K_told 3 [.ref (a 0), .int (nI p0), .int (nI p1)] jy_M_told jb_M_told 4 [.ref (a 33), .int (nI p0), .int (nI p1)] := by
  obtain ⟨a1, a2, a3, a4, a5, a6, a7, a8⟩ := IV_pass h
  by_cases hk : p0 < n 15 0
  · have hX : RX n n := by
      rcases h.2.2.2.2.1 with h0 | h1
      · have := h0.2.2.2.1; omega
      · exact h1.2.2.2
    have hl : n 14 5 ≤ 128 := hX.1.1.2.2
    obtain ⟨b1, b2, b3, b4, b5, b6, b7, b8⟩ := hX.2.2.2.2.2.2.1 p0 hk
    have hQ := qw_parts (hX.2.2.2.2.2.1 (n 17 p0) b5 b6) hl
    have h512 : n 17 p0 ≤ 512 := by have := h.2.2.2.2.2; omega
    have hK := c_K_told l d D a n g p0 p1 hp0 hp1 a4 h.1 (fun _ _ => ⟨b5, h512, hQ.2.1⟩)
    have hM := c_M_told l d D a n g hap h.1 p0 (by omega) (by omega) (fun _ => by rw [← b2]; exact h512) p1 hp1
    have e : (if p0 < n 15 0 then tlF n p0 p1 else 4294967295) = tlM n p0 p1 := by
      rw [if_pos hk]
      unfold tlF tlM
      rw [b1, b2, b3] at *
      rw [hQ.2.2.1, hQ.2.2.2.1, hQ.2.2.2.2]
      have : n 46 p0 = 0 ∨ n 46 p0 = 1 := by omega
      rcases this with e0 | e0 <;> rw [e0] <;> simp
    rw [e] at hK
    refine ⟨_, _, _, _, _, ⟨by decide, by decide, rfl, rfl⟩, hK, ⟨by decide, by decide, rfl, rfl⟩, hM, ?_, IV_th h (by decide)⟩
    unfold tlM
    split
    · split <;> decide
    · split
      · exact h.1 _ _
      · split
        · split <;> exact h.1 _ _
        · split
          · split
            · exact h.1 _ _
            · decide
          · split
            · split
              · exact h.1 _ _
              · decide
            · decide
  · have hK := c_K_told l d D a n g p0 p1 hp0 hp1 a4 h.1 (fun q => absurd q hk)
    rw [if_neg hk] at hK
    exact ⟨_, _, _, _, _, ⟨by decide, by decide, rfl, rfl⟩, hK, ⟨by decide, by decide, rfl, rfl⟩, c_M_told_x l d D a n g hap p0 p1 hp0 (by omega) (by omega), by decide, IV_th h (by decide)⟩
theorem T_answered {l : Launch} {d : Nat → Nat} {D : va_G} {a : Nat → Nat} (hap : ∀ i j : Nat, i < 52 → j < 52 → a i = a j → i = j) (t : Nat) (n : Nat → Nat → Nat) (g : Nat → Nat) (ht : t < 512) (h : IV t n g) (p0 : Nat) (hp0 : p0 < 4294967296) : TP (IV (t + 1)) l d D a n g (some .int) jy_K_answered jb_K_answered 2 [.ref (a 0), .int (nI p0)] jy_M_answered jb_M_answered 2 [.ref (a 33), .int (nI p0)] := by
  obtain ⟨a1, a2, a3, a4, a5, a6, a7, a8⟩ := IV_pass h
  have h5 := h.2.2.2.2.2
  have hK := c_K_answered l d D a n g p0 hp0 (by omega)
  by_cases hk : p0 < n 14 2
  · have hX : RX n n := by
      rcases h.2.2.2.2.1 with h0 | h1
      · obtain ⟨c1, c2, c3, c4, c5, c6, c7, c8, c9, c10⟩ := h0; omega
      · exact h1.2.2.2
    have hl : n 14 5 ≤ 128 := hX.1.1.2.2
    have hQ := qw_parts (hX.2.2.2.2.2.1 (p0 + 1) (by omega) (by omega)) hl
    have hM := c_M_answered l d D a n g hap p0 (by omega) (by omega)
    rw [if_pos hk, show n 29 p0 = n 29 (p0 + 1 - 1) from rfl, hQ.1] at hK
    refine ⟨_, _, _, _, _, ⟨by decide, by decide, rfl, rfl⟩, hK, ⟨by decide, by decide, rfl, rfl⟩, hM, ?_, IV_th h (by decide)⟩
    rw [← hQ.1]
    exact h.1 _ _
  · rw [if_neg hk] at hK
    exact ⟨_, _, _, _, _, ⟨by decide, by decide, rfl, rfl⟩, hK, ⟨by decide, by decide, rfl, rfl⟩, c_M_answered_x l d D a n g hap p0 hp0 (by omega) (by omega), by decide, IV_th h (by decide)⟩
theorem T_bit {l : Launch} (hlt : l.stackTraces = false) {d : Nat → Nat} {D : va_G} {a : Nat → Nat} (hap : ∀ i j : Nat, i < 52 → j < 52 → a i = a j → i = j) (t : Nat) (n : Nat → Nat → Nat) (g : Nat → Nat) (ht : t < 512) (h : IV t n g) (p0 p1 : Nat) (hp0 : p0 < 4294967296) (hp1 : p1 < 4294967296) : TB (IV (t + 1)) l d D a n g jy_L_bit jb_L_bit 5 [(0, 10, 13, 15), (0, 10, 17, 33)] [.ref (a 0), .int (nI p0), .int (nI p1), .ref (a 51)] jy_M_bit jb_M_bit 3 [.ref (a 33), .int (nI p0), .int (nI p1)] := by
  rcases IV_len h with ⟨h1, h2, h3⟩ | ⟨h1, h2, h3, h4⟩
  · exact TB_th 1 (by decide) (w_bit_IS l d D a n g p0 p1 _ ⟨by decide, by decide, rfl, rfl⟩ (t_K_bit_IS l d D a n g hlt h.1 p0 p1 h1)) ⟨by decide, by decide, rfl, rfl⟩ rfl (c_M_bit_1 l d D a n g hap h.1 p0 p1 h2) (IV_th h (by decide))
  · by_cases hg : p0 < 2 ∧ p1 < n 0 0
    · have hs := h.2.2.1.1 p1 (by omega)
      have hb := h.2.2.1.2.1 p1
      rcases (show p0 = 0 ∨ p0 = 1 by omega) with rfl | rfl
      · have hM := c_M_bit l d D a n (kg g 2 (n 6 p1)) hap h.1 0 p1 (by decide) h3 (by omega) (by omega)
        rw [show 128 * 0 + p1 = p1 by omega, ← hs.1] at hM
        exact TB_pu (n 6 p1) (by omega) (w_bit_r l d D a n g hap 0 p1 (n 6 p1) (by omega) _ ⟨by decide, by decide, rfl, rfl⟩ (c_K_bit_1 l d D a n g h.1 p1 h1 hg.2 h2)) ⟨by decide, by decide, rfl, rfl⟩ hM (IV_th h (by decide))
      · have hM := c_M_bit l d D a n (kg g 2 (n 12 p1)) hap h.1 1 p1 (by decide) h3 (by omega) (by omega)
        rw [show 128 * 1 + p1 = 128 + p1 by omega, ← hs.2] at hM
        exact TB_pu (n 12 p1) (by omega) (w_bit_r l d D a n g hap 1 p1 (n 12 p1) (by omega) _ ⟨by decide, by decide, rfl, rfl⟩ (c_K_bit_7 l d D a n g h.1 p1 h1 hg.2 h2)) ⟨by decide, by decide, rfl, rfl⟩ hM (IV_th h (by decide))
    · exact TB_th 2 (by decide) (w_bit_IO l d D a n g p0 p1 _ ⟨by decide, by decide, rfl, rfl⟩ (t_K_bit_IO l d D a n g hlt h.1 p0 p1 hp0 hp1 h1 h2 hg)) ⟨by decide, by decide, rfl, rfl⟩ rfl (c_M_bit_2 l d D a n g hap h.1 p0 p1 hp0 hp1 h3 (by omega) (by rw [h4]; exact hg)) (IV_th h (by decide))
theorem T_item {l : Launch} (hlt : l.stackTraces = false) {d : Nat → Nat} {D : va_G} {a : Nat → Nat} (hap : ∀ i j : Nat, i < 52 → j < 52 → a i = a j → i = j) (t : Nat) (n : Nat → Nat → Nat) (g : Nat → Nat) (ht : t < 512) (h : IV t n g) (p0 p1 : Nat) (hp0 : p0 < 4294967296) (hp1 : p1 < 4294967296) : TB (IV (t + 1)) l d D a n g jy_L_item jb_L_item 5 [(0, 10, 13, 15), (0, 10, 17, 33)] [.ref (a 0), .int (nI p0), .int (nI p1), .ref (a 51)] jy_M_item jb_M_item 3 [.ref (a 33), .int (nI p0), .int (nI p1)] := by
  rcases IV_bg h with ⟨h1, h2⟩ | ⟨h1, h2, h3⟩
  · exact TB_th 1 (by decide) (w_item_IS l d D a n g p0 p1 _ ⟨by decide, by decide, rfl, rfl⟩ (t_K_item_IS l d D a n g hlt h.1 p0 p1 h1)) ⟨by decide, by decide, rfl, rfl⟩ rfl (c_M_item_1 l d D a n g hap h.1 p0 p1 h2) (IV_th h (by decide))
  · obtain ⟨-, e5, -, hX⟩ := h3
    have hl : n 14 5 ≤ 128 := hX.1.1.2.2
    have e2 : n 33 2 = n 0 0 := by rw [e5]; exact hX.2.1.2.1
    by_cases hg : p0 < 4 ∧ p1 < n 0 0
    · have e3 := hX.2.2.2.1 p0 p1 hg.1 (by omega)
      have e4 := hX.1.2.1 p0 p1 hg.1 (by omega)
      have hM := c_M_item l d D a n (kg g 2 (n (20 + p0) p1)) hap h.1 p0 p1 hg.1 h2 (by omega) (by omega)
      rw [← e3] at hM
      exact TB_pu (n (20 + p0) p1) (by omega) (w_item_r l d D a n g hap p0 p1 (n (20 + p0) p1) (by omega) _ ⟨by decide, by decide, rfl, rfl⟩ (c_K_item l d D a n g h.1 p0 p1 h1 hg.1 hg.2 (by omega))) ⟨by decide, by decide, rfl, rfl⟩ hM (IV_th h (by decide))
    · exact TB_th 2 (by decide) (w_item_IO l d D a n g p0 p1 _ ⟨by decide, by decide, rfl, rfl⟩ (t_K_item_IO l d D a n g hlt h.1 p0 p1 hp0 hp1 h1 (by omega) hg)) ⟨by decide, by decide, rfl, rfl⟩ rfl (c_M_item_2 l d D a n g hap h.1 p0 p1 hp0 hp1 h2 (by omega) (by rw [e2]; exact hg)) (IV_th h (by decide))
theorem T_tag {l : Launch} (hlt : l.stackTraces = false) {d : Nat → Nat} {D : va_G} {a : Nat → Nat} (hap : ∀ i j : Nat, i < 52 → j < 52 → a i = a j → i = j) (t : Nat) (n : Nat → Nat → Nat) (g : Nat → Nat) (ht : t < 512) (h : IV t n g) (p0 p1 : Nat) (hp0 : p0 < 4294967296) (hp1 : p1 < 4294967296) : TB (IV (t + 1)) l d D a n g jy_L_tag jb_L_tag 5 [(0, 10, 13, 15), (0, 10, 17, 13)] [.ref (a 0), .int (nI p0), .int (nI p1), .ref (a 51)] jy_M_tag jb_M_tag 3 [.ref (a 33), .int (nI p0), .int (nI p1)] := by
  rcases IV_len h with ⟨h1, h2, h3⟩ | ⟨h1, h2, h3, h4⟩
  · exact TB_th 1 (by decide) (w_tag_IS l d D a n g p0 p1 _ ⟨by decide, by decide, rfl, rfl⟩ (t_K_tag_IS l d D a n g hlt h.1 p0 p1 h1)) ⟨by decide, by decide, rfl, rfl⟩ rfl (c_M_tag_1 l d D a n g hap h.1 p0 p1 h2) (IV_th h (by decide))
  · by_cases hg : p0 < 2 ∧ 1 ≤ p1 ∧ p1 ≤ 65535
    · rcases (show p0 = 0 ∨ p0 = 1 by omega) with rfl | rfl
      · have et : tagM (mS n 0) p1 (n 33 2) = tagF (n 6) p1 (n 0 0) := by
          rw [h4]
          exact tag_eq (by omega) (fun i hi => by show n 38 (128 * 0 + i) = _; rw [show 128 * 0 + i = i by omega]; exact (h.2.2.1.1 i (by omega)).1.symm)
        have hlt2 := tagF_lt (r := n 6) (t := n 0 0) (show p1 < 65536 by omega)
        have hM := c_M_tag l d D a n (kg g 2 (tagF (n 6) p1 (n 0 0))) hap h.1 0 p1 (by decide) hg.2.1 hg.2.2 h3 (by omega) (fun i => (h.2.2.1.2.1 _).2.2)
        rw [et] at hM
        exact TB_pu (tagF (n 6) p1 (n 0 0)) (by omega) (w_tag_r l d D a n g hap 0 p1 _ (by omega) _ ⟨by decide, by decide, rfl, rfl⟩ (c_K_tag_1 l d D a n g h.1 p1 h1 hg.2.1 hg.2.2 h2 (fun i => (h.2.2.1.2.1 i).1))) ⟨by decide, by decide, rfl, rfl⟩ hM (IV_th h (by decide))
      · have et : tagM (mS n 1) p1 (n 33 2) = tagF (n 12) p1 (n 0 0) := by
          rw [h4]
          exact tag_eq (by omega) (fun i hi => by show n 38 (128 * 1 + i) = _; rw [show 128 * 1 + i = 128 + i by omega]; exact (h.2.2.1.1 i (by omega)).2.symm)
        have hlt2 := tagF_lt (r := n 12) (t := n 0 0) (show p1 < 65536 by omega)
        have hM := c_M_tag l d D a n (kg g 2 (tagF (n 12) p1 (n 0 0))) hap h.1 1 p1 (by decide) hg.2.1 hg.2.2 h3 (by omega) (fun i => (h.2.2.1.2.1 _).2.2)
        rw [et] at hM
        exact TB_pu (tagF (n 12) p1 (n 0 0)) (by omega) (w_tag_r l d D a n g hap 1 p1 _ (by omega) _ ⟨by decide, by decide, rfl, rfl⟩ (c_K_tag_7 l d D a n g h.1 p1 h1 hg.2.1 hg.2.2 h2 (fun i => (h.2.2.1.2.1 i).2.1))) ⟨by decide, by decide, rfl, rfl⟩ hM (IV_th h (by decide))
    · exact TB_th 2 (by decide) (w_tag_IA l d D a n g p0 p1 _ ⟨by decide, by decide, rfl, rfl⟩ (t_K_tag_IA l d D a n g hlt h.1 p0 p1 hp0 hp1 h1 hg)) ⟨by decide, by decide, rfl, rfl⟩ rfl (c_M_tag_2 l d D a n g hap h.1 p0 p1 hp0 hp1 h3 hg) (IV_th h (by decide))
theorem T_key {l : Launch} (hlt : l.stackTraces = false) {d : Nat → Nat} {D : va_G} {a : Nat → Nat} (hap : ∀ i j : Nat, i < 52 → j < 52 → a i = a j → i = j) (t : Nat) (n : Nat → Nat → Nat) (g : Nat → Nat) (ht : t < 512) (h : IV t n g) (p0 p1 : Nat) (hp0 : p0 < 4294967296) (hp1 : p1 < 4294967296) : TB (IV (t + 1)) l d D a n g jy_L_key jb_L_key 5 [(0, 10, 13, 33)] [.ref (a 0), .int (nI p0), .int (nI p1), .ref (a 51)] jy_M_key jb_M_key 3 [.ref (a 33), .int (nI p0), .int (nI p1)] := by
  obtain ⟨k1, k2, k3, k4⟩ := h.2.2.2.1
  by_cases hg : p0 < 2 ∧ p1 < n 0 3
  · obtain ⟨c4, ck⟩ := k4 (by omega)
    have hln : n 0 0 ≤ 128 := by
      rcases IV_bg h with ⟨q1, q2⟩ | ⟨q1, q2, q3⟩
      · omega
      · have := q3.2.1; have := q3.2.2.2.1.1.2.2; omega
    have hb := ck p1 hg.2
    rcases (show p0 = 0 ∨ p0 = 1 by omega) with rfl | rfl
    · have hx := ky_lt (s := n 6) (d := n 32) (q := n 0 3 - 1 - p1) (fun i => (h.2.2.1.2.1 i).1) (n 0 0)
      have hM := c_M_key l d D a n (kg g 2 (kyF (n 6) (n 32) (n 0 3 - 1 - p1) (n 0 0))) hap 0 p1 (by decide) (by omega) (by omega)
      rw [show 128 * 0 + p1 = p1 by omega, hb.1] at hM
      exact TB_pu _ (by omega) (w_key_r l d D a n g hap 0 p1 _ (by omega) _ ⟨by decide, by decide, rfl, rfl⟩ (c_K_key_1 l d D a n g h.1 p1 hg.2 k2 hln)) ⟨by decide, by decide, rfl, rfl⟩ hM (IV_th h (by decide))
    · have hx := ky_lt (s := n 12) (d := n 32) (q := n 0 3 - 1 - p1) (fun i => (h.2.2.1.2.1 i).2.1) (n 0 0)
      have hM := c_M_key l d D a n (kg g 2 (kyF (n 12) (n 32) (n 0 3 - 1 - p1) (n 0 0))) hap 1 p1 (by decide) (by omega) (by omega)
      rw [show 128 * 1 + p1 = 128 + p1 by omega, hb.2] at hM
      exact TB_pu _ (by omega) (w_key_r l d D a n g hap 1 p1 _ (by omega) _ ⟨by decide, by decide, rfl, rfl⟩ (c_K_key_7 l d D a n g h.1 p1 hg.2 k2 hln)) ⟨by decide, by decide, rfl, rfl⟩ hM (IV_th h (by decide))
  · exact TB_th 1 (by decide) (w_key_IO l d D a n g p0 p1 _ ⟨by decide, by decide, rfl, rfl⟩ (t_K_key_IO l d D a n g hlt h.1 p0 p1 hp0 hp1 k2 hg)) ⟨by decide, by decide, rfl, rfl⟩ rfl (c_M_key_1 l d D a n g hap p0 p1 hp0 hp1 (by omega) (by rw [← k1]; exact hg)) (IV_th h (by decide))
