/-! the invariant between calls -/
def IRc (n : Nat → Nat → Nat) : Prop := (∀ i, i < 128 → n 2 i = n 34 i ∧ n 8 i = n 34 (128 + i) ∧ n 3 i = n 35 i ∧ n 9 i = n 35 (128 + i) ∧ n 4 i = n 36 i ∧ n 10 i = n 36 (128 + i) ∧ n 11 i = n 37 i) ∧ (∀ i, n 34 i < 2 ∧ n 37 i < 2 ∧ n 36 i < 2 ∧ n 4 i < 2 ∧ n 10 i < 2) ∧ n 1 0 = ctF (n 34) 128 ∧ n 7 0 = ctF (fun i => n 34 (128 + i)) 128
def ISt (n : Nat → Nat → Nat) : Prop := (∀ i, i < 128 → n 6 i = n 38 i ∧ n 12 i = n 38 (128 + i)) ∧ (∀ i, n 6 i < 2 ∧ n 12 i < 2 ∧ n 38 i < 2) ∧ n 0 1 = n 33 3 ∧ n 0 2 = n 33 4 ∧ ((n 0 0 = 4294967295 ∧ n 33 1 = 0 ∧ n 33 2 = 0 ∧ n 33 3 = 0 ∧ n 33 4 = 0) ∨ (n 0 0 ≤ 128 ∧ n 33 1 = 1 ∧ n 33 2 = n 0 0 ∧ n 33 3 + n 0 0 ≤ 128 ∧ n 33 4 ≤ n 33 3))
def IKy (n : Nat → Nat → Nat) : Prop := n 0 3 = n 33 12 ∧ n 0 3 ≤ 128 ∧ (∀ i, n 32 i < 2) ∧ (0 < n 0 3 → n 14 3 = 4 ∧ ∀ j, j < n 0 3 → n 49 j = kyF (n 6) (n 32) (n 0 3 - 1 - j) (n 0 0) ∧ n 49 (128 + j) = kyF (n 12) (n 32) (n 0 3 - 1 - j) (n 0 0))
def IB0 (n : Nat → Nat → Nat) : Prop := n 14 3 = 4294967295 ∧ n 33 5 = 0 ∧ n 33 7 = 4294967295 ∧ n 15 0 = 0 ∧ n 33 11 = 0 ∧ n 14 0 = 0 ∧ n 33 8 = 0 ∧ n 33 9 = 0 ∧ n 14 2 = 0 ∧ n 33 10 = 0 ∧ (∀ i, n 46 i < 2)
def IB1 (n : Nat → Nat → Nat) : Prop := n 33 5 = 1 ∧ n 0 0 = n 14 5 ∧ 1 ≤ n 14 0 ∧ RX n n
def IV (t : Nat) (n : Nat → Nat → Nat) (_ : Nat → Nat) : Prop := NB n ∧ IRc n ∧ ISt n ∧ IKy n ∧ (IB0 n ∨ IB1 n) ∧ n 14 0 ≤ t
theorem IV_mono (t : Nat) (n : Nat → Nat → Nat) (g : Nat → Nat) (h : IV t n g) : IV (t + 1) n g := ⟨h.1, h.2.1, h.2.2.1, h.2.2.2.1, h.2.2.2.2.1, by have := h.2.2.2.2.2; omega⟩
theorem IV_0 : IV 0 n0F g0F := by
  have z : ∀ r i, r ≠ 0 → r ≠ 14 → r ≠ 33 → n0F r i = 0 := fun r i h1 h2 h3 => by unfold n0F; rw [if_neg h1, if_neg h2, if_neg h3]
  have c0 : ∀ k, ctF (n0F 34) k = 0 := fun k => by
    induction k with
    | zero => rfl
    | succ k ih => simp only [ctF]; rw [if_pos (z 34 k (by decide) (by decide) (by decide))]; exact ih
  have c1 : ∀ k, ctF (fun i => n0F 34 (128 + i)) k = 0 := fun k => by
    induction k with
    | zero => rfl
    | succ k ih => simp only [ctF]; rw [if_pos (z 34 (128 + k) (by decide) (by decide) (by decide))]; exact ih
  refine ⟨?_, ⟨fun i _ => ⟨rfl, rfl, rfl, rfl, rfl, rfl, rfl⟩, fun i => ⟨by show 0 < 2; decide, by show 0 < 2; decide, by show 0 < 2; decide, by show 0 < 2; decide, by show 0 < 2; decide⟩, (c0 128).symm, (c1 128).symm⟩, ⟨fun i _ => ⟨rfl, rfl⟩, fun i => ⟨by show 0 < 2; decide, by show 0 < 2; decide, by show 0 < 2; decide⟩, rfl, rfl, Or.inl ⟨rfl, rfl, rfl, rfl, rfl⟩⟩, ⟨rfl, by show 0 ≤ 128; decide, fun i => by show 0 < 2; decide, fun h => absurd h (by show ¬ 0 < 0; decide)⟩, Or.inl ⟨rfl, rfl, rfl, rfl, rfl, rfl, rfl, rfl, rfl, rfl, fun i => by show 0 < 2; decide⟩, by show 0 ≤ 0; decide⟩
  intro i j
  unfold n0F
  split
  · split <;> decide
  · split
    · split <;> decide
    · split
      · split <;> decide
      · decide
/-- only 'thrown' has changed -/
theorem IV_th {t : Nat} {n : Nat → Nat → Nat} {g g' : Nat → Nat} {c : Nat} (h : IV t n g) (hc : c < 4294967296) : IV (t + 1) (ku n 33 0 c) g' := by
  obtain ⟨hB, hR, hS, hK, hD, ht⟩ := h
  have hB' : NB (ku n 33 0 c) := NB_ku hB hc
  refine ⟨hB', hR, hS, hK, ?_, by show n 14 0 ≤ t + 1; omega⟩
  rcases hD with h0 | ⟨h1, h2, h3, h4⟩
  · exact Or.inl h0
  · exact Or.inr ⟨h1, h2, h3, RX_rows h4 (fun r hr => ku_row (by omega)) (fun r hr _ => ku_row hr) (fun j hj => ku_m hj) hB' hB'⟩
theorem TB_th {I : (Nat → Nat → Nat) → (Nat → Nat) → Prop} {l : Launch} {d : Nat → Nat} {D : va_G} {a : Nat → Nat} {n : Nat → Nat → Nat} {g : Nat → Nat} {y : MethodName} {b : ByteArray} {mx : Nat} {hh : List (Nat × Nat × Nat × Nat)} {av : List Value} {yM : MethodName} {bM : ByteArray} {mM : Nat} {aM : List Value} (k : Nat) (hk : 1 ≤ k ∧ k < 4) (hW : jWr l d D a n g y b mx hh rmW av (fun v9 m2 h2 => some (.int (nI k)) = v9 ∧ n = m2 ∧ g = h2)) {rm : Room} (hr : rmS rm) {n2 : Nat → Nat → Nat} (hn : n2 = ku n 33 0 k) (hM : jEff l d D a n g yM bM mM (some .int) rm aM (fun v9 m2 h2 => some (.int (nI 0)) = v9 ∧ n2 = m2 ∧ g = h2)) (hI : I (ku n 33 0 k) g) : TB I l d D a n g y b mx hh av yM bM mM aM := by
  subst hn
  exact ⟨k, 0, n, g, ku n 33 0 k, g, rm, hW, hr, hM, hk.2, ku_s _ _ _ _, fun h => by omega, hI⟩
theorem TB_pu {I : (Nat → Nat → Nat) → (Nat → Nat) → Prop} {l : Launch} {d : Nat → Nat} {D : va_G} {a : Nat → Nat} {n : Nat → Nat → Nat} {g : Nat → Nat} {y : MethodName} {b : ByteArray} {mx : Nat} {hh : List (Nat × Nat × Nat × Nat)} {av : List Value} {yM : MethodName} {bM : ByteArray} {mM : Nat} {aM : List Value} (x : Nat) (hx : x < 2147483648) (hW : jWr l d D a n g y b mx hh rmW av (fun v9 m2 h2 => some (.int (nI 0)) = v9 ∧ n = m2 ∧ kg g 2 x = h2)) {rm : Room} (hr : rmS rm) (hM : jEff l d D a n (kg g 2 x) yM bM mM (some .int) rm aM (fun v9 m2 h2 => some (.int (nI x)) = v9 ∧ ku n 33 0 0 = m2 ∧ kg g 2 x = h2)) (hI : I (ku n 33 0 0) (kg g 2 x)) : TB I l d D a n g y b mx hh av yM bM mM aM :=
  ⟨0, x, n, kg g 2 x, ku n 33 0 0, kg g 2 x, rm, hW, hr, hM, by decide, ku_s _ _ _ _, fun _ => ⟨kg_s _ _ _, hx⟩, hI⟩
theorem kk_th (n : Nat → Nat → Nat) (i j x y : Nat) : ku (ku n i j x) i j y = ku n i j y := by
  funext r c
  simp only [ku]
  split
  · split <;> rfl
  · rfl
theorem IV_len {t : Nat} {n : Nat → Nat → Nat} {g : Nat → Nat} (h : IV t n g) : (n 0 0 = 4294967295 ∧ n 33 1 = 0 ∧ n 33 2 = 0) ∨ (¬ n 0 0 = 4294967295 ∧ n 0 0 ≤ 128 ∧ ¬ n 33 1 = 0 ∧ n 33 2 = n 0 0) := by
  rcases h.2.2.1.2.2.2.2 with h | h
  · exact Or.inl ⟨h.1, h.2.1, h.2.2.1⟩
  · exact Or.inr ⟨by omega, h.1, by omega, h.2.2.1⟩
theorem IV_bg {t : Nat} {n : Nat → Nat → Nat} {g : Nat → Nat} (h : IV t n g) : (n 14 3 = 4294967295 ∧ n 33 5 = 0) ∨ (¬ n 14 3 = 4294967295 ∧ ¬ n 33 5 = 0 ∧ IB1 n) := by
  rcases h.2.2.2.2.1 with h | h
  · exact Or.inl ⟨h.1, h.2.1⟩
  · have := h.2.2.2.1.2.2.2.2.2
    exact Or.inr ⟨by omega, by have := h.1; omega, h⟩
theorem IV_pass {t : Nat} {n : Nat → Nat → Nat} {g : Nat → Nat} (h : IV t n g) : n 33 7 = n 14 3 ∧ n 33 10 = n 14 2 ∧ n 33 11 = n 15 0 ∧ n 15 0 ≤ 16 ∧ n 14 2 ≤ n 14 0 ∧ (∀ i, n 46 i < 2) ∧ n 33 8 = n 14 0 ∧ n 33 9 ≤ n 33 8 := by
  rcases h.2.2.2.2.1 with h | h
  · obtain ⟨a1, a2, a3, a4, a5, a6, a7, a8, a9, a10, a11⟩ := h
    exact ⟨by omega, by omega, by omega, by omega, by omega, a11, by omega, by omega⟩
  · obtain ⟨-, -, -, hD, h1, h2, h3, h4, h5, h6, h7, h8, h9, hb, hd2, -, -, -⟩ := h
    exact ⟨h1.2.2.1, h1.2.2.2.2.2, h1.2.2.2.2.1, hD.2.2.2.2.1, hd2, hb.2, h1.2.2.2.1, h8.1⟩
theorem T_length {l : Launch} {d : Nat → Nat} {D : va_G} {a : Nat → Nat} (hap : ∀ i j : Nat, i < 52 → j < 52 → a i = a j → i = j) (t : Nat) (n : Nat → Nat → Nat) (g : Nat → Nat) (_ : t < 512) (h : IV t n g) : TP (IV (t + 1)) l d D a n g (some .int) jy_K_length jb_K_length 1 [.ref (a 0)] jy_M_length jb_M_length 1 [.ref (a 33)] := by
  rcases IV_len h with ⟨h1, h2, h3⟩ | ⟨h1, h2, h3, h4⟩
  · have hM := c_M_length_n l d D a n g hap h.1 h2
    rw [← h1] at hM
    exact ⟨n 0 0, _, _, _, _, ⟨by decide, by decide, rfl, rfl⟩, c_K_length l d D a n g, ⟨by decide, by decide, rfl, rfl⟩, hM, h.1 _ _, IV_th h (by decide)⟩
  · have hM := c_M_length_y l d D a n g hap h.1 h3
    rw [h4] at hM
    exact ⟨n 0 0, _, _, _, _, ⟨by decide, by decide, rfl, rfl⟩, c_K_length l d D a n g, ⟨by decide, by decide, rfl, rfl⟩, hM, h.1 _ _, IV_th h (by decide)⟩
theorem T_sampled {l : Launch} {d : Nat → Nat} {D : va_G} {a : Nat → Nat} (hap : ∀ i j : Nat, i < 52 → j < 52 → a i = a j → i = j) (t : Nat) (n : Nat → Nat → Nat) (g : Nat → Nat) (_ : t < 512) (h : IV t n g) (p0 : Nat) (hp0 : p0 < 4294967296) : TP (IV (t + 1)) l d D a n g (some .int) jy_K_sampled jb_K_sampled 2 [.ref (a 0), .int (nI p0)] jy_M_sampled jb_M_sampled 2 [.ref (a 33), .int (nI p0)] := by
  have e1 := h.2.2.1.2.2.1
  have e2 := h.2.2.1.2.2.2.1
  rcases (show p0 = 0 ∨ p0 = 1 ∨ 2 ≤ p0 by omega) with rfl | rfl | h2
  · have hM := c_M_sampled_0 l d D a n g hap
    rw [← e1] at hM
    exact ⟨_, _, _, _, _, ⟨by decide, by decide, rfl, rfl⟩, c_K_sampled_0 l d D a n g, ⟨by decide, by decide, rfl, rfl⟩, hM, h.1 _ _, IV_th h (by decide)⟩
  · have hM := c_M_sampled_1 l d D a n g hap
    rw [← e2] at hM
    exact ⟨_, _, _, _, _, ⟨by decide, by decide, rfl, rfl⟩, c_K_sampled_1 l d D a n g, ⟨by decide, by decide, rfl, rfl⟩, hM, h.1 _ _, IV_th h (by decide)⟩
  · exact ⟨_, _, _, _, _, ⟨by decide, by decide, rfl, rfl⟩, c_K_sampled_x l d D a n g p0 hp0 h2, ⟨by decide, by decide, rfl, rfl⟩, c_M_sampled_x l d D a n g hap p0 hp0 h2, by decide, IV_th h (by decide)⟩
theorem T_done {l : Launch} {d : Nat → Nat} {D : va_G} {a : Nat → Nat} (hap : ∀ i j : Nat, i < 52 → j < 52 → a i = a j → i = j) (t : Nat) (n : Nat → Nat → Nat) (g : Nat → Nat) (_ : t < 512) (h : IV t n g) : TP (IV (t + 1)) l d D a n g (some .boolean) jy_K_done jb_K_done 1 [.ref (a 0)] jy_M_done jb_M_done 1 [.ref (a 33)] := by
  have hM := c_M_done l d D a n g hap h.1
  rw [(IV_pass h).1] at hM
  exact ⟨_, _, _, _, _, ⟨by decide, by decide, rfl, rfl⟩, c_K_done l d D a n g h.1, ⟨by decide, by decide, rfl, rfl⟩, hM, by split <;> decide, IV_th h (by decide)⟩
theorem T_pass {l : Launch} {d : Nat → Nat} {D : va_G} {a : Nat → Nat} (hap : ∀ i j : Nat, i < 52 → j < 52 → a i = a j → i = j) (t : Nat) (n : Nat → Nat → Nat) (g : Nat → Nat) (_ : t < 512) (h : IV t n g) : TP (IV (t + 1)) l d D a n g (some .int) jy_K_pass jb_K_pass 1 [.ref (a 0)] jy_M_pass jb_M_pass 1 [.ref (a 33)] := by
  have hM := c_M_pass l d D a n g hap
  rw [(IV_pass h).1] at hM
  exact ⟨_, _, _, _, _, ⟨by decide, by decide, rfl, rfl⟩, c_K_pass l d D a n g, ⟨by decide, by decide, rfl, rfl⟩, hM, h.1 _ _, IV_th h (by decide)⟩
theorem T_disclosed {l : Launch} {d : Nat → Nat} {D : va_G} {a : Nat → Nat} (hap : ∀ i j : Nat, i < 52 → j < 52 → a i = a j → i = j) (t : Nat) (n : Nat → Nat → Nat) (g : Nat → Nat) (_ : t < 512) (h : IV t n g) : TP (IV (t + 1)) l d D a n g (some .int) jy_K_disclosed jb_K_disclosed 1 [.ref (a 0)] jy_M_disclosed jb_M_disclosed 1 [.ref (a 33)] := by
  have hM := c_M_disclosed l d D a n g hap
  rw [(IV_pass h).2.1] at hM
  exact ⟨_, _, _, _, _, ⟨by decide, by decide, rfl, rfl⟩, c_K_disclosed l d D a n g, ⟨by decide, by decide, rfl, rfl⟩, hM, h.1 _ _, IV_th h (by decide)⟩
