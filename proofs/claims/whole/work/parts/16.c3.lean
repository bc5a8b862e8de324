set_option maxHeartbeats 4000000 in
theorem c_S_product (l : Launch) (d : Nat → Nat) (D : va_G) (a : Nat → Nat) (n : Nat → Nat → Nat) (g : Nat → Nat) (x y : Nat) (hx : x < 65536) (hy : y < 4294967296) : jPure l d D a n g jy_S_product jb_S_product 5 (some .int) { frames := 0, cells := 0, slots := 0, locals := 0 } [.int (nI x), .int (nI y)] (some (.int (nI (prF x y)))) := by
  refine jq_I (by decide) (Nat.le_of_ble_eq_true rfl) ?_
  intro p e s m A below meth c ls Q X hP hl hQ
  have hl : lv_has ls 5 [(0, .int (nI x)), (1, .int (nI y))] := hl
  refine lv_iconst (v := nI 0) X.1 X.2.1 jd_S_product_0 (by decide) ?_
  refine lv_istore_n X.1 X.2.1 jd_S_product_1 rfl hl (by decide) rfl (fun ls hl => ?_)
  have hl : lv_has ls 5 [(2, .int (nI 0)), (0, .int (nI x)), (1, .int (nI y))] := hl
  refine lv_iload_n X.1 X.2.1 jd_S_product_2 rfl (lv_at hl 1 rfl) ?_
  refine lv_istore_n X.1 X.2.1 jd_S_product_3 rfl hl (by decide) rfl (fun ls hl => ?_)
  have hl : lv_has ls 5 [(3, .int (nI x)), (2, .int (nI 0)), (0, .int (nI x)), (1, .int (nI y))] := hl
  refine lv_iconst (v := nI 0) X.1 X.2.1 jd_S_product_4 (by decide) ?_
  refine lv_istore X.1 X.2.1 jd_S_product_5 hl (by decide) rfl (fun ls hl => ?_)
  have hl : lv_has ls 5 [(4, .int (nI 0)), (3, .int (nI x)), (2, .int (nI 0)), (0, .int (nI x)), (1, .int (nI y))] := hl
  have loop7 : ∀ (r k : Nat) (ls : Array Slot), k + r = 16 → lv_has ls 5 [(4, .int (nI k)), (3, .int (nI (shF x k))), (2, .int (nI (smF x y k))), (0, .int (nI x)), (1, .int (nI y))] → W p l e { frames := 0, cells := 0, slots := 0, locals := 0 } s m A below meth c s.heap [] 0 0 Q (F0 m 7 ls []) := by
    intro r
    induction r with
    | zero => 
      intro k ls hk hl
      obtain rfl : 16 = k := by omega
      refine lv_iload X.1 X.2.1 jd_S_product_7 (lv_at hl 0 rfl) ?_
      refine lv_bipush (v := nI 16) X.1 X.2.1 jd_S_product_9 (by decide) ?_
      refine kn_cge X.1 X.2.1 jd_S_product_11 (tgt := 49) (by decide) (by omega) (fun h11 => ?_) (fun h11 => absurd h11 (by omega))
      refine lv_iload_n X.1 X.2.1 jd_S_product_49 rfl (lv_at hl 2 rfl) ?_
      exact kn_to (by first | rfl | omega | (split <;> omega)) (hQ _ _ jd_S_product_50)
    | succ r ihr => 
      intro k ls hk hl
      refine lv_iload X.1 X.2.1 jd_S_product_7 (lv_at hl 0 rfl) ?_
      refine lv_bipush (v := nI 16) X.1 X.2.1 jd_S_product_9 (by decide) ?_
      refine kn_cge X.1 X.2.1 jd_S_product_11 (tgt := 49) (by decide) (by omega) (fun h11 => absurd h11 (by omega)) (fun h11 => ?_)
      refine lv_iload_n X.1 X.2.1 jd_S_product_14 rfl (lv_at hl 4 rfl) ?_
      refine lv_iload X.1 X.2.1 jd_S_product_15 (lv_at hl 0 rfl) ?_
      refine lv_iushr (v := nI (y / 2 ^ k)) X.1 X.2.1 jd_S_product_17 (kn_bit (by omega) (by omega)) ?_
      refine lv_iconst (v := nI 1) X.1 X.2.1 jd_S_product_18 (by decide) ?_
      refine kn_iand X.1 X.2.1 jd_S_product_19 ?_
      refine lv_iconst (v := nI 1) X.1 X.2.1 jd_S_product_20 (by decide) ?_
      refine kn_cne X.1 X.2.1 jd_S_product_21 (tgt := 28) (by decide) (⟨by have := Nat.and_le_right (n := y / 2 ^ k) (m := 1); omega, by decide⟩) (fun h21 => ?_) (fun h21 => ?_)
      · skip
        refine lv_iload_n X.1 X.2.1 jd_S_product_28 rfl (lv_at hl 1 rfl) ?_
        refine lv_iconst (v := nI 1) X.1 X.2.1 jd_S_product_29 (by decide) ?_
        refine lv_ishl X.1 X.2.1 jd_S_product_30 ?_
        refine kn_is (y := (shF x k) * 2 ^ 1) (kn_shl (by omega) (shF_lt hx k)) ?_
        refine lv_istore_n X.1 X.2.1 jd_S_product_31 rfl hl (by decide) rfl (fun ls hl => ?_)
        have hl : lv_has ls 5 [(3, .int (nI ((shF x k) * 2 ^ 1))), (4, .int (nI k)), (2, .int (nI (smF x y k))), (0, .int (nI x)), (1, .int (nI y))] := hl
        refine lv_iload_n X.1 X.2.1 jd_S_product_32 rfl (lv_at hl 0 rfl) ?_
        refine lv_ldc (v := nI 65535) X.1 X.2.1 X.2.2.2.2.2.1 (X.2.2.2.2.2.2.1 _ jm_561) jd_S_product_33 ?_
        refine kn_cle X.1 X.2.1 jd_S_product_35 (tgt := 43) (by decide) (by have := shF_lt hx k; omega) (fun h35 => ?_) (fun h35 => ?_)
        · skip
          refine lv_iinc (k := 1) (v := nI (k + 1)) X.1 X.2.1 jd_S_product_43 hl rfl (kn_inc _) (by decide) rfl (fun ls hl => ?_)
          have hl : lv_has ls 5 [(4, .int (nI (k + 1))), (3, .int (nI ((shF x k) * 2 ^ 1))), (2, .int (nI (smF x y k))), (0, .int (nI x)), (1, .int (nI y))] := hl
          refine lv_goto X.1 X.2.1 jd_S_product_46 (tgt := 7) (by decide) ?_
          have hl : lv_has ls 5 [(4, .int (nI (k + 1))), (3, .int (nI (shF x (k + 1)))), (2, .int (nI (smF x y (k + 1)))), (0, .int (nI x)), (1, .int (nI y))] := by first | exact lv_sub hl [0, 1, 2, 3, 4] rfl | (simp only [shF, smF]; first | (rw [if_pos (by first | exact h35 | omega)]; rw [if_pos (by first | exact h21 | omega)]; exact lv_sub hl [0, 1, 2, 3, 4] rfl) | (rw [if_pos (by first | exact h35 | omega)]; rw [if_neg (by first | exact h21 | omega)]; exact lv_sub hl [0, 1, 2, 3, 4] rfl) | (rw [if_neg (by first | exact h35 | omega)]; rw [if_pos (by first | exact h21 | omega)]; exact lv_sub hl [0, 1, 2, 3, 4] rfl) | (rw [if_neg (by first | exact h35 | omega)]; rw [if_neg (by first | exact h21 | omega)]; exact lv_sub hl [0, 1, 2, 3, 4] rfl))
          exact ihr (k + 1) ls (by omega) hl
        · skip
          refine lv_iload_n X.1 X.2.1 jd_S_product_38 rfl (lv_at hl 0 rfl) ?_
          refine lv_ldc (v := nI 65579) X.1 X.2.1 X.2.2.2.2.2.1 (X.2.2.2.2.2.2.1 _ jm_562) jd_S_product_39 ?_
          refine kn_ixor X.1 X.2.1 jd_S_product_41 ?_
          refine lv_istore_n X.1 X.2.1 jd_S_product_42 rfl hl (by decide) rfl (fun ls hl => ?_)
          have hl : lv_has ls 5 [(3, .int (nI (((shF x k) * 2 ^ 1) ^^^ 65579))), (4, .int (nI k)), (2, .int (nI (smF x y k))), (0, .int (nI x)), (1, .int (nI y))] := hl
          refine lv_iinc (k := 1) (v := nI (k + 1)) X.1 X.2.1 jd_S_product_43 hl rfl (kn_inc _) (by decide) rfl (fun ls hl => ?_)
          have hl : lv_has ls 5 [(4, .int (nI (k + 1))), (3, .int (nI (((shF x k) * 2 ^ 1) ^^^ 65579))), (2, .int (nI (smF x y k))), (0, .int (nI x)), (1, .int (nI y))] := hl
          refine lv_goto X.1 X.2.1 jd_S_product_46 (tgt := 7) (by decide) ?_
          have hl : lv_has ls 5 [(4, .int (nI (k + 1))), (3, .int (nI (shF x (k + 1)))), (2, .int (nI (smF x y (k + 1)))), (0, .int (nI x)), (1, .int (nI y))] := by first | exact lv_sub hl [0, 1, 2, 3, 4] rfl | (simp only [shF, smF]; first | (rw [if_pos (by first | exact h35 | omega)]; rw [if_pos (by first | exact h21 | omega)]; exact lv_sub hl [0, 1, 2, 3, 4] rfl) | (rw [if_pos (by first | exact h35 | omega)]; rw [if_neg (by first | exact h21 | omega)]; exact lv_sub hl [0, 1, 2, 3, 4] rfl) | (rw [if_neg (by first | exact h35 | omega)]; rw [if_pos (by first | exact h21 | omega)]; exact lv_sub hl [0, 1, 2, 3, 4] rfl) | (rw [if_neg (by first | exact h35 | omega)]; rw [if_neg (by first | exact h21 | omega)]; exact lv_sub hl [0, 1, 2, 3, 4] rfl))
          exact ihr (k + 1) ls (by omega) hl
      · skip
        refine lv_iload_n X.1 X.2.1 jd_S_product_24 rfl (lv_at hl 2 rfl) ?_
        refine lv_iload_n X.1 X.2.1 jd_S_product_25 rfl (lv_at hl 1 rfl) ?_
        refine kn_ixor X.1 X.2.1 jd_S_product_26 ?_
        refine lv_istore_n X.1 X.2.1 jd_S_product_27 rfl hl (by decide) rfl (fun ls hl => ?_)
        have hl : lv_has ls 5 [(2, .int (nI ((smF x y k) ^^^ (shF x k)))), (4, .int (nI k)), (3, .int (nI (shF x k))), (0, .int (nI x)), (1, .int (nI y))] := hl
        refine lv_iload_n X.1 X.2.1 jd_S_product_28 rfl (lv_at hl 2 rfl) ?_
        refine lv_iconst (v := nI 1) X.1 X.2.1 jd_S_product_29 (by decide) ?_
        refine lv_ishl X.1 X.2.1 jd_S_product_30 ?_
        refine kn_is (y := (shF x k) * 2 ^ 1) (kn_shl (by omega) (shF_lt hx k)) ?_
        refine lv_istore_n X.1 X.2.1 jd_S_product_31 rfl hl (by decide) rfl (fun ls hl => ?_)
        have hl : lv_has ls 5 [(3, .int (nI ((shF x k) * 2 ^ 1))), (2, .int (nI ((smF x y k) ^^^ (shF x k)))), (4, .int (nI k)), (0, .int (nI x)), (1, .int (nI y))] := hl
        refine lv_iload_n X.1 X.2.1 jd_S_product_32 rfl (lv_at hl 0 rfl) ?_
        refine lv_ldc (v := nI 65535) X.1 X.2.1 X.2.2.2.2.2.1 (X.2.2.2.2.2.2.1 _ jm_561) jd_S_product_33 ?_
        refine kn_cle X.1 X.2.1 jd_S_product_35 (tgt := 43) (by decide) (by have := shF_lt hx k; omega) (fun h35 => ?_) (fun h35 => ?_)
        · skip
          refine lv_iinc (k := 2) (v := nI (k + 1)) X.1 X.2.1 jd_S_product_43 hl rfl (kn_inc _) (by decide) rfl (fun ls hl => ?_)
          have hl : lv_has ls 5 [(4, .int (nI (k + 1))), (3, .int (nI ((shF x k) * 2 ^ 1))), (2, .int (nI ((smF x y k) ^^^ (shF x k)))), (0, .int (nI x)), (1, .int (nI y))] := hl
          refine lv_goto X.1 X.2.1 jd_S_product_46 (tgt := 7) (by decide) ?_
          have hl : lv_has ls 5 [(4, .int (nI (k + 1))), (3, .int (nI (shF x (k + 1)))), (2, .int (nI (smF x y (k + 1)))), (0, .int (nI x)), (1, .int (nI y))] := by first | exact lv_sub hl [0, 1, 2, 3, 4] rfl | (simp only [shF, smF]; first | (rw [if_pos (by first | exact h35 | omega)]; rw [if_pos (by first | exact h21 | omega)]; exact lv_sub hl [0, 1, 2, 3, 4] rfl) | (rw [if_pos (by first | exact h35 | omega)]; rw [if_neg (by first | exact h21 | omega)]; exact lv_sub hl [0, 1, 2, 3, 4] rfl) | (rw [if_neg (by first | exact h35 | omega)]; rw [if_pos (by first | exact h21 | omega)]; exact lv_sub hl [0, 1, 2, 3, 4] rfl) | (rw [if_neg (by first | exact h35 | omega)]; rw [if_neg (by first | exact h21 | omega)]; exact lv_sub hl [0, 1, 2, 3, 4] rfl))
          exact ihr (k + 1) ls (by omega) hl
        · skip
          refine lv_iload_n X.1 X.2.1 jd_S_product_38 rfl (lv_at hl 0 rfl) ?_
          refine lv_ldc (v := nI 65579) X.1 X.2.1 X.2.2.2.2.2.1 (X.2.2.2.2.2.2.1 _ jm_562) jd_S_product_39 ?_
          refine kn_ixor X.1 X.2.1 jd_S_product_41 ?_
          refine lv_istore_n X.1 X.2.1 jd_S_product_42 rfl hl (by decide) rfl (fun ls hl => ?_)
          have hl : lv_has ls 5 [(3, .int (nI (((shF x k) * 2 ^ 1) ^^^ 65579))), (2, .int (nI ((smF x y k) ^^^ (shF x k)))), (4, .int (nI k)), (0, .int (nI x)), (1, .int (nI y))] := hl
          refine lv_iinc (k := 2) (v := nI (k + 1)) X.1 X.2.1 jd_S_product_43 hl rfl (kn_inc _) (by decide) rfl (fun ls hl => ?_)
          have hl : lv_has ls 5 [(4, .int (nI (k + 1))), (3, .int (nI (((shF x k) * 2 ^ 1) ^^^ 65579))), (2, .int (nI ((smF x y k) ^^^ (shF x k)))), (0, .int (nI x)), (1, .int (nI y))] := hl
          refine lv_goto X.1 X.2.1 jd_S_product_46 (tgt := 7) (by decide) ?_
          have hl : lv_has ls 5 [(4, .int (nI (k + 1))), (3, .int (nI (shF x (k + 1)))), (2, .int (nI (smF x y (k + 1)))), (0, .int (nI x)), (1, .int (nI y))] := by first | exact lv_sub hl [0, 1, 2, 3, 4] rfl | (simp only [shF, smF]; first | (rw [if_pos (by first | exact h35 | omega)]; rw [if_pos (by first | exact h21 | omega)]; exact lv_sub hl [0, 1, 2, 3, 4] rfl) | (rw [if_pos (by first | exact h35 | omega)]; rw [if_neg (by first | exact h21 | omega)]; exact lv_sub hl [0, 1, 2, 3, 4] rfl) | (rw [if_neg (by first | exact h35 | omega)]; rw [if_pos (by first | exact h21 | omega)]; exact lv_sub hl [0, 1, 2, 3, 4] rfl) | (rw [if_neg (by first | exact h35 | omega)]; rw [if_neg (by first | exact h21 | omega)]; exact lv_sub hl [0, 1, 2, 3, 4] rfl))
          exact ihr (k + 1) ls (by omega) hl
  have hl : lv_has ls 5 [(4, .int (nI 0)), (3, .int (nI (shF x 0))), (2, .int (nI (smF x y 0))), (0, .int (nI x)), (1, .int (nI y))] := lv_sub hl [0, 1, 2, 3, 4] rfl
  exact loop7 (16) 0 ls (by omega) hl

set_option maxHeartbeats 4000000 in
theorem c_S_word_1 (l : Launch) (d : Nat → Nat) (D : va_G) (a : Nat → Nat) (n : Nat → Nat → Nat) (g : Nat → Nat) (f t : Nat) (hf : f ≤ t) (ht : t ≤ f + 16) (ht2 : t ≤ 128) (h01 : ∀ i, n 6 i < 2) : jPure l d D a n g jy_S_word jb_S_word 5 (some .int) { frames := 0, cells := 0, slots := 0, locals := 0 } [.ref (a 1), .int (nI f), .int (nI t)] (some (.int (nI (wordF (n 6) f (t - f))))) := by
  refine jq_I (by decide) (Nat.le_of_ble_eq_true rfl) ?_
  intro p e s m A below meth c ls Q X hP hl hQ
  have hl : lv_has ls 5 [(0, .ref (a 1)), (1, .int (nI f)), (2, .int (nI t))] := hl
  refine lv_iconst (v := nI 0) X.1 X.2.1 jd_S_word_0 (by decide) ?_
  refine lv_istore_n X.1 X.2.1 jd_S_word_1 rfl hl (by decide) rfl (fun ls hl => ?_)
  have hl : lv_has ls 5 [(3, .int (nI 0)), (0, .ref (a 1)), (1, .int (nI f)), (2, .int (nI t))] := hl
  refine lv_iload_n X.1 X.2.1 jd_S_word_2 rfl (lv_at hl 2 rfl) ?_
  refine lv_istore X.1 X.2.1 jd_S_word_3 hl (by decide) rfl (fun ls hl => ?_)
  have hl : lv_has ls 5 [(4, .int (nI f)), (3, .int (nI 0)), (0, .ref (a 1)), (1, .int (nI f)), (2, .int (nI t))] := hl
  have loop5 : ∀ (r k : Nat) (ls : Array Slot), k + r = t - f → lv_has ls 5 [(4, .int (nI (f + k))), (3, .int (nI (wordF (n 6) f k))), (0, .ref (a 1)), (1, .int (nI f)), (2, .int (nI t))] → W p l e { frames := 0, cells := 0, slots := 0, locals := 0 } s m A below meth c s.heap [] 0 0 Q (F0 m 5 ls []) := by
    intro r
    induction r with
    | zero => 
      intro k ls hk hl
      obtain rfl : t - f = k := by omega
      refine lv_iload X.1 X.2.1 jd_S_word_5 (lv_at hl 0 rfl) ?_
      refine lv_iload_n X.1 X.2.1 jd_S_word_7 rfl (lv_at hl 4 rfl) ?_
      refine kn_cge X.1 X.2.1 jd_S_word_8 (tgt := 32) (by decide) (by omega) (fun h8 => ?_) (fun h8 => absurd h8 (by omega))
      refine lv_iload_n X.1 X.2.1 jd_S_word_32 rfl (lv_at hl 1 rfl) ?_
      exact kn_to (by first | rfl | omega | (split <;> omega)) (hQ _ _ jd_S_word_33)
    | succ r ihr => 
      intro k ls hk hl
      refine lv_iload X.1 X.2.1 jd_S_word_5 (lv_at hl 0 rfl) ?_
      refine lv_iload_n X.1 X.2.1 jd_S_word_7 rfl (lv_at hl 4 rfl) ?_
      refine kn_cge X.1 X.2.1 jd_S_word_8 (tgt := 32) (by decide) (by omega) (fun h8 => absurd h8 (by omega)) (fun h8 => ?_)
      refine lv_iload_n X.1 X.2.1 jd_S_word_11 rfl (lv_at hl 1 rfl) ?_
      refine lv_aload_n X.1 X.2.1 jd_S_word_12 rfl (lv_at hl 2 rfl) ?_
      refine jg_S_25_1 X hP jd_S_word_13 ?_
      refine lv_iload X.1 X.2.1 jd_S_word_16 (lv_at hl 0 rfl) ?_
      refine j_ald X hP 6 (f + k) (by decide) (show (f + k) < 128 from by omega) (by decide) jd_S_word_18 ?_
      refine lv_iload X.1 X.2.1 jd_S_word_19 (lv_at hl 0 rfl) ?_
      refine lv_iload_n X.1 X.2.1 jd_S_word_21 rfl (lv_at hl 3 rfl) ?_
      refine kn_isub X.1 X.2.1 jd_S_word_22 (by omega) ?_
      refine kn_to (y := k) (by omega) ?_
      refine lv_ishl X.1 X.2.1 jd_S_word_23 ?_
      refine kn_is (y := (n 6 (f + k)) * 2 ^ k) (kn_shl16 (by omega) (by have := h01 (f + k); omega)) ?_
      refine kn_ior X.1 X.2.1 jd_S_word_24 ?_
      refine lv_istore_n X.1 X.2.1 jd_S_word_25 rfl hl (by decide) rfl (fun ls hl => ?_)
      have hl : lv_has ls 5 [(3, .int (nI ((wordF (n 6) f k) ||| ((n 6 (f + k)) * 2 ^ k)))), (4, .int (nI (f + k))), (0, .ref (a 1)), (1, .int (nI f)), (2, .int (nI t))] := hl
      refine lv_iinc (k := 1) (v := nI ((f + k) + 1)) X.1 X.2.1 jd_S_word_26 hl rfl (kn_inc _) (by decide) rfl (fun ls hl => ?_)
      have hl : lv_has ls 5 [(4, .int (nI ((f + k) + 1))), (3, .int (nI ((wordF (n 6) f k) ||| ((n 6 (f + k)) * 2 ^ k)))), (0, .ref (a 1)), (1, .int (nI f)), (2, .int (nI t))] := hl
      refine lv_goto X.1 X.2.1 jd_S_word_29 (tgt := 5) (by decide) ?_
      have hl : lv_has ls 5 [(4, .int (nI (f + (k + 1)))), (3, .int (nI (wordF (n 6) f (k + 1)))), (0, .ref (a 1)), (1, .int (nI f)), (2, .int (nI t))] := lv_sub hl [0, 1, 2, 3, 4] rfl
      exact ihr (k + 1) ls (by omega) hl
  have hl : lv_has ls 5 [(4, .int (nI (f + 0))), (3, .int (nI (wordF (n 6) f 0))), (0, .ref (a 1)), (1, .int (nI f)), (2, .int (nI t))] := lv_sub hl [0, 1, 2, 3, 4] rfl
  exact loop5 (t - f) 0 ls (by omega) hl

set_option maxHeartbeats 4000000 in
theorem c_S_tagWith_1 (l : Launch) (d : Nat → Nat) (D : va_G) (a : Nat → Nat) (n : Nat → Nat → Nat) (g : Nat → Nat) (x t : Nat) (hx : x < 65536) (ht : t ≤ 128) (h01 : ∀ i, n 6 i < 2) : jPure l d D a n g jy_S_tagWith jb_S_tagWith 5 (some .int) { frames := 1, cells := 0, slots := 0, locals := 24 } [.ref (a 1), .int (nI x), .int (nI t)] (some (.int (nI (tagF (n 6) x t)))) := by
  refine jq_I (by decide) (Nat.le_of_ble_eq_true rfl) ?_
  intro p e s m A below meth c ls Q X hP hl hQ
  have hl : lv_has ls 5 [(0, .ref (a 1)), (1, .int (nI x)), (2, .int (nI t))] := hl
  refine lv_iconst (v := nI 0) X.1 X.2.1 jd_S_tagWith_0 (by decide) ?_
  refine lv_istore_n X.1 X.2.1 jd_S_tagWith_1 rfl hl (by decide) rfl (fun ls hl => ?_)
  have hl : lv_has ls 5 [(3, .int (nI 0)), (0, .ref (a 1)), (1, .int (nI x)), (2, .int (nI t))] := hl
  refine lv_iconst (v := nI 0) X.1 X.2.1 jd_S_tagWith_2 (by decide) ?_
  refine lv_istore X.1 X.2.1 jd_S_tagWith_3 hl (by decide) rfl (fun ls hl => ?_)
  have hl : lv_has ls 5 [(4, .int (nI 0)), (3, .int (nI 0)), (0, .ref (a 1)), (1, .int (nI x)), (2, .int (nI t))] := hl
  have loop5 : ∀ (r k : Nat) (ls : Array Slot), k + r = (t + 15) / 16 → lv_has ls 5 [(4, .int (nI (16 * k))), (3, .int (nI (tgF (n 6) x t k))), (0, .ref (a 1)), (1, .int (nI x)), (2, .int (nI t))] → W p l e { frames := 1, cells := 0, slots := 0, locals := 24 } s m A below meth c s.heap [] 0 0 Q (F0 m 5 ls []) := by
    intro r
    induction r with
    | zero => 
      intro k ls hk hl
      obtain rfl : (t + 15) / 16 = k := by omega
      refine lv_iload X.1 X.2.1 jd_S_tagWith_5 (lv_at hl 0 rfl) ?_
      refine lv_iload_n X.1 X.2.1 jd_S_tagWith_7 rfl (lv_at hl 4 rfl) ?_
      refine kn_cge X.1 X.2.1 jd_S_tagWith_8 (tgt := 39) (by decide) (by omega) (fun h8 => ?_) (fun h8 => absurd h8 (by omega))
      refine lv_iload_n X.1 X.2.1 jd_S_tagWith_39 rfl (lv_at hl 3 rfl) ?_
      refine lv_iload_n X.1 X.2.1 jd_S_tagWith_40 rfl (lv_at hl 1 rfl) ?_
      refine lv_iload_n X.1 X.2.1 jd_S_tagWith_41 rfl (lv_at hl 4 rfl) ?_
      refine kn_ixor X.1 X.2.1 jd_S_tagWith_42 ?_
      refine j_run (j_mkS X (c_S_product l d D a n g x ((tgF (n 6) x t ((t + 15) / 16)) ^^^ t) hx (by have h1 := tgF_lt (r := n 6) (t := t) hx ((t + 15) / 16); have h3 := kx_lt h1 (show t < 65536 by omega); omega)) jU_b (j_pp X hP) jm_560 jm_559 jm_2 jm_558 (show jOk jy_S_product 2 by unfold jOk; decide +kernel) (by decide) ⟨rfl, rfl⟩ hl.1 rfl (Nat.le_of_ble_eq_true rfl) ⟨Nat.zero_le _, Nat.zero_le _⟩ jd_S_tagWith_43) ?_
      refine W.eq (g2 := F0 m 46 ls [.int (nI (prF x ((tgF (n 6) x t ((t + 15) / 16)) ^^^ t)))]) rfl ?_
      exact kn_to (by first | rfl | omega | (split <;> omega)) (hQ _ _ jd_S_tagWith_46)
    | succ r ihr => 
      intro k ls hk hl
      refine lv_iload X.1 X.2.1 jd_S_tagWith_5 (lv_at hl 0 rfl) ?_
      refine lv_iload_n X.1 X.2.1 jd_S_tagWith_7 rfl (lv_at hl 4 rfl) ?_
      refine kn_cge X.1 X.2.1 jd_S_tagWith_8 (tgt := 39) (by decide) (by omega) (fun h8 => absurd h8 (by omega)) (fun h8 => ?_)
      refine lv_iload_n X.1 X.2.1 jd_S_tagWith_11 rfl (lv_at hl 3 rfl) ?_
      refine lv_iload_n X.1 X.2.1 jd_S_tagWith_12 rfl (lv_at hl 1 rfl) ?_
      refine lv_aload_n X.1 X.2.1 jd_S_tagWith_13 rfl (lv_at hl 2 rfl) ?_
      refine lv_iload X.1 X.2.1 jd_S_tagWith_14 (lv_at hl 0 rfl) ?_
      refine lv_iload X.1 X.2.1 jd_S_tagWith_16 (lv_at hl 0 rfl) ?_
      refine lv_bipush (v := nI 16) X.1 X.2.1 jd_S_tagWith_18 (by decide) ?_
      refine kn_iadd X.1 X.2.1 jd_S_tagWith_20 ?_
      refine lv_iload_n X.1 X.2.1 jd_S_tagWith_21 rfl (lv_at hl 4 rfl) ?_
      refine j_min X jm_553 (by omega) hl.1 ⟨by decide, Nat.le_of_ble_eq_true rfl⟩ ⟨Nat.zero_le _, Nat.zero_le _⟩ jd_S_tagWith_22 ?_
      refine j_run (j_mkV X hP (c_S_word_1 l d D a n g (16 * k) (if t < ((16 * k) + 16) then t else ((16 * k) + 16)) (by split <;> omega) (by split <;> omega) (by split <;> omega) h01) jU_b (j_pp X hP) jm_557 jm_556 js_37 jm_2 jm_554 (by decide) rfl rfl (show jOk jy_S_word 2 by unfold jOk; decide +kernel) (by decide) ⟨rfl, rfl⟩ hl.1 rfl (Nat.le_of_ble_eq_true rfl) ⟨Nat.zero_le _, Nat.zero_le _⟩ jd_S_tagWith_25) ?_
      refine W.eq (g2 := F0 m 28 ls [.int (nI (wordF (n 6) (16 * k) ((if t < ((16 * k) + 16) then t else ((16 * k) + 16)) - (16 * k)))), .int (nI (tgF (n 6) x t k)), .int (nI x)]) rfl ?_
      refine kn_ixor X.1 X.2.1 jd_S_tagWith_28 ?_
      refine j_run (j_mkS X (c_S_product l d D a n g x ((tgF (n 6) x t k) ^^^ (wordF (n 6) (16 * k) ((if t < ((16 * k) + 16) then t else ((16 * k) + 16)) - (16 * k)))) hx (by have h1 := tgF_lt (r := n 6) (t := t) hx k; have h2 := wordF_16 (r := n 6) (f := 16 * k) (k := (if t < 16 * k + 16 then t else 16 * k + 16) - 16 * k) h01 (by split <;> omega); have h3 := kx_lt h1 h2; omega)) jU_b (j_pp X hP) jm_560 jm_559 jm_2 jm_558 (show jOk jy_S_product 2 by unfold jOk; decide +kernel) (by decide) ⟨rfl, rfl⟩ hl.1 rfl (Nat.le_of_ble_eq_true rfl) ⟨Nat.zero_le _, Nat.zero_le _⟩ jd_S_tagWith_29) ?_
      refine W.eq (g2 := F0 m 32 ls [.int (nI (prF x ((tgF (n 6) x t k) ^^^ (wordF (n 6) (16 * k) ((if t < ((16 * k) + 16) then t else ((16 * k) + 16)) - (16 * k))))))]) rfl ?_
      refine lv_istore_n X.1 X.2.1 jd_S_tagWith_32 rfl hl (by decide) rfl (fun ls hl => ?_)
      have hl : lv_has ls 5 [(3, .int (nI (prF x ((tgF (n 6) x t k) ^^^ (wordF (n 6) (16 * k) ((if t < ((16 * k) + 16) then t else ((16 * k) + 16)) - (16 * k))))))), (4, .int (nI (16 * k))), (0, .ref (a 1)), (1, .int (nI x)), (2, .int (nI t))] := hl
      refine lv_iinc (k := 1) (v := nI ((16 * k) + 16)) X.1 X.2.1 jd_S_tagWith_33 hl rfl (kn_inc16 _) (by decide) rfl (fun ls hl => ?_)
      have hl : lv_has ls 5 [(4, .int (nI ((16 * k) + 16))), (3, .int (nI (prF x ((tgF (n 6) x t k) ^^^ (wordF (n 6) (16 * k) ((if t < ((16 * k) + 16) then t else ((16 * k) + 16)) - (16 * k))))))), (0, .ref (a 1)), (1, .int (nI x)), (2, .int (nI t))] := hl
      refine lv_goto X.1 X.2.1 jd_S_tagWith_36 (tgt := 5) (by decide) ?_
      have hl : lv_has ls 5 [(4, .int (nI (16 * (k + 1)))), (3, .int (nI (tgF (n 6) x t (k + 1)))), (0, .ref (a 1)), (1, .int (nI x)), (2, .int (nI t))] := lv_sub hl [0, 1, 2, 3, 4] rfl
      exact ihr (k + 1) ls (by omega) hl
  have hl : lv_has ls 5 [(4, .int (nI (16 * 0))), (3, .int (nI (tgF (n 6) x t 0))), (0, .ref (a 1)), (1, .int (nI x)), (2, .int (nI t))] := lv_sub hl [0, 1, 2, 3, 4] rfl
  exact loop5 ((t + 15) / 16) 0 ls (by omega) hl

set_option maxHeartbeats 4000000 in
theorem c_S_note_1 (l : Launch) (d : Nat → Nat) (D : va_G) (a : Nat → Nat) (n : Nat → Nat → Nat) (g : Nat → Nat) (hap : ∀ i j : Nat, i < 52 → j < 52 → a i = a j → i = j) (f k0 b v z : Nat) (hk : f + k0 ≤ 128) (hk2 : k0 ≤ 32) (hb : b < 4294967296) (hv : v < 4294967296) (hz : z < 4294967296) : jEff l d D a n g jy_S_note jb_S_note 7 none { frames := 0, cells := 0, slots := 0, locals := 0 } [.ref (a 1), .int (nI f), .int (nI k0), .int (nI b), .int (nI v), .int (nI z)] (fun v9 n2 g2 => none = v9 ∧ ku (noteF n 1 f b v z k0) 1 0 ((noteF n 1 f b v z k0) 1 0 + k0) = n2 ∧ g = g2) := by
  refine je_V (by decide) (Nat.le_of_ble_eq_true rfl) ?_
  intro p e s m A below meth c ls Q X hP hS hl hQ
  have hl : lv_has ls 7 [(0, .ref (a 1)), (1, .int (nI f)), (2, .int (nI k0)), (3, .int (nI b)), (4, .int (nI v)), (5, .int (nI z))] := hl
  refine lv_iconst (v := nI 0) X.1 X.2.1 jd_S_note_0 (by decide) ?_
  refine lv_istore X.1 X.2.1 jd_S_note_1 hl (by decide) rfl (fun ls hl => ?_)
  have hl : lv_has ls 7 [(6, .int (nI 0)), (0, .ref (a 1)), (1, .int (nI f)), (2, .int (nI k0)), (3, .int (nI b)), (4, .int (nI v)), (5, .int (nI z))] := hl
  have loop3 : ∀ (r k : Nat) (H : Heap) (locs : List Loc) (ls : Array Slot), k + r = k0 → va_P D jCl (jW d a (noteF n 1 f b v z k) g) H → va_S (jAa a s.heap.size) s.heap H locs → lv_has ls 7 [(6, .int (nI k)), (0, .ref (a 1)), (1, .int (nI f)), (2, .int (nI k0)), (3, .int (nI b)), (4, .int (nI v)), (5, .int (nI z))] → W p l e { frames := 0, cells := 0, slots := 0, locals := 0 } s m A below meth c H locs 0 0 Q (F0 m 3 ls []) := by
    intro r
    induction r with
    | zero => 
      intro k H locs ls hk hP hS hl
      obtain rfl : k0 = k := by omega
      refine lv_iload X.1 X.2.1 jd_S_note_3 (lv_at hl 0 rfl) ?_
      refine lv_iload_n X.1 X.2.1 jd_S_note_5 rfl (lv_at hl 3 rfl) ?_
      refine kn_cge X.1 X.2.1 jd_S_note_6 (tgt := 72) (by decide) (by omega) (fun h6 => ?_) (fun h6 => absurd h6 (by omega))
      refine lv_aload_n X.1 X.2.1 jd_S_note_72 rfl (lv_at hl 1 rfl) ?_
      refine lv_dup X.1 X.2.1 jd_S_note_73 rfl ?_
      refine jg_S_28_1 X hP jd_S_note_74 ?_
      refine lv_iload_n X.1 X.2.1 jd_S_note_77 rfl (lv_at hl 3 rfl) ?_
      refine kn_iadd X.1 X.2.1 jd_S_note_78 ?_
      refine jp_S_28_1 X hap hP hS jd_S_note_79 (fun H locs hP hS => ?_)
      exact hQ _ _ _ _ _ _ (⟨rfl, rfl, rfl⟩) hP hS jd_S_note_82
    | succ r ihr => 
      intro k H locs ls hk hP hS hl
      refine lv_iload X.1 X.2.1 jd_S_note_3 (lv_at hl 0 rfl) ?_
      refine lv_iload_n X.1 X.2.1 jd_S_note_5 rfl (lv_at hl 3 rfl) ?_
      refine kn_cge X.1 X.2.1 jd_S_note_6 (tgt := 72) (by decide) (by omega) (fun h6 => absurd h6 (by omega)) (fun h6 => ?_)
      refine lv_aload_n X.1 X.2.1 jd_S_note_9 rfl (lv_at hl 1 rfl) ?_
      refine jg_S_9_1 X hP jd_S_note_10 ?_
      refine lv_iload_n X.1 X.2.1 jd_S_note_13 rfl (lv_at hl 2 rfl) ?_
      refine lv_iload X.1 X.2.1 jd_S_note_14 (lv_at hl 0 rfl) ?_
      refine kn_iadd X.1 X.2.1 jd_S_note_16 ?_
      refine lv_iconst (v := nI 1) X.1 X.2.1 jd_S_note_17 (by decide) ?_
      refine j_zast X hap hP hS 2 (f + k) 1 (by decide) (show (f + k) < 128 from by omega) (by decide) (by omega) jd_S_note_18 (fun H locs hP hS => ?_)
      refine lv_aload_n X.1 X.2.1 jd_S_note_19 rfl (lv_at hl 1 rfl) ?_
      refine jg_S_15_1 X hP jd_S_note_20 ?_
      refine lv_iload_n X.1 X.2.1 jd_S_note_23 rfl (lv_at hl 2 rfl) ?_
      refine lv_iload X.1 X.2.1 jd_S_note_24 (lv_at hl 0 rfl) ?_
      refine kn_iadd X.1 X.2.1 jd_S_note_26 ?_
      refine lv_iload_n X.1 X.2.1 jd_S_note_27 rfl (lv_at hl 4 rfl) ?_
      refine lv_iload X.1 X.2.1 jd_S_note_28 (lv_at hl 0 rfl) ?_
      refine lv_iushr (v := nI (b / 2 ^ k)) X.1 X.2.1 jd_S_note_30 (kn_bit (by omega) (by omega)) ?_
      refine lv_iconst (v := nI 1) X.1 X.2.1 jd_S_note_31 (by decide) ?_
      refine kn_iand X.1 X.2.1 jd_S_note_32 ?_
      refine j_ast X hap hP hS 3 (f + k) ((b / 2 ^ k) &&& 1) (by decide) (show (f + k) < 128 from by omega) (by decide) jd_S_note_33 (fun H locs hP hS => ?_)
      refine lv_aload_n X.1 X.2.1 jd_S_note_34 rfl (lv_at hl 1 rfl) ?_
      refine jg_S_19_1 X hP jd_S_note_35 ?_
      refine lv_iload_n X.1 X.2.1 jd_S_note_38 rfl (lv_at hl 2 rfl) ?_
      refine lv_iload X.1 X.2.1 jd_S_note_39 (lv_at hl 0 rfl) ?_
      refine kn_iadd X.1 X.2.1 jd_S_note_41 ?_
      refine lv_iload X.1 X.2.1 jd_S_note_42 (lv_at hl 5 rfl) ?_
      refine lv_iload X.1 X.2.1 jd_S_note_44 (lv_at hl 0 rfl) ?_
      refine lv_iushr (v := nI (v / 2 ^ k)) X.1 X.2.1 jd_S_note_46 (kn_bit (by omega) (by omega)) ?_
      refine lv_iconst (v := nI 1) X.1 X.2.1 jd_S_note_47 (by decide) ?_
      refine kn_iand X.1 X.2.1 jd_S_note_48 ?_
      refine j_ast X hap hP hS 4 (f + k) ((v / 2 ^ k) &&& 1) (by decide) (show (f + k) < 128 from by omega) (by decide) jd_S_note_49 (fun H locs hP hS => ?_)
      refine lv_aload_n X.1 X.2.1 jd_S_note_50 rfl (lv_at hl 1 rfl) ?_
      refine jg_S_22_1 X hP jd_S_note_51 ?_
      refine lv_iload_n X.1 X.2.1 jd_S_note_54 rfl (lv_at hl 2 rfl) ?_
      refine lv_iload X.1 X.2.1 jd_S_note_55 (lv_at hl 0 rfl) ?_
      refine kn_iadd X.1 X.2.1 jd_S_note_57 ?_
      refine lv_iload X.1 X.2.1 jd_S_note_58 (lv_at hl 6 rfl) ?_
      refine lv_iload X.1 X.2.1 jd_S_note_60 (lv_at hl 0 rfl) ?_
      refine lv_iushr (v := nI (z / 2 ^ k)) X.1 X.2.1 jd_S_note_62 (kn_bit (by omega) (by omega)) ?_
      refine lv_iconst (v := nI 1) X.1 X.2.1 jd_S_note_63 (by decide) ?_
      refine kn_iand X.1 X.2.1 jd_S_note_64 ?_
      refine j_ast X hap hP hS 5 (f + k) ((z / 2 ^ k) &&& 1) (by decide) (show (f + k) < 128 from by omega) (by decide) jd_S_note_65 (fun H locs hP hS => ?_)
      refine lv_iinc (k := 0) (v := nI (k + 1)) X.1 X.2.1 jd_S_note_66 hl rfl (kn_inc _) (by decide) rfl (fun ls hl => ?_)
      have hl : lv_has ls 7 [(6, .int (nI (k + 1))), (0, .ref (a 1)), (1, .int (nI f)), (2, .int (nI k0)), (3, .int (nI b)), (4, .int (nI v)), (5, .int (nI z))] := hl
      refine lv_goto X.1 X.2.1 jd_S_note_69 (tgt := 3) (by decide) ?_
      have hl : lv_has ls 7 [(6, .int (nI (k + 1))), (0, .ref (a 1)), (1, .int (nI f)), (2, .int (nI k0)), (3, .int (nI b)), (4, .int (nI v)), (5, .int (nI z))] := lv_sub hl [0, 1, 2, 3, 4, 5, 6] rfl
      exact ihr (k + 1) H locs ls (by omega) hP hS hl
  have hl : lv_has ls 7 [(6, .int (nI 0)), (0, .ref (a 1)), (1, .int (nI f)), (2, .int (nI k0)), (3, .int (nI b)), (4, .int (nI v)), (5, .int (nI z))] := lv_sub hl [0, 1, 2, 3, 4, 5, 6] rfl
  exact loop3 (k0) 0 s.heap [] ls (by omega) hP hS hl

set_option maxHeartbeats 4000000 in
theorem c_S_leaveOut_1 (l : Launch) (d : Nat → Nat) (D : va_G) (a : Nat → Nat) (n : Nat → Nat → Nat) (g : Nat → Nat) (hap : ∀ i j : Nat, i < 52 → j < 52 → a i = a j → i = j) (t : Nat) (ht : t ≤ 128) (hb : ∀ k i, (lvP n 6 31 k).1 31 i < 4294967296) : jEff l d D a n g jy_S_leaveOut jb_S_leaveOut 5 none { frames := 0, cells := 0, slots := 0, locals := 0 } [.ref (a 1), .ref (a 31), .int (nI t)] (fun v9 n2 g2 => none = v9 ∧ (lvP n 6 31 t).1 = n2 ∧ g = g2) := by
  refine je_V (by decide) (Nat.le_of_ble_eq_true rfl) ?_
  intro p e s m A below meth c ls Q X hP hS hl hQ
  have hl : lv_has ls 5 [(0, .ref (a 1)), (1, .ref (a 31)), (2, .int (nI t))] := hl
  refine lv_iconst (v := nI 0) X.1 X.2.1 jd_S_leaveOut_0 (by decide) ?_
  refine lv_istore_n X.1 X.2.1 jd_S_leaveOut_1 rfl hl (by decide) rfl (fun ls hl => ?_)
  have hl : lv_has ls 5 [(3, .int (nI 0)), (0, .ref (a 1)), (1, .ref (a 31)), (2, .int (nI t))] := hl
  refine lv_iconst (v := nI 0) X.1 X.2.1 jd_S_leaveOut_2 (by decide) ?_
  refine lv_istore X.1 X.2.1 jd_S_leaveOut_3 hl (by decide) rfl (fun ls hl => ?_)
  have hl : lv_has ls 5 [(4, .int (nI 0)), (3, .int (nI 0)), (0, .ref (a 1)), (1, .ref (a 31)), (2, .int (nI t))] := hl
  have loop5 : ∀ (r k : Nat) (H : Heap) (locs : List Loc) (ls : Array Slot), k + r = t → va_P D jCl (jW d a ((lvP n 6 31 k).1) g) H → va_S (jAa a s.heap.size) s.heap H locs → lv_has ls 5 [(4, .int (nI k)), (3, .int (nI ((lvP n 6 31 k).2))), (0, .ref (a 1)), (1, .ref (a 31)), (2, .int (nI t))] → W p l e { frames := 0, cells := 0, slots := 0, locals := 0 } s m A below meth c H locs 0 0 Q (F0 m 5 ls []) := by
    intro r
    induction r with
    | zero => 
      intro k H locs ls hk hP hS hl
      obtain rfl : t = k := by omega
      refine lv_iload X.1 X.2.1 jd_S_leaveOut_5 (lv_at hl 0 rfl) ?_
      refine lv_iload_n X.1 X.2.1 jd_S_leaveOut_7 rfl (lv_at hl 4 rfl) ?_
      refine kn_cge X.1 X.2.1 jd_S_leaveOut_8 (tgt := 40) (by decide) (by omega) (fun h8 => ?_) (fun h8 => absurd h8 (by omega))
      exact hQ _ _ _ _ _ _ (⟨rfl, rfl, rfl⟩) hP hS jd_S_leaveOut_40
    | succ r ihr => 
      intro k H locs ls hk hP hS hl
      refine lv_iload X.1 X.2.1 jd_S_leaveOut_5 (lv_at hl 0 rfl) ?_
      refine lv_iload_n X.1 X.2.1 jd_S_leaveOut_7 rfl (lv_at hl 4 rfl) ?_
      refine kn_cge X.1 X.2.1 jd_S_leaveOut_8 (tgt := 40) (by decide) (by omega) (fun h8 => absurd h8 (by omega)) (fun h8 => ?_)
      refine lv_aload_n X.1 X.2.1 jd_S_leaveOut_11 rfl (lv_at hl 3 rfl) ?_
      refine lv_iload X.1 X.2.1 jd_S_leaveOut_12 (lv_at hl 0 rfl) ?_
      refine j_ald X hP 31 k (by decide) (show k < 128 from by omega) (by decide) jd_S_leaveOut_14 ?_
      refine kn_ne0 X.1 X.2.1 jd_S_leaveOut_15 (tgt := 34) (by decide) (hb _ _) (fun h15 => ?_) (fun h15 => ?_)
      · skip
        refine lv_iinc (k := 0) (v := nI (k + 1)) X.1 X.2.1 jd_S_leaveOut_34 hl rfl (kn_inc _) (by decide) rfl (fun ls hl => ?_)
        have hl : lv_has ls 5 [(4, .int (nI (k + 1))), (3, .int (nI ((lvP n 6 31 k).2))), (0, .ref (a 1)), (1, .ref (a 31)), (2, .int (nI t))] := hl
        refine lv_goto X.1 X.2.1 jd_S_leaveOut_37 (tgt := 5) (by decide) ?_
        have hP : va_P D jCl (jW d a ((lvP n 6 31 (k + 1)).1) g) H := by first | exact hP | (simp only [lvP]; first | (rw [if_pos (by first | exact h15 | omega)]; exact hP) | (rw [if_neg (by first | exact h15 | omega)]; exact hP))
        have hl : lv_has ls 5 [(4, .int (nI (k + 1))), (3, .int (nI ((lvP n 6 31 (k + 1)).2))), (0, .ref (a 1)), (1, .ref (a 31)), (2, .int (nI t))] := by first | exact lv_sub hl [0, 1, 2, 3, 4] rfl | (simp only [lvP]; first | (rw [if_pos (by first | exact h15 | omega)]; exact lv_sub hl [0, 1, 2, 3, 4] rfl) | (rw [if_neg (by first | exact h15 | omega)]; exact lv_sub hl [0, 1, 2, 3, 4] rfl))
        exact ihr (k + 1) H locs ls (by omega) hP hS hl
      · skip
        refine lv_aload_n X.1 X.2.1 jd_S_leaveOut_18 rfl (lv_at hl 2 rfl) ?_
        refine jg_S_25_1 X hP jd_S_leaveOut_19 ?_
        refine lv_iload_n X.1 X.2.1 jd_S_leaveOut_22 rfl (lv_at hl 1 rfl) ?_
        refine lv_aload_n X.1 X.2.1 jd_S_leaveOut_23 rfl (lv_at hl 2 rfl) ?_
        refine jg_S_25_1 X hP jd_S_leaveOut_24 ?_
        refine lv_iload X.1 X.2.1 jd_S_leaveOut_27 (lv_at hl 0 rfl) ?_
        refine j_ald X hP 6 k (by decide) (show k < 128 from by omega) (by decide) jd_S_leaveOut_29 ?_
        refine j_ast X hap hP hS 6 ((lvP n 6 31 k).2) (((lvP n 6 31 k).1) 6 k) (by decide) (show (lvP n 6 31 k).2 < 128 from by have := lvP_le n 6 31 k; omega) (by decide) jd_S_leaveOut_30 (fun H locs hP hS => ?_)
        refine lv_iinc (k := 1) (v := nI ((lvP n 6 31 k).2 + 1)) X.1 X.2.1 jd_S_leaveOut_31 hl rfl (kn_inc _) (by decide) rfl (fun ls hl => ?_)
        have hl : lv_has ls 5 [(3, .int (nI ((lvP n 6 31 k).2 + 1))), (4, .int (nI k)), (0, .ref (a 1)), (1, .ref (a 31)), (2, .int (nI t))] := hl
        refine lv_iinc (k := 1) (v := nI (k + 1)) X.1 X.2.1 jd_S_leaveOut_34 hl rfl (kn_inc _) (by decide) rfl (fun ls hl => ?_)
        have hl : lv_has ls 5 [(4, .int (nI (k + 1))), (3, .int (nI ((lvP n 6 31 k).2 + 1))), (0, .ref (a 1)), (1, .ref (a 31)), (2, .int (nI t))] := hl
        refine lv_goto X.1 X.2.1 jd_S_leaveOut_37 (tgt := 5) (by decide) ?_
        have hP : va_P D jCl (jW d a ((lvP n 6 31 (k + 1)).1) g) H := by first | exact hP | (simp only [lvP]; first | (rw [if_pos (by first | exact h15 | omega)]; exact hP) | (rw [if_neg (by first | exact h15 | omega)]; exact hP))
        have hl : lv_has ls 5 [(4, .int (nI (k + 1))), (3, .int (nI ((lvP n 6 31 (k + 1)).2))), (0, .ref (a 1)), (1, .ref (a 31)), (2, .int (nI t))] := by first | exact lv_sub hl [0, 1, 2, 3, 4] rfl | (simp only [lvP]; first | (rw [if_pos (by first | exact h15 | omega)]; exact lv_sub hl [0, 1, 2, 3, 4] rfl) | (rw [if_neg (by first | exact h15 | omega)]; exact lv_sub hl [0, 1, 2, 3, 4] rfl))
        exact ihr (k + 1) H locs ls (by omega) hP hS hl
  have hl : lv_has ls 5 [(4, .int (nI 0)), (3, .int (nI ((lvP n 6 31 0).2))), (0, .ref (a 1)), (1, .ref (a 31)), (2, .int (nI t))] := lv_sub hl [0, 1, 2, 3, 4] rfl
  exact loop5 (t) 0 s.heap [] ls (by omega) hP hS hl

set_option maxHeartbeats 4000000 in
theorem c_S_word_7 (l : Launch) (d : Nat → Nat) (D : va_G) (a : Nat → Nat) (n : Nat → Nat → Nat) (g : Nat → Nat) (f t : Nat) (hf : f ≤ t) (ht : t ≤ f + 16) (ht2 : t ≤ 128) (h01 : ∀ i, n 12 i < 2) : jPure l d D a n g jy_S_word jb_S_word 5 (some .int) { frames := 0, cells := 0, slots := 0, locals := 0 } [.ref (a 7), .int (nI f), .int (nI t)] (some (.int (nI (wordF (n 12) f (t - f))))) := by
  refine jq_I (by decide) (Nat.le_of_ble_eq_true rfl) ?_
  intro p e s m A below meth c ls Q X hP hl hQ
  have hl : lv_has ls 5 [(0, .ref (a 7)), (1, .int (nI f)), (2, .int (nI t))] := hl
  refine lv_iconst (v := nI 0) X.1 X.2.1 jd_S_word_0 (by decide) ?_
  refine lv_istore_n X.1 X.2.1 jd_S_word_1 rfl hl (by decide) rfl (fun ls hl => ?_)
  have hl : lv_has ls 5 [(3, .int (nI 0)), (0, .ref (a 7)), (1, .int (nI f)), (2, .int (nI t))] := hl
  refine lv_iload_n X.1 X.2.1 jd_S_word_2 rfl (lv_at hl 2 rfl) ?_
  refine lv_istore X.1 X.2.1 jd_S_word_3 hl (by decide) rfl (fun ls hl => ?_)
  have hl : lv_has ls 5 [(4, .int (nI f)), (3, .int (nI 0)), (0, .ref (a 7)), (1, .int (nI f)), (2, .int (nI t))] := hl
  have loop5 : ∀ (r k : Nat) (ls : Array Slot), k + r = t - f → lv_has ls 5 [(4, .int (nI (f + k))), (3, .int (nI (wordF (n 12) f k))), (0, .ref (a 7)), (1, .int (nI f)), (2, .int (nI t))] → W p l e { frames := 0, cells := 0, slots := 0, locals := 0 } s m A below meth c s.heap [] 0 0 Q (F0 m 5 ls []) := by
    intro r
    induction r with
    | zero => 
      intro k ls hk hl
      obtain rfl : t - f = k := by omega
      refine lv_iload X.1 X.2.1 jd_S_word_5 (lv_at hl 0 rfl) ?_
      refine lv_iload_n X.1 X.2.1 jd_S_word_7 rfl (lv_at hl 4 rfl) ?_
      refine kn_cge X.1 X.2.1 jd_S_word_8 (tgt := 32) (by decide) (by omega) (fun h8 => ?_) (fun h8 => absurd h8 (by omega))
      refine lv_iload_n X.1 X.2.1 jd_S_word_32 rfl (lv_at hl 1 rfl) ?_
      exact kn_to (by first | rfl | omega | (split <;> omega)) (hQ _ _ jd_S_word_33)
    | succ r ihr => 
      intro k ls hk hl
      refine lv_iload X.1 X.2.1 jd_S_word_5 (lv_at hl 0 rfl) ?_
      refine lv_iload_n X.1 X.2.1 jd_S_word_7 rfl (lv_at hl 4 rfl) ?_
      refine kn_cge X.1 X.2.1 jd_S_word_8 (tgt := 32) (by decide) (by omega) (fun h8 => absurd h8 (by omega)) (fun h8 => ?_)
      refine lv_iload_n X.1 X.2.1 jd_S_word_11 rfl (lv_at hl 1 rfl) ?_
      refine lv_aload_n X.1 X.2.1 jd_S_word_12 rfl (lv_at hl 2 rfl) ?_
      refine jg_S_25_7 X hP jd_S_word_13 ?_
      refine lv_iload X.1 X.2.1 jd_S_word_16 (lv_at hl 0 rfl) ?_
      refine j_ald X hP 12 (f + k) (by decide) (show (f + k) < 128 from by omega) (by decide) jd_S_word_18 ?_
      refine lv_iload X.1 X.2.1 jd_S_word_19 (lv_at hl 0 rfl) ?_
      refine lv_iload_n X.1 X.2.1 jd_S_word_21 rfl (lv_at hl 3 rfl) ?_
      refine kn_isub X.1 X.2.1 jd_S_word_22 (by omega) ?_
      refine kn_to (y := k) (by omega) ?_
      refine lv_ishl X.1 X.2.1 jd_S_word_23 ?_
      refine kn_is (y := (n 12 (f + k)) * 2 ^ k) (kn_shl16 (by omega) (by have := h01 (f + k); omega)) ?_
      refine kn_ior X.1 X.2.1 jd_S_word_24 ?_
      refine lv_istore_n X.1 X.2.1 jd_S_word_25 rfl hl (by decide) rfl (fun ls hl => ?_)
      have hl : lv_has ls 5 [(3, .int (nI ((wordF (n 12) f k) ||| ((n 12 (f + k)) * 2 ^ k)))), (4, .int (nI (f + k))), (0, .ref (a 7)), (1, .int (nI f)), (2, .int (nI t))] := hl
      refine lv_iinc (k := 1) (v := nI ((f + k) + 1)) X.1 X.2.1 jd_S_word_26 hl rfl (kn_inc _) (by decide) rfl (fun ls hl => ?_)
      have hl : lv_has ls 5 [(4, .int (nI ((f + k) + 1))), (3, .int (nI ((wordF (n 12) f k) ||| ((n 12 (f + k)) * 2 ^ k)))), (0, .ref (a 7)), (1, .int (nI f)), (2, .int (nI t))] := hl
      refine lv_goto X.1 X.2.1 jd_S_word_29 (tgt := 5) (by decide) ?_
      have hl : lv_has ls 5 [(4, .int (nI (f + (k + 1)))), (3, .int (nI (wordF (n 12) f (k + 1)))), (0, .ref (a 7)), (1, .int (nI f)), (2, .int (nI t))] := lv_sub hl [0, 1, 2, 3, 4] rfl
      exact ihr (k + 1) ls (by omega) hl
  have hl : lv_has ls 5 [(4, .int (nI (f + 0))), (3, .int (nI (wordF (n 12) f 0))), (0, .ref (a 7)), (1, .int (nI f)), (2, .int (nI t))] := lv_sub hl [0, 1, 2, 3, 4] rfl
  exact loop5 (t - f) 0 ls (by omega) hl

set_option maxHeartbeats 4000000 in
theorem c_S_tagWith_7 (l : Launch) (d : Nat → Nat) (D : va_G) (a : Nat → Nat) (n : Nat → Nat → Nat) (g : Nat → Nat) (x t : Nat) (hx : x < 65536) (ht : t ≤ 128) (h01 : ∀ i, n 12 i < 2) : jPure l d D a n g jy_S_tagWith jb_S_tagWith 5 (some .int) { frames := 1, cells := 0, slots := 0, locals := 24 } [.ref (a 7), .int (nI x), .int (nI t)] (some (.int (nI (tagF (n 12) x t)))) := by
  refine jq_I (by decide) (Nat.le_of_ble_eq_true rfl) ?_
  intro p e s m A below meth c ls Q X hP hl hQ
  have hl : lv_has ls 5 [(0, .ref (a 7)), (1, .int (nI x)), (2, .int (nI t))] := hl
  refine lv_iconst (v := nI 0) X.1 X.2.1 jd_S_tagWith_0 (by decide) ?_
  refine lv_istore_n X.1 X.2.1 jd_S_tagWith_1 rfl hl (by decide) rfl (fun ls hl => ?_)
  have hl : lv_has ls 5 [(3, .int (nI 0)), (0, .ref (a 7)), (1, .int (nI x)), (2, .int (nI t))] := hl
  refine lv_iconst (v := nI 0) X.1 X.2.1 jd_S_tagWith_2 (by decide) ?_
  refine lv_istore X.1 X.2.1 jd_S_tagWith_3 hl (by decide) rfl (fun ls hl => ?_)
  have hl : lv_has ls 5 [(4, .int (nI 0)), (3, .int (nI 0)), (0, .ref (a 7)), (1, .int (nI x)), (2, .int (nI t))] := hl
  have loop5 : ∀ (r k : Nat) (ls : Array Slot), k + r = (t + 15) / 16 → lv_has ls 5 [(4, .int (nI (16 * k))), (3, .int (nI (tgF (n 12) x t k))), (0, .ref (a 7)), (1, .int (nI x)), (2, .int (nI t))] → W p l e { frames := 1, cells := 0, slots := 0, locals := 24 } s m A below meth c s.heap [] 0 0 Q (F0 m 5 ls []) := by
    intro r
    induction r with
    | zero => 
      intro k ls hk hl
      obtain rfl : (t + 15) / 16 = k := by omega
      refine lv_iload X.1 X.2.1 jd_S_tagWith_5 (lv_at hl 0 rfl) ?_
      refine lv_iload_n X.1 X.2.1 jd_S_tagWith_7 rfl (lv_at hl 4 rfl) ?_
      refine kn_cge X.1 X.2.1 jd_S_tagWith_8 (tgt := 39) (by decide) (by omega) (fun h8 => ?_) (fun h8 => absurd h8 (by omega))
      refine lv_iload_n X.1 X.2.1 jd_S_tagWith_39 rfl (lv_at hl 3 rfl) ?_
      refine lv_iload_n X.1 X.2.1 jd_S_tagWith_40 rfl (lv_at hl 1 rfl) ?_
      refine lv_iload_n X.1 X.2.1 jd_S_tagWith_41 rfl (lv_at hl 4 rfl) ?_
      refine kn_ixor X.1 X.2.1 jd_S_tagWith_42 ?_
      refine j_run (j_mkS X (c_S_product l d D a n g x ((tgF (n 12) x t ((t + 15) / 16)) ^^^ t) hx (by have h1 := tgF_lt (r := n 12) (t := t) hx ((t + 15) / 16); have h3 := kx_lt h1 (show t < 65536 by omega); omega)) jU_b (j_pp X hP) jm_560 jm_559 jm_2 jm_558 (show jOk jy_S_product 2 by unfold jOk; decide +kernel) (by decide) ⟨rfl, rfl⟩ hl.1 rfl (Nat.le_of_ble_eq_true rfl) ⟨Nat.zero_le _, Nat.zero_le _⟩ jd_S_tagWith_43) ?_
      refine W.eq (g2 := F0 m 46 ls [.int (nI (prF x ((tgF (n 12) x t ((t + 15) / 16)) ^^^ t)))]) rfl ?_
      exact kn_to (by first | rfl | omega | (split <;> omega)) (hQ _ _ jd_S_tagWith_46)
    | succ r ihr => 
      intro k ls hk hl
      refine lv_iload X.1 X.2.1 jd_S_tagWith_5 (lv_at hl 0 rfl) ?_
      refine lv_iload_n X.1 X.2.1 jd_S_tagWith_7 rfl (lv_at hl 4 rfl) ?_
      refine kn_cge X.1 X.2.1 jd_S_tagWith_8 (tgt := 39) (by decide) (by omega) (fun h8 => absurd h8 (by omega)) (fun h8 => ?_)
      refine lv_iload_n X.1 X.2.1 jd_S_tagWith_11 rfl (lv_at hl 3 rfl) ?_
      refine lv_iload_n X.1 X.2.1 jd_S_tagWith_12 rfl (lv_at hl 1 rfl) ?_
      refine lv_aload_n X.1 X.2.1 jd_S_tagWith_13 rfl (lv_at hl 2 rfl) ?_
      refine lv_iload X.1 X.2.1 jd_S_tagWith_14 (lv_at hl 0 rfl) ?_
      refine lv_iload X.1 X.2.1 jd_S_tagWith_16 (lv_at hl 0 rfl) ?_
      refine lv_bipush (v := nI 16) X.1 X.2.1 jd_S_tagWith_18 (by decide) ?_
      refine kn_iadd X.1 X.2.1 jd_S_tagWith_20 ?_
      refine lv_iload_n X.1 X.2.1 jd_S_tagWith_21 rfl (lv_at hl 4 rfl) ?_
      refine j_min X jm_553 (by omega) hl.1 ⟨by decide, Nat.le_of_ble_eq_true rfl⟩ ⟨Nat.zero_le _, Nat.zero_le _⟩ jd_S_tagWith_22 ?_
      refine j_run (j_mkV X hP (c_S_word_7 l d D a n g (16 * k) (if t < ((16 * k) + 16) then t else ((16 * k) + 16)) (by split <;> omega) (by split <;> omega) (by split <;> omega) h01) jU_b (j_pp X hP) jm_557 jm_556 js_37 jm_2 jm_554 (by decide) rfl rfl (show jOk jy_S_word 2 by unfold jOk; decide +kernel) (by decide) ⟨rfl, rfl⟩ hl.1 rfl (Nat.le_of_ble_eq_true rfl) ⟨Nat.zero_le _, Nat.zero_le _⟩ jd_S_tagWith_25) ?_
      refine W.eq (g2 := F0 m 28 ls [.int (nI (wordF (n 12) (16 * k) ((if t < ((16 * k) + 16) then t else ((16 * k) + 16)) - (16 * k)))), .int (nI (tgF (n 12) x t k)), .int (nI x)]) rfl ?_
      refine kn_ixor X.1 X.2.1 jd_S_tagWith_28 ?_
      refine j_run (j_mkS X (c_S_product l d D a n g x ((tgF (n 12) x t k) ^^^ (wordF (n 12) (16 * k) ((if t < ((16 * k) + 16) then t else ((16 * k) + 16)) - (16 * k)))) hx (by have h1 := tgF_lt (r := n 12) (t := t) hx k; have h2 := wordF_16 (r := n 12) (f := 16 * k) (k := (if t < 16 * k + 16 then t else 16 * k + 16) - 16 * k) h01 (by split <;> omega); have h3 := kx_lt h1 h2; omega)) jU_b (j_pp X hP) jm_560 jm_559 jm_2 jm_558 (show jOk jy_S_product 2 by unfold jOk; decide +kernel) (by decide) ⟨rfl, rfl⟩ hl.1 rfl (Nat.le_of_ble_eq_true rfl) ⟨Nat.zero_le _, Nat.zero_le _⟩ jd_S_tagWith_29) ?_
      refine W.eq (g2 := F0 m 32 ls [.int (nI (prF x ((tgF (n 12) x t k) ^^^ (wordF (n 12) (16 * k) ((if t < ((16 * k) + 16) then t else ((16 * k) + 16)) - (16 * k))))))]) rfl ?_
      refine lv_istore_n X.1 X.2.1 jd_S_tagWith_32 rfl hl (by decide) rfl (fun ls hl => ?_)
      have hl : lv_has ls 5 [(3, .int (nI (prF x ((tgF (n 12) x t k) ^^^ (wordF (n 12) (16 * k) ((if t < ((16 * k) + 16) then t else ((16 * k) + 16)) - (16 * k))))))), (4, .int (nI (16 * k))), (0, .ref (a 7)), (1, .int (nI x)), (2, .int (nI t))] := hl
      refine lv_iinc (k := 1) (v := nI ((16 * k) + 16)) X.1 X.2.1 jd_S_tagWith_33 hl rfl (kn_inc16 _) (by decide) rfl (fun ls hl => ?_)
      have hl : lv_has ls 5 [(4, .int (nI ((16 * k) + 16))), (3, .int (nI (prF x ((tgF (n 12) x t k) ^^^ (wordF (n 12) (16 * k) ((if t < ((16 * k) + 16) then t else ((16 * k) + 16)) - (16 * k))))))), (0, .ref (a 7)), (1, .int (nI x)), (2, .int (nI t))] := hl
      refine lv_goto X.1 X.2.1 jd_S_tagWith_36 (tgt := 5) (by decide) ?_
      have hl : lv_has ls 5 [(4, .int (nI (16 * (k + 1)))), (3, .int (nI (tgF (n 12) x t (k + 1)))), (0, .ref (a 7)), (1, .int (nI x)), (2, .int (nI t))] := lv_sub hl [0, 1, 2, 3, 4] rfl
      exact ihr (k + 1) ls (by omega) hl
  have hl : lv_has ls 5 [(4, .int (nI (16 * 0))), (3, .int (nI (tgF (n 12) x t 0))), (0, .ref (a 7)), (1, .int (nI x)), (2, .int (nI t))] := lv_sub hl [0, 1, 2, 3, 4] rfl
  exact loop5 ((t + 15) / 16) 0 ls (by omega) hl

set_option maxHeartbeats 4000000 in
theorem c_S_note_7 (l : Launch) (d : Nat → Nat) (D : va_G) (a : Nat → Nat) (n : Nat → Nat → Nat) (g : Nat → Nat) (hap : ∀ i j : Nat, i < 52 → j < 52 → a i = a j → i = j) (f k0 b v z : Nat) (hk : f + k0 ≤ 128) (hk2 : k0 ≤ 32) (hb : b < 4294967296) (hv : v < 4294967296) (hz : z < 4294967296) : jEff l d D a n g jy_S_note jb_S_note 7 none { frames := 0, cells := 0, slots := 0, locals := 0 } [.ref (a 7), .int (nI f), .int (nI k0), .int (nI b), .int (nI v), .int (nI z)] (fun v9 n2 g2 => none = v9 ∧ ku (noteF n 7 f b v z k0) 7 0 ((noteF n 7 f b v z k0) 7 0 + k0) = n2 ∧ g = g2) := by
  refine je_V (by decide) (Nat.le_of_ble_eq_true rfl) ?_
  intro p e s m A below meth c ls Q X hP hS hl hQ
  have hl : lv_has ls 7 [(0, .ref (a 7)), (1, .int (nI f)), (2, .int (nI k0)), (3, .int (nI b)), (4, .int (nI v)), (5, .int (nI z))] := hl
  refine lv_iconst (v := nI 0) X.1 X.2.1 jd_S_note_0 (by decide) ?_
  refine lv_istore X.1 X.2.1 jd_S_note_1 hl (by decide) rfl (fun ls hl => ?_)
  have hl : lv_has ls 7 [(6, .int (nI 0)), (0, .ref (a 7)), (1, .int (nI f)), (2, .int (nI k0)), (3, .int (nI b)), (4, .int (nI v)), (5, .int (nI z))] := hl
  have loop3 : ∀ (r k : Nat) (H : Heap) (locs : List Loc) (ls : Array Slot), k + r = k0 → va_P D jCl (jW d a (noteF n 7 f b v z k) g) H → va_S (jAa a s.heap.size) s.heap H locs → lv_has ls 7 [(6, .int (nI k)), (0, .ref (a 7)), (1, .int (nI f)), (2, .int (nI k0)), (3, .int (nI b)), (4, .int (nI v)), (5, .int (nI z))] → W p l e { frames := 0, cells := 0, slots := 0, locals := 0 } s m A below meth c H locs 0 0 Q (F0 m 3 ls []) := by
    intro r
    induction r with
    | zero => 
      intro k H locs ls hk hP hS hl
      obtain rfl : k0 = k := by omega
      refine lv_iload X.1 X.2.1 jd_S_note_3 (lv_at hl 0 rfl) ?_
      refine lv_iload_n X.1 X.2.1 jd_S_note_5 rfl (lv_at hl 3 rfl) ?_
      refine kn_cge X.1 X.2.1 jd_S_note_6 (tgt := 72) (by decide) (by omega) (fun h6 => ?_) (fun h6 => absurd h6 (by omega))
      refine lv_aload_n X.1 X.2.1 jd_S_note_72 rfl (lv_at hl 1 rfl) ?_
      refine lv_dup X.1 X.2.1 jd_S_note_73 rfl ?_
      refine jg_S_28_7 X hP jd_S_note_74 ?_
      refine lv_iload_n X.1 X.2.1 jd_S_note_77 rfl (lv_at hl 3 rfl) ?_
      refine kn_iadd X.1 X.2.1 jd_S_note_78 ?_
      refine jp_S_28_7 X hap hP hS jd_S_note_79 (fun H locs hP hS => ?_)
      exact hQ _ _ _ _ _ _ (⟨rfl, rfl, rfl⟩) hP hS jd_S_note_82
    | succ r ihr => 
      intro k H locs ls hk hP hS hl
      refine lv_iload X.1 X.2.1 jd_S_note_3 (lv_at hl 0 rfl) ?_
      refine lv_iload_n X.1 X.2.1 jd_S_note_5 rfl (lv_at hl 3 rfl) ?_
      refine kn_cge X.1 X.2.1 jd_S_note_6 (tgt := 72) (by decide) (by omega) (fun h6 => absurd h6 (by omega)) (fun h6 => ?_)
      refine lv_aload_n X.1 X.2.1 jd_S_note_9 rfl (lv_at hl 1 rfl) ?_
      refine jg_S_9_7 X hP jd_S_note_10 ?_
      refine lv_iload_n X.1 X.2.1 jd_S_note_13 rfl (lv_at hl 2 rfl) ?_
      refine lv_iload X.1 X.2.1 jd_S_note_14 (lv_at hl 0 rfl) ?_
      refine kn_iadd X.1 X.2.1 jd_S_note_16 ?_
      refine lv_iconst (v := nI 1) X.1 X.2.1 jd_S_note_17 (by decide) ?_
      refine j_zast X hap hP hS 8 (f + k) 1 (by decide) (show (f + k) < 128 from by omega) (by decide) (by omega) jd_S_note_18 (fun H locs hP hS => ?_)
      refine lv_aload_n X.1 X.2.1 jd_S_note_19 rfl (lv_at hl 1 rfl) ?_
      refine jg_S_15_7 X hP jd_S_note_20 ?_
      refine lv_iload_n X.1 X.2.1 jd_S_note_23 rfl (lv_at hl 2 rfl) ?_
      refine lv_iload X.1 X.2.1 jd_S_note_24 (lv_at hl 0 rfl) ?_
      refine kn_iadd X.1 X.2.1 jd_S_note_26 ?_
      refine lv_iload_n X.1 X.2.1 jd_S_note_27 rfl (lv_at hl 4 rfl) ?_
      refine lv_iload X.1 X.2.1 jd_S_note_28 (lv_at hl 0 rfl) ?_
      refine lv_iushr (v := nI (b / 2 ^ k)) X.1 X.2.1 jd_S_note_30 (kn_bit (by omega) (by omega)) ?_
      refine lv_iconst (v := nI 1) X.1 X.2.1 jd_S_note_31 (by decide) ?_
      refine kn_iand X.1 X.2.1 jd_S_note_32 ?_
      refine j_ast X hap hP hS 9 (f + k) ((b / 2 ^ k) &&& 1) (by decide) (show (f + k) < 128 from by omega) (by decide) jd_S_note_33 (fun H locs hP hS => ?_)
      refine lv_aload_n X.1 X.2.1 jd_S_note_34 rfl (lv_at hl 1 rfl) ?_
      refine jg_S_19_7 X hP jd_S_note_35 ?_
      refine lv_iload_n X.1 X.2.1 jd_S_note_38 rfl (lv_at hl 2 rfl) ?_
      refine lv_iload X.1 X.2.1 jd_S_note_39 (lv_at hl 0 rfl) ?_
      refine kn_iadd X.1 X.2.1 jd_S_note_41 ?_
      refine lv_iload X.1 X.2.1 jd_S_note_42 (lv_at hl 5 rfl) ?_
      refine lv_iload X.1 X.2.1 jd_S_note_44 (lv_at hl 0 rfl) ?_
      refine lv_iushr (v := nI (v / 2 ^ k)) X.1 X.2.1 jd_S_note_46 (kn_bit (by omega) (by omega)) ?_
      refine lv_iconst (v := nI 1) X.1 X.2.1 jd_S_note_47 (by decide) ?_
      refine kn_iand X.1 X.2.1 jd_S_note_48 ?_
      refine j_ast X hap hP hS 10 (f + k) ((v / 2 ^ k) &&& 1) (by decide) (show (f + k) < 128 from by omega) (by decide) jd_S_note_49 (fun H locs hP hS => ?_)
      refine lv_aload_n X.1 X.2.1 jd_S_note_50 rfl (lv_at hl 1 rfl) ?_
      refine jg_S_22_7 X hP jd_S_note_51 ?_
      refine lv_iload_n X.1 X.2.1 jd_S_note_54 rfl (lv_at hl 2 rfl) ?_
      refine lv_iload X.1 X.2.1 jd_S_note_55 (lv_at hl 0 rfl) ?_
      refine kn_iadd X.1 X.2.1 jd_S_note_57 ?_
      refine lv_iload X.1 X.2.1 jd_S_note_58 (lv_at hl 6 rfl) ?_
      refine lv_iload X.1 X.2.1 jd_S_note_60 (lv_at hl 0 rfl) ?_
      refine lv_iushr (v := nI (z / 2 ^ k)) X.1 X.2.1 jd_S_note_62 (kn_bit (by omega) (by omega)) ?_
      refine lv_iconst (v := nI 1) X.1 X.2.1 jd_S_note_63 (by decide) ?_
      refine kn_iand X.1 X.2.1 jd_S_note_64 ?_
      refine j_ast X hap hP hS 11 (f + k) ((z / 2 ^ k) &&& 1) (by decide) (show (f + k) < 128 from by omega) (by decide) jd_S_note_65 (fun H locs hP hS => ?_)
      refine lv_iinc (k := 0) (v := nI (k + 1)) X.1 X.2.1 jd_S_note_66 hl rfl (kn_inc _) (by decide) rfl (fun ls hl => ?_)
      have hl : lv_has ls 7 [(6, .int (nI (k + 1))), (0, .ref (a 7)), (1, .int (nI f)), (2, .int (nI k0)), (3, .int (nI b)), (4, .int (nI v)), (5, .int (nI z))] := hl
      refine lv_goto X.1 X.2.1 jd_S_note_69 (tgt := 3) (by decide) ?_
      have hl : lv_has ls 7 [(6, .int (nI (k + 1))), (0, .ref (a 7)), (1, .int (nI f)), (2, .int (nI k0)), (3, .int (nI b)), (4, .int (nI v)), (5, .int (nI z))] := lv_sub hl [0, 1, 2, 3, 4, 5, 6] rfl
      exact ihr (k + 1) H locs ls (by omega) hP hS hl
  have hl : lv_has ls 7 [(6, .int (nI 0)), (0, .ref (a 7)), (1, .int (nI f)), (2, .int (nI k0)), (3, .int (nI b)), (4, .int (nI v)), (5, .int (nI z))] := lv_sub hl [0, 1, 2, 3, 4, 5, 6] rfl
  exact loop3 (k0) 0 s.heap [] ls (by omega) hP hS hl

set_option maxHeartbeats 4000000 in
theorem c_S_leaveOut_7 (l : Launch) (d : Nat → Nat) (D : va_G) (a : Nat → Nat) (n : Nat → Nat → Nat) (g : Nat → Nat) (hap : ∀ i j : Nat, i < 52 → j < 52 → a i = a j → i = j) (t : Nat) (ht : t ≤ 128) (hb : ∀ k i, (lvP n 12 31 k).1 31 i < 4294967296) : jEff l d D a n g jy_S_leaveOut jb_S_leaveOut 5 none { frames := 0, cells := 0, slots := 0, locals := 0 } [.ref (a 7), .ref (a 31), .int (nI t)] (fun v9 n2 g2 => none = v9 ∧ (lvP n 12 31 t).1 = n2 ∧ g = g2) := by
  refine je_V (by decide) (Nat.le_of_ble_eq_true rfl) ?_
  intro p e s m A below meth c ls Q X hP hS hl hQ
  have hl : lv_has ls 5 [(0, .ref (a 7)), (1, .ref (a 31)), (2, .int (nI t))] := hl
  refine lv_iconst (v := nI 0) X.1 X.2.1 jd_S_leaveOut_0 (by decide) ?_
  refine lv_istore_n X.1 X.2.1 jd_S_leaveOut_1 rfl hl (by decide) rfl (fun ls hl => ?_)
  have hl : lv_has ls 5 [(3, .int (nI 0)), (0, .ref (a 7)), (1, .ref (a 31)), (2, .int (nI t))] := hl
  refine lv_iconst (v := nI 0) X.1 X.2.1 jd_S_leaveOut_2 (by decide) ?_
  refine lv_istore X.1 X.2.1 jd_S_leaveOut_3 hl (by decide) rfl (fun ls hl => ?_)
  have hl : lv_has ls 5 [(4, .int (nI 0)), (3, .int (nI 0)), (0, .ref (a 7)), (1, .ref (a 31)), (2, .int (nI t))] := hl
  have loop5 : ∀ (r k : Nat) (H : Heap) (locs : List Loc) (ls : Array Slot), k + r = t → va_P D jCl (jW d a ((lvP n 12 31 k).1) g) H → va_S (jAa a s.heap.size) s.heap H locs → lv_has ls 5 [(4, .int (nI k)), (3, .int (nI ((lvP n 12 31 k).2))), (0, .ref (a 7)), (1, .ref (a 31)), (2, .int (nI t))] → W p l e { frames := 0, cells := 0, slots := 0, locals := 0 } s m A below meth c H locs 0 0 Q (F0 m 5 ls []) := by
    intro r
    induction r with
    | zero => 
      intro k H locs ls hk hP hS hl
      obtain rfl : t = k := by omega
      refine lv_iload X.1 X.2.1 jd_S_leaveOut_5 (lv_at hl 0 rfl) ?_
      refine lv_iload_n X.1 X.2.1 jd_S_leaveOut_7 rfl (lv_at hl 4 rfl) ?_
      refine kn_cge X.1 X.2.1 jd_S_leaveOut_8 (tgt := 40) (by decide) (by omega) (fun h8 => ?_) (fun h8 => absurd h8 (by omega))
      exact hQ _ _ _ _ _ _ (⟨rfl, rfl, rfl⟩) hP hS jd_S_leaveOut_40
    | succ r ihr => 
      intro k H locs ls hk hP hS hl
      refine lv_iload X.1 X.2.1 jd_S_leaveOut_5 (lv_at hl 0 rfl) ?_
      refine lv_iload_n X.1 X.2.1 jd_S_leaveOut_7 rfl (lv_at hl 4 rfl) ?_
      refine kn_cge X.1 X.2.1 jd_S_leaveOut_8 (tgt := 40) (by decide) (by omega) (fun h8 => absurd h8 (by omega)) (fun h8 => ?_)
      refine lv_aload_n X.1 X.2.1 jd_S_leaveOut_11 rfl (lv_at hl 3 rfl) ?_
      refine lv_iload X.1 X.2.1 jd_S_leaveOut_12 (lv_at hl 0 rfl) ?_
      refine j_ald X hP 31 k (by decide) (show k < 128 from by omega) (by decide) jd_S_leaveOut_14 ?_
      refine kn_ne0 X.1 X.2.1 jd_S_leaveOut_15 (tgt := 34) (by decide) (hb _ _) (fun h15 => ?_) (fun h15 => ?_)
      · skip
        refine lv_iinc (k := 0) (v := nI (k + 1)) X.1 X.2.1 jd_S_leaveOut_34 hl rfl (kn_inc _) (by decide) rfl (fun ls hl => ?_)
        have hl : lv_has ls 5 [(4, .int (nI (k + 1))), (3, .int (nI ((lvP n 12 31 k).2))), (0, .ref (a 7)), (1, .ref (a 31)), (2, .int (nI t))] := hl
        refine lv_goto X.1 X.2.1 jd_S_leaveOut_37 (tgt := 5) (by decide) ?_
        have hP : va_P D jCl (jW d a ((lvP n 12 31 (k + 1)).1) g) H := by first | exact hP | (simp only [lvP]; first | (rw [if_pos (by first | exact h15 | omega)]; exact hP) | (rw [if_neg (by first | exact h15 | omega)]; exact hP))
        have hl : lv_has ls 5 [(4, .int (nI (k + 1))), (3, .int (nI ((lvP n 12 31 (k + 1)).2))), (0, .ref (a 7)), (1, .ref (a 31)), (2, .int (nI t))] := by first | exact lv_sub hl [0, 1, 2, 3, 4] rfl | (simp only [lvP]; first | (rw [if_pos (by first | exact h15 | omega)]; exact lv_sub hl [0, 1, 2, 3, 4] rfl) | (rw [if_neg (by first | exact h15 | omega)]; exact lv_sub hl [0, 1, 2, 3, 4] rfl))
        exact ihr (k + 1) H locs ls (by omega) hP hS hl
      · skip
        refine lv_aload_n X.1 X.2.1 jd_S_leaveOut_18 rfl (lv_at hl 2 rfl) ?_
        refine jg_S_25_7 X hP jd_S_leaveOut_19 ?_
        refine lv_iload_n X.1 X.2.1 jd_S_leaveOut_22 rfl (lv_at hl 1 rfl) ?_
        refine lv_aload_n X.1 X.2.1 jd_S_leaveOut_23 rfl (lv_at hl 2 rfl) ?_
        refine jg_S_25_7 X hP jd_S_leaveOut_24 ?_
        refine lv_iload X.1 X.2.1 jd_S_leaveOut_27 (lv_at hl 0 rfl) ?_
        refine j_ald X hP 12 k (by decide) (show k < 128 from by omega) (by decide) jd_S_leaveOut_29 ?_
        refine j_ast X hap hP hS 12 ((lvP n 12 31 k).2) (((lvP n 12 31 k).1) 12 k) (by decide) (show (lvP n 12 31 k).2 < 128 from by have := lvP_le n 12 31 k; omega) (by decide) jd_S_leaveOut_30 (fun H locs hP hS => ?_)
        refine lv_iinc (k := 1) (v := nI ((lvP n 12 31 k).2 + 1)) X.1 X.2.1 jd_S_leaveOut_31 hl rfl (kn_inc _) (by decide) rfl (fun ls hl => ?_)
        have hl : lv_has ls 5 [(3, .int (nI ((lvP n 12 31 k).2 + 1))), (4, .int (nI k)), (0, .ref (a 7)), (1, .ref (a 31)), (2, .int (nI t))] := hl
        refine lv_iinc (k := 1) (v := nI (k + 1)) X.1 X.2.1 jd_S_leaveOut_34 hl rfl (kn_inc _) (by decide) rfl (fun ls hl => ?_)
        have hl : lv_has ls 5 [(4, .int (nI (k + 1))), (3, .int (nI ((lvP n 12 31 k).2 + 1))), (0, .ref (a 7)), (1, .ref (a 31)), (2, .int (nI t))] := hl
        refine lv_goto X.1 X.2.1 jd_S_leaveOut_37 (tgt := 5) (by decide) ?_
        have hP : va_P D jCl (jW d a ((lvP n 12 31 (k + 1)).1) g) H := by first | exact hP | (simp only [lvP]; first | (rw [if_pos (by first | exact h15 | omega)]; exact hP) | (rw [if_neg (by first | exact h15 | omega)]; exact hP))
        have hl : lv_has ls 5 [(4, .int (nI (k + 1))), (3, .int (nI ((lvP n 12 31 (k + 1)).2))), (0, .ref (a 7)), (1, .ref (a 31)), (2, .int (nI t))] := by first | exact lv_sub hl [0, 1, 2, 3, 4] rfl | (simp only [lvP]; first | (rw [if_pos (by first | exact h15 | omega)]; exact lv_sub hl [0, 1, 2, 3, 4] rfl) | (rw [if_neg (by first | exact h15 | omega)]; exact lv_sub hl [0, 1, 2, 3, 4] rfl))
        exact ihr (k + 1) H locs ls (by omega) hP hS hl
  have hl : lv_has ls 5 [(4, .int (nI 0)), (3, .int (nI ((lvP n 12 31 0).2))), (0, .ref (a 7)), (1, .ref (a 31)), (2, .int (nI t))] := lv_sub hl [0, 1, 2, 3, 4] rfl
  exact loop5 (t) 0 s.heap [] ls (by omega) hP hS hl
