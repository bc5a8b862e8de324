set_option maxHeartbeats 4000000 in
theorem c_S_parity_1 (l : Launch) (d : Nat → Nat) (D : va_G) (a : Nat → Nat) (n : Nat → Nat → Nat) (g : Nat → Nat) (q f t : Nat) (hq : q < 52) (hI : jI q = 128) (hf : f ≤ t) (ht : t ≤ 128) (hv : ∀ k, k < t → n q k < 128) : jPure l d D a n g jy_S_parity jb_S_parity 6 (some .int) { frames := 0, cells := 0, slots := 0, locals := 0 } [.ref (a 1), .ref (a q), .int (nI f), .int (nI t)] (some (.int (nI (parF (n 6) (n q) f (t - f))))) := by
  refine jq_I (by decide) (Nat.le_of_ble_eq_true rfl) ?_
  intro p e s m A below meth c ls Q X hP hl hQ
  have hl : lv_has ls 6 [(0, .ref (a 1)), (1, .ref (a q)), (2, .int (nI f)), (3, .int (nI t))] := hl
  refine lv_iconst (v := nI 0) X.1 X.2.1 jd_S_parity_0 (by decide) ?_
  refine lv_istore X.1 X.2.1 jd_S_parity_1 hl (by decide) rfl (fun ls hl => ?_)
  have hl : lv_has ls 6 [(4, .int (nI 0)), (0, .ref (a 1)), (1, .ref (a q)), (2, .int (nI f)), (3, .int (nI t))] := hl
  refine lv_iload_n X.1 X.2.1 jd_S_parity_3 rfl (lv_at hl 3 rfl) ?_
  refine lv_istore X.1 X.2.1 jd_S_parity_4 hl (by decide) rfl (fun ls hl => ?_)
  have hl : lv_has ls 6 [(5, .int (nI f)), (4, .int (nI 0)), (0, .ref (a 1)), (1, .ref (a q)), (2, .int (nI f)), (3, .int (nI t))] := hl
  have loop6 : ∀ (r k : Nat) (ls : Array Slot), k + r = t - f → lv_has ls 6 [(5, .int (nI (f + k))), (4, .int (nI (parF (n 6) (n q) f k))), (0, .ref (a 1)), (1, .ref (a q)), (2, .int (nI f)), (3, .int (nI t))] → W p l e { frames := 0, cells := 0, slots := 0, locals := 0 } s m A below meth c s.heap [] 0 0 Q (F0 m 6 ls []) := by
    intro r
    induction r with
    | zero => 
      intro k ls hk hl
      obtain rfl : t - f = k := by omega
      refine lv_iload X.1 X.2.1 jd_S_parity_6 (lv_at hl 0 rfl) ?_
      refine lv_iload_n X.1 X.2.1 jd_S_parity_8 rfl (lv_at hl 5 rfl) ?_
      refine kn_cge X.1 X.2.1 jd_S_parity_9 (tgt := 32) (by decide) (by omega) (fun h9 => ?_) (fun h9 => absurd h9 (by omega))
      refine lv_iload X.1 X.2.1 jd_S_parity_32 (lv_at hl 1 rfl) ?_
      exact kn_to (by first | rfl | omega | (split <;> omega)) (hQ _ _ jd_S_parity_34)
    | succ r ihr => 
      intro k ls hk hl
      refine lv_iload X.1 X.2.1 jd_S_parity_6 (lv_at hl 0 rfl) ?_
      refine lv_iload_n X.1 X.2.1 jd_S_parity_8 rfl (lv_at hl 5 rfl) ?_
      refine kn_cge X.1 X.2.1 jd_S_parity_9 (tgt := 32) (by decide) (by omega) (fun h9 => absurd h9 (by omega)) (fun h9 => ?_)
      refine lv_iload X.1 X.2.1 jd_S_parity_12 (lv_at hl 1 rfl) ?_
      refine lv_aload_n X.1 X.2.1 jd_S_parity_14 rfl (lv_at hl 2 rfl) ?_
      refine jg_S_25_1 X hP jd_S_parity_15 ?_
      refine lv_aload_n X.1 X.2.1 jd_S_parity_18 rfl (lv_at hl 3 rfl) ?_
      refine lv_iload X.1 X.2.1 jd_S_parity_19 (lv_at hl 0 rfl) ?_
      refine j_ald X hP q (f + k) hq (by omega) (by omega) jd_S_parity_21 ?_
      refine j_ald X hP 6 (n q (f + k)) (by decide) (show (n q (f + k)) < 128 from hv _ (by omega)) (by decide) jd_S_parity_22 ?_
      refine kn_ixor X.1 X.2.1 jd_S_parity_23 ?_
      refine lv_istore X.1 X.2.1 jd_S_parity_24 hl (by decide) rfl (fun ls hl => ?_)
      have hl : lv_has ls 6 [(4, .int (nI ((parF (n 6) (n q) f k) ^^^ (n 6 (n q (f + k)))))), (5, .int (nI (f + k))), (0, .ref (a 1)), (1, .ref (a q)), (2, .int (nI f)), (3, .int (nI t))] := hl
      refine lv_iinc (k := 1) (v := nI ((f + k) + 1)) X.1 X.2.1 jd_S_parity_26 hl rfl (kn_inc _) (by decide) rfl (fun ls hl => ?_)
      have hl : lv_has ls 6 [(5, .int (nI ((f + k) + 1))), (4, .int (nI ((parF (n 6) (n q) f k) ^^^ (n 6 (n q (f + k)))))), (0, .ref (a 1)), (1, .ref (a q)), (2, .int (nI f)), (3, .int (nI t))] := hl
      refine lv_goto X.1 X.2.1 jd_S_parity_29 (tgt := 6) (by decide) ?_
      have hl : lv_has ls 6 [(5, .int (nI (f + (k + 1)))), (4, .int (nI (parF (n 6) (n q) f (k + 1)))), (0, .ref (a 1)), (1, .ref (a q)), (2, .int (nI f)), (3, .int (nI t))] := lv_sub hl [0, 1, 2, 3, 4, 5] rfl
      exact ihr (k + 1) ls (by omega) hl
  have hl : lv_has ls 6 [(5, .int (nI (f + 0))), (4, .int (nI (parF (n 6) (n q) f 0))), (0, .ref (a 1)), (1, .ref (a q)), (2, .int (nI f)), (3, .int (nI t))] := lv_sub hl [0, 1, 2, 3, 4, 5] rfl
  exact loop6 (t - f) 0 ls (by omega) hl

set_option maxHeartbeats 4000000 in
theorem c_S_hasAnyOf_1 (l : Launch) (d : Nat → Nat) (D : va_G) (a : Nat → Nat) (n : Nat → Nat → Nat) (g : Nat → Nat) (f k0 : Nat) (hk : f + k0 ≤ 128) (hb : ∀ i, n 2 i < 4294967296) : jPure l d D a n g jy_S_hasAnyOf jb_S_hasAnyOf 4 (some .boolean) { frames := 0, cells := 0, slots := 0, locals := 0 } [.ref (a 1), .int (nI f), .int (nI k0)] (some (.int (nI (anyF (n 2) f k0)))) := by
  refine jq_Z (anyF_lt _ _ _) (by decide) (Nat.le_of_ble_eq_true rfl) ?_
  intro p e s m A below meth c ls Q X hP hl hQ
  have hl : lv_has ls 4 [(0, .ref (a 1)), (1, .int (nI f)), (2, .int (nI k0))] := hl
  refine lv_iconst (v := nI 0) X.1 X.2.1 jd_S_hasAnyOf_0 (by decide) ?_
  refine lv_istore_n X.1 X.2.1 jd_S_hasAnyOf_1 rfl hl (by decide) rfl (fun ls hl => ?_)
  have hl : lv_has ls 4 [(3, .int (nI 0)), (0, .ref (a 1)), (1, .int (nI f)), (2, .int (nI k0))] := hl
  have loop2 : ∀ (r k : Nat) (ls : Array Slot), k + r = k0 → anyF (n 2) f k = 0 → lv_has ls 4 [(3, .int (nI k)), (0, .ref (a 1)), (1, .int (nI f)), (2, .int (nI k0))] → W p l e { frames := 0, cells := 0, slots := 0, locals := 0 } s m A below meth c s.heap [] 0 0 Q (F0 m 2 ls []) := by
    intro r
    induction r with
    | zero => 
      intro k ls hk hn hl
      obtain rfl : k0 = k := by omega
      refine lv_iload_n X.1 X.2.1 jd_S_hasAnyOf_2 rfl (lv_at hl 0 rfl) ?_
      refine lv_iload_n X.1 X.2.1 jd_S_hasAnyOf_3 rfl (lv_at hl 3 rfl) ?_
      refine kn_cge X.1 X.2.1 jd_S_hasAnyOf_4 (tgt := 26) (by decide) (by omega) (fun h4 => ?_) (fun h4 => absurd h4 (by omega))
      refine lv_iconst (v := nI 0) X.1 X.2.1 jd_S_hasAnyOf_26 (by decide) ?_
      exact kn_to (hn.symm) (hQ _ _ jd_S_hasAnyOf_27)
    | succ r ihr => 
      intro k ls hk hn hl
      refine lv_iload_n X.1 X.2.1 jd_S_hasAnyOf_2 rfl (lv_at hl 0 rfl) ?_
      refine lv_iload_n X.1 X.2.1 jd_S_hasAnyOf_3 rfl (lv_at hl 3 rfl) ?_
      refine kn_cge X.1 X.2.1 jd_S_hasAnyOf_4 (tgt := 26) (by decide) (by omega) (fun h4 => absurd h4 (by omega)) (fun h4 => ?_)
      refine lv_aload_n X.1 X.2.1 jd_S_hasAnyOf_7 rfl (lv_at hl 1 rfl) ?_
      refine jg_S_9_1 X hP jd_S_hasAnyOf_8 ?_
      refine lv_iload_n X.1 X.2.1 jd_S_hasAnyOf_11 rfl (lv_at hl 2 rfl) ?_
      refine lv_iload_n X.1 X.2.1 jd_S_hasAnyOf_12 rfl (lv_at hl 0 rfl) ?_
      refine kn_iadd X.1 X.2.1 jd_S_hasAnyOf_13 ?_
      refine j_zald X hP 2 (f + k) (by decide) (show (f + k) < 128 from by omega) (by decide) jd_S_hasAnyOf_14 ?_
      refine kn_eq0 X.1 X.2.1 jd_S_hasAnyOf_15 (tgt := 20) (by decide) (hb _) (fun h15 => ?_) (fun h15 => ?_)
      · skip
        refine lv_iinc (k := 0) (v := nI (k + 1)) X.1 X.2.1 jd_S_hasAnyOf_20 hl rfl (kn_inc _) (by decide) rfl (fun ls hl => ?_)
        have hl : lv_has ls 4 [(3, .int (nI (k + 1))), (0, .ref (a 1)), (1, .int (nI f)), (2, .int (nI k0))] := hl
        refine lv_goto X.1 X.2.1 jd_S_hasAnyOf_23 (tgt := 2) (by decide) ?_
        have hl : lv_has ls 4 [(3, .int (nI (k + 1))), (0, .ref (a 1)), (1, .int (nI f)), (2, .int (nI k0))] := lv_sub hl [0, 1, 2, 3] rfl
        exact ihr (k + 1) ls (by omega) (anyF_step _ _ _ hn h15) hl
      · skip
        refine lv_iconst (v := nI 1) X.1 X.2.1 jd_S_hasAnyOf_18 (by decide) ?_
        exact kn_to (anyF_hit _ _ _ _ (by omega) hn h15) (hQ _ _ jd_S_hasAnyOf_19)
  have hl : lv_has ls 4 [(3, .int (nI 0)), (0, .ref (a 1)), (1, .int (nI f)), (2, .int (nI k0))] := lv_sub hl [0, 1, 2, 3] rfl
  exact loop2 (k0) 0 ls (by omega) (rfl) hl

set_option maxHeartbeats 4000000 in
theorem c_S_parity_7 (l : Launch) (d : Nat → Nat) (D : va_G) (a : Nat → Nat) (n : Nat → Nat → Nat) (g : Nat → Nat) (q f t : Nat) (hq : q < 52) (hI : jI q = 128) (hf : f ≤ t) (ht : t ≤ 128) (hv : ∀ k, k < t → n q k < 128) : jPure l d D a n g jy_S_parity jb_S_parity 6 (some .int) { frames := 0, cells := 0, slots := 0, locals := 0 } [.ref (a 7), .ref (a q), .int (nI f), .int (nI t)] (some (.int (nI (parF (n 12) (n q) f (t - f))))) := by
  refine jq_I (by decide) (Nat.le_of_ble_eq_true rfl) ?_
  intro p e s m A below meth c ls Q X hP hl hQ
  have hl : lv_has ls 6 [(0, .ref (a 7)), (1, .ref (a q)), (2, .int (nI f)), (3, .int (nI t))] := hl
  refine lv_iconst (v := nI 0) X.1 X.2.1 jd_S_parity_0 (by decide) ?_
  refine lv_istore X.1 X.2.1 jd_S_parity_1 hl (by decide) rfl (fun ls hl => ?_)
  have hl : lv_has ls 6 [(4, .int (nI 0)), (0, .ref (a 7)), (1, .ref (a q)), (2, .int (nI f)), (3, .int (nI t))] := hl
  refine lv_iload_n X.1 X.2.1 jd_S_parity_3 rfl (lv_at hl 3 rfl) ?_
  refine lv_istore X.1 X.2.1 jd_S_parity_4 hl (by decide) rfl (fun ls hl => ?_)
  have hl : lv_has ls 6 [(5, .int (nI f)), (4, .int (nI 0)), (0, .ref (a 7)), (1, .ref (a q)), (2, .int (nI f)), (3, .int (nI t))] := hl
  have loop6 : ∀ (r k : Nat) (ls : Array Slot), k + r = t - f → lv_has ls 6 [(5, .int (nI (f + k))), (4, .int (nI (parF (n 12) (n q) f k))), (0, .ref (a 7)), (1, .ref (a q)), (2, .int (nI f)), (3, .int (nI t))] → W p l e { frames := 0, cells := 0, slots := 0, locals := 0 } s m A below meth c s.heap [] 0 0 Q (F0 m 6 ls []) := by
    intro r
    induction r with
    | zero => 
      intro k ls hk hl
      obtain rfl : t - f = k := by omega
      refine lv_iload X.1 X.2.1 jd_S_parity_6 (lv_at hl 0 rfl) ?_
      refine lv_iload_n X.1 X.2.1 jd_S_parity_8 rfl (lv_at hl 5 rfl) ?_
      refine kn_cge X.1 X.2.1 jd_S_parity_9 (tgt := 32) (by decide) (by omega) (fun h9 => ?_) (fun h9 => absurd h9 (by omega))
      refine lv_iload X.1 X.2.1 jd_S_parity_32 (lv_at hl 1 rfl) ?_
      exact kn_to (by first | rfl | omega | (split <;> omega)) (hQ _ _ jd_S_parity_34)
    | succ r ihr => 
      intro k ls hk hl
      refine lv_iload X.1 X.2.1 jd_S_parity_6 (lv_at hl 0 rfl) ?_
      refine lv_iload_n X.1 X.2.1 jd_S_parity_8 rfl (lv_at hl 5 rfl) ?_
      refine kn_cge X.1 X.2.1 jd_S_parity_9 (tgt := 32) (by decide) (by omega) (fun h9 => absurd h9 (by omega)) (fun h9 => ?_)
      refine lv_iload X.1 X.2.1 jd_S_parity_12 (lv_at hl 1 rfl) ?_
      refine lv_aload_n X.1 X.2.1 jd_S_parity_14 rfl (lv_at hl 2 rfl) ?_
      refine jg_S_25_7 X hP jd_S_parity_15 ?_
      refine lv_aload_n X.1 X.2.1 jd_S_parity_18 rfl (lv_at hl 3 rfl) ?_
      refine lv_iload X.1 X.2.1 jd_S_parity_19 (lv_at hl 0 rfl) ?_
      refine j_ald X hP q (f + k) hq (by omega) (by omega) jd_S_parity_21 ?_
      refine j_ald X hP 12 (n q (f + k)) (by decide) (show (n q (f + k)) < 128 from hv _ (by omega)) (by decide) jd_S_parity_22 ?_
      refine kn_ixor X.1 X.2.1 jd_S_parity_23 ?_
      refine lv_istore X.1 X.2.1 jd_S_parity_24 hl (by decide) rfl (fun ls hl => ?_)
      have hl : lv_has ls 6 [(4, .int (nI ((parF (n 12) (n q) f k) ^^^ (n 12 (n q (f + k)))))), (5, .int (nI (f + k))), (0, .ref (a 7)), (1, .ref (a q)), (2, .int (nI f)), (3, .int (nI t))] := hl
      refine lv_iinc (k := 1) (v := nI ((f + k) + 1)) X.1 X.2.1 jd_S_parity_26 hl rfl (kn_inc _) (by decide) rfl (fun ls hl => ?_)
      have hl : lv_has ls 6 [(5, .int (nI ((f + k) + 1))), (4, .int (nI ((parF (n 12) (n q) f k) ^^^ (n 12 (n q (f + k)))))), (0, .ref (a 7)), (1, .ref (a q)), (2, .int (nI f)), (3, .int (nI t))] := hl
      refine lv_goto X.1 X.2.1 jd_S_parity_29 (tgt := 6) (by decide) ?_
      have hl : lv_has ls 6 [(5, .int (nI (f + (k + 1)))), (4, .int (nI (parF (n 12) (n q) f (k + 1)))), (0, .ref (a 7)), (1, .ref (a q)), (2, .int (nI f)), (3, .int (nI t))] := lv_sub hl [0, 1, 2, 3, 4, 5] rfl
      exact ihr (k + 1) ls (by omega) hl
  have hl : lv_has ls 6 [(5, .int (nI (f + 0))), (4, .int (nI (parF (n 12) (n q) f 0))), (0, .ref (a 7)), (1, .ref (a q)), (2, .int (nI f)), (3, .int (nI t))] := lv_sub hl [0, 1, 2, 3, 4, 5] rfl
  exact loop6 (t - f) 0 ls (by omega) hl

set_option maxHeartbeats 4000000 in
theorem c_S_hasAnyOf_7 (l : Launch) (d : Nat → Nat) (D : va_G) (a : Nat → Nat) (n : Nat → Nat → Nat) (g : Nat → Nat) (f k0 : Nat) (hk : f + k0 ≤ 128) (hb : ∀ i, n 8 i < 4294967296) : jPure l d D a n g jy_S_hasAnyOf jb_S_hasAnyOf 4 (some .boolean) { frames := 0, cells := 0, slots := 0, locals := 0 } [.ref (a 7), .int (nI f), .int (nI k0)] (some (.int (nI (anyF (n 8) f k0)))) := by
  refine jq_Z (anyF_lt _ _ _) (by decide) (Nat.le_of_ble_eq_true rfl) ?_
  intro p e s m A below meth c ls Q X hP hl hQ
  have hl : lv_has ls 4 [(0, .ref (a 7)), (1, .int (nI f)), (2, .int (nI k0))] := hl
  refine lv_iconst (v := nI 0) X.1 X.2.1 jd_S_hasAnyOf_0 (by decide) ?_
  refine lv_istore_n X.1 X.2.1 jd_S_hasAnyOf_1 rfl hl (by decide) rfl (fun ls hl => ?_)
  have hl : lv_has ls 4 [(3, .int (nI 0)), (0, .ref (a 7)), (1, .int (nI f)), (2, .int (nI k0))] := hl
  have loop2 : ∀ (r k : Nat) (ls : Array Slot), k + r = k0 → anyF (n 8) f k = 0 → lv_has ls 4 [(3, .int (nI k)), (0, .ref (a 7)), (1, .int (nI f)), (2, .int (nI k0))] → W p l e { frames := 0, cells := 0, slots := 0, locals := 0 } s m A below meth c s.heap [] 0 0 Q (F0 m 2 ls []) := by
    intro r
    induction r with
    | zero => 
      intro k ls hk hn hl
      obtain rfl : k0 = k := by omega
      refine lv_iload_n X.1 X.2.1 jd_S_hasAnyOf_2 rfl (lv_at hl 0 rfl) ?_
      refine lv_iload_n X.1 X.2.1 jd_S_hasAnyOf_3 rfl (lv_at hl 3 rfl) ?_
      refine kn_cge X.1 X.2.1 jd_S_hasAnyOf_4 (tgt := 26) (by decide) (by omega) (fun h4 => ?_) (fun h4 => absurd h4 (by omega))
      refine lv_iconst (v := nI 0) X.1 X.2.1 jd_S_hasAnyOf_26 (by decide) ?_
      exact kn_to (hn.symm) (hQ _ _ jd_S_hasAnyOf_27)
    | succ r ihr => 
      intro k ls hk hn hl
      refine lv_iload_n X.1 X.2.1 jd_S_hasAnyOf_2 rfl (lv_at hl 0 rfl) ?_
      refine lv_iload_n X.1 X.2.1 jd_S_hasAnyOf_3 rfl (lv_at hl 3 rfl) ?_
      refine kn_cge X.1 X.2.1 jd_S_hasAnyOf_4 (tgt := 26) (by decide) (by omega) (fun h4 => absurd h4 (by omega)) (fun h4 => ?_)
      refine lv_aload_n X.1 X.2.1 jd_S_hasAnyOf_7 rfl (lv_at hl 1 rfl) ?_
      refine jg_S_9_7 X hP jd_S_hasAnyOf_8 ?_
      refine lv_iload_n X.1 X.2.1 jd_S_hasAnyOf_11 rfl (lv_at hl 2 rfl) ?_
      refine lv_iload_n X.1 X.2.1 jd_S_hasAnyOf_12 rfl (lv_at hl 0 rfl) ?_
      refine kn_iadd X.1 X.2.1 jd_S_hasAnyOf_13 ?_
      refine j_zald X hP 8 (f + k) (by decide) (show (f + k) < 128 from by omega) (by decide) jd_S_hasAnyOf_14 ?_
      refine kn_eq0 X.1 X.2.1 jd_S_hasAnyOf_15 (tgt := 20) (by decide) (hb _) (fun h15 => ?_) (fun h15 => ?_)
      · skip
        refine lv_iinc (k := 0) (v := nI (k + 1)) X.1 X.2.1 jd_S_hasAnyOf_20 hl rfl (kn_inc _) (by decide) rfl (fun ls hl => ?_)
        have hl : lv_has ls 4 [(3, .int (nI (k + 1))), (0, .ref (a 7)), (1, .int (nI f)), (2, .int (nI k0))] := hl
        refine lv_goto X.1 X.2.1 jd_S_hasAnyOf_23 (tgt := 2) (by decide) ?_
        have hl : lv_has ls 4 [(3, .int (nI (k + 1))), (0, .ref (a 7)), (1, .int (nI f)), (2, .int (nI k0))] := lv_sub hl [0, 1, 2, 3] rfl
        exact ihr (k + 1) ls (by omega) (anyF_step _ _ _ hn h15) hl
      · skip
        refine lv_iconst (v := nI 1) X.1 X.2.1 jd_S_hasAnyOf_18 (by decide) ?_
        exact kn_to (anyF_hit _ _ _ _ (by omega) hn h15) (hQ _ _ jd_S_hasAnyOf_19)
  have hl : lv_has ls 4 [(3, .int (nI 0)), (0, .ref (a 7)), (1, .int (nI f)), (2, .int (nI k0))] := lv_sub hl [0, 1, 2, 3] rfl
  exact loop2 (k0) 0 ls (by omega) (rfl) hl
