set_option maxHeartbeats 4000000 in
theorem c_D_mendOrMoveOn (l : Launch) (d : Nat → Nat) (D : va_G) (a : Nat → Nat) (n : Nat → Nat → Nat) (g : Nat → Nat) (hap : ∀ i j : Nat, i < 52 → j < 52 → a i = a j → i = j) (hD : DI n) (h4 : n 14 3 < 4) : jEff l d D a n g jy_D_mendOrMoveOn jb_D_mendOrMoveOn 2 (some .boolean) { frames := 3, cells := 0, slots := 0, locals := 76 } [.ref (a 14)] (fun v9 n2 g2 => some (.int (nI (mmF n).2)) = v9 ∧ (mmF n).1 = n2 ∧ g = g2) := by
  obtain ⟨⟨hz, hz2, ht, ht2⟩, hkn, ho, h01, h512, hc, h44⟩ := hD
  have hs := so_in (n := n) (by omega) ht2 (n 14 3 + 1) (by omega)
  refine je_Z (by decide) (Nat.le_of_ble_eq_true rfl) ?_
  intro p e s m A below meth c ls Q X hP hS hl hQ
  have hl : lv_has ls 2 [(0, .ref (a 14))] := hl
  refine lv_aload_n X.1 X.2.1 jd_D_mendOrMoveOn_0 rfl (lv_at hl 0 rfl) ?_
  refine j_run (j_mkV X hP (c_D_smallestOddBlock l d D a n g (n 14 3) rfl h4 hz hz2 ht ht2 hkn ho h01) jU_b (j_pp X hP) jm_448 jm_447 js_27 jm_4 jm_445 (by decide) rfl rfl (show jOk jy_D_smallestOddBlock 0 by unfold jOk; decide +kernel) (by decide) ⟨rfl, rfl⟩ hl.1 rfl (Nat.le_of_ble_eq_true rfl) ⟨Nat.zero_le _, Nat.zero_le _⟩ jd_D_mendOrMoveOn_1) ?_
  refine W.eq (g2 := F0 m 4 ls [.int (nI ((soF n (n 14 3 + 1)).1))]) rfl ?_
  refine lv_istore_n X.1 X.2.1 jd_D_mendOrMoveOn_4 rfl hl (by decide) rfl (fun ls hl => ?_)
  have hl : lv_has ls 2 [(1, .int (nI ((soF n (n 14 3 + 1)).1))), (0, .ref (a 14))] := hl
  refine lv_iload_n X.1 X.2.1 jd_D_mendOrMoveOn_5 rfl (lv_at hl 0 rfl) ?_
  refine lv_iconst (v := nI 4294967295) X.1 X.2.1 jd_D_mendOrMoveOn_6 (by decide) ?_
  refine kn_cne X.1 X.2.1 jd_D_mendOrMoveOn_7 (tgt := 22) (by decide) (by omega) (fun h7 => ?_) (fun h7 => ?_)
  · skip
    refine lv_aload_n X.1 X.2.1 jd_D_mendOrMoveOn_22 rfl (lv_at hl 1 rfl) ?_
    refine lv_iload_n X.1 X.2.1 jd_D_mendOrMoveOn_23 rfl (lv_at hl 0 rfl) ?_
    refine lv_sipush (v := nI 128) X.1 X.2.1 jd_D_mendOrMoveOn_24 (by decide) ?_
    refine kn_idiv X.1 X.2.1 jd_D_mendOrMoveOn_27 (by omega) ?_
    refine lv_iload_n X.1 X.2.1 jd_D_mendOrMoveOn_28 rfl (lv_at hl 0 rfl) ?_
    refine lv_sipush (v := nI 128) X.1 X.2.1 jd_D_mendOrMoveOn_29 (by decide) ?_
    refine kn_irem X.1 X.2.1 jd_D_mendOrMoveOn_32 (by omega) ?_
    refine j_rune (j_mkV X hP (c_D_search l d D a n g hap ((soF n (n 14 3 + 1)).1 / 128) ((soF n (n 14 3 + 1)).1 % 128) (by omega) (by omega) hz hz2 ht ht2 hkn ho h01 h512 hc _) jU_bs (j_pe X hP) jm_460 jm_459 js_30 jm_4 jm_457 (by decide) rfl rfl (show jOk jy_D_search 2 by unfold jOk; decide +kernel) (by decide) ⟨rfl, rfl⟩ hl.1 rfl (Nat.le_of_ble_eq_true rfl) ⟨Nat.zero_le _, Nat.zero_le _⟩ jd_D_mendOrMoveOn_33) hS (fun v33 n33 g33 H locs h33 hP hS => ?_)
    obtain ⟨rfl, rfl, rfl⟩ := h33
    refine W.eq (g2 := F0 m 36 ls [.int (nI ((srF n ((soF n (n 14 3 + 1)).1 / 128) ((soF n (n 14 3 + 1)).1 % 128)).2))]) rfl ?_
    exact hQ _ _ _ _ _ _ _ (sr_two _ _ _) (by unfold mmF; rw [if_neg h7]; exact ⟨rfl, rfl, rfl⟩) hP hS jd_D_mendOrMoveOn_36
  · skip
    refine lv_aload_n X.1 X.2.1 jd_D_mendOrMoveOn_10 rfl (lv_at hl 1 rfl) ?_
    refine lv_dup X.1 X.2.1 jd_D_mendOrMoveOn_11 rfl ?_
    refine jg_D_30_14 X hP jd_D_mendOrMoveOn_12 ?_
    refine lv_iconst (v := nI 1) X.1 X.2.1 jd_D_mendOrMoveOn_15 (by decide) ?_
    refine kn_iadd X.1 X.2.1 jd_D_mendOrMoveOn_16 ?_
    refine jp_D_30_14 X hap hP hS jd_D_mendOrMoveOn_17 (fun H locs hP hS => ?_)
    refine lv_iconst (v := nI 0) X.1 X.2.1 jd_D_mendOrMoveOn_20 (by decide) ?_
    exact hQ _ _ _ _ _ _ _ (by decide) (by unfold mmF; rw [if_pos h7]; exact ⟨rfl, rfl, rfl⟩) hP hS jd_D_mendOrMoveOn_21

set_option maxHeartbeats 4000000 in
theorem c_D_goOn (l : Launch) (d : Nat → Nat) (D : va_G) (a : Nat → Nat) (n : Nat → Nat → Nat) (g : Nat → Nat) (hap : ∀ i j : Nat, i < 52 → j < 52 → a i = a j → i = j) (hD : DI n) : jEff l d D a n g jy_D_goOn jb_D_goOn 3 none { frames := 4, cells := 0, slots := 0, locals := 97 } [.ref (a 14)] (fun v9 n2 g2 => none = v9 ∧ (goF n 256).1 = n2 ∧ g = g2) := by
  refine je_V (by decide) (Nat.le_of_ble_eq_true rfl) ?_
  intro p e s m A below meth c ls Q X hP hS hl hQ
  have hl : lv_has ls 3 [(0, .ref (a 14))] := hl
  refine lv_iconst (v := nI 0) X.1 X.2.1 jd_D_goOn_0 (by decide) ?_
  refine lv_istore_n X.1 X.2.1 jd_D_goOn_1 rfl hl (by decide) rfl (fun ls hl => ?_)
  have hl : lv_has ls 3 [(1, .int (nI 0)), (0, .ref (a 14))] := hl
  refine lv_iconst (v := nI 0) X.1 X.2.1 jd_D_goOn_2 (by decide) ?_
  refine lv_istore_n X.1 X.2.1 jd_D_goOn_3 rfl hl (by decide) rfl (fun ls hl => ?_)
  have hl : lv_has ls 3 [(2, .int (nI 0)), (1, .int (nI 0)), (0, .ref (a 14))] := hl
  have loop4 : ∀ (r k : Nat) (H : Heap) (locs : List Loc) (ls : Array Slot), k + r = 256 → (goF n k).2 < 2 ∧ ((goF n k).2 = 0 → DI (goF n k).1) → va_P D jCl (jW d a ((goF n k).1) g) H → va_S (jAa a s.heap.size) s.heap H locs → lv_has ls 3 [(2, .int (nI k)), (1, .int (nI ((goF n k).2))), (0, .ref (a 14))] → W p l e { frames := 4, cells := 0, slots := 0, locals := 97 } s m A below meth c H locs 0 0 Q (F0 m 4 ls []) := by
    intro r
    induction r with
    | zero => 
      intro k H locs ls hk hJ9 hP hS hl
      obtain rfl : 256 = k := by omega
      refine lv_iload_n X.1 X.2.1 jd_D_goOn_4 rfl (lv_at hl 0 rfl) ?_
      refine lv_sipush (v := nI 256) X.1 X.2.1 jd_D_goOn_5 (by decide) ?_
      refine kn_cge X.1 X.2.1 jd_D_goOn_8 (tgt := 48) (by decide) (by omega) (fun h8 => ?_) (fun h8 => absurd h8 (by omega))
      exact hQ _ _ _ _ _ _ (by first | (rw [go_256 (k := k) (by omega) (Or.inl h12)]; exact ⟨rfl, rfl, rfl⟩) | (rw [go_256 (k := k) (by omega) (Or.inr (by rcases hov with q | q; exact q; rw [if_neg q] at h19; omega))]; exact ⟨rfl, rfl, rfl⟩) | exact ⟨rfl, rfl, rfl⟩) hP hS jd_D_goOn_48
    | succ r ihr => 
      intro k H locs ls hk hJ9 hP hS hl
      refine lv_iload_n X.1 X.2.1 jd_D_goOn_4 rfl (lv_at hl 0 rfl) ?_
      refine lv_sipush (v := nI 256) X.1 X.2.1 jd_D_goOn_5 (by decide) ?_
      refine kn_cge X.1 X.2.1 jd_D_goOn_8 (tgt := 48) (by decide) (by omega) (fun h8 => absurd h8 (by omega)) (fun h8 => ?_)
      have hJ := hJ9.2
      have hJ0 := hJ9.1
      refine lv_iload_n X.1 X.2.1 jd_D_goOn_11 rfl (lv_at hl 1 rfl) ?_
      refine kn_ne0 X.1 X.2.1 jd_D_goOn_12 (tgt := 48) (by decide) (by omega) (fun h12 => ?_) (fun h12 => ?_)
      · skip
        exact hQ _ _ _ _ _ _ (by first | (rw [go_256 (k := k) (by omega) (Or.inl h12)]; exact ⟨rfl, rfl, rfl⟩) | (rw [go_256 (k := k) (by omega) (Or.inr (by rcases hov with q | q; exact q; rw [if_neg q] at h19; omega))]; exact ⟨rfl, rfl, rfl⟩) | exact ⟨rfl, rfl, rfl⟩) hP hS jd_D_goOn_48
      · skip
        have hov : ((goF n k).1 14 3) = 4 ∨ ¬ ((goF n k).1 14 3) = 4 := Decidable.em _
        have h34 := (hJ (by omega)).2.2.2.2.2.2
        refine lv_aload_n X.1 X.2.1 jd_D_goOn_15 rfl (lv_at hl 2 rfl) ?_
        refine j_run (j_mkV X hP (c_D_isOver l d D a (goF n k).1 g (by have := (hJ (by omega)).2.2.2.2.2.2; omega)) jU_b (j_pp X hP) jm_217 jm_216 js_5 jm_4 jm_413 (by decide) rfl rfl (show jOk jy_D_isOver 0 by unfold jOk; decide +kernel) (by decide) ⟨rfl, rfl⟩ hl.1 rfl (Nat.le_of_ble_eq_true rfl) ⟨Nat.zero_le _, Nat.zero_le _⟩ jd_D_goOn_16) ?_
        refine W.eq (g2 := F0 m 19 ls [.int (nI (if ((goF n k).1 14 3) = 4 then 1 else 0))]) rfl ?_
        refine kn_ne0 X.1 X.2.1 jd_D_goOn_19 (tgt := 48) (by decide) (by split <;> omega) (fun h19 => ?_) (fun h19 => ?_)
        · skip
          exact hQ _ _ _ _ _ _ (by first | (rw [go_256 (k := k) (by omega) (Or.inl h12)]; exact ⟨rfl, rfl, rfl⟩) | (rw [go_256 (k := k) (by omega) (Or.inr (by rcases hov with q | q; exact q; rw [if_neg q] at h19; omega))]; exact ⟨rfl, rfl, rfl⟩) | exact ⟨rfl, rfl, rfl⟩) hP hS jd_D_goOn_48
        · skip
          have h4 : ¬ ((goF n k).1 14 3) = 4 := fun q => by rw [if_pos q] at h19; omega
          have h43 : ((goF n k).1 14 3) < 4 := by omega
          refine lv_aload_n X.1 X.2.1 jd_D_goOn_22 rfl (lv_at hl 2 rfl) ?_
          refine j_rune (j_mkV X hP (c_D_askForBlock l d D a (goF n k).1 g hap ((goF n k).1 14 3) rfl (by omega) (hJ (by omega)).1.1 (hJ (by omega)).1.2.1 (hJ (by omega)).1.2.2.1 (hJ (by omega)).1.2.2.2 (hJ (by omega)).2.1 (hJ (by omega)).2.2.2.2.1 (hJ (by omega)).2.2.2.2.2.1 _) jU_bs (j_pe X hP) jm_417 jm_416 js_20 jm_4 jm_414 (by decide) rfl rfl (show jOk jy_D_askForBlock 0 by unfold jOk; decide +kernel) (by decide) ⟨rfl, rfl⟩ hl.1 rfl (Nat.le_of_ble_eq_true rfl) ⟨Nat.zero_le _, Nat.zero_le _⟩ jd_D_goOn_23) hS (fun v23 n23 g23 H locs h23 hP hS => ?_)
          obtain ⟨rfl, rfl, rfl⟩ := h23
          refine W.eq (g2 := F0 m 26 ls [.int (nI ((afF (goF n k).1 ((goF n k).1 14 3)).2))]) rfl ?_
          refine kn_ne0 X.1 X.2.1 jd_D_goOn_26 (tgt := 36) (by decide) (by have := af_two (goF n k).1 ((goF n k).1 14 3); omega) (fun h26 => ?_) (fun h26 => ?_)
          · skip
            refine lv_iconst (v := nI 1) X.1 X.2.1 jd_D_goOn_36 (by decide) ?_
            refine lv_goto X.1 X.2.1 jd_D_goOn_37 (tgt := 41) (by decide) ?_
            refine lv_istore_n X.1 X.2.1 jd_D_goOn_41 rfl hl (by decide) rfl (fun ls hl => ?_)
            have hl : lv_has ls 3 [(1, .int (nI 1)), (2, .int (nI k)), (0, .ref (a 14))] := hl
            refine lv_iinc (k := 1) (v := nI (k + 1)) X.1 X.2.1 jd_D_goOn_42 hl rfl (kn_inc _) (by decide) rfl (fun ls hl => ?_)
            have hl : lv_has ls 3 [(2, .int (nI (k + 1))), (1, .int (nI 1)), (0, .ref (a 14))] := hl
            refine lv_goto X.1 X.2.1 jd_D_goOn_45 (tgt := 4) (by decide) ?_
            have eG : goF n (k + 1) = afF (goF n k).1 ((goF n k).1 14 3) := go_a (by omega) h4 h26
            have e2 : (goF n (k + 1)).2 = 1 := by rw [eG]; have h9 := af_two (goF n k).1 ((goF n k).1 14 3); omega
            have hP : va_P D jCl (jW d a (goF n (k + 1)).1 g) H := by rw [eG]; exact hP
            have hl : lv_has ls 3 [(2, .int (nI (k + 1))), (1, .int (nI ((goF n (k + 1)).2))), (0, .ref (a 14))] := by rw [e2]; exact lv_sub hl [0, 1, 2] rfl
            have hJ2 : (goF n (k + 1)).2 < 2 ∧ ((goF n (k + 1)).2 = 0 → DI (goF n (k + 1)).1) := ⟨by omega, fun h0 => by omega⟩
            exact ihr (k + 1) H locs ls (by omega) (hJ2) hP hS hl
          · skip
            rw [af_zero h26] at hP
            refine lv_aload_n X.1 X.2.1 jd_D_goOn_29 rfl (lv_at hl 2 rfl) ?_
            refine j_rune (j_mkV X hP (c_D_mendOrMoveOn l d D a (goF n k).1 g hap (hJ (by omega)) (by omega) _) jU_bs (j_pe X hP) jm_444 jm_443 js_26 jm_4 jm_441 (by decide) rfl rfl (show jOk jy_D_mendOrMoveOn 0 by unfold jOk; decide +kernel) (by decide) ⟨rfl, rfl⟩ hl.1 rfl (Nat.le_of_ble_eq_true rfl) ⟨Nat.zero_le _, Nat.zero_le _⟩ jd_D_goOn_30) hS (fun v30 n30 g30 H locs h30 hP hS => ?_)
            obtain ⟨rfl, rfl, rfl⟩ := h30
            refine W.eq (g2 := F0 m 33 ls [.int (nI ((mmF (goF n k).1).2))]) rfl ?_
            refine kn_eq0 X.1 X.2.1 jd_D_goOn_33 (tgt := 40) (by decide) (by have := mm_two (goF n k).1; omega) (fun h33 => ?_) (fun h33 => ?_)
            · skip
              refine lv_iconst (v := nI 0) X.1 X.2.1 jd_D_goOn_40 (by decide) ?_
              refine lv_istore_n X.1 X.2.1 jd_D_goOn_41 rfl hl (by decide) rfl (fun ls hl => ?_)
              have hl : lv_has ls 3 [(1, .int (nI 0)), (2, .int (nI k)), (0, .ref (a 14))] := hl
              refine lv_iinc (k := 1) (v := nI (k + 1)) X.1 X.2.1 jd_D_goOn_42 hl rfl (kn_inc _) (by decide) rfl (fun ls hl => ?_)
              have hl : lv_has ls 3 [(2, .int (nI (k + 1))), (1, .int (nI 0)), (0, .ref (a 14))] := hl
              refine lv_goto X.1 X.2.1 jd_D_goOn_45 (tgt := 4) (by decide) ?_
              have eG : goF n (k + 1) = mmF (goF n k).1 := go_m (by omega) h4 h26
              have e2 : (goF n (k + 1)).2 = 0 := by rw [eG]; have h9 := mm_two (goF n k).1; omega
              have hP : va_P D jCl (jW d a (goF n (k + 1)).1 g) H := by rw [eG]; exact hP
              have hl : lv_has ls 3 [(2, .int (nI (k + 1))), (1, .int (nI ((goF n (k + 1)).2))), (0, .ref (a 14))] := by rw [e2]; exact lv_sub hl [0, 1, 2] rfl
              have hJ2 : (goF n (k + 1)).2 < 2 ∧ ((goF n (k + 1)).2 = 0 → DI (goF n (k + 1)).1) := ⟨by omega, fun h0 => by rw [eG] at h0 ⊢; exact DI_mm (hJ (by omega)) h43 h0⟩
              exact ihr (k + 1) H locs ls (by omega) (hJ2) hP hS hl
            · skip
              refine lv_iconst (v := nI 1) X.1 X.2.1 jd_D_goOn_36 (by decide) ?_
              refine lv_goto X.1 X.2.1 jd_D_goOn_37 (tgt := 41) (by decide) ?_
              refine lv_istore_n X.1 X.2.1 jd_D_goOn_41 rfl hl (by decide) rfl (fun ls hl => ?_)
              have hl : lv_has ls 3 [(1, .int (nI 1)), (2, .int (nI k)), (0, .ref (a 14))] := hl
              refine lv_iinc (k := 1) (v := nI (k + 1)) X.1 X.2.1 jd_D_goOn_42 hl rfl (kn_inc _) (by decide) rfl (fun ls hl => ?_)
              have hl : lv_has ls 3 [(2, .int (nI (k + 1))), (1, .int (nI 1)), (0, .ref (a 14))] := hl
              refine lv_goto X.1 X.2.1 jd_D_goOn_45 (tgt := 4) (by decide) ?_
              have eG : goF n (k + 1) = mmF (goF n k).1 := go_m (by omega) h4 h26
              have e2 : (goF n (k + 1)).2 = 1 := by rw [eG]; have h9 := mm_two (goF n k).1; omega
              have hP : va_P D jCl (jW d a (goF n (k + 1)).1 g) H := by rw [eG]; exact hP
              have hl : lv_has ls 3 [(2, .int (nI (k + 1))), (1, .int (nI ((goF n (k + 1)).2))), (0, .ref (a 14))] := by rw [e2]; exact lv_sub hl [0, 1, 2] rfl
              have hJ2 : (goF n (k + 1)).2 < 2 ∧ ((goF n (k + 1)).2 = 0 → DI (goF n (k + 1)).1) := ⟨by omega, fun h0 => by omega⟩
              exact ihr (k + 1) H locs ls (by omega) (hJ2) hP hS hl
  have hl : lv_has ls 3 [(2, .int (nI 0)), (1, .int (nI ((goF n 0).2))), (0, .ref (a 14))] := lv_sub hl [0, 1, 2] rfl
  exact loop4 (256) 0 s.heap [] ls (by omega) (⟨by show 0 < 2; decide, fun _ => hD⟩) hP hS hl

set_option maxHeartbeats 4000000 in
theorem c_D_begin (l : Launch) (d : Nat → Nat) (D : va_G) (a : Nat → Nat) (n : Nat → Nat → Nat) (g : Nat → Nat) (hap : ∀ i j : Nat, i < 52 → j < 52 → a i = a j → i = j) (z t : Nat) (hD : DI (bgF n z t)) : jEff l d D a n g jy_D_begin jb_D_begin 4 none { frames := 5, cells := 0, slots := 0, locals := 119 } [.ref (a 14), .int (nI z), .int (nI t)] (fun v9 n2 g2 => none = v9 ∧ (goF (bgF n z t) 256).1 = n2 ∧ g = g2) := by
  refine je_V (by decide) (Nat.le_of_ble_eq_true rfl) ?_
  intro p e s m A below meth c ls Q X hP hS hl hQ
  have hl : lv_has ls 4 [(0, .ref (a 14)), (1, .int (nI z)), (2, .int (nI t))] := hl
  refine lv_aload_n X.1 X.2.1 jd_D_begin_0 rfl (lv_at hl 0 rfl) ?_
  refine lv_iload_n X.1 X.2.1 jd_D_begin_1 rfl (lv_at hl 1 rfl) ?_
  refine jp_D_41_14 X hap hP hS jd_D_begin_2 (fun H locs hP hS => ?_)
  refine lv_aload_n X.1 X.2.1 jd_D_begin_5 rfl (lv_at hl 0 rfl) ?_
  refine lv_iload_n X.1 X.2.1 jd_D_begin_6 rfl (lv_at hl 2 rfl) ?_
  refine jp_D_44_14 X hap hP hS jd_D_begin_7 (fun H locs hP hS => ?_)
  refine lv_iconst (v := nI 0) X.1 X.2.1 jd_D_begin_10 (by decide) ?_
  refine lv_istore_n X.1 X.2.1 jd_D_begin_11 rfl hl (by decide) rfl (fun ls hl => ?_)
  have hl : lv_has ls 4 [(3, .int (nI 0)), (0, .ref (a 14)), (1, .int (nI z)), (2, .int (nI t))] := hl
  have loop12 : ∀ (r k : Nat) (H : Heap) (locs : List Loc) (ls : Array Slot), k + r = 4 → va_P D jCl (jW d a (kfF (ku (ku n 14 4 z) 14 5 t) k) g) H → va_S (jAa a s.heap.size) s.heap H locs → lv_has ls 4 [(3, .int (nI k)), (0, .ref (a 14)), (1, .int (nI z)), (2, .int (nI t))] → W p l e { frames := 5, cells := 0, slots := 0, locals := 119 } s m A below meth c H locs 0 0 Q (F0 m 12 ls []) := by
    intro r
    induction r with
    | zero => 
      intro k H locs ls hk hP hS hl
      obtain rfl : 4 = k := by omega
      refine lv_iload_n X.1 X.2.1 jd_D_begin_12 rfl (lv_at hl 0 rfl) ?_
      refine lv_iconst (v := nI 4) X.1 X.2.1 jd_D_begin_13 (by decide) ?_
      refine kn_cge X.1 X.2.1 jd_D_begin_14 (tgt := 33) (by decide) (by omega) (fun h14 => ?_) (fun h14 => absurd h14 (by omega))
      refine lv_aload_n X.1 X.2.1 jd_D_begin_33 rfl (lv_at hl 1 rfl) ?_
      refine lv_iconst (v := nI 0) X.1 X.2.1 jd_D_begin_34 (by decide) ?_
      refine jp_D_30_14 X hap hP hS jd_D_begin_35 (fun H locs hP hS => ?_)
      have hP : va_P D jCl (jW d a (bgF n z t) g) H := hP
      refine lv_aload_n X.1 X.2.1 jd_D_begin_38 rfl (lv_at hl 1 rfl) ?_
      refine j_rune (j_mkV X hP (c_D_goOn l d D a (bgF n z t) g hap hD _) jU_bs (j_pe X hP) jm_412 jm_411 js_19 jm_4 jm_409 (by decide) rfl rfl (show jOk jy_D_goOn 0 by unfold jOk; decide +kernel) (by decide) ⟨rfl, rfl⟩ hl.1 rfl (Nat.le_of_ble_eq_true rfl) ⟨Nat.zero_le _, Nat.zero_le _⟩ jd_D_begin_39) hS (fun v39 n39 g39 H locs h39 hP hS => ?_)
      obtain ⟨rfl, rfl, rfl⟩ := h39
      refine W.eq (g2 := F0 m 42 ls []) rfl ?_
      exact hQ _ _ _ _ _ _ (⟨rfl, rfl, rfl⟩) hP hS jd_D_begin_42
    | succ r ihr => 
      intro k H locs ls hk hP hS hl
      refine lv_iload_n X.1 X.2.1 jd_D_begin_12 rfl (lv_at hl 0 rfl) ?_
      refine lv_iconst (v := nI 4) X.1 X.2.1 jd_D_begin_13 (by decide) ?_
      refine kn_cge X.1 X.2.1 jd_D_begin_14 (tgt := 33) (by decide) (by omega) (fun h14 => absurd h14 (by omega)) (fun h14 => ?_)
      refine lv_aload_n X.1 X.2.1 jd_D_begin_17 rfl (lv_at hl 1 rfl) ?_
      refine jg_D_23_14 X hP jd_D_begin_18 ?_
      refine lv_iload_n X.1 X.2.1 jd_D_begin_21 rfl (lv_at hl 0 rfl) ?_
      refine j_aald X hP 24 k (by decide) (by omega) jd_D_begin_22 ?_
      refine lv_iconst (v := nI 4294967295) X.1 X.2.1 jd_D_begin_23 (by decide) ?_
      refine j_rune (j_mkS X (c_Arrays_fill l d D a (kfF (ku (ku n 14 4 z) 14 5 t) k) g hap (25 + k) 4294967295 (by omega) (jI_kn (by omega)) _) jU_bs (j_pe X hP) jm_390 jm_389 jm_12 jm_408 (show jOk jy_Arrays_fill 2 by unfold jOk; decide +kernel) (by decide) ⟨rfl, rfl⟩ hl.1 rfl (Nat.le_of_ble_eq_true rfl) ⟨Nat.zero_le _, Nat.zero_le _⟩ jd_D_begin_24) hS (fun v24 n24 g24 H locs h24 hP hS => ?_)
      obtain ⟨rfl, rfl, rfl⟩ := h24
      refine W.eq (g2 := F0 m 27 ls []) rfl ?_
      refine lv_iinc (k := 0) (v := nI (k + 1)) X.1 X.2.1 jd_D_begin_27 hl rfl (kn_inc _) (by decide) rfl (fun ls hl => ?_)
      have hl : lv_has ls 4 [(3, .int (nI (k + 1))), (0, .ref (a 14)), (1, .int (nI z)), (2, .int (nI t))] := hl
      refine lv_goto X.1 X.2.1 jd_D_begin_30 (tgt := 12) (by decide) ?_
      have hl : lv_has ls 4 [(3, .int (nI (k + 1))), (0, .ref (a 14)), (1, .int (nI z)), (2, .int (nI t))] := lv_sub hl [0, 1, 2, 3] rfl
      exact ihr (k + 1) H locs ls (by omega) hP hS hl
  have hl : lv_has ls 4 [(3, .int (nI 0)), (0, .ref (a 14)), (1, .int (nI z)), (2, .int (nI t))] := lv_sub hl [0, 1, 2, 3] rfl
  exact loop12 (4) 0 H locs ls (by omega) hP hS hl
