set_option maxHeartbeats 4000000 in
theorem c_G_restart (l : Launch) (d : Nat → Nat) (D : va_G) (a : Nat → Nat) (n : Nat → Nat → Nat) (g : Nat → Nat) (hap : ∀ i j : Nat, i < 52 → j < 52 → a i = a j → i = j) (x : Nat) : jEff l d D a n g jy_G_restart jb_G_restart 3 none { frames := 0, cells := 0, slots := 0, locals := 0 } [.ref (a 13), .long (lN x)] (fun v9 n2 g2 => none = v9 ∧ n = n2 ∧ kg g 0 x = g2) := by
  refine je_V (by decide) (Nat.le_of_ble_eq_true rfl) ?_
  intro p e s m A below meth c ls Q X hP hS hl hQ
  have hl : lv_has ls 3 [(0, .ref (a 13)), (1, .long (lN x))] := hl
  refine lv_aload_n X.1 X.2.1 jd_G_restart_0 rfl (lv_at hl 0 rfl) ?_
  refine lv_lload_n X.1 X.2.1 jd_G_restart_1 rfl (lv_at hl 1 rfl) ?_
  refine jp_G_7_13 X hap hP hS jd_G_restart_2 (fun H locs hP hS => ?_)
  exact hQ _ _ _ _ _ _ (⟨rfl, rfl, rfl⟩) hP hS jd_G_restart_5

set_option maxHeartbeats 4000000 in
theorem c_G_advance (l : Launch) (d : Nat → Nat) (D : va_G) (a : Nat → Nat) (n : Nat → Nat → Nat) (g : Nat → Nat) (hap : ∀ i j : Nat, i < 52 → j < 52 → a i = a j → i = j)  : jEff l d D a n g jy_G_advance jb_G_advance 1 none { frames := 0, cells := 0, slots := 0, locals := 0 } [.ref (a 13)] (fun v9 n2 g2 => none = v9 ∧ n = n2 ∧ kg g 0 (advF (g 0)) = g2) := by
  refine je_V (by decide) (Nat.le_of_ble_eq_true rfl) ?_
  intro p e s m A below meth c ls Q X hP hS hl hQ
  have hl : lv_has ls 1 [(0, .ref (a 13))] := hl
  refine lv_aload_n X.1 X.2.1 jd_G_advance_0 rfl (lv_at hl 0 rfl) ?_
  refine lv_aload_n X.1 X.2.1 jd_G_advance_1 rfl (lv_at hl 0 rfl) ?_
  refine jg_G_7_13 X hP jd_G_advance_2 ?_
  refine lv_ldc2 (v := lN 6364136223846793005) X.1 X.2.1 X.2.2.2.2.2.1 (X.2.2.2.2.2.2.1 _ jm_386) jd_G_advance_5 ?_
  refine kn_lmul X.1 X.2.1 jd_G_advance_8 ?_
  refine lv_ldc2 (v := lN 1442695040888963407) X.1 X.2.1 X.2.2.2.2.2.1 (X.2.2.2.2.2.2.1 _ jm_387) jd_G_advance_9 ?_
  refine kn_ladd X.1 X.2.1 jd_G_advance_12 ?_
  refine kn_tol (y := advF (g 0)) (adv_lN _) ?_
  refine jp_G_7_13 X hap hP hS jd_G_advance_13 (fun H locs hP hS => ?_)
  exact hQ _ _ _ _ _ _ (⟨rfl, rfl, rfl⟩) hP hS jd_G_advance_16

set_option maxHeartbeats 4000000 in
theorem c_G_drawBit (l : Launch) (d : Nat → Nat) (D : va_G) (a : Nat → Nat) (n : Nat → Nat → Nat) (g : Nat → Nat) (hap : ∀ i j : Nat, i < 52 → j < 52 → a i = a j → i = j)  : jEff l d D a n g jy_G_drawBit jb_G_drawBit 1 (some .int) { frames := 1, cells := 0, slots := 0, locals := 20 } [.ref (a 13)] (fun v9 n2 g2 => some (.int (nI (advF (g 0) / 2 ^ 63))) = v9 ∧ n = n2 ∧ kg g 0 (advF (g 0)) = g2) := by
  refine je_I (by decide) (Nat.le_of_ble_eq_true rfl) ?_
  intro p e s m A below meth c ls Q X hP hS hl hQ
  have hl : lv_has ls 1 [(0, .ref (a 13))] := hl
  refine lv_aload_n X.1 X.2.1 jd_G_drawBit_0 rfl (lv_at hl 0 rfl) ?_
  refine j_rune (j_mkV X hP (c_G_advance l d D a n g hap _) jU_bs (j_pe X hP) jm_385 jm_384 js_16 jm_3 jm_382 (by decide) rfl rfl (show jOk jy_G_advance 0 by unfold jOk; decide +kernel) (by decide) ⟨rfl, rfl⟩ hl.1 rfl (Nat.le_of_ble_eq_true rfl) ⟨Nat.zero_le _, Nat.zero_le _⟩ jd_G_drawBit_1) hS (fun v1 n1 g1 H locs h1 hP hS => ?_)
  obtain ⟨rfl, rfl, rfl⟩ := h1
  refine W.eq (g2 := F0 m 4 ls []) rfl ?_
  refine lv_aload_n X.1 X.2.1 jd_G_drawBit_4 rfl (lv_at hl 0 rfl) ?_
  refine jg_G_7_13 X hP jd_G_drawBit_5 ?_
  refine kn_tol (y := advF (g 0)) (by rw [kg_s]) ?_
  refine lv_bipush (v := nI 63) X.1 X.2.1 jd_G_drawBit_8 (by decide) ?_
  refine lv_lushr (v := lN ((advF (g 0)) / 2 ^ 63)) X.1 X.2.1 jd_G_drawBit_10 (wb_shr (advF_lt _) (by decide)) ?_
  refine lv_l2i (v := nI ((advF (g 0)) / 2 ^ 63)) X.1 X.2.1 jd_G_drawBit_11 (lN_i _) ?_
  exact hQ _ _ _ _ _ _ _ (⟨rfl, rfl, rfl⟩) hP hS jd_G_drawBit_12

set_option maxHeartbeats 4000000 in
theorem c_G_drawBelow (l : Launch) (d : Nat → Nat) (D : va_G) (a : Nat → Nat) (n : Nat → Nat → Nat) (g : Nat → Nat) (hap : ∀ i j : Nat, i < 52 → j < 52 → a i = a j → i = j) (z k0 : Nat) (hz : g 0 = z) (h2 : 2 ≤ k0) (hk0 : k0 ≤ 128) : jEff l d D a n g jy_G_drawBelow jb_G_drawBelow 7 (some .int) { frames := 1, cells := 0, slots := 0, locals := 20 } [.ref (a 13), .int (nI k0)] (fun v9 n2 g2 => some (.int (nI (drV z k0))) = v9 ∧ n = n2 ∧ kg g 0 (drS z k0) = g2) := by
  refine je_I (by decide) (Nat.le_of_ble_eq_true rfl) ?_
  intro p e s m A below meth c ls Q X hP hS hl hQ
  have hl : lv_has ls 7 [(0, .ref (a 13)), (1, .int (nI k0))] := hl
  refine lv_iload_n X.1 X.2.1 jd_G_drawBelow_0 rfl (lv_at hl 1 rfl) ?_
  refine lv_iconst (v := nI 2) X.1 X.2.1 jd_G_drawBelow_1 (by decide) ?_
  refine kn_cge X.1 X.2.1 jd_G_drawBelow_2 (tgt := 7) (by decide) (by omega) (fun h2 => ?_) (fun h2 => absurd h2 (by omega))
  refine lv_ldc2 (v := lN 2147483648) X.1 X.2.1 X.2.2.2.2.2.1 (X.2.2.2.2.2.2.1 _ jm_380) jd_G_drawBelow_7 ?_
  refine lv_iload_n X.1 X.2.1 jd_G_drawBelow_10 rfl (lv_at hl 1 rfl) ?_
  refine lv_i2l (v := lN k0) X.1 X.2.1 jd_G_drawBelow_11 (nI_l (by omega)) ?_
  refine kn_ldiv X.1 X.2.1 jd_G_drawBelow_12 (by omega) ?_
  refine lv_iload_n X.1 X.2.1 jd_G_drawBelow_13 rfl (lv_at hl 1 rfl) ?_
  refine lv_i2l (v := lN k0) X.1 X.2.1 jd_G_drawBelow_14 (nI_l (by omega)) ?_
  refine kn_lmul X.1 X.2.1 jd_G_drawBelow_15 ?_
  refine lv_lstore_n X.1 X.2.1 jd_G_drawBelow_16 rfl hl (by decide) rfl (fun ls hl => ?_)
  have hl : lv_has ls 7 [(2, .long (lN ((2147483648 / k0) * k0))), (0, .ref (a 13)), (1, .int (nI k0))] := hl
  refine lv_iconst (v := nI 0) X.1 X.2.1 jd_G_drawBelow_17 (by decide) ?_
  refine lv_istore X.1 X.2.1 jd_G_drawBelow_18 hl (by decide) rfl (fun ls hl => ?_)
  have hl : lv_has ls 7 [(4, .int (nI 0)), (2, .long (lN ((2147483648 / k0) * k0))), (0, .ref (a 13)), (1, .int (nI k0))] := hl
  have loop20 : ∀ (r k : Nat) (H : Heap) (locs : List Loc) (ls : Array Slot), k + r = 1000000 → k ≤ dbK z k0 → va_P D jCl (jW d a n (kg g 0 (itF z k))) H → va_S (jAa a s.heap.size) s.heap H locs → lv_has ls 7 [(4, .int (nI k)), (2, .long (lN (2147483648 / k0 * k0))), (0, .ref (a 13)), (1, .int (nI k0))] → W p l e { frames := 1, cells := 0, slots := 0, locals := 20 } s m A below meth c H locs 0 0 Q (F0 m 20 ls []) := by
    intro r
    induction r with
    | zero => 
      intro k H locs ls hk hd hP hS hl
      obtain rfl : 1000000 = k := by omega
      refine lv_iload X.1 X.2.1 jd_G_drawBelow_20 (lv_at hl 0 rfl) ?_
      refine lv_ldc (v := nI 1000000) X.1 X.2.1 X.2.2.2.2.2.1 (X.2.2.2.2.2.2.1 _ jm_381) jd_G_drawBelow_22 ?_
      refine kn_cge X.1 X.2.1 jd_G_drawBelow_24 (tgt := 60) (by decide) (by omega) (fun h24 => ?_) (fun h24 => absurd h24 (by omega))
      refine lv_iconst (v := nI 0) X.1 X.2.1 jd_G_drawBelow_60 (by decide) ?_
      exact hQ _ _ _ _ _ _ _ (absurd hd (by have := dbK_le z k0; omega)) hP hS jd_G_drawBelow_61
    | succ r ihr => 
      intro k H locs ls hk hd hP hS hl
      refine lv_iload X.1 X.2.1 jd_G_drawBelow_20 (lv_at hl 0 rfl) ?_
      refine lv_ldc (v := nI 1000000) X.1 X.2.1 X.2.2.2.2.2.1 (X.2.2.2.2.2.2.1 _ jm_381) jd_G_drawBelow_22 ?_
      refine kn_cge X.1 X.2.1 jd_G_drawBelow_24 (tgt := 60) (by decide) (by omega) (fun h24 => absurd h24 (by omega)) (fun h24 => ?_)
      refine lv_aload_n X.1 X.2.1 jd_G_drawBelow_27 rfl (lv_at hl 2 rfl) ?_
      refine j_rune (j_mkV X hP (c_G_advance l d D a n (kg g 0 (itF z k)) hap _) jU_bs (j_pe X hP) jm_385 jm_384 js_16 jm_3 jm_382 (by decide) rfl rfl (show jOk jy_G_advance 0 by unfold jOk; decide +kernel) (by decide) ⟨rfl, rfl⟩ hl.1 rfl (Nat.le_of_ble_eq_true rfl) ⟨Nat.zero_le _, Nat.zero_le _⟩ jd_G_drawBelow_28) hS (fun v28 n28 g28 H locs h28 hP hS => ?_)
      obtain ⟨rfl, rfl, rfl⟩ := h28
      have hP : va_P D jCl (jW d a n (kg g 0 (itF z (k + 1)))) H := by rw [kg_kg, kg_s] at hP; exact hP
      refine W.eq (g2 := F0 m 31 ls []) rfl ?_
      refine lv_aload_n X.1 X.2.1 jd_G_drawBelow_31 rfl (lv_at hl 2 rfl) ?_
      refine jg_G_7_13 X hP jd_G_drawBelow_32 ?_
      refine kn_tol (y := itF z (k + 1)) (by rw [kg_s]) ?_
      refine lv_bipush (v := nI 33) X.1 X.2.1 jd_G_drawBelow_35 (by decide) ?_
      refine lv_lushr (v := lN ((itF z (k + 1)) / 2 ^ 33)) X.1 X.2.1 jd_G_drawBelow_37 (wb_shr (itF_lt _ _) (by decide)) ?_
      refine lv_lstore X.1 X.2.1 jd_G_drawBelow_38 hl (by decide) rfl (fun ls hl => ?_)
      have hl : lv_has ls 7 [(5, .long (lN ((itF z (k + 1)) / 2 ^ 33))), (4, .int (nI k)), (2, .long (lN (2147483648 / k0 * k0))), (0, .ref (a 13)), (1, .int (nI k0))] := hl
      refine lv_lload X.1 X.2.1 jd_G_drawBelow_40 (lv_at hl 0 rfl) ?_
      refine lv_lload_n X.1 X.2.1 jd_G_drawBelow_42 rfl (lv_at hl 2 rfl) ?_
      refine kn_lge X.1 X.2.1 jd_G_drawBelow_43 jd_G_drawBelow_44 (tgt := 54) (by decide) (⟨by have := itF_lt z k; omega, by have := limF_le (k := k0); unfold limF at this; omega⟩) (fun h44 => ?_) (fun h44 => ?_)
      · skip
        refine lv_iinc (k := 1) (v := nI (k + 1)) X.1 X.2.1 jd_G_drawBelow_54 hl rfl (kn_inc _) (by decide) rfl (fun ls hl => ?_)
        have hl : lv_has ls 7 [(4, .int (nI (k + 1))), (5, .long (lN ((itF z (k + 1)) / 2 ^ 33))), (2, .long (lN (2147483648 / k0 * k0))), (0, .ref (a 13)), (1, .int (nI k0))] := hl
        refine lv_goto X.1 X.2.1 jd_G_drawBelow_57 (tgt := 20) (by decide) ?_
        have hl : lv_has ls 7 [(4, .int (nI (k + 1))), (2, .long (lN (2147483648 / k0 * k0))), (0, .ref (a 13)), (1, .int (nI k0))] := lv_sub hl [0, 2, 3, 4] rfl
        exact ihr (k + 1) H locs ls (by omega) (db_miss h2 hk0 hd h44) hP hS hl
      · skip
        refine lv_lload X.1 X.2.1 jd_G_drawBelow_47 (lv_at hl 0 rfl) ?_
        refine lv_iload_n X.1 X.2.1 jd_G_drawBelow_49 rfl (lv_at hl 4 rfl) ?_
        refine lv_i2l (v := lN k0) X.1 X.2.1 jd_G_drawBelow_50 (nI_l (by omega)) ?_
        refine kn_lrem X.1 X.2.1 jd_G_drawBelow_51 (by have := itF_lt z k; omega) ?_
        refine lv_l2i (v := nI (((itF z (k + 1)) / 2 ^ 33) % k0)) X.1 X.2.1 jd_G_drawBelow_52 (lN_i _) ?_
        exact hQ _ _ _ _ _ _ _ (by have e := db_hit hd h44; exact ⟨by unfold drV drS; rw [e], rfl, by unfold drS; rw [e]⟩) hP hS jd_G_drawBelow_53
  have hP : va_P D jCl (jW d a n (kg g 0 (itF z 0))) s.heap := by rw [show itF z 0 = g 0 from hz.symm, kg_self]; exact hP
  have hl : lv_has ls 7 [(4, .int (nI 0)), (2, .long (lN (2147483648 / k0 * k0))), (0, .ref (a 13)), (1, .int (nI k0))] := lv_sub hl [0, 1, 2, 3] rfl
  exact loop20 (1000000) 0 s.heap [] ls (by omega) (Nat.zero_le _) hP hS hl

set_option maxHeartbeats 4000000 in
theorem c_G_shuffle (l : Launch) (d : Nat → Nat) (D : va_G) (a : Nat → Nat) (n : Nat → Nat → Nat) (g : Nat → Nat) (hap : ∀ i j : Nat, i < 52 → j < 52 → a i = a j → i = j) (q t z : Nat) (hq : q < 52) (hI : jI q = 128) (h1 : 1 ≤ t) (ht : t ≤ 128) : jEff l d D a n g jy_G_shuffle jb_G_shuffle 8 none { frames := 2, cells := 0, slots := 0, locals := 46 } [.ref (a 13), .long (lN z), .int (nI t), .ref (a q)] (fun v9 n2 g2 => none = v9 ∧ (swP n q z t (t - 1)).1 = n2 ∧ kg g 0 (swP n q z t (t - 1)).2 = g2) := by
  refine je_V (by decide) (Nat.le_of_ble_eq_true rfl) ?_
  intro p e s m A below meth c ls Q X hP hS hl hQ
  have hl : lv_has ls 8 [(0, .ref (a 13)), (1, .long (lN z)), (3, .int (nI t)), (4, .ref (a q))] := hl
  refine lv_aload_n X.1 X.2.1 jd_G_shuffle_0 rfl (lv_at hl 0 rfl) ?_
  refine lv_lload_n X.1 X.2.1 jd_G_shuffle_1 rfl (lv_at hl 1 rfl) ?_
  refine j_rune (j_mkV X hP (c_G_restart l d D a n g hap z _) jU_bs (j_pe X hP) jm_375 jm_374 js_14 jm_3 jm_372 (by decide) rfl rfl (show jOk jy_G_restart 1 by unfold jOk; decide +kernel) (by decide) ⟨rfl, rfl⟩ hl.1 rfl (Nat.le_of_ble_eq_true rfl) ⟨Nat.zero_le _, Nat.zero_le _⟩ jd_G_shuffle_2) hS (fun v2 n2 g2 H locs h2 hP hS => ?_)
  obtain ⟨rfl, rfl, rfl⟩ := h2
  refine W.eq (g2 := F0 m 5 ls []) rfl ?_
  refine lv_iconst (v := nI 0) X.1 X.2.1 jd_G_shuffle_5 (by decide) ?_
  refine lv_istore X.1 X.2.1 jd_G_shuffle_6 hl (by decide) rfl (fun ls hl => ?_)
  have hl : lv_has ls 8 [(5, .int (nI 0)), (0, .ref (a 13)), (1, .long (lN z)), (3, .int (nI t)), (4, .ref (a q))] := hl
  have loop8 : ∀ (r k : Nat) (H : Heap) (locs : List Loc) (ls : Array Slot), k + r = t → va_P D jCl (jW d a (flF n q k) (kg g 0 z)) H → va_S (jAa a s.heap.size) s.heap H locs → lv_has ls 8 [(5, .int (nI k)), (0, .ref (a 13)), (1, .long (lN z)), (3, .int (nI t)), (4, .ref (a q))] → W p l e { frames := 2, cells := 0, slots := 0, locals := 46 } s m A below meth c H locs 0 0 Q (F0 m 8 ls []) := by
    intro r
    induction r with
    | zero => 
      intro k H locs ls hk hP hS hl
      obtain rfl : t = k := by omega
      refine lv_iload X.1 X.2.1 jd_G_shuffle_8 (lv_at hl 0 rfl) ?_
      refine lv_iload_n X.1 X.2.1 jd_G_shuffle_10 rfl (lv_at hl 3 rfl) ?_
      refine kn_cge X.1 X.2.1 jd_G_shuffle_11 (tgt := 27) (by decide) (by omega) (fun h11 => ?_) (fun h11 => absurd h11 (by omega))
      refine lv_iload_n X.1 X.2.1 jd_G_shuffle_27 rfl (lv_at hl 3 rfl) ?_
      refine lv_iconst (v := nI 1) X.1 X.2.1 jd_G_shuffle_28 (by decide) ?_
      refine kn_isub X.1 X.2.1 jd_G_shuffle_29 (by omega) ?_
      refine lv_istore X.1 X.2.1 jd_G_shuffle_30 hl (by decide) rfl (fun ls hl => ?_)
      have hl : lv_has ls 8 [(5, .int (nI (t - 1))), (0, .ref (a 13)), (1, .long (lN z)), (3, .int (nI t)), (4, .ref (a q))] := hl
      have loopB : ∀ (r2 k : Nat) (H : Heap) (locs : List Loc) (ls : Array Slot), k + r2 = t - 1 → va_P D jCl (jW d a ((swP n q z t k).1) (kg g 0 (swP n q z t k).2)) H → va_S (jAa a s.heap.size) s.heap H locs → lv_has ls 8 [(5, .int (nI (t - 1 - k))), (0, .ref (a 13)), (1, .long (lN z)), (3, .int (nI t)), (4, .ref (a q))] → W p l e { frames := 2, cells := 0, slots := 0, locals := 46 } s m A below meth c H locs 0 0 Q (F0 m 32 ls []) := by
        intro r2
        induction r2 with
        | zero => 
          intro k H locs ls hk hP hS hl
          obtain rfl : t - 1 = k := by omega
          refine lv_iload X.1 X.2.1 jd_G_shuffle_32 (lv_at hl 0 rfl) ?_
          refine lv_iconst (v := nI 1) X.1 X.2.1 jd_G_shuffle_34 (by decide) ?_
          refine kn_clt X.1 X.2.1 jd_G_shuffle_35 (tgt := 78) (by decide) (by omega) (fun h35 => ?_) (fun h35 => absurd h35 (by omega))
          exact hQ _ _ _ _ _ _ (⟨rfl, rfl, rfl⟩) hP hS jd_G_shuffle_78
        | succ r2 ihr2 => 
          intro k H locs ls hk hP hS hl
          refine lv_iload X.1 X.2.1 jd_G_shuffle_32 (lv_at hl 0 rfl) ?_
          refine lv_iconst (v := nI 1) X.1 X.2.1 jd_G_shuffle_34 (by decide) ?_
          refine kn_clt X.1 X.2.1 jd_G_shuffle_35 (tgt := 78) (by decide) (by omega) (fun h35 => absurd h35 (by omega)) (fun h35 => ?_)
          refine lv_aload_n X.1 X.2.1 jd_G_shuffle_38 rfl (lv_at hl 1 rfl) ?_
          refine lv_iload X.1 X.2.1 jd_G_shuffle_39 (lv_at hl 0 rfl) ?_
          refine lv_iconst (v := nI 1) X.1 X.2.1 jd_G_shuffle_41 (by decide) ?_
          refine kn_iadd X.1 X.2.1 jd_G_shuffle_42 ?_
          refine j_rune (j_mkV X hP (c_G_drawBelow l d D a (swP n q z t k).1 (kg g 0 (swP n q z t k).2) hap (swP n q z t k).2 (t - 1 - k + 1) (kg_s _ _ _) (by omega) (by omega) _) jU_bs (j_pe X hP) jm_379 jm_378 js_15 jm_3 jm_376 (by decide) rfl rfl (show jOk jy_G_drawBelow 1 by unfold jOk; decide +kernel) (by decide) ⟨rfl, rfl⟩ hl.1 rfl (Nat.le_of_ble_eq_true rfl) ⟨Nat.zero_le _, Nat.zero_le _⟩ jd_G_shuffle_43) hS (fun v43 n43 g43 H locs h43 hP hS => ?_)
          obtain ⟨rfl, rfl, rfl⟩ := h43
          rw [kg_kg] at hP
          refine W.eq (g2 := F0 m 46 ls [.int (nI (drV (swP n q z t k).2 (t - 1 - k + 1)))]) rfl ?_
          refine lv_istore X.1 X.2.1 jd_G_shuffle_46 hl (by decide) rfl (fun ls hl => ?_)
          have hl : lv_has ls 8 [(6, .int (nI (drV (swP n q z t k).2 (t - 1 - k + 1)))), (5, .int (nI (t - 1 - k))), (0, .ref (a 13)), (1, .long (lN z)), (3, .int (nI t)), (4, .ref (a q))] := hl
          refine lv_aload X.1 X.2.1 jd_G_shuffle_48 (lv_at hl 5 rfl) ?_
          refine lv_iload X.1 X.2.1 jd_G_shuffle_50 (lv_at hl 0 rfl) ?_
          refine j_ald X hP q (drV (swP n q z t k).2 (t - 1 - k + 1)) hq (by have := drV_lt (s := (swP n q z t k).2) (k := t - 1 - k + 1) (by omega); omega) (by omega) jd_G_shuffle_52 ?_
          refine lv_istore X.1 X.2.1 jd_G_shuffle_53 hl (by decide) rfl (fun ls hl => ?_)
          have hl : lv_has ls 8 [(7, .int (nI (((swP n q z t k).1) q (drV (swP n q z t k).2 (t - 1 - k + 1))))), (6, .int (nI (drV (swP n q z t k).2 (t - 1 - k + 1)))), (5, .int (nI (t - 1 - k))), (0, .ref (a 13)), (1, .long (lN z)), (3, .int (nI t)), (4, .ref (a q))] := hl
          refine lv_aload X.1 X.2.1 jd_G_shuffle_55 (lv_at hl 6 rfl) ?_
          refine lv_iload X.1 X.2.1 jd_G_shuffle_57 (lv_at hl 1 rfl) ?_
          refine lv_aload X.1 X.2.1 jd_G_shuffle_59 (lv_at hl 6 rfl) ?_
          refine lv_iload X.1 X.2.1 jd_G_shuffle_61 (lv_at hl 2 rfl) ?_
          refine j_ald X hP q (t - 1 - k) hq (by omega) (by omega) jd_G_shuffle_63 ?_
          refine j_ast X hap hP hS q (drV (swP n q z t k).2 (t - 1 - k + 1)) (((swP n q z t k).1) q (t - 1 - k)) hq (by have := drV_lt (s := (swP n q z t k).2) (k := t - 1 - k + 1) (by omega); omega) (by omega) jd_G_shuffle_64 (fun H locs hP hS => ?_)
          refine lv_aload X.1 X.2.1 jd_G_shuffle_65 (lv_at hl 6 rfl) ?_
          refine lv_iload X.1 X.2.1 jd_G_shuffle_67 (lv_at hl 2 rfl) ?_
          refine lv_iload X.1 X.2.1 jd_G_shuffle_69 (lv_at hl 0 rfl) ?_
          refine j_ast X hap hP hS q (t - 1 - k) (((swP n q z t k).1) q (drV (swP n q z t k).2 (t - 1 - k + 1))) hq (by omega) (by omega) jd_G_shuffle_71 (fun H locs hP hS => ?_)
          refine lv_iinc (k := 2) (v := nI ((t - 1 - k) - 1)) X.1 X.2.1 jd_G_shuffle_72 hl rfl (kn_dec (by omega)) (by decide) rfl (fun ls hl => ?_)
          have hl : lv_has ls 8 [(5, .int (nI ((t - 1 - k) - 1))), (7, .int (nI (((swP n q z t k).1) q (drV (swP n q z t k).2 (t - 1 - k + 1))))), (6, .int (nI (drV (swP n q z t k).2 (t - 1 - k + 1)))), (0, .ref (a 13)), (1, .long (lN z)), (3, .int (nI t)), (4, .ref (a q))] := hl
          refine lv_goto X.1 X.2.1 jd_G_shuffle_75 (tgt := 32) (by decide) ?_
          have hl : lv_has ls 8 [(5, .int (nI (t - 1 - (k + 1)))), (0, .ref (a 13)), (1, .long (lN z)), (3, .int (nI t)), (4, .ref (a q))] := lv_sub hl [0, 3, 4, 5, 6] rfl
          exact ihr2 (k + 1) H locs ls (by omega) hP hS hl
      have hl : lv_has ls 8 [(5, .int (nI (t - 1 - 0))), (0, .ref (a 13)), (1, .long (lN z)), (3, .int (nI t)), (4, .ref (a q))] := lv_sub hl [0, 1, 2, 3, 4] rfl
      exact loopB (t - 1) 0 H locs ls (by omega) hP hS hl
    | succ r ihr => 
      intro k H locs ls hk hP hS hl
      refine lv_iload X.1 X.2.1 jd_G_shuffle_8 (lv_at hl 0 rfl) ?_
      refine lv_iload_n X.1 X.2.1 jd_G_shuffle_10 rfl (lv_at hl 3 rfl) ?_
      refine kn_cge X.1 X.2.1 jd_G_shuffle_11 (tgt := 27) (by decide) (by omega) (fun h11 => absurd h11 (by omega)) (fun h11 => ?_)
      refine lv_aload X.1 X.2.1 jd_G_shuffle_14 (lv_at hl 4 rfl) ?_
      refine lv_iload X.1 X.2.1 jd_G_shuffle_16 (lv_at hl 0 rfl) ?_
      refine lv_iload X.1 X.2.1 jd_G_shuffle_18 (lv_at hl 0 rfl) ?_
      refine j_ast X hap hP hS q k k hq (by omega) (by omega) jd_G_shuffle_20 (fun H locs hP hS => ?_)
      refine lv_iinc (k := 0) (v := nI (k + 1)) X.1 X.2.1 jd_G_shuffle_21 hl rfl (kn_inc _) (by decide) rfl (fun ls hl => ?_)
      have hl : lv_has ls 8 [(5, .int (nI (k + 1))), (0, .ref (a 13)), (1, .long (lN z)), (3, .int (nI t)), (4, .ref (a q))] := hl
      refine lv_goto X.1 X.2.1 jd_G_shuffle_24 (tgt := 8) (by decide) ?_
      have hl : lv_has ls 8 [(5, .int (nI (k + 1))), (0, .ref (a 13)), (1, .long (lN z)), (3, .int (nI t)), (4, .ref (a q))] := lv_sub hl [0, 1, 2, 3, 4] rfl
      exact ihr (k + 1) H locs ls (by omega) hP hS hl
  have hl : lv_has ls 8 [(5, .int (nI 0)), (0, .ref (a 13)), (1, .long (lN z)), (3, .int (nI t)), (4, .ref (a q))] := lv_sub hl [0, 1, 2, 3, 4] rfl
  exact loop8 (t) 0 H locs ls (by omega) hP hS hl

set_option maxHeartbeats 4000000 in
theorem c_G_shuffle_0 (l : Launch) (d : Nat → Nat) (D : va_G) (a : Nat → Nat) (n : Nat → Nat → Nat) (g : Nat → Nat) (hap : ∀ i j : Nat, i < 52 → j < 52 → a i = a j → i = j) (q z : Nat) : jEff l d D a n g jy_G_shuffle jb_G_shuffle 8 none { frames := 2, cells := 0, slots := 0, locals := 46 } [.ref (a 13), .long (lN z), .int (nI 0), .ref (a q)] (fun v9 n2 g2 => none = v9 ∧ n = n2 ∧ kg g 0 z = g2) := by
  refine je_V (by decide) (Nat.le_of_ble_eq_true rfl) ?_
  intro p e s m A below meth c ls Q X hP hS hl hQ
  have hl : lv_has ls 8 [(0, .ref (a 13)), (1, .long (lN z)), (3, .int (nI 0)), (4, .ref (a q))] := hl
  refine lv_aload_n X.1 X.2.1 jd_G_shuffle_0 rfl (lv_at hl 0 rfl) ?_
  refine lv_lload_n X.1 X.2.1 jd_G_shuffle_1 rfl (lv_at hl 1 rfl) ?_
  refine j_rune (j_mkV X hP (c_G_restart l d D a n g hap z _) jU_bs (j_pe X hP) jm_375 jm_374 js_14 jm_3 jm_372 (by decide) rfl rfl (show jOk jy_G_restart 1 by unfold jOk; decide +kernel) (by decide) ⟨rfl, rfl⟩ hl.1 rfl (Nat.le_of_ble_eq_true rfl) ⟨Nat.zero_le _, Nat.zero_le _⟩ jd_G_shuffle_2) hS (fun v2 n2 g2 H locs h2 hP hS => ?_)
  obtain ⟨rfl, rfl, rfl⟩ := h2
  refine W.eq (g2 := F0 m 5 ls []) rfl ?_
  refine lv_iconst (v := nI 0) X.1 X.2.1 jd_G_shuffle_5 (by decide) ?_
  refine lv_istore X.1 X.2.1 jd_G_shuffle_6 hl (by decide) rfl (fun ls hl => ?_)
  have hl : lv_has ls 8 [(5, .int (nI 0)), (0, .ref (a 13)), (1, .long (lN z)), (3, .int (nI 0)), (4, .ref (a q))] := hl
  refine lv_iload X.1 X.2.1 jd_G_shuffle_8 (lv_at hl 0 rfl) ?_
  refine lv_iload_n X.1 X.2.1 jd_G_shuffle_10 rfl (lv_at hl 3 rfl) ?_
  refine kn_cge X.1 X.2.1 jd_G_shuffle_11 (tgt := 27) (by decide) (by omega) (fun h11 => ?_) (fun h11 => absurd h11 (by omega))
  refine lv_iload_n X.1 X.2.1 jd_G_shuffle_27 rfl (lv_at hl 3 rfl) ?_
  refine lv_iconst (v := nI 1) X.1 X.2.1 jd_G_shuffle_28 (by decide) ?_
  refine lv_isub X.1 X.2.1 jd_G_shuffle_29 ?_
  refine kn_is (y := 4294967295) (by decide) ?_
  refine lv_istore X.1 X.2.1 jd_G_shuffle_30 hl (by decide) rfl (fun ls hl => ?_)
  have hl : lv_has ls 8 [(5, .int (nI 4294967295)), (0, .ref (a 13)), (1, .long (lN z)), (3, .int (nI 0)), (4, .ref (a q))] := hl
  refine lv_iload X.1 X.2.1 jd_G_shuffle_32 (lv_at hl 0 rfl) ?_
  refine lv_iconst (v := nI 1) X.1 X.2.1 jd_G_shuffle_34 (by decide) ?_
  refine kn_xlt X.1 X.2.1 jd_G_shuffle_35 (tgt := 78) (by decide) (by omega) (fun h35 => ?_) (fun h35 => absurd h35 (by omega))
  exact hQ _ _ _ _ _ _ (⟨rfl, rfl, rfl⟩) hP hS jd_G_shuffle_78

set_option maxHeartbeats 4000000 in
theorem c_E_send (l : Launch) (d : Nat → Nat) (D : va_G) (a : Nat → Nat) (n : Nat → Nat → Nat) (g : Nat → Nat) (hap : ∀ i j : Nat, i < 52 → j < 52 → a i = a j → i = j) (x y z : Nat) (hc : n 15 0 < 16) : jEff l d D a n g jy_E_send jb_E_send 4 none { frames := 0, cells := 0, slots := 0, locals := 0 } [.ref (a 15), .int (nI x), .int (nI y), .int (nI z)] (fun v9 n2 g2 => none = v9 ∧ ku (ku (ku (ku n 16 (n 15 0) x) 17 (n 15 0) y) 18 (n 15 0) z) 15 0 (n 15 0 + 1) = n2 ∧ g = g2) := by
  refine je_V (by decide) (Nat.le_of_ble_eq_true rfl) ?_
  intro p e s m A below meth c ls Q X hP hS hl hQ
  have hl : lv_has ls 4 [(0, .ref (a 15)), (1, .int (nI x)), (2, .int (nI y)), (3, .int (nI z))] := hl
  refine lv_aload_n X.1 X.2.1 jd_E_send_0 rfl (lv_at hl 0 rfl) ?_
  refine jg_E_21_15 X hP jd_E_send_1 ?_
  refine lv_bipush (v := nI 16) X.1 X.2.1 jd_E_send_4 (by decide) ?_
  refine kn_cne X.1 X.2.1 jd_E_send_6 (tgt := 10) (by decide) (by omega) (fun h6 => ?_) (fun h6 => absurd h6 (by omega))
  refine lv_aload_n X.1 X.2.1 jd_E_send_10 rfl (lv_at hl 0 rfl) ?_
  refine jg_E_9_15 X hP jd_E_send_11 ?_
  refine lv_aload_n X.1 X.2.1 jd_E_send_14 rfl (lv_at hl 0 rfl) ?_
  refine jg_E_21_15 X hP jd_E_send_15 ?_
  refine lv_iload_n X.1 X.2.1 jd_E_send_18 rfl (lv_at hl 1 rfl) ?_
  refine j_ast X hap hP hS 16 (n 15 0) x (by decide) (show (n 15 0) < 16 from by omega) (by decide) jd_E_send_19 (fun H locs hP hS => ?_)
  refine lv_aload_n X.1 X.2.1 jd_E_send_20 rfl (lv_at hl 0 rfl) ?_
  refine jg_E_15_15 X hP jd_E_send_21 ?_
  refine lv_aload_n X.1 X.2.1 jd_E_send_24 rfl (lv_at hl 0 rfl) ?_
  refine jg_E_21_15 X hP jd_E_send_25 ?_
  refine kn_to (y := n 15 0) (rfl) ?_
  refine lv_iload_n X.1 X.2.1 jd_E_send_28 rfl (lv_at hl 2 rfl) ?_
  refine j_ast X hap hP hS 17 (n 15 0) y (by decide) (show (n 15 0) < 16 from by omega) (by decide) jd_E_send_29 (fun H locs hP hS => ?_)
  refine lv_aload_n X.1 X.2.1 jd_E_send_30 rfl (lv_at hl 0 rfl) ?_
  refine jg_E_18_15 X hP jd_E_send_31 ?_
  refine lv_aload_n X.1 X.2.1 jd_E_send_34 rfl (lv_at hl 0 rfl) ?_
  refine jg_E_21_15 X hP jd_E_send_35 ?_
  refine kn_to (y := n 15 0) (rfl) ?_
  refine lv_iload_n X.1 X.2.1 jd_E_send_38 rfl (lv_at hl 3 rfl) ?_
  refine j_ast X hap hP hS 18 (n 15 0) z (by decide) (show (n 15 0) < 16 from by omega) (by decide) jd_E_send_39 (fun H locs hP hS => ?_)
  refine lv_aload_n X.1 X.2.1 jd_E_send_40 rfl (lv_at hl 0 rfl) ?_
  refine lv_dup X.1 X.2.1 jd_E_send_41 rfl ?_
  refine jg_E_21_15 X hP jd_E_send_42 ?_
  refine kn_to (y := n 15 0) (rfl) ?_
  refine lv_iconst (v := nI 1) X.1 X.2.1 jd_E_send_45 (by decide) ?_
  refine kn_iadd X.1 X.2.1 jd_E_send_46 ?_
  refine jp_E_21_15 X hap hP hS jd_E_send_47 (fun H locs hP hS => ?_)
  exact hQ _ _ _ _ _ _ (⟨rfl, rfl, rfl⟩) hP hS jd_E_send_50

set_option maxHeartbeats 4000000 in
theorem c_E_send_f (l : Launch) (d : Nat → Nat) (D : va_G) (a : Nat → Nat) (n : Nat → Nat → Nat) (g : Nat → Nat) (hap : ∀ i j : Nat, i < 52 → j < 52 → a i = a j → i = j) (x y z : Nat) (hc : n 15 0 = 16) : jEff l d D a n g jy_E_send jb_E_send 4 none { frames := 0, cells := 0, slots := 0, locals := 0 } [.ref (a 15), .int (nI x), .int (nI y), .int (nI z)] (fun v9 n2 g2 => none = v9 ∧ n = n2 ∧ g = g2) := by
  refine je_V (by decide) (Nat.le_of_ble_eq_true rfl) ?_
  intro p e s m A below meth c ls Q X hP hS hl hQ
  have hl : lv_has ls 4 [(0, .ref (a 15)), (1, .int (nI x)), (2, .int (nI y)), (3, .int (nI z))] := hl
  refine lv_aload_n X.1 X.2.1 jd_E_send_0 rfl (lv_at hl 0 rfl) ?_
  refine jg_E_21_15 X hP jd_E_send_1 ?_
  refine lv_bipush (v := nI 16) X.1 X.2.1 jd_E_send_4 (by decide) ?_
  refine kn_cne X.1 X.2.1 jd_E_send_6 (tgt := 10) (by decide) (by omega) (fun h6 => absurd h6 (by omega)) (fun h6 => ?_)
  exact hQ _ _ _ _ _ _ (⟨rfl, rfl, rfl⟩) hP hS jd_E_send_9

set_option maxHeartbeats 4000000 in
theorem c_E_takeOut (l : Launch) (d : Nat → Nat) (D : va_G) (a : Nat → Nat) (n : Nat → Nat → Nat) (g : Nat → Nat) (hap : ∀ i j : Nat, i < 52 → j < 52 → a i = a j → i = j) (x : Nat) (hx : x < n 15 0) (hc : n 15 0 ≤ 16) : jEff l d D a n g jy_E_takeOut jb_E_takeOut 3 none { frames := 0, cells := 0, slots := 0, locals := 0 } [.ref (a 15), .int (nI x)] (fun v9 n2 g2 => none = v9 ∧ ku (shN n x (n 15 0 - 1 - x)) 15 0 (n 15 0 - 1) = n2 ∧ g = g2) := by
  refine je_V (by decide) (Nat.le_of_ble_eq_true rfl) ?_
  intro p e s m A below meth c ls Q X hP hS hl hQ
  have hl : lv_has ls 3 [(0, .ref (a 15)), (1, .int (nI x))] := hl
  refine lv_iload_n X.1 X.2.1 jd_E_takeOut_0 rfl (lv_at hl 1 rfl) ?_
  refine lv_iconst (v := nI 1) X.1 X.2.1 jd_E_takeOut_1 (by decide) ?_
  refine kn_iadd X.1 X.2.1 jd_E_takeOut_2 ?_
  refine lv_istore_n X.1 X.2.1 jd_E_takeOut_3 rfl hl (by decide) rfl (fun ls hl => ?_)
  have hl : lv_has ls 3 [(2, .int (nI (x + 1))), (0, .ref (a 15)), (1, .int (nI x))] := hl
  have loop4 : ∀ (r k : Nat) (H : Heap) (locs : List Loc) (ls : Array Slot), k + r = n 15 0 - 1 - x → va_P D jCl (jW d a (shN n x k) g) H → va_S (jAa a s.heap.size) s.heap H locs → lv_has ls 3 [(2, .int (nI (x + 1 + k))), (0, .ref (a 15)), (1, .int (nI x))] → W p l e { frames := 0, cells := 0, slots := 0, locals := 0 } s m A below meth c H locs 0 0 Q (F0 m 4 ls []) := by
    intro r
    induction r with
    | zero => 
      intro k H locs ls hk hP hS hl
      obtain rfl : n 15 0 - 1 - x = k := by omega
      refine lv_iload_n X.1 X.2.1 jd_E_takeOut_4 rfl (lv_at hl 0 rfl) ?_
      refine lv_aload_n X.1 X.2.1 jd_E_takeOut_5 rfl (lv_at hl 1 rfl) ?_
      refine jg_E_21_15 X hP jd_E_takeOut_6 ?_
      refine kn_to (y := n 15 0) (shN_c _ _ _) ?_
      refine kn_cge X.1 X.2.1 jd_E_takeOut_9 (tgt := 60) (by decide) (by omega) (fun h9 => ?_) (fun h9 => absurd h9 (by omega))
      refine lv_aload_n X.1 X.2.1 jd_E_takeOut_60 rfl (lv_at hl 1 rfl) ?_
      refine lv_dup X.1 X.2.1 jd_E_takeOut_61 rfl ?_
      refine jg_E_21_15 X hP jd_E_takeOut_62 ?_
      refine kn_to (y := n 15 0) (shN_c _ _ _) ?_
      refine lv_iconst (v := nI 1) X.1 X.2.1 jd_E_takeOut_65 (by decide) ?_
      refine kn_isub X.1 X.2.1 jd_E_takeOut_66 (by omega) ?_
      refine jp_E_21_15 X hap hP hS jd_E_takeOut_67 (fun H locs hP hS => ?_)
      exact hQ _ _ _ _ _ _ (⟨rfl, rfl, rfl⟩) hP hS jd_E_takeOut_70
    | succ r ihr => 
      intro k H locs ls hk hP hS hl
      refine lv_iload_n X.1 X.2.1 jd_E_takeOut_4 rfl (lv_at hl 0 rfl) ?_
      refine lv_aload_n X.1 X.2.1 jd_E_takeOut_5 rfl (lv_at hl 1 rfl) ?_
      refine jg_E_21_15 X hP jd_E_takeOut_6 ?_
      refine kn_to (y := n 15 0) (shN_c _ _ _) ?_
      refine kn_cge X.1 X.2.1 jd_E_takeOut_9 (tgt := 60) (by decide) (by omega) (fun h9 => absurd h9 (by omega)) (fun h9 => ?_)
      refine lv_aload_n X.1 X.2.1 jd_E_takeOut_12 rfl (lv_at hl 1 rfl) ?_
      refine jg_E_9_15 X hP jd_E_takeOut_13 ?_
      refine lv_iload_n X.1 X.2.1 jd_E_takeOut_16 rfl (lv_at hl 0 rfl) ?_
      refine lv_iconst (v := nI 1) X.1 X.2.1 jd_E_takeOut_17 (by decide) ?_
      refine kn_isub X.1 X.2.1 jd_E_takeOut_18 (by omega) ?_
      refine lv_aload_n X.1 X.2.1 jd_E_takeOut_19 rfl (lv_at hl 1 rfl) ?_
      refine jg_E_9_15 X hP jd_E_takeOut_20 ?_
      refine lv_iload_n X.1 X.2.1 jd_E_takeOut_23 rfl (lv_at hl 0 rfl) ?_
      refine j_ald X hP 16 (x + 1 + k) (by decide) (show (x + 1 + k) < 16 from by omega) (by decide) jd_E_takeOut_24 ?_
      refine j_ast X hap hP hS 16 ((x + 1 + k) - 1) ((shN n x k) 16 (x + 1 + k)) (by decide) (show ((x + 1 + k) - 1) < 16 from by omega) (by decide) jd_E_takeOut_25 (fun H locs hP hS => ?_)
      refine lv_aload_n X.1 X.2.1 jd_E_takeOut_26 rfl (lv_at hl 1 rfl) ?_
      refine jg_E_15_15 X hP jd_E_takeOut_27 ?_
      refine lv_iload_n X.1 X.2.1 jd_E_takeOut_30 rfl (lv_at hl 0 rfl) ?_
      refine lv_iconst (v := nI 1) X.1 X.2.1 jd_E_takeOut_31 (by decide) ?_
      refine kn_isub X.1 X.2.1 jd_E_takeOut_32 (by omega) ?_
      refine lv_aload_n X.1 X.2.1 jd_E_takeOut_33 rfl (lv_at hl 1 rfl) ?_
      refine jg_E_15_15 X hP jd_E_takeOut_34 ?_
      refine lv_iload_n X.1 X.2.1 jd_E_takeOut_37 rfl (lv_at hl 0 rfl) ?_
      refine j_ald X hP 17 (x + 1 + k) (by decide) (show (x + 1 + k) < 16 from by omega) (by decide) jd_E_takeOut_38 ?_
      refine j_ast X hap hP hS 17 ((x + 1 + k) - 1) ((ku (shN n x k) 16 ((x + 1 + k) - 1) ((shN n x k) 16 (x + 1 + k))) 17 (x + 1 + k)) (by decide) (show ((x + 1 + k) - 1) < 16 from by omega) (by decide) jd_E_takeOut_39 (fun H locs hP hS => ?_)
      refine lv_aload_n X.1 X.2.1 jd_E_takeOut_40 rfl (lv_at hl 1 rfl) ?_
      refine jg_E_18_15 X hP jd_E_takeOut_41 ?_
      refine lv_iload_n X.1 X.2.1 jd_E_takeOut_44 rfl (lv_at hl 0 rfl) ?_
      refine lv_iconst (v := nI 1) X.1 X.2.1 jd_E_takeOut_45 (by decide) ?_
      refine kn_isub X.1 X.2.1 jd_E_takeOut_46 (by omega) ?_
      refine lv_aload_n X.1 X.2.1 jd_E_takeOut_47 rfl (lv_at hl 1 rfl) ?_
      refine jg_E_18_15 X hP jd_E_takeOut_48 ?_
      refine lv_iload_n X.1 X.2.1 jd_E_takeOut_51 rfl (lv_at hl 0 rfl) ?_
      refine j_ald X hP 18 (x + 1 + k) (by decide) (show (x + 1 + k) < 16 from by omega) (by decide) jd_E_takeOut_52 ?_
      refine j_ast X hap hP hS 18 ((x + 1 + k) - 1) ((ku (ku (shN n x k) 16 ((x + 1 + k) - 1) ((shN n x k) 16 (x + 1 + k))) 17 ((x + 1 + k) - 1) ((ku (shN n x k) 16 ((x + 1 + k) - 1) ((shN n x k) 16 (x + 1 + k))) 17 (x + 1 + k))) 18 (x + 1 + k)) (by decide) (show ((x + 1 + k) - 1) < 16 from by omega) (by decide) jd_E_takeOut_53 (fun H locs hP hS => ?_)
      refine lv_iinc (k := 0) (v := nI ((x + 1 + k) + 1)) X.1 X.2.1 jd_E_takeOut_54 hl rfl (kn_inc _) (by decide) rfl (fun ls hl => ?_)
      have hl : lv_has ls 3 [(2, .int (nI ((x + 1 + k) + 1))), (0, .ref (a 15)), (1, .int (nI x))] := hl
      refine lv_goto X.1 X.2.1 jd_E_takeOut_57 (tgt := 4) (by decide) ?_
      have hl : lv_has ls 3 [(2, .int (nI (x + 1 + (k + 1)))), (0, .ref (a 15)), (1, .int (nI x))] := lv_sub hl [0, 1, 2] rfl
      exact ihr (k + 1) H locs ls (by omega) hP hS hl
  have hl : lv_has ls 3 [(2, .int (nI (x + 1 + 0))), (0, .ref (a 15)), (1, .int (nI x))] := lv_sub hl [0, 1, 2] rfl
  exact loop4 (n 15 0 - 1 - x) 0 s.heap [] ls (by omega) hP hS hl

set_option maxHeartbeats 4000000 in
theorem c_Arrays_fill (l : Launch) (d : Nat → Nat) (D : va_G) (a : Nat → Nat) (n : Nat → Nat → Nat) (g : Nat → Nat) (hap : ∀ i j : Nat, i < 52 → j < 52 → a i = a j → i = j) (q x : Nat) (hq : q < 52) (hI : jI q = 128) : jEff l d D a n g jy_Arrays_fill jb_Arrays_fill 4 none { frames := 0, cells := 0, slots := 0, locals := 0 } [.ref (a q), .int (nI x)] (fun v9 n2 g2 => none = v9 ∧ fiF n q x 128 = n2 ∧ g = g2) := by
  refine je_V (by decide) (Nat.le_of_ble_eq_true rfl) ?_
  intro p e s m A below meth c ls Q X hP hS hl hQ
  have hl : lv_has ls 4 [(0, .ref (a q)), (1, .int (nI x))] := hl
  refine lv_iconst (v := nI 0) X.1 X.2.1 jd_Arrays_fill_0 (by decide) ?_
  refine lv_istore_n X.1 X.2.1 jd_Arrays_fill_1 rfl hl (by decide) rfl (fun ls hl => ?_)
  have hl : lv_has ls 4 [(2, .int (nI 0)), (0, .ref (a q)), (1, .int (nI x))] := hl
  refine lv_aload_n X.1 X.2.1 jd_Arrays_fill_2 rfl (lv_at hl 1 rfl) ?_
  refine va_alen X.1 X.2.1 X.2.2.2.2.2.2.2.1 hP q 0 (by rw [jW_g q hq, jE_I q hq (by omega)]) rfl (v := nI 128) (by show Int32.ofNat (jI q) = nI 128; rw [hI]; rfl) jd_Arrays_fill_3 ?_
  refine lv_istore_n X.1 X.2.1 jd_Arrays_fill_4 rfl hl (by decide) rfl (fun ls hl => ?_)
  have hl : lv_has ls 4 [(3, .int (nI 128)), (2, .int (nI 0)), (0, .ref (a q)), (1, .int (nI x))] := hl
  have loop5 : ∀ (r k : Nat) (H : Heap) (locs : List Loc) (ls : Array Slot), k + r = 128 → va_P D jCl (jW d a (fiF n q x k) g) H → va_S (jAa a s.heap.size) s.heap H locs → lv_has ls 4 [(2, .int (nI k)), (3, .int (nI 128)), (0, .ref (a q)), (1, .int (nI x))] → W p l e { frames := 0, cells := 0, slots := 0, locals := 0 } s m A below meth c H locs 0 0 Q (F0 m 5 ls []) := by
    intro r
    induction r with
    | zero => 
      intro k H locs ls hk hP hS hl
      obtain rfl : 128 = k := by omega
      refine lv_iload_n X.1 X.2.1 jd_Arrays_fill_5 rfl (lv_at hl 0 rfl) ?_
      refine lv_iload_n X.1 X.2.1 jd_Arrays_fill_6 rfl (lv_at hl 1 rfl) ?_
      refine kn_cge X.1 X.2.1 jd_Arrays_fill_7 (tgt := 20) (by decide) (by omega) (fun h7 => ?_) (fun h7 => absurd h7 (by omega))
      exact hQ _ _ _ _ _ _ (⟨rfl, rfl, rfl⟩) hP hS jd_Arrays_fill_20
    | succ r ihr => 
      intro k H locs ls hk hP hS hl
      refine lv_iload_n X.1 X.2.1 jd_Arrays_fill_5 rfl (lv_at hl 0 rfl) ?_
      refine lv_iload_n X.1 X.2.1 jd_Arrays_fill_6 rfl (lv_at hl 1 rfl) ?_
      refine kn_cge X.1 X.2.1 jd_Arrays_fill_7 (tgt := 20) (by decide) (by omega) (fun h7 => absurd h7 (by omega)) (fun h7 => ?_)
      refine lv_aload_n X.1 X.2.1 jd_Arrays_fill_10 rfl (lv_at hl 2 rfl) ?_
      refine lv_iload_n X.1 X.2.1 jd_Arrays_fill_11 rfl (lv_at hl 0 rfl) ?_
      refine lv_iload_n X.1 X.2.1 jd_Arrays_fill_12 rfl (lv_at hl 3 rfl) ?_
      refine j_ast X hap hP hS q k x hq (by omega) (by omega) jd_Arrays_fill_13 (fun H locs hP hS => ?_)
      refine lv_iinc (k := 0) (v := nI (k + 1)) X.1 X.2.1 jd_Arrays_fill_14 hl rfl (kn_inc _) (by decide) rfl (fun ls hl => ?_)
      have hl : lv_has ls 4 [(2, .int (nI (k + 1))), (3, .int (nI 128)), (0, .ref (a q)), (1, .int (nI x))] := hl
      refine lv_goto X.1 X.2.1 jd_Arrays_fill_17 (tgt := 5) (by decide) ?_
      have hl : lv_has ls 4 [(2, .int (nI (k + 1))), (3, .int (nI 128)), (0, .ref (a q)), (1, .int (nI x))] := lv_sub hl [0, 1, 2, 3] rfl
      exact ihr (k + 1) H locs ls (by omega) hP hS hl
  have hl : lv_has ls 4 [(2, .int (nI 0)), (3, .int (nI 128)), (0, .ref (a q)), (1, .int (nI x))] := lv_sub hl [1, 0, 2, 3] rfl
  exact loop5 (128) 0 s.heap [] ls (by omega) hP hS hl
