set_option maxHeartbeats 4000000 in
theorem c_M_answered (l : Launch) (d : Nat → Nat) (D : va_G) (a : Nat → Nat) (n : Nat → Nat → Nat) (g : Nat → Nat) (hap : ∀ i j : Nat, i < 52 → j < 52 → a i = a j → i = j) (i : Nat) (hi : i < n 33 10) (hd : n 33 10 ≤ 512) : jEff l d D a n g jy_M_answered jb_M_answered 2 (some .int) { frames := 1, cells := 0, slots := 0, locals := 22 } [.ref (a 33), .int (nI i)] (fun v9 n2 g2 => some (.int (nI (65536 * n 42 (i + 1) + 256 * n 43 (i + 1) + n 44 (i + 1)))) = v9 ∧ (ku n 33 0 0) = n2 ∧ g = g2) := by
  refine je_I (by decide) (Nat.le_of_ble_eq_true rfl) ?_
  intro p e s m A below meth c ls Q X hP hS hl hQ
  have hl : lv_has ls 2 [(0, .ref (a 33)), (1, .int (nI i))] := hl
  refine lv_aload_n X.1 X.2.1 jd_M_answered_0 rfl (lv_at hl 0 rfl) ?_
  refine lv_iconst (v := nI 0) X.1 X.2.1 jd_M_answered_1 (by decide) ?_
  refine jp_M_66_33 X hap hP hS jd_M_answered_2 (fun H locs hP hS => ?_)
  refine lv_iload_n X.1 X.2.1 jd_M_answered_5 rfl (lv_at hl 1 rfl) ?_
  refine lv_iconst (v := nI 0) X.1 X.2.1 jd_M_answered_6 (by decide) ?_
  refine lv_aload_n X.1 X.2.1 jd_M_answered_7 rfl (lv_at hl 0 rfl) ?_
  refine jg_M_166_33 X hP jd_M_answered_8 ?_
  refine kn_to (y := n 33 10) (rfl) ?_
  refine lv_iconst (v := nI 1) X.1 X.2.1 jd_M_answered_11 (by decide) ?_
  refine lv_isub X.1 X.2.1 jd_M_answered_12 ?_
  refine kn_is (y := (((n 33 10) + 4294967296 - 1) % 4294967296)) (kn_subw (by omega)) ?_
  refine j_run (j_mkS X (c_M_withinD l d D a (ku n 33 0 0) g i (n 33 10) (by omega) (by omega)) jU_b (j_pp X hP) jm_714 jm_713 jm_6 jm_712 (show jOk jy_M_within 3 by unfold jOk; decide +kernel) (by decide) ⟨rfl, rfl⟩ hl.1 rfl (Nat.le_of_ble_eq_true rfl) ⟨Nat.zero_le _, Nat.zero_le _⟩ jd_M_answered_13) ?_
  refine W.eq (g2 := F0 m 16 ls [.int (nI (if i < n 33 10 then 1 else 0))]) rfl ?_
  refine kn_to (y := 1) (if_pos (by omega)) ?_
  refine kn_eq0 X.1 X.2.1 jd_M_answered_16 (tgt := 55) (by decide) (by omega) (fun h16 => absurd h16 (by decide)) (fun h16 => ?_)
  refine lv_ldc (v := nI 65536) X.1 X.2.1 X.2.2.2.2.2.1 (X.2.2.2.2.2.2.1 _ jm_822) jd_M_answered_19 ?_
  refine lv_aload_n X.1 X.2.1 jd_M_answered_21 rfl (lv_at hl 0 rfl) ?_
  refine jg_M_39_33 X hP jd_M_answered_22 ?_
  refine lv_iload_n X.1 X.2.1 jd_M_answered_25 rfl (lv_at hl 1 rfl) ?_
  refine lv_iconst (v := nI 1) X.1 X.2.1 jd_M_answered_26 (by decide) ?_
  refine kn_iadd X.1 X.2.1 jd_M_answered_27 ?_
  refine j_ald X hP 42 (i + 1) (by decide) (show (i + 1) < 700 from by omega) (by decide) jd_M_answered_28 ?_
  refine kn_imul X.1 X.2.1 jd_M_answered_29 ?_
  refine lv_sipush (v := nI 256) X.1 X.2.1 jd_M_answered_30 (by decide) ?_
  refine lv_aload_n X.1 X.2.1 jd_M_answered_33 rfl (lv_at hl 0 rfl) ?_
  refine jg_M_42_33 X hP jd_M_answered_34 ?_
  refine lv_iload_n X.1 X.2.1 jd_M_answered_37 rfl (lv_at hl 1 rfl) ?_
  refine lv_iconst (v := nI 1) X.1 X.2.1 jd_M_answered_38 (by decide) ?_
  refine kn_iadd X.1 X.2.1 jd_M_answered_39 ?_
  refine j_ald X hP 43 (i + 1) (by decide) (show (i + 1) < 700 from by omega) (by decide) jd_M_answered_40 ?_
  refine kn_imul X.1 X.2.1 jd_M_answered_41 ?_
  refine kn_iadd X.1 X.2.1 jd_M_answered_42 ?_
  refine lv_aload_n X.1 X.2.1 jd_M_answered_43 rfl (lv_at hl 0 rfl) ?_
  refine jg_M_45_33 X hP jd_M_answered_44 ?_
  refine lv_iload_n X.1 X.2.1 jd_M_answered_47 rfl (lv_at hl 1 rfl) ?_
  refine lv_iconst (v := nI 1) X.1 X.2.1 jd_M_answered_48 (by decide) ?_
  refine kn_iadd X.1 X.2.1 jd_M_answered_49 ?_
  refine j_ald X hP 44 (i + 1) (by decide) (show (i + 1) < 700 from by omega) (by decide) jd_M_answered_50 ?_
  refine kn_iadd X.1 X.2.1 jd_M_answered_51 ?_
  refine lv_goto X.1 X.2.1 jd_M_answered_52 (tgt := 56) (by decide) ?_
  exact hQ _ _ _ _ _ _ _ (⟨rfl, rfl, rfl⟩) hP hS jd_M_answered_56

set_option maxHeartbeats 4000000 in
theorem c_M_answered_x (l : Launch) (d : Nat → Nat) (D : va_G) (a : Nat → Nat) (n : Nat → Nat → Nat) (g : Nat → Nat) (hap : ∀ i j : Nat, i < 52 → j < 52 → a i = a j → i = j) (i : Nat) (hx : i < 4294967296) (hi : ¬ i < n 33 10) (hd : n 33 10 ≤ 512) : jEff l d D a n g jy_M_answered jb_M_answered 2 (some .int) { frames := 1, cells := 0, slots := 0, locals := 22 } [.ref (a 33), .int (nI i)] (fun v9 n2 g2 => some (.int (nI 4294967295)) = v9 ∧ (ku n 33 0 0) = n2 ∧ g = g2) := by
  refine je_I (by decide) (Nat.le_of_ble_eq_true rfl) ?_
  intro p e s m A below meth c ls Q X hP hS hl hQ
  have hl : lv_has ls 2 [(0, .ref (a 33)), (1, .int (nI i))] := hl
  refine lv_aload_n X.1 X.2.1 jd_M_answered_0 rfl (lv_at hl 0 rfl) ?_
  refine lv_iconst (v := nI 0) X.1 X.2.1 jd_M_answered_1 (by decide) ?_
  refine jp_M_66_33 X hap hP hS jd_M_answered_2 (fun H locs hP hS => ?_)
  refine lv_iload_n X.1 X.2.1 jd_M_answered_5 rfl (lv_at hl 1 rfl) ?_
  refine lv_iconst (v := nI 0) X.1 X.2.1 jd_M_answered_6 (by decide) ?_
  refine lv_aload_n X.1 X.2.1 jd_M_answered_7 rfl (lv_at hl 0 rfl) ?_
  refine jg_M_166_33 X hP jd_M_answered_8 ?_
  refine kn_to (y := n 33 10) (rfl) ?_
  refine lv_iconst (v := nI 1) X.1 X.2.1 jd_M_answered_11 (by decide) ?_
  refine lv_isub X.1 X.2.1 jd_M_answered_12 ?_
  refine kn_is (y := (((n 33 10) + 4294967296 - 1) % 4294967296)) (kn_subw (by omega)) ?_
  refine j_run (j_mkS X (c_M_withinD l d D a (ku n 33 0 0) g i (n 33 10) (by omega) (by omega)) jU_b (j_pp X hP) jm_714 jm_713 jm_6 jm_712 (show jOk jy_M_within 3 by unfold jOk; decide +kernel) (by decide) ⟨rfl, rfl⟩ hl.1 rfl (Nat.le_of_ble_eq_true rfl) ⟨Nat.zero_le _, Nat.zero_le _⟩ jd_M_answered_13) ?_
  refine W.eq (g2 := F0 m 16 ls [.int (nI (if i < n 33 10 then 1 else 0))]) rfl ?_
  refine kn_to (y := 0) (if_neg (by omega)) ?_
  refine kn_eq0 X.1 X.2.1 jd_M_answered_16 (tgt := 55) (by decide) (by omega) (fun h16 => ?_) (fun h16 => absurd h16 (by decide))
  refine lv_iconst (v := nI 4294967295) X.1 X.2.1 jd_M_answered_55 (by decide) ?_
  exact hQ _ _ _ _ _ _ _ (⟨rfl, rfl, rfl⟩) hP hS jd_M_answered_56

set_option maxHeartbeats 4000000 in
theorem c_M_bit_1 (l : Launch) (d : Nat → Nat) (D : va_G) (a : Nat → Nat) (n : Nat → Nat → Nat) (g : Nat → Nat) (hap : ∀ i j : Nat, i < 52 → j < 52 → a i = a j → i = j) (hB : NB n) (x i : Nat) (hs : n 33 1 = 0) : jEff l d D a n g jy_M_bit jb_M_bit 3 (some .int) { frames := 1, cells := 0, slots := 0, locals := 22 } [.ref (a 33), .int (nI x), .int (nI i)] (fun v9 n2 g2 => some (.int (nI 0)) = v9 ∧ ku n 33 0 1 = n2 ∧ g = g2) := by
  refine je_I (by decide) (Nat.le_of_ble_eq_true rfl) ?_
  intro p e s m A below meth c ls Q X hP hS hl hQ
  have hl : lv_has ls 3 [(0, .ref (a 33)), (1, .int (nI x)), (2, .int (nI i))] := hl
  refine lv_aload_n X.1 X.2.1 jd_M_bit_0 rfl (lv_at hl 0 rfl) ?_
  refine lv_aload_n X.1 X.2.1 jd_M_bit_1 rfl (lv_at hl 0 rfl) ?_
  refine jg_M_77_33 X hP jd_M_bit_2 ?_
  refine kn_ne0 X.1 X.2.1 jd_M_bit_5 (tgt := 12) (by decide) (hB _ _) (fun h5 => absurd h5 (fun q => q hs)) (fun h5 => ?_)
  refine lv_iconst (v := nI 1) X.1 X.2.1 jd_M_bit_8 (by decide) ?_
  refine lv_goto X.1 X.2.1 jd_M_bit_9 (tgt := 38) (by decide) ?_
  refine jp_M_66_33 X hap hP hS jd_M_bit_38 (fun H locs hP hS => ?_)
  refine lv_aload_n X.1 X.2.1 jd_M_bit_41 rfl (lv_at hl 0 rfl) ?_
  refine jg_M_66_33 X hP jd_M_bit_42 ?_
  refine kn_to (y := 1) (rfl) ?_
  refine kn_le0 X.1 X.2.1 jd_M_bit_45 (tgt := 52) (by decide) (by omega) (fun h45 => absurd h45 (by omega)) (fun h45 => ?_)
  refine lv_iconst (v := nI 0) X.1 X.2.1 jd_M_bit_48 (by decide) ?_
  refine lv_goto X.1 X.2.1 jd_M_bit_49 (tgt := 64) (by decide) ?_
  exact hQ _ _ _ _ _ _ _ (⟨rfl, rfl, rfl⟩) hP hS jd_M_bit_64

set_option maxHeartbeats 4000000 in
theorem c_M_bit_2 (l : Launch) (d : Nat → Nat) (D : va_G) (a : Nat → Nat) (n : Nat → Nat → Nat) (g : Nat → Nat) (hap : ∀ i j : Nat, i < 52 → j < 52 → a i = a j → i = j) (hB : NB n) (x i : Nat) (hx : x < 4294967296) (hi : i < 4294967296) (hs : ¬ n 33 1 = 0) (hn : n 33 2 ≤ 128) (hbad : ¬ (x < 2 ∧ i < n 33 2)) : jEff l d D a n g jy_M_bit jb_M_bit 3 (some .int) { frames := 1, cells := 0, slots := 0, locals := 22 } [.ref (a 33), .int (nI x), .int (nI i)] (fun v9 n2 g2 => some (.int (nI 0)) = v9 ∧ ku n 33 0 2 = n2 ∧ g = g2) := by
  refine je_I (by decide) (Nat.le_of_ble_eq_true rfl) ?_
  intro p e s m A below meth c ls Q X hP hS hl hQ
  have hl : lv_has ls 3 [(0, .ref (a 33)), (1, .int (nI x)), (2, .int (nI i))] := hl
  refine lv_aload_n X.1 X.2.1 jd_M_bit_0 rfl (lv_at hl 0 rfl) ?_
  refine lv_aload_n X.1 X.2.1 jd_M_bit_1 rfl (lv_at hl 0 rfl) ?_
  refine jg_M_77_33 X hP jd_M_bit_2 ?_
  refine kn_ne0 X.1 X.2.1 jd_M_bit_5 (tgt := 12) (by decide) (hB _ _) (fun h5 => ?_) (fun h5 => absurd h5 (hs))
  refine lv_iload_n X.1 X.2.1 jd_M_bit_12 rfl (lv_at hl 1 rfl) ?_
  refine j_run (j_mkS X (c_M_isStation l d D a n g x hx) jU_b (j_pp X hP) jm_711 jm_710 jm_6 jm_709 (show jOk jy_M_isStation 1 by unfold jOk; decide +kernel) (by decide) ⟨rfl, rfl⟩ hl.1 rfl (Nat.le_of_ble_eq_true rfl) ⟨Nat.zero_le _, Nat.zero_le _⟩ jd_M_bit_13) ?_
  refine W.eq (g2 := F0 m 16 ls [.int (nI (if x < 2 then 1 else 0)), .ref (a 33)]) rfl ?_
  refine kn_eq0 X.1 X.2.1 jd_M_bit_16 (tgt := 33) (by decide) (by split <;> omega) (fun h16 => ?_) (fun h16 => ?_)
  · skip
    refine lv_iconst (v := nI 2) X.1 X.2.1 jd_M_bit_33 (by decide) ?_
    refine lv_goto X.1 X.2.1 jd_M_bit_34 (tgt := 38) (by decide) ?_
    refine jp_M_66_33 X hap hP hS jd_M_bit_38 (fun H locs hP hS => ?_)
    refine lv_aload_n X.1 X.2.1 jd_M_bit_41 rfl (lv_at hl 0 rfl) ?_
    refine jg_M_66_33 X hP jd_M_bit_42 ?_
    refine kn_to (y := 2) (rfl) ?_
    refine kn_le0 X.1 X.2.1 jd_M_bit_45 (tgt := 52) (by decide) (by omega) (fun h45 => absurd h45 (by omega)) (fun h45 => ?_)
    refine lv_iconst (v := nI 0) X.1 X.2.1 jd_M_bit_48 (by decide) ?_
    refine lv_goto X.1 X.2.1 jd_M_bit_49 (tgt := 64) (by decide) ?_
    exact hQ _ _ _ _ _ _ _ (⟨rfl, rfl, rfl⟩) hP hS jd_M_bit_64
  · skip
    refine lv_iload_n X.1 X.2.1 jd_M_bit_19 rfl (lv_at hl 2 rfl) ?_
    refine lv_iconst (v := nI 0) X.1 X.2.1 jd_M_bit_20 (by decide) ?_
    refine lv_aload_n X.1 X.2.1 jd_M_bit_21 rfl (lv_at hl 0 rfl) ?_
    refine jg_M_85_33 X hP jd_M_bit_22 ?_
    refine lv_iconst (v := nI 1) X.1 X.2.1 jd_M_bit_25 (by decide) ?_
    refine lv_isub X.1 X.2.1 jd_M_bit_26 ?_
    refine kn_is (y := (((n 33 2) + 4294967296 - 1) % 4294967296)) (kn_subw (by omega)) ?_
    refine j_run (j_mkS X (c_M_withinD l d D a n g i (n 33 2) (by omega) (by omega)) jU_b (j_pp X hP) jm_714 jm_713 jm_6 jm_712 (show jOk jy_M_within 3 by unfold jOk; decide +kernel) (by decide) ⟨rfl, rfl⟩ hl.1 rfl (Nat.le_of_ble_eq_true rfl) ⟨Nat.zero_le _, Nat.zero_le _⟩ jd_M_bit_27) ?_
    refine W.eq (g2 := F0 m 30 ls [.int (nI (if i < n 33 2 then 1 else 0)), .ref (a 33)]) rfl ?_
    refine kn_ne0 X.1 X.2.1 jd_M_bit_30 (tgt := 37) (by decide) (by split <;> omega) (fun h30 => ?_) (fun h30 => ?_)
    · skip
      exact absurd ⟨kn_if1 h16, kn_if1 h30⟩ hbad
    · skip
      refine lv_iconst (v := nI 2) X.1 X.2.1 jd_M_bit_33 (by decide) ?_
      refine lv_goto X.1 X.2.1 jd_M_bit_34 (tgt := 38) (by decide) ?_
      refine jp_M_66_33 X hap hP hS jd_M_bit_38 (fun H locs hP hS => ?_)
      refine lv_aload_n X.1 X.2.1 jd_M_bit_41 rfl (lv_at hl 0 rfl) ?_
      refine jg_M_66_33 X hP jd_M_bit_42 ?_
      refine kn_to (y := 2) (rfl) ?_
      refine kn_le0 X.1 X.2.1 jd_M_bit_45 (tgt := 52) (by decide) (by omega) (fun h45 => absurd h45 (by omega)) (fun h45 => ?_)
      refine lv_iconst (v := nI 0) X.1 X.2.1 jd_M_bit_48 (by decide) ?_
      refine lv_goto X.1 X.2.1 jd_M_bit_49 (tgt := 64) (by decide) ?_
      exact hQ _ _ _ _ _ _ _ (⟨rfl, rfl, rfl⟩) hP hS jd_M_bit_64

set_option maxHeartbeats 4000000 in
theorem c_M_bit (l : Launch) (d : Nat → Nat) (D : va_G) (a : Nat → Nat) (n : Nat → Nat → Nat) (g : Nat → Nat) (hap : ∀ i j : Nat, i < 52 → j < 52 → a i = a j → i = j) (hB : NB n) (x i : Nat) (hx : x < 2) (hs : ¬ n 33 1 = 0) (hn : n 33 2 ≤ 128) (hi : i < n 33 2) : jEff l d D a n g jy_M_bit jb_M_bit 3 (some .int) { frames := 1, cells := 0, slots := 0, locals := 22 } [.ref (a 33), .int (nI x), .int (nI i)] (fun v9 n2 g2 => some (.int (nI (n 38 (128 * x + i)))) = v9 ∧ (ku n 33 0 0) = n2 ∧ g = g2) := by
  refine je_I (by decide) (Nat.le_of_ble_eq_true rfl) ?_
  intro p e s m A below meth c ls Q X hP hS hl hQ
  have hl : lv_has ls 3 [(0, .ref (a 33)), (1, .int (nI x)), (2, .int (nI i))] := hl
  refine lv_aload_n X.1 X.2.1 jd_M_bit_0 rfl (lv_at hl 0 rfl) ?_
  refine lv_aload_n X.1 X.2.1 jd_M_bit_1 rfl (lv_at hl 0 rfl) ?_
  refine jg_M_77_33 X hP jd_M_bit_2 ?_
  refine kn_ne0 X.1 X.2.1 jd_M_bit_5 (tgt := 12) (by decide) (hB _ _) (fun h5 => ?_) (fun h5 => absurd h5 (hs))
  refine lv_iload_n X.1 X.2.1 jd_M_bit_12 rfl (lv_at hl 1 rfl) ?_
  refine j_run (j_mkS X (c_M_isStation l d D a n g x (by first | decide | omega)) jU_b (j_pp X hP) jm_711 jm_710 jm_6 jm_709 (show jOk jy_M_isStation 1 by unfold jOk; decide +kernel) (by decide) ⟨rfl, rfl⟩ hl.1 rfl (Nat.le_of_ble_eq_true rfl) ⟨Nat.zero_le _, Nat.zero_le _⟩ jd_M_bit_13) ?_
  refine W.eq (g2 := F0 m 16 ls [.int (nI (if x < 2 then 1 else 0)), .ref (a 33)]) rfl ?_
  refine kn_to (y := 1) (if_pos (by first | decide | omega)) ?_
  refine kn_eq0 X.1 X.2.1 jd_M_bit_16 (tgt := 33) (by decide) (by omega) (fun h16 => absurd h16 (by decide)) (fun h16 => ?_)
  refine lv_iload_n X.1 X.2.1 jd_M_bit_19 rfl (lv_at hl 2 rfl) ?_
  refine lv_iconst (v := nI 0) X.1 X.2.1 jd_M_bit_20 (by decide) ?_
  refine lv_aload_n X.1 X.2.1 jd_M_bit_21 rfl (lv_at hl 0 rfl) ?_
  refine jg_M_85_33 X hP jd_M_bit_22 ?_
  refine lv_iconst (v := nI 1) X.1 X.2.1 jd_M_bit_25 (by decide) ?_
  refine lv_isub X.1 X.2.1 jd_M_bit_26 ?_
  refine kn_is (y := (((n 33 2) + 4294967296 - 1) % 4294967296)) (kn_subw (by omega)) ?_
  refine j_run (j_mkS X (c_M_withinD l d D a n g i (n 33 2) (by omega) (by omega)) jU_b (j_pp X hP) jm_714 jm_713 jm_6 jm_712 (show jOk jy_M_within 3 by unfold jOk; decide +kernel) (by decide) ⟨rfl, rfl⟩ hl.1 rfl (Nat.le_of_ble_eq_true rfl) ⟨Nat.zero_le _, Nat.zero_le _⟩ jd_M_bit_27) ?_
  refine W.eq (g2 := F0 m 30 ls [.int (nI (if i < n 33 2 then 1 else 0)), .ref (a 33)]) rfl ?_
  refine kn_to (y := 1) (if_pos (by omega)) ?_
  refine kn_ne0 X.1 X.2.1 jd_M_bit_30 (tgt := 37) (by decide) (by omega) (fun h30 => ?_) (fun h30 => absurd h30 (by decide))
  refine lv_iconst (v := nI 0) X.1 X.2.1 jd_M_bit_37 (by decide) ?_
  refine jp_M_66_33 X hap hP hS jd_M_bit_38 (fun H locs hP hS => ?_)
  refine lv_aload_n X.1 X.2.1 jd_M_bit_41 rfl (lv_at hl 0 rfl) ?_
  refine jg_M_66_33 X hP jd_M_bit_42 ?_
  refine kn_to (y := 0) (rfl) ?_
  refine kn_le0 X.1 X.2.1 jd_M_bit_45 (tgt := 52) (by decide) (by omega) (fun h45 => ?_) (fun h45 => absurd h45 (by omega))
  refine lv_aload_n X.1 X.2.1 jd_M_bit_52 rfl (lv_at hl 0 rfl) ?_
  refine jg_M_23_33 X hP jd_M_bit_53 ?_
  refine lv_sipush (v := nI 128) X.1 X.2.1 jd_M_bit_56 (by decide) ?_
  refine lv_iload_n X.1 X.2.1 jd_M_bit_59 rfl (lv_at hl 1 rfl) ?_
  refine kn_imul X.1 X.2.1 jd_M_bit_60 ?_
  refine lv_iload_n X.1 X.2.1 jd_M_bit_61 rfl (lv_at hl 2 rfl) ?_
  refine kn_iadd X.1 X.2.1 jd_M_bit_62 ?_
  refine j_ald X hP 38 ((128 * x) + i) (by decide) (show ((128 * x) + i) < 256 from by omega) (by decide) jd_M_bit_63 ?_
  exact hQ _ _ _ _ _ _ _ (⟨rfl, rfl, rfl⟩) hP hS jd_M_bit_64

set_option maxHeartbeats 4000000 in
theorem c_M_item_1 (l : Launch) (d : Nat → Nat) (D : va_G) (a : Nat → Nat) (n : Nat → Nat → Nat) (g : Nat → Nat) (hap : ∀ i j : Nat, i < 52 → j < 52 → a i = a j → i = j) (hB : NB n) (x i : Nat) (hs : n 33 5 = 0) : jEff l d D a n g jy_M_item jb_M_item 3 (some .int) { frames := 1, cells := 0, slots := 0, locals := 22 } [.ref (a 33), .int (nI x), .int (nI i)] (fun v9 n2 g2 => some (.int (nI 0)) = v9 ∧ ku n 33 0 1 = n2 ∧ g = g2) := by
  refine je_I (by decide) (Nat.le_of_ble_eq_true rfl) ?_
  intro p e s m A below meth c ls Q X hP hS hl hQ
  have hl : lv_has ls 3 [(0, .ref (a 33)), (1, .int (nI x)), (2, .int (nI i))] := hl
  refine lv_aload_n X.1 X.2.1 jd_M_item_0 rfl (lv_at hl 0 rfl) ?_
  refine lv_aload_n X.1 X.2.1 jd_M_item_1 rfl (lv_at hl 0 rfl) ?_
  refine jg_M_104_33 X hP jd_M_item_2 ?_
  refine kn_ne0 X.1 X.2.1 jd_M_item_5 (tgt := 12) (by decide) (hB _ _) (fun h5 => absurd h5 (fun q => q hs)) (fun h5 => ?_)
  refine lv_iconst (v := nI 1) X.1 X.2.1 jd_M_item_8 (by decide) ?_
  refine lv_goto X.1 X.2.1 jd_M_item_9 (tgt := 40) (by decide) ?_
  refine jp_M_66_33 X hap hP hS jd_M_item_40 (fun H locs hP hS => ?_)
  refine lv_aload_n X.1 X.2.1 jd_M_item_43 rfl (lv_at hl 0 rfl) ?_
  refine jg_M_66_33 X hP jd_M_item_44 ?_
  refine kn_to (y := 1) (rfl) ?_
  refine kn_le0 X.1 X.2.1 jd_M_item_47 (tgt := 54) (by decide) (by omega) (fun h47 => absurd h47 (by omega)) (fun h47 => ?_)
  refine lv_iconst (v := nI 0) X.1 X.2.1 jd_M_item_50 (by decide) ?_
  refine lv_goto X.1 X.2.1 jd_M_item_51 (tgt := 66) (by decide) ?_
  exact hQ _ _ _ _ _ _ _ (⟨rfl, rfl, rfl⟩) hP hS jd_M_item_66

set_option maxHeartbeats 4000000 in
theorem c_M_item_2 (l : Launch) (d : Nat → Nat) (D : va_G) (a : Nat → Nat) (n : Nat → Nat → Nat) (g : Nat → Nat) (hap : ∀ i j : Nat, i < 52 → j < 52 → a i = a j → i = j) (hB : NB n) (x i : Nat) (hx : x < 4294967296) (hi : i < 4294967296) (hs : ¬ n 33 5 = 0) (hn : n 33 2 ≤ 128) (hbad : ¬ (x < 4 ∧ i < n 33 2)) : jEff l d D a n g jy_M_item jb_M_item 3 (some .int) { frames := 1, cells := 0, slots := 0, locals := 22 } [.ref (a 33), .int (nI x), .int (nI i)] (fun v9 n2 g2 => some (.int (nI 0)) = v9 ∧ ku n 33 0 2 = n2 ∧ g = g2) := by
  refine je_I (by decide) (Nat.le_of_ble_eq_true rfl) ?_
  intro p e s m A below meth c ls Q X hP hS hl hQ
  have hl : lv_has ls 3 [(0, .ref (a 33)), (1, .int (nI x)), (2, .int (nI i))] := hl
  refine lv_aload_n X.1 X.2.1 jd_M_item_0 rfl (lv_at hl 0 rfl) ?_
  refine lv_aload_n X.1 X.2.1 jd_M_item_1 rfl (lv_at hl 0 rfl) ?_
  refine jg_M_104_33 X hP jd_M_item_2 ?_
  refine kn_ne0 X.1 X.2.1 jd_M_item_5 (tgt := 12) (by decide) (hB _ _) (fun h5 => ?_) (fun h5 => absurd h5 (hs))
  refine lv_iload_n X.1 X.2.1 jd_M_item_12 rfl (lv_at hl 1 rfl) ?_
  refine lv_iconst (v := nI 0) X.1 X.2.1 jd_M_item_13 (by decide) ?_
  refine lv_iconst (v := nI 3) X.1 X.2.1 jd_M_item_14 (by decide) ?_
  refine j_run (j_mkS X (c_M_within l d D a n g x 0 3 (by omega) (by omega) (by omega)) jU_b (j_pp X hP) jm_714 jm_713 jm_6 jm_712 (show jOk jy_M_within 3 by unfold jOk; decide +kernel) (by decide) ⟨rfl, rfl⟩ hl.1 rfl (Nat.le_of_ble_eq_true rfl) ⟨Nat.zero_le _, Nat.zero_le _⟩ jd_M_item_15) ?_
  refine W.eq (g2 := F0 m 18 ls [.int (nI (if 0 ≤ x ∧ x ≤ 3 then 1 else 0)), .ref (a 33)]) rfl ?_
  refine kn_eq0 X.1 X.2.1 jd_M_item_18 (tgt := 35) (by decide) (by split <;> omega) (fun h18 => ?_) (fun h18 => ?_)
  · skip
    refine lv_iconst (v := nI 2) X.1 X.2.1 jd_M_item_35 (by decide) ?_
    refine lv_goto X.1 X.2.1 jd_M_item_36 (tgt := 40) (by decide) ?_
    refine jp_M_66_33 X hap hP hS jd_M_item_40 (fun H locs hP hS => ?_)
    refine lv_aload_n X.1 X.2.1 jd_M_item_43 rfl (lv_at hl 0 rfl) ?_
    refine jg_M_66_33 X hP jd_M_item_44 ?_
    refine kn_to (y := 2) (rfl) ?_
    refine kn_le0 X.1 X.2.1 jd_M_item_47 (tgt := 54) (by decide) (by omega) (fun h47 => absurd h47 (by omega)) (fun h47 => ?_)
    refine lv_iconst (v := nI 0) X.1 X.2.1 jd_M_item_50 (by decide) ?_
    refine lv_goto X.1 X.2.1 jd_M_item_51 (tgt := 66) (by decide) ?_
    exact hQ _ _ _ _ _ _ _ (⟨rfl, rfl, rfl⟩) hP hS jd_M_item_66
  · skip
    refine lv_iload_n X.1 X.2.1 jd_M_item_21 rfl (lv_at hl 2 rfl) ?_
    refine lv_iconst (v := nI 0) X.1 X.2.1 jd_M_item_22 (by decide) ?_
    refine lv_aload_n X.1 X.2.1 jd_M_item_23 rfl (lv_at hl 0 rfl) ?_
    refine jg_M_85_33 X hP jd_M_item_24 ?_
    refine lv_iconst (v := nI 1) X.1 X.2.1 jd_M_item_27 (by decide) ?_
    refine lv_isub X.1 X.2.1 jd_M_item_28 ?_
    refine kn_is (y := (((n 33 2) + 4294967296 - 1) % 4294967296)) (kn_subw (by omega)) ?_
    refine j_run (j_mkS X (c_M_withinD l d D a n g i (n 33 2) (by omega) (by omega)) jU_b (j_pp X hP) jm_714 jm_713 jm_6 jm_712 (show jOk jy_M_within 3 by unfold jOk; decide +kernel) (by decide) ⟨rfl, rfl⟩ hl.1 rfl (Nat.le_of_ble_eq_true rfl) ⟨Nat.zero_le _, Nat.zero_le _⟩ jd_M_item_29) ?_
    refine W.eq (g2 := F0 m 32 ls [.int (nI (if i < n 33 2 then 1 else 0)), .ref (a 33)]) rfl ?_
    refine kn_ne0 X.1 X.2.1 jd_M_item_32 (tgt := 39) (by decide) (by split <;> omega) (fun h32 => ?_) (fun h32 => ?_)
    · skip
      exact absurd ⟨by have := kn_if1 h18; omega, kn_if1 h32⟩ hbad
    · skip
      refine lv_iconst (v := nI 2) X.1 X.2.1 jd_M_item_35 (by decide) ?_
      refine lv_goto X.1 X.2.1 jd_M_item_36 (tgt := 40) (by decide) ?_
      refine jp_M_66_33 X hap hP hS jd_M_item_40 (fun H locs hP hS => ?_)
      refine lv_aload_n X.1 X.2.1 jd_M_item_43 rfl (lv_at hl 0 rfl) ?_
      refine jg_M_66_33 X hP jd_M_item_44 ?_
      refine kn_to (y := 2) (rfl) ?_
      refine kn_le0 X.1 X.2.1 jd_M_item_47 (tgt := 54) (by decide) (by omega) (fun h47 => absurd h47 (by omega)) (fun h47 => ?_)
      refine lv_iconst (v := nI 0) X.1 X.2.1 jd_M_item_50 (by decide) ?_
      refine lv_goto X.1 X.2.1 jd_M_item_51 (tgt := 66) (by decide) ?_
      exact hQ _ _ _ _ _ _ _ (⟨rfl, rfl, rfl⟩) hP hS jd_M_item_66

set_option maxHeartbeats 4000000 in
theorem c_M_item (l : Launch) (d : Nat → Nat) (D : va_G) (a : Nat → Nat) (n : Nat → Nat → Nat) (g : Nat → Nat) (hap : ∀ i j : Nat, i < 52 → j < 52 → a i = a j → i = j) (hB : NB n) (x i : Nat) (hx : x < 4) (hs : ¬ n 33 5 = 0) (hn : n 33 2 ≤ 128) (hi : i < n 33 2) : jEff l d D a n g jy_M_item jb_M_item 3 (some .int) { frames := 1, cells := 0, slots := 0, locals := 22 } [.ref (a 33), .int (nI x), .int (nI i)] (fun v9 n2 g2 => some (.int (nI (n 41 (128 * x + i)))) = v9 ∧ (ku n 33 0 0) = n2 ∧ g = g2) := by
  refine je_I (by decide) (Nat.le_of_ble_eq_true rfl) ?_
  intro p e s m A below meth c ls Q X hP hS hl hQ
  have hl : lv_has ls 3 [(0, .ref (a 33)), (1, .int (nI x)), (2, .int (nI i))] := hl
  refine lv_aload_n X.1 X.2.1 jd_M_item_0 rfl (lv_at hl 0 rfl) ?_
  refine lv_aload_n X.1 X.2.1 jd_M_item_1 rfl (lv_at hl 0 rfl) ?_
  refine jg_M_104_33 X hP jd_M_item_2 ?_
  refine kn_ne0 X.1 X.2.1 jd_M_item_5 (tgt := 12) (by decide) (hB _ _) (fun h5 => ?_) (fun h5 => absurd h5 (hs))
  refine lv_iload_n X.1 X.2.1 jd_M_item_12 rfl (lv_at hl 1 rfl) ?_
  refine lv_iconst (v := nI 0) X.1 X.2.1 jd_M_item_13 (by decide) ?_
  refine lv_iconst (v := nI 3) X.1 X.2.1 jd_M_item_14 (by decide) ?_
  refine j_run (j_mkS X (c_M_within l d D a n g x 0 3 (by omega) (by omega) (by omega)) jU_b (j_pp X hP) jm_714 jm_713 jm_6 jm_712 (show jOk jy_M_within 3 by unfold jOk; decide +kernel) (by decide) ⟨rfl, rfl⟩ hl.1 rfl (Nat.le_of_ble_eq_true rfl) ⟨Nat.zero_le _, Nat.zero_le _⟩ jd_M_item_15) ?_
  refine W.eq (g2 := F0 m 18 ls [.int (nI (if 0 ≤ x ∧ x ≤ 3 then 1 else 0)), .ref (a 33)]) rfl ?_
  refine kn_to (y := 1) (if_pos (by omega)) ?_
  refine kn_eq0 X.1 X.2.1 jd_M_item_18 (tgt := 35) (by decide) (by omega) (fun h18 => absurd h18 (by decide)) (fun h18 => ?_)
  refine lv_iload_n X.1 X.2.1 jd_M_item_21 rfl (lv_at hl 2 rfl) ?_
  refine lv_iconst (v := nI 0) X.1 X.2.1 jd_M_item_22 (by decide) ?_
  refine lv_aload_n X.1 X.2.1 jd_M_item_23 rfl (lv_at hl 0 rfl) ?_
  refine jg_M_85_33 X hP jd_M_item_24 ?_
  refine lv_iconst (v := nI 1) X.1 X.2.1 jd_M_item_27 (by decide) ?_
  refine lv_isub X.1 X.2.1 jd_M_item_28 ?_
  refine kn_is (y := (((n 33 2) + 4294967296 - 1) % 4294967296)) (kn_subw (by omega)) ?_
  refine j_run (j_mkS X (c_M_withinD l d D a n g i (n 33 2) (by omega) (by omega)) jU_b (j_pp X hP) jm_714 jm_713 jm_6 jm_712 (show jOk jy_M_within 3 by unfold jOk; decide +kernel) (by decide) ⟨rfl, rfl⟩ hl.1 rfl (Nat.le_of_ble_eq_true rfl) ⟨Nat.zero_le _, Nat.zero_le _⟩ jd_M_item_29) ?_
  refine W.eq (g2 := F0 m 32 ls [.int (nI (if i < n 33 2 then 1 else 0)), .ref (a 33)]) rfl ?_
  refine kn_to (y := 1) (if_pos (by omega)) ?_
  refine kn_ne0 X.1 X.2.1 jd_M_item_32 (tgt := 39) (by decide) (by omega) (fun h32 => ?_) (fun h32 => absurd h32 (by decide))
  refine lv_iconst (v := nI 0) X.1 X.2.1 jd_M_item_39 (by decide) ?_
  refine jp_M_66_33 X hap hP hS jd_M_item_40 (fun H locs hP hS => ?_)
  refine lv_aload_n X.1 X.2.1 jd_M_item_43 rfl (lv_at hl 0 rfl) ?_
  refine jg_M_66_33 X hP jd_M_item_44 ?_
  refine kn_to (y := 0) (rfl) ?_
  refine kn_le0 X.1 X.2.1 jd_M_item_47 (tgt := 54) (by decide) (by omega) (fun h47 => ?_) (fun h47 => absurd h47 (by omega))
  refine lv_aload_n X.1 X.2.1 jd_M_item_54 rfl (lv_at hl 0 rfl) ?_
  refine jg_M_36_33 X hP jd_M_item_55 ?_
  refine lv_sipush (v := nI 128) X.1 X.2.1 jd_M_item_58 (by decide) ?_
  refine lv_iload_n X.1 X.2.1 jd_M_item_61 rfl (lv_at hl 1 rfl) ?_
  refine kn_imul X.1 X.2.1 jd_M_item_62 ?_
  refine lv_iload_n X.1 X.2.1 jd_M_item_63 rfl (lv_at hl 2 rfl) ?_
  refine kn_iadd X.1 X.2.1 jd_M_item_64 ?_
  refine j_ald X hP 41 ((128 * x) + i) (by decide) (show ((128 * x) + i) < 512 from by omega) (by decide) jd_M_item_65 ?_
  exact hQ _ _ _ _ _ _ _ (⟨rfl, rfl, rfl⟩) hP hS jd_M_item_66

set_option maxHeartbeats 4000000 in
theorem c_M_key_1 (l : Launch) (d : Nat → Nat) (D : va_G) (a : Nat → Nat) (n : Nat → Nat → Nat) (g : Nat → Nat) (hap : ∀ i j : Nat, i < 52 → j < 52 → a i = a j → i = j) (x i : Nat) (hx : x < 4294967296) (hi : i < 4294967296) (hn : n 33 12 ≤ 128) (hbad : ¬ (x < 2 ∧ i < n 33 12)) : jEff l d D a n g jy_M_key jb_M_key 3 (some .int) { frames := 1, cells := 0, slots := 0, locals := 22 } [.ref (a 33), .int (nI x), .int (nI i)] (fun v9 n2 g2 => some (.int (nI 0)) = v9 ∧ ku n 33 0 1 = n2 ∧ g = g2) := by
  refine je_I (by decide) (Nat.le_of_ble_eq_true rfl) ?_
  intro p e s m A below meth c ls Q X hP hS hl hQ
  have hl : lv_has ls 3 [(0, .ref (a 33)), (1, .int (nI x)), (2, .int (nI i))] := hl
  refine lv_aload_n X.1 X.2.1 jd_M_key_0 rfl (lv_at hl 0 rfl) ?_
  refine lv_iload_n X.1 X.2.1 jd_M_key_1 rfl (lv_at hl 1 rfl) ?_
  refine j_run (j_mkS X (c_M_isStation l d D a n g x hx) jU_b (j_pp X hP) jm_711 jm_710 jm_6 jm_709 (show jOk jy_M_isStation 1 by unfold jOk; decide +kernel) (by decide) ⟨rfl, rfl⟩ hl.1 rfl (Nat.le_of_ble_eq_true rfl) ⟨Nat.zero_le _, Nat.zero_le _⟩ jd_M_key_2) ?_
  refine W.eq (g2 := F0 m 5 ls [.int (nI (if x < 2 then 1 else 0)), .ref (a 33)]) rfl ?_
  refine kn_eq0 X.1 X.2.1 jd_M_key_5 (tgt := 26) (by decide) (by split <;> omega) (fun h5 => ?_) (fun h5 => ?_)
  · skip
    refine lv_iconst (v := nI 1) X.1 X.2.1 jd_M_key_26 (by decide) ?_
    refine jp_M_66_33 X hap hP hS jd_M_key_27 (fun H locs hP hS => ?_)
    refine lv_aload_n X.1 X.2.1 jd_M_key_30 rfl (lv_at hl 0 rfl) ?_
    refine jg_M_66_33 X hP jd_M_key_31 ?_
    refine kn_to (y := 1) (rfl) ?_
    refine kn_le0 X.1 X.2.1 jd_M_key_34 (tgt := 41) (by decide) (by omega) (fun h34 => absurd h34 (by omega)) (fun h34 => ?_)
    refine lv_iconst (v := nI 0) X.1 X.2.1 jd_M_key_37 (by decide) ?_
    refine lv_goto X.1 X.2.1 jd_M_key_38 (tgt := 53) (by decide) ?_
    exact hQ _ _ _ _ _ _ _ (⟨rfl, rfl, rfl⟩) hP hS jd_M_key_53
  · skip
    refine lv_iload_n X.1 X.2.1 jd_M_key_8 rfl (lv_at hl 2 rfl) ?_
    refine lv_iconst (v := nI 0) X.1 X.2.1 jd_M_key_9 (by decide) ?_
    refine lv_aload_n X.1 X.2.1 jd_M_key_10 rfl (lv_at hl 0 rfl) ?_
    refine jg_M_178_33 X hP jd_M_key_11 ?_
    refine lv_iconst (v := nI 1) X.1 X.2.1 jd_M_key_14 (by decide) ?_
    refine lv_isub X.1 X.2.1 jd_M_key_15 ?_
    refine kn_is (y := (((n 33 12) + 4294967296 - 1) % 4294967296)) (kn_subw (by omega)) ?_
    refine j_run (j_mkS X (c_M_withinD l d D a n g i (n 33 12) (by omega) (by omega)) jU_b (j_pp X hP) jm_714 jm_713 jm_6 jm_712 (show jOk jy_M_within 3 by unfold jOk; decide +kernel) (by decide) ⟨rfl, rfl⟩ hl.1 rfl (Nat.le_of_ble_eq_true rfl) ⟨Nat.zero_le _, Nat.zero_le _⟩ jd_M_key_16) ?_
    refine W.eq (g2 := F0 m 19 ls [.int (nI (if i < n 33 12 then 1 else 0)), .ref (a 33)]) rfl ?_
    refine kn_eq0 X.1 X.2.1 jd_M_key_19 (tgt := 26) (by decide) (by split <;> omega) (fun h19 => ?_) (fun h19 => ?_)
    · skip
      refine lv_iconst (v := nI 1) X.1 X.2.1 jd_M_key_26 (by decide) ?_
      refine jp_M_66_33 X hap hP hS jd_M_key_27 (fun H locs hP hS => ?_)
      refine lv_aload_n X.1 X.2.1 jd_M_key_30 rfl (lv_at hl 0 rfl) ?_
      refine jg_M_66_33 X hP jd_M_key_31 ?_
      refine kn_to (y := 1) (rfl) ?_
      refine kn_le0 X.1 X.2.1 jd_M_key_34 (tgt := 41) (by decide) (by omega) (fun h34 => absurd h34 (by omega)) (fun h34 => ?_)
      refine lv_iconst (v := nI 0) X.1 X.2.1 jd_M_key_37 (by decide) ?_
      refine lv_goto X.1 X.2.1 jd_M_key_38 (tgt := 53) (by decide) ?_
      exact hQ _ _ _ _ _ _ _ (⟨rfl, rfl, rfl⟩) hP hS jd_M_key_53
    · skip
      exact absurd ⟨kn_if1 h5, kn_if1 h19⟩ hbad

set_option maxHeartbeats 4000000 in
theorem c_M_key (l : Launch) (d : Nat → Nat) (D : va_G) (a : Nat → Nat) (n : Nat → Nat → Nat) (g : Nat → Nat) (hap : ∀ i j : Nat, i < 52 → j < 52 → a i = a j → i = j) (x i : Nat) (hx : x < 2) (hn : n 33 12 ≤ 128) (hi : i < n 33 12) : jEff l d D a n g jy_M_key jb_M_key 3 (some .int) { frames := 1, cells := 0, slots := 0, locals := 22 } [.ref (a 33), .int (nI x), .int (nI i)] (fun v9 n2 g2 => some (.int (nI (n 49 (128 * x + i)))) = v9 ∧ (ku n 33 0 0) = n2 ∧ g = g2) := by
  refine je_I (by decide) (Nat.le_of_ble_eq_true rfl) ?_
  intro p e s m A below meth c ls Q X hP hS hl hQ
  have hl : lv_has ls 3 [(0, .ref (a 33)), (1, .int (nI x)), (2, .int (nI i))] := hl
  refine lv_aload_n X.1 X.2.1 jd_M_key_0 rfl (lv_at hl 0 rfl) ?_
  refine lv_iload_n X.1 X.2.1 jd_M_key_1 rfl (lv_at hl 1 rfl) ?_
  refine j_run (j_mkS X (c_M_isStation l d D a n g x (by first | decide | omega)) jU_b (j_pp X hP) jm_711 jm_710 jm_6 jm_709 (show jOk jy_M_isStation 1 by unfold jOk; decide +kernel) (by decide) ⟨rfl, rfl⟩ hl.1 rfl (Nat.le_of_ble_eq_true rfl) ⟨Nat.zero_le _, Nat.zero_le _⟩ jd_M_key_2) ?_
  refine W.eq (g2 := F0 m 5 ls [.int (nI (if x < 2 then 1 else 0)), .ref (a 33)]) rfl ?_
  refine kn_to (y := 1) (if_pos (by first | decide | omega)) ?_
  refine kn_eq0 X.1 X.2.1 jd_M_key_5 (tgt := 26) (by decide) (by omega) (fun h5 => absurd h5 (by decide)) (fun h5 => ?_)
  refine lv_iload_n X.1 X.2.1 jd_M_key_8 rfl (lv_at hl 2 rfl) ?_
  refine lv_iconst (v := nI 0) X.1 X.2.1 jd_M_key_9 (by decide) ?_
  refine lv_aload_n X.1 X.2.1 jd_M_key_10 rfl (lv_at hl 0 rfl) ?_
  refine jg_M_178_33 X hP jd_M_key_11 ?_
  refine lv_iconst (v := nI 1) X.1 X.2.1 jd_M_key_14 (by decide) ?_
  refine lv_isub X.1 X.2.1 jd_M_key_15 ?_
  refine kn_is (y := (((n 33 12) + 4294967296 - 1) % 4294967296)) (kn_subw (by omega)) ?_
  refine j_run (j_mkS X (c_M_withinD l d D a n g i (n 33 12) (by omega) (by omega)) jU_b (j_pp X hP) jm_714 jm_713 jm_6 jm_712 (show jOk jy_M_within 3 by unfold jOk; decide +kernel) (by decide) ⟨rfl, rfl⟩ hl.1 rfl (Nat.le_of_ble_eq_true rfl) ⟨Nat.zero_le _, Nat.zero_le _⟩ jd_M_key_16) ?_
  refine W.eq (g2 := F0 m 19 ls [.int (nI (if i < n 33 12 then 1 else 0)), .ref (a 33)]) rfl ?_
  refine kn_to (y := 1) (if_pos (by omega)) ?_
  refine kn_eq0 X.1 X.2.1 jd_M_key_19 (tgt := 26) (by decide) (by omega) (fun h19 => absurd h19 (by decide)) (fun h19 => ?_)
  refine lv_iconst (v := nI 0) X.1 X.2.1 jd_M_key_22 (by decide) ?_
  refine lv_goto X.1 X.2.1 jd_M_key_23 (tgt := 27) (by decide) ?_
  refine jp_M_66_33 X hap hP hS jd_M_key_27 (fun H locs hP hS => ?_)
  refine lv_aload_n X.1 X.2.1 jd_M_key_30 rfl (lv_at hl 0 rfl) ?_
  refine jg_M_66_33 X hP jd_M_key_31 ?_
  refine kn_to (y := 0) (rfl) ?_
  refine kn_le0 X.1 X.2.1 jd_M_key_34 (tgt := 41) (by decide) (by omega) (fun h34 => ?_) (fun h34 => absurd h34 (by omega))
  refine lv_aload_n X.1 X.2.1 jd_M_key_41 rfl (lv_at hl 0 rfl) ?_
  refine jg_M_60_33 X hP jd_M_key_42 ?_
  refine lv_sipush (v := nI 128) X.1 X.2.1 jd_M_key_45 (by decide) ?_
  refine lv_iload_n X.1 X.2.1 jd_M_key_48 rfl (lv_at hl 1 rfl) ?_
  refine kn_imul X.1 X.2.1 jd_M_key_49 ?_
  refine lv_iload_n X.1 X.2.1 jd_M_key_50 rfl (lv_at hl 2 rfl) ?_
  refine kn_iadd X.1 X.2.1 jd_M_key_51 ?_
  refine j_ald X hP 49 ((128 * x) + i) (by decide) (show ((128 * x) + i) < 256 from by omega) (by decide) jd_M_key_52 ?_
  exact hQ _ _ _ _ _ _ _ (⟨rfl, rfl, rfl⟩) hP hS jd_M_key_53

set_option maxHeartbeats 4000000 in
theorem c_M_product (l : Launch) (d : Nat → Nat) (D : va_G) (a : Nat → Nat) (n : Nat → Nat → Nat) (g : Nat → Nat) (x y : Nat) (hx : x < 65536) (hy : y < 65536) : jPure l d D a n g jy_M_product jb_M_product 4 (some .int) { frames := 0, cells := 0, slots := 0, locals := 0 } [.int (nI x), .int (nI y)] (some (.int (nI (prM x y)))) := by
  refine jq_I (by decide) (Nat.le_of_ble_eq_true rfl) ?_
  intro p e s m A below meth c ls Q X hP hl hQ
  have hl : lv_has ls 4 [(0, .int (nI x)), (1, .int (nI y))] := hl
  refine lv_iconst (v := nI 0) X.1 X.2.1 jd_M_product_0 (by decide) ?_
  refine lv_istore_n X.1 X.2.1 jd_M_product_1 rfl hl (by decide) rfl (fun ls hl => ?_)
  have hl : lv_has ls 4 [(2, .int (nI 0)), (0, .int (nI x)), (1, .int (nI y))] := hl
  refine lv_bipush (v := nI 15) X.1 X.2.1 jd_M_product_2 (by decide) ?_
  refine lv_istore_n X.1 X.2.1 jd_M_product_4 rfl hl (by decide) rfl (fun ls hl => ?_)
  have hl : lv_has ls 4 [(3, .int (nI 15)), (2, .int (nI 0)), (0, .int (nI x)), (1, .int (nI y))] := hl
  have loop5 : ∀ (r k : Nat) (ls : Array Slot), k + r = 15 → lv_has ls 4 [(3, .int (nI (15 - k))), (2, .int (nI (phF x y k))), (0, .int (nI x)), (1, .int (nI y))] → W p l e { frames := 0, cells := 0, slots := 0, locals := 0 } s m A below meth c s.heap [] 0 0 Q (F0 m 5 ls []) := by
    intro r
    induction r with
    | zero => 
      intro k ls hk hl
      obtain rfl : 15 = k := by omega
      refine lv_iload_n X.1 X.2.1 jd_M_product_5 rfl (lv_at hl 0 rfl) ?_
      refine kn_lt0 X.1 X.2.1 jd_M_product_6 (tgt := 51) (by decide) (by omega) (fun h6 => absurd h6 (by omega)) (fun h6 => ?_)
      refine lv_iload_n X.1 X.2.1 jd_M_product_9 rfl (lv_at hl 1 rfl) ?_
      refine lv_iconst (v := nI 1) X.1 X.2.1 jd_M_product_10 (by decide) ?_
      refine lv_ishl X.1 X.2.1 jd_M_product_11 ?_
      refine kn_is (y := (phF x y 15) * 2 ^ 1) (kn_shl16 (by omega) (phF_lt hx _ _)) ?_
      refine lv_istore_n X.1 X.2.1 jd_M_product_12 rfl hl (by decide) rfl (fun ls hl => ?_)
      have hl : lv_has ls 4 [(2, .int (nI ((phF x y 15) * 2 ^ 1))), (3, .int (nI (15 - 15))), (0, .int (nI x)), (1, .int (nI y))] := hl
      refine lv_iload_n X.1 X.2.1 jd_M_product_13 rfl (lv_at hl 0 rfl) ?_
      refine lv_ldc (v := nI 65535) X.1 X.2.1 X.2.2.2.2.2.1 (X.2.2.2.2.2.2.1 _ jm_835) jd_M_product_14 ?_
      refine kn_cle X.1 X.2.1 jd_M_product_16 (tgt := 26) (by decide) (⟨by have := phF_lt hx y 15; omega, by decide⟩) (fun h16 => ?_) (fun h16 => ?_)
      · skip
        refine lv_iload_n X.1 X.2.1 jd_M_product_26 rfl (lv_at hl 0 rfl) ?_
        refine lv_istore_n X.1 X.2.1 jd_M_product_27 rfl hl (by decide) rfl (fun ls hl => ?_)
        have hl : lv_has ls 4 [(2, .int (nI ((phF x y 15) * 2 ^ 1))), (3, .int (nI (15 - 15))), (0, .int (nI x)), (1, .int (nI y))] := hl
        refine lv_iload_n X.1 X.2.1 jd_M_product_28 rfl (lv_at hl 3 rfl) ?_
        refine lv_iload_n X.1 X.2.1 jd_M_product_29 rfl (lv_at hl 1 rfl) ?_
        refine lv_ishr X.1 X.2.1 jd_M_product_30 ?_
        refine lv_iconst (v := nI 1) X.1 X.2.1 jd_M_product_31 (by decide) ?_
        refine lv_iand X.1 X.2.1 jd_M_product_32 ?_
        refine kn_is (y := y / 2 ^ (15 - 15) &&& 1) (kn_sbit (by omega)) ?_
        refine lv_iconst (v := nI 1) X.1 X.2.1 jd_M_product_33 (by decide) ?_
        refine kn_cne X.1 X.2.1 jd_M_product_34 (tgt := 43) (by decide) (⟨by have := Nat.and_le_right (n := y / 2 ^ (15 - 15)) (m := 1); omega, by decide⟩) (fun h34 => ?_) (fun h34 => ?_)
        · skip
          refine lv_iload_n X.1 X.2.1 jd_M_product_43 rfl (lv_at hl 0 rfl) ?_
          refine lv_istore_n X.1 X.2.1 jd_M_product_44 rfl hl (by decide) rfl (fun ls hl => ?_)
          have hl : lv_has ls 4 [(2, .int (nI ((phF x y 15) * 2 ^ 1))), (3, .int (nI (15 - 15))), (0, .int (nI x)), (1, .int (nI y))] := hl
          refine lv_iinc (k := 1) (v := nI 4294967295) X.1 X.2.1 jd_M_product_45 hl rfl (by decide) (by decide) rfl (fun ls hl => ?_)
          have hl : lv_has ls 4 [(3, .int (nI 4294967295)), (2, .int (nI ((phF x y 15) * 2 ^ 1))), (0, .int (nI x)), (1, .int (nI y))] := hl
          refine lv_goto X.1 X.2.1 jd_M_product_48 (tgt := 5) (by decide) ?_
          refine lv_iload_n X.1 X.2.1 jd_M_product_5 rfl (lv_at hl 0 rfl) ?_
          refine kn_lt0 X.1 X.2.1 jd_M_product_6 (tgt := 51) (by decide) (by omega) (fun h6 => ?_) (fun h6 => absurd h6 (by omega))
          refine lv_iload_n X.1 X.2.1 jd_M_product_51 rfl (lv_at hl 1 rfl) ?_
          exact kn_to (by rw [show prM x y = _ from phF_s x y 15]; (first | rw [if_pos (by first | exact h34 | omega), if_pos (by first | exact h16 | omega)] | rw [if_pos (by first | exact h34 | omega), if_neg (by first | exact h16 | omega)] | rw [if_neg (by first | exact h34 | omega), if_pos (by first | exact h16 | omega)] | rw [if_neg (by first | exact h34 | omega), if_neg (by first | exact h16 | omega)])) (hQ _ _ jd_M_product_52)
        · skip
          refine lv_iload_n X.1 X.2.1 jd_M_product_37 rfl (lv_at hl 0 rfl) ?_
          refine lv_iload_n X.1 X.2.1 jd_M_product_38 rfl (lv_at hl 2 rfl) ?_
          refine kn_ixor X.1 X.2.1 jd_M_product_39 ?_
          refine lv_goto X.1 X.2.1 jd_M_product_40 (tgt := 44) (by decide) ?_
          refine lv_istore_n X.1 X.2.1 jd_M_product_44 rfl hl (by decide) rfl (fun ls hl => ?_)
          have hl : lv_has ls 4 [(2, .int (nI (((phF x y 15) * 2 ^ 1) ^^^ x))), (3, .int (nI (15 - 15))), (0, .int (nI x)), (1, .int (nI y))] := hl
          refine lv_iinc (k := 1) (v := nI 4294967295) X.1 X.2.1 jd_M_product_45 hl rfl (by decide) (by decide) rfl (fun ls hl => ?_)
          have hl : lv_has ls 4 [(3, .int (nI 4294967295)), (2, .int (nI (((phF x y 15) * 2 ^ 1) ^^^ x))), (0, .int (nI x)), (1, .int (nI y))] := hl
          refine lv_goto X.1 X.2.1 jd_M_product_48 (tgt := 5) (by decide) ?_
          refine lv_iload_n X.1 X.2.1 jd_M_product_5 rfl (lv_at hl 0 rfl) ?_
          refine kn_lt0 X.1 X.2.1 jd_M_product_6 (tgt := 51) (by decide) (by omega) (fun h6 => ?_) (fun h6 => absurd h6 (by omega))
          refine lv_iload_n X.1 X.2.1 jd_M_product_51 rfl (lv_at hl 1 rfl) ?_
          exact kn_to (by rw [show prM x y = _ from phF_s x y 15]; (first | rw [if_pos (by first | exact h34 | omega), if_pos (by first | exact h16 | omega)] | rw [if_pos (by first | exact h34 | omega), if_neg (by first | exact h16 | omega)] | rw [if_neg (by first | exact h34 | omega), if_pos (by first | exact h16 | omega)] | rw [if_neg (by first | exact h34 | omega), if_neg (by first | exact h16 | omega)])) (hQ _ _ jd_M_product_52)
      · skip
        refine lv_iload_n X.1 X.2.1 jd_M_product_19 rfl (lv_at hl 0 rfl) ?_
        refine lv_ldc (v := nI 65579) X.1 X.2.1 X.2.2.2.2.2.1 (X.2.2.2.2.2.2.1 _ jm_843) jd_M_product_20 ?_
        refine kn_ixor X.1 X.2.1 jd_M_product_22 ?_
        refine lv_goto X.1 X.2.1 jd_M_product_23 (tgt := 27) (by decide) ?_
        refine lv_istore_n X.1 X.2.1 jd_M_product_27 rfl hl (by decide) rfl (fun ls hl => ?_)
        have hl : lv_has ls 4 [(2, .int (nI (((phF x y 15) * 2 ^ 1) ^^^ 65579))), (3, .int (nI (15 - 15))), (0, .int (nI x)), (1, .int (nI y))] := hl
        refine lv_iload_n X.1 X.2.1 jd_M_product_28 rfl (lv_at hl 3 rfl) ?_
        refine lv_iload_n X.1 X.2.1 jd_M_product_29 rfl (lv_at hl 1 rfl) ?_
        refine lv_ishr X.1 X.2.1 jd_M_product_30 ?_
        refine lv_iconst (v := nI 1) X.1 X.2.1 jd_M_product_31 (by decide) ?_
        refine lv_iand X.1 X.2.1 jd_M_product_32 ?_
        refine kn_is (y := y / 2 ^ (15 - 15) &&& 1) (kn_sbit (by omega)) ?_
        refine lv_iconst (v := nI 1) X.1 X.2.1 jd_M_product_33 (by decide) ?_
        refine kn_cne X.1 X.2.1 jd_M_product_34 (tgt := 43) (by decide) (⟨by have := Nat.and_le_right (n := y / 2 ^ (15 - 15)) (m := 1); omega, by decide⟩) (fun h34 => ?_) (fun h34 => ?_)
        · skip
          refine lv_iload_n X.1 X.2.1 jd_M_product_43 rfl (lv_at hl 0 rfl) ?_
          refine lv_istore_n X.1 X.2.1 jd_M_product_44 rfl hl (by decide) rfl (fun ls hl => ?_)
          have hl : lv_has ls 4 [(2, .int (nI (((phF x y 15) * 2 ^ 1) ^^^ 65579))), (3, .int (nI (15 - 15))), (0, .int (nI x)), (1, .int (nI y))] := hl
          refine lv_iinc (k := 1) (v := nI 4294967295) X.1 X.2.1 jd_M_product_45 hl rfl (by decide) (by decide) rfl (fun ls hl => ?_)
          have hl : lv_has ls 4 [(3, .int (nI 4294967295)), (2, .int (nI (((phF x y 15) * 2 ^ 1) ^^^ 65579))), (0, .int (nI x)), (1, .int (nI y))] := hl
          refine lv_goto X.1 X.2.1 jd_M_product_48 (tgt := 5) (by decide) ?_
          refine lv_iload_n X.1 X.2.1 jd_M_product_5 rfl (lv_at hl 0 rfl) ?_
          refine kn_lt0 X.1 X.2.1 jd_M_product_6 (tgt := 51) (by decide) (by omega) (fun h6 => ?_) (fun h6 => absurd h6 (by omega))
          refine lv_iload_n X.1 X.2.1 jd_M_product_51 rfl (lv_at hl 1 rfl) ?_
          exact kn_to (by rw [show prM x y = _ from phF_s x y 15]; (first | rw [if_pos (by first | exact h34 | omega), if_pos (by first | exact h16 | omega)] | rw [if_pos (by first | exact h34 | omega), if_neg (by first | exact h16 | omega)] | rw [if_neg (by first | exact h34 | omega), if_pos (by first | exact h16 | omega)] | rw [if_neg (by first | exact h34 | omega), if_neg (by first | exact h16 | omega)])) (hQ _ _ jd_M_product_52)
        · skip
          refine lv_iload_n X.1 X.2.1 jd_M_product_37 rfl (lv_at hl 0 rfl) ?_
          refine lv_iload_n X.1 X.2.1 jd_M_product_38 rfl (lv_at hl 2 rfl) ?_
          refine kn_ixor X.1 X.2.1 jd_M_product_39 ?_
          refine lv_goto X.1 X.2.1 jd_M_product_40 (tgt := 44) (by decide) ?_
          refine lv_istore_n X.1 X.2.1 jd_M_product_44 rfl hl (by decide) rfl (fun ls hl => ?_)
          have hl : lv_has ls 4 [(2, .int (nI ((((phF x y 15) * 2 ^ 1) ^^^ 65579) ^^^ x))), (3, .int (nI (15 - 15))), (0, .int (nI x)), (1, .int (nI y))] := hl
          refine lv_iinc (k := 1) (v := nI 4294967295) X.1 X.2.1 jd_M_product_45 hl rfl (by decide) (by decide) rfl (fun ls hl => ?_)
          have hl : lv_has ls 4 [(3, .int (nI 4294967295)), (2, .int (nI ((((phF x y 15) * 2 ^ 1) ^^^ 65579) ^^^ x))), (0, .int (nI x)), (1, .int (nI y))] := hl
          refine lv_goto X.1 X.2.1 jd_M_product_48 (tgt := 5) (by decide) ?_
          refine lv_iload_n X.1 X.2.1 jd_M_product_5 rfl (lv_at hl 0 rfl) ?_
          refine kn_lt0 X.1 X.2.1 jd_M_product_6 (tgt := 51) (by decide) (by omega) (fun h6 => ?_) (fun h6 => absurd h6 (by omega))
          refine lv_iload_n X.1 X.2.1 jd_M_product_51 rfl (lv_at hl 1 rfl) ?_
          exact kn_to (by rw [show prM x y = _ from phF_s x y 15]; (first | rw [if_pos (by first | exact h34 | omega), if_pos (by first | exact h16 | omega)] | rw [if_pos (by first | exact h34 | omega), if_neg (by first | exact h16 | omega)] | rw [if_neg (by first | exact h34 | omega), if_pos (by first | exact h16 | omega)] | rw [if_neg (by first | exact h34 | omega), if_neg (by first | exact h16 | omega)])) (hQ _ _ jd_M_product_52)
    | succ r ihr => 
      intro k ls hk hl
      refine lv_iload_n X.1 X.2.1 jd_M_product_5 rfl (lv_at hl 0 rfl) ?_
      refine kn_lt0 X.1 X.2.1 jd_M_product_6 (tgt := 51) (by decide) (by omega) (fun h6 => absurd h6 (by omega)) (fun h6 => ?_)
      refine lv_iload_n X.1 X.2.1 jd_M_product_9 rfl (lv_at hl 1 rfl) ?_
      refine lv_iconst (v := nI 1) X.1 X.2.1 jd_M_product_10 (by decide) ?_
      refine lv_ishl X.1 X.2.1 jd_M_product_11 ?_
      refine kn_is (y := (phF x y k) * 2 ^ 1) (kn_shl16 (by omega) (phF_lt hx _ _)) ?_
      refine lv_istore_n X.1 X.2.1 jd_M_product_12 rfl hl (by decide) rfl (fun ls hl => ?_)
      have hl : lv_has ls 4 [(2, .int (nI ((phF x y k) * 2 ^ 1))), (3, .int (nI (15 - k))), (0, .int (nI x)), (1, .int (nI y))] := hl
      refine lv_iload_n X.1 X.2.1 jd_M_product_13 rfl (lv_at hl 0 rfl) ?_
      refine lv_ldc (v := nI 65535) X.1 X.2.1 X.2.2.2.2.2.1 (X.2.2.2.2.2.2.1 _ jm_835) jd_M_product_14 ?_
      refine kn_cle X.1 X.2.1 jd_M_product_16 (tgt := 26) (by decide) (⟨by have := phF_lt hx y k; omega, by decide⟩) (fun h16 => ?_) (fun h16 => ?_)
      · skip
        refine lv_iload_n X.1 X.2.1 jd_M_product_26 rfl (lv_at hl 0 rfl) ?_
        refine lv_istore_n X.1 X.2.1 jd_M_product_27 rfl hl (by decide) rfl (fun ls hl => ?_)
        have hl : lv_has ls 4 [(2, .int (nI ((phF x y k) * 2 ^ 1))), (3, .int (nI (15 - k))), (0, .int (nI x)), (1, .int (nI y))] := hl
        refine lv_iload_n X.1 X.2.1 jd_M_product_28 rfl (lv_at hl 3 rfl) ?_
        refine lv_iload_n X.1 X.2.1 jd_M_product_29 rfl (lv_at hl 1 rfl) ?_
        refine lv_ishr X.1 X.2.1 jd_M_product_30 ?_
        refine lv_iconst (v := nI 1) X.1 X.2.1 jd_M_product_31 (by decide) ?_
        refine lv_iand X.1 X.2.1 jd_M_product_32 ?_
        refine kn_is (y := y / 2 ^ (15 - k) &&& 1) (kn_sbit (by omega)) ?_
        refine lv_iconst (v := nI 1) X.1 X.2.1 jd_M_product_33 (by decide) ?_
        refine kn_cne X.1 X.2.1 jd_M_product_34 (tgt := 43) (by decide) (⟨by have := Nat.and_le_right (n := y / 2 ^ (15 - k)) (m := 1); omega, by decide⟩) (fun h34 => ?_) (fun h34 => ?_)
        · skip
          refine lv_iload_n X.1 X.2.1 jd_M_product_43 rfl (lv_at hl 0 rfl) ?_
          refine lv_istore_n X.1 X.2.1 jd_M_product_44 rfl hl (by decide) rfl (fun ls hl => ?_)
          have hl : lv_has ls 4 [(2, .int (nI ((phF x y k) * 2 ^ 1))), (3, .int (nI (15 - k))), (0, .int (nI x)), (1, .int (nI y))] := hl
          refine lv_iinc (k := 1) (v := nI ((15 - k) - 1)) X.1 X.2.1 jd_M_product_45 hl rfl (kn_dec (by omega)) (by decide) rfl (fun ls hl => ?_)
          have hl : lv_has ls 4 [(3, .int (nI ((15 - k) - 1))), (2, .int (nI ((phF x y k) * 2 ^ 1))), (0, .int (nI x)), (1, .int (nI y))] := hl
          refine lv_goto X.1 X.2.1 jd_M_product_48 (tgt := 5) (by decide) ?_
          have hl : lv_has ls 4 [(3, .int (nI (15 - (k + 1)))), (2, .int (nI (phF x y (k + 1)))), (0, .int (nI x)), (1, .int (nI y))] := by first | exact lv_sub hl [0, 1, 2, 3] rfl | (simp only [phF]; first | (rw [if_pos (by first | exact h34 | omega)]; rw [if_pos (by first | exact h16 | omega)]; exact lv_sub hl [0, 1, 2, 3] rfl) | (rw [if_pos (by first | exact h34 | omega)]; rw [if_neg (by first | exact h16 | omega)]; exact lv_sub hl [0, 1, 2, 3] rfl) | (rw [if_neg (by first | exact h34 | omega)]; rw [if_pos (by first | exact h16 | omega)]; exact lv_sub hl [0, 1, 2, 3] rfl) | (rw [if_neg (by first | exact h34 | omega)]; rw [if_neg (by first | exact h16 | omega)]; exact lv_sub hl [0, 1, 2, 3] rfl) | (rw [if_pos (by first | exact h34 | omega)]; exact lv_sub hl [0, 1, 2, 3] rfl) | (rw [if_neg (by first | exact h34 | omega)]; exact lv_sub hl [0, 1, 2, 3] rfl))
          exact ihr (k + 1) ls (by omega) hl
        · skip
          refine lv_iload_n X.1 X.2.1 jd_M_product_37 rfl (lv_at hl 0 rfl) ?_
          refine lv_iload_n X.1 X.2.1 jd_M_product_38 rfl (lv_at hl 2 rfl) ?_
          refine kn_ixor X.1 X.2.1 jd_M_product_39 ?_
          refine lv_goto X.1 X.2.1 jd_M_product_40 (tgt := 44) (by decide) ?_
          refine lv_istore_n X.1 X.2.1 jd_M_product_44 rfl hl (by decide) rfl (fun ls hl => ?_)
          have hl : lv_has ls 4 [(2, .int (nI (((phF x y k) * 2 ^ 1) ^^^ x))), (3, .int (nI (15 - k))), (0, .int (nI x)), (1, .int (nI y))] := hl
          refine lv_iinc (k := 1) (v := nI ((15 - k) - 1)) X.1 X.2.1 jd_M_product_45 hl rfl (kn_dec (by omega)) (by decide) rfl (fun ls hl => ?_)
          have hl : lv_has ls 4 [(3, .int (nI ((15 - k) - 1))), (2, .int (nI (((phF x y k) * 2 ^ 1) ^^^ x))), (0, .int (nI x)), (1, .int (nI y))] := hl
          refine lv_goto X.1 X.2.1 jd_M_product_48 (tgt := 5) (by decide) ?_
          have hl : lv_has ls 4 [(3, .int (nI (15 - (k + 1)))), (2, .int (nI (phF x y (k + 1)))), (0, .int (nI x)), (1, .int (nI y))] := by first | exact lv_sub hl [0, 1, 2, 3] rfl | (simp only [phF]; first | (rw [if_pos (by first | exact h34 | omega)]; rw [if_pos (by first | exact h16 | omega)]; exact lv_sub hl [0, 1, 2, 3] rfl) | (rw [if_pos (by first | exact h34 | omega)]; rw [if_neg (by first | exact h16 | omega)]; exact lv_sub hl [0, 1, 2, 3] rfl) | (rw [if_neg (by first | exact h34 | omega)]; rw [if_pos (by first | exact h16 | omega)]; exact lv_sub hl [0, 1, 2, 3] rfl) | (rw [if_neg (by first | exact h34 | omega)]; rw [if_neg (by first | exact h16 | omega)]; exact lv_sub hl [0, 1, 2, 3] rfl) | (rw [if_pos (by first | exact h34 | omega)]; exact lv_sub hl [0, 1, 2, 3] rfl) | (rw [if_neg (by first | exact h34 | omega)]; exact lv_sub hl [0, 1, 2, 3] rfl))
          exact ihr (k + 1) ls (by omega) hl
      · skip
        refine lv_iload_n X.1 X.2.1 jd_M_product_19 rfl (lv_at hl 0 rfl) ?_
        refine lv_ldc (v := nI 65579) X.1 X.2.1 X.2.2.2.2.2.1 (X.2.2.2.2.2.2.1 _ jm_843) jd_M_product_20 ?_
        refine kn_ixor X.1 X.2.1 jd_M_product_22 ?_
        refine lv_goto X.1 X.2.1 jd_M_product_23 (tgt := 27) (by decide) ?_
        refine lv_istore_n X.1 X.2.1 jd_M_product_27 rfl hl (by decide) rfl (fun ls hl => ?_)
        have hl : lv_has ls 4 [(2, .int (nI (((phF x y k) * 2 ^ 1) ^^^ 65579))), (3, .int (nI (15 - k))), (0, .int (nI x)), (1, .int (nI y))] := hl
        refine lv_iload_n X.1 X.2.1 jd_M_product_28 rfl (lv_at hl 3 rfl) ?_
        refine lv_iload_n X.1 X.2.1 jd_M_product_29 rfl (lv_at hl 1 rfl) ?_
        refine lv_ishr X.1 X.2.1 jd_M_product_30 ?_
        refine lv_iconst (v := nI 1) X.1 X.2.1 jd_M_product_31 (by decide) ?_
        refine lv_iand X.1 X.2.1 jd_M_product_32 ?_
        refine kn_is (y := y / 2 ^ (15 - k) &&& 1) (kn_sbit (by omega)) ?_
        refine lv_iconst (v := nI 1) X.1 X.2.1 jd_M_product_33 (by decide) ?_
        refine kn_cne X.1 X.2.1 jd_M_product_34 (tgt := 43) (by decide) (⟨by have := Nat.and_le_right (n := y / 2 ^ (15 - k)) (m := 1); omega, by decide⟩) (fun h34 => ?_) (fun h34 => ?_)
        · skip
          refine lv_iload_n X.1 X.2.1 jd_M_product_43 rfl (lv_at hl 0 rfl) ?_
          refine lv_istore_n X.1 X.2.1 jd_M_product_44 rfl hl (by decide) rfl (fun ls hl => ?_)
          have hl : lv_has ls 4 [(2, .int (nI (((phF x y k) * 2 ^ 1) ^^^ 65579))), (3, .int (nI (15 - k))), (0, .int (nI x)), (1, .int (nI y))] := hl
          refine lv_iinc (k := 1) (v := nI ((15 - k) - 1)) X.1 X.2.1 jd_M_product_45 hl rfl (kn_dec (by omega)) (by decide) rfl (fun ls hl => ?_)
          have hl : lv_has ls 4 [(3, .int (nI ((15 - k) - 1))), (2, .int (nI (((phF x y k) * 2 ^ 1) ^^^ 65579))), (0, .int (nI x)), (1, .int (nI y))] := hl
          refine lv_goto X.1 X.2.1 jd_M_product_48 (tgt := 5) (by decide) ?_
          have hl : lv_has ls 4 [(3, .int (nI (15 - (k + 1)))), (2, .int (nI (phF x y (k + 1)))), (0, .int (nI x)), (1, .int (nI y))] := by first | exact lv_sub hl [0, 1, 2, 3] rfl | (simp only [phF]; first | (rw [if_pos (by first | exact h34 | omega)]; rw [if_pos (by first | exact h16 | omega)]; exact lv_sub hl [0, 1, 2, 3] rfl) | (rw [if_pos (by first | exact h34 | omega)]; rw [if_neg (by first | exact h16 | omega)]; exact lv_sub hl [0, 1, 2, 3] rfl) | (rw [if_neg (by first | exact h34 | omega)]; rw [if_pos (by first | exact h16 | omega)]; exact lv_sub hl [0, 1, 2, 3] rfl) | (rw [if_neg (by first | exact h34 | omega)]; rw [if_neg (by first | exact h16 | omega)]; exact lv_sub hl [0, 1, 2, 3] rfl) | (rw [if_pos (by first | exact h34 | omega)]; exact lv_sub hl [0, 1, 2, 3] rfl) | (rw [if_neg (by first | exact h34 | omega)]; exact lv_sub hl [0, 1, 2, 3] rfl))
          exact ihr (k + 1) ls (by omega) hl
        · skip
          refine lv_iload_n X.1 X.2.1 jd_M_product_37 rfl (lv_at hl 0 rfl) ?_
          refine lv_iload_n X.1 X.2.1 jd_M_product_38 rfl (lv_at hl 2 rfl) ?_
          refine kn_ixor X.1 X.2.1 jd_M_product_39 ?_
          refine lv_goto X.1 X.2.1 jd_M_product_40 (tgt := 44) (by decide) ?_
          refine lv_istore_n X.1 X.2.1 jd_M_product_44 rfl hl (by decide) rfl (fun ls hl => ?_)
          have hl : lv_has ls 4 [(2, .int (nI ((((phF x y k) * 2 ^ 1) ^^^ 65579) ^^^ x))), (3, .int (nI (15 - k))), (0, .int (nI x)), (1, .int (nI y))] := hl
          refine lv_iinc (k := 1) (v := nI ((15 - k) - 1)) X.1 X.2.1 jd_M_product_45 hl rfl (kn_dec (by omega)) (by decide) rfl (fun ls hl => ?_)
          have hl : lv_has ls 4 [(3, .int (nI ((15 - k) - 1))), (2, .int (nI ((((phF x y k) * 2 ^ 1) ^^^ 65579) ^^^ x))), (0, .int (nI x)), (1, .int (nI y))] := hl
          refine lv_goto X.1 X.2.1 jd_M_product_48 (tgt := 5) (by decide) ?_
          have hl : lv_has ls 4 [(3, .int (nI (15 - (k + 1)))), (2, .int (nI (phF x y (k + 1)))), (0, .int (nI x)), (1, .int (nI y))] := by first | exact lv_sub hl [0, 1, 2, 3] rfl | (simp only [phF]; first | (rw [if_pos (by first | exact h34 | omega)]; rw [if_pos (by first | exact h16 | omega)]; exact lv_sub hl [0, 1, 2, 3] rfl) | (rw [if_pos (by first | exact h34 | omega)]; rw [if_neg (by first | exact h16 | omega)]; exact lv_sub hl [0, 1, 2, 3] rfl) | (rw [if_neg (by first | exact h34 | omega)]; rw [if_pos (by first | exact h16 | omega)]; exact lv_sub hl [0, 1, 2, 3] rfl) | (rw [if_neg (by first | exact h34 | omega)]; rw [if_neg (by first | exact h16 | omega)]; exact lv_sub hl [0, 1, 2, 3] rfl) | (rw [if_pos (by first | exact h34 | omega)]; exact lv_sub hl [0, 1, 2, 3] rfl) | (rw [if_neg (by first | exact h34 | omega)]; exact lv_sub hl [0, 1, 2, 3] rfl))
          exact ihr (k + 1) ls (by omega) hl
  have hl : lv_has ls 4 [(3, .int (nI (15 - 0))), (2, .int (nI (phF x y 0))), (0, .int (nI x)), (1, .int (nI y))] := lv_sub hl [0, 1, 2, 3] rfl
  exact loop5 (15) 0 ls (by omega) hl

set_option maxHeartbeats 4000000 in
theorem c_M_tagOf (l : Launch) (d : Nat → Nat) (D : va_G) (a : Nat → Nat) (n : Nat → Nat → Nat) (g : Nat → Nat) (x r : Nat) (hx : x < 2) (hr : r < 65536) (hn : n 33 2 ≤ 128) (h01 : ∀ i, mS n x i < 2) : jPure l d D a n g jy_M_tagOf jb_M_tagOf 7 (some .int) { frames := 1, cells := 0, slots := 0, locals := 23 } [.ref (a 33), .int (nI x), .int (nI r)] (some (.int (nI (tagM (mS n x) r (n 33 2))))) := by
  refine jq_I (by decide) (Nat.le_of_ble_eq_true rfl) ?_
  intro p e s m A below meth c ls Q X hP hl hQ
  have hl : lv_has ls 7 [(0, .ref (a 33)), (1, .int (nI x)), (2, .int (nI r))] := hl
  refine lv_iconst (v := nI 0) X.1 X.2.1 jd_M_tagOf_0 (by decide) ?_
  refine lv_istore_n X.1 X.2.1 jd_M_tagOf_1 rfl hl (by decide) rfl (fun ls hl => ?_)
  have hl : lv_has ls 7 [(3, .int (nI 0)), (0, .ref (a 33)), (1, .int (nI x)), (2, .int (nI r))] := hl
  refine lv_iconst (v := nI 0) X.1 X.2.1 jd_M_tagOf_2 (by decide) ?_
  refine lv_istore X.1 X.2.1 jd_M_tagOf_3 hl (by decide) rfl (fun ls hl => ?_)
  have hl : lv_has ls 7 [(4, .int (nI 0)), (3, .int (nI 0)), (0, .ref (a 33)), (1, .int (nI x)), (2, .int (nI r))] := hl
  have loop5 : ∀ (rO k : Nat) (ls : Array Slot), k + rO = (n 33 2 + 15) / 16 → lv_has ls 7 [(4, .int (nI (16 * k))), (3, .int (nI (tgM (mS n x) r (n 33 2) k))), (0, .ref (a 33)), (1, .int (nI x)), (2, .int (nI r))] → W p l e { frames := 1, cells := 0, slots := 0, locals := 23 } s m A below meth c s.heap [] 0 0 Q (F0 m 5 ls []) := by
    intro rO
    induction rO with
    | zero => 
      intro k ls hk hl
      obtain rfl : (n 33 2 + 15) / 16 = k := by omega
      refine lv_iload X.1 X.2.1 jd_M_tagOf_5 (lv_at hl 0 rfl) ?_
      refine lv_aload_n X.1 X.2.1 jd_M_tagOf_7 rfl (lv_at hl 2 rfl) ?_
      refine jg_M_85_33 X hP jd_M_tagOf_8 ?_
      refine kn_cge X.1 X.2.1 jd_M_tagOf_11 (tgt := 84) (by decide) (by omega) (fun h11 => ?_) (fun h11 => absurd h11 (by omega))
      refine lv_iload_n X.1 X.2.1 jd_M_tagOf_84 rfl (lv_at hl 4 rfl) ?_
      refine lv_iload_n X.1 X.2.1 jd_M_tagOf_85 rfl (lv_at hl 1 rfl) ?_
      refine lv_aload_n X.1 X.2.1 jd_M_tagOf_86 rfl (lv_at hl 2 rfl) ?_
      refine jg_M_85_33 X hP jd_M_tagOf_87 ?_
      refine kn_ixor X.1 X.2.1 jd_M_tagOf_90 ?_
      refine j_run (j_mkS X (c_M_product l d D a n g r ((tgM (mS n x) r (n 33 2) ((n 33 2 + 15) / 16)) ^^^ (n 33 2)) hr (kx_lt (tgM_lt hr _) (by omega))) jU_b (j_pp X hP) jm_842 jm_841 jm_6 jm_840 (show jOk jy_M_product 2 by unfold jOk; decide +kernel) (by decide) ⟨rfl, rfl⟩ hl.1 rfl (Nat.le_of_ble_eq_true rfl) ⟨Nat.zero_le _, Nat.zero_le _⟩ jd_M_tagOf_91) ?_
      refine W.eq (g2 := F0 m 94 ls [.int (nI (prM r ((tgM (mS n x) r (n 33 2) ((n 33 2 + 15) / 16)) ^^^ (n 33 2))))]) rfl ?_
      exact kn_to (by first | rfl | omega | (split <;> omega)) (hQ _ _ jd_M_tagOf_94)
    | succ rO ihrO => 
      intro k ls hk hl
      refine lv_iload X.1 X.2.1 jd_M_tagOf_5 (lv_at hl 0 rfl) ?_
      refine lv_aload_n X.1 X.2.1 jd_M_tagOf_7 rfl (lv_at hl 2 rfl) ?_
      refine jg_M_85_33 X hP jd_M_tagOf_8 ?_
      refine kn_cge X.1 X.2.1 jd_M_tagOf_11 (tgt := 84) (by decide) (by omega) (fun h11 => absurd h11 (by omega)) (fun h11 => ?_)
      refine lv_iconst (v := nI 0) X.1 X.2.1 jd_M_tagOf_14 (by decide) ?_
      refine lv_istore X.1 X.2.1 jd_M_tagOf_15 hl (by decide) rfl (fun ls hl => ?_)
      have hl : lv_has ls 7 [(5, .int (nI 0)), (4, .int (nI (16 * k))), (3, .int (nI (tgM (mS n x) r (n 33 2) k))), (0, .ref (a 33)), (1, .int (nI x)), (2, .int (nI r))] := hl
      refine lv_iconst (v := nI 0) X.1 X.2.1 jd_M_tagOf_17 (by decide) ?_
      refine lv_istore X.1 X.2.1 jd_M_tagOf_18 hl (by decide) rfl (fun ls hl => ?_)
      have hl : lv_has ls 7 [(6, .int (nI 0)), (5, .int (nI 0)), (4, .int (nI (16 * k))), (3, .int (nI (tgM (mS n x) r (n 33 2) k))), (0, .ref (a 33)), (1, .int (nI x)), (2, .int (nI r))] := hl
      have hcn : ((if n 33 2 < 16 * k + 16 then n 33 2 else 16 * k + 16) - 16 * k) ≤ 16 ∧ (((if n 33 2 < 16 * k + 16 then n 33 2 else 16 * k + 16) - 16 * k) = 16 ∨ 16 * k + ((if n 33 2 < 16 * k + 16 then n 33 2 else 16 * k + 16) - 16 * k) = n 33 2) ∧ 16 * k + ((if n 33 2 < 16 * k + 16 then n 33 2 else 16 * k + 16) - 16 * k) ≤ n 33 2 := by split <;> omega
      have loopI : ∀ (r2 j : Nat) (ls : Array Slot), j + r2 = (if n 33 2 < 16 * k + 16 then n 33 2 else 16 * k + 16) - 16 * k → lv_has ls 7 [(6, .int (nI j)), (5, .int (nI (wordF (mS n x) (16 * k) j))), (4, .int (nI (16 * k))), (3, .int (nI (tgM (mS n x) r (n 33 2) k))), (0, .ref (a 33)), (1, .int (nI x)), (2, .int (nI r))] → W p l e { frames := 1, cells := 0, slots := 0, locals := 23 } s m A below meth c s.heap [] 0 0 Q (F0 m 20 ls []) := by
        intro r2
        induction r2 with
        | zero => 
          intro j ls hj hl
          obtain rfl : (if n 33 2 < 16 * k + 16 then n 33 2 else 16 * k + 16) - 16 * k = j := by omega
          refine lv_iload X.1 X.2.1 jd_M_tagOf_20 (lv_at hl 0 rfl) ?_
          refine lv_bipush (v := nI 16) X.1 X.2.1 jd_M_tagOf_22 (by decide) ?_
          refine kn_cge X.1 X.2.1 jd_M_tagOf_24 (tgt := 69) (by decide) (by omega) (fun h24 => ?_) (fun h24 => ?_)
          · skip
            refine lv_iload_n X.1 X.2.1 jd_M_tagOf_69 rfl (lv_at hl 6 rfl) ?_
            refine lv_iload_n X.1 X.2.1 jd_M_tagOf_70 rfl (lv_at hl 3 rfl) ?_
            refine lv_iload X.1 X.2.1 jd_M_tagOf_71 (lv_at hl 1 rfl) ?_
            refine kn_ixor X.1 X.2.1 jd_M_tagOf_73 ?_
            refine j_run (j_mkS X (c_M_product l d D a n g r ((tgM (mS n x) r (n 33 2) k) ^^^ (wordF (mS n x) (16 * k) ((if n 33 2 < 16 * k + 16 then n 33 2 else 16 * k + 16) - 16 * k))) hr (kx_lt (tgM_lt hr _) (wordF_16 h01 (by split <;> omega)))) jU_b (j_pp X hP) jm_842 jm_841 jm_6 jm_840 (show jOk jy_M_product 2 by unfold jOk; decide +kernel) (by decide) ⟨rfl, rfl⟩ hl.1 rfl (Nat.le_of_ble_eq_true rfl) ⟨Nat.zero_le _, Nat.zero_le _⟩ jd_M_tagOf_74) ?_
            refine W.eq (g2 := F0 m 77 ls [.int (nI (prM r ((tgM (mS n x) r (n 33 2) k) ^^^ (wordF (mS n x) (16 * k) ((if n 33 2 < 16 * k + 16 then n 33 2 else 16 * k + 16) - 16 * k)))))]) rfl ?_
            refine lv_istore_n X.1 X.2.1 jd_M_tagOf_77 rfl hl (by decide) rfl (fun ls hl => ?_)
            have hl : lv_has ls 7 [(3, .int (nI (prM r ((tgM (mS n x) r (n 33 2) k) ^^^ (wordF (mS n x) (16 * k) ((if n 33 2 < 16 * k + 16 then n 33 2 else 16 * k + 16) - 16 * k)))))), (6, .int (nI ((if n 33 2 < 16 * k + 16 then n 33 2 else 16 * k + 16) - 16 * k))), (5, .int (nI (wordF (mS n x) (16 * k) ((if n 33 2 < 16 * k + 16 then n 33 2 else 16 * k + 16) - 16 * k)))), (4, .int (nI (16 * k))), (0, .ref (a 33)), (1, .int (nI x)), (2, .int (nI r))] := hl
            refine lv_iinc (k := 3) (v := nI ((16 * k) + 16)) X.1 X.2.1 jd_M_tagOf_78 hl rfl (kn_inc16 _) (by decide) rfl (fun ls hl => ?_)
            have hl : lv_has ls 7 [(4, .int (nI ((16 * k) + 16))), (3, .int (nI (prM r ((tgM (mS n x) r (n 33 2) k) ^^^ (wordF (mS n x) (16 * k) ((if n 33 2 < 16 * k + 16 then n 33 2 else 16 * k + 16) - 16 * k)))))), (6, .int (nI ((if n 33 2 < 16 * k + 16 then n 33 2 else 16 * k + 16) - 16 * k))), (5, .int (nI (wordF (mS n x) (16 * k) ((if n 33 2 < 16 * k + 16 then n 33 2 else 16 * k + 16) - 16 * k)))), (0, .ref (a 33)), (1, .int (nI x)), (2, .int (nI r))] := hl
            refine lv_goto X.1 X.2.1 jd_M_tagOf_81 (tgt := 5) (by decide) ?_
            have hl : lv_has ls 7 [(4, .int (nI (16 * (k + 1)))), (3, .int (nI (tgM (mS n x) r (n 33 2) (k + 1)))), (0, .ref (a 33)), (1, .int (nI x)), (2, .int (nI r))] := lv_sub hl [0, 1, 4, 5, 6] rfl
            exact ihrO (k + 1) ls (by omega) hl
          · skip
            refine lv_iload X.1 X.2.1 jd_M_tagOf_27 (lv_at hl 2 rfl) ?_
            refine lv_iload X.1 X.2.1 jd_M_tagOf_29 (lv_at hl 0 rfl) ?_
            refine kn_iadd X.1 X.2.1 jd_M_tagOf_31 ?_
            refine lv_aload_n X.1 X.2.1 jd_M_tagOf_32 rfl (lv_at hl 4 rfl) ?_
            refine jg_M_85_33 X hP jd_M_tagOf_33 ?_
            refine kn_cge X.1 X.2.1 jd_M_tagOf_36 (tgt := 69) (by decide) (by omega) (fun h36 => ?_) (fun h36 => absurd h36 (by omega))
            refine lv_iload_n X.1 X.2.1 jd_M_tagOf_69 rfl (lv_at hl 6 rfl) ?_
            refine lv_iload_n X.1 X.2.1 jd_M_tagOf_70 rfl (lv_at hl 3 rfl) ?_
            refine lv_iload X.1 X.2.1 jd_M_tagOf_71 (lv_at hl 1 rfl) ?_
            refine kn_ixor X.1 X.2.1 jd_M_tagOf_73 ?_
            refine j_run (j_mkS X (c_M_product l d D a n g r ((tgM (mS n x) r (n 33 2) k) ^^^ (wordF (mS n x) (16 * k) ((if n 33 2 < 16 * k + 16 then n 33 2 else 16 * k + 16) - 16 * k))) hr (kx_lt (tgM_lt hr _) (wordF_16 h01 (by split <;> omega)))) jU_b (j_pp X hP) jm_842 jm_841 jm_6 jm_840 (show jOk jy_M_product 2 by unfold jOk; decide +kernel) (by decide) ⟨rfl, rfl⟩ hl.1 rfl (Nat.le_of_ble_eq_true rfl) ⟨Nat.zero_le _, Nat.zero_le _⟩ jd_M_tagOf_74) ?_
            refine W.eq (g2 := F0 m 77 ls [.int (nI (prM r ((tgM (mS n x) r (n 33 2) k) ^^^ (wordF (mS n x) (16 * k) ((if n 33 2 < 16 * k + 16 then n 33 2 else 16 * k + 16) - 16 * k)))))]) rfl ?_
            refine lv_istore_n X.1 X.2.1 jd_M_tagOf_77 rfl hl (by decide) rfl (fun ls hl => ?_)
            have hl : lv_has ls 7 [(3, .int (nI (prM r ((tgM (mS n x) r (n 33 2) k) ^^^ (wordF (mS n x) (16 * k) ((if n 33 2 < 16 * k + 16 then n 33 2 else 16 * k + 16) - 16 * k)))))), (6, .int (nI ((if n 33 2 < 16 * k + 16 then n 33 2 else 16 * k + 16) - 16 * k))), (5, .int (nI (wordF (mS n x) (16 * k) ((if n 33 2 < 16 * k + 16 then n 33 2 else 16 * k + 16) - 16 * k)))), (4, .int (nI (16 * k))), (0, .ref (a 33)), (1, .int (nI x)), (2, .int (nI r))] := hl
            refine lv_iinc (k := 3) (v := nI ((16 * k) + 16)) X.1 X.2.1 jd_M_tagOf_78 hl rfl (kn_inc16 _) (by decide) rfl (fun ls hl => ?_)
            have hl : lv_has ls 7 [(4, .int (nI ((16 * k) + 16))), (3, .int (nI (prM r ((tgM (mS n x) r (n 33 2) k) ^^^ (wordF (mS n x) (16 * k) ((if n 33 2 < 16 * k + 16 then n 33 2 else 16 * k + 16) - 16 * k)))))), (6, .int (nI ((if n 33 2 < 16 * k + 16 then n 33 2 else 16 * k + 16) - 16 * k))), (5, .int (nI (wordF (mS n x) (16 * k) ((if n 33 2 < 16 * k + 16 then n 33 2 else 16 * k + 16) - 16 * k)))), (0, .ref (a 33)), (1, .int (nI x)), (2, .int (nI r))] := hl
            refine lv_goto X.1 X.2.1 jd_M_tagOf_81 (tgt := 5) (by decide) ?_
            have hl : lv_has ls 7 [(4, .int (nI (16 * (k + 1)))), (3, .int (nI (tgM (mS n x) r (n 33 2) (k + 1)))), (0, .ref (a 33)), (1, .int (nI x)), (2, .int (nI r))] := lv_sub hl [0, 1, 4, 5, 6] rfl
            exact ihrO (k + 1) ls (by omega) hl
        | succ r2 ihr2 => 
          intro j ls hj hl
          refine lv_iload X.1 X.2.1 jd_M_tagOf_20 (lv_at hl 0 rfl) ?_
          refine lv_bipush (v := nI 16) X.1 X.2.1 jd_M_tagOf_22 (by decide) ?_
          refine kn_cge X.1 X.2.1 jd_M_tagOf_24 (tgt := 69) (by decide) (by omega) (fun h24 => absurd h24 (by omega)) (fun h24 => ?_)
          refine lv_iload X.1 X.2.1 jd_M_tagOf_27 (lv_at hl 2 rfl) ?_
          refine lv_iload X.1 X.2.1 jd_M_tagOf_29 (lv_at hl 0 rfl) ?_
          refine kn_iadd X.1 X.2.1 jd_M_tagOf_31 ?_
          refine lv_aload_n X.1 X.2.1 jd_M_tagOf_32 rfl (lv_at hl 4 rfl) ?_
          refine jg_M_85_33 X hP jd_M_tagOf_33 ?_
          refine kn_cge X.1 X.2.1 jd_M_tagOf_36 (tgt := 69) (by decide) (by omega) (fun h36 => absurd h36 (by omega)) (fun h36 => ?_)
          refine lv_iload X.1 X.2.1 jd_M_tagOf_39 (lv_at hl 1 rfl) ?_
          refine lv_aload_n X.1 X.2.1 jd_M_tagOf_41 rfl (lv_at hl 4 rfl) ?_
          refine jg_M_23_33 X hP jd_M_tagOf_42 ?_
          refine lv_sipush (v := nI 128) X.1 X.2.1 jd_M_tagOf_45 (by decide) ?_
          refine lv_iload_n X.1 X.2.1 jd_M_tagOf_48 rfl (lv_at hl 5 rfl) ?_
          refine kn_imul X.1 X.2.1 jd_M_tagOf_49 ?_
          refine lv_iload X.1 X.2.1 jd_M_tagOf_50 (lv_at hl 2 rfl) ?_
          refine kn_iadd X.1 X.2.1 jd_M_tagOf_52 ?_
          refine lv_iload X.1 X.2.1 jd_M_tagOf_53 (lv_at hl 0 rfl) ?_
          refine kn_iadd X.1 X.2.1 jd_M_tagOf_55 ?_
          refine kn_to (y := 128 * x + (16 * k + j)) (by omega) ?_
          refine j_ald X hP 38 (128 * x + (16 * k + j)) (by decide) (show (128 * x + (16 * k + j)) < 256 from by omega) (by decide) jd_M_tagOf_56 ?_
          refine kn_to (y := mS n x (16 * k + j)) (rfl) ?_
          refine lv_iload X.1 X.2.1 jd_M_tagOf_57 (lv_at hl 0 rfl) ?_
          refine lv_ishl X.1 X.2.1 jd_M_tagOf_59 ?_
          refine kn_is (y := (mS n x (16 * k + j)) * 2 ^ j) (kn_shl16 (by omega) (by have := h01 (16 * k + j); omega)) ?_
          refine kn_ior X.1 X.2.1 jd_M_tagOf_60 ?_
          refine lv_istore X.1 X.2.1 jd_M_tagOf_61 hl (by decide) rfl (fun ls hl => ?_)
          have hl : lv_has ls 7 [(5, .int (nI ((wordF (mS n x) (16 * k) j) ||| ((mS n x (16 * k + j)) * 2 ^ j)))), (6, .int (nI j)), (4, .int (nI (16 * k))), (3, .int (nI (tgM (mS n x) r (n 33 2) k))), (0, .ref (a 33)), (1, .int (nI x)), (2, .int (nI r))] := hl
          refine lv_iinc (k := 1) (v := nI (j + 1)) X.1 X.2.1 jd_M_tagOf_63 hl rfl (kn_inc _) (by decide) rfl (fun ls hl => ?_)
          have hl : lv_has ls 7 [(6, .int (nI (j + 1))), (5, .int (nI ((wordF (mS n x) (16 * k) j) ||| ((mS n x (16 * k + j)) * 2 ^ j)))), (4, .int (nI (16 * k))), (3, .int (nI (tgM (mS n x) r (n 33 2) k))), (0, .ref (a 33)), (1, .int (nI x)), (2, .int (nI r))] := hl
          refine lv_goto X.1 X.2.1 jd_M_tagOf_66 (tgt := 20) (by decide) ?_
          have hl : lv_has ls 7 [(6, .int (nI (j + 1))), (5, .int (nI (wordF (mS n x) (16 * k) (j + 1)))), (4, .int (nI (16 * k))), (3, .int (nI (tgM (mS n x) r (n 33 2) k))), (0, .ref (a 33)), (1, .int (nI x)), (2, .int (nI r))] := lv_sub hl [0, 1, 2, 3, 4, 5, 6] rfl
          exact ihr2 (j + 1) ls (by omega) hl
      have hl : lv_has ls 7 [(6, .int (nI 0)), (5, .int (nI (wordF (mS n x) (16 * k) 0))), (4, .int (nI (16 * k))), (3, .int (nI (tgM (mS n x) r (n 33 2) k))), (0, .ref (a 33)), (1, .int (nI x)), (2, .int (nI r))] := lv_sub hl [0, 1, 2, 3, 4, 5, 6] rfl
      exact loopI ((if n 33 2 < 16 * k + 16 then n 33 2 else 16 * k + 16) - 16 * k) 0 ls (by omega) hl
  have hl : lv_has ls 7 [(4, .int (nI (16 * 0))), (3, .int (nI (tgM (mS n x) r (n 33 2) 0))), (0, .ref (a 33)), (1, .int (nI x)), (2, .int (nI r))] := lv_sub hl [0, 1, 2, 3, 4] rfl
  exact loop5 ((n 33 2 + 15) / 16) 0 ls (by omega) hl

set_option maxHeartbeats 4000000 in
theorem c_M_tag_1 (l : Launch) (d : Nat → Nat) (D : va_G) (a : Nat → Nat) (n : Nat → Nat → Nat) (g : Nat → Nat) (hap : ∀ i j : Nat, i < 52 → j < 52 → a i = a j → i = j) (hB : NB n) (x r : Nat) (hs : n 33 1 = 0) : jEff l d D a n g jy_M_tag jb_M_tag 3 (some .int) { frames := 2, cells := 0, slots := 0, locals := 49 } [.ref (a 33), .int (nI x), .int (nI r)] (fun v9 n2 g2 => some (.int (nI 0)) = v9 ∧ ku n 33 0 1 = n2 ∧ g = g2) := by
  refine je_I (by decide) (Nat.le_of_ble_eq_true rfl) ?_
  intro p e s m A below meth c ls Q X hP hS hl hQ
  have hl : lv_has ls 3 [(0, .ref (a 33)), (1, .int (nI x)), (2, .int (nI r))] := hl
  refine lv_aload_n X.1 X.2.1 jd_M_tag_0 rfl (lv_at hl 0 rfl) ?_
  refine lv_aload_n X.1 X.2.1 jd_M_tag_1 rfl (lv_at hl 0 rfl) ?_
  refine jg_M_77_33 X hP jd_M_tag_2 ?_
  refine kn_ne0 X.1 X.2.1 jd_M_tag_5 (tgt := 12) (by decide) (hB _ _) (fun h5 => absurd h5 (fun q => q hs)) (fun h5 => ?_)
  refine lv_iconst (v := nI 1) X.1 X.2.1 jd_M_tag_8 (by decide) ?_
  refine lv_goto X.1 X.2.1 jd_M_tag_9 (tgt := 34) (by decide) ?_
  refine jp_M_66_33 X hap hP hS jd_M_tag_34 (fun H locs hP hS => ?_)
  refine lv_aload_n X.1 X.2.1 jd_M_tag_37 rfl (lv_at hl 0 rfl) ?_
  refine jg_M_66_33 X hP jd_M_tag_38 ?_
  refine kn_to (y := 1) (rfl) ?_
  refine kn_le0 X.1 X.2.1 jd_M_tag_41 (tgt := 48) (by decide) (by omega) (fun h41 => absurd h41 (by omega)) (fun h41 => ?_)
  refine lv_iconst (v := nI 0) X.1 X.2.1 jd_M_tag_44 (by decide) ?_
  refine lv_goto X.1 X.2.1 jd_M_tag_45 (tgt := 54) (by decide) ?_
  exact hQ _ _ _ _ _ _ _ (⟨rfl, rfl, rfl⟩) hP hS jd_M_tag_54

set_option maxHeartbeats 4000000 in
theorem c_M_tag_2 (l : Launch) (d : Nat → Nat) (D : va_G) (a : Nat → Nat) (n : Nat → Nat → Nat) (g : Nat → Nat) (hap : ∀ i j : Nat, i < 52 → j < 52 → a i = a j → i = j) (hB : NB n) (x r : Nat) (hx : x < 4294967296) (hr : r < 4294967296) (hs : ¬ n 33 1 = 0) (hbad : ¬ (x < 2 ∧ 1 ≤ r ∧ r ≤ 65535)) : jEff l d D a n g jy_M_tag jb_M_tag 3 (some .int) { frames := 2, cells := 0, slots := 0, locals := 49 } [.ref (a 33), .int (nI x), .int (nI r)] (fun v9 n2 g2 => some (.int (nI 0)) = v9 ∧ ku n 33 0 2 = n2 ∧ g = g2) := by
  refine je_I (by decide) (Nat.le_of_ble_eq_true rfl) ?_
  intro p e s m A below meth c ls Q X hP hS hl hQ
  have hl : lv_has ls 3 [(0, .ref (a 33)), (1, .int (nI x)), (2, .int (nI r))] := hl
  refine lv_aload_n X.1 X.2.1 jd_M_tag_0 rfl (lv_at hl 0 rfl) ?_
  refine lv_aload_n X.1 X.2.1 jd_M_tag_1 rfl (lv_at hl 0 rfl) ?_
  refine jg_M_77_33 X hP jd_M_tag_2 ?_
  refine kn_ne0 X.1 X.2.1 jd_M_tag_5 (tgt := 12) (by decide) (hB _ _) (fun h5 => ?_) (fun h5 => absurd h5 (hs))
  refine lv_iload_n X.1 X.2.1 jd_M_tag_12 rfl (lv_at hl 1 rfl) ?_
  refine j_run (j_mkS X (c_M_isStation l d D a n g x hx) jU_b (j_pp X hP) jm_711 jm_710 jm_6 jm_709 (show jOk jy_M_isStation 1 by unfold jOk; decide +kernel) (by decide) ⟨rfl, rfl⟩ hl.1 rfl (Nat.le_of_ble_eq_true rfl) ⟨Nat.zero_le _, Nat.zero_le _⟩ jd_M_tag_13) ?_
  refine W.eq (g2 := F0 m 16 ls [.int (nI (if x < 2 then 1 else 0)), .ref (a 33)]) rfl ?_
  refine kn_eq0 X.1 X.2.1 jd_M_tag_16 (tgt := 29) (by decide) (by split <;> omega) (fun h16 => ?_) (fun h16 => ?_)
  · skip
    refine lv_iconst (v := nI 2) X.1 X.2.1 jd_M_tag_29 (by decide) ?_
    refine lv_goto X.1 X.2.1 jd_M_tag_30 (tgt := 34) (by decide) ?_
    refine jp_M_66_33 X hap hP hS jd_M_tag_34 (fun H locs hP hS => ?_)
    refine lv_aload_n X.1 X.2.1 jd_M_tag_37 rfl (lv_at hl 0 rfl) ?_
    refine jg_M_66_33 X hP jd_M_tag_38 ?_
    refine kn_to (y := 2) (rfl) ?_
    refine kn_le0 X.1 X.2.1 jd_M_tag_41 (tgt := 48) (by decide) (by omega) (fun h41 => absurd h41 (by omega)) (fun h41 => ?_)
    refine lv_iconst (v := nI 0) X.1 X.2.1 jd_M_tag_44 (by decide) ?_
    refine lv_goto X.1 X.2.1 jd_M_tag_45 (tgt := 54) (by decide) ?_
    exact hQ _ _ _ _ _ _ _ (⟨rfl, rfl, rfl⟩) hP hS jd_M_tag_54
  · skip
    refine lv_iload_n X.1 X.2.1 jd_M_tag_19 rfl (lv_at hl 2 rfl) ?_
    refine lv_iconst (v := nI 1) X.1 X.2.1 jd_M_tag_20 (by decide) ?_
    refine lv_ldc (v := nI 65535) X.1 X.2.1 X.2.2.2.2.2.1 (X.2.2.2.2.2.2.1 _ jm_835) jd_M_tag_21 ?_
    refine j_run (j_mkS X (c_M_within l d D a n g r 1 65535 (by omega) (by omega) (by omega)) jU_b (j_pp X hP) jm_714 jm_713 jm_6 jm_712 (show jOk jy_M_within 3 by unfold jOk; decide +kernel) (by decide) ⟨rfl, rfl⟩ hl.1 rfl (Nat.le_of_ble_eq_true rfl) ⟨Nat.zero_le _, Nat.zero_le _⟩ jd_M_tag_23) ?_
    refine W.eq (g2 := F0 m 26 ls [.int (nI (if 1 ≤ r ∧ r ≤ 65535 then 1 else 0)), .ref (a 33)]) rfl ?_
    refine kn_ne0 X.1 X.2.1 jd_M_tag_26 (tgt := 33) (by decide) (by split <;> omega) (fun h26 => ?_) (fun h26 => ?_)
    · skip
      exact absurd ⟨kn_if1 h16, kn_if1 h26⟩ hbad
    · skip
      refine lv_iconst (v := nI 2) X.1 X.2.1 jd_M_tag_29 (by decide) ?_
      refine lv_goto X.1 X.2.1 jd_M_tag_30 (tgt := 34) (by decide) ?_
      refine jp_M_66_33 X hap hP hS jd_M_tag_34 (fun H locs hP hS => ?_)
      refine lv_aload_n X.1 X.2.1 jd_M_tag_37 rfl (lv_at hl 0 rfl) ?_
      refine jg_M_66_33 X hP jd_M_tag_38 ?_
      refine kn_to (y := 2) (rfl) ?_
      refine kn_le0 X.1 X.2.1 jd_M_tag_41 (tgt := 48) (by decide) (by omega) (fun h41 => absurd h41 (by omega)) (fun h41 => ?_)
      refine lv_iconst (v := nI 0) X.1 X.2.1 jd_M_tag_44 (by decide) ?_
      refine lv_goto X.1 X.2.1 jd_M_tag_45 (tgt := 54) (by decide) ?_
      exact hQ _ _ _ _ _ _ _ (⟨rfl, rfl, rfl⟩) hP hS jd_M_tag_54

set_option maxHeartbeats 4000000 in
theorem c_M_tag (l : Launch) (d : Nat → Nat) (D : va_G) (a : Nat → Nat) (n : Nat → Nat → Nat) (g : Nat → Nat) (hap : ∀ i j : Nat, i < 52 → j < 52 → a i = a j → i = j) (hB : NB n) (x r : Nat) (hx : x < 2) (hr : 1 ≤ r) (hr2 : r ≤ 65535) (hs : ¬ n 33 1 = 0) (hn : n 33 2 ≤ 128) (h01 : ∀ i, mS n x i < 2) : jEff l d D a n g jy_M_tag jb_M_tag 3 (some .int) { frames := 2, cells := 0, slots := 0, locals := 49 } [.ref (a 33), .int (nI x), .int (nI r)] (fun v9 n2 g2 => some (.int (nI (tagM (mS n x) r (n 33 2)))) = v9 ∧ (ku n 33 0 0) = n2 ∧ g = g2) := by
  refine je_I (by decide) (Nat.le_of_ble_eq_true rfl) ?_
  intro p e s m A below meth c ls Q X hP hS hl hQ
  have hl : lv_has ls 3 [(0, .ref (a 33)), (1, .int (nI x)), (2, .int (nI r))] := hl
  refine lv_aload_n X.1 X.2.1 jd_M_tag_0 rfl (lv_at hl 0 rfl) ?_
  refine lv_aload_n X.1 X.2.1 jd_M_tag_1 rfl (lv_at hl 0 rfl) ?_
  refine jg_M_77_33 X hP jd_M_tag_2 ?_
  refine kn_ne0 X.1 X.2.1 jd_M_tag_5 (tgt := 12) (by decide) (hB _ _) (fun h5 => ?_) (fun h5 => absurd h5 (hs))
  refine lv_iload_n X.1 X.2.1 jd_M_tag_12 rfl (lv_at hl 1 rfl) ?_
  refine j_run (j_mkS X (c_M_isStation l d D a n g x (by first | decide | omega)) jU_b (j_pp X hP) jm_711 jm_710 jm_6 jm_709 (show jOk jy_M_isStation 1 by unfold jOk; decide +kernel) (by decide) ⟨rfl, rfl⟩ hl.1 rfl (Nat.le_of_ble_eq_true rfl) ⟨Nat.zero_le _, Nat.zero_le _⟩ jd_M_tag_13) ?_
  refine W.eq (g2 := F0 m 16 ls [.int (nI (if x < 2 then 1 else 0)), .ref (a 33)]) rfl ?_
  refine kn_to (y := 1) (if_pos (by first | decide | omega)) ?_
  refine kn_eq0 X.1 X.2.1 jd_M_tag_16 (tgt := 29) (by decide) (by omega) (fun h16 => absurd h16 (by decide)) (fun h16 => ?_)
  refine lv_iload_n X.1 X.2.1 jd_M_tag_19 rfl (lv_at hl 2 rfl) ?_
  refine lv_iconst (v := nI 1) X.1 X.2.1 jd_M_tag_20 (by decide) ?_
  refine lv_ldc (v := nI 65535) X.1 X.2.1 X.2.2.2.2.2.1 (X.2.2.2.2.2.2.1 _ jm_835) jd_M_tag_21 ?_
  refine j_run (j_mkS X (c_M_within l d D a n g r 1 65535 (by omega) (by omega) (by omega)) jU_b (j_pp X hP) jm_714 jm_713 jm_6 jm_712 (show jOk jy_M_within 3 by unfold jOk; decide +kernel) (by decide) ⟨rfl, rfl⟩ hl.1 rfl (Nat.le_of_ble_eq_true rfl) ⟨Nat.zero_le _, Nat.zero_le _⟩ jd_M_tag_23) ?_
  refine W.eq (g2 := F0 m 26 ls [.int (nI (if 1 ≤ r ∧ r ≤ 65535 then 1 else 0)), .ref (a 33)]) rfl ?_
  refine kn_to (y := 1) (if_pos (by omega)) ?_
  refine kn_ne0 X.1 X.2.1 jd_M_tag_26 (tgt := 33) (by decide) (by omega) (fun h26 => ?_) (fun h26 => absurd h26 (by decide))
  refine lv_iconst (v := nI 0) X.1 X.2.1 jd_M_tag_33 (by decide) ?_
  refine jp_M_66_33 X hap hP hS jd_M_tag_34 (fun H locs hP hS => ?_)
  refine lv_aload_n X.1 X.2.1 jd_M_tag_37 rfl (lv_at hl 0 rfl) ?_
  refine jg_M_66_33 X hP jd_M_tag_38 ?_
  refine kn_to (y := 0) (rfl) ?_
  refine kn_le0 X.1 X.2.1 jd_M_tag_41 (tgt := 48) (by decide) (by omega) (fun h41 => ?_) (fun h41 => absurd h41 (by omega))
  refine lv_aload_n X.1 X.2.1 jd_M_tag_48 rfl (lv_at hl 0 rfl) ?_
  refine lv_iload_n X.1 X.2.1 jd_M_tag_49 rfl (lv_at hl 1 rfl) ?_
  refine lv_iload_n X.1 X.2.1 jd_M_tag_50 rfl (lv_at hl 2 rfl) ?_
  refine j_run (j_mkV X hP (c_M_tagOf l d D a (ku n 33 0 0) g x r hx (by omega) hn h01) jU_b (j_pp X hP) jm_839 jm_838 js_53 jm_6 jm_836 (by decide) rfl rfl (show jOk jy_M_tagOf 2 by unfold jOk; decide +kernel) (by decide) ⟨rfl, rfl⟩ hl.1 rfl (Nat.le_of_ble_eq_true rfl) ⟨Nat.zero_le _, Nat.zero_le _⟩ jd_M_tag_51) ?_
  refine W.eq (g2 := F0 m 54 ls [.int (nI (tagM (mS n x) r (n 33 2)))]) rfl ?_
  exact hQ _ _ _ _ _ _ _ (⟨rfl, rfl, rfl⟩) hP hS jd_M_tag_54

set_option maxHeartbeats 4000000 in
theorem c_M_known (l : Launch) (d : Nat → Nat) (D : va_G) (a : Nat → Nat) (n : Nat → Nat → Nat) (g : Nat → Nat) (hB : NB n) (q f t : Nat) (hq : q < 4294967296) (hf : f < 4294967296) (ht : t < 4294967296) (hl9 : n 33 9 ≤ 600) : jPure l d D a n g jy_M_known jb_M_known 5 (some .int) { frames := 0, cells := 0, slots := 0, locals := 0 } [.ref (a 33), .int (nI q), .int (nI f), .int (nI t)] (some (.int (nI (kwF n q f t)))) := by
  refine jq_I (by decide) (Nat.le_of_ble_eq_true rfl) ?_
  intro p e s m A below meth c ls Q X hP hl hQ
  have hl : lv_has ls 5 [(0, .ref (a 33)), (1, .int (nI q)), (2, .int (nI f)), (3, .int (nI t))] := hl
  refine lv_iconst (v := nI 1) X.1 X.2.1 jd_M_known_0 (by decide) ?_
  refine lv_istore X.1 X.2.1 jd_M_known_1 hl (by decide) rfl (fun ls hl => ?_)
  have hl : lv_has ls 5 [(4, .int (nI 1)), (0, .ref (a 33)), (1, .int (nI q)), (2, .int (nI f)), (3, .int (nI t))] := hl
  have loop3 : ∀ (r k : Nat) (ls : Array Slot), k + r = n 33 9 → knP n q f t k = none → lv_has ls 5 [(4, .int (nI (k + 1))), (0, .ref (a 33)), (1, .int (nI q)), (2, .int (nI f)), (3, .int (nI t))] → W p l e { frames := 0, cells := 0, slots := 0, locals := 0 } s m A below meth c s.heap [] 0 0 Q (F0 m 3 ls []) := by
    intro r
    induction r with
    | zero => 
      intro k ls hk hn hl
      obtain rfl : n 33 9 = k := by omega
      refine lv_iload X.1 X.2.1 jd_M_known_3 (lv_at hl 0 rfl) ?_
      refine lv_aload_n X.1 X.2.1 jd_M_known_5 rfl (lv_at hl 1 rfl) ?_
      refine jg_M_126_33 X hP jd_M_known_6 ?_
      refine kn_cgt X.1 X.2.1 jd_M_known_9 (tgt := 59) (by decide) (by omega) (fun h9 => ?_) (fun h9 => absurd h9 (by omega))
      refine lv_iconst (v := nI 4294967295) X.1 X.2.1 jd_M_known_59 (by decide) ?_
      exact kn_to ((kw_none hn).symm) (hQ _ _ jd_M_known_60)
    | succ r ihr => 
      intro k ls hk hn hl
      refine lv_iload X.1 X.2.1 jd_M_known_3 (lv_at hl 0 rfl) ?_
      refine lv_aload_n X.1 X.2.1 jd_M_known_5 rfl (lv_at hl 1 rfl) ?_
      refine jg_M_126_33 X hP jd_M_known_6 ?_
      refine kn_cgt X.1 X.2.1 jd_M_known_9 (tgt := 59) (by decide) (by omega) (fun h9 => absurd h9 (by omega)) (fun h9 => ?_)
      refine lv_aload_n X.1 X.2.1 jd_M_known_12 rfl (lv_at hl 1 rfl) ?_
      refine jg_M_39_33 X hP jd_M_known_13 ?_
      refine lv_iload X.1 X.2.1 jd_M_known_16 (lv_at hl 0 rfl) ?_
      refine j_ald X hP 42 (k + 1) (by decide) (show (k + 1) < 700 from by omega) (by decide) jd_M_known_18 ?_
      refine lv_iload_n X.1 X.2.1 jd_M_known_19 rfl (lv_at hl 2 rfl) ?_
      refine kn_cne X.1 X.2.1 jd_M_known_20 (tgt := 53) (by decide) (⟨hB _ _, hq⟩) (fun h20 => ?_) (fun h20 => ?_)
      · skip
        refine lv_iinc (k := 0) (v := nI ((k + 1) + 1)) X.1 X.2.1 jd_M_known_53 hl rfl (kn_inc _) (by decide) rfl (fun ls hl => ?_)
        have hl : lv_has ls 5 [(4, .int (nI ((k + 1) + 1))), (0, .ref (a 33)), (1, .int (nI q)), (2, .int (nI f)), (3, .int (nI t))] := hl
        refine lv_goto X.1 X.2.1 jd_M_known_56 (tgt := 3) (by decide) ?_
        have hl : lv_has ls 5 [(4, .int (nI ((k + 1) + 1))), (0, .ref (a 33)), (1, .int (nI q)), (2, .int (nI f)), (3, .int (nI t))] := lv_sub hl [0, 1, 2, 3, 4] rfl
        exact ihr (k + 1) ls (by omega) (knP_none hn (by first | exact fun z => h20 z.1 | exact fun z => h31 z.2.1 | exact fun z => h42 z.2.2)) hl
      · skip
        refine lv_aload_n X.1 X.2.1 jd_M_known_23 rfl (lv_at hl 1 rfl) ?_
        refine jg_M_42_33 X hP jd_M_known_24 ?_
        refine lv_iload X.1 X.2.1 jd_M_known_27 (lv_at hl 0 rfl) ?_
        refine j_ald X hP 43 (k + 1) (by decide) (show (k + 1) < 700 from by omega) (by decide) jd_M_known_29 ?_
        refine lv_iload_n X.1 X.2.1 jd_M_known_30 rfl (lv_at hl 3 rfl) ?_
        refine kn_cne X.1 X.2.1 jd_M_known_31 (tgt := 53) (by decide) (⟨hB _ _, hf⟩) (fun h31 => ?_) (fun h31 => ?_)
        · skip
          refine lv_iinc (k := 0) (v := nI ((k + 1) + 1)) X.1 X.2.1 jd_M_known_53 hl rfl (kn_inc _) (by decide) rfl (fun ls hl => ?_)
          have hl : lv_has ls 5 [(4, .int (nI ((k + 1) + 1))), (0, .ref (a 33)), (1, .int (nI q)), (2, .int (nI f)), (3, .int (nI t))] := hl
          refine lv_goto X.1 X.2.1 jd_M_known_56 (tgt := 3) (by decide) ?_
          have hl : lv_has ls 5 [(4, .int (nI ((k + 1) + 1))), (0, .ref (a 33)), (1, .int (nI q)), (2, .int (nI f)), (3, .int (nI t))] := lv_sub hl [0, 1, 2, 3, 4] rfl
          exact ihr (k + 1) ls (by omega) (knP_none hn (by first | exact fun z => h20 z.1 | exact fun z => h31 z.2.1 | exact fun z => h42 z.2.2)) hl
        · skip
          refine lv_aload_n X.1 X.2.1 jd_M_known_34 rfl (lv_at hl 1 rfl) ?_
          refine jg_M_45_33 X hP jd_M_known_35 ?_
          refine lv_iload X.1 X.2.1 jd_M_known_38 (lv_at hl 0 rfl) ?_
          refine j_ald X hP 44 (k + 1) (by decide) (show (k + 1) < 700 from by omega) (by decide) jd_M_known_40 ?_
          refine lv_iload_n X.1 X.2.1 jd_M_known_41 rfl (lv_at hl 4 rfl) ?_
          refine kn_cne X.1 X.2.1 jd_M_known_42 (tgt := 53) (by decide) (⟨hB _ _, ht⟩) (fun h42 => ?_) (fun h42 => ?_)
          · skip
            refine lv_iinc (k := 0) (v := nI ((k + 1) + 1)) X.1 X.2.1 jd_M_known_53 hl rfl (kn_inc _) (by decide) rfl (fun ls hl => ?_)
            have hl : lv_has ls 5 [(4, .int (nI ((k + 1) + 1))), (0, .ref (a 33)), (1, .int (nI q)), (2, .int (nI f)), (3, .int (nI t))] := hl
            refine lv_goto X.1 X.2.1 jd_M_known_56 (tgt := 3) (by decide) ?_
            have hl : lv_has ls 5 [(4, .int (nI ((k + 1) + 1))), (0, .ref (a 33)), (1, .int (nI q)), (2, .int (nI f)), (3, .int (nI t))] := lv_sub hl [0, 1, 2, 3, 4] rfl
            exact ihr (k + 1) ls (by omega) (knP_none hn (by first | exact fun z => h20 z.1 | exact fun z => h31 z.2.1 | exact fun z => h42 z.2.2)) hl
          · skip
            refine lv_aload_n X.1 X.2.1 jd_M_known_45 rfl (lv_at hl 1 rfl) ?_
            refine jg_M_48_33 X hP jd_M_known_46 ?_
            refine lv_iload X.1 X.2.1 jd_M_known_49 (lv_at hl 0 rfl) ?_
            refine j_ald X hP 45 (k + 1) (by decide) (show (k + 1) < 700 from by omega) (by decide) jd_M_known_51 ?_
            exact kn_to ((kw_hit (by omega) hn ⟨h20, h31, h42⟩).symm) (hQ _ _ jd_M_known_52)
  have hl : lv_has ls 5 [(4, .int (nI (0 + 1))), (0, .ref (a 33)), (1, .int (nI q)), (2, .int (nI f)), (3, .int (nI t))] := lv_sub hl [0, 1, 2, 3, 4] rfl
  exact loop3 (n 33 9) 0 ls (by omega) (rfl) hl

set_option maxHeartbeats 4000000 in
theorem c_M_blockSize (l : Launch) (d : Nat → Nat) (D : va_G) (a : Nat → Nat) (n : Nat → Nat → Nat) (g : Nat → Nat) (q : Nat) (hq : q < 4) (hz2 : n 33 6 ≤ 128) : jPure l d D a n g jy_M_blockSize jb_M_blockSize 2 (some .int) { frames := 0, cells := 0, slots := 0, locals := 0 } [.ref (a 33), .int (nI q)] (some (.int (nI (n 33 6 * 2 ^ q)))) := by
  refine jq_I (by decide) (Nat.le_of_ble_eq_true rfl) ?_
  intro p e s m A below meth c ls Q X hP hl hQ
  have hl : lv_has ls 2 [(0, .ref (a 33)), (1, .int (nI q))] := hl
  refine lv_aload_n X.1 X.2.1 jd_M_blockSize_0 rfl (lv_at hl 0 rfl) ?_
  refine jg_M_117_33 X hP jd_M_blockSize_1 ?_
  refine lv_iload_n X.1 X.2.1 jd_M_blockSize_4 rfl (lv_at hl 1 rfl) ?_
  refine lv_ishl X.1 X.2.1 jd_M_blockSize_5 ?_
  refine kn_is (y := (n 33 6) * 2 ^ q) (kn_shl (by omega) (by omega)) ?_
  exact kn_to (by first | rfl | omega | (split <;> omega)) (hQ _ _ jd_M_blockSize_6)

set_option maxHeartbeats 4000000 in
theorem c_M_end (l : Launch) (d : Nat → Nat) (D : va_G) (a : Nat → Nat) (n : Nat → Nat → Nat) (g : Nat → Nat) (q f : Nat) (hq : q < 4) (hf : f < 128) (hz2 : n 33 6 ≤ 128) (ht2 : n 33 2 ≤ 128) : jPure l d D a n g jy_M_end jb_M_end 4 (some .int) { frames := 1, cells := 0, slots := 0, locals := 21 } [.ref (a 33), .int (nI f), .int (nI q)] (some (.int (nI (beM n q f)))) := by
  have hbs := bsM_le (n := n) (p := q) hz2 hq
  refine jq_I (by decide) (Nat.le_of_ble_eq_true rfl) ?_
  intro p e s m A below meth c ls Q X hP hl hQ
  have hl : lv_has ls 4 [(0, .ref (a 33)), (1, .int (nI f)), (2, .int (nI q))] := hl
  refine lv_iload_n X.1 X.2.1 jd_M_end_0 rfl (lv_at hl 1 rfl) ?_
  refine lv_aload_n X.1 X.2.1 jd_M_end_1 rfl (lv_at hl 0 rfl) ?_
  refine lv_iload_n X.1 X.2.1 jd_M_end_2 rfl (lv_at hl 2 rfl) ?_
  refine j_run (j_mkV X hP (c_M_blockSize l d D a n g q (by omega) hz2) jU_b (j_pp X hP) jm_769 jm_768 js_46 jm_6 jm_766 (by decide) rfl rfl (show jOk jy_M_blockSize 1 by unfold jOk; decide +kernel) (by decide) ⟨rfl, rfl⟩ hl.1 rfl (Nat.le_of_ble_eq_true rfl) ⟨Nat.zero_le _, Nat.zero_le _⟩ jd_M_end_3) ?_
  refine W.eq (g2 := F0 m 6 ls [.int (nI (n 33 6 * 2 ^ q)), .int (nI f)]) rfl ?_
  refine kn_iadd X.1 X.2.1 jd_M_end_6 ?_
  refine lv_istore_n X.1 X.2.1 jd_M_end_7 rfl hl (by decide) rfl (fun ls hl => ?_)
  have hl : lv_has ls 4 [(3, .int (nI (f + (n 33 6 * 2 ^ q)))), (0, .ref (a 33)), (1, .int (nI f)), (2, .int (nI q))] := hl
  refine lv_iload_n X.1 X.2.1 jd_M_end_8 rfl (lv_at hl 0 rfl) ?_
  refine lv_aload_n X.1 X.2.1 jd_M_end_9 rfl (lv_at hl 1 rfl) ?_
  refine jg_M_85_33 X hP jd_M_end_10 ?_
  refine kn_cge X.1 X.2.1 jd_M_end_13 (tgt := 20) (by decide) (by omega) (fun h13 => ?_) (fun h13 => ?_)
  · skip
    refine lv_aload_n X.1 X.2.1 jd_M_end_20 rfl (lv_at hl 1 rfl) ?_
    refine jg_M_85_33 X hP jd_M_end_21 ?_
    exact kn_to (by unfold beM; split <;> omega) (hQ _ _ jd_M_end_24)
  · skip
    refine lv_iload_n X.1 X.2.1 jd_M_end_16 rfl (lv_at hl 0 rfl) ?_
    refine lv_goto X.1 X.2.1 jd_M_end_17 (tgt := 24) (by decide) ?_
    exact kn_to (by unfold beM; split <;> omega) (hQ _ _ jd_M_end_24)

set_option maxHeartbeats 4000000 in
theorem c_M_parityAt (l : Launch) (d : Nat → Nat) (D : va_G) (a : Nat → Nat) (n : Nat → Nat → Nat) (g : Nat → Nat) (x q f t : Nat) (hx : x < 2) (hq : q < 4) (hf : f ≤ t) (ht : t ≤ 128) (hv : ∀ k, k < t → mO n q k < 128) : jPure l d D a n g jy_M_parityAt jb_M_parityAt 7 (some .int) { frames := 0, cells := 0, slots := 0, locals := 0 } [.ref (a 33), .int (nI x), .int (nI q), .int (nI f), .int (nI t)] (some (.int (nI (parF (mS n x) (mO n q) f (t - f))))) := by
  refine jq_I (by decide) (Nat.le_of_ble_eq_true rfl) ?_
  intro p e s m A below meth c ls Q X hP hl hQ
  have hl : lv_has ls 7 [(0, .ref (a 33)), (1, .int (nI x)), (2, .int (nI q)), (3, .int (nI f)), (4, .int (nI t))] := hl
  refine lv_iconst (v := nI 0) X.1 X.2.1 jd_M_parityAt_0 (by decide) ?_
  refine lv_istore X.1 X.2.1 jd_M_parityAt_1 hl (by decide) rfl (fun ls hl => ?_)
  have hl : lv_has ls 7 [(5, .int (nI 0)), (0, .ref (a 33)), (1, .int (nI x)), (2, .int (nI q)), (3, .int (nI f)), (4, .int (nI t))] := hl
  refine lv_iload_n X.1 X.2.1 jd_M_parityAt_3 rfl (lv_at hl 4 rfl) ?_
  refine lv_istore X.1 X.2.1 jd_M_parityAt_4 hl (by decide) rfl (fun ls hl => ?_)
  have hl : lv_has ls 7 [(6, .int (nI f)), (5, .int (nI 0)), (0, .ref (a 33)), (1, .int (nI x)), (2, .int (nI q)), (3, .int (nI f)), (4, .int (nI t))] := hl
  have loop6 : ∀ (r k : Nat) (ls : Array Slot), k + r = t - f → lv_has ls 7 [(6, .int (nI (f + k))), (5, .int (nI (parF (mS n x) (mO n q) f k))), (0, .ref (a 33)), (1, .int (nI x)), (2, .int (nI q)), (3, .int (nI f)), (4, .int (nI t))] → W p l e { frames := 0, cells := 0, slots := 0, locals := 0 } s m A below meth c s.heap [] 0 0 Q (F0 m 6 ls []) := by
    intro r
    induction r with
    | zero => 
      intro k ls hk hl
      obtain rfl : t - f = k := by omega
      refine lv_iload X.1 X.2.1 jd_M_parityAt_6 (lv_at hl 0 rfl) ?_
      refine lv_iload X.1 X.2.1 jd_M_parityAt_8 (lv_at hl 6 rfl) ?_
      refine kn_cge X.1 X.2.1 jd_M_parityAt_10 (tgt := 48) (by decide) (by omega) (fun h10 => ?_) (fun h10 => absurd h10 (by omega))
      refine lv_iload X.1 X.2.1 jd_M_parityAt_48 (lv_at hl 1 rfl) ?_
      exact kn_to (by first | rfl | omega | (split <;> omega)) (hQ _ _ jd_M_parityAt_50)
    | succ r ihr => 
      intro k ls hk hl
      refine lv_iload X.1 X.2.1 jd_M_parityAt_6 (lv_at hl 0 rfl) ?_
      refine lv_iload X.1 X.2.1 jd_M_parityAt_8 (lv_at hl 6 rfl) ?_
      refine kn_cge X.1 X.2.1 jd_M_parityAt_10 (tgt := 48) (by decide) (by omega) (fun h10 => absurd h10 (by omega)) (fun h10 => ?_)
      refine lv_iload X.1 X.2.1 jd_M_parityAt_13 (lv_at hl 1 rfl) ?_
      refine lv_aload_n X.1 X.2.1 jd_M_parityAt_15 rfl (lv_at hl 2 rfl) ?_
      refine jg_M_23_33 X hP jd_M_parityAt_16 ?_
      refine lv_sipush (v := nI 128) X.1 X.2.1 jd_M_parityAt_19 (by decide) ?_
      refine lv_iload_n X.1 X.2.1 jd_M_parityAt_22 rfl (lv_at hl 3 rfl) ?_
      refine kn_imul X.1 X.2.1 jd_M_parityAt_23 ?_
      refine lv_aload_n X.1 X.2.1 jd_M_parityAt_24 rfl (lv_at hl 2 rfl) ?_
      refine jg_M_36_33 X hP jd_M_parityAt_25 ?_
      refine lv_sipush (v := nI 128) X.1 X.2.1 jd_M_parityAt_28 (by decide) ?_
      refine lv_iload_n X.1 X.2.1 jd_M_parityAt_31 rfl (lv_at hl 4 rfl) ?_
      refine kn_imul X.1 X.2.1 jd_M_parityAt_32 ?_
      refine lv_iload X.1 X.2.1 jd_M_parityAt_33 (lv_at hl 0 rfl) ?_
      refine kn_iadd X.1 X.2.1 jd_M_parityAt_35 ?_
      refine j_ald X hP 41 ((128 * q) + (f + k)) (by decide) (show ((128 * q) + (f + k)) < 512 from by omega) (by decide) jd_M_parityAt_36 ?_
      refine kn_to (y := mO n q (f + k)) (rfl) ?_
      refine kn_iadd X.1 X.2.1 jd_M_parityAt_37 ?_
      refine j_ald X hP 38 ((128 * x) + (mO n q (f + k))) (by decide) (show ((128 * x) + (mO n q (f + k))) < 256 from by have := hv (f + k) (by omega); omega) (by decide) jd_M_parityAt_38 ?_
      refine kn_ixor X.1 X.2.1 jd_M_parityAt_39 ?_
      refine lv_istore X.1 X.2.1 jd_M_parityAt_40 hl (by decide) rfl (fun ls hl => ?_)
      have hl : lv_has ls 7 [(5, .int (nI ((parF (mS n x) (mO n q) f k) ^^^ (n 38 ((128 * x) + (mO n q (f + k))))))), (6, .int (nI (f + k))), (0, .ref (a 33)), (1, .int (nI x)), (2, .int (nI q)), (3, .int (nI f)), (4, .int (nI t))] := hl
      refine lv_iinc (k := 1) (v := nI ((f + k) + 1)) X.1 X.2.1 jd_M_parityAt_42 hl rfl (kn_inc _) (by decide) rfl (fun ls hl => ?_)
      have hl : lv_has ls 7 [(6, .int (nI ((f + k) + 1))), (5, .int (nI ((parF (mS n x) (mO n q) f k) ^^^ (n 38 ((128 * x) + (mO n q (f + k))))))), (0, .ref (a 33)), (1, .int (nI x)), (2, .int (nI q)), (3, .int (nI f)), (4, .int (nI t))] := hl
      refine lv_goto X.1 X.2.1 jd_M_parityAt_45 (tgt := 6) (by decide) ?_
      have hl : lv_has ls 7 [(6, .int (nI (f + (k + 1)))), (5, .int (nI (parF (mS n x) (mO n q) f (k + 1)))), (0, .ref (a 33)), (1, .int (nI x)), (2, .int (nI q)), (3, .int (nI f)), (4, .int (nI t))] := lv_sub hl [0, 1, 2, 3, 4, 5, 6] rfl
      exact ihr (k + 1) ls (by omega) hl
  have hl : lv_has ls 7 [(6, .int (nI (f + 0))), (5, .int (nI (parF (mS n x) (mO n q) f 0))), (0, .ref (a 33)), (1, .int (nI x)), (2, .int (nI q)), (3, .int (nI f)), (4, .int (nI t))] := lv_sub hl [0, 1, 2, 3, 4, 5, 6] rfl
  exact loop6 (t - f) 0 ls (by omega) hl

set_option maxHeartbeats 4000000 in
theorem c_M_send (l : Launch) (d : Nat → Nat) (D : va_G) (a : Nat → Nat) (n : Nat → Nat → Nat) (g : Nat → Nat) (hap : ∀ i j : Nat, i < 52 → j < 52 → a i = a j → i = j) (x y z : Nat) (hx : x < 2) (hc : n 33 11 < 16) : jEff l d D a n g jy_M_send jb_M_send 4 none { frames := 0, cells := 0, slots := 0, locals := 0 } [.ref (a 33), .int (nI x), .int (nI y), .int (nI z)] (fun v9 n2 g2 => none = v9 ∧ sdMG n x y z = n2 ∧ g = g2) := by
  refine je_V (by decide) (Nat.le_of_ble_eq_true rfl) ?_
  intro p e s m A below meth c ls Q X hP hS hl hQ
  have hl : lv_has ls 4 [(0, .ref (a 33)), (1, .int (nI x)), (2, .int (nI y)), (3, .int (nI z))] := hl
  refine lv_aload_n X.1 X.2.1 jd_M_send_0 rfl (lv_at hl 0 rfl) ?_
  refine jg_M_123_33 X hP jd_M_send_1 ?_
  refine lv_bipush (v := nI 16) X.1 X.2.1 jd_M_send_4 (by decide) ?_
  refine kn_cge X.1 X.2.1 jd_M_send_6 (tgt := 49) (by decide) (by omega) (fun h6 => absurd h6 (by omega)) (fun h6 => ?_)
  refine lv_aload_n X.1 X.2.1 jd_M_send_9 rfl (lv_at hl 0 rfl) ?_
  refine jg_M_51_33 X hP jd_M_send_10 ?_
  refine lv_aload_n X.1 X.2.1 jd_M_send_13 rfl (lv_at hl 0 rfl) ?_
  refine jg_M_123_33 X hP jd_M_send_14 ?_
  refine lv_iload_n X.1 X.2.1 jd_M_send_17 rfl (lv_at hl 1 rfl) ?_
  refine j_zast X hap hP hS 46 (n 33 11) x (by decide) (show (n 33 11) < 17 from by omega) (by decide) (by omega) jd_M_send_18 (fun H locs hP hS => ?_)
  refine lv_aload_n X.1 X.2.1 jd_M_send_19 rfl (lv_at hl 0 rfl) ?_
  refine jg_M_54_33 X hP jd_M_send_20 ?_
  refine lv_aload_n X.1 X.2.1 jd_M_send_23 rfl (lv_at hl 0 rfl) ?_
  refine jg_M_123_33 X hP jd_M_send_24 ?_
  refine kn_to (y := n 33 11) (rfl) ?_
  refine lv_iload_n X.1 X.2.1 jd_M_send_27 rfl (lv_at hl 2 rfl) ?_
  refine j_ast X hap hP hS 47 (n 33 11) y (by decide) (show (n 33 11) < 17 from by omega) (by decide) jd_M_send_28 (fun H locs hP hS => ?_)
  refine lv_aload_n X.1 X.2.1 jd_M_send_29 rfl (lv_at hl 0 rfl) ?_
  refine jg_M_57_33 X hP jd_M_send_30 ?_
  refine lv_aload_n X.1 X.2.1 jd_M_send_33 rfl (lv_at hl 0 rfl) ?_
  refine jg_M_123_33 X hP jd_M_send_34 ?_
  refine kn_to (y := n 33 11) (rfl) ?_
  refine lv_iload_n X.1 X.2.1 jd_M_send_37 rfl (lv_at hl 3 rfl) ?_
  refine j_ast X hap hP hS 48 (n 33 11) z (by decide) (show (n 33 11) < 17 from by omega) (by decide) jd_M_send_38 (fun H locs hP hS => ?_)
  refine lv_aload_n X.1 X.2.1 jd_M_send_39 rfl (lv_at hl 0 rfl) ?_
  refine lv_dup X.1 X.2.1 jd_M_send_40 rfl ?_
  refine jg_M_123_33 X hP jd_M_send_41 ?_
  refine kn_to (y := n 33 11) (rfl) ?_
  refine lv_iconst (v := nI 1) X.1 X.2.1 jd_M_send_44 (by decide) ?_
  refine kn_iadd X.1 X.2.1 jd_M_send_45 ?_
  refine jp_M_123_33 X hap hP hS jd_M_send_46 (fun H locs hP hS => ?_)
  exact hQ _ _ _ _ _ _ (⟨rfl, rfl, rfl⟩) hP hS jd_M_send_49

set_option maxHeartbeats 4000000 in
theorem c_M_send_f (l : Launch) (d : Nat → Nat) (D : va_G) (a : Nat → Nat) (n : Nat → Nat → Nat) (g : Nat → Nat) (hap : ∀ i j : Nat, i < 52 → j < 52 → a i = a j → i = j) (x y z : Nat) (hc : n 33 11 = 16) : jEff l d D a n g jy_M_send jb_M_send 4 none { frames := 0, cells := 0, slots := 0, locals := 0 } [.ref (a 33), .int (nI x), .int (nI y), .int (nI z)] (fun v9 n2 g2 => none = v9 ∧ n = n2 ∧ g = g2) := by
  refine je_V (by decide) (Nat.le_of_ble_eq_true rfl) ?_
  intro p e s m A below meth c ls Q X hP hS hl hQ
  have hl : lv_has ls 4 [(0, .ref (a 33)), (1, .int (nI x)), (2, .int (nI y)), (3, .int (nI z))] := hl
  refine lv_aload_n X.1 X.2.1 jd_M_send_0 rfl (lv_at hl 0 rfl) ?_
  refine jg_M_123_33 X hP jd_M_send_1 ?_
  refine lv_bipush (v := nI 16) X.1 X.2.1 jd_M_send_4 (by decide) ?_
  refine kn_cge X.1 X.2.1 jd_M_send_6 (tgt := 49) (by decide) (by omega) (fun h6 => ?_) (fun h6 => absurd h6 (by omega))
  exact hQ _ _ _ _ _ _ (⟨rfl, rfl, rfl⟩) hP hS jd_M_send_49

theorem c_M_sendF (l : Launch) (d : Nat → Nat) (D : va_G) (a : Nat → Nat) (n : Nat → Nat → Nat) (g : Nat → Nat) (hap : ∀ i j : Nat, i < 52 → j < 52 → a i = a j → i = j) (x y z : Nat) (hx : x < 2) (hc : n 33 11 ≤ 16) : jEff l d D a n g jy_M_send jb_M_send 4 none { frames := 0, cells := 0, slots := 0, locals := 0 } [.ref (a 33), .int (nI x), .int (nI y), .int (nI z)] (fun v9 n2 g2 => none = v9 ∧ sdM n x y z = n2 ∧ g = g2) := by
  unfold sdM
  by_cases h : n 33 11 = 16
  · simp only [if_pos h]
    exact c_M_send_f l d D a n g hap x y z h
  · simp only [if_neg h]
    exact c_M_send l d D a n g hap x y z hx (by omega)

set_option maxHeartbeats 4000000 in
theorem c_M_ask (l : Launch) (d : Nat → Nat) (D : va_G) (a : Nat → Nat) (n : Nat → Nat → Nat) (g : Nat → Nat) (hap : ∀ i j : Nat, i < 52 → j < 52 → a i = a j → i = j) (q f t : Nat) (hq : n 33 8 < 512) (hc : n 33 11 ≤ 16) : jEff l d D a n g jy_M_ask jb_M_ask 4 none { frames := 1, cells := 0, slots := 0, locals := 23 } [.ref (a 33), .int (nI q), .int (nI f), .int (nI t)] (fun v9 n2 g2 => none = v9 ∧ akM n q f t = n2 ∧ g = g2) := by
  refine je_V (by decide) (Nat.le_of_ble_eq_true rfl) ?_
  intro p e s m A below meth c ls Q X hP hS hl hQ
  have hl : lv_has ls 4 [(0, .ref (a 33)), (1, .int (nI q)), (2, .int (nI f)), (3, .int (nI t))] := hl
  refine lv_aload_n X.1 X.2.1 jd_M_ask_0 rfl (lv_at hl 0 rfl) ?_
  refine lv_dup X.1 X.2.1 jd_M_ask_1 rfl ?_
  refine jg_M_129_33 X hP jd_M_ask_2 ?_
  refine lv_iconst (v := nI 1) X.1 X.2.1 jd_M_ask_5 (by decide) ?_
  refine kn_iadd X.1 X.2.1 jd_M_ask_6 ?_
  refine jp_M_129_33 X hap hP hS jd_M_ask_7 (fun H locs hP hS => ?_)
  refine lv_aload_n X.1 X.2.1 jd_M_ask_10 rfl (lv_at hl 0 rfl) ?_
  refine jg_M_39_33 X hP jd_M_ask_11 ?_
  refine lv_aload_n X.1 X.2.1 jd_M_ask_14 rfl (lv_at hl 0 rfl) ?_
  refine jg_M_129_33 X hP jd_M_ask_15 ?_
  refine kn_to (y := n 33 8 + 1) (rfl) ?_
  refine lv_iload_n X.1 X.2.1 jd_M_ask_18 rfl (lv_at hl 1 rfl) ?_
  refine j_ast X hap hP hS 42 (n 33 8 + 1) q (by decide) (show (n 33 8 + 1) < 700 from by omega) (by decide) jd_M_ask_19 (fun H locs hP hS => ?_)
  refine lv_aload_n X.1 X.2.1 jd_M_ask_20 rfl (lv_at hl 0 rfl) ?_
  refine jg_M_42_33 X hP jd_M_ask_21 ?_
  refine lv_aload_n X.1 X.2.1 jd_M_ask_24 rfl (lv_at hl 0 rfl) ?_
  refine jg_M_129_33 X hP jd_M_ask_25 ?_
  refine kn_to (y := n 33 8 + 1) (rfl) ?_
  refine lv_iload_n X.1 X.2.1 jd_M_ask_28 rfl (lv_at hl 2 rfl) ?_
  refine j_ast X hap hP hS 43 (n 33 8 + 1) f (by decide) (show (n 33 8 + 1) < 700 from by omega) (by decide) jd_M_ask_29 (fun H locs hP hS => ?_)
  refine lv_aload_n X.1 X.2.1 jd_M_ask_30 rfl (lv_at hl 0 rfl) ?_
  refine jg_M_45_33 X hP jd_M_ask_31 ?_
  refine lv_aload_n X.1 X.2.1 jd_M_ask_34 rfl (lv_at hl 0 rfl) ?_
  refine jg_M_129_33 X hP jd_M_ask_35 ?_
  refine kn_to (y := n 33 8 + 1) (rfl) ?_
  refine lv_iload_n X.1 X.2.1 jd_M_ask_38 rfl (lv_at hl 3 rfl) ?_
  refine j_ast X hap hP hS 44 (n 33 8 + 1) t (by decide) (show (n 33 8 + 1) < 700 from by omega) (by decide) jd_M_ask_39 (fun H locs hP hS => ?_)
  have hP : va_P D jCl (jW d a (akMG n q f t) g) H := hP
  refine lv_aload_n X.1 X.2.1 jd_M_ask_40 rfl (lv_at hl 0 rfl) ?_
  refine lv_iconst (v := nI 0) X.1 X.2.1 jd_M_ask_41 (by decide) ?_
  refine lv_aload_n X.1 X.2.1 jd_M_ask_42 rfl (lv_at hl 0 rfl) ?_
  refine jg_M_129_33 X hP jd_M_ask_43 ?_
  refine kn_to (y := n 33 8 + 1) (rfl) ?_
  refine lv_iconst (v := nI 0) X.1 X.2.1 jd_M_ask_46 (by decide) ?_
  refine j_rune (j_mkV X hP (c_M_sendF l d D a (akMG n q f t) g hap 0 (n 33 8 + 1) 0 (by decide) hc _) jU_bs (j_pe X hP) jm_781 jm_780 js_49 jm_6 jm_778 (by decide) rfl rfl (show jOk jy_M_send 3 by unfold jOk; decide +kernel) (by decide) ⟨rfl, rfl⟩ hl.1 rfl (Nat.le_of_ble_eq_true rfl) ⟨Nat.zero_le _, Nat.zero_le _⟩ jd_M_ask_47) hS (fun v47 n47 g47 H locs h47 hP hS => ?_)
  obtain ⟨rfl, rfl, rfl⟩ := h47
  refine W.eq (g2 := F0 m 50 ls []) rfl ?_
  exact hQ _ _ _ _ _ _ (⟨rfl, rfl, rfl⟩) hP hS jd_M_ask_50
