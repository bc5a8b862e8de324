set_option maxHeartbeats 4000000 in
theorem c_D_passOf (l : Launch) (d : Nat → Nat) (D : va_G) (a : Nat → Nat) (n : Nat → Nat → Nat) (g : Nat → Nat) (k : Nat) (hk1 : 1 ≤ k) (hk : k ≤ 512) (hw : n 29 (k - 1) < 2147483648) : jPure l d D a n g jy_D_passOf jb_D_passOf 2 (some .int) { frames := 0, cells := 0, slots := 0, locals := 0 } [.ref (a 14), .int (nI k)] (some (.int (nI (n 29 (k - 1) / 2 ^ 16)))) := by
  refine jq_I (by decide) (Nat.le_of_ble_eq_true rfl) ?_
  intro p e s m A below meth c ls Q X hP hl hQ
  have hl : lv_has ls 2 [(0, .ref (a 14)), (1, .int (nI k))] := hl
  refine lv_aload_n X.1 X.2.1 jd_D_passOf_0 rfl (lv_at hl 0 rfl) ?_
  refine jg_D_26_14 X hP jd_D_passOf_1 ?_
  refine lv_iload_n X.1 X.2.1 jd_D_passOf_4 rfl (lv_at hl 1 rfl) ?_
  refine lv_iconst (v := nI 1) X.1 X.2.1 jd_D_passOf_5 (by decide) ?_
  refine kn_isub X.1 X.2.1 jd_D_passOf_6 (by omega) ?_
  refine j_ald X hP 29 (k - 1) (by decide) (show (k - 1) < 512 from by omega) (by decide) jd_D_passOf_7 ?_
  refine lv_bipush (v := nI 16) X.1 X.2.1 jd_D_passOf_8 (by decide) ?_
  refine lv_ishr X.1 X.2.1 jd_D_passOf_10 ?_
  refine kn_is (y := (n 29 (k - 1)) / 2 ^ 16) (kn_shr (by decide) (by omega)) ?_
  exact kn_to (by first | rfl | omega | (split <;> omega)) (hQ _ _ jd_D_passOf_11)

set_option maxHeartbeats 4000000 in
theorem c_D_fromOf (l : Launch) (d : Nat → Nat) (D : va_G) (a : Nat → Nat) (n : Nat → Nat → Nat) (g : Nat → Nat) (k : Nat) (hk1 : 1 ≤ k) (hk : k ≤ 512) (hw : n 29 (k - 1) < 2147483648) : jPure l d D a n g jy_D_fromOf jb_D_fromOf 2 (some .int) { frames := 0, cells := 0, slots := 0, locals := 0 } [.ref (a 14), .int (nI k)] (some (.int (nI ((n 29 (k - 1) / 2 ^ 8) &&& 255)))) := by
  refine jq_I (by decide) (Nat.le_of_ble_eq_true rfl) ?_
  intro p e s m A below meth c ls Q X hP hl hQ
  have hl : lv_has ls 2 [(0, .ref (a 14)), (1, .int (nI k))] := hl
  refine lv_aload_n X.1 X.2.1 jd_D_fromOf_0 rfl (lv_at hl 0 rfl) ?_
  refine jg_D_26_14 X hP jd_D_fromOf_1 ?_
  refine lv_iload_n X.1 X.2.1 jd_D_fromOf_4 rfl (lv_at hl 1 rfl) ?_
  refine lv_iconst (v := nI 1) X.1 X.2.1 jd_D_fromOf_5 (by decide) ?_
  refine kn_isub X.1 X.2.1 jd_D_fromOf_6 (by omega) ?_
  refine j_ald X hP 29 (k - 1) (by decide) (show (k - 1) < 512 from by omega) (by decide) jd_D_fromOf_7 ?_
  refine lv_bipush (v := nI 8) X.1 X.2.1 jd_D_fromOf_8 (by decide) ?_
  refine lv_ishr X.1 X.2.1 jd_D_fromOf_10 ?_
  refine kn_is (y := (n 29 (k - 1)) / 2 ^ 8) (kn_shr (by decide) (by omega)) ?_
  refine lv_sipush (v := nI 255) X.1 X.2.1 jd_D_fromOf_11 (by decide) ?_
  refine kn_iand X.1 X.2.1 jd_D_fromOf_14 ?_
  exact kn_to (by first | rfl | omega | (split <;> omega)) (hQ _ _ jd_D_fromOf_15)

set_option maxHeartbeats 4000000 in
theorem c_D_toOf (l : Launch) (d : Nat → Nat) (D : va_G) (a : Nat → Nat) (n : Nat → Nat → Nat) (g : Nat → Nat) (k : Nat) (hk1 : 1 ≤ k) (hk : k ≤ 512) (hw : n 29 (k - 1) < 2147483648) : jPure l d D a n g jy_D_toOf jb_D_toOf 2 (some .int) { frames := 0, cells := 0, slots := 0, locals := 0 } [.ref (a 14), .int (nI k)] (some (.int (nI (n 29 (k - 1) &&& 255)))) := by
  refine jq_I (by decide) (Nat.le_of_ble_eq_true rfl) ?_
  intro p e s m A below meth c ls Q X hP hl hQ
  have hl : lv_has ls 2 [(0, .ref (a 14)), (1, .int (nI k))] := hl
  refine lv_aload_n X.1 X.2.1 jd_D_toOf_0 rfl (lv_at hl 0 rfl) ?_
  refine jg_D_26_14 X hP jd_D_toOf_1 ?_
  refine lv_iload_n X.1 X.2.1 jd_D_toOf_4 rfl (lv_at hl 1 rfl) ?_
  refine lv_iconst (v := nI 1) X.1 X.2.1 jd_D_toOf_5 (by decide) ?_
  refine kn_isub X.1 X.2.1 jd_D_toOf_6 (by omega) ?_
  refine j_ald X hP 29 (k - 1) (by decide) (show (k - 1) < 512 from by omega) (by decide) jd_D_toOf_7 ?_
  refine lv_sipush (v := nI 255) X.1 X.2.1 jd_D_toOf_8 (by decide) ?_
  refine kn_iand X.1 X.2.1 jd_D_toOf_11 ?_
  exact kn_to (by first | rfl | omega | (split <;> omega)) (hQ _ _ jd_D_toOf_12)

set_option maxHeartbeats 4000000 in
theorem c_D_blockCount (l : Launch) (d : Nat → Nat) (D : va_G) (a : Nat → Nat) (n : Nat → Nat → Nat) (g : Nat → Nat) (q : Nat) (hq : q < 4) (hz : 4 ≤ n 14 4) (hz2 : n 14 4 ≤ 128) (ht : n 14 4 ≤ n 14 5) (ht2 : n 14 5 ≤ 128)  : jPure l d D a n g jy_D_blockCount jb_D_blockCount 2 (some .int) { frames := 1, cells := 0, slots := 0, locals := 21 } [.ref (a 14), .int (nI q)] (some (.int (nI (bcF n q)))) := by
  refine jq_I (by decide) (Nat.le_of_ble_eq_true rfl) ?_
  intro p e s m A below meth c ls Q X hP hl hQ
  have hl : lv_has ls 2 [(0, .ref (a 14)), (1, .int (nI q))] := hl
  refine lv_aload_n X.1 X.2.1 jd_D_blockCount_0 rfl (lv_at hl 0 rfl) ?_
  refine jg_D_41_14 X hP jd_D_blockCount_1 ?_
  refine lv_iconst (v := nI 4) X.1 X.2.1 jd_D_blockCount_4 (by decide) ?_
  refine kn_cge X.1 X.2.1 jd_D_blockCount_5 (tgt := 12) (by decide) (by omega) (fun h5 => ?_) (fun h5 => absurd h5 (by omega))
  refine lv_aload_n X.1 X.2.1 jd_D_blockCount_12 rfl (lv_at hl 0 rfl) ?_
  refine jg_D_44_14 X hP jd_D_blockCount_13 ?_
  refine lv_iconst (v := nI 1) X.1 X.2.1 jd_D_blockCount_16 (by decide) ?_
  refine kn_isub X.1 X.2.1 jd_D_blockCount_17 (by omega) ?_
  refine lv_aload_n X.1 X.2.1 jd_D_blockCount_18 rfl (lv_at hl 0 rfl) ?_
  refine lv_iload_n X.1 X.2.1 jd_D_blockCount_19 rfl (lv_at hl 1 rfl) ?_
  refine j_run (j_mkV X hP (c_D_blockSize l d D a n g q (by omega) hz2) jU_b (j_pp X hP) jm_425 jm_424 js_22 jm_4 jm_422 (by decide) rfl rfl (show jOk jy_D_blockSize 1 by unfold jOk; decide +kernel) (by decide) ⟨rfl, rfl⟩ hl.1 rfl (Nat.le_of_ble_eq_true rfl) ⟨Nat.zero_le _, Nat.zero_le _⟩ jd_D_blockCount_20) ?_
  refine W.eq (g2 := F0 m 23 ls [.int (nI (n 14 4 * 2 ^ q)), .int (nI ((n 14 5) - 1))]) rfl ?_
  refine kn_idiv X.1 X.2.1 jd_D_blockCount_23 (by have h1 := bs_pos (n := n) (p := q) hz; have h2 := bs_le (n := n) (p := q) hz2 hq; omega) ?_
  refine lv_iconst (v := nI 1) X.1 X.2.1 jd_D_blockCount_24 (by decide) ?_
  refine kn_iadd X.1 X.2.1 jd_D_blockCount_25 ?_
  exact kn_to (by first | rfl | omega | (split <;> omega)) (hQ _ _ jd_D_blockCount_26)

set_option maxHeartbeats 4000000 in
theorem c_D_blockEnd (l : Launch) (d : Nat → Nat) (D : va_G) (a : Nat → Nat) (n : Nat → Nat → Nat) (g : Nat → Nat) (q f : Nat) (hq : q < 4) (hf : f < 1000) (hz : 4 ≤ n 14 4) (hz2 : n 14 4 ≤ 128) (ht : n 14 4 ≤ n 14 5) (ht2 : n 14 5 ≤ 128)  : jPure l d D a n g jy_D_blockEnd jb_D_blockEnd 3 (some .int) { frames := 1, cells := 0, slots := 0, locals := 21 } [.ref (a 14), .int (nI q), .int (nI f)] (some (.int (nI (beF n q f)))) := by
  refine jq_I (by decide) (Nat.le_of_ble_eq_true rfl) ?_
  intro p e s m A below meth c ls Q X hP hl hQ
  have hl : lv_has ls 3 [(0, .ref (a 14)), (1, .int (nI q)), (2, .int (nI f))] := hl
  refine lv_iload_n X.1 X.2.1 jd_D_blockEnd_0 rfl (lv_at hl 2 rfl) ?_
  refine lv_aload_n X.1 X.2.1 jd_D_blockEnd_1 rfl (lv_at hl 0 rfl) ?_
  refine lv_iload_n X.1 X.2.1 jd_D_blockEnd_2 rfl (lv_at hl 1 rfl) ?_
  refine j_run (j_mkV X hP (c_D_blockSize l d D a n g q (by omega) hz2) jU_b (j_pp X hP) jm_425 jm_424 js_22 jm_4 jm_422 (by decide) rfl rfl (show jOk jy_D_blockSize 1 by unfold jOk; decide +kernel) (by decide) ⟨rfl, rfl⟩ hl.1 rfl (Nat.le_of_ble_eq_true rfl) ⟨Nat.zero_le _, Nat.zero_le _⟩ jd_D_blockEnd_3) ?_
  refine W.eq (g2 := F0 m 6 ls [.int (nI (n 14 4 * 2 ^ q)), .int (nI f)]) rfl ?_
  refine kn_iadd X.1 X.2.1 jd_D_blockEnd_6 ?_
  refine lv_aload_n X.1 X.2.1 jd_D_blockEnd_7 rfl (lv_at hl 0 rfl) ?_
  refine jg_D_44_14 X hP jd_D_blockEnd_8 ?_
  refine j_min X jm_430 (by have h2 := bs_le (n := n) (p := q) hz2 hq; omega) hl.1 ⟨by decide, Nat.le_of_ble_eq_true rfl⟩ ⟨Nat.zero_le _, Nat.zero_le _⟩ jd_D_blockEnd_11 ?_
  exact kn_to (by first | rfl | omega | (split <;> omega)) (hQ _ _ jd_D_blockEnd_14)

set_option maxHeartbeats 4000000 in
theorem c_D_isOdd (l : Launch) (d : Nat → Nat) (D : va_G) (a : Nat → Nat) (n : Nat → Nat → Nat) (g : Nat → Nat) (q f t mk : Nat) (hq : q < 4) (hf : f ≤ t) (ht : t ≤ 128) (hm : mk < 128) (ho : ∀ k, k < t → n (20 + q) k < 128) (h01 : ∀ i, n 12 i < 2) (hkn : n (25 + q) mk < 4294967296)  : jPure l d D a n g jy_D_isOdd jb_D_isOdd 5 (some .boolean) { frames := 1, cells := 0, slots := 0, locals := 25 } [.ref (a 14), .int (nI q), .int (nI f), .int (nI t), .int (nI mk)] (some (.int (nI (odF n q f t mk)))) := by
  refine jq_Z (odF_lt _ _ _ _ _) (by decide) (Nat.le_of_ble_eq_true rfl) ?_
  intro p e s m A below meth c ls Q X hP hl hQ
  have hl : lv_has ls 5 [(0, .ref (a 14)), (1, .int (nI q)), (2, .int (nI f)), (3, .int (nI t)), (4, .int (nI mk))] := hl
  refine lv_aload_n X.1 X.2.1 jd_D_isOdd_0 rfl (lv_at hl 0 rfl) ?_
  refine jg_D_23_14 X hP jd_D_isOdd_1 ?_
  refine lv_iload_n X.1 X.2.1 jd_D_isOdd_4 rfl (lv_at hl 1 rfl) ?_
  refine j_aald X hP 24 q (by decide) (by omega) jd_D_isOdd_5 ?_
  refine lv_iload X.1 X.2.1 jd_D_isOdd_6 (lv_at hl 4 rfl) ?_
  refine j_ald X hP (25 + q) mk (by omega) (by rw [jI_kn hq]; omega) (by rw [jI_kn hq]; omega) jd_D_isOdd_8 ?_
  refine lv_aload_n X.1 X.2.1 jd_D_isOdd_9 rfl (lv_at hl 0 rfl) ?_
  refine jg_D_38_14 X hP jd_D_isOdd_10 ?_
  refine lv_aload_n X.1 X.2.1 jd_D_isOdd_13 rfl (lv_at hl 0 rfl) ?_
  refine jg_D_20_14 X hP jd_D_isOdd_14 ?_
  refine lv_iload_n X.1 X.2.1 jd_D_isOdd_17 rfl (lv_at hl 1 rfl) ?_
  refine j_aald X hP 19 q (by decide) (by omega) jd_D_isOdd_18 ?_
  refine lv_iload_n X.1 X.2.1 jd_D_isOdd_19 rfl (lv_at hl 2 rfl) ?_
  refine lv_iload_n X.1 X.2.1 jd_D_isOdd_20 rfl (lv_at hl 3 rfl) ?_
  refine j_run (j_mkN (host := "KeyDistiller") X hP (c_S_parity_7 l d D a n g (20 + q) f t (by omega) (jI_or hq) hf ht ho) jU_b (j_pp X hP) jm_456 jm_455 js_29 jm_2 (by decide +kernel) (by decide) rfl rfl (show jOk jy_S_parity 3 by unfold jOk; decide +kernel) (by decide) ⟨rfl, rfl⟩ hl.1 rfl (Nat.le_of_ble_eq_true rfl) ⟨Nat.zero_le _, Nat.zero_le _⟩ jd_D_isOdd_21) ?_
  refine W.eq (g2 := F0 m 24 ls [.int (nI (parF (n 12) (n (20 + q)) f (t - f))), .int (nI (n (25 + q) mk))]) rfl ?_
  refine kn_ceq X.1 X.2.1 jd_D_isOdd_24 (tgt := 31) (by decide) (⟨hkn, by have := parF_lt (ord := n (20 + q)) (f := f) h01 (t - f); omega⟩) (fun h24 => ?_) (fun h24 => ?_)
  · skip
    refine lv_iconst (v := nI 0) X.1 X.2.1 jd_D_isOdd_31 (by decide) ?_
    exact kn_to (by unfold odF; first | rw [if_pos h24] | rw [if_neg h24]) (hQ _ _ jd_D_isOdd_32)
  · skip
    refine lv_iconst (v := nI 1) X.1 X.2.1 jd_D_isOdd_27 (by decide) ?_
    refine lv_goto X.1 X.2.1 jd_D_isOdd_28 (tgt := 32) (by decide) ?_
    exact kn_to (by unfold odF; first | rw [if_pos h24] | rw [if_neg h24]) (hQ _ _ jd_D_isOdd_32)

set_option maxHeartbeats 4000000 in
theorem c_D_isNewestUnknown (l : Launch) (d : Nat → Nat) (D : va_G) (a : Nat → Nat) (n : Nat → Nat → Nat) (g : Nat → Nat) (q : Nat) (h1 : 1 ≤ n 14 0) (h2 : n 14 0 ≤ 512) (hw : n 29 (n 14 0 - 1) < 2147483648) (hq : n 29 (n 14 0 - 1) / 2 ^ 16 = q) (hq4 : q < 4) (hm : n 14 1 < 128) (hkn : n (25 + q) (n 14 1) < 4294967296) : jPure l d D a n g jy_D_isNewestUnknown jb_D_isNewestUnknown 1 (some .boolean) { frames := 1, cells := 0, slots := 0, locals := 21 } [.ref (a 14)] (some (.int (nI (if n (25 + q) (n 14 1) = 4294967295 then 1 else 0)))) := by
  refine jq_Z (by first | omega | (split <;> omega)) (by decide) (Nat.le_of_ble_eq_true rfl) ?_
  intro p e s m A below meth c ls Q X hP hl hQ
  have hl : lv_has ls 1 [(0, .ref (a 14))] := hl
  refine lv_aload_n X.1 X.2.1 jd_D_isNewestUnknown_0 rfl (lv_at hl 0 rfl) ?_
  refine jg_D_23_14 X hP jd_D_isNewestUnknown_1 ?_
  refine lv_aload_n X.1 X.2.1 jd_D_isNewestUnknown_4 rfl (lv_at hl 0 rfl) ?_
  refine lv_aload_n X.1 X.2.1 jd_D_isNewestUnknown_5 rfl (lv_at hl 0 rfl) ?_
  refine jg_D_82_14 X hP jd_D_isNewestUnknown_6 ?_
  refine j_run (j_mkV X hP (c_D_passOf l d D a n g (n 14 0) h1 h2 hw) jU_b (j_pp X hP) jm_201 jm_200 js_2 jm_4 jm_198 (by decide) rfl rfl (show jOk jy_D_passOf 1 by unfold jOk; decide +kernel) (by decide) ⟨rfl, rfl⟩ hl.1 rfl (Nat.le_of_ble_eq_true rfl) ⟨Nat.zero_le _, Nat.zero_le _⟩ jd_D_isNewestUnknown_9) ?_
  refine W.eq (g2 := F0 m 12 ls [.int (nI (n 29 (n 14 0 - 1) / 2 ^ 16)), .ref (a 24)]) rfl ?_
  refine kn_to (y := q) hq ?_
  refine j_aald X hP 24 q (by decide) (by omega) jd_D_isNewestUnknown_12 ?_
  refine lv_aload_n X.1 X.2.1 jd_D_isNewestUnknown_13 rfl (lv_at hl 0 rfl) ?_
  refine jg_D_89_14 X hP jd_D_isNewestUnknown_14 ?_
  refine j_ald X hP (25 + q) (n 14 1) (by omega) (by rw [jI_kn hq4]; omega) (by rw [jI_kn hq4]; omega) jd_D_isNewestUnknown_17 ?_
  refine lv_iconst (v := nI 4294967295) X.1 X.2.1 jd_D_isNewestUnknown_18 (by decide) ?_
  refine kn_cne X.1 X.2.1 jd_D_isNewestUnknown_19 (tgt := 26) (by decide) (by omega) (fun h19 => ?_) (fun h19 => ?_)
  · skip
    refine lv_iconst (v := nI 0) X.1 X.2.1 jd_D_isNewestUnknown_26 (by decide) ?_
    exact kn_to (by first | rfl | omega | (split <;> omega)) (hQ _ _ jd_D_isNewestUnknown_27)
  · skip
    refine lv_iconst (v := nI 1) X.1 X.2.1 jd_D_isNewestUnknown_22 (by decide) ?_
    refine lv_goto X.1 X.2.1 jd_D_isNewestUnknown_23 (tgt := 27) (by decide) ?_
    exact kn_to (by first | rfl | omega | (split <;> omega)) (hQ _ _ jd_D_isNewestUnknown_27)

set_option maxHeartbeats 4000000 in
theorem c_D_ask (l : Launch) (d : Nat → Nat) (D : va_G) (a : Nat → Nat) (n : Nat → Nat → Nat) (g : Nat → Nat) (hap : ∀ i j : Nat, i < 52 → j < 52 → a i = a j → i = j) (q f t mk : Nat) (hq : q < 4) (hf : f < 128) (ht : t ≤ 128) (h2 : n 14 0 < 512) (hc : n 15 0 < 16) : jEff l d D a n g jy_D_ask jb_D_ask 5 none { frames := 1, cells := 0, slots := 0, locals := 23 } [.ref (a 14), .int (nI q), .int (nI f), .int (nI t), .int (nI mk)] (fun v9 n2 g2 => none = v9 ∧ akF n q f t mk = n2 ∧ g = g2) := by
  refine je_V (by decide) (Nat.le_of_ble_eq_true rfl) ?_
  intro p e s m A below meth c ls Q X hP hS hl hQ
  have hl : lv_has ls 5 [(0, .ref (a 14)), (1, .int (nI q)), (2, .int (nI f)), (3, .int (nI t)), (4, .int (nI mk))] := hl
  refine lv_aload_n X.1 X.2.1 jd_D_ask_0 rfl (lv_at hl 0 rfl) ?_
  refine jg_D_82_14 X hP jd_D_ask_1 ?_
  refine lv_sipush (v := nI 512) X.1 X.2.1 jd_D_ask_4 (by decide) ?_
  refine kn_cne X.1 X.2.1 jd_D_ask_7 (tgt := 11) (by decide) (by omega) (fun h7 => ?_) (fun h7 => absurd h7 (by omega))
  refine lv_aload_n X.1 X.2.1 jd_D_ask_11 rfl (lv_at hl 0 rfl) ?_
  refine jg_D_26_14 X hP jd_D_ask_12 ?_
  refine lv_aload_n X.1 X.2.1 jd_D_ask_15 rfl (lv_at hl 0 rfl) ?_
  refine jg_D_82_14 X hP jd_D_ask_16 ?_
  refine kn_to (y := n 14 0) (rfl) ?_
  refine lv_iload_n X.1 X.2.1 jd_D_ask_19 rfl (lv_at hl 1 rfl) ?_
  refine lv_bipush (v := nI 16) X.1 X.2.1 jd_D_ask_20 (by decide) ?_
  refine lv_ishl X.1 X.2.1 jd_D_ask_22 ?_
  refine kn_is (y := q * 2 ^ 16) (kn_shlA (by omega)) ?_
  refine lv_iload_n X.1 X.2.1 jd_D_ask_23 rfl (lv_at hl 2 rfl) ?_
  refine lv_bipush (v := nI 8) X.1 X.2.1 jd_D_ask_24 (by decide) ?_
  refine lv_ishl X.1 X.2.1 jd_D_ask_26 ?_
  refine kn_is (y := f * 2 ^ 8) (kn_shlB (by omega)) ?_
  refine kn_ior X.1 X.2.1 jd_D_ask_27 ?_
  refine lv_iload_n X.1 X.2.1 jd_D_ask_28 rfl (lv_at hl 3 rfl) ?_
  refine kn_ior X.1 X.2.1 jd_D_ask_29 ?_
  refine j_ast X hap hP hS 29 (n 14 0) (((q * 2 ^ 16) ||| (f * 2 ^ 8)) ||| t) (by decide) (show (n 14 0) < 512 from by omega) (by decide) jd_D_ask_30 (fun H locs hP hS => ?_)
  refine lv_aload_n X.1 X.2.1 jd_D_ask_31 rfl (lv_at hl 0 rfl) ?_
  refine lv_dup X.1 X.2.1 jd_D_ask_32 rfl ?_
  refine jg_D_82_14 X hP jd_D_ask_33 ?_
  refine kn_to (y := n 14 0) (rfl) ?_
  refine lv_iconst (v := nI 1) X.1 X.2.1 jd_D_ask_36 (by decide) ?_
  refine kn_iadd X.1 X.2.1 jd_D_ask_37 ?_
  refine jp_D_82_14 X hap hP hS jd_D_ask_38 (fun H locs hP hS => ?_)
  refine lv_aload_n X.1 X.2.1 jd_D_ask_41 rfl (lv_at hl 0 rfl) ?_
  refine lv_iload X.1 X.2.1 jd_D_ask_42 (lv_at hl 4 rfl) ?_
  refine jp_D_89_14 X hap hP hS jd_D_ask_44 (fun H locs hP hS => ?_)
  refine lv_aload_n X.1 X.2.1 jd_D_ask_47 rfl (lv_at hl 0 rfl) ?_
  refine jg_D_12_14 X hP jd_D_ask_48 ?_
  refine lv_iconst (v := nI 0) X.1 X.2.1 jd_D_ask_51 (by decide) ?_
  refine lv_aload_n X.1 X.2.1 jd_D_ask_52 rfl (lv_at hl 0 rfl) ?_
  refine jg_D_82_14 X hP jd_D_ask_53 ?_
  refine kn_to (y := n 14 0 + 1) (rfl) ?_
  refine lv_iconst (v := nI 0) X.1 X.2.1 jd_D_ask_56 (by decide) ?_
  refine j_rune (j_mkN (host := "KeyDistiller") X hP (c_E_send l d D a (ku (ku (ku n 29 (n 14 0) (((q * 2 ^ 16) ||| (f * 2 ^ 8)) ||| t)) 14 0 ((n 14 0) + 1)) 14 1 mk) g hap 0 (n 14 0 + 1) 0 hc _) jU_bs (j_pe X hP) jm_440 jm_439 js_25 jm_5 (by decide +kernel) (by decide) rfl rfl (show jOk jy_E_send 3 by unfold jOk; decide +kernel) (by decide) ⟨rfl, rfl⟩ hl.1 rfl (Nat.le_of_ble_eq_true rfl) ⟨Nat.zero_le _, Nat.zero_le _⟩ jd_D_ask_57) hS (fun v57 n57 g57 H locs h57 hP hS => ?_)
  obtain ⟨rfl, rfl, rfl⟩ := h57
  refine W.eq (g2 := F0 m 60 ls []) rfl ?_
  exact hQ _ _ _ _ _ _ (⟨rfl, rfl, rfl⟩) hP hS jd_D_ask_60

set_option maxHeartbeats 4000000 in
theorem c_D_ask_f (l : Launch) (d : Nat → Nat) (D : va_G) (a : Nat → Nat) (n : Nat → Nat → Nat) (g : Nat → Nat) (hap : ∀ i j : Nat, i < 52 → j < 52 → a i = a j → i = j) (q f t mk : Nat) (hq : q < 4) (hf : f < 128) (ht : t ≤ 128) (h2 : n 14 0 < 512) (hc : n 15 0 = 16) : jEff l d D a n g jy_D_ask jb_D_ask 5 none { frames := 1, cells := 0, slots := 0, locals := 23 } [.ref (a 14), .int (nI q), .int (nI f), .int (nI t), .int (nI mk)] (fun v9 n2 g2 => none = v9 ∧ akG n q f t mk = n2 ∧ g = g2) := by
  refine je_V (by decide) (Nat.le_of_ble_eq_true rfl) ?_
  intro p e s m A below meth c ls Q X hP hS hl hQ
  have hl : lv_has ls 5 [(0, .ref (a 14)), (1, .int (nI q)), (2, .int (nI f)), (3, .int (nI t)), (4, .int (nI mk))] := hl
  refine lv_aload_n X.1 X.2.1 jd_D_ask_0 rfl (lv_at hl 0 rfl) ?_
  refine jg_D_82_14 X hP jd_D_ask_1 ?_
  refine lv_sipush (v := nI 512) X.1 X.2.1 jd_D_ask_4 (by decide) ?_
  refine kn_cne X.1 X.2.1 jd_D_ask_7 (tgt := 11) (by decide) (by omega) (fun h7 => ?_) (fun h7 => absurd h7 (by omega))
  refine lv_aload_n X.1 X.2.1 jd_D_ask_11 rfl (lv_at hl 0 rfl) ?_
  refine jg_D_26_14 X hP jd_D_ask_12 ?_
  refine lv_aload_n X.1 X.2.1 jd_D_ask_15 rfl (lv_at hl 0 rfl) ?_
  refine jg_D_82_14 X hP jd_D_ask_16 ?_
  refine kn_to (y := n 14 0) (rfl) ?_
  refine lv_iload_n X.1 X.2.1 jd_D_ask_19 rfl (lv_at hl 1 rfl) ?_
  refine lv_bipush (v := nI 16) X.1 X.2.1 jd_D_ask_20 (by decide) ?_
  refine lv_ishl X.1 X.2.1 jd_D_ask_22 ?_
  refine kn_is (y := q * 2 ^ 16) (kn_shlA (by omega)) ?_
  refine lv_iload_n X.1 X.2.1 jd_D_ask_23 rfl (lv_at hl 2 rfl) ?_
  refine lv_bipush (v := nI 8) X.1 X.2.1 jd_D_ask_24 (by decide) ?_
  refine lv_ishl X.1 X.2.1 jd_D_ask_26 ?_
  refine kn_is (y := f * 2 ^ 8) (kn_shlB (by omega)) ?_
  refine kn_ior X.1 X.2.1 jd_D_ask_27 ?_
  refine lv_iload_n X.1 X.2.1 jd_D_ask_28 rfl (lv_at hl 3 rfl) ?_
  refine kn_ior X.1 X.2.1 jd_D_ask_29 ?_
  refine j_ast X hap hP hS 29 (n 14 0) (((q * 2 ^ 16) ||| (f * 2 ^ 8)) ||| t) (by decide) (show (n 14 0) < 512 from by omega) (by decide) jd_D_ask_30 (fun H locs hP hS => ?_)
  refine lv_aload_n X.1 X.2.1 jd_D_ask_31 rfl (lv_at hl 0 rfl) ?_
  refine lv_dup X.1 X.2.1 jd_D_ask_32 rfl ?_
  refine jg_D_82_14 X hP jd_D_ask_33 ?_
  refine kn_to (y := n 14 0) (rfl) ?_
  refine lv_iconst (v := nI 1) X.1 X.2.1 jd_D_ask_36 (by decide) ?_
  refine kn_iadd X.1 X.2.1 jd_D_ask_37 ?_
  refine jp_D_82_14 X hap hP hS jd_D_ask_38 (fun H locs hP hS => ?_)
  refine lv_aload_n X.1 X.2.1 jd_D_ask_41 rfl (lv_at hl 0 rfl) ?_
  refine lv_iload X.1 X.2.1 jd_D_ask_42 (lv_at hl 4 rfl) ?_
  refine jp_D_89_14 X hap hP hS jd_D_ask_44 (fun H locs hP hS => ?_)
  refine lv_aload_n X.1 X.2.1 jd_D_ask_47 rfl (lv_at hl 0 rfl) ?_
  refine jg_D_12_14 X hP jd_D_ask_48 ?_
  refine lv_iconst (v := nI 0) X.1 X.2.1 jd_D_ask_51 (by decide) ?_
  refine lv_aload_n X.1 X.2.1 jd_D_ask_52 rfl (lv_at hl 0 rfl) ?_
  refine jg_D_82_14 X hP jd_D_ask_53 ?_
  refine kn_to (y := n 14 0 + 1) (rfl) ?_
  refine lv_iconst (v := nI 0) X.1 X.2.1 jd_D_ask_56 (by decide) ?_
  refine j_rune (j_mkN (host := "KeyDistiller") X hP (c_E_send_f l d D a (ku (ku (ku n 29 (n 14 0) (((q * 2 ^ 16) ||| (f * 2 ^ 8)) ||| t)) 14 0 ((n 14 0) + 1)) 14 1 mk) g hap 0 (n 14 0 + 1) 0 hc _) jU_bs (j_pe X hP) jm_440 jm_439 js_25 jm_5 (by decide +kernel) (by decide) rfl rfl (show jOk jy_E_send 3 by unfold jOk; decide +kernel) (by decide) ⟨rfl, rfl⟩ hl.1 rfl (Nat.le_of_ble_eq_true rfl) ⟨Nat.zero_le _, Nat.zero_le _⟩ jd_D_ask_57) hS (fun v57 n57 g57 H locs h57 hP hS => ?_)
  obtain ⟨rfl, rfl, rfl⟩ := h57
  refine W.eq (g2 := F0 m 60 ls []) rfl ?_
  exact hQ _ _ _ _ _ _ (⟨rfl, rfl, rfl⟩) hP hS jd_D_ask_60
