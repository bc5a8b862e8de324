set_option maxHeartbeats 4000000 in
theorem c_K_length (l : Launch) (d : Nat → Nat) (D : va_G) (a : Nat → Nat) (n : Nat → Nat → Nat) (g : Nat → Nat)  : jPure l d D a n g jy_K_length jb_K_length 1 (some .int) { frames := 0, cells := 0, slots := 0, locals := 0 } [.ref (a 0)] (some (.int (nI (n 0 0)))) := by
  refine jq_I (by decide) (Nat.le_of_ble_eq_true rfl) ?_
  intro p e s m A below meth c ls Q X hP hl hQ
  have hl : lv_has ls 1 [(0, .ref (a 0))] := hl
  refine lv_aload_n X.1 X.2.1 jd_K_length_0 rfl (lv_at hl 0 rfl) ?_
  refine jg_K_45_0 X hP jd_K_length_1 ?_
  exact kn_to (by first | rfl | omega | (split <;> omega)) (hQ _ _ jd_K_length_4)

set_option maxHeartbeats 4000000 in
theorem c_K_pass (l : Launch) (d : Nat → Nat) (D : va_G) (a : Nat → Nat) (n : Nat → Nat → Nat) (g : Nat → Nat)  : jPure l d D a n g jy_K_pass jb_K_pass 1 (some .int) { frames := 0, cells := 0, slots := 0, locals := 0 } [.ref (a 0)] (some (.int (nI (n 14 3)))) := by
  refine jq_I (by decide) (Nat.le_of_ble_eq_true rfl) ?_
  intro p e s m A below meth c ls Q X hP hl hQ
  have hl : lv_has ls 1 [(0, .ref (a 0))] := hl
  refine lv_aload_n X.1 X.2.1 jd_K_pass_0 rfl (lv_at hl 0 rfl) ?_
  refine jg_K_31_0 X hP jd_K_pass_1 ?_
  refine jg_K_186_14 X hP jd_K_pass_4 ?_
  exact kn_to (by first | rfl | omega | (split <;> omega)) (hQ _ _ jd_K_pass_7)

set_option maxHeartbeats 4000000 in
theorem c_K_disclosed (l : Launch) (d : Nat → Nat) (D : va_G) (a : Nat → Nat) (n : Nat → Nat → Nat) (g : Nat → Nat)  : jPure l d D a n g jy_K_disclosed jb_K_disclosed 1 (some .int) { frames := 0, cells := 0, slots := 0, locals := 0 } [.ref (a 0)] (some (.int (nI (n 14 2)))) := by
  refine jq_I (by decide) (Nat.le_of_ble_eq_true rfl) ?_
  intro p e s m A below meth c ls Q X hP hl hQ
  have hl : lv_has ls 1 [(0, .ref (a 0))] := hl
  refine lv_aload_n X.1 X.2.1 jd_K_disclosed_0 rfl (lv_at hl 0 rfl) ?_
  refine jg_K_31_0 X hP jd_K_disclosed_1 ?_
  refine jg_K_189_14 X hP jd_K_disclosed_4 ?_
  exact kn_to (by first | rfl | omega | (split <;> omega)) (hQ _ _ jd_K_disclosed_7)

set_option maxHeartbeats 4000000 in
theorem c_E_has (l : Launch) (d : Nat → Nat) (D : va_G) (a : Nat → Nat) (n : Nat → Nat → Nat) (g : Nat → Nat) (k : Nat) (hk : k < 4294967296) (hc : n 15 0 ≤ 16) : jPure l d D a n g jy_E_has jb_E_has 2 (some .boolean) { frames := 0, cells := 0, slots := 0, locals := 0 } [.ref (a 15), .int (nI k)] (some (.int (nI (if k < n 15 0 then 1 else 0)))) := by
  refine jq_Z (by first | omega | (split <;> omega)) (by decide) (Nat.le_of_ble_eq_true rfl) ?_
  intro p e s m A below meth c ls Q X hP hl hQ
  have hl : lv_has ls 2 [(0, .ref (a 15)), (1, .int (nI k))] := hl
  refine lv_iload_n X.1 X.2.1 jd_E_has_0 rfl (lv_at hl 1 rfl) ?_
  refine kn_lt0 X.1 X.2.1 jd_E_has_1 (tgt := 16) (by decide) (by omega) (fun h1 => ?_) (fun h1 => ?_)
  · skip
    refine lv_iconst (v := nI 0) X.1 X.2.1 jd_E_has_16 (by decide) ?_
    exact kn_to (by first | rfl | omega | (split <;> omega)) (hQ _ _ jd_E_has_17)
  · skip
    refine lv_iload_n X.1 X.2.1 jd_E_has_4 rfl (lv_at hl 1 rfl) ?_
    refine lv_aload_n X.1 X.2.1 jd_E_has_5 rfl (lv_at hl 0 rfl) ?_
    refine jg_E_21_15 X hP jd_E_has_6 ?_
    refine kn_cge X.1 X.2.1 jd_E_has_9 (tgt := 16) (by decide) (by omega) (fun h9 => ?_) (fun h9 => ?_)
    · skip
      refine lv_iconst (v := nI 0) X.1 X.2.1 jd_E_has_16 (by decide) ?_
      exact kn_to (by first | rfl | omega | (split <;> omega)) (hQ _ _ jd_E_has_17)
    · skip
      refine lv_iconst (v := nI 1) X.1 X.2.1 jd_E_has_12 (by decide) ?_
      refine lv_goto X.1 X.2.1 jd_E_has_13 (tgt := 17) (by decide) ?_
      exact kn_to (by first | rfl | omega | (split <;> omega)) (hQ _ _ jd_E_has_17)

set_option maxHeartbeats 4000000 in
theorem c_D_isBegun (l : Launch) (d : Nat → Nat) (D : va_G) (a : Nat → Nat) (n : Nat → Nat → Nat) (g : Nat → Nat) (hc : n 14 3 < 4294967296) : jPure l d D a n g jy_D_isBegun jb_D_isBegun 1 (some .boolean) { frames := 0, cells := 0, slots := 0, locals := 0 } [.ref (a 14)] (some (.int (nI (if n 14 3 = 4294967295 then 0 else 1)))) := by
  refine jq_Z (by first | omega | (split <;> omega)) (by decide) (Nat.le_of_ble_eq_true rfl) ?_
  intro p e s m A below meth c ls Q X hP hl hQ
  have hl : lv_has ls 1 [(0, .ref (a 14))] := hl
  refine lv_aload_n X.1 X.2.1 jd_D_isBegun_0 rfl (lv_at hl 0 rfl) ?_
  refine jg_D_30_14 X hP jd_D_isBegun_1 ?_
  refine lv_iconst (v := nI 4294967295) X.1 X.2.1 jd_D_isBegun_4 (by decide) ?_
  refine kn_ceq X.1 X.2.1 jd_D_isBegun_5 (tgt := 12) (by decide) (by omega) (fun h5 => ?_) (fun h5 => ?_)
  · skip
    refine lv_iconst (v := nI 0) X.1 X.2.1 jd_D_isBegun_12 (by decide) ?_
    exact kn_to (by first | rfl | omega | (split <;> omega)) (hQ _ _ jd_D_isBegun_13)
  · skip
    refine lv_iconst (v := nI 1) X.1 X.2.1 jd_D_isBegun_8 (by decide) ?_
    refine lv_goto X.1 X.2.1 jd_D_isBegun_9 (tgt := 13) (by decide) ?_
    exact kn_to (by first | rfl | omega | (split <;> omega)) (hQ _ _ jd_D_isBegun_13)

set_option maxHeartbeats 4000000 in
theorem c_D_isOver (l : Launch) (d : Nat → Nat) (D : va_G) (a : Nat → Nat) (n : Nat → Nat → Nat) (g : Nat → Nat) (hc : n 14 3 < 4294967296) : jPure l d D a n g jy_D_isOver jb_D_isOver 1 (some .boolean) { frames := 0, cells := 0, slots := 0, locals := 0 } [.ref (a 14)] (some (.int (nI (if n 14 3 = 4 then 1 else 0)))) := by
  refine jq_Z (by first | omega | (split <;> omega)) (by decide) (Nat.le_of_ble_eq_true rfl) ?_
  intro p e s m A below meth c ls Q X hP hl hQ
  have hl : lv_has ls 1 [(0, .ref (a 14))] := hl
  refine lv_aload_n X.1 X.2.1 jd_D_isOver_0 rfl (lv_at hl 0 rfl) ?_
  refine jg_D_30_14 X hP jd_D_isOver_1 ?_
  refine lv_iconst (v := nI 4) X.1 X.2.1 jd_D_isOver_4 (by decide) ?_
  refine kn_cne X.1 X.2.1 jd_D_isOver_5 (tgt := 12) (by decide) (by omega) (fun h5 => ?_) (fun h5 => ?_)
  · skip
    refine lv_iconst (v := nI 0) X.1 X.2.1 jd_D_isOver_12 (by decide) ?_
    exact kn_to (by first | rfl | omega | (split <;> omega)) (hQ _ _ jd_D_isOver_13)
  · skip
    refine lv_iconst (v := nI 1) X.1 X.2.1 jd_D_isOver_8 (by decide) ?_
    refine lv_goto X.1 X.2.1 jd_D_isOver_9 (tgt := 13) (by decide) ?_
    exact kn_to (by first | rfl | omega | (split <;> omega)) (hQ _ _ jd_D_isOver_13)

set_option maxHeartbeats 4000000 in
theorem c_K_isSifted (l : Launch) (d : Nat → Nat) (D : va_G) (a : Nat → Nat) (n : Nat → Nat → Nat) (g : Nat → Nat) (hc : n 0 0 < 4294967296) : jPure l d D a n g jy_K_isSifted jb_K_isSifted 1 (some .boolean) { frames := 0, cells := 0, slots := 0, locals := 0 } [.ref (a 0)] (some (.int (nI (if n 0 0 = 4294967295 then 0 else 1)))) := by
  refine jq_Z (by first | omega | (split <;> omega)) (by decide) (Nat.le_of_ble_eq_true rfl) ?_
  intro p e s m A below meth c ls Q X hP hl hQ
  have hl : lv_has ls 1 [(0, .ref (a 0))] := hl
  refine lv_aload_n X.1 X.2.1 jd_K_isSifted_0 rfl (lv_at hl 0 rfl) ?_
  refine jg_K_45_0 X hP jd_K_isSifted_1 ?_
  refine lv_iconst (v := nI 4294967295) X.1 X.2.1 jd_K_isSifted_4 (by decide) ?_
  refine kn_ceq X.1 X.2.1 jd_K_isSifted_5 (tgt := 12) (by decide) (by omega) (fun h5 => ?_) (fun h5 => ?_)
  · skip
    refine lv_iconst (v := nI 0) X.1 X.2.1 jd_K_isSifted_12 (by decide) ?_
    exact kn_to (by first | rfl | omega | (split <;> omega)) (hQ _ _ jd_K_isSifted_13)
  · skip
    refine lv_iconst (v := nI 1) X.1 X.2.1 jd_K_isSifted_8 (by decide) ?_
    refine lv_goto X.1 X.2.1 jd_K_isSifted_9 (tgt := 13) (by decide) ?_
    exact kn_to (by first | rfl | omega | (split <;> omega)) (hQ _ _ jd_K_isSifted_13)

set_option maxHeartbeats 4000000 in
theorem c_K_isStation (l : Launch) (d : Nat → Nat) (D : va_G) (a : Nat → Nat) (n : Nat → Nat → Nat) (g : Nat → Nat) (k : Nat) (hk : k < 4294967296) : jPure l d D a n g jy_K_isStation jb_K_isStation 1 (some .boolean) { frames := 0, cells := 0, slots := 0, locals := 0 } [.int (nI k)] (some (.int (nI (if k < 2 then 1 else 0)))) := by
  refine jq_Z (by first | omega | (split <;> omega)) (by decide) (Nat.le_of_ble_eq_true rfl) ?_
  intro p e s m A below meth c ls Q X hP hl hQ
  have hl : lv_has ls 1 [(0, .int (nI k))] := hl
  refine lv_iload_n X.1 X.2.1 jd_K_isStation_0 rfl (lv_at hl 0 rfl) ?_
  refine kn_eq0 X.1 X.2.1 jd_K_isStation_1 (tgt := 9) (by decide) (by omega) (fun h1 => ?_) (fun h1 => ?_)
  · skip
    refine lv_iconst (v := nI 1) X.1 X.2.1 jd_K_isStation_9 (by decide) ?_
    refine lv_goto X.1 X.2.1 jd_K_isStation_10 (tgt := 14) (by decide) ?_
    exact kn_to (by first | rfl | omega | (split <;> omega)) (hQ _ _ jd_K_isStation_14)
  · skip
    refine lv_iload_n X.1 X.2.1 jd_K_isStation_4 rfl (lv_at hl 0 rfl) ?_
    refine lv_iconst (v := nI 1) X.1 X.2.1 jd_K_isStation_5 (by decide) ?_
    refine kn_cne X.1 X.2.1 jd_K_isStation_6 (tgt := 13) (by decide) (by omega) (fun h6 => ?_) (fun h6 => ?_)
    · skip
      refine lv_iconst (v := nI 0) X.1 X.2.1 jd_K_isStation_13 (by decide) ?_
      exact kn_to (by first | rfl | omega | (split <;> omega)) (hQ _ _ jd_K_isStation_14)
    · skip
      refine lv_iconst (v := nI 1) X.1 X.2.1 jd_K_isStation_9 (by decide) ?_
      refine lv_goto X.1 X.2.1 jd_K_isStation_10 (tgt := 14) (by decide) ?_
      exact kn_to (by first | rfl | omega | (split <;> omega)) (hQ _ _ jd_K_isStation_14)

set_option maxHeartbeats 4000000 in
theorem c_K_isTagNumber (l : Launch) (d : Nat → Nat) (D : va_G) (a : Nat → Nat) (n : Nat → Nat → Nat) (g : Nat → Nat) (k : Nat) (hk : k < 4294967296) : jPure l d D a n g jy_K_isTagNumber jb_K_isTagNumber 1 (some .boolean) { frames := 0, cells := 0, slots := 0, locals := 0 } [.int (nI k)] (some (.int (nI (if 1 ≤ k ∧ k ≤ 65535 then 1 else 0)))) := by
  refine jq_Z (by first | omega | (split <;> omega)) (by decide) (Nat.le_of_ble_eq_true rfl) ?_
  intro p e s m A below meth c ls Q X hP hl hQ
  have hl : lv_has ls 1 [(0, .int (nI k))] := hl
  refine lv_iload_n X.1 X.2.1 jd_K_isTagNumber_0 rfl (lv_at hl 0 rfl) ?_
  refine lv_iconst (v := nI 1) X.1 X.2.1 jd_K_isTagNumber_1 (by decide) ?_
  refine kn_xlt X.1 X.2.1 jd_K_isTagNumber_2 (tgt := 15) (by decide) (by omega) (fun h2 => ?_) (fun h2 => ?_)
  · skip
    refine lv_iconst (v := nI 0) X.1 X.2.1 jd_K_isTagNumber_15 (by decide) ?_
    exact kn_to (by first | rfl | omega | (split <;> omega)) (hQ _ _ jd_K_isTagNumber_16)
  · skip
    refine lv_iload_n X.1 X.2.1 jd_K_isTagNumber_5 rfl (lv_at hl 0 rfl) ?_
    refine lv_ldc (v := nI 65535) X.1 X.2.1 X.2.2.2.2.2.1 (X.2.2.2.2.2.2.1 _ jm_547) jd_K_isTagNumber_6 ?_
    refine kn_xgt X.1 X.2.1 jd_K_isTagNumber_8 (tgt := 15) (by decide) (by omega) (fun h8 => ?_) (fun h8 => ?_)
    · skip
      refine lv_iconst (v := nI 0) X.1 X.2.1 jd_K_isTagNumber_15 (by decide) ?_
      exact kn_to (by first | rfl | omega | (split <;> omega)) (hQ _ _ jd_K_isTagNumber_16)
    · skip
      refine lv_iconst (v := nI 1) X.1 X.2.1 jd_K_isTagNumber_11 (by decide) ?_
      refine lv_goto X.1 X.2.1 jd_K_isTagNumber_12 (tgt := 16) (by decide) ?_
      exact kn_to (by first | rfl | omega | (split <;> omega)) (hQ _ _ jd_K_isTagNumber_16)

set_option maxHeartbeats 4000000 in
theorem c_K_stationOf_0 (l : Launch) (d : Nat → Nat) (D : va_G) (a : Nat → Nat) (n : Nat → Nat → Nat) (g : Nat → Nat)  : jPure l d D a n g jy_K_stationOf jb_K_stationOf 2 (some (.object "KeyDistiller$Station")) { frames := 0, cells := 0, slots := 0, locals := 0 } [.ref (a 0), .int (nI 0)] (some (.ref (a 1))) := by
  refine jq_A (by decide) (Nat.le_of_ble_eq_true rfl) ?_
  intro p e s m A below meth c ls Q X hP hl hQ
  have hl : lv_has ls 2 [(0, .ref (a 0)), (1, .int (nI 0))] := hl
  refine lv_iload_n X.1 X.2.1 jd_K_stationOf_0 rfl (lv_at hl 1 rfl) ?_
  refine kn_ne0 X.1 X.2.1 jd_K_stationOf_1 (tgt := 11) (by decide) (by omega) (fun h1 => absurd h1 (by decide)) (fun h1 => ?_)
  refine lv_aload_n X.1 X.2.1 jd_K_stationOf_4 rfl (lv_at hl 0 rfl) ?_
  refine jg_K_10_0 X hP jd_K_stationOf_5 ?_
  refine lv_goto X.1 X.2.1 jd_K_stationOf_8 (tgt := 15) (by decide) ?_
  exact hQ _ _ jd_K_stationOf_15

set_option maxHeartbeats 4000000 in
theorem c_K_stationOf_1 (l : Launch) (d : Nat → Nat) (D : va_G) (a : Nat → Nat) (n : Nat → Nat → Nat) (g : Nat → Nat)  : jPure l d D a n g jy_K_stationOf jb_K_stationOf 2 (some (.object "KeyDistiller$Station")) { frames := 0, cells := 0, slots := 0, locals := 0 } [.ref (a 0), .int (nI 1)] (some (.ref (a 7))) := by
  refine jq_A (by decide) (Nat.le_of_ble_eq_true rfl) ?_
  intro p e s m A below meth c ls Q X hP hl hQ
  have hl : lv_has ls 2 [(0, .ref (a 0)), (1, .int (nI 1))] := hl
  refine lv_iload_n X.1 X.2.1 jd_K_stationOf_0 rfl (lv_at hl 1 rfl) ?_
  refine kn_ne0 X.1 X.2.1 jd_K_stationOf_1 (tgt := 11) (by decide) (by omega) (fun h1 => ?_) (fun h1 => absurd h1 (by decide))
  refine lv_aload_n X.1 X.2.1 jd_K_stationOf_11 rfl (lv_at hl 0 rfl) ?_
  refine jg_K_16_0 X hP jd_K_stationOf_12 ?_
  exact hQ _ _ jd_K_stationOf_15

set_option maxHeartbeats 4000000 in
theorem c_D_blockSize (l : Launch) (d : Nat → Nat) (D : va_G) (a : Nat → Nat) (n : Nat → Nat → Nat) (g : Nat → Nat) (q : Nat) (hq : q < 4) (hc : n 14 4 ≤ 128) : jPure l d D a n g jy_D_blockSize jb_D_blockSize 2 (some .int) { frames := 0, cells := 0, slots := 0, locals := 0 } [.ref (a 14), .int (nI q)] (some (.int (nI (n 14 4 * 2 ^ q)))) := by
  refine jq_I (by decide) (Nat.le_of_ble_eq_true rfl) ?_
  intro p e s m A below meth c ls Q X hP hl hQ
  have hl : lv_has ls 2 [(0, .ref (a 14)), (1, .int (nI q))] := hl
  refine lv_aload_n X.1 X.2.1 jd_D_blockSize_0 rfl (lv_at hl 0 rfl) ?_
  refine jg_D_41_14 X hP jd_D_blockSize_1 ?_
  refine lv_iload_n X.1 X.2.1 jd_D_blockSize_4 rfl (lv_at hl 1 rfl) ?_
  refine lv_ishl X.1 X.2.1 jd_D_blockSize_5 ?_
  refine kn_is (y := (n 14 4) * 2 ^ q) (kn_shl (by omega) (by omega)) ?_
  exact kn_to (by first | rfl | omega | (split <;> omega)) (hQ _ _ jd_D_blockSize_6)
