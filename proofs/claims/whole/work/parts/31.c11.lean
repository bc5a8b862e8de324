set_option maxHeartbeats 4000000 in
theorem c_D_tell_0 (l : Launch) (d : Nat → Nat) (D : va_G) (a : Nat → Nat) (n : Nat → Nat → Nat) (g : Nat → Nat) (k : Nat) (hk : k < 16) (hB : NB n) (hq : n 16 k = 0 → 1 ≤ n 17 k ∧ n 17 k ≤ 512 ∧ n 29 (n 17 k - 1) < 2147483648)  : jPure l d D a n g jy_D_tell jb_D_tell 5 (some .int) { frames := 1, cells := 0, slots := 0, locals := 21 } [.ref (a 14), .int (nI k), .int (nI 0)] (some (.int (nI (tlF n k 0)))) := by
  refine jq_I (by decide) (Nat.le_of_ble_eq_true rfl) ?_
  intro p e s m A below meth c ls Q X hP hl hQ
  have hl : lv_has ls 5 [(0, .ref (a 14)), (1, .int (nI k)), (2, .int (nI 0))] := hl
  refine lv_aload_n X.1 X.2.1 jd_D_tell_0 rfl (lv_at hl 0 rfl) ?_
  refine jg_D_12_14 X hP jd_D_tell_1 ?_
  refine jg_D_56_15 X hP jd_D_tell_4 ?_
  refine lv_iload_n X.1 X.2.1 jd_D_tell_7 rfl (lv_at hl 1 rfl) ?_
  refine j_ald X hP 17 k (by decide) (show k < 16 from by omega) (by decide) jd_D_tell_8 ?_
  refine lv_istore_n X.1 X.2.1 jd_D_tell_9 rfl hl (by decide) rfl (fun ls hl => ?_)
  have hl : lv_has ls 5 [(3, .int (nI (n 17 k))), (0, .ref (a 14)), (1, .int (nI k)), (2, .int (nI 0))] := hl
  refine lv_aload_n X.1 X.2.1 jd_D_tell_10 rfl (lv_at hl 1 rfl) ?_
  refine jg_D_12_14 X hP jd_D_tell_11 ?_
  refine jg_D_59_15 X hP jd_D_tell_14 ?_
  refine lv_iload_n X.1 X.2.1 jd_D_tell_17 rfl (lv_at hl 2 rfl) ?_
  refine j_ald X hP 16 k (by decide) (show k < 16 from by omega) (by decide) jd_D_tell_18 ?_
  refine kn_ne0 X.1 X.2.1 jd_D_tell_19 (tgt := 26) (by decide) (hB _ _) (fun h19 => ?_) (fun h19 => ?_)
  · skip
    refine lv_iconst (v := nI 0) X.1 X.2.1 jd_D_tell_26 (by decide) ?_
    refine lv_istore X.1 X.2.1 jd_D_tell_27 hl (by decide) rfl (fun ls hl => ?_)
    have hl : lv_has ls 5 [(4, .int (nI 0)), (3, .int (nI (n 17 k))), (0, .ref (a 14)), (1, .int (nI k)), (2, .int (nI 0))] := hl
    refine lv_iload_n X.1 X.2.1 jd_D_tell_29 rfl (lv_at hl 4 rfl) ?_
    refine lv_tableIn X.1 X.2.1 jd_D_tell_30 (by decide) (by decide) (off := 34) (by decide) (tgt := 64) (by decide) ?_
    refine lv_aload_n X.1 X.2.1 jd_D_tell_64 rfl (lv_at hl 2 rfl) ?_
    refine jg_D_12_14 X hP jd_D_tell_65 ?_
    refine jg_D_59_15 X hP jd_D_tell_68 ?_
    refine lv_iload_n X.1 X.2.1 jd_D_tell_71 rfl (lv_at hl 3 rfl) ?_
    refine j_ald X hP 16 k (by decide) (show k < 16 from by omega) (by decide) jd_D_tell_72 ?_
    exact kn_to (by unfold tlF; first | rfl | (rw [if_neg (by omega), if_neg (by omega), if_neg (by omega), if_neg (by omega), if_neg (by omega)]) | (simp [h19])) (hQ _ _ jd_D_tell_73)
  · skip
    refine lv_iconst (v := nI 1) X.1 X.2.1 jd_D_tell_22 (by decide) ?_
    refine lv_goto X.1 X.2.1 jd_D_tell_23 (tgt := 27) (by decide) ?_
    refine lv_istore X.1 X.2.1 jd_D_tell_27 hl (by decide) rfl (fun ls hl => ?_)
    have hl : lv_has ls 5 [(4, .int (nI 1)), (3, .int (nI (n 17 k))), (0, .ref (a 14)), (1, .int (nI k)), (2, .int (nI 0))] := hl
    refine lv_iload_n X.1 X.2.1 jd_D_tell_29 rfl (lv_at hl 4 rfl) ?_
    refine lv_tableIn X.1 X.2.1 jd_D_tell_30 (by decide) (by decide) (off := 34) (by decide) (tgt := 64) (by decide) ?_
    refine lv_aload_n X.1 X.2.1 jd_D_tell_64 rfl (lv_at hl 2 rfl) ?_
    refine jg_D_12_14 X hP jd_D_tell_65 ?_
    refine jg_D_59_15 X hP jd_D_tell_68 ?_
    refine lv_iload_n X.1 X.2.1 jd_D_tell_71 rfl (lv_at hl 3 rfl) ?_
    refine j_ald X hP 16 k (by decide) (show k < 16 from by omega) (by decide) jd_D_tell_72 ?_
    exact kn_to (by unfold tlF; first | rfl | (rw [if_neg (by omega), if_neg (by omega), if_neg (by omega), if_neg (by omega), if_neg (by omega)]) | (simp [h19])) (hQ _ _ jd_D_tell_73)

set_option maxHeartbeats 4000000 in
theorem c_D_tell_1 (l : Launch) (d : Nat → Nat) (D : va_G) (a : Nat → Nat) (n : Nat → Nat → Nat) (g : Nat → Nat) (k : Nat) (hk : k < 16) (hB : NB n) (hq : n 16 k = 0 → 1 ≤ n 17 k ∧ n 17 k ≤ 512 ∧ n 29 (n 17 k - 1) < 2147483648)  : jPure l d D a n g jy_D_tell jb_D_tell 5 (some .int) { frames := 1, cells := 0, slots := 0, locals := 21 } [.ref (a 14), .int (nI k), .int (nI 1)] (some (.int (nI (tlF n k 1)))) := by
  refine jq_I (by decide) (Nat.le_of_ble_eq_true rfl) ?_
  intro p e s m A below meth c ls Q X hP hl hQ
  have hl : lv_has ls 5 [(0, .ref (a 14)), (1, .int (nI k)), (2, .int (nI 1))] := hl
  refine lv_aload_n X.1 X.2.1 jd_D_tell_0 rfl (lv_at hl 0 rfl) ?_
  refine jg_D_12_14 X hP jd_D_tell_1 ?_
  refine jg_D_56_15 X hP jd_D_tell_4 ?_
  refine lv_iload_n X.1 X.2.1 jd_D_tell_7 rfl (lv_at hl 1 rfl) ?_
  refine j_ald X hP 17 k (by decide) (show k < 16 from by omega) (by decide) jd_D_tell_8 ?_
  refine lv_istore_n X.1 X.2.1 jd_D_tell_9 rfl hl (by decide) rfl (fun ls hl => ?_)
  have hl : lv_has ls 5 [(3, .int (nI (n 17 k))), (0, .ref (a 14)), (1, .int (nI k)), (2, .int (nI 1))] := hl
  refine lv_aload_n X.1 X.2.1 jd_D_tell_10 rfl (lv_at hl 1 rfl) ?_
  refine jg_D_12_14 X hP jd_D_tell_11 ?_
  refine jg_D_59_15 X hP jd_D_tell_14 ?_
  refine lv_iload_n X.1 X.2.1 jd_D_tell_17 rfl (lv_at hl 2 rfl) ?_
  refine j_ald X hP 16 k (by decide) (show k < 16 from by omega) (by decide) jd_D_tell_18 ?_
  refine kn_ne0 X.1 X.2.1 jd_D_tell_19 (tgt := 26) (by decide) (hB _ _) (fun h19 => ?_) (fun h19 => ?_)
  · skip
    refine lv_iconst (v := nI 0) X.1 X.2.1 jd_D_tell_26 (by decide) ?_
    refine lv_istore X.1 X.2.1 jd_D_tell_27 hl (by decide) rfl (fun ls hl => ?_)
    have hl : lv_has ls 5 [(4, .int (nI 0)), (3, .int (nI (n 17 k))), (0, .ref (a 14)), (1, .int (nI k)), (2, .int (nI 1))] := hl
    refine lv_iload_n X.1 X.2.1 jd_D_tell_29 rfl (lv_at hl 4 rfl) ?_
    refine lv_tableIn X.1 X.2.1 jd_D_tell_30 (by decide) (by decide) (off := 44) (by decide) (tgt := 74) (by decide) ?_
    refine lv_iload_n X.1 X.2.1 jd_D_tell_74 rfl (lv_at hl 1 rfl) ?_
    exact kn_to (by unfold tlF; first | rfl | (rw [if_neg (by omega), if_neg (by omega), if_neg (by omega), if_neg (by omega), if_neg (by omega)]) | (simp [h19])) (hQ _ _ jd_D_tell_75)
  · skip
    refine lv_iconst (v := nI 1) X.1 X.2.1 jd_D_tell_22 (by decide) ?_
    refine lv_goto X.1 X.2.1 jd_D_tell_23 (tgt := 27) (by decide) ?_
    refine lv_istore X.1 X.2.1 jd_D_tell_27 hl (by decide) rfl (fun ls hl => ?_)
    have hl : lv_has ls 5 [(4, .int (nI 1)), (3, .int (nI (n 17 k))), (0, .ref (a 14)), (1, .int (nI k)), (2, .int (nI 1))] := hl
    refine lv_iload_n X.1 X.2.1 jd_D_tell_29 rfl (lv_at hl 4 rfl) ?_
    refine lv_tableIn X.1 X.2.1 jd_D_tell_30 (by decide) (by decide) (off := 44) (by decide) (tgt := 74) (by decide) ?_
    refine lv_iload_n X.1 X.2.1 jd_D_tell_74 rfl (lv_at hl 1 rfl) ?_
    exact kn_to (by unfold tlF; first | rfl | (rw [if_neg (by omega), if_neg (by omega), if_neg (by omega), if_neg (by omega), if_neg (by omega)]) | (simp [h19])) (hQ _ _ jd_D_tell_75)

set_option maxHeartbeats 4000000 in
theorem c_D_tell_2 (l : Launch) (d : Nat → Nat) (D : va_G) (a : Nat → Nat) (n : Nat → Nat → Nat) (g : Nat → Nat) (k : Nat) (hk : k < 16) (hB : NB n) (hq : n 16 k = 0 → 1 ≤ n 17 k ∧ n 17 k ≤ 512 ∧ n 29 (n 17 k - 1) < 2147483648)  : jPure l d D a n g jy_D_tell jb_D_tell 5 (some .int) { frames := 1, cells := 0, slots := 0, locals := 21 } [.ref (a 14), .int (nI k), .int (nI 2)] (some (.int (nI (tlF n k 2)))) := by
  refine jq_I (by decide) (Nat.le_of_ble_eq_true rfl) ?_
  intro p e s m A below meth c ls Q X hP hl hQ
  have hl : lv_has ls 5 [(0, .ref (a 14)), (1, .int (nI k)), (2, .int (nI 2))] := hl
  refine lv_aload_n X.1 X.2.1 jd_D_tell_0 rfl (lv_at hl 0 rfl) ?_
  refine jg_D_12_14 X hP jd_D_tell_1 ?_
  refine jg_D_56_15 X hP jd_D_tell_4 ?_
  refine lv_iload_n X.1 X.2.1 jd_D_tell_7 rfl (lv_at hl 1 rfl) ?_
  refine j_ald X hP 17 k (by decide) (show k < 16 from by omega) (by decide) jd_D_tell_8 ?_
  refine lv_istore_n X.1 X.2.1 jd_D_tell_9 rfl hl (by decide) rfl (fun ls hl => ?_)
  have hl : lv_has ls 5 [(3, .int (nI (n 17 k))), (0, .ref (a 14)), (1, .int (nI k)), (2, .int (nI 2))] := hl
  refine lv_aload_n X.1 X.2.1 jd_D_tell_10 rfl (lv_at hl 1 rfl) ?_
  refine jg_D_12_14 X hP jd_D_tell_11 ?_
  refine jg_D_59_15 X hP jd_D_tell_14 ?_
  refine lv_iload_n X.1 X.2.1 jd_D_tell_17 rfl (lv_at hl 2 rfl) ?_
  refine j_ald X hP 16 k (by decide) (show k < 16 from by omega) (by decide) jd_D_tell_18 ?_
  refine kn_ne0 X.1 X.2.1 jd_D_tell_19 (tgt := 26) (by decide) (hB _ _) (fun h19 => ?_) (fun h19 => ?_)
  · skip
    refine lv_iconst (v := nI 0) X.1 X.2.1 jd_D_tell_26 (by decide) ?_
    refine lv_istore X.1 X.2.1 jd_D_tell_27 hl (by decide) rfl (fun ls hl => ?_)
    have hl : lv_has ls 5 [(4, .int (nI 0)), (3, .int (nI (n 17 k))), (0, .ref (a 14)), (1, .int (nI k)), (2, .int (nI 2))] := hl
    refine lv_iload_n X.1 X.2.1 jd_D_tell_29 rfl (lv_at hl 4 rfl) ?_
    refine lv_tableIn X.1 X.2.1 jd_D_tell_30 (by decide) (by decide) (off := 46) (by decide) (tgt := 76) (by decide) ?_
    refine lv_iload X.1 X.2.1 jd_D_tell_76 (lv_at hl 0 rfl) ?_
    refine kn_eq0 X.1 X.2.1 jd_D_tell_78 (tgt := 89) (by decide) (by omega) (fun h78 => ?_) (fun h78 => absurd h78 (by decide))
    refine lv_aload_n X.1 X.2.1 jd_D_tell_89 rfl (lv_at hl 2 rfl) ?_
    refine jg_D_12_14 X hP jd_D_tell_90 ?_
    refine jg_D_66_15 X hP jd_D_tell_93 ?_
    refine lv_iload_n X.1 X.2.1 jd_D_tell_96 rfl (lv_at hl 3 rfl) ?_
    refine j_ald X hP 18 k (by decide) (show k < 16 from by omega) (by decide) jd_D_tell_97 ?_
    exact kn_to (by unfold tlF; first | rfl | (rw [if_neg (by omega), if_neg (by omega), if_neg (by omega), if_neg (by omega), if_neg (by omega)]) | (simp [h19])) (hQ _ _ jd_D_tell_98)
  · skip
    refine lv_iconst (v := nI 1) X.1 X.2.1 jd_D_tell_22 (by decide) ?_
    refine lv_goto X.1 X.2.1 jd_D_tell_23 (tgt := 27) (by decide) ?_
    refine lv_istore X.1 X.2.1 jd_D_tell_27 hl (by decide) rfl (fun ls hl => ?_)
    have hl : lv_has ls 5 [(4, .int (nI 1)), (3, .int (nI (n 17 k))), (0, .ref (a 14)), (1, .int (nI k)), (2, .int (nI 2))] := hl
    refine lv_iload_n X.1 X.2.1 jd_D_tell_29 rfl (lv_at hl 4 rfl) ?_
    refine lv_tableIn X.1 X.2.1 jd_D_tell_30 (by decide) (by decide) (off := 46) (by decide) (tgt := 76) (by decide) ?_
    refine lv_iload X.1 X.2.1 jd_D_tell_76 (lv_at hl 0 rfl) ?_
    refine kn_eq0 X.1 X.2.1 jd_D_tell_78 (tgt := 89) (by decide) (by omega) (fun h78 => absurd h78 (by decide)) (fun h78 => ?_)
    refine lv_aload_n X.1 X.2.1 jd_D_tell_81 rfl (lv_at hl 2 rfl) ?_
    refine lv_iload_n X.1 X.2.1 jd_D_tell_82 rfl (lv_at hl 1 rfl) ?_
    refine j_run (j_mkV X hP (c_D_passOf l d D a n g (n 17 k) (hq h19).1 (hq h19).2.1 (hq h19).2.2) jU_b (j_pp X hP) jm_201 jm_200 js_2 jm_4 jm_198 (by decide) rfl rfl (show jOk jy_D_passOf 1 by unfold jOk; decide +kernel) (by decide) ⟨rfl, rfl⟩ hl.1 rfl (Nat.le_of_ble_eq_true rfl) ⟨Nat.zero_le _, Nat.zero_le _⟩ jd_D_tell_83) ?_
    refine W.eq (g2 := F0 m 86 ls [.int (nI (n 29 (n 17 k - 1) / 2 ^ 16))]) rfl ?_
    refine lv_goto X.1 X.2.1 jd_D_tell_86 (tgt := 98) (by decide) ?_
    exact kn_to (by unfold tlF; first | rfl | (rw [if_neg (by omega), if_neg (by omega), if_neg (by omega), if_neg (by omega), if_neg (by omega)]) | (simp [h19])) (hQ _ _ jd_D_tell_98)

set_option maxHeartbeats 4000000 in
theorem c_D_tell_3 (l : Launch) (d : Nat → Nat) (D : va_G) (a : Nat → Nat) (n : Nat → Nat → Nat) (g : Nat → Nat) (k : Nat) (hk : k < 16) (hB : NB n) (hq : n 16 k = 0 → 1 ≤ n 17 k ∧ n 17 k ≤ 512 ∧ n 29 (n 17 k - 1) < 2147483648)  : jPure l d D a n g jy_D_tell jb_D_tell 5 (some .int) { frames := 1, cells := 0, slots := 0, locals := 21 } [.ref (a 14), .int (nI k), .int (nI 3)] (some (.int (nI (tlF n k 3)))) := by
  refine jq_I (by decide) (Nat.le_of_ble_eq_true rfl) ?_
  intro p e s m A below meth c ls Q X hP hl hQ
  have hl : lv_has ls 5 [(0, .ref (a 14)), (1, .int (nI k)), (2, .int (nI 3))] := hl
  refine lv_aload_n X.1 X.2.1 jd_D_tell_0 rfl (lv_at hl 0 rfl) ?_
  refine jg_D_12_14 X hP jd_D_tell_1 ?_
  refine jg_D_56_15 X hP jd_D_tell_4 ?_
  refine lv_iload_n X.1 X.2.1 jd_D_tell_7 rfl (lv_at hl 1 rfl) ?_
  refine j_ald X hP 17 k (by decide) (show k < 16 from by omega) (by decide) jd_D_tell_8 ?_
  refine lv_istore_n X.1 X.2.1 jd_D_tell_9 rfl hl (by decide) rfl (fun ls hl => ?_)
  have hl : lv_has ls 5 [(3, .int (nI (n 17 k))), (0, .ref (a 14)), (1, .int (nI k)), (2, .int (nI 3))] := hl
  refine lv_aload_n X.1 X.2.1 jd_D_tell_10 rfl (lv_at hl 1 rfl) ?_
  refine jg_D_12_14 X hP jd_D_tell_11 ?_
  refine jg_D_59_15 X hP jd_D_tell_14 ?_
  refine lv_iload_n X.1 X.2.1 jd_D_tell_17 rfl (lv_at hl 2 rfl) ?_
  refine j_ald X hP 16 k (by decide) (show k < 16 from by omega) (by decide) jd_D_tell_18 ?_
  refine kn_ne0 X.1 X.2.1 jd_D_tell_19 (tgt := 26) (by decide) (hB _ _) (fun h19 => ?_) (fun h19 => ?_)
  · skip
    refine lv_iconst (v := nI 0) X.1 X.2.1 jd_D_tell_26 (by decide) ?_
    refine lv_istore X.1 X.2.1 jd_D_tell_27 hl (by decide) rfl (fun ls hl => ?_)
    have hl : lv_has ls 5 [(4, .int (nI 0)), (3, .int (nI (n 17 k))), (0, .ref (a 14)), (1, .int (nI k)), (2, .int (nI 3))] := hl
    refine lv_iload_n X.1 X.2.1 jd_D_tell_29 rfl (lv_at hl 4 rfl) ?_
    refine lv_tableIn X.1 X.2.1 jd_D_tell_30 (by decide) (by decide) (off := 69) (by decide) (tgt := 99) (by decide) ?_
    refine lv_iload X.1 X.2.1 jd_D_tell_99 (lv_at hl 0 rfl) ?_
    refine kn_eq0 X.1 X.2.1 jd_D_tell_101 (tgt := 112) (by decide) (by omega) (fun h101 => ?_) (fun h101 => absurd h101 (by decide))
    refine lv_iconst (v := nI 4294967295) X.1 X.2.1 jd_D_tell_112 (by decide) ?_
    exact kn_to (by unfold tlF; first | rfl | (rw [if_neg (by omega), if_neg (by omega), if_neg (by omega), if_neg (by omega), if_neg (by omega)]) | (simp [h19])) (hQ _ _ jd_D_tell_113)
  · skip
    refine lv_iconst (v := nI 1) X.1 X.2.1 jd_D_tell_22 (by decide) ?_
    refine lv_goto X.1 X.2.1 jd_D_tell_23 (tgt := 27) (by decide) ?_
    refine lv_istore X.1 X.2.1 jd_D_tell_27 hl (by decide) rfl (fun ls hl => ?_)
    have hl : lv_has ls 5 [(4, .int (nI 1)), (3, .int (nI (n 17 k))), (0, .ref (a 14)), (1, .int (nI k)), (2, .int (nI 3))] := hl
    refine lv_iload_n X.1 X.2.1 jd_D_tell_29 rfl (lv_at hl 4 rfl) ?_
    refine lv_tableIn X.1 X.2.1 jd_D_tell_30 (by decide) (by decide) (off := 69) (by decide) (tgt := 99) (by decide) ?_
    refine lv_iload X.1 X.2.1 jd_D_tell_99 (lv_at hl 0 rfl) ?_
    refine kn_eq0 X.1 X.2.1 jd_D_tell_101 (tgt := 112) (by decide) (by omega) (fun h101 => absurd h101 (by decide)) (fun h101 => ?_)
    refine lv_aload_n X.1 X.2.1 jd_D_tell_104 rfl (lv_at hl 2 rfl) ?_
    refine lv_iload_n X.1 X.2.1 jd_D_tell_105 rfl (lv_at hl 1 rfl) ?_
    refine j_run (j_mkV X hP (c_D_fromOf l d D a n g (n 17 k) (hq h19).1 (hq h19).2.1 (hq h19).2.2) jU_b (j_pp X hP) jm_205 jm_204 js_3 jm_4 jm_202 (by decide) rfl rfl (show jOk jy_D_fromOf 1 by unfold jOk; decide +kernel) (by decide) ⟨rfl, rfl⟩ hl.1 rfl (Nat.le_of_ble_eq_true rfl) ⟨Nat.zero_le _, Nat.zero_le _⟩ jd_D_tell_106) ?_
    refine W.eq (g2 := F0 m 109 ls [.int (nI (n 29 (n 17 k - 1) / 2 ^ 8 &&& 255))]) rfl ?_
    refine lv_goto X.1 X.2.1 jd_D_tell_109 (tgt := 113) (by decide) ?_
    exact kn_to (by unfold tlF; first | rfl | (rw [if_neg (by omega), if_neg (by omega), if_neg (by omega), if_neg (by omega), if_neg (by omega)]) | (simp [h19])) (hQ _ _ jd_D_tell_113)

set_option maxHeartbeats 4000000 in
theorem c_D_tell_4 (l : Launch) (d : Nat → Nat) (D : va_G) (a : Nat → Nat) (n : Nat → Nat → Nat) (g : Nat → Nat) (k : Nat) (hk : k < 16) (hB : NB n) (hq : n 16 k = 0 → 1 ≤ n 17 k ∧ n 17 k ≤ 512 ∧ n 29 (n 17 k - 1) < 2147483648)  : jPure l d D a n g jy_D_tell jb_D_tell 5 (some .int) { frames := 1, cells := 0, slots := 0, locals := 21 } [.ref (a 14), .int (nI k), .int (nI 4)] (some (.int (nI (tlF n k 4)))) := by
  refine jq_I (by decide) (Nat.le_of_ble_eq_true rfl) ?_
  intro p e s m A below meth c ls Q X hP hl hQ
  have hl : lv_has ls 5 [(0, .ref (a 14)), (1, .int (nI k)), (2, .int (nI 4))] := hl
  refine lv_aload_n X.1 X.2.1 jd_D_tell_0 rfl (lv_at hl 0 rfl) ?_
  refine jg_D_12_14 X hP jd_D_tell_1 ?_
  refine jg_D_56_15 X hP jd_D_tell_4 ?_
  refine lv_iload_n X.1 X.2.1 jd_D_tell_7 rfl (lv_at hl 1 rfl) ?_
  refine j_ald X hP 17 k (by decide) (show k < 16 from by omega) (by decide) jd_D_tell_8 ?_
  refine lv_istore_n X.1 X.2.1 jd_D_tell_9 rfl hl (by decide) rfl (fun ls hl => ?_)
  have hl : lv_has ls 5 [(3, .int (nI (n 17 k))), (0, .ref (a 14)), (1, .int (nI k)), (2, .int (nI 4))] := hl
  refine lv_aload_n X.1 X.2.1 jd_D_tell_10 rfl (lv_at hl 1 rfl) ?_
  refine jg_D_12_14 X hP jd_D_tell_11 ?_
  refine jg_D_59_15 X hP jd_D_tell_14 ?_
  refine lv_iload_n X.1 X.2.1 jd_D_tell_17 rfl (lv_at hl 2 rfl) ?_
  refine j_ald X hP 16 k (by decide) (show k < 16 from by omega) (by decide) jd_D_tell_18 ?_
  refine kn_ne0 X.1 X.2.1 jd_D_tell_19 (tgt := 26) (by decide) (hB _ _) (fun h19 => ?_) (fun h19 => ?_)
  · skip
    refine lv_iconst (v := nI 0) X.1 X.2.1 jd_D_tell_26 (by decide) ?_
    refine lv_istore X.1 X.2.1 jd_D_tell_27 hl (by decide) rfl (fun ls hl => ?_)
    have hl : lv_has ls 5 [(4, .int (nI 0)), (3, .int (nI (n 17 k))), (0, .ref (a 14)), (1, .int (nI k)), (2, .int (nI 4))] := hl
    refine lv_iload_n X.1 X.2.1 jd_D_tell_29 rfl (lv_at hl 4 rfl) ?_
    refine lv_tableIn X.1 X.2.1 jd_D_tell_30 (by decide) (by decide) (off := 84) (by decide) (tgt := 114) (by decide) ?_
    refine lv_iload X.1 X.2.1 jd_D_tell_114 (lv_at hl 0 rfl) ?_
    refine kn_eq0 X.1 X.2.1 jd_D_tell_116 (tgt := 127) (by decide) (by omega) (fun h116 => ?_) (fun h116 => absurd h116 (by decide))
    refine lv_iconst (v := nI 4294967295) X.1 X.2.1 jd_D_tell_127 (by decide) ?_
    exact kn_to (by unfold tlF; first | rfl | (rw [if_neg (by omega), if_neg (by omega), if_neg (by omega), if_neg (by omega), if_neg (by omega)]) | (simp [h19])) (hQ _ _ jd_D_tell_128)
  · skip
    refine lv_iconst (v := nI 1) X.1 X.2.1 jd_D_tell_22 (by decide) ?_
    refine lv_goto X.1 X.2.1 jd_D_tell_23 (tgt := 27) (by decide) ?_
    refine lv_istore X.1 X.2.1 jd_D_tell_27 hl (by decide) rfl (fun ls hl => ?_)
    have hl : lv_has ls 5 [(4, .int (nI 1)), (3, .int (nI (n 17 k))), (0, .ref (a 14)), (1, .int (nI k)), (2, .int (nI 4))] := hl
    refine lv_iload_n X.1 X.2.1 jd_D_tell_29 rfl (lv_at hl 4 rfl) ?_
    refine lv_tableIn X.1 X.2.1 jd_D_tell_30 (by decide) (by decide) (off := 84) (by decide) (tgt := 114) (by decide) ?_
    refine lv_iload X.1 X.2.1 jd_D_tell_114 (lv_at hl 0 rfl) ?_
    refine kn_eq0 X.1 X.2.1 jd_D_tell_116 (tgt := 127) (by decide) (by omega) (fun h116 => absurd h116 (by decide)) (fun h116 => ?_)
    refine lv_aload_n X.1 X.2.1 jd_D_tell_119 rfl (lv_at hl 2 rfl) ?_
    refine lv_iload_n X.1 X.2.1 jd_D_tell_120 rfl (lv_at hl 1 rfl) ?_
    refine j_run (j_mkV X hP (c_D_toOf l d D a n g (n 17 k) (hq h19).1 (hq h19).2.1 (hq h19).2.2) jU_b (j_pp X hP) jm_209 jm_208 js_4 jm_4 jm_206 (by decide) rfl rfl (show jOk jy_D_toOf 1 by unfold jOk; decide +kernel) (by decide) ⟨rfl, rfl⟩ hl.1 rfl (Nat.le_of_ble_eq_true rfl) ⟨Nat.zero_le _, Nat.zero_le _⟩ jd_D_tell_121) ?_
    refine W.eq (g2 := F0 m 124 ls [.int (nI (n 29 (n 17 k - 1) &&& 255))]) rfl ?_
    refine lv_goto X.1 X.2.1 jd_D_tell_124 (tgt := 128) (by decide) ?_
    exact kn_to (by unfold tlF; first | rfl | (rw [if_neg (by omega), if_neg (by omega), if_neg (by omega), if_neg (by omega), if_neg (by omega)]) | (simp [h19])) (hQ _ _ jd_D_tell_128)

set_option maxHeartbeats 4000000 in
theorem c_D_tell_9 (l : Launch) (d : Nat → Nat) (D : va_G) (a : Nat → Nat) (n : Nat → Nat → Nat) (g : Nat → Nat) (k : Nat) (hk : k < 16) (hB : NB n) (hq : n 16 k = 0 → 1 ≤ n 17 k ∧ n 17 k ≤ 512 ∧ n 29 (n 17 k - 1) < 2147483648) (x : Nat) (hx : x < 4294967296) (hx5 : 5 ≤ x)  : jPure l d D a n g jy_D_tell jb_D_tell 5 (some .int) { frames := 1, cells := 0, slots := 0, locals := 21 } [.ref (a 14), .int (nI k), .int (nI x)] (some (.int (nI (tlF n k x)))) := by
  refine jq_I (by decide) (Nat.le_of_ble_eq_true rfl) ?_
  intro p e s m A below meth c ls Q X hP hl hQ
  have hl : lv_has ls 5 [(0, .ref (a 14)), (1, .int (nI k)), (2, .int (nI x))] := hl
  refine lv_aload_n X.1 X.2.1 jd_D_tell_0 rfl (lv_at hl 0 rfl) ?_
  refine jg_D_12_14 X hP jd_D_tell_1 ?_
  refine jg_D_56_15 X hP jd_D_tell_4 ?_
  refine lv_iload_n X.1 X.2.1 jd_D_tell_7 rfl (lv_at hl 1 rfl) ?_
  refine j_ald X hP 17 k (by decide) (show k < 16 from by omega) (by decide) jd_D_tell_8 ?_
  refine lv_istore_n X.1 X.2.1 jd_D_tell_9 rfl hl (by decide) rfl (fun ls hl => ?_)
  have hl : lv_has ls 5 [(3, .int (nI (n 17 k))), (0, .ref (a 14)), (1, .int (nI k)), (2, .int (nI x))] := hl
  refine lv_aload_n X.1 X.2.1 jd_D_tell_10 rfl (lv_at hl 1 rfl) ?_
  refine jg_D_12_14 X hP jd_D_tell_11 ?_
  refine jg_D_59_15 X hP jd_D_tell_14 ?_
  refine lv_iload_n X.1 X.2.1 jd_D_tell_17 rfl (lv_at hl 2 rfl) ?_
  refine j_ald X hP 16 k (by decide) (show k < 16 from by omega) (by decide) jd_D_tell_18 ?_
  refine kn_ne0 X.1 X.2.1 jd_D_tell_19 (tgt := 26) (by decide) (hB _ _) (fun h19 => ?_) (fun h19 => ?_)
  · skip
    refine lv_iconst (v := nI 0) X.1 X.2.1 jd_D_tell_26 (by decide) ?_
    refine lv_istore X.1 X.2.1 jd_D_tell_27 hl (by decide) rfl (fun ls hl => ?_)
    have hl : lv_has ls 5 [(4, .int (nI 0)), (3, .int (nI (n 17 k))), (0, .ref (a 14)), (1, .int (nI k)), (2, .int (nI x))] := hl
    refine lv_iload_n X.1 X.2.1 jd_D_tell_29 rfl (lv_at hl 4 rfl) ?_
    refine lv_tableOut X.1 X.2.1 jd_D_tell_30 (by rw [kn_toInt hx]; split <;> omega) (tgt := 129) (by decide) ?_
    refine lv_iconst (v := nI 4294967295) X.1 X.2.1 jd_D_tell_129 (by decide) ?_
    exact kn_to (by unfold tlF; first | rfl | (rw [if_neg (by omega), if_neg (by omega), if_neg (by omega), if_neg (by omega), if_neg (by omega)]) | (simp [h19])) (hQ _ _ jd_D_tell_130)
  · skip
    refine lv_iconst (v := nI 1) X.1 X.2.1 jd_D_tell_22 (by decide) ?_
    refine lv_goto X.1 X.2.1 jd_D_tell_23 (tgt := 27) (by decide) ?_
    refine lv_istore X.1 X.2.1 jd_D_tell_27 hl (by decide) rfl (fun ls hl => ?_)
    have hl : lv_has ls 5 [(4, .int (nI 1)), (3, .int (nI (n 17 k))), (0, .ref (a 14)), (1, .int (nI k)), (2, .int (nI x))] := hl
    refine lv_iload_n X.1 X.2.1 jd_D_tell_29 rfl (lv_at hl 4 rfl) ?_
    refine lv_tableOut X.1 X.2.1 jd_D_tell_30 (by rw [kn_toInt hx]; split <;> omega) (tgt := 129) (by decide) ?_
    refine lv_iconst (v := nI 4294967295) X.1 X.2.1 jd_D_tell_129 (by decide) ?_
    exact kn_to (by unfold tlF; first | rfl | (rw [if_neg (by omega), if_neg (by omega), if_neg (by omega), if_neg (by omega), if_neg (by omega)]) | (simp [h19])) (hQ _ _ jd_D_tell_130)

theorem c_D_tellF (l : Launch) (d : Nat → Nat) (D : va_G) (a : Nat → Nat) (n : Nat → Nat → Nat) (g : Nat → Nat) (k : Nat) (hk : k < 16) (hB : NB n) (hq : n 16 k = 0 → 1 ≤ n 17 k ∧ n 17 k ≤ 512 ∧ n 29 (n 17 k - 1) < 2147483648) (x : Nat) (hx : x < 4294967296) : jPure l d D a n g jy_D_tell jb_D_tell 5 (some .int) { frames := 1, cells := 0, slots := 0, locals := 21 } [.ref (a 14), .int (nI k), .int (nI x)] (some (.int (nI (tlF n k x)))) := by
  rcases (show x = 0 ∨ x = 1 ∨ x = 2 ∨ x = 3 ∨ x = 4 ∨ 5 ≤ x by omega) with rfl | rfl | rfl | rfl | rfl | h
  · exact c_D_tell_0 l d D a n g k hk hB hq
  · exact c_D_tell_1 l d D a n g k hk hB hq
  · exact c_D_tell_2 l d D a n g k hk hB hq
  · exact c_D_tell_3 l d D a n g k hk hB hq
  · exact c_D_tell_4 l d D a n g k hk hB hq
  · exact c_D_tell_9 l d D a n g k hk hB hq x hx h

set_option maxHeartbeats 4000000 in
theorem c_K_told (l : Launch) (d : Nat → Nat) (D : va_G) (a : Nat → Nat) (n : Nat → Nat → Nat) (g : Nat → Nat) (k x : Nat) (hk : k < 4294967296) (hx : x < 4294967296) (hc : n 15 0 ≤ 16) (hB : NB n) (hq : k < n 15 0 → n 16 k = 0 → 1 ≤ n 17 k ∧ n 17 k ≤ 512 ∧ n 29 (n 17 k - 1) < 2147483648) : jPure l d D a n g jy_K_told jb_K_told 3 (some .int) { frames := 2, cells := 0, slots := 0, locals := 45 } [.ref (a 0), .int (nI k), .int (nI x)] (some (.int (nI (if k < n 15 0 then tlF n k x else 4294967295)))) := by
  refine jq_I (by decide) (Nat.le_of_ble_eq_true rfl) ?_
  intro p e s m A below meth c ls Q X hP hl hQ
  have hl : lv_has ls 3 [(0, .ref (a 0)), (1, .int (nI k)), (2, .int (nI x))] := hl
  refine lv_aload_n X.1 X.2.1 jd_K_told_0 rfl (lv_at hl 0 rfl) ?_
  refine jg_K_31_0 X hP jd_K_told_1 ?_
  refine jg_K_133_14 X hP jd_K_told_4 ?_
  refine lv_iload_n X.1 X.2.1 jd_K_told_7 rfl (lv_at hl 1 rfl) ?_
  refine j_run (j_mkN (host := "KeyDistiller") X hP (c_E_has l d D a n g k hk hc) jU_b (j_pp X hP) jm_193 jm_192 js_0 jm_5 (by decide +kernel) (by decide) rfl rfl (show jOk jy_E_has 1 by unfold jOk; decide +kernel) (by decide) ⟨rfl, rfl⟩ hl.1 rfl (Nat.le_of_ble_eq_true rfl) ⟨Nat.zero_le _, Nat.zero_le _⟩ jd_K_told_8) ?_
  refine W.eq (g2 := F0 m 11 ls [.int (nI (if k < n 15 0 then 1 else 0))]) rfl ?_
  refine kn_eq0 X.1 X.2.1 jd_K_told_11 (tgt := 26) (by decide) (by split <;> omega) (fun h11 => ?_) (fun h11 => ?_)
  · skip
    refine lv_iconst (v := nI 4294967295) X.1 X.2.1 jd_K_told_26 (by decide) ?_
    exact kn_to (by first | (rw [if_pos hlt9]) | (rw [if_neg (fun q => by rw [if_pos q] at h11; omega)])) (hQ _ _ jd_K_told_27)
  · skip
    have hlt9 : k < n 15 0 := by by_cases q : k < n 15 0; exact q; rw [if_neg q] at h11; omega
    refine lv_aload_n X.1 X.2.1 jd_K_told_14 rfl (lv_at hl 0 rfl) ?_
    refine jg_K_31_0 X hP jd_K_told_15 ?_
    refine lv_iload_n X.1 X.2.1 jd_K_told_18 rfl (lv_at hl 1 rfl) ?_
    refine lv_iload_n X.1 X.2.1 jd_K_told_19 rfl (lv_at hl 2 rfl) ?_
    refine j_run (j_mkN (host := "KeyDistiller") X hP (c_D_tellF l d D a n g k (by omega) hB (hq hlt9) x hx) jU_b (j_pp X hP) jm_197 jm_196 js_1 jm_4 (by decide +kernel) (by decide) rfl rfl (show jOk jy_D_tell 2 by unfold jOk; decide +kernel) (by decide) ⟨rfl, rfl⟩ hl.1 rfl (Nat.le_of_ble_eq_true rfl) ⟨Nat.zero_le _, Nat.zero_le _⟩ jd_K_told_20) ?_
    refine W.eq (g2 := F0 m 23 ls [.int (nI (tlF n k x))]) rfl ?_
    refine lv_goto X.1 X.2.1 jd_K_told_23 (tgt := 27) (by decide) ?_
    exact kn_to (by first | (rw [if_pos hlt9]) | (rw [if_neg (fun q => by rw [if_pos q] at h11; omega)])) (hQ _ _ jd_K_told_27)

set_option maxHeartbeats 4000000 in
theorem c_K_tick (l : Launch) (d : Nat → Nat) (D : va_G) (a : Nat → Nat) (n : Nat → Nat → Nat) (g : Nat → Nat) (hap : ∀ i j : Nat, i < 52 → j < 52 → a i = a j → i = j) (hB : NB n) (hbg : ¬ n 14 3 = 4294967295) (h1 : 1 ≤ n 14 0) (h2 : n 14 0 ≤ 512) (hw : n 29 (n 14 0 - 1) < 2147483648) (hq4 : n 29 (n 14 0 - 1) / 2 ^ 16 < 4) (hm : n 14 1 < 128) (hkn : n (25 + n 29 (n 14 0 - 1) / 2 ^ 16) (n 14 1) < 4294967296) (hc : n 15 0 ≤ 16) : jEff l d D a n g jy_K_tick jb_K_tick 1 (some .int) { frames := 3, cells := 0, slots := 0, locals := 61 } [.ref (a 0)] (fun v9 n2 g2 => some (.int (nI ((if unF n = 0 then n else sdF n 0 (n 14 0) 0) 15 0))) = v9 ∧ (if unF n = 0 then n else sdF n 0 (n 14 0) 0) = n2 ∧ g = g2) := by
  refine je_I (by decide) (Nat.le_of_ble_eq_true rfl) ?_
  intro p e s m A below meth c ls Q X hP hS hl hQ
  have hl : lv_has ls 1 [(0, .ref (a 0))] := hl
  refine lv_aload_n X.1 X.2.1 jd_K_tick_0 rfl (lv_at hl 0 rfl) ?_
  refine jg_K_31_0 X hP jd_K_tick_1 ?_
  refine j_run (j_mkN (host := "KeyDistiller") X hP (c_D_isBegun l d D a n g (hB _ _)) jU_b (j_pp X hP) jm_365 jm_364 js_12 jm_4 (by decide +kernel) (by decide) rfl rfl (show jOk jy_D_isBegun 0 by unfold jOk; decide +kernel) (by decide) ⟨rfl, rfl⟩ hl.1 rfl (Nat.le_of_ble_eq_true rfl) ⟨Nat.zero_le _, Nat.zero_le _⟩ jd_K_tick_4) ?_
  refine W.eq (g2 := F0 m 7 ls [.int (nI (if n 14 3 = 4294967295 then 0 else 1))]) rfl ?_
  refine kn_to (y := 1) (if_neg hbg) ?_
  refine kn_ne0 X.1 X.2.1 jd_K_tick_7 (tgt := 20) (by decide) (by omega) (fun h7 => ?_) (fun h7 => absurd h7 (by decide))
  refine lv_aload_n X.1 X.2.1 jd_K_tick_20 rfl (lv_at hl 0 rfl) ?_
  refine jg_K_31_0 X hP jd_K_tick_21 ?_
  refine j_rune (j_mkN (host := "KeyDistiller") X hP (c_D_askAgain l d D a n g hap h1 h2 hw hq4 hm hkn hc _) jU_bs (j_pe X hP) jm_519 jm_518 js_35 jm_4 (by decide +kernel) (by decide) rfl rfl (show jOk jy_D_askAgain 0 by unfold jOk; decide +kernel) (by decide) ⟨rfl, rfl⟩ hl.1 rfl (Nat.le_of_ble_eq_true rfl) ⟨Nat.zero_le _, Nat.zero_le _⟩ jd_K_tick_24) hS (fun v24 n24 g24 H locs h24 hP hS => ?_)
  obtain ⟨rfl, rfl, rfl⟩ := h24
  refine W.eq (g2 := F0 m 27 ls []) rfl ?_
  refine lv_aload_n X.1 X.2.1 jd_K_tick_27 rfl (lv_at hl 0 rfl) ?_
  refine jg_K_31_0 X hP jd_K_tick_28 ?_
  refine jg_K_133_14 X hP jd_K_tick_31 ?_
  refine jg_K_137_15 X hP jd_K_tick_34 ?_
  exact hQ _ _ _ _ _ _ _ (⟨rfl, rfl, rfl⟩) hP hS jd_K_tick_37

set_option maxHeartbeats 4000000 in
theorem t_K_tick_IS (l : Launch) (d : Nat → Nat) (D : va_G) (a : Nat → Nat) (n : Nat → Nat → Nat) (g : Nat → Nat) (hlt : l.stackTraces = false) (hB : NB n) (hbg : n 14 3 = 4294967295) : jThr l d D a n g jy_K_tick jb_K_tick 1 (some .int) { frames := 6, cells := 1, slots := 6, locals := 82 } [.ref (a 0)] "java/lang/IllegalStateException" := by
  refine jt_T hlt 72 76 rfl (by decide) (Nat.le_of_ble_eq_true rfl) jx_fIS jm_323 jm_11 jx_gIS jx_bIS jx_oIS (by decide) ?_
  intro p e s m A below meth c ls Q X hP hl hQ
  have hl : lv_has ls 1 [(0, .ref (a 0))] := hl
  refine lv_aload_n X.1 X.2.1 jd_K_tick_0 rfl (lv_at hl 0 rfl) ?_
  refine jg_K_31_0 X hP jd_K_tick_1 ?_
  refine j_run (j_mkN (host := "KeyDistiller") X hP (c_D_isBegun l d D a n g (hB _ _)) jU_b (j_pp X hP) jm_365 jm_364 js_12 jm_4 (by decide +kernel) (by decide) rfl rfl (show jOk jy_D_isBegun 0 by unfold jOk; decide +kernel) (by decide) ⟨rfl, rfl⟩ hl.1 rfl (Nat.le_of_ble_eq_true rfl) ⟨Nat.zero_le _, Nat.zero_le _⟩ jd_K_tick_4) ?_
  refine W.eq (g2 := F0 m 7 ls [.int (nI (if n 14 3 = 4294967295 then 0 else 1))]) rfl ?_
  refine kn_to (y := 0) (if_pos hbg) ?_
  refine kn_ne0 X.1 X.2.1 jd_K_tick_7 (tgt := 20) (by decide) (by omega) (fun h7 => absurd h7 (by decide)) (fun h7 => ?_)
  exact hQ 10 178 "not begun" _ (by decide) hl.1 jd_K_tick_10 jd_K_tick_13 jd_K_tick_14 jd_K_tick_16 jd_K_tick_19

set_option maxHeartbeats 4000000 in
theorem t_K_letter_IA (l : Launch) (d : Nat → Nat) (D : va_G) (a : Nat → Nat) (n : Nat → Nat → Nat) (g : Nat → Nat) (hlt : l.stackTraces = false) (k x : Nat) (hx : x < 4294967296) (hbad : ¬ x ≤ 2) : jThr l d D a n g jy_K_letter jb_K_letter 4 (some .int) { frames := 6, cells := 1, slots := 6, locals := 82 } [.ref (a 0), .int (nI k), .int (nI x)] "java/lang/IllegalArgumentException" := by
  refine jt_T hlt 53 57 rfl (by decide) (Nat.le_of_ble_eq_true rfl) jx_fIA jm_242 jm_10 jx_gIA jx_bIA jx_oIA (by decide) ?_
  intro p e s m A below meth c ls Q X hP hl hQ
  have hl : lv_has ls 4 [(0, .ref (a 0)), (1, .int (nI k)), (2, .int (nI x))] := hl
  refine lv_iload_n X.1 X.2.1 jd_K_letter_0 rfl (lv_at hl 2 rfl) ?_
  refine kn_lt0 X.1 X.2.1 jd_K_letter_1 (tgt := 9) (by decide) (by omega) (fun h1 => ?_) (fun h1 => ?_)
  · skip
    exact hQ 9 142 "no such action" _ (by decide) hl.1 jd_K_letter_9 jd_K_letter_12 jd_K_letter_13 jd_K_letter_15 jd_K_letter_18
  · skip
    refine lv_iload_n X.1 X.2.1 jd_K_letter_4 rfl (lv_at hl 2 rfl) ?_
    refine lv_iconst (v := nI 2) X.1 X.2.1 jd_K_letter_5 (by decide) ?_
    refine kn_xle X.1 X.2.1 jd_K_letter_6 (tgt := 19) (by decide) (by omega) (fun h6 => absurd h6 (by omega)) (fun h6 => ?_)
    exact hQ 9 142 "no such action" _ (by decide) hl.1 jd_K_letter_9 jd_K_letter_12 jd_K_letter_13 jd_K_letter_15 jd_K_letter_18

set_option maxHeartbeats 4000000 in
theorem t_K_letter_IO (l : Launch) (d : Nat → Nat) (D : va_G) (a : Nat → Nat) (n : Nat → Nat → Nat) (g : Nat → Nat) (hlt : l.stackTraces = false) (k x : Nat) (hx : x ≤ 2) (hk : k < 4294967296) (hc : n 15 0 ≤ 16) (hbad : ¬ k < n 15 0) : jThr l d D a n g jy_K_letter jb_K_letter 4 (some .int) { frames := 6, cells := 1, slots := 6, locals := 82 } [.ref (a 0), .int (nI k), .int (nI x)] "java/lang/IndexOutOfBoundsException" := by
  refine jt_T hlt 147 151 rfl (by decide) (Nat.le_of_ble_eq_true rfl) jx_fIO jm_470 jm_14 jx_gIO jx_bIO jx_oIO (by decide) ?_
  intro p e s m A below meth c ls Q X hP hl hQ
  have hl : lv_has ls 4 [(0, .ref (a 0)), (1, .int (nI k)), (2, .int (nI x))] := hl
  refine lv_iload_n X.1 X.2.1 jd_K_letter_0 rfl (lv_at hl 2 rfl) ?_
  refine kn_lt0 X.1 X.2.1 jd_K_letter_1 (tgt := 9) (by decide) (by omega) (fun h1 => absurd h1 (by omega)) (fun h1 => ?_)
  refine lv_iload_n X.1 X.2.1 jd_K_letter_4 rfl (lv_at hl 2 rfl) ?_
  refine lv_iconst (v := nI 2) X.1 X.2.1 jd_K_letter_5 (by decide) ?_
  refine kn_cle X.1 X.2.1 jd_K_letter_6 (tgt := 19) (by decide) (by omega) (fun h6 => ?_) (fun h6 => absurd h6 (by omega))
  refine lv_aload_n X.1 X.2.1 jd_K_letter_19 rfl (lv_at hl 0 rfl) ?_
  refine jg_K_31_0 X hP jd_K_letter_20 ?_
  refine jg_K_133_14 X hP jd_K_letter_23 ?_
  refine lv_astore_n X.1 X.2.1 jd_K_letter_26 rfl hl (by decide) rfl (fun ls hl => ?_)
  have hl : lv_has ls 4 [(3, .ref (a 15)), (0, .ref (a 0)), (1, .int (nI k)), (2, .int (nI x))] := hl
  refine lv_aload_n X.1 X.2.1 jd_K_letter_27 rfl (lv_at hl 0 rfl) ?_
  refine lv_iload_n X.1 X.2.1 jd_K_letter_28 rfl (lv_at hl 2 rfl) ?_
  refine j_run (j_mkN (host := "KeyDistiller") X hP (c_E_has l d D a n g k hk hc) jU_b (j_pp X hP) jm_193 jm_192 js_0 jm_5 (by decide +kernel) (by decide) rfl rfl (show jOk jy_E_has 1 by unfold jOk; decide +kernel) (by decide) ⟨rfl, rfl⟩ hl.1 rfl (Nat.le_of_ble_eq_true rfl) ⟨Nat.zero_le _, Nat.zero_le _⟩ jd_K_letter_29) ?_
  refine W.eq (g2 := F0 m 32 ls [.int (nI (if k < n 15 0 then 1 else 0))]) rfl ?_
  refine kn_to (y := 0) (if_neg hbad) ?_
  refine kn_ne0 X.1 X.2.1 jd_K_letter_32 (tgt := 45) (by decide) (by omega) (fun h32 => absurd h32 (by decide)) (fun h32 => ?_)
  exact hQ 35 149 "no such letter" _ (by decide) hl.1 jd_K_letter_35 jd_K_letter_38 jd_K_letter_39 jd_K_letter_41 jd_K_letter_44

set_option maxHeartbeats 4000000 in
theorem t_K_letter_IS (l : Launch) (d : Nat → Nat) (D : va_G) (a : Nat → Nat) (n : Nat → Nat → Nat) (g : Nat → Nat) (hlt : l.stackTraces = false) (k : Nat) (hk : k < 4294967296) (hc : n 15 0 ≤ 16) (hkc : k < n 15 0) (hf : n 15 0 = 16) : jThr l d D a n g jy_K_letter jb_K_letter 4 (some .int) { frames := 6, cells := 1, slots := 6, locals := 82 } [.ref (a 0), .int (nI k), .int (nI 2)] "java/lang/IllegalStateException" := by
  refine jt_T hlt 72 76 rfl (by decide) (Nat.le_of_ble_eq_true rfl) jx_fIS jm_323 jm_11 jx_gIS jx_bIS jx_oIS (by decide) ?_
  intro p e s m A below meth c ls Q X hP hl hQ
  have hl : lv_has ls 4 [(0, .ref (a 0)), (1, .int (nI k)), (2, .int (nI 2))] := hl
  refine lv_iload_n X.1 X.2.1 jd_K_letter_0 rfl (lv_at hl 2 rfl) ?_
  refine kn_lt0 X.1 X.2.1 jd_K_letter_1 (tgt := 9) (by decide) (by omega) (fun h1 => absurd h1 (by omega)) (fun h1 => ?_)
  refine lv_iload_n X.1 X.2.1 jd_K_letter_4 rfl (lv_at hl 2 rfl) ?_
  refine lv_iconst (v := nI 2) X.1 X.2.1 jd_K_letter_5 (by decide) ?_
  refine kn_cle X.1 X.2.1 jd_K_letter_6 (tgt := 19) (by decide) (by omega) (fun h6 => ?_) (fun h6 => absurd h6 (by omega))
  refine lv_aload_n X.1 X.2.1 jd_K_letter_19 rfl (lv_at hl 0 rfl) ?_
  refine jg_K_31_0 X hP jd_K_letter_20 ?_
  refine jg_K_133_14 X hP jd_K_letter_23 ?_
  refine lv_astore_n X.1 X.2.1 jd_K_letter_26 rfl hl (by decide) rfl (fun ls hl => ?_)
  have hl : lv_has ls 4 [(3, .ref (a 15)), (0, .ref (a 0)), (1, .int (nI k)), (2, .int (nI 2))] := hl
  refine lv_aload_n X.1 X.2.1 jd_K_letter_27 rfl (lv_at hl 0 rfl) ?_
  refine lv_iload_n X.1 X.2.1 jd_K_letter_28 rfl (lv_at hl 2 rfl) ?_
  refine j_run (j_mkN (host := "KeyDistiller") X hP (c_E_has l d D a n g k hk hc) jU_b (j_pp X hP) jm_193 jm_192 js_0 jm_5 (by decide +kernel) (by decide) rfl rfl (show jOk jy_E_has 1 by unfold jOk; decide +kernel) (by decide) ⟨rfl, rfl⟩ hl.1 rfl (Nat.le_of_ble_eq_true rfl) ⟨Nat.zero_le _, Nat.zero_le _⟩ jd_K_letter_29) ?_
  refine W.eq (g2 := F0 m 32 ls [.int (nI (if k < n 15 0 then 1 else 0))]) rfl ?_
  refine kn_to (y := 1) (if_pos hkc) ?_
  refine kn_ne0 X.1 X.2.1 jd_K_letter_32 (tgt := 45) (by decide) (by omega) (fun h32 => ?_) (fun h32 => absurd h32 (by decide))
  refine lv_iload_n X.1 X.2.1 jd_K_letter_45 rfl (lv_at hl 3 rfl) ?_
  refine lv_iconst (v := nI 2) X.1 X.2.1 jd_K_letter_46 (by decide) ?_
  refine kn_cne X.1 X.2.1 jd_K_letter_47 (tgt := 69) (by decide) (by omega) (fun h47 => absurd h47 (by decide)) (fun h47 => ?_)
  refine lv_aload_n X.1 X.2.1 jd_K_letter_50 rfl (lv_at hl 0 rfl) ?_
  refine jg_K_137_15 X hP jd_K_letter_51 ?_
  refine lv_bipush (v := nI 16) X.1 X.2.1 jd_K_letter_54 (by decide) ?_
  refine kn_cne X.1 X.2.1 jd_K_letter_56 (tgt := 69) (by decide) (by omega) (fun h56 => absurd h56 (by omega)) (fun h56 => ?_)
  exact hQ 59 152 "too many letters" _ (by decide) hl.1 jd_K_letter_59 jd_K_letter_62 jd_K_letter_63 jd_K_letter_65 jd_K_letter_68

set_option maxHeartbeats 4000000 in
theorem c_K_letter_1 (l : Launch) (d : Nat → Nat) (D : va_G) (a : Nat → Nat) (n : Nat → Nat → Nat) (g : Nat → Nat) (hap : ∀ i j : Nat, i < 52 → j < 52 → a i = a j → i = j) (k : Nat) (hk : k < 4294967296) (hc : n 15 0 ≤ 16) (hkc : k < n 15 0) : jEff l d D a n g jy_K_letter jb_K_letter 4 (some .int) { frames := 1, cells := 0, slots := 0, locals := 22 } [.ref (a 0), .int (nI k), .int (nI 1)] (fun v9 n2 g2 => some (.int (nI (tkF n k 15 0))) = v9 ∧ tkF n k = n2 ∧ g = g2) := by
  refine je_I (by decide) (Nat.le_of_ble_eq_true rfl) ?_
  intro p e s m A below meth c ls Q X hP hS hl hQ
  have hl : lv_has ls 4 [(0, .ref (a 0)), (1, .int (nI k)), (2, .int (nI 1))] := hl
  refine lv_iload_n X.1 X.2.1 jd_K_letter_0 rfl (lv_at hl 2 rfl) ?_
  refine kn_lt0 X.1 X.2.1 jd_K_letter_1 (tgt := 9) (by decide) (by omega) (fun h1 => absurd h1 (by omega)) (fun h1 => ?_)
  refine lv_iload_n X.1 X.2.1 jd_K_letter_4 rfl (lv_at hl 2 rfl) ?_
  refine lv_iconst (v := nI 2) X.1 X.2.1 jd_K_letter_5 (by decide) ?_
  refine kn_cle X.1 X.2.1 jd_K_letter_6 (tgt := 19) (by decide) (by omega) (fun h6 => ?_) (fun h6 => absurd h6 (by omega))
  refine lv_aload_n X.1 X.2.1 jd_K_letter_19 rfl (lv_at hl 0 rfl) ?_
  refine jg_K_31_0 X hP jd_K_letter_20 ?_
  refine jg_K_133_14 X hP jd_K_letter_23 ?_
  refine lv_astore_n X.1 X.2.1 jd_K_letter_26 rfl hl (by decide) rfl (fun ls hl => ?_)
  have hl : lv_has ls 4 [(3, .ref (a 15)), (0, .ref (a 0)), (1, .int (nI k)), (2, .int (nI 1))] := hl
  refine lv_aload_n X.1 X.2.1 jd_K_letter_27 rfl (lv_at hl 0 rfl) ?_
  refine lv_iload_n X.1 X.2.1 jd_K_letter_28 rfl (lv_at hl 2 rfl) ?_
  refine j_run (j_mkN (host := "KeyDistiller") X hP (c_E_has l d D a n g k hk hc) jU_b (j_pp X hP) jm_193 jm_192 js_0 jm_5 (by decide +kernel) (by decide) rfl rfl (show jOk jy_E_has 1 by unfold jOk; decide +kernel) (by decide) ⟨rfl, rfl⟩ hl.1 rfl (Nat.le_of_ble_eq_true rfl) ⟨Nat.zero_le _, Nat.zero_le _⟩ jd_K_letter_29) ?_
  refine W.eq (g2 := F0 m 32 ls [.int (nI (if k < n 15 0 then 1 else 0))]) rfl ?_
  refine kn_to (y := 1) (if_pos hkc) ?_
  refine kn_ne0 X.1 X.2.1 jd_K_letter_32 (tgt := 45) (by decide) (by omega) (fun h32 => ?_) (fun h32 => absurd h32 (by decide))
  refine lv_iload_n X.1 X.2.1 jd_K_letter_45 rfl (lv_at hl 3 rfl) ?_
  refine lv_iconst (v := nI 2) X.1 X.2.1 jd_K_letter_46 (by decide) ?_
  refine kn_cne X.1 X.2.1 jd_K_letter_47 (tgt := 69) (by decide) (by omega) (fun h47 => ?_) (fun h47 => absurd h47 (by decide))
  refine lv_iload_n X.1 X.2.1 jd_K_letter_69 rfl (lv_at hl 3 rfl) ?_
  refine kn_ne0 X.1 X.2.1 jd_K_letter_70 (tgt := 84) (by decide) (by omega) (fun h70 => ?_) (fun h70 => absurd h70 (by decide))
  refine lv_iload_n X.1 X.2.1 jd_K_letter_84 rfl (lv_at hl 3 rfl) ?_
  refine lv_iconst (v := nI 1) X.1 X.2.1 jd_K_letter_85 (by decide) ?_
  refine kn_cne X.1 X.2.1 jd_K_letter_86 (tgt := 97) (by decide) (by omega) (fun h86 => absurd h86 (by decide)) (fun h86 => ?_)
  refine lv_aload_n X.1 X.2.1 jd_K_letter_89 rfl (lv_at hl 0 rfl) ?_
  refine lv_iload_n X.1 X.2.1 jd_K_letter_90 rfl (lv_at hl 2 rfl) ?_
  refine j_rune (j_mkN (host := "KeyDistiller") X hP (c_E_takeOut l d D a n g hap k hkc hc _) jU_bs (j_pe X hP) jm_494 jm_493 js_32 jm_5 (by decide +kernel) (by decide) rfl rfl (show jOk jy_E_takeOut 1 by unfold jOk; decide +kernel) (by decide) ⟨rfl, rfl⟩ hl.1 rfl (Nat.le_of_ble_eq_true rfl) ⟨Nat.zero_le _, Nat.zero_le _⟩ jd_K_letter_91) hS (fun v91 n91 g91 H locs h91 hP hS => ?_)
  obtain ⟨rfl, rfl, rfl⟩ := h91
  have hP : va_P D jCl (jW d a (tkF n k) g) H := hP
  refine W.eq (g2 := F0 m 94 ls []) rfl ?_
  refine lv_goto X.1 X.2.1 jd_K_letter_94 (tgt := 119) (by decide) ?_
  refine lv_aload_n X.1 X.2.1 jd_K_letter_119 rfl (lv_at hl 0 rfl) ?_
  refine jg_K_137_15 X hP jd_K_letter_120 ?_
  exact hQ _ _ _ _ _ _ _ (⟨rfl, rfl, rfl⟩) hP hS jd_K_letter_123

set_option maxHeartbeats 4000000 in
theorem c_K_letter_2 (l : Launch) (d : Nat → Nat) (D : va_G) (a : Nat → Nat) (n : Nat → Nat → Nat) (g : Nat → Nat) (hap : ∀ i j : Nat, i < 52 → j < 52 → a i = a j → i = j) (k : Nat) (hk : k < 4294967296) (hc : n 15 0 < 16) (hkc : k < n 15 0) : jEff l d D a n g jy_K_letter jb_K_letter 4 (some .int) { frames := 1, cells := 0, slots := 0, locals := 23 } [.ref (a 0), .int (nI k), .int (nI 2)] (fun v9 n2 g2 => some (.int (nI (n 15 0 + 1))) = v9 ∧ sdG n (n 16 k) (n 17 k) (n 18 k) = n2 ∧ g = g2) := by
  refine je_I (by decide) (Nat.le_of_ble_eq_true rfl) ?_
  intro p e s m A below meth c ls Q X hP hS hl hQ
  have hl : lv_has ls 4 [(0, .ref (a 0)), (1, .int (nI k)), (2, .int (nI 2))] := hl
  refine lv_iload_n X.1 X.2.1 jd_K_letter_0 rfl (lv_at hl 2 rfl) ?_
  refine kn_lt0 X.1 X.2.1 jd_K_letter_1 (tgt := 9) (by decide) (by omega) (fun h1 => absurd h1 (by omega)) (fun h1 => ?_)
  refine lv_iload_n X.1 X.2.1 jd_K_letter_4 rfl (lv_at hl 2 rfl) ?_
  refine lv_iconst (v := nI 2) X.1 X.2.1 jd_K_letter_5 (by decide) ?_
  refine kn_cle X.1 X.2.1 jd_K_letter_6 (tgt := 19) (by decide) (by omega) (fun h6 => ?_) (fun h6 => absurd h6 (by omega))
  refine lv_aload_n X.1 X.2.1 jd_K_letter_19 rfl (lv_at hl 0 rfl) ?_
  refine jg_K_31_0 X hP jd_K_letter_20 ?_
  refine jg_K_133_14 X hP jd_K_letter_23 ?_
  refine lv_astore_n X.1 X.2.1 jd_K_letter_26 rfl hl (by decide) rfl (fun ls hl => ?_)
  have hl : lv_has ls 4 [(3, .ref (a 15)), (0, .ref (a 0)), (1, .int (nI k)), (2, .int (nI 2))] := hl
  refine lv_aload_n X.1 X.2.1 jd_K_letter_27 rfl (lv_at hl 0 rfl) ?_
  refine lv_iload_n X.1 X.2.1 jd_K_letter_28 rfl (lv_at hl 2 rfl) ?_
  refine j_run (j_mkN (host := "KeyDistiller") X hP (c_E_has l d D a n g k hk (by omega)) jU_b (j_pp X hP) jm_193 jm_192 js_0 jm_5 (by decide +kernel) (by decide) rfl rfl (show jOk jy_E_has 1 by unfold jOk; decide +kernel) (by decide) ⟨rfl, rfl⟩ hl.1 rfl (Nat.le_of_ble_eq_true rfl) ⟨Nat.zero_le _, Nat.zero_le _⟩ jd_K_letter_29) ?_
  refine W.eq (g2 := F0 m 32 ls [.int (nI (if k < n 15 0 then 1 else 0))]) rfl ?_
  refine kn_to (y := 1) (if_pos hkc) ?_
  refine kn_ne0 X.1 X.2.1 jd_K_letter_32 (tgt := 45) (by decide) (by omega) (fun h32 => ?_) (fun h32 => absurd h32 (by decide))
  refine lv_iload_n X.1 X.2.1 jd_K_letter_45 rfl (lv_at hl 3 rfl) ?_
  refine lv_iconst (v := nI 2) X.1 X.2.1 jd_K_letter_46 (by decide) ?_
  refine kn_cne X.1 X.2.1 jd_K_letter_47 (tgt := 69) (by decide) (by omega) (fun h47 => absurd h47 (by decide)) (fun h47 => ?_)
  refine lv_aload_n X.1 X.2.1 jd_K_letter_50 rfl (lv_at hl 0 rfl) ?_
  refine jg_K_137_15 X hP jd_K_letter_51 ?_
  refine lv_bipush (v := nI 16) X.1 X.2.1 jd_K_letter_54 (by decide) ?_
  refine kn_cne X.1 X.2.1 jd_K_letter_56 (tgt := 69) (by decide) (by omega) (fun h56 => ?_) (fun h56 => absurd h56 (by omega))
  refine lv_iload_n X.1 X.2.1 jd_K_letter_69 rfl (lv_at hl 3 rfl) ?_
  refine kn_ne0 X.1 X.2.1 jd_K_letter_70 (tgt := 84) (by decide) (by omega) (fun h70 => ?_) (fun h70 => absurd h70 (by decide))
  refine lv_iload_n X.1 X.2.1 jd_K_letter_84 rfl (lv_at hl 3 rfl) ?_
  refine lv_iconst (v := nI 1) X.1 X.2.1 jd_K_letter_85 (by decide) ?_
  refine kn_cne X.1 X.2.1 jd_K_letter_86 (tgt := 97) (by decide) (by omega) (fun h86 => ?_) (fun h86 => absurd h86 (by decide))
  refine lv_aload_n X.1 X.2.1 jd_K_letter_97 rfl (lv_at hl 0 rfl) ?_
  refine lv_aload_n X.1 X.2.1 jd_K_letter_98 rfl (lv_at hl 0 rfl) ?_
  refine jg_K_161_15 X hP jd_K_letter_99 ?_
  refine lv_iload_n X.1 X.2.1 jd_K_letter_102 rfl (lv_at hl 2 rfl) ?_
  refine j_ald X hP 16 k (by decide) (show k < 16 from by omega) (by decide) jd_K_letter_103 ?_
  refine lv_aload_n X.1 X.2.1 jd_K_letter_104 rfl (lv_at hl 0 rfl) ?_
  refine jg_K_164_15 X hP jd_K_letter_105 ?_
  refine lv_iload_n X.1 X.2.1 jd_K_letter_108 rfl (lv_at hl 2 rfl) ?_
  refine j_ald X hP 17 k (by decide) (show k < 16 from by omega) (by decide) jd_K_letter_109 ?_
  refine lv_aload_n X.1 X.2.1 jd_K_letter_110 rfl (lv_at hl 0 rfl) ?_
  refine jg_K_167_15 X hP jd_K_letter_111 ?_
  refine lv_iload_n X.1 X.2.1 jd_K_letter_114 rfl (lv_at hl 2 rfl) ?_
  refine j_ald X hP 18 k (by decide) (show k < 16 from by omega) (by decide) jd_K_letter_115 ?_
  refine j_rune (j_mkN (host := "KeyDistiller") X hP (c_E_send l d D a n g hap (n 16 k) (n 17 k) (n 18 k) hc _) jU_bs (j_pe X hP) jm_440 jm_439 js_25 jm_5 (by decide +kernel) (by decide) rfl rfl (show jOk jy_E_send 3 by unfold jOk; decide +kernel) (by decide) ⟨rfl, rfl⟩ hl.1 rfl (Nat.le_of_ble_eq_true rfl) ⟨Nat.zero_le _, Nat.zero_le _⟩ jd_K_letter_116) hS (fun v116 n116 g116 H locs h116 hP hS => ?_)
  obtain ⟨rfl, rfl, rfl⟩ := h116
  have hP : va_P D jCl (jW d a (sdG n (n 16 k) (n 17 k) (n 18 k)) g) H := hP
  refine W.eq (g2 := F0 m 119 ls []) rfl ?_
  refine lv_aload_n X.1 X.2.1 jd_K_letter_119 rfl (lv_at hl 0 rfl) ?_
  refine jg_K_137_15 X hP jd_K_letter_120 ?_
  refine kn_to (y := n 15 0 + 1) (rfl) ?_
  exact hQ _ _ _ _ _ _ _ (⟨rfl, rfl, rfl⟩) hP hS jd_K_letter_123

set_option maxHeartbeats 4000000 in
theorem c_K_letter_0 (l : Launch) (d : Nat → Nat) (D : va_G) (a : Nat → Nat) (n : Nat → Nat → Nat) (g : Nat → Nat) (hap : ∀ i j : Nat, i < 52 → j < 52 → a i = a j → i = j) (k : Nat) (hk : k < 4294967296) (hc : n 15 0 ≤ 16) (hkc : k < n 15 0) (hb : n 16 k < 4294967296 ∧ n 17 k < 4294967296 ∧ n 14 0 < 4294967296) (hA : n 16 k = 0 → QI (tkF n k) (n 17 k)) (hd2 : n 14 2 < 2147483648) (ho : ∀ p i, p < 4 → i < n 14 5 → n (20 + p) i < 128) (hn1 : 1 ≤ n 14 0) (hn2 : n 14 0 ≤ 512) (hw : n 29 (n 14 0 - 1) < 2147483648) (hq4 : n 29 (n 14 0 - 1) / 2 ^ 16 < 4) (hm : n 14 1 < 128) (hkn : n (25 + n 29 (n 14 0 - 1) / 2 ^ 16) (n 14 1) < 4294967296) (hL : ¬ n 16 k = 0 → n 17 k = n 14 0 → ¬ unF (tkF n k) = 0 → DI (lnF (tkF n k) (n 18 k))) : jEff l d D a n g jy_K_letter jb_K_letter 4 (some .int) { frames := 6, cells := 0, slots := 0, locals := 143 } [.ref (a 0), .int (nI k), .int (nI 0)] (fun v9 n2 g2 => some (.int (nI (dvF n k 15 0))) = v9 ∧ dvF n k = n2 ∧ g = g2) := by
  refine je_I (by decide) (Nat.le_of_ble_eq_true rfl) ?_
  intro p e s m A below meth c ls Q X hP hS hl hQ
  have hl : lv_has ls 4 [(0, .ref (a 0)), (1, .int (nI k)), (2, .int (nI 0))] := hl
  refine lv_iload_n X.1 X.2.1 jd_K_letter_0 rfl (lv_at hl 2 rfl) ?_
  refine kn_lt0 X.1 X.2.1 jd_K_letter_1 (tgt := 9) (by decide) (by omega) (fun h1 => absurd h1 (by omega)) (fun h1 => ?_)
  refine lv_iload_n X.1 X.2.1 jd_K_letter_4 rfl (lv_at hl 2 rfl) ?_
  refine lv_iconst (v := nI 2) X.1 X.2.1 jd_K_letter_5 (by decide) ?_
  refine kn_cle X.1 X.2.1 jd_K_letter_6 (tgt := 19) (by decide) (by omega) (fun h6 => ?_) (fun h6 => absurd h6 (by omega))
  refine lv_aload_n X.1 X.2.1 jd_K_letter_19 rfl (lv_at hl 0 rfl) ?_
  refine jg_K_31_0 X hP jd_K_letter_20 ?_
  refine jg_K_133_14 X hP jd_K_letter_23 ?_
  refine lv_astore_n X.1 X.2.1 jd_K_letter_26 rfl hl (by decide) rfl (fun ls hl => ?_)
  have hl : lv_has ls 4 [(3, .ref (a 15)), (0, .ref (a 0)), (1, .int (nI k)), (2, .int (nI 0))] := hl
  refine lv_aload_n X.1 X.2.1 jd_K_letter_27 rfl (lv_at hl 0 rfl) ?_
  refine lv_iload_n X.1 X.2.1 jd_K_letter_28 rfl (lv_at hl 2 rfl) ?_
  refine j_run (j_mkN (host := "KeyDistiller") X hP (c_E_has l d D a n g k hk hc) jU_b (j_pp X hP) jm_193 jm_192 js_0 jm_5 (by decide +kernel) (by decide) rfl rfl (show jOk jy_E_has 1 by unfold jOk; decide +kernel) (by decide) ⟨rfl, rfl⟩ hl.1 rfl (Nat.le_of_ble_eq_true rfl) ⟨Nat.zero_le _, Nat.zero_le _⟩ jd_K_letter_29) ?_
  refine W.eq (g2 := F0 m 32 ls [.int (nI (if k < n 15 0 then 1 else 0))]) rfl ?_
  refine kn_to (y := 1) (if_pos hkc) ?_
  refine kn_ne0 X.1 X.2.1 jd_K_letter_32 (tgt := 45) (by decide) (by omega) (fun h32 => ?_) (fun h32 => absurd h32 (by decide))
  refine lv_iload_n X.1 X.2.1 jd_K_letter_45 rfl (lv_at hl 3 rfl) ?_
  refine lv_iconst (v := nI 2) X.1 X.2.1 jd_K_letter_46 (by decide) ?_
  refine kn_cne X.1 X.2.1 jd_K_letter_47 (tgt := 69) (by decide) (by omega) (fun h47 => ?_) (fun h47 => absurd h47 (by decide))
  refine lv_iload_n X.1 X.2.1 jd_K_letter_69 rfl (lv_at hl 3 rfl) ?_
  refine kn_ne0 X.1 X.2.1 jd_K_letter_70 (tgt := 84) (by decide) (by omega) (fun h70 => absurd h70 (by decide)) (fun h70 => ?_)
  refine lv_aload_n X.1 X.2.1 jd_K_letter_73 rfl (lv_at hl 1 rfl) ?_
  refine jg_K_31_0 X hP jd_K_letter_74 ?_
  refine lv_iload_n X.1 X.2.1 jd_K_letter_77 rfl (lv_at hl 2 rfl) ?_
  refine j_rune (j_mkN (host := "KeyDistiller") X hP (c_D_deliver l d D a n g hap k hkc hc hb hA hd2 ho hn1 hn2 hw hq4 hm hkn hL _) jU_bs (j_pe X hP) jm_490 jm_489 js_31 jm_4 (by decide +kernel) (by decide) rfl rfl (show jOk jy_D_deliver 1 by unfold jOk; decide +kernel) (by decide) ⟨rfl, rfl⟩ hl.1 rfl (Nat.le_of_ble_eq_true rfl) ⟨Nat.zero_le _, Nat.zero_le _⟩ jd_K_letter_78) hS (fun v78 n78 g78 H locs h78 hP hS => ?_)
  obtain ⟨rfl, rfl, rfl⟩ := h78
  refine W.eq (g2 := F0 m 81 ls []) rfl ?_
  refine lv_goto X.1 X.2.1 jd_K_letter_81 (tgt := 119) (by decide) ?_
  refine lv_aload_n X.1 X.2.1 jd_K_letter_119 rfl (lv_at hl 0 rfl) ?_
  refine jg_K_137_15 X hP jd_K_letter_120 ?_
  exact hQ _ _ _ _ _ _ _ (⟨rfl, rfl, rfl⟩) hP hS jd_K_letter_123

set_option maxHeartbeats 4000000 in
theorem t_K_shorten_IS (l : Launch) (d : Nat → Nat) (D : va_G) (a : Nat → Nat) (n : Nat → Nat → Nat) (g : Nat → Nat) (hlt : l.stackTraces = false) (hB : NB n) (z x m9 : Nat) (hov : ¬ n 14 3 = 4) : jThr l d D a n g jy_K_shorten jb_K_shorten 7 (some .int) { frames := 6, cells := 1, slots := 6, locals := 82 } [.ref (a 0), .long (lN z), .int (nI x), .int (nI m9)] "java/lang/IllegalStateException" := by
  refine jt_T hlt 72 76 rfl (by decide) (Nat.le_of_ble_eq_true rfl) jx_fIS jm_323 jm_11 jx_gIS jx_bIS jx_oIS (by decide) ?_
  intro p e s m A below meth c ls Q X hP hl hQ
  have hl : lv_has ls 7 [(0, .ref (a 0)), (1, .long (lN z)), (3, .int (nI x)), (4, .int (nI m9))] := hl
  refine lv_aload_n X.1 X.2.1 jd_K_shorten_0 rfl (lv_at hl 0 rfl) ?_
  refine jg_K_31_0 X hP jd_K_shorten_1 ?_
  refine j_run (j_mkN (host := "KeyDistiller") X hP (c_D_isOver l d D a n g (hB _ _)) jU_b (j_pp X hP) jm_217 jm_216 js_5 jm_4 (by decide +kernel) (by decide) rfl rfl (show jOk jy_D_isOver 0 by unfold jOk; decide +kernel) (by decide) ⟨rfl, rfl⟩ hl.1 rfl (Nat.le_of_ble_eq_true rfl) ⟨Nat.zero_le _, Nat.zero_le _⟩ jd_K_shorten_4) ?_
  refine W.eq (g2 := F0 m 7 ls [.int (nI (if n 14 3 = 4 then 1 else 0))]) rfl ?_
  refine kn_to (y := 0) (if_neg hov) ?_
  refine kn_ne0 X.1 X.2.1 jd_K_shorten_7 (tgt := 20) (by decide) (by omega) (fun h7 => absurd h7 (by decide)) (fun h7 => ?_)
  exact hQ 10 209 "the dialogue is not done" _ (by decide) hl.1 jd_K_shorten_10 jd_K_shorten_13 jd_K_shorten_14 jd_K_shorten_16 jd_K_shorten_19

set_option maxHeartbeats 4000000 in
theorem t_K_shorten_IA (l : Launch) (d : Nat → Nat) (D : va_G) (a : Nat → Nat) (n : Nat → Nat → Nat) (g : Nat → Nat) (hlt : l.stackTraces = false) (hB : NB n) (z x m9 : Nat) (hx : x < 4294967296) (hm : m9 < 4294967296) (hov : n 14 3 = 4) (hbad : ¬ (1 ≤ x ∧ x ≤ 65535 ∧ m9 ≤ 128)) : jThr l d D a n g jy_K_shorten jb_K_shorten 7 (some .int) { frames := 6, cells := 1, slots := 6, locals := 82 } [.ref (a 0), .long (lN z), .int (nI x), .int (nI m9)] "java/lang/IllegalArgumentException" := by
  refine jt_T hlt 53 57 rfl (by decide) (Nat.le_of_ble_eq_true rfl) jx_fIA jm_242 jm_10 jx_gIA jx_bIA jx_oIA (by decide) ?_
  intro p e s m A below meth c ls Q X hP hl hQ
  have hl : lv_has ls 7 [(0, .ref (a 0)), (1, .long (lN z)), (3, .int (nI x)), (4, .int (nI m9))] := hl
  refine lv_aload_n X.1 X.2.1 jd_K_shorten_0 rfl (lv_at hl 0 rfl) ?_
  refine jg_K_31_0 X hP jd_K_shorten_1 ?_
  refine j_run (j_mkN (host := "KeyDistiller") X hP (c_D_isOver l d D a n g (hB _ _)) jU_b (j_pp X hP) jm_217 jm_216 js_5 jm_4 (by decide +kernel) (by decide) rfl rfl (show jOk jy_D_isOver 0 by unfold jOk; decide +kernel) (by decide) ⟨rfl, rfl⟩ hl.1 rfl (Nat.le_of_ble_eq_true rfl) ⟨Nat.zero_le _, Nat.zero_le _⟩ jd_K_shorten_4) ?_
  refine W.eq (g2 := F0 m 7 ls [.int (nI (if n 14 3 = 4 then 1 else 0))]) rfl ?_
  refine kn_to (y := 1) (if_pos hov) ?_
  refine kn_ne0 X.1 X.2.1 jd_K_shorten_7 (tgt := 20) (by decide) (by omega) (fun h7 => ?_) (fun h7 => absurd h7 (by decide))
  refine lv_iload_n X.1 X.2.1 jd_K_shorten_20 rfl (lv_at hl 2 rfl) ?_
  refine j_run (j_mkS X (c_K_isTagNumber l d D a n g x (by omega)) jU_b (j_pp X hP) jm_546 jm_545 jm_1 jm_544 (show jOk jy_K_isTagNumber 1 by unfold jOk; decide +kernel) (by decide) ⟨rfl, rfl⟩ hl.1 rfl (Nat.le_of_ble_eq_true rfl) ⟨Nat.zero_le _, Nat.zero_le _⟩ jd_K_shorten_21) ?_
  refine W.eq (g2 := F0 m 24 ls [.int (nI (if 1 ≤ x ∧ x ≤ 65535 then 1 else 0))]) rfl ?_
  refine kn_eq0 X.1 X.2.1 jd_K_shorten_24 (tgt := 40) (by decide) (by split <;> omega) (fun h24 => ?_) (fun h24 => ?_)
  · skip
    exact hQ 40 211 "no such number or margin" _ (by decide) hl.1 jd_K_shorten_40 jd_K_shorten_43 jd_K_shorten_44 jd_K_shorten_46 jd_K_shorten_49
  · skip
    have hx2 : 1 ≤ x ∧ x ≤ 65535 := by by_cases q : 1 ≤ x ∧ x ≤ 65535; exact q; rw [if_neg q] at h24; omega
    refine lv_iload X.1 X.2.1 jd_K_shorten_27 (lv_at hl 3 rfl) ?_
    refine kn_lt0 X.1 X.2.1 jd_K_shorten_29 (tgt := 40) (by decide) (by omega) (fun h29 => ?_) (fun h29 => ?_)
    · skip
      exact hQ 40 211 "no such number or margin" _ (by decide) hl.1 jd_K_shorten_40 jd_K_shorten_43 jd_K_shorten_44 jd_K_shorten_46 jd_K_shorten_49
    · skip
      refine lv_iload X.1 X.2.1 jd_K_shorten_32 (lv_at hl 3 rfl) ?_
      refine lv_sipush (v := nI 128) X.1 X.2.1 jd_K_shorten_34 (by decide) ?_
      refine kn_xle X.1 X.2.1 jd_K_shorten_37 (tgt := 50) (by decide) (by omega) (fun h37 => ?_) (fun h37 => ?_)
      · skip
        exact absurd hbad (by omega)
      · skip
        exact hQ 40 211 "no such number or margin" _ (by decide) hl.1 jd_K_shorten_40 jd_K_shorten_43 jd_K_shorten_44 jd_K_shorten_46 jd_K_shorten_49

set_option maxHeartbeats 4000000 in
theorem t_K_shorten_UOa (l : Launch) (d : Nat → Nat) (D : va_G) (a : Nat → Nat) (n : Nat → Nat → Nat) (g : Nat → Nat) (hlt : l.stackTraces = false) (hB : NB n) (z x m9 : Nat) (hx1 : 1 ≤ x) (hx2 : x ≤ 65535) (hm : m9 ≤ 128) (hov : n 14 3 = 4) (hn : n 0 0 ≤ 128) (hd2 : n 14 2 ≤ 512) (hbad : ¬ n 14 2 + m9 + 17 ≤ n 0 0) : jThr l d D a n g jy_K_shorten jb_K_shorten 7 (some .int) { frames := 6, cells := 1, slots := 6, locals := 82 } [.ref (a 0), .long (lN z), .int (nI x), .int (nI m9)] "java/lang/UnsupportedOperationException" := by
  refine jt_T hlt 213 217 rfl (by decide) (Nat.le_of_ble_eq_true rfl) jx_fUO jm_573 jm_15 jx_gUO jx_bUO jx_oUO (by decide) ?_
  intro p e s m A below meth c ls Q X hP hl hQ
  have hl : lv_has ls 7 [(0, .ref (a 0)), (1, .long (lN z)), (3, .int (nI x)), (4, .int (nI m9))] := hl
  refine lv_aload_n X.1 X.2.1 jd_K_shorten_0 rfl (lv_at hl 0 rfl) ?_
  refine jg_K_31_0 X hP jd_K_shorten_1 ?_
  refine j_run (j_mkN (host := "KeyDistiller") X hP (c_D_isOver l d D a n g (hB _ _)) jU_b (j_pp X hP) jm_217 jm_216 js_5 jm_4 (by decide +kernel) (by decide) rfl rfl (show jOk jy_D_isOver 0 by unfold jOk; decide +kernel) (by decide) ⟨rfl, rfl⟩ hl.1 rfl (Nat.le_of_ble_eq_true rfl) ⟨Nat.zero_le _, Nat.zero_le _⟩ jd_K_shorten_4) ?_
  refine W.eq (g2 := F0 m 7 ls [.int (nI (if n 14 3 = 4 then 1 else 0))]) rfl ?_
  refine kn_to (y := 1) (if_pos hov) ?_
  refine kn_ne0 X.1 X.2.1 jd_K_shorten_7 (tgt := 20) (by decide) (by omega) (fun h7 => ?_) (fun h7 => absurd h7 (by decide))
  refine lv_iload_n X.1 X.2.1 jd_K_shorten_20 rfl (lv_at hl 2 rfl) ?_
  refine j_run (j_mkS X (c_K_isTagNumber l d D a n g x (by omega)) jU_b (j_pp X hP) jm_546 jm_545 jm_1 jm_544 (show jOk jy_K_isTagNumber 1 by unfold jOk; decide +kernel) (by decide) ⟨rfl, rfl⟩ hl.1 rfl (Nat.le_of_ble_eq_true rfl) ⟨Nat.zero_le _, Nat.zero_le _⟩ jd_K_shorten_21) ?_
  refine W.eq (g2 := F0 m 24 ls [.int (nI (if 1 ≤ x ∧ x ≤ 65535 then 1 else 0))]) rfl ?_
  refine kn_to (y := 1) (if_pos ⟨hx1, hx2⟩) ?_
  refine kn_eq0 X.1 X.2.1 jd_K_shorten_24 (tgt := 40) (by decide) (by omega) (fun h24 => absurd h24 (by decide)) (fun h24 => ?_)
  refine lv_iload X.1 X.2.1 jd_K_shorten_27 (lv_at hl 3 rfl) ?_
  refine kn_lt0 X.1 X.2.1 jd_K_shorten_29 (tgt := 40) (by decide) (by omega) (fun h29 => absurd h29 (by omega)) (fun h29 => ?_)
  refine lv_iload X.1 X.2.1 jd_K_shorten_32 (lv_at hl 3 rfl) ?_
  refine lv_sipush (v := nI 128) X.1 X.2.1 jd_K_shorten_34 (by decide) ?_
  refine kn_cle X.1 X.2.1 jd_K_shorten_37 (tgt := 50) (by decide) (by omega) (fun h37 => ?_) (fun h37 => absurd h37 (by omega))
  refine lv_aload_n X.1 X.2.1 jd_K_shorten_50 rfl (lv_at hl 0 rfl) ?_
  refine jg_K_45_0 X hP jd_K_shorten_51 ?_
  refine lv_aload_n X.1 X.2.1 jd_K_shorten_54 rfl (lv_at hl 0 rfl) ?_
  refine jg_K_31_0 X hP jd_K_shorten_55 ?_
  refine jg_K_189_14 X hP jd_K_shorten_58 ?_
  refine lv_isub X.1 X.2.1 jd_K_shorten_61 ?_
  refine kn_is (y := (((n 0 0) + 4294967296 - (n 14 2)) % 4294967296)) (kn_subw (by omega)) ?_
  refine lv_iload X.1 X.2.1 jd_K_shorten_62 (lv_at hl 3 rfl) ?_
  refine lv_isub X.1 X.2.1 jd_K_shorten_64 ?_
  refine kn_is (y := (((((n 0 0) + 4294967296 - (n 14 2)) % 4294967296) + 4294967296 - m9) % 4294967296)) (kn_subw (by omega)) ?_
  refine lv_bipush (v := nI 16) X.1 X.2.1 jd_K_shorten_65 (by decide) ?_
  refine lv_isub X.1 X.2.1 jd_K_shorten_67 ?_
  refine kn_is (y := (((((((n 0 0) + 4294967296 - (n 14 2)) % 4294967296) + 4294967296 - m9) % 4294967296) + 4294967296 - 16) % 4294967296)) (kn_subw (by omega)) ?_
  refine lv_istore X.1 X.2.1 jd_K_shorten_68 hl (by decide) rfl (fun ls hl => ?_)
  have hl : lv_has ls 7 [(5, .int (nI (((((((n 0 0) + 4294967296 - (n 14 2)) % 4294967296) + 4294967296 - m9) % 4294967296) + 4294967296 - 16) % 4294967296))), (0, .ref (a 0)), (1, .long (lN z)), (3, .int (nI x)), (4, .int (nI m9))] := hl
  refine lv_iload X.1 X.2.1 jd_K_shorten_70 (lv_at hl 0 rfl) ?_
  refine lv_iconst (v := nI 1) X.1 X.2.1 jd_K_shorten_72 (by decide) ?_
  refine kn_xlt X.1 X.2.1 jd_K_shorten_73 (tgt := 103) (by decide) (by omega) (fun h73 => ?_) (fun h73 => absurd h73 (by omega))
  exact hQ 103 215 "the tags differ, or no bits are left" _ (by decide) hl.1 jd_K_shorten_103 jd_K_shorten_106 jd_K_shorten_107 jd_K_shorten_109 jd_K_shorten_112

set_option maxHeartbeats 4000000 in
theorem t_K_shorten_UOb (l : Launch) (d : Nat → Nat) (D : va_G) (a : Nat → Nat) (n : Nat → Nat → Nat) (g : Nat → Nat) (hlt : l.stackTraces = false) (hB : NB n) (z x m9 : Nat) (hx1 : 1 ≤ x) (hx2 : x ≤ 65535) (hm : m9 ≤ 128) (hov : n 14 3 = 4) (hn : n 0 0 ≤ 128) (hd2 : n 14 2 ≤ 512) (h6 : ∀ i, n 6 i < 2) (h12 : ∀ i, n 12 i < 2) (hok : n 14 2 + m9 + 17 ≤ n 0 0) (hbad : ¬ tagF (n 6) x (n 0 0) = tagF (n 12) x (n 0 0)) : jThr l d D a n g jy_K_shorten jb_K_shorten 7 (some .int) { frames := 6, cells := 1, slots := 6, locals := 82 } [.ref (a 0), .long (lN z), .int (nI x), .int (nI m9)] "java/lang/UnsupportedOperationException" := by
  refine jt_T hlt 213 217 rfl (by decide) (Nat.le_of_ble_eq_true rfl) jx_fUO jm_573 jm_15 jx_gUO jx_bUO jx_oUO (by decide) ?_
  intro p e s m A below meth c ls Q X hP hl hQ
  have hl : lv_has ls 7 [(0, .ref (a 0)), (1, .long (lN z)), (3, .int (nI x)), (4, .int (nI m9))] := hl
  refine lv_aload_n X.1 X.2.1 jd_K_shorten_0 rfl (lv_at hl 0 rfl) ?_
  refine jg_K_31_0 X hP jd_K_shorten_1 ?_
  refine j_run (j_mkN (host := "KeyDistiller") X hP (c_D_isOver l d D a n g (hB _ _)) jU_b (j_pp X hP) jm_217 jm_216 js_5 jm_4 (by decide +kernel) (by decide) rfl rfl (show jOk jy_D_isOver 0 by unfold jOk; decide +kernel) (by decide) ⟨rfl, rfl⟩ hl.1 rfl (Nat.le_of_ble_eq_true rfl) ⟨Nat.zero_le _, Nat.zero_le _⟩ jd_K_shorten_4) ?_
  refine W.eq (g2 := F0 m 7 ls [.int (nI (if n 14 3 = 4 then 1 else 0))]) rfl ?_
  refine kn_to (y := 1) (if_pos hov) ?_
  refine kn_ne0 X.1 X.2.1 jd_K_shorten_7 (tgt := 20) (by decide) (by omega) (fun h7 => ?_) (fun h7 => absurd h7 (by decide))
  refine lv_iload_n X.1 X.2.1 jd_K_shorten_20 rfl (lv_at hl 2 rfl) ?_
  refine j_run (j_mkS X (c_K_isTagNumber l d D a n g x (by omega)) jU_b (j_pp X hP) jm_546 jm_545 jm_1 jm_544 (show jOk jy_K_isTagNumber 1 by unfold jOk; decide +kernel) (by decide) ⟨rfl, rfl⟩ hl.1 rfl (Nat.le_of_ble_eq_true rfl) ⟨Nat.zero_le _, Nat.zero_le _⟩ jd_K_shorten_21) ?_
  refine W.eq (g2 := F0 m 24 ls [.int (nI (if 1 ≤ x ∧ x ≤ 65535 then 1 else 0))]) rfl ?_
  refine kn_to (y := 1) (if_pos ⟨hx1, hx2⟩) ?_
  refine kn_eq0 X.1 X.2.1 jd_K_shorten_24 (tgt := 40) (by decide) (by omega) (fun h24 => absurd h24 (by decide)) (fun h24 => ?_)
  refine lv_iload X.1 X.2.1 jd_K_shorten_27 (lv_at hl 3 rfl) ?_
  refine kn_lt0 X.1 X.2.1 jd_K_shorten_29 (tgt := 40) (by decide) (by omega) (fun h29 => absurd h29 (by omega)) (fun h29 => ?_)
  refine lv_iload X.1 X.2.1 jd_K_shorten_32 (lv_at hl 3 rfl) ?_
  refine lv_sipush (v := nI 128) X.1 X.2.1 jd_K_shorten_34 (by decide) ?_
  refine kn_cle X.1 X.2.1 jd_K_shorten_37 (tgt := 50) (by decide) (by omega) (fun h37 => ?_) (fun h37 => absurd h37 (by omega))
  refine lv_aload_n X.1 X.2.1 jd_K_shorten_50 rfl (lv_at hl 0 rfl) ?_
  refine jg_K_45_0 X hP jd_K_shorten_51 ?_
  refine lv_aload_n X.1 X.2.1 jd_K_shorten_54 rfl (lv_at hl 0 rfl) ?_
  refine jg_K_31_0 X hP jd_K_shorten_55 ?_
  refine jg_K_189_14 X hP jd_K_shorten_58 ?_
  refine kn_isub X.1 X.2.1 jd_K_shorten_61 (by omega) ?_
  refine lv_iload X.1 X.2.1 jd_K_shorten_62 (lv_at hl 3 rfl) ?_
  refine kn_isub X.1 X.2.1 jd_K_shorten_64 (by omega) ?_
  refine lv_bipush (v := nI 16) X.1 X.2.1 jd_K_shorten_65 (by decide) ?_
  refine kn_isub X.1 X.2.1 jd_K_shorten_67 (by omega) ?_
  refine lv_istore X.1 X.2.1 jd_K_shorten_68 hl (by decide) rfl (fun ls hl => ?_)
  have hl : lv_has ls 7 [(5, .int (nI ((((n 0 0) - (n 14 2)) - m9) - 16))), (0, .ref (a 0)), (1, .long (lN z)), (3, .int (nI x)), (4, .int (nI m9))] := hl
  refine lv_iload X.1 X.2.1 jd_K_shorten_70 (lv_at hl 0 rfl) ?_
  refine lv_iconst (v := nI 1) X.1 X.2.1 jd_K_shorten_72 (by decide) ?_
  refine kn_clt X.1 X.2.1 jd_K_shorten_73 (tgt := 103) (by decide) (by omega) (fun h73 => absurd h73 (by omega)) (fun h73 => ?_)
  refine lv_aload_n X.1 X.2.1 jd_K_shorten_76 rfl (lv_at hl 1 rfl) ?_
  refine jg_K_10_0 X hP jd_K_shorten_77 ?_
  refine lv_iload_n X.1 X.2.1 jd_K_shorten_80 rfl (lv_at hl 3 rfl) ?_
  refine lv_aload_n X.1 X.2.1 jd_K_shorten_81 rfl (lv_at hl 1 rfl) ?_
  refine jg_K_45_0 X hP jd_K_shorten_82 ?_
  refine j_run (j_mkN (host := "KeyDistiller") X hP (c_S_tagWith_1 l d D a n g x (n 0 0) (by omega) hn h6) jU_b (j_pp X hP) jm_552 jm_551 js_36 jm_2 (by decide +kernel) (by decide) rfl rfl (show jOk jy_S_tagWith 2 by unfold jOk; decide +kernel) (by decide) ⟨rfl, rfl⟩ hl.1 rfl (Nat.le_of_ble_eq_true rfl) ⟨Nat.zero_le _, Nat.zero_le _⟩ jd_K_shorten_85) ?_
  refine W.eq (g2 := F0 m 88 ls [.int (nI (tagF (n 6) x (n 0 0)))]) rfl ?_
  refine lv_aload_n X.1 X.2.1 jd_K_shorten_88 rfl (lv_at hl 1 rfl) ?_
  refine jg_K_16_0 X hP jd_K_shorten_89 ?_
  refine lv_iload_n X.1 X.2.1 jd_K_shorten_92 rfl (lv_at hl 3 rfl) ?_
  refine lv_aload_n X.1 X.2.1 jd_K_shorten_93 rfl (lv_at hl 1 rfl) ?_
  refine jg_K_45_0 X hP jd_K_shorten_94 ?_
  refine j_run (j_mkN (host := "KeyDistiller") X hP (c_S_tagWith_7 l d D a n g x (n 0 0) (by omega) hn h12) jU_b (j_pp X hP) jm_552 jm_551 js_36 jm_2 (by decide +kernel) (by decide) rfl rfl (show jOk jy_S_tagWith 2 by unfold jOk; decide +kernel) (by decide) ⟨rfl, rfl⟩ hl.1 rfl (Nat.le_of_ble_eq_true rfl) ⟨Nat.zero_le _, Nat.zero_le _⟩ jd_K_shorten_97) ?_
  refine W.eq (g2 := F0 m 100 ls [.int (nI (tagF (n 12) x (n 0 0))), .int (nI (tagF (n 6) x (n 0 0)))]) rfl ?_
  refine kn_ceq X.1 X.2.1 jd_K_shorten_100 (tgt := 113) (by decide) (⟨by have := tagF_lt (r := n 6) (t := n 0 0) (show x < 65536 by omega); omega, by have := tagF_lt (r := n 12) (t := n 0 0) (show x < 65536 by omega); omega⟩) (fun h100 => absurd h100 (hbad)) (fun h100 => ?_)
  exact hQ 103 215 "the tags differ, or no bits are left" _ (by decide) hl.1 jd_K_shorten_103 jd_K_shorten_106 jd_K_shorten_107 jd_K_shorten_109 jd_K_shorten_112

set_option maxHeartbeats 4000000 in
theorem c_K_shorten (l : Launch) (d : Nat → Nat) (D : va_G) (a : Nat → Nat) (n : Nat → Nat → Nat) (g : Nat → Nat) (hap : ∀ i j : Nat, i < 52 → j < 52 → a i = a j → i = j) (hB : NB n) (z x m9 : Nat) (hx1 : 1 ≤ x) (hx2 : x ≤ 65535) (hm : m9 ≤ 128) (hov : n 14 3 = 4) (hn : n 0 0 ≤ 128) (hd2 : n 14 2 ≤ 512) (h6 : ∀ i, n 6 i < 2) (h12 : ∀ i, n 12 i < 2) (hok : n 14 2 + m9 + 17 ≤ n 0 0) (htg : tagF (n 6) x (n 0 0) = tagF (n 12) x (n 0 0)) : jEff l d D a n g jy_K_shorten jb_K_shorten 7 (some .int) { frames := 2, cells := 0, slots := 0, locals := 48 } [.ref (a 0), .long (lN z), .int (nI x), .int (nI m9)] (fun v9 n2 g2 => some (.int (nI (n 0 0 - n 14 2 - m9 - 16))) = v9 ∧ ku (drP n z (n 0 0 + (n 0 0 - n 14 2 - m9 - 16) - 1)).1 0 3 (n 0 0 - n 14 2 - m9 - 16) = n2 ∧ kg g 0 (drP n z (n 0 0 + (n 0 0 - n 14 2 - m9 - 16) - 1)).2 = g2) := by
  refine je_I (by decide) (Nat.le_of_ble_eq_true rfl) ?_
  intro p e s m A below meth c ls Q X hP hS hl hQ
  have hl : lv_has ls 7 [(0, .ref (a 0)), (1, .long (lN z)), (3, .int (nI x)), (4, .int (nI m9))] := hl
  refine lv_aload_n X.1 X.2.1 jd_K_shorten_0 rfl (lv_at hl 0 rfl) ?_
  refine jg_K_31_0 X hP jd_K_shorten_1 ?_
  refine j_run (j_mkN (host := "KeyDistiller") X hP (c_D_isOver l d D a n g (hB _ _)) jU_b (j_pp X hP) jm_217 jm_216 js_5 jm_4 (by decide +kernel) (by decide) rfl rfl (show jOk jy_D_isOver 0 by unfold jOk; decide +kernel) (by decide) ⟨rfl, rfl⟩ hl.1 rfl (Nat.le_of_ble_eq_true rfl) ⟨Nat.zero_le _, Nat.zero_le _⟩ jd_K_shorten_4) ?_
  refine W.eq (g2 := F0 m 7 ls [.int (nI (if n 14 3 = 4 then 1 else 0))]) rfl ?_
  refine kn_to (y := 1) (if_pos hov) ?_
  refine kn_ne0 X.1 X.2.1 jd_K_shorten_7 (tgt := 20) (by decide) (by omega) (fun h7 => ?_) (fun h7 => absurd h7 (by decide))
  refine lv_iload_n X.1 X.2.1 jd_K_shorten_20 rfl (lv_at hl 2 rfl) ?_
  refine j_run (j_mkS X (c_K_isTagNumber l d D a n g x (by omega)) jU_b (j_pp X hP) jm_546 jm_545 jm_1 jm_544 (show jOk jy_K_isTagNumber 1 by unfold jOk; decide +kernel) (by decide) ⟨rfl, rfl⟩ hl.1 rfl (Nat.le_of_ble_eq_true rfl) ⟨Nat.zero_le _, Nat.zero_le _⟩ jd_K_shorten_21) ?_
  refine W.eq (g2 := F0 m 24 ls [.int (nI (if 1 ≤ x ∧ x ≤ 65535 then 1 else 0))]) rfl ?_
  refine kn_to (y := 1) (if_pos ⟨hx1, hx2⟩) ?_
  refine kn_eq0 X.1 X.2.1 jd_K_shorten_24 (tgt := 40) (by decide) (by omega) (fun h24 => absurd h24 (by decide)) (fun h24 => ?_)
  refine lv_iload X.1 X.2.1 jd_K_shorten_27 (lv_at hl 3 rfl) ?_
  refine kn_lt0 X.1 X.2.1 jd_K_shorten_29 (tgt := 40) (by decide) (by omega) (fun h29 => absurd h29 (by omega)) (fun h29 => ?_)
  refine lv_iload X.1 X.2.1 jd_K_shorten_32 (lv_at hl 3 rfl) ?_
  refine lv_sipush (v := nI 128) X.1 X.2.1 jd_K_shorten_34 (by decide) ?_
  refine kn_cle X.1 X.2.1 jd_K_shorten_37 (tgt := 50) (by decide) (by omega) (fun h37 => ?_) (fun h37 => absurd h37 (by omega))
  refine lv_aload_n X.1 X.2.1 jd_K_shorten_50 rfl (lv_at hl 0 rfl) ?_
  refine jg_K_45_0 X hP jd_K_shorten_51 ?_
  refine lv_aload_n X.1 X.2.1 jd_K_shorten_54 rfl (lv_at hl 0 rfl) ?_
  refine jg_K_31_0 X hP jd_K_shorten_55 ?_
  refine jg_K_189_14 X hP jd_K_shorten_58 ?_
  refine kn_isub X.1 X.2.1 jd_K_shorten_61 (by omega) ?_
  refine lv_iload X.1 X.2.1 jd_K_shorten_62 (lv_at hl 3 rfl) ?_
  refine kn_isub X.1 X.2.1 jd_K_shorten_64 (by omega) ?_
  refine lv_bipush (v := nI 16) X.1 X.2.1 jd_K_shorten_65 (by decide) ?_
  refine kn_isub X.1 X.2.1 jd_K_shorten_67 (by omega) ?_
  refine lv_istore X.1 X.2.1 jd_K_shorten_68 hl (by decide) rfl (fun ls hl => ?_)
  have hl : lv_has ls 7 [(5, .int (nI ((((n 0 0) - (n 14 2)) - m9) - 16))), (0, .ref (a 0)), (1, .long (lN z)), (3, .int (nI x)), (4, .int (nI m9))] := hl
  refine lv_iload X.1 X.2.1 jd_K_shorten_70 (lv_at hl 0 rfl) ?_
  refine lv_iconst (v := nI 1) X.1 X.2.1 jd_K_shorten_72 (by decide) ?_
  refine kn_clt X.1 X.2.1 jd_K_shorten_73 (tgt := 103) (by decide) (by omega) (fun h73 => absurd h73 (by omega)) (fun h73 => ?_)
  refine lv_aload_n X.1 X.2.1 jd_K_shorten_76 rfl (lv_at hl 1 rfl) ?_
  refine jg_K_10_0 X hP jd_K_shorten_77 ?_
  refine lv_iload_n X.1 X.2.1 jd_K_shorten_80 rfl (lv_at hl 3 rfl) ?_
  refine lv_aload_n X.1 X.2.1 jd_K_shorten_81 rfl (lv_at hl 1 rfl) ?_
  refine jg_K_45_0 X hP jd_K_shorten_82 ?_
  refine j_run (j_mkN (host := "KeyDistiller") X hP (c_S_tagWith_1 l d D a n g x (n 0 0) (by omega) hn h6) jU_b (j_pp X hP) jm_552 jm_551 js_36 jm_2 (by decide +kernel) (by decide) rfl rfl (show jOk jy_S_tagWith 2 by unfold jOk; decide +kernel) (by decide) ⟨rfl, rfl⟩ hl.1 rfl (Nat.le_of_ble_eq_true rfl) ⟨Nat.zero_le _, Nat.zero_le _⟩ jd_K_shorten_85) ?_
  refine W.eq (g2 := F0 m 88 ls [.int (nI (tagF (n 6) x (n 0 0)))]) rfl ?_
  refine lv_aload_n X.1 X.2.1 jd_K_shorten_88 rfl (lv_at hl 1 rfl) ?_
  refine jg_K_16_0 X hP jd_K_shorten_89 ?_
  refine lv_iload_n X.1 X.2.1 jd_K_shorten_92 rfl (lv_at hl 3 rfl) ?_
  refine lv_aload_n X.1 X.2.1 jd_K_shorten_93 rfl (lv_at hl 1 rfl) ?_
  refine jg_K_45_0 X hP jd_K_shorten_94 ?_
  refine j_run (j_mkN (host := "KeyDistiller") X hP (c_S_tagWith_7 l d D a n g x (n 0 0) (by omega) hn h12) jU_b (j_pp X hP) jm_552 jm_551 js_36 jm_2 (by decide +kernel) (by decide) rfl rfl (show jOk jy_S_tagWith 2 by unfold jOk; decide +kernel) (by decide) ⟨rfl, rfl⟩ hl.1 rfl (Nat.le_of_ble_eq_true rfl) ⟨Nat.zero_le _, Nat.zero_le _⟩ jd_K_shorten_97) ?_
  refine W.eq (g2 := F0 m 100 ls [.int (nI (tagF (n 12) x (n 0 0))), .int (nI (tagF (n 6) x (n 0 0)))]) rfl ?_
  refine kn_ceq X.1 X.2.1 jd_K_shorten_100 (tgt := 113) (by decide) (⟨by have := tagF_lt (r := n 6) (t := n 0 0) (show x < 65536 by omega); omega, by have := tagF_lt (r := n 12) (t := n 0 0) (show x < 65536 by omega); omega⟩) (fun h100 => ?_) (fun h100 => absurd h100 (fun q => q htg))
  refine lv_aload_n X.1 X.2.1 jd_K_shorten_113 rfl (lv_at hl 1 rfl) ?_
  refine jg_K_22_0 X hP jd_K_shorten_114 ?_
  refine lv_lload_n X.1 X.2.1 jd_K_shorten_117 rfl (lv_at hl 2 rfl) ?_
  refine j_rune (j_mkN (host := "KeyDistiller") X hP (c_G_restart l d D a n g hap z _) jU_bs (j_pe X hP) jm_375 jm_374 js_14 jm_3 (by decide +kernel) (by decide) rfl rfl (show jOk jy_G_restart 1 by unfold jOk; decide +kernel) (by decide) ⟨rfl, rfl⟩ hl.1 rfl (Nat.le_of_ble_eq_true rfl) ⟨Nat.zero_le _, Nat.zero_le _⟩ jd_K_shorten_118) hS (fun v118 n118 g118 H locs h118 hP hS => ?_)
  obtain ⟨rfl, rfl, rfl⟩ := h118
  refine W.eq (g2 := F0 m 121 ls []) rfl ?_
  refine lv_iconst (v := nI 0) X.1 X.2.1 jd_K_shorten_121 (by decide) ?_
  refine lv_istore X.1 X.2.1 jd_K_shorten_122 hl (by decide) rfl (fun ls hl => ?_)
  have hl : lv_has ls 7 [(6, .int (nI 0)), (5, .int (nI ((((n 0 0) - (n 14 2)) - m9) - 16))), (0, .ref (a 0)), (1, .long (lN z)), (3, .int (nI x)), (4, .int (nI m9))] := hl
  have loop124 : ∀ (r k : Nat) (H : Heap) (locs : List Loc) (ls : Array Slot), k + r = n 0 0 + (n 0 0 - n 14 2 - m9 - 16) - 1 → va_P D jCl (jW d a ((drP n z k).1) (kg g 0 (drP n z k).2)) H → va_S (jAa a s.heap.size) s.heap H locs → lv_has ls 7 [(6, .int (nI k)), (5, .int (nI (n 0 0 - n 14 2 - m9 - 16))), (0, .ref (a 0)), (1, .long (lN z)), (3, .int (nI x)), (4, .int (nI m9))] → W p l e { frames := 2, cells := 0, slots := 0, locals := 48 } s m A below meth c H locs 0 0 Q (F0 m 124 ls []) := by
    intro r
    induction r with
    | zero => 
      intro k H locs ls hk hP hS hl
      obtain rfl : n 0 0 + (n 0 0 - n 14 2 - m9 - 16) - 1 = k := by omega
      refine lv_iload X.1 X.2.1 jd_K_shorten_124 (lv_at hl 0 rfl) ?_
      refine lv_aload_n X.1 X.2.1 jd_K_shorten_126 rfl (lv_at hl 2 rfl) ?_
      refine jg_K_45_0 X hP jd_K_shorten_127 ?_
      refine kn_to (y := n 0 0) (congrFun (drP_o (x := 0) (by decide) _) 0) ?_
      refine lv_iload X.1 X.2.1 jd_K_shorten_130 (lv_at hl 1 rfl) ?_
      refine kn_iadd X.1 X.2.1 jd_K_shorten_132 ?_
      refine lv_iconst (v := nI 1) X.1 X.2.1 jd_K_shorten_133 (by decide) ?_
      refine kn_isub X.1 X.2.1 jd_K_shorten_134 (by omega) ?_
      refine kn_cge X.1 X.2.1 jd_K_shorten_135 (tgt := 158) (by decide) (by omega) (fun h135 => ?_) (fun h135 => absurd h135 (by omega))
      refine lv_aload_n X.1 X.2.1 jd_K_shorten_158 rfl (lv_at hl 2 rfl) ?_
      refine lv_iload X.1 X.2.1 jd_K_shorten_159 (lv_at hl 1 rfl) ?_
      refine jp_K_226_0 X hap hP hS jd_K_shorten_161 (fun H locs hP hS => ?_)
      refine lv_aload_n X.1 X.2.1 jd_K_shorten_164 rfl (lv_at hl 2 rfl) ?_
      refine jg_K_226_0 X hP jd_K_shorten_165 ?_
      refine kn_to (y := (n 0 0 - n 14 2 - m9 - 16)) (by rw [ku_s]) ?_
      exact hQ _ _ _ _ _ _ _ (⟨rfl, rfl, rfl⟩) hP hS jd_K_shorten_168
    | succ r ihr => 
      intro k H locs ls hk hP hS hl
      refine lv_iload X.1 X.2.1 jd_K_shorten_124 (lv_at hl 0 rfl) ?_
      refine lv_aload_n X.1 X.2.1 jd_K_shorten_126 rfl (lv_at hl 2 rfl) ?_
      refine jg_K_45_0 X hP jd_K_shorten_127 ?_
      refine kn_to (y := n 0 0) (congrFun (drP_o (x := 0) (by decide) _) 0) ?_
      refine lv_iload X.1 X.2.1 jd_K_shorten_130 (lv_at hl 1 rfl) ?_
      refine kn_iadd X.1 X.2.1 jd_K_shorten_132 ?_
      refine lv_iconst (v := nI 1) X.1 X.2.1 jd_K_shorten_133 (by decide) ?_
      refine kn_isub X.1 X.2.1 jd_K_shorten_134 (by omega) ?_
      refine kn_cge X.1 X.2.1 jd_K_shorten_135 (tgt := 158) (by decide) (by omega) (fun h135 => absurd h135 (by omega)) (fun h135 => ?_)
      refine lv_aload_n X.1 X.2.1 jd_K_shorten_138 rfl (lv_at hl 2 rfl) ?_
      refine jg_K_42_0 X hP jd_K_shorten_139 ?_
      refine lv_iload X.1 X.2.1 jd_K_shorten_142 (lv_at hl 0 rfl) ?_
      refine lv_aload_n X.1 X.2.1 jd_K_shorten_144 rfl (lv_at hl 2 rfl) ?_
      refine jg_K_22_0 X hP jd_K_shorten_145 ?_
      refine j_rune (j_mkN (host := "KeyDistiller") X hP (c_G_drawBit l d D a (drP n z k).1 (kg g 0 (drP n z k).2) hap _) jU_bs (j_pe X hP) jm_593 jm_592 js_38 jm_3 (by decide +kernel) (by decide) rfl rfl (show jOk jy_G_drawBit 0 by unfold jOk; decide +kernel) (by decide) ⟨rfl, rfl⟩ hl.1 rfl (Nat.le_of_ble_eq_true rfl) ⟨Nat.zero_le _, Nat.zero_le _⟩ jd_K_shorten_148) hS (fun v148 n148 g148 H locs h148 hP hS => ?_)
      obtain ⟨rfl, rfl, rfl⟩ := h148
      rw [kg_kg, kg_s] at hP
      refine W.eq (g2 := F0 m 151 ls [.int (nI (advF (drP n z k).2 / 2 ^ 63)), .int (nI k), .ref (a 32)]) rfl ?_
      refine j_ast X hap hP hS 32 k (advF (drP n z k).2 / 2 ^ 63) (by decide) (show k < 256 from by omega) (by decide) jd_K_shorten_151 (fun H locs hP hS => ?_)
      refine lv_iinc (k := 0) (v := nI (k + 1)) X.1 X.2.1 jd_K_shorten_152 hl rfl (kn_inc _) (by decide) rfl (fun ls hl => ?_)
      have hl : lv_has ls 7 [(6, .int (nI (k + 1))), (5, .int (nI (n 0 0 - n 14 2 - m9 - 16))), (0, .ref (a 0)), (1, .long (lN z)), (3, .int (nI x)), (4, .int (nI m9))] := hl
      refine lv_goto X.1 X.2.1 jd_K_shorten_155 (tgt := 124) (by decide) ?_
      have hl : lv_has ls 7 [(6, .int (nI (k + 1))), (5, .int (nI (n 0 0 - n 14 2 - m9 - 16))), (0, .ref (a 0)), (1, .long (lN z)), (3, .int (nI x)), (4, .int (nI m9))] := lv_sub hl [0, 1, 2, 3, 4, 5] rfl
      exact ihr (k + 1) H locs ls (by omega) hP hS hl
  have hl : lv_has ls 7 [(6, .int (nI 0)), (5, .int (nI (n 0 0 - n 14 2 - m9 - 16))), (0, .ref (a 0)), (1, .long (lN z)), (3, .int (nI x)), (4, .int (nI m9))] := lv_sub hl [0, 1, 2, 3, 4, 5] rfl
  exact loop124 (n 0 0 + (n 0 0 - n 14 2 - m9 - 16) - 1) 0 H locs ls (by omega) hP hS hl
