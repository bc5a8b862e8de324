set_option maxHeartbeats 4000000 in
theorem c_K_done (l : Launch) (d : Nat → Nat) (D : va_G) (a : Nat → Nat) (n : Nat → Nat → Nat) (g : Nat → Nat) (hB : NB n)  : jPure l d D a n g jy_K_done jb_K_done 1 (some .boolean) { frames := 1, cells := 0, slots := 0, locals := 20 } [.ref (a 0)] (some (.int (nI (if n 14 3 = 4 then 1 else 0)))) := by
  refine jq_Z (by first | omega | (split <;> omega)) (by decide) (Nat.le_of_ble_eq_true rfl) ?_
  intro p e s m A below meth c ls Q X hP hl hQ
  have hl : lv_has ls 1 [(0, .ref (a 0))] := hl
  refine lv_aload_n X.1 X.2.1 jd_K_done_0 rfl (lv_at hl 0 rfl) ?_
  refine jg_K_31_0 X hP jd_K_done_1 ?_
  refine j_run (j_mkN (host := "KeyDistiller") X hP (c_D_isOver l d D a n g (hB _ _)) jU_b (j_pp X hP) jm_217 jm_216 js_5 jm_4 (by decide +kernel) (by decide) rfl rfl (show jOk jy_D_isOver 0 by unfold jOk; decide +kernel) (by decide) ⟨rfl, rfl⟩ hl.1 rfl (Nat.le_of_ble_eq_true rfl) ⟨Nat.zero_le _, Nat.zero_le _⟩ jd_K_done_4) ?_
  refine W.eq (g2 := F0 m 7 ls [.int (nI (if n 14 3 = 4 then 1 else 0))]) rfl ?_
  exact kn_to (by first | rfl | omega | (split <;> omega)) (hQ _ _ jd_K_done_7)

set_option maxHeartbeats 4000000 in
theorem c_K_answered (l : Launch) (d : Nat → Nat) (D : va_G) (a : Nat → Nat) (n : Nat → Nat → Nat) (g : Nat → Nat) (k : Nat) (hk : k < 4294967296) (hd : n 14 2 ≤ 512) : jPure l d D a n g jy_K_answered jb_K_answered 2 (some .int) { frames := 0, cells := 0, slots := 0, locals := 0 } [.ref (a 0), .int (nI k)] (some (.int (nI (if k < n 14 2 then n 29 k else 4294967295)))) := by
  refine jq_I (by decide) (Nat.le_of_ble_eq_true rfl) ?_
  intro p e s m A below meth c ls Q X hP hl hQ
  have hl : lv_has ls 2 [(0, .ref (a 0)), (1, .int (nI k))] := hl
  refine lv_iload_n X.1 X.2.1 jd_K_answered_0 rfl (lv_at hl 1 rfl) ?_
  refine kn_lt0 X.1 X.2.1 jd_K_answered_1 (tgt := 27) (by decide) (by omega) (fun h1 => ?_) (fun h1 => ?_)
  · skip
    refine lv_iconst (v := nI 4294967295) X.1 X.2.1 jd_K_answered_27 (by decide) ?_
    exact kn_to (by first | rw [if_pos (by omega)] | rw [if_neg (by omega)]) (hQ _ _ jd_K_answered_28)
  · skip
    refine lv_iload_n X.1 X.2.1 jd_K_answered_4 rfl (lv_at hl 1 rfl) ?_
    refine lv_aload_n X.1 X.2.1 jd_K_answered_5 rfl (lv_at hl 0 rfl) ?_
    refine jg_K_31_0 X hP jd_K_answered_6 ?_
    refine jg_K_189_14 X hP jd_K_answered_9 ?_
    refine kn_cge X.1 X.2.1 jd_K_answered_12 (tgt := 27) (by decide) (by omega) (fun h12 => ?_) (fun h12 => ?_)
    · skip
      refine lv_iconst (v := nI 4294967295) X.1 X.2.1 jd_K_answered_27 (by decide) ?_
      exact kn_to (by first | rw [if_pos (by omega)] | rw [if_neg (by omega)]) (hQ _ _ jd_K_answered_28)
    · skip
      refine lv_aload_n X.1 X.2.1 jd_K_answered_15 rfl (lv_at hl 0 rfl) ?_
      refine jg_K_31_0 X hP jd_K_answered_16 ?_
      refine jg_K_192_14 X hP jd_K_answered_19 ?_
      refine lv_iload_n X.1 X.2.1 jd_K_answered_22 rfl (lv_at hl 1 rfl) ?_
      refine j_ald X hP 29 k (by decide) (show k < 512 from by omega) (by decide) jd_K_answered_23 ?_
      refine lv_goto X.1 X.2.1 jd_K_answered_24 (tgt := 28) (by decide) ?_
      exact kn_to (by first | rw [if_pos (by omega)] | rw [if_neg (by omega)]) (hQ _ _ jd_K_answered_28)

set_option maxHeartbeats 4000000 in
theorem c_K_sampled_0 (l : Launch) (d : Nat → Nat) (D : va_G) (a : Nat → Nat) (n : Nat → Nat → Nat) (g : Nat → Nat)  : jPure l d D a n g jy_K_sampled jb_K_sampled 2 (some .int) { frames := 0, cells := 0, slots := 0, locals := 0 } [.ref (a 0), .int (nI 0)] (some (.int (nI (n 0 1)))) := by
  refine jq_I (by decide) (Nat.le_of_ble_eq_true rfl) ?_
  intro p e s m A below meth c ls Q X hP hl hQ
  have hl : lv_has ls 2 [(0, .ref (a 0)), (1, .int (nI 0))] := hl
  refine lv_iload_n X.1 X.2.1 jd_K_sampled_0 rfl (lv_at hl 1 rfl) ?_
  refine lv_lookup X.1 X.2.1 jd_K_sampled_1 (by decide) (off := 27) (by decide) (tgt := 28) (by decide) ?_
  refine lv_aload_n X.1 X.2.1 jd_K_sampled_28 rfl (lv_at hl 0 rfl) ?_
  refine jg_K_115_0 X hP jd_K_sampled_29 ?_
  exact kn_to (by first | rfl | omega | (split <;> omega)) (hQ _ _ jd_K_sampled_32)

set_option maxHeartbeats 4000000 in
theorem c_K_sampled_1 (l : Launch) (d : Nat → Nat) (D : va_G) (a : Nat → Nat) (n : Nat → Nat → Nat) (g : Nat → Nat)  : jPure l d D a n g jy_K_sampled jb_K_sampled 2 (some .int) { frames := 0, cells := 0, slots := 0, locals := 0 } [.ref (a 0), .int (nI 1)] (some (.int (nI (n 0 2)))) := by
  refine jq_I (by decide) (Nat.le_of_ble_eq_true rfl) ?_
  intro p e s m A below meth c ls Q X hP hl hQ
  have hl : lv_has ls 2 [(0, .ref (a 0)), (1, .int (nI 1))] := hl
  refine lv_iload_n X.1 X.2.1 jd_K_sampled_0 rfl (lv_at hl 1 rfl) ?_
  refine lv_lookup X.1 X.2.1 jd_K_sampled_1 (by decide) (off := 32) (by decide) (tgt := 33) (by decide) ?_
  refine lv_aload_n X.1 X.2.1 jd_K_sampled_33 rfl (lv_at hl 0 rfl) ?_
  refine jg_K_118_0 X hP jd_K_sampled_34 ?_
  exact kn_to (by first | rfl | omega | (split <;> omega)) (hQ _ _ jd_K_sampled_37)

set_option maxHeartbeats 4000000 in
theorem c_K_sampled_x (l : Launch) (d : Nat → Nat) (D : va_G) (a : Nat → Nat) (n : Nat → Nat → Nat) (g : Nat → Nat) (x : Nat) (hx : x < 4294967296) (hx2 : 2 ≤ x) : jPure l d D a n g jy_K_sampled jb_K_sampled 2 (some .int) { frames := 0, cells := 0, slots := 0, locals := 0 } [.ref (a 0), .int (nI x)] (some (.int (nI 4294967295))) := by
  refine jq_I (by decide) (Nat.le_of_ble_eq_true rfl) ?_
  intro p e s m A below meth c ls Q X hP hl hQ
  have hl : lv_has ls 2 [(0, .ref (a 0)), (1, .int (nI x))] := hl
  refine lv_iload_n X.1 X.2.1 jd_K_sampled_0 rfl (lv_at hl 1 rfl) ?_
  have hti : ¬ (nI x).toInt = 0 ∧ ¬ (nI x).toInt = 1 := by rw [kn_toInt hx]; split <;> omega
  refine lv_lookup X.1 X.2.1 jd_K_sampled_1 (by decide) (off := 37) (kn_sw2 hti.1 hti.2) (tgt := 38) (by decide) ?_
  refine lv_iconst (v := nI 4294967295) X.1 X.2.1 jd_K_sampled_38 (by decide) ?_
  exact kn_to (by first | rfl | omega | (split <;> omega)) (hQ _ _ jd_K_sampled_39)

set_option maxHeartbeats 4000000 in
theorem c_K_isKept (l : Launch) (d : Nat → Nat) (D : va_G) (a : Nat → Nat) (n : Nat → Nat → Nat) (g : Nat → Nat) (k : Nat) (hk : k < 128) (hB : NB n)  : jPure l d D a n g jy_K_isKept jb_K_isKept 2 (some .boolean) { frames := 0, cells := 0, slots := 0, locals := 0 } [.ref (a 0), .int (nI k)] (some (.int (nI (kpF n k)))) := by
  refine jq_Z (kpF_lt _ _) (by decide) (Nat.le_of_ble_eq_true rfl) ?_
  intro p e s m A below meth c ls Q X hP hl hQ
  have hl : lv_has ls 2 [(0, .ref (a 0)), (1, .int (nI k))] := hl
  refine lv_aload_n X.1 X.2.1 jd_K_isKept_0 rfl (lv_at hl 0 rfl) ?_
  refine jg_K_10_0 X hP jd_K_isKept_1 ?_
  refine jg_K_230_1 X hP jd_K_isKept_4 ?_
  refine lv_iload_n X.1 X.2.1 jd_K_isKept_7 rfl (lv_at hl 1 rfl) ?_
  refine j_zald X hP 2 k (by decide) (show k < 128 from by omega) (by decide) jd_K_isKept_8 ?_
  refine kn_eq0 X.1 X.2.1 jd_K_isKept_9 (tgt := 62) (by decide) (hB _ _) (fun h9 => ?_) (fun h9 => ?_)
  · skip
    refine lv_iconst (v := nI 0) X.1 X.2.1 jd_K_isKept_62 (by decide) ?_
    exact kn_to (by unfold kpF; first | rw [if_pos h9] | rw [if_neg h9, if_pos h21] | rw [if_neg h9, if_neg h21, if_neg h34] | rw [if_neg h9, if_neg h21, if_pos h34, if_pos h55] | rw [if_neg h9, if_neg h21, if_pos h34, if_neg h55]) (hQ _ _ jd_K_isKept_63)
  · skip
    refine lv_aload_n X.1 X.2.1 jd_K_isKept_12 rfl (lv_at hl 0 rfl) ?_
    refine jg_K_16_0 X hP jd_K_isKept_13 ?_
    refine jg_K_230_7 X hP jd_K_isKept_16 ?_
    refine lv_iload_n X.1 X.2.1 jd_K_isKept_19 rfl (lv_at hl 1 rfl) ?_
    refine j_zald X hP 8 k (by decide) (show k < 128 from by omega) (by decide) jd_K_isKept_20 ?_
    refine kn_eq0 X.1 X.2.1 jd_K_isKept_21 (tgt := 62) (by decide) (hB _ _) (fun h21 => ?_) (fun h21 => ?_)
    · skip
      refine lv_iconst (v := nI 0) X.1 X.2.1 jd_K_isKept_62 (by decide) ?_
      exact kn_to (by unfold kpF; first | rw [if_pos h9] | rw [if_neg h9, if_pos h21] | rw [if_neg h9, if_neg h21, if_neg h34] | rw [if_neg h9, if_neg h21, if_pos h34, if_pos h55] | rw [if_neg h9, if_neg h21, if_pos h34, if_neg h55]) (hQ _ _ jd_K_isKept_63)
    · skip
      refine lv_aload_n X.1 X.2.1 jd_K_isKept_24 rfl (lv_at hl 0 rfl) ?_
      refine jg_K_16_0 X hP jd_K_isKept_25 ?_
      refine jg_K_234_7 X hP jd_K_isKept_28 ?_
      refine lv_iload_n X.1 X.2.1 jd_K_isKept_31 rfl (lv_at hl 1 rfl) ?_
      refine j_ald X hP 11 k (by decide) (show k < 128 from by omega) (by decide) jd_K_isKept_32 ?_
      refine lv_iconst (v := nI 1) X.1 X.2.1 jd_K_isKept_33 (by decide) ?_
      refine kn_cne X.1 X.2.1 jd_K_isKept_34 (tgt := 62) (by decide) (⟨hB _ _, by decide⟩) (fun h34 => ?_) (fun h34 => ?_)
      · skip
        refine lv_iconst (v := nI 0) X.1 X.2.1 jd_K_isKept_62 (by decide) ?_
        exact kn_to (by unfold kpF; first | rw [if_pos h9] | rw [if_neg h9, if_pos h21] | rw [if_neg h9, if_neg h21, if_neg h34] | rw [if_neg h9, if_neg h21, if_pos h34, if_pos h55] | rw [if_neg h9, if_neg h21, if_pos h34, if_neg h55]) (hQ _ _ jd_K_isKept_63)
      · skip
        refine lv_aload_n X.1 X.2.1 jd_K_isKept_37 rfl (lv_at hl 0 rfl) ?_
        refine jg_K_10_0 X hP jd_K_isKept_38 ?_
        refine jg_K_237_1 X hP jd_K_isKept_41 ?_
        refine lv_iload_n X.1 X.2.1 jd_K_isKept_44 rfl (lv_at hl 1 rfl) ?_
        refine j_ald X hP 3 k (by decide) (show k < 128 from by omega) (by decide) jd_K_isKept_45 ?_
        refine lv_aload_n X.1 X.2.1 jd_K_isKept_46 rfl (lv_at hl 0 rfl) ?_
        refine jg_K_16_0 X hP jd_K_isKept_47 ?_
        refine jg_K_237_7 X hP jd_K_isKept_50 ?_
        refine lv_iload_n X.1 X.2.1 jd_K_isKept_53 rfl (lv_at hl 1 rfl) ?_
        refine j_ald X hP 9 k (by decide) (show k < 128 from by omega) (by decide) jd_K_isKept_54 ?_
        refine kn_cne X.1 X.2.1 jd_K_isKept_55 (tgt := 62) (by decide) (⟨hB _ _, hB _ _⟩) (fun h55 => ?_) (fun h55 => ?_)
        · skip
          refine lv_iconst (v := nI 0) X.1 X.2.1 jd_K_isKept_62 (by decide) ?_
          exact kn_to (by unfold kpF; first | rw [if_pos h9] | rw [if_neg h9, if_pos h21] | rw [if_neg h9, if_neg h21, if_neg h34] | rw [if_neg h9, if_neg h21, if_pos h34, if_pos h55] | rw [if_neg h9, if_neg h21, if_pos h34, if_neg h55]) (hQ _ _ jd_K_isKept_63)
        · skip
          refine lv_iconst (v := nI 1) X.1 X.2.1 jd_K_isKept_58 (by decide) ?_
          refine lv_goto X.1 X.2.1 jd_K_isKept_59 (tgt := 63) (by decide) ?_
          exact kn_to (by unfold kpF; first | rw [if_pos h9] | rw [if_neg h9, if_pos h21] | rw [if_neg h9, if_neg h21, if_neg h34] | rw [if_neg h9, if_neg h21, if_pos h34, if_pos h55] | rw [if_neg h9, if_neg h21, if_pos h34, if_neg h55]) (hQ _ _ jd_K_isKept_63)

set_option maxHeartbeats 4000000 in
theorem c_K_sift (l : Launch) (d : Nat → Nat) (D : va_G) (a : Nat → Nat) (n : Nat → Nat → Nat) (g : Nat → Nat) (hap : ∀ i j : Nat, i < 52 → j < 52 → a i = a j → i = j) (hB : NB n) (hs : n 0 0 = 4294967295) : jEff l d D a n g jy_K_sift jb_K_sift 3 (some .int) { frames := 1, cells := 0, slots := 0, locals := 21 } [.ref (a 0)] (fun v9 n2 g2 => some (.int (nI (siP n 128).2)) = v9 ∧ siF n = n2 ∧ g = g2) := by
  refine je_I (by decide) (Nat.le_of_ble_eq_true rfl) ?_
  intro p e s m A below meth c ls Q X hP hS hl hQ
  have hl : lv_has ls 3 [(0, .ref (a 0))] := hl
  refine lv_aload_n X.1 X.2.1 jd_K_sift_0 rfl (lv_at hl 0 rfl) ?_
  refine j_run (j_mkV X hP (c_K_isSifted l d D a n g (hB _ _)) jU_b (j_pp X hP) jm_318 jm_317 js_8 jm_1 jm_315 (by decide) rfl rfl (show jOk jy_K_isSifted 0 by unfold jOk; decide +kernel) (by decide) ⟨rfl, rfl⟩ hl.1 rfl (Nat.le_of_ble_eq_true rfl) ⟨Nat.zero_le _, Nat.zero_le _⟩ jd_K_sift_1) ?_
  refine W.eq (g2 := F0 m 4 ls [.int (nI (if n 0 0 = 4294967295 then 0 else 1))]) rfl ?_
  refine kn_to (y := 0) (if_pos hs) ?_
  refine kn_eq0 X.1 X.2.1 jd_K_sift_4 (tgt := 17) (by decide) (by omega) (fun h4 => ?_) (fun h4 => absurd h4 (by decide))
  refine lv_iconst (v := nI 0) X.1 X.2.1 jd_K_sift_17 (by decide) ?_
  refine lv_istore_n X.1 X.2.1 jd_K_sift_18 rfl hl (by decide) rfl (fun ls hl => ?_)
  have hl : lv_has ls 3 [(1, .int (nI 0)), (0, .ref (a 0))] := hl
  refine lv_iconst (v := nI 0) X.1 X.2.1 jd_K_sift_19 (by decide) ?_
  refine lv_istore_n X.1 X.2.1 jd_K_sift_20 rfl hl (by decide) rfl (fun ls hl => ?_)
  have hl : lv_has ls 3 [(2, .int (nI 0)), (1, .int (nI 0)), (0, .ref (a 0))] := hl
  have loop21 : ∀ (r k : Nat) (H : Heap) (locs : List Loc) (ls : Array Slot), k + r = 128 → va_P D jCl (jW d a ((siP n k).1) g) H → va_S (jAa a s.heap.size) s.heap H locs → lv_has ls 3 [(2, .int (nI k)), (1, .int (nI ((siP n k).2))), (0, .ref (a 0))] → W p l e { frames := 1, cells := 0, slots := 0, locals := 21 } s m A below meth c H locs 0 0 Q (F0 m 21 ls []) := by
    intro r
    induction r with
    | zero => 
      intro k H locs ls hk hP hS hl
      obtain rfl : 128 = k := by omega
      refine lv_iload_n X.1 X.2.1 jd_K_sift_21 rfl (lv_at hl 0 rfl) ?_
      refine lv_sipush (v := nI 128) X.1 X.2.1 jd_K_sift_22 (by decide) ?_
      refine kn_cge X.1 X.2.1 jd_K_sift_25 (tgt := 81) (by decide) (by omega) (fun h25 => ?_) (fun h25 => absurd h25 (by omega))
      refine lv_aload_n X.1 X.2.1 jd_K_sift_81 rfl (lv_at hl 2 rfl) ?_
      refine lv_iload_n X.1 X.2.1 jd_K_sift_82 rfl (lv_at hl 1 rfl) ?_
      refine jp_K_45_0 X hap hP hS jd_K_sift_83 (fun H locs hP hS => ?_)
      refine lv_aload_n X.1 X.2.1 jd_K_sift_86 rfl (lv_at hl 2 rfl) ?_
      refine jg_K_45_0 X hP jd_K_sift_87 ?_
      refine kn_to (y := (siP n 128).2) (rfl) ?_
      exact hQ _ _ _ _ _ _ _ (⟨rfl, rfl, rfl⟩) hP hS jd_K_sift_90
    | succ r ihr => 
      intro k H locs ls hk hP hS hl
      refine lv_iload_n X.1 X.2.1 jd_K_sift_21 rfl (lv_at hl 0 rfl) ?_
      refine lv_sipush (v := nI 128) X.1 X.2.1 jd_K_sift_22 (by decide) ?_
      refine kn_cge X.1 X.2.1 jd_K_sift_25 (tgt := 81) (by decide) (by omega) (fun h25 => absurd h25 (by omega)) (fun h25 => ?_)
      refine lv_aload_n X.1 X.2.1 jd_K_sift_28 rfl (lv_at hl 2 rfl) ?_
      refine lv_iload_n X.1 X.2.1 jd_K_sift_29 rfl (lv_at hl 0 rfl) ?_
      refine j_run (j_mkV X hP (c_K_isKept l d D a (siP n k).1 g k (by omega) (NB_siP hB k)) jU_b (j_pp X hP) jm_354 jm_353 js_11 jm_1 jm_351 (by decide) rfl rfl (show jOk jy_K_isKept 1 by unfold jOk; decide +kernel) (by decide) ⟨rfl, rfl⟩ hl.1 rfl (Nat.le_of_ble_eq_true rfl) ⟨Nat.zero_le _, Nat.zero_le _⟩ jd_K_sift_30) ?_
      refine W.eq (g2 := F0 m 33 ls [.int (nI (kpF (siP n k).1 k))]) rfl ?_
      refine kn_eq0 X.1 X.2.1 jd_K_sift_33 (tgt := 75) (by decide) (by have := kpF_lt (siP n k).1 k; omega) (fun h33 => ?_) (fun h33 => ?_)
      · skip
        refine lv_iinc (k := 0) (v := nI (k + 1)) X.1 X.2.1 jd_K_sift_75 hl rfl (kn_inc _) (by decide) rfl (fun ls hl => ?_)
        have hl : lv_has ls 3 [(2, .int (nI (k + 1))), (1, .int (nI ((siP n k).2))), (0, .ref (a 0))] := hl
        refine lv_goto X.1 X.2.1 jd_K_sift_78 (tgt := 21) (by decide) ?_
        have hP : va_P D jCl (jW d a ((siP n (k + 1)).1) g) H := by first | exact hP | (simp only [siP]; first | (rw [if_pos (by first | exact h33 | omega)]; exact hP) | (rw [if_neg (by first | exact h33 | omega)]; exact hP))
        have hl : lv_has ls 3 [(2, .int (nI (k + 1))), (1, .int (nI ((siP n (k + 1)).2))), (0, .ref (a 0))] := by first | exact lv_sub hl [0, 1, 2] rfl | (simp only [siP]; first | (rw [if_pos (by first | exact h33 | omega)]; exact lv_sub hl [0, 1, 2] rfl) | (rw [if_neg (by first | exact h33 | omega)]; exact lv_sub hl [0, 1, 2] rfl))
        exact ihr (k + 1) H locs ls (by omega) hP hS hl
      · skip
        refine lv_aload_n X.1 X.2.1 jd_K_sift_36 rfl (lv_at hl 2 rfl) ?_
        refine jg_K_10_0 X hP jd_K_sift_37 ?_
        refine jg_K_89_1 X hP jd_K_sift_40 ?_
        refine lv_iload_n X.1 X.2.1 jd_K_sift_43 rfl (lv_at hl 1 rfl) ?_
        refine lv_aload_n X.1 X.2.1 jd_K_sift_44 rfl (lv_at hl 2 rfl) ?_
        refine jg_K_10_0 X hP jd_K_sift_45 ?_
        refine jg_K_92_1 X hP jd_K_sift_48 ?_
        refine lv_iload_n X.1 X.2.1 jd_K_sift_51 rfl (lv_at hl 0 rfl) ?_
        refine j_ald X hP 4 k (by decide) (show k < 128 from by omega) (by decide) jd_K_sift_52 ?_
        refine j_ast X hap hP hS 6 ((siP n k).2) (((siP n k).1) 4 k) (by decide) (show (siP n k).2 < 128 from by have := siP_le n k; omega) (by decide) jd_K_sift_53 (fun H locs hP hS => ?_)
        refine lv_aload_n X.1 X.2.1 jd_K_sift_54 rfl (lv_at hl 2 rfl) ?_
        refine jg_K_16_0 X hP jd_K_sift_55 ?_
        refine jg_K_89_7 X hP jd_K_sift_58 ?_
        refine lv_iload_n X.1 X.2.1 jd_K_sift_61 rfl (lv_at hl 1 rfl) ?_
        refine lv_aload_n X.1 X.2.1 jd_K_sift_62 rfl (lv_at hl 2 rfl) ?_
        refine jg_K_16_0 X hP jd_K_sift_63 ?_
        refine jg_K_92_7 X hP jd_K_sift_66 ?_
        refine lv_iload_n X.1 X.2.1 jd_K_sift_69 rfl (lv_at hl 0 rfl) ?_
        refine j_ald X hP 10 k (by decide) (show k < 128 from by omega) (by decide) jd_K_sift_70 ?_
        refine j_ast X hap hP hS 12 ((siP n k).2) ((ku ((siP n k).1) 6 ((siP n k).2) (((siP n k).1) 4 k)) 10 k) (by decide) (show (siP n k).2 < 128 from by have := siP_le n k; omega) (by decide) jd_K_sift_71 (fun H locs hP hS => ?_)
        refine lv_iinc (k := 1) (v := nI ((siP n k).2 + 1)) X.1 X.2.1 jd_K_sift_72 hl rfl (kn_inc _) (by decide) rfl (fun ls hl => ?_)
        have hl : lv_has ls 3 [(1, .int (nI ((siP n k).2 + 1))), (2, .int (nI k)), (0, .ref (a 0))] := hl
        refine lv_iinc (k := 1) (v := nI (k + 1)) X.1 X.2.1 jd_K_sift_75 hl rfl (kn_inc _) (by decide) rfl (fun ls hl => ?_)
        have hl : lv_has ls 3 [(2, .int (nI (k + 1))), (1, .int (nI ((siP n k).2 + 1))), (0, .ref (a 0))] := hl
        refine lv_goto X.1 X.2.1 jd_K_sift_78 (tgt := 21) (by decide) ?_
        have hP : va_P D jCl (jW d a ((siP n (k + 1)).1) g) H := by first | exact hP | (simp only [siP]; first | (rw [if_pos (by first | exact h33 | omega)]; exact hP) | (rw [if_neg (by first | exact h33 | omega)]; exact hP))
        have hl : lv_has ls 3 [(2, .int (nI (k + 1))), (1, .int (nI ((siP n (k + 1)).2))), (0, .ref (a 0))] := by first | exact lv_sub hl [0, 1, 2] rfl | (simp only [siP]; first | (rw [if_pos (by first | exact h33 | omega)]; exact lv_sub hl [0, 1, 2] rfl) | (rw [if_neg (by first | exact h33 | omega)]; exact lv_sub hl [0, 1, 2] rfl))
        exact ihr (k + 1) H locs ls (by omega) hP hS hl
  have hl : lv_has ls 3 [(2, .int (nI 0)), (1, .int (nI ((siP n 0).2))), (0, .ref (a 0))] := lv_sub hl [0, 1, 2] rfl
  exact loop21 (128) 0 s.heap [] ls (by omega) hP hS hl

set_option maxHeartbeats 4000000 in
theorem t_K_sift (l : Launch) (d : Nat → Nat) (D : va_G) (a : Nat → Nat) (n : Nat → Nat → Nat) (g : Nat → Nat) (hlt : l.stackTraces = false) (hB : NB n) (hs : ¬ n 0 0 = 4294967295) : jThr l d D a n g jy_K_sift jb_K_sift 3 (some .int) { frames := 6, cells := 1, slots := 6, locals := 82 } [.ref (a 0)] "java/lang/IllegalStateException" := by
  refine jt_T hlt 72 76 rfl (by decide) (Nat.le_of_ble_eq_true rfl) jx_fIS jm_323 jm_11 jx_gIS jx_bIS jx_oIS (by decide) ?_
  intro p e s m A below meth c ls Q X hP hl hQ
  have hl : lv_has ls 3 [(0, .ref (a 0))] := hl
  refine lv_aload_n X.1 X.2.1 jd_K_sift_0 rfl (lv_at hl 0 rfl) ?_
  refine j_run (j_mkV X hP (c_K_isSifted l d D a n g (hB _ _)) jU_b (j_pp X hP) jm_318 jm_317 js_8 jm_1 jm_315 (by decide) rfl rfl (show jOk jy_K_isSifted 0 by unfold jOk; decide +kernel) (by decide) ⟨rfl, rfl⟩ hl.1 rfl (Nat.le_of_ble_eq_true rfl) ⟨Nat.zero_le _, Nat.zero_le _⟩ jd_K_sift_1) ?_
  refine W.eq (g2 := F0 m 4 ls [.int (nI (if n 0 0 = 4294967295 then 0 else 1))]) rfl ?_
  refine kn_to (y := 1) (if_neg hs) ?_
  refine kn_eq0 X.1 X.2.1 jd_K_sift_4 (tgt := 17) (by decide) (by omega) (fun h4 => absurd h4 (by decide)) (fun h4 => ?_)
  exact hQ 7 84 "sifted already" _ (by decide) hl.1 jd_K_sift_7 jd_K_sift_10 jd_K_sift_11 jd_K_sift_13 jd_K_sift_16

set_option maxHeartbeats 4000000 in
theorem t_K_record_IA (l : Launch) (d : Nat → Nat) (D : va_G) (a : Nat → Nat) (n : Nat → Nat → Nat) (g : Nat → Nat) (hlt : l.stackTraces = false) (x f k b v z : Nat) (hx : x < 4294967296) (hf : f < 4294967296) (hk : k < 4294967296) (hb : b < 4294967296) (hv : v < 4294967296) (hz : z < 4294967296) (hbad : ¬ (x < 2 ∧ 1 ≤ k ∧ k ≤ 32 ∧ f + k ≤ 128)) : jThr l d D a n g jy_K_record jb_K_record 8 (some .int) { frames := 6, cells := 1, slots := 6, locals := 82 } [.ref (a 0), .int (nI x), .int (nI f), .int (nI k), .int (nI b), .int (nI v), .int (nI z)] "java/lang/IllegalArgumentException" := by
  refine jt_T hlt 53 57 rfl (by decide) (Nat.le_of_ble_eq_true rfl) jx_fIA jm_242 jm_10 jx_gIA jx_bIA jx_oIA (by decide) ?_
  intro p e s m A below meth c ls Q X hP hl hQ
  have hl : lv_has ls 8 [(0, .ref (a 0)), (1, .int (nI x)), (2, .int (nI f)), (3, .int (nI k)), (4, .int (nI b)), (5, .int (nI v)), (6, .int (nI z))] := hl
  refine lv_iload_n X.1 X.2.1 jd_K_record_0 rfl (lv_at hl 1 rfl) ?_
  refine j_run (j_mkS X (c_K_isStation l d D a n g x hx) jU_b (j_pp X hP) jm_241 jm_240 jm_1 jm_239 (show jOk jy_K_isStation 1 by unfold jOk; decide +kernel) (by decide) ⟨rfl, rfl⟩ hl.1 rfl (Nat.le_of_ble_eq_true rfl) ⟨Nat.zero_le _, Nat.zero_le _⟩ jd_K_record_1) ?_
  refine W.eq (g2 := F0 m 4 ls [.int (nI (if x < 2 then 1 else 0))]) rfl ?_
  refine kn_eq0 X.1 X.2.1 jd_K_record_4 (tgt := 31) (by decide) (by split <;> omega) (fun h4 => ?_) (fun h4 => ?_)
  · skip
    exact hQ 31 55 "no such station or pulses" _ (by decide) hl.1 jd_K_record_31 jd_K_record_34 jd_K_record_35 jd_K_record_37 jd_K_record_40
  · skip
    have hx2 : x < 2 := by by_cases q : x < 2; exact q; rw [if_neg q] at h4; omega
    refine lv_iload_n X.1 X.2.1 jd_K_record_7 rfl (lv_at hl 3 rfl) ?_
    refine lv_iconst (v := nI 1) X.1 X.2.1 jd_K_record_8 (by decide) ?_
    refine kn_xlt X.1 X.2.1 jd_K_record_9 (tgt := 31) (by decide) (by omega) (fun h9 => ?_) (fun h9 => ?_)
    · skip
      exact hQ 31 55 "no such station or pulses" _ (by decide) hl.1 jd_K_record_31 jd_K_record_34 jd_K_record_35 jd_K_record_37 jd_K_record_40
    · skip
      refine lv_iload_n X.1 X.2.1 jd_K_record_12 rfl (lv_at hl 3 rfl) ?_
      refine lv_bipush (v := nI 32) X.1 X.2.1 jd_K_record_13 (by decide) ?_
      refine kn_xgt X.1 X.2.1 jd_K_record_15 (tgt := 31) (by decide) (by omega) (fun h15 => ?_) (fun h15 => ?_)
      · skip
        exact hQ 31 55 "no such station or pulses" _ (by decide) hl.1 jd_K_record_31 jd_K_record_34 jd_K_record_35 jd_K_record_37 jd_K_record_40
      · skip
        refine lv_iload_n X.1 X.2.1 jd_K_record_18 rfl (lv_at hl 2 rfl) ?_
        refine kn_lt0 X.1 X.2.1 jd_K_record_19 (tgt := 31) (by decide) (by omega) (fun h19 => ?_) (fun h19 => ?_)
        · skip
          exact hQ 31 55 "no such station or pulses" _ (by decide) hl.1 jd_K_record_31 jd_K_record_34 jd_K_record_35 jd_K_record_37 jd_K_record_40
        · skip
          refine lv_iload_n X.1 X.2.1 jd_K_record_22 rfl (lv_at hl 2 rfl) ?_
          refine lv_sipush (v := nI 128) X.1 X.2.1 jd_K_record_23 (by decide) ?_
          refine lv_iload_n X.1 X.2.1 jd_K_record_26 rfl (lv_at hl 3 rfl) ?_
          refine kn_isub X.1 X.2.1 jd_K_record_27 (by omega) ?_
          refine kn_xle X.1 X.2.1 jd_K_record_28 (tgt := 41) (by decide) (by omega) (fun h28 => ?_) (fun h28 => ?_)
          · skip
            exact absurd hbad (by omega)
          · skip
            exact hQ 31 55 "no such station or pulses" _ (by decide) hl.1 jd_K_record_31 jd_K_record_34 jd_K_record_35 jd_K_record_37 jd_K_record_40

set_option maxHeartbeats 4000000 in
theorem t_K_record_IS_1s (l : Launch) (d : Nat → Nat) (D : va_G) (a : Nat → Nat) (n : Nat → Nat → Nat) (g : Nat → Nat) (hlt : l.stackTraces = false) (f k b v z : Nat) (hf : f < 4294967296) (hk : k < 4294967296) (hb : b < 4294967296) (hv : v < 4294967296) (hz : z < 4294967296) (hk1 : 1 ≤ k) (hk2 : k ≤ 32) (hfk : f + k ≤ 128) (hB : NB n) (hs : ¬ n 0 0 = 4294967295) : jThr l d D a n g jy_K_record jb_K_record 8 (some .int) { frames := 6, cells := 1, slots := 6, locals := 82 } [.ref (a 0), .int (nI 0), .int (nI f), .int (nI k), .int (nI b), .int (nI v), .int (nI z)] "java/lang/IllegalStateException" := by
  refine jt_T hlt 72 76 rfl (by decide) (Nat.le_of_ble_eq_true rfl) jx_fIS jm_323 jm_11 jx_gIS jx_bIS jx_oIS (by decide) ?_
  intro p e s m A below meth c ls Q X hP hl hQ
  have hl : lv_has ls 8 [(0, .ref (a 0)), (1, .int (nI 0)), (2, .int (nI f)), (3, .int (nI k)), (4, .int (nI b)), (5, .int (nI v)), (6, .int (nI z))] := hl
  refine lv_iload_n X.1 X.2.1 jd_K_record_0 rfl (lv_at hl 1 rfl) ?_
  refine j_run (j_mkS X (c_K_isStation l d D a n g 0 (by decide)) jU_b (j_pp X hP) jm_241 jm_240 jm_1 jm_239 (show jOk jy_K_isStation 1 by unfold jOk; decide +kernel) (by decide) ⟨rfl, rfl⟩ hl.1 rfl (Nat.le_of_ble_eq_true rfl) ⟨Nat.zero_le _, Nat.zero_le _⟩ jd_K_record_1) ?_
  refine W.eq (g2 := F0 m 4 ls [.int (nI (if 0 < 2 then 1 else 0))]) rfl ?_
  refine kn_to (y := 1) (rfl) ?_
  refine kn_eq0 X.1 X.2.1 jd_K_record_4 (tgt := 31) (by decide) (by omega) (fun h4 => absurd h4 (by decide)) (fun h4 => ?_)
  refine lv_iload_n X.1 X.2.1 jd_K_record_7 rfl (lv_at hl 3 rfl) ?_
  refine lv_iconst (v := nI 1) X.1 X.2.1 jd_K_record_8 (by decide) ?_
  refine kn_xlt X.1 X.2.1 jd_K_record_9 (tgt := 31) (by decide) (by omega) (fun h9 => absurd h9 (by omega)) (fun h9 => ?_)
  refine lv_iload_n X.1 X.2.1 jd_K_record_12 rfl (lv_at hl 3 rfl) ?_
  refine lv_bipush (v := nI 32) X.1 X.2.1 jd_K_record_13 (by decide) ?_
  refine kn_xgt X.1 X.2.1 jd_K_record_15 (tgt := 31) (by decide) (by omega) (fun h15 => absurd h15 (by omega)) (fun h15 => ?_)
  refine lv_iload_n X.1 X.2.1 jd_K_record_18 rfl (lv_at hl 2 rfl) ?_
  refine kn_lt0 X.1 X.2.1 jd_K_record_19 (tgt := 31) (by decide) (by omega) (fun h19 => absurd h19 (by omega)) (fun h19 => ?_)
  refine lv_iload_n X.1 X.2.1 jd_K_record_22 rfl (lv_at hl 2 rfl) ?_
  refine lv_sipush (v := nI 128) X.1 X.2.1 jd_K_record_23 (by decide) ?_
  refine lv_iload_n X.1 X.2.1 jd_K_record_26 rfl (lv_at hl 3 rfl) ?_
  refine kn_isub X.1 X.2.1 jd_K_record_27 (by omega) ?_
  refine kn_xle X.1 X.2.1 jd_K_record_28 (tgt := 41) (by decide) (by omega) (fun h28 => ?_) (fun h28 => absurd h28 (by omega))
  refine lv_aload_n X.1 X.2.1 jd_K_record_41 rfl (lv_at hl 0 rfl) ?_
  refine lv_iload_n X.1 X.2.1 jd_K_record_42 rfl (lv_at hl 1 rfl) ?_
  refine j_run (j_mkV X hP (c_K_stationOf_0 l d D a n g) jU_b (j_pp X hP) jm_314 jm_313 js_7 jm_1 jm_311 (by decide) rfl rfl (show jOk jy_K_stationOf 1 by unfold jOk; decide +kernel) (by decide) ⟨rfl, rfl⟩ hl.1 rfl (Nat.le_of_ble_eq_true rfl) ⟨Nat.zero_le _, Nat.zero_le _⟩ jd_K_record_43) ?_
  refine W.eq (g2 := F0 m 46 ls [.ref (a 1)]) rfl ?_
  refine lv_astore X.1 X.2.1 jd_K_record_46 hl (by decide) rfl (fun ls hl => ?_)
  have hl : lv_has ls 8 [(7, .ref (a 1)), (0, .ref (a 0)), (1, .int (nI 0)), (2, .int (nI f)), (3, .int (nI k)), (4, .int (nI b)), (5, .int (nI v)), (6, .int (nI z))] := hl
  refine lv_aload_n X.1 X.2.1 jd_K_record_48 rfl (lv_at hl 1 rfl) ?_
  refine j_run (j_mkV X hP (c_K_isSifted l d D a n g (hB _ _)) jU_b (j_pp X hP) jm_318 jm_317 js_8 jm_1 jm_315 (by decide) rfl rfl (show jOk jy_K_isSifted 0 by unfold jOk; decide +kernel) (by decide) ⟨rfl, rfl⟩ hl.1 rfl (Nat.le_of_ble_eq_true rfl) ⟨Nat.zero_le _, Nat.zero_le _⟩ jd_K_record_49) ?_
  refine W.eq (g2 := F0 m 52 ls [.int (nI (if n 0 0 = 4294967295 then 0 else 1))]) rfl ?_
  refine kn_to (y := 1) (if_neg hs) ?_
  refine kn_ne0 X.1 X.2.1 jd_K_record_52 (tgt := 65) (by decide) (by omega) (fun h52 => ?_) (fun h52 => absurd h52 (by decide))
  exact hQ 65 74 "recorded or sifted already" _ (by decide) hl.1 jd_K_record_65 jd_K_record_68 jd_K_record_69 jd_K_record_71 jd_K_record_74

set_option maxHeartbeats 4000000 in
theorem t_K_record_IS_1a (l : Launch) (d : Nat → Nat) (D : va_G) (a : Nat → Nat) (n : Nat → Nat → Nat) (g : Nat → Nat) (hlt : l.stackTraces = false) (f k b v z : Nat) (hf : f < 4294967296) (hk : k < 4294967296) (hb : b < 4294967296) (hv : v < 4294967296) (hz : z < 4294967296) (hk1 : 1 ≤ k) (hk2 : k ≤ 32) (hfk : f + k ≤ 128) (hB : NB n) (hs : n 0 0 = 4294967295) (ha : ¬ anyF (n 2) f k = 0) : jThr l d D a n g jy_K_record jb_K_record 8 (some .int) { frames := 6, cells := 1, slots := 6, locals := 82 } [.ref (a 0), .int (nI 0), .int (nI f), .int (nI k), .int (nI b), .int (nI v), .int (nI z)] "java/lang/IllegalStateException" := by
  refine jt_T hlt 72 76 rfl (by decide) (Nat.le_of_ble_eq_true rfl) jx_fIS jm_323 jm_11 jx_gIS jx_bIS jx_oIS (by decide) ?_
  intro p e s m A below meth c ls Q X hP hl hQ
  have hl : lv_has ls 8 [(0, .ref (a 0)), (1, .int (nI 0)), (2, .int (nI f)), (3, .int (nI k)), (4, .int (nI b)), (5, .int (nI v)), (6, .int (nI z))] := hl
  refine lv_iload_n X.1 X.2.1 jd_K_record_0 rfl (lv_at hl 1 rfl) ?_
  refine j_run (j_mkS X (c_K_isStation l d D a n g 0 (by decide)) jU_b (j_pp X hP) jm_241 jm_240 jm_1 jm_239 (show jOk jy_K_isStation 1 by unfold jOk; decide +kernel) (by decide) ⟨rfl, rfl⟩ hl.1 rfl (Nat.le_of_ble_eq_true rfl) ⟨Nat.zero_le _, Nat.zero_le _⟩ jd_K_record_1) ?_
  refine W.eq (g2 := F0 m 4 ls [.int (nI (if 0 < 2 then 1 else 0))]) rfl ?_
  refine kn_to (y := 1) (rfl) ?_
  refine kn_eq0 X.1 X.2.1 jd_K_record_4 (tgt := 31) (by decide) (by omega) (fun h4 => absurd h4 (by decide)) (fun h4 => ?_)
  refine lv_iload_n X.1 X.2.1 jd_K_record_7 rfl (lv_at hl 3 rfl) ?_
  refine lv_iconst (v := nI 1) X.1 X.2.1 jd_K_record_8 (by decide) ?_
  refine kn_xlt X.1 X.2.1 jd_K_record_9 (tgt := 31) (by decide) (by omega) (fun h9 => absurd h9 (by omega)) (fun h9 => ?_)
  refine lv_iload_n X.1 X.2.1 jd_K_record_12 rfl (lv_at hl 3 rfl) ?_
  refine lv_bipush (v := nI 32) X.1 X.2.1 jd_K_record_13 (by decide) ?_
  refine kn_xgt X.1 X.2.1 jd_K_record_15 (tgt := 31) (by decide) (by omega) (fun h15 => absurd h15 (by omega)) (fun h15 => ?_)
  refine lv_iload_n X.1 X.2.1 jd_K_record_18 rfl (lv_at hl 2 rfl) ?_
  refine kn_lt0 X.1 X.2.1 jd_K_record_19 (tgt := 31) (by decide) (by omega) (fun h19 => absurd h19 (by omega)) (fun h19 => ?_)
  refine lv_iload_n X.1 X.2.1 jd_K_record_22 rfl (lv_at hl 2 rfl) ?_
  refine lv_sipush (v := nI 128) X.1 X.2.1 jd_K_record_23 (by decide) ?_
  refine lv_iload_n X.1 X.2.1 jd_K_record_26 rfl (lv_at hl 3 rfl) ?_
  refine kn_isub X.1 X.2.1 jd_K_record_27 (by omega) ?_
  refine kn_xle X.1 X.2.1 jd_K_record_28 (tgt := 41) (by decide) (by omega) (fun h28 => ?_) (fun h28 => absurd h28 (by omega))
  refine lv_aload_n X.1 X.2.1 jd_K_record_41 rfl (lv_at hl 0 rfl) ?_
  refine lv_iload_n X.1 X.2.1 jd_K_record_42 rfl (lv_at hl 1 rfl) ?_
  refine j_run (j_mkV X hP (c_K_stationOf_0 l d D a n g) jU_b (j_pp X hP) jm_314 jm_313 js_7 jm_1 jm_311 (by decide) rfl rfl (show jOk jy_K_stationOf 1 by unfold jOk; decide +kernel) (by decide) ⟨rfl, rfl⟩ hl.1 rfl (Nat.le_of_ble_eq_true rfl) ⟨Nat.zero_le _, Nat.zero_le _⟩ jd_K_record_43) ?_
  refine W.eq (g2 := F0 m 46 ls [.ref (a 1)]) rfl ?_
  refine lv_astore X.1 X.2.1 jd_K_record_46 hl (by decide) rfl (fun ls hl => ?_)
  have hl : lv_has ls 8 [(7, .ref (a 1)), (0, .ref (a 0)), (1, .int (nI 0)), (2, .int (nI f)), (3, .int (nI k)), (4, .int (nI b)), (5, .int (nI v)), (6, .int (nI z))] := hl
  refine lv_aload_n X.1 X.2.1 jd_K_record_48 rfl (lv_at hl 1 rfl) ?_
  refine j_run (j_mkV X hP (c_K_isSifted l d D a n g (hB _ _)) jU_b (j_pp X hP) jm_318 jm_317 js_8 jm_1 jm_315 (by decide) rfl rfl (show jOk jy_K_isSifted 0 by unfold jOk; decide +kernel) (by decide) ⟨rfl, rfl⟩ hl.1 rfl (Nat.le_of_ble_eq_true rfl) ⟨Nat.zero_le _, Nat.zero_le _⟩ jd_K_record_49) ?_
  refine W.eq (g2 := F0 m 52 ls [.int (nI (if n 0 0 = 4294967295 then 0 else 1))]) rfl ?_
  refine kn_to (y := 0) (if_pos hs) ?_
  refine kn_ne0 X.1 X.2.1 jd_K_record_52 (tgt := 65) (by decide) (by omega) (fun h52 => absurd h52 (by decide)) (fun h52 => ?_)
  refine lv_aload X.1 X.2.1 jd_K_record_55 (lv_at hl 0 rfl) ?_
  refine lv_iload_n X.1 X.2.1 jd_K_record_57 rfl (lv_at hl 3 rfl) ?_
  refine lv_iload_n X.1 X.2.1 jd_K_record_58 rfl (lv_at hl 4 rfl) ?_
  refine j_run (j_mkN (host := "KeyDistiller") X hP (c_S_hasAnyOf_1 l d D a n g f k hfk (fun i => hB _ _)) jU_b (j_pp X hP) jm_322 jm_321 js_9 jm_2 (by decide +kernel) (by decide) rfl rfl (show jOk jy_S_hasAnyOf 2 by unfold jOk; decide +kernel) (by decide) ⟨rfl, rfl⟩ hl.1 rfl (Nat.le_of_ble_eq_true rfl) ⟨Nat.zero_le _, Nat.zero_le _⟩ jd_K_record_59) ?_
  refine W.eq (g2 := F0 m 62 ls [.int (nI (anyF (n 2) f k))]) rfl ?_
  refine kn_eq0 X.1 X.2.1 jd_K_record_62 (tgt := 75) (by decide) (by have := anyF_lt (n 2) f k; omega) (fun h62 => absurd h62 (fun q => ha q)) (fun h62 => ?_)
  exact hQ 65 74 "recorded or sifted already" _ (by decide) hl.1 jd_K_record_65 jd_K_record_68 jd_K_record_69 jd_K_record_71 jd_K_record_74

set_option maxHeartbeats 4000000 in
theorem c_K_record_1 (l : Launch) (d : Nat → Nat) (D : va_G) (a : Nat → Nat) (n : Nat → Nat → Nat) (g : Nat → Nat) (hap : ∀ i j : Nat, i < 52 → j < 52 → a i = a j → i = j) (f k b v z : Nat) (hf : f < 4294967296) (hk : k < 4294967296) (hb : b < 4294967296) (hv : v < 4294967296) (hz : z < 4294967296) (hk1 : 1 ≤ k) (hk2 : k ≤ 32) (hfk : f + k ≤ 128) (hB : NB n) (hs : n 0 0 = 4294967295) (ha : anyF (n 2) f k = 0) : jEff l d D a n g jy_K_record jb_K_record 8 (some .int) { frames := 1, cells := 0, slots := 0, locals := 26 } [.ref (a 0), .int (nI 0), .int (nI f), .int (nI k), .int (nI b), .int (nI v), .int (nI z)] (fun v9 n2 g2 => some (.int (nI (n 1 0 + k))) = v9 ∧ ku (noteF n 1 f b v z k) 1 0 (n 1 0 + k) = n2 ∧ g = g2) := by
  refine je_I (by decide) (Nat.le_of_ble_eq_true rfl) ?_
  intro p e s m A below meth c ls Q X hP hS hl hQ
  have hl : lv_has ls 8 [(0, .ref (a 0)), (1, .int (nI 0)), (2, .int (nI f)), (3, .int (nI k)), (4, .int (nI b)), (5, .int (nI v)), (6, .int (nI z))] := hl
  refine lv_iload_n X.1 X.2.1 jd_K_record_0 rfl (lv_at hl 1 rfl) ?_
  refine j_run (j_mkS X (c_K_isStation l d D a n g 0 (by decide)) jU_b (j_pp X hP) jm_241 jm_240 jm_1 jm_239 (show jOk jy_K_isStation 1 by unfold jOk; decide +kernel) (by decide) ⟨rfl, rfl⟩ hl.1 rfl (Nat.le_of_ble_eq_true rfl) ⟨Nat.zero_le _, Nat.zero_le _⟩ jd_K_record_1) ?_
  refine W.eq (g2 := F0 m 4 ls [.int (nI (if 0 < 2 then 1 else 0))]) rfl ?_
  refine kn_to (y := 1) (rfl) ?_
  refine kn_eq0 X.1 X.2.1 jd_K_record_4 (tgt := 31) (by decide) (by omega) (fun h4 => absurd h4 (by decide)) (fun h4 => ?_)
  refine lv_iload_n X.1 X.2.1 jd_K_record_7 rfl (lv_at hl 3 rfl) ?_
  refine lv_iconst (v := nI 1) X.1 X.2.1 jd_K_record_8 (by decide) ?_
  refine kn_xlt X.1 X.2.1 jd_K_record_9 (tgt := 31) (by decide) (by omega) (fun h9 => absurd h9 (by omega)) (fun h9 => ?_)
  refine lv_iload_n X.1 X.2.1 jd_K_record_12 rfl (lv_at hl 3 rfl) ?_
  refine lv_bipush (v := nI 32) X.1 X.2.1 jd_K_record_13 (by decide) ?_
  refine kn_xgt X.1 X.2.1 jd_K_record_15 (tgt := 31) (by decide) (by omega) (fun h15 => absurd h15 (by omega)) (fun h15 => ?_)
  refine lv_iload_n X.1 X.2.1 jd_K_record_18 rfl (lv_at hl 2 rfl) ?_
  refine kn_lt0 X.1 X.2.1 jd_K_record_19 (tgt := 31) (by decide) (by omega) (fun h19 => absurd h19 (by omega)) (fun h19 => ?_)
  refine lv_iload_n X.1 X.2.1 jd_K_record_22 rfl (lv_at hl 2 rfl) ?_
  refine lv_sipush (v := nI 128) X.1 X.2.1 jd_K_record_23 (by decide) ?_
  refine lv_iload_n X.1 X.2.1 jd_K_record_26 rfl (lv_at hl 3 rfl) ?_
  refine kn_isub X.1 X.2.1 jd_K_record_27 (by omega) ?_
  refine kn_xle X.1 X.2.1 jd_K_record_28 (tgt := 41) (by decide) (by omega) (fun h28 => ?_) (fun h28 => absurd h28 (by omega))
  refine lv_aload_n X.1 X.2.1 jd_K_record_41 rfl (lv_at hl 0 rfl) ?_
  refine lv_iload_n X.1 X.2.1 jd_K_record_42 rfl (lv_at hl 1 rfl) ?_
  refine j_run (j_mkV X hP (c_K_stationOf_0 l d D a n g) jU_b (j_pp X hP) jm_314 jm_313 js_7 jm_1 jm_311 (by decide) rfl rfl (show jOk jy_K_stationOf 1 by unfold jOk; decide +kernel) (by decide) ⟨rfl, rfl⟩ hl.1 rfl (Nat.le_of_ble_eq_true rfl) ⟨Nat.zero_le _, Nat.zero_le _⟩ jd_K_record_43) ?_
  refine W.eq (g2 := F0 m 46 ls [.ref (a 1)]) rfl ?_
  refine lv_astore X.1 X.2.1 jd_K_record_46 hl (by decide) rfl (fun ls hl => ?_)
  have hl : lv_has ls 8 [(7, .ref (a 1)), (0, .ref (a 0)), (1, .int (nI 0)), (2, .int (nI f)), (3, .int (nI k)), (4, .int (nI b)), (5, .int (nI v)), (6, .int (nI z))] := hl
  refine lv_aload_n X.1 X.2.1 jd_K_record_48 rfl (lv_at hl 1 rfl) ?_
  refine j_run (j_mkV X hP (c_K_isSifted l d D a n g (hB _ _)) jU_b (j_pp X hP) jm_318 jm_317 js_8 jm_1 jm_315 (by decide) rfl rfl (show jOk jy_K_isSifted 0 by unfold jOk; decide +kernel) (by decide) ⟨rfl, rfl⟩ hl.1 rfl (Nat.le_of_ble_eq_true rfl) ⟨Nat.zero_le _, Nat.zero_le _⟩ jd_K_record_49) ?_
  refine W.eq (g2 := F0 m 52 ls [.int (nI (if n 0 0 = 4294967295 then 0 else 1))]) rfl ?_
  refine kn_to (y := 0) (if_pos hs) ?_
  refine kn_ne0 X.1 X.2.1 jd_K_record_52 (tgt := 65) (by decide) (by omega) (fun h52 => absurd h52 (by decide)) (fun h52 => ?_)
  refine lv_aload X.1 X.2.1 jd_K_record_55 (lv_at hl 0 rfl) ?_
  refine lv_iload_n X.1 X.2.1 jd_K_record_57 rfl (lv_at hl 3 rfl) ?_
  refine lv_iload_n X.1 X.2.1 jd_K_record_58 rfl (lv_at hl 4 rfl) ?_
  refine j_run (j_mkN (host := "KeyDistiller") X hP (c_S_hasAnyOf_1 l d D a n g f k hfk (fun i => hB _ _)) jU_b (j_pp X hP) jm_322 jm_321 js_9 jm_2 (by decide +kernel) (by decide) rfl rfl (show jOk jy_S_hasAnyOf 2 by unfold jOk; decide +kernel) (by decide) ⟨rfl, rfl⟩ hl.1 rfl (Nat.le_of_ble_eq_true rfl) ⟨Nat.zero_le _, Nat.zero_le _⟩ jd_K_record_59) ?_
  refine W.eq (g2 := F0 m 62 ls [.int (nI (anyF (n 2) f k))]) rfl ?_
  refine kn_eq0 X.1 X.2.1 jd_K_record_62 (tgt := 75) (by decide) (by have := anyF_lt (n 2) f k; omega) (fun h62 => ?_) (fun h62 => absurd h62 (fun q => q ha))
  refine lv_aload X.1 X.2.1 jd_K_record_75 (lv_at hl 0 rfl) ?_
  refine lv_iload_n X.1 X.2.1 jd_K_record_77 rfl (lv_at hl 3 rfl) ?_
  refine lv_iload_n X.1 X.2.1 jd_K_record_78 rfl (lv_at hl 4 rfl) ?_
  refine lv_iload X.1 X.2.1 jd_K_record_79 (lv_at hl 5 rfl) ?_
  refine lv_iload X.1 X.2.1 jd_K_record_81 (lv_at hl 6 rfl) ?_
  refine lv_iload X.1 X.2.1 jd_K_record_83 (lv_at hl 7 rfl) ?_
  refine j_rune (j_mkN (host := "KeyDistiller") X hP (c_S_note_1 l d D a n g hap f k b v z hfk hk2 hb hv hz _) jU_bs (j_pe X hP) jm_342 jm_341 js_10 jm_2 (by decide +kernel) (by decide) rfl rfl (show jOk jy_S_note 5 by unfold jOk; decide +kernel) (by decide) ⟨rfl, rfl⟩ hl.1 rfl (Nat.le_of_ble_eq_true rfl) ⟨Nat.zero_le _, Nat.zero_le _⟩ jd_K_record_85) hS (fun v85 n85 g85 H locs h85 hP hS => ?_)
  obtain ⟨rfl, rfl, rfl⟩ := h85
  rw [show noteF n 1 f b v z k 1 0 = n 1 0 from congrFun (noteF_o (by decide) k) 0] at hP
  refine W.eq (g2 := F0 m 88 ls []) rfl ?_
  refine lv_aload X.1 X.2.1 jd_K_record_88 (lv_at hl 0 rfl) ?_
  refine jg_K_81_1 X hP jd_K_record_90 ?_
  refine kn_to (y := n 1 0 + k) (by rw [ku_s]) ?_
  exact hQ _ _ _ _ _ _ _ (⟨rfl, rfl, rfl⟩) hP hS jd_K_record_93

set_option maxHeartbeats 4000000 in
theorem t_K_record_IS_7s (l : Launch) (d : Nat → Nat) (D : va_G) (a : Nat → Nat) (n : Nat → Nat → Nat) (g : Nat → Nat) (hlt : l.stackTraces = false) (f k b v z : Nat) (hf : f < 4294967296) (hk : k < 4294967296) (hb : b < 4294967296) (hv : v < 4294967296) (hz : z < 4294967296) (hk1 : 1 ≤ k) (hk2 : k ≤ 32) (hfk : f + k ≤ 128) (hB : NB n) (hs : ¬ n 0 0 = 4294967295) : jThr l d D a n g jy_K_record jb_K_record 8 (some .int) { frames := 6, cells := 1, slots := 6, locals := 82 } [.ref (a 0), .int (nI 1), .int (nI f), .int (nI k), .int (nI b), .int (nI v), .int (nI z)] "java/lang/IllegalStateException" := by
  refine jt_T hlt 72 76 rfl (by decide) (Nat.le_of_ble_eq_true rfl) jx_fIS jm_323 jm_11 jx_gIS jx_bIS jx_oIS (by decide) ?_
  intro p e s m A below meth c ls Q X hP hl hQ
  have hl : lv_has ls 8 [(0, .ref (a 0)), (1, .int (nI 1)), (2, .int (nI f)), (3, .int (nI k)), (4, .int (nI b)), (5, .int (nI v)), (6, .int (nI z))] := hl
  refine lv_iload_n X.1 X.2.1 jd_K_record_0 rfl (lv_at hl 1 rfl) ?_
  refine j_run (j_mkS X (c_K_isStation l d D a n g 1 (by decide)) jU_b (j_pp X hP) jm_241 jm_240 jm_1 jm_239 (show jOk jy_K_isStation 1 by unfold jOk; decide +kernel) (by decide) ⟨rfl, rfl⟩ hl.1 rfl (Nat.le_of_ble_eq_true rfl) ⟨Nat.zero_le _, Nat.zero_le _⟩ jd_K_record_1) ?_
  refine W.eq (g2 := F0 m 4 ls [.int (nI (if 1 < 2 then 1 else 0))]) rfl ?_
  refine kn_to (y := 1) (rfl) ?_
  refine kn_eq0 X.1 X.2.1 jd_K_record_4 (tgt := 31) (by decide) (by omega) (fun h4 => absurd h4 (by decide)) (fun h4 => ?_)
  refine lv_iload_n X.1 X.2.1 jd_K_record_7 rfl (lv_at hl 3 rfl) ?_
  refine lv_iconst (v := nI 1) X.1 X.2.1 jd_K_record_8 (by decide) ?_
  refine kn_xlt X.1 X.2.1 jd_K_record_9 (tgt := 31) (by decide) (by omega) (fun h9 => absurd h9 (by omega)) (fun h9 => ?_)
  refine lv_iload_n X.1 X.2.1 jd_K_record_12 rfl (lv_at hl 3 rfl) ?_
  refine lv_bipush (v := nI 32) X.1 X.2.1 jd_K_record_13 (by decide) ?_
  refine kn_xgt X.1 X.2.1 jd_K_record_15 (tgt := 31) (by decide) (by omega) (fun h15 => absurd h15 (by omega)) (fun h15 => ?_)
  refine lv_iload_n X.1 X.2.1 jd_K_record_18 rfl (lv_at hl 2 rfl) ?_
  refine kn_lt0 X.1 X.2.1 jd_K_record_19 (tgt := 31) (by decide) (by omega) (fun h19 => absurd h19 (by omega)) (fun h19 => ?_)
  refine lv_iload_n X.1 X.2.1 jd_K_record_22 rfl (lv_at hl 2 rfl) ?_
  refine lv_sipush (v := nI 128) X.1 X.2.1 jd_K_record_23 (by decide) ?_
  refine lv_iload_n X.1 X.2.1 jd_K_record_26 rfl (lv_at hl 3 rfl) ?_
  refine kn_isub X.1 X.2.1 jd_K_record_27 (by omega) ?_
  refine kn_xle X.1 X.2.1 jd_K_record_28 (tgt := 41) (by decide) (by omega) (fun h28 => ?_) (fun h28 => absurd h28 (by omega))
  refine lv_aload_n X.1 X.2.1 jd_K_record_41 rfl (lv_at hl 0 rfl) ?_
  refine lv_iload_n X.1 X.2.1 jd_K_record_42 rfl (lv_at hl 1 rfl) ?_
  refine j_run (j_mkV X hP (c_K_stationOf_1 l d D a n g) jU_b (j_pp X hP) jm_314 jm_313 js_7 jm_1 jm_311 (by decide) rfl rfl (show jOk jy_K_stationOf 1 by unfold jOk; decide +kernel) (by decide) ⟨rfl, rfl⟩ hl.1 rfl (Nat.le_of_ble_eq_true rfl) ⟨Nat.zero_le _, Nat.zero_le _⟩ jd_K_record_43) ?_
  refine W.eq (g2 := F0 m 46 ls [.ref (a 7)]) rfl ?_
  refine lv_astore X.1 X.2.1 jd_K_record_46 hl (by decide) rfl (fun ls hl => ?_)
  have hl : lv_has ls 8 [(7, .ref (a 7)), (0, .ref (a 0)), (1, .int (nI 1)), (2, .int (nI f)), (3, .int (nI k)), (4, .int (nI b)), (5, .int (nI v)), (6, .int (nI z))] := hl
  refine lv_aload_n X.1 X.2.1 jd_K_record_48 rfl (lv_at hl 1 rfl) ?_
  refine j_run (j_mkV X hP (c_K_isSifted l d D a n g (hB _ _)) jU_b (j_pp X hP) jm_318 jm_317 js_8 jm_1 jm_315 (by decide) rfl rfl (show jOk jy_K_isSifted 0 by unfold jOk; decide +kernel) (by decide) ⟨rfl, rfl⟩ hl.1 rfl (Nat.le_of_ble_eq_true rfl) ⟨Nat.zero_le _, Nat.zero_le _⟩ jd_K_record_49) ?_
  refine W.eq (g2 := F0 m 52 ls [.int (nI (if n 0 0 = 4294967295 then 0 else 1))]) rfl ?_
  refine kn_to (y := 1) (if_neg hs) ?_
  refine kn_ne0 X.1 X.2.1 jd_K_record_52 (tgt := 65) (by decide) (by omega) (fun h52 => ?_) (fun h52 => absurd h52 (by decide))
  exact hQ 65 74 "recorded or sifted already" _ (by decide) hl.1 jd_K_record_65 jd_K_record_68 jd_K_record_69 jd_K_record_71 jd_K_record_74

set_option maxHeartbeats 4000000 in
theorem t_K_record_IS_7a (l : Launch) (d : Nat → Nat) (D : va_G) (a : Nat → Nat) (n : Nat → Nat → Nat) (g : Nat → Nat) (hlt : l.stackTraces = false) (f k b v z : Nat) (hf : f < 4294967296) (hk : k < 4294967296) (hb : b < 4294967296) (hv : v < 4294967296) (hz : z < 4294967296) (hk1 : 1 ≤ k) (hk2 : k ≤ 32) (hfk : f + k ≤ 128) (hB : NB n) (hs : n 0 0 = 4294967295) (ha : ¬ anyF (n 8) f k = 0) : jThr l d D a n g jy_K_record jb_K_record 8 (some .int) { frames := 6, cells := 1, slots := 6, locals := 82 } [.ref (a 0), .int (nI 1), .int (nI f), .int (nI k), .int (nI b), .int (nI v), .int (nI z)] "java/lang/IllegalStateException" := by
  refine jt_T hlt 72 76 rfl (by decide) (Nat.le_of_ble_eq_true rfl) jx_fIS jm_323 jm_11 jx_gIS jx_bIS jx_oIS (by decide) ?_
  intro p e s m A below meth c ls Q X hP hl hQ
  have hl : lv_has ls 8 [(0, .ref (a 0)), (1, .int (nI 1)), (2, .int (nI f)), (3, .int (nI k)), (4, .int (nI b)), (5, .int (nI v)), (6, .int (nI z))] := hl
  refine lv_iload_n X.1 X.2.1 jd_K_record_0 rfl (lv_at hl 1 rfl) ?_
  refine j_run (j_mkS X (c_K_isStation l d D a n g 1 (by decide)) jU_b (j_pp X hP) jm_241 jm_240 jm_1 jm_239 (show jOk jy_K_isStation 1 by unfold jOk; decide +kernel) (by decide) ⟨rfl, rfl⟩ hl.1 rfl (Nat.le_of_ble_eq_true rfl) ⟨Nat.zero_le _, Nat.zero_le _⟩ jd_K_record_1) ?_
  refine W.eq (g2 := F0 m 4 ls [.int (nI (if 1 < 2 then 1 else 0))]) rfl ?_
  refine kn_to (y := 1) (rfl) ?_
  refine kn_eq0 X.1 X.2.1 jd_K_record_4 (tgt := 31) (by decide) (by omega) (fun h4 => absurd h4 (by decide)) (fun h4 => ?_)
  refine lv_iload_n X.1 X.2.1 jd_K_record_7 rfl (lv_at hl 3 rfl) ?_
  refine lv_iconst (v := nI 1) X.1 X.2.1 jd_K_record_8 (by decide) ?_
  refine kn_xlt X.1 X.2.1 jd_K_record_9 (tgt := 31) (by decide) (by omega) (fun h9 => absurd h9 (by omega)) (fun h9 => ?_)
  refine lv_iload_n X.1 X.2.1 jd_K_record_12 rfl (lv_at hl 3 rfl) ?_
  refine lv_bipush (v := nI 32) X.1 X.2.1 jd_K_record_13 (by decide) ?_
  refine kn_xgt X.1 X.2.1 jd_K_record_15 (tgt := 31) (by decide) (by omega) (fun h15 => absurd h15 (by omega)) (fun h15 => ?_)
  refine lv_iload_n X.1 X.2.1 jd_K_record_18 rfl (lv_at hl 2 rfl) ?_
  refine kn_lt0 X.1 X.2.1 jd_K_record_19 (tgt := 31) (by decide) (by omega) (fun h19 => absurd h19 (by omega)) (fun h19 => ?_)
  refine lv_iload_n X.1 X.2.1 jd_K_record_22 rfl (lv_at hl 2 rfl) ?_
  refine lv_sipush (v := nI 128) X.1 X.2.1 jd_K_record_23 (by decide) ?_
  refine lv_iload_n X.1 X.2.1 jd_K_record_26 rfl (lv_at hl 3 rfl) ?_
  refine kn_isub X.1 X.2.1 jd_K_record_27 (by omega) ?_
  refine kn_xle X.1 X.2.1 jd_K_record_28 (tgt := 41) (by decide) (by omega) (fun h28 => ?_) (fun h28 => absurd h28 (by omega))
  refine lv_aload_n X.1 X.2.1 jd_K_record_41 rfl (lv_at hl 0 rfl) ?_
  refine lv_iload_n X.1 X.2.1 jd_K_record_42 rfl (lv_at hl 1 rfl) ?_
  refine j_run (j_mkV X hP (c_K_stationOf_1 l d D a n g) jU_b (j_pp X hP) jm_314 jm_313 js_7 jm_1 jm_311 (by decide) rfl rfl (show jOk jy_K_stationOf 1 by unfold jOk; decide +kernel) (by decide) ⟨rfl, rfl⟩ hl.1 rfl (Nat.le_of_ble_eq_true rfl) ⟨Nat.zero_le _, Nat.zero_le _⟩ jd_K_record_43) ?_
  refine W.eq (g2 := F0 m 46 ls [.ref (a 7)]) rfl ?_
  refine lv_astore X.1 X.2.1 jd_K_record_46 hl (by decide) rfl (fun ls hl => ?_)
  have hl : lv_has ls 8 [(7, .ref (a 7)), (0, .ref (a 0)), (1, .int (nI 1)), (2, .int (nI f)), (3, .int (nI k)), (4, .int (nI b)), (5, .int (nI v)), (6, .int (nI z))] := hl
  refine lv_aload_n X.1 X.2.1 jd_K_record_48 rfl (lv_at hl 1 rfl) ?_
  refine j_run (j_mkV X hP (c_K_isSifted l d D a n g (hB _ _)) jU_b (j_pp X hP) jm_318 jm_317 js_8 jm_1 jm_315 (by decide) rfl rfl (show jOk jy_K_isSifted 0 by unfold jOk; decide +kernel) (by decide) ⟨rfl, rfl⟩ hl.1 rfl (Nat.le_of_ble_eq_true rfl) ⟨Nat.zero_le _, Nat.zero_le _⟩ jd_K_record_49) ?_
  refine W.eq (g2 := F0 m 52 ls [.int (nI (if n 0 0 = 4294967295 then 0 else 1))]) rfl ?_
  refine kn_to (y := 0) (if_pos hs) ?_
  refine kn_ne0 X.1 X.2.1 jd_K_record_52 (tgt := 65) (by decide) (by omega) (fun h52 => absurd h52 (by decide)) (fun h52 => ?_)
  refine lv_aload X.1 X.2.1 jd_K_record_55 (lv_at hl 0 rfl) ?_
  refine lv_iload_n X.1 X.2.1 jd_K_record_57 rfl (lv_at hl 3 rfl) ?_
  refine lv_iload_n X.1 X.2.1 jd_K_record_58 rfl (lv_at hl 4 rfl) ?_
  refine j_run (j_mkN (host := "KeyDistiller") X hP (c_S_hasAnyOf_7 l d D a n g f k hfk (fun i => hB _ _)) jU_b (j_pp X hP) jm_322 jm_321 js_9 jm_2 (by decide +kernel) (by decide) rfl rfl (show jOk jy_S_hasAnyOf 2 by unfold jOk; decide +kernel) (by decide) ⟨rfl, rfl⟩ hl.1 rfl (Nat.le_of_ble_eq_true rfl) ⟨Nat.zero_le _, Nat.zero_le _⟩ jd_K_record_59) ?_
  refine W.eq (g2 := F0 m 62 ls [.int (nI (anyF (n 8) f k))]) rfl ?_
  refine kn_eq0 X.1 X.2.1 jd_K_record_62 (tgt := 75) (by decide) (by have := anyF_lt (n 8) f k; omega) (fun h62 => absurd h62 (fun q => ha q)) (fun h62 => ?_)
  exact hQ 65 74 "recorded or sifted already" _ (by decide) hl.1 jd_K_record_65 jd_K_record_68 jd_K_record_69 jd_K_record_71 jd_K_record_74

set_option maxHeartbeats 4000000 in
theorem c_K_record_7 (l : Launch) (d : Nat → Nat) (D : va_G) (a : Nat → Nat) (n : Nat → Nat → Nat) (g : Nat → Nat) (hap : ∀ i j : Nat, i < 52 → j < 52 → a i = a j → i = j) (f k b v z : Nat) (hf : f < 4294967296) (hk : k < 4294967296) (hb : b < 4294967296) (hv : v < 4294967296) (hz : z < 4294967296) (hk1 : 1 ≤ k) (hk2 : k ≤ 32) (hfk : f + k ≤ 128) (hB : NB n) (hs : n 0 0 = 4294967295) (ha : anyF (n 8) f k = 0) : jEff l d D a n g jy_K_record jb_K_record 8 (some .int) { frames := 1, cells := 0, slots := 0, locals := 26 } [.ref (a 0), .int (nI 1), .int (nI f), .int (nI k), .int (nI b), .int (nI v), .int (nI z)] (fun v9 n2 g2 => some (.int (nI (n 7 0 + k))) = v9 ∧ ku (noteF n 7 f b v z k) 7 0 (n 7 0 + k) = n2 ∧ g = g2) := by
  refine je_I (by decide) (Nat.le_of_ble_eq_true rfl) ?_
  intro p e s m A below meth c ls Q X hP hS hl hQ
  have hl : lv_has ls 8 [(0, .ref (a 0)), (1, .int (nI 1)), (2, .int (nI f)), (3, .int (nI k)), (4, .int (nI b)), (5, .int (nI v)), (6, .int (nI z))] := hl
  refine lv_iload_n X.1 X.2.1 jd_K_record_0 rfl (lv_at hl 1 rfl) ?_
  refine j_run (j_mkS X (c_K_isStation l d D a n g 1 (by decide)) jU_b (j_pp X hP) jm_241 jm_240 jm_1 jm_239 (show jOk jy_K_isStation 1 by unfold jOk; decide +kernel) (by decide) ⟨rfl, rfl⟩ hl.1 rfl (Nat.le_of_ble_eq_true rfl) ⟨Nat.zero_le _, Nat.zero_le _⟩ jd_K_record_1) ?_
  refine W.eq (g2 := F0 m 4 ls [.int (nI (if 1 < 2 then 1 else 0))]) rfl ?_
  refine kn_to (y := 1) (rfl) ?_
  refine kn_eq0 X.1 X.2.1 jd_K_record_4 (tgt := 31) (by decide) (by omega) (fun h4 => absurd h4 (by decide)) (fun h4 => ?_)
  refine lv_iload_n X.1 X.2.1 jd_K_record_7 rfl (lv_at hl 3 rfl) ?_
  refine lv_iconst (v := nI 1) X.1 X.2.1 jd_K_record_8 (by decide) ?_
  refine kn_xlt X.1 X.2.1 jd_K_record_9 (tgt := 31) (by decide) (by omega) (fun h9 => absurd h9 (by omega)) (fun h9 => ?_)
  refine lv_iload_n X.1 X.2.1 jd_K_record_12 rfl (lv_at hl 3 rfl) ?_
  refine lv_bipush (v := nI 32) X.1 X.2.1 jd_K_record_13 (by decide) ?_
  refine kn_xgt X.1 X.2.1 jd_K_record_15 (tgt := 31) (by decide) (by omega) (fun h15 => absurd h15 (by omega)) (fun h15 => ?_)
  refine lv_iload_n X.1 X.2.1 jd_K_record_18 rfl (lv_at hl 2 rfl) ?_
  refine kn_lt0 X.1 X.2.1 jd_K_record_19 (tgt := 31) (by decide) (by omega) (fun h19 => absurd h19 (by omega)) (fun h19 => ?_)
  refine lv_iload_n X.1 X.2.1 jd_K_record_22 rfl (lv_at hl 2 rfl) ?_
  refine lv_sipush (v := nI 128) X.1 X.2.1 jd_K_record_23 (by decide) ?_
  refine lv_iload_n X.1 X.2.1 jd_K_record_26 rfl (lv_at hl 3 rfl) ?_
  refine kn_isub X.1 X.2.1 jd_K_record_27 (by omega) ?_
  refine kn_xle X.1 X.2.1 jd_K_record_28 (tgt := 41) (by decide) (by omega) (fun h28 => ?_) (fun h28 => absurd h28 (by omega))
  refine lv_aload_n X.1 X.2.1 jd_K_record_41 rfl (lv_at hl 0 rfl) ?_
  refine lv_iload_n X.1 X.2.1 jd_K_record_42 rfl (lv_at hl 1 rfl) ?_
  refine j_run (j_mkV X hP (c_K_stationOf_1 l d D a n g) jU_b (j_pp X hP) jm_314 jm_313 js_7 jm_1 jm_311 (by decide) rfl rfl (show jOk jy_K_stationOf 1 by unfold jOk; decide +kernel) (by decide) ⟨rfl, rfl⟩ hl.1 rfl (Nat.le_of_ble_eq_true rfl) ⟨Nat.zero_le _, Nat.zero_le _⟩ jd_K_record_43) ?_
  refine W.eq (g2 := F0 m 46 ls [.ref (a 7)]) rfl ?_
  refine lv_astore X.1 X.2.1 jd_K_record_46 hl (by decide) rfl (fun ls hl => ?_)
  have hl : lv_has ls 8 [(7, .ref (a 7)), (0, .ref (a 0)), (1, .int (nI 1)), (2, .int (nI f)), (3, .int (nI k)), (4, .int (nI b)), (5, .int (nI v)), (6, .int (nI z))] := hl
  refine lv_aload_n X.1 X.2.1 jd_K_record_48 rfl (lv_at hl 1 rfl) ?_
  refine j_run (j_mkV X hP (c_K_isSifted l d D a n g (hB _ _)) jU_b (j_pp X hP) jm_318 jm_317 js_8 jm_1 jm_315 (by decide) rfl rfl (show jOk jy_K_isSifted 0 by unfold jOk; decide +kernel) (by decide) ⟨rfl, rfl⟩ hl.1 rfl (Nat.le_of_ble_eq_true rfl) ⟨Nat.zero_le _, Nat.zero_le _⟩ jd_K_record_49) ?_
  refine W.eq (g2 := F0 m 52 ls [.int (nI (if n 0 0 = 4294967295 then 0 else 1))]) rfl ?_
  refine kn_to (y := 0) (if_pos hs) ?_
  refine kn_ne0 X.1 X.2.1 jd_K_record_52 (tgt := 65) (by decide) (by omega) (fun h52 => absurd h52 (by decide)) (fun h52 => ?_)
  refine lv_aload X.1 X.2.1 jd_K_record_55 (lv_at hl 0 rfl) ?_
  refine lv_iload_n X.1 X.2.1 jd_K_record_57 rfl (lv_at hl 3 rfl) ?_
  refine lv_iload_n X.1 X.2.1 jd_K_record_58 rfl (lv_at hl 4 rfl) ?_
  refine j_run (j_mkN (host := "KeyDistiller") X hP (c_S_hasAnyOf_7 l d D a n g f k hfk (fun i => hB _ _)) jU_b (j_pp X hP) jm_322 jm_321 js_9 jm_2 (by decide +kernel) (by decide) rfl rfl (show jOk jy_S_hasAnyOf 2 by unfold jOk; decide +kernel) (by decide) ⟨rfl, rfl⟩ hl.1 rfl (Nat.le_of_ble_eq_true rfl) ⟨Nat.zero_le _, Nat.zero_le _⟩ jd_K_record_59) ?_
  refine W.eq (g2 := F0 m 62 ls [.int (nI (anyF (n 8) f k))]) rfl ?_
  refine kn_eq0 X.1 X.2.1 jd_K_record_62 (tgt := 75) (by decide) (by have := anyF_lt (n 8) f k; omega) (fun h62 => ?_) (fun h62 => absurd h62 (fun q => q ha))
  refine lv_aload X.1 X.2.1 jd_K_record_75 (lv_at hl 0 rfl) ?_
  refine lv_iload_n X.1 X.2.1 jd_K_record_77 rfl (lv_at hl 3 rfl) ?_
  refine lv_iload_n X.1 X.2.1 jd_K_record_78 rfl (lv_at hl 4 rfl) ?_
  refine lv_iload X.1 X.2.1 jd_K_record_79 (lv_at hl 5 rfl) ?_
  refine lv_iload X.1 X.2.1 jd_K_record_81 (lv_at hl 6 rfl) ?_
  refine lv_iload X.1 X.2.1 jd_K_record_83 (lv_at hl 7 rfl) ?_
  refine j_rune (j_mkN (host := "KeyDistiller") X hP (c_S_note_7 l d D a n g hap f k b v z hfk hk2 hb hv hz _) jU_bs (j_pe X hP) jm_342 jm_341 js_10 jm_2 (by decide +kernel) (by decide) rfl rfl (show jOk jy_S_note 5 by unfold jOk; decide +kernel) (by decide) ⟨rfl, rfl⟩ hl.1 rfl (Nat.le_of_ble_eq_true rfl) ⟨Nat.zero_le _, Nat.zero_le _⟩ jd_K_record_85) hS (fun v85 n85 g85 H locs h85 hP hS => ?_)
  obtain ⟨rfl, rfl, rfl⟩ := h85
  rw [show noteF n 7 f b v z k 7 0 = n 7 0 from congrFun (noteF_o (by decide) k) 0] at hP
  refine W.eq (g2 := F0 m 88 ls []) rfl ?_
  refine lv_aload X.1 X.2.1 jd_K_record_88 (lv_at hl 0 rfl) ?_
  refine jg_K_81_7 X hP jd_K_record_90 ?_
  refine kn_to (y := n 7 0 + k) (by rw [ku_s]) ?_
  exact hQ _ _ _ _ _ _ _ (⟨rfl, rfl, rfl⟩) hP hS jd_K_record_93
