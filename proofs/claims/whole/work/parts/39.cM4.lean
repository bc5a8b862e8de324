set_option maxHeartbeats 4000000 in
theorem c_M_told_0 (l : Launch) (d : Nat → Nat) (D : va_G) (a : Nat → Nat) (n : Nat → Nat → Nat) (g : Nat → Nat) (hap : ∀ i j : Nat, i < 52 → j < 52 → a i = a j → i = j) (hB : NB n) (k : Nat) (hk : k < n 33 11) (hc : n 33 11 ≤ 16) (hq : n 46 k = 0 → n 47 k ≤ 512)  : jEff l d D a n g jy_M_told jb_M_told 4 (some .int) { frames := 1, cells := 0, slots := 0, locals := 22 } [.ref (a 33), .int (nI k), .int (nI 0)] (fun v9 n2 g2 => some (.int (nI (tlM n k 0))) = v9 ∧ (ku n 33 0 0) = n2 ∧ g = g2) := by
  refine je_I (by decide) (Nat.le_of_ble_eq_true rfl) ?_
  intro p e s m A below meth c ls Q X hP hS hl hQ
  have hl : lv_has ls 4 [(0, .ref (a 33)), (1, .int (nI k)), (2, .int (nI 0))] := hl
  refine lv_aload_n X.1 X.2.1 jd_M_told_0 rfl (lv_at hl 0 rfl) ?_
  refine lv_iconst (v := nI 0) X.1 X.2.1 jd_M_told_1 (by decide) ?_
  refine jp_M_66_33 X hap hP hS jd_M_told_2 (fun H locs hP hS => ?_)
  refine lv_iload_n X.1 X.2.1 jd_M_told_5 rfl (lv_at hl 1 rfl) ?_
  refine lv_iconst (v := nI 0) X.1 X.2.1 jd_M_told_6 (by decide) ?_
  refine lv_aload_n X.1 X.2.1 jd_M_told_7 rfl (lv_at hl 0 rfl) ?_
  refine jg_M_123_33 X hP jd_M_told_8 ?_
  refine kn_to (y := n 33 11) (rfl) ?_
  refine lv_iconst (v := nI 1) X.1 X.2.1 jd_M_told_11 (by decide) ?_
  refine lv_isub X.1 X.2.1 jd_M_told_12 ?_
  refine kn_is (y := (((n 33 11) + 4294967296 - 1) % 4294967296)) (kn_subw (by omega)) ?_
  refine j_run (j_mkS X (c_M_withinD l d D a (ku n 33 0 0) g k (n 33 11) (by omega) (by omega)) jU_b (j_pp X hP) jm_714 jm_713 jm_6 jm_712 (show jOk jy_M_within 3 by unfold jOk; decide +kernel) (by decide) ⟨rfl, rfl⟩ hl.1 rfl (Nat.le_of_ble_eq_true rfl) ⟨Nat.zero_le _, Nat.zero_le _⟩ jd_M_told_13) ?_
  refine W.eq (g2 := F0 m 16 ls [.int (nI (if k < n 33 11 then 1 else 0))]) rfl ?_
  refine kn_to (y := 1) (if_pos (by omega)) ?_
  refine kn_ne0 X.1 X.2.1 jd_M_told_16 (tgt := 21) (by decide) (by omega) (fun h16 => ?_) (fun h16 => absurd h16 (by decide))
  refine lv_aload_n X.1 X.2.1 jd_M_told_21 rfl (lv_at hl 0 rfl) ?_
  refine jg_M_54_33 X hP jd_M_told_22 ?_
  refine lv_iload_n X.1 X.2.1 jd_M_told_25 rfl (lv_at hl 1 rfl) ?_
  refine j_ald X hP 47 k (by decide) (show k < 17 from by omega) (by decide) jd_M_told_26 ?_
  refine kn_to (y := n 47 k) (rfl) ?_
  refine lv_istore_n X.1 X.2.1 jd_M_told_27 rfl hl (by decide) rfl (fun ls hl => ?_)
  have hl : lv_has ls 4 [(3, .int (nI (n 47 k))), (0, .ref (a 33)), (1, .int (nI k)), (2, .int (nI 0))] := hl
  refine lv_iload_n X.1 X.2.1 jd_M_told_28 rfl (lv_at hl 3 rfl) ?_
  refine lv_tableIn X.1 X.2.1 jd_M_told_29 (by decide) (by decide) (off := 35) (by decide) (tgt := 64) (by decide) ?_
  refine lv_aload_n X.1 X.2.1 jd_M_told_64 rfl (lv_at hl 1 rfl) ?_
  refine jg_M_51_33 X hP jd_M_told_65 ?_
  refine lv_iload_n X.1 X.2.1 jd_M_told_68 rfl (lv_at hl 2 rfl) ?_
  refine j_zald X hP 46 k (by decide) (show k < 17 from by omega) (by decide) jd_M_told_69 ?_
  refine kn_to (y := n 46 k) (rfl) ?_
  refine kn_eq0 X.1 X.2.1 jd_M_told_70 (tgt := 77) (by decide) (hB _ _) (fun h70 => ?_) (fun h70 => ?_)
  · skip
    refine lv_iconst (v := nI 0) X.1 X.2.1 jd_M_told_77 (by decide) ?_
    exact hQ _ _ _ _ _ _ _ (by unfold tlM; first | exact ⟨rfl, rfl, rfl⟩ | (rw [if_neg (by omega), if_neg (by omega), if_neg (by omega), if_neg (by omega), if_neg (by omega)]; exact ⟨rfl, rfl, rfl⟩) | (refine ⟨?_, rfl, rfl⟩; simp [h70]) | (refine ⟨?_, rfl, rfl⟩; simp [h70]; rfl)) hP hS jd_M_told_78
  · skip
    refine lv_iconst (v := nI 1) X.1 X.2.1 jd_M_told_73 (by decide) ?_
    refine lv_goto X.1 X.2.1 jd_M_told_74 (tgt := 78) (by decide) ?_
    exact hQ _ _ _ _ _ _ _ (by unfold tlM; first | exact ⟨rfl, rfl, rfl⟩ | (rw [if_neg (by omega), if_neg (by omega), if_neg (by omega), if_neg (by omega), if_neg (by omega)]; exact ⟨rfl, rfl, rfl⟩) | (refine ⟨?_, rfl, rfl⟩; simp [h70]) | (refine ⟨?_, rfl, rfl⟩; simp [h70]; rfl)) hP hS jd_M_told_78

set_option maxHeartbeats 4000000 in
theorem c_M_told_1 (l : Launch) (d : Nat → Nat) (D : va_G) (a : Nat → Nat) (n : Nat → Nat → Nat) (g : Nat → Nat) (hap : ∀ i j : Nat, i < 52 → j < 52 → a i = a j → i = j) (hB : NB n) (k : Nat) (hk : k < n 33 11) (hc : n 33 11 ≤ 16) (hq : n 46 k = 0 → n 47 k ≤ 512)  : jEff l d D a n g jy_M_told jb_M_told 4 (some .int) { frames := 1, cells := 0, slots := 0, locals := 22 } [.ref (a 33), .int (nI k), .int (nI 1)] (fun v9 n2 g2 => some (.int (nI (tlM n k 1))) = v9 ∧ (ku n 33 0 0) = n2 ∧ g = g2) := by
  refine je_I (by decide) (Nat.le_of_ble_eq_true rfl) ?_
  intro p e s m A below meth c ls Q X hP hS hl hQ
  have hl : lv_has ls 4 [(0, .ref (a 33)), (1, .int (nI k)), (2, .int (nI 1))] := hl
  refine lv_aload_n X.1 X.2.1 jd_M_told_0 rfl (lv_at hl 0 rfl) ?_
  refine lv_iconst (v := nI 0) X.1 X.2.1 jd_M_told_1 (by decide) ?_
  refine jp_M_66_33 X hap hP hS jd_M_told_2 (fun H locs hP hS => ?_)
  refine lv_iload_n X.1 X.2.1 jd_M_told_5 rfl (lv_at hl 1 rfl) ?_
  refine lv_iconst (v := nI 0) X.1 X.2.1 jd_M_told_6 (by decide) ?_
  refine lv_aload_n X.1 X.2.1 jd_M_told_7 rfl (lv_at hl 0 rfl) ?_
  refine jg_M_123_33 X hP jd_M_told_8 ?_
  refine kn_to (y := n 33 11) (rfl) ?_
  refine lv_iconst (v := nI 1) X.1 X.2.1 jd_M_told_11 (by decide) ?_
  refine lv_isub X.1 X.2.1 jd_M_told_12 ?_
  refine kn_is (y := (((n 33 11) + 4294967296 - 1) % 4294967296)) (kn_subw (by omega)) ?_
  refine j_run (j_mkS X (c_M_withinD l d D a (ku n 33 0 0) g k (n 33 11) (by omega) (by omega)) jU_b (j_pp X hP) jm_714 jm_713 jm_6 jm_712 (show jOk jy_M_within 3 by unfold jOk; decide +kernel) (by decide) ⟨rfl, rfl⟩ hl.1 rfl (Nat.le_of_ble_eq_true rfl) ⟨Nat.zero_le _, Nat.zero_le _⟩ jd_M_told_13) ?_
  refine W.eq (g2 := F0 m 16 ls [.int (nI (if k < n 33 11 then 1 else 0))]) rfl ?_
  refine kn_to (y := 1) (if_pos (by omega)) ?_
  refine kn_ne0 X.1 X.2.1 jd_M_told_16 (tgt := 21) (by decide) (by omega) (fun h16 => ?_) (fun h16 => absurd h16 (by decide))
  refine lv_aload_n X.1 X.2.1 jd_M_told_21 rfl (lv_at hl 0 rfl) ?_
  refine jg_M_54_33 X hP jd_M_told_22 ?_
  refine lv_iload_n X.1 X.2.1 jd_M_told_25 rfl (lv_at hl 1 rfl) ?_
  refine j_ald X hP 47 k (by decide) (show k < 17 from by omega) (by decide) jd_M_told_26 ?_
  refine kn_to (y := n 47 k) (rfl) ?_
  refine lv_istore_n X.1 X.2.1 jd_M_told_27 rfl hl (by decide) rfl (fun ls hl => ?_)
  have hl : lv_has ls 4 [(3, .int (nI (n 47 k))), (0, .ref (a 33)), (1, .int (nI k)), (2, .int (nI 1))] := hl
  refine lv_iload_n X.1 X.2.1 jd_M_told_28 rfl (lv_at hl 3 rfl) ?_
  refine lv_tableIn X.1 X.2.1 jd_M_told_29 (by decide) (by decide) (off := 50) (by decide) (tgt := 79) (by decide) ?_
  refine lv_iload_n X.1 X.2.1 jd_M_told_79 rfl (lv_at hl 0 rfl) ?_
  exact hQ _ _ _ _ _ _ _ (by unfold tlM; first | exact ⟨rfl, rfl, rfl⟩ | (rw [if_neg (by omega), if_neg (by omega), if_neg (by omega), if_neg (by omega), if_neg (by omega)]; exact ⟨rfl, rfl, rfl⟩) | (refine ⟨?_, rfl, rfl⟩; simp []) | (refine ⟨?_, rfl, rfl⟩; simp []; rfl)) hP hS jd_M_told_80

set_option maxHeartbeats 4000000 in
theorem c_M_told_2 (l : Launch) (d : Nat → Nat) (D : va_G) (a : Nat → Nat) (n : Nat → Nat → Nat) (g : Nat → Nat) (hap : ∀ i j : Nat, i < 52 → j < 52 → a i = a j → i = j) (hB : NB n) (k : Nat) (hk : k < n 33 11) (hc : n 33 11 ≤ 16) (hq : n 46 k = 0 → n 47 k ≤ 512)  : jEff l d D a n g jy_M_told jb_M_told 4 (some .int) { frames := 1, cells := 0, slots := 0, locals := 22 } [.ref (a 33), .int (nI k), .int (nI 2)] (fun v9 n2 g2 => some (.int (nI (tlM n k 2))) = v9 ∧ (ku n 33 0 0) = n2 ∧ g = g2) := by
  refine je_I (by decide) (Nat.le_of_ble_eq_true rfl) ?_
  intro p e s m A below meth c ls Q X hP hS hl hQ
  have hl : lv_has ls 4 [(0, .ref (a 33)), (1, .int (nI k)), (2, .int (nI 2))] := hl
  refine lv_aload_n X.1 X.2.1 jd_M_told_0 rfl (lv_at hl 0 rfl) ?_
  refine lv_iconst (v := nI 0) X.1 X.2.1 jd_M_told_1 (by decide) ?_
  refine jp_M_66_33 X hap hP hS jd_M_told_2 (fun H locs hP hS => ?_)
  refine lv_iload_n X.1 X.2.1 jd_M_told_5 rfl (lv_at hl 1 rfl) ?_
  refine lv_iconst (v := nI 0) X.1 X.2.1 jd_M_told_6 (by decide) ?_
  refine lv_aload_n X.1 X.2.1 jd_M_told_7 rfl (lv_at hl 0 rfl) ?_
  refine jg_M_123_33 X hP jd_M_told_8 ?_
  refine kn_to (y := n 33 11) (rfl) ?_
  refine lv_iconst (v := nI 1) X.1 X.2.1 jd_M_told_11 (by decide) ?_
  refine lv_isub X.1 X.2.1 jd_M_told_12 ?_
  refine kn_is (y := (((n 33 11) + 4294967296 - 1) % 4294967296)) (kn_subw (by omega)) ?_
  refine j_run (j_mkS X (c_M_withinD l d D a (ku n 33 0 0) g k (n 33 11) (by omega) (by omega)) jU_b (j_pp X hP) jm_714 jm_713 jm_6 jm_712 (show jOk jy_M_within 3 by unfold jOk; decide +kernel) (by decide) ⟨rfl, rfl⟩ hl.1 rfl (Nat.le_of_ble_eq_true rfl) ⟨Nat.zero_le _, Nat.zero_le _⟩ jd_M_told_13) ?_
  refine W.eq (g2 := F0 m 16 ls [.int (nI (if k < n 33 11 then 1 else 0))]) rfl ?_
  refine kn_to (y := 1) (if_pos (by omega)) ?_
  refine kn_ne0 X.1 X.2.1 jd_M_told_16 (tgt := 21) (by decide) (by omega) (fun h16 => ?_) (fun h16 => absurd h16 (by decide))
  refine lv_aload_n X.1 X.2.1 jd_M_told_21 rfl (lv_at hl 0 rfl) ?_
  refine jg_M_54_33 X hP jd_M_told_22 ?_
  refine lv_iload_n X.1 X.2.1 jd_M_told_25 rfl (lv_at hl 1 rfl) ?_
  refine j_ald X hP 47 k (by decide) (show k < 17 from by omega) (by decide) jd_M_told_26 ?_
  refine kn_to (y := n 47 k) (rfl) ?_
  refine lv_istore_n X.1 X.2.1 jd_M_told_27 rfl hl (by decide) rfl (fun ls hl => ?_)
  have hl : lv_has ls 4 [(3, .int (nI (n 47 k))), (0, .ref (a 33)), (1, .int (nI k)), (2, .int (nI 2))] := hl
  refine lv_iload_n X.1 X.2.1 jd_M_told_28 rfl (lv_at hl 3 rfl) ?_
  refine lv_tableIn X.1 X.2.1 jd_M_told_29 (by decide) (by decide) (off := 52) (by decide) (tgt := 81) (by decide) ?_
  refine lv_aload_n X.1 X.2.1 jd_M_told_81 rfl (lv_at hl 1 rfl) ?_
  refine jg_M_51_33 X hP jd_M_told_82 ?_
  refine lv_iload_n X.1 X.2.1 jd_M_told_85 rfl (lv_at hl 2 rfl) ?_
  refine j_zald X hP 46 k (by decide) (show k < 17 from by omega) (by decide) jd_M_told_86 ?_
  refine kn_to (y := n 46 k) (rfl) ?_
  refine kn_eq0 X.1 X.2.1 jd_M_told_87 (tgt := 99) (by decide) (hB _ _) (fun h87 => ?_) (fun h87 => ?_)
  · skip
    refine lv_aload_n X.1 X.2.1 jd_M_told_99 rfl (lv_at hl 1 rfl) ?_
    refine jg_M_39_33 X hP jd_M_told_100 ?_
    refine lv_iload_n X.1 X.2.1 jd_M_told_103 rfl (lv_at hl 0 rfl) ?_
    refine j_ald X hP 42 (n 47 k) (by decide) (show (n 47 k) < 700 from by have := hq h87; omega) (by decide) jd_M_told_104 ?_
    refine kn_to (y := n 42 (n 47 k)) (rfl) ?_
    exact hQ _ _ _ _ _ _ _ (by unfold tlM; first | exact ⟨rfl, rfl, rfl⟩ | (rw [if_neg (by omega), if_neg (by omega), if_neg (by omega), if_neg (by omega), if_neg (by omega)]; exact ⟨rfl, rfl, rfl⟩) | (refine ⟨?_, rfl, rfl⟩; simp [h87]) | (refine ⟨?_, rfl, rfl⟩; simp [h87]; rfl)) hP hS jd_M_told_105
  · skip
    refine lv_aload_n X.1 X.2.1 jd_M_told_90 rfl (lv_at hl 1 rfl) ?_
    refine jg_M_57_33 X hP jd_M_told_91 ?_
    refine lv_iload_n X.1 X.2.1 jd_M_told_94 rfl (lv_at hl 2 rfl) ?_
    refine j_ald X hP 48 k (by decide) (show k < 17 from by omega) (by decide) jd_M_told_95 ?_
    refine kn_to (y := n 48 k) (rfl) ?_
    refine lv_goto X.1 X.2.1 jd_M_told_96 (tgt := 105) (by decide) ?_
    exact hQ _ _ _ _ _ _ _ (by unfold tlM; first | exact ⟨rfl, rfl, rfl⟩ | (rw [if_neg (by omega), if_neg (by omega), if_neg (by omega), if_neg (by omega), if_neg (by omega)]; exact ⟨rfl, rfl, rfl⟩) | (refine ⟨?_, rfl, rfl⟩; simp [h87]) | (refine ⟨?_, rfl, rfl⟩; simp [h87]; rfl)) hP hS jd_M_told_105

set_option maxHeartbeats 4000000 in
theorem c_M_told_3 (l : Launch) (d : Nat → Nat) (D : va_G) (a : Nat → Nat) (n : Nat → Nat → Nat) (g : Nat → Nat) (hap : ∀ i j : Nat, i < 52 → j < 52 → a i = a j → i = j) (hB : NB n) (k : Nat) (hk : k < n 33 11) (hc : n 33 11 ≤ 16) (hq : n 46 k = 0 → n 47 k ≤ 512)  : jEff l d D a n g jy_M_told jb_M_told 4 (some .int) { frames := 1, cells := 0, slots := 0, locals := 22 } [.ref (a 33), .int (nI k), .int (nI 3)] (fun v9 n2 g2 => some (.int (nI (tlM n k 3))) = v9 ∧ (ku n 33 0 0) = n2 ∧ g = g2) := by
  refine je_I (by decide) (Nat.le_of_ble_eq_true rfl) ?_
  intro p e s m A below meth c ls Q X hP hS hl hQ
  have hl : lv_has ls 4 [(0, .ref (a 33)), (1, .int (nI k)), (2, .int (nI 3))] := hl
  refine lv_aload_n X.1 X.2.1 jd_M_told_0 rfl (lv_at hl 0 rfl) ?_
  refine lv_iconst (v := nI 0) X.1 X.2.1 jd_M_told_1 (by decide) ?_
  refine jp_M_66_33 X hap hP hS jd_M_told_2 (fun H locs hP hS => ?_)
  refine lv_iload_n X.1 X.2.1 jd_M_told_5 rfl (lv_at hl 1 rfl) ?_
  refine lv_iconst (v := nI 0) X.1 X.2.1 jd_M_told_6 (by decide) ?_
  refine lv_aload_n X.1 X.2.1 jd_M_told_7 rfl (lv_at hl 0 rfl) ?_
  refine jg_M_123_33 X hP jd_M_told_8 ?_
  refine kn_to (y := n 33 11) (rfl) ?_
  refine lv_iconst (v := nI 1) X.1 X.2.1 jd_M_told_11 (by decide) ?_
  refine lv_isub X.1 X.2.1 jd_M_told_12 ?_
  refine kn_is (y := (((n 33 11) + 4294967296 - 1) % 4294967296)) (kn_subw (by omega)) ?_
  refine j_run (j_mkS X (c_M_withinD l d D a (ku n 33 0 0) g k (n 33 11) (by omega) (by omega)) jU_b (j_pp X hP) jm_714 jm_713 jm_6 jm_712 (show jOk jy_M_within 3 by unfold jOk; decide +kernel) (by decide) ⟨rfl, rfl⟩ hl.1 rfl (Nat.le_of_ble_eq_true rfl) ⟨Nat.zero_le _, Nat.zero_le _⟩ jd_M_told_13) ?_
  refine W.eq (g2 := F0 m 16 ls [.int (nI (if k < n 33 11 then 1 else 0))]) rfl ?_
  refine kn_to (y := 1) (if_pos (by omega)) ?_
  refine kn_ne0 X.1 X.2.1 jd_M_told_16 (tgt := 21) (by decide) (by omega) (fun h16 => ?_) (fun h16 => absurd h16 (by decide))
  refine lv_aload_n X.1 X.2.1 jd_M_told_21 rfl (lv_at hl 0 rfl) ?_
  refine jg_M_54_33 X hP jd_M_told_22 ?_
  refine lv_iload_n X.1 X.2.1 jd_M_told_25 rfl (lv_at hl 1 rfl) ?_
  refine j_ald X hP 47 k (by decide) (show k < 17 from by omega) (by decide) jd_M_told_26 ?_
  refine kn_to (y := n 47 k) (rfl) ?_
  refine lv_istore_n X.1 X.2.1 jd_M_told_27 rfl hl (by decide) rfl (fun ls hl => ?_)
  have hl : lv_has ls 4 [(3, .int (nI (n 47 k))), (0, .ref (a 33)), (1, .int (nI k)), (2, .int (nI 3))] := hl
  refine lv_iload_n X.1 X.2.1 jd_M_told_28 rfl (lv_at hl 3 rfl) ?_
  refine lv_tableIn X.1 X.2.1 jd_M_told_29 (by decide) (by decide) (off := 77) (by decide) (tgt := 106) (by decide) ?_
  refine lv_aload_n X.1 X.2.1 jd_M_told_106 rfl (lv_at hl 1 rfl) ?_
  refine jg_M_51_33 X hP jd_M_told_107 ?_
  refine lv_iload_n X.1 X.2.1 jd_M_told_110 rfl (lv_at hl 2 rfl) ?_
  refine j_zald X hP 46 k (by decide) (show k < 17 from by omega) (by decide) jd_M_told_111 ?_
  refine kn_to (y := n 46 k) (rfl) ?_
  refine kn_eq0 X.1 X.2.1 jd_M_told_112 (tgt := 119) (by decide) (hB _ _) (fun h112 => ?_) (fun h112 => ?_)
  · skip
    refine lv_aload_n X.1 X.2.1 jd_M_told_119 rfl (lv_at hl 1 rfl) ?_
    refine jg_M_42_33 X hP jd_M_told_120 ?_
    refine lv_iload_n X.1 X.2.1 jd_M_told_123 rfl (lv_at hl 0 rfl) ?_
    refine j_ald X hP 43 (n 47 k) (by decide) (show (n 47 k) < 700 from by have := hq h112; omega) (by decide) jd_M_told_124 ?_
    refine kn_to (y := n 43 (n 47 k)) (rfl) ?_
    exact hQ _ _ _ _ _ _ _ (by unfold tlM; first | exact ⟨rfl, rfl, rfl⟩ | (rw [if_neg (by omega), if_neg (by omega), if_neg (by omega), if_neg (by omega), if_neg (by omega)]; exact ⟨rfl, rfl, rfl⟩) | (refine ⟨?_, rfl, rfl⟩; simp [h112]) | (refine ⟨?_, rfl, rfl⟩; simp [h112]; rfl)) hP hS jd_M_told_125
  · skip
    refine lv_iconst (v := nI 4294967295) X.1 X.2.1 jd_M_told_115 (by decide) ?_
    refine lv_goto X.1 X.2.1 jd_M_told_116 (tgt := 125) (by decide) ?_
    exact hQ _ _ _ _ _ _ _ (by unfold tlM; first | exact ⟨rfl, rfl, rfl⟩ | (rw [if_neg (by omega), if_neg (by omega), if_neg (by omega), if_neg (by omega), if_neg (by omega)]; exact ⟨rfl, rfl, rfl⟩) | (refine ⟨?_, rfl, rfl⟩; simp [h112]) | (refine ⟨?_, rfl, rfl⟩; simp [h112]; rfl)) hP hS jd_M_told_125

set_option maxHeartbeats 4000000 in
theorem c_M_told_4 (l : Launch) (d : Nat → Nat) (D : va_G) (a : Nat → Nat) (n : Nat → Nat → Nat) (g : Nat → Nat) (hap : ∀ i j : Nat, i < 52 → j < 52 → a i = a j → i = j) (hB : NB n) (k : Nat) (hk : k < n 33 11) (hc : n 33 11 ≤ 16) (hq : n 46 k = 0 → n 47 k ≤ 512)  : jEff l d D a n g jy_M_told jb_M_told 4 (some .int) { frames := 1, cells := 0, slots := 0, locals := 22 } [.ref (a 33), .int (nI k), .int (nI 4)] (fun v9 n2 g2 => some (.int (nI (tlM n k 4))) = v9 ∧ (ku n 33 0 0) = n2 ∧ g = g2) := by
  refine je_I (by decide) (Nat.le_of_ble_eq_true rfl) ?_
  intro p e s m A below meth c ls Q X hP hS hl hQ
  have hl : lv_has ls 4 [(0, .ref (a 33)), (1, .int (nI k)), (2, .int (nI 4))] := hl
  refine lv_aload_n X.1 X.2.1 jd_M_told_0 rfl (lv_at hl 0 rfl) ?_
  refine lv_iconst (v := nI 0) X.1 X.2.1 jd_M_told_1 (by decide) ?_
  refine jp_M_66_33 X hap hP hS jd_M_told_2 (fun H locs hP hS => ?_)
  refine lv_iload_n X.1 X.2.1 jd_M_told_5 rfl (lv_at hl 1 rfl) ?_
  refine lv_iconst (v := nI 0) X.1 X.2.1 jd_M_told_6 (by decide) ?_
  refine lv_aload_n X.1 X.2.1 jd_M_told_7 rfl (lv_at hl 0 rfl) ?_
  refine jg_M_123_33 X hP jd_M_told_8 ?_
  refine kn_to (y := n 33 11) (rfl) ?_
  refine lv_iconst (v := nI 1) X.1 X.2.1 jd_M_told_11 (by decide) ?_
  refine lv_isub X.1 X.2.1 jd_M_told_12 ?_
  refine kn_is (y := (((n 33 11) + 4294967296 - 1) % 4294967296)) (kn_subw (by omega)) ?_
  refine j_run (j_mkS X (c_M_withinD l d D a (ku n 33 0 0) g k (n 33 11) (by omega) (by omega)) jU_b (j_pp X hP) jm_714 jm_713 jm_6 jm_712 (show jOk jy_M_within 3 by unfold jOk; decide +kernel) (by decide) ⟨rfl, rfl⟩ hl.1 rfl (Nat.le_of_ble_eq_true rfl) ⟨Nat.zero_le _, Nat.zero_le _⟩ jd_M_told_13) ?_
  refine W.eq (g2 := F0 m 16 ls [.int (nI (if k < n 33 11 then 1 else 0))]) rfl ?_
  refine kn_to (y := 1) (if_pos (by omega)) ?_
  refine kn_ne0 X.1 X.2.1 jd_M_told_16 (tgt := 21) (by decide) (by omega) (fun h16 => ?_) (fun h16 => absurd h16 (by decide))
  refine lv_aload_n X.1 X.2.1 jd_M_told_21 rfl (lv_at hl 0 rfl) ?_
  refine jg_M_54_33 X hP jd_M_told_22 ?_
  refine lv_iload_n X.1 X.2.1 jd_M_told_25 rfl (lv_at hl 1 rfl) ?_
  refine j_ald X hP 47 k (by decide) (show k < 17 from by omega) (by decide) jd_M_told_26 ?_
  refine kn_to (y := n 47 k) (rfl) ?_
  refine lv_istore_n X.1 X.2.1 jd_M_told_27 rfl hl (by decide) rfl (fun ls hl => ?_)
  have hl : lv_has ls 4 [(3, .int (nI (n 47 k))), (0, .ref (a 33)), (1, .int (nI k)), (2, .int (nI 4))] := hl
  refine lv_iload_n X.1 X.2.1 jd_M_told_28 rfl (lv_at hl 3 rfl) ?_
  refine lv_tableIn X.1 X.2.1 jd_M_told_29 (by decide) (by decide) (off := 97) (by decide) (tgt := 126) (by decide) ?_
  refine lv_aload_n X.1 X.2.1 jd_M_told_126 rfl (lv_at hl 1 rfl) ?_
  refine jg_M_51_33 X hP jd_M_told_127 ?_
  refine lv_iload_n X.1 X.2.1 jd_M_told_130 rfl (lv_at hl 2 rfl) ?_
  refine j_zald X hP 46 k (by decide) (show k < 17 from by omega) (by decide) jd_M_told_131 ?_
  refine kn_to (y := n 46 k) (rfl) ?_
  refine kn_eq0 X.1 X.2.1 jd_M_told_132 (tgt := 139) (by decide) (hB _ _) (fun h132 => ?_) (fun h132 => ?_)
  · skip
    refine lv_aload_n X.1 X.2.1 jd_M_told_139 rfl (lv_at hl 1 rfl) ?_
    refine jg_M_45_33 X hP jd_M_told_140 ?_
    refine lv_iload_n X.1 X.2.1 jd_M_told_143 rfl (lv_at hl 0 rfl) ?_
    refine j_ald X hP 44 (n 47 k) (by decide) (show (n 47 k) < 700 from by have := hq h132; omega) (by decide) jd_M_told_144 ?_
    refine kn_to (y := n 44 (n 47 k)) (rfl) ?_
    exact hQ _ _ _ _ _ _ _ (by unfold tlM; first | exact ⟨rfl, rfl, rfl⟩ | (rw [if_neg (by omega), if_neg (by omega), if_neg (by omega), if_neg (by omega), if_neg (by omega)]; exact ⟨rfl, rfl, rfl⟩) | (refine ⟨?_, rfl, rfl⟩; simp [h132]) | (refine ⟨?_, rfl, rfl⟩; simp [h132]; rfl)) hP hS jd_M_told_145
  · skip
    refine lv_iconst (v := nI 4294967295) X.1 X.2.1 jd_M_told_135 (by decide) ?_
    refine lv_goto X.1 X.2.1 jd_M_told_136 (tgt := 145) (by decide) ?_
    exact hQ _ _ _ _ _ _ _ (by unfold tlM; first | exact ⟨rfl, rfl, rfl⟩ | (rw [if_neg (by omega), if_neg (by omega), if_neg (by omega), if_neg (by omega), if_neg (by omega)]; exact ⟨rfl, rfl, rfl⟩) | (refine ⟨?_, rfl, rfl⟩; simp [h132]) | (refine ⟨?_, rfl, rfl⟩; simp [h132]; rfl)) hP hS jd_M_told_145

set_option maxHeartbeats 4000000 in
theorem c_M_told_9 (l : Launch) (d : Nat → Nat) (D : va_G) (a : Nat → Nat) (n : Nat → Nat → Nat) (g : Nat → Nat) (hap : ∀ i j : Nat, i < 52 → j < 52 → a i = a j → i = j) (hB : NB n) (k : Nat) (hk : k < n 33 11) (hc : n 33 11 ≤ 16) (hq : n 46 k = 0 → n 47 k ≤ 512) (x : Nat) (hx : x < 4294967296) (hx5 : 5 ≤ x)  : jEff l d D a n g jy_M_told jb_M_told 4 (some .int) { frames := 1, cells := 0, slots := 0, locals := 22 } [.ref (a 33), .int (nI k), .int (nI x)] (fun v9 n2 g2 => some (.int (nI (tlM n k x))) = v9 ∧ (ku n 33 0 0) = n2 ∧ g = g2) := by
  refine je_I (by decide) (Nat.le_of_ble_eq_true rfl) ?_
  intro p e s m A below meth c ls Q X hP hS hl hQ
  have hl : lv_has ls 4 [(0, .ref (a 33)), (1, .int (nI k)), (2, .int (nI x))] := hl
  refine lv_aload_n X.1 X.2.1 jd_M_told_0 rfl (lv_at hl 0 rfl) ?_
  refine lv_iconst (v := nI 0) X.1 X.2.1 jd_M_told_1 (by decide) ?_
  refine jp_M_66_33 X hap hP hS jd_M_told_2 (fun H locs hP hS => ?_)
  refine lv_iload_n X.1 X.2.1 jd_M_told_5 rfl (lv_at hl 1 rfl) ?_
  refine lv_iconst (v := nI 0) X.1 X.2.1 jd_M_told_6 (by decide) ?_
  refine lv_aload_n X.1 X.2.1 jd_M_told_7 rfl (lv_at hl 0 rfl) ?_
  refine jg_M_123_33 X hP jd_M_told_8 ?_
  refine kn_to (y := n 33 11) (rfl) ?_
  refine lv_iconst (v := nI 1) X.1 X.2.1 jd_M_told_11 (by decide) ?_
  refine lv_isub X.1 X.2.1 jd_M_told_12 ?_
  refine kn_is (y := (((n 33 11) + 4294967296 - 1) % 4294967296)) (kn_subw (by omega)) ?_
  refine j_run (j_mkS X (c_M_withinD l d D a (ku n 33 0 0) g k (n 33 11) (by omega) (by omega)) jU_b (j_pp X hP) jm_714 jm_713 jm_6 jm_712 (show jOk jy_M_within 3 by unfold jOk; decide +kernel) (by decide) ⟨rfl, rfl⟩ hl.1 rfl (Nat.le_of_ble_eq_true rfl) ⟨Nat.zero_le _, Nat.zero_le _⟩ jd_M_told_13) ?_
  refine W.eq (g2 := F0 m 16 ls [.int (nI (if k < n 33 11 then 1 else 0))]) rfl ?_
  refine kn_to (y := 1) (if_pos (by omega)) ?_
  refine kn_ne0 X.1 X.2.1 jd_M_told_16 (tgt := 21) (by decide) (by omega) (fun h16 => ?_) (fun h16 => absurd h16 (by decide))
  refine lv_aload_n X.1 X.2.1 jd_M_told_21 rfl (lv_at hl 0 rfl) ?_
  refine jg_M_54_33 X hP jd_M_told_22 ?_
  refine lv_iload_n X.1 X.2.1 jd_M_told_25 rfl (lv_at hl 1 rfl) ?_
  refine j_ald X hP 47 k (by decide) (show k < 17 from by omega) (by decide) jd_M_told_26 ?_
  refine kn_to (y := n 47 k) (rfl) ?_
  refine lv_istore_n X.1 X.2.1 jd_M_told_27 rfl hl (by decide) rfl (fun ls hl => ?_)
  have hl : lv_has ls 4 [(3, .int (nI (n 47 k))), (0, .ref (a 33)), (1, .int (nI k)), (2, .int (nI x))] := hl
  refine lv_iload_n X.1 X.2.1 jd_M_told_28 rfl (lv_at hl 3 rfl) ?_
  refine lv_tableOut X.1 X.2.1 jd_M_told_29 (by rw [kn_toInt hx]; split <;> omega) (tgt := 146) (by decide) ?_
  refine lv_iconst (v := nI 4294967295) X.1 X.2.1 jd_M_told_146 (by decide) ?_
  exact hQ _ _ _ _ _ _ _ (by unfold tlM; first | exact ⟨rfl, rfl, rfl⟩ | (rw [if_neg (by omega), if_neg (by omega), if_neg (by omega), if_neg (by omega), if_neg (by omega)]; exact ⟨rfl, rfl, rfl⟩) | (refine ⟨?_, rfl, rfl⟩; simp []) | (refine ⟨?_, rfl, rfl⟩; simp []; rfl)) hP hS jd_M_told_147

theorem c_M_told (l : Launch) (d : Nat → Nat) (D : va_G) (a : Nat → Nat) (n : Nat → Nat → Nat) (g : Nat → Nat) (hap : ∀ i j : Nat, i < 52 → j < 52 → a i = a j → i = j) (hB : NB n) (k : Nat) (hk : k < n 33 11) (hc : n 33 11 ≤ 16) (hq : n 46 k = 0 → n 47 k ≤ 512) (x : Nat) (hx : x < 4294967296) : jEff l d D a n g jy_M_told jb_M_told 4 (some .int) { frames := 1, cells := 0, slots := 0, locals := 22 } [.ref (a 33), .int (nI k), .int (nI x)] (fun v9 n2 g2 => some (.int (nI (tlM n k x))) = v9 ∧ ku n 33 0 0 = n2 ∧ g = g2) := by
  rcases (show x = 0 ∨ x = 1 ∨ x = 2 ∨ x = 3 ∨ x = 4 ∨ 5 ≤ x by omega) with rfl | rfl | rfl | rfl | rfl | h
  · exact c_M_told_0 l d D a n g hap hB k hk hc hq
  · exact c_M_told_1 l d D a n g hap hB k hk hc hq
  · exact c_M_told_2 l d D a n g hap hB k hk hc hq
  · exact c_M_told_3 l d D a n g hap hB k hk hc hq
  · exact c_M_told_4 l d D a n g hap hB k hk hc hq
  · exact c_M_told_9 l d D a n g hap hB k hk hc hq x hx h

set_option maxHeartbeats 4000000 in
theorem c_M_told_x (l : Launch) (d : Nat → Nat) (D : va_G) (a : Nat → Nat) (n : Nat → Nat → Nat) (g : Nat → Nat) (hap : ∀ i j : Nat, i < 52 → j < 52 → a i = a j → i = j) (k x : Nat) (hk : k < 4294967296) (hkc : ¬ k < n 33 11) (hc : n 33 11 ≤ 16) : jEff l d D a n g jy_M_told jb_M_told 4 (some .int) { frames := 1, cells := 0, slots := 0, locals := 22 } [.ref (a 33), .int (nI k), .int (nI x)] (fun v9 n2 g2 => some (.int (nI 4294967295)) = v9 ∧ (ku n 33 0 0) = n2 ∧ g = g2) := by
  refine je_I (by decide) (Nat.le_of_ble_eq_true rfl) ?_
  intro p e s m A below meth c ls Q X hP hS hl hQ
  have hl : lv_has ls 4 [(0, .ref (a 33)), (1, .int (nI k)), (2, .int (nI x))] := hl
  refine lv_aload_n X.1 X.2.1 jd_M_told_0 rfl (lv_at hl 0 rfl) ?_
  refine lv_iconst (v := nI 0) X.1 X.2.1 jd_M_told_1 (by decide) ?_
  refine jp_M_66_33 X hap hP hS jd_M_told_2 (fun H locs hP hS => ?_)
  refine lv_iload_n X.1 X.2.1 jd_M_told_5 rfl (lv_at hl 1 rfl) ?_
  refine lv_iconst (v := nI 0) X.1 X.2.1 jd_M_told_6 (by decide) ?_
  refine lv_aload_n X.1 X.2.1 jd_M_told_7 rfl (lv_at hl 0 rfl) ?_
  refine jg_M_123_33 X hP jd_M_told_8 ?_
  refine kn_to (y := n 33 11) (rfl) ?_
  refine lv_iconst (v := nI 1) X.1 X.2.1 jd_M_told_11 (by decide) ?_
  refine lv_isub X.1 X.2.1 jd_M_told_12 ?_
  refine kn_is (y := (((n 33 11) + 4294967296 - 1) % 4294967296)) (kn_subw (by omega)) ?_
  refine j_run (j_mkS X (c_M_withinD l d D a (ku n 33 0 0) g k (n 33 11) (by omega) (by omega)) jU_b (j_pp X hP) jm_714 jm_713 jm_6 jm_712 (show jOk jy_M_within 3 by unfold jOk; decide +kernel) (by decide) ⟨rfl, rfl⟩ hl.1 rfl (Nat.le_of_ble_eq_true rfl) ⟨Nat.zero_le _, Nat.zero_le _⟩ jd_M_told_13) ?_
  refine W.eq (g2 := F0 m 16 ls [.int (nI (if k < n 33 11 then 1 else 0))]) rfl ?_
  refine kn_to (y := 0) (if_neg (by omega)) ?_
  refine kn_ne0 X.1 X.2.1 jd_M_told_16 (tgt := 21) (by decide) (by omega) (fun h16 => absurd h16 (by decide)) (fun h16 => ?_)
  refine lv_iconst (v := nI 4294967295) X.1 X.2.1 jd_M_told_19 (by decide) ?_
  exact hQ _ _ _ _ _ _ _ (⟨rfl, rfl, rfl⟩) hP hS jd_M_told_20

set_option maxHeartbeats 4000000 in
theorem c_M_tick_1 (l : Launch) (d : Nat → Nat) (D : va_G) (a : Nat → Nat) (n : Nat → Nat → Nat) (g : Nat → Nat) (hap : ∀ i j : Nat, i < 52 → j < 52 → a i = a j → i = j) (hB : NB n) (hb : n 33 5 = 0) : jEff l d D a n g jy_M_tick jb_M_tick 1 (some .int) { frames := 1, cells := 0, slots := 0, locals := 23 } [.ref (a 33)] (fun v9 n2 g2 => some (.int (nI 0)) = v9 ∧ ku n 33 0 1 = n2 ∧ g = g2) := by
  refine je_I (by decide) (Nat.le_of_ble_eq_true rfl) ?_
  intro p e s m A below meth c ls Q X hP hS hl hQ
  have hl : lv_has ls 1 [(0, .ref (a 33))] := hl
  refine lv_aload_n X.1 X.2.1 jd_M_tick_0 rfl (lv_at hl 0 rfl) ?_
  refine lv_aload_n X.1 X.2.1 jd_M_tick_1 rfl (lv_at hl 0 rfl) ?_
  refine jg_M_104_33 X hP jd_M_tick_2 ?_
  refine kn_to (y := 0) (hb) ?_
  refine kn_eq0 X.1 X.2.1 jd_M_tick_5 (tgt := 12) (by decide) (by omega) (fun h5 => ?_) (fun h5 => absurd h5 (by omega))
  refine lv_iconst (v := nI 1) X.1 X.2.1 jd_M_tick_12 (by decide) ?_
  refine jp_M_66_33 X hap hP hS jd_M_tick_13 (fun H locs hP hS => ?_)
  refine lv_aload_n X.1 X.2.1 jd_M_tick_16 rfl (lv_at hl 0 rfl) ?_
  refine jg_M_66_33 X hP jd_M_tick_17 ?_
  refine kn_to (y := 1) (rfl) ?_
  refine kn_ne0 X.1 X.2.1 jd_M_tick_20 (tgt := 44) (by decide) (by omega) (fun h20 => ?_) (fun h20 => absurd h20 (by omega))
  refine lv_aload_n X.1 X.2.1 jd_M_tick_44 rfl (lv_at hl 0 rfl) ?_
  refine jg_M_104_33 X hP jd_M_tick_45 ?_
  refine kn_to (y := 0) (hb) ?_
  refine kn_eq0 X.1 X.2.1 jd_M_tick_48 (tgt := 58) (by decide) (by omega) (fun h48 => ?_) (fun h48 => absurd h48 (by omega))
  refine lv_iconst (v := nI 0) X.1 X.2.1 jd_M_tick_58 (by decide) ?_
  exact hQ _ _ _ _ _ _ _ (⟨rfl, rfl, rfl⟩) hP hS jd_M_tick_59

set_option maxHeartbeats 4000000 in
theorem c_M_tick_a (l : Launch) (d : Nat → Nat) (D : va_G) (a : Nat → Nat) (n : Nat → Nat → Nat) (g : Nat → Nat) (hap : ∀ i j : Nat, i < 52 → j < 52 → a i = a j → i = j) (hB : NB n) (hb : ¬ n 33 5 = 0) (hc : n 33 11 ≤ 16) (h98 : n 33 9 < n 33 8) (hq : n 33 8 ≤ 512) : jEff l d D a n g jy_M_tick jb_M_tick 1 (some .int) { frames := 1, cells := 0, slots := 0, locals := 23 } [.ref (a 33)] (fun v9 n2 g2 => some (.int (nI (sdM (ku n 33 0 0) 0 (n 33 8) 0 33 11))) = v9 ∧ sdM (ku n 33 0 0) 0 (n 33 8) 0 = n2 ∧ g = g2) := by
  refine je_I (by decide) (Nat.le_of_ble_eq_true rfl) ?_
  intro p e s m A below meth c ls Q X hP hS hl hQ
  have hl : lv_has ls 1 [(0, .ref (a 33))] := hl
  refine lv_aload_n X.1 X.2.1 jd_M_tick_0 rfl (lv_at hl 0 rfl) ?_
  refine lv_aload_n X.1 X.2.1 jd_M_tick_1 rfl (lv_at hl 0 rfl) ?_
  refine jg_M_104_33 X hP jd_M_tick_2 ?_
  refine kn_eq0 X.1 X.2.1 jd_M_tick_5 (tgt := 12) (by decide) (hB _ _) (fun h5 => absurd h5 (hb)) (fun h5 => ?_)
  refine lv_iconst (v := nI 0) X.1 X.2.1 jd_M_tick_8 (by decide) ?_
  refine lv_goto X.1 X.2.1 jd_M_tick_9 (tgt := 13) (by decide) ?_
  refine jp_M_66_33 X hap hP hS jd_M_tick_13 (fun H locs hP hS => ?_)
  refine lv_aload_n X.1 X.2.1 jd_M_tick_16 rfl (lv_at hl 0 rfl) ?_
  refine jg_M_66_33 X hP jd_M_tick_17 ?_
  refine kn_to (y := 0) (rfl) ?_
  refine kn_ne0 X.1 X.2.1 jd_M_tick_20 (tgt := 44) (by decide) (by omega) (fun h20 => absurd h20 (by omega)) (fun h20 => ?_)
  refine lv_aload_n X.1 X.2.1 jd_M_tick_23 rfl (lv_at hl 0 rfl) ?_
  refine jg_M_126_33 X hP jd_M_tick_24 ?_
  refine kn_to (y := n 33 9) (rfl) ?_
  refine lv_aload_n X.1 X.2.1 jd_M_tick_27 rfl (lv_at hl 0 rfl) ?_
  refine jg_M_129_33 X hP jd_M_tick_28 ?_
  refine kn_to (y := n 33 8) (rfl) ?_
  refine kn_cge X.1 X.2.1 jd_M_tick_31 (tgt := 44) (by decide) (by omega) (fun h31 => absurd h31 (by omega)) (fun h31 => ?_)
  refine lv_aload_n X.1 X.2.1 jd_M_tick_34 rfl (lv_at hl 0 rfl) ?_
  refine lv_iconst (v := nI 0) X.1 X.2.1 jd_M_tick_35 (by decide) ?_
  refine lv_aload_n X.1 X.2.1 jd_M_tick_36 rfl (lv_at hl 0 rfl) ?_
  refine jg_M_129_33 X hP jd_M_tick_37 ?_
  refine kn_to (y := n 33 8) (rfl) ?_
  refine lv_iconst (v := nI 0) X.1 X.2.1 jd_M_tick_40 (by decide) ?_
  refine j_rune (j_mkV X hP (c_M_sendF l d D a (ku n 33 0 0) g hap 0 (n 33 8) 0 (by decide) hc _) jU_bs (j_pe X hP) jm_781 jm_780 js_49 jm_6 jm_778 (by decide) rfl rfl (show jOk jy_M_send 3 by unfold jOk; decide +kernel) (by decide) ⟨rfl, rfl⟩ hl.1 rfl (Nat.le_of_ble_eq_true rfl) ⟨Nat.zero_le _, Nat.zero_le _⟩ jd_M_tick_41) hS (fun v41 n41 g41 H locs h41 hP hS => ?_)
  obtain ⟨rfl, rfl, rfl⟩ := h41
  have eb5 : sdM (ku n 33 0 0) 0 (n 33 8) 0 33 5 = n 33 5 := by unfold sdM; split <;> rfl
  have hb5 : ¬ sdM (ku n 33 0 0) 0 (n 33 8) 0 33 5 = 0 := by rw [eb5]; exact hb
  refine W.eq (g2 := F0 m 44 ls []) rfl ?_
  refine lv_aload_n X.1 X.2.1 jd_M_tick_44 rfl (lv_at hl 0 rfl) ?_
  refine jg_M_104_33 X hP jd_M_tick_45 ?_
  refine kn_eq0 X.1 X.2.1 jd_M_tick_48 (tgt := 58) (by decide) (by rw [eb5]; exact hB _ _) (fun h48 => absurd h48 (hb5)) (fun h48 => ?_)
  refine lv_aload_n X.1 X.2.1 jd_M_tick_51 rfl (lv_at hl 0 rfl) ?_
  refine jg_M_123_33 X hP jd_M_tick_52 ?_
  refine lv_goto X.1 X.2.1 jd_M_tick_55 (tgt := 59) (by decide) ?_
  exact hQ _ _ _ _ _ _ _ (⟨rfl, rfl, rfl⟩) hP hS jd_M_tick_59

set_option maxHeartbeats 4000000 in
theorem c_M_tick_b (l : Launch) (d : Nat → Nat) (D : va_G) (a : Nat → Nat) (n : Nat → Nat → Nat) (g : Nat → Nat) (hap : ∀ i j : Nat, i < 52 → j < 52 → a i = a j → i = j) (hB : NB n) (hb : ¬ n 33 5 = 0) (h98 : ¬ n 33 9 < n 33 8) (hq : n 33 9 ≤ 512) : jEff l d D a n g jy_M_tick jb_M_tick 1 (some .int) { frames := 1, cells := 0, slots := 0, locals := 23 } [.ref (a 33)] (fun v9 n2 g2 => some (.int (nI (n 33 11))) = v9 ∧ ku n 33 0 0 = n2 ∧ g = g2) := by
  refine je_I (by decide) (Nat.le_of_ble_eq_true rfl) ?_
  intro p e s m A below meth c ls Q X hP hS hl hQ
  have hl : lv_has ls 1 [(0, .ref (a 33))] := hl
  refine lv_aload_n X.1 X.2.1 jd_M_tick_0 rfl (lv_at hl 0 rfl) ?_
  refine lv_aload_n X.1 X.2.1 jd_M_tick_1 rfl (lv_at hl 0 rfl) ?_
  refine jg_M_104_33 X hP jd_M_tick_2 ?_
  refine kn_eq0 X.1 X.2.1 jd_M_tick_5 (tgt := 12) (by decide) (hB _ _) (fun h5 => absurd h5 (hb)) (fun h5 => ?_)
  refine lv_iconst (v := nI 0) X.1 X.2.1 jd_M_tick_8 (by decide) ?_
  refine lv_goto X.1 X.2.1 jd_M_tick_9 (tgt := 13) (by decide) ?_
  refine jp_M_66_33 X hap hP hS jd_M_tick_13 (fun H locs hP hS => ?_)
  refine lv_aload_n X.1 X.2.1 jd_M_tick_16 rfl (lv_at hl 0 rfl) ?_
  refine jg_M_66_33 X hP jd_M_tick_17 ?_
  refine kn_to (y := 0) (rfl) ?_
  refine kn_ne0 X.1 X.2.1 jd_M_tick_20 (tgt := 44) (by decide) (by omega) (fun h20 => absurd h20 (by omega)) (fun h20 => ?_)
  refine lv_aload_n X.1 X.2.1 jd_M_tick_23 rfl (lv_at hl 0 rfl) ?_
  refine jg_M_126_33 X hP jd_M_tick_24 ?_
  refine kn_to (y := n 33 9) (rfl) ?_
  refine lv_aload_n X.1 X.2.1 jd_M_tick_27 rfl (lv_at hl 0 rfl) ?_
  refine jg_M_129_33 X hP jd_M_tick_28 ?_
  refine kn_to (y := n 33 8) (rfl) ?_
  refine kn_cge X.1 X.2.1 jd_M_tick_31 (tgt := 44) (by decide) (by omega) (fun h31 => ?_) (fun h31 => absurd h31 (by omega))
  refine lv_aload_n X.1 X.2.1 jd_M_tick_44 rfl (lv_at hl 0 rfl) ?_
  refine jg_M_104_33 X hP jd_M_tick_45 ?_
  refine kn_to (y := n 33 5) (rfl) ?_
  refine kn_eq0 X.1 X.2.1 jd_M_tick_48 (tgt := 58) (by decide) (hB _ _) (fun h48 => absurd h48 (hb)) (fun h48 => ?_)
  refine lv_aload_n X.1 X.2.1 jd_M_tick_51 rfl (lv_at hl 0 rfl) ?_
  refine jg_M_123_33 X hP jd_M_tick_52 ?_
  refine kn_to (y := n 33 11) (rfl) ?_
  refine lv_goto X.1 X.2.1 jd_M_tick_55 (tgt := 59) (by decide) ?_
  exact hQ _ _ _ _ _ _ _ (⟨rfl, rfl, rfl⟩) hP hS jd_M_tick_59

set_option maxHeartbeats 4000000 in
theorem c_M_comes_0 (l : Launch) (d : Nat → Nat) (D : va_G) (a : Nat → Nat) (n : Nat → Nat → Nat) (g : Nat → Nat) (hap : ∀ i j : Nat, i < 52 → j < 52 → a i = a j → i = j) (q b : Nat) (hq : 1 ≤ q ∧ q ≤ 512) (h42 : n 42 q < 4) (hf : n 43 q ≤ n 44 q) (ht : n 44 q ≤ n 33 2) (hn : n 33 2 ≤ 128) (hd : n 33 10 ≤ 512) (hc : n 33 11 ≤ 16) (ho : ∀ p i, p < 4 → i < n 33 2 → mO n p i < 128) : jEff l d D a n g jy_M_comes jb_M_comes 4 none { frames := 4, cells := 0, slots := 0, locals := 95 } [.ref (a 33), .int (nI 0), .int (nI q), .int (nI b)] (fun v9 n2 g2 => none = v9 ∧ anM n q = n2 ∧ g = g2) := by
  refine je_V (by decide) (Nat.le_of_ble_eq_true rfl) ?_
  intro p e s m A below meth c ls Q X hP hS hl hQ
  have hl : lv_has ls 4 [(0, .ref (a 33)), (1, .int (nI 0)), (2, .int (nI q)), (3, .int (nI b))] := hl
  refine lv_iload_n X.1 X.2.1 jd_M_comes_0 rfl (lv_at hl 1 rfl) ?_
  refine kn_ne0 X.1 X.2.1 jd_M_comes_1 (tgt := 56) (by decide) (by omega) (fun h1 => absurd h1 (by omega)) (fun h1 => ?_)
  refine lv_aload_n X.1 X.2.1 jd_M_comes_4 rfl (lv_at hl 0 rfl) ?_
  refine lv_iload_n X.1 X.2.1 jd_M_comes_5 rfl (lv_at hl 2 rfl) ?_
  refine lv_aload_n X.1 X.2.1 jd_M_comes_6 rfl (lv_at hl 0 rfl) ?_
  refine jg_M_166_33 X hP jd_M_comes_7 ?_
  refine kn_cle X.1 X.2.1 jd_M_comes_10 (tgt := 17) (by decide) (by omega) (fun h10 => ?_) (fun h10 => ?_)
  · skip
    refine lv_aload_n X.1 X.2.1 jd_M_comes_17 rfl (lv_at hl 0 rfl) ?_
    refine jg_M_166_33 X hP jd_M_comes_18 ?_
    refine jp_M_166_33 X hap hP hS jd_M_comes_21 (fun H locs hP hS => ?_)
    have hP : va_P D jCl (jW d a (ku n 33 10 (if n 33 10 < q then q else n 33 10)) g) H := by first | (rw [if_pos (by omega)]; exact hP) | (rw [if_neg (by omega)]; exact hP)
    refine lv_aload_n X.1 X.2.1 jd_M_comes_24 rfl (lv_at hl 0 rfl) ?_
    refine lv_iconst (v := nI 1) X.1 X.2.1 jd_M_comes_25 (by decide) ?_
    refine lv_iload_n X.1 X.2.1 jd_M_comes_26 rfl (lv_at hl 2 rfl) ?_
    refine lv_aload_n X.1 X.2.1 jd_M_comes_27 rfl (lv_at hl 0 rfl) ?_
    refine lv_iconst (v := nI 0) X.1 X.2.1 jd_M_comes_28 (by decide) ?_
    refine lv_aload_n X.1 X.2.1 jd_M_comes_29 rfl (lv_at hl 0 rfl) ?_
    refine jg_M_39_33 X hP jd_M_comes_30 ?_
    refine lv_iload_n X.1 X.2.1 jd_M_comes_33 rfl (lv_at hl 2 rfl) ?_
    refine j_ald X hP 42 q (by decide) (show q < 700 from by omega) (by decide) jd_M_comes_34 ?_
    refine kn_to (y := n 42 q) (rfl) ?_
    refine lv_aload_n X.1 X.2.1 jd_M_comes_35 rfl (lv_at hl 0 rfl) ?_
    refine jg_M_42_33 X hP jd_M_comes_36 ?_
    refine lv_iload_n X.1 X.2.1 jd_M_comes_39 rfl (lv_at hl 2 rfl) ?_
    refine j_ald X hP 43 q (by decide) (show q < 700 from by omega) (by decide) jd_M_comes_40 ?_
    refine kn_to (y := n 43 q) (rfl) ?_
    refine lv_aload_n X.1 X.2.1 jd_M_comes_41 rfl (lv_at hl 0 rfl) ?_
    refine jg_M_45_33 X hP jd_M_comes_42 ?_
    refine lv_iload_n X.1 X.2.1 jd_M_comes_45 rfl (lv_at hl 2 rfl) ?_
    refine j_ald X hP 44 q (by decide) (show q < 700 from by omega) (by decide) jd_M_comes_46 ?_
    refine kn_to (y := n 44 q) (rfl) ?_
    refine j_run (j_mkV X hP (c_M_parityAt l d D a (ku n 33 10 (if n 33 10 < q then q else n 33 10)) g 0 (n 42 q) (n 43 q) (n 44 q) (by decide) h42 hf (by omega) (fun i hi => ho _ _ h42 (by omega))) jU_b (j_pp X hP) jm_789 jm_788 js_51 jm_6 jm_786 (by decide) rfl rfl (show jOk jy_M_parityAt 4 by unfold jOk; decide +kernel) (by decide) ⟨rfl, rfl⟩ hl.1 rfl (Nat.le_of_ble_eq_true rfl) ⟨Nat.zero_le _, Nat.zero_le _⟩ jd_M_comes_47) ?_
    refine W.eq (g2 := F0 m 50 ls [.int (nI (pnM (ku n 33 10 (if n 33 10 < q then q else n 33 10)) q)), .int (nI q), .int (nI 1), .ref (a 33)]) rfl ?_
    refine j_rune (j_mkV X hP (c_M_sendF l d D a (ku n 33 10 (if n 33 10 < q then q else n 33 10)) g hap 1 q (pnM (ku n 33 10 (if n 33 10 < q then q else n 33 10)) q) (by decide) hc _) jU_bs (j_pe X hP) jm_781 jm_780 js_49 jm_6 jm_778 (by decide) rfl rfl (show jOk jy_M_send 3 by unfold jOk; decide +kernel) (by decide) ⟨rfl, rfl⟩ hl.1 rfl (Nat.le_of_ble_eq_true rfl) ⟨Nat.zero_le _, Nat.zero_le _⟩ jd_M_comes_50) hS (fun v50 n50 g50 H locs h50 hP hS => ?_)
    obtain ⟨rfl, rfl, rfl⟩ := h50
    refine W.eq (g2 := F0 m 53 ls []) rfl ?_
    refine lv_goto X.1 X.2.1 jd_M_comes_53 (tgt := 91) (by decide) ?_
    exact hQ _ _ _ _ _ _ (⟨rfl, rfl, rfl⟩) hP hS jd_M_comes_91
  · skip
    refine lv_iload_n X.1 X.2.1 jd_M_comes_13 rfl (lv_at hl 2 rfl) ?_
    refine lv_goto X.1 X.2.1 jd_M_comes_14 (tgt := 21) (by decide) ?_
    refine jp_M_166_33 X hap hP hS jd_M_comes_21 (fun H locs hP hS => ?_)
    have hP : va_P D jCl (jW d a (ku n 33 10 (if n 33 10 < q then q else n 33 10)) g) H := by first | (rw [if_pos (by omega)]; exact hP) | (rw [if_neg (by omega)]; exact hP)
    refine lv_aload_n X.1 X.2.1 jd_M_comes_24 rfl (lv_at hl 0 rfl) ?_
    refine lv_iconst (v := nI 1) X.1 X.2.1 jd_M_comes_25 (by decide) ?_
    refine lv_iload_n X.1 X.2.1 jd_M_comes_26 rfl (lv_at hl 2 rfl) ?_
    refine lv_aload_n X.1 X.2.1 jd_M_comes_27 rfl (lv_at hl 0 rfl) ?_
    refine lv_iconst (v := nI 0) X.1 X.2.1 jd_M_comes_28 (by decide) ?_
    refine lv_aload_n X.1 X.2.1 jd_M_comes_29 rfl (lv_at hl 0 rfl) ?_
    refine jg_M_39_33 X hP jd_M_comes_30 ?_
    refine lv_iload_n X.1 X.2.1 jd_M_comes_33 rfl (lv_at hl 2 rfl) ?_
    refine j_ald X hP 42 q (by decide) (show q < 700 from by omega) (by decide) jd_M_comes_34 ?_
    refine kn_to (y := n 42 q) (rfl) ?_
    refine lv_aload_n X.1 X.2.1 jd_M_comes_35 rfl (lv_at hl 0 rfl) ?_
    refine jg_M_42_33 X hP jd_M_comes_36 ?_
    refine lv_iload_n X.1 X.2.1 jd_M_comes_39 rfl (lv_at hl 2 rfl) ?_
    refine j_ald X hP 43 q (by decide) (show q < 700 from by omega) (by decide) jd_M_comes_40 ?_
    refine kn_to (y := n 43 q) (rfl) ?_
    refine lv_aload_n X.1 X.2.1 jd_M_comes_41 rfl (lv_at hl 0 rfl) ?_
    refine jg_M_45_33 X hP jd_M_comes_42 ?_
    refine lv_iload_n X.1 X.2.1 jd_M_comes_45 rfl (lv_at hl 2 rfl) ?_
    refine j_ald X hP 44 q (by decide) (show q < 700 from by omega) (by decide) jd_M_comes_46 ?_
    refine kn_to (y := n 44 q) (rfl) ?_
    refine j_run (j_mkV X hP (c_M_parityAt l d D a (ku n 33 10 (if n 33 10 < q then q else n 33 10)) g 0 (n 42 q) (n 43 q) (n 44 q) (by decide) h42 hf (by omega) (fun i hi => ho _ _ h42 (by omega))) jU_b (j_pp X hP) jm_789 jm_788 js_51 jm_6 jm_786 (by decide) rfl rfl (show jOk jy_M_parityAt 4 by unfold jOk; decide +kernel) (by decide) ⟨rfl, rfl⟩ hl.1 rfl (Nat.le_of_ble_eq_true rfl) ⟨Nat.zero_le _, Nat.zero_le _⟩ jd_M_comes_47) ?_
    refine W.eq (g2 := F0 m 50 ls [.int (nI (pnM (ku n 33 10 (if n 33 10 < q then q else n 33 10)) q)), .int (nI q), .int (nI 1), .ref (a 33)]) rfl ?_
    refine j_rune (j_mkV X hP (c_M_sendF l d D a (ku n 33 10 (if n 33 10 < q then q else n 33 10)) g hap 1 q (pnM (ku n 33 10 (if n 33 10 < q then q else n 33 10)) q) (by decide) hc _) jU_bs (j_pe X hP) jm_781 jm_780 js_49 jm_6 jm_778 (by decide) rfl rfl (show jOk jy_M_send 3 by unfold jOk; decide +kernel) (by decide) ⟨rfl, rfl⟩ hl.1 rfl (Nat.le_of_ble_eq_true rfl) ⟨Nat.zero_le _, Nat.zero_le _⟩ jd_M_comes_50) hS (fun v50 n50 g50 H locs h50 hP hS => ?_)
    obtain ⟨rfl, rfl, rfl⟩ := h50
    refine W.eq (g2 := F0 m 53 ls []) rfl ?_
    refine lv_goto X.1 X.2.1 jd_M_comes_53 (tgt := 91) (by decide) ?_
    exact hQ _ _ _ _ _ _ (⟨rfl, rfl, rfl⟩) hP hS jd_M_comes_91

set_option maxHeartbeats 4000000 in
theorem c_M_comes_a (l : Launch) (d : Nat → Nat) (D : va_G) (a : Nat → Nat) (n : Nat → Nat → Nat) (g : Nat → Nat) (hap : ∀ i j : Nat, i < 52 → j < 52 → a i = a j → i = j) (q b : Nat) (hq : q = n 33 8) (hz8 : n 33 8 ≤ 512) (h98 : n 33 9 < n 33 8) (hM : MI (lnM n q b)) (hst : ¬ (goT (lnM n q b) 256).2 = 0 ∨ (goT (lnM n q b) 256).1 33 7 = 4) : jEff l d D a n g jy_M_comes jb_M_comes 4 none { frames := 4, cells := 0, slots := 0, locals := 95 } [.ref (a 33), .int (nI 1), .int (nI q), .int (nI b)] (fun v9 n2 g2 => none = v9 ∧ (goT (lnM n q b) 256).1 = n2 ∧ g = g2) := by
  refine je_V (by decide) (Nat.le_of_ble_eq_true rfl) ?_
  intro p e s m A below meth c ls Q X hP hS hl hQ
  have hl : lv_has ls 4 [(0, .ref (a 33)), (1, .int (nI 1)), (2, .int (nI q)), (3, .int (nI b))] := hl
  refine lv_iload_n X.1 X.2.1 jd_M_comes_0 rfl (lv_at hl 1 rfl) ?_
  refine kn_ne0 X.1 X.2.1 jd_M_comes_1 (tgt := 56) (by decide) (by omega) (fun h1 => ?_) (fun h1 => absurd h1 (by omega))
  refine lv_iload_n X.1 X.2.1 jd_M_comes_56 rfl (lv_at hl 2 rfl) ?_
  refine lv_aload_n X.1 X.2.1 jd_M_comes_57 rfl (lv_at hl 0 rfl) ?_
  refine jg_M_129_33 X hP jd_M_comes_58 ?_
  refine kn_cne X.1 X.2.1 jd_M_comes_61 (tgt := 91) (by decide) (by omega) (fun h61 => absurd h61 (by omega)) (fun h61 => ?_)
  refine lv_aload_n X.1 X.2.1 jd_M_comes_64 rfl (lv_at hl 0 rfl) ?_
  refine jg_M_126_33 X hP jd_M_comes_65 ?_
  refine lv_aload_n X.1 X.2.1 jd_M_comes_68 rfl (lv_at hl 0 rfl) ?_
  refine jg_M_129_33 X hP jd_M_comes_69 ?_
  refine kn_cge X.1 X.2.1 jd_M_comes_72 (tgt := 91) (by decide) (by omega) (fun h72 => absurd h72 (by omega)) (fun h72 => ?_)
  refine lv_aload_n X.1 X.2.1 jd_M_comes_75 rfl (lv_at hl 0 rfl) ?_
  refine jg_M_48_33 X hP jd_M_comes_76 ?_
  refine lv_iload_n X.1 X.2.1 jd_M_comes_79 rfl (lv_at hl 2 rfl) ?_
  refine lv_iload_n X.1 X.2.1 jd_M_comes_80 rfl (lv_at hl 3 rfl) ?_
  refine j_ast X hap hP hS 45 q b (by decide) (show q < 700 from by omega) (by decide) jd_M_comes_81 (fun H locs hP hS => ?_)
  refine lv_aload_n X.1 X.2.1 jd_M_comes_82 rfl (lv_at hl 0 rfl) ?_
  refine lv_iload_n X.1 X.2.1 jd_M_comes_83 rfl (lv_at hl 2 rfl) ?_
  refine jp_M_126_33 X hap hP hS jd_M_comes_84 (fun H locs hP hS => ?_)
  have hP : va_P D jCl (jW d a (lnM n q b) g) H := hP
  refine lv_aload_n X.1 X.2.1 jd_M_comes_87 rfl (lv_at hl 0 rfl) ?_
  refine j_rune (j_mkV X hP (c_M_goOn l d D a (lnM n q b) g hap hM hst _) jU_bs (j_pe X hP) jm_757 jm_756 js_43 jm_6 jm_754 (by decide) rfl rfl (show jOk jy_M_goOn 0 by unfold jOk; decide +kernel) (by decide) ⟨rfl, rfl⟩ hl.1 rfl (Nat.le_of_ble_eq_true rfl) ⟨Nat.zero_le _, Nat.zero_le _⟩ jd_M_comes_88) hS (fun v88 n88 g88 H locs h88 hP hS => ?_)
  obtain ⟨rfl, rfl, rfl⟩ := h88
  refine W.eq (g2 := F0 m 91 ls []) rfl ?_
  exact hQ _ _ _ _ _ _ (⟨rfl, rfl, rfl⟩) hP hS jd_M_comes_91

set_option maxHeartbeats 4000000 in
theorem c_M_comes_b (l : Launch) (d : Nat → Nat) (D : va_G) (a : Nat → Nat) (n : Nat → Nat → Nat) (g : Nat → Nat) (hap : ∀ i j : Nat, i < 52 → j < 52 → a i = a j → i = j) (q b : Nat) (hq : q < 4294967296) (hz8 : n 33 8 ≤ 512) (hz9 : n 33 9 ≤ 512) (hno : ¬ (q = n 33 8 ∧ n 33 9 < n 33 8)) : jEff l d D a n g jy_M_comes jb_M_comes 4 none { frames := 4, cells := 0, slots := 0, locals := 95 } [.ref (a 33), .int (nI 1), .int (nI q), .int (nI b)] (fun v9 n2 g2 => none = v9 ∧ n = n2 ∧ g = g2) := by
  refine je_V (by decide) (Nat.le_of_ble_eq_true rfl) ?_
  intro p e s m A below meth c ls Q X hP hS hl hQ
  have hl : lv_has ls 4 [(0, .ref (a 33)), (1, .int (nI 1)), (2, .int (nI q)), (3, .int (nI b))] := hl
  refine lv_iload_n X.1 X.2.1 jd_M_comes_0 rfl (lv_at hl 1 rfl) ?_
  refine kn_ne0 X.1 X.2.1 jd_M_comes_1 (tgt := 56) (by decide) (by omega) (fun h1 => ?_) (fun h1 => absurd h1 (by omega))
  refine lv_iload_n X.1 X.2.1 jd_M_comes_56 rfl (lv_at hl 2 rfl) ?_
  refine lv_aload_n X.1 X.2.1 jd_M_comes_57 rfl (lv_at hl 0 rfl) ?_
  refine jg_M_129_33 X hP jd_M_comes_58 ?_
  refine kn_cne X.1 X.2.1 jd_M_comes_61 (tgt := 91) (by decide) (by omega) (fun h61 => ?_) (fun h61 => ?_)
  · skip
    exact hQ _ _ _ _ _ _ (⟨rfl, rfl, rfl⟩) hP hS jd_M_comes_91
  · skip
    refine lv_aload_n X.1 X.2.1 jd_M_comes_64 rfl (lv_at hl 0 rfl) ?_
    refine jg_M_126_33 X hP jd_M_comes_65 ?_
    refine lv_aload_n X.1 X.2.1 jd_M_comes_68 rfl (lv_at hl 0 rfl) ?_
    refine jg_M_129_33 X hP jd_M_comes_69 ?_
    refine kn_cge X.1 X.2.1 jd_M_comes_72 (tgt := 91) (by decide) (by omega) (fun h72 => ?_) (fun h72 => absurd h72 (by omega))
    exact hQ _ _ _ _ _ _ (⟨rfl, rfl, rfl⟩) hP hS jd_M_comes_91

theorem c_M_comesF (l : Launch) (d : Nat → Nat) (D : va_G) (a : Nat → Nat) (n : Nat → Nat → Nat) (g : Nat → Nat) (hap : ∀ i j : Nat, i < 52 → j < 52 → a i = a j → i = j) (x q b : Nat) (hx : x < 2) (hq : 1 ≤ q ∧ q ≤ 512) (h42 : n 42 q < 4) (hf : n 43 q ≤ n 44 q) (ht : n 44 q ≤ n 33 2) (hn : n 33 2 ≤ 128) (hd : n 33 10 ≤ 512) (hc : n 33 11 ≤ 16) (ho : ∀ p i, p < 4 → i < n 33 2 → mO n p i < 128) (h8 : n 33 8 ≤ 512) (h9 : n 33 9 ≤ 512) (hG : x = 1 → q = n 33 8 → n 33 9 < n 33 8 → MI (lnM n q b) ∧ (¬ (goT (lnM n q b) 256).2 = 0 ∨ (goT (lnM n q b) 256).1 33 7 = 4)) : jEff l d D a n g jy_M_comes jb_M_comes 4 none { frames := 4, cells := 0, slots := 0, locals := 95 } [.ref (a 33), .int (nI x), .int (nI q), .int (nI b)] (fun v9 n2 g2 => none = v9 ∧ cmM n x q b = n2 ∧ g = g2) := by
  unfold cmM
  rcases (show x = 0 ∨ x = 1 by omega) with rfl | rfl
  · simp only [if_true]
    exact c_M_comes_0 l d D a n g hap q b hq h42 hf ht hn hd hc ho
  · rw [if_neg (by decide)]
    by_cases h1 : q = n 33 8
    · rw [if_pos h1]
      by_cases h2 : n 33 9 < n 33 8
      · rw [if_pos h2]
        exact c_M_comes_a l d D a n g hap q b h1 h8 h2 (hG rfl h1 h2).1 (hG rfl h1 h2).2
      · rw [if_neg h2]
        exact c_M_comes_b l d D a n g hap q b (by omega) h8 h9 (fun z => h2 z.2)
    · rw [if_neg h1]
      exact c_M_comes_b l d D a n g hap q b (by omega) h8 h9 (fun z => h1 z.1)

set_option maxHeartbeats 4000000 in
theorem c_M_letter_1 (l : Launch) (d : Nat → Nat) (D : va_G) (a : Nat → Nat) (n : Nat → Nat → Nat) (g : Nat → Nat) (hap : ∀ i j : Nat, i < 52 → j < 52 → a i = a j → i = j) (k x : Nat) (hx : x < 4294967296) (hbad : ¬ x ≤ 2) : jEff l d D a n g jy_M_letter jb_M_letter 7 (some .int) { frames := 5, cells := 0, slots := 0, locals := 118 } [.ref (a 33), .int (nI k), .int (nI x)] (fun v9 n2 g2 => some (.int (nI 0)) = v9 ∧ ku n 33 0 1 = n2 ∧ g = g2) := by
  refine je_I (by decide) (Nat.le_of_ble_eq_true rfl) ?_
  intro p e s m A below meth c ls Q X hP hS hl hQ
  have hl : lv_has ls 7 [(0, .ref (a 33)), (1, .int (nI k)), (2, .int (nI x))] := hl
  refine lv_aload_n X.1 X.2.1 jd_M_letter_0 rfl (lv_at hl 0 rfl) ?_
  refine lv_iload_n X.1 X.2.1 jd_M_letter_1 rfl (lv_at hl 2 rfl) ?_
  refine lv_iconst (v := nI 0) X.1 X.2.1 jd_M_letter_2 (by decide) ?_
  refine lv_iconst (v := nI 2) X.1 X.2.1 jd_M_letter_3 (by decide) ?_
  refine j_run (j_mkS X (c_M_within l d D a n g x 0 2 (by omega) (by omega) (by omega)) jU_b (j_pp X hP) jm_714 jm_713 jm_6 jm_712 (show jOk jy_M_within 3 by unfold jOk; decide +kernel) (by decide) ⟨rfl, rfl⟩ hl.1 rfl (Nat.le_of_ble_eq_true rfl) ⟨Nat.zero_le _, Nat.zero_le _⟩ jd_M_letter_4) ?_
  refine W.eq (g2 := F0 m 7 ls [.int (nI (if 0 ≤ x ∧ x ≤ 2 then 1 else 0)), .ref (a 33)]) rfl ?_
  refine kn_to (y := 0) (if_neg (by omega)) ?_
  refine kn_ne0 X.1 X.2.1 jd_M_letter_7 (tgt := 14) (by decide) (by omega) (fun h7 => absurd h7 (by omega)) (fun h7 => ?_)
  refine lv_iconst (v := nI 1) X.1 X.2.1 jd_M_letter_10 (by decide) ?_
  refine lv_goto X.1 X.2.1 jd_M_letter_11 (tgt := 51) (by decide) ?_
  refine jp_M_66_33 X hap hP hS jd_M_letter_51 (fun H locs hP hS => ?_)
  refine lv_aload_n X.1 X.2.1 jd_M_letter_54 rfl (lv_at hl 0 rfl) ?_
  refine jg_M_66_33 X hP jd_M_letter_55 ?_
  refine kn_to (y := 1) (rfl) ?_
  refine kn_le0 X.1 X.2.1 jd_M_letter_58 (tgt := 63) (by decide) (by omega) (fun h58 => absurd h58 (by omega)) (fun h58 => ?_)
  refine lv_iconst (v := nI 0) X.1 X.2.1 jd_M_letter_61 (by decide) ?_
  exact hQ _ _ _ _ _ _ _ (⟨rfl, rfl, rfl⟩) hP hS jd_M_letter_62

set_option maxHeartbeats 4000000 in
theorem c_M_letter_2 (l : Launch) (d : Nat → Nat) (D : va_G) (a : Nat → Nat) (n : Nat → Nat → Nat) (g : Nat → Nat) (hap : ∀ i j : Nat, i < 52 → j < 52 → a i = a j → i = j) (k x : Nat) (hk : k < 4294967296) (hx : x ≤ 2) (hc : n 33 11 ≤ 16) (hbad : ¬ k < n 33 11) : jEff l d D a n g jy_M_letter jb_M_letter 7 (some .int) { frames := 5, cells := 0, slots := 0, locals := 118 } [.ref (a 33), .int (nI k), .int (nI x)] (fun v9 n2 g2 => some (.int (nI 0)) = v9 ∧ ku n 33 0 2 = n2 ∧ g = g2) := by
  refine je_I (by decide) (Nat.le_of_ble_eq_true rfl) ?_
  intro p e s m A below meth c ls Q X hP hS hl hQ
  have hl : lv_has ls 7 [(0, .ref (a 33)), (1, .int (nI k)), (2, .int (nI x))] := hl
  refine lv_aload_n X.1 X.2.1 jd_M_letter_0 rfl (lv_at hl 0 rfl) ?_
  refine lv_iload_n X.1 X.2.1 jd_M_letter_1 rfl (lv_at hl 2 rfl) ?_
  refine lv_iconst (v := nI 0) X.1 X.2.1 jd_M_letter_2 (by decide) ?_
  refine lv_iconst (v := nI 2) X.1 X.2.1 jd_M_letter_3 (by decide) ?_
  refine j_run (j_mkS X (c_M_within l d D a n g x 0 2 (by omega) (by omega) (by omega)) jU_b (j_pp X hP) jm_714 jm_713 jm_6 jm_712 (show jOk jy_M_within 3 by unfold jOk; decide +kernel) (by decide) ⟨rfl, rfl⟩ hl.1 rfl (Nat.le_of_ble_eq_true rfl) ⟨Nat.zero_le _, Nat.zero_le _⟩ jd_M_letter_4) ?_
  refine W.eq (g2 := F0 m 7 ls [.int (nI (if 0 ≤ x ∧ x ≤ 2 then 1 else 0)), .ref (a 33)]) rfl ?_
  refine kn_to (y := 1) (if_pos (by omega)) ?_
  refine kn_ne0 X.1 X.2.1 jd_M_letter_7 (tgt := 14) (by decide) (by omega) (fun h7 => ?_) (fun h7 => absurd h7 (by omega))
  refine lv_iload_n X.1 X.2.1 jd_M_letter_14 rfl (lv_at hl 1 rfl) ?_
  refine lv_iconst (v := nI 0) X.1 X.2.1 jd_M_letter_15 (by decide) ?_
  refine lv_aload_n X.1 X.2.1 jd_M_letter_16 rfl (lv_at hl 0 rfl) ?_
  refine jg_M_123_33 X hP jd_M_letter_17 ?_
  refine lv_iconst (v := nI 1) X.1 X.2.1 jd_M_letter_20 (by decide) ?_
  refine lv_isub X.1 X.2.1 jd_M_letter_21 ?_
  refine kn_is (y := (((n 33 11) + 4294967296 - 1) % 4294967296)) (kn_subw (by omega)) ?_
  refine j_run (j_mkS X (c_M_withinD l d D a n g k (n 33 11) (by omega) (by omega)) jU_b (j_pp X hP) jm_714 jm_713 jm_6 jm_712 (show jOk jy_M_within 3 by unfold jOk; decide +kernel) (by decide) ⟨rfl, rfl⟩ hl.1 rfl (Nat.le_of_ble_eq_true rfl) ⟨Nat.zero_le _, Nat.zero_le _⟩ jd_M_letter_22) ?_
  refine W.eq (g2 := F0 m 25 ls [.int (nI (if k < n 33 11 then 1 else 0)), .ref (a 33)]) rfl ?_
  refine kn_to (y := 0) (if_neg (by omega)) ?_
  refine kn_ne0 X.1 X.2.1 jd_M_letter_25 (tgt := 32) (by decide) (by omega) (fun h25 => absurd h25 (by omega)) (fun h25 => ?_)
  refine lv_iconst (v := nI 2) X.1 X.2.1 jd_M_letter_28 (by decide) ?_
  refine lv_goto X.1 X.2.1 jd_M_letter_29 (tgt := 51) (by decide) ?_
  refine jp_M_66_33 X hap hP hS jd_M_letter_51 (fun H locs hP hS => ?_)
  refine lv_aload_n X.1 X.2.1 jd_M_letter_54 rfl (lv_at hl 0 rfl) ?_
  refine jg_M_66_33 X hP jd_M_letter_55 ?_
  refine kn_to (y := 2) (rfl) ?_
  refine kn_le0 X.1 X.2.1 jd_M_letter_58 (tgt := 63) (by decide) (by omega) (fun h58 => absurd h58 (by omega)) (fun h58 => ?_)
  refine lv_iconst (v := nI 0) X.1 X.2.1 jd_M_letter_61 (by decide) ?_
  exact hQ _ _ _ _ _ _ _ (⟨rfl, rfl, rfl⟩) hP hS jd_M_letter_62

set_option maxHeartbeats 4000000 in
theorem c_M_letter_3 (l : Launch) (d : Nat → Nat) (D : va_G) (a : Nat → Nat) (n : Nat → Nat → Nat) (g : Nat → Nat) (hap : ∀ i j : Nat, i < 52 → j < 52 → a i = a j → i = j) (k : Nat) (hc : n 33 11 = 16) (hk : k < n 33 11) : jEff l d D a n g jy_M_letter jb_M_letter 7 (some .int) { frames := 5, cells := 0, slots := 0, locals := 118 } [.ref (a 33), .int (nI k), .int (nI 2)] (fun v9 n2 g2 => some (.int (nI 0)) = v9 ∧ ku n 33 0 3 = n2 ∧ g = g2) := by
  refine je_I (by decide) (Nat.le_of_ble_eq_true rfl) ?_
  intro p e s m A below meth c ls Q X hP hS hl hQ
  have hl : lv_has ls 7 [(0, .ref (a 33)), (1, .int (nI k)), (2, .int (nI 2))] := hl
  refine lv_aload_n X.1 X.2.1 jd_M_letter_0 rfl (lv_at hl 0 rfl) ?_
  refine lv_iload_n X.1 X.2.1 jd_M_letter_1 rfl (lv_at hl 2 rfl) ?_
  refine lv_iconst (v := nI 0) X.1 X.2.1 jd_M_letter_2 (by decide) ?_
  refine lv_iconst (v := nI 2) X.1 X.2.1 jd_M_letter_3 (by decide) ?_
  refine j_run (j_mkS X (c_M_within l d D a n g 2 0 2 (by omega) (by omega) (by omega)) jU_b (j_pp X hP) jm_714 jm_713 jm_6 jm_712 (show jOk jy_M_within 3 by unfold jOk; decide +kernel) (by decide) ⟨rfl, rfl⟩ hl.1 rfl (Nat.le_of_ble_eq_true rfl) ⟨Nat.zero_le _, Nat.zero_le _⟩ jd_M_letter_4) ?_
  refine W.eq (g2 := F0 m 7 ls [.int (nI (if 0 ≤ 2 ∧ 2 ≤ 2 then 1 else 0)), .ref (a 33)]) rfl ?_
  refine kn_to (y := 1) (if_pos (by omega)) ?_
  refine kn_ne0 X.1 X.2.1 jd_M_letter_7 (tgt := 14) (by decide) (by omega) (fun h7 => ?_) (fun h7 => absurd h7 (by omega))
  refine lv_iload_n X.1 X.2.1 jd_M_letter_14 rfl (lv_at hl 1 rfl) ?_
  refine lv_iconst (v := nI 0) X.1 X.2.1 jd_M_letter_15 (by decide) ?_
  refine lv_aload_n X.1 X.2.1 jd_M_letter_16 rfl (lv_at hl 0 rfl) ?_
  refine jg_M_123_33 X hP jd_M_letter_17 ?_
  refine lv_iconst (v := nI 1) X.1 X.2.1 jd_M_letter_20 (by decide) ?_
  refine lv_isub X.1 X.2.1 jd_M_letter_21 ?_
  refine kn_is (y := (((n 33 11) + 4294967296 - 1) % 4294967296)) (kn_subw (by omega)) ?_
  refine j_run (j_mkS X (c_M_withinD l d D a n g k (n 33 11) (by omega) (by omega)) jU_b (j_pp X hP) jm_714 jm_713 jm_6 jm_712 (show jOk jy_M_within 3 by unfold jOk; decide +kernel) (by decide) ⟨rfl, rfl⟩ hl.1 rfl (Nat.le_of_ble_eq_true rfl) ⟨Nat.zero_le _, Nat.zero_le _⟩ jd_M_letter_22) ?_
  refine W.eq (g2 := F0 m 25 ls [.int (nI (if k < n 33 11 then 1 else 0)), .ref (a 33)]) rfl ?_
  refine kn_to (y := 1) (if_pos (by omega)) ?_
  refine kn_ne0 X.1 X.2.1 jd_M_letter_25 (tgt := 32) (by decide) (by omega) (fun h25 => ?_) (fun h25 => absurd h25 (by omega))
  refine lv_iload_n X.1 X.2.1 jd_M_letter_32 rfl (lv_at hl 2 rfl) ?_
  refine lv_iconst (v := nI 2) X.1 X.2.1 jd_M_letter_33 (by decide) ?_
  refine kn_cne X.1 X.2.1 jd_M_letter_34 (tgt := 50) (by decide) (by omega) (fun h34 => absurd h34 (by omega)) (fun h34 => ?_)
  refine lv_aload_n X.1 X.2.1 jd_M_letter_37 rfl (lv_at hl 0 rfl) ?_
  refine jg_M_123_33 X hP jd_M_letter_38 ?_
  refine lv_bipush (v := nI 16) X.1 X.2.1 jd_M_letter_41 (by decide) ?_
  refine kn_cne X.1 X.2.1 jd_M_letter_43 (tgt := 50) (by decide) (by omega) (fun h43 => absurd h43 (by omega)) (fun h43 => ?_)
  refine lv_iconst (v := nI 3) X.1 X.2.1 jd_M_letter_46 (by decide) ?_
  refine lv_goto X.1 X.2.1 jd_M_letter_47 (tgt := 51) (by decide) ?_
  refine jp_M_66_33 X hap hP hS jd_M_letter_51 (fun H locs hP hS => ?_)
  refine lv_aload_n X.1 X.2.1 jd_M_letter_54 rfl (lv_at hl 0 rfl) ?_
  refine jg_M_66_33 X hP jd_M_letter_55 ?_
  refine kn_to (y := 3) (rfl) ?_
  refine kn_le0 X.1 X.2.1 jd_M_letter_58 (tgt := 63) (by decide) (by omega) (fun h58 => absurd h58 (by omega)) (fun h58 => ?_)
  refine lv_iconst (v := nI 0) X.1 X.2.1 jd_M_letter_61 (by decide) ?_
  exact hQ _ _ _ _ _ _ _ (⟨rfl, rfl, rfl⟩) hP hS jd_M_letter_62

set_option maxHeartbeats 4000000 in
theorem c_M_letter_d (l : Launch) (d : Nat → Nat) (D : va_G) (a : Nat → Nat) (n : Nat → Nat → Nat) (g : Nat → Nat) (hap : ∀ i j : Nat, i < 52 → j < 52 → a i = a j → i = j) (hb : ∀ i, n 46 i < 2) (k : Nat) (hc : n 33 11 < 16) (hk : k < n 33 11) : jEff l d D a n g jy_M_letter jb_M_letter 7 (some .int) { frames := 5, cells := 0, slots := 0, locals := 118 } [.ref (a 33), .int (nI k), .int (nI 2)] (fun v9 n2 g2 => some (.int (nI (n 33 11 + 1))) = v9 ∧ (sdMG (ku n 33 0 0) (n 46 k) (n 47 k) (n 48 k)) = n2 ∧ g = g2) := by
  refine je_I (by decide) (Nat.le_of_ble_eq_true rfl) ?_
  intro p e s m A below meth c ls Q X hP hS hl hQ
  have hl : lv_has ls 7 [(0, .ref (a 33)), (1, .int (nI k)), (2, .int (nI 2))] := hl
  refine lv_aload_n X.1 X.2.1 jd_M_letter_0 rfl (lv_at hl 0 rfl) ?_
  refine lv_iload_n X.1 X.2.1 jd_M_letter_1 rfl (lv_at hl 2 rfl) ?_
  refine lv_iconst (v := nI 0) X.1 X.2.1 jd_M_letter_2 (by decide) ?_
  refine lv_iconst (v := nI 2) X.1 X.2.1 jd_M_letter_3 (by decide) ?_
  refine j_run (j_mkS X (c_M_within l d D a n g 2 0 2 (by omega) (by omega) (by omega)) jU_b (j_pp X hP) jm_714 jm_713 jm_6 jm_712 (show jOk jy_M_within 3 by unfold jOk; decide +kernel) (by decide) ⟨rfl, rfl⟩ hl.1 rfl (Nat.le_of_ble_eq_true rfl) ⟨Nat.zero_le _, Nat.zero_le _⟩ jd_M_letter_4) ?_
  refine W.eq (g2 := F0 m 7 ls [.int (nI (if 0 ≤ 2 ∧ 2 ≤ 2 then 1 else 0)), .ref (a 33)]) rfl ?_
  refine kn_to (y := 1) (if_pos (by omega)) ?_
  refine kn_ne0 X.1 X.2.1 jd_M_letter_7 (tgt := 14) (by decide) (by omega) (fun h7 => ?_) (fun h7 => absurd h7 (by omega))
  refine lv_iload_n X.1 X.2.1 jd_M_letter_14 rfl (lv_at hl 1 rfl) ?_
  refine lv_iconst (v := nI 0) X.1 X.2.1 jd_M_letter_15 (by decide) ?_
  refine lv_aload_n X.1 X.2.1 jd_M_letter_16 rfl (lv_at hl 0 rfl) ?_
  refine jg_M_123_33 X hP jd_M_letter_17 ?_
  refine lv_iconst (v := nI 1) X.1 X.2.1 jd_M_letter_20 (by decide) ?_
  refine lv_isub X.1 X.2.1 jd_M_letter_21 ?_
  refine kn_is (y := (((n 33 11) + 4294967296 - 1) % 4294967296)) (kn_subw (by omega)) ?_
  refine j_run (j_mkS X (c_M_withinD l d D a n g k (n 33 11) (by omega) (by omega)) jU_b (j_pp X hP) jm_714 jm_713 jm_6 jm_712 (show jOk jy_M_within 3 by unfold jOk; decide +kernel) (by decide) ⟨rfl, rfl⟩ hl.1 rfl (Nat.le_of_ble_eq_true rfl) ⟨Nat.zero_le _, Nat.zero_le _⟩ jd_M_letter_22) ?_
  refine W.eq (g2 := F0 m 25 ls [.int (nI (if k < n 33 11 then 1 else 0)), .ref (a 33)]) rfl ?_
  refine kn_to (y := 1) (if_pos (by omega)) ?_
  refine kn_ne0 X.1 X.2.1 jd_M_letter_25 (tgt := 32) (by decide) (by omega) (fun h25 => ?_) (fun h25 => absurd h25 (by omega))
  refine lv_iload_n X.1 X.2.1 jd_M_letter_32 rfl (lv_at hl 2 rfl) ?_
  refine lv_iconst (v := nI 2) X.1 X.2.1 jd_M_letter_33 (by decide) ?_
  refine kn_cne X.1 X.2.1 jd_M_letter_34 (tgt := 50) (by decide) (by omega) (fun h34 => absurd h34 (by omega)) (fun h34 => ?_)
  refine lv_aload_n X.1 X.2.1 jd_M_letter_37 rfl (lv_at hl 0 rfl) ?_
  refine jg_M_123_33 X hP jd_M_letter_38 ?_
  refine lv_bipush (v := nI 16) X.1 X.2.1 jd_M_letter_41 (by decide) ?_
  refine kn_cne X.1 X.2.1 jd_M_letter_43 (tgt := 50) (by decide) (by omega) (fun h43 => ?_) (fun h43 => absurd h43 (by omega))
  refine lv_iconst (v := nI 0) X.1 X.2.1 jd_M_letter_50 (by decide) ?_
  refine jp_M_66_33 X hap hP hS jd_M_letter_51 (fun H locs hP hS => ?_)
  refine lv_aload_n X.1 X.2.1 jd_M_letter_54 rfl (lv_at hl 0 rfl) ?_
  refine jg_M_66_33 X hP jd_M_letter_55 ?_
  refine kn_to (y := 0) (rfl) ?_
  refine kn_le0 X.1 X.2.1 jd_M_letter_58 (tgt := 63) (by decide) (by omega) (fun h58 => ?_) (fun h58 => absurd h58 (by omega))
  refine lv_iload_n X.1 X.2.1 jd_M_letter_63 rfl (lv_at hl 2 rfl) ?_
  refine lv_iconst (v := nI 2) X.1 X.2.1 jd_M_letter_64 (by decide) ?_
  refine kn_cne X.1 X.2.1 jd_M_letter_65 (tgt := 95) (by decide) (by omega) (fun h65 => absurd h65 (by omega)) (fun h65 => ?_)
  refine lv_aload_n X.1 X.2.1 jd_M_letter_68 rfl (lv_at hl 0 rfl) ?_
  refine lv_aload_n X.1 X.2.1 jd_M_letter_69 rfl (lv_at hl 0 rfl) ?_
  refine jg_M_51_33 X hP jd_M_letter_70 ?_
  refine lv_iload_n X.1 X.2.1 jd_M_letter_73 rfl (lv_at hl 1 rfl) ?_
  refine j_zald X hP 46 k (by decide) (show k < 17 from by omega) (by decide) jd_M_letter_74 ?_
  refine kn_to (y := n 46 k) (rfl) ?_
  refine lv_aload_n X.1 X.2.1 jd_M_letter_75 rfl (lv_at hl 0 rfl) ?_
  refine jg_M_54_33 X hP jd_M_letter_76 ?_
  refine lv_iload_n X.1 X.2.1 jd_M_letter_79 rfl (lv_at hl 1 rfl) ?_
  refine j_ald X hP 47 k (by decide) (show k < 17 from by omega) (by decide) jd_M_letter_80 ?_
  refine kn_to (y := n 47 k) (rfl) ?_
  refine lv_aload_n X.1 X.2.1 jd_M_letter_81 rfl (lv_at hl 0 rfl) ?_
  refine jg_M_57_33 X hP jd_M_letter_82 ?_
  refine lv_iload_n X.1 X.2.1 jd_M_letter_85 rfl (lv_at hl 1 rfl) ?_
  refine j_ald X hP 48 k (by decide) (show k < 17 from by omega) (by decide) jd_M_letter_86 ?_
  refine kn_to (y := n 48 k) (rfl) ?_
  refine j_rune (j_mkV X hP (c_M_send l d D a (ku n 33 0 0) g hap (n 46 k) (n 47 k) (n 48 k) (hb k) hc _) jU_bs (j_pe X hP) jm_781 jm_780 js_49 jm_6 jm_778 (by decide) rfl rfl (show jOk jy_M_send 3 by unfold jOk; decide +kernel) (by decide) ⟨rfl, rfl⟩ hl.1 rfl (Nat.le_of_ble_eq_true rfl) ⟨Nat.zero_le _, Nat.zero_le _⟩ jd_M_letter_87) hS (fun v87 n87 g87 H locs h87 hP hS => ?_)
  obtain ⟨rfl, rfl, rfl⟩ := h87
  refine W.eq (g2 := F0 m 90 ls []) rfl ?_
  refine lv_aload_n X.1 X.2.1 jd_M_letter_90 rfl (lv_at hl 0 rfl) ?_
  refine jg_M_123_33 X hP jd_M_letter_91 ?_
  refine kn_to (y := n 33 11 + 1) (rfl) ?_
  exact hQ _ _ _ _ _ _ _ (⟨rfl, rfl, rfl⟩) hP hS jd_M_letter_94

set_option maxHeartbeats 4000000 in
theorem c_M_letter_l (l : Launch) (d : Nat → Nat) (D : va_G) (a : Nat → Nat) (n : Nat → Nat → Nat) (g : Nat → Nat) (hap : ∀ i j : Nat, i < 52 → j < 52 → a i = a j → i = j) (hb : ∀ i, n 46 i < 2) (k : Nat) (hc : n 33 11 ≤ 16) (hk : k < n 33 11)  : jEff l d D a n g jy_M_letter jb_M_letter 7 (some .int) { frames := 5, cells := 0, slots := 0, locals := 118 } [.ref (a 33), .int (nI k), .int (nI 1)] (fun v9 n2 g2 => some (.int (nI ((tkM (ku n 33 0 0) k) 33 11))) = v9 ∧ (tkM (ku n 33 0 0) k) = n2 ∧ g = g2) := by
  refine je_I (by decide) (Nat.le_of_ble_eq_true rfl) ?_
  intro p e s m A below meth c ls Q X hP hS hl hQ
  have hl : lv_has ls 7 [(0, .ref (a 33)), (1, .int (nI k)), (2, .int (nI 1))] := hl
  refine lv_aload_n X.1 X.2.1 jd_M_letter_0 rfl (lv_at hl 0 rfl) ?_
  refine lv_iload_n X.1 X.2.1 jd_M_letter_1 rfl (lv_at hl 2 rfl) ?_
  refine lv_iconst (v := nI 0) X.1 X.2.1 jd_M_letter_2 (by decide) ?_
  refine lv_iconst (v := nI 2) X.1 X.2.1 jd_M_letter_3 (by decide) ?_
  refine j_run (j_mkS X (c_M_within l d D a n g 1 0 2 (by omega) (by omega) (by omega)) jU_b (j_pp X hP) jm_714 jm_713 jm_6 jm_712 (show jOk jy_M_within 3 by unfold jOk; decide +kernel) (by decide) ⟨rfl, rfl⟩ hl.1 rfl (Nat.le_of_ble_eq_true rfl) ⟨Nat.zero_le _, Nat.zero_le _⟩ jd_M_letter_4) ?_
  refine W.eq (g2 := F0 m 7 ls [.int (nI (if 0 ≤ 1 ∧ 1 ≤ 2 then 1 else 0)), .ref (a 33)]) rfl ?_
  refine kn_to (y := 1) (if_pos (by omega)) ?_
  refine kn_ne0 X.1 X.2.1 jd_M_letter_7 (tgt := 14) (by decide) (by omega) (fun h7 => ?_) (fun h7 => absurd h7 (by omega))
  refine lv_iload_n X.1 X.2.1 jd_M_letter_14 rfl (lv_at hl 1 rfl) ?_
  refine lv_iconst (v := nI 0) X.1 X.2.1 jd_M_letter_15 (by decide) ?_
  refine lv_aload_n X.1 X.2.1 jd_M_letter_16 rfl (lv_at hl 0 rfl) ?_
  refine jg_M_123_33 X hP jd_M_letter_17 ?_
  refine lv_iconst (v := nI 1) X.1 X.2.1 jd_M_letter_20 (by decide) ?_
  refine lv_isub X.1 X.2.1 jd_M_letter_21 ?_
  refine kn_is (y := (((n 33 11) + 4294967296 - 1) % 4294967296)) (kn_subw (by omega)) ?_
  refine j_run (j_mkS X (c_M_withinD l d D a n g k (n 33 11) (by omega) (by omega)) jU_b (j_pp X hP) jm_714 jm_713 jm_6 jm_712 (show jOk jy_M_within 3 by unfold jOk; decide +kernel) (by decide) ⟨rfl, rfl⟩ hl.1 rfl (Nat.le_of_ble_eq_true rfl) ⟨Nat.zero_le _, Nat.zero_le _⟩ jd_M_letter_22) ?_
  refine W.eq (g2 := F0 m 25 ls [.int (nI (if k < n 33 11 then 1 else 0)), .ref (a 33)]) rfl ?_
  refine kn_to (y := 1) (if_pos (by omega)) ?_
  refine kn_ne0 X.1 X.2.1 jd_M_letter_25 (tgt := 32) (by decide) (by omega) (fun h25 => ?_) (fun h25 => absurd h25 (by omega))
  refine lv_iload_n X.1 X.2.1 jd_M_letter_32 rfl (lv_at hl 2 rfl) ?_
  refine lv_iconst (v := nI 2) X.1 X.2.1 jd_M_letter_33 (by decide) ?_
  refine kn_cne X.1 X.2.1 jd_M_letter_34 (tgt := 50) (by decide) (by omega) (fun h34 => ?_) (fun h34 => absurd h34 (by omega))
  refine lv_iconst (v := nI 0) X.1 X.2.1 jd_M_letter_50 (by decide) ?_
  refine jp_M_66_33 X hap hP hS jd_M_letter_51 (fun H locs hP hS => ?_)
  refine lv_aload_n X.1 X.2.1 jd_M_letter_54 rfl (lv_at hl 0 rfl) ?_
  refine jg_M_66_33 X hP jd_M_letter_55 ?_
  refine kn_to (y := 0) (rfl) ?_
  refine kn_le0 X.1 X.2.1 jd_M_letter_58 (tgt := 63) (by decide) (by omega) (fun h58 => ?_) (fun h58 => absurd h58 (by omega))
  refine lv_iload_n X.1 X.2.1 jd_M_letter_63 rfl (lv_at hl 2 rfl) ?_
  refine lv_iconst (v := nI 2) X.1 X.2.1 jd_M_letter_64 (by decide) ?_
  refine kn_cne X.1 X.2.1 jd_M_letter_65 (tgt := 95) (by decide) (by omega) (fun h65 => ?_) (fun h65 => absurd h65 (by omega))
  refine lv_aload_n X.1 X.2.1 jd_M_letter_95 rfl (lv_at hl 0 rfl) ?_
  refine jg_M_51_33 X hP jd_M_letter_96 ?_
  refine lv_iload_n X.1 X.2.1 jd_M_letter_99 rfl (lv_at hl 1 rfl) ?_
  refine j_zald X hP 46 k (by decide) (show k < 17 from by omega) (by decide) jd_M_letter_100 ?_
  refine kn_to (y := n 46 k) (rfl) ?_
  refine lv_istore_n X.1 X.2.1 jd_M_letter_101 rfl hl (by decide) rfl (fun ls hl => ?_)
  have hl : lv_has ls 7 [(3, .int (nI (n 46 k))), (0, .ref (a 33)), (1, .int (nI k)), (2, .int (nI 1))] := hl
  refine lv_aload_n X.1 X.2.1 jd_M_letter_102 rfl (lv_at hl 1 rfl) ?_
  refine jg_M_54_33 X hP jd_M_letter_103 ?_
  refine lv_iload_n X.1 X.2.1 jd_M_letter_106 rfl (lv_at hl 2 rfl) ?_
  refine j_ald X hP 47 k (by decide) (show k < 17 from by omega) (by decide) jd_M_letter_107 ?_
  refine kn_to (y := n 47 k) (rfl) ?_
  refine lv_istore X.1 X.2.1 jd_M_letter_108 hl (by decide) rfl (fun ls hl => ?_)
  have hl : lv_has ls 7 [(4, .int (nI (n 47 k))), (3, .int (nI (n 46 k))), (0, .ref (a 33)), (1, .int (nI k)), (2, .int (nI 1))] := hl
  refine lv_aload_n X.1 X.2.1 jd_M_letter_110 rfl (lv_at hl 2 rfl) ?_
  refine jg_M_57_33 X hP jd_M_letter_111 ?_
  refine lv_iload_n X.1 X.2.1 jd_M_letter_114 rfl (lv_at hl 3 rfl) ?_
  refine j_ald X hP 48 k (by decide) (show k < 17 from by omega) (by decide) jd_M_letter_115 ?_
  refine kn_to (y := n 48 k) (rfl) ?_
  refine lv_istore X.1 X.2.1 jd_M_letter_116 hl (by decide) rfl (fun ls hl => ?_)
  have hl : lv_has ls 7 [(5, .int (nI (n 48 k))), (4, .int (nI (n 47 k))), (3, .int (nI (n 46 k))), (0, .ref (a 33)), (1, .int (nI k)), (2, .int (nI 1))] := hl
  refine lv_aload_n X.1 X.2.1 jd_M_letter_118 rfl (lv_at hl 3 rfl) ?_
  refine lv_dup X.1 X.2.1 jd_M_letter_119 rfl ?_
  refine jg_M_123_33 X hP jd_M_letter_120 ?_
  refine kn_to (y := n 33 11) (rfl) ?_
  refine lv_iconst (v := nI 1) X.1 X.2.1 jd_M_letter_123 (by decide) ?_
  refine kn_isub X.1 X.2.1 jd_M_letter_124 (by omega) ?_
  refine jp_M_123_33 X hap hP hS jd_M_letter_125 (fun H locs hP hS => ?_)
  refine lv_iload_n X.1 X.2.1 jd_M_letter_128 rfl (lv_at hl 4 rfl) ?_
  refine lv_istore X.1 X.2.1 jd_M_letter_129 hl (by decide) rfl (fun ls hl => ?_)
  have hl : lv_has ls 7 [(6, .int (nI k)), (5, .int (nI (n 48 k))), (4, .int (nI (n 47 k))), (3, .int (nI (n 46 k))), (0, .ref (a 33)), (1, .int (nI k)), (2, .int (nI 1))] := hl
  have loop131 : ∀ (r i : Nat) (H : Heap) (locs : List Loc) (ls : Array Slot), i + r = n 33 11 - 1 - k → va_P D jCl (jW d a (shM (ku (ku n 33 0 0) 33 11 (n 33 11 - 1)) k i) g) H → va_S (jAa a s.heap.size) s.heap H locs → lv_has ls 7 [(6, .int (nI (k + i))), (3, .int (nI (n 46 k))), (4, .int (nI (n 47 k))), (5, .int (nI (n 48 k))), (0, .ref (a 33)), (1, .int (nI k)), (2, .int (nI 1))] → W p l e { frames := 5, cells := 0, slots := 0, locals := 118 } s m A below meth c H locs 0 0 Q (F0 m 131 ls []) := by
    intro r
    induction r with
    | zero => 
      intro i H locs ls hi hP hS hl
      obtain rfl : n 33 11 - 1 - k = i := by omega
      refine lv_iload X.1 X.2.1 jd_M_letter_131 (lv_at hl 0 rfl) ?_
      refine lv_aload_n X.1 X.2.1 jd_M_letter_133 rfl (lv_at hl 4 rfl) ?_
      refine jg_M_123_33 X hP jd_M_letter_134 ?_
      refine kn_to (y := n 33 11 - 1) (congrFun (shM_o (n := (ku (ku n 33 0 0) 33 11 (n 33 11 - 1))) (k := k) (x := 33) (by decide) (n 33 11 - 1 - k)) 11) ?_
      refine kn_cge X.1 X.2.1 jd_M_letter_137 (tgt := 194) (by decide) (by omega) (fun h137 => ?_) (fun h137 => absurd h137 (by omega))
      have hP : va_P D jCl (jW d a (tkM (ku n 33 0 0) k) g) H := hP
      refine lv_iload_n X.1 X.2.1 jd_M_letter_194 rfl (lv_at hl 6 rfl) ?_
      refine kn_ne0 X.1 X.2.1 jd_M_letter_195 (tgt := 207) (by decide) (by omega) (fun h195 => ?_) (fun h195 => absurd h195 (by omega))
      refine lv_aload_n X.1 X.2.1 jd_M_letter_207 rfl (lv_at hl 4 rfl) ?_
      refine jg_M_123_33 X hP jd_M_letter_208 ?_
      exact hQ _ _ _ _ _ _ _ (⟨rfl, rfl, rfl⟩) hP hS jd_M_letter_211
    | succ r ihr => 
      intro i H locs ls hi hP hS hl
      refine lv_iload X.1 X.2.1 jd_M_letter_131 (lv_at hl 0 rfl) ?_
      refine lv_aload_n X.1 X.2.1 jd_M_letter_133 rfl (lv_at hl 4 rfl) ?_
      refine jg_M_123_33 X hP jd_M_letter_134 ?_
      refine kn_to (y := n 33 11 - 1) (congrFun (shM_o (n := (ku (ku n 33 0 0) 33 11 (n 33 11 - 1))) (k := k) (x := 33) (by decide) i) 11) ?_
      refine kn_cge X.1 X.2.1 jd_M_letter_137 (tgt := 194) (by decide) (by omega) (fun h137 => absurd h137 (by omega)) (fun h137 => ?_)
      refine lv_aload_n X.1 X.2.1 jd_M_letter_140 rfl (lv_at hl 4 rfl) ?_
      refine jg_M_51_33 X hP jd_M_letter_141 ?_
      refine lv_iload X.1 X.2.1 jd_M_letter_144 (lv_at hl 0 rfl) ?_
      refine lv_aload_n X.1 X.2.1 jd_M_letter_146 rfl (lv_at hl 4 rfl) ?_
      refine jg_M_51_33 X hP jd_M_letter_147 ?_
      refine lv_iload X.1 X.2.1 jd_M_letter_150 (lv_at hl 0 rfl) ?_
      refine lv_iconst (v := nI 1) X.1 X.2.1 jd_M_letter_152 (by decide) ?_
      refine kn_iadd X.1 X.2.1 jd_M_letter_153 ?_
      refine j_zald X hP 46 ((k + i) + 1) (by decide) (show ((k + i) + 1) < 17 from by omega) (by decide) jd_M_letter_154 ?_
      refine j_zast X hap hP hS 46 (k + i) ((shM (ku (ku n 33 0 0) 33 11 (n 33 11 - 1)) k i) 46 ((k + i) + 1)) (by decide) (show (k + i) < 17 from by omega) (by decide) (by have := shM_b (n := (ku (ku n 33 0 0) 33 11 (n 33 11 - 1))) (k := k) hb i (k + i + 1); exact this) jd_M_letter_155 (fun H locs hP hS => ?_)
      refine lv_aload_n X.1 X.2.1 jd_M_letter_156 rfl (lv_at hl 4 rfl) ?_
      refine jg_M_54_33 X hP jd_M_letter_157 ?_
      refine lv_iload X.1 X.2.1 jd_M_letter_160 (lv_at hl 0 rfl) ?_
      refine lv_aload_n X.1 X.2.1 jd_M_letter_162 rfl (lv_at hl 4 rfl) ?_
      refine jg_M_54_33 X hP jd_M_letter_163 ?_
      refine lv_iload X.1 X.2.1 jd_M_letter_166 (lv_at hl 0 rfl) ?_
      refine lv_iconst (v := nI 1) X.1 X.2.1 jd_M_letter_168 (by decide) ?_
      refine kn_iadd X.1 X.2.1 jd_M_letter_169 ?_
      refine j_ald X hP 47 ((k + i) + 1) (by decide) (show ((k + i) + 1) < 17 from by omega) (by decide) jd_M_letter_170 ?_
      refine j_ast X hap hP hS 47 (k + i) ((ku (shM (ku (ku n 33 0 0) 33 11 (n 33 11 - 1)) k i) 46 (k + i) ((shM (ku (ku n 33 0 0) 33 11 (n 33 11 - 1)) k i) 46 ((k + i) + 1))) 47 ((k + i) + 1)) (by decide) (show (k + i) < 17 from by omega) (by decide) jd_M_letter_171 (fun H locs hP hS => ?_)
      refine lv_aload_n X.1 X.2.1 jd_M_letter_172 rfl (lv_at hl 4 rfl) ?_
      refine jg_M_57_33 X hP jd_M_letter_173 ?_
      refine lv_iload X.1 X.2.1 jd_M_letter_176 (lv_at hl 0 rfl) ?_
      refine lv_aload_n X.1 X.2.1 jd_M_letter_178 rfl (lv_at hl 4 rfl) ?_
      refine jg_M_57_33 X hP jd_M_letter_179 ?_
      refine lv_iload X.1 X.2.1 jd_M_letter_182 (lv_at hl 0 rfl) ?_
      refine lv_iconst (v := nI 1) X.1 X.2.1 jd_M_letter_184 (by decide) ?_
      refine kn_iadd X.1 X.2.1 jd_M_letter_185 ?_
      refine j_ald X hP 48 ((k + i) + 1) (by decide) (show ((k + i) + 1) < 17 from by omega) (by decide) jd_M_letter_186 ?_
      refine j_ast X hap hP hS 48 (k + i) ((ku (ku (shM (ku (ku n 33 0 0) 33 11 (n 33 11 - 1)) k i) 46 (k + i) ((shM (ku (ku n 33 0 0) 33 11 (n 33 11 - 1)) k i) 46 ((k + i) + 1))) 47 (k + i) ((ku (shM (ku (ku n 33 0 0) 33 11 (n 33 11 - 1)) k i) 46 (k + i) ((shM (ku (ku n 33 0 0) 33 11 (n 33 11 - 1)) k i) 46 ((k + i) + 1))) 47 ((k + i) + 1))) 48 ((k + i) + 1)) (by decide) (show (k + i) < 17 from by omega) (by decide) jd_M_letter_187 (fun H locs hP hS => ?_)
      refine lv_iinc (k := 0) (v := nI ((k + i) + 1)) X.1 X.2.1 jd_M_letter_188 hl rfl (kn_inc _) (by decide) rfl (fun ls hl => ?_)
      have hl : lv_has ls 7 [(6, .int (nI ((k + i) + 1))), (3, .int (nI (n 46 k))), (4, .int (nI (n 47 k))), (5, .int (nI (n 48 k))), (0, .ref (a 33)), (1, .int (nI k)), (2, .int (nI 1))] := hl
      refine lv_goto X.1 X.2.1 jd_M_letter_191 (tgt := 131) (by decide) ?_
      have hl : lv_has ls 7 [(6, .int (nI (k + (i + 1)))), (3, .int (nI (n 46 k))), (4, .int (nI (n 47 k))), (5, .int (nI (n 48 k))), (0, .ref (a 33)), (1, .int (nI k)), (2, .int (nI 1))] := lv_sub hl [0, 1, 2, 3, 4, 5, 6] rfl
      exact ihr (i + 1) H locs ls (by omega) hP hS hl
  have hl : lv_has ls 7 [(6, .int (nI (k + 0))), (3, .int (nI (n 46 k))), (4, .int (nI (n 47 k))), (5, .int (nI (n 48 k))), (0, .ref (a 33)), (1, .int (nI k)), (2, .int (nI 1))] := lv_sub hl [0, 3, 2, 1, 4, 5, 6] rfl
  exact loop131 (n 33 11 - 1 - k) 0 H locs ls (by omega) hP hS hl

set_option maxHeartbeats 4000000 in
theorem c_M_letter_c (l : Launch) (d : Nat → Nat) (D : va_G) (a : Nat → Nat) (n : Nat → Nat → Nat) (g : Nat → Nat) (hap : ∀ i j : Nat, i < 52 → j < 52 → a i = a j → i = j) (hb : ∀ i, n 46 i < 2) (k : Nat) (hc : n 33 11 ≤ 16) (hk : k < n 33 11) (hX : jEff l d D a (tkM (ku n 33 0 0) k) g jy_M_comes jb_M_comes 4 none { frames := 4, cells := 0, slots := 0, locals := 95 } [.ref (a 33), .int (nI (n 46 k)), .int (nI (n 47 k)), .int (nI (n 48 k))] (fun v9 n2 g2 => none = v9 ∧ cmM (tkM (ku n 33 0 0) k) (n 46 k) (n 47 k) (n 48 k) = n2 ∧ g = g2)) : jEff l d D a n g jy_M_letter jb_M_letter 7 (some .int) { frames := 5, cells := 0, slots := 0, locals := 118 } [.ref (a 33), .int (nI k), .int (nI 0)] (fun v9 n2 g2 => some (.int (nI ((cmM (tkM (ku n 33 0 0) k) (n 46 k) (n 47 k) (n 48 k)) 33 11))) = v9 ∧ (cmM (tkM (ku n 33 0 0) k) (n 46 k) (n 47 k) (n 48 k)) = n2 ∧ g = g2) := by
  refine je_I (by decide) (Nat.le_of_ble_eq_true rfl) ?_
  intro p e s m A below meth c ls Q X hP hS hl hQ
  have hl : lv_has ls 7 [(0, .ref (a 33)), (1, .int (nI k)), (2, .int (nI 0))] := hl
  refine lv_aload_n X.1 X.2.1 jd_M_letter_0 rfl (lv_at hl 0 rfl) ?_
  refine lv_iload_n X.1 X.2.1 jd_M_letter_1 rfl (lv_at hl 2 rfl) ?_
  refine lv_iconst (v := nI 0) X.1 X.2.1 jd_M_letter_2 (by decide) ?_
  refine lv_iconst (v := nI 2) X.1 X.2.1 jd_M_letter_3 (by decide) ?_
  refine j_run (j_mkS X (c_M_within l d D a n g 0 0 2 (by omega) (by omega) (by omega)) jU_b (j_pp X hP) jm_714 jm_713 jm_6 jm_712 (show jOk jy_M_within 3 by unfold jOk; decide +kernel) (by decide) ⟨rfl, rfl⟩ hl.1 rfl (Nat.le_of_ble_eq_true rfl) ⟨Nat.zero_le _, Nat.zero_le _⟩ jd_M_letter_4) ?_
  refine W.eq (g2 := F0 m 7 ls [.int (nI (if 0 ≤ 0 ∧ 0 ≤ 2 then 1 else 0)), .ref (a 33)]) rfl ?_
  refine kn_to (y := 1) (if_pos (by omega)) ?_
  refine kn_ne0 X.1 X.2.1 jd_M_letter_7 (tgt := 14) (by decide) (by omega) (fun h7 => ?_) (fun h7 => absurd h7 (by omega))
  refine lv_iload_n X.1 X.2.1 jd_M_letter_14 rfl (lv_at hl 1 rfl) ?_
  refine lv_iconst (v := nI 0) X.1 X.2.1 jd_M_letter_15 (by decide) ?_
  refine lv_aload_n X.1 X.2.1 jd_M_letter_16 rfl (lv_at hl 0 rfl) ?_
  refine jg_M_123_33 X hP jd_M_letter_17 ?_
  refine lv_iconst (v := nI 1) X.1 X.2.1 jd_M_letter_20 (by decide) ?_
  refine lv_isub X.1 X.2.1 jd_M_letter_21 ?_
  refine kn_is (y := (((n 33 11) + 4294967296 - 1) % 4294967296)) (kn_subw (by omega)) ?_
  refine j_run (j_mkS X (c_M_withinD l d D a n g k (n 33 11) (by omega) (by omega)) jU_b (j_pp X hP) jm_714 jm_713 jm_6 jm_712 (show jOk jy_M_within 3 by unfold jOk; decide +kernel) (by decide) ⟨rfl, rfl⟩ hl.1 rfl (Nat.le_of_ble_eq_true rfl) ⟨Nat.zero_le _, Nat.zero_le _⟩ jd_M_letter_22) ?_
  refine W.eq (g2 := F0 m 25 ls [.int (nI (if k < n 33 11 then 1 else 0)), .ref (a 33)]) rfl ?_
  refine kn_to (y := 1) (if_pos (by omega)) ?_
  refine kn_ne0 X.1 X.2.1 jd_M_letter_25 (tgt := 32) (by decide) (by omega) (fun h25 => ?_) (fun h25 => absurd h25 (by omega))
  refine lv_iload_n X.1 X.2.1 jd_M_letter_32 rfl (lv_at hl 2 rfl) ?_
  refine lv_iconst (v := nI 2) X.1 X.2.1 jd_M_letter_33 (by decide) ?_
  refine kn_cne X.1 X.2.1 jd_M_letter_34 (tgt := 50) (by decide) (by omega) (fun h34 => ?_) (fun h34 => absurd h34 (by omega))
  refine lv_iconst (v := nI 0) X.1 X.2.1 jd_M_letter_50 (by decide) ?_
  refine jp_M_66_33 X hap hP hS jd_M_letter_51 (fun H locs hP hS => ?_)
  refine lv_aload_n X.1 X.2.1 jd_M_letter_54 rfl (lv_at hl 0 rfl) ?_
  refine jg_M_66_33 X hP jd_M_letter_55 ?_
  refine kn_to (y := 0) (rfl) ?_
  refine kn_le0 X.1 X.2.1 jd_M_letter_58 (tgt := 63) (by decide) (by omega) (fun h58 => ?_) (fun h58 => absurd h58 (by omega))
  refine lv_iload_n X.1 X.2.1 jd_M_letter_63 rfl (lv_at hl 2 rfl) ?_
  refine lv_iconst (v := nI 2) X.1 X.2.1 jd_M_letter_64 (by decide) ?_
  refine kn_cne X.1 X.2.1 jd_M_letter_65 (tgt := 95) (by decide) (by omega) (fun h65 => ?_) (fun h65 => absurd h65 (by omega))
  refine lv_aload_n X.1 X.2.1 jd_M_letter_95 rfl (lv_at hl 0 rfl) ?_
  refine jg_M_51_33 X hP jd_M_letter_96 ?_
  refine lv_iload_n X.1 X.2.1 jd_M_letter_99 rfl (lv_at hl 1 rfl) ?_
  refine j_zald X hP 46 k (by decide) (show k < 17 from by omega) (by decide) jd_M_letter_100 ?_
  refine kn_to (y := n 46 k) (rfl) ?_
  refine lv_istore_n X.1 X.2.1 jd_M_letter_101 rfl hl (by decide) rfl (fun ls hl => ?_)
  have hl : lv_has ls 7 [(3, .int (nI (n 46 k))), (0, .ref (a 33)), (1, .int (nI k)), (2, .int (nI 0))] := hl
  refine lv_aload_n X.1 X.2.1 jd_M_letter_102 rfl (lv_at hl 1 rfl) ?_
  refine jg_M_54_33 X hP jd_M_letter_103 ?_
  refine lv_iload_n X.1 X.2.1 jd_M_letter_106 rfl (lv_at hl 2 rfl) ?_
  refine j_ald X hP 47 k (by decide) (show k < 17 from by omega) (by decide) jd_M_letter_107 ?_
  refine kn_to (y := n 47 k) (rfl) ?_
  refine lv_istore X.1 X.2.1 jd_M_letter_108 hl (by decide) rfl (fun ls hl => ?_)
  have hl : lv_has ls 7 [(4, .int (nI (n 47 k))), (3, .int (nI (n 46 k))), (0, .ref (a 33)), (1, .int (nI k)), (2, .int (nI 0))] := hl
  refine lv_aload_n X.1 X.2.1 jd_M_letter_110 rfl (lv_at hl 2 rfl) ?_
  refine jg_M_57_33 X hP jd_M_letter_111 ?_
  refine lv_iload_n X.1 X.2.1 jd_M_letter_114 rfl (lv_at hl 3 rfl) ?_
  refine j_ald X hP 48 k (by decide) (show k < 17 from by omega) (by decide) jd_M_letter_115 ?_
  refine kn_to (y := n 48 k) (rfl) ?_
  refine lv_istore X.1 X.2.1 jd_M_letter_116 hl (by decide) rfl (fun ls hl => ?_)
  have hl : lv_has ls 7 [(5, .int (nI (n 48 k))), (4, .int (nI (n 47 k))), (3, .int (nI (n 46 k))), (0, .ref (a 33)), (1, .int (nI k)), (2, .int (nI 0))] := hl
  refine lv_aload_n X.1 X.2.1 jd_M_letter_118 rfl (lv_at hl 3 rfl) ?_
  refine lv_dup X.1 X.2.1 jd_M_letter_119 rfl ?_
  refine jg_M_123_33 X hP jd_M_letter_120 ?_
  refine kn_to (y := n 33 11) (rfl) ?_
  refine lv_iconst (v := nI 1) X.1 X.2.1 jd_M_letter_123 (by decide) ?_
  refine kn_isub X.1 X.2.1 jd_M_letter_124 (by omega) ?_
  refine jp_M_123_33 X hap hP hS jd_M_letter_125 (fun H locs hP hS => ?_)
  refine lv_iload_n X.1 X.2.1 jd_M_letter_128 rfl (lv_at hl 4 rfl) ?_
  refine lv_istore X.1 X.2.1 jd_M_letter_129 hl (by decide) rfl (fun ls hl => ?_)
  have hl : lv_has ls 7 [(6, .int (nI k)), (5, .int (nI (n 48 k))), (4, .int (nI (n 47 k))), (3, .int (nI (n 46 k))), (0, .ref (a 33)), (1, .int (nI k)), (2, .int (nI 0))] := hl
  have loop131 : ∀ (r i : Nat) (H : Heap) (locs : List Loc) (ls : Array Slot), i + r = n 33 11 - 1 - k → va_P D jCl (jW d a (shM (ku (ku n 33 0 0) 33 11 (n 33 11 - 1)) k i) g) H → va_S (jAa a s.heap.size) s.heap H locs → lv_has ls 7 [(6, .int (nI (k + i))), (3, .int (nI (n 46 k))), (4, .int (nI (n 47 k))), (5, .int (nI (n 48 k))), (0, .ref (a 33)), (1, .int (nI k)), (2, .int (nI 0))] → W p l e { frames := 5, cells := 0, slots := 0, locals := 118 } s m A below meth c H locs 0 0 Q (F0 m 131 ls []) := by
    intro r
    induction r with
    | zero => 
      intro i H locs ls hi hP hS hl
      obtain rfl : n 33 11 - 1 - k = i := by omega
      refine lv_iload X.1 X.2.1 jd_M_letter_131 (lv_at hl 0 rfl) ?_
      refine lv_aload_n X.1 X.2.1 jd_M_letter_133 rfl (lv_at hl 4 rfl) ?_
      refine jg_M_123_33 X hP jd_M_letter_134 ?_
      refine kn_to (y := n 33 11 - 1) (congrFun (shM_o (n := (ku (ku n 33 0 0) 33 11 (n 33 11 - 1))) (k := k) (x := 33) (by decide) (n 33 11 - 1 - k)) 11) ?_
      refine kn_cge X.1 X.2.1 jd_M_letter_137 (tgt := 194) (by decide) (by omega) (fun h137 => ?_) (fun h137 => absurd h137 (by omega))
      have hP : va_P D jCl (jW d a (tkM (ku n 33 0 0) k) g) H := hP
      refine lv_iload_n X.1 X.2.1 jd_M_letter_194 rfl (lv_at hl 6 rfl) ?_
      refine kn_ne0 X.1 X.2.1 jd_M_letter_195 (tgt := 207) (by decide) (by omega) (fun h195 => absurd h195 (by omega)) (fun h195 => ?_)
      refine lv_aload_n X.1 X.2.1 jd_M_letter_198 rfl (lv_at hl 4 rfl) ?_
      refine lv_iload_n X.1 X.2.1 jd_M_letter_199 rfl (lv_at hl 1 rfl) ?_
      refine lv_iload X.1 X.2.1 jd_M_letter_200 (lv_at hl 2 rfl) ?_
      refine lv_iload X.1 X.2.1 jd_M_letter_202 (lv_at hl 3 rfl) ?_
      refine j_rune (j_mkV X hP (hX _) jU_bs (j_pe X hP) jm_797 jm_796 js_52 jm_6 jm_794 (by decide) rfl rfl (show jOk jy_M_comes 3 by unfold jOk; decide +kernel) (by decide) ⟨rfl, rfl⟩ hl.1 rfl (Nat.le_of_ble_eq_true rfl) ⟨Nat.zero_le _, Nat.zero_le _⟩ jd_M_letter_204) hS (fun v204 n204 g204 H locs h204 hP hS => ?_)
      obtain ⟨rfl, rfl, rfl⟩ := h204
      refine W.eq (g2 := F0 m 207 ls []) rfl ?_
      refine lv_aload_n X.1 X.2.1 jd_M_letter_207 rfl (lv_at hl 4 rfl) ?_
      refine jg_M_123_33 X hP jd_M_letter_208 ?_
      exact hQ _ _ _ _ _ _ _ (⟨rfl, rfl, rfl⟩) hP hS jd_M_letter_211
    | succ r ihr => 
      intro i H locs ls hi hP hS hl
      refine lv_iload X.1 X.2.1 jd_M_letter_131 (lv_at hl 0 rfl) ?_
      refine lv_aload_n X.1 X.2.1 jd_M_letter_133 rfl (lv_at hl 4 rfl) ?_
      refine jg_M_123_33 X hP jd_M_letter_134 ?_
      refine kn_to (y := n 33 11 - 1) (congrFun (shM_o (n := (ku (ku n 33 0 0) 33 11 (n 33 11 - 1))) (k := k) (x := 33) (by decide) i) 11) ?_
      refine kn_cge X.1 X.2.1 jd_M_letter_137 (tgt := 194) (by decide) (by omega) (fun h137 => absurd h137 (by omega)) (fun h137 => ?_)
      refine lv_aload_n X.1 X.2.1 jd_M_letter_140 rfl (lv_at hl 4 rfl) ?_
      refine jg_M_51_33 X hP jd_M_letter_141 ?_
      refine lv_iload X.1 X.2.1 jd_M_letter_144 (lv_at hl 0 rfl) ?_
      refine lv_aload_n X.1 X.2.1 jd_M_letter_146 rfl (lv_at hl 4 rfl) ?_
      refine jg_M_51_33 X hP jd_M_letter_147 ?_
      refine lv_iload X.1 X.2.1 jd_M_letter_150 (lv_at hl 0 rfl) ?_
      refine lv_iconst (v := nI 1) X.1 X.2.1 jd_M_letter_152 (by decide) ?_
      refine kn_iadd X.1 X.2.1 jd_M_letter_153 ?_
      refine j_zald X hP 46 ((k + i) + 1) (by decide) (show ((k + i) + 1) < 17 from by omega) (by decide) jd_M_letter_154 ?_
      refine j_zast X hap hP hS 46 (k + i) ((shM (ku (ku n 33 0 0) 33 11 (n 33 11 - 1)) k i) 46 ((k + i) + 1)) (by decide) (show (k + i) < 17 from by omega) (by decide) (by have := shM_b (n := (ku (ku n 33 0 0) 33 11 (n 33 11 - 1))) (k := k) hb i (k + i + 1); exact this) jd_M_letter_155 (fun H locs hP hS => ?_)
      refine lv_aload_n X.1 X.2.1 jd_M_letter_156 rfl (lv_at hl 4 rfl) ?_
      refine jg_M_54_33 X hP jd_M_letter_157 ?_
      refine lv_iload X.1 X.2.1 jd_M_letter_160 (lv_at hl 0 rfl) ?_
      refine lv_aload_n X.1 X.2.1 jd_M_letter_162 rfl (lv_at hl 4 rfl) ?_
      refine jg_M_54_33 X hP jd_M_letter_163 ?_
      refine lv_iload X.1 X.2.1 jd_M_letter_166 (lv_at hl 0 rfl) ?_
      refine lv_iconst (v := nI 1) X.1 X.2.1 jd_M_letter_168 (by decide) ?_
      refine kn_iadd X.1 X.2.1 jd_M_letter_169 ?_
      refine j_ald X hP 47 ((k + i) + 1) (by decide) (show ((k + i) + 1) < 17 from by omega) (by decide) jd_M_letter_170 ?_
      refine j_ast X hap hP hS 47 (k + i) ((ku (shM (ku (ku n 33 0 0) 33 11 (n 33 11 - 1)) k i) 46 (k + i) ((shM (ku (ku n 33 0 0) 33 11 (n 33 11 - 1)) k i) 46 ((k + i) + 1))) 47 ((k + i) + 1)) (by decide) (show (k + i) < 17 from by omega) (by decide) jd_M_letter_171 (fun H locs hP hS => ?_)
      refine lv_aload_n X.1 X.2.1 jd_M_letter_172 rfl (lv_at hl 4 rfl) ?_
      refine jg_M_57_33 X hP jd_M_letter_173 ?_
      refine lv_iload X.1 X.2.1 jd_M_letter_176 (lv_at hl 0 rfl) ?_
      refine lv_aload_n X.1 X.2.1 jd_M_letter_178 rfl (lv_at hl 4 rfl) ?_
      refine jg_M_57_33 X hP jd_M_letter_179 ?_
      refine lv_iload X.1 X.2.1 jd_M_letter_182 (lv_at hl 0 rfl) ?_
      refine lv_iconst (v := nI 1) X.1 X.2.1 jd_M_letter_184 (by decide) ?_
      refine kn_iadd X.1 X.2.1 jd_M_letter_185 ?_
      refine j_ald X hP 48 ((k + i) + 1) (by decide) (show ((k + i) + 1) < 17 from by omega) (by decide) jd_M_letter_186 ?_
      refine j_ast X hap hP hS 48 (k + i) ((ku (ku (shM (ku (ku n 33 0 0) 33 11 (n 33 11 - 1)) k i) 46 (k + i) ((shM (ku (ku n 33 0 0) 33 11 (n 33 11 - 1)) k i) 46 ((k + i) + 1))) 47 (k + i) ((ku (shM (ku (ku n 33 0 0) 33 11 (n 33 11 - 1)) k i) 46 (k + i) ((shM (ku (ku n 33 0 0) 33 11 (n 33 11 - 1)) k i) 46 ((k + i) + 1))) 47 ((k + i) + 1))) 48 ((k + i) + 1)) (by decide) (show (k + i) < 17 from by omega) (by decide) jd_M_letter_187 (fun H locs hP hS => ?_)
      refine lv_iinc (k := 0) (v := nI ((k + i) + 1)) X.1 X.2.1 jd_M_letter_188 hl rfl (kn_inc _) (by decide) rfl (fun ls hl => ?_)
      have hl : lv_has ls 7 [(6, .int (nI ((k + i) + 1))), (3, .int (nI (n 46 k))), (4, .int (nI (n 47 k))), (5, .int (nI (n 48 k))), (0, .ref (a 33)), (1, .int (nI k)), (2, .int (nI 0))] := hl
      refine lv_goto X.1 X.2.1 jd_M_letter_191 (tgt := 131) (by decide) ?_
      have hl : lv_has ls 7 [(6, .int (nI (k + (i + 1)))), (3, .int (nI (n 46 k))), (4, .int (nI (n 47 k))), (5, .int (nI (n 48 k))), (0, .ref (a 33)), (1, .int (nI k)), (2, .int (nI 0))] := lv_sub hl [0, 1, 2, 3, 4, 5, 6] rfl
      exact ihr (i + 1) H locs ls (by omega) hP hS hl
  have hl : lv_has ls 7 [(6, .int (nI (k + 0))), (3, .int (nI (n 46 k))), (4, .int (nI (n 47 k))), (5, .int (nI (n 48 k))), (0, .ref (a 33)), (1, .int (nI k)), (2, .int (nI 0))] := lv_sub hl [0, 3, 2, 1, 4, 5, 6] rfl
  exact loop131 (n 33 11 - 1 - k) 0 H locs ls (by omega) hP hS hl
